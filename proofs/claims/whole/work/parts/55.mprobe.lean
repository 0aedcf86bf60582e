/-! ===== the reference's minute: what it does, the bounds ===== -/
theorem mUp_congr {τ τ' : kS} {g : Nat} (hg : ∀ j, τ' g j = τ g j) (h1 : ∀ j, τ' 1 j = τ 1 j) : ∀ n k, mUp τ' g n k = mUp τ g n k := by
  intro n
  induction n with
  | zero => intro k; cases k <;> rfl
  | succ n ih =>
    intro k
    cases k with
    | zero => rfl
    | succ k =>
      show (τ' g k == 1 || mUp τ' g n (τ' 1 k)) = (τ g k == 1 || mUp τ g n (τ 1 k))
      rw [hg, h1, ih]
def mDue (τ : kS) (c r : Nat) : Bool := if 0 < τ 16 (6 * c + r) then τ 17 (6 * c + r) == τ 30 0 else mSch τ c r (τ 30 0)
def mPr3 (τ : kS) (c r its : Nat) : kS :=
  if τ 15 (6 * c + r) = 2 then τ else
  if its < τ 8 c then ku (ku τ 16 (6 * c + r) (its + 1)) 17 (6 * c + r) (τ 30 0 + 1 + (3 * c + 5 * r + 7 * (its + 1)) % 4) else ku τ 15 (6 * c + r) 2
def mPr2 (τ : kS) (c r : Nat) : kS := ku (ku τ 16 (6 * c + r) 0) 4 r (τ 4 r + 1)
def mPrb (τ : kS) (c r : Nat) : kS :=
  if mDue τ c r = false then τ else
  if mFl τ c r = false then ku (mPr2 τ c r) 15 (6 * c + r) 1 else mPr3 (ku (mPr2 τ c r) 5 r (τ 5 r + 1)) c r (τ 16 (6 * c + r))
def mJd (τ : kS) (c : Nat) : Nat := if kcnt (fun r => mTr τ c r) (τ 31 0) < τ 9 c then 0 else if τ 9 c ≤ kcnt (fun r => mTr τ c r && τ 15 (6 * c + r) == 2) (τ 31 0) then 2 else 1
def mRai (τ : kS) (c : Nat) : kS := ku (ku (ku (ku τ 21 (τ 34 0) (8 * τ 30 0 + c)) 22 (τ 34 0) 0) 11 c (τ 34 0 + 1)) 34 0 (τ 34 0 + 1)
def mClo (τ : kS) (c : Nat) : kS := ku (ku τ 22 (τ 11 c - 1) (τ 30 0 + 1)) 11 c 0
def mRs (τ : kS) (c : Nat) : kS := if τ 10 c = 2 ∧ τ 11 c = 0 ∧ mMt τ c (τ 33 0) = false then mRai τ c else if τ 10 c = 1 ∧ τ 11 c ≠ 0 then mClo τ c else τ
def mU1 (τ : kS) (c : Nat) : kS := ku τ 12 c (τ 12 c + if τ 10 c = 1 then 1 else 0)
def mU2 (τ : kS) (c : Nat) : kS := ku τ 13 c (τ 13 c + if 0 < τ 10 c then 1 else 0)
def mC (τ : kS) (c : Nat) : kS := mU2 (mU1 (mRs (ku τ 10 c (mJd τ c)) c) c) c
def mBd (τ : kS) (r : Nat) : Nat := if 1 < kcnt (fun c => τ 15 (6 * c + r) == 2) (τ 32 0) + kcnt (fun c => τ 15 (6 * c + r) == 1) (τ 32 0) ∧ kcnt (fun c => τ 15 (6 * c + r) == 2) (τ 32 0) + kcnt (fun c => τ 15 (6 * c + r) == 1) (τ 32 0) < 2 * kcnt (fun c => τ 15 (6 * c + r) == 2) (τ 32 0) then 1 else 0
def mP1 (k : Nat) (τ : kS) : kS := if k % 6 < τ 31 0 then mPrb τ (k / 6) (k % 6) else τ
def mPa (τ : kS) : kS := kFor mP1 (6 * τ 32 0) (ku τ 30 0 (τ 30 0 + 1))
def mPb (τ : kS) : kS := kFor (fun r ρ => ku ρ 3 r (mBd ρ r)) (τ 31 0) τ
def mPc (τ : kS) : kS := kFor (fun c ρ => mC ρ c) (τ 32 0) τ
def mPass1 (τ : kS) : kS := mPc (mPb (mPa τ))
def mPass : Nat → kS → kS
  | 0, τ => τ
  | n + 1, τ => mPass1 (mPass n τ)
theorem mB_p30 {τ : kS} {j v : Nat} (h : mB τ) (hv : v ≤ 102400) : mB (ku τ 30 0 v) := by
  obtain ⟨h0, h1, h2, h3, h4, h5, h6, h7, h8, h9, h10⟩ := h
  refine ⟨?_, h1, h2, h3, h4, h5, h6, h7, h8, h9, h10⟩
  show ku τ 30 0 v 30 0 ≤ 102400
  rw [ku_s]
  exact hv
theorem mB_p3 {τ : kS} {j v : Nat} (h : mB τ) (hv : v ≤ 1) : mB (ku τ 3 j v) := by
  obtain ⟨h0, h1, h2, h3, h4, h5, h6, h7, h8, h9, h10⟩ := h
  refine ⟨h0, h1, h2, h3, h4, h5, ?_, h7, h8, h9, h10⟩
  exact fun r => ⟨(h6 r).1, by rw [ku_e]; split; exact hv; exact (h6 r).2⟩
theorem mB_p10 {τ : kS} {j v : Nat} (h : mB τ) (hv : v ≤ 2) : mB (ku τ 10 j v) := by
  obtain ⟨h0, h1, h2, h3, h4, h5, h6, h7, h8, h9, h10⟩ := h
  refine ⟨h0, h1, h2, h3, h4, h5, h6, ?_, h8, h9, h10⟩
  exact fun c hc => ⟨(h7 c hc).1, (h7 c hc).2.1, (h7 c hc).2.2.1, (h7 c hc).2.2.2.1, by rw [ku_e]; split; exact hv; exact (h7 c hc).2.2.2.2.1, (h7 c hc).2.2.2.2.2⟩
theorem mB_p11 {τ : kS} {j v : Nat} (h : mB τ) (hv : v ≤ τ 34 0) : mB (ku τ 11 j v) := by
  obtain ⟨h0, h1, h2, h3, h4, h5, h6, h7, h8, h9, h10⟩ := h
  refine ⟨h0, h1, h2, h3, h4, h5, h6, ?_, h8, h9, h10⟩
  exact fun c hc => ⟨(h7 c hc).1, (h7 c hc).2.1, (h7 c hc).2.2.1, (h7 c hc).2.2.2.1, (h7 c hc).2.2.2.2.1, by rw [ku_e]; split; exact hv; exact (h7 c hc).2.2.2.2.2⟩
theorem mB_p15 {τ : kS} {j v : Nat} (h : mB τ) (hv : v ≤ 2) : mB (ku τ 15 j v) := by
  obtain ⟨h0, h1, h2, h3, h4, h5, h6, h7, h8, h9, h10⟩ := h
  refine ⟨h0, h1, h2, h3, h4, h5, h6, h7, ?_, h9, h10⟩
  exact fun q => ⟨(h8 q).1, by rw [ku_e]; split; exact hv; exact (h8 q).2.1, (h8 q).2.2⟩
theorem mB_p16 {τ : kS} {j v : Nat} (h : mB τ) (hv : v ≤ 3) : mB (ku τ 16 j v) := by
  obtain ⟨h0, h1, h2, h3, h4, h5, h6, h7, h8, h9, h10⟩ := h
  refine ⟨h0, h1, h2, h3, h4, h5, h6, h7, ?_, h9, h10⟩
  exact fun q => ⟨(h8 q).1, (h8 q).2.1, by rw [ku_e]; split; exact hv; exact (h8 q).2.2.1, (h8 q).2.2.2⟩
theorem mB_p17 {τ : kS} {j v : Nat} (h : mB τ) (hv : v ≤ 200000) : mB (ku τ 17 j v) := by
  obtain ⟨h0, h1, h2, h3, h4, h5, h6, h7, h8, h9, h10⟩ := h
  refine ⟨h0, h1, h2, h3, h4, h5, h6, h7, ?_, h9, h10⟩
  exact fun q => ⟨(h8 q).1, (h8 q).2.1, (h8 q).2.2.1, by rw [ku_e]; split; exact hv; exact (h8 q).2.2.2⟩
theorem mB_p22 {τ : kS} {j v : Nat} (h : mB τ) (hv : v ≤ 102401) : mB (ku τ 22 j v) := by
  obtain ⟨h0, h1, h2, h3, h4, h5, h6, h7, h8, h9, h10⟩ := h
  refine ⟨h0, h1, h2, h3, h4, h5, h6, h7, h8, h9, ?_⟩
  exact fun q hq => ⟨(h10 q hq).1, by rw [ku_e]; split; exact hv; exact (h10 q hq).2⟩
theorem mB_p4 {τ : kS} {j v : Nat} (h : mB τ) : mB (ku τ 4 j v) := h
theorem mB_p5 {τ : kS} {j v : Nat} (h : mB τ) : mB (ku τ 5 j v) := h
theorem mB_p12 {τ : kS} {j v : Nat} (h : mB τ) : mB (ku τ 12 j v) := h
theorem mB_p13 {τ : kS} {j v : Nat} (h : mB τ) : mB (ku τ 13 j v) := h
theorem mB_p35 {τ : kS} {j v : Nat} (h : mB τ) : mB (ku τ 35 j v) := h
theorem mB_rai {τ : kS} {c : Nat} (h : mB τ) (hc : c < 8) (hn : τ 34 0 < 51000) : mB (mRai τ c) := by
  obtain ⟨h0, h1, h2, h3, h4, h5, h6, h7, h8, h9, h10⟩ := h
  have e34 : mRai τ c 34 0 = τ 34 0 + 1 := by simp [mRai, ku]
  have e11 : ∀ j, mRai τ c 11 j = if j = c then τ 34 0 + 1 else τ 11 j := by intro j; simp [mRai, ku]
  have e21 : ∀ j, mRai τ c 21 j = if j = τ 34 0 then 8 * τ 30 0 + c else τ 21 j := by intro j; simp [mRai, ku]
  have e22 : ∀ j, mRai τ c 22 j = if j = τ 34 0 then 0 else τ 22 j := by intro j; simp [mRai, ku]
  refine ⟨h0, h1, h2, h3, by rw [e34]; omega, h5, h6, fun q hq => ?_, h8, h9, fun j hj => ?_⟩
  · have h9' := h7 q hq
    refine ⟨h9'.1, h9'.2.1, h9'.2.2.1, h9'.2.2.2.1, h9'.2.2.2.2.1, ?_⟩
    have := h9'.2.2.2.2.2
    rw [e11, e34]
    split <;> omega
  · rw [e34] at hj
    rw [e21, e22]
    by_cases hjn : j = τ 34 0
    · rw [if_pos hjn, if_pos hjn]; omega
    · rw [if_neg hjn, if_neg hjn]; exact h10 j (by omega)
theorem mB_prb {τ : kS} {c r : Nat} (h : mB τ) (hc : c < τ 32 0) : mB (mPrb τ c r) := by
  have hm := h.min
  have hp := h.pr (6 * c + r)
  have hk := h.ck c hc
  unfold mPrb mPr3 mPr2
  split
  · exact h
  · split
    · exact mB_p15 (mB_p4 (mB_p16 h (by omega))) (by omega)
    · have h2 : mB (ku (ku (ku τ 16 (6 * c + r) 0) 4 r (τ 4 r + 1)) 5 r (τ 5 r + 1)) := mB_p5 (mB_p4 (mB_p16 h (by omega)))
      split
      · exact h2
      · split
        · rename_i hn1 hn2
          have hn3 : τ 16 (6 * c + r) < τ 8 c := hn2
          exact mB_p17 (mB_p16 h2 (by omega)) (by show τ 30 0 + 1 + _ ≤ 200000; omega)
        · exact mB_p15 h2 (by omega)
theorem mJd_le (τ : kS) (c : Nat) : mJd τ c ≤ 2 := by
  unfold mJd
  split
  · omega
  · split <;> omega
theorem mB_rs {τ : kS} {c : Nat} (h : mB τ) (hc : c < τ 32 0) (hn : mRs τ c 34 0 ≤ 51000) : mB (mRs τ c) := by
  have hm := h.min
  have hC := h.nC
  unfold mRs at hn ⊢
  split
  · rename_i h1
    rw [if_pos h1] at hn
    have e34 : mRai τ c 34 0 = τ 34 0 + 1 := by simp [mRai, ku]
    exact mB_rai h (by omega) (by omega)
  · split
    · exact mB_p11 (mB_p22 h (by omega)) (Nat.zero_le _)
    · exact h
theorem kin_X5_probe_X5 : ∀ w ∈ wsX50, w ∈ wsX5_probe := by decide +kernel
set_option maxHeartbeats 4000000 in
set_option maxRecDepth 100000 in
theorem cm_probe (ε : kEnv) (l : Launch) {A : Nat → Prop} {bd : Nat → Nat} {τ : kS} {H : Heap} {i r : Nat} (hAb : ∀ q, A q → kHi ε q) (hm : kM ε A bd τ H) (hB : mB τ) (hi : i < τ 32 0) (hr0 : r < τ 31 0) : kMv ε l yX5_probe wsX5_probe ({ frames := 2, cells := 0, slots := 0, locals := 60 }) [.ref (bd 0), .int (nI i), .int (nI r)] H A (0) (0) (fun H' => kM ε A bd (mPrb τ i r) H') := by
  refine kof (cc := cX5_probe) (maxL := 5) (ret := none) (by decide) rfl (Nat.le_of_ble_eq_true rfl) ?_
  intro p e s m below meth c ls S hr hlocks hin hH hE hl
  have S : CallFix p m c cX5_probe 5 s _ wsX5_probe RX5 := S
  have hx := S.1
  have hb := S.2.1
  have hown : s.vm.findClass RX5 = some m.cls := S.2.2.2.1
  have hts := S.2.2.2.2
  have hK := hE.1
  have hS : va_S A s.heap H [] := by rw [hH]; exact va_S.rf
  have hl : lv_has ls 5 [(0, .ref (bd 0)), (1, .int (nI i)), (2, .int (nI r))] := hl
  have hnR := hB.nR
  have hnC := hB.nC
  have hnW := hB.nW
  have hnA := hB.nA
  have hmn := hB.min
  have hpr := hB.pr (6 * i + r)
  have hck := hB.ck i hi
  refine lv_bipush (v := 6) hx hb dX5_probe_0 (by decide) ?_
  refine lv_iload_n hx hb dX5_probe_2 rfl (lv_at hl 1 rfl) ?_
  refine lv_imul hx hb dX5_probe_3 ?_
  refine kr_top (y := nI (6 * i)) (nI_mul 6 i) ?_
  refine lv_iload_n hx hb dX5_probe_4 rfl (lv_at hl 2 rfl) ?_
  refine lv_iadd hx hb dX5_probe_5 ?_
  refine kr_top (y := nI (6 * i + r)) (nI_add _ _) ?_
  refine lv_istore_n (lv' := [(3, .int (nI (6 * i + r))), (0, .ref (bd 0)), (1, .int (nI i)), (2, .int (nI r))]) hx hb dX5_probe_6 rfl hl (by decide) rfl (fun ls hl => ?_)
  refine lv_aload_n hx hb dX5_probe_7 rfl (lv_at hl 1 rfl) ?_
  refine kr_get (T := TX5) (N := 28) hx hb hts hown hK (hm.lv 0 (by decide)) rfl kin_X5_probe_X5 18 (by decide) (by decide +kernel) rfl dX5_probe_8 ?_
  refine lv_iload_n hx hb dX5_probe_11 rfl (lv_at hl 0 rfl) ?_
  refine kr_ild hx hb hK (hm.lv 16 (by decide)) (j := 6 * i + r) ((show 6 * i + r < 48 by omega)) (nI_clamp (ks31 ((show 6 * i + r < 48 by omega)))) (nI_pos (ks31 ((show 6 * i + r < 48 by omega)))) (x := nI (τ 16 (6 * i + r))) rfl dX5_probe_12 ?_
  refine lv_istore (lv' := [(4, .int (nI (τ 16 (6 * i + r)))), (3, .int (nI (6 * i + r))), (0, .ref (bd 0)), (1, .int (nI i)), (2, .int (nI r))]) hx hb dX5_probe_13 hl (by decide) rfl (fun ls hl => ?_)
  refine lv_iload hx hb dX5_probe_15 (lv_at hl 0 rfl) ?_
  refine lv_if_le (tgt := 36) hx hb dX5_probe_17 (by decide) (fun hc => ?_) (fun hc => ?_)
  · have h16 : ¬ 0 < τ 16 (6 * i + r) := fun h => nI_nle h (by omega) hc
    refine lv_aload_n hx hb dX5_probe_36 rfl (lv_at hl 2 rfl) ?_
    refine lv_iload_n hx hb dX5_probe_37 rfl (lv_at hl 3 rfl) ?_
    refine lv_iload_n hx hb dX5_probe_38 rfl (lv_at hl 4 rfl) ?_
    refine lv_aload_n hx hb dX5_probe_39 rfl (lv_at hl 2 rfl) ?_
    refine kr_get (T := TX5) (N := 28) hx hb hts hown hK (hm.lv 0 (by decide)) rfl kin_X5_probe_X5 0 (by decide) (by decide +kernel) rfl dX5_probe_40 ?_
    refine kgo_pi (v := bI (mSch τ i r (τ 30 0))) (kc_V (As := [.int (nI i), .int (nI r), .int (nI (τ 30 0))]) (rest := []) S hE hS hAb (cm_isSch ε l hm hB hi hr0 (show τ 30 0 ≤ 200000 by omega)) (cwV 3 hts gX5_probe_X5_isScheduled rfl rfl rfl (by decide +kernel) ⟨Nat.le_of_ble_eq_true rfl, Nat.le_of_ble_eq_true rfl⟩) (hm.lv 0 (by decide)) rfl rfl hl.1 rfl (Nat.le_of_ble_eq_true rfl) dX5_probe_43 ⟨Nat.zero_le _, Nat.zero_le _⟩) hS (fun locs hS => ?_)
    refine lv_if_ne (tgt := 50) hx hb dX5_probe_46 (by decide) (fun hs9 => ?_) (fun hs9 => ?_)
    · have hdue : mDue τ i r = true := by unfold mDue; rw [if_neg h16]; exact bI_ne0.mp hs9
      refine lv_aload_n hx hb dX5_probe_50 rfl (lv_at hl 2 rfl) ?_
      refine kr_get (T := TX5) (N := 28) hx hb hts hown hK (hm.lv 0 (by decide)) rfl kin_X5_probe_X5 18 (by decide) (by decide +kernel) rfl dX5_probe_51 ?_
      refine lv_iload_n hx hb dX5_probe_54 rfl (lv_at hl 1 rfl) ?_
      refine lv_iconst (v := 0) hx hb dX5_probe_55 (by decide) ?_
      refine kr_top (y := nI 0) (rfl) ?_
      refine kr_ist hx hb hK hS (hm.lv 16 (by decide)) (hm.1 16 (by decide)).2 (j := 6 * i + r) (x := nI 0) ((show 6 * i + r < 48 by omega)) (nI_clamp (ks31 ((show 6 * i + r < 48 by omega)))) (nI_pos (ks31 ((show 6 * i + r < 48 by omega)))) dX5_probe_56 (fun H1 locs hU ho hS => ?_)
      have hm := km_p16 (j := 6 * i + r) (v := 0) hm hU ho
      clear hU ho
      refine lv_aload_n hx hb dX5_probe_57 rfl (lv_at hl 2 rfl) ?_
      refine kr_get (T := TX5) (N := 28) hx hb hts hown hK (hm.lv 0 (by decide)) rfl kin_X5_probe_X5 5 (by decide) (by decide +kernel) rfl dX5_probe_58 ?_
      refine lv_iload_n hx hb dX5_probe_61 rfl (lv_at hl 4 rfl) ?_
      refine lv_dup2_11 hx hb dX5_probe_62 rfl rfl ?_
      refine kr_ild hx hb hK (hm.lv 4 (by decide)) (j := r) ((show r < 6 by omega)) (nI_clamp (ks31 ((show r < 6 by omega)))) (nI_pos (ks31 ((show r < 6 by omega)))) (x := nI ((ku τ 16 (6 * i + r) 0) 4 r)) rfl dX5_probe_63 ?_
      refine lv_iconst (v := 1) hx hb dX5_probe_64 (by decide) ?_
      refine lv_iadd hx hb dX5_probe_65 ?_
      refine kr_top (y := nI (τ 4 r + 1)) (nI_1 _) ?_
      refine kr_ist hx hb hK hS (hm.lv 4 (by decide)) (hm.1 4 (by decide)).2 (j := r) (x := nI (τ 4 r + 1)) ((show r < 6 by omega)) (nI_clamp (ks31 ((show r < 6 by omega)))) (nI_pos (ks31 ((show r < 6 by omega)))) dX5_probe_66 (fun H1 locs hU ho hS => ?_)
      have hm := km_p4 (j := r) (v := τ 4 r + 1) hm hU ho
      clear hU ho
      have hm : kM ε A bd (mPr2 τ i r) H1 := hm
      have hB2 : mB (mPr2 τ i r) := mB_p4 (mB_p16 hB (by omega))
      have hfl : mFl (mPr2 τ i r) i r = mFl τ i r := by unfold mFl; rw [mUp_congr (τ := τ) (τ' := mPr2 τ i r) (fun _ => rfl) (fun _ => rfl)]; rfl
      refine lv_aload_n hx hb dX5_probe_67 rfl (lv_at hl 2 rfl) ?_
      refine lv_iload_n hx hb dX5_probe_68 rfl (lv_at hl 3 rfl) ?_
      refine lv_iload_n hx hb dX5_probe_69 rfl (lv_at hl 4 rfl) ?_
      refine kgo_pi (v := bI (mFl (mPr2 τ i r) i r)) (kc_V (As := [.int (nI i), .int (nI r)]) (rest := []) S hE hS hAb (cm_fails ε l hm hB2 (show i < mPr2 τ i r 32 0 from hi) (show r < mPr2 τ i r 31 0 from hr0)) (cwV 2 hts gX5_probe_X5_fails rfl rfl rfl (by decide +kernel) ⟨Nat.le_of_ble_eq_true rfl, Nat.le_of_ble_eq_true rfl⟩) (hm.lv 0 (by decide)) rfl rfl hl.1 rfl (Nat.le_of_ble_eq_true rfl) dX5_probe_70 ⟨Nat.zero_le _, Nat.zero_le _⟩) hS (fun locs hS => ?_)
      refine kr_top (y := bI (mFl τ i r)) (by rw [hfl]) ?_
      refine lv_if_ne (tgt := 84) hx hb dX5_probe_73 (by decide) (fun hg => ?_) (fun hg => ?_)
      · have hf : mFl τ i r = true := bI_ne0.mp hg
        refine lv_aload_n hx hb dX5_probe_84 rfl (lv_at hl 2 rfl) ?_
        refine kr_get (T := TX5) (N := 28) hx hb hts hown hK (hm.lv 0 (by decide)) rfl kin_X5_probe_X5 6 (by decide) (by decide +kernel) rfl dX5_probe_85 ?_
        refine lv_iload_n hx hb dX5_probe_88 rfl (lv_at hl 4 rfl) ?_
        refine lv_dup2_11 hx hb dX5_probe_89 rfl rfl ?_
        refine kr_ild hx hb hK (hm.lv 5 (by decide)) (j := r) ((show r < 6 by omega)) (nI_clamp (ks31 ((show r < 6 by omega)))) (nI_pos (ks31 ((show r < 6 by omega)))) (x := nI ((mPr2 τ i r) 5 r)) rfl dX5_probe_90 ?_
        refine lv_iconst (v := 1) hx hb dX5_probe_91 (by decide) ?_
        refine lv_iadd hx hb dX5_probe_92 ?_
        refine kr_top (y := nI (τ 5 r + 1)) (nI_1 _) ?_
        refine kr_ist hx hb hK hS (hm.lv 5 (by decide)) (hm.1 5 (by decide)).2 (j := r) (x := nI (τ 5 r + 1)) ((show r < 6 by omega)) (nI_clamp (ks31 ((show r < 6 by omega)))) (nI_pos (ks31 ((show r < 6 by omega)))) dX5_probe_93 (fun H1 locs hU ho hS => ?_)
        have hm := km_p5 (j := r) (v := τ 5 r + 1) hm hU ho
        clear hU ho
        have he : mPrb τ i r = mPr3 (ku (mPr2 τ i r) 5 r (τ 5 r + 1)) i r (τ 16 (6 * i + r)) := by unfold mPrb; rw [if_neg (by rw [hdue]; decide), if_neg (by rw [hf]; decide)]
        refine lv_aload_n hx hb dX5_probe_94 rfl (lv_at hl 2 rfl) ?_
        refine kr_get (T := TX5) (N := 28) hx hb hts hown hK (hm.lv 0 (by decide)) rfl kin_X5_probe_X5 17 (by decide) (by decide +kernel) rfl dX5_probe_95 ?_
        refine lv_iload_n hx hb dX5_probe_98 rfl (lv_at hl 1 rfl) ?_
        refine kr_ild hx hb hK (hm.lv 15 (by decide)) (j := 6 * i + r) ((show 6 * i + r < 48 by omega)) (nI_clamp (ks31 ((show 6 * i + r < 48 by omega)))) (nI_pos (ks31 ((show 6 * i + r < 48 by omega)))) (x := nI ((ku (mPr2 τ i r) 5 r (τ 5 r + 1)) 15 (6 * i + r))) rfl dX5_probe_99 ?_
        refine kr_top (y := nI (τ 15 (6 * i + r))) (rfl) ?_
        refine lv_iconst (v := 2) hx hb dX5_probe_100 (by decide) ?_
        refine lv_icmp_ne (tgt := 105) hx hb dX5_probe_101 (by decide) (fun hd => ?_) (fun hd => ?_)
        · have hv2 : ¬ τ 15 (6 * i + r) = 2 := fun h => hd (by rw [h]; rfl)
          refine lv_iload hx hb dX5_probe_105 (lv_at hl 0 rfl) ?_
          refine lv_aload_n hx hb dX5_probe_107 rfl (lv_at hl 2 rfl) ?_
          refine kr_get (T := TX5) (N := 28) hx hb hts hown hK (hm.lv 0 (by decide)) rfl kin_X5_probe_X5 10 (by decide) (by decide +kernel) rfl dX5_probe_108 ?_
          refine lv_iload_n hx hb dX5_probe_111 rfl (lv_at hl 3 rfl) ?_
          refine kr_ild hx hb hK (hm.lv 8 (by decide)) (j := i) ((show i < 8 by omega)) (nI_clamp (ks31 ((show i < 8 by omega)))) (nI_pos (ks31 ((show i < 8 by omega)))) (x := nI ((ku (mPr2 τ i r) 5 r (τ 5 r + 1)) 8 i)) rfl dX5_probe_112 ?_
          refine kr_top (y := nI (τ 8 i)) (rfl) ?_
          refine lv_icmp_ge (tgt := 159) hx hb dX5_probe_113 (by decide) (fun hq9 => ?_) (fun hq9 => ?_)
          · have hge : ¬ τ 16 (6 * i + r) < τ 8 i := fun h => nI_ge h (by omega) hq9
            refine lv_aload_n hx hb dX5_probe_159 rfl (lv_at hl 2 rfl) ?_
            refine kr_get (T := TX5) (N := 28) hx hb hts hown hK (hm.lv 0 (by decide)) rfl kin_X5_probe_X5 17 (by decide) (by decide +kernel) rfl dX5_probe_160 ?_
            refine lv_iload_n hx hb dX5_probe_163 rfl (lv_at hl 1 rfl) ?_
            refine lv_iconst (v := 2) hx hb dX5_probe_164 (by decide) ?_
            refine kr_top (y := nI 2) (rfl) ?_
            refine kr_ist hx hb hK hS (hm.lv 15 (by decide)) (hm.1 15 (by decide)).2 (j := 6 * i + r) (x := nI 2) ((show 6 * i + r < 48 by omega)) (nI_clamp (ks31 ((show 6 * i + r < 48 by omega)))) (nI_pos (ks31 ((show 6 * i + r < 48 by omega)))) dX5_probe_165 (fun H1 locs hU ho hS => ?_)
            have hm := km_p15 (j := 6 * i + r) (v := 2) hm hU ho
            clear hU ho
            have he2 : mPr3 (ku (mPr2 τ i r) 5 r (τ 5 r + 1)) i r (τ 16 (6 * i + r)) = ku (ku (mPr2 τ i r) 5 r (τ 5 r + 1)) 15 (6 * i + r) 2 := by unfold mPr3; rw [if_neg (show ¬ ku (mPr2 τ i r) 5 r (τ 5 r + 1) 15 (6 * i + r) = 2 from hv2), if_neg (show ¬ τ 16 (6 * i + r) < ku (mPr2 τ i r) 5 r (τ 5 r + 1) 8 i from hge)]
            refine kend_v S hr hlocks hS (by rw [he, he2]; exact hm) dX5_probe_166
          · have hlt9 : τ 16 (6 * i + r) < τ 8 i := Nat.lt_of_not_le (fun h => hq9 (nI_le h (by omega)))
            refine lv_aload_n hx hb dX5_probe_116 rfl (lv_at hl 2 rfl) ?_
            refine kr_get (T := TX5) (N := 28) hx hb hts hown hK (hm.lv 0 (by decide)) rfl kin_X5_probe_X5 18 (by decide) (by decide +kernel) rfl dX5_probe_117 ?_
            refine lv_iload_n hx hb dX5_probe_120 rfl (lv_at hl 1 rfl) ?_
            refine lv_iload hx hb dX5_probe_121 (lv_at hl 0 rfl) ?_
            refine lv_iconst (v := 1) hx hb dX5_probe_123 (by decide) ?_
            refine lv_iadd hx hb dX5_probe_124 ?_
            refine kr_top (y := nI (τ 16 (6 * i + r) + 1)) (nI_1 _) ?_
            refine kr_ist hx hb hK hS (hm.lv 16 (by decide)) (hm.1 16 (by decide)).2 (j := 6 * i + r) (x := nI (τ 16 (6 * i + r) + 1)) ((show 6 * i + r < 48 by omega)) (nI_clamp (ks31 ((show 6 * i + r < 48 by omega)))) (nI_pos (ks31 ((show 6 * i + r < 48 by omega)))) dX5_probe_125 (fun H1 locs hU ho hS => ?_)
            have hm := km_p16 (j := 6 * i + r) (v := τ 16 (6 * i + r) + 1) hm hU ho
            clear hU ho
            refine lv_aload_n hx hb dX5_probe_126 rfl (lv_at hl 2 rfl) ?_
            refine kr_get (T := TX5) (N := 28) hx hb hts hown hK (hm.lv 0 (by decide)) rfl kin_X5_probe_X5 19 (by decide) (by decide +kernel) rfl dX5_probe_127 ?_
            refine lv_iload_n hx hb dX5_probe_130 rfl (lv_at hl 1 rfl) ?_
            refine lv_aload_n hx hb dX5_probe_131 rfl (lv_at hl 2 rfl) ?_
            refine kr_get (T := TX5) (N := 28) hx hb hts hown hK (hm.lv 0 (by decide)) rfl kin_X5_probe_X5 0 (by decide) (by decide +kernel) rfl dX5_probe_132 ?_
            refine lv_iconst (v := 1) hx hb dX5_probe_135 (by decide) ?_
            refine lv_iadd hx hb dX5_probe_136 ?_
            refine kr_top (y := nI (τ 30 0 + 1)) (nI_1 _) ?_
            refine lv_iconst (v := 3) hx hb dX5_probe_137 (by decide) ?_
            refine lv_iload_n hx hb dX5_probe_138 rfl (lv_at hl 3 rfl) ?_
            refine lv_imul hx hb dX5_probe_139 ?_
            refine kr_top (y := nI (3 * i)) (nI_mul 3 i) ?_
            refine lv_iconst (v := 5) hx hb dX5_probe_140 (by decide) ?_
            refine lv_iload_n hx hb dX5_probe_141 rfl (lv_at hl 4 rfl) ?_
            refine lv_imul hx hb dX5_probe_142 ?_
            refine kr_top (y := nI (5 * r)) (nI_mul 5 r) ?_
            refine lv_iadd hx hb dX5_probe_143 ?_
            refine kr_top (y := nI (3 * i + 5 * r)) (nI_add _ _) ?_
            refine lv_bipush (v := 7) hx hb dX5_probe_144 (by decide) ?_
            refine lv_iload hx hb dX5_probe_146 (lv_at hl 0 rfl) ?_
            refine lv_iconst (v := 1) hx hb dX5_probe_148 (by decide) ?_
            refine lv_iadd hx hb dX5_probe_149 ?_
            refine kr_top (y := nI (τ 16 (6 * i + r) + 1)) (nI_1 _) ?_
            refine lv_imul hx hb dX5_probe_150 ?_
            refine kr_top (y := nI (7 * (τ 16 (6 * i + r) + 1))) (nI_mul 7 _) ?_
            refine lv_iadd hx hb dX5_probe_151 ?_
            refine kr_top (y := nI (3 * i + 5 * r + 7 * (τ 16 (6 * i + r) + 1))) (nI_add _ _) ?_
            refine lv_iconst (v := 4) hx hb dX5_probe_152 (by decide) ?_
            refine lv_irem hx hb dX5_probe_153 (by decide) ?_
            refine kr_top (y := nI ((3 * i + 5 * r + 7 * (τ 16 (6 * i + r) + 1)) % 4)) (pk_rem (d := 4) (by omega) (by decide) (by decide)) ?_
            refine lv_iadd hx hb dX5_probe_154 ?_
            refine kr_top (y := nI (τ 30 0 + 1 + (3 * i + 5 * r + 7 * (τ 16 (6 * i + r) + 1)) % 4)) (nI_add _ _) ?_
            refine kr_ist hx hb hK hS (hm.lv 17 (by decide)) (hm.1 17 (by decide)).2 (j := 6 * i + r) (x := nI (τ 30 0 + 1 + (3 * i + 5 * r + 7 * (τ 16 (6 * i + r) + 1)) % 4)) ((show 6 * i + r < 48 by omega)) (nI_clamp (ks31 ((show 6 * i + r < 48 by omega)))) (nI_pos (ks31 ((show 6 * i + r < 48 by omega)))) dX5_probe_155 (fun H1 locs hU ho hS => ?_)
            have hm := km_p17 (j := 6 * i + r) (v := τ 30 0 + 1 + (3 * i + 5 * r + 7 * (τ 16 (6 * i + r) + 1)) % 4) hm hU ho
            clear hU ho
            refine lv_goto (tgt := 166) hx hb dX5_probe_156 (by decide) ?_
            have he2 : mPr3 (ku (mPr2 τ i r) 5 r (τ 5 r + 1)) i r (τ 16 (6 * i + r)) = (ku (ku (ku (mPr2 τ i r) 5 r (τ 5 r + 1)) 16 (6 * i + r) (τ 16 (6 * i + r) + 1)) 17 (6 * i + r) (τ 30 0 + 1 + (3 * i + 5 * r + 7 * (τ 16 (6 * i + r) + 1)) % 4)) := by unfold mPr3; rw [if_neg (show ¬ ku (mPr2 τ i r) 5 r (τ 5 r + 1) 15 (6 * i + r) = 2 from hv2), if_pos (show τ 16 (6 * i + r) < ku (mPr2 τ i r) 5 r (τ 5 r + 1) 8 i from hlt9)]; rfl
            refine kend_v S hr hlocks hS (by rw [he, he2]; exact hm) dX5_probe_166
        · have hv2 : τ 15 (6 * i + r) = 2 := (nI_eq (by omega) (by decide)).mp hd
          have he2 : mPr3 (ku (mPr2 τ i r) 5 r (τ 5 r + 1)) i r (τ 16 (6 * i + r)) = ku (mPr2 τ i r) 5 r (τ 5 r + 1) := by unfold mPr3; rw [if_pos (show ku (mPr2 τ i r) 5 r (τ 5 r + 1) 15 (6 * i + r) = 2 from hv2)]
          refine kend_v S hr hlocks hS (by rw [he, he2]; exact hm) dX5_probe_104
      · have hf : mFl τ i r = false := bI_eq0.mp hg
        refine lv_aload_n hx hb dX5_probe_76 rfl (lv_at hl 2 rfl) ?_
        refine kr_get (T := TX5) (N := 28) hx hb hts hown hK (hm.lv 0 (by decide)) rfl kin_X5_probe_X5 17 (by decide) (by decide +kernel) rfl dX5_probe_77 ?_
        refine lv_iload_n hx hb dX5_probe_80 rfl (lv_at hl 1 rfl) ?_
        refine lv_iconst (v := 1) hx hb dX5_probe_81 (by decide) ?_
        refine kr_top (y := nI 1) (rfl) ?_
        refine kr_ist hx hb hK hS (hm.lv 15 (by decide)) (hm.1 15 (by decide)).2 (j := 6 * i + r) (x := nI 1) ((show 6 * i + r < 48 by omega)) (nI_clamp (ks31 ((show 6 * i + r < 48 by omega)))) (nI_pos (ks31 ((show 6 * i + r < 48 by omega)))) dX5_probe_82 (fun H1 locs hU ho hS => ?_)
        have hm := km_p15 (j := 6 * i + r) (v := 1) hm hU ho
        clear hU ho
        have he : mPrb τ i r = (ku (mPr2 τ i r) 15 (6 * i + r) 1) := by unfold mPrb; rw [if_neg (by rw [hdue]; decide), if_pos hf]
        rw [← he] at hm
        refine kend_v S hr hlocks hS hm dX5_probe_83
    · have he : mPrb τ i r = τ := by unfold mPrb; rw [if_pos (by unfold mDue; rw [if_neg h16]; exact bI_eq0.mp hs9)]
      rw [← he] at hm
      refine kend_v S hr hlocks hS hm dX5_probe_49
  · have h16 : 0 < τ 16 (6 * i + r) := Nat.pos_of_ne_zero (fun h => hc (by rw [h]; exact Int32.le_refl _))
    refine lv_aload_n hx hb dX5_probe_20 rfl (lv_at hl 2 rfl) ?_
    refine kr_get (T := TX5) (N := 28) hx hb hts hown hK (hm.lv 0 (by decide)) rfl kin_X5_probe_X5 19 (by decide) (by decide +kernel) rfl dX5_probe_21 ?_
    refine lv_iload_n hx hb dX5_probe_24 rfl (lv_at hl 1 rfl) ?_
    refine kr_ild hx hb hK (hm.lv 17 (by decide)) (j := 6 * i + r) ((show 6 * i + r < 48 by omega)) (nI_clamp (ks31 ((show 6 * i + r < 48 by omega)))) (nI_pos (ks31 ((show 6 * i + r < 48 by omega)))) (x := nI (τ 17 (6 * i + r))) rfl dX5_probe_25 ?_
    refine lv_aload_n hx hb dX5_probe_26 rfl (lv_at hl 2 rfl) ?_
    refine kr_get (T := TX5) (N := 28) hx hb hts hown hK (hm.lv 0 (by decide)) rfl kin_X5_probe_X5 0 (by decide) (by decide +kernel) rfl dX5_probe_27 ?_
    refine lv_icmp_eq (tgt := 50) hx hb dX5_probe_30 (by decide) (fun hs9 => ?_) (fun hs9 => ?_)
    · have hdue : mDue τ i r = true := by unfold mDue; rw [if_pos h16]; simpa using (nI_eq (by omega) (by omega)).mp hs9
      refine lv_aload_n hx hb dX5_probe_50 rfl (lv_at hl 2 rfl) ?_
      refine kr_get (T := TX5) (N := 28) hx hb hts hown hK (hm.lv 0 (by decide)) rfl kin_X5_probe_X5 18 (by decide) (by decide +kernel) rfl dX5_probe_51 ?_
      refine lv_iload_n hx hb dX5_probe_54 rfl (lv_at hl 1 rfl) ?_
      refine lv_iconst (v := 0) hx hb dX5_probe_55 (by decide) ?_
      refine kr_top (y := nI 0) (rfl) ?_
      refine kr_ist hx hb hK hS (hm.lv 16 (by decide)) (hm.1 16 (by decide)).2 (j := 6 * i + r) (x := nI 0) ((show 6 * i + r < 48 by omega)) (nI_clamp (ks31 ((show 6 * i + r < 48 by omega)))) (nI_pos (ks31 ((show 6 * i + r < 48 by omega)))) dX5_probe_56 (fun H1 locs hU ho hS => ?_)
      have hm := km_p16 (j := 6 * i + r) (v := 0) hm hU ho
      clear hU ho
      refine lv_aload_n hx hb dX5_probe_57 rfl (lv_at hl 2 rfl) ?_
      refine kr_get (T := TX5) (N := 28) hx hb hts hown hK (hm.lv 0 (by decide)) rfl kin_X5_probe_X5 5 (by decide) (by decide +kernel) rfl dX5_probe_58 ?_
      refine lv_iload_n hx hb dX5_probe_61 rfl (lv_at hl 4 rfl) ?_
      refine lv_dup2_11 hx hb dX5_probe_62 rfl rfl ?_
      refine kr_ild hx hb hK (hm.lv 4 (by decide)) (j := r) ((show r < 6 by omega)) (nI_clamp (ks31 ((show r < 6 by omega)))) (nI_pos (ks31 ((show r < 6 by omega)))) (x := nI ((ku τ 16 (6 * i + r) 0) 4 r)) rfl dX5_probe_63 ?_
      refine lv_iconst (v := 1) hx hb dX5_probe_64 (by decide) ?_
      refine lv_iadd hx hb dX5_probe_65 ?_
      refine kr_top (y := nI (τ 4 r + 1)) (nI_1 _) ?_
      refine kr_ist hx hb hK hS (hm.lv 4 (by decide)) (hm.1 4 (by decide)).2 (j := r) (x := nI (τ 4 r + 1)) ((show r < 6 by omega)) (nI_clamp (ks31 ((show r < 6 by omega)))) (nI_pos (ks31 ((show r < 6 by omega)))) dX5_probe_66 (fun H1 locs hU ho hS => ?_)
      have hm := km_p4 (j := r) (v := τ 4 r + 1) hm hU ho
      clear hU ho
      have hm : kM ε A bd (mPr2 τ i r) H1 := hm
      have hB2 : mB (mPr2 τ i r) := mB_p4 (mB_p16 hB (by omega))
      have hfl : mFl (mPr2 τ i r) i r = mFl τ i r := by unfold mFl; rw [mUp_congr (τ := τ) (τ' := mPr2 τ i r) (fun _ => rfl) (fun _ => rfl)]; rfl
      refine lv_aload_n hx hb dX5_probe_67 rfl (lv_at hl 2 rfl) ?_
      refine lv_iload_n hx hb dX5_probe_68 rfl (lv_at hl 3 rfl) ?_
      refine lv_iload_n hx hb dX5_probe_69 rfl (lv_at hl 4 rfl) ?_
      refine kgo_pi (v := bI (mFl (mPr2 τ i r) i r)) (kc_V (As := [.int (nI i), .int (nI r)]) (rest := []) S hE hS hAb (cm_fails ε l hm hB2 (show i < mPr2 τ i r 32 0 from hi) (show r < mPr2 τ i r 31 0 from hr0)) (cwV 2 hts gX5_probe_X5_fails rfl rfl rfl (by decide +kernel) ⟨Nat.le_of_ble_eq_true rfl, Nat.le_of_ble_eq_true rfl⟩) (hm.lv 0 (by decide)) rfl rfl hl.1 rfl (Nat.le_of_ble_eq_true rfl) dX5_probe_70 ⟨Nat.zero_le _, Nat.zero_le _⟩) hS (fun locs hS => ?_)
      refine kr_top (y := bI (mFl τ i r)) (by rw [hfl]) ?_
      refine lv_if_ne (tgt := 84) hx hb dX5_probe_73 (by decide) (fun hg => ?_) (fun hg => ?_)
      · have hf : mFl τ i r = true := bI_ne0.mp hg
        refine lv_aload_n hx hb dX5_probe_84 rfl (lv_at hl 2 rfl) ?_
        refine kr_get (T := TX5) (N := 28) hx hb hts hown hK (hm.lv 0 (by decide)) rfl kin_X5_probe_X5 6 (by decide) (by decide +kernel) rfl dX5_probe_85 ?_
        refine lv_iload_n hx hb dX5_probe_88 rfl (lv_at hl 4 rfl) ?_
        refine lv_dup2_11 hx hb dX5_probe_89 rfl rfl ?_
        refine kr_ild hx hb hK (hm.lv 5 (by decide)) (j := r) ((show r < 6 by omega)) (nI_clamp (ks31 ((show r < 6 by omega)))) (nI_pos (ks31 ((show r < 6 by omega)))) (x := nI ((mPr2 τ i r) 5 r)) rfl dX5_probe_90 ?_
        refine lv_iconst (v := 1) hx hb dX5_probe_91 (by decide) ?_
        refine lv_iadd hx hb dX5_probe_92 ?_
        refine kr_top (y := nI (τ 5 r + 1)) (nI_1 _) ?_
        refine kr_ist hx hb hK hS (hm.lv 5 (by decide)) (hm.1 5 (by decide)).2 (j := r) (x := nI (τ 5 r + 1)) ((show r < 6 by omega)) (nI_clamp (ks31 ((show r < 6 by omega)))) (nI_pos (ks31 ((show r < 6 by omega)))) dX5_probe_93 (fun H1 locs hU ho hS => ?_)
        have hm := km_p5 (j := r) (v := τ 5 r + 1) hm hU ho
        clear hU ho
        have he : mPrb τ i r = mPr3 (ku (mPr2 τ i r) 5 r (τ 5 r + 1)) i r (τ 16 (6 * i + r)) := by unfold mPrb; rw [if_neg (by rw [hdue]; decide), if_neg (by rw [hf]; decide)]
        refine lv_aload_n hx hb dX5_probe_94 rfl (lv_at hl 2 rfl) ?_
        refine kr_get (T := TX5) (N := 28) hx hb hts hown hK (hm.lv 0 (by decide)) rfl kin_X5_probe_X5 17 (by decide) (by decide +kernel) rfl dX5_probe_95 ?_
        refine lv_iload_n hx hb dX5_probe_98 rfl (lv_at hl 1 rfl) ?_
        refine kr_ild hx hb hK (hm.lv 15 (by decide)) (j := 6 * i + r) ((show 6 * i + r < 48 by omega)) (nI_clamp (ks31 ((show 6 * i + r < 48 by omega)))) (nI_pos (ks31 ((show 6 * i + r < 48 by omega)))) (x := nI ((ku (mPr2 τ i r) 5 r (τ 5 r + 1)) 15 (6 * i + r))) rfl dX5_probe_99 ?_
        refine kr_top (y := nI (τ 15 (6 * i + r))) (rfl) ?_
        refine lv_iconst (v := 2) hx hb dX5_probe_100 (by decide) ?_
        refine lv_icmp_ne (tgt := 105) hx hb dX5_probe_101 (by decide) (fun hd => ?_) (fun hd => ?_)
        · have hv2 : ¬ τ 15 (6 * i + r) = 2 := fun h => hd (by rw [h]; rfl)
          refine lv_iload hx hb dX5_probe_105 (lv_at hl 0 rfl) ?_
          refine lv_aload_n hx hb dX5_probe_107 rfl (lv_at hl 2 rfl) ?_
          refine kr_get (T := TX5) (N := 28) hx hb hts hown hK (hm.lv 0 (by decide)) rfl kin_X5_probe_X5 10 (by decide) (by decide +kernel) rfl dX5_probe_108 ?_
          refine lv_iload_n hx hb dX5_probe_111 rfl (lv_at hl 3 rfl) ?_
          refine kr_ild hx hb hK (hm.lv 8 (by decide)) (j := i) ((show i < 8 by omega)) (nI_clamp (ks31 ((show i < 8 by omega)))) (nI_pos (ks31 ((show i < 8 by omega)))) (x := nI ((ku (mPr2 τ i r) 5 r (τ 5 r + 1)) 8 i)) rfl dX5_probe_112 ?_
          refine kr_top (y := nI (τ 8 i)) (rfl) ?_
          refine lv_icmp_ge (tgt := 159) hx hb dX5_probe_113 (by decide) (fun hq9 => ?_) (fun hq9 => ?_)
          · have hge : ¬ τ 16 (6 * i + r) < τ 8 i := fun h => nI_ge h (by omega) hq9
            refine lv_aload_n hx hb dX5_probe_159 rfl (lv_at hl 2 rfl) ?_
            refine kr_get (T := TX5) (N := 28) hx hb hts hown hK (hm.lv 0 (by decide)) rfl kin_X5_probe_X5 17 (by decide) (by decide +kernel) rfl dX5_probe_160 ?_
            refine lv_iload_n hx hb dX5_probe_163 rfl (lv_at hl 1 rfl) ?_
            refine lv_iconst (v := 2) hx hb dX5_probe_164 (by decide) ?_
            refine kr_top (y := nI 2) (rfl) ?_
            refine kr_ist hx hb hK hS (hm.lv 15 (by decide)) (hm.1 15 (by decide)).2 (j := 6 * i + r) (x := nI 2) ((show 6 * i + r < 48 by omega)) (nI_clamp (ks31 ((show 6 * i + r < 48 by omega)))) (nI_pos (ks31 ((show 6 * i + r < 48 by omega)))) dX5_probe_165 (fun H1 locs hU ho hS => ?_)
            have hm := km_p15 (j := 6 * i + r) (v := 2) hm hU ho
            clear hU ho
            have he2 : mPr3 (ku (mPr2 τ i r) 5 r (τ 5 r + 1)) i r (τ 16 (6 * i + r)) = ku (ku (mPr2 τ i r) 5 r (τ 5 r + 1)) 15 (6 * i + r) 2 := by unfold mPr3; rw [if_neg (show ¬ ku (mPr2 τ i r) 5 r (τ 5 r + 1) 15 (6 * i + r) = 2 from hv2), if_neg (show ¬ τ 16 (6 * i + r) < ku (mPr2 τ i r) 5 r (τ 5 r + 1) 8 i from hge)]
            refine kend_v S hr hlocks hS (by rw [he, he2]; exact hm) dX5_probe_166
          · have hlt9 : τ 16 (6 * i + r) < τ 8 i := Nat.lt_of_not_le (fun h => hq9 (nI_le h (by omega)))
            refine lv_aload_n hx hb dX5_probe_116 rfl (lv_at hl 2 rfl) ?_
            refine kr_get (T := TX5) (N := 28) hx hb hts hown hK (hm.lv 0 (by decide)) rfl kin_X5_probe_X5 18 (by decide) (by decide +kernel) rfl dX5_probe_117 ?_
            refine lv_iload_n hx hb dX5_probe_120 rfl (lv_at hl 1 rfl) ?_
            refine lv_iload hx hb dX5_probe_121 (lv_at hl 0 rfl) ?_
            refine lv_iconst (v := 1) hx hb dX5_probe_123 (by decide) ?_
            refine lv_iadd hx hb dX5_probe_124 ?_
            refine kr_top (y := nI (τ 16 (6 * i + r) + 1)) (nI_1 _) ?_
            refine kr_ist hx hb hK hS (hm.lv 16 (by decide)) (hm.1 16 (by decide)).2 (j := 6 * i + r) (x := nI (τ 16 (6 * i + r) + 1)) ((show 6 * i + r < 48 by omega)) (nI_clamp (ks31 ((show 6 * i + r < 48 by omega)))) (nI_pos (ks31 ((show 6 * i + r < 48 by omega)))) dX5_probe_125 (fun H1 locs hU ho hS => ?_)
            have hm := km_p16 (j := 6 * i + r) (v := τ 16 (6 * i + r) + 1) hm hU ho
            clear hU ho
            refine lv_aload_n hx hb dX5_probe_126 rfl (lv_at hl 2 rfl) ?_
            refine kr_get (T := TX5) (N := 28) hx hb hts hown hK (hm.lv 0 (by decide)) rfl kin_X5_probe_X5 19 (by decide) (by decide +kernel) rfl dX5_probe_127 ?_
            refine lv_iload_n hx hb dX5_probe_130 rfl (lv_at hl 1 rfl) ?_
            refine lv_aload_n hx hb dX5_probe_131 rfl (lv_at hl 2 rfl) ?_
            refine kr_get (T := TX5) (N := 28) hx hb hts hown hK (hm.lv 0 (by decide)) rfl kin_X5_probe_X5 0 (by decide) (by decide +kernel) rfl dX5_probe_132 ?_
            refine lv_iconst (v := 1) hx hb dX5_probe_135 (by decide) ?_
            refine lv_iadd hx hb dX5_probe_136 ?_
            refine kr_top (y := nI (τ 30 0 + 1)) (nI_1 _) ?_
            refine lv_iconst (v := 3) hx hb dX5_probe_137 (by decide) ?_
            refine lv_iload_n hx hb dX5_probe_138 rfl (lv_at hl 3 rfl) ?_
            refine lv_imul hx hb dX5_probe_139 ?_
            refine kr_top (y := nI (3 * i)) (nI_mul 3 i) ?_
            refine lv_iconst (v := 5) hx hb dX5_probe_140 (by decide) ?_
            refine lv_iload_n hx hb dX5_probe_141 rfl (lv_at hl 4 rfl) ?_
            refine lv_imul hx hb dX5_probe_142 ?_
            refine kr_top (y := nI (5 * r)) (nI_mul 5 r) ?_
            refine lv_iadd hx hb dX5_probe_143 ?_
            refine kr_top (y := nI (3 * i + 5 * r)) (nI_add _ _) ?_
            refine lv_bipush (v := 7) hx hb dX5_probe_144 (by decide) ?_
            refine lv_iload hx hb dX5_probe_146 (lv_at hl 0 rfl) ?_
            refine lv_iconst (v := 1) hx hb dX5_probe_148 (by decide) ?_
            refine lv_iadd hx hb dX5_probe_149 ?_
            refine kr_top (y := nI (τ 16 (6 * i + r) + 1)) (nI_1 _) ?_
            refine lv_imul hx hb dX5_probe_150 ?_
            refine kr_top (y := nI (7 * (τ 16 (6 * i + r) + 1))) (nI_mul 7 _) ?_
            refine lv_iadd hx hb dX5_probe_151 ?_
            refine kr_top (y := nI (3 * i + 5 * r + 7 * (τ 16 (6 * i + r) + 1))) (nI_add _ _) ?_
            refine lv_iconst (v := 4) hx hb dX5_probe_152 (by decide) ?_
            refine lv_irem hx hb dX5_probe_153 (by decide) ?_
            refine kr_top (y := nI ((3 * i + 5 * r + 7 * (τ 16 (6 * i + r) + 1)) % 4)) (pk_rem (d := 4) (by omega) (by decide) (by decide)) ?_
            refine lv_iadd hx hb dX5_probe_154 ?_
            refine kr_top (y := nI (τ 30 0 + 1 + (3 * i + 5 * r + 7 * (τ 16 (6 * i + r) + 1)) % 4)) (nI_add _ _) ?_
            refine kr_ist hx hb hK hS (hm.lv 17 (by decide)) (hm.1 17 (by decide)).2 (j := 6 * i + r) (x := nI (τ 30 0 + 1 + (3 * i + 5 * r + 7 * (τ 16 (6 * i + r) + 1)) % 4)) ((show 6 * i + r < 48 by omega)) (nI_clamp (ks31 ((show 6 * i + r < 48 by omega)))) (nI_pos (ks31 ((show 6 * i + r < 48 by omega)))) dX5_probe_155 (fun H1 locs hU ho hS => ?_)
            have hm := km_p17 (j := 6 * i + r) (v := τ 30 0 + 1 + (3 * i + 5 * r + 7 * (τ 16 (6 * i + r) + 1)) % 4) hm hU ho
            clear hU ho
            refine lv_goto (tgt := 166) hx hb dX5_probe_156 (by decide) ?_
            have he2 : mPr3 (ku (mPr2 τ i r) 5 r (τ 5 r + 1)) i r (τ 16 (6 * i + r)) = (ku (ku (ku (mPr2 τ i r) 5 r (τ 5 r + 1)) 16 (6 * i + r) (τ 16 (6 * i + r) + 1)) 17 (6 * i + r) (τ 30 0 + 1 + (3 * i + 5 * r + 7 * (τ 16 (6 * i + r) + 1)) % 4)) := by unfold mPr3; rw [if_neg (show ¬ ku (mPr2 τ i r) 5 r (τ 5 r + 1) 15 (6 * i + r) = 2 from hv2), if_pos (show τ 16 (6 * i + r) < ku (mPr2 τ i r) 5 r (τ 5 r + 1) 8 i from hlt9)]; rfl
            refine kend_v S hr hlocks hS (by rw [he, he2]; exact hm) dX5_probe_166
        · have hv2 : τ 15 (6 * i + r) = 2 := (nI_eq (by omega) (by decide)).mp hd
          have he2 : mPr3 (ku (mPr2 τ i r) 5 r (τ 5 r + 1)) i r (τ 16 (6 * i + r)) = ku (mPr2 τ i r) 5 r (τ 5 r + 1) := by unfold mPr3; rw [if_pos (show ku (mPr2 τ i r) 5 r (τ 5 r + 1) 15 (6 * i + r) = 2 from hv2)]
          refine kend_v S hr hlocks hS (by rw [he, he2]; exact hm) dX5_probe_104
      · have hf : mFl τ i r = false := bI_eq0.mp hg
        refine lv_aload_n hx hb dX5_probe_76 rfl (lv_at hl 2 rfl) ?_
        refine kr_get (T := TX5) (N := 28) hx hb hts hown hK (hm.lv 0 (by decide)) rfl kin_X5_probe_X5 17 (by decide) (by decide +kernel) rfl dX5_probe_77 ?_
        refine lv_iload_n hx hb dX5_probe_80 rfl (lv_at hl 1 rfl) ?_
        refine lv_iconst (v := 1) hx hb dX5_probe_81 (by decide) ?_
        refine kr_top (y := nI 1) (rfl) ?_
        refine kr_ist hx hb hK hS (hm.lv 15 (by decide)) (hm.1 15 (by decide)).2 (j := 6 * i + r) (x := nI 1) ((show 6 * i + r < 48 by omega)) (nI_clamp (ks31 ((show 6 * i + r < 48 by omega)))) (nI_pos (ks31 ((show 6 * i + r < 48 by omega)))) dX5_probe_82 (fun H1 locs hU ho hS => ?_)
        have hm := km_p15 (j := 6 * i + r) (v := 1) hm hU ho
        clear hU ho
        have he : mPrb τ i r = (ku (mPr2 τ i r) 15 (6 * i + r) 1) := by unfold mPrb; rw [if_neg (by rw [hdue]; decide), if_pos hf]
        rw [← he] at hm
        refine kend_v S hr hlocks hS hm dX5_probe_83
    · refine lv_goto (tgt := 49) hx hb dX5_probe_33 (by decide) ?_
      have he : mPrb τ i r = τ := by unfold mPrb; rw [if_pos (by unfold mDue; rw [if_pos h16]; simpa using fun h : τ 17 (6 * i + r) = τ 30 0 => hs9 (by rw [h]))]
      rw [← he] at hm
      refine kend_v S hr hlocks hS hm dX5_probe_49
