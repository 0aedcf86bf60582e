/-! ===== the reference's minute ===== -/
def mPin (L : List Nat) (σ τ : kS) : Prop := mB τ ∧ kFr L σ τ
abbrev mLp : List Nat := [4, 5, 15, 16, 17]
abbrev mLc : List Nat := [10, 11, 12, 13, 21, 22, 34]
theorem mPrb_fr (τ : kS) (c r : Nat) : kFr mLp τ (mPrb τ c r) := by
  intro g j hg
  simp only [List.mem_cons, List.not_mem_nil, or_false, not_or] at hg
  obtain ⟨h1, h2, h3, h4, h5⟩ := hg
  unfold mPrb mPr3 mPr2
  split
  · rfl
  · split
    · rw [ku_f _ _ _ _ h3, ku_f _ _ _ _ h1, ku_f _ _ _ _ h4]
    · split
      · rw [ku_f _ _ _ _ h2, ku_f _ _ _ _ h1, ku_f _ _ _ _ h4]
      · split
        · rw [ku_f _ _ _ _ h5, ku_f _ _ _ _ h4, ku_f _ _ _ _ h2, ku_f _ _ _ _ h1, ku_f _ _ _ _ h4]
        · rw [ku_f _ _ _ _ h3, ku_f _ _ _ _ h2, ku_f _ _ _ _ h1, ku_f _ _ _ _ h4]
theorem mP1_in {σ τ : kS} (h : mPin mLp σ τ) {k : Nat} (hk : k < 6 * σ 32 0) : mPin mLp σ (mP1 k τ) := by
  unfold mP1
  split
  · exact ⟨mB_prb h.1 (by rw [h.2 32 0 (by decide)]; omega), fun g j hg => (mPrb_fr τ _ _ g j hg).trans (h.2 g j hg)⟩
  · exact h
theorem mBd_le (τ : kS) (r : Nat) : mBd τ r ≤ 1 := by
  unfold mBd
  split <;> omega
theorem mPb_in {σ τ : kS} (h : mPin [3] σ τ) (r : Nat) : mPin [3] σ (ku τ 3 r (mBd τ r)) :=
  ⟨mB_p3 h.1 (mBd_le τ r), fun g j hg => (ku_f _ _ _ _ (by simpa using hg)).trans (h.2 g j hg)⟩
theorem mRs_up (τ : kS) (c : Nat) : τ 34 0 ≤ mRs τ c 34 0 := by
  unfold mRs
  split
  · have e34 : mRai τ c 34 0 = τ 34 0 + 1 := by simp [mRai, ku]
    omega
  · split
    · exact Nat.le_refl _
    · exact Nat.le_refl _
theorem mRs_fr (τ : kS) (c : Nat) : kFr mLc τ (mRs τ c) := by
  intro g j hg
  simp only [List.mem_cons, List.not_mem_nil, or_false, not_or] at hg
  obtain ⟨h1, h2, h3, h4, h5, h6, h7⟩ := hg
  unfold mRs mRai mClo
  split
  · rw [ku_f _ _ _ _ h7, ku_f _ _ _ _ h2, ku_f _ _ _ _ h6, ku_f _ _ _ _ h5]
  · split
    · rw [ku_f _ _ _ _ h2, ku_f _ _ _ _ h6]
    · rfl
theorem mC_34 (τ : kS) (c : Nat) : mC τ c 34 0 = mRs (ku τ 10 c (mJd τ c)) c 34 0 := rfl
theorem mC_up (τ : kS) (c : Nat) : τ 34 0 ≤ mC τ c 34 0 := by
  rw [mC_34]
  exact mRs_up (ku τ 10 c (mJd τ c)) c
theorem mC_fr (τ : kS) (c : Nat) : kFr mLc τ (mC τ c) := by
  intro g j hg
  have h9 := mRs_fr (ku τ 10 c (mJd τ c)) c g j hg
  simp only [List.mem_cons, List.not_mem_nil, or_false, not_or] at hg
  obtain ⟨h1, h2, h3, h4, h5, h6, h7⟩ := hg
  unfold mC mU2 mU1
  rw [ku_f _ _ _ _ h4, ku_f _ _ _ _ h3, h9, ku_f _ _ _ _ h1]
theorem mC_in {σ τ : kS} (h : mPin mLc σ τ) {c : Nat} (hc : c < σ 32 0) (hn : mC τ c 34 0 ≤ 51000) : mPin mLc σ (mC τ c) := by
  refine ⟨?_, fun g j hg => (mC_fr τ c g j hg).trans (h.2 g j hg)⟩
  rw [mC_34] at hn
  have h1 : mB (ku τ 10 c (mJd τ c)) := mB_p10 h.1 (mJd_le τ c)
  exact mB_p13 (mB_p12 (mB_rs h1 (by show c < τ 32 0; rw [h.2 32 0 (by decide)]; exact hc) hn))
theorem mPc_mono {τ : kS} {k n : Nat} (h : k ≤ n) : kFor (fun c ρ => mC ρ c) k τ 34 0 ≤ kFor (fun c ρ => mC ρ c) n τ 34 0 := by
  induction n with
  | zero => rw [Nat.le_zero.mp h]; exact Nat.le_refl _
  | succ n ih =>
    rcases Nat.lt_or_ge k (n + 1) with h1 | h1
    · exact Nat.le_trans (ih (by omega)) (mC_up _ _)
    · rw [show k = n + 1 by omega]; exact Nat.le_refl _
theorem mPass1_in {τ : kS} (h : mB τ) (hm : τ 30 0 < 102400) (hn : mPass1 τ 34 0 ≤ 51000) : mB (mPass1 τ) ∧ mPass1 τ 30 0 = τ 30 0 + 1 ∧ mPass1 τ 31 0 = τ 31 0 ∧ mPass1 τ 32 0 = τ 32 0 ∧ mPass1 τ 33 0 = τ 33 0 ∧ mPass1 τ 35 0 = τ 35 0 ∧ τ 34 0 ≤ mPass1 τ 34 0 ∧ mPin mLp (ku τ 30 0 (τ 30 0 + 1)) (mPa τ) ∧ mPin [3] (mPa τ) (mPb (mPa τ)) := by
  have h0 : mB (ku τ 30 0 (τ 30 0 + 1)) := mB_p30 (j := 0) h (by omega)
  have h1 : mPin mLp (ku τ 30 0 (τ 30 0 + 1)) (mPa τ) := kFor_inv (P := mPin mLp (ku τ 30 0 (τ 30 0 + 1))) ⟨h0, fun _ _ _ => rfl⟩ (fun k ρ hk hρ => mP1_in hρ hk) _ (Nat.le_refl _)
  have h2 : mPin [3] (mPa τ) (mPb (mPa τ)) := kFor_inv (P := mPin [3] (mPa τ)) ⟨h1.1, fun _ _ _ => rfl⟩ (fun r ρ _ hρ => mPb_in hρ r) _ (Nat.le_refl _)
  have h3 : mPin mLc (mPb (mPa τ)) (mPass1 τ) := by
    suffices K : ∀ k, k ≤ mPb (mPa τ) 32 0 → mPin mLc (mPb (mPa τ)) (kFor (fun c ρ => mC ρ c) k (mPb (mPa τ))) from K _ (Nat.le_refl _)
    intro k
    induction k with
    | zero => exact fun _ => ⟨h2.1, fun _ _ _ => rfl⟩
    | succ k ih => exact fun hk => mC_in (ih (by omega)) hk (Nat.le_trans (mPc_mono (k := k + 1) hk) hn)
  have chain : ∀ g, g ∉ mLp → g ≠ 3 → g ∉ mLc → ∀ j, mPass1 τ g j = ku τ 30 0 (τ 30 0 + 1) g j := fun g a b c j => by
    rw [h3.2 g j c, h2.2 g j (by simpa using b), h1.2 g j a]
  refine ⟨h3.1, (chain 30 (by decide) (by decide) (by decide) 0).trans (ku_s _ _ _ _), chain 31 (by decide) (by decide) (by decide) 0, chain 32 (by decide) (by decide) (by decide) 0, chain 33 (by decide) (by decide) (by decide) 0, chain 35 (by decide) (by decide) (by decide) 0, ?_, h1, h2⟩
  have e1 : mPb (mPa τ) 34 0 = τ 34 0 := by rw [h2.2 34 0 (by decide), h1.2 34 0 (by decide)]; rfl
  rw [← e1]
  exact mPc_mono (k := 0) (Nat.zero_le _)
theorem kin_X5_passes_X5 : ∀ w ∈ wsX50, w ∈ wsX5_passes := by decide +kernel
set_option maxHeartbeats 4000000 in
set_option maxRecDepth 100000 in
theorem cm_passes (ε : kEnv) (l : Launch) {A : Nat → Prop} {bd : Nat → Nat} {τ : kS} {H : Heap} (hAb : ∀ q, A q → kHi ε q) (hm : kM ε A bd τ H) (hB : mB τ) (hmm : τ 30 0 < 102400) (hfin : mPass1 τ 34 0 ≤ 51000) : kMv ε l yX5_passes wsX5_passes ({ frames := 3, cells := 0, slots := 0, locals := 110 }) [.ref (bd 0)] H A (0) (0) (fun H' => kM ε A bd (mPass1 τ) H') := by
  refine kof (cc := cX5_passes) (maxL := 4) (ret := none) (by decide) rfl (Nat.le_of_ble_eq_true rfl) ?_
  intro p e s m below meth c ls S hr hlocks hin hH hE hl
  have S : CallFix p m c cX5_passes 4 s _ wsX5_passes RX5 := S
  have hx := S.1
  have hb := S.2.1
  have hown : s.vm.findClass RX5 = some m.cls := S.2.2.2.1
  have hts := S.2.2.2.2
  have hK := hE.1
  have hS : va_S A s.heap H [] := by rw [hH]; exact va_S.rf
  have hl : lv_has ls 4 [(0, .ref (bd 0))] := hl
  have hnR := hB.nR
  have hnC := hB.nC
  have hnW := hB.nW
  have hnA := hB.nA
  have hmn := hB.min
  obtain ⟨-, -, -, -, -, -, f6, f7, f8⟩ := mPass1_in hB hmm hfin
  refine lv_aload_n hx hb dX5_passes_0 rfl (lv_at hl 0 rfl) ?_
  refine lv_dup hx hb dX5_passes_1 rfl ?_
  refine kr_get (T := TX5) (N := 28) hx hb hts hown hK (hm.lv 0 (by decide)) rfl kin_X5_passes_X5 0 (by decide) (by decide +kernel) rfl dX5_passes_2 ?_
  refine lv_iconst (v := 1) hx hb dX5_passes_5 (by decide) ?_
  refine lv_iadd hx hb dX5_passes_6 ?_
  refine kr_top (y := nI (τ 30 0 + 1)) (nI_1 _) ?_
  refine kr_put (T := TX5) (N := 28) (v := .int (nI (τ 30 0 + 1))) (ty := .int) hx hb hts hown hK hS (hm.lv 0 (by decide)) (hm.1 0 (by decide)).2 rfl kin_X5_passes_X5 tyX5 tyX5_ok nmX5 0 (by decide) "ProbewebModel" (hts (.fieldLink RX5 103 "ProbewebModel" "minute" "I") (by decide +kernel)) (fun _ h => h) rfl (by decide +kernel) rfl rfl (Nat.le_of_ble_eq_true rfl) dX5_passes_7 (fun H1 locs hU ho hS => ?_)
  have hm := km_p30 (v := τ 30 0 + 1) hm hU ho
  clear hU ho
  have hB0 : mB (ku τ 30 0 (τ 30 0 + 1)) := mB_p30 (j := 0) hB (by omega)
  refine lv_iconst (v := 0) hx hb dX5_passes_10 (by decide) ?_
  refine lv_istore_n (lv' := [(1, .int 0), (0, .ref (bd 0))]) hx hb dX5_passes_11 rfl hl (by decide) rfl (fun ls hl => ?_)
  suffices K : ∀ (n k : Nat) (H2 : Heap) (locs : List Loc) (ls : Array Slot), k + n = 6 * τ 32 0 → kM ε A bd ((kFor mP1 k (ku τ 30 0 (τ 30 0 + 1)))) H2 → mPin mLp (ku τ 30 0 (τ 30 0 + 1)) (kFor mP1 k (ku τ 30 0 (τ 30 0 + 1))) → va_S A s.heap H2 locs → lv_has ls 4 [(1, .int (nI k)), (0, .ref (bd 0))] → W p l e ({ frames := 3, cells := 0, slots := 0, locals := 110 }) s m [.ref (bd 0)].toArray below meth c H2 locs 0 0 (MQ below (kQv (fun H' => kM ε A bd (mPass1 τ) H') A) [.ref (bd 0)].toArray s (0) (0) A) (F0 m 12 ls []) from K (6 * τ 32 0) 0 _ _ _ (Nat.zero_add _) hm (⟨hB0, fun _ _ _ => rfl⟩) hS (lv_sub hl [0, 1] rfl)
  clear hl hS hm
  intro n
  induction n with
  | zero =>
    intro k H2 locs ls hkn hm hin hS hl
    have hkN : k = 6 * τ 32 0 := hkn
    clear hkn
    obtain ⟨ρ, ρe⟩ : ∃ z : kS, z = ((kFor mP1 k (ku τ 30 0 (τ 30 0 + 1)))) := ⟨_, rfl⟩
    rw [← ρe] at hm hin
    have hBr := hin.1
    have hr1 := hBr.nR
    have hr2 := hBr.nC
    have hr4 := hBr.nA
    have hr0 := hBr.min
    have e2 : ρ 32 0 = τ 32 0 := hin.2 32 0 (by decide)
    refine lv_iload_n hx hb dX5_passes_12 rfl (lv_at hl 0 rfl) ?_
    refine lv_bipush (v := 6) hx hb dX5_passes_13 (by decide) ?_
    refine lv_aload_n hx hb dX5_passes_15 rfl (lv_at hl 1 rfl) ?_
    refine kr_get (T := TX5) (N := 28) hx hb hts hown hK (hm.lv 0 (by decide)) rfl kin_X5_passes_X5 7 (by decide) (by decide +kernel) rfl dX5_passes_16 ?_
    refine lv_imul hx hb dX5_passes_19 ?_
    refine kr_top (y := nI (6 * τ 32 0)) (by rw [e2]; exact nI_mul 6 _) ?_
    refine lv_icmp_ge (tgt := 52) hx hb dX5_passes_20 (by decide) (fun _ => ?_) (fun hc => absurd (by rw [hkN]; exact Int32.le_refl _) hc)
    refine lv_iconst (v := 0) hx hb dX5_passes_52 (by decide) ?_
    refine lv_istore_n (lv' := [(1, .int 0), (0, .ref (bd 0))]) hx hb dX5_passes_53 rfl hl (by decide) rfl (fun ls hl => ?_)
    have hpa : ρ = mPa τ := by rw [ρe, hkN]; rfl
    subst hpa
    clear hin
    have q1 : mPa τ 31 0 = τ 31 0 := f7.2 31 0 (by decide)
    suffices K2 : ∀ (n k : Nat) (H3 : Heap) (locs : List Loc) (ls : Array Slot), k + n = τ 31 0 → kM ε A bd ((kFor (fun r ρ => ku ρ 3 r (mBd ρ r)) k (mPa τ))) H3 → mPin [3] (mPa τ) (kFor (fun r ρ => ku ρ 3 r (mBd ρ r)) k (mPa τ)) → va_S A s.heap H3 locs → lv_has ls 4 [(1, .int (nI k)), (0, .ref (bd 0))] → W p l e ({ frames := 3, cells := 0, slots := 0, locals := 110 }) s m [.ref (bd 0)].toArray below meth c H3 locs 0 0 (MQ below (kQv (fun H' => kM ε A bd (mPass1 τ) H') A) [.ref (bd 0)].toArray s (0) (0) A) (F0 m 54 ls []) from K2 (τ 31 0) 0 _ _ _ (Nat.zero_add _) hm (⟨f7.1, fun _ _ _ => rfl⟩) hS (lv_sub hl [0, 1] rfl)
    clear hl hS hm
    intro n
    induction n with
    | zero =>
      intro k H3 locs ls hkn hm hin hS hl
      have hkN : k = τ 31 0 := hkn
      clear hkn
      obtain ⟨ρ, ρe⟩ : ∃ z : kS, z = ((kFor (fun r ρ => ku ρ 3 r (mBd ρ r)) k (mPa τ))) := ⟨_, rfl⟩
      rw [← ρe] at hm hin
      have hBr := hin.1
      have hr1 := hBr.nR
      have hr2 := hBr.nC
      have hr4 := hBr.nA
      have hr0 := hBr.min
      have e1 : ρ 31 0 = τ 31 0 := (hin.2 31 0 (by decide)).trans q1
      refine lv_iload_n hx hb dX5_passes_54 rfl (lv_at hl 0 rfl) ?_
      refine lv_aload_n hx hb dX5_passes_55 rfl (lv_at hl 1 rfl) ?_
      refine kr_get (T := TX5) (N := 28) hx hb hts hown hK (hm.lv 0 (by decide)) rfl kin_X5_passes_X5 1 (by decide) (by decide +kernel) rfl dX5_passes_56 ?_
      refine kr_top (y := nI (τ 31 0)) (by rw [e1]) ?_
      refine lv_icmp_ge (tgt := 107) hx hb dX5_passes_59 (by decide) (fun _ => ?_) (fun hc => absurd (by rw [hkN]; exact Int32.le_refl _) hc)
      refine lv_iconst (v := 0) hx hb dX5_passes_107 (by decide) ?_
      refine lv_istore_n (lv' := [(1, .int 0), (0, .ref (bd 0))]) hx hb dX5_passes_108 rfl hl (by decide) rfl (fun ls hl => ?_)
      have hpb : ρ = mPb (mPa τ) := by rw [ρe, hkN]; unfold mPb; rw [q1]
      subst hpb
      clear hin
      have q2 : mPb (mPa τ) 32 0 = τ 32 0 := (f8.2 32 0 (by decide)).trans (f7.2 32 0 (by decide))
      suffices K3 : ∀ (n k : Nat) (H4 : Heap) (locs : List Loc) (ls : Array Slot), k + n = τ 32 0 → kM ε A bd ((kFor (fun c ρ => mC ρ c) k (mPb (mPa τ)))) H4 → mPin mLc (mPb (mPa τ)) (kFor (fun c ρ => mC ρ c) k (mPb (mPa τ))) → va_S A s.heap H4 locs → lv_has ls 4 [(1, .int (nI k)), (0, .ref (bd 0))] → W p l e ({ frames := 3, cells := 0, slots := 0, locals := 110 }) s m [.ref (bd 0)].toArray below meth c H4 locs 0 0 (MQ below (kQv (fun H' => kM ε A bd (mPass1 τ) H') A) [.ref (bd 0)].toArray s (0) (0) A) (F0 m 109 ls []) from K3 (τ 32 0) 0 _ _ _ (Nat.zero_add _) hm (⟨f8.1, fun _ _ _ => rfl⟩) hS (lv_sub hl [0, 1] rfl)
      clear hl hS hm
      intro n
      induction n with
      | zero =>
        intro k H4 locs ls hkn hm hin hS hl
        have hkN : k = τ 32 0 := hkn
        clear hkn
        obtain ⟨ρ, ρe⟩ : ∃ z : kS, z = ((kFor (fun c ρ => mC ρ c) k (mPb (mPa τ)))) := ⟨_, rfl⟩
        rw [← ρe] at hm hin
        have hBr := hin.1
        have hr1 := hBr.nR
        have hr2 := hBr.nC
        have hr4 := hBr.nA
        have hr0 := hBr.min
        have e2 : ρ 32 0 = τ 32 0 := (hin.2 32 0 (by decide)).trans q2
        refine lv_iload_n hx hb dX5_passes_109 rfl (lv_at hl 0 rfl) ?_
        refine lv_aload_n hx hb dX5_passes_110 rfl (lv_at hl 1 rfl) ?_
        refine kr_get (T := TX5) (N := 28) hx hb hts hown hK (hm.lv 0 (by decide)) rfl kin_X5_passes_X5 7 (by decide) (by decide +kernel) rfl dX5_passes_111 ?_
        refine kr_top (y := nI (τ 32 0)) (by rw [e2]) ?_
        refine lv_icmp_ge (tgt := 186) hx hb dX5_passes_114 (by decide) (fun _ => ?_) (fun hc => absurd (by rw [hkN]; exact Int32.le_refl _) hc)
        have hpc : ρ = mPass1 τ := by rw [ρe, hkN]; unfold mPass1 mPc; rw [q2]
        rw [hpc] at hm
        refine kend_v S hr hlocks hS hm dX5_passes_186
      | succ n ih3 =>
        intro k H4 locs ls hkn hm hin hS hl
        have hlt : k < τ 32 0 := by omega
        have hmon : mC ((kFor (fun c ρ => mC ρ c) k (mPb (mPa τ)))) k 34 0 ≤ 51000 := Nat.le_trans (mPc_mono (k := k + 1) (by rw [q2]; exact hlt)) hfin
        obtain ⟨ρ, ρe⟩ : ∃ z : kS, z = ((kFor (fun c ρ => mC ρ c) k (mPb (mPa τ)))) := ⟨_, rfl⟩
        rw [← ρe] at hm hin hmon
        have hBr := hin.1
        have hr1 := hBr.nR
        have hr2 := hBr.nC
        have hr4 := hBr.nA
        have hr0 := hBr.min
        have e2 : ρ 32 0 = τ 32 0 := (hin.2 32 0 (by decide)).trans q2
        have hk : k < ρ 32 0 := by omega
        have hin9 := mC_in hin (show k < mPb (mPa τ) 32 0 by omega) hmon
        refine lv_iload_n hx hb dX5_passes_109 rfl (lv_at hl 0 rfl) ?_
        refine lv_aload_n hx hb dX5_passes_110 rfl (lv_at hl 1 rfl) ?_
        refine kr_get (T := TX5) (N := 28) hx hb hts hown hK (hm.lv 0 (by decide)) rfl kin_X5_passes_X5 7 (by decide) (by decide +kernel) rfl dX5_passes_111 ?_
        refine kr_top (y := nI (τ 32 0)) (by rw [e2]) ?_
        refine lv_icmp_ge (tgt := 186) hx hb dX5_passes_114 (by decide) (fun hc => absurd hc (nI_ge hlt (by omega))) (fun _ => ?_)
        refine lv_aload_n hx hb dX5_passes_117 rfl (lv_at hl 1 rfl) ?_
        refine kr_get (T := TX5) (N := 28) hx hb hts hown hK (hm.lv 0 (by decide)) rfl kin_X5_passes_X5 12 (by decide) (by decide +kernel) rfl dX5_passes_118 ?_
        refine lv_iload_n hx hb dX5_passes_121 rfl (lv_at hl 0 rfl) ?_
        refine lv_aload_n hx hb dX5_passes_122 rfl (lv_at hl 1 rfl) ?_
        refine lv_iload_n hx hb dX5_passes_123 rfl (lv_at hl 0 rfl) ?_
        refine kgo_pi (v := nI (mJd ρ k)) (kc_V (As := [.int (nI k)]) (rest := [.int (nI k), .ref (bd 10)]) S hE hS hAb (cm_judged ε l hm hBr hk) (cwV 1 hts gX5_passes_X5_judged rfl rfl rfl (by decide +kernel) ⟨Nat.le_of_ble_eq_true rfl, Nat.le_of_ble_eq_true rfl⟩) (hm.lv 0 (by decide)) rfl rfl hl.1 rfl (Nat.le_of_ble_eq_true rfl) dX5_passes_124 ⟨Nat.zero_le _, Nat.zero_le _⟩) hS (fun locs hS => ?_)
        refine kr_ist hx hb hK hS (hm.lv 10 (by decide)) (hm.1 10 (by decide)).2 (j := k) (x := nI (mJd ρ k)) ((show k < 8 by omega)) (nI_clamp (ks31 ((show k < 8 by omega)))) (nI_pos (ks31 ((show k < 8 by omega)))) dX5_passes_127 (fun H1 locs hU ho hS => ?_)
        have hm := km_p10 (j := k) (v := mJd ρ k) hm hU ho
        clear hU ho
        have hB1 : mB (ku ρ 10 k (mJd ρ k)) := mB_p10 hBr (mJd_le ρ k)
        refine lv_aload_n hx hb dX5_passes_128 rfl (lv_at hl 1 rfl) ?_
        refine lv_iload_n hx hb dX5_passes_129 rfl (lv_at hl 0 rfl) ?_
        refine kgo_v (kc_V (As := [.int (nI k)]) (rest := []) S hE hS hAb (cm_raises ε l hAb hm hB1 hk) (cwV 1 hts gX5_passes_X5_raises rfl rfl rfl (by decide +kernel) ⟨Nat.le_of_ble_eq_true rfl, Nat.le_of_ble_eq_true rfl⟩) (hm.lv 0 (by decide)) rfl rfl hl.1 rfl (Nat.le_of_ble_eq_true rfl) dX5_passes_130 ⟨Nat.zero_le _, Nat.zero_le _⟩) hS (fun _ h => h) (fun H1 locs hm hz hq hS => ?_)
        obtain ⟨χ, χe⟩ : ∃ z : kS, z = mRs (ku ρ 10 k (mJd ρ k)) k := ⟨_, rfl⟩
        rw [← χe] at hm
        have hBχ : mB χ := by rw [χe]; exact mB_rs hB1 hk hmon
        have h10 : χ 10 k ≤ 2 := (hBχ.ck k (show k < χ 32 0 from by rw [χe]; exact Nat.lt_of_lt_of_eq hk (mRs_fr (ku ρ 10 k (mJd ρ k)) k 32 0 (by decide)).symm)).2.2.2.2.1
        refine lv_aload_n hx hb dX5_passes_133 rfl (lv_at hl 1 rfl) ?_
        refine kr_get (T := TX5) (N := 28) hx hb hts hown hK (hm.lv 0 (by decide)) rfl kin_X5_passes_X5 14 (by decide) (by decide +kernel) rfl dX5_passes_134 ?_
        refine lv_iload_n hx hb dX5_passes_137 rfl (lv_at hl 0 rfl) ?_
        refine lv_dup2_11 hx hb dX5_passes_138 rfl rfl ?_
        refine kr_ild hx hb hK (hm.lv 12 (by decide)) (j := k) ((show k < 8 by omega)) (nI_clamp (ks31 ((show k < 8 by omega)))) (nI_pos (ks31 ((show k < 8 by omega)))) (x := nI (χ 12 k)) rfl dX5_passes_139 ?_
        refine lv_aload_n hx hb dX5_passes_140 rfl (lv_at hl 1 rfl) ?_
        refine kr_get (T := TX5) (N := 28) hx hb hts hown hK (hm.lv 0 (by decide)) rfl kin_X5_passes_X5 12 (by decide) (by decide +kernel) rfl dX5_passes_141 ?_
        refine lv_iload_n hx hb dX5_passes_144 rfl (lv_at hl 0 rfl) ?_
        refine kr_ild hx hb hK (hm.lv 10 (by decide)) (j := k) ((show k < 8 by omega)) (nI_clamp (ks31 ((show k < 8 by omega)))) (nI_pos (ks31 ((show k < 8 by omega)))) (x := nI (χ 10 k)) rfl dX5_passes_145 ?_
        refine lv_iconst (v := 1) hx hb dX5_passes_146 (by decide) ?_
        refine lv_icmp_ne (tgt := 154) hx hb dX5_passes_147 (by decide) (fun hc => ?_) (fun hc => ?_)
        · refine lv_iconst (v := 0) hx hb dX5_passes_154 (by decide) ?_
          refine lv_iadd hx hb dX5_passes_155 ?_
          refine kr_top (y := nI (χ 12 k + if χ 10 k = 1 then 1 else 0)) (by rw [if_neg (fun h => hc (by rw [h]; rfl))]; exact Int32.add_zero _) ?_
          refine kr_ist hx hb hK hS (hm.lv 12 (by decide)) (hm.1 12 (by decide)).2 (j := k) (x := nI (χ 12 k + if χ 10 k = 1 then 1 else 0)) ((show k < 8 by omega)) (nI_clamp (ks31 ((show k < 8 by omega)))) (nI_pos (ks31 ((show k < 8 by omega)))) dX5_passes_156 (fun H1 locs hU ho hS => ?_)
          have hm := km_p12 (j := k) (v := χ 12 k + if χ 10 k = 1 then 1 else 0) hm hU ho
          clear hU ho
          have hm : kM ε A bd (mU1 χ k) H1 := hm
          refine lv_aload_n hx hb dX5_passes_157 rfl (lv_at hl 1 rfl) ?_
          refine kr_get (T := TX5) (N := 28) hx hb hts hown hK (hm.lv 0 (by decide)) rfl kin_X5_passes_X5 15 (by decide) (by decide +kernel) rfl dX5_passes_158 ?_
          refine lv_iload_n hx hb dX5_passes_161 rfl (lv_at hl 0 rfl) ?_
          refine lv_dup2_11 hx hb dX5_passes_162 rfl rfl ?_
          refine kr_ild hx hb hK (hm.lv 13 (by decide)) (j := k) ((show k < 8 by omega)) (nI_clamp (ks31 ((show k < 8 by omega)))) (nI_pos (ks31 ((show k < 8 by omega)))) (x := nI ((mU1 χ k) 13 k)) rfl dX5_passes_163 ?_
          refine lv_aload_n hx hb dX5_passes_164 rfl (lv_at hl 1 rfl) ?_
          refine kr_get (T := TX5) (N := 28) hx hb hts hown hK (hm.lv 0 (by decide)) rfl kin_X5_passes_X5 12 (by decide) (by decide +kernel) rfl dX5_passes_165 ?_
          refine lv_iload_n hx hb dX5_passes_168 rfl (lv_at hl 0 rfl) ?_
          refine kr_ild hx hb hK (hm.lv 10 (by decide)) (j := k) ((show k < 8 by omega)) (nI_clamp (ks31 ((show k < 8 by omega)))) (nI_pos (ks31 ((show k < 8 by omega)))) (x := nI ((mU1 χ k) 10 k)) rfl dX5_passes_169 ?_
          refine kr_top (y := nI (χ 10 k)) (rfl) ?_
          refine lv_if_le (tgt := 177) hx hb dX5_passes_170 (by decide) (fun hd => ?_) (fun hd => ?_)
          · refine lv_iconst (v := 0) hx hb dX5_passes_177 (by decide) ?_
            refine lv_iadd hx hb dX5_passes_178 ?_
            refine kr_top (y := nI (mU1 χ k 13 k + if 0 < mU1 χ k 10 k then 1 else 0)) (by rw [if_neg (show ¬ 0 < mU1 χ k 10 k from fun h => nI_nle (show 0 < χ 10 k from h) (by omega) hd)]; exact Int32.add_zero _) ?_
            refine kr_ist hx hb hK hS (hm.lv 13 (by decide)) (hm.1 13 (by decide)).2 (j := k) (x := nI (mU1 χ k 13 k + if 0 < mU1 χ k 10 k then 1 else 0)) ((show k < 8 by omega)) (nI_clamp (ks31 ((show k < 8 by omega)))) (nI_pos (ks31 ((show k < 8 by omega)))) dX5_passes_179 (fun H1 locs hU ho hS => ?_)
            have hm := km_p13 (j := k) (v := mU1 χ k 13 k + if 0 < mU1 χ k 10 k then 1 else 0) hm hU ho
            clear hU ho
            have hm : kM ε A bd (mC ρ k) H1 := by unfold mC mU2; rw [← χe]; exact hm
            refine lv_iinc (v := nI (k + 1)) (lv' := [(1, .int (nI (k + 1))), (0, .ref (bd 0))]) hx hb dX5_passes_180 hl (k := 0) rfl (nI_1 k) (by decide) rfl (fun ls hl => ?_)
            refine lv_goto (tgt := 109) hx hb dX5_passes_183 (by decide) ?_
            subst χe
            subst ρe
            exact ih3 (k + 1) _ _ _ (by omega) hm (hin9) hS (lv_sub hl [0, 1] rfl)
          · refine lv_iconst (v := 1) hx hb dX5_passes_173 (by decide) ?_
            refine lv_goto (tgt := 178) hx hb dX5_passes_174 (by decide) ?_
            refine lv_iadd hx hb dX5_passes_178 ?_
            refine kr_top (y := nI (mU1 χ k 13 k + if 0 < mU1 χ k 10 k then 1 else 0)) (by rw [if_pos (show 0 < mU1 χ k 10 k from Nat.pos_of_ne_zero (fun h => hd (by rw [show χ 10 k = 0 from h]; exact Int32.le_refl _)))]; exact nI_1 _) ?_
            refine kr_ist hx hb hK hS (hm.lv 13 (by decide)) (hm.1 13 (by decide)).2 (j := k) (x := nI (mU1 χ k 13 k + if 0 < mU1 χ k 10 k then 1 else 0)) ((show k < 8 by omega)) (nI_clamp (ks31 ((show k < 8 by omega)))) (nI_pos (ks31 ((show k < 8 by omega)))) dX5_passes_179 (fun H1 locs hU ho hS => ?_)
            have hm := km_p13 (j := k) (v := mU1 χ k 13 k + if 0 < mU1 χ k 10 k then 1 else 0) hm hU ho
            clear hU ho
            have hm : kM ε A bd (mC ρ k) H1 := by unfold mC mU2; rw [← χe]; exact hm
            refine lv_iinc (v := nI (k + 1)) (lv' := [(1, .int (nI (k + 1))), (0, .ref (bd 0))]) hx hb dX5_passes_180 hl (k := 0) rfl (nI_1 k) (by decide) rfl (fun ls hl => ?_)
            refine lv_goto (tgt := 109) hx hb dX5_passes_183 (by decide) ?_
            subst χe
            subst ρe
            exact ih3 (k + 1) _ _ _ (by omega) hm (hin9) hS (lv_sub hl [0, 1] rfl)
        · refine lv_iconst (v := 1) hx hb dX5_passes_150 (by decide) ?_
          refine lv_goto (tgt := 155) hx hb dX5_passes_151 (by decide) ?_
          refine lv_iadd hx hb dX5_passes_155 ?_
          refine kr_top (y := nI (χ 12 k + if χ 10 k = 1 then 1 else 0)) (by rw [if_pos ((nI_eq (by omega) (by decide)).mp hc)]; exact nI_1 _) ?_
          refine kr_ist hx hb hK hS (hm.lv 12 (by decide)) (hm.1 12 (by decide)).2 (j := k) (x := nI (χ 12 k + if χ 10 k = 1 then 1 else 0)) ((show k < 8 by omega)) (nI_clamp (ks31 ((show k < 8 by omega)))) (nI_pos (ks31 ((show k < 8 by omega)))) dX5_passes_156 (fun H1 locs hU ho hS => ?_)
          have hm := km_p12 (j := k) (v := χ 12 k + if χ 10 k = 1 then 1 else 0) hm hU ho
          clear hU ho
          have hm : kM ε A bd (mU1 χ k) H1 := hm
          refine lv_aload_n hx hb dX5_passes_157 rfl (lv_at hl 1 rfl) ?_
          refine kr_get (T := TX5) (N := 28) hx hb hts hown hK (hm.lv 0 (by decide)) rfl kin_X5_passes_X5 15 (by decide) (by decide +kernel) rfl dX5_passes_158 ?_
          refine lv_iload_n hx hb dX5_passes_161 rfl (lv_at hl 0 rfl) ?_
          refine lv_dup2_11 hx hb dX5_passes_162 rfl rfl ?_
          refine kr_ild hx hb hK (hm.lv 13 (by decide)) (j := k) ((show k < 8 by omega)) (nI_clamp (ks31 ((show k < 8 by omega)))) (nI_pos (ks31 ((show k < 8 by omega)))) (x := nI ((mU1 χ k) 13 k)) rfl dX5_passes_163 ?_
          refine lv_aload_n hx hb dX5_passes_164 rfl (lv_at hl 1 rfl) ?_
          refine kr_get (T := TX5) (N := 28) hx hb hts hown hK (hm.lv 0 (by decide)) rfl kin_X5_passes_X5 12 (by decide) (by decide +kernel) rfl dX5_passes_165 ?_
          refine lv_iload_n hx hb dX5_passes_168 rfl (lv_at hl 0 rfl) ?_
          refine kr_ild hx hb hK (hm.lv 10 (by decide)) (j := k) ((show k < 8 by omega)) (nI_clamp (ks31 ((show k < 8 by omega)))) (nI_pos (ks31 ((show k < 8 by omega)))) (x := nI ((mU1 χ k) 10 k)) rfl dX5_passes_169 ?_
          refine kr_top (y := nI (χ 10 k)) (rfl) ?_
          refine lv_if_le (tgt := 177) hx hb dX5_passes_170 (by decide) (fun hd => ?_) (fun hd => ?_)
          · refine lv_iconst (v := 0) hx hb dX5_passes_177 (by decide) ?_
            refine lv_iadd hx hb dX5_passes_178 ?_
            refine kr_top (y := nI (mU1 χ k 13 k + if 0 < mU1 χ k 10 k then 1 else 0)) (by rw [if_neg (show ¬ 0 < mU1 χ k 10 k from fun h => nI_nle (show 0 < χ 10 k from h) (by omega) hd)]; exact Int32.add_zero _) ?_
            refine kr_ist hx hb hK hS (hm.lv 13 (by decide)) (hm.1 13 (by decide)).2 (j := k) (x := nI (mU1 χ k 13 k + if 0 < mU1 χ k 10 k then 1 else 0)) ((show k < 8 by omega)) (nI_clamp (ks31 ((show k < 8 by omega)))) (nI_pos (ks31 ((show k < 8 by omega)))) dX5_passes_179 (fun H1 locs hU ho hS => ?_)
            have hm := km_p13 (j := k) (v := mU1 χ k 13 k + if 0 < mU1 χ k 10 k then 1 else 0) hm hU ho
            clear hU ho
            have hm : kM ε A bd (mC ρ k) H1 := by unfold mC mU2; rw [← χe]; exact hm
            refine lv_iinc (v := nI (k + 1)) (lv' := [(1, .int (nI (k + 1))), (0, .ref (bd 0))]) hx hb dX5_passes_180 hl (k := 0) rfl (nI_1 k) (by decide) rfl (fun ls hl => ?_)
            refine lv_goto (tgt := 109) hx hb dX5_passes_183 (by decide) ?_
            subst χe
            subst ρe
            exact ih3 (k + 1) _ _ _ (by omega) hm (hin9) hS (lv_sub hl [0, 1] rfl)
          · refine lv_iconst (v := 1) hx hb dX5_passes_173 (by decide) ?_
            refine lv_goto (tgt := 178) hx hb dX5_passes_174 (by decide) ?_
            refine lv_iadd hx hb dX5_passes_178 ?_
            refine kr_top (y := nI (mU1 χ k 13 k + if 0 < mU1 χ k 10 k then 1 else 0)) (by rw [if_pos (show 0 < mU1 χ k 10 k from Nat.pos_of_ne_zero (fun h => hd (by rw [show χ 10 k = 0 from h]; exact Int32.le_refl _)))]; exact nI_1 _) ?_
            refine kr_ist hx hb hK hS (hm.lv 13 (by decide)) (hm.1 13 (by decide)).2 (j := k) (x := nI (mU1 χ k 13 k + if 0 < mU1 χ k 10 k then 1 else 0)) ((show k < 8 by omega)) (nI_clamp (ks31 ((show k < 8 by omega)))) (nI_pos (ks31 ((show k < 8 by omega)))) dX5_passes_179 (fun H1 locs hU ho hS => ?_)
            have hm := km_p13 (j := k) (v := mU1 χ k 13 k + if 0 < mU1 χ k 10 k then 1 else 0) hm hU ho
            clear hU ho
            have hm : kM ε A bd (mC ρ k) H1 := by unfold mC mU2; rw [← χe]; exact hm
            refine lv_iinc (v := nI (k + 1)) (lv' := [(1, .int (nI (k + 1))), (0, .ref (bd 0))]) hx hb dX5_passes_180 hl (k := 0) rfl (nI_1 k) (by decide) rfl (fun ls hl => ?_)
            refine lv_goto (tgt := 109) hx hb dX5_passes_183 (by decide) ?_
            subst χe
            subst ρe
            exact ih3 (k + 1) _ _ _ (by omega) hm (hin9) hS (lv_sub hl [0, 1] rfl)
    | succ n ih2 =>
      intro k H3 locs ls hkn hm hin hS hl
      have hlt : k < τ 31 0 := by omega
      obtain ⟨ρ, ρe⟩ : ∃ z : kS, z = ((kFor (fun r ρ => ku ρ 3 r (mBd ρ r)) k (mPa τ))) := ⟨_, rfl⟩
      rw [← ρe] at hm hin
      have hBr := hin.1
      have hr1 := hBr.nR
      have hr2 := hBr.nC
      have hr4 := hBr.nA
      have hr0 := hBr.min
      have e1 : ρ 31 0 = τ 31 0 := (hin.2 31 0 (by decide)).trans q1
      have hk : k < ρ 31 0 := by omega
      refine lv_iload_n hx hb dX5_passes_54 rfl (lv_at hl 0 rfl) ?_
      refine lv_aload_n hx hb dX5_passes_55 rfl (lv_at hl 1 rfl) ?_
      refine kr_get (T := TX5) (N := 28) hx hb hts hown hK (hm.lv 0 (by decide)) rfl kin_X5_passes_X5 1 (by decide) (by decide +kernel) rfl dX5_passes_56 ?_
      refine kr_top (y := nI (τ 31 0)) (by rw [e1]) ?_
      refine lv_icmp_ge (tgt := 107) hx hb dX5_passes_59 (by decide) (fun hc => absurd hc (nI_ge hlt (by omega))) (fun _ => ?_)
      have hk1 := kcnt_le (fun c => ρ 15 (6 * c + k) == 2) (ρ 32 0)
      have hk2 := kcnt_le (fun c => ρ 15 (6 * c + k) == 1) (ρ 32 0)
      refine lv_aload_n hx hb dX5_passes_62 rfl (lv_at hl 1 rfl) ?_
      refine lv_iload_n hx hb dX5_passes_63 rfl (lv_at hl 0 rfl) ?_
      refine lv_iconst (v := 2) hx hb dX5_passes_64 (by decide) ?_
      refine kr_top (y := nI 2) (rfl) ?_
      refine kgo_pi (v := nI (kcnt (fun c => ρ 15 (6 * c + k) == 2) (ρ 32 0))) (kc_V (As := [.int (nI k), .int (nI 2)]) (rest := []) S hE hS hAb (cm_votesOf ε l hm hBr hk (by decide)) (cwV 2 hts gX5_passes_X5_votesOf rfl rfl rfl (by decide +kernel) ⟨Nat.le_of_ble_eq_true rfl, Nat.le_of_ble_eq_true rfl⟩) (hm.lv 0 (by decide)) rfl rfl hl.1 rfl (Nat.le_of_ble_eq_true rfl) dX5_passes_65 ⟨Nat.zero_le _, Nat.zero_le _⟩) hS (fun locs hS => ?_)
      refine lv_istore_n (lv' := [(2, .int (nI (kcnt (fun c => ρ 15 (6 * c + k) == 2) (ρ 32 0)))), (1, .int (nI k)), (0, .ref (bd 0))]) hx hb dX5_passes_68 rfl hl (by decide) rfl (fun ls hl => ?_)
      refine lv_iload_n hx hb dX5_passes_69 rfl (lv_at hl 0 rfl) ?_
      refine lv_aload_n hx hb dX5_passes_70 rfl (lv_at hl 2 rfl) ?_
      refine lv_iload_n hx hb dX5_passes_71 rfl (lv_at hl 1 rfl) ?_
      refine lv_iconst (v := 1) hx hb dX5_passes_72 (by decide) ?_
      refine kr_top (y := nI 1) (rfl) ?_
      refine kgo_pi (v := nI (kcnt (fun c => ρ 15 (6 * c + k) == 1) (ρ 32 0))) (kc_V (As := [.int (nI k), .int (nI 1)]) (rest := [.int (nI (kcnt (fun c => ρ 15 (6 * c + k) == 2) (ρ 32 0)))]) S hE hS hAb (cm_votesOf ε l hm hBr hk (by decide)) (cwV 2 hts gX5_passes_X5_votesOf rfl rfl rfl (by decide +kernel) ⟨Nat.le_of_ble_eq_true rfl, Nat.le_of_ble_eq_true rfl⟩) (hm.lv 0 (by decide)) rfl rfl hl.1 rfl (Nat.le_of_ble_eq_true rfl) dX5_passes_73 ⟨Nat.zero_le _, Nat.zero_le _⟩) hS (fun locs hS => ?_)
      refine lv_iadd hx hb dX5_passes_76 ?_
      refine kr_top (y := nI (kcnt (fun c => ρ 15 (6 * c + k) == 2) (ρ 32 0) + kcnt (fun c => ρ 15 (6 * c + k) == 1) (ρ 32 0))) (nI_add _ _) ?_
      refine lv_istore_n (lv' := [(3, .int (nI (kcnt (fun c => ρ 15 (6 * c + k) == 2) (ρ 32 0) + kcnt (fun c => ρ 15 (6 * c + k) == 1) (ρ 32 0)))), (2, .int (nI (kcnt (fun c => ρ 15 (6 * c + k) == 2) (ρ 32 0)))), (1, .int (nI k)), (0, .ref (bd 0))]) hx hb dX5_passes_77 rfl hl (by decide) rfl (fun ls hl => ?_)
      refine lv_aload_n hx hb dX5_passes_78 rfl (lv_at hl 3 rfl) ?_
      refine kr_get (T := TX5) (N := 28) hx hb hts hown hK (hm.lv 0 (by decide)) rfl kin_X5_passes_X5 4 (by decide) (by decide +kernel) rfl dX5_passes_79 ?_
      refine lv_iload_n hx hb dX5_passes_82 rfl (lv_at hl 2 rfl) ?_
      refine lv_iload_n hx hb dX5_passes_83 rfl (lv_at hl 0 rfl) ?_
      refine lv_iconst (v := 1) hx hb dX5_passes_84 (by decide) ?_
      refine lv_icmp_le (tgt := 99) hx hb dX5_passes_85 (by decide) (fun hc => ?_) (fun hc => ?_)
      · refine lv_iconst (v := 0) hx hb dX5_passes_99 (by decide) ?_
        refine kr_top (y := nI (mBd ρ k)) (by unfold mBd; rw [if_neg (fun h => nI_ge h.1 (by omega) hc)]; rfl) ?_
        refine kr_zst hx hb hK hS (hm.lv 3 (by decide)) (hm.1 3 (by decide)).2 (j := k) (x := nI (mBd ρ k)) ((show k < 6 by omega)) (nI_clamp (ks31 ((show k < 6 by omega)))) (nI_pos (ks31 ((show k < 6 by omega)))) (nI_z (mBd_le ρ k)) dX5_passes_100 (fun H1 locs hU ho hS => ?_)
        have hm := km_p3 (j := k) (v := mBd ρ k) hm hU ho
        clear hU ho
        refine lv_iinc (v := nI (k + 1)) (lv' := [(1, .int (nI (k + 1))), (3, .int (nI (kcnt (fun c => ρ 15 (6 * c + k) == 2) (ρ 32 0) + kcnt (fun c => ρ 15 (6 * c + k) == 1) (ρ 32 0)))), (2, .int (nI (kcnt (fun c => ρ 15 (6 * c + k) == 2) (ρ 32 0)))), (0, .ref (bd 0))]) hx hb dX5_passes_101 hl (k := 2) rfl (nI_1 k) (by decide) rfl (fun ls hl => ?_)
        refine lv_goto (tgt := 54) hx hb dX5_passes_104 (by decide) ?_
        have hin := mPb_in hin k
        subst ρe
        exact ih2 (k + 1) _ _ _ (by omega) hm (hin) hS (lv_sub hl [0, 3] rfl)
      · have g1 : 1 < kcnt (fun c => ρ 15 (6 * c + k) == 2) (ρ 32 0) + kcnt (fun c => ρ 15 (6 * c + k) == 1) (ρ 32 0) := Nat.lt_of_not_le (fun h => hc (nI_le (b := 1) h (by decide)))
        refine lv_iconst (v := 2) hx hb dX5_passes_88 (by decide) ?_
        refine lv_iload_n hx hb dX5_passes_89 rfl (lv_at hl 1 rfl) ?_
        refine lv_imul hx hb dX5_passes_90 ?_
        refine kr_top (y := nI (2 * kcnt (fun c => ρ 15 (6 * c + k) == 2) (ρ 32 0))) (nI_mul 2 _) ?_
        refine lv_iload_n hx hb dX5_passes_91 rfl (lv_at hl 0 rfl) ?_
        refine lv_icmp_le (tgt := 99) hx hb dX5_passes_92 (by decide) (fun hd => ?_) (fun hd => ?_)
        · refine lv_iconst (v := 0) hx hb dX5_passes_99 (by decide) ?_
          refine kr_top (y := nI (mBd ρ k)) (by unfold mBd; rw [if_neg (fun h => nI_ge h.2 (by omega) hd)]; rfl) ?_
          refine kr_zst hx hb hK hS (hm.lv 3 (by decide)) (hm.1 3 (by decide)).2 (j := k) (x := nI (mBd ρ k)) ((show k < 6 by omega)) (nI_clamp (ks31 ((show k < 6 by omega)))) (nI_pos (ks31 ((show k < 6 by omega)))) (nI_z (mBd_le ρ k)) dX5_passes_100 (fun H1 locs hU ho hS => ?_)
          have hm := km_p3 (j := k) (v := mBd ρ k) hm hU ho
          clear hU ho
          refine lv_iinc (v := nI (k + 1)) (lv' := [(1, .int (nI (k + 1))), (3, .int (nI (kcnt (fun c => ρ 15 (6 * c + k) == 2) (ρ 32 0) + kcnt (fun c => ρ 15 (6 * c + k) == 1) (ρ 32 0)))), (2, .int (nI (kcnt (fun c => ρ 15 (6 * c + k) == 2) (ρ 32 0)))), (0, .ref (bd 0))]) hx hb dX5_passes_101 hl (k := 2) rfl (nI_1 k) (by decide) rfl (fun ls hl => ?_)
          refine lv_goto (tgt := 54) hx hb dX5_passes_104 (by decide) ?_
          have hin := mPb_in hin k
          subst ρe
          exact ih2 (k + 1) _ _ _ (by omega) hm (hin) hS (lv_sub hl [0, 3] rfl)
        · have g2 : kcnt (fun c => ρ 15 (6 * c + k) == 2) (ρ 32 0) + kcnt (fun c => ρ 15 (6 * c + k) == 1) (ρ 32 0) < 2 * kcnt (fun c => ρ 15 (6 * c + k) == 2) (ρ 32 0) := Nat.lt_of_not_le (fun h => hd (nI_le h (by omega)))
          refine lv_iconst (v := 1) hx hb dX5_passes_95 (by decide) ?_
          refine lv_goto (tgt := 100) hx hb dX5_passes_96 (by decide) ?_
          refine kr_top (y := nI (mBd ρ k)) (by unfold mBd; rw [if_pos ⟨g1, g2⟩]; rfl) ?_
          refine kr_zst hx hb hK hS (hm.lv 3 (by decide)) (hm.1 3 (by decide)).2 (j := k) (x := nI (mBd ρ k)) ((show k < 6 by omega)) (nI_clamp (ks31 ((show k < 6 by omega)))) (nI_pos (ks31 ((show k < 6 by omega)))) (nI_z (mBd_le ρ k)) dX5_passes_100 (fun H1 locs hU ho hS => ?_)
          have hm := km_p3 (j := k) (v := mBd ρ k) hm hU ho
          clear hU ho
          refine lv_iinc (v := nI (k + 1)) (lv' := [(1, .int (nI (k + 1))), (3, .int (nI (kcnt (fun c => ρ 15 (6 * c + k) == 2) (ρ 32 0) + kcnt (fun c => ρ 15 (6 * c + k) == 1) (ρ 32 0)))), (2, .int (nI (kcnt (fun c => ρ 15 (6 * c + k) == 2) (ρ 32 0)))), (0, .ref (bd 0))]) hx hb dX5_passes_101 hl (k := 2) rfl (nI_1 k) (by decide) rfl (fun ls hl => ?_)
          refine lv_goto (tgt := 54) hx hb dX5_passes_104 (by decide) ?_
          have hin := mPb_in hin k
          subst ρe
          exact ih2 (k + 1) _ _ _ (by omega) hm (hin) hS (lv_sub hl [0, 3] rfl)
  | succ n ih =>
    intro k H2 locs ls hkn hm hin hS hl
    have hlt : k < 6 * τ 32 0 := by omega
    obtain ⟨ρ, ρe⟩ : ∃ z : kS, z = ((kFor mP1 k (ku τ 30 0 (τ 30 0 + 1)))) := ⟨_, rfl⟩
    rw [← ρe] at hm hin
    have hBr := hin.1
    have hr1 := hBr.nR
    have hr2 := hBr.nC
    have hr4 := hBr.nA
    have hr0 := hBr.min
    have e2 : ρ 32 0 = τ 32 0 := hin.2 32 0 (by decide)
    have e1 : ρ 31 0 = τ 31 0 := hin.2 31 0 (by decide)
    have hin9 := mP1_in hin (show k < 6 * (ku τ 30 0 (τ 30 0 + 1)) 32 0 from hlt)
    refine lv_iload_n hx hb dX5_passes_12 rfl (lv_at hl 0 rfl) ?_
    refine lv_bipush (v := 6) hx hb dX5_passes_13 (by decide) ?_
    refine lv_aload_n hx hb dX5_passes_15 rfl (lv_at hl 1 rfl) ?_
    refine kr_get (T := TX5) (N := 28) hx hb hts hown hK (hm.lv 0 (by decide)) rfl kin_X5_passes_X5 7 (by decide) (by decide +kernel) rfl dX5_passes_16 ?_
    refine lv_imul hx hb dX5_passes_19 ?_
    refine kr_top (y := nI (6 * τ 32 0)) (by rw [e2]; exact nI_mul 6 _) ?_
    refine lv_icmp_ge (tgt := 52) hx hb dX5_passes_20 (by decide) (fun hc => absurd hc (nI_ge hlt (by omega))) (fun _ => ?_)
    refine lv_iload_n hx hb dX5_passes_23 rfl (lv_at hl 0 rfl) ?_
    refine lv_bipush (v := 6) hx hb dX5_passes_24 (by decide) ?_
    refine lv_irem hx hb dX5_passes_26 (by decide) ?_
    refine kr_top (y := nI (k % 6)) (pk_rem (d := 6) (by omega) (by decide) (by decide)) ?_
    refine lv_aload_n hx hb dX5_passes_27 rfl (lv_at hl 1 rfl) ?_
    refine kr_get (T := TX5) (N := 28) hx hb hts hown hK (hm.lv 0 (by decide)) rfl kin_X5_passes_X5 1 (by decide) (by decide +kernel) rfl dX5_passes_28 ?_
    refine lv_icmp_ge (tgt := 46) hx hb dX5_passes_31 (by decide) (fun hc => ?_) (fun hc => ?_)
    · have he : mP1 k ρ = ρ := by unfold mP1; rw [if_neg (fun h => nI_ge h (by omega) hc)]
      rw [← he] at hm
      refine lv_iinc (v := nI (k + 1)) (lv' := [(1, .int (nI (k + 1))), (0, .ref (bd 0))]) hx hb dX5_passes_46 hl (k := 0) rfl (nI_1 k) (by decide) rfl (fun ls hl => ?_)
      refine lv_goto (tgt := 12) hx hb dX5_passes_49 (by decide) ?_
      subst ρe
      exact ih (k + 1) _ _ _ (by omega) hm (hin9) hS (lv_sub hl [0, 1] rfl)
    · have h1 : k % 6 < ρ 31 0 := Nat.lt_of_not_le (fun h => hc (nI_le h (by omega)))
      have he : mP1 k ρ = mPrb ρ (k / 6) (k % 6) := by unfold mP1; rw [if_pos h1]
      refine lv_aload_n hx hb dX5_passes_34 rfl (lv_at hl 1 rfl) ?_
      refine lv_iload_n hx hb dX5_passes_35 rfl (lv_at hl 0 rfl) ?_
      refine lv_bipush (v := 6) hx hb dX5_passes_36 (by decide) ?_
      refine lv_idiv hx hb dX5_passes_38 (by decide) ?_
      refine kr_top (y := nI (k / 6)) (pk_div (d := 6) (by omega) (by decide) (by decide)) ?_
      refine lv_iload_n hx hb dX5_passes_39 rfl (lv_at hl 0 rfl) ?_
      refine lv_bipush (v := 6) hx hb dX5_passes_40 (by decide) ?_
      refine lv_irem hx hb dX5_passes_42 (by decide) ?_
      refine kr_top (y := nI (k % 6)) (pk_rem (d := 6) (by omega) (by decide) (by decide)) ?_
      refine kgo_v (kc_V (As := [.int (nI (k / 6)), .int (nI (k % 6))]) (rest := []) S hE hS hAb (cm_probe ε l hAb hm hBr (show k / 6 < ρ 32 0 by omega) h1) (cwV 2 hts gX5_passes_X5_probe rfl rfl rfl (by decide +kernel) ⟨Nat.le_of_ble_eq_true rfl, Nat.le_of_ble_eq_true rfl⟩) (hm.lv 0 (by decide)) rfl rfl hl.1 rfl (Nat.le_of_ble_eq_true rfl) dX5_passes_43 ⟨Nat.zero_le _, Nat.zero_le _⟩) hS (fun _ h => h) (fun H1 locs hm hz hq hS => ?_)
      rw [← he] at hm
      refine lv_iinc (v := nI (k + 1)) (lv' := [(1, .int (nI (k + 1))), (0, .ref (bd 0))]) hx hb dX5_passes_46 hl (k := 0) rfl (nI_1 k) (by decide) rfl (fun ls hl => ?_)
      refine lv_goto (tgt := 12) hx hb dX5_passes_49 (by decide) ?_
      subst ρe
      exact ih (k + 1) _ _ _ (by omega) hm (hin9) hS (lv_sub hl [0, 1] rfl)
