/-! ===== the reference's bounds, its small methods ===== -/
def mB (τ : kS) : Prop :=
  τ 30 0 ≤ 102400 ∧ τ 31 0 ≤ 6 ∧ τ 32 0 ≤ 8 ∧ τ 33 0 ≤ 12 ∧ τ 34 0 ≤ 51000 ∧ (∀ r, r < τ 31 0 → τ 1 r ≤ r) ∧ (∀ r, τ 2 r ≤ 1 ∧ τ 3 r ≤ 1) ∧
  (∀ c, c < τ 32 0 → (1 ≤ τ 6 c ∧ τ 6 c ≤ 60) ∧ τ 7 c ≤ 1000 ∧ τ 8 c ≤ 3 ∧ (1 ≤ τ 9 c ∧ τ 9 c ≤ 6) ∧ τ 10 c ≤ 2 ∧ τ 11 c ≤ τ 34 0) ∧
  (∀ j, τ 14 j ≤ 1 ∧ τ 15 j ≤ 2 ∧ τ 16 j ≤ 3 ∧ τ 17 j ≤ 200000) ∧ (∀ w, w < τ 33 0 → τ 18 w < 8 ∧ τ 19 w ≤ 100000 ∧ τ 20 w ≤ 120000) ∧ ∀ j, j < τ 34 0 → τ 21 j ≤ 900000 ∧ τ 22 j ≤ 102401
theorem mB.min {τ : kS} (h : mB τ) : τ 30 0 ≤ 102400 := h.1
theorem mB.nR {τ : kS} (h : mB τ) : τ 31 0 ≤ 6 := h.2.1
theorem mB.nC {τ : kS} (h : mB τ) : τ 32 0 ≤ 8 := h.2.2.1
theorem mB.nW {τ : kS} (h : mB τ) : τ 33 0 ≤ 12 := h.2.2.2.1
theorem mB.nA {τ : kS} (h : mB τ) : τ 34 0 ≤ 51000 := h.2.2.2.2.1
theorem mB.par {τ : kS} (h : mB τ) : ∀ r, r < τ 31 0 → τ 1 r ≤ r := h.2.2.2.2.2.1
theorem mB.cb {τ : kS} (h : mB τ) : ∀ r, τ 2 r ≤ 1 ∧ τ 3 r ≤ 1 := h.2.2.2.2.2.2.1
theorem mB.ck {τ : kS} (h : mB τ) : ∀ c, c < τ 32 0 → (1 ≤ τ 6 c ∧ τ 6 c ≤ 60) ∧ τ 7 c ≤ 1000 ∧ τ 8 c ≤ 3 ∧ (1 ≤ τ 9 c ∧ τ 9 c ≤ 6) ∧ τ 10 c ≤ 2 ∧ τ 11 c ≤ τ 34 0 := h.2.2.2.2.2.2.2.1
theorem mB.pr {τ : kS} (h : mB τ) : ∀ j, τ 14 j ≤ 1 ∧ τ 15 j ≤ 2 ∧ τ 16 j ≤ 3 ∧ τ 17 j ≤ 200000 := h.2.2.2.2.2.2.2.2.1
theorem mB.wn {τ : kS} (h : mB τ) : ∀ w, w < τ 33 0 → τ 18 w < 8 ∧ τ 19 w ≤ 100000 ∧ τ 20 w ≤ 120000 := h.2.2.2.2.2.2.2.2.2.1
theorem mB.al {τ : kS} (h : mB τ) : ∀ j, j < τ 34 0 → τ 21 j ≤ 900000 ∧ τ 22 j ≤ 102401 := h.2.2.2.2.2.2.2.2.2.2
theorem nI_z {v : Nat} (h : v ≤ 1) : vp_nar .boolean (nI v) = nI v := by
  have h2 : v = 0 ∨ v = 1 := by omega
  rcases h2 with rfl | rfl <;> decide
theorem nI_01 {v : Nat} (h : v ≤ 1) : nI v = 0 ∨ nI v = 1 := by
  have h2 : v = 0 ∨ v = 1 := by omega
  rcases h2 with rfl | rfl
  · exact Or.inl rfl
  · exact Or.inr rfl
theorem nI_top {n : Nat} (hn : n < 2 ^ 31) {r : Nat} (h : r < n) : nI r ≤ nI n - 1 := by
  obtain ⟨k, rfl⟩ : ∃ k, n = k + 1 := ⟨n - 1, by omega⟩
  rw [nI_pred]
  exact nI_le (by omega) (by omega)
theorem nI_out {n : Nat} (hn : n < 2 ^ 31) {x : Int32} (h : x < 0 ∨ nI n ≤ x) : x < 0 ∨ ¬ x ≤ nI n - 1 := by
  rcases h with h | h
  · exact Or.inl h
  · by_cases h0 : x < 0
    · exact Or.inl h0
    · refine Or.inr (fun h9 => ?_)
      obtain ⟨j, hj, rfl⟩ := nI_of h0
      have h1 := (nI_leI hn hj).mp h
      match n, h1, h9 with
      | 0, _, h9 => exact absurd (show nI j ≤ -1 from h9) (fun q => by
          have q2 := Int32.le_iff_toInt_le.mp q
          rw [nI_toInt hj] at q2
          have : (-1 : Int32).toInt = -1 := by decide
          omega)
      | n + 1, h1, h9 =>
        rw [nI_pred] at h9
        have := (nI_leI hj (by omega)).mp h9
        omega
/-- what is thrown -/
abbrev mT (τ : kS) (v : Nat) : kS := ku τ 35 0 v
theorem kin_X5_thrown_X5 : ∀ w ∈ wsX50, w ∈ wsX5_thrown := by decide +kernel
theorem kin_X5_minute_X5 : ∀ w ∈ wsX50, w ∈ wsX5_minute := by decide +kernel
theorem kin_X5_alarms_X5 : ∀ w ∈ wsX50, w ∈ wsX5_alarms := by decide +kernel
set_option maxHeartbeats 4000000 in
set_option maxRecDepth 100000 in
theorem cm_thrown (ε : kEnv) (l : Launch) {A : Nat → Prop} {bd : Nat → Nat} {τ : kS} {H : Heap} (hm : kM ε A bd τ H) : kPi ε l yX5_thrown wsX5_thrown ({ frames := 0, cells := 0, slots := 0, locals := 0 }) [.ref (bd 0)] H (nI (τ 35 0)) := by
  refine kof (cc := cX5_thrown) (maxL := 1) (ret := (some .int)) (by decide) rfl (Nat.le_of_ble_eq_true rfl) ?_
  intro p e s m below meth c ls S hr hlocks hin hH hE hl
  have S : CallFix p m c cX5_thrown 1 s _ wsX5_thrown RX5 := S
  have hx := S.1
  have hb := S.2.1
  have hown : s.vm.findClass RX5 = some m.cls := S.2.2.2.1
  have hts := S.2.2.2.2
  have hK := hE.1
  have hS : va_S kNo s.heap H [] := by rw [hH]; exact va_S.rf
  have hAb : ∀ q, kNo q → kHi ε q := fun _ h => h.elim
  have hl : lv_has ls 1 [(0, .ref (bd 0))] := hl
  refine lv_aload_n hx hb dX5_thrown_0 rfl (lv_at hl 0 rfl) ?_
  refine kr_get (T := TX5) (N := 28) hx hb hts hown hK (hm.lv 0 (by decide)) rfl kin_X5_thrown_X5 27 (by decide) (by decide +kernel) rfl dX5_thrown_1 ?_
  refine kend_i S hr hlocks hS ⟨rfl, rfl⟩ dX5_thrown_4
set_option maxHeartbeats 4000000 in
set_option maxRecDepth 100000 in
theorem cm_isInT (ε : kEnv) (l : Launch) {H : Heap} {x lo hi : Int32} (h1 : ¬ x < lo) (h2 : x ≤ hi) : kPi ε l yX5_isIn wsX5_isIn ({ frames := 0, cells := 0, slots := 0, locals := 0 }) [.int x, .int lo, .int hi] H (1) := by
  refine kof (cc := cX5_isIn) (maxL := 3) (ret := (some .boolean)) (by decide) rfl (Nat.le_of_ble_eq_true rfl) ?_
  intro p e s m below meth c ls S hr hlocks hin hH hE hl
  have S : CallFix p m c cX5_isIn 3 s _ wsX5_isIn RX5 := S
  have hx := S.1
  have hb := S.2.1
  have hown : s.vm.findClass RX5 = some m.cls := S.2.2.2.1
  have hts := S.2.2.2.2
  have hK := hE.1
  have hS : va_S kNo s.heap H [] := by rw [hH]; exact va_S.rf
  have hAb : ∀ q, kNo q → kHi ε q := fun _ h => h.elim
  have hl : lv_has ls 3 [(0, .int x), (1, .int lo), (2, .int hi)] := hl
  refine lv_iload_n hx hb dX5_isIn_0 rfl (lv_at hl 0 rfl) ?_
  refine lv_iload_n hx hb dX5_isIn_1 rfl (lv_at hl 1 rfl) ?_
  refine lv_icmp_lt (tgt := 14) hx hb dX5_isIn_2 (by decide) (fun hc => absurd hc (h1)) (fun _ => ?_)
  refine lv_iload_n hx hb dX5_isIn_5 rfl (lv_at hl 0 rfl) ?_
  refine lv_iload_n hx hb dX5_isIn_6 rfl (lv_at hl 2 rfl) ?_
  refine lv_icmp_gt (tgt := 14) hx hb dX5_isIn_7 (by decide) (fun hc => absurd hc (Int32.not_lt.mpr h2)) (fun _ => ?_)
  refine lv_iconst (v := 1) hx hb dX5_isIn_10 (by decide) ?_
  refine lv_goto (tgt := 15) hx hb dX5_isIn_11 (by decide) ?_
  refine kend_z S hr hlocks hS ⟨rfl, rfl⟩ (Or.inr rfl) dX5_isIn_15
set_option maxHeartbeats 4000000 in
set_option maxRecDepth 100000 in
theorem cm_isInF (ε : kEnv) (l : Launch) {H : Heap} {x lo hi : Int32} (h : x < lo ∨ ¬ x ≤ hi) : kPi ε l yX5_isIn wsX5_isIn ({ frames := 0, cells := 0, slots := 0, locals := 0 }) [.int x, .int lo, .int hi] H (0) := by
  refine kof (cc := cX5_isIn) (maxL := 3) (ret := (some .boolean)) (by decide) rfl (Nat.le_of_ble_eq_true rfl) ?_
  intro p e s m below meth c ls S hr hlocks hin hH hE hl
  have S : CallFix p m c cX5_isIn 3 s _ wsX5_isIn RX5 := S
  have hx := S.1
  have hb := S.2.1
  have hown : s.vm.findClass RX5 = some m.cls := S.2.2.2.1
  have hts := S.2.2.2.2
  have hK := hE.1
  have hS : va_S kNo s.heap H [] := by rw [hH]; exact va_S.rf
  have hAb : ∀ q, kNo q → kHi ε q := fun _ h => h.elim
  have hl : lv_has ls 3 [(0, .int x), (1, .int lo), (2, .int hi)] := hl
  refine lv_iload_n hx hb dX5_isIn_0 rfl (lv_at hl 0 rfl) ?_
  refine lv_iload_n hx hb dX5_isIn_1 rfl (lv_at hl 1 rfl) ?_
  refine lv_icmp_lt (tgt := 14) hx hb dX5_isIn_2 (by decide) (fun hc1 => ?_) (fun hc1 => ?_)
  · refine lv_iconst (v := 0) hx hb dX5_isIn_14 (by decide) ?_
    refine kend_z S hr hlocks hS ⟨rfl, rfl⟩ (Or.inl rfl) dX5_isIn_15
  · refine lv_iload_n hx hb dX5_isIn_5 rfl (lv_at hl 0 rfl) ?_
    refine lv_iload_n hx hb dX5_isIn_6 rfl (lv_at hl 2 rfl) ?_
    refine lv_icmp_gt (tgt := 14) hx hb dX5_isIn_7 (by decide) (fun _ => ?_) (fun hc => absurd (Int32.not_le.mp (h.resolve_left hc1)) hc)
    refine lv_iconst (v := 0) hx hb dX5_isIn_14 (by decide) ?_
    refine kend_z S hr hlocks hS ⟨rfl, rfl⟩ (Or.inl rfl) dX5_isIn_15
theorem kin_X5_isRegion_X5 : ∀ w ∈ wsX50, w ∈ wsX5_isRegion := by decide +kernel
set_option maxHeartbeats 4000000 in
set_option maxRecDepth 100000 in
theorem cm_isRegionT (ε : kEnv) (l : Launch) {A : Nat → Prop} {bd : Nat → Nat} {τ : kS} {H : Heap} {r : Nat} (hm : kM ε A bd τ H) (hB : mB τ) (h : r < τ 31 0) : kPi ε l yX5_isRegion wsX5_isRegion ({ frames := 1, cells := 0, slots := 0, locals := 24 }) [.ref (bd 0), .int (nI r)] H (1) := by
  refine kof (cc := cX5_isRegion) (maxL := 2) (ret := (some .boolean)) (by decide) rfl (Nat.le_of_ble_eq_true rfl) ?_
  intro p e s m below meth c ls S hr hlocks hin hH hE hl
  have S : CallFix p m c cX5_isRegion 2 s _ wsX5_isRegion RX5 := S
  have hx := S.1
  have hb := S.2.1
  have hown : s.vm.findClass RX5 = some m.cls := S.2.2.2.1
  have hts := S.2.2.2.2
  have hK := hE.1
  have hS : va_S kNo s.heap H [] := by rw [hH]; exact va_S.rf
  have hAb : ∀ q, kNo q → kHi ε q := fun _ h => h.elim
  have hl : lv_has ls 2 [(0, .ref (bd 0)), (1, .int (nI r))] := hl
  have hnR := hB.nR
  have hnC := hB.nC
  have hnW := hB.nW
  have hnA := hB.nA
  have hmn := hB.min
  refine lv_iload_n hx hb dX5_isRegion_0 rfl (lv_at hl 1 rfl) ?_
  refine lv_iconst (v := 0) hx hb dX5_isRegion_1 (by decide) ?_
  refine lv_aload_n hx hb dX5_isRegion_2 rfl (lv_at hl 0 rfl) ?_
  refine kr_get (T := TX5) (N := 28) hx hb hts hown hK (hm.lv 0 (by decide)) rfl kin_X5_isRegion_X5 1 (by decide) (by decide +kernel) rfl dX5_isRegion_3 ?_
  refine lv_iconst (v := 1) hx hb dX5_isRegion_6 (by decide) ?_
  refine lv_isub hx hb dX5_isRegion_7 ?_
  refine kgo_pi (v := 1) (kc_S (As := [.int (nI r), .int 0, .int ((nI (τ 31 0) - 1))]) (rest := []) S hE hS hAb (cm_isInT ε l (nI_pos (by omega)) (nI_top (by omega) h)) (va_cwS 3 hts gX5_isRegion_X5_isIn rfl rfl rfl (by decide +kernel) ⟨Nat.le_of_ble_eq_true rfl, Nat.le_of_ble_eq_true rfl⟩) rfl hl.1 rfl (Nat.le_of_ble_eq_true rfl) dX5_isRegion_8 ⟨Nat.zero_le _, Nat.zero_le _⟩) hS (fun locs hS => ?_)
  refine kend_z S hr hlocks hS ⟨rfl, rfl⟩ (Or.inr rfl) dX5_isRegion_11
set_option maxHeartbeats 4000000 in
set_option maxRecDepth 100000 in
theorem cm_isRegionF (ε : kEnv) (l : Launch) {A : Nat → Prop} {bd : Nat → Nat} {τ : kS} {H : Heap} {x : Int32} (hm : kM ε A bd τ H) (hB : mB τ) (h : x < 0 ∨ nI (τ 31 0) ≤ x) : kPi ε l yX5_isRegion wsX5_isRegion ({ frames := 1, cells := 0, slots := 0, locals := 24 }) [.ref (bd 0), .int x] H (0) := by
  refine kof (cc := cX5_isRegion) (maxL := 2) (ret := (some .boolean)) (by decide) rfl (Nat.le_of_ble_eq_true rfl) ?_
  intro p e s m below meth c ls S hr hlocks hin hH hE hl
  have S : CallFix p m c cX5_isRegion 2 s _ wsX5_isRegion RX5 := S
  have hx := S.1
  have hb := S.2.1
  have hown : s.vm.findClass RX5 = some m.cls := S.2.2.2.1
  have hts := S.2.2.2.2
  have hK := hE.1
  have hS : va_S kNo s.heap H [] := by rw [hH]; exact va_S.rf
  have hAb : ∀ q, kNo q → kHi ε q := fun _ h => h.elim
  have hl : lv_has ls 2 [(0, .ref (bd 0)), (1, .int x)] := hl
  have hnR := hB.nR
  have hnC := hB.nC
  have hnW := hB.nW
  have hnA := hB.nA
  have hmn := hB.min
  refine lv_iload_n hx hb dX5_isRegion_0 rfl (lv_at hl 1 rfl) ?_
  refine lv_iconst (v := 0) hx hb dX5_isRegion_1 (by decide) ?_
  refine lv_aload_n hx hb dX5_isRegion_2 rfl (lv_at hl 0 rfl) ?_
  refine kr_get (T := TX5) (N := 28) hx hb hts hown hK (hm.lv 0 (by decide)) rfl kin_X5_isRegion_X5 1 (by decide) (by decide +kernel) rfl dX5_isRegion_3 ?_
  refine lv_iconst (v := 1) hx hb dX5_isRegion_6 (by decide) ?_
  refine lv_isub hx hb dX5_isRegion_7 ?_
  refine kgo_pi (v := 0) (kc_S (As := [.int x, .int 0, .int ((nI (τ 31 0) - 1))]) (rest := []) S hE hS hAb (cm_isInF ε l (nI_out (by omega) h)) (va_cwS 3 hts gX5_isRegion_X5_isIn rfl rfl rfl (by decide +kernel) ⟨Nat.le_of_ble_eq_true rfl, Nat.le_of_ble_eq_true rfl⟩) rfl hl.1 rfl (Nat.le_of_ble_eq_true rfl) dX5_isRegion_8 ⟨Nat.zero_le _, Nat.zero_le _⟩) hS (fun locs hS => ?_)
  refine kend_z S hr hlocks hS ⟨rfl, rfl⟩ (Or.inl rfl) dX5_isRegion_11
theorem kin_X5_isCheck_X5 : ∀ w ∈ wsX50, w ∈ wsX5_isCheck := by decide +kernel
set_option maxHeartbeats 4000000 in
set_option maxRecDepth 100000 in
theorem cm_isCheckT (ε : kEnv) (l : Launch) {A : Nat → Prop} {bd : Nat → Nat} {τ : kS} {H : Heap} {r : Nat} (hm : kM ε A bd τ H) (hB : mB τ) (h : r < τ 32 0) : kPi ε l yX5_isCheck wsX5_isCheck ({ frames := 1, cells := 0, slots := 0, locals := 24 }) [.ref (bd 0), .int (nI r)] H (1) := by
  refine kof (cc := cX5_isCheck) (maxL := 2) (ret := (some .boolean)) (by decide) rfl (Nat.le_of_ble_eq_true rfl) ?_
  intro p e s m below meth c ls S hr hlocks hin hH hE hl
  have S : CallFix p m c cX5_isCheck 2 s _ wsX5_isCheck RX5 := S
  have hx := S.1
  have hb := S.2.1
  have hown : s.vm.findClass RX5 = some m.cls := S.2.2.2.1
  have hts := S.2.2.2.2
  have hK := hE.1
  have hS : va_S kNo s.heap H [] := by rw [hH]; exact va_S.rf
  have hAb : ∀ q, kNo q → kHi ε q := fun _ h => h.elim
  have hl : lv_has ls 2 [(0, .ref (bd 0)), (1, .int (nI r))] := hl
  have hnR := hB.nR
  have hnC := hB.nC
  have hnW := hB.nW
  have hnA := hB.nA
  have hmn := hB.min
  refine lv_iload_n hx hb dX5_isCheck_0 rfl (lv_at hl 1 rfl) ?_
  refine lv_iconst (v := 0) hx hb dX5_isCheck_1 (by decide) ?_
  refine lv_aload_n hx hb dX5_isCheck_2 rfl (lv_at hl 0 rfl) ?_
  refine kr_get (T := TX5) (N := 28) hx hb hts hown hK (hm.lv 0 (by decide)) rfl kin_X5_isCheck_X5 7 (by decide) (by decide +kernel) rfl dX5_isCheck_3 ?_
  refine lv_iconst (v := 1) hx hb dX5_isCheck_6 (by decide) ?_
  refine lv_isub hx hb dX5_isCheck_7 ?_
  refine kgo_pi (v := 1) (kc_S (As := [.int (nI r), .int 0, .int ((nI (τ 32 0) - 1))]) (rest := []) S hE hS hAb (cm_isInT ε l (nI_pos (by omega)) (nI_top (by omega) h)) (va_cwS 3 hts gX5_isCheck_X5_isIn rfl rfl rfl (by decide +kernel) ⟨Nat.le_of_ble_eq_true rfl, Nat.le_of_ble_eq_true rfl⟩) rfl hl.1 rfl (Nat.le_of_ble_eq_true rfl) dX5_isCheck_8 ⟨Nat.zero_le _, Nat.zero_le _⟩) hS (fun locs hS => ?_)
  refine kend_z S hr hlocks hS ⟨rfl, rfl⟩ (Or.inr rfl) dX5_isCheck_11
set_option maxHeartbeats 4000000 in
set_option maxRecDepth 100000 in
theorem cm_isCheckF (ε : kEnv) (l : Launch) {A : Nat → Prop} {bd : Nat → Nat} {τ : kS} {H : Heap} {x : Int32} (hm : kM ε A bd τ H) (hB : mB τ) (h : x < 0 ∨ nI (τ 32 0) ≤ x) : kPi ε l yX5_isCheck wsX5_isCheck ({ frames := 1, cells := 0, slots := 0, locals := 24 }) [.ref (bd 0), .int x] H (0) := by
  refine kof (cc := cX5_isCheck) (maxL := 2) (ret := (some .boolean)) (by decide) rfl (Nat.le_of_ble_eq_true rfl) ?_
  intro p e s m below meth c ls S hr hlocks hin hH hE hl
  have S : CallFix p m c cX5_isCheck 2 s _ wsX5_isCheck RX5 := S
  have hx := S.1
  have hb := S.2.1
  have hown : s.vm.findClass RX5 = some m.cls := S.2.2.2.1
  have hts := S.2.2.2.2
  have hK := hE.1
  have hS : va_S kNo s.heap H [] := by rw [hH]; exact va_S.rf
  have hAb : ∀ q, kNo q → kHi ε q := fun _ h => h.elim
  have hl : lv_has ls 2 [(0, .ref (bd 0)), (1, .int x)] := hl
  have hnR := hB.nR
  have hnC := hB.nC
  have hnW := hB.nW
  have hnA := hB.nA
  have hmn := hB.min
  refine lv_iload_n hx hb dX5_isCheck_0 rfl (lv_at hl 1 rfl) ?_
  refine lv_iconst (v := 0) hx hb dX5_isCheck_1 (by decide) ?_
  refine lv_aload_n hx hb dX5_isCheck_2 rfl (lv_at hl 0 rfl) ?_
  refine kr_get (T := TX5) (N := 28) hx hb hts hown hK (hm.lv 0 (by decide)) rfl kin_X5_isCheck_X5 7 (by decide) (by decide +kernel) rfl dX5_isCheck_3 ?_
  refine lv_iconst (v := 1) hx hb dX5_isCheck_6 (by decide) ?_
  refine lv_isub hx hb dX5_isCheck_7 ?_
  refine kgo_pi (v := 0) (kc_S (As := [.int x, .int 0, .int ((nI (τ 32 0) - 1))]) (rest := []) S hE hS hAb (cm_isInF ε l (nI_out (by omega) h)) (va_cwS 3 hts gX5_isCheck_X5_isIn rfl rfl rfl (by decide +kernel) ⟨Nat.le_of_ble_eq_true rfl, Nat.le_of_ble_eq_true rfl⟩) rfl hl.1 rfl (Nat.le_of_ble_eq_true rfl) dX5_isCheck_8 ⟨Nat.zero_le _, Nat.zero_le _⟩) hS (fun locs hS => ?_)
  refine kend_z S hr hlocks hS ⟨rfl, rfl⟩ (Or.inl rfl) dX5_isCheck_11
theorem kin_X5_addRegion_X5 : ∀ w ∈ wsX50, w ∈ wsX5_addRegion := by decide +kernel
set_option maxHeartbeats 4000000 in
set_option maxRecDepth 100000 in
theorem cm_addRegion0 (ε : kEnv) (l : Launch) {A : Nat → Prop} {bd : Nat → Nat} {τ : kS} {H : Heap} (hAb : ∀ q, A q → kHi ε q) (hm : kM ε A bd τ H) (hB : mB τ) (hn6 : τ 31 0 < 6) : kMi ε l yX5_addRegion wsX5_addRegion ({ frames := 6, cells := 0, slots := 0, locals := 140 }) [.ref (bd 0), .int ((-1))] H A (0) (0) (fun v H' => v = nI (τ 31 0) ∧ kM ε A bd (ku (ku (mT τ 0) 1 (τ 31 0) (0)) 31 0 (τ 31 0 + 1)) H') := by
  refine kof (cc := cX5_addRegion) (maxL := 2) (ret := (some .int)) (by decide) rfl (Nat.le_of_ble_eq_true rfl) ?_
  intro p e s m below meth c ls S hr hlocks hin hH hE hl
  have S : CallFix p m c cX5_addRegion 2 s _ wsX5_addRegion RX5 := S
  have hx := S.1
  have hb := S.2.1
  have hown : s.vm.findClass RX5 = some m.cls := S.2.2.2.1
  have hts := S.2.2.2.2
  have hK := hE.1
  have hS : va_S A s.heap H [] := by rw [hH]; exact va_S.rf
  have hl : lv_has ls 2 [(0, .ref (bd 0)), (1, .int ((-1)))] := hl
  have hnR := hB.nR
  have hnC := hB.nC
  have hnW := hB.nW
  have hnA := hB.nA
  have hmn := hB.min
  refine lv_aload_n hx hb dX5_addRegion_0 rfl (lv_at hl 0 rfl) ?_
  refine lv_iload_n hx hb dX5_addRegion_1 rfl (lv_at hl 1 rfl) ?_
  refine lv_iconst (v := -1) hx hb dX5_addRegion_2 (by decide) ?_
  refine lv_icmp_eq (tgt := 18) hx hb dX5_addRegion_3 (by decide) (fun _ => ?_) (fun hc => absurd (rfl) hc)
  refine lv_aload_n hx hb dX5_addRegion_18 rfl (lv_at hl 0 rfl) ?_
  refine kr_get (T := TX5) (N := 28) hx hb hts hown hK (hm.lv 0 (by decide)) rfl kin_X5_addRegion_X5 1 (by decide) (by decide +kernel) rfl dX5_addRegion_19 ?_
  refine lv_bipush (v := 6) hx hb dX5_addRegion_22 (by decide) ?_
  refine lv_icmp_ne (tgt := 31) hx hb dX5_addRegion_24 (by decide) (fun _ => ?_) (fun hc => absurd ((nI_eq (a := τ 31 0) (b := 6) (by omega) (by decide)).mp hc) (by omega))
  refine lv_iconst (v := 0) hx hb dX5_addRegion_31 (by decide) ?_
  refine kr_top (y := nI 0) (rfl) ?_
  refine kr_put (T := TX5) (N := 28) (v := .int (nI 0)) (ty := .int) hx hb hts hown hK hS (hm.lv 0 (by decide)) (hm.1 0 (by decide)).2 rfl kin_X5_addRegion_X5 tyX5 tyX5_ok nmX5 27 (by decide) "ProbewebModel" (hts (.fieldLink RX5 78 "ProbewebModel" "thrown" "I") (by decide +kernel)) (fun _ h => h) rfl (by decide +kernel) rfl rfl (Nat.le_of_ble_eq_true rfl) dX5_addRegion_32 (fun H1 locs hU ho hS => ?_)
  have hm := km_p35 (v := 0) hm hU ho
  clear hU ho
  have hB : mB (mT τ 0) := hB
  refine lv_aload_n hx hb dX5_addRegion_35 rfl (lv_at hl 0 rfl) ?_
  refine kr_get (T := TX5) (N := 28) hx hb hts hown hK (hm.lv 0 (by decide)) rfl kin_X5_addRegion_X5 27 (by decide) (by decide +kernel) rfl dX5_addRegion_36 ?_
  refine kr_top (y := 0) (rfl) ?_
  refine lv_if_le (tgt := 44) hx hb dX5_addRegion_39 (by decide) (fun _ => ?_) (fun hc => absurd (by decide) hc)
  refine lv_aload_n hx hb dX5_addRegion_44 rfl (lv_at hl 0 rfl) ?_
  refine kr_get (T := TX5) (N := 28) hx hb hts hown hK (hm.lv 0 (by decide)) rfl kin_X5_addRegion_X5 2 (by decide) (by decide +kernel) rfl dX5_addRegion_45 ?_
  refine lv_aload_n hx hb dX5_addRegion_48 rfl (lv_at hl 0 rfl) ?_
  refine kr_get (T := TX5) (N := 28) hx hb hts hown hK (hm.lv 0 (by decide)) rfl kin_X5_addRegion_X5 1 (by decide) (by decide +kernel) rfl dX5_addRegion_49 ?_
  refine kr_top (y := nI (τ 31 0)) (rfl) ?_
  refine lv_iload_n hx hb dX5_addRegion_52 rfl (lv_at hl 1 rfl) ?_
  refine kr_top (y := mI (0)) (rfl) ?_
  refine kr_ist hx hb hK hS (hm.lv 1 (by decide)) (hm.1 1 (by decide)).2 (j := τ 31 0) (x := mI 0) ((show τ 31 0 < 6 by omega)) (nI_clamp (ks31 ((show τ 31 0 < 6 by omega)))) (nI_pos (ks31 ((show τ 31 0 < 6 by omega)))) dX5_addRegion_53 (fun H1 locs hU ho hS => ?_)
  have hm := km_p1 (j := τ 31 0) (v := 0) hm hU ho
  clear hU ho
  refine lv_aload_n hx hb dX5_addRegion_54 rfl (lv_at hl 0 rfl) ?_
  refine lv_dup hx hb dX5_addRegion_55 rfl ?_
  refine kr_get (T := TX5) (N := 28) hx hb hts hown hK (hm.lv 0 (by decide)) rfl kin_X5_addRegion_X5 1 (by decide) (by decide +kernel) rfl dX5_addRegion_56 ?_
  refine lv_iconst (v := 1) hx hb dX5_addRegion_59 (by decide) ?_
  refine lv_iadd hx hb dX5_addRegion_60 ?_
  refine kr_top (y := nI (τ 31 0 + 1)) (nI_1 _) ?_
  refine kr_put (T := TX5) (N := 28) (v := .int (nI (τ 31 0 + 1))) (ty := .int) hx hb hts hown hK hS (hm.lv 0 (by decide)) (hm.1 0 (by decide)).2 rfl kin_X5_addRegion_X5 tyX5 tyX5_ok nmX5 1 (by decide) "ProbewebModel" (hts (.fieldLink RX5 82 "ProbewebModel" "regions" "I") (by decide +kernel)) (fun _ h => h) rfl (by decide +kernel) rfl rfl (Nat.le_of_ble_eq_true rfl) dX5_addRegion_61 (fun H1 locs hU ho hS => ?_)
  have hm := km_p31 (v := τ 31 0 + 1) hm hU ho
  clear hU ho
  refine lv_aload_n hx hb dX5_addRegion_64 rfl (lv_at hl 0 rfl) ?_
  refine kr_get (T := TX5) (N := 28) hx hb hts hown hK (hm.lv 0 (by decide)) rfl kin_X5_addRegion_X5 1 (by decide) (by decide +kernel) rfl dX5_addRegion_65 ?_
  refine lv_iconst (v := 1) hx hb dX5_addRegion_68 (by decide) ?_
  refine lv_isub hx hb dX5_addRegion_69 ?_
  refine kr_top (y := nI (τ 31 0)) (nI_pred _) ?_
  refine kend_i S hr hlocks hS ⟨rfl, hm⟩ dX5_addRegion_70
set_option maxHeartbeats 4000000 in
set_option maxRecDepth 100000 in
theorem cm_addRegionS (ε : kEnv) (l : Launch) {A : Nat → Prop} {bd : Nat → Nat} {τ : kS} {H : Heap} {r : Nat} (hAb : ∀ q, A q → kHi ε q) (hm : kM ε A bd τ H) (hB : mB τ) (hr0 : r < τ 31 0) (hn6 : τ 31 0 < 6) : kMi ε l yX5_addRegion wsX5_addRegion ({ frames := 6, cells := 0, slots := 0, locals := 140 }) [.ref (bd 0), .int (nI r)] H A (0) (0) (fun v H' => v = nI (τ 31 0) ∧ kM ε A bd (ku (ku (mT τ 0) 1 (τ 31 0) (r + 1)) 31 0 (τ 31 0 + 1)) H') := by
  refine kof (cc := cX5_addRegion) (maxL := 2) (ret := (some .int)) (by decide) rfl (Nat.le_of_ble_eq_true rfl) ?_
  intro p e s m below meth c ls S hr hlocks hin hH hE hl
  have S : CallFix p m c cX5_addRegion 2 s _ wsX5_addRegion RX5 := S
  have hx := S.1
  have hb := S.2.1
  have hown : s.vm.findClass RX5 = some m.cls := S.2.2.2.1
  have hts := S.2.2.2.2
  have hK := hE.1
  have hS : va_S A s.heap H [] := by rw [hH]; exact va_S.rf
  have hl : lv_has ls 2 [(0, .ref (bd 0)), (1, .int (nI r))] := hl
  have hnR := hB.nR
  have hnC := hB.nC
  have hnW := hB.nW
  have hnA := hB.nA
  have hmn := hB.min
  refine lv_aload_n hx hb dX5_addRegion_0 rfl (lv_at hl 0 rfl) ?_
  refine lv_iload_n hx hb dX5_addRegion_1 rfl (lv_at hl 1 rfl) ?_
  refine lv_iconst (v := -1) hx hb dX5_addRegion_2 (by decide) ?_
  refine lv_icmp_eq (tgt := 18) hx hb dX5_addRegion_3 (by decide) (fun hc => absurd hc (fun h => nI_pos (n := r) (by omega) (by rw [h]; decide))) (fun _ => ?_)
  refine lv_aload_n hx hb dX5_addRegion_6 rfl (lv_at hl 0 rfl) ?_
  refine lv_iload_n hx hb dX5_addRegion_7 rfl (lv_at hl 1 rfl) ?_
  refine kgo_pi (v := 1) (kc_V (As := [.int (nI r)]) (rest := [.ref (bd 0)]) S hE hS hAb (cm_isRegionT ε l hm hB hr0) (cwV 1 hts gX5_addRegion_X5_isRegion rfl rfl rfl (by decide +kernel) ⟨Nat.le_of_ble_eq_true rfl, Nat.le_of_ble_eq_true rfl⟩) (hm.lv 0 (by decide)) rfl rfl hl.1 rfl (Nat.le_of_ble_eq_true rfl) dX5_addRegion_8 ⟨Nat.zero_le _, Nat.zero_le _⟩) hS (fun locs hS => ?_)
  refine lv_if_ne (tgt := 18) hx hb dX5_addRegion_11 (by decide) (fun _ => ?_) (fun hc => absurd hc (by decide))
  refine lv_aload_n hx hb dX5_addRegion_18 rfl (lv_at hl 0 rfl) ?_
  refine kr_get (T := TX5) (N := 28) hx hb hts hown hK (hm.lv 0 (by decide)) rfl kin_X5_addRegion_X5 1 (by decide) (by decide +kernel) rfl dX5_addRegion_19 ?_
  refine lv_bipush (v := 6) hx hb dX5_addRegion_22 (by decide) ?_
  refine lv_icmp_ne (tgt := 31) hx hb dX5_addRegion_24 (by decide) (fun _ => ?_) (fun hc => absurd ((nI_eq (a := τ 31 0) (b := 6) (by omega) (by decide)).mp hc) (by omega))
  refine lv_iconst (v := 0) hx hb dX5_addRegion_31 (by decide) ?_
  refine kr_top (y := nI 0) (rfl) ?_
  refine kr_put (T := TX5) (N := 28) (v := .int (nI 0)) (ty := .int) hx hb hts hown hK hS (hm.lv 0 (by decide)) (hm.1 0 (by decide)).2 rfl kin_X5_addRegion_X5 tyX5 tyX5_ok nmX5 27 (by decide) "ProbewebModel" (hts (.fieldLink RX5 78 "ProbewebModel" "thrown" "I") (by decide +kernel)) (fun _ h => h) rfl (by decide +kernel) rfl rfl (Nat.le_of_ble_eq_true rfl) dX5_addRegion_32 (fun H1 locs hU ho hS => ?_)
  have hm := km_p35 (v := 0) hm hU ho
  clear hU ho
  have hB : mB (mT τ 0) := hB
  refine lv_aload_n hx hb dX5_addRegion_35 rfl (lv_at hl 0 rfl) ?_
  refine kr_get (T := TX5) (N := 28) hx hb hts hown hK (hm.lv 0 (by decide)) rfl kin_X5_addRegion_X5 27 (by decide) (by decide +kernel) rfl dX5_addRegion_36 ?_
  refine kr_top (y := 0) (rfl) ?_
  refine lv_if_le (tgt := 44) hx hb dX5_addRegion_39 (by decide) (fun _ => ?_) (fun hc => absurd (by decide) hc)
  refine lv_aload_n hx hb dX5_addRegion_44 rfl (lv_at hl 0 rfl) ?_
  refine kr_get (T := TX5) (N := 28) hx hb hts hown hK (hm.lv 0 (by decide)) rfl kin_X5_addRegion_X5 2 (by decide) (by decide +kernel) rfl dX5_addRegion_45 ?_
  refine lv_aload_n hx hb dX5_addRegion_48 rfl (lv_at hl 0 rfl) ?_
  refine kr_get (T := TX5) (N := 28) hx hb hts hown hK (hm.lv 0 (by decide)) rfl kin_X5_addRegion_X5 1 (by decide) (by decide +kernel) rfl dX5_addRegion_49 ?_
  refine kr_top (y := nI (τ 31 0)) (rfl) ?_
  refine lv_iload_n hx hb dX5_addRegion_52 rfl (lv_at hl 1 rfl) ?_
  refine kr_top (y := mI (r + 1)) (rfl) ?_
  refine kr_ist hx hb hK hS (hm.lv 1 (by decide)) (hm.1 1 (by decide)).2 (j := τ 31 0) (x := mI (r + 1)) ((show τ 31 0 < 6 by omega)) (nI_clamp (ks31 ((show τ 31 0 < 6 by omega)))) (nI_pos (ks31 ((show τ 31 0 < 6 by omega)))) dX5_addRegion_53 (fun H1 locs hU ho hS => ?_)
  have hm := km_p1 (j := τ 31 0) (v := r + 1) hm hU ho
  clear hU ho
  refine lv_aload_n hx hb dX5_addRegion_54 rfl (lv_at hl 0 rfl) ?_
  refine lv_dup hx hb dX5_addRegion_55 rfl ?_
  refine kr_get (T := TX5) (N := 28) hx hb hts hown hK (hm.lv 0 (by decide)) rfl kin_X5_addRegion_X5 1 (by decide) (by decide +kernel) rfl dX5_addRegion_56 ?_
  refine lv_iconst (v := 1) hx hb dX5_addRegion_59 (by decide) ?_
  refine lv_iadd hx hb dX5_addRegion_60 ?_
  refine kr_top (y := nI (τ 31 0 + 1)) (nI_1 _) ?_
  refine kr_put (T := TX5) (N := 28) (v := .int (nI (τ 31 0 + 1))) (ty := .int) hx hb hts hown hK hS (hm.lv 0 (by decide)) (hm.1 0 (by decide)).2 rfl kin_X5_addRegion_X5 tyX5 tyX5_ok nmX5 1 (by decide) "ProbewebModel" (hts (.fieldLink RX5 82 "ProbewebModel" "regions" "I") (by decide +kernel)) (fun _ h => h) rfl (by decide +kernel) rfl rfl (Nat.le_of_ble_eq_true rfl) dX5_addRegion_61 (fun H1 locs hU ho hS => ?_)
  have hm := km_p31 (v := τ 31 0 + 1) hm hU ho
  clear hU ho
  refine lv_aload_n hx hb dX5_addRegion_64 rfl (lv_at hl 0 rfl) ?_
  refine kr_get (T := TX5) (N := 28) hx hb hts hown hK (hm.lv 0 (by decide)) rfl kin_X5_addRegion_X5 1 (by decide) (by decide +kernel) rfl dX5_addRegion_65 ?_
  refine lv_iconst (v := 1) hx hb dX5_addRegion_68 (by decide) ?_
  refine lv_isub hx hb dX5_addRegion_69 ?_
  refine kr_top (y := nI (τ 31 0)) (nI_pred _) ?_
  refine kend_i S hr hlocks hS ⟨rfl, hm⟩ dX5_addRegion_70
set_option maxHeartbeats 4000000 in
set_option maxRecDepth 100000 in
theorem cm_addRegionX1 (ε : kEnv) (l : Launch) {A : Nat → Prop} {bd : Nat → Nat} {τ : kS} {H : Heap} {x : Int32} (hAb : ∀ q, A q → kHi ε q) (hm : kM ε A bd τ H) (hB : mB τ) (hx1 : ¬ x = -1) (h : x < 0 ∨ nI (τ 31 0) ≤ x) : kMi ε l yX5_addRegion wsX5_addRegion ({ frames := 6, cells := 0, slots := 0, locals := 140 }) [.ref (bd 0), .int x] H A (0) (0) (fun v H' => v = 0 ∧ kM ε A bd (mT τ 1) H') := by
  refine kof (cc := cX5_addRegion) (maxL := 2) (ret := (some .int)) (by decide) rfl (Nat.le_of_ble_eq_true rfl) ?_
  intro p e s m below meth c ls S hr hlocks hin hH hE hl
  have S : CallFix p m c cX5_addRegion 2 s _ wsX5_addRegion RX5 := S
  have hx := S.1
  have hb := S.2.1
  have hown : s.vm.findClass RX5 = some m.cls := S.2.2.2.1
  have hts := S.2.2.2.2
  have hK := hE.1
  have hS : va_S A s.heap H [] := by rw [hH]; exact va_S.rf
  have hl : lv_has ls 2 [(0, .ref (bd 0)), (1, .int x)] := hl
  have hnR := hB.nR
  have hnC := hB.nC
  have hnW := hB.nW
  have hnA := hB.nA
  have hmn := hB.min
  refine lv_aload_n hx hb dX5_addRegion_0 rfl (lv_at hl 0 rfl) ?_
  refine lv_iload_n hx hb dX5_addRegion_1 rfl (lv_at hl 1 rfl) ?_
  refine lv_iconst (v := -1) hx hb dX5_addRegion_2 (by decide) ?_
  refine lv_icmp_eq (tgt := 18) hx hb dX5_addRegion_3 (by decide) (fun hc => absurd hc (hx1)) (fun _ => ?_)
  refine lv_aload_n hx hb dX5_addRegion_6 rfl (lv_at hl 0 rfl) ?_
  refine lv_iload_n hx hb dX5_addRegion_7 rfl (lv_at hl 1 rfl) ?_
  refine kgo_pi (v := 0) (kc_V (As := [.int x]) (rest := [.ref (bd 0)]) S hE hS hAb (cm_isRegionF ε l hm hB h) (cwV 1 hts gX5_addRegion_X5_isRegion rfl rfl rfl (by decide +kernel) ⟨Nat.le_of_ble_eq_true rfl, Nat.le_of_ble_eq_true rfl⟩) (hm.lv 0 (by decide)) rfl rfl hl.1 rfl (Nat.le_of_ble_eq_true rfl) dX5_addRegion_8 ⟨Nat.zero_le _, Nat.zero_le _⟩) hS (fun locs hS => ?_)
  refine lv_if_ne (tgt := 18) hx hb dX5_addRegion_11 (by decide) (fun hc => absurd (by decide) hc) (fun _ => ?_)
  refine lv_iconst (v := 1) hx hb dX5_addRegion_14 (by decide) ?_
  refine lv_goto (tgt := 32) hx hb dX5_addRegion_15 (by decide) ?_
  refine kr_top (y := nI 1) (rfl) ?_
  refine kr_put (T := TX5) (N := 28) (v := .int (nI 1)) (ty := .int) hx hb hts hown hK hS (hm.lv 0 (by decide)) (hm.1 0 (by decide)).2 rfl kin_X5_addRegion_X5 tyX5 tyX5_ok nmX5 27 (by decide) "ProbewebModel" (hts (.fieldLink RX5 78 "ProbewebModel" "thrown" "I") (by decide +kernel)) (fun _ h => h) rfl (by decide +kernel) rfl rfl (Nat.le_of_ble_eq_true rfl) dX5_addRegion_32 (fun H1 locs hU ho hS => ?_)
  have hm := km_p35 (v := 1) hm hU ho
  clear hU ho
  have hB : mB (mT τ 1) := hB
  refine lv_aload_n hx hb dX5_addRegion_35 rfl (lv_at hl 0 rfl) ?_
  refine kr_get (T := TX5) (N := 28) hx hb hts hown hK (hm.lv 0 (by decide)) rfl kin_X5_addRegion_X5 27 (by decide) (by decide +kernel) rfl dX5_addRegion_36 ?_
  refine kr_top (y := 1) (rfl) ?_
  refine lv_if_le (tgt := 44) hx hb dX5_addRegion_39 (by decide) (fun hc => absurd hc (by decide)) (fun _ => ?_)
  refine lv_iconst (v := 0) hx hb dX5_addRegion_42 (by decide) ?_
  refine kend_i S hr hlocks hS ⟨rfl, hm⟩ dX5_addRegion_43
set_option maxHeartbeats 4000000 in
set_option maxRecDepth 100000 in
theorem cm_addRegionX2a (ε : kEnv) (l : Launch) {A : Nat → Prop} {bd : Nat → Nat} {τ : kS} {H : Heap} (hAb : ∀ q, A q → kHi ε q) (hm : kM ε A bd τ H) (hB : mB τ) (h6 : τ 31 0 = 6) : kMi ε l yX5_addRegion wsX5_addRegion ({ frames := 6, cells := 0, slots := 0, locals := 140 }) [.ref (bd 0), .int ((-1))] H A (0) (0) (fun v H' => v = 0 ∧ kM ε A bd (mT τ 2) H') := by
  refine kof (cc := cX5_addRegion) (maxL := 2) (ret := (some .int)) (by decide) rfl (Nat.le_of_ble_eq_true rfl) ?_
  intro p e s m below meth c ls S hr hlocks hin hH hE hl
  have S : CallFix p m c cX5_addRegion 2 s _ wsX5_addRegion RX5 := S
  have hx := S.1
  have hb := S.2.1
  have hown : s.vm.findClass RX5 = some m.cls := S.2.2.2.1
  have hts := S.2.2.2.2
  have hK := hE.1
  have hS : va_S A s.heap H [] := by rw [hH]; exact va_S.rf
  have hl : lv_has ls 2 [(0, .ref (bd 0)), (1, .int ((-1)))] := hl
  have hnR := hB.nR
  have hnC := hB.nC
  have hnW := hB.nW
  have hnA := hB.nA
  have hmn := hB.min
  refine lv_aload_n hx hb dX5_addRegion_0 rfl (lv_at hl 0 rfl) ?_
  refine lv_iload_n hx hb dX5_addRegion_1 rfl (lv_at hl 1 rfl) ?_
  refine lv_iconst (v := -1) hx hb dX5_addRegion_2 (by decide) ?_
  refine lv_icmp_eq (tgt := 18) hx hb dX5_addRegion_3 (by decide) (fun _ => ?_) (fun hc => absurd (rfl) hc)
  refine lv_aload_n hx hb dX5_addRegion_18 rfl (lv_at hl 0 rfl) ?_
  refine kr_get (T := TX5) (N := 28) hx hb hts hown hK (hm.lv 0 (by decide)) rfl kin_X5_addRegion_X5 1 (by decide) (by decide +kernel) rfl dX5_addRegion_19 ?_
  refine lv_bipush (v := 6) hx hb dX5_addRegion_22 (by decide) ?_
  refine lv_icmp_ne (tgt := 31) hx hb dX5_addRegion_24 (by decide) (fun hc => absurd (by rw [h6]; rfl) hc) (fun _ => ?_)
  refine lv_iconst (v := 2) hx hb dX5_addRegion_27 (by decide) ?_
  refine lv_goto (tgt := 32) hx hb dX5_addRegion_28 (by decide) ?_
  refine kr_top (y := nI 2) (rfl) ?_
  refine kr_put (T := TX5) (N := 28) (v := .int (nI 2)) (ty := .int) hx hb hts hown hK hS (hm.lv 0 (by decide)) (hm.1 0 (by decide)).2 rfl kin_X5_addRegion_X5 tyX5 tyX5_ok nmX5 27 (by decide) "ProbewebModel" (hts (.fieldLink RX5 78 "ProbewebModel" "thrown" "I") (by decide +kernel)) (fun _ h => h) rfl (by decide +kernel) rfl rfl (Nat.le_of_ble_eq_true rfl) dX5_addRegion_32 (fun H1 locs hU ho hS => ?_)
  have hm := km_p35 (v := 2) hm hU ho
  clear hU ho
  have hB : mB (mT τ 2) := hB
  refine lv_aload_n hx hb dX5_addRegion_35 rfl (lv_at hl 0 rfl) ?_
  refine kr_get (T := TX5) (N := 28) hx hb hts hown hK (hm.lv 0 (by decide)) rfl kin_X5_addRegion_X5 27 (by decide) (by decide +kernel) rfl dX5_addRegion_36 ?_
  refine kr_top (y := 2) (rfl) ?_
  refine lv_if_le (tgt := 44) hx hb dX5_addRegion_39 (by decide) (fun hc => absurd hc (by decide)) (fun _ => ?_)
  refine lv_iconst (v := 0) hx hb dX5_addRegion_42 (by decide) ?_
  refine kend_i S hr hlocks hS ⟨rfl, hm⟩ dX5_addRegion_43
set_option maxHeartbeats 4000000 in
set_option maxRecDepth 100000 in
theorem cm_addRegionX2b (ε : kEnv) (l : Launch) {A : Nat → Prop} {bd : Nat → Nat} {τ : kS} {H : Heap} {r : Nat} (hAb : ∀ q, A q → kHi ε q) (hm : kM ε A bd τ H) (hB : mB τ) (hr0 : r < τ 31 0) (h6 : τ 31 0 = 6) : kMi ε l yX5_addRegion wsX5_addRegion ({ frames := 6, cells := 0, slots := 0, locals := 140 }) [.ref (bd 0), .int (nI r)] H A (0) (0) (fun v H' => v = 0 ∧ kM ε A bd (mT τ 2) H') := by
  refine kof (cc := cX5_addRegion) (maxL := 2) (ret := (some .int)) (by decide) rfl (Nat.le_of_ble_eq_true rfl) ?_
  intro p e s m below meth c ls S hr hlocks hin hH hE hl
  have S : CallFix p m c cX5_addRegion 2 s _ wsX5_addRegion RX5 := S
  have hx := S.1
  have hb := S.2.1
  have hown : s.vm.findClass RX5 = some m.cls := S.2.2.2.1
  have hts := S.2.2.2.2
  have hK := hE.1
  have hS : va_S A s.heap H [] := by rw [hH]; exact va_S.rf
  have hl : lv_has ls 2 [(0, .ref (bd 0)), (1, .int (nI r))] := hl
  have hnR := hB.nR
  have hnC := hB.nC
  have hnW := hB.nW
  have hnA := hB.nA
  have hmn := hB.min
  refine lv_aload_n hx hb dX5_addRegion_0 rfl (lv_at hl 0 rfl) ?_
  refine lv_iload_n hx hb dX5_addRegion_1 rfl (lv_at hl 1 rfl) ?_
  refine lv_iconst (v := -1) hx hb dX5_addRegion_2 (by decide) ?_
  refine lv_icmp_eq (tgt := 18) hx hb dX5_addRegion_3 (by decide) (fun hc => absurd hc (fun h => nI_pos (n := r) (by omega) (by rw [h]; decide))) (fun _ => ?_)
  refine lv_aload_n hx hb dX5_addRegion_6 rfl (lv_at hl 0 rfl) ?_
  refine lv_iload_n hx hb dX5_addRegion_7 rfl (lv_at hl 1 rfl) ?_
  refine kgo_pi (v := 1) (kc_V (As := [.int (nI r)]) (rest := [.ref (bd 0)]) S hE hS hAb (cm_isRegionT ε l hm hB hr0) (cwV 1 hts gX5_addRegion_X5_isRegion rfl rfl rfl (by decide +kernel) ⟨Nat.le_of_ble_eq_true rfl, Nat.le_of_ble_eq_true rfl⟩) (hm.lv 0 (by decide)) rfl rfl hl.1 rfl (Nat.le_of_ble_eq_true rfl) dX5_addRegion_8 ⟨Nat.zero_le _, Nat.zero_le _⟩) hS (fun locs hS => ?_)
  refine lv_if_ne (tgt := 18) hx hb dX5_addRegion_11 (by decide) (fun _ => ?_) (fun hc => absurd hc (by decide))
  refine lv_aload_n hx hb dX5_addRegion_18 rfl (lv_at hl 0 rfl) ?_
  refine kr_get (T := TX5) (N := 28) hx hb hts hown hK (hm.lv 0 (by decide)) rfl kin_X5_addRegion_X5 1 (by decide) (by decide +kernel) rfl dX5_addRegion_19 ?_
  refine lv_bipush (v := 6) hx hb dX5_addRegion_22 (by decide) ?_
  refine lv_icmp_ne (tgt := 31) hx hb dX5_addRegion_24 (by decide) (fun hc => absurd (by rw [h6]; rfl) hc) (fun _ => ?_)
  refine lv_iconst (v := 2) hx hb dX5_addRegion_27 (by decide) ?_
  refine lv_goto (tgt := 32) hx hb dX5_addRegion_28 (by decide) ?_
  refine kr_top (y := nI 2) (rfl) ?_
  refine kr_put (T := TX5) (N := 28) (v := .int (nI 2)) (ty := .int) hx hb hts hown hK hS (hm.lv 0 (by decide)) (hm.1 0 (by decide)).2 rfl kin_X5_addRegion_X5 tyX5 tyX5_ok nmX5 27 (by decide) "ProbewebModel" (hts (.fieldLink RX5 78 "ProbewebModel" "thrown" "I") (by decide +kernel)) (fun _ h => h) rfl (by decide +kernel) rfl rfl (Nat.le_of_ble_eq_true rfl) dX5_addRegion_32 (fun H1 locs hU ho hS => ?_)
  have hm := km_p35 (v := 2) hm hU ho
  clear hU ho
  have hB : mB (mT τ 2) := hB
  refine lv_aload_n hx hb dX5_addRegion_35 rfl (lv_at hl 0 rfl) ?_
  refine kr_get (T := TX5) (N := 28) hx hb hts hown hK (hm.lv 0 (by decide)) rfl kin_X5_addRegion_X5 27 (by decide) (by decide +kernel) rfl dX5_addRegion_36 ?_
  refine kr_top (y := 2) (rfl) ?_
  refine lv_if_le (tgt := 44) hx hb dX5_addRegion_39 (by decide) (fun hc => absurd hc (by decide)) (fun _ => ?_)
  refine lv_iconst (v := 0) hx hb dX5_addRegion_42 (by decide) ?_
  refine kend_i S hr hlocks hS ⟨rfl, hm⟩ dX5_addRegion_43
