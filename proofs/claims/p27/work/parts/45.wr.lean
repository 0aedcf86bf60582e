/-! ===== the public methods that write ===== -/
def kAddR (σ : kS) (p : Nat) : kS := ku (ku (ku σ 10 (σ 1 0) p) 11 (σ 1 0) (kwr (if p = 0 then 0 else σ 11 (p - 1)) (σ 1 0) true)) 1 0 (σ 1 0 + 1)
def kAddC (σ : kS) (a b d q : Nat) : kS := ku (ku (ku (ku (ku σ 20 (σ 2 0) a) 21 (σ 2 0) b) 22 (σ 2 0) d) 23 (σ 2 0) q) 2 0 (σ 2 0 + 1)
def kAddW (σ : kS) (c f t : Nat) : kS := ku (ku (ku (ku σ 40 (σ 3 0) c) 41 (σ 3 0) f) 42 (σ 3 0) (f + t - 1)) 3 0 (σ 3 0 + 1)
/-- what is not born yet is zero -/
def kZ0 (σ : kS) : Prop := (∀ r, σ 1 0 ≤ r → σ 12 r = 0 ∧ σ 13 r = 0) ∧ (∀ c, σ 2 0 ≤ c → σ 24 c = 0 ∧ σ 25 c = 0 ∧ σ 26 c = 0 ∧ σ 27 c = 0 ∧ σ 30 c = 0) ∧ ∀ j, 6 * σ 2 0 ≤ j → σ 31 j = 0 ∧ σ 32 j = 0 ∧ σ 33 j = 0
theorem kLv_el9 {σ : kS} {k i : Nat} (hi : i < 4) (hk : kow i k = true) {j : Nat} (hl : kLv σ k j) : j ≠ σ (i + 1) 0 := fun h => Nat.lt_irrefl _ (h ▸ kLv_own hi hk hl)
theorem kow_0 {k : Nat} (h : kow 0 k = true) : k = 3 := by simpa [kow] using h
theorem kow_2 {k : Nat} (h : kow 2 k = true) : k = 8 := by simpa [kow] using h
theorem kow_1 {k : Nat} (h : kow 1 k = true) : k = 4 ∨ k = 5 ∨ k = 6 ∨ k = 7 := by
  have h9 : 4 ≤ k ∧ k ≤ 7 := by simpa [kow] using h
  omega
theorem kin_X4_setDown_X4 : ∀ w ∈ wsX40, w ∈ wsX4_setDown := by decide +kernel
theorem kin_X4_setDown_X1 : ∀ w ∈ wsX10, w ∈ wsX4_setDown := by decide +kernel
theorem kin_X4_setCut_X4 : ∀ w ∈ wsX40, w ∈ wsX4_setCut := by decide +kernel
theorem kin_X4_setQuorum_X4 : ∀ w ∈ wsX40, w ∈ wsX4_setQuorum := by decide +kernel
theorem kin_X4_setQuorum_X1 : ∀ w ∈ wsX10, w ∈ wsX4_setQuorum := by decide +kernel
theorem kin_X4_endWindow_X4 : ∀ w ∈ wsX40, w ∈ wsX4_endWindow := by decide +kernel
theorem kin_X4_endWindow_X3 : ∀ w ∈ wsX30, w ∈ wsX4_endWindow := by decide +kernel
theorem kin_X4_addRegion_X4 : ∀ w ∈ wsX40, w ∈ wsX4_addRegion := by decide +kernel
theorem kin_X4_addRegion_X2 : ∀ w ∈ wsX20, w ∈ wsX4_addRegion := by decide +kernel
theorem kin_X4_addRegion_Jx4a65c : ∀ w ∈ wsJx4a65c0, w ∈ wsX4_addRegion := by decide +kernel
theorem kin_X4_addCheck_X4 : ∀ w ∈ wsX40, w ∈ wsX4_addCheck := by decide +kernel
theorem kin_X4_addCheck_X1 : ∀ w ∈ wsX10, w ∈ wsX4_addCheck := by decide +kernel
theorem kin_X4_addCheck_Jx4a65c : ∀ w ∈ wsJx4a65c0, w ∈ wsX4_addCheck := by decide +kernel
theorem kin_X4_addWindow_X4 : ∀ w ∈ wsX40, w ∈ wsX4_addWindow := by decide +kernel
theorem kin_X4_addWindow_X3 : ∀ w ∈ wsX30, w ∈ wsX4_addWindow := by decide +kernel
theorem kin_X4_addWindow_Jx4a65c : ∀ w ∈ wsJx4a65c0, w ∈ wsX4_addWindow := by decide +kernel
set_option maxHeartbeats 4000000 in
set_option maxRecDepth 100000 in
theorem cp_setDown (ε : kEnv) (l : Launch) {A : Nat → Prop} {ad : Nat → Nat → Nat} {σ : kS} {H : Heap} {i r : Nat} {b : Bool} (hAb : ∀ q, A q → kHi ε q) (hw : kW ε A ad σ H) (hB : kB σ) (hc0 : i < σ 2 0) (hr0 : r < σ 1 0) : kMi ε l yX4_setDown wsX4_setDown ({ frames := 5, cells := 0, slots := 0, locals := 120 }) [.ref (ad 0 0), .int (nI i), .int (nI r), .int (bI b)] H A (0) (0) (fun v H' => v = bI ((σ 30 i).testBit r) ∧ kW ε A ad (ku σ 30 i (kwr (σ 30 i) r b)) H') := by
  refine kof (cc := cX4_setDown) (maxL := 6) (ret := (some .boolean)) (by decide) rfl (Nat.le_of_ble_eq_true rfl) ?_
  intro p e s m below meth c ls S hr hlocks hin hH hE hl
  have S : CallFix p m c cX4_setDown 6 s _ wsX4_setDown RX4 := S
  have hx := S.1
  have hb := S.2.1
  have hown : s.vm.findClass RX4 = some m.cls := S.2.2.2.1
  have hts := S.2.2.2.2
  have hK := hE.1
  have hS : va_S A s.heap H [] := by rw [hH]; exact va_S.rf
  have hnR := hB.nR
  have hnC := hB.nC
  have hnW := hB.nW
  have hnA := hB.nA
  have hmn := hB.min
  have hl : lv_has ls 6 [(0, .ref (ad 0 0)), (1, .int (nI i)), (2, .int (nI r)), (3, .int (bI b))] := hl
  refine lv_aload_n hx hb dX4_setDown_0 rfl (lv_at hl 0 rfl) ?_
  refine lv_iload_n hx hb dX4_setDown_1 rfl (lv_at hl 1 rfl) ?_
  refine kgo_pv (kc_V (As := [.int (nI i)]) (rest := []) S hE hS hAb (cc_requireCheck ε l hw hB hc0) (cwV 1 hts gX4_setDown_X4_requireCheck rfl rfl rfl (by decide +kernel) ⟨Nat.le_of_ble_eq_true rfl, Nat.le_of_ble_eq_true rfl⟩) (hw.lv 0 0 (rfl : (0 : Nat) = 0)) rfl rfl hl.1 rfl (Nat.le_of_ble_eq_true rfl) dX4_setDown_2 ⟨Nat.zero_le _, Nat.zero_le _⟩) hS (fun locs hS => ?_)
  refine lv_aload_n hx hb dX4_setDown_5 rfl (lv_at hl 0 rfl) ?_
  refine lv_iload_n hx hb dX4_setDown_6 rfl (lv_at hl 2 rfl) ?_
  refine kgo_pv (kc_V (As := [.int (nI r)]) (rest := []) S hE hS hAb (cc_requireRegion ε l hw hB hr0) (cwV 1 hts gX4_setDown_X4_requireRegion rfl rfl rfl (by decide +kernel) ⟨Nat.le_of_ble_eq_true rfl, Nat.le_of_ble_eq_true rfl⟩) (hw.lv 0 0 (rfl : (0 : Nat) = 0)) rfl rfl hl.1 rfl (Nat.le_of_ble_eq_true rfl) dX4_setDown_7 ⟨Nat.zero_le _, Nat.zero_le _⟩) hS (fun locs hS => ?_)
  have hr6 := hB.r6 hr0
  have h30 := (hB.ck i hc0).2.2.2.2.2.1
  refine lv_aload_n hx hb dX4_setDown_10 rfl (lv_at hl 0 rfl) ?_
  refine kr_get (T := TX4) (N := 7) hx hb hts hown hK (hw.lv 0 0 (rfl : (0 : Nat) = 0)) rfl kin_X4_setDown_X4 1 (by decide) (by decide +kernel) rfl dX4_setDown_11 ?_
  refine lv_iload_n hx hb dX4_setDown_14 rfl (lv_at hl 1 rfl) ?_
  refine kgo_pr (v := ad 4 i) (kc_V (As := [.int (nI i)]) (rest := []) S hE hS hAb (kw_get l hw hB 1 (by decide) (j := i) (x := ad 4 i) hc0 rfl) (cwV 1 hts gX4_setDown_Jx4a65c_get_915e3 rfl rfl rfl (by decide +kernel) ⟨Nat.le_of_ble_eq_true rfl, Nat.le_of_ble_eq_true rfl⟩) (hw.lv 1 1 (by decide : (1 : Nat) < 4)) rfl rfl hl.1 rfl (Nat.le_of_ble_eq_true rfl) dX4_setDown_15 ⟨Nat.zero_le _, Nat.zero_le _⟩) hS (fun locs hS => ?_)
  refine kr_cast (T := TX1) (N := 13) hx hb hts hown hK (hw.lv 4 i hc0) rfl (by decide +kernel) dX4_setDown_18 ?_
  refine lv_astore (lv' := [(4, .ref (ad 4 i)), (0, .ref (ad 0 0)), (1, .int (nI i)), (2, .int (nI r)), (3, .int (bI b))]) hx hb dX4_setDown_21 hl (by decide) rfl (fun ls hl => ?_)
  refine lv_aload hx hb dX4_setDown_23 (lv_at hl 0 rfl) ?_
  refine kr_get (T := TX1) (N := 13) hx hb hts hown hK (hw.lv 4 i hc0) rfl kin_X4_setDown_X1 5 (by decide) (by decide +kernel) rfl dX4_setDown_25 ?_
  refine lv_iload_n hx hb dX4_setDown_28 rfl (lv_at hl 3 rfl) ?_
  refine kgo_pi (v := bI ((σ 30 i).testBit r)) (kc_S (As := [.int (nI (σ 30 i)), .int (nI r)]) (rest := []) S hE hS hAb (cc_holds ε l h30 hr6) (va_cwS 2 hts gX4_setDown_X4_holds rfl rfl rfl (by decide +kernel) ⟨Nat.le_of_ble_eq_true rfl, Nat.le_of_ble_eq_true rfl⟩) rfl hl.1 rfl (Nat.le_of_ble_eq_true rfl) dX4_setDown_29 ⟨Nat.zero_le _, Nat.zero_le _⟩) hS (fun locs hS => ?_)
  refine lv_istore (lv' := [(5, .int (bI ((σ 30 i).testBit r))), (4, .ref (ad 4 i)), (0, .ref (ad 0 0)), (1, .int (nI i)), (2, .int (nI r)), (3, .int (bI b))]) hx hb dX4_setDown_32 hl (by decide) rfl (fun ls hl => ?_)
  refine lv_aload hx hb dX4_setDown_34 (lv_at hl 1 rfl) ?_
  refine lv_aload hx hb dX4_setDown_36 (lv_at hl 1 rfl) ?_
  refine kr_get (T := TX1) (N := 13) hx hb hts hown hK (hw.lv 4 i hc0) rfl kin_X4_setDown_X1 5 (by decide) (by decide +kernel) rfl dX4_setDown_38 ?_
  refine lv_iload_n hx hb dX4_setDown_41 rfl (lv_at hl 4 rfl) ?_
  refine lv_iload_n hx hb dX4_setDown_42 rfl (lv_at hl 5 rfl) ?_
  refine kgo_pi (v := nI (kwr (σ 30 i) r b)) (kc_S (As := [.int (nI (σ 30 i)), .int (nI r), .int (bI b)]) (rest := [.ref (ad 4 i)]) S hE hS hAb (cc_with ε l (b := b) h30 hr6) (va_cwS 3 hts gX4_setDown_X4_withRegion rfl rfl rfl (by decide +kernel) ⟨Nat.le_of_ble_eq_true rfl, Nat.le_of_ble_eq_true rfl⟩) rfl hl.1 rfl (Nat.le_of_ble_eq_true rfl) dX4_setDown_43 ⟨Nat.zero_le _, Nat.zero_le _⟩) hS (fun locs hS => ?_)
  refine kr_put (T := TX1) (N := 13) (v := .int (nI (kwr (σ 30 i) r b))) (ty := .int) hx hb hts hown hK hS (hw.lv 4 i hc0) (hw.1 4 i hc0).2 rfl kin_X4_setDown_X1 tyX1 tyX1_ok nmX1 5 (by decide) "Probeweb$Check" (hts (.fieldLink RX4 80 "Probeweb$Check" "downRegions" "I") (by decide +kernel)) (fun _ h => h) rfl (by decide +kernel) rfl rfl (Nat.le_of_ble_eq_true rfl) dX4_setDown_46 (fun H1 locs hU ho hS => ?_)
  have hw := kw_p30 (v := kwr (σ 30 i) r b) hw hc0 hU ho
  clear hU ho
  refine lv_iload hx hb dX4_setDown_49 (lv_at hl 0 rfl) ?_
  refine kend_z S hr hlocks hS ⟨rfl, hw⟩ (bI_01 _) dX4_setDown_51
set_option maxHeartbeats 4000000 in
set_option maxRecDepth 100000 in
theorem cpx_setDown1 (ε : kEnv) (l : Launch) {A : Nat → Prop} {ad : Nat → Nat → Nat} {σ : kS} {H : Heap} {x y z : Int32} (hw : kW ε A ad σ H) (hB : kB σ) (hst : l.stackTraces = false) (h : x < 0 ∨ nI (σ 2 0) ≤ x) : kX ε l yX4_setDown wsX4_setDown ({ frames := 7, cells := 1, slots := 6, locals := 120 }) [.ref (ad 0 0), .int x, .int y, .int z] H "java/lang/IndexOutOfBoundsException" := by
  refine kofX (cc := cX4_setDown) (maxL := 6) (ret := (some .boolean)) (by decide) rfl (Nat.le_of_ble_eq_true rfl) ?_
  intro p e s m below meth c ls S hr hlocks hT hH hE hl
  have S : CallFix p m c cX4_setDown 6 s _ wsX4_setDown RX4 := S
  have hx := S.1
  have hb := S.2.1
  have hown : s.vm.findClass RX4 = some m.cls := S.2.2.2.1
  have hts := S.2.2.2.2
  have hK := hE.1
  have hS : va_S kNo s.heap H [] := by rw [hH]; exact va_S.rf
  have hAb : ∀ q, kNo q → kHi ε q := fun _ h => h.elim
  have hnR := hB.nR
  have hnC := hB.nC
  have hnW := hB.nW
  have hnA := hB.nA
  have hmn := hB.min
  have hl : lv_has ls 6 [(0, .ref (ad 0 0)), (1, .int x), (2, .int y), (3, .int z)] := hl
  refine lv_aload_n hx hb dX4_setDown_0 rfl (lv_at hl 0 rfl) ?_
  refine lv_iload_n hx hb dX4_setDown_1 rfl (lv_at hl 1 rfl) ?_
  exact kthru hT hlocks hH (kx_V (As := [.int x]) (rest := []) S hE hS hAb (cx_requireCheck ε l hw hB hst h) (cwV 1 hts gX4_setDown_X4_requireCheck rfl rfl rfl (by decide +kernel) ⟨Nat.le_of_ble_eq_true rfl, Nat.le_of_ble_eq_true rfl⟩) (hw.lv 0 0 (rfl : (0 : Nat) = 0)) rfl rfl hl.1 rfl (Nat.le_of_ble_eq_true rfl) dX4_setDown_2 ⟨Nat.le_refl _, Nat.le_refl _⟩) hS
set_option maxHeartbeats 4000000 in
set_option maxRecDepth 100000 in
theorem cpx_setDown2 (ε : kEnv) (l : Launch) {A : Nat → Prop} {ad : Nat → Nat → Nat} {σ : kS} {H : Heap} {i : Nat} {y z : Int32} (hw : kW ε A ad σ H) (hB : kB σ) (hst : l.stackTraces = false) (hc0 : i < σ 2 0) (h : y < 0 ∨ nI (σ 1 0) ≤ y) : kX ε l yX4_setDown wsX4_setDown ({ frames := 7, cells := 1, slots := 6, locals := 120 }) [.ref (ad 0 0), .int (nI i), .int y, .int z] H "java/lang/IndexOutOfBoundsException" := by
  refine kofX (cc := cX4_setDown) (maxL := 6) (ret := (some .boolean)) (by decide) rfl (Nat.le_of_ble_eq_true rfl) ?_
  intro p e s m below meth c ls S hr hlocks hT hH hE hl
  have S : CallFix p m c cX4_setDown 6 s _ wsX4_setDown RX4 := S
  have hx := S.1
  have hb := S.2.1
  have hown : s.vm.findClass RX4 = some m.cls := S.2.2.2.1
  have hts := S.2.2.2.2
  have hK := hE.1
  have hS : va_S kNo s.heap H [] := by rw [hH]; exact va_S.rf
  have hAb : ∀ q, kNo q → kHi ε q := fun _ h => h.elim
  have hnR := hB.nR
  have hnC := hB.nC
  have hnW := hB.nW
  have hnA := hB.nA
  have hmn := hB.min
  have hl : lv_has ls 6 [(0, .ref (ad 0 0)), (1, .int (nI i)), (2, .int y), (3, .int z)] := hl
  refine lv_aload_n hx hb dX4_setDown_0 rfl (lv_at hl 0 rfl) ?_
  refine lv_iload_n hx hb dX4_setDown_1 rfl (lv_at hl 1 rfl) ?_
  refine kgo_pv (kc_V (As := [.int (nI i)]) (rest := []) S hE hS hAb (cc_requireCheck ε l hw hB hc0) (cwV 1 hts gX4_setDown_X4_requireCheck rfl rfl rfl (by decide +kernel) ⟨Nat.le_of_ble_eq_true rfl, Nat.le_of_ble_eq_true rfl⟩) (hw.lv 0 0 (rfl : (0 : Nat) = 0)) rfl rfl hl.1 rfl (Nat.le_of_ble_eq_true rfl) dX4_setDown_2 ⟨Nat.zero_le _, Nat.zero_le _⟩) hS (fun locs hS => ?_)
  refine lv_aload_n hx hb dX4_setDown_5 rfl (lv_at hl 0 rfl) ?_
  refine lv_iload_n hx hb dX4_setDown_6 rfl (lv_at hl 2 rfl) ?_
  exact kthru hT hlocks hH (kx_V (As := [.int y]) (rest := []) S hE hS hAb (cx_requireRegion ε l hw hB hst h) (cwV 1 hts gX4_setDown_X4_requireRegion rfl rfl rfl (by decide +kernel) ⟨Nat.le_of_ble_eq_true rfl, Nat.le_of_ble_eq_true rfl⟩) (hw.lv 0 0 (rfl : (0 : Nat) = 0)) rfl rfl hl.1 rfl (Nat.le_of_ble_eq_true rfl) dX4_setDown_7 ⟨Nat.le_refl _, Nat.le_refl _⟩) hS
set_option maxHeartbeats 4000000 in
set_option maxRecDepth 100000 in
theorem cp_setCut (ε : kEnv) (l : Launch) {A : Nat → Prop} {ad : Nat → Nat → Nat} {σ : kS} {H : Heap} {r : Nat} {b : Bool} (hAb : ∀ q, A q → kHi ε q) (hw : kW ε A ad σ H) (hB : kB σ) (hr0 : r < σ 1 0) : kMi ε l yX4_setCut wsX4_setCut ({ frames := 5, cells := 0, slots := 0, locals := 120 }) [.ref (ad 0 0), .int (nI r), .int (bI b)] H A (0) (0) (fun v H' => v = bI ((σ 14 0).testBit r) ∧ kW ε A ad (ku σ 14 0 (kwr (σ 14 0) r b)) H') := by
  refine kof (cc := cX4_setCut) (maxL := 4) (ret := (some .boolean)) (by decide) rfl (Nat.le_of_ble_eq_true rfl) ?_
  intro p e s m below meth c ls S hr hlocks hin hH hE hl
  have S : CallFix p m c cX4_setCut 4 s _ wsX4_setCut RX4 := S
  have hx := S.1
  have hb := S.2.1
  have hown : s.vm.findClass RX4 = some m.cls := S.2.2.2.1
  have hts := S.2.2.2.2
  have hK := hE.1
  have hS : va_S A s.heap H [] := by rw [hH]; exact va_S.rf
  have hnR := hB.nR
  have hnC := hB.nC
  have hnW := hB.nW
  have hnA := hB.nA
  have hmn := hB.min
  have hl : lv_has ls 4 [(0, .ref (ad 0 0)), (1, .int (nI r)), (2, .int (bI b))] := hl
  refine lv_aload_n hx hb dX4_setCut_0 rfl (lv_at hl 0 rfl) ?_
  refine lv_iload_n hx hb dX4_setCut_1 rfl (lv_at hl 1 rfl) ?_
  refine kgo_pv (kc_V (As := [.int (nI r)]) (rest := []) S hE hS hAb (cc_requireRegion ε l hw hB hr0) (cwV 1 hts gX4_setCut_X4_requireRegion rfl rfl rfl (by decide +kernel) ⟨Nat.le_of_ble_eq_true rfl, Nat.le_of_ble_eq_true rfl⟩) (hw.lv 0 0 (rfl : (0 : Nat) = 0)) rfl rfl hl.1 rfl (Nat.le_of_ble_eq_true rfl) dX4_setCut_2 ⟨Nat.zero_le _, Nat.zero_le _⟩) hS (fun locs hS => ?_)
  have hr6 := hB.r6 hr0
  refine lv_aload_n hx hb dX4_setCut_5 rfl (lv_at hl 0 rfl) ?_
  refine kr_get (T := TX4) (N := 7) hx hb hts hown hK (hw.lv 0 0 (rfl : (0 : Nat) = 0)) rfl kin_X4_setCut_X4 4 (by decide) (by decide +kernel) rfl dX4_setCut_6 ?_
  refine lv_iload_n hx hb dX4_setCut_9 rfl (lv_at hl 1 rfl) ?_
  refine kgo_pi (v := bI ((σ 14 0).testBit r)) (kc_S (As := [.int (nI (σ 14 0)), .int (nI r)]) (rest := []) S hE hS hAb (cc_holds ε l hB.cut hr6) (va_cwS 2 hts gX4_setCut_X4_holds rfl rfl rfl (by decide +kernel) ⟨Nat.le_of_ble_eq_true rfl, Nat.le_of_ble_eq_true rfl⟩) rfl hl.1 rfl (Nat.le_of_ble_eq_true rfl) dX4_setCut_10 ⟨Nat.zero_le _, Nat.zero_le _⟩) hS (fun locs hS => ?_)
  refine lv_istore_n (lv' := [(3, .int (bI ((σ 14 0).testBit r))), (0, .ref (ad 0 0)), (1, .int (nI r)), (2, .int (bI b))]) hx hb dX4_setCut_13 rfl hl (by decide) rfl (fun ls hl => ?_)
  refine lv_aload_n hx hb dX4_setCut_14 rfl (lv_at hl 1 rfl) ?_
  refine lv_aload_n hx hb dX4_setCut_15 rfl (lv_at hl 1 rfl) ?_
  refine kr_get (T := TX4) (N := 7) hx hb hts hown hK (hw.lv 0 0 (rfl : (0 : Nat) = 0)) rfl kin_X4_setCut_X4 4 (by decide) (by decide +kernel) rfl dX4_setCut_16 ?_
  refine lv_iload_n hx hb dX4_setCut_19 rfl (lv_at hl 2 rfl) ?_
  refine lv_iload_n hx hb dX4_setCut_20 rfl (lv_at hl 3 rfl) ?_
  refine kgo_pi (v := nI (kwr (σ 14 0) r b)) (kc_S (As := [.int (nI (σ 14 0)), .int (nI r), .int (bI b)]) (rest := [.ref (ad 0 0)]) S hE hS hAb (cc_with ε l (b := b) hB.cut hr6) (va_cwS 3 hts gX4_setCut_X4_withRegion rfl rfl rfl (by decide +kernel) ⟨Nat.le_of_ble_eq_true rfl, Nat.le_of_ble_eq_true rfl⟩) rfl hl.1 rfl (Nat.le_of_ble_eq_true rfl) dX4_setCut_21 ⟨Nat.zero_le _, Nat.zero_le _⟩) hS (fun locs hS => ?_)
  refine kr_put (T := TX4) (N := 7) (v := .int (nI (kwr (σ 14 0) r b))) (ty := .int) hx hb hts hown hK hS (hw.lv 0 0 (rfl : (0 : Nat) = 0)) (hw.1 0 0 (rfl : (0 : Nat) = 0)).2 rfl kin_X4_setCut_X4 tyX4 tyX4_ok nmX4 4 (by decide) "Probeweb" (hts (.fieldLink RX4 25 "Probeweb" "cutRegions" "I") (by decide +kernel)) (fun _ h => h) rfl (by decide +kernel) rfl rfl (Nat.le_of_ble_eq_true rfl) dX4_setCut_24 (fun H1 locs hU ho hS => ?_)
  have hw := kw_p14 (v := kwr (σ 14 0) r b) hw hU ho
  clear hU ho
  refine lv_iload_n hx hb dX4_setCut_27 rfl (lv_at hl 0 rfl) ?_
  refine kend_z S hr hlocks hS ⟨rfl, hw⟩ (bI_01 _) dX4_setCut_28
set_option maxHeartbeats 4000000 in
set_option maxRecDepth 100000 in
theorem cpx_setCut (ε : kEnv) (l : Launch) {A : Nat → Prop} {ad : Nat → Nat → Nat} {σ : kS} {H : Heap} {x y : Int32} (hw : kW ε A ad σ H) (hB : kB σ) (hst : l.stackTraces = false) (h : x < 0 ∨ nI (σ 1 0) ≤ x) : kX ε l yX4_setCut wsX4_setCut ({ frames := 7, cells := 1, slots := 6, locals := 120 }) [.ref (ad 0 0), .int x, .int y] H "java/lang/IndexOutOfBoundsException" := by
  refine kofX (cc := cX4_setCut) (maxL := 4) (ret := (some .boolean)) (by decide) rfl (Nat.le_of_ble_eq_true rfl) ?_
  intro p e s m below meth c ls S hr hlocks hT hH hE hl
  have S : CallFix p m c cX4_setCut 4 s _ wsX4_setCut RX4 := S
  have hx := S.1
  have hb := S.2.1
  have hown : s.vm.findClass RX4 = some m.cls := S.2.2.2.1
  have hts := S.2.2.2.2
  have hK := hE.1
  have hS : va_S kNo s.heap H [] := by rw [hH]; exact va_S.rf
  have hAb : ∀ q, kNo q → kHi ε q := fun _ h => h.elim
  have hnR := hB.nR
  have hnC := hB.nC
  have hnW := hB.nW
  have hnA := hB.nA
  have hmn := hB.min
  have hl : lv_has ls 4 [(0, .ref (ad 0 0)), (1, .int x), (2, .int y)] := hl
  refine lv_aload_n hx hb dX4_setCut_0 rfl (lv_at hl 0 rfl) ?_
  refine lv_iload_n hx hb dX4_setCut_1 rfl (lv_at hl 1 rfl) ?_
  exact kthru hT hlocks hH (kx_V (As := [.int x]) (rest := []) S hE hS hAb (cx_requireRegion ε l hw hB hst h) (cwV 1 hts gX4_setCut_X4_requireRegion rfl rfl rfl (by decide +kernel) ⟨Nat.le_of_ble_eq_true rfl, Nat.le_of_ble_eq_true rfl⟩) (hw.lv 0 0 (rfl : (0 : Nat) = 0)) rfl rfl hl.1 rfl (Nat.le_of_ble_eq_true rfl) dX4_setCut_2 ⟨Nat.le_refl _, Nat.le_refl _⟩) hS
set_option maxHeartbeats 4000000 in
set_option maxRecDepth 100000 in
theorem cp_setQuorum (ε : kEnv) (l : Launch) {A : Nat → Prop} {ad : Nat → Nat → Nat} {σ : kS} {H : Heap} {i t : Nat} (hAb : ∀ q, A q → kHi ε q) (hw : kW ε A ad σ H) (hB : kB σ) (hc0 : i < σ 2 0) (ht1 : 1 ≤ t) (ht2 : t ≤ 6) : kMi ε l yX4_setQuorum wsX4_setQuorum ({ frames := 5, cells := 0, slots := 0, locals := 120 }) [.ref (ad 0 0), .int (nI i), .int (nI t)] H A (0) (0) (fun v H' => v = nI (σ 23 i) ∧ kW ε A ad (ku σ 23 i t) H') := by
  refine kof (cc := cX4_setQuorum) (maxL := 5) (ret := (some .int)) (by decide) rfl (Nat.le_of_ble_eq_true rfl) ?_
  intro p e s m below meth c ls S hr hlocks hin hH hE hl
  have S : CallFix p m c cX4_setQuorum 5 s _ wsX4_setQuorum RX4 := S
  have hx := S.1
  have hb := S.2.1
  have hown : s.vm.findClass RX4 = some m.cls := S.2.2.2.1
  have hts := S.2.2.2.2
  have hK := hE.1
  have hS : va_S A s.heap H [] := by rw [hH]; exact va_S.rf
  have hnR := hB.nR
  have hnC := hB.nC
  have hnW := hB.nW
  have hnA := hB.nA
  have hmn := hB.min
  have hl : lv_has ls 5 [(0, .ref (ad 0 0)), (1, .int (nI i)), (2, .int (nI t))] := hl
  refine lv_aload_n hx hb dX4_setQuorum_0 rfl (lv_at hl 0 rfl) ?_
  refine lv_iload_n hx hb dX4_setQuorum_1 rfl (lv_at hl 1 rfl) ?_
  refine kgo_pv (kc_V (As := [.int (nI i)]) (rest := []) S hE hS hAb (cc_requireCheck ε l hw hB hc0) (cwV 1 hts gX4_setQuorum_X4_requireCheck rfl rfl rfl (by decide +kernel) ⟨Nat.le_of_ble_eq_true rfl, Nat.le_of_ble_eq_true rfl⟩) (hw.lv 0 0 (rfl : (0 : Nat) = 0)) rfl rfl hl.1 rfl (Nat.le_of_ble_eq_true rfl) dX4_setQuorum_2 ⟨Nat.zero_le _, Nat.zero_le _⟩) hS (fun locs hS => ?_)
  refine lv_iload_n hx hb dX4_setQuorum_5 rfl (lv_at hl 2 rfl) ?_
  refine lv_iconst (v := 1) hx hb dX4_setQuorum_6 (by decide) ?_
  refine lv_bipush (v := 6) hx hb dX4_setQuorum_7 (by decide) ?_
  refine kgo_pv (kc_S (As := [.int (nI t), .int 1, .int 6]) (rest := []) S hE hS hAb (cc_rng ε l (nI_nlt (a := t) (b := 1) ht1 (by omega)) (nI_leI (a := t) (b := 6) (by omega) (by decide) |>.mpr ht2)) (va_cwS 3 hts gX4_setQuorum_X4_requireRange rfl rfl rfl (by decide +kernel) ⟨Nat.le_of_ble_eq_true rfl, Nat.le_of_ble_eq_true rfl⟩) rfl hl.1 rfl (Nat.le_of_ble_eq_true rfl) dX4_setQuorum_9 ⟨Nat.zero_le _, Nat.zero_le _⟩) hS (fun locs hS => ?_)
  refine lv_aload_n hx hb dX4_setQuorum_12 rfl (lv_at hl 0 rfl) ?_
  refine kr_get (T := TX4) (N := 7) hx hb hts hown hK (hw.lv 0 0 (rfl : (0 : Nat) = 0)) rfl kin_X4_setQuorum_X4 1 (by decide) (by decide +kernel) rfl dX4_setQuorum_13 ?_
  refine lv_iload_n hx hb dX4_setQuorum_16 rfl (lv_at hl 1 rfl) ?_
  refine kgo_pr (v := ad 4 i) (kc_V (As := [.int (nI i)]) (rest := []) S hE hS hAb (kw_get l hw hB 1 (by decide) (j := i) (x := ad 4 i) hc0 rfl) (cwV 1 hts gX4_setQuorum_Jx4a65c_get_915e3 rfl rfl rfl (by decide +kernel) ⟨Nat.le_of_ble_eq_true rfl, Nat.le_of_ble_eq_true rfl⟩) (hw.lv 1 1 (by decide : (1 : Nat) < 4)) rfl rfl hl.1 rfl (Nat.le_of_ble_eq_true rfl) dX4_setQuorum_17 ⟨Nat.zero_le _, Nat.zero_le _⟩) hS (fun locs hS => ?_)
  refine kr_cast (T := TX1) (N := 13) hx hb hts hown hK (hw.lv 4 i hc0) rfl (by decide +kernel) dX4_setQuorum_20 ?_
  refine lv_astore_n (lv' := [(3, .ref (ad 4 i)), (0, .ref (ad 0 0)), (1, .int (nI i)), (2, .int (nI t))]) hx hb dX4_setQuorum_23 rfl hl (by decide) rfl (fun ls hl => ?_)
  refine lv_aload_n hx hb dX4_setQuorum_24 rfl (lv_at hl 0 rfl) ?_
  refine kr_get (T := TX1) (N := 13) hx hb hts hown hK (hw.lv 4 i hc0) rfl kin_X4_setQuorum_X1 4 (by decide) (by decide +kernel) rfl dX4_setQuorum_25 ?_
  refine lv_istore (lv' := [(4, .int (nI (σ 23 i))), (3, .ref (ad 4 i)), (0, .ref (ad 0 0)), (1, .int (nI i)), (2, .int (nI t))]) hx hb dX4_setQuorum_28 hl (by decide) rfl (fun ls hl => ?_)
  refine lv_aload_n hx hb dX4_setQuorum_30 rfl (lv_at hl 1 rfl) ?_
  refine lv_iload_n hx hb dX4_setQuorum_31 rfl (lv_at hl 4 rfl) ?_
  refine kr_put (T := TX1) (N := 13) (v := .int (nI t)) (ty := .int) hx hb hts hown hK hS (hw.lv 4 i hc0) (hw.1 4 i hc0).2 rfl kin_X4_setQuorum_X1 tyX1 tyX1_ok nmX1 4 (by decide) "Probeweb$Check" (hts (.fieldLink RX4 91 "Probeweb$Check" "quorum" "I") (by decide +kernel)) (fun _ h => h) rfl (by decide +kernel) rfl rfl (Nat.le_of_ble_eq_true rfl) dX4_setQuorum_32 (fun H1 locs hU ho hS => ?_)
  have hw := kw_p23 (v := t) hw hc0 hU ho
  clear hU ho
  refine lv_iload hx hb dX4_setQuorum_35 (lv_at hl 0 rfl) ?_
  refine kend_i S hr hlocks hS ⟨rfl, hw⟩ dX4_setQuorum_37
set_option maxHeartbeats 4000000 in
set_option maxRecDepth 100000 in
theorem cpx_setQuorum1 (ε : kEnv) (l : Launch) {A : Nat → Prop} {ad : Nat → Nat → Nat} {σ : kS} {H : Heap} {x y : Int32} (hw : kW ε A ad σ H) (hB : kB σ) (hst : l.stackTraces = false) (h : x < 0 ∨ nI (σ 2 0) ≤ x) : kX ε l yX4_setQuorum wsX4_setQuorum ({ frames := 7, cells := 1, slots := 6, locals := 120 }) [.ref (ad 0 0), .int x, .int y] H "java/lang/IndexOutOfBoundsException" := by
  refine kofX (cc := cX4_setQuorum) (maxL := 5) (ret := (some .int)) (by decide) rfl (Nat.le_of_ble_eq_true rfl) ?_
  intro p e s m below meth c ls S hr hlocks hT hH hE hl
  have S : CallFix p m c cX4_setQuorum 5 s _ wsX4_setQuorum RX4 := S
  have hx := S.1
  have hb := S.2.1
  have hown : s.vm.findClass RX4 = some m.cls := S.2.2.2.1
  have hts := S.2.2.2.2
  have hK := hE.1
  have hS : va_S kNo s.heap H [] := by rw [hH]; exact va_S.rf
  have hAb : ∀ q, kNo q → kHi ε q := fun _ h => h.elim
  have hnR := hB.nR
  have hnC := hB.nC
  have hnW := hB.nW
  have hnA := hB.nA
  have hmn := hB.min
  have hl : lv_has ls 5 [(0, .ref (ad 0 0)), (1, .int x), (2, .int y)] := hl
  refine lv_aload_n hx hb dX4_setQuorum_0 rfl (lv_at hl 0 rfl) ?_
  refine lv_iload_n hx hb dX4_setQuorum_1 rfl (lv_at hl 1 rfl) ?_
  exact kthru hT hlocks hH (kx_V (As := [.int x]) (rest := []) S hE hS hAb (cx_requireCheck ε l hw hB hst h) (cwV 1 hts gX4_setQuorum_X4_requireCheck rfl rfl rfl (by decide +kernel) ⟨Nat.le_of_ble_eq_true rfl, Nat.le_of_ble_eq_true rfl⟩) (hw.lv 0 0 (rfl : (0 : Nat) = 0)) rfl rfl hl.1 rfl (Nat.le_of_ble_eq_true rfl) dX4_setQuorum_2 ⟨Nat.le_refl _, Nat.le_refl _⟩) hS
set_option maxHeartbeats 4000000 in
set_option maxRecDepth 100000 in
theorem cpx_setQuorum2 (ε : kEnv) (l : Launch) {A : Nat → Prop} {ad : Nat → Nat → Nat} {σ : kS} {H : Heap} {i : Nat} {y : Int32} (hw : kW ε A ad σ H) (hB : kB σ) (hst : l.stackTraces = false) (hc0 : i < σ 2 0) (h : y < 1 ∨ ¬ y ≤ 6) : kX ε l yX4_setQuorum wsX4_setQuorum ({ frames := 7, cells := 1, slots := 6, locals := 120 }) [.ref (ad 0 0), .int (nI i), .int y] H "java/lang/IllegalArgumentException" := by
  refine kofX (cc := cX4_setQuorum) (maxL := 5) (ret := (some .int)) (by decide) rfl (Nat.le_of_ble_eq_true rfl) ?_
  intro p e s m below meth c ls S hr hlocks hT hH hE hl
  have S : CallFix p m c cX4_setQuorum 5 s _ wsX4_setQuorum RX4 := S
  have hx := S.1
  have hb := S.2.1
  have hown : s.vm.findClass RX4 = some m.cls := S.2.2.2.1
  have hts := S.2.2.2.2
  have hK := hE.1
  have hS : va_S kNo s.heap H [] := by rw [hH]; exact va_S.rf
  have hAb : ∀ q, kNo q → kHi ε q := fun _ h => h.elim
  have hnR := hB.nR
  have hnC := hB.nC
  have hnW := hB.nW
  have hnA := hB.nA
  have hmn := hB.min
  have hl : lv_has ls 5 [(0, .ref (ad 0 0)), (1, .int (nI i)), (2, .int y)] := hl
  refine lv_aload_n hx hb dX4_setQuorum_0 rfl (lv_at hl 0 rfl) ?_
  refine lv_iload_n hx hb dX4_setQuorum_1 rfl (lv_at hl 1 rfl) ?_
  refine kgo_pv (kc_V (As := [.int (nI i)]) (rest := []) S hE hS hAb (cc_requireCheck ε l hw hB hc0) (cwV 1 hts gX4_setQuorum_X4_requireCheck rfl rfl rfl (by decide +kernel) ⟨Nat.le_of_ble_eq_true rfl, Nat.le_of_ble_eq_true rfl⟩) (hw.lv 0 0 (rfl : (0 : Nat) = 0)) rfl rfl hl.1 rfl (Nat.le_of_ble_eq_true rfl) dX4_setQuorum_2 ⟨Nat.zero_le _, Nat.zero_le _⟩) hS (fun locs hS => ?_)
  refine lv_iload_n hx hb dX4_setQuorum_5 rfl (lv_at hl 2 rfl) ?_
  refine lv_iconst (v := 1) hx hb dX4_setQuorum_6 (by decide) ?_
  refine lv_bipush (v := 6) hx hb dX4_setQuorum_7 (by decide) ?_
  exact kthru hT hlocks hH (kx_S (As := [.int y, .int 1, .int 6]) (rest := []) S hE hS hAb (cx_rng ε l hst (h)) (va_cwS 3 hts gX4_setQuorum_X4_requireRange rfl rfl rfl (by decide +kernel) ⟨Nat.le_of_ble_eq_true rfl, Nat.le_of_ble_eq_true rfl⟩) rfl hl.1 rfl (Nat.le_of_ble_eq_true rfl) dX4_setQuorum_9 ⟨Nat.le_refl _, Nat.le_refl _⟩) hS
set_option maxHeartbeats 4000000 in
set_option maxRecDepth 100000 in
theorem cpx_pass (ε : kEnv) (l : Launch) {A : Nat → Prop} {ad : Nat → Nat → Nat} {σ : kS} {H : Heap} {x : Int32} (hw : kW ε A ad σ H) (hB : kB σ) (hst : l.stackTraces = false) (h : x < 1 ∨ ¬ x ≤ 200) : kX ε l yX4_pass wsX4_pass ({ frames := 7, cells := 1, slots := 6, locals := 120 }) [.ref (ad 0 0), .int x] H "java/lang/IllegalArgumentException" := by
  refine kofX (cc := cX4_pass) (maxL := 4) (ret := (some .int)) (by decide) rfl (Nat.le_of_ble_eq_true rfl) ?_
  intro p e s m below meth c ls S hr hlocks hT hH hE hl
  have S : CallFix p m c cX4_pass 4 s _ wsX4_pass RX4 := S
  have hx := S.1
  have hb := S.2.1
  have hown : s.vm.findClass RX4 = some m.cls := S.2.2.2.1
  have hts := S.2.2.2.2
  have hK := hE.1
  have hS : va_S kNo s.heap H [] := by rw [hH]; exact va_S.rf
  have hAb : ∀ q, kNo q → kHi ε q := fun _ h => h.elim
  have hnR := hB.nR
  have hnC := hB.nC
  have hnW := hB.nW
  have hnA := hB.nA
  have hmn := hB.min
  have hl : lv_has ls 4 [(0, .ref (ad 0 0)), (1, .int x)] := hl
  refine lv_iload_n hx hb dX4_pass_0 rfl (lv_at hl 1 rfl) ?_
  refine lv_iconst (v := 1) hx hb dX4_pass_1 (by decide) ?_
  refine lv_sipush (v := 200) hx hb dX4_pass_2 (by decide) ?_
  exact kthru hT hlocks hH (kx_S (As := [.int x, .int 1, .int 200]) (rest := []) S hE hS hAb (cx_rng ε l hst (h)) (va_cwS 3 hts gX4_pass_X4_requireRange rfl rfl rfl (by decide +kernel) ⟨Nat.le_of_ble_eq_true rfl, Nat.le_of_ble_eq_true rfl⟩) rfl hl.1 rfl (Nat.le_of_ble_eq_true rfl) dX4_pass_5 ⟨Nat.le_refl _, Nat.le_refl _⟩) hS
set_option maxHeartbeats 4000000 in
set_option maxRecDepth 100000 in
theorem cp_endWindow (ε : kEnv) (l : Launch) {A : Nat → Prop} {ad : Nat → Nat → Nat} {σ : kS} {H : Heap} {i : Nat} (hAb : ∀ q, A q → kHi ε q) (hw : kW ε A ad σ H) (hB : kB σ) (hi : i < σ 3 0) : kMi ε l yX4_endWindow wsX4_endWindow ({ frames := 5, cells := 0, slots := 0, locals := 120 }) [.ref (ad 0 0), .int (nI i)] H A (0) (0) (fun v H' => v = nI (min (σ 0 0) (σ 42 i) + 1 - σ 41 i) ∧ kW ε A ad (ku σ 42 i (min (σ 0 0) (σ 42 i))) H') := by
  refine kof (cc := cX4_endWindow) (maxL := 3) (ret := (some .int)) (by decide) rfl (Nat.le_of_ble_eq_true rfl) ?_
  intro p e s m below meth c ls S hr hlocks hin hH hE hl
  have S : CallFix p m c cX4_endWindow 3 s _ wsX4_endWindow RX4 := S
  have hx := S.1
  have hb := S.2.1
  have hown : s.vm.findClass RX4 = some m.cls := S.2.2.2.1
  have hts := S.2.2.2.2
  have hK := hE.1
  have hS : va_S A s.heap H [] := by rw [hH]; exact va_S.rf
  have hnR := hB.nR
  have hnC := hB.nC
  have hnW := hB.nW
  have hnA := hB.nA
  have hmn := hB.min
  have hl : lv_has ls 3 [(0, .ref (ad 0 0)), (1, .int (nI i))] := hl
  have hk := hB.wn i hi
  refine lv_iload_n hx hb dX4_endWindow_0 rfl (lv_at hl 1 rfl) ?_
  refine lv_if_lt (tgt := 15) hx hb dX4_endWindow_1 (by decide) (fun hc => absurd hc (nI_pos (by omega))) (fun _ => ?_)
  refine lv_iload_n hx hb dX4_endWindow_4 rfl (lv_at hl 1 rfl) ?_
  refine lv_aload_n hx hb dX4_endWindow_5 rfl (lv_at hl 0 rfl) ?_
  refine kr_get (T := TX4) (N := 7) hx hb hts hown hK (hw.lv 0 0 (rfl : (0 : Nat) = 0)) rfl kin_X4_endWindow_X4 2 (by decide) (by decide +kernel) rfl dX4_endWindow_6 ?_
  refine kgo_pi (v := nI (σ 3 0)) (kc_V (As := []) (rest := [.int (nI i)]) S hE hS hAb (kw_size l hw 2 (by decide)) (cwV 0 hts gX4_endWindow_Jx4a65c_size_8abf5 rfl rfl rfl (by decide +kernel) ⟨Nat.le_of_ble_eq_true rfl, Nat.le_of_ble_eq_true rfl⟩) (hw.lv 1 2 (by decide : (2 : Nat) < 4)) rfl rfl hl.1 rfl (Nat.le_of_ble_eq_true rfl) dX4_endWindow_9 ⟨Nat.zero_le _, Nat.zero_le _⟩) hS (fun locs hS => ?_)
  refine lv_icmp_lt (tgt := 25) hx hb dX4_endWindow_12 (by decide) (fun _ => ?_) (fun hc => absurd (nI_lt hi (by omega)) hc)
  refine lv_aload_n hx hb dX4_endWindow_25 rfl (lv_at hl 0 rfl) ?_
  refine kr_get (T := TX4) (N := 7) hx hb hts hown hK (hw.lv 0 0 (rfl : (0 : Nat) = 0)) rfl kin_X4_endWindow_X4 2 (by decide) (by decide +kernel) rfl dX4_endWindow_26 ?_
  refine lv_iload_n hx hb dX4_endWindow_29 rfl (lv_at hl 1 rfl) ?_
  refine kgo_pr (v := ad 8 i) (kc_V (As := [.int (nI i)]) (rest := []) S hE hS hAb (kw_get l hw hB 2 (by decide) (j := i) (x := ad 8 i) hi rfl) (cwV 1 hts gX4_endWindow_Jx4a65c_get_915e3 rfl rfl rfl (by decide +kernel) ⟨Nat.le_of_ble_eq_true rfl, Nat.le_of_ble_eq_true rfl⟩) (hw.lv 1 2 (by decide : (2 : Nat) < 4)) rfl rfl hl.1 rfl (Nat.le_of_ble_eq_true rfl) dX4_endWindow_30 ⟨Nat.zero_le _, Nat.zero_le _⟩) hS (fun locs hS => ?_)
  refine kr_cast (T := TX3) (N := 3) hx hb hts hown hK (hw.lv 8 i hi) rfl (by decide +kernel) dX4_endWindow_33 ?_
  refine lv_astore_n (lv' := [(2, .ref (ad 8 i)), (0, .ref (ad 0 0)), (1, .int (nI i))]) hx hb dX4_endWindow_36 rfl hl (by decide) rfl (fun ls hl => ?_)
  refine lv_aload_n hx hb dX4_endWindow_37 rfl (lv_at hl 0 rfl) ?_
  refine lv_aload_n hx hb dX4_endWindow_38 rfl (lv_at hl 1 rfl) ?_
  refine kr_get (T := TX4) (N := 7) hx hb hts hown hK (hw.lv 0 0 (rfl : (0 : Nat) = 0)) rfl kin_X4_endWindow_X4 6 (by decide) (by decide +kernel) rfl dX4_endWindow_39 ?_
  refine kgo_v (kc_V (As := [.int (nI (σ 0 0))]) (rest := []) S hE hS hAb (cc_endAfter ε l hAb hw hB hi hB.min) (cwV 1 hts gX4_endWindow_X3_endAfter rfl rfl rfl (by decide +kernel) ⟨Nat.le_of_ble_eq_true rfl, Nat.le_of_ble_eq_true rfl⟩) (hw.lv 8 i hi) rfl rfl hl.1 rfl (Nat.le_of_ble_eq_true rfl) dX4_endWindow_42 ⟨Nat.zero_le _, Nat.zero_le _⟩) hS (fun _ h => h) (fun H1 locs hw hz hq hS => ?_)
  have hB2 : kB (ku σ 42 i (min (σ 0 0) (σ 42 i))) := kB_p42 hB (by omega)
  refine lv_aload_n hx hb dX4_endWindow_45 rfl (lv_at hl 0 rfl) ?_
  refine kgo_pi (v := nI (ku σ 42 i (min (σ 0 0) (σ 42 i)) 42 i + 1 - ku σ 42 i (min (σ 0 0) (σ 42 i)) 41 i)) (kc_V (As := []) (rest := []) S hE hS hAb (cc_length ε l hw hB2 (show i < ku σ 42 i (min (σ 0 0) (σ 42 i)) 3 0 from hi)) (cwV 0 hts gX4_endWindow_X3_length rfl rfl rfl (by decide +kernel) ⟨Nat.le_of_ble_eq_true rfl, Nat.le_of_ble_eq_true rfl⟩) (hw.lv 8 i (show i < ku σ 42 i (min (σ 0 0) (σ 42 i)) 3 0 from hi)) rfl rfl hl.1 rfl (Nat.le_of_ble_eq_true rfl) dX4_endWindow_46 ⟨Nat.zero_le _, Nat.zero_le _⟩) hS (fun locs hS => ?_)
  refine kend_i S hr hlocks hS ⟨by rw [ku_s, ku_f _ _ _ _ (by decide)], hw⟩ dX4_endWindow_49
set_option maxHeartbeats 4000000 in
set_option maxRecDepth 100000 in
theorem cpx_endWindow (ε : kEnv) (l : Launch) {A : Nat → Prop} {ad : Nat → Nat → Nat} {σ : kS} {H : Heap} {x : Int32} (hw : kW ε A ad σ H) (hB : kB σ) (hst : l.stackTraces = false) (h : x < 0 ∨ nI (σ 3 0) ≤ x) : kX ε l yX4_endWindow wsX4_endWindow ({ frames := 7, cells := 1, slots := 6, locals := 120 }) [.ref (ad 0 0), .int x] H "java/lang/IndexOutOfBoundsException" := by
  refine kofX (cc := cX4_endWindow) (maxL := 3) (ret := (some .int)) (by decide) rfl (Nat.le_of_ble_eq_true rfl) ?_
  intro p e s m below meth c ls S hr hlocks hT hH hE hl
  have S : CallFix p m c cX4_endWindow 3 s _ wsX4_endWindow RX4 := S
  have hx := S.1
  have hb := S.2.1
  have hown : s.vm.findClass RX4 = some m.cls := S.2.2.2.1
  have hts := S.2.2.2.2
  have hK := hE.1
  have hS : va_S kNo s.heap H [] := by rw [hH]; exact va_S.rf
  have hAb : ∀ q, kNo q → kHi ε q := fun _ h => h.elim
  have hnR := hB.nR
  have hnC := hB.nC
  have hnW := hB.nW
  have hnA := hB.nA
  have hmn := hB.min
  have hl : lv_has ls 3 [(0, .ref (ad 0 0)), (1, .int x)] := hl
  refine lv_iload_n hx hb dX4_endWindow_0 rfl (lv_at hl 1 rfl) ?_
  refine lv_if_lt (tgt := 15) hx hb dX4_endWindow_1 (by decide) (fun hc1 => ?_) (fun hc1 => ?_)
  · exact kthrow (E := "java/lang/IndexOutOfBoundsException") (names := ["java/lang/RuntimeException", "java/lang/Exception"]) (ik := 101) (is := 103) (ic := 105) (k := 3) hst S hE hT hlocks hS hl.1 (by decide +kernel) (by decide +kernel) (by decide +kernel) rfl (by decide +kernel) (by decide +kernel) (by decide +kernel) dX4_endWindow_15 dX4_endWindow_18 dX4_endWindow_19 dX4_endWindow_21 dX4_endWindow_24 (by decide)
  · refine lv_iload_n hx hb dX4_endWindow_4 rfl (lv_at hl 1 rfl) ?_
    refine lv_aload_n hx hb dX4_endWindow_5 rfl (lv_at hl 0 rfl) ?_
    refine kr_get (T := TX4) (N := 7) hx hb hts hown hK (hw.lv 0 0 (rfl : (0 : Nat) = 0)) rfl kin_X4_endWindow_X4 2 (by decide) (by decide +kernel) rfl dX4_endWindow_6 ?_
    refine kgo_pi (v := nI (σ 3 0)) (kc_V (As := []) (rest := [.int x]) S hE hS hAb (kw_size l hw 2 (by decide)) (cwV 0 hts gX4_endWindow_Jx4a65c_size_8abf5 rfl rfl rfl (by decide +kernel) ⟨Nat.le_of_ble_eq_true rfl, Nat.le_of_ble_eq_true rfl⟩) (hw.lv 1 2 (by decide : (2 : Nat) < 4)) rfl rfl hl.1 rfl (Nat.le_of_ble_eq_true rfl) dX4_endWindow_9 ⟨Nat.zero_le _, Nat.zero_le _⟩) hS (fun locs hS => ?_)
    refine lv_icmp_lt (tgt := 25) hx hb dX4_endWindow_12 (by decide) (fun hc => absurd hc (Int32.not_lt.mpr (h.resolve_left hc1))) (fun _ => ?_)
    exact kthrow (E := "java/lang/IndexOutOfBoundsException") (names := ["java/lang/RuntimeException", "java/lang/Exception"]) (ik := 101) (is := 103) (ic := 105) (k := 3) hst S hE hT hlocks hS hl.1 (by decide +kernel) (by decide +kernel) (by decide +kernel) rfl (by decide +kernel) (by decide +kernel) (by decide +kernel) dX4_endWindow_15 dX4_endWindow_18 dX4_endWindow_19 dX4_endWindow_21 dX4_endWindow_24 (by decide)
