set_option maxHeartbeats 4000000 in
set_option maxRecDepth 100000 in
theorem cc_bitCount (ε : kEnv) (l : Launch) {H : Heap} {t : Nat} (ht : t < 64) : kPi ε l yJ6_bitCount_0f7a4 wsJ6_bitCount_0f7a4 ({ frames := 0, cells := 0, slots := 0, locals := 0 }) [.int (nI t)] H (nI (kcnt (fun r => t.testBit r) 6)) := by
  refine kof (cc := cJ6_bitCount_0f7a4) (maxL := 1) (ret := (some .int)) (by decide) rfl (Nat.le_of_ble_eq_true rfl) ?_
  intro p e s m below meth c ls S hr hlocks hin hH hE hl
  have S : CallFix p m c cJ6_bitCount_0f7a4 1 s _ wsJ6_bitCount_0f7a4 RJ6 := S
  have hx := S.1
  have hb := S.2.1
  have hown : s.vm.findClass RJ6 = some m.cls := S.2.2.2.1
  have hts := S.2.2.2.2
  have hK := hE.1
  have hS : va_S kNo s.heap H [] := by rw [hH]; exact va_S.rf
  have hAb : ∀ q, kNo q → kHi ε q := fun _ h => h.elim
  have hl : lv_has ls 1 [(0, .int (nI t))] := hl
  refine lv_iload_n hx hb dJ6_bitCount_0f7a4_0 rfl (lv_at hl 0 rfl) ?_
  refine lv_iload_n hx hb dJ6_bitCount_0f7a4_1 rfl (lv_at hl 0 rfl) ?_
  refine lv_iconst (v := 1) hx hb dJ6_bitCount_0f7a4_2 (by decide) ?_
  refine lv_iushr (v := ((nI t).toUInt32 >>> ((1 : Int32).toUInt32 &&& Int32.toUInt32 31)).toInt32) hx hb dJ6_bitCount_0f7a4_3 rfl ?_
  refine lv_ldcw (own := RJ6) (v := 1431655765) hx hb hown (hts (.constant RJ6 265 (1431655765)) (by decide +kernel)) dJ6_bitCount_0f7a4_4 ?_
  refine lv_iand hx hb dJ6_bitCount_0f7a4_7 ?_
  refine lv_isub hx hb dJ6_bitCount_0f7a4_8 ?_
  refine lv_topi (fun x1 ex1 => ?_)
  refine lv_istore_n (lv' := [(0, .int x1)]) hx hb dJ6_bitCount_0f7a4_9 rfl hl (by decide) rfl (fun ls hl => ?_)
  refine lv_iload_n hx hb dJ6_bitCount_0f7a4_10 rfl (lv_at hl 0 rfl) ?_
  refine lv_ldcw (own := RJ6) (v := 858993459) hx hb hown (hts (.constant RJ6 266 (858993459)) (by decide +kernel)) dJ6_bitCount_0f7a4_11 ?_
  refine lv_iand hx hb dJ6_bitCount_0f7a4_14 ?_
  refine lv_iload_n hx hb dJ6_bitCount_0f7a4_15 rfl (lv_at hl 0 rfl) ?_
  refine lv_iconst (v := 2) hx hb dJ6_bitCount_0f7a4_16 (by decide) ?_
  refine lv_iushr (v := (x1.toUInt32 >>> ((2 : Int32).toUInt32 &&& Int32.toUInt32 31)).toInt32) hx hb dJ6_bitCount_0f7a4_17 rfl ?_
  refine lv_ldcw (own := RJ6) (v := 858993459) hx hb hown (hts (.constant RJ6 266 (858993459)) (by decide +kernel)) dJ6_bitCount_0f7a4_18 ?_
  refine lv_iand hx hb dJ6_bitCount_0f7a4_21 ?_
  refine lv_iadd hx hb dJ6_bitCount_0f7a4_22 ?_
  refine lv_topi (fun x2 ex2 => ?_)
  refine lv_istore_n (lv' := [(0, .int x2)]) hx hb dJ6_bitCount_0f7a4_23 rfl hl (by decide) rfl (fun ls hl => ?_)
  refine lv_iload_n hx hb dJ6_bitCount_0f7a4_24 rfl (lv_at hl 0 rfl) ?_
  refine lv_iload_n hx hb dJ6_bitCount_0f7a4_25 rfl (lv_at hl 0 rfl) ?_
  refine lv_iconst (v := 4) hx hb dJ6_bitCount_0f7a4_26 (by decide) ?_
  refine lv_iushr (v := (x2.toUInt32 >>> ((4 : Int32).toUInt32 &&& Int32.toUInt32 31)).toInt32) hx hb dJ6_bitCount_0f7a4_27 rfl ?_
  refine lv_iadd hx hb dJ6_bitCount_0f7a4_28 ?_
  refine lv_ldcw (own := RJ6) (v := 252645135) hx hb hown (hts (.constant RJ6 267 (252645135)) (by decide +kernel)) dJ6_bitCount_0f7a4_29 ?_
  refine lv_iand hx hb dJ6_bitCount_0f7a4_32 ?_
  refine lv_topi (fun x3 ex3 => ?_)
  refine lv_istore_n (lv' := [(0, .int x3)]) hx hb dJ6_bitCount_0f7a4_33 rfl hl (by decide) rfl (fun ls hl => ?_)
  refine lv_iload_n hx hb dJ6_bitCount_0f7a4_34 rfl (lv_at hl 0 rfl) ?_
  refine lv_iload_n hx hb dJ6_bitCount_0f7a4_35 rfl (lv_at hl 0 rfl) ?_
  refine lv_bipush (v := 8) hx hb dJ6_bitCount_0f7a4_36 (by decide) ?_
  refine lv_iushr (v := (x3.toUInt32 >>> ((8 : Int32).toUInt32 &&& Int32.toUInt32 31)).toInt32) hx hb dJ6_bitCount_0f7a4_38 rfl ?_
  refine lv_iadd hx hb dJ6_bitCount_0f7a4_39 ?_
  refine lv_topi (fun x4 ex4 => ?_)
  refine lv_istore_n (lv' := [(0, .int x4)]) hx hb dJ6_bitCount_0f7a4_40 rfl hl (by decide) rfl (fun ls hl => ?_)
  refine lv_iload_n hx hb dJ6_bitCount_0f7a4_41 rfl (lv_at hl 0 rfl) ?_
  refine lv_iload_n hx hb dJ6_bitCount_0f7a4_42 rfl (lv_at hl 0 rfl) ?_
  refine lv_bipush (v := 16) hx hb dJ6_bitCount_0f7a4_43 (by decide) ?_
  refine lv_iushr (v := (x4.toUInt32 >>> ((16 : Int32).toUInt32 &&& Int32.toUInt32 31)).toInt32) hx hb dJ6_bitCount_0f7a4_45 rfl ?_
  refine lv_iadd hx hb dJ6_bitCount_0f7a4_46 ?_
  refine lv_topi (fun x5 ex5 => ?_)
  refine lv_istore_n (lv' := [(0, .int x5)]) hx hb dJ6_bitCount_0f7a4_47 rfl hl (by decide) rfl (fun ls hl => ?_)
  refine lv_iload_n hx hb dJ6_bitCount_0f7a4_48 rfl (lv_at hl 0 rfl) ?_
  refine lv_bipush (v := 63) hx hb dJ6_bitCount_0f7a4_49 (by decide) ?_
  refine lv_iand hx hb dJ6_bitCount_0f7a4_51 ?_
  refine kend_i S hr hlocks hS ⟨?_, rfl⟩ dJ6_bitCount_0f7a4_52
  subst ex5
  subst ex4
  subst ex3
  subst ex2
  subst ex1
  exact (show ∀ t, t < 64 → (((((((((((((nI t - (((nI t).toUInt32 >>> ((1 : Int32).toUInt32 &&& Int32.toUInt32 31)).toInt32 &&& 1431655765))) &&& 858993459) + ((((nI t - (((nI t).toUInt32 >>> ((1 : Int32).toUInt32 &&& Int32.toUInt32 31)).toInt32 &&& 1431655765))).toUInt32 >>> ((2 : Int32).toUInt32 &&& Int32.toUInt32 31)).toInt32 &&& 858993459))) + ((((((nI t - (((nI t).toUInt32 >>> ((1 : Int32).toUInt32 &&& Int32.toUInt32 31)).toInt32 &&& 1431655765))) &&& 858993459) + ((((nI t - (((nI t).toUInt32 >>> ((1 : Int32).toUInt32 &&& Int32.toUInt32 31)).toInt32 &&& 1431655765))).toUInt32 >>> ((2 : Int32).toUInt32 &&& Int32.toUInt32 31)).toInt32 &&& 858993459))).toUInt32 >>> ((4 : Int32).toUInt32 &&& Int32.toUInt32 31)).toInt32) &&& 252645135)) + (((((((((nI t - (((nI t).toUInt32 >>> ((1 : Int32).toUInt32 &&& Int32.toUInt32 31)).toInt32 &&& 1431655765))) &&& 858993459) + ((((nI t - (((nI t).toUInt32 >>> ((1 : Int32).toUInt32 &&& Int32.toUInt32 31)).toInt32 &&& 1431655765))).toUInt32 >>> ((2 : Int32).toUInt32 &&& Int32.toUInt32 31)).toInt32 &&& 858993459))) + ((((((nI t - (((nI t).toUInt32 >>> ((1 : Int32).toUInt32 &&& Int32.toUInt32 31)).toInt32 &&& 1431655765))) &&& 858993459) + ((((nI t - (((nI t).toUInt32 >>> ((1 : Int32).toUInt32 &&& Int32.toUInt32 31)).toInt32 &&& 1431655765))).toUInt32 >>> ((2 : Int32).toUInt32 &&& Int32.toUInt32 31)).toInt32 &&& 858993459))).toUInt32 >>> ((4 : Int32).toUInt32 &&& Int32.toUInt32 31)).toInt32) &&& 252645135)).toUInt32 >>> ((8 : Int32).toUInt32 &&& Int32.toUInt32 31)).toInt32)) + (((((((((((nI t - (((nI t).toUInt32 >>> ((1 : Int32).toUInt32 &&& Int32.toUInt32 31)).toInt32 &&& 1431655765))) &&& 858993459) + ((((nI t - (((nI t).toUInt32 >>> ((1 : Int32).toUInt32 &&& Int32.toUInt32 31)).toInt32 &&& 1431655765))).toUInt32 >>> ((2 : Int32).toUInt32 &&& Int32.toUInt32 31)).toInt32 &&& 858993459))) + ((((((nI t - (((nI t).toUInt32 >>> ((1 : Int32).toUInt32 &&& Int32.toUInt32 31)).toInt32 &&& 1431655765))) &&& 858993459) + ((((nI t - (((nI t).toUInt32 >>> ((1 : Int32).toUInt32 &&& Int32.toUInt32 31)).toInt32 &&& 1431655765))).toUInt32 >>> ((2 : Int32).toUInt32 &&& Int32.toUInt32 31)).toInt32 &&& 858993459))).toUInt32 >>> ((4 : Int32).toUInt32 &&& Int32.toUInt32 31)).toInt32) &&& 252645135)) + (((((((((nI t - (((nI t).toUInt32 >>> ((1 : Int32).toUInt32 &&& Int32.toUInt32 31)).toInt32 &&& 1431655765))) &&& 858993459) + ((((nI t - (((nI t).toUInt32 >>> ((1 : Int32).toUInt32 &&& Int32.toUInt32 31)).toInt32 &&& 1431655765))).toUInt32 >>> ((2 : Int32).toUInt32 &&& Int32.toUInt32 31)).toInt32 &&& 858993459))) + ((((((nI t - (((nI t).toUInt32 >>> ((1 : Int32).toUInt32 &&& Int32.toUInt32 31)).toInt32 &&& 1431655765))) &&& 858993459) + ((((nI t - (((nI t).toUInt32 >>> ((1 : Int32).toUInt32 &&& Int32.toUInt32 31)).toInt32 &&& 1431655765))).toUInt32 >>> ((2 : Int32).toUInt32 &&& Int32.toUInt32 31)).toInt32 &&& 858993459))).toUInt32 >>> ((4 : Int32).toUInt32 &&& Int32.toUInt32 31)).toInt32) &&& 252645135)).toUInt32 >>> ((8 : Int32).toUInt32 &&& Int32.toUInt32 31)).toInt32)).toUInt32 >>> ((16 : Int32).toUInt32 &&& Int32.toUInt32 31)).toInt32)) &&& 63) = nI (kcnt (fun r => t.testBit r) 6) by decide +kernel) t ht
set_option maxHeartbeats 4000000 in
set_option maxRecDepth 100000 in
theorem cc_chk3 (ε : kEnv) (l : Launch) {H : Heap} {j n : Nat} (hj : j < n) (hn : n < 2 ^ 31) : kPi ε l yJ3_checkIndex_8e157 wsJ3_checkIndex_8e157 ({ frames := 0, cells := 0, slots := 0, locals := 0 }) [.int (nI j), .int (nI n), .null] H (nI j) := by
  refine kof (cc := cJ3_checkIndex_8e157) (maxL := 3) (ret := (some .int)) (by decide) rfl (Nat.le_of_ble_eq_true rfl) ?_
  intro p e s m below meth c ls S hr hlocks hin hH hE hl
  have S : CallFix p m c cJ3_checkIndex_8e157 3 s _ wsJ3_checkIndex_8e157 RJ3 := S
  have hx := S.1
  have hb := S.2.1
  have hown : s.vm.findClass RJ3 = some m.cls := S.2.2.2.1
  have hts := S.2.2.2.2
  have hK := hE.1
  have hS : va_S kNo s.heap H [] := by rw [hH]; exact va_S.rf
  have hAb : ∀ q, kNo q → kHi ε q := fun _ h => h.elim
  have hl : lv_has ls 3 [(0, .int (nI j)), (1, .int (nI n)), (2, .null)] := hl
  refine lv_iload_n hx hb dJ3_checkIndex_8e157_0 rfl (lv_at hl 0 rfl) ?_
  refine lv_if_lt (tgt := 9) hx hb dJ3_checkIndex_8e157_1 (by decide) (fun hc => absurd hc (nI_pos (Nat.lt_trans hj hn))) (fun _ => ?_)
  refine lv_iload_n hx hb dJ3_checkIndex_8e157_4 rfl (lv_at hl 0 rfl) ?_
  refine lv_iload_n hx hb dJ3_checkIndex_8e157_5 rfl (lv_at hl 1 rfl) ?_
  refine lv_icmp_lt (tgt := 16) hx hb dJ3_checkIndex_8e157_6 (by decide) (fun _ => ?_) (fun hc => absurd (nI_lt hj hn) hc)
  refine lv_iload_n hx hb dJ3_checkIndex_8e157_16 rfl (lv_at hl 0 rfl) ?_
  exact kend_i S hr hlocks hS ⟨rfl, rfl⟩ dJ3_checkIndex_8e157_17
set_option maxHeartbeats 4000000 in
set_option maxRecDepth 100000 in
theorem cc_chk (ε : kEnv) (l : Launch) {H : Heap} {j n : Nat} (hj : j < n) (hn : n < 2 ^ 31) : kPi ε l yJ15_checkIndex_7cf53 wsJ15_checkIndex_7cf53 ({ frames := 1, cells := 0, slots := 0, locals := 22 }) [.int (nI j), .int (nI n)] H (nI j) := by
  refine kof (cc := cJ15_checkIndex_7cf53) (maxL := 2) (ret := (some .int)) (by decide) rfl (Nat.le_of_ble_eq_true rfl) ?_
  intro p e s m below meth c ls S hr hlocks hin hH hE hl
  have S : CallFix p m c cJ15_checkIndex_7cf53 2 s _ wsJ15_checkIndex_7cf53 RJ15 := S
  have hx := S.1
  have hb := S.2.1
  have hown : s.vm.findClass RJ15 = some m.cls := S.2.2.2.1
  have hts := S.2.2.2.2
  have hK := hE.1
  have hS : va_S kNo s.heap H [] := by rw [hH]; exact va_S.rf
  have hAb : ∀ q, kNo q → kHi ε q := fun _ h => h.elim
  have hl : lv_has ls 2 [(0, .int (nI j)), (1, .int (nI n))] := hl
  refine lv_iload_n hx hb dJ15_checkIndex_7cf53_0 rfl (lv_at hl 0 rfl) ?_
  refine lv_iload_n hx hb dJ15_checkIndex_7cf53_1 rfl (lv_at hl 1 rfl) ?_
  refine lv_null hx hb dJ15_checkIndex_7cf53_2 ?_
  refine kgo_pi (kc_S (As := [.int (nI j), .int (nI n), .null]) (rest := []) S hE hS hAb (cc_chk3 ε l hj hn) (va_cwS 3 hts gJ15_checkIndex_7cf53_J3_checkIndex_8e157 rfl rfl rfl (by decide +kernel) ⟨Nat.le_of_ble_eq_true rfl, Nat.le_of_ble_eq_true rfl⟩) rfl hl.1 rfl (Nat.le_of_ble_eq_true rfl) dJ15_checkIndex_7cf53_3 ⟨Nat.le_refl _, Nat.le_refl _⟩) hS (fun locs hS => ?_)
  exact kend_i S hr hlocks hS ⟨rfl, rfl⟩ dJ15_checkIndex_7cf53_6
theorem kin_Jx4a65c_size_8abf5_Jx4a65c : ∀ w ∈ wsJx4a65c0, w ∈ wsJx4a65c_size_8abf5 := by decide +kernel
theorem kin_Jx4a65c_elementData_915e3_Jx4a65c : ∀ w ∈ wsJx4a65c0, w ∈ wsJx4a65c_elementData_915e3 := by decide +kernel
theorem kin_Jx4a65c_get_915e3_Jx4a65c : ∀ w ∈ wsJx4a65c0, w ∈ wsJx4a65c_get_915e3 := by decide +kernel
set_option maxHeartbeats 4000000 in
set_option maxRecDepth 100000 in
theorem cc_size (ε : kEnv) (l : Launch) {H : Heap} {a : Nat} {md n : Int32} {e : Nat} (ha : kat ε a (.inr (0, [.int md, .ref e, .int n])) H) : kPi ε l yJx4a65c_size_8abf5 wsJx4a65c_size_8abf5 ({ frames := 0, cells := 0, slots := 0, locals := 0 }) [.ref a] H n := by
  refine kof (cc := cJx4a65c_size_8abf5) (maxL := 1) (ret := (some .int)) (by decide) rfl (Nat.le_of_ble_eq_true rfl) ?_
  intro p e s m below meth c ls S hr hlocks hin hH hE hl
  have S : CallFix p m c cJx4a65c_size_8abf5 1 s _ wsJx4a65c_size_8abf5 RJx4a65c := S
  have hx := S.1
  have hb := S.2.1
  have hown : s.vm.findClass RJx4a65c = some m.cls := S.2.2.2.1
  have hts := S.2.2.2.2
  have hK := hE.1
  have hS : va_S kNo s.heap H [] := by rw [hH]; exact va_S.rf
  have hAb : ∀ q, kNo q → kHi ε q := fun _ h => h.elim
  have hl : lv_has ls 1 [(0, .ref a)] := hl
  refine lv_aload_n hx hb dJx4a65c_size_8abf5_0 rfl (lv_at hl 0 rfl) ?_
  refine kr_get (T := TJx4a65c) (N := 3) hx hb hts hown hK ha rfl kin_Jx4a65c_size_8abf5_Jx4a65c 2 (by decide) (by decide +kernel) rfl dJx4a65c_size_8abf5_1 ?_
  exact kend_i S hr hlocks hS ⟨rfl, rfl⟩ dJx4a65c_size_8abf5_4
set_option maxHeartbeats 4000000 in
set_option maxRecDepth 100000 in
theorem cc_elem (ε : kEnv) (l : Launch) {H : Heap} {a e j N x : Nat} {md sz : Int32} {f : Nat → Option Nat} (ha : kat ε a (.inr (0, [.int md, .ref e, .int sz])) H) (he : kat ε e (kO ε N f) H) (hj : j < N) (hj2 : j < 2 ^ 31) (hf : f j = some x) : kPr ε l yJx4a65c_elementData_915e3 wsJx4a65c_elementData_915e3 ({ frames := 0, cells := 0, slots := 0, locals := 0 }) [.ref a, .int (nI j)] H x := by
  refine kof (cc := cJx4a65c_elementData_915e3) (maxL := 2) (ret := (some (.object "java/lang/Object"))) (by decide) rfl (Nat.le_of_ble_eq_true rfl) ?_
  intro p e s m below meth c ls S hr hlocks hin hH hE hl
  have S : CallFix p m c cJx4a65c_elementData_915e3 2 s _ wsJx4a65c_elementData_915e3 RJx4a65c := S
  have hx := S.1
  have hb := S.2.1
  have hown : s.vm.findClass RJx4a65c = some m.cls := S.2.2.2.1
  have hts := S.2.2.2.2
  have hK := hE.1
  have hS : va_S kNo s.heap H [] := by rw [hH]; exact va_S.rf
  have hAb : ∀ q, kNo q → kHi ε q := fun _ h => h.elim
  have hl : lv_has ls 2 [(0, .ref a), (1, .int (nI j))] := hl
  refine lv_aload_n hx hb dJx4a65c_elementData_915e3_0 rfl (lv_at hl 0 rfl) ?_
  refine kr_get (T := TJx4a65c) (N := 3) hx hb hts hown hK ha rfl kin_Jx4a65c_elementData_915e3_Jx4a65c 1 (by decide) (by decide +kernel) rfl dJx4a65c_elementData_915e3_1 ?_
  refine lv_iload_n hx hb dJx4a65c_elementData_915e3_4 rfl (lv_at hl 1 rfl) ?_
  refine kr_qld hx hb hK he hj (nI_clamp hj2) (nI_pos hj2) (x := .ref x) (by rw [hf]; rfl) dJx4a65c_elementData_915e3_5 ?_
  exact kend_r S hr (Or.inl ⟨_, rfl⟩) hlocks hS ⟨rfl, rfl⟩ dJx4a65c_elementData_915e3_6
set_option maxHeartbeats 4000000 in
set_option maxRecDepth 100000 in
theorem cc_get (ε : kEnv) (l : Launch) {H : Heap} {a e j n N x : Nat} {md : Int32} {f : Nat → Option Nat} (ha : kat ε a (.inr (0, [.int md, .ref e, .int (nI n)])) H) (he : kat ε e (kO ε N f) H) (hj : j < n) (hn : n < 2 ^ 31) (hN : n ≤ N) (hf : f j = some x) : kPr ε l yJx4a65c_get_915e3 wsJx4a65c_get_915e3 ({ frames := 2, cells := 0, slots := 0, locals := 43 }) [.ref a, .int (nI j)] H x := by
  refine kof (cc := cJx4a65c_get_915e3) (maxL := 2) (ret := (some (.object "java/lang/Object"))) (by decide) rfl (Nat.le_of_ble_eq_true rfl) ?_
  intro p e s m below meth c ls S hr hlocks hin hH hE hl
  have S : CallFix p m c cJx4a65c_get_915e3 2 s _ wsJx4a65c_get_915e3 RJx4a65c := S
  have hx := S.1
  have hb := S.2.1
  have hown : s.vm.findClass RJx4a65c = some m.cls := S.2.2.2.1
  have hts := S.2.2.2.2
  have hK := hE.1
  have hS : va_S kNo s.heap H [] := by rw [hH]; exact va_S.rf
  have hAb : ∀ q, kNo q → kHi ε q := fun _ h => h.elim
  have hl : lv_has ls 2 [(0, .ref a), (1, .int (nI j))] := hl
  refine lv_iload_n hx hb dJx4a65c_get_915e3_0 rfl (lv_at hl 1 rfl) ?_
  refine lv_aload_n hx hb dJx4a65c_get_915e3_1 rfl (lv_at hl 0 rfl) ?_
  refine kr_get (T := TJx4a65c) (N := 3) hx hb hts hown hK ha rfl kin_Jx4a65c_get_915e3_Jx4a65c 2 (by decide) (by decide +kernel) rfl dJx4a65c_get_915e3_2 ?_
  refine kgo_pi (kc_S (As := [.int (nI j), .int (nI n)]) (rest := []) S hE hS hAb (cc_chk ε l hj hn) (va_cwS 2 hts gJx4a65c_get_915e3_J15_checkIndex_7cf53 rfl rfl rfl (by decide +kernel) ⟨Nat.le_of_ble_eq_true rfl, Nat.le_of_ble_eq_true rfl⟩) rfl hl.1 rfl (Nat.le_of_ble_eq_true rfl) dJx4a65c_get_915e3_5 ⟨Nat.le_refl _, Nat.le_refl _⟩) hS (fun locs hS => ?_)
  refine lv_pop hx hb dJx4a65c_get_915e3_8 rfl ?_
  refine lv_aload_n hx hb dJx4a65c_get_915e3_9 rfl (lv_at hl 0 rfl) ?_
  refine lv_iload_n hx hb dJx4a65c_get_915e3_10 rfl (lv_at hl 1 rfl) ?_
  refine kgo_pr (kc_V (As := [.int (nI j)]) (rest := []) S hE hS hAb (cc_elem ε l ha he (Nat.lt_of_lt_of_le hj hN) (Nat.lt_trans hj hn) hf) (cwV 1 hts gJx4a65c_get_915e3_Jx4a65c_elementData_915e3 rfl rfl rfl (by decide +kernel) ⟨Nat.le_of_ble_eq_true rfl, Nat.le_of_ble_eq_true rfl⟩) ha rfl rfl hl.1 rfl (Nat.le_of_ble_eq_true rfl) dJx4a65c_get_915e3_11 ⟨Nat.le_refl _, Nat.le_refl _⟩) hS (fun locs hS => ?_)
  exact kend_r S hr (Or.inl ⟨_, rfl⟩) hlocks hS ⟨rfl, rfl⟩ dJx4a65c_get_915e3_14
set_option maxHeartbeats 4000000 in
set_option maxRecDepth 100000 in
theorem cc_holds (ε : kEnv) (l : Launch) {H : Heap} {t r : Nat} (ht : t < 64) (hr6 : r < 6) : kPi ε l yX4_holds wsX4_holds ({ frames := 0, cells := 0, slots := 0, locals := 0 }) [.int (nI t), .int (nI r)] H (bI (t.testBit r)) := by
  refine kof (cc := cX4_holds) (maxL := 2) (ret := (some .boolean)) (by decide) rfl (Nat.le_of_ble_eq_true rfl) ?_
  intro p e s m below meth c ls S hr hlocks hin hH hE hl
  have S : CallFix p m c cX4_holds 2 s _ wsX4_holds RX4 := S
  have hx := S.1
  have hb := S.2.1
  have hown : s.vm.findClass RX4 = some m.cls := S.2.2.2.1
  have hts := S.2.2.2.2
  have hK := hE.1
  have hS : va_S kNo s.heap H [] := by rw [hH]; exact va_S.rf
  have hAb : ∀ q, kNo q → kHi ε q := fun _ h => h.elim
  have hl : lv_has ls 2 [(0, .int (nI t)), (1, .int (nI r))] := hl
  refine lv_iload_n hx hb dX4_holds_0 rfl (lv_at hl 0 rfl) ?_
  refine lv_iconst (v := 1) hx hb dX4_holds_1 (by decide) ?_
  refine lv_iload_n hx hb dX4_holds_2 rfl (lv_at hl 1 rfl) ?_
  refine lv_ishl hx hb dX4_holds_3 ?_
  refine lv_iand hx hb dX4_holds_4 ?_
  refine lv_if_eq (tgt := 12) hx hb dX4_holds_5 (by decide) (fun hc => ?_) (fun hc => ?_)
  · refine lv_iconst (v := 0) hx hb dX4_holds_12 (by decide) ?_
    refine kend_z S hr hlocks hS ⟨?_, rfl⟩ (Or.inl rfl) dX4_holds_13
    rw [(kb_has r hr6 t ht).mp hc]; rfl
  · refine lv_iconst (v := 1) hx hb dX4_holds_8 (by decide) ?_
    refine lv_goto (tgt := 13) hx hb dX4_holds_9 (by decide) ?_
    refine kend_z S hr hlocks hS ⟨?_, rfl⟩ (Or.inr rfl) dX4_holds_13
    cases hb9 : t.testBit r
    · exact absurd ((kb_has r hr6 t ht).mpr hb9) hc
    · rfl
set_option maxHeartbeats 4000000 in
set_option maxRecDepth 100000 in
theorem cc_with (ε : kEnv) (l : Launch) {H : Heap} {t r : Nat} {b : Bool} (ht : t < 64) (hr6 : r < 6) : kPi ε l yX4_withRegion wsX4_withRegion ({ frames := 0, cells := 0, slots := 0, locals := 0 }) [.int (nI t), .int (nI r), .int (bI b)] H (nI (kwr t r b)) := by
  refine kof (cc := cX4_withRegion) (maxL := 3) (ret := (some .int)) (by decide) rfl (Nat.le_of_ble_eq_true rfl) ?_
  intro p e s m below meth c ls S hr hlocks hin hH hE hl
  have S : CallFix p m c cX4_withRegion 3 s _ wsX4_withRegion RX4 := S
  have hx := S.1
  have hb := S.2.1
  have hown : s.vm.findClass RX4 = some m.cls := S.2.2.2.1
  have hts := S.2.2.2.2
  have hK := hE.1
  have hS : va_S kNo s.heap H [] := by rw [hH]; exact va_S.rf
  have hAb : ∀ q, kNo q → kHi ε q := fun _ h => h.elim
  have hl : lv_has ls 3 [(0, .int (nI t)), (1, .int (nI r)), (2, .int (bI b))] := hl
  refine lv_iload_n hx hb dX4_withRegion_0 rfl (lv_at hl 2 rfl) ?_
  refine lv_if_eq (tgt := 12) hx hb dX4_withRegion_1 (by decide) (fun hc => ?_) (fun hc => ?_)
  · refine lv_iload_n hx hb dX4_withRegion_12 rfl (lv_at hl 0 rfl) ?_
    refine lv_iconst (v := 1) hx hb dX4_withRegion_13 (by decide) ?_
    refine lv_iload_n hx hb dX4_withRegion_14 rfl (lv_at hl 1 rfl) ?_
    refine lv_ishl hx hb dX4_withRegion_15 ?_
    refine lv_iconst (v := -1) hx hb dX4_withRegion_16 (by decide) ?_
    refine lv_ixor hx hb dX4_withRegion_17 ?_
    refine lv_iand hx hb dX4_withRegion_18 ?_
    refine kend_i S hr hlocks hS ⟨?_, rfl⟩ dX4_withRegion_19
    rw [bI_eq0.mp hc]
    exact kb_and r hr6 t ht
  · refine lv_iload_n hx hb dX4_withRegion_4 rfl (lv_at hl 0 rfl) ?_
    refine lv_iconst (v := 1) hx hb dX4_withRegion_5 (by decide) ?_
    refine lv_iload_n hx hb dX4_withRegion_6 rfl (lv_at hl 1 rfl) ?_
    refine lv_ishl hx hb dX4_withRegion_7 ?_
    refine lv_ior hx hb dX4_withRegion_8 ?_
    refine lv_goto (tgt := 19) hx hb dX4_withRegion_9 (by decide) ?_
    refine kend_i S hr hlocks hS ⟨?_, rfl⟩ dX4_withRegion_19
    cases b
    · exact absurd rfl hc
    · exact kb_or r hr6 t ht
set_option maxHeartbeats 4000000 in
set_option maxRecDepth 100000 in
theorem cc_rng (ε : kEnv) (l : Launch) {H : Heap} {x lo hi : Int32} (h1 : ¬ x < lo) (h2 : x ≤ hi) : kPv ε l yX4_requireRange wsX4_requireRange ({ frames := 0, cells := 0, slots := 0, locals := 0 }) [.int x, .int lo, .int hi] H := by
  refine kof (cc := cX4_requireRange) (maxL := 3) (ret := none) (by decide) rfl (Nat.le_of_ble_eq_true rfl) ?_
  intro p e s m below meth c ls S hr hlocks hin hH hE hl
  have S : CallFix p m c cX4_requireRange 3 s _ wsX4_requireRange RX4 := S
  have hx := S.1
  have hb := S.2.1
  have hown : s.vm.findClass RX4 = some m.cls := S.2.2.2.1
  have hts := S.2.2.2.2
  have hK := hE.1
  have hS : va_S kNo s.heap H [] := by rw [hH]; exact va_S.rf
  have hAb : ∀ q, kNo q → kHi ε q := fun _ h => h.elim
  have hl : lv_has ls 3 [(0, .int x), (1, .int lo), (2, .int hi)] := hl
  refine lv_iload_n hx hb dX4_requireRange_0 rfl (lv_at hl 0 rfl) ?_
  refine lv_iload_n hx hb dX4_requireRange_1 rfl (lv_at hl 1 rfl) ?_
  refine lv_icmp_lt (tgt := 10) hx hb dX4_requireRange_2 (by decide) (fun hc => absurd hc (h1)) (fun _ => ?_)
  refine lv_iload_n hx hb dX4_requireRange_5 rfl (lv_at hl 0 rfl) ?_
  refine lv_iload_n hx hb dX4_requireRange_6 rfl (lv_at hl 2 rfl) ?_
  refine lv_icmp_le (tgt := 20) hx hb dX4_requireRange_7 (by decide) (fun _ => ?_) (fun hc => absurd (h2) hc)
  exact kend_v S hr hlocks hS rfl dX4_requireRange_20
set_option maxHeartbeats 4000000 in
set_option maxRecDepth 100000 in
theorem cx_rng (ε : kEnv) (l : Launch) {H : Heap} {x lo hi : Int32} (hst : l.stackTraces = false) (h : x < lo ∨ ¬ x ≤ hi) : kX ε l yX4_requireRange wsX4_requireRange ({ frames := 6, cells := 1, slots := 6, locals := 90 }) [.int x, .int lo, .int hi] H "java/lang/IllegalArgumentException" := by
  refine kofX (cc := cX4_requireRange) (maxL := 3) (ret := none) (by decide) rfl (Nat.le_of_ble_eq_true rfl) ?_
  intro p e s m below meth c ls S hr hlocks hT hH hE hl
  have S : CallFix p m c cX4_requireRange 3 s _ wsX4_requireRange RX4 := S
  have hx := S.1
  have hb := S.2.1
  have hown : s.vm.findClass RX4 = some m.cls := S.2.2.2.1
  have hts := S.2.2.2.2
  have hK := hE.1
  have hS : va_S kNo s.heap H [] := by rw [hH]; exact va_S.rf
  have hAb : ∀ q, kNo q → kHi ε q := fun _ h => h.elim
  have hl : lv_has ls 3 [(0, .int x), (1, .int lo), (2, .int hi)] := hl
  refine lv_iload_n hx hb dX4_requireRange_0 rfl (lv_at hl 0 rfl) ?_
  refine lv_iload_n hx hb dX4_requireRange_1 rfl (lv_at hl 1 rfl) ?_
  refine lv_icmp_lt (tgt := 10) hx hb dX4_requireRange_2 (by decide) (fun hc1 => ?_) (fun hc1 => ?_)
  · exact kthrow (E := "java/lang/IllegalArgumentException") (names := ["java/lang/RuntimeException", "java/lang/Exception"]) (ik := 175) (is := 177) (ic := 179) (k := 8) hst S hE hT hlocks hS hl.1 (by decide +kernel) (by decide +kernel) (by decide +kernel) rfl (by decide +kernel) (by decide +kernel) (by decide +kernel) dX4_requireRange_10 dX4_requireRange_13 dX4_requireRange_14 dX4_requireRange_16 dX4_requireRange_19 (by decide)
  · refine lv_iload_n hx hb dX4_requireRange_5 rfl (lv_at hl 0 rfl) ?_
    refine lv_iload_n hx hb dX4_requireRange_6 rfl (lv_at hl 2 rfl) ?_
    refine lv_icmp_le (tgt := 20) hx hb dX4_requireRange_7 (by decide) (fun hc => absurd hc (h.elim (fun q => absurd q hc1) id)) (fun _ => ?_)
    exact kthrow (E := "java/lang/IllegalArgumentException") (names := ["java/lang/RuntimeException", "java/lang/Exception"]) (ik := 175) (is := 177) (ic := 179) (k := 8) hst S hE hT hlocks hS hl.1 (by decide +kernel) (by decide +kernel) (by decide +kernel) rfl (by decide +kernel) (by decide +kernel) (by decide +kernel) dX4_requireRange_10 dX4_requireRange_13 dX4_requireRange_14 dX4_requireRange_16 dX4_requireRange_19 (by decide)
