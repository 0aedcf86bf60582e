set_option maxHeartbeats 4000000 in
set_option maxRecDepth 100000 in
theorem cc_newLen (ε : kEnv) (l : Launch) {H : Heap} {n : Nat} (h10 : 10 ≤ n) (hn : n ≤ 1000000) : kPi ε l yJ8_newLength_cabcc wsJ8_newLength_cabcc ({ frames := 1, cells := 0, slots := 0, locals := 14 }) [.int (nI n), .int (nI 1), .int (nI (n / 2))] H (nI (n + n / 2)) := by
  refine kof (cc := cJ8_newLength_cabcc) (maxL := 4) (ret := (some .int)) (by decide) rfl (Nat.le_of_ble_eq_true rfl) ?_
  intro p e s m below meth c ls S hr hlocks hin hH hE hl
  have S : CallFix p m c cJ8_newLength_cabcc 4 s _ wsJ8_newLength_cabcc RJ8 := S
  have hx := S.1
  have hb := S.2.1
  have hown : s.vm.findClass RJ8 = some m.cls := S.2.2.2.1
  have hts := S.2.2.2.2
  have hK := hE.1
  have hS : va_S kNo s.heap H [] := by rw [hH]; exact va_S.rf
  have hAb : ∀ q, kNo q → kHi ε q := fun _ h => h.elim
  have hl : lv_has ls 4 [(0, .int (nI n)), (1, .int (nI 1)), (2, .int (nI (n / 2)))] := hl
  refine lv_iload_n hx hb dJ8_newLength_cabcc_0 rfl (lv_at hl 0 rfl) ?_
  refine lv_iload_n hx hb dJ8_newLength_cabcc_1 rfl (lv_at hl 1 rfl) ?_
  refine lv_iload_n hx hb dJ8_newLength_cabcc_2 rfl (lv_at hl 2 rfl) ?_
  refine va_mmax hx hb (S.2.2.1.trans hl.1.symm) (own := RJ8) hown (hts (.methodLink RJ8 194 Lib.Math.max.name) (by decide +kernel)) (hts (.static Lib.Math.max.name) (by decide +kernel)) (hts (.initialized "java/lang/Math") (by decide +kernel)) (hts (.code Lib.Math.max.name Lib.Math.max.code 2 (some .int)) (by decide +kernel)) (Nat.le_of_ble_eq_true rfl) (Nat.le_of_ble_eq_true rfl) (Nat.zero_le _) (Nat.zero_le _) dJ8_newLength_cabcc_3 ?_
  refine kr_top (y := nI (n / 2)) (if_pos (nI_lt (by omega) (by omega))) ?_
  refine lv_iadd hx hb dJ8_newLength_cabcc_6 ?_
  refine kr_top (y := nI (n + n / 2)) (nI_add _ _) ?_
  refine lv_istore_n (lv' := [(3, .int (nI (n + n / 2))), (0, .int (nI n)), (1, .int (nI 1)), (2, .int (nI (n / 2)))]) hx hb dJ8_newLength_cabcc_7 rfl hl (by decide) rfl (fun ls hl => ?_)
  refine lv_iconst (v := 0) hx hb dJ8_newLength_cabcc_8 (by decide) ?_
  refine lv_iload_n hx hb dJ8_newLength_cabcc_9 rfl (lv_at hl 0 rfl) ?_
  refine lv_icmp_ge (tgt := 21) hx hb dJ8_newLength_cabcc_10 (by decide) (fun hc => absurd hc (nI_nle (by omega) (by omega))) (fun _ => ?_)
  refine lv_iload_n hx hb dJ8_newLength_cabcc_13 rfl (lv_at hl 0 rfl) ?_
  refine lv_ldc (own := RJ8) (v := 2147483639) hx hb hown (hts (.constant RJ8 200 (2147483639)) (by decide +kernel)) dJ8_newLength_cabcc_14 ?_
  refine lv_icmp_gt (tgt := 21) hx hb dJ8_newLength_cabcc_16 (by decide) (fun hc => absurd hc (nI_nlt (a := 2147483639) (b := n + n / 2) (by omega) (by decide))) (fun _ => ?_)
  refine lv_iload_n hx hb dJ8_newLength_cabcc_19 rfl (lv_at hl 0 rfl) ?_
  refine kend_i S hr hlocks hS ⟨rfl, rfl⟩ dJ8_newLength_cabcc_20
set_option maxHeartbeats 4000000 in
set_option maxRecDepth 100000 in
theorem cc_copyOf3 (ε : kEnv) (l : Launch) {H : Heap} {a0 n n9 : Nat} {f : Nat → Option Nat} (ha : kat ε a0 (kO ε n f) H) (hnn : n ≤ n9) (hn9 : n9 ≤ 2000000) (hbz : ε.2.2.1 ≤ H.size) (hel : ∀ j, j < n → ∀ y, f j = some y → kEl ε y H) : kMr ε l yJ7_copyOf_6403c wsJ7_copyOf_6403c ({ frames := 1, cells := 1, slots := n9, locals := 64 }) [.ref a0, .int (nI n9), .ref ((ks ε 9))] H (kNw H.size) (1) (n9) (fun r H' => r = H.size ∧ kat ε H.size (kO ε n9 (fun j => if j < n then f j else none)) H') := by
  refine kof (cc := cJ7_copyOf_6403c) (maxL := 4) (ret := (some (.array (.object "java/lang/Object")))) (by decide) rfl (Nat.le_of_ble_eq_true rfl) ?_
  intro p e s m below meth c ls S hr hlocks hin hH hE hl
  have S : CallFix p m c cJ7_copyOf_6403c 4 s _ wsJ7_copyOf_6403c RJ7 := S
  have hx := S.1
  have hb := S.2.1
  have hown : s.vm.findClass RJ7 = some m.cls := S.2.2.2.1
  have hts := S.2.2.2.2
  have hK := hE.1
  have hS : va_S (kNw H.size) s.heap H [] := by rw [hH]; exact va_S.rf
  have hl : lv_has ls 4 [(0, .ref a0), (1, .int (nI n9)), (2, .ref ((ks ε 9)))] := hl
  refine lv_aload_n hx hb dJ7_copyOf_6403c_0 rfl (lv_at hl 2 rfl) ?_
  refine va_ldcM hx hb hown (hts (.classLink RJ7 110 "[Ljava/lang/Object;") (by decide +kernel)) hE.2.2.2.2.2.2.2.2.2.2.1 dJ7_copyOf_6403c_1 ?_
  refine lv_acmp_ne (rx := some (ks ε 9)) (ry := some (ks ε 9)) (tgt := 13) hx hb dJ7_copyOf_6403c_3 (by decide) (fun hc => absurd rfl hc) (fun _ => ?_)
  refine lv_iload_n hx hb dJ7_copyOf_6403c_6 rfl (lv_at hl 1 rfl) ?_
  refine kr_newq (own := RJ7) (N' := n9) hx hb hown hE hS (hts (.classLink RJ7 2 "java/lang/Object") (by decide +kernel)) (nI_pos (by omega)) (nI_clamp (by omega)) (by omega) (Nat.le_refl _) (by show 0 + n9 ≤ n9; omega) dJ7_copyOf_6403c_7 (fun H1 hN hnew hS => ?_)
  rw [show (0 : Nat) + n9 = n9 from Nat.zero_add _]
  have ha1 := hN.at ha
  refine lv_goto (tgt := 24) hx hb dJ7_copyOf_6403c_10 (by decide) ?_
  refine lv_astore_n (lv' := [(3, .ref H.size), (0, .ref a0), (1, .int (nI n9)), (2, .ref ((ks ε 9)))]) hx hb dJ7_copyOf_6403c_24 rfl hl (by decide) rfl (fun ls hl => ?_)
  refine lv_aload_n hx hb dJ7_copyOf_6403c_25 rfl (lv_at hl 1 rfl) ?_
  refine lv_iconst (v := 0) hx hb dJ7_copyOf_6403c_26 (by decide) ?_
  refine lv_aload_n hx hb dJ7_copyOf_6403c_27 rfl (lv_at hl 0 rfl) ?_
  refine lv_iconst (v := 0) hx hb dJ7_copyOf_6403c_28 (by decide) ?_
  refine lv_aload_n hx hb dJ7_copyOf_6403c_29 rfl (lv_at hl 1 rfl) ?_
  refine kr_alen hx hb hK ha1 dJ7_copyOf_6403c_30 ?_
  refine lv_iload_n hx hb dJ7_copyOf_6403c_31 rfl (lv_at hl 2 rfl) ?_
  refine va_mmin hx hb (S.2.2.1.trans hl.1.symm) (own := RJ7) hown (hts (.methodLink RJ7 304 Lib.Math.min.name) (by decide +kernel)) (hts (.static Lib.Math.min.name) (by decide +kernel)) (hts (.initialized "java/lang/Math") (by decide +kernel)) (hts (.code Lib.Math.min.name Lib.Math.min.code 2 (some .int)) (by decide +kernel)) (Nat.le_of_ble_eq_true rfl) (Nat.le_of_ble_eq_true rfl) (Nat.le_refl _) (Nat.le_refl _) dJ7_copyOf_6403c_32 ?_
  refine kr_top (y := nI n) (by
    rcases Nat.lt_or_ge n n9 with h | h
    · exact if_neg (nI_nlt (by omega) (by omega))
    · rw [show n9 = n by omega]; exact ite_self _) ?_
  have hz0 : (0 : Int32).toNatClampNeg = 0 := by decide
  have hnc : (nI n).toNatClampNeg = n := nI_clamp (by omega)
  refine kr_copyq (a := H.size) hx hb (S.2.2.1.trans hl.1.symm) hown (hts (.methodLink RJ7 150 arraycopyName) (by decide +kernel)) (hts (.native arraycopyName) (by decide +kernel)) (hts (.static arraycopyName) (by decide +kernel)) (hts (.initialized "java/lang/System") (by decide +kernel)) hK hS ha1 hnew (Nat.le_refl _) (by decide) (by decide) (nI_pos (by omega)) (by rw [hz0, hnc]; omega) (by rw [hz0, hnc]; omega) (fun i hi y hy => by rw [hnc] at hi; rw [hz0, Nat.zero_add] at hy; have h9 := hel i hi y hy; exact (h9.kept (hN.2 _ h9.lt)).any hE) (Nat.le_of_ble_eq_true rfl) (Nat.le_of_ble_eq_true rfl) dJ7_copyOf_6403c_35 (fun H2 locs hU2 hc2 hS => ?_)
  rw [hz0, hnc] at hc2
  refine lv_aload_n hx hb dJ7_copyOf_6403c_38 rfl (lv_at hl 0 rfl) ?_
  refine kend_r S hr (Or.inr ⟨_, rfl⟩) hlocks hS ⟨rfl, kO_ext (fun j hj => ?_) hc2⟩ dJ7_copyOf_6403c_39
  simp [va_cpy]
set_option maxHeartbeats 4000000 in
set_option maxRecDepth 100000 in
theorem cc_copyOf2 (ε : kEnv) (l : Launch) {H : Heap} {a0 n n9 : Nat} {f : Nat → Option Nat} (ha : kat ε a0 (kO ε n f) H) (hnn : n ≤ n9) (hn9 : n9 ≤ 2000000) (hbz : ε.2.2.1 ≤ H.size) (hel : ∀ j, j < n → ∀ y, f j = some y → kEl ε y H) : kMr ε l yJ7_copyOf_1904c wsJ7_copyOf_1904c ({ frames := 2, cells := 1, slots := n9, locals := 87 }) [.ref a0, .int (nI n9)] H (kNw H.size) (1) (n9) (fun r H' => r = H.size ∧ kat ε H.size (kO ε n9 (fun j => if j < n then f j else none)) H') := by
  refine kof (cc := cJ7_copyOf_1904c) (maxL := 2) (ret := (some (.array (.object "java/lang/Object")))) (by decide) rfl (Nat.le_of_ble_eq_true rfl) ?_
  intro p e s m below meth c ls S hr hlocks hin hH hE hl
  have S : CallFix p m c cJ7_copyOf_1904c 2 s _ wsJ7_copyOf_1904c RJ7 := S
  have hx := S.1
  have hb := S.2.1
  have hown : s.vm.findClass RJ7 = some m.cls := S.2.2.2.1
  have hts := S.2.2.2.2
  have hK := hE.1
  have hS : va_S (kNw H.size) s.heap H [] := by rw [hH]; exact va_S.rf
  have hl : lv_has ls 2 [(0, .ref a0), (1, .int (nI n9))] := hl
  have hAb : ∀ q, kNw H.size q → kHi ε q := fun q h => Nat.le_trans hbz h
  refine lv_aload_n hx hb dJ7_copyOf_1904c_0 rfl (lv_at hl 0 rfl) ?_
  refine lv_iload_n hx hb dJ7_copyOf_1904c_1 rfl (lv_at hl 1 rfl) ?_
  refine lv_aload_n hx hb dJ7_copyOf_1904c_2 rfl (lv_at hl 0 rfl) ?_
  refine va_getC hx hb (S.2.2.1.trans hl.1.symm) hown (C := "[Ljava/lang/Object;") (hts (.methodLink RJ7 86 ⟨"java/lang/Object", "getClass", "()Ljava/lang/Class;"⟩) (by decide +kernel)) (va_Nw.use rfl (hE.2.2.2.1 _ (by decide))) (hts (.selects "[Ljava/lang/Object;" ⟨"java/lang/Object", "getClass", "()Ljava/lang/Class;"⟩ ⟨"java/lang/Object", "getClass", "()Ljava/lang/Class;"⟩) (by decide +kernel)) (hts (.instanceMethod ⟨"java/lang/Object", "getClass", "()Ljava/lang/Class;"⟩) (by decide +kernel)) (hts (.native ⟨"java/lang/Object", "getClass", "()Ljava/lang/Class;"⟩) (by decide +kernel)) hE.2.2.2.2.2.2.2.2.2.2.1 ⟨_, (show H[a0]? = some (vp_cell _ _) from ha), rfl, va_nmO (hK.2 2 _ rfl).2 (by decide +kernel)⟩ (Nat.le_of_ble_eq_true rfl) (Nat.le_of_ble_eq_true rfl) dJ7_copyOf_1904c_3 ?_
  refine kgo_r (kc_S (As := [.ref a0, .int (nI n9), .ref ((ks ε 9))]) (rest := []) S hE hS hAb (cc_copyOf3 ε l ha hnn hn9 hbz hel) (va_cwS 3 hts gJ7_copyOf_1904c_J7_copyOf_6403c rfl rfl rfl (by decide +kernel) ⟨Nat.le_of_ble_eq_true rfl, Nat.le_of_ble_eq_true rfl⟩) rfl hl.1 rfl (Nat.le_of_ble_eq_true rfl) dJ7_copyOf_1904c_6 ⟨Nat.le_refl _, by show 0 + n9 ≤ n9; omega⟩) hS (fun _ h => h) (fun r H1 locs hp hz hq hS => ?_)
  rw [show (0 : Nat) + n9 = n9 from Nat.zero_add _]
  exact kend_r S hr (Or.inr ⟨_, rfl⟩) hlocks hS hp dJ7_copyOf_1904c_9
theorem kin_Jx4a65c_grow_92f84_Jx4a65c : ∀ w ∈ wsJx4a65c0, w ∈ wsJx4a65c_grow_92f84 := by decide +kernel
theorem kin_Jx4a65c_grow_d5877_Jx4a65c : ∀ w ∈ wsJx4a65c0, w ∈ wsJx4a65c_grow_d5877 := by decide +kernel
theorem kin_Jx4a65c_add_72be8_Jx4a65c : ∀ w ∈ wsJx4a65c0, w ∈ wsJx4a65c_add_72be8 := by decide +kernel
theorem kin_Jx4a65c_add_9ea2d_Jx4a65c : ∀ w ∈ wsJx4a65c0, w ∈ wsJx4a65c_add_9ea2d := by decide +kernel
set_option maxHeartbeats 4000000 in
set_option maxRecDepth 100000 in
theorem cc_growF (ε : kEnv) (l : Launch) {H : Heap} {a b n : Nat} {u v : Int32} {f : Nat → Option Nat} (ha : kat ε a (.inr (0, [.int u, .ref b, .int v])) H) (he : kat ε b (kO ε n f) H) (h10 : 10 ≤ n) (hn : n ≤ 1000000) (hbz : ε.2.2.1 ≤ H.size) (hba : ε.2.2.1 ≤ a) (hel : ∀ j, j < n → ∀ y, f j = some y → kEl ε y H) : kMr ε l yJx4a65c_grow_92f84 wsJx4a65c_grow_92f84 ({ frames := 3, cells := 1, slots := n + n / 2, locals := 108 }) [.ref a, .int (nI (n + 1))] H (kA1 a H.size) (1) (n + n / 2) (fun r H' => r = H.size ∧ kat ε a (.inr (0, [.int u, .ref H.size, .int v])) H' ∧ kat ε H.size (kO ε (n + n / 2) (fun j => if j < n then f j else none)) H') := by
  refine kof (cc := cJx4a65c_grow_92f84) (maxL := 4) (ret := (some (.array (.object "java/lang/Object")))) (by decide) rfl (Nat.le_of_ble_eq_true rfl) ?_
  intro p e s m below meth c ls S hr hlocks hin hH hE hl
  have S : CallFix p m c cJx4a65c_grow_92f84 4 s _ wsJx4a65c_grow_92f84 RJx4a65c := S
  have hx := S.1
  have hb := S.2.1
  have hown : s.vm.findClass RJx4a65c = some m.cls := S.2.2.2.1
  have hts := S.2.2.2.2
  have hK := hE.1
  have hS : va_S (kA1 a H.size) s.heap H [] := by rw [hH]; exact va_S.rf
  have hl : lv_has ls 4 [(0, .ref a), (1, .int (nI (n + 1)))] := hl
  have hAb : ∀ q, kA1 a H.size q → kHi ε q := fun q h => h.elim (fun h => h ▸ hba) (fun h => Nat.le_trans hbz h)
  refine lv_aload_n hx hb dJx4a65c_grow_92f84_0 rfl (lv_at hl 0 rfl) ?_
  refine kr_get (T := TJx4a65c) (N := 3) hx hb hts hown hK ha rfl kin_Jx4a65c_grow_92f84_Jx4a65c 1 (by decide) (by decide +kernel) rfl dJx4a65c_grow_92f84_1 ?_
  refine kr_alen hx hb hK he dJx4a65c_grow_92f84_4 ?_
  refine lv_istore_n (lv' := [(2, .int (nI n)), (0, .ref a), (1, .int (nI (n + 1)))]) hx hb dJx4a65c_grow_92f84_5 rfl hl (by decide) rfl (fun ls hl => ?_)
  refine lv_iload_n hx hb dJx4a65c_grow_92f84_6 rfl (lv_at hl 0 rfl) ?_
  refine lv_if_gt (tgt := 20) hx hb dJx4a65c_grow_92f84_7 (by decide) (fun _ => ?_) (fun hc => absurd (Int32.not_le.mp (nI_nle (by omega) (by omega))) hc)
  refine lv_iload_n hx hb dJx4a65c_grow_92f84_20 rfl (lv_at hl 0 rfl) ?_
  refine lv_iload_n hx hb dJx4a65c_grow_92f84_21 rfl (lv_at hl 2 rfl) ?_
  refine lv_iload_n hx hb dJx4a65c_grow_92f84_22 rfl (lv_at hl 0 rfl) ?_
  refine lv_isub hx hb dJx4a65c_grow_92f84_23 ?_
  refine kr_top (y := nI 1) (by rw [← nI_1]; exact by rw [Int32.add_comm, Int32.add_sub_cancel]; rfl) ?_
  refine lv_iload_n hx hb dJx4a65c_grow_92f84_24 rfl (lv_at hl 0 rfl) ?_
  refine lv_iconst (v := 1) hx hb dJx4a65c_grow_92f84_25 (by decide) ?_
  refine lv_ishr hx hb dJx4a65c_grow_92f84_26 ?_
  refine kr_top (y := nI (n / 2)) (pk_shrN (by omega) _ 1 (by decide)) ?_
  refine kgo_pi (v := nI (n + n / 2)) (kc_S (As := [.int (nI n), .int (nI 1), .int (nI (n / 2))]) (rest := []) S hE hS hAb (cc_newLen ε l h10 hn) (va_cwS 3 hts gJx4a65c_grow_92f84_J8_newLength_cabcc rfl rfl rfl (by decide +kernel) ⟨Nat.le_of_ble_eq_true rfl, Nat.le_of_ble_eq_true rfl⟩) rfl hl.1 rfl (Nat.le_of_ble_eq_true rfl) dJx4a65c_grow_92f84_27 ⟨Nat.zero_le _, Nat.zero_le _⟩) hS (fun locs hS => ?_)
  refine lv_istore_n (lv' := [(3, .int (nI (n + n / 2))), (2, .int (nI n)), (0, .ref a), (1, .int (nI (n + 1)))]) hx hb dJx4a65c_grow_92f84_30 rfl hl (by decide) rfl (fun ls hl => ?_)
  refine lv_aload_n hx hb dJx4a65c_grow_92f84_31 rfl (lv_at hl 2 rfl) ?_
  refine lv_aload_n hx hb dJx4a65c_grow_92f84_32 rfl (lv_at hl 2 rfl) ?_
  refine kr_get (T := TJx4a65c) (N := 3) hx hb hts hown hK ha rfl kin_Jx4a65c_grow_92f84_Jx4a65c 1 (by decide) (by decide +kernel) rfl dJx4a65c_grow_92f84_33 ?_
  refine lv_iload_n hx hb dJx4a65c_grow_92f84_36 rfl (lv_at hl 0 rfl) ?_
  refine kgo_r (kc_S (As := [.ref b, .int (nI (n + n / 2))]) (rest := [.ref a]) S hE hS hAb (cc_copyOf2 ε l he (show n ≤ n + n / 2 by omega) (by omega) hbz hel) (va_cwS 2 hts gJx4a65c_grow_92f84_J7_copyOf_1904c rfl rfl rfl (by decide +kernel) ⟨Nat.le_of_ble_eq_true rfl, Nat.le_of_ble_eq_true rfl⟩) rfl hl.1 rfl (Nat.le_of_ble_eq_true rfl) dJx4a65c_grow_92f84_37 ⟨Nat.le_refl _, by show 0 + (n + n / 2) ≤ n + n / 2; omega⟩) hS (fun q h => Or.inr h) (fun r H1 locs hp hz hq hS => ?_)
  rw [show (0 : Nat) + (n + n / 2) = n + n / 2 from Nat.zero_add _]
  obtain ⟨rfl, hnew⟩ := hp
  have hal := va_at.lt ha
  have ha : kat ε a _ H1 := va_at.kept ha (hq a hal (Nat.not_le.mpr hal))
  refine lv_dup_x1 hx hb dJx4a65c_grow_92f84_40 rfl rfl ?_
  refine kr_put (T := TJx4a65c) (N := 3) (v := .ref H.size) (ty := .array (.object "java/lang/Object")) hx hb hts hown hK hS ha (Or.inl rfl) rfl kin_Jx4a65c_grow_92f84_Jx4a65c tyJx4a65c tyJx4a65c_ok nmJx4a65c 1 (by decide) "java/util/ArrayList" (hts (.fieldLink RJx4a65c 9 "java/util/ArrayList" "elementData" "[Ljava/lang/Object;") (by decide +kernel)) (fun _ h => h) rfl (by decide +kernel) (rfl) (rfl) (Nat.le_of_ble_eq_true rfl) dJx4a65c_grow_92f84_41 (fun H2 locs hU ho hS => ?_)
  exact kend_r S hr (Or.inr ⟨_, rfl⟩) hlocks hS ⟨rfl, ho, hU.at hnew (by omega)⟩ dJx4a65c_grow_92f84_44
set_option maxHeartbeats 4000000 in
set_option maxRecDepth 100000 in
theorem cc_growE (ε : kEnv) (l : Launch) {H : Heap} {a : Nat} {u v : Int32} (ha : kat ε a (.inr (0, [.int u, .ref (kz ε), .int v])) H) (hbz : ε.2.2.1 ≤ H.size) (hba : ε.2.2.1 ≤ a) : kMr ε l yJx4a65c_grow_92f84 wsJx4a65c_grow_92f84 ({ frames := 3, cells := 1, slots := 10, locals := 108 }) [.ref a, .int (nI 1)] H (kA1 a H.size) (1) (10) (fun r H' => r = H.size ∧ kat ε a (.inr (0, [.int u, .ref H.size, .int v])) H' ∧ kat ε H.size (kO ε 10 (fun _ => none)) H') := by
  refine kof (cc := cJx4a65c_grow_92f84) (maxL := 4) (ret := (some (.array (.object "java/lang/Object")))) (by decide) rfl (Nat.le_of_ble_eq_true rfl) ?_
  intro p e s m below meth c ls S hr hlocks hin hH hE hl
  have S : CallFix p m c cJx4a65c_grow_92f84 4 s _ wsJx4a65c_grow_92f84 RJx4a65c := S
  have hx := S.1
  have hb := S.2.1
  have hown : s.vm.findClass RJx4a65c = some m.cls := S.2.2.2.1
  have hts := S.2.2.2.2
  have hK := hE.1
  have hS : va_S (kA1 a H.size) s.heap H [] := by rw [hH]; exact va_S.rf
  have hl : lv_has ls 4 [(0, .ref a), (1, .int (nI 1))] := hl
  have hAb : ∀ q, kA1 a H.size q → kHi ε q := fun q h => h.elim (fun h => h ▸ hba) (fun h => Nat.le_trans hbz h)
  refine lv_aload_n hx hb dJx4a65c_grow_92f84_0 rfl (lv_at hl 0 rfl) ?_
  refine kr_get (T := TJx4a65c) (N := 3) hx hb hts hown hK ha rfl kin_Jx4a65c_grow_92f84_Jx4a65c 1 (by decide) (by decide +kernel) rfl dJx4a65c_grow_92f84_1 ?_
  refine va_tlen hx hb (hE.2.2.2.2.2.2.2.2.1.narrow hAb) hS (v := 0) rfl dJx4a65c_grow_92f84_4 ?_
  refine lv_istore_n (lv' := [(2, .int 0), (0, .ref a), (1, .int (nI 1))]) hx hb dJx4a65c_grow_92f84_5 rfl hl (by decide) rfl (fun ls hl => ?_)
  refine lv_iload_n hx hb dJx4a65c_grow_92f84_6 rfl (lv_at hl 0 rfl) ?_
  refine lv_if_gt (tgt := 20) hx hb dJx4a65c_grow_92f84_7 (by decide) (fun hc => absurd hc (by decide)) (fun _ => ?_)
  refine lv_aload_n hx hb dJx4a65c_grow_92f84_10 rfl (lv_at hl 1 rfl) ?_
  refine kr_get (T := TJx4a65c) (N := 3) hx hb hts hown hK ha rfl kin_Jx4a65c_grow_92f84_Jx4a65c 1 (by decide) (by decide +kernel) rfl dJx4a65c_grow_92f84_11 ?_
  refine va_gets hx hb (hE.2.2.2.2.2.2.2.1.narrow hAb) hS hown (hts (.fieldLink RJx4a65c 39 RJx4a65c "DEFAULTCAPACITY_EMPTY_ELEMENTDATA" "[Ljava/lang/Object;") (by decide +kernel)) (fun _ h => h) dJx4a65c_grow_92f84_14 ?_
  refine lv_acmp_eq (rx := some (kz ε)) (ry := some (kz ε)) (tgt := 45) hx hb dJx4a65c_grow_92f84_17 (by decide) (fun _ => ?_) (fun hc => absurd rfl hc)
  refine lv_aload_n hx hb dJx4a65c_grow_92f84_45 rfl (lv_at hl 1 rfl) ?_
  refine lv_bipush (v := 10) hx hb dJx4a65c_grow_92f84_46 (by decide) ?_
  refine lv_iload_n hx hb dJx4a65c_grow_92f84_48 rfl (lv_at hl 2 rfl) ?_
  refine va_mmax hx hb (S.2.2.1.trans hl.1.symm) (own := RJx4a65c) hown (hts (.methodLink RJx4a65c 79 Lib.Math.max.name) (by decide +kernel)) (hts (.static Lib.Math.max.name) (by decide +kernel)) (hts (.initialized "java/lang/Math") (by decide +kernel)) (hts (.code Lib.Math.max.name Lib.Math.max.code 2 (some .int)) (by decide +kernel)) (Nat.le_of_ble_eq_true rfl) (Nat.le_of_ble_eq_true rfl) (Nat.zero_le _) (Nat.zero_le _) dJx4a65c_grow_92f84_49 ?_
  refine kr_top (y := 10) (by decide) ?_
  refine kr_newq (own := RJx4a65c) (N' := 10) hx hb hown hE hS (hts (.classLink RJx4a65c 7 "java/lang/Object") (by decide +kernel)) (by decide) (by decide) (by decide) (Nat.le_refl _) (Nat.le_refl _) dJx4a65c_grow_92f84_52 (fun H1 hN hnew hS => ?_)
  have hal := va_at.lt ha
  have ha := hN.at ha
  refine lv_dup_x1 hx hb dJx4a65c_grow_92f84_55 rfl rfl ?_
  refine kr_put (T := TJx4a65c) (N := 3) (v := .ref H.size) (ty := .array (.object "java/lang/Object")) hx hb hts hown hK hS ha (Or.inl rfl) rfl kin_Jx4a65c_grow_92f84_Jx4a65c tyJx4a65c tyJx4a65c_ok nmJx4a65c 1 (by decide) "java/util/ArrayList" (hts (.fieldLink RJx4a65c 9 "java/util/ArrayList" "elementData" "[Ljava/lang/Object;") (by decide +kernel)) (fun _ h => h) rfl (by decide +kernel) (rfl) (rfl) (Nat.le_of_ble_eq_true rfl) dJx4a65c_grow_92f84_56 (fun H2 locs hU ho hS => ?_)
  exact kend_r S hr (Or.inr ⟨_, rfl⟩) hlocks hS ⟨rfl, ho, hU.at hnew (by omega)⟩ dJx4a65c_grow_92f84_59
set_option maxHeartbeats 4000000 in
set_option maxRecDepth 100000 in
theorem cc_grow (ε : kEnv) (l : Launch) {H : Heap} {a b n : Nat} {u : Int32} {g : Nat → Nat} (hL : kLs ε a b n g u H) (hfull : ¬ n < kcap n) (hn : n ≤ 1000000) (hbz : ε.2.2.1 ≤ H.size) (hba : ε.2.2.1 ≤ a) (hel : ∀ j, j < n → kEl ε (g j) H) : kMr ε l yJx4a65c_grow_d5877 wsJx4a65c_grow_d5877 ({ frames := 4, cells := 1, slots := kcap (n + 1), locals := 131 }) [.ref a] H (kA1 a H.size) (1) (kcap (n + 1)) (fun r H' => r = H.size ∧ kat ε a (.inr (0, [.int u, .ref H.size, .int (nI n)])) H' ∧ kat ε H.size (kO ε (kcap (n + 1)) (fun j => if j < n then some (g j) else none)) H') := by
  refine kof (cc := cJx4a65c_grow_d5877) (maxL := 1) (ret := (some (.array (.object "java/lang/Object")))) (by decide) rfl (Nat.le_of_ble_eq_true rfl) ?_
  intro p e s m below meth c ls S hr hlocks hin hH hE hl
  have S : CallFix p m c cJx4a65c_grow_d5877 1 s _ wsJx4a65c_grow_d5877 RJx4a65c := S
  have hx := S.1
  have hb := S.2.1
  have hown : s.vm.findClass RJx4a65c = some m.cls := S.2.2.2.1
  have hts := S.2.2.2.2
  have hK := hE.1
  have hS : va_S (kA1 a H.size) s.heap H [] := by rw [hH]; exact va_S.rf
  have hl : lv_has ls 1 [(0, .ref a)] := hl
  have ha := hL.1
  have hAb : ∀ q, kA1 a H.size q → kHi ε q := fun q h => h.elim (fun h => h ▸ hba) (fun h => Nat.le_trans hbz h)
  refine lv_aload_n hx hb dJx4a65c_grow_d5877_0 rfl (lv_at hl 0 rfl) ?_
  refine lv_aload_n hx hb dJx4a65c_grow_d5877_1 rfl (lv_at hl 0 rfl) ?_
  refine kr_get (T := TJx4a65c) (N := 3) hx hb hts hown hK ha rfl kin_Jx4a65c_grow_d5877_Jx4a65c 2 (by decide) (by decide +kernel) rfl dJx4a65c_grow_d5877_2 ?_
  refine lv_iconst (v := 1) hx hb dJx4a65c_grow_d5877_5 (by decide) ?_
  refine lv_iadd hx hb dJx4a65c_grow_d5877_6 ?_
  refine kr_top (y := nI (n + 1)) (nI_1 n) ?_
  by_cases h0 : n = 0
  · have hb0 : b = kz ε := (hL.2.resolve_right (fun h => absurd h.1 (by omega))).2
    rw [hb0] at ha
    refine kr_top (y := nI 1) (by rw [h0]) ?_
    refine kgo_r (kc_V (As := [.int (nI 1)]) (rest := []) S hE hS hAb (cc_growE ε l ha hbz hba) (cwV 1 hts gJx4a65c_grow_d5877_Jx4a65c_grow_92f84 rfl rfl rfl (by decide +kernel) ⟨Nat.le_of_ble_eq_true rfl, Nat.le_of_ble_eq_true rfl⟩) ha rfl rfl hl.1 rfl (Nat.le_of_ble_eq_true rfl) dJx4a65c_grow_d5877_7 ⟨Nat.le_refl _, by show 0 + 10 ≤ kcap (n + 1); rw [h0]; decide⟩) hS (fun q h => h) (fun r H1 locs hp hz hq hS => ?_)
    exact kend_r2 (by rw [h0]; rfl) S hr (Or.inr ⟨_, rfl⟩) hlocks hS ⟨hp.1, hp.2.1, by rw [h0]; exact hp.2.2⟩ dJx4a65c_grow_d5877_10
  · obtain ⟨hk1, hk2⟩ := kcap_full hfull h0
    have he := hL.full h0
    rw [hk1] at he
    have hnx := kcap_next hfull h0
    refine kgo_r (kc_V (As := [.int (nI (n + 1))]) (rest := []) S hE hS hAb (cc_growF ε l ha he hk2 hn hbz hba (fun j hj y hy => by rw [if_pos hj] at hy; cases hy; exact hel j hj)) (cwV 1 hts gJx4a65c_grow_d5877_Jx4a65c_grow_92f84 rfl rfl rfl (by decide +kernel) ⟨Nat.le_of_ble_eq_true rfl, Nat.le_of_ble_eq_true rfl⟩) ha rfl rfl hl.1 rfl (Nat.le_of_ble_eq_true rfl) dJx4a65c_grow_d5877_7 ⟨Nat.le_refl _, by show 0 + (n + n / 2) ≤ kcap (n + 1); omega⟩) hS (fun q h => h) (fun r H1 locs hp hz hq hS => ?_)
    rw [show (0 : Nat) + (n + n / 2) = kcap (n + 1) by omega]
    refine kend_r S hr (Or.inr ⟨_, rfl⟩) hlocks hS ⟨hp.1, hp.2.1, ?_⟩ dJx4a65c_grow_d5877_10
    rw [hnx]
    refine kO_ext (fun j hj => ?_) hp.2.2
    by_cases hj2 : j < n <;> simp [hj2]
set_option maxHeartbeats 4000000 in
set_option maxRecDepth 100000 in
theorem cc_add3N (ε : kEnv) (l : Launch) {H : Heap} {a b n x : Nat} {g : Nat → Nat} (hL : kLs ε a b n g (nI (n + 1)) H) (hn : n ≤ 1000000) (hbz : ε.2.2.1 ≤ H.size) (hba : ε.2.2.1 ≤ a) (hx9 : kEl ε x H) (hxa : x ≠ a) (hbe : 0 < n → ε.2.2.1 ≤ b) (hroom : n < kcap n) (hea : b ≠ a) : kMv ε l yJx4a65c_add_72be8 wsJx4a65c_add_72be8 ({ frames := 5, cells := 0, slots := 0, locals := 158 }) [.ref a, .ref x, .ref b, .int (nI n)] H (kA2 a b H.size n) (0) (0) (fun H' => kAd ε a b n x g H.size H') := by
  refine kof (cc := cJx4a65c_add_72be8) (maxL := 4) (ret := none) (by decide) rfl (Nat.le_of_ble_eq_true rfl) ?_
  intro p e s m below meth c ls S hr hlocks hin hH hE hl
  have S : CallFix p m c cJx4a65c_add_72be8 4 s _ wsJx4a65c_add_72be8 RJx4a65c := S
  have hx := S.1
  have hb := S.2.1
  have hown : s.vm.findClass RJx4a65c = some m.cls := S.2.2.2.1
  have hts := S.2.2.2.2
  have hK := hE.1
  have hS : va_S (kA2 a b H.size n) s.heap H [] := by rw [hH]; exact va_S.rf
  have hl : lv_has ls 4 [(0, .ref a), (1, .ref x), (2, .ref b), (3, .int (nI n))] := hl
  have hAb : ∀ q, kA2 a b H.size n q → kHi ε q := fun q h => h.elim (fun h => h ▸ hba) (fun h => h.elim (fun h => h.2 ▸ hbe h.1) (fun h => Nat.le_trans hbz h))
  have ha := hL.1
  have h0 : 0 < n := Nat.pos_of_ne_zero (fun h => by rw [h] at hroom; exact absurd hroom (by decide))
  have he := hL.full (Nat.pos_iff_ne_zero.mp h0)
  have hcu := kcap_up n
  refine lv_iload_n hx hb dJx4a65c_add_72be8_0 rfl (lv_at hl 3 rfl) ?_
  refine lv_aload_n hx hb dJx4a65c_add_72be8_1 rfl (lv_at hl 2 rfl) ?_
  refine kr_alen hx hb hK he dJx4a65c_add_72be8_2 ?_
  refine lv_icmp_ne (tgt := 11) hx hb dJx4a65c_add_72be8_3 (by decide) (fun _ => ?_) (fun hc => absurd ((nI_eq (by omega) (by omega)).mp hc) (by omega))
  refine lv_aload_n hx hb dJx4a65c_add_72be8_11 rfl (lv_at hl 2 rfl) ?_
  refine lv_iload_n hx hb dJx4a65c_add_72be8_12 rfl (lv_at hl 3 rfl) ?_
  refine lv_aload_n hx hb dJx4a65c_add_72be8_13 rfl (lv_at hl 1 rfl) ?_
  refine kr_qst hx hb hK hS he (Or.inr (Or.inl ⟨h0, rfl⟩)) (hx9.any hE) (j := n) (hroom) (nI_clamp (by omega)) (nI_pos (by omega)) dJx4a65c_add_72be8_14 (fun H3 locs hU3 hrow hS => ?_)
  have ha := hU3.at ha (Ne.symm hea)
  refine lv_aload_n hx hb dJx4a65c_add_72be8_15 rfl (lv_at hl 0 rfl) ?_
  refine lv_iload_n hx hb dJx4a65c_add_72be8_16 rfl (lv_at hl 3 rfl) ?_
  refine lv_iconst (v := 1) hx hb dJx4a65c_add_72be8_17 (by decide) ?_
  refine lv_iadd hx hb dJx4a65c_add_72be8_18 ?_
  refine kr_top (y := nI (n + 1)) (nI_1 n) ?_
  refine kr_put (T := TJx4a65c) (N := 3) (v := .int (nI (n + 1))) (ty := .int) hx hb hts hown hK hS ha (Or.inl rfl) rfl kin_Jx4a65c_add_72be8_Jx4a65c tyJx4a65c tyJx4a65c_ok nmJx4a65c 2 (by decide) "java/util/ArrayList" (hts (.fieldLink RJx4a65c 48 "java/util/ArrayList" "size" "I") (by decide +kernel)) (fun _ h => h) rfl (by decide +kernel) (rfl) (rfl) (Nat.le_of_ble_eq_true rfl) dJx4a65c_add_72be8_19 (fun H4 locs hU ho hS => ?_)
  refine kend_v S hr hlocks hS ⟨_, (if_pos hroom).symm, ho, ?_⟩ dJx4a65c_add_72be8_22
  rw [kcap_same hroom]
  refine kO_ext (fun j hj => ?_) (hU.at hrow hea)
  unfold va_up
  rfl
set_option maxHeartbeats 4000000 in
set_option maxRecDepth 100000 in
theorem cc_add3F (ε : kEnv) (l : Launch) {H : Heap} {a b n x : Nat} {g : Nat → Nat} (hL : kLs ε a b n g (nI (n + 1)) H) (hn : n ≤ 1000000) (hbz : ε.2.2.1 ≤ H.size) (hba : ε.2.2.1 ≤ a) (hx9 : kEl ε x H) (hxa : x ≠ a) (hbe : 0 < n → ε.2.2.1 ≤ b) (hfull : ¬ n < kcap n) (hel : ∀ j, j < n → kEl ε (g j) H) : kMv ε l yJx4a65c_add_72be8 wsJx4a65c_add_72be8 ({ frames := 5, cells := 1, slots := kcap (n + 1), locals := 158 }) [.ref a, .ref x, .ref b, .int (nI n)] H (kA2 a b H.size n) (1) (kcap (n + 1)) (fun H' => kAd ε a b n x g H.size H') := by
  refine kof (cc := cJx4a65c_add_72be8) (maxL := 4) (ret := none) (by decide) rfl (Nat.le_of_ble_eq_true rfl) ?_
  intro p e s m below meth c ls S hr hlocks hin hH hE hl
  have S : CallFix p m c cJx4a65c_add_72be8 4 s _ wsJx4a65c_add_72be8 RJx4a65c := S
  have hx := S.1
  have hb := S.2.1
  have hown : s.vm.findClass RJx4a65c = some m.cls := S.2.2.2.1
  have hts := S.2.2.2.2
  have hK := hE.1
  have hS : va_S (kA2 a b H.size n) s.heap H [] := by rw [hH]; exact va_S.rf
  have hl : lv_has ls 4 [(0, .ref a), (1, .ref x), (2, .ref b), (3, .int (nI n))] := hl
  have hAb : ∀ q, kA2 a b H.size n q → kHi ε q := fun q h => h.elim (fun h => h ▸ hba) (fun h => h.elim (fun h => h.2 ▸ hbe h.1) (fun h => Nat.le_trans hbz h))
  have ha := hL.1
  have hcu := kcap_up n
  have hcv := kcap_up (n + 1)
  have hcg := kcap_ge n
  have hch := kcap_ge (n + 1)
  refine lv_iload_n hx hb dJx4a65c_add_72be8_0 rfl (lv_at hl 3 rfl) ?_
  refine lv_aload_n hx hb dJx4a65c_add_72be8_1 rfl (lv_at hl 2 rfl) ?_
  suffices K1 : W p l e ({ frames := 5, cells := 1, slots := kcap (n + 1), locals := 158 }) s m [.ref a, .ref x, .ref b, .int (nI n)].toArray below meth c H [] 0 0 (MQ below (kQv (fun H' => kAd ε a b n x g H.size H') (kA2 a b H.size n)) [.ref a, .ref x, .ref b, .int (nI n)].toArray s (1) (kcap (n + 1)) (kA2 a b H.size n)) (F0 m 3 ls [.int (nI n), .int (nI n)]) by
    by_cases h0 : n = 0
    · have hb0 : b = kz ε := (hL.2.resolve_right (fun h => absurd h.1 (by omega))).2
      subst hb0
      refine va_tlen hx hb (hE.2.2.2.2.2.2.2.2.1.narrow hAb) hS (v := nI n) (by rw [h0]; rfl) dJx4a65c_add_72be8_2 K1
    · have he := hL.full h0
      rw [(kcap_full hfull h0).1] at he
      exact kr_alen hx hb hK he dJx4a65c_add_72be8_2 K1
  refine lv_icmp_ne (tgt := 11) hx hb dJx4a65c_add_72be8_3 (by decide) (fun hc => absurd (rfl) hc) (fun _ => ?_)
  refine lv_aload_n hx hb dJx4a65c_add_72be8_6 rfl (lv_at hl 0 rfl) ?_
  have hal := va_at.lt ha
  refine kgo_r (kc_V (As := []) (rest := []) S hE hS hAb (cc_grow ε l hL hfull hn hbz hba hel) (cwV 0 hts gJx4a65c_add_72be8_Jx4a65c_grow_d5877 rfl rfl rfl (by decide +kernel) ⟨Nat.le_of_ble_eq_true rfl, Nat.le_of_ble_eq_true rfl⟩) ha rfl rfl hl.1 rfl (Nat.le_of_ble_eq_true rfl) dJx4a65c_add_72be8_7 ⟨Nat.le_refl _, by show 0 + kcap (n + 1) ≤ kcap (n + 1); omega⟩) hS (fun q h => h.elim Or.inl (fun h => Or.inr (Or.inr h))) (fun r H1 locs hp hz hq hS => ?_)
  rw [show (0 : Nat) + kcap (n + 1) = kcap (n + 1) from Nat.zero_add _]
  obtain ⟨rfl, ha, hnew⟩ := hp
  have hx9 := hx9.kept (hq x hx9.lt (fun h => h.elim hxa (Nat.not_le.mpr hx9.lt)))
  have hj9 : n < kcap (n + 1) := by omega
  refine lv_astore_n (lv' := [(2, .ref H.size), (0, .ref a), (1, .ref x), (3, .int (nI n))]) hx hb dJx4a65c_add_72be8_10 rfl hl (by decide) rfl (fun ls hl => ?_)
  refine lv_aload_n hx hb dJx4a65c_add_72be8_11 rfl (lv_at hl 0 rfl) ?_
  refine lv_iload_n hx hb dJx4a65c_add_72be8_12 rfl (lv_at hl 3 rfl) ?_
  refine lv_aload_n hx hb dJx4a65c_add_72be8_13 rfl (lv_at hl 2 rfl) ?_
  refine kr_qst hx hb hK hS hnew (Or.inr (Or.inr (Nat.le_refl _))) (hx9.any hE) (j := n) (hj9) (nI_clamp (by omega)) (nI_pos (by omega)) dJx4a65c_add_72be8_14 (fun H3 locs hU3 hrow hS => ?_)
  have ha := hU3.at ha (by omega)
  refine lv_aload_n hx hb dJx4a65c_add_72be8_15 rfl (lv_at hl 1 rfl) ?_
  refine lv_iload_n hx hb dJx4a65c_add_72be8_16 rfl (lv_at hl 3 rfl) ?_
  refine lv_iconst (v := 1) hx hb dJx4a65c_add_72be8_17 (by decide) ?_
  refine lv_iadd hx hb dJx4a65c_add_72be8_18 ?_
  refine kr_top (y := nI (n + 1)) (nI_1 n) ?_
  refine kr_put (T := TJx4a65c) (N := 3) (v := .int (nI (n + 1))) (ty := .int) hx hb hts hown hK hS ha (Or.inl rfl) rfl kin_Jx4a65c_add_72be8_Jx4a65c tyJx4a65c tyJx4a65c_ok nmJx4a65c 2 (by decide) "java/util/ArrayList" (hts (.fieldLink RJx4a65c 48 "java/util/ArrayList" "size" "I") (by decide +kernel)) (fun _ h => h) rfl (by decide +kernel) (rfl) (rfl) (Nat.le_of_ble_eq_true rfl) dJx4a65c_add_72be8_19 (fun H4 locs hU ho hS => ?_)
  refine kend_v S hr hlocks hS ⟨_, (if_neg hfull).symm, ho, ?_⟩ dJx4a65c_add_72be8_22
  refine kO_ext (fun j hj => ?_) (hU.at hrow (by omega))
  unfold va_up
  rfl
set_option maxHeartbeats 4000000 in
set_option maxRecDepth 100000 in
theorem cc_addN (ε : kEnv) (l : Launch) {H : Heap} {a b n x : Nat} {g : Nat → Nat} (hL : kLs ε a b n g (nI n) H) (hn : n ≤ 1000000) (hbz : ε.2.2.1 ≤ H.size) (hba : ε.2.2.1 ≤ a) (hx9 : kEl ε x H) (hxa : x ≠ a) (hbe : 0 < n → ε.2.2.1 ≤ b) (hea : 0 < n → b ≠ a) (hroom : n < kcap n) : kMi ε l yJx4a65c_add_9ea2d wsJx4a65c_add_9ea2d ({ frames := 6, cells := 0, slots := 0, locals := 185 }) [.ref a, .ref x] H (kA2 a b H.size n) (0) (0) (fun r H' => r = 1 ∧ kAd ε a b n x g H.size H') := by
  refine kof (cc := cJx4a65c_add_9ea2d) (maxL := 2) (ret := (some .boolean)) (by decide) rfl (Nat.le_of_ble_eq_true rfl) ?_
  intro p e s m below meth c ls S hr hlocks hin hH hE hl
  have S : CallFix p m c cJx4a65c_add_9ea2d 2 s _ wsJx4a65c_add_9ea2d RJx4a65c := S
  have hx := S.1
  have hb := S.2.1
  have hown : s.vm.findClass RJx4a65c = some m.cls := S.2.2.2.1
  have hts := S.2.2.2.2
  have hK := hE.1
  have hS : va_S (kA2 a b H.size n) s.heap H [] := by rw [hH]; exact va_S.rf
  have hl : lv_has ls 2 [(0, .ref a), (1, .ref x)] := hl
  have hAb : ∀ q, kA2 a b H.size n q → kHi ε q := fun q h => h.elim (fun h => h ▸ hba) (fun h => h.elim (fun h => h.2 ▸ hbe h.1) (fun h => Nat.le_trans hbz h))
  have ha := hL.1
  have hal := va_at.lt ha
  refine lv_aload_n hx hb dJx4a65c_add_9ea2d_0 rfl (lv_at hl 0 rfl) ?_
  refine lv_dup hx hb dJx4a65c_add_9ea2d_1 rfl ?_
  refine va_get hx hb hts kin_Jx4a65c_add_9ea2d_Jx4a65c hown hK (kP1 ha) 0 rfl (T := TJx4a65c) (N := 3) rfl 0 (by decide) (hts (.fieldLink RJx4a65c 63 RJx4a65c "modCount" "I") (by decide +kernel)) (u_same (hts (.sameField RJx4a65c "java/util/AbstractList" "modCount" "I") (by decide +kernel))) rfl dJx4a65c_add_9ea2d_2 ?_
  refine lv_iconst (v := 1) hx hb dJx4a65c_add_9ea2d_5 (by decide) ?_
  refine lv_iadd hx hb dJx4a65c_add_9ea2d_6 ?_
  refine kr_top (y := nI (n + 1)) (nI_1 n) ?_
  refine kr_put (T := TJx4a65c) (N := 3) (v := .int (nI (n + 1))) (ty := .int) hx hb hts hown hK hS ha (Or.inl rfl) rfl kin_Jx4a65c_add_9ea2d_Jx4a65c tyJx4a65c tyJx4a65c_ok nmJx4a65c 0 (by decide) "java/util/ArrayList" (hts (.fieldLink RJx4a65c 63 "java/util/ArrayList" "modCount" "I") (by decide +kernel)) (u_same (hts (.sameField RJx4a65c "java/util/AbstractList" "modCount" "I") (by decide +kernel))) rfl (by decide +kernel) (rfl) (rfl) (Nat.le_of_ble_eq_true rfl) dJx4a65c_add_9ea2d_7 (fun H1 locs hU ho hS => ?_)
  have hz1 : H1.size = H.size := hU.1
  have hL : kLs ε a b n g (nI (n + 1)) H1 := ⟨ho, hL.2.elim Or.inl (fun q => Or.inr ⟨q.1, hU.at q.2 (hea q.1)⟩)⟩
  have hx9 := hx9.kept (hU.2 x hxa)
  have ha := ho
  refine lv_aload_n hx hb dJx4a65c_add_9ea2d_10 rfl (lv_at hl 0 rfl) ?_
  refine lv_aload_n hx hb dJx4a65c_add_9ea2d_11 rfl (lv_at hl 1 rfl) ?_
  refine lv_aload_n hx hb dJx4a65c_add_9ea2d_12 rfl (lv_at hl 0 rfl) ?_
  refine kr_get (T := TJx4a65c) (N := 3) hx hb hts hown hK ha rfl kin_Jx4a65c_add_9ea2d_Jx4a65c 1 (by decide) (by decide +kernel) rfl dJx4a65c_add_9ea2d_13 ?_
  refine lv_aload_n hx hb dJx4a65c_add_9ea2d_16 rfl (lv_at hl 0 rfl) ?_
  refine kr_get (T := TJx4a65c) (N := 3) hx hb hts hown hK ha rfl kin_Jx4a65c_add_9ea2d_Jx4a65c 2 (by decide) (by decide +kernel) rfl dJx4a65c_add_9ea2d_17 ?_
  have h0 : 0 < n := Nat.pos_of_ne_zero (fun h => by rw [h] at hroom; exact absurd hroom (by decide))
  refine kgo_v (kc_V (As := [.ref x, .ref b, .int ((nI n))]) (rest := []) S hE hS hAb (cc_add3N ε l hL hn (hz1.symm ▸ hbz) hba hx9 hxa hbe hroom (hea h0)) (cwV 3 hts gJx4a65c_add_9ea2d_Jx4a65c_add_72be8 rfl rfl rfl (by decide +kernel) ⟨Nat.le_of_ble_eq_true rfl, Nat.le_of_ble_eq_true rfl⟩) ha rfl rfl hl.1 rfl (Nat.le_of_ble_eq_true rfl) dJx4a65c_add_9ea2d_20 ⟨Nat.le_refl _, Nat.le_refl _⟩) hS (fun q h => by rw [hz1] at h; exact h) (fun H2 locs hp hz hq hS => ?_)
  rw [hz1] at hp
  refine lv_iconst (v := 1) hx hb dJx4a65c_add_9ea2d_23 (by decide) ?_
  refine kend_z S hr hlocks hS ⟨rfl, hp⟩ (Or.inr rfl) dJx4a65c_add_9ea2d_24
set_option maxHeartbeats 4000000 in
set_option maxRecDepth 100000 in
theorem cc_addF (ε : kEnv) (l : Launch) {H : Heap} {a b n x : Nat} {g : Nat → Nat} (hL : kLs ε a b n g (nI n) H) (hn : n ≤ 1000000) (hbz : ε.2.2.1 ≤ H.size) (hba : ε.2.2.1 ≤ a) (hx9 : kEl ε x H) (hxa : x ≠ a) (hbe : 0 < n → ε.2.2.1 ≤ b) (hea : 0 < n → b ≠ a) (hfull : ¬ n < kcap n) (hel : ∀ j, j < n → kEl ε (g j) H) (hga : ∀ j, j < n → g j ≠ a) : kMi ε l yJx4a65c_add_9ea2d wsJx4a65c_add_9ea2d ({ frames := 6, cells := 1, slots := kcap (n + 1), locals := 185 }) [.ref a, .ref x] H (kA2 a b H.size n) (1) (kcap (n + 1)) (fun r H' => r = 1 ∧ kAd ε a b n x g H.size H') := by
  refine kof (cc := cJx4a65c_add_9ea2d) (maxL := 2) (ret := (some .boolean)) (by decide) rfl (Nat.le_of_ble_eq_true rfl) ?_
  intro p e s m below meth c ls S hr hlocks hin hH hE hl
  have S : CallFix p m c cJx4a65c_add_9ea2d 2 s _ wsJx4a65c_add_9ea2d RJx4a65c := S
  have hx := S.1
  have hb := S.2.1
  have hown : s.vm.findClass RJx4a65c = some m.cls := S.2.2.2.1
  have hts := S.2.2.2.2
  have hK := hE.1
  have hS : va_S (kA2 a b H.size n) s.heap H [] := by rw [hH]; exact va_S.rf
  have hl : lv_has ls 2 [(0, .ref a), (1, .ref x)] := hl
  have hAb : ∀ q, kA2 a b H.size n q → kHi ε q := fun q h => h.elim (fun h => h ▸ hba) (fun h => h.elim (fun h => h.2 ▸ hbe h.1) (fun h => Nat.le_trans hbz h))
  have ha := hL.1
  have hal := va_at.lt ha
  refine lv_aload_n hx hb dJx4a65c_add_9ea2d_0 rfl (lv_at hl 0 rfl) ?_
  refine lv_dup hx hb dJx4a65c_add_9ea2d_1 rfl ?_
  refine va_get hx hb hts kin_Jx4a65c_add_9ea2d_Jx4a65c hown hK (kP1 ha) 0 rfl (T := TJx4a65c) (N := 3) rfl 0 (by decide) (hts (.fieldLink RJx4a65c 63 RJx4a65c "modCount" "I") (by decide +kernel)) (u_same (hts (.sameField RJx4a65c "java/util/AbstractList" "modCount" "I") (by decide +kernel))) rfl dJx4a65c_add_9ea2d_2 ?_
  refine lv_iconst (v := 1) hx hb dJx4a65c_add_9ea2d_5 (by decide) ?_
  refine lv_iadd hx hb dJx4a65c_add_9ea2d_6 ?_
  refine kr_top (y := nI (n + 1)) (nI_1 n) ?_
  refine kr_put (T := TJx4a65c) (N := 3) (v := .int (nI (n + 1))) (ty := .int) hx hb hts hown hK hS ha (Or.inl rfl) rfl kin_Jx4a65c_add_9ea2d_Jx4a65c tyJx4a65c tyJx4a65c_ok nmJx4a65c 0 (by decide) "java/util/ArrayList" (hts (.fieldLink RJx4a65c 63 "java/util/ArrayList" "modCount" "I") (by decide +kernel)) (u_same (hts (.sameField RJx4a65c "java/util/AbstractList" "modCount" "I") (by decide +kernel))) rfl (by decide +kernel) (rfl) (rfl) (Nat.le_of_ble_eq_true rfl) dJx4a65c_add_9ea2d_7 (fun H1 locs hU ho hS => ?_)
  have hz1 : H1.size = H.size := hU.1
  have hL : kLs ε a b n g (nI (n + 1)) H1 := ⟨ho, hL.2.elim Or.inl (fun q => Or.inr ⟨q.1, hU.at q.2 (hea q.1)⟩)⟩
  have hx9 := hx9.kept (hU.2 x hxa)
  have ha := ho
  refine lv_aload_n hx hb dJx4a65c_add_9ea2d_10 rfl (lv_at hl 0 rfl) ?_
  refine lv_aload_n hx hb dJx4a65c_add_9ea2d_11 rfl (lv_at hl 1 rfl) ?_
  refine lv_aload_n hx hb dJx4a65c_add_9ea2d_12 rfl (lv_at hl 0 rfl) ?_
  refine kr_get (T := TJx4a65c) (N := 3) hx hb hts hown hK ha rfl kin_Jx4a65c_add_9ea2d_Jx4a65c 1 (by decide) (by decide +kernel) rfl dJx4a65c_add_9ea2d_13 ?_
  refine lv_aload_n hx hb dJx4a65c_add_9ea2d_16 rfl (lv_at hl 0 rfl) ?_
  refine kr_get (T := TJx4a65c) (N := 3) hx hb hts hown hK ha rfl kin_Jx4a65c_add_9ea2d_Jx4a65c 2 (by decide) (by decide +kernel) rfl dJx4a65c_add_9ea2d_17 ?_
  refine kgo_v (kc_V (As := [.ref x, .ref b, .int ((nI n))]) (rest := []) S hE hS hAb (cc_add3F ε l hL hn (hz1.symm ▸ hbz) hba hx9 hxa hbe hfull (fun j hj => (hel j hj).kept (hU.2 _ (hga j hj)))) (cwV 3 hts gJx4a65c_add_9ea2d_Jx4a65c_add_72be8 rfl rfl rfl (by decide +kernel) ⟨Nat.le_of_ble_eq_true rfl, Nat.le_of_ble_eq_true rfl⟩) ha rfl rfl hl.1 rfl (Nat.le_of_ble_eq_true rfl) dJx4a65c_add_9ea2d_20 ⟨Nat.le_refl _, by show 0 + kcap (n + 1) ≤ kcap (n + 1); omega⟩) hS (fun q h => by rw [hz1] at h; exact h) (fun H2 locs hp hz hq hS => ?_)
  rw [show (0 : Nat) + kcap (n + 1) = kcap (n + 1) from Nat.zero_add _]
  rw [hz1] at hp
  refine lv_iconst (v := 1) hx hb dJx4a65c_add_9ea2d_23 (by decide) ?_
  refine kend_z S hr hlocks hS ⟨rfl, hp⟩ (Or.inr rfl) dJx4a65c_add_9ea2d_24
theorem cc_add (ε : kEnv) (l : Launch) {H : Heap} {a b n x : Nat} {g : Nat → Nat} (hL : kLs ε a b n g (nI n) H) (hn : n ≤ 1000000) (hbz : ε.2.2.1 ≤ H.size) (hba : ε.2.2.1 ≤ a) (hx9 : kEl ε x H) (hxa : x ≠ a) (hbe : 0 < n → ε.2.2.1 ≤ b) (hea : 0 < n → b ≠ a) (hel : ∀ j, j < n → kEl ε (g j) H) (hga : ∀ j, j < n → g j ≠ a) : kMi ε l yJx4a65c_add_9ea2d wsJx4a65c_add_9ea2d ({ frames := 6, cells := kgc n, slots := kgs n, locals := 185 }) [.ref a, .ref x] H (kA2 a b H.size n) (kgc n) (kgs n) (fun r H' => r = 1 ∧ kAd ε a b n x g H.size H') := by
  by_cases h : n < kcap n
  · have h1 := cc_addN ε l hL hn hbz hba hx9 hxa hbe hea h
    simp only [kgc, kgs, if_pos h]
    exact h1
  · have h1 := cc_addF ε l hL hn hbz hba hx9 hxa hbe hea h hel hga
    simp only [kgc, kgs, if_neg h]
    exact h1
