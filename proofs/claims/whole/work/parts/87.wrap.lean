/-! ===== the law's wrappers: the class's answer as a long in the row of answers, or the code of what it threw ===== -/
section KLW
set_option maxHeartbeats 4000000 in
set_option maxRecDepth 100000 in
theorem yl_addRegion (ε : kEnv) (l : Launch) {A : Nat → Prop} {ad : Nat → Nat → Nat} {σ : kS} {H : Heap} {o : Nat} {f : Nat → Int64} {x1 : Int32} {v : Int32} {σ' : kS} {mc ms : Nat} {post : Int32 → Heap → Prop} (hAb : ∀ q, A q → kHi ε q) (hoK : kHi ε o) (hoA : ¬ A o) (hw : kW ε A ad σ H) (ho : kat ε o (kJ ε 1 f) H) (hC : kMi ε l yX4_addRegion wsX4_addRegion ({ frames := 7, cells := mc, slots := ms, locals := 220 }) [.ref (ad 0 0), .int x1] H A mc ms post) (hp9 : ∀ r9 H', post r9 H' → r9 = v ∧ ∃ ad', ad' 0 0 = ad 0 0 ∧ kW ε A ad' σ' H') : kMi ε l yL_addRegion wsL_addRegion ({ frames := 11, cells := mc, slots := ms, locals := 310 }) [.ref (ad 0 0), .int x1, .ref o] H (kAo A o) (mc) (ms) (kLP ε A o (ad 0 0) (σ') 0 v) := by
  refine kofH (cc := cL_addRegion) (maxL := 4) (ret := (some .int)) (hh := [(0, 9, 12, 13), (0, 9, 15, 15)]) (by decide) rfl (Nat.le_of_ble_eq_true rfl) ?_
  intro p e s m below meth c ls S hr hlocks hT hH hE hl
  have S : CallFix p m c cL_addRegion 4 s _ wsL_addRegion RL := S
  have hx := S.1
  have hb := S.2.1
  have hown : s.vm.findClass RL = some m.cls := S.2.2.2.1
  have hts := S.2.2.2.2
  have hK := hE.1
  have hS : va_S (kAo A o) s.heap H [] := by rw [hH]; exact va_S.rf
  have hAw := hAb
  have hAb := kAo_hi hAb hoK
  have hl : lv_has ls 4 [(0, .ref (ad 0 0)), (1, .int x1), (2, .ref o)] := hl
  refine lv_aload_n hx hb dL_addRegion_0 rfl (lv_at hl 2 rfl) ?_
  refine lv_iconst (v := 0) hx hb dL_addRegion_1 (by decide) ?_
  refine lv_aload_n hx hb dL_addRegion_2 rfl (lv_at hl 0 rfl) ?_
  refine lv_iload_n hx hb dL_addRegion_3 rfl (lv_at hl 1 rfl) ?_
  refine kgo_i (kc_V (As := [.int x1]) (rest := [.int 0, .ref o]) S hE hS hAb (hC) (cwV 1 hts gL_addRegion_X4_addRegion rfl rfl rfl (by decide +kernel) ⟨Nat.le_of_ble_eq_true rfl, Nat.le_of_ble_eq_true rfl⟩) (hw.lv 0 0 (rfl : (0 : Nat) = 0)) rfl rfl hl.1 rfl (Nat.le_of_ble_eq_true rfl) dL_addRegion_4 ⟨Nat.le_of_eq (Nat.zero_add mc), Nat.le_of_eq (Nat.zero_add ms)⟩) hS (fun _ h => Or.inl h) (fun r9 H1 locs hp hz hq hS => ?_)
  refine kr_room (c1 := mc) (s1 := ms) (Nat.zero_add mc) (Nat.zero_add ms) ?_
  obtain ⟨rfl, ad', ea, hw⟩ := hp9 _ _ hp
  have ho := va_at.kept ho (hq o (va_at.lt ho) hoA)
  refine lv_i2l (v := (r9).toInt64) hx hb dL_addRegion_7 rfl ?_
  refine kr_lst (i := 0) hx hb hK hS ho (Or.inr rfl) (j := 0) (by decide) rfl (by decide) dL_addRegion_8 (fun H1 locs hU ho hS => ?_)
  have hw := hw.keep (fun k i hk => hU.2 _ (fun h => hoA (h ▸ (hw.1 k i hk).2)))
  refine lv_goto (tgt := 18) hx hb dL_addRegion_9 (by decide) ?_
  refine lv_iconst (v := 0) hx hb dL_addRegion_18 (by decide) ?_
  refine kend_i S hr hlocks hS ⟨rfl, ⟨ad', ea, hw⟩, _, ho, fun _ => by simp [vp_updL]⟩ dL_addRegion_19
set_option maxHeartbeats 4000000 in
set_option maxRecDepth 100000 in
theorem yl_addRegionX1 (ε : kEnv) (l : Launch) {A : Nat → Prop} {ad : Nat → Nat → Nat} {σ : kS} {H : Heap} {o : Nat} {f : Nat → Int64} {x1 : Int32} (v : Int32) (hAb : ∀ q, A q → kHi ε q) (hoK : kHi ε o) (hoA : ¬ A o) (hw : kW ε A ad σ H) (ho : kat ε o (kJ ε 1 f) H) (hC : kX ε l yX4_addRegion wsX4_addRegion ({ frames := 7, cells := 1, slots := 6, locals := 120 }) [.ref (ad 0 0), .int x1] H "java/lang/IndexOutOfBoundsException") : kMi ε l yL_addRegion wsL_addRegion ({ frames := 11, cells := 1, slots := 6, locals := 310 }) [.ref (ad 0 0), .int x1, .ref o] H (kAo A o) (1) (6) (kLP ε A o (ad 0 0) (σ) 1 v) := by
  refine kofH (cc := cL_addRegion) (maxL := 4) (ret := (some .int)) (hh := [(0, 9, 12, 13), (0, 9, 15, 15)]) (by decide) rfl (Nat.le_of_ble_eq_true rfl) ?_
  intro p e s m below meth c ls S hr hlocks hT hH hE hl
  have S : CallFix p m c cL_addRegion 4 s _ wsL_addRegion RL := S
  have hx := S.1
  have hb := S.2.1
  have hown : s.vm.findClass RL = some m.cls := S.2.2.2.1
  have hts := S.2.2.2.2
  have hK := hE.1
  have hS : va_S (kAo A o) s.heap H [] := by rw [hH]; exact va_S.rf
  have hAw := hAb
  have hAb := kAo_hi hAb hoK
  have hl : lv_has ls 4 [(0, .ref (ad 0 0)), (1, .int x1), (2, .ref o)] := hl
  refine lv_aload_n hx hb dL_addRegion_0 rfl (lv_at hl 2 rfl) ?_
  refine lv_iconst (v := 0) hx hb dL_addRegion_1 (by decide) ?_
  refine lv_aload_n hx hb dL_addRegion_2 rfl (lv_at hl 0 rfl) ?_
  refine lv_iload_n hx hb dL_addRegion_3 rfl (lv_at hl 1 rfl) ?_
  refine kgo_x (kx_V (As := [.int x1]) (rest := [.int 0, .ref o]) S hE hS hAb hC (cwV 1 hts gL_addRegion_X4_addRegion rfl rfl rfl (by decide +kernel) ⟨Nat.le_of_ble_eq_true rfl, Nat.le_of_ble_eq_true rfl⟩) (hw.lv 0 0 (rfl : (0 : Nat) = 0)) rfl rfl hl.1 rfl (Nat.le_of_ble_eq_true rfl) dL_addRegion_4 ⟨Nat.le_refl _, Nat.le_refl _⟩) hS (fun ce q9 H1 locs h1 h2 hS h4 h5 h6 => ?_)
  have hw := hw.keep (fun k i hk => h2 _ (va_at.lt (hw.1 k i hk).1))
  have ho := va_at.kept ho (h2 o (va_at.lt ho))
  refine kcatch (E := "java/lang/IndexOutOfBoundsException") [] (0, 9, 12, 13) [(0, 9, 15, 15)] hE hown hT rfl (by decide) (by decide) (fun z hz => by simp at hz) (hts (.classLink RL 13 "java/lang/IndexOutOfBoundsException") (by decide +kernel)) (by decide +kernel) h4 h5 h6 ?_
  refine lv_astore_n (lv' := [(3, .ref q9), (0, .ref (ad 0 0)), (1, .int x1), (2, .ref o)]) hx hb dL_addRegion_12 rfl hl (by decide) rfl (fun ls hl => ?_)
  refine lv_iconst (v := 1) hx hb dL_addRegion_13 (by decide) ?_
  refine kend_i S hr hlocks hS ⟨rfl, ⟨ad, rfl, hw⟩, _, ho, fun h => absurd h (by decide)⟩ dL_addRegion_14
set_option maxHeartbeats 4000000 in
set_option maxRecDepth 100000 in
theorem yl_addRegionX2 (ε : kEnv) (l : Launch) {A : Nat → Prop} {ad : Nat → Nat → Nat} {σ : kS} {H : Heap} {o : Nat} {f : Nat → Int64} {x1 : Int32} (v : Int32) (hAb : ∀ q, A q → kHi ε q) (hoK : kHi ε o) (hoA : ¬ A o) (hw : kW ε A ad σ H) (ho : kat ε o (kJ ε 1 f) H) (hC : kX ε l yX4_addRegion wsX4_addRegion ({ frames := 7, cells := 1, slots := 6, locals := 120 }) [.ref (ad 0 0), .int x1] H "java/lang/IllegalStateException") : kMi ε l yL_addRegion wsL_addRegion ({ frames := 11, cells := 1, slots := 6, locals := 310 }) [.ref (ad 0 0), .int x1, .ref o] H (kAo A o) (1) (6) (kLP ε A o (ad 0 0) (σ) 2 v) := by
  refine kofH (cc := cL_addRegion) (maxL := 4) (ret := (some .int)) (hh := [(0, 9, 12, 13), (0, 9, 15, 15)]) (by decide) rfl (Nat.le_of_ble_eq_true rfl) ?_
  intro p e s m below meth c ls S hr hlocks hT hH hE hl
  have S : CallFix p m c cL_addRegion 4 s _ wsL_addRegion RL := S
  have hx := S.1
  have hb := S.2.1
  have hown : s.vm.findClass RL = some m.cls := S.2.2.2.1
  have hts := S.2.2.2.2
  have hK := hE.1
  have hS : va_S (kAo A o) s.heap H [] := by rw [hH]; exact va_S.rf
  have hAw := hAb
  have hAb := kAo_hi hAb hoK
  have hl : lv_has ls 4 [(0, .ref (ad 0 0)), (1, .int x1), (2, .ref o)] := hl
  refine lv_aload_n hx hb dL_addRegion_0 rfl (lv_at hl 2 rfl) ?_
  refine lv_iconst (v := 0) hx hb dL_addRegion_1 (by decide) ?_
  refine lv_aload_n hx hb dL_addRegion_2 rfl (lv_at hl 0 rfl) ?_
  refine lv_iload_n hx hb dL_addRegion_3 rfl (lv_at hl 1 rfl) ?_
  refine kgo_x (kx_V (As := [.int x1]) (rest := [.int 0, .ref o]) S hE hS hAb hC (cwV 1 hts gL_addRegion_X4_addRegion rfl rfl rfl (by decide +kernel) ⟨Nat.le_of_ble_eq_true rfl, Nat.le_of_ble_eq_true rfl⟩) (hw.lv 0 0 (rfl : (0 : Nat) = 0)) rfl rfl hl.1 rfl (Nat.le_of_ble_eq_true rfl) dL_addRegion_4 ⟨Nat.le_refl _, Nat.le_refl _⟩) hS (fun ce q9 H1 locs h1 h2 hS h4 h5 h6 => ?_)
  have hw := hw.keep (fun k i hk => h2 _ (va_at.lt (hw.1 k i hk).1))
  have ho := va_at.kept ho (h2 o (va_at.lt ho))
  refine kcatch (E := "java/lang/IllegalStateException") [(0, 9, 12, 13)] (0, 9, 15, 15) [] hE hown hT rfl (by decide) (by decide) (fun z hz => by
      simp only [List.mem_cons, List.not_mem_nil, or_false] at hz
      rcases hz with rfl
      · exact ⟨by decide, "java/lang/IndexOutOfBoundsException", hts (.classLink RL 13 "java/lang/IndexOutOfBoundsException") (by decide +kernel), by decide +kernel⟩) (hts (.classLink RL 15 "java/lang/IllegalStateException") (by decide +kernel)) (by decide +kernel) h4 h5 h6 ?_
  refine lv_astore_n (lv' := [(3, .ref q9), (0, .ref (ad 0 0)), (1, .int x1), (2, .ref o)]) hx hb dL_addRegion_15 rfl hl (by decide) rfl (fun ls hl => ?_)
  refine lv_iconst (v := 2) hx hb dL_addRegion_16 (by decide) ?_
  refine kend_i S hr hlocks hS ⟨rfl, ⟨ad, rfl, hw⟩, _, ho, fun h => absurd h (by decide)⟩ dL_addRegion_17
set_option maxHeartbeats 4000000 in
set_option maxRecDepth 100000 in
theorem yl_addCheck (ε : kEnv) (l : Launch) {A : Nat → Prop} {ad : Nat → Nat → Nat} {σ : kS} {H : Heap} {o : Nat} {f : Nat → Int64} {x1 x2 x3 x4 : Int32} {v : Int32} {σ' : kS} {mc ms : Nat} {post : Int32 → Heap → Prop} (hAb : ∀ q, A q → kHi ε q) (hoK : kHi ε o) (hoA : ¬ A o) (hw : kW ε A ad σ H) (ho : kat ε o (kJ ε 1 f) H) (hC : kMi ε l yX4_addCheck wsX4_addCheck ({ frames := 7, cells := mc, slots := ms, locals := 220 }) [.ref (ad 0 0), .int x1, .int x2, .int x3, .int x4] H A mc ms post) (hp9 : ∀ r9 H', post r9 H' → r9 = v ∧ ∃ ad', ad' 0 0 = ad 0 0 ∧ kW ε A ad' σ' H') : kMi ε l yL_addCheck wsL_addCheck ({ frames := 11, cells := mc, slots := ms, locals := 310 }) [.ref (ad 0 0), .int x1, .int x2, .int x3, .int x4, .ref o] H (kAo A o) (mc) (ms) (kLP ε A o (ad 0 0) (σ') 0 v) := by
  refine kofH (cc := cL_addCheck) (maxL := 7) (ret := (some .int)) (hh := [(0, 14, 17, 21), (0, 14, 21, 15)]) (by decide) rfl (Nat.le_of_ble_eq_true rfl) ?_
  intro p e s m below meth c ls S hr hlocks hT hH hE hl
  have S : CallFix p m c cL_addCheck 7 s _ wsL_addCheck RL := S
  have hx := S.1
  have hb := S.2.1
  have hown : s.vm.findClass RL = some m.cls := S.2.2.2.1
  have hts := S.2.2.2.2
  have hK := hE.1
  have hS : va_S (kAo A o) s.heap H [] := by rw [hH]; exact va_S.rf
  have hAw := hAb
  have hAb := kAo_hi hAb hoK
  have hl : lv_has ls 7 [(0, .ref (ad 0 0)), (1, .int x1), (2, .int x2), (3, .int x3), (4, .int x4), (5, .ref o)] := hl
  refine lv_aload hx hb dL_addCheck_0 (lv_at hl 5 rfl) ?_
  refine lv_iconst (v := 0) hx hb dL_addCheck_2 (by decide) ?_
  refine lv_aload_n hx hb dL_addCheck_3 rfl (lv_at hl 0 rfl) ?_
  refine lv_iload_n hx hb dL_addCheck_4 rfl (lv_at hl 1 rfl) ?_
  refine lv_iload_n hx hb dL_addCheck_5 rfl (lv_at hl 2 rfl) ?_
  refine lv_iload_n hx hb dL_addCheck_6 rfl (lv_at hl 3 rfl) ?_
  refine lv_iload hx hb dL_addCheck_7 (lv_at hl 4 rfl) ?_
  refine kgo_i (kc_V (As := [.int x1, .int x2, .int x3, .int x4]) (rest := [.int 0, .ref o]) S hE hS hAb (hC) (cwV 4 hts gL_addCheck_X4_addCheck rfl rfl rfl (by decide +kernel) ⟨Nat.le_of_ble_eq_true rfl, Nat.le_of_ble_eq_true rfl⟩) (hw.lv 0 0 (rfl : (0 : Nat) = 0)) rfl rfl hl.1 rfl (Nat.le_of_ble_eq_true rfl) dL_addCheck_9 ⟨Nat.le_of_eq (Nat.zero_add mc), Nat.le_of_eq (Nat.zero_add ms)⟩) hS (fun _ h => Or.inl h) (fun r9 H1 locs hp hz hq hS => ?_)
  refine kr_room (c1 := mc) (s1 := ms) (Nat.zero_add mc) (Nat.zero_add ms) ?_
  obtain ⟨rfl, ad', ea, hw⟩ := hp9 _ _ hp
  have ho := va_at.kept ho (hq o (va_at.lt ho) hoA)
  refine lv_i2l (v := (r9).toInt64) hx hb dL_addCheck_12 rfl ?_
  refine kr_lst (i := 0) hx hb hK hS ho (Or.inr rfl) (j := 0) (by decide) rfl (by decide) dL_addCheck_13 (fun H1 locs hU ho hS => ?_)
  have hw := hw.keep (fun k i hk => hU.2 _ (fun h => hoA (h ▸ (hw.1 k i hk).2)))
  refine lv_goto (tgt := 25) hx hb dL_addCheck_14 (by decide) ?_
  refine lv_iconst (v := 0) hx hb dL_addCheck_25 (by decide) ?_
  refine kend_i S hr hlocks hS ⟨rfl, ⟨ad', ea, hw⟩, _, ho, fun _ => by simp [vp_updL]⟩ dL_addCheck_26
set_option maxHeartbeats 4000000 in
set_option maxRecDepth 100000 in
theorem yl_addCheckX1 (ε : kEnv) (l : Launch) {A : Nat → Prop} {ad : Nat → Nat → Nat} {σ : kS} {H : Heap} {o : Nat} {f : Nat → Int64} {x1 x2 x3 x4 : Int32} (v : Int32) (hAb : ∀ q, A q → kHi ε q) (hoK : kHi ε o) (hoA : ¬ A o) (hw : kW ε A ad σ H) (ho : kat ε o (kJ ε 1 f) H) (hC : kX ε l yX4_addCheck wsX4_addCheck ({ frames := 7, cells := 1, slots := 6, locals := 120 }) [.ref (ad 0 0), .int x1, .int x2, .int x3, .int x4] H "java/lang/IllegalArgumentException") : kMi ε l yL_addCheck wsL_addCheck ({ frames := 11, cells := 1, slots := 6, locals := 310 }) [.ref (ad 0 0), .int x1, .int x2, .int x3, .int x4, .ref o] H (kAo A o) (1) (6) (kLP ε A o (ad 0 0) (σ) 1 v) := by
  refine kofH (cc := cL_addCheck) (maxL := 7) (ret := (some .int)) (hh := [(0, 14, 17, 21), (0, 14, 21, 15)]) (by decide) rfl (Nat.le_of_ble_eq_true rfl) ?_
  intro p e s m below meth c ls S hr hlocks hT hH hE hl
  have S : CallFix p m c cL_addCheck 7 s _ wsL_addCheck RL := S
  have hx := S.1
  have hb := S.2.1
  have hown : s.vm.findClass RL = some m.cls := S.2.2.2.1
  have hts := S.2.2.2.2
  have hK := hE.1
  have hS : va_S (kAo A o) s.heap H [] := by rw [hH]; exact va_S.rf
  have hAw := hAb
  have hAb := kAo_hi hAb hoK
  have hl : lv_has ls 7 [(0, .ref (ad 0 0)), (1, .int x1), (2, .int x2), (3, .int x3), (4, .int x4), (5, .ref o)] := hl
  refine lv_aload hx hb dL_addCheck_0 (lv_at hl 5 rfl) ?_
  refine lv_iconst (v := 0) hx hb dL_addCheck_2 (by decide) ?_
  refine lv_aload_n hx hb dL_addCheck_3 rfl (lv_at hl 0 rfl) ?_
  refine lv_iload_n hx hb dL_addCheck_4 rfl (lv_at hl 1 rfl) ?_
  refine lv_iload_n hx hb dL_addCheck_5 rfl (lv_at hl 2 rfl) ?_
  refine lv_iload_n hx hb dL_addCheck_6 rfl (lv_at hl 3 rfl) ?_
  refine lv_iload hx hb dL_addCheck_7 (lv_at hl 4 rfl) ?_
  refine kgo_x (kx_V (As := [.int x1, .int x2, .int x3, .int x4]) (rest := [.int 0, .ref o]) S hE hS hAb hC (cwV 4 hts gL_addCheck_X4_addCheck rfl rfl rfl (by decide +kernel) ⟨Nat.le_of_ble_eq_true rfl, Nat.le_of_ble_eq_true rfl⟩) (hw.lv 0 0 (rfl : (0 : Nat) = 0)) rfl rfl hl.1 rfl (Nat.le_of_ble_eq_true rfl) dL_addCheck_9 ⟨Nat.le_refl _, Nat.le_refl _⟩) hS (fun ce q9 H1 locs h1 h2 hS h4 h5 h6 => ?_)
  have hw := hw.keep (fun k i hk => h2 _ (va_at.lt (hw.1 k i hk).1))
  have ho := va_at.kept ho (h2 o (va_at.lt ho))
  refine kcatch (E := "java/lang/IllegalArgumentException") [] (0, 14, 17, 21) [(0, 14, 21, 15)] hE hown hT rfl (by decide) (by decide) (fun z hz => by simp at hz) (hts (.classLink RL 21 "java/lang/IllegalArgumentException") (by decide +kernel)) (by decide +kernel) h4 h5 h6 ?_
  refine lv_astore (lv' := [(6, .ref q9), (0, .ref (ad 0 0)), (1, .int x1), (2, .int x2), (3, .int x3), (4, .int x4), (5, .ref o)]) hx hb dL_addCheck_17 hl (by decide) rfl (fun ls hl => ?_)
  refine lv_iconst (v := 1) hx hb dL_addCheck_19 (by decide) ?_
  refine kend_i S hr hlocks hS ⟨rfl, ⟨ad, rfl, hw⟩, _, ho, fun h => absurd h (by decide)⟩ dL_addCheck_20
set_option maxHeartbeats 4000000 in
set_option maxRecDepth 100000 in
theorem yl_addCheckX2 (ε : kEnv) (l : Launch) {A : Nat → Prop} {ad : Nat → Nat → Nat} {σ : kS} {H : Heap} {o : Nat} {f : Nat → Int64} {x1 x2 x3 x4 : Int32} (v : Int32) (hAb : ∀ q, A q → kHi ε q) (hoK : kHi ε o) (hoA : ¬ A o) (hw : kW ε A ad σ H) (ho : kat ε o (kJ ε 1 f) H) (hC : kX ε l yX4_addCheck wsX4_addCheck ({ frames := 7, cells := 1, slots := 6, locals := 120 }) [.ref (ad 0 0), .int x1, .int x2, .int x3, .int x4] H "java/lang/IllegalStateException") : kMi ε l yL_addCheck wsL_addCheck ({ frames := 11, cells := 1, slots := 6, locals := 310 }) [.ref (ad 0 0), .int x1, .int x2, .int x3, .int x4, .ref o] H (kAo A o) (1) (6) (kLP ε A o (ad 0 0) (σ) 2 v) := by
  refine kofH (cc := cL_addCheck) (maxL := 7) (ret := (some .int)) (hh := [(0, 14, 17, 21), (0, 14, 21, 15)]) (by decide) rfl (Nat.le_of_ble_eq_true rfl) ?_
  intro p e s m below meth c ls S hr hlocks hT hH hE hl
  have S : CallFix p m c cL_addCheck 7 s _ wsL_addCheck RL := S
  have hx := S.1
  have hb := S.2.1
  have hown : s.vm.findClass RL = some m.cls := S.2.2.2.1
  have hts := S.2.2.2.2
  have hK := hE.1
  have hS : va_S (kAo A o) s.heap H [] := by rw [hH]; exact va_S.rf
  have hAw := hAb
  have hAb := kAo_hi hAb hoK
  have hl : lv_has ls 7 [(0, .ref (ad 0 0)), (1, .int x1), (2, .int x2), (3, .int x3), (4, .int x4), (5, .ref o)] := hl
  refine lv_aload hx hb dL_addCheck_0 (lv_at hl 5 rfl) ?_
  refine lv_iconst (v := 0) hx hb dL_addCheck_2 (by decide) ?_
  refine lv_aload_n hx hb dL_addCheck_3 rfl (lv_at hl 0 rfl) ?_
  refine lv_iload_n hx hb dL_addCheck_4 rfl (lv_at hl 1 rfl) ?_
  refine lv_iload_n hx hb dL_addCheck_5 rfl (lv_at hl 2 rfl) ?_
  refine lv_iload_n hx hb dL_addCheck_6 rfl (lv_at hl 3 rfl) ?_
  refine lv_iload hx hb dL_addCheck_7 (lv_at hl 4 rfl) ?_
  refine kgo_x (kx_V (As := [.int x1, .int x2, .int x3, .int x4]) (rest := [.int 0, .ref o]) S hE hS hAb hC (cwV 4 hts gL_addCheck_X4_addCheck rfl rfl rfl (by decide +kernel) ⟨Nat.le_of_ble_eq_true rfl, Nat.le_of_ble_eq_true rfl⟩) (hw.lv 0 0 (rfl : (0 : Nat) = 0)) rfl rfl hl.1 rfl (Nat.le_of_ble_eq_true rfl) dL_addCheck_9 ⟨Nat.le_refl _, Nat.le_refl _⟩) hS (fun ce q9 H1 locs h1 h2 hS h4 h5 h6 => ?_)
  have hw := hw.keep (fun k i hk => h2 _ (va_at.lt (hw.1 k i hk).1))
  have ho := va_at.kept ho (h2 o (va_at.lt ho))
  refine kcatch (E := "java/lang/IllegalStateException") [(0, 14, 17, 21)] (0, 14, 21, 15) [] hE hown hT rfl (by decide) (by decide) (fun z hz => by
      simp only [List.mem_cons, List.not_mem_nil, or_false] at hz
      rcases hz with rfl
      · exact ⟨by decide, "java/lang/IllegalArgumentException", hts (.classLink RL 21 "java/lang/IllegalArgumentException") (by decide +kernel), by decide +kernel⟩) (hts (.classLink RL 15 "java/lang/IllegalStateException") (by decide +kernel)) (by decide +kernel) h4 h5 h6 ?_
  refine lv_astore (lv' := [(6, .ref q9), (0, .ref (ad 0 0)), (1, .int x1), (2, .int x2), (3, .int x3), (4, .int x4), (5, .ref o)]) hx hb dL_addCheck_21 hl (by decide) rfl (fun ls hl => ?_)
  refine lv_iconst (v := 2) hx hb dL_addCheck_23 (by decide) ?_
  refine kend_i S hr hlocks hS ⟨rfl, ⟨ad, rfl, hw⟩, _, ho, fun h => absurd h (by decide)⟩ dL_addCheck_24
set_option maxHeartbeats 4000000 in
set_option maxRecDepth 100000 in
theorem yl_setDown (ε : kEnv) (l : Launch) {A : Nat → Prop} {ad : Nat → Nat → Nat} {σ : kS} {H : Heap} {o : Nat} {f : Nat → Int64} {x1 x2 x3 : Int32} {v : Int32} {σ' : kS} {mc ms : Nat} {post : Int32 → Heap → Prop} (hAb : ∀ q, A q → kHi ε q) (hoK : kHi ε o) (hoA : ¬ A o) (hw : kW ε A ad σ H) (ho : kat ε o (kJ ε 1 f) H) (hC : kMi ε l yX4_setDown wsX4_setDown ({ frames := 5, cells := mc, slots := ms, locals := 120 }) [.ref (ad 0 0), .int x1, .int x2, .int x3] H A mc ms post) (hp9 : ∀ r9 H', post r9 H' → r9 = v ∧ ∃ ad', ad' 0 0 = ad 0 0 ∧ kW ε A ad' σ' H') (h01 : v = 0 ∨ v = 1) : kMi ε l yL_setDown wsL_setDown ({ frames := 11, cells := mc, slots := ms, locals := 310 }) [.ref (ad 0 0), .int x1, .int x2, .int x3, .ref o] H (kAo A o) (mc) (ms) (kLP ε A o (ad 0 0) (σ') 0 v) := by
  refine kofH (cc := cL_setDown) (maxL := 6) (ret := (some .int)) (hh := [(0, 19, 22, 13)]) (by decide) rfl (Nat.le_of_ble_eq_true rfl) ?_
  intro p e s m below meth c ls S hr hlocks hT hH hE hl
  have S : CallFix p m c cL_setDown 6 s _ wsL_setDown RL := S
  have hx := S.1
  have hb := S.2.1
  have hown : s.vm.findClass RL = some m.cls := S.2.2.2.1
  have hts := S.2.2.2.2
  have hK := hE.1
  have hS : va_S (kAo A o) s.heap H [] := by rw [hH]; exact va_S.rf
  have hAw := hAb
  have hAb := kAo_hi hAb hoK
  have hl : lv_has ls 6 [(0, .ref (ad 0 0)), (1, .int x1), (2, .int x2), (3, .int x3), (4, .ref o)] := hl
  refine lv_aload hx hb dL_setDown_0 (lv_at hl 4 rfl) ?_
  refine lv_iconst (v := 0) hx hb dL_setDown_2 (by decide) ?_
  refine lv_aload_n hx hb dL_setDown_3 rfl (lv_at hl 0 rfl) ?_
  refine lv_iload_n hx hb dL_setDown_4 rfl (lv_at hl 1 rfl) ?_
  refine lv_iload_n hx hb dL_setDown_5 rfl (lv_at hl 2 rfl) ?_
  refine lv_iload_n hx hb dL_setDown_6 rfl (lv_at hl 3 rfl) ?_
  refine kgo_i (kc_V (As := [.int x1, .int x2, .int x3]) (rest := [.int 0, .ref o]) S hE hS hAb (hC) (cwV 3 hts gL_setDown_X4_setDown rfl rfl rfl (by decide +kernel) ⟨Nat.le_of_ble_eq_true rfl, Nat.le_of_ble_eq_true rfl⟩) (hw.lv 0 0 (rfl : (0 : Nat) = 0)) rfl rfl hl.1 rfl (Nat.le_of_ble_eq_true rfl) dL_setDown_7 ⟨Nat.le_of_eq (Nat.zero_add mc), Nat.le_of_eq (Nat.zero_add ms)⟩) hS (fun _ h => Or.inl h) (fun r9 H1 locs hp hz hq hS => ?_)
  refine kr_room (c1 := mc) (s1 := ms) (Nat.zero_add mc) (Nat.zero_add ms) ?_
  obtain ⟨rfl, ad', ea, hw⟩ := hp9 _ _ hp
  have ho := va_at.kept ho (hq o (va_at.lt ho) hoA)
  rcases h01 with h01 | h01
  · subst h01
    refine lv_if_eq (tgt := 17) hx hb dL_setDown_10 (by decide) (fun _ => ?_) (fun hc => absurd (rfl) hc)
    refine lv_lconst (v := 0) hx hb dL_setDown_17 (by decide) ?_
    refine kr_lst (i := 0) hx hb hK hS ho (Or.inr rfl) (j := 0) (by decide) rfl (by decide) dL_setDown_18 (fun H1 locs hU ho hS => ?_)
    have hw := hw.keep (fun k i hk => hU.2 _ (fun h => hoA (h ▸ (hw.1 k i hk).2)))
    refine lv_goto (tgt := 26) hx hb dL_setDown_19 (by decide) ?_
    refine lv_iconst (v := 0) hx hb dL_setDown_26 (by decide) ?_
    refine kend_i S hr hlocks hS ⟨rfl, ⟨ad', ea, hw⟩, _, ho, fun _ => by simp [vp_updL]⟩ dL_setDown_27
  · subst h01
    refine lv_if_eq (tgt := 17) hx hb dL_setDown_10 (by decide) (fun hc => absurd hc (by decide)) (fun _ => ?_)
    refine lv_lconst (v := 1) hx hb dL_setDown_13 (by decide) ?_
    refine lv_goto (tgt := 18) hx hb dL_setDown_14 (by decide) ?_
    refine kr_lst (i := 0) hx hb hK hS ho (Or.inr rfl) (j := 0) (by decide) rfl (by decide) dL_setDown_18 (fun H1 locs hU ho hS => ?_)
    have hw := hw.keep (fun k i hk => hU.2 _ (fun h => hoA (h ▸ (hw.1 k i hk).2)))
    refine lv_goto (tgt := 26) hx hb dL_setDown_19 (by decide) ?_
    refine lv_iconst (v := 0) hx hb dL_setDown_26 (by decide) ?_
    refine kend_i S hr hlocks hS ⟨rfl, ⟨ad', ea, hw⟩, _, ho, fun _ => by simp [vp_updL]⟩ dL_setDown_27
set_option maxHeartbeats 4000000 in
set_option maxRecDepth 100000 in
theorem yl_setDownX1 (ε : kEnv) (l : Launch) {A : Nat → Prop} {ad : Nat → Nat → Nat} {σ : kS} {H : Heap} {o : Nat} {f : Nat → Int64} {x1 x2 x3 : Int32} (v : Int32) (hAb : ∀ q, A q → kHi ε q) (hoK : kHi ε o) (hoA : ¬ A o) (hw : kW ε A ad σ H) (ho : kat ε o (kJ ε 1 f) H) (hC : kX ε l yX4_setDown wsX4_setDown ({ frames := 7, cells := 1, slots := 6, locals := 120 }) [.ref (ad 0 0), .int x1, .int x2, .int x3] H "java/lang/IndexOutOfBoundsException") : kMi ε l yL_setDown wsL_setDown ({ frames := 11, cells := 1, slots := 6, locals := 310 }) [.ref (ad 0 0), .int x1, .int x2, .int x3, .ref o] H (kAo A o) (1) (6) (kLP ε A o (ad 0 0) (σ) 1 v) := by
  refine kofH (cc := cL_setDown) (maxL := 6) (ret := (some .int)) (hh := [(0, 19, 22, 13)]) (by decide) rfl (Nat.le_of_ble_eq_true rfl) ?_
  intro p e s m below meth c ls S hr hlocks hT hH hE hl
  have S : CallFix p m c cL_setDown 6 s _ wsL_setDown RL := S
  have hx := S.1
  have hb := S.2.1
  have hown : s.vm.findClass RL = some m.cls := S.2.2.2.1
  have hts := S.2.2.2.2
  have hK := hE.1
  have hS : va_S (kAo A o) s.heap H [] := by rw [hH]; exact va_S.rf
  have hAw := hAb
  have hAb := kAo_hi hAb hoK
  have hl : lv_has ls 6 [(0, .ref (ad 0 0)), (1, .int x1), (2, .int x2), (3, .int x3), (4, .ref o)] := hl
  refine lv_aload hx hb dL_setDown_0 (lv_at hl 4 rfl) ?_
  refine lv_iconst (v := 0) hx hb dL_setDown_2 (by decide) ?_
  refine lv_aload_n hx hb dL_setDown_3 rfl (lv_at hl 0 rfl) ?_
  refine lv_iload_n hx hb dL_setDown_4 rfl (lv_at hl 1 rfl) ?_
  refine lv_iload_n hx hb dL_setDown_5 rfl (lv_at hl 2 rfl) ?_
  refine lv_iload_n hx hb dL_setDown_6 rfl (lv_at hl 3 rfl) ?_
  refine kgo_x (kx_V (As := [.int x1, .int x2, .int x3]) (rest := [.int 0, .ref o]) S hE hS hAb hC (cwV 3 hts gL_setDown_X4_setDown rfl rfl rfl (by decide +kernel) ⟨Nat.le_of_ble_eq_true rfl, Nat.le_of_ble_eq_true rfl⟩) (hw.lv 0 0 (rfl : (0 : Nat) = 0)) rfl rfl hl.1 rfl (Nat.le_of_ble_eq_true rfl) dL_setDown_7 ⟨Nat.le_refl _, Nat.le_refl _⟩) hS (fun ce q9 H1 locs h1 h2 hS h4 h5 h6 => ?_)
  have hw := hw.keep (fun k i hk => h2 _ (va_at.lt (hw.1 k i hk).1))
  have ho := va_at.kept ho (h2 o (va_at.lt ho))
  refine kcatch (E := "java/lang/IndexOutOfBoundsException") [] (0, 19, 22, 13) [] hE hown hT rfl (by decide) (by decide) (fun z hz => by simp at hz) (hts (.classLink RL 13 "java/lang/IndexOutOfBoundsException") (by decide +kernel)) (by decide +kernel) h4 h5 h6 ?_
  refine lv_astore (lv' := [(5, .ref q9), (0, .ref (ad 0 0)), (1, .int x1), (2, .int x2), (3, .int x3), (4, .ref o)]) hx hb dL_setDown_22 hl (by decide) rfl (fun ls hl => ?_)
  refine lv_iconst (v := 1) hx hb dL_setDown_24 (by decide) ?_
  refine kend_i S hr hlocks hS ⟨rfl, ⟨ad, rfl, hw⟩, _, ho, fun h => absurd h (by decide)⟩ dL_setDown_25
set_option maxHeartbeats 4000000 in
set_option maxRecDepth 100000 in
theorem yl_setCut (ε : kEnv) (l : Launch) {A : Nat → Prop} {ad : Nat → Nat → Nat} {σ : kS} {H : Heap} {o : Nat} {f : Nat → Int64} {x1 x2 : Int32} {v : Int32} {σ' : kS} {mc ms : Nat} {post : Int32 → Heap → Prop} (hAb : ∀ q, A q → kHi ε q) (hoK : kHi ε o) (hoA : ¬ A o) (hw : kW ε A ad σ H) (ho : kat ε o (kJ ε 1 f) H) (hC : kMi ε l yX4_setCut wsX4_setCut ({ frames := 5, cells := mc, slots := ms, locals := 120 }) [.ref (ad 0 0), .int x1, .int x2] H A mc ms post) (hp9 : ∀ r9 H', post r9 H' → r9 = v ∧ ∃ ad', ad' 0 0 = ad 0 0 ∧ kW ε A ad' σ' H') (h01 : v = 0 ∨ v = 1) : kMi ε l yL_setCut wsL_setCut ({ frames := 11, cells := mc, slots := ms, locals := 310 }) [.ref (ad 0 0), .int x1, .int x2, .ref o] H (kAo A o) (mc) (ms) (kLP ε A o (ad 0 0) (σ') 0 v) := by
  refine kofH (cc := cL_setCut) (maxL := 5) (ret := (some .int)) (hh := [(0, 17, 20, 13)]) (by decide) rfl (Nat.le_of_ble_eq_true rfl) ?_
  intro p e s m below meth c ls S hr hlocks hT hH hE hl
  have S : CallFix p m c cL_setCut 5 s _ wsL_setCut RL := S
  have hx := S.1
  have hb := S.2.1
  have hown : s.vm.findClass RL = some m.cls := S.2.2.2.1
  have hts := S.2.2.2.2
  have hK := hE.1
  have hS : va_S (kAo A o) s.heap H [] := by rw [hH]; exact va_S.rf
  have hAw := hAb
  have hAb := kAo_hi hAb hoK
  have hl : lv_has ls 5 [(0, .ref (ad 0 0)), (1, .int x1), (2, .int x2), (3, .ref o)] := hl
  refine lv_aload_n hx hb dL_setCut_0 rfl (lv_at hl 3 rfl) ?_
  refine lv_iconst (v := 0) hx hb dL_setCut_1 (by decide) ?_
  refine lv_aload_n hx hb dL_setCut_2 rfl (lv_at hl 0 rfl) ?_
  refine lv_iload_n hx hb dL_setCut_3 rfl (lv_at hl 1 rfl) ?_
  refine lv_iload_n hx hb dL_setCut_4 rfl (lv_at hl 2 rfl) ?_
  refine kgo_i (kc_V (As := [.int x1, .int x2]) (rest := [.int 0, .ref o]) S hE hS hAb (hC) (cwV 2 hts gL_setCut_X4_setCut rfl rfl rfl (by decide +kernel) ⟨Nat.le_of_ble_eq_true rfl, Nat.le_of_ble_eq_true rfl⟩) (hw.lv 0 0 (rfl : (0 : Nat) = 0)) rfl rfl hl.1 rfl (Nat.le_of_ble_eq_true rfl) dL_setCut_5 ⟨Nat.le_of_eq (Nat.zero_add mc), Nat.le_of_eq (Nat.zero_add ms)⟩) hS (fun _ h => Or.inl h) (fun r9 H1 locs hp hz hq hS => ?_)
  refine kr_room (c1 := mc) (s1 := ms) (Nat.zero_add mc) (Nat.zero_add ms) ?_
  obtain ⟨rfl, ad', ea, hw⟩ := hp9 _ _ hp
  have ho := va_at.kept ho (hq o (va_at.lt ho) hoA)
  rcases h01 with h01 | h01
  · subst h01
    refine lv_if_eq (tgt := 15) hx hb dL_setCut_8 (by decide) (fun _ => ?_) (fun hc => absurd (rfl) hc)
    refine lv_lconst (v := 0) hx hb dL_setCut_15 (by decide) ?_
    refine kr_lst (i := 0) hx hb hK hS ho (Or.inr rfl) (j := 0) (by decide) rfl (by decide) dL_setCut_16 (fun H1 locs hU ho hS => ?_)
    have hw := hw.keep (fun k i hk => hU.2 _ (fun h => hoA (h ▸ (hw.1 k i hk).2)))
    refine lv_goto (tgt := 24) hx hb dL_setCut_17 (by decide) ?_
    refine lv_iconst (v := 0) hx hb dL_setCut_24 (by decide) ?_
    refine kend_i S hr hlocks hS ⟨rfl, ⟨ad', ea, hw⟩, _, ho, fun _ => by simp [vp_updL]⟩ dL_setCut_25
  · subst h01
    refine lv_if_eq (tgt := 15) hx hb dL_setCut_8 (by decide) (fun hc => absurd hc (by decide)) (fun _ => ?_)
    refine lv_lconst (v := 1) hx hb dL_setCut_11 (by decide) ?_
    refine lv_goto (tgt := 16) hx hb dL_setCut_12 (by decide) ?_
    refine kr_lst (i := 0) hx hb hK hS ho (Or.inr rfl) (j := 0) (by decide) rfl (by decide) dL_setCut_16 (fun H1 locs hU ho hS => ?_)
    have hw := hw.keep (fun k i hk => hU.2 _ (fun h => hoA (h ▸ (hw.1 k i hk).2)))
    refine lv_goto (tgt := 24) hx hb dL_setCut_17 (by decide) ?_
    refine lv_iconst (v := 0) hx hb dL_setCut_24 (by decide) ?_
    refine kend_i S hr hlocks hS ⟨rfl, ⟨ad', ea, hw⟩, _, ho, fun _ => by simp [vp_updL]⟩ dL_setCut_25
set_option maxHeartbeats 4000000 in
set_option maxRecDepth 100000 in
theorem yl_setCutX1 (ε : kEnv) (l : Launch) {A : Nat → Prop} {ad : Nat → Nat → Nat} {σ : kS} {H : Heap} {o : Nat} {f : Nat → Int64} {x1 x2 : Int32} (v : Int32) (hAb : ∀ q, A q → kHi ε q) (hoK : kHi ε o) (hoA : ¬ A o) (hw : kW ε A ad σ H) (ho : kat ε o (kJ ε 1 f) H) (hC : kX ε l yX4_setCut wsX4_setCut ({ frames := 7, cells := 1, slots := 6, locals := 120 }) [.ref (ad 0 0), .int x1, .int x2] H "java/lang/IndexOutOfBoundsException") : kMi ε l yL_setCut wsL_setCut ({ frames := 11, cells := 1, slots := 6, locals := 310 }) [.ref (ad 0 0), .int x1, .int x2, .ref o] H (kAo A o) (1) (6) (kLP ε A o (ad 0 0) (σ) 1 v) := by
  refine kofH (cc := cL_setCut) (maxL := 5) (ret := (some .int)) (hh := [(0, 17, 20, 13)]) (by decide) rfl (Nat.le_of_ble_eq_true rfl) ?_
  intro p e s m below meth c ls S hr hlocks hT hH hE hl
  have S : CallFix p m c cL_setCut 5 s _ wsL_setCut RL := S
  have hx := S.1
  have hb := S.2.1
  have hown : s.vm.findClass RL = some m.cls := S.2.2.2.1
  have hts := S.2.2.2.2
  have hK := hE.1
  have hS : va_S (kAo A o) s.heap H [] := by rw [hH]; exact va_S.rf
  have hAw := hAb
  have hAb := kAo_hi hAb hoK
  have hl : lv_has ls 5 [(0, .ref (ad 0 0)), (1, .int x1), (2, .int x2), (3, .ref o)] := hl
  refine lv_aload_n hx hb dL_setCut_0 rfl (lv_at hl 3 rfl) ?_
  refine lv_iconst (v := 0) hx hb dL_setCut_1 (by decide) ?_
  refine lv_aload_n hx hb dL_setCut_2 rfl (lv_at hl 0 rfl) ?_
  refine lv_iload_n hx hb dL_setCut_3 rfl (lv_at hl 1 rfl) ?_
  refine lv_iload_n hx hb dL_setCut_4 rfl (lv_at hl 2 rfl) ?_
  refine kgo_x (kx_V (As := [.int x1, .int x2]) (rest := [.int 0, .ref o]) S hE hS hAb hC (cwV 2 hts gL_setCut_X4_setCut rfl rfl rfl (by decide +kernel) ⟨Nat.le_of_ble_eq_true rfl, Nat.le_of_ble_eq_true rfl⟩) (hw.lv 0 0 (rfl : (0 : Nat) = 0)) rfl rfl hl.1 rfl (Nat.le_of_ble_eq_true rfl) dL_setCut_5 ⟨Nat.le_refl _, Nat.le_refl _⟩) hS (fun ce q9 H1 locs h1 h2 hS h4 h5 h6 => ?_)
  have hw := hw.keep (fun k i hk => h2 _ (va_at.lt (hw.1 k i hk).1))
  have ho := va_at.kept ho (h2 o (va_at.lt ho))
  refine kcatch (E := "java/lang/IndexOutOfBoundsException") [] (0, 17, 20, 13) [] hE hown hT rfl (by decide) (by decide) (fun z hz => by simp at hz) (hts (.classLink RL 13 "java/lang/IndexOutOfBoundsException") (by decide +kernel)) (by decide +kernel) h4 h5 h6 ?_
  refine lv_astore (lv' := [(4, .ref q9), (0, .ref (ad 0 0)), (1, .int x1), (2, .int x2), (3, .ref o)]) hx hb dL_setCut_20 hl (by decide) rfl (fun ls hl => ?_)
  refine lv_iconst (v := 1) hx hb dL_setCut_22 (by decide) ?_
  refine kend_i S hr hlocks hS ⟨rfl, ⟨ad, rfl, hw⟩, _, ho, fun h => absurd h (by decide)⟩ dL_setCut_23
set_option maxHeartbeats 4000000 in
set_option maxRecDepth 100000 in
theorem yl_setQuorum (ε : kEnv) (l : Launch) {A : Nat → Prop} {ad : Nat → Nat → Nat} {σ : kS} {H : Heap} {o : Nat} {f : Nat → Int64} {x1 x2 : Int32} {v : Int32} {σ' : kS} {mc ms : Nat} {post : Int32 → Heap → Prop} (hAb : ∀ q, A q → kHi ε q) (hoK : kHi ε o) (hoA : ¬ A o) (hw : kW ε A ad σ H) (ho : kat ε o (kJ ε 1 f) H) (hC : kMi ε l yX4_setQuorum wsX4_setQuorum ({ frames := 5, cells := mc, slots := ms, locals := 120 }) [.ref (ad 0 0), .int x1, .int x2] H A mc ms post) (hp9 : ∀ r9 H', post r9 H' → r9 = v ∧ ∃ ad', ad' 0 0 = ad 0 0 ∧ kW ε A ad' σ' H') : kMi ε l yL_setQuorum wsL_setQuorum ({ frames := 11, cells := mc, slots := ms, locals := 310 }) [.ref (ad 0 0), .int x1, .int x2, .ref o] H (kAo A o) (mc) (ms) (kLP ε A o (ad 0 0) (σ') 0 v) := by
  refine kofH (cc := cL_setQuorum) (maxL := 5) (ret := (some .int)) (hh := [(0, 10, 13, 13), (0, 10, 17, 21)]) (by decide) rfl (Nat.le_of_ble_eq_true rfl) ?_
  intro p e s m below meth c ls S hr hlocks hT hH hE hl
  have S : CallFix p m c cL_setQuorum 5 s _ wsL_setQuorum RL := S
  have hx := S.1
  have hb := S.2.1
  have hown : s.vm.findClass RL = some m.cls := S.2.2.2.1
  have hts := S.2.2.2.2
  have hK := hE.1
  have hS : va_S (kAo A o) s.heap H [] := by rw [hH]; exact va_S.rf
  have hAw := hAb
  have hAb := kAo_hi hAb hoK
  have hl : lv_has ls 5 [(0, .ref (ad 0 0)), (1, .int x1), (2, .int x2), (3, .ref o)] := hl
  refine lv_aload_n hx hb dL_setQuorum_0 rfl (lv_at hl 3 rfl) ?_
  refine lv_iconst (v := 0) hx hb dL_setQuorum_1 (by decide) ?_
  refine lv_aload_n hx hb dL_setQuorum_2 rfl (lv_at hl 0 rfl) ?_
  refine lv_iload_n hx hb dL_setQuorum_3 rfl (lv_at hl 1 rfl) ?_
  refine lv_iload_n hx hb dL_setQuorum_4 rfl (lv_at hl 2 rfl) ?_
  refine kgo_i (kc_V (As := [.int x1, .int x2]) (rest := [.int 0, .ref o]) S hE hS hAb (hC) (cwV 2 hts gL_setQuorum_X4_setQuorum rfl rfl rfl (by decide +kernel) ⟨Nat.le_of_ble_eq_true rfl, Nat.le_of_ble_eq_true rfl⟩) (hw.lv 0 0 (rfl : (0 : Nat) = 0)) rfl rfl hl.1 rfl (Nat.le_of_ble_eq_true rfl) dL_setQuorum_5 ⟨Nat.le_of_eq (Nat.zero_add mc), Nat.le_of_eq (Nat.zero_add ms)⟩) hS (fun _ h => Or.inl h) (fun r9 H1 locs hp hz hq hS => ?_)
  refine kr_room (c1 := mc) (s1 := ms) (Nat.zero_add mc) (Nat.zero_add ms) ?_
  obtain ⟨rfl, ad', ea, hw⟩ := hp9 _ _ hp
  have ho := va_at.kept ho (hq o (va_at.lt ho) hoA)
  refine lv_i2l (v := (r9).toInt64) hx hb dL_setQuorum_8 rfl ?_
  refine kr_lst (i := 0) hx hb hK hS ho (Or.inr rfl) (j := 0) (by decide) rfl (by decide) dL_setQuorum_9 (fun H1 locs hU ho hS => ?_)
  have hw := hw.keep (fun k i hk => hU.2 _ (fun h => hoA (h ▸ (hw.1 k i hk).2)))
  refine lv_goto (tgt := 21) hx hb dL_setQuorum_10 (by decide) ?_
  refine lv_iconst (v := 0) hx hb dL_setQuorum_21 (by decide) ?_
  refine kend_i S hr hlocks hS ⟨rfl, ⟨ad', ea, hw⟩, _, ho, fun _ => by simp [vp_updL]⟩ dL_setQuorum_22
set_option maxHeartbeats 4000000 in
set_option maxRecDepth 100000 in
theorem yl_setQuorumX1 (ε : kEnv) (l : Launch) {A : Nat → Prop} {ad : Nat → Nat → Nat} {σ : kS} {H : Heap} {o : Nat} {f : Nat → Int64} {x1 x2 : Int32} (v : Int32) (hAb : ∀ q, A q → kHi ε q) (hoK : kHi ε o) (hoA : ¬ A o) (hw : kW ε A ad σ H) (ho : kat ε o (kJ ε 1 f) H) (hC : kX ε l yX4_setQuorum wsX4_setQuorum ({ frames := 7, cells := 1, slots := 6, locals := 120 }) [.ref (ad 0 0), .int x1, .int x2] H "java/lang/IndexOutOfBoundsException") : kMi ε l yL_setQuorum wsL_setQuorum ({ frames := 11, cells := 1, slots := 6, locals := 310 }) [.ref (ad 0 0), .int x1, .int x2, .ref o] H (kAo A o) (1) (6) (kLP ε A o (ad 0 0) (σ) 1 v) := by
  refine kofH (cc := cL_setQuorum) (maxL := 5) (ret := (some .int)) (hh := [(0, 10, 13, 13), (0, 10, 17, 21)]) (by decide) rfl (Nat.le_of_ble_eq_true rfl) ?_
  intro p e s m below meth c ls S hr hlocks hT hH hE hl
  have S : CallFix p m c cL_setQuorum 5 s _ wsL_setQuorum RL := S
  have hx := S.1
  have hb := S.2.1
  have hown : s.vm.findClass RL = some m.cls := S.2.2.2.1
  have hts := S.2.2.2.2
  have hK := hE.1
  have hS : va_S (kAo A o) s.heap H [] := by rw [hH]; exact va_S.rf
  have hAw := hAb
  have hAb := kAo_hi hAb hoK
  have hl : lv_has ls 5 [(0, .ref (ad 0 0)), (1, .int x1), (2, .int x2), (3, .ref o)] := hl
  refine lv_aload_n hx hb dL_setQuorum_0 rfl (lv_at hl 3 rfl) ?_
  refine lv_iconst (v := 0) hx hb dL_setQuorum_1 (by decide) ?_
  refine lv_aload_n hx hb dL_setQuorum_2 rfl (lv_at hl 0 rfl) ?_
  refine lv_iload_n hx hb dL_setQuorum_3 rfl (lv_at hl 1 rfl) ?_
  refine lv_iload_n hx hb dL_setQuorum_4 rfl (lv_at hl 2 rfl) ?_
  refine kgo_x (kx_V (As := [.int x1, .int x2]) (rest := [.int 0, .ref o]) S hE hS hAb hC (cwV 2 hts gL_setQuorum_X4_setQuorum rfl rfl rfl (by decide +kernel) ⟨Nat.le_of_ble_eq_true rfl, Nat.le_of_ble_eq_true rfl⟩) (hw.lv 0 0 (rfl : (0 : Nat) = 0)) rfl rfl hl.1 rfl (Nat.le_of_ble_eq_true rfl) dL_setQuorum_5 ⟨Nat.le_refl _, Nat.le_refl _⟩) hS (fun ce q9 H1 locs h1 h2 hS h4 h5 h6 => ?_)
  have hw := hw.keep (fun k i hk => h2 _ (va_at.lt (hw.1 k i hk).1))
  have ho := va_at.kept ho (h2 o (va_at.lt ho))
  refine kcatch (E := "java/lang/IndexOutOfBoundsException") [] (0, 10, 13, 13) [(0, 10, 17, 21)] hE hown hT rfl (by decide) (by decide) (fun z hz => by simp at hz) (hts (.classLink RL 13 "java/lang/IndexOutOfBoundsException") (by decide +kernel)) (by decide +kernel) h4 h5 h6 ?_
  refine lv_astore (lv' := [(4, .ref q9), (0, .ref (ad 0 0)), (1, .int x1), (2, .int x2), (3, .ref o)]) hx hb dL_setQuorum_13 hl (by decide) rfl (fun ls hl => ?_)
  refine lv_iconst (v := 1) hx hb dL_setQuorum_15 (by decide) ?_
  refine kend_i S hr hlocks hS ⟨rfl, ⟨ad, rfl, hw⟩, _, ho, fun h => absurd h (by decide)⟩ dL_setQuorum_16
set_option maxHeartbeats 4000000 in
set_option maxRecDepth 100000 in
theorem yl_setQuorumX2 (ε : kEnv) (l : Launch) {A : Nat → Prop} {ad : Nat → Nat → Nat} {σ : kS} {H : Heap} {o : Nat} {f : Nat → Int64} {x1 x2 : Int32} (v : Int32) (hAb : ∀ q, A q → kHi ε q) (hoK : kHi ε o) (hoA : ¬ A o) (hw : kW ε A ad σ H) (ho : kat ε o (kJ ε 1 f) H) (hC : kX ε l yX4_setQuorum wsX4_setQuorum ({ frames := 7, cells := 1, slots := 6, locals := 120 }) [.ref (ad 0 0), .int x1, .int x2] H "java/lang/IllegalArgumentException") : kMi ε l yL_setQuorum wsL_setQuorum ({ frames := 11, cells := 1, slots := 6, locals := 310 }) [.ref (ad 0 0), .int x1, .int x2, .ref o] H (kAo A o) (1) (6) (kLP ε A o (ad 0 0) (σ) 2 v) := by
  refine kofH (cc := cL_setQuorum) (maxL := 5) (ret := (some .int)) (hh := [(0, 10, 13, 13), (0, 10, 17, 21)]) (by decide) rfl (Nat.le_of_ble_eq_true rfl) ?_
  intro p e s m below meth c ls S hr hlocks hT hH hE hl
  have S : CallFix p m c cL_setQuorum 5 s _ wsL_setQuorum RL := S
  have hx := S.1
  have hb := S.2.1
  have hown : s.vm.findClass RL = some m.cls := S.2.2.2.1
  have hts := S.2.2.2.2
  have hK := hE.1
  have hS : va_S (kAo A o) s.heap H [] := by rw [hH]; exact va_S.rf
  have hAw := hAb
  have hAb := kAo_hi hAb hoK
  have hl : lv_has ls 5 [(0, .ref (ad 0 0)), (1, .int x1), (2, .int x2), (3, .ref o)] := hl
  refine lv_aload_n hx hb dL_setQuorum_0 rfl (lv_at hl 3 rfl) ?_
  refine lv_iconst (v := 0) hx hb dL_setQuorum_1 (by decide) ?_
  refine lv_aload_n hx hb dL_setQuorum_2 rfl (lv_at hl 0 rfl) ?_
  refine lv_iload_n hx hb dL_setQuorum_3 rfl (lv_at hl 1 rfl) ?_
  refine lv_iload_n hx hb dL_setQuorum_4 rfl (lv_at hl 2 rfl) ?_
  refine kgo_x (kx_V (As := [.int x1, .int x2]) (rest := [.int 0, .ref o]) S hE hS hAb hC (cwV 2 hts gL_setQuorum_X4_setQuorum rfl rfl rfl (by decide +kernel) ⟨Nat.le_of_ble_eq_true rfl, Nat.le_of_ble_eq_true rfl⟩) (hw.lv 0 0 (rfl : (0 : Nat) = 0)) rfl rfl hl.1 rfl (Nat.le_of_ble_eq_true rfl) dL_setQuorum_5 ⟨Nat.le_refl _, Nat.le_refl _⟩) hS (fun ce q9 H1 locs h1 h2 hS h4 h5 h6 => ?_)
  have hw := hw.keep (fun k i hk => h2 _ (va_at.lt (hw.1 k i hk).1))
  have ho := va_at.kept ho (h2 o (va_at.lt ho))
  refine kcatch (E := "java/lang/IllegalArgumentException") [(0, 10, 13, 13)] (0, 10, 17, 21) [] hE hown hT rfl (by decide) (by decide) (fun z hz => by
      simp only [List.mem_cons, List.not_mem_nil, or_false] at hz
      rcases hz with rfl
      · exact ⟨by decide, "java/lang/IndexOutOfBoundsException", hts (.classLink RL 13 "java/lang/IndexOutOfBoundsException") (by decide +kernel), by decide +kernel⟩) (hts (.classLink RL 21 "java/lang/IllegalArgumentException") (by decide +kernel)) (by decide +kernel) h4 h5 h6 ?_
  refine lv_astore (lv' := [(4, .ref q9), (0, .ref (ad 0 0)), (1, .int x1), (2, .int x2), (3, .ref o)]) hx hb dL_setQuorum_17 hl (by decide) rfl (fun ls hl => ?_)
  refine lv_iconst (v := 2) hx hb dL_setQuorum_19 (by decide) ?_
  refine kend_i S hr hlocks hS ⟨rfl, ⟨ad, rfl, hw⟩, _, ho, fun h => absurd h (by decide)⟩ dL_setQuorum_20
set_option maxHeartbeats 4000000 in
set_option maxRecDepth 100000 in
theorem yl_addWindow (ε : kEnv) (l : Launch) {A : Nat → Prop} {ad : Nat → Nat → Nat} {σ : kS} {H : Heap} {o : Nat} {f : Nat → Int64} {x1 x2 x3 : Int32} {v : Int32} {σ' : kS} {mc ms : Nat} {post : Int32 → Heap → Prop} (hAb : ∀ q, A q → kHi ε q) (hoK : kHi ε o) (hoA : ¬ A o) (hw : kW ε A ad σ H) (ho : kat ε o (kJ ε 1 f) H) (hC : kMi ε l yX4_addWindow wsX4_addWindow ({ frames := 7, cells := mc, slots := ms, locals := 220 }) [.ref (ad 0 0), .int x1, .int x2, .int x3] H A mc ms post) (hp9 : ∀ r9 H', post r9 H' → r9 = v ∧ ∃ ad', ad' 0 0 = ad 0 0 ∧ kW ε A ad' σ' H') : kMi ε l yL_addWindow wsL_addWindow ({ frames := 11, cells := mc, slots := ms, locals := 310 }) [.ref (ad 0 0), .int x1, .int x2, .int x3, .ref o] H (kAo A o) (mc) (ms) (kLP ε A o (ad 0 0) (σ') 0 v) := by
  refine kofH (cc := cL_addWindow) (maxL := 6) (ret := (some .int)) (hh := [(0, 12, 15, 13), (0, 12, 19, 21), (0, 12, 23, 15)]) (by decide) rfl (Nat.le_of_ble_eq_true rfl) ?_
  intro p e s m below meth c ls S hr hlocks hT hH hE hl
  have S : CallFix p m c cL_addWindow 6 s _ wsL_addWindow RL := S
  have hx := S.1
  have hb := S.2.1
  have hown : s.vm.findClass RL = some m.cls := S.2.2.2.1
  have hts := S.2.2.2.2
  have hK := hE.1
  have hS : va_S (kAo A o) s.heap H [] := by rw [hH]; exact va_S.rf
  have hAw := hAb
  have hAb := kAo_hi hAb hoK
  have hl : lv_has ls 6 [(0, .ref (ad 0 0)), (1, .int x1), (2, .int x2), (3, .int x3), (4, .ref o)] := hl
  refine lv_aload hx hb dL_addWindow_0 (lv_at hl 4 rfl) ?_
  refine lv_iconst (v := 0) hx hb dL_addWindow_2 (by decide) ?_
  refine lv_aload_n hx hb dL_addWindow_3 rfl (lv_at hl 0 rfl) ?_
  refine lv_iload_n hx hb dL_addWindow_4 rfl (lv_at hl 1 rfl) ?_
  refine lv_iload_n hx hb dL_addWindow_5 rfl (lv_at hl 2 rfl) ?_
  refine lv_iload_n hx hb dL_addWindow_6 rfl (lv_at hl 3 rfl) ?_
  refine kgo_i (kc_V (As := [.int x1, .int x2, .int x3]) (rest := [.int 0, .ref o]) S hE hS hAb (hC) (cwV 3 hts gL_addWindow_X4_addWindow rfl rfl rfl (by decide +kernel) ⟨Nat.le_of_ble_eq_true rfl, Nat.le_of_ble_eq_true rfl⟩) (hw.lv 0 0 (rfl : (0 : Nat) = 0)) rfl rfl hl.1 rfl (Nat.le_of_ble_eq_true rfl) dL_addWindow_7 ⟨Nat.le_of_eq (Nat.zero_add mc), Nat.le_of_eq (Nat.zero_add ms)⟩) hS (fun _ h => Or.inl h) (fun r9 H1 locs hp hz hq hS => ?_)
  refine kr_room (c1 := mc) (s1 := ms) (Nat.zero_add mc) (Nat.zero_add ms) ?_
  obtain ⟨rfl, ad', ea, hw⟩ := hp9 _ _ hp
  have ho := va_at.kept ho (hq o (va_at.lt ho) hoA)
  refine lv_i2l (v := (r9).toInt64) hx hb dL_addWindow_10 rfl ?_
  refine kr_lst (i := 0) hx hb hK hS ho (Or.inr rfl) (j := 0) (by decide) rfl (by decide) dL_addWindow_11 (fun H1 locs hU ho hS => ?_)
  have hw := hw.keep (fun k i hk => hU.2 _ (fun h => hoA (h ▸ (hw.1 k i hk).2)))
  refine lv_goto (tgt := 27) hx hb dL_addWindow_12 (by decide) ?_
  refine lv_iconst (v := 0) hx hb dL_addWindow_27 (by decide) ?_
  refine kend_i S hr hlocks hS ⟨rfl, ⟨ad', ea, hw⟩, _, ho, fun _ => by simp [vp_updL]⟩ dL_addWindow_28
set_option maxHeartbeats 4000000 in
set_option maxRecDepth 100000 in
theorem yl_addWindowX1 (ε : kEnv) (l : Launch) {A : Nat → Prop} {ad : Nat → Nat → Nat} {σ : kS} {H : Heap} {o : Nat} {f : Nat → Int64} {x1 x2 x3 : Int32} (v : Int32) (hAb : ∀ q, A q → kHi ε q) (hoK : kHi ε o) (hoA : ¬ A o) (hw : kW ε A ad σ H) (ho : kat ε o (kJ ε 1 f) H) (hC : kX ε l yX4_addWindow wsX4_addWindow ({ frames := 7, cells := 1, slots := 6, locals := 120 }) [.ref (ad 0 0), .int x1, .int x2, .int x3] H "java/lang/IndexOutOfBoundsException") : kMi ε l yL_addWindow wsL_addWindow ({ frames := 11, cells := 1, slots := 6, locals := 310 }) [.ref (ad 0 0), .int x1, .int x2, .int x3, .ref o] H (kAo A o) (1) (6) (kLP ε A o (ad 0 0) (σ) 1 v) := by
  refine kofH (cc := cL_addWindow) (maxL := 6) (ret := (some .int)) (hh := [(0, 12, 15, 13), (0, 12, 19, 21), (0, 12, 23, 15)]) (by decide) rfl (Nat.le_of_ble_eq_true rfl) ?_
  intro p e s m below meth c ls S hr hlocks hT hH hE hl
  have S : CallFix p m c cL_addWindow 6 s _ wsL_addWindow RL := S
  have hx := S.1
  have hb := S.2.1
  have hown : s.vm.findClass RL = some m.cls := S.2.2.2.1
  have hts := S.2.2.2.2
  have hK := hE.1
  have hS : va_S (kAo A o) s.heap H [] := by rw [hH]; exact va_S.rf
  have hAw := hAb
  have hAb := kAo_hi hAb hoK
  have hl : lv_has ls 6 [(0, .ref (ad 0 0)), (1, .int x1), (2, .int x2), (3, .int x3), (4, .ref o)] := hl
  refine lv_aload hx hb dL_addWindow_0 (lv_at hl 4 rfl) ?_
  refine lv_iconst (v := 0) hx hb dL_addWindow_2 (by decide) ?_
  refine lv_aload_n hx hb dL_addWindow_3 rfl (lv_at hl 0 rfl) ?_
  refine lv_iload_n hx hb dL_addWindow_4 rfl (lv_at hl 1 rfl) ?_
  refine lv_iload_n hx hb dL_addWindow_5 rfl (lv_at hl 2 rfl) ?_
  refine lv_iload_n hx hb dL_addWindow_6 rfl (lv_at hl 3 rfl) ?_
  refine kgo_x (kx_V (As := [.int x1, .int x2, .int x3]) (rest := [.int 0, .ref o]) S hE hS hAb hC (cwV 3 hts gL_addWindow_X4_addWindow rfl rfl rfl (by decide +kernel) ⟨Nat.le_of_ble_eq_true rfl, Nat.le_of_ble_eq_true rfl⟩) (hw.lv 0 0 (rfl : (0 : Nat) = 0)) rfl rfl hl.1 rfl (Nat.le_of_ble_eq_true rfl) dL_addWindow_7 ⟨Nat.le_refl _, Nat.le_refl _⟩) hS (fun ce q9 H1 locs h1 h2 hS h4 h5 h6 => ?_)
  have hw := hw.keep (fun k i hk => h2 _ (va_at.lt (hw.1 k i hk).1))
  have ho := va_at.kept ho (h2 o (va_at.lt ho))
  refine kcatch (E := "java/lang/IndexOutOfBoundsException") [] (0, 12, 15, 13) [(0, 12, 19, 21), (0, 12, 23, 15)] hE hown hT rfl (by decide) (by decide) (fun z hz => by simp at hz) (hts (.classLink RL 13 "java/lang/IndexOutOfBoundsException") (by decide +kernel)) (by decide +kernel) h4 h5 h6 ?_
  refine lv_astore (lv' := [(5, .ref q9), (0, .ref (ad 0 0)), (1, .int x1), (2, .int x2), (3, .int x3), (4, .ref o)]) hx hb dL_addWindow_15 hl (by decide) rfl (fun ls hl => ?_)
  refine lv_iconst (v := 1) hx hb dL_addWindow_17 (by decide) ?_
  refine kend_i S hr hlocks hS ⟨rfl, ⟨ad, rfl, hw⟩, _, ho, fun h => absurd h (by decide)⟩ dL_addWindow_18
set_option maxHeartbeats 4000000 in
set_option maxRecDepth 100000 in
theorem yl_addWindowX2 (ε : kEnv) (l : Launch) {A : Nat → Prop} {ad : Nat → Nat → Nat} {σ : kS} {H : Heap} {o : Nat} {f : Nat → Int64} {x1 x2 x3 : Int32} (v : Int32) (hAb : ∀ q, A q → kHi ε q) (hoK : kHi ε o) (hoA : ¬ A o) (hw : kW ε A ad σ H) (ho : kat ε o (kJ ε 1 f) H) (hC : kX ε l yX4_addWindow wsX4_addWindow ({ frames := 7, cells := 1, slots := 6, locals := 120 }) [.ref (ad 0 0), .int x1, .int x2, .int x3] H "java/lang/IllegalArgumentException") : kMi ε l yL_addWindow wsL_addWindow ({ frames := 11, cells := 1, slots := 6, locals := 310 }) [.ref (ad 0 0), .int x1, .int x2, .int x3, .ref o] H (kAo A o) (1) (6) (kLP ε A o (ad 0 0) (σ) 2 v) := by
  refine kofH (cc := cL_addWindow) (maxL := 6) (ret := (some .int)) (hh := [(0, 12, 15, 13), (0, 12, 19, 21), (0, 12, 23, 15)]) (by decide) rfl (Nat.le_of_ble_eq_true rfl) ?_
  intro p e s m below meth c ls S hr hlocks hT hH hE hl
  have S : CallFix p m c cL_addWindow 6 s _ wsL_addWindow RL := S
  have hx := S.1
  have hb := S.2.1
  have hown : s.vm.findClass RL = some m.cls := S.2.2.2.1
  have hts := S.2.2.2.2
  have hK := hE.1
  have hS : va_S (kAo A o) s.heap H [] := by rw [hH]; exact va_S.rf
  have hAw := hAb
  have hAb := kAo_hi hAb hoK
  have hl : lv_has ls 6 [(0, .ref (ad 0 0)), (1, .int x1), (2, .int x2), (3, .int x3), (4, .ref o)] := hl
  refine lv_aload hx hb dL_addWindow_0 (lv_at hl 4 rfl) ?_
  refine lv_iconst (v := 0) hx hb dL_addWindow_2 (by decide) ?_
  refine lv_aload_n hx hb dL_addWindow_3 rfl (lv_at hl 0 rfl) ?_
  refine lv_iload_n hx hb dL_addWindow_4 rfl (lv_at hl 1 rfl) ?_
  refine lv_iload_n hx hb dL_addWindow_5 rfl (lv_at hl 2 rfl) ?_
  refine lv_iload_n hx hb dL_addWindow_6 rfl (lv_at hl 3 rfl) ?_
  refine kgo_x (kx_V (As := [.int x1, .int x2, .int x3]) (rest := [.int 0, .ref o]) S hE hS hAb hC (cwV 3 hts gL_addWindow_X4_addWindow rfl rfl rfl (by decide +kernel) ⟨Nat.le_of_ble_eq_true rfl, Nat.le_of_ble_eq_true rfl⟩) (hw.lv 0 0 (rfl : (0 : Nat) = 0)) rfl rfl hl.1 rfl (Nat.le_of_ble_eq_true rfl) dL_addWindow_7 ⟨Nat.le_refl _, Nat.le_refl _⟩) hS (fun ce q9 H1 locs h1 h2 hS h4 h5 h6 => ?_)
  have hw := hw.keep (fun k i hk => h2 _ (va_at.lt (hw.1 k i hk).1))
  have ho := va_at.kept ho (h2 o (va_at.lt ho))
  refine kcatch (E := "java/lang/IllegalArgumentException") [(0, 12, 15, 13)] (0, 12, 19, 21) [(0, 12, 23, 15)] hE hown hT rfl (by decide) (by decide) (fun z hz => by
      simp only [List.mem_cons, List.not_mem_nil, or_false] at hz
      rcases hz with rfl
      · exact ⟨by decide, "java/lang/IndexOutOfBoundsException", hts (.classLink RL 13 "java/lang/IndexOutOfBoundsException") (by decide +kernel), by decide +kernel⟩) (hts (.classLink RL 21 "java/lang/IllegalArgumentException") (by decide +kernel)) (by decide +kernel) h4 h5 h6 ?_
  refine lv_astore (lv' := [(5, .ref q9), (0, .ref (ad 0 0)), (1, .int x1), (2, .int x2), (3, .int x3), (4, .ref o)]) hx hb dL_addWindow_19 hl (by decide) rfl (fun ls hl => ?_)
  refine lv_iconst (v := 2) hx hb dL_addWindow_21 (by decide) ?_
  refine kend_i S hr hlocks hS ⟨rfl, ⟨ad, rfl, hw⟩, _, ho, fun h => absurd h (by decide)⟩ dL_addWindow_22
set_option maxHeartbeats 4000000 in
set_option maxRecDepth 100000 in
theorem yl_addWindowX3 (ε : kEnv) (l : Launch) {A : Nat → Prop} {ad : Nat → Nat → Nat} {σ : kS} {H : Heap} {o : Nat} {f : Nat → Int64} {x1 x2 x3 : Int32} (v : Int32) (hAb : ∀ q, A q → kHi ε q) (hoK : kHi ε o) (hoA : ¬ A o) (hw : kW ε A ad σ H) (ho : kat ε o (kJ ε 1 f) H) (hC : kX ε l yX4_addWindow wsX4_addWindow ({ frames := 7, cells := 1, slots := 6, locals := 120 }) [.ref (ad 0 0), .int x1, .int x2, .int x3] H "java/lang/IllegalStateException") : kMi ε l yL_addWindow wsL_addWindow ({ frames := 11, cells := 1, slots := 6, locals := 310 }) [.ref (ad 0 0), .int x1, .int x2, .int x3, .ref o] H (kAo A o) (1) (6) (kLP ε A o (ad 0 0) (σ) 3 v) := by
  refine kofH (cc := cL_addWindow) (maxL := 6) (ret := (some .int)) (hh := [(0, 12, 15, 13), (0, 12, 19, 21), (0, 12, 23, 15)]) (by decide) rfl (Nat.le_of_ble_eq_true rfl) ?_
  intro p e s m below meth c ls S hr hlocks hT hH hE hl
  have S : CallFix p m c cL_addWindow 6 s _ wsL_addWindow RL := S
  have hx := S.1
  have hb := S.2.1
  have hown : s.vm.findClass RL = some m.cls := S.2.2.2.1
  have hts := S.2.2.2.2
  have hK := hE.1
  have hS : va_S (kAo A o) s.heap H [] := by rw [hH]; exact va_S.rf
  have hAw := hAb
  have hAb := kAo_hi hAb hoK
  have hl : lv_has ls 6 [(0, .ref (ad 0 0)), (1, .int x1), (2, .int x2), (3, .int x3), (4, .ref o)] := hl
  refine lv_aload hx hb dL_addWindow_0 (lv_at hl 4 rfl) ?_
  refine lv_iconst (v := 0) hx hb dL_addWindow_2 (by decide) ?_
  refine lv_aload_n hx hb dL_addWindow_3 rfl (lv_at hl 0 rfl) ?_
  refine lv_iload_n hx hb dL_addWindow_4 rfl (lv_at hl 1 rfl) ?_
  refine lv_iload_n hx hb dL_addWindow_5 rfl (lv_at hl 2 rfl) ?_
  refine lv_iload_n hx hb dL_addWindow_6 rfl (lv_at hl 3 rfl) ?_
  refine kgo_x (kx_V (As := [.int x1, .int x2, .int x3]) (rest := [.int 0, .ref o]) S hE hS hAb hC (cwV 3 hts gL_addWindow_X4_addWindow rfl rfl rfl (by decide +kernel) ⟨Nat.le_of_ble_eq_true rfl, Nat.le_of_ble_eq_true rfl⟩) (hw.lv 0 0 (rfl : (0 : Nat) = 0)) rfl rfl hl.1 rfl (Nat.le_of_ble_eq_true rfl) dL_addWindow_7 ⟨Nat.le_refl _, Nat.le_refl _⟩) hS (fun ce q9 H1 locs h1 h2 hS h4 h5 h6 => ?_)
  have hw := hw.keep (fun k i hk => h2 _ (va_at.lt (hw.1 k i hk).1))
  have ho := va_at.kept ho (h2 o (va_at.lt ho))
  refine kcatch (E := "java/lang/IllegalStateException") [(0, 12, 15, 13), (0, 12, 19, 21)] (0, 12, 23, 15) [] hE hown hT rfl (by decide) (by decide) (fun z hz => by
      simp only [List.mem_cons, List.not_mem_nil, or_false] at hz
      rcases hz with rfl | rfl
      · exact ⟨by decide, "java/lang/IndexOutOfBoundsException", hts (.classLink RL 13 "java/lang/IndexOutOfBoundsException") (by decide +kernel), by decide +kernel⟩
      · exact ⟨by decide, "java/lang/IllegalArgumentException", hts (.classLink RL 21 "java/lang/IllegalArgumentException") (by decide +kernel), by decide +kernel⟩) (hts (.classLink RL 15 "java/lang/IllegalStateException") (by decide +kernel)) (by decide +kernel) h4 h5 h6 ?_
  refine lv_astore (lv' := [(5, .ref q9), (0, .ref (ad 0 0)), (1, .int x1), (2, .int x2), (3, .int x3), (4, .ref o)]) hx hb dL_addWindow_23 hl (by decide) rfl (fun ls hl => ?_)
  refine lv_iconst (v := 3) hx hb dL_addWindow_25 (by decide) ?_
  refine kend_i S hr hlocks hS ⟨rfl, ⟨ad, rfl, hw⟩, _, ho, fun h => absurd h (by decide)⟩ dL_addWindow_26
set_option maxHeartbeats 4000000 in
set_option maxRecDepth 100000 in
theorem yl_endWindow (ε : kEnv) (l : Launch) {A : Nat → Prop} {ad : Nat → Nat → Nat} {σ : kS} {H : Heap} {o : Nat} {f : Nat → Int64} {x1 : Int32} {v : Int32} {σ' : kS} {mc ms : Nat} {post : Int32 → Heap → Prop} (hAb : ∀ q, A q → kHi ε q) (hoK : kHi ε o) (hoA : ¬ A o) (hw : kW ε A ad σ H) (ho : kat ε o (kJ ε 1 f) H) (hC : kMi ε l yX4_endWindow wsX4_endWindow ({ frames := 5, cells := mc, slots := ms, locals := 120 }) [.ref (ad 0 0), .int x1] H A mc ms post) (hp9 : ∀ r9 H', post r9 H' → r9 = v ∧ ∃ ad', ad' 0 0 = ad 0 0 ∧ kW ε A ad' σ' H') : kMi ε l yL_endWindow wsL_endWindow ({ frames := 11, cells := mc, slots := ms, locals := 310 }) [.ref (ad 0 0), .int x1, .ref o] H (kAo A o) (mc) (ms) (kLP ε A o (ad 0 0) (σ') 0 v) := by
  refine kofH (cc := cL_endWindow) (maxL := 4) (ret := (some .int)) (hh := [(0, 9, 12, 13)]) (by decide) rfl (Nat.le_of_ble_eq_true rfl) ?_
  intro p e s m below meth c ls S hr hlocks hT hH hE hl
  have S : CallFix p m c cL_endWindow 4 s _ wsL_endWindow RL := S
  have hx := S.1
  have hb := S.2.1
  have hown : s.vm.findClass RL = some m.cls := S.2.2.2.1
  have hts := S.2.2.2.2
  have hK := hE.1
  have hS : va_S (kAo A o) s.heap H [] := by rw [hH]; exact va_S.rf
  have hAw := hAb
  have hAb := kAo_hi hAb hoK
  have hl : lv_has ls 4 [(0, .ref (ad 0 0)), (1, .int x1), (2, .ref o)] := hl
  refine lv_aload_n hx hb dL_endWindow_0 rfl (lv_at hl 2 rfl) ?_
  refine lv_iconst (v := 0) hx hb dL_endWindow_1 (by decide) ?_
  refine lv_aload_n hx hb dL_endWindow_2 rfl (lv_at hl 0 rfl) ?_
  refine lv_iload_n hx hb dL_endWindow_3 rfl (lv_at hl 1 rfl) ?_
  refine kgo_i (kc_V (As := [.int x1]) (rest := [.int 0, .ref o]) S hE hS hAb (hC) (cwV 1 hts gL_endWindow_X4_endWindow rfl rfl rfl (by decide +kernel) ⟨Nat.le_of_ble_eq_true rfl, Nat.le_of_ble_eq_true rfl⟩) (hw.lv 0 0 (rfl : (0 : Nat) = 0)) rfl rfl hl.1 rfl (Nat.le_of_ble_eq_true rfl) dL_endWindow_4 ⟨Nat.le_of_eq (Nat.zero_add mc), Nat.le_of_eq (Nat.zero_add ms)⟩) hS (fun _ h => Or.inl h) (fun r9 H1 locs hp hz hq hS => ?_)
  refine kr_room (c1 := mc) (s1 := ms) (Nat.zero_add mc) (Nat.zero_add ms) ?_
  obtain ⟨rfl, ad', ea, hw⟩ := hp9 _ _ hp
  have ho := va_at.kept ho (hq o (va_at.lt ho) hoA)
  refine lv_i2l (v := (r9).toInt64) hx hb dL_endWindow_7 rfl ?_
  refine kr_lst (i := 0) hx hb hK hS ho (Or.inr rfl) (j := 0) (by decide) rfl (by decide) dL_endWindow_8 (fun H1 locs hU ho hS => ?_)
  have hw := hw.keep (fun k i hk => hU.2 _ (fun h => hoA (h ▸ (hw.1 k i hk).2)))
  refine lv_goto (tgt := 15) hx hb dL_endWindow_9 (by decide) ?_
  refine lv_iconst (v := 0) hx hb dL_endWindow_15 (by decide) ?_
  refine kend_i S hr hlocks hS ⟨rfl, ⟨ad', ea, hw⟩, _, ho, fun _ => by simp [vp_updL]⟩ dL_endWindow_16
set_option maxHeartbeats 4000000 in
set_option maxRecDepth 100000 in
theorem yl_endWindowX1 (ε : kEnv) (l : Launch) {A : Nat → Prop} {ad : Nat → Nat → Nat} {σ : kS} {H : Heap} {o : Nat} {f : Nat → Int64} {x1 : Int32} (v : Int32) (hAb : ∀ q, A q → kHi ε q) (hoK : kHi ε o) (hoA : ¬ A o) (hw : kW ε A ad σ H) (ho : kat ε o (kJ ε 1 f) H) (hC : kX ε l yX4_endWindow wsX4_endWindow ({ frames := 7, cells := 1, slots := 6, locals := 120 }) [.ref (ad 0 0), .int x1] H "java/lang/IndexOutOfBoundsException") : kMi ε l yL_endWindow wsL_endWindow ({ frames := 11, cells := 1, slots := 6, locals := 310 }) [.ref (ad 0 0), .int x1, .ref o] H (kAo A o) (1) (6) (kLP ε A o (ad 0 0) (σ) 1 v) := by
  refine kofH (cc := cL_endWindow) (maxL := 4) (ret := (some .int)) (hh := [(0, 9, 12, 13)]) (by decide) rfl (Nat.le_of_ble_eq_true rfl) ?_
  intro p e s m below meth c ls S hr hlocks hT hH hE hl
  have S : CallFix p m c cL_endWindow 4 s _ wsL_endWindow RL := S
  have hx := S.1
  have hb := S.2.1
  have hown : s.vm.findClass RL = some m.cls := S.2.2.2.1
  have hts := S.2.2.2.2
  have hK := hE.1
  have hS : va_S (kAo A o) s.heap H [] := by rw [hH]; exact va_S.rf
  have hAw := hAb
  have hAb := kAo_hi hAb hoK
  have hl : lv_has ls 4 [(0, .ref (ad 0 0)), (1, .int x1), (2, .ref o)] := hl
  refine lv_aload_n hx hb dL_endWindow_0 rfl (lv_at hl 2 rfl) ?_
  refine lv_iconst (v := 0) hx hb dL_endWindow_1 (by decide) ?_
  refine lv_aload_n hx hb dL_endWindow_2 rfl (lv_at hl 0 rfl) ?_
  refine lv_iload_n hx hb dL_endWindow_3 rfl (lv_at hl 1 rfl) ?_
  refine kgo_x (kx_V (As := [.int x1]) (rest := [.int 0, .ref o]) S hE hS hAb hC (cwV 1 hts gL_endWindow_X4_endWindow rfl rfl rfl (by decide +kernel) ⟨Nat.le_of_ble_eq_true rfl, Nat.le_of_ble_eq_true rfl⟩) (hw.lv 0 0 (rfl : (0 : Nat) = 0)) rfl rfl hl.1 rfl (Nat.le_of_ble_eq_true rfl) dL_endWindow_4 ⟨Nat.le_refl _, Nat.le_refl _⟩) hS (fun ce q9 H1 locs h1 h2 hS h4 h5 h6 => ?_)
  have hw := hw.keep (fun k i hk => h2 _ (va_at.lt (hw.1 k i hk).1))
  have ho := va_at.kept ho (h2 o (va_at.lt ho))
  refine kcatch (E := "java/lang/IndexOutOfBoundsException") [] (0, 9, 12, 13) [] hE hown hT rfl (by decide) (by decide) (fun z hz => by simp at hz) (hts (.classLink RL 13 "java/lang/IndexOutOfBoundsException") (by decide +kernel)) (by decide +kernel) h4 h5 h6 ?_
  refine lv_astore_n (lv' := [(3, .ref q9), (0, .ref (ad 0 0)), (1, .int x1), (2, .ref o)]) hx hb dL_endWindow_12 rfl hl (by decide) rfl (fun ls hl => ?_)
  refine lv_iconst (v := 1) hx hb dL_endWindow_13 (by decide) ?_
  refine kend_i S hr hlocks hS ⟨rfl, ⟨ad, rfl, hw⟩, _, ho, fun h => absurd h (by decide)⟩ dL_endWindow_14
set_option maxHeartbeats 4000000 in
set_option maxRecDepth 100000 in
theorem yl_pass (ε : kEnv) (l : Launch) {A : Nat → Prop} {ad : Nat → Nat → Nat} {σ : kS} {H : Heap} {o : Nat} {f : Nat → Int64} {x1 : Int32} {v : Int32} {σ' : kS} {mc ms : Nat} {post : Int32 → Heap → Prop} (hAb : ∀ q, A q → kHi ε q) (hoK : kHi ε o) (hoA : ¬ A o) (hw : kW ε A ad σ H) (ho : kat ε o (kJ ε 1 f) H) (hC : kMi ε l yX4_pass wsX4_pass ({ frames := 10, cells := mc, slots := ms, locals := 270 }) [.ref (ad 0 0), .int x1] H A mc ms post) (hp9 : ∀ r9 H', post r9 H' → r9 = v ∧ ∃ ad', ad' 0 0 = ad 0 0 ∧ kW ε A ad' σ' H') : kMi ε l yL_pass wsL_pass ({ frames := 11, cells := mc, slots := ms, locals := 310 }) [.ref (ad 0 0), .int x1, .ref o] H (kAo A o) (mc) (ms) (kLP ε A o (ad 0 0) (σ') 0 v) := by
  refine kofH (cc := cL_pass) (maxL := 4) (ret := (some .int)) (hh := [(0, 9, 12, 21)]) (by decide) rfl (Nat.le_of_ble_eq_true rfl) ?_
  intro p e s m below meth c ls S hr hlocks hT hH hE hl
  have S : CallFix p m c cL_pass 4 s _ wsL_pass RL := S
  have hx := S.1
  have hb := S.2.1
  have hown : s.vm.findClass RL = some m.cls := S.2.2.2.1
  have hts := S.2.2.2.2
  have hK := hE.1
  have hS : va_S (kAo A o) s.heap H [] := by rw [hH]; exact va_S.rf
  have hAw := hAb
  have hAb := kAo_hi hAb hoK
  have hl : lv_has ls 4 [(0, .ref (ad 0 0)), (1, .int x1), (2, .ref o)] := hl
  refine lv_aload_n hx hb dL_pass_0 rfl (lv_at hl 2 rfl) ?_
  refine lv_iconst (v := 0) hx hb dL_pass_1 (by decide) ?_
  refine lv_aload_n hx hb dL_pass_2 rfl (lv_at hl 0 rfl) ?_
  refine lv_iload_n hx hb dL_pass_3 rfl (lv_at hl 1 rfl) ?_
  refine kgo_i (kc_V (As := [.int x1]) (rest := [.int 0, .ref o]) S hE hS hAb (hC) (cwV 1 hts gL_pass_X4_pass rfl rfl rfl (by decide +kernel) ⟨Nat.le_of_ble_eq_true rfl, Nat.le_of_ble_eq_true rfl⟩) (hw.lv 0 0 (rfl : (0 : Nat) = 0)) rfl rfl hl.1 rfl (Nat.le_of_ble_eq_true rfl) dL_pass_4 ⟨Nat.le_of_eq (Nat.zero_add mc), Nat.le_of_eq (Nat.zero_add ms)⟩) hS (fun _ h => Or.inl h) (fun r9 H1 locs hp hz hq hS => ?_)
  refine kr_room (c1 := mc) (s1 := ms) (Nat.zero_add mc) (Nat.zero_add ms) ?_
  obtain ⟨rfl, ad', ea, hw⟩ := hp9 _ _ hp
  have ho := va_at.kept ho (hq o (va_at.lt ho) hoA)
  refine lv_i2l (v := (r9).toInt64) hx hb dL_pass_7 rfl ?_
  refine kr_lst (i := 0) hx hb hK hS ho (Or.inr rfl) (j := 0) (by decide) rfl (by decide) dL_pass_8 (fun H1 locs hU ho hS => ?_)
  have hw := hw.keep (fun k i hk => hU.2 _ (fun h => hoA (h ▸ (hw.1 k i hk).2)))
  refine lv_goto (tgt := 15) hx hb dL_pass_9 (by decide) ?_
  refine lv_iconst (v := 0) hx hb dL_pass_15 (by decide) ?_
  refine kend_i S hr hlocks hS ⟨rfl, ⟨ad', ea, hw⟩, _, ho, fun _ => by simp [vp_updL]⟩ dL_pass_16
set_option maxHeartbeats 4000000 in
set_option maxRecDepth 100000 in
theorem yl_passX1 (ε : kEnv) (l : Launch) {A : Nat → Prop} {ad : Nat → Nat → Nat} {σ : kS} {H : Heap} {o : Nat} {f : Nat → Int64} {x1 : Int32} (v : Int32) (hAb : ∀ q, A q → kHi ε q) (hoK : kHi ε o) (hoA : ¬ A o) (hw : kW ε A ad σ H) (ho : kat ε o (kJ ε 1 f) H) (hC : kX ε l yX4_pass wsX4_pass ({ frames := 7, cells := 1, slots := 6, locals := 120 }) [.ref (ad 0 0), .int x1] H "java/lang/IllegalArgumentException") : kMi ε l yL_pass wsL_pass ({ frames := 11, cells := 1, slots := 6, locals := 310 }) [.ref (ad 0 0), .int x1, .ref o] H (kAo A o) (1) (6) (kLP ε A o (ad 0 0) (σ) 1 v) := by
  refine kofH (cc := cL_pass) (maxL := 4) (ret := (some .int)) (hh := [(0, 9, 12, 21)]) (by decide) rfl (Nat.le_of_ble_eq_true rfl) ?_
  intro p e s m below meth c ls S hr hlocks hT hH hE hl
  have S : CallFix p m c cL_pass 4 s _ wsL_pass RL := S
  have hx := S.1
  have hb := S.2.1
  have hown : s.vm.findClass RL = some m.cls := S.2.2.2.1
  have hts := S.2.2.2.2
  have hK := hE.1
  have hS : va_S (kAo A o) s.heap H [] := by rw [hH]; exact va_S.rf
  have hAw := hAb
  have hAb := kAo_hi hAb hoK
  have hl : lv_has ls 4 [(0, .ref (ad 0 0)), (1, .int x1), (2, .ref o)] := hl
  refine lv_aload_n hx hb dL_pass_0 rfl (lv_at hl 2 rfl) ?_
  refine lv_iconst (v := 0) hx hb dL_pass_1 (by decide) ?_
  refine lv_aload_n hx hb dL_pass_2 rfl (lv_at hl 0 rfl) ?_
  refine lv_iload_n hx hb dL_pass_3 rfl (lv_at hl 1 rfl) ?_
  refine kgo_x (kx_V (As := [.int x1]) (rest := [.int 0, .ref o]) S hE hS hAb hC (cwV 1 hts gL_pass_X4_pass rfl rfl rfl (by decide +kernel) ⟨Nat.le_of_ble_eq_true rfl, Nat.le_of_ble_eq_true rfl⟩) (hw.lv 0 0 (rfl : (0 : Nat) = 0)) rfl rfl hl.1 rfl (Nat.le_of_ble_eq_true rfl) dL_pass_4 ⟨Nat.le_refl _, Nat.le_refl _⟩) hS (fun ce q9 H1 locs h1 h2 hS h4 h5 h6 => ?_)
  have hw := hw.keep (fun k i hk => h2 _ (va_at.lt (hw.1 k i hk).1))
  have ho := va_at.kept ho (h2 o (va_at.lt ho))
  refine kcatch (E := "java/lang/IllegalArgumentException") [] (0, 9, 12, 21) [] hE hown hT rfl (by decide) (by decide) (fun z hz => by simp at hz) (hts (.classLink RL 21 "java/lang/IllegalArgumentException") (by decide +kernel)) (by decide +kernel) h4 h5 h6 ?_
  refine lv_astore_n (lv' := [(3, .ref q9), (0, .ref (ad 0 0)), (1, .int x1), (2, .ref o)]) hx hb dL_pass_12 rfl hl (by decide) rfl (fun ls hl => ?_)
  refine lv_iconst (v := 1) hx hb dL_pass_13 (by decide) ?_
  refine kend_i S hr hlocks hS ⟨rfl, ⟨ad, rfl, hw⟩, _, ho, fun h => absurd h (by decide)⟩ dL_pass_14
set_option maxHeartbeats 4000000 in
set_option maxRecDepth 100000 in
theorem yl_failing (ε : kEnv) (l : Launch) {A : Nat → Prop} {ad : Nat → Nat → Nat} {σ : kS} {H : Heap} {o : Nat} {f : Nat → Int64} {x1 : Int32} {v : Int32} (hAb : ∀ q, A q → kHi ε q) (hoK : kHi ε o) (hoA : ¬ A o) (hw : kW ε A ad σ H) (ho : kat ε o (kJ ε 1 f) H) (hC : kPi ε l yX4_failing wsX4_failing ({ frames := 5, cells := 0, slots := 0, locals := 120 }) [.ref (ad 0 0), .int x1] H v) : kMi ε l yL_failing wsL_failing ({ frames := 11, cells := 0, slots := 0, locals := 310 }) [.ref (ad 0 0), .int x1, .ref o] H (kAo A o) (0) (0) (kLP ε A o (ad 0 0) (σ) 0 v) := by
  refine kofH (cc := cL_failing) (maxL := 4) (ret := (some .int)) (hh := [(0, 9, 12, 13)]) (by decide) rfl (Nat.le_of_ble_eq_true rfl) ?_
  intro p e s m below meth c ls S hr hlocks hT hH hE hl
  have S : CallFix p m c cL_failing 4 s _ wsL_failing RL := S
  have hx := S.1
  have hb := S.2.1
  have hown : s.vm.findClass RL = some m.cls := S.2.2.2.1
  have hts := S.2.2.2.2
  have hK := hE.1
  have hS : va_S (kAo A o) s.heap H [] := by rw [hH]; exact va_S.rf
  have hAw := hAb
  have hAb := kAo_hi hAb hoK
  have hl : lv_has ls 4 [(0, .ref (ad 0 0)), (1, .int x1), (2, .ref o)] := hl
  refine lv_aload_n hx hb dL_failing_0 rfl (lv_at hl 2 rfl) ?_
  refine lv_iconst (v := 0) hx hb dL_failing_1 (by decide) ?_
  refine lv_aload_n hx hb dL_failing_2 rfl (lv_at hl 0 rfl) ?_
  refine lv_iload_n hx hb dL_failing_3 rfl (lv_at hl 1 rfl) ?_
  refine kgo_pi (v := v) (kc_V (As := [.int x1]) (rest := [.int 0, .ref o]) S hE hS hAb (hC) (cwV 1 hts gL_failing_X4_failing rfl rfl rfl (by decide +kernel) ⟨Nat.le_of_ble_eq_true rfl, Nat.le_of_ble_eq_true rfl⟩) (hw.lv 0 0 (rfl : (0 : Nat) = 0)) rfl rfl hl.1 rfl (Nat.le_of_ble_eq_true rfl) dL_failing_4 ⟨Nat.zero_le _, Nat.zero_le _⟩) hS (fun locs hS => ?_)
  refine lv_i2l (v := (v).toInt64) hx hb dL_failing_7 rfl ?_
  refine kr_lst (i := 0) hx hb hK hS ho (Or.inr rfl) (j := 0) (by decide) rfl (by decide) dL_failing_8 (fun H1 locs hU ho hS => ?_)
  have hw := hw.keep (fun k i hk => hU.2 _ (fun h => hoA (h ▸ (hw.1 k i hk).2)))
  refine lv_goto (tgt := 15) hx hb dL_failing_9 (by decide) ?_
  refine lv_iconst (v := 0) hx hb dL_failing_15 (by decide) ?_
  refine kend_i S hr hlocks hS ⟨rfl, ⟨ad, rfl, hw⟩, _, ho, fun _ => by simp [vp_updL]⟩ dL_failing_16
set_option maxHeartbeats 4000000 in
set_option maxRecDepth 100000 in
theorem yl_failingX1 (ε : kEnv) (l : Launch) {A : Nat → Prop} {ad : Nat → Nat → Nat} {σ : kS} {H : Heap} {o : Nat} {f : Nat → Int64} {x1 : Int32} (v : Int32) (hAb : ∀ q, A q → kHi ε q) (hoK : kHi ε o) (hoA : ¬ A o) (hw : kW ε A ad σ H) (ho : kat ε o (kJ ε 1 f) H) (hC : kX ε l yX4_failing wsX4_failing ({ frames := 7, cells := 1, slots := 6, locals := 120 }) [.ref (ad 0 0), .int x1] H "java/lang/IndexOutOfBoundsException") : kMi ε l yL_failing wsL_failing ({ frames := 11, cells := 1, slots := 6, locals := 310 }) [.ref (ad 0 0), .int x1, .ref o] H (kAo A o) (1) (6) (kLP ε A o (ad 0 0) (σ) 1 v) := by
  refine kofH (cc := cL_failing) (maxL := 4) (ret := (some .int)) (hh := [(0, 9, 12, 13)]) (by decide) rfl (Nat.le_of_ble_eq_true rfl) ?_
  intro p e s m below meth c ls S hr hlocks hT hH hE hl
  have S : CallFix p m c cL_failing 4 s _ wsL_failing RL := S
  have hx := S.1
  have hb := S.2.1
  have hown : s.vm.findClass RL = some m.cls := S.2.2.2.1
  have hts := S.2.2.2.2
  have hK := hE.1
  have hS : va_S (kAo A o) s.heap H [] := by rw [hH]; exact va_S.rf
  have hAw := hAb
  have hAb := kAo_hi hAb hoK
  have hl : lv_has ls 4 [(0, .ref (ad 0 0)), (1, .int x1), (2, .ref o)] := hl
  refine lv_aload_n hx hb dL_failing_0 rfl (lv_at hl 2 rfl) ?_
  refine lv_iconst (v := 0) hx hb dL_failing_1 (by decide) ?_
  refine lv_aload_n hx hb dL_failing_2 rfl (lv_at hl 0 rfl) ?_
  refine lv_iload_n hx hb dL_failing_3 rfl (lv_at hl 1 rfl) ?_
  refine kgo_x (kx_V (As := [.int x1]) (rest := [.int 0, .ref o]) S hE hS hAb hC (cwV 1 hts gL_failing_X4_failing rfl rfl rfl (by decide +kernel) ⟨Nat.le_of_ble_eq_true rfl, Nat.le_of_ble_eq_true rfl⟩) (hw.lv 0 0 (rfl : (0 : Nat) = 0)) rfl rfl hl.1 rfl (Nat.le_of_ble_eq_true rfl) dL_failing_4 ⟨Nat.le_refl _, Nat.le_refl _⟩) hS (fun ce q9 H1 locs h1 h2 hS h4 h5 h6 => ?_)
  have hw := hw.keep (fun k i hk => h2 _ (va_at.lt (hw.1 k i hk).1))
  have ho := va_at.kept ho (h2 o (va_at.lt ho))
  refine kcatch (E := "java/lang/IndexOutOfBoundsException") [] (0, 9, 12, 13) [] hE hown hT rfl (by decide) (by decide) (fun z hz => by simp at hz) (hts (.classLink RL 13 "java/lang/IndexOutOfBoundsException") (by decide +kernel)) (by decide +kernel) h4 h5 h6 ?_
  refine lv_astore_n (lv' := [(3, .ref q9), (0, .ref (ad 0 0)), (1, .int x1), (2, .ref o)]) hx hb dL_failing_12 rfl hl (by decide) rfl (fun ls hl => ?_)
  refine lv_iconst (v := 1) hx hb dL_failing_13 (by decide) ?_
  refine kend_i S hr hlocks hS ⟨rfl, ⟨ad, rfl, hw⟩, _, ho, fun h => absurd h (by decide)⟩ dL_failing_14
set_option maxHeartbeats 4000000 in
set_option maxRecDepth 100000 in
theorem yl_nextProbe (ε : kEnv) (l : Launch) {A : Nat → Prop} {ad : Nat → Nat → Nat} {σ : kS} {H : Heap} {o : Nat} {f : Nat → Int64} {x1 x2 : Int32} {v : Int32} (hAb : ∀ q, A q → kHi ε q) (hoK : kHi ε o) (hoA : ¬ A o) (hw : kW ε A ad σ H) (ho : kat ε o (kJ ε 1 f) H) (hC : kPi ε l yX4_nextProbe wsX4_nextProbe ({ frames := 5, cells := 0, slots := 0, locals := 120 }) [.ref (ad 0 0), .int x1, .int x2] H v) : kMi ε l yL_nextProbe wsL_nextProbe ({ frames := 11, cells := 0, slots := 0, locals := 310 }) [.ref (ad 0 0), .int x1, .int x2, .ref o] H (kAo A o) (0) (0) (kLP ε A o (ad 0 0) (σ) 0 v) := by
  refine kofH (cc := cL_nextProbe) (maxL := 5) (ret := (some .int)) (hh := [(0, 10, 13, 13)]) (by decide) rfl (Nat.le_of_ble_eq_true rfl) ?_
  intro p e s m below meth c ls S hr hlocks hT hH hE hl
  have S : CallFix p m c cL_nextProbe 5 s _ wsL_nextProbe RL := S
  have hx := S.1
  have hb := S.2.1
  have hown : s.vm.findClass RL = some m.cls := S.2.2.2.1
  have hts := S.2.2.2.2
  have hK := hE.1
  have hS : va_S (kAo A o) s.heap H [] := by rw [hH]; exact va_S.rf
  have hAw := hAb
  have hAb := kAo_hi hAb hoK
  have hl : lv_has ls 5 [(0, .ref (ad 0 0)), (1, .int x1), (2, .int x2), (3, .ref o)] := hl
  refine lv_aload_n hx hb dL_nextProbe_0 rfl (lv_at hl 3 rfl) ?_
  refine lv_iconst (v := 0) hx hb dL_nextProbe_1 (by decide) ?_
  refine lv_aload_n hx hb dL_nextProbe_2 rfl (lv_at hl 0 rfl) ?_
  refine lv_iload_n hx hb dL_nextProbe_3 rfl (lv_at hl 1 rfl) ?_
  refine lv_iload_n hx hb dL_nextProbe_4 rfl (lv_at hl 2 rfl) ?_
  refine kgo_pi (v := v) (kc_V (As := [.int x1, .int x2]) (rest := [.int 0, .ref o]) S hE hS hAb (hC) (cwV 2 hts gL_nextProbe_X4_nextProbe rfl rfl rfl (by decide +kernel) ⟨Nat.le_of_ble_eq_true rfl, Nat.le_of_ble_eq_true rfl⟩) (hw.lv 0 0 (rfl : (0 : Nat) = 0)) rfl rfl hl.1 rfl (Nat.le_of_ble_eq_true rfl) dL_nextProbe_5 ⟨Nat.zero_le _, Nat.zero_le _⟩) hS (fun locs hS => ?_)
  refine lv_i2l (v := (v).toInt64) hx hb dL_nextProbe_8 rfl ?_
  refine kr_lst (i := 0) hx hb hK hS ho (Or.inr rfl) (j := 0) (by decide) rfl (by decide) dL_nextProbe_9 (fun H1 locs hU ho hS => ?_)
  have hw := hw.keep (fun k i hk => hU.2 _ (fun h => hoA (h ▸ (hw.1 k i hk).2)))
  refine lv_goto (tgt := 17) hx hb dL_nextProbe_10 (by decide) ?_
  refine lv_iconst (v := 0) hx hb dL_nextProbe_17 (by decide) ?_
  refine kend_i S hr hlocks hS ⟨rfl, ⟨ad, rfl, hw⟩, _, ho, fun _ => by simp [vp_updL]⟩ dL_nextProbe_18
set_option maxHeartbeats 4000000 in
set_option maxRecDepth 100000 in
theorem yl_nextProbeX1 (ε : kEnv) (l : Launch) {A : Nat → Prop} {ad : Nat → Nat → Nat} {σ : kS} {H : Heap} {o : Nat} {f : Nat → Int64} {x1 x2 : Int32} (v : Int32) (hAb : ∀ q, A q → kHi ε q) (hoK : kHi ε o) (hoA : ¬ A o) (hw : kW ε A ad σ H) (ho : kat ε o (kJ ε 1 f) H) (hC : kX ε l yX4_nextProbe wsX4_nextProbe ({ frames := 7, cells := 1, slots := 6, locals := 120 }) [.ref (ad 0 0), .int x1, .int x2] H "java/lang/IndexOutOfBoundsException") : kMi ε l yL_nextProbe wsL_nextProbe ({ frames := 11, cells := 1, slots := 6, locals := 310 }) [.ref (ad 0 0), .int x1, .int x2, .ref o] H (kAo A o) (1) (6) (kLP ε A o (ad 0 0) (σ) 1 v) := by
  refine kofH (cc := cL_nextProbe) (maxL := 5) (ret := (some .int)) (hh := [(0, 10, 13, 13)]) (by decide) rfl (Nat.le_of_ble_eq_true rfl) ?_
  intro p e s m below meth c ls S hr hlocks hT hH hE hl
  have S : CallFix p m c cL_nextProbe 5 s _ wsL_nextProbe RL := S
  have hx := S.1
  have hb := S.2.1
  have hown : s.vm.findClass RL = some m.cls := S.2.2.2.1
  have hts := S.2.2.2.2
  have hK := hE.1
  have hS : va_S (kAo A o) s.heap H [] := by rw [hH]; exact va_S.rf
  have hAw := hAb
  have hAb := kAo_hi hAb hoK
  have hl : lv_has ls 5 [(0, .ref (ad 0 0)), (1, .int x1), (2, .int x2), (3, .ref o)] := hl
  refine lv_aload_n hx hb dL_nextProbe_0 rfl (lv_at hl 3 rfl) ?_
  refine lv_iconst (v := 0) hx hb dL_nextProbe_1 (by decide) ?_
  refine lv_aload_n hx hb dL_nextProbe_2 rfl (lv_at hl 0 rfl) ?_
  refine lv_iload_n hx hb dL_nextProbe_3 rfl (lv_at hl 1 rfl) ?_
  refine lv_iload_n hx hb dL_nextProbe_4 rfl (lv_at hl 2 rfl) ?_
  refine kgo_x (kx_V (As := [.int x1, .int x2]) (rest := [.int 0, .ref o]) S hE hS hAb hC (cwV 2 hts gL_nextProbe_X4_nextProbe rfl rfl rfl (by decide +kernel) ⟨Nat.le_of_ble_eq_true rfl, Nat.le_of_ble_eq_true rfl⟩) (hw.lv 0 0 (rfl : (0 : Nat) = 0)) rfl rfl hl.1 rfl (Nat.le_of_ble_eq_true rfl) dL_nextProbe_5 ⟨Nat.le_refl _, Nat.le_refl _⟩) hS (fun ce q9 H1 locs h1 h2 hS h4 h5 h6 => ?_)
  have hw := hw.keep (fun k i hk => h2 _ (va_at.lt (hw.1 k i hk).1))
  have ho := va_at.kept ho (h2 o (va_at.lt ho))
  refine kcatch (E := "java/lang/IndexOutOfBoundsException") [] (0, 10, 13, 13) [] hE hown hT rfl (by decide) (by decide) (fun z hz => by simp at hz) (hts (.classLink RL 13 "java/lang/IndexOutOfBoundsException") (by decide +kernel)) (by decide +kernel) h4 h5 h6 ?_
  refine lv_astore (lv' := [(4, .ref q9), (0, .ref (ad 0 0)), (1, .int x1), (2, .int x2), (3, .ref o)]) hx hb dL_nextProbe_13 hl (by decide) rfl (fun ls hl => ?_)
  refine lv_iconst (v := 1) hx hb dL_nextProbe_15 (by decide) ?_
  refine kend_i S hr hlocks hS ⟨rfl, ⟨ad, rfl, hw⟩, _, ho, fun h => absurd h (by decide)⟩ dL_nextProbe_16
set_option maxHeartbeats 4000000 in
set_option maxRecDepth 100000 in
theorem yl_repetition (ε : kEnv) (l : Launch) {A : Nat → Prop} {ad : Nat → Nat → Nat} {σ : kS} {H : Heap} {o : Nat} {f : Nat → Int64} {x1 x2 : Int32} {v : Int32} (hAb : ∀ q, A q → kHi ε q) (hoK : kHi ε o) (hoA : ¬ A o) (hw : kW ε A ad σ H) (ho : kat ε o (kJ ε 1 f) H) (hC : kPi ε l yX4_repetition wsX4_repetition ({ frames := 5, cells := 0, slots := 0, locals := 120 }) [.ref (ad 0 0), .int x1, .int x2] H v) : kMi ε l yL_repetition wsL_repetition ({ frames := 11, cells := 0, slots := 0, locals := 310 }) [.ref (ad 0 0), .int x1, .int x2, .ref o] H (kAo A o) (0) (0) (kLP ε A o (ad 0 0) (σ) 0 v) := by
  refine kofH (cc := cL_repetition) (maxL := 5) (ret := (some .int)) (hh := [(0, 10, 13, 13)]) (by decide) rfl (Nat.le_of_ble_eq_true rfl) ?_
  intro p e s m below meth c ls S hr hlocks hT hH hE hl
  have S : CallFix p m c cL_repetition 5 s _ wsL_repetition RL := S
  have hx := S.1
  have hb := S.2.1
  have hown : s.vm.findClass RL = some m.cls := S.2.2.2.1
  have hts := S.2.2.2.2
  have hK := hE.1
  have hS : va_S (kAo A o) s.heap H [] := by rw [hH]; exact va_S.rf
  have hAw := hAb
  have hAb := kAo_hi hAb hoK
  have hl : lv_has ls 5 [(0, .ref (ad 0 0)), (1, .int x1), (2, .int x2), (3, .ref o)] := hl
  refine lv_aload_n hx hb dL_repetition_0 rfl (lv_at hl 3 rfl) ?_
  refine lv_iconst (v := 0) hx hb dL_repetition_1 (by decide) ?_
  refine lv_aload_n hx hb dL_repetition_2 rfl (lv_at hl 0 rfl) ?_
  refine lv_iload_n hx hb dL_repetition_3 rfl (lv_at hl 1 rfl) ?_
  refine lv_iload_n hx hb dL_repetition_4 rfl (lv_at hl 2 rfl) ?_
  refine kgo_pi (v := v) (kc_V (As := [.int x1, .int x2]) (rest := [.int 0, .ref o]) S hE hS hAb (hC) (cwV 2 hts gL_repetition_X4_repetition rfl rfl rfl (by decide +kernel) ⟨Nat.le_of_ble_eq_true rfl, Nat.le_of_ble_eq_true rfl⟩) (hw.lv 0 0 (rfl : (0 : Nat) = 0)) rfl rfl hl.1 rfl (Nat.le_of_ble_eq_true rfl) dL_repetition_5 ⟨Nat.zero_le _, Nat.zero_le _⟩) hS (fun locs hS => ?_)
  refine lv_i2l (v := (v).toInt64) hx hb dL_repetition_8 rfl ?_
  refine kr_lst (i := 0) hx hb hK hS ho (Or.inr rfl) (j := 0) (by decide) rfl (by decide) dL_repetition_9 (fun H1 locs hU ho hS => ?_)
  have hw := hw.keep (fun k i hk => hU.2 _ (fun h => hoA (h ▸ (hw.1 k i hk).2)))
  refine lv_goto (tgt := 17) hx hb dL_repetition_10 (by decide) ?_
  refine lv_iconst (v := 0) hx hb dL_repetition_17 (by decide) ?_
  refine kend_i S hr hlocks hS ⟨rfl, ⟨ad, rfl, hw⟩, _, ho, fun _ => by simp [vp_updL]⟩ dL_repetition_18
set_option maxHeartbeats 4000000 in
set_option maxRecDepth 100000 in
theorem yl_repetitionX1 (ε : kEnv) (l : Launch) {A : Nat → Prop} {ad : Nat → Nat → Nat} {σ : kS} {H : Heap} {o : Nat} {f : Nat → Int64} {x1 x2 : Int32} (v : Int32) (hAb : ∀ q, A q → kHi ε q) (hoK : kHi ε o) (hoA : ¬ A o) (hw : kW ε A ad σ H) (ho : kat ε o (kJ ε 1 f) H) (hC : kX ε l yX4_repetition wsX4_repetition ({ frames := 7, cells := 1, slots := 6, locals := 120 }) [.ref (ad 0 0), .int x1, .int x2] H "java/lang/IndexOutOfBoundsException") : kMi ε l yL_repetition wsL_repetition ({ frames := 11, cells := 1, slots := 6, locals := 310 }) [.ref (ad 0 0), .int x1, .int x2, .ref o] H (kAo A o) (1) (6) (kLP ε A o (ad 0 0) (σ) 1 v) := by
  refine kofH (cc := cL_repetition) (maxL := 5) (ret := (some .int)) (hh := [(0, 10, 13, 13)]) (by decide) rfl (Nat.le_of_ble_eq_true rfl) ?_
  intro p e s m below meth c ls S hr hlocks hT hH hE hl
  have S : CallFix p m c cL_repetition 5 s _ wsL_repetition RL := S
  have hx := S.1
  have hb := S.2.1
  have hown : s.vm.findClass RL = some m.cls := S.2.2.2.1
  have hts := S.2.2.2.2
  have hK := hE.1
  have hS : va_S (kAo A o) s.heap H [] := by rw [hH]; exact va_S.rf
  have hAw := hAb
  have hAb := kAo_hi hAb hoK
  have hl : lv_has ls 5 [(0, .ref (ad 0 0)), (1, .int x1), (2, .int x2), (3, .ref o)] := hl
  refine lv_aload_n hx hb dL_repetition_0 rfl (lv_at hl 3 rfl) ?_
  refine lv_iconst (v := 0) hx hb dL_repetition_1 (by decide) ?_
  refine lv_aload_n hx hb dL_repetition_2 rfl (lv_at hl 0 rfl) ?_
  refine lv_iload_n hx hb dL_repetition_3 rfl (lv_at hl 1 rfl) ?_
  refine lv_iload_n hx hb dL_repetition_4 rfl (lv_at hl 2 rfl) ?_
  refine kgo_x (kx_V (As := [.int x1, .int x2]) (rest := [.int 0, .ref o]) S hE hS hAb hC (cwV 2 hts gL_repetition_X4_repetition rfl rfl rfl (by decide +kernel) ⟨Nat.le_of_ble_eq_true rfl, Nat.le_of_ble_eq_true rfl⟩) (hw.lv 0 0 (rfl : (0 : Nat) = 0)) rfl rfl hl.1 rfl (Nat.le_of_ble_eq_true rfl) dL_repetition_5 ⟨Nat.le_refl _, Nat.le_refl _⟩) hS (fun ce q9 H1 locs h1 h2 hS h4 h5 h6 => ?_)
  have hw := hw.keep (fun k i hk => h2 _ (va_at.lt (hw.1 k i hk).1))
  have ho := va_at.kept ho (h2 o (va_at.lt ho))
  refine kcatch (E := "java/lang/IndexOutOfBoundsException") [] (0, 10, 13, 13) [] hE hown hT rfl (by decide) (by decide) (fun z hz => by simp at hz) (hts (.classLink RL 13 "java/lang/IndexOutOfBoundsException") (by decide +kernel)) (by decide +kernel) h4 h5 h6 ?_
  refine lv_astore (lv' := [(4, .ref q9), (0, .ref (ad 0 0)), (1, .int x1), (2, .int x2), (3, .ref o)]) hx hb dL_repetition_13 hl (by decide) rfl (fun ls hl => ?_)
  refine lv_iconst (v := 1) hx hb dL_repetition_15 (by decide) ?_
  refine kend_i S hr hlocks hS ⟨rfl, ⟨ad, rfl, hw⟩, _, ho, fun h => absurd h (by decide)⟩ dL_repetition_16
set_option maxHeartbeats 4000000 in
set_option maxRecDepth 100000 in
theorem yl_vote (ε : kEnv) (l : Launch) {A : Nat → Prop} {ad : Nat → Nat → Nat} {σ : kS} {H : Heap} {o : Nat} {f : Nat → Int64} {x1 x2 : Int32} {v : Int32} (hAb : ∀ q, A q → kHi ε q) (hoK : kHi ε o) (hoA : ¬ A o) (hw : kW ε A ad σ H) (ho : kat ε o (kJ ε 1 f) H) (hC : kPi ε l yX4_vote wsX4_vote ({ frames := 5, cells := 0, slots := 0, locals := 120 }) [.ref (ad 0 0), .int x1, .int x2] H v) : kMi ε l yL_vote wsL_vote ({ frames := 11, cells := 0, slots := 0, locals := 310 }) [.ref (ad 0 0), .int x1, .int x2, .ref o] H (kAo A o) (0) (0) (kLP ε A o (ad 0 0) (σ) 0 v) := by
  refine kofH (cc := cL_vote) (maxL := 5) (ret := (some .int)) (hh := [(0, 10, 13, 13)]) (by decide) rfl (Nat.le_of_ble_eq_true rfl) ?_
  intro p e s m below meth c ls S hr hlocks hT hH hE hl
  have S : CallFix p m c cL_vote 5 s _ wsL_vote RL := S
  have hx := S.1
  have hb := S.2.1
  have hown : s.vm.findClass RL = some m.cls := S.2.2.2.1
  have hts := S.2.2.2.2
  have hK := hE.1
  have hS : va_S (kAo A o) s.heap H [] := by rw [hH]; exact va_S.rf
  have hAw := hAb
  have hAb := kAo_hi hAb hoK
  have hl : lv_has ls 5 [(0, .ref (ad 0 0)), (1, .int x1), (2, .int x2), (3, .ref o)] := hl
  refine lv_aload_n hx hb dL_vote_0 rfl (lv_at hl 3 rfl) ?_
  refine lv_iconst (v := 0) hx hb dL_vote_1 (by decide) ?_
  refine lv_aload_n hx hb dL_vote_2 rfl (lv_at hl 0 rfl) ?_
  refine lv_iload_n hx hb dL_vote_3 rfl (lv_at hl 1 rfl) ?_
  refine lv_iload_n hx hb dL_vote_4 rfl (lv_at hl 2 rfl) ?_
  refine kgo_pi (v := v) (kc_V (As := [.int x1, .int x2]) (rest := [.int 0, .ref o]) S hE hS hAb (hC) (cwV 2 hts gL_vote_X4_vote rfl rfl rfl (by decide +kernel) ⟨Nat.le_of_ble_eq_true rfl, Nat.le_of_ble_eq_true rfl⟩) (hw.lv 0 0 (rfl : (0 : Nat) = 0)) rfl rfl hl.1 rfl (Nat.le_of_ble_eq_true rfl) dL_vote_5 ⟨Nat.zero_le _, Nat.zero_le _⟩) hS (fun locs hS => ?_)
  refine lv_i2l (v := (v).toInt64) hx hb dL_vote_8 rfl ?_
  refine kr_lst (i := 0) hx hb hK hS ho (Or.inr rfl) (j := 0) (by decide) rfl (by decide) dL_vote_9 (fun H1 locs hU ho hS => ?_)
  have hw := hw.keep (fun k i hk => hU.2 _ (fun h => hoA (h ▸ (hw.1 k i hk).2)))
  refine lv_goto (tgt := 17) hx hb dL_vote_10 (by decide) ?_
  refine lv_iconst (v := 0) hx hb dL_vote_17 (by decide) ?_
  refine kend_i S hr hlocks hS ⟨rfl, ⟨ad, rfl, hw⟩, _, ho, fun _ => by simp [vp_updL]⟩ dL_vote_18
set_option maxHeartbeats 4000000 in
set_option maxRecDepth 100000 in
theorem yl_voteX1 (ε : kEnv) (l : Launch) {A : Nat → Prop} {ad : Nat → Nat → Nat} {σ : kS} {H : Heap} {o : Nat} {f : Nat → Int64} {x1 x2 : Int32} (v : Int32) (hAb : ∀ q, A q → kHi ε q) (hoK : kHi ε o) (hoA : ¬ A o) (hw : kW ε A ad σ H) (ho : kat ε o (kJ ε 1 f) H) (hC : kX ε l yX4_vote wsX4_vote ({ frames := 7, cells := 1, slots := 6, locals := 120 }) [.ref (ad 0 0), .int x1, .int x2] H "java/lang/IndexOutOfBoundsException") : kMi ε l yL_vote wsL_vote ({ frames := 11, cells := 1, slots := 6, locals := 310 }) [.ref (ad 0 0), .int x1, .int x2, .ref o] H (kAo A o) (1) (6) (kLP ε A o (ad 0 0) (σ) 1 v) := by
  refine kofH (cc := cL_vote) (maxL := 5) (ret := (some .int)) (hh := [(0, 10, 13, 13)]) (by decide) rfl (Nat.le_of_ble_eq_true rfl) ?_
  intro p e s m below meth c ls S hr hlocks hT hH hE hl
  have S : CallFix p m c cL_vote 5 s _ wsL_vote RL := S
  have hx := S.1
  have hb := S.2.1
  have hown : s.vm.findClass RL = some m.cls := S.2.2.2.1
  have hts := S.2.2.2.2
  have hK := hE.1
  have hS : va_S (kAo A o) s.heap H [] := by rw [hH]; exact va_S.rf
  have hAw := hAb
  have hAb := kAo_hi hAb hoK
  have hl : lv_has ls 5 [(0, .ref (ad 0 0)), (1, .int x1), (2, .int x2), (3, .ref o)] := hl
  refine lv_aload_n hx hb dL_vote_0 rfl (lv_at hl 3 rfl) ?_
  refine lv_iconst (v := 0) hx hb dL_vote_1 (by decide) ?_
  refine lv_aload_n hx hb dL_vote_2 rfl (lv_at hl 0 rfl) ?_
  refine lv_iload_n hx hb dL_vote_3 rfl (lv_at hl 1 rfl) ?_
  refine lv_iload_n hx hb dL_vote_4 rfl (lv_at hl 2 rfl) ?_
  refine kgo_x (kx_V (As := [.int x1, .int x2]) (rest := [.int 0, .ref o]) S hE hS hAb hC (cwV 2 hts gL_vote_X4_vote rfl rfl rfl (by decide +kernel) ⟨Nat.le_of_ble_eq_true rfl, Nat.le_of_ble_eq_true rfl⟩) (hw.lv 0 0 (rfl : (0 : Nat) = 0)) rfl rfl hl.1 rfl (Nat.le_of_ble_eq_true rfl) dL_vote_5 ⟨Nat.le_refl _, Nat.le_refl _⟩) hS (fun ce q9 H1 locs h1 h2 hS h4 h5 h6 => ?_)
  have hw := hw.keep (fun k i hk => h2 _ (va_at.lt (hw.1 k i hk).1))
  have ho := va_at.kept ho (h2 o (va_at.lt ho))
  refine kcatch (E := "java/lang/IndexOutOfBoundsException") [] (0, 10, 13, 13) [] hE hown hT rfl (by decide) (by decide) (fun z hz => by simp at hz) (hts (.classLink RL 13 "java/lang/IndexOutOfBoundsException") (by decide +kernel)) (by decide +kernel) h4 h5 h6 ?_
  refine lv_astore (lv' := [(4, .ref q9), (0, .ref (ad 0 0)), (1, .int x1), (2, .int x2), (3, .ref o)]) hx hb dL_vote_13 hl (by decide) rfl (fun ls hl => ?_)
  refine lv_iconst (v := 1) hx hb dL_vote_15 (by decide) ?_
  refine kend_i S hr hlocks hS ⟨rfl, ⟨ad, rfl, hw⟩, _, ho, fun h => absurd h (by decide)⟩ dL_vote_16
set_option maxHeartbeats 4000000 in
set_option maxRecDepth 100000 in
theorem yl_probes (ε : kEnv) (l : Launch) {A : Nat → Prop} {ad : Nat → Nat → Nat} {σ : kS} {H : Heap} {o : Nat} {f : Nat → Int64} {x1 : Int32} {v : Int32} (hAb : ∀ q, A q → kHi ε q) (hoK : kHi ε o) (hoA : ¬ A o) (hw : kW ε A ad σ H) (ho : kat ε o (kJ ε 1 f) H) (hC : kPi ε l yX4_probes wsX4_probes ({ frames := 5, cells := 0, slots := 0, locals := 120 }) [.ref (ad 0 0), .int x1] H v) : kMi ε l yL_probes wsL_probes ({ frames := 11, cells := 0, slots := 0, locals := 310 }) [.ref (ad 0 0), .int x1, .ref o] H (kAo A o) (0) (0) (kLP ε A o (ad 0 0) (σ) 0 v) := by
  refine kofH (cc := cL_probes) (maxL := 4) (ret := (some .int)) (hh := [(0, 9, 12, 13)]) (by decide) rfl (Nat.le_of_ble_eq_true rfl) ?_
  intro p e s m below meth c ls S hr hlocks hT hH hE hl
  have S : CallFix p m c cL_probes 4 s _ wsL_probes RL := S
  have hx := S.1
  have hb := S.2.1
  have hown : s.vm.findClass RL = some m.cls := S.2.2.2.1
  have hts := S.2.2.2.2
  have hK := hE.1
  have hS : va_S (kAo A o) s.heap H [] := by rw [hH]; exact va_S.rf
  have hAw := hAb
  have hAb := kAo_hi hAb hoK
  have hl : lv_has ls 4 [(0, .ref (ad 0 0)), (1, .int x1), (2, .ref o)] := hl
  refine lv_aload_n hx hb dL_probes_0 rfl (lv_at hl 2 rfl) ?_
  refine lv_iconst (v := 0) hx hb dL_probes_1 (by decide) ?_
  refine lv_aload_n hx hb dL_probes_2 rfl (lv_at hl 0 rfl) ?_
  refine lv_iload_n hx hb dL_probes_3 rfl (lv_at hl 1 rfl) ?_
  refine kgo_pi (v := v) (kc_V (As := [.int x1]) (rest := [.int 0, .ref o]) S hE hS hAb (hC) (cwV 1 hts gL_probes_X4_probes rfl rfl rfl (by decide +kernel) ⟨Nat.le_of_ble_eq_true rfl, Nat.le_of_ble_eq_true rfl⟩) (hw.lv 0 0 (rfl : (0 : Nat) = 0)) rfl rfl hl.1 rfl (Nat.le_of_ble_eq_true rfl) dL_probes_4 ⟨Nat.zero_le _, Nat.zero_le _⟩) hS (fun locs hS => ?_)
  refine lv_i2l (v := (v).toInt64) hx hb dL_probes_7 rfl ?_
  refine kr_lst (i := 0) hx hb hK hS ho (Or.inr rfl) (j := 0) (by decide) rfl (by decide) dL_probes_8 (fun H1 locs hU ho hS => ?_)
  have hw := hw.keep (fun k i hk => hU.2 _ (fun h => hoA (h ▸ (hw.1 k i hk).2)))
  refine lv_goto (tgt := 15) hx hb dL_probes_9 (by decide) ?_
  refine lv_iconst (v := 0) hx hb dL_probes_15 (by decide) ?_
  refine kend_i S hr hlocks hS ⟨rfl, ⟨ad, rfl, hw⟩, _, ho, fun _ => by simp [vp_updL]⟩ dL_probes_16
set_option maxHeartbeats 4000000 in
set_option maxRecDepth 100000 in
theorem yl_probesX1 (ε : kEnv) (l : Launch) {A : Nat → Prop} {ad : Nat → Nat → Nat} {σ : kS} {H : Heap} {o : Nat} {f : Nat → Int64} {x1 : Int32} (v : Int32) (hAb : ∀ q, A q → kHi ε q) (hoK : kHi ε o) (hoA : ¬ A o) (hw : kW ε A ad σ H) (ho : kat ε o (kJ ε 1 f) H) (hC : kX ε l yX4_probes wsX4_probes ({ frames := 7, cells := 1, slots := 6, locals := 120 }) [.ref (ad 0 0), .int x1] H "java/lang/IndexOutOfBoundsException") : kMi ε l yL_probes wsL_probes ({ frames := 11, cells := 1, slots := 6, locals := 310 }) [.ref (ad 0 0), .int x1, .ref o] H (kAo A o) (1) (6) (kLP ε A o (ad 0 0) (σ) 1 v) := by
  refine kofH (cc := cL_probes) (maxL := 4) (ret := (some .int)) (hh := [(0, 9, 12, 13)]) (by decide) rfl (Nat.le_of_ble_eq_true rfl) ?_
  intro p e s m below meth c ls S hr hlocks hT hH hE hl
  have S : CallFix p m c cL_probes 4 s _ wsL_probes RL := S
  have hx := S.1
  have hb := S.2.1
  have hown : s.vm.findClass RL = some m.cls := S.2.2.2.1
  have hts := S.2.2.2.2
  have hK := hE.1
  have hS : va_S (kAo A o) s.heap H [] := by rw [hH]; exact va_S.rf
  have hAw := hAb
  have hAb := kAo_hi hAb hoK
  have hl : lv_has ls 4 [(0, .ref (ad 0 0)), (1, .int x1), (2, .ref o)] := hl
  refine lv_aload_n hx hb dL_probes_0 rfl (lv_at hl 2 rfl) ?_
  refine lv_iconst (v := 0) hx hb dL_probes_1 (by decide) ?_
  refine lv_aload_n hx hb dL_probes_2 rfl (lv_at hl 0 rfl) ?_
  refine lv_iload_n hx hb dL_probes_3 rfl (lv_at hl 1 rfl) ?_
  refine kgo_x (kx_V (As := [.int x1]) (rest := [.int 0, .ref o]) S hE hS hAb hC (cwV 1 hts gL_probes_X4_probes rfl rfl rfl (by decide +kernel) ⟨Nat.le_of_ble_eq_true rfl, Nat.le_of_ble_eq_true rfl⟩) (hw.lv 0 0 (rfl : (0 : Nat) = 0)) rfl rfl hl.1 rfl (Nat.le_of_ble_eq_true rfl) dL_probes_4 ⟨Nat.le_refl _, Nat.le_refl _⟩) hS (fun ce q9 H1 locs h1 h2 hS h4 h5 h6 => ?_)
  have hw := hw.keep (fun k i hk => h2 _ (va_at.lt (hw.1 k i hk).1))
  have ho := va_at.kept ho (h2 o (va_at.lt ho))
  refine kcatch (E := "java/lang/IndexOutOfBoundsException") [] (0, 9, 12, 13) [] hE hown hT rfl (by decide) (by decide) (fun z hz => by simp at hz) (hts (.classLink RL 13 "java/lang/IndexOutOfBoundsException") (by decide +kernel)) (by decide +kernel) h4 h5 h6 ?_
  refine lv_astore_n (lv' := [(3, .ref q9), (0, .ref (ad 0 0)), (1, .int x1), (2, .ref o)]) hx hb dL_probes_12 rfl hl (by decide) rfl (fun ls hl => ?_)
  refine lv_iconst (v := 1) hx hb dL_probes_13 (by decide) ?_
  refine kend_i S hr hlocks hS ⟨rfl, ⟨ad, rfl, hw⟩, _, ho, fun h => absurd h (by decide)⟩ dL_probes_14
set_option maxHeartbeats 4000000 in
set_option maxRecDepth 100000 in
theorem yl_failures (ε : kEnv) (l : Launch) {A : Nat → Prop} {ad : Nat → Nat → Nat} {σ : kS} {H : Heap} {o : Nat} {f : Nat → Int64} {x1 : Int32} {v : Int32} (hAb : ∀ q, A q → kHi ε q) (hoK : kHi ε o) (hoA : ¬ A o) (hw : kW ε A ad σ H) (ho : kat ε o (kJ ε 1 f) H) (hC : kPi ε l yX4_failures wsX4_failures ({ frames := 5, cells := 0, slots := 0, locals := 120 }) [.ref (ad 0 0), .int x1] H v) : kMi ε l yL_failures wsL_failures ({ frames := 11, cells := 0, slots := 0, locals := 310 }) [.ref (ad 0 0), .int x1, .ref o] H (kAo A o) (0) (0) (kLP ε A o (ad 0 0) (σ) 0 v) := by
  refine kofH (cc := cL_failures) (maxL := 4) (ret := (some .int)) (hh := [(0, 9, 12, 13)]) (by decide) rfl (Nat.le_of_ble_eq_true rfl) ?_
  intro p e s m below meth c ls S hr hlocks hT hH hE hl
  have S : CallFix p m c cL_failures 4 s _ wsL_failures RL := S
  have hx := S.1
  have hb := S.2.1
  have hown : s.vm.findClass RL = some m.cls := S.2.2.2.1
  have hts := S.2.2.2.2
  have hK := hE.1
  have hS : va_S (kAo A o) s.heap H [] := by rw [hH]; exact va_S.rf
  have hAw := hAb
  have hAb := kAo_hi hAb hoK
  have hl : lv_has ls 4 [(0, .ref (ad 0 0)), (1, .int x1), (2, .ref o)] := hl
  refine lv_aload_n hx hb dL_failures_0 rfl (lv_at hl 2 rfl) ?_
  refine lv_iconst (v := 0) hx hb dL_failures_1 (by decide) ?_
  refine lv_aload_n hx hb dL_failures_2 rfl (lv_at hl 0 rfl) ?_
  refine lv_iload_n hx hb dL_failures_3 rfl (lv_at hl 1 rfl) ?_
  refine kgo_pi (v := v) (kc_V (As := [.int x1]) (rest := [.int 0, .ref o]) S hE hS hAb (hC) (cwV 1 hts gL_failures_X4_failures rfl rfl rfl (by decide +kernel) ⟨Nat.le_of_ble_eq_true rfl, Nat.le_of_ble_eq_true rfl⟩) (hw.lv 0 0 (rfl : (0 : Nat) = 0)) rfl rfl hl.1 rfl (Nat.le_of_ble_eq_true rfl) dL_failures_4 ⟨Nat.zero_le _, Nat.zero_le _⟩) hS (fun locs hS => ?_)
  refine lv_i2l (v := (v).toInt64) hx hb dL_failures_7 rfl ?_
  refine kr_lst (i := 0) hx hb hK hS ho (Or.inr rfl) (j := 0) (by decide) rfl (by decide) dL_failures_8 (fun H1 locs hU ho hS => ?_)
  have hw := hw.keep (fun k i hk => hU.2 _ (fun h => hoA (h ▸ (hw.1 k i hk).2)))
  refine lv_goto (tgt := 15) hx hb dL_failures_9 (by decide) ?_
  refine lv_iconst (v := 0) hx hb dL_failures_15 (by decide) ?_
  refine kend_i S hr hlocks hS ⟨rfl, ⟨ad, rfl, hw⟩, _, ho, fun _ => by simp [vp_updL]⟩ dL_failures_16
set_option maxHeartbeats 4000000 in
set_option maxRecDepth 100000 in
theorem yl_failuresX1 (ε : kEnv) (l : Launch) {A : Nat → Prop} {ad : Nat → Nat → Nat} {σ : kS} {H : Heap} {o : Nat} {f : Nat → Int64} {x1 : Int32} (v : Int32) (hAb : ∀ q, A q → kHi ε q) (hoK : kHi ε o) (hoA : ¬ A o) (hw : kW ε A ad σ H) (ho : kat ε o (kJ ε 1 f) H) (hC : kX ε l yX4_failures wsX4_failures ({ frames := 7, cells := 1, slots := 6, locals := 120 }) [.ref (ad 0 0), .int x1] H "java/lang/IndexOutOfBoundsException") : kMi ε l yL_failures wsL_failures ({ frames := 11, cells := 1, slots := 6, locals := 310 }) [.ref (ad 0 0), .int x1, .ref o] H (kAo A o) (1) (6) (kLP ε A o (ad 0 0) (σ) 1 v) := by
  refine kofH (cc := cL_failures) (maxL := 4) (ret := (some .int)) (hh := [(0, 9, 12, 13)]) (by decide) rfl (Nat.le_of_ble_eq_true rfl) ?_
  intro p e s m below meth c ls S hr hlocks hT hH hE hl
  have S : CallFix p m c cL_failures 4 s _ wsL_failures RL := S
  have hx := S.1
  have hb := S.2.1
  have hown : s.vm.findClass RL = some m.cls := S.2.2.2.1
  have hts := S.2.2.2.2
  have hK := hE.1
  have hS : va_S (kAo A o) s.heap H [] := by rw [hH]; exact va_S.rf
  have hAw := hAb
  have hAb := kAo_hi hAb hoK
  have hl : lv_has ls 4 [(0, .ref (ad 0 0)), (1, .int x1), (2, .ref o)] := hl
  refine lv_aload_n hx hb dL_failures_0 rfl (lv_at hl 2 rfl) ?_
  refine lv_iconst (v := 0) hx hb dL_failures_1 (by decide) ?_
  refine lv_aload_n hx hb dL_failures_2 rfl (lv_at hl 0 rfl) ?_
  refine lv_iload_n hx hb dL_failures_3 rfl (lv_at hl 1 rfl) ?_
  refine kgo_x (kx_V (As := [.int x1]) (rest := [.int 0, .ref o]) S hE hS hAb hC (cwV 1 hts gL_failures_X4_failures rfl rfl rfl (by decide +kernel) ⟨Nat.le_of_ble_eq_true rfl, Nat.le_of_ble_eq_true rfl⟩) (hw.lv 0 0 (rfl : (0 : Nat) = 0)) rfl rfl hl.1 rfl (Nat.le_of_ble_eq_true rfl) dL_failures_4 ⟨Nat.le_refl _, Nat.le_refl _⟩) hS (fun ce q9 H1 locs h1 h2 hS h4 h5 h6 => ?_)
  have hw := hw.keep (fun k i hk => h2 _ (va_at.lt (hw.1 k i hk).1))
  have ho := va_at.kept ho (h2 o (va_at.lt ho))
  refine kcatch (E := "java/lang/IndexOutOfBoundsException") [] (0, 9, 12, 13) [] hE hown hT rfl (by decide) (by decide) (fun z hz => by simp at hz) (hts (.classLink RL 13 "java/lang/IndexOutOfBoundsException") (by decide +kernel)) (by decide +kernel) h4 h5 h6 ?_
  refine lv_astore_n (lv' := [(3, .ref q9), (0, .ref (ad 0 0)), (1, .int x1), (2, .ref o)]) hx hb dL_failures_12 rfl hl (by decide) rfl (fun ls hl => ?_)
  refine lv_iconst (v := 1) hx hb dL_failures_13 (by decide) ?_
  refine kend_i S hr hlocks hS ⟨rfl, ⟨ad, rfl, hw⟩, _, ho, fun h => absurd h (by decide)⟩ dL_failures_14
set_option maxHeartbeats 4000000 in
set_option maxRecDepth 100000 in
theorem yl_isBad (ε : kEnv) (l : Launch) {A : Nat → Prop} {ad : Nat → Nat → Nat} {σ : kS} {H : Heap} {o : Nat} {f : Nat → Int64} {x1 : Int32} {v : Int32} (hAb : ∀ q, A q → kHi ε q) (hoK : kHi ε o) (hoA : ¬ A o) (hw : kW ε A ad σ H) (ho : kat ε o (kJ ε 1 f) H) (hC : kPi ε l yX4_isBad wsX4_isBad ({ frames := 5, cells := 0, slots := 0, locals := 120 }) [.ref (ad 0 0), .int x1] H v) (h01 : v = 0 ∨ v = 1) : kMi ε l yL_isBad wsL_isBad ({ frames := 11, cells := 0, slots := 0, locals := 310 }) [.ref (ad 0 0), .int x1, .ref o] H (kAo A o) (0) (0) (kLP ε A o (ad 0 0) (σ) 0 v) := by
  refine kofH (cc := cL_isBad) (maxL := 4) (ret := (some .int)) (hh := [(0, 16, 19, 13)]) (by decide) rfl (Nat.le_of_ble_eq_true rfl) ?_
  intro p e s m below meth c ls S hr hlocks hT hH hE hl
  have S : CallFix p m c cL_isBad 4 s _ wsL_isBad RL := S
  have hx := S.1
  have hb := S.2.1
  have hown : s.vm.findClass RL = some m.cls := S.2.2.2.1
  have hts := S.2.2.2.2
  have hK := hE.1
  have hS : va_S (kAo A o) s.heap H [] := by rw [hH]; exact va_S.rf
  have hAw := hAb
  have hAb := kAo_hi hAb hoK
  have hl : lv_has ls 4 [(0, .ref (ad 0 0)), (1, .int x1), (2, .ref o)] := hl
  refine lv_aload_n hx hb dL_isBad_0 rfl (lv_at hl 2 rfl) ?_
  refine lv_iconst (v := 0) hx hb dL_isBad_1 (by decide) ?_
  refine lv_aload_n hx hb dL_isBad_2 rfl (lv_at hl 0 rfl) ?_
  refine lv_iload_n hx hb dL_isBad_3 rfl (lv_at hl 1 rfl) ?_
  refine kgo_pi (v := v) (kc_V (As := [.int x1]) (rest := [.int 0, .ref o]) S hE hS hAb (hC) (cwV 1 hts gL_isBad_X4_isBad rfl rfl rfl (by decide +kernel) ⟨Nat.le_of_ble_eq_true rfl, Nat.le_of_ble_eq_true rfl⟩) (hw.lv 0 0 (rfl : (0 : Nat) = 0)) rfl rfl hl.1 rfl (Nat.le_of_ble_eq_true rfl) dL_isBad_4 ⟨Nat.zero_le _, Nat.zero_le _⟩) hS (fun locs hS => ?_)
  rcases h01 with h01 | h01
  · subst h01
    refine lv_if_eq (tgt := 14) hx hb dL_isBad_7 (by decide) (fun _ => ?_) (fun hc => absurd (rfl) hc)
    refine lv_lconst (v := 0) hx hb dL_isBad_14 (by decide) ?_
    refine kr_lst (i := 0) hx hb hK hS ho (Or.inr rfl) (j := 0) (by decide) rfl (by decide) dL_isBad_15 (fun H1 locs hU ho hS => ?_)
    have hw := hw.keep (fun k i hk => hU.2 _ (fun h => hoA (h ▸ (hw.1 k i hk).2)))
    refine lv_goto (tgt := 22) hx hb dL_isBad_16 (by decide) ?_
    refine lv_iconst (v := 0) hx hb dL_isBad_22 (by decide) ?_
    refine kend_i S hr hlocks hS ⟨rfl, ⟨ad, rfl, hw⟩, _, ho, fun _ => by simp [vp_updL]⟩ dL_isBad_23
  · subst h01
    refine lv_if_eq (tgt := 14) hx hb dL_isBad_7 (by decide) (fun hc => absurd hc (by decide)) (fun _ => ?_)
    refine lv_lconst (v := 1) hx hb dL_isBad_10 (by decide) ?_
    refine lv_goto (tgt := 15) hx hb dL_isBad_11 (by decide) ?_
    refine kr_lst (i := 0) hx hb hK hS ho (Or.inr rfl) (j := 0) (by decide) rfl (by decide) dL_isBad_15 (fun H1 locs hU ho hS => ?_)
    have hw := hw.keep (fun k i hk => hU.2 _ (fun h => hoA (h ▸ (hw.1 k i hk).2)))
    refine lv_goto (tgt := 22) hx hb dL_isBad_16 (by decide) ?_
    refine lv_iconst (v := 0) hx hb dL_isBad_22 (by decide) ?_
    refine kend_i S hr hlocks hS ⟨rfl, ⟨ad, rfl, hw⟩, _, ho, fun _ => by simp [vp_updL]⟩ dL_isBad_23
set_option maxHeartbeats 4000000 in
set_option maxRecDepth 100000 in
theorem yl_isBadX1 (ε : kEnv) (l : Launch) {A : Nat → Prop} {ad : Nat → Nat → Nat} {σ : kS} {H : Heap} {o : Nat} {f : Nat → Int64} {x1 : Int32} (v : Int32) (hAb : ∀ q, A q → kHi ε q) (hoK : kHi ε o) (hoA : ¬ A o) (hw : kW ε A ad σ H) (ho : kat ε o (kJ ε 1 f) H) (hC : kX ε l yX4_isBad wsX4_isBad ({ frames := 7, cells := 1, slots := 6, locals := 120 }) [.ref (ad 0 0), .int x1] H "java/lang/IndexOutOfBoundsException") : kMi ε l yL_isBad wsL_isBad ({ frames := 11, cells := 1, slots := 6, locals := 310 }) [.ref (ad 0 0), .int x1, .ref o] H (kAo A o) (1) (6) (kLP ε A o (ad 0 0) (σ) 1 v) := by
  refine kofH (cc := cL_isBad) (maxL := 4) (ret := (some .int)) (hh := [(0, 16, 19, 13)]) (by decide) rfl (Nat.le_of_ble_eq_true rfl) ?_
  intro p e s m below meth c ls S hr hlocks hT hH hE hl
  have S : CallFix p m c cL_isBad 4 s _ wsL_isBad RL := S
  have hx := S.1
  have hb := S.2.1
  have hown : s.vm.findClass RL = some m.cls := S.2.2.2.1
  have hts := S.2.2.2.2
  have hK := hE.1
  have hS : va_S (kAo A o) s.heap H [] := by rw [hH]; exact va_S.rf
  have hAw := hAb
  have hAb := kAo_hi hAb hoK
  have hl : lv_has ls 4 [(0, .ref (ad 0 0)), (1, .int x1), (2, .ref o)] := hl
  refine lv_aload_n hx hb dL_isBad_0 rfl (lv_at hl 2 rfl) ?_
  refine lv_iconst (v := 0) hx hb dL_isBad_1 (by decide) ?_
  refine lv_aload_n hx hb dL_isBad_2 rfl (lv_at hl 0 rfl) ?_
  refine lv_iload_n hx hb dL_isBad_3 rfl (lv_at hl 1 rfl) ?_
  refine kgo_x (kx_V (As := [.int x1]) (rest := [.int 0, .ref o]) S hE hS hAb hC (cwV 1 hts gL_isBad_X4_isBad rfl rfl rfl (by decide +kernel) ⟨Nat.le_of_ble_eq_true rfl, Nat.le_of_ble_eq_true rfl⟩) (hw.lv 0 0 (rfl : (0 : Nat) = 0)) rfl rfl hl.1 rfl (Nat.le_of_ble_eq_true rfl) dL_isBad_4 ⟨Nat.le_refl _, Nat.le_refl _⟩) hS (fun ce q9 H1 locs h1 h2 hS h4 h5 h6 => ?_)
  have hw := hw.keep (fun k i hk => h2 _ (va_at.lt (hw.1 k i hk).1))
  have ho := va_at.kept ho (h2 o (va_at.lt ho))
  refine kcatch (E := "java/lang/IndexOutOfBoundsException") [] (0, 16, 19, 13) [] hE hown hT rfl (by decide) (by decide) (fun z hz => by simp at hz) (hts (.classLink RL 13 "java/lang/IndexOutOfBoundsException") (by decide +kernel)) (by decide +kernel) h4 h5 h6 ?_
  refine lv_astore_n (lv' := [(3, .ref q9), (0, .ref (ad 0 0)), (1, .int x1), (2, .ref o)]) hx hb dL_isBad_19 rfl hl (by decide) rfl (fun ls hl => ?_)
  refine lv_iconst (v := 1) hx hb dL_isBad_20 (by decide) ?_
  refine kend_i S hr hlocks hS ⟨rfl, ⟨ad, rfl, hw⟩, _, ho, fun h => absurd h (by decide)⟩ dL_isBad_21
set_option maxHeartbeats 4000000 in
set_option maxRecDepth 100000 in
theorem yl_verdict (ε : kEnv) (l : Launch) {A : Nat → Prop} {ad : Nat → Nat → Nat} {σ : kS} {H : Heap} {o : Nat} {f : Nat → Int64} {x1 : Int32} {v : Int32} (hAb : ∀ q, A q → kHi ε q) (hoK : kHi ε o) (hoA : ¬ A o) (hw : kW ε A ad σ H) (ho : kat ε o (kJ ε 1 f) H) (hC : kPi ε l yX4_verdict wsX4_verdict ({ frames := 5, cells := 0, slots := 0, locals := 120 }) [.ref (ad 0 0), .int x1] H v) : kMi ε l yL_verdict wsL_verdict ({ frames := 11, cells := 0, slots := 0, locals := 310 }) [.ref (ad 0 0), .int x1, .ref o] H (kAo A o) (0) (0) (kLP ε A o (ad 0 0) (σ) 0 v) := by
  refine kofH (cc := cL_verdict) (maxL := 4) (ret := (some .int)) (hh := [(0, 9, 12, 13)]) (by decide) rfl (Nat.le_of_ble_eq_true rfl) ?_
  intro p e s m below meth c ls S hr hlocks hT hH hE hl
  have S : CallFix p m c cL_verdict 4 s _ wsL_verdict RL := S
  have hx := S.1
  have hb := S.2.1
  have hown : s.vm.findClass RL = some m.cls := S.2.2.2.1
  have hts := S.2.2.2.2
  have hK := hE.1
  have hS : va_S (kAo A o) s.heap H [] := by rw [hH]; exact va_S.rf
  have hAw := hAb
  have hAb := kAo_hi hAb hoK
  have hl : lv_has ls 4 [(0, .ref (ad 0 0)), (1, .int x1), (2, .ref o)] := hl
  refine lv_aload_n hx hb dL_verdict_0 rfl (lv_at hl 2 rfl) ?_
  refine lv_iconst (v := 0) hx hb dL_verdict_1 (by decide) ?_
  refine lv_aload_n hx hb dL_verdict_2 rfl (lv_at hl 0 rfl) ?_
  refine lv_iload_n hx hb dL_verdict_3 rfl (lv_at hl 1 rfl) ?_
  refine kgo_pi (v := v) (kc_V (As := [.int x1]) (rest := [.int 0, .ref o]) S hE hS hAb (hC) (cwV 1 hts gL_verdict_X4_verdict rfl rfl rfl (by decide +kernel) ⟨Nat.le_of_ble_eq_true rfl, Nat.le_of_ble_eq_true rfl⟩) (hw.lv 0 0 (rfl : (0 : Nat) = 0)) rfl rfl hl.1 rfl (Nat.le_of_ble_eq_true rfl) dL_verdict_4 ⟨Nat.zero_le _, Nat.zero_le _⟩) hS (fun locs hS => ?_)
  refine lv_i2l (v := (v).toInt64) hx hb dL_verdict_7 rfl ?_
  refine kr_lst (i := 0) hx hb hK hS ho (Or.inr rfl) (j := 0) (by decide) rfl (by decide) dL_verdict_8 (fun H1 locs hU ho hS => ?_)
  have hw := hw.keep (fun k i hk => hU.2 _ (fun h => hoA (h ▸ (hw.1 k i hk).2)))
  refine lv_goto (tgt := 15) hx hb dL_verdict_9 (by decide) ?_
  refine lv_iconst (v := 0) hx hb dL_verdict_15 (by decide) ?_
  refine kend_i S hr hlocks hS ⟨rfl, ⟨ad, rfl, hw⟩, _, ho, fun _ => by simp [vp_updL]⟩ dL_verdict_16
set_option maxHeartbeats 4000000 in
set_option maxRecDepth 100000 in
theorem yl_verdictX1 (ε : kEnv) (l : Launch) {A : Nat → Prop} {ad : Nat → Nat → Nat} {σ : kS} {H : Heap} {o : Nat} {f : Nat → Int64} {x1 : Int32} (v : Int32) (hAb : ∀ q, A q → kHi ε q) (hoK : kHi ε o) (hoA : ¬ A o) (hw : kW ε A ad σ H) (ho : kat ε o (kJ ε 1 f) H) (hC : kX ε l yX4_verdict wsX4_verdict ({ frames := 7, cells := 1, slots := 6, locals := 120 }) [.ref (ad 0 0), .int x1] H "java/lang/IndexOutOfBoundsException") : kMi ε l yL_verdict wsL_verdict ({ frames := 11, cells := 1, slots := 6, locals := 310 }) [.ref (ad 0 0), .int x1, .ref o] H (kAo A o) (1) (6) (kLP ε A o (ad 0 0) (σ) 1 v) := by
  refine kofH (cc := cL_verdict) (maxL := 4) (ret := (some .int)) (hh := [(0, 9, 12, 13)]) (by decide) rfl (Nat.le_of_ble_eq_true rfl) ?_
  intro p e s m below meth c ls S hr hlocks hT hH hE hl
  have S : CallFix p m c cL_verdict 4 s _ wsL_verdict RL := S
  have hx := S.1
  have hb := S.2.1
  have hown : s.vm.findClass RL = some m.cls := S.2.2.2.1
  have hts := S.2.2.2.2
  have hK := hE.1
  have hS : va_S (kAo A o) s.heap H [] := by rw [hH]; exact va_S.rf
  have hAw := hAb
  have hAb := kAo_hi hAb hoK
  have hl : lv_has ls 4 [(0, .ref (ad 0 0)), (1, .int x1), (2, .ref o)] := hl
  refine lv_aload_n hx hb dL_verdict_0 rfl (lv_at hl 2 rfl) ?_
  refine lv_iconst (v := 0) hx hb dL_verdict_1 (by decide) ?_
  refine lv_aload_n hx hb dL_verdict_2 rfl (lv_at hl 0 rfl) ?_
  refine lv_iload_n hx hb dL_verdict_3 rfl (lv_at hl 1 rfl) ?_
  refine kgo_x (kx_V (As := [.int x1]) (rest := [.int 0, .ref o]) S hE hS hAb hC (cwV 1 hts gL_verdict_X4_verdict rfl rfl rfl (by decide +kernel) ⟨Nat.le_of_ble_eq_true rfl, Nat.le_of_ble_eq_true rfl⟩) (hw.lv 0 0 (rfl : (0 : Nat) = 0)) rfl rfl hl.1 rfl (Nat.le_of_ble_eq_true rfl) dL_verdict_4 ⟨Nat.le_refl _, Nat.le_refl _⟩) hS (fun ce q9 H1 locs h1 h2 hS h4 h5 h6 => ?_)
  have hw := hw.keep (fun k i hk => h2 _ (va_at.lt (hw.1 k i hk).1))
  have ho := va_at.kept ho (h2 o (va_at.lt ho))
  refine kcatch (E := "java/lang/IndexOutOfBoundsException") [] (0, 9, 12, 13) [] hE hown hT rfl (by decide) (by decide) (fun z hz => by simp at hz) (hts (.classLink RL 13 "java/lang/IndexOutOfBoundsException") (by decide +kernel)) (by decide +kernel) h4 h5 h6 ?_
  refine lv_astore_n (lv' := [(3, .ref q9), (0, .ref (ad 0 0)), (1, .int x1), (2, .ref o)]) hx hb dL_verdict_12 rfl hl (by decide) rfl (fun ls hl => ?_)
  refine lv_iconst (v := 1) hx hb dL_verdict_13 (by decide) ?_
  refine kend_i S hr hlocks hS ⟨rfl, ⟨ad, rfl, hw⟩, _, ho, fun h => absurd h (by decide)⟩ dL_verdict_14
set_option maxHeartbeats 4000000 in
set_option maxRecDepth 100000 in
theorem yl_trusted (ε : kEnv) (l : Launch) {A : Nat → Prop} {ad : Nat → Nat → Nat} {σ : kS} {H : Heap} {o : Nat} {f : Nat → Int64} {x1 : Int32} {v : Int32} (hAb : ∀ q, A q → kHi ε q) (hoK : kHi ε o) (hoA : ¬ A o) (hw : kW ε A ad σ H) (ho : kat ε o (kJ ε 1 f) H) (hC : kPi ε l yX4_trusted wsX4_trusted ({ frames := 5, cells := 0, slots := 0, locals := 120 }) [.ref (ad 0 0), .int x1] H v) : kMi ε l yL_trusted wsL_trusted ({ frames := 11, cells := 0, slots := 0, locals := 310 }) [.ref (ad 0 0), .int x1, .ref o] H (kAo A o) (0) (0) (kLP ε A o (ad 0 0) (σ) 0 v) := by
  refine kofH (cc := cL_trusted) (maxL := 4) (ret := (some .int)) (hh := [(0, 9, 12, 13)]) (by decide) rfl (Nat.le_of_ble_eq_true rfl) ?_
  intro p e s m below meth c ls S hr hlocks hT hH hE hl
  have S : CallFix p m c cL_trusted 4 s _ wsL_trusted RL := S
  have hx := S.1
  have hb := S.2.1
  have hown : s.vm.findClass RL = some m.cls := S.2.2.2.1
  have hts := S.2.2.2.2
  have hK := hE.1
  have hS : va_S (kAo A o) s.heap H [] := by rw [hH]; exact va_S.rf
  have hAw := hAb
  have hAb := kAo_hi hAb hoK
  have hl : lv_has ls 4 [(0, .ref (ad 0 0)), (1, .int x1), (2, .ref o)] := hl
  refine lv_aload_n hx hb dL_trusted_0 rfl (lv_at hl 2 rfl) ?_
  refine lv_iconst (v := 0) hx hb dL_trusted_1 (by decide) ?_
  refine lv_aload_n hx hb dL_trusted_2 rfl (lv_at hl 0 rfl) ?_
  refine lv_iload_n hx hb dL_trusted_3 rfl (lv_at hl 1 rfl) ?_
  refine kgo_pi (v := v) (kc_V (As := [.int x1]) (rest := [.int 0, .ref o]) S hE hS hAb (hC) (cwV 1 hts gL_trusted_X4_trusted rfl rfl rfl (by decide +kernel) ⟨Nat.le_of_ble_eq_true rfl, Nat.le_of_ble_eq_true rfl⟩) (hw.lv 0 0 (rfl : (0 : Nat) = 0)) rfl rfl hl.1 rfl (Nat.le_of_ble_eq_true rfl) dL_trusted_4 ⟨Nat.zero_le _, Nat.zero_le _⟩) hS (fun locs hS => ?_)
  refine lv_i2l (v := (v).toInt64) hx hb dL_trusted_7 rfl ?_
  refine kr_lst (i := 0) hx hb hK hS ho (Or.inr rfl) (j := 0) (by decide) rfl (by decide) dL_trusted_8 (fun H1 locs hU ho hS => ?_)
  have hw := hw.keep (fun k i hk => hU.2 _ (fun h => hoA (h ▸ (hw.1 k i hk).2)))
  refine lv_goto (tgt := 15) hx hb dL_trusted_9 (by decide) ?_
  refine lv_iconst (v := 0) hx hb dL_trusted_15 (by decide) ?_
  refine kend_i S hr hlocks hS ⟨rfl, ⟨ad, rfl, hw⟩, _, ho, fun _ => by simp [vp_updL]⟩ dL_trusted_16
set_option maxHeartbeats 4000000 in
set_option maxRecDepth 100000 in
theorem yl_trustedX1 (ε : kEnv) (l : Launch) {A : Nat → Prop} {ad : Nat → Nat → Nat} {σ : kS} {H : Heap} {o : Nat} {f : Nat → Int64} {x1 : Int32} (v : Int32) (hAb : ∀ q, A q → kHi ε q) (hoK : kHi ε o) (hoA : ¬ A o) (hw : kW ε A ad σ H) (ho : kat ε o (kJ ε 1 f) H) (hC : kX ε l yX4_trusted wsX4_trusted ({ frames := 7, cells := 1, slots := 6, locals := 120 }) [.ref (ad 0 0), .int x1] H "java/lang/IndexOutOfBoundsException") : kMi ε l yL_trusted wsL_trusted ({ frames := 11, cells := 1, slots := 6, locals := 310 }) [.ref (ad 0 0), .int x1, .ref o] H (kAo A o) (1) (6) (kLP ε A o (ad 0 0) (σ) 1 v) := by
  refine kofH (cc := cL_trusted) (maxL := 4) (ret := (some .int)) (hh := [(0, 9, 12, 13)]) (by decide) rfl (Nat.le_of_ble_eq_true rfl) ?_
  intro p e s m below meth c ls S hr hlocks hT hH hE hl
  have S : CallFix p m c cL_trusted 4 s _ wsL_trusted RL := S
  have hx := S.1
  have hb := S.2.1
  have hown : s.vm.findClass RL = some m.cls := S.2.2.2.1
  have hts := S.2.2.2.2
  have hK := hE.1
  have hS : va_S (kAo A o) s.heap H [] := by rw [hH]; exact va_S.rf
  have hAw := hAb
  have hAb := kAo_hi hAb hoK
  have hl : lv_has ls 4 [(0, .ref (ad 0 0)), (1, .int x1), (2, .ref o)] := hl
  refine lv_aload_n hx hb dL_trusted_0 rfl (lv_at hl 2 rfl) ?_
  refine lv_iconst (v := 0) hx hb dL_trusted_1 (by decide) ?_
  refine lv_aload_n hx hb dL_trusted_2 rfl (lv_at hl 0 rfl) ?_
  refine lv_iload_n hx hb dL_trusted_3 rfl (lv_at hl 1 rfl) ?_
  refine kgo_x (kx_V (As := [.int x1]) (rest := [.int 0, .ref o]) S hE hS hAb hC (cwV 1 hts gL_trusted_X4_trusted rfl rfl rfl (by decide +kernel) ⟨Nat.le_of_ble_eq_true rfl, Nat.le_of_ble_eq_true rfl⟩) (hw.lv 0 0 (rfl : (0 : Nat) = 0)) rfl rfl hl.1 rfl (Nat.le_of_ble_eq_true rfl) dL_trusted_4 ⟨Nat.le_refl _, Nat.le_refl _⟩) hS (fun ce q9 H1 locs h1 h2 hS h4 h5 h6 => ?_)
  have hw := hw.keep (fun k i hk => h2 _ (va_at.lt (hw.1 k i hk).1))
  have ho := va_at.kept ho (h2 o (va_at.lt ho))
  refine kcatch (E := "java/lang/IndexOutOfBoundsException") [] (0, 9, 12, 13) [] hE hown hT rfl (by decide) (by decide) (fun z hz => by simp at hz) (hts (.classLink RL 13 "java/lang/IndexOutOfBoundsException") (by decide +kernel)) (by decide +kernel) h4 h5 h6 ?_
  refine lv_astore_n (lv' := [(3, .ref q9), (0, .ref (ad 0 0)), (1, .int x1), (2, .ref o)]) hx hb dL_trusted_12 rfl hl (by decide) rfl (fun ls hl => ?_)
  refine lv_iconst (v := 1) hx hb dL_trusted_13 (by decide) ?_
  refine kend_i S hr hlocks hS ⟨rfl, ⟨ad, rfl, hw⟩, _, ho, fun h => absurd h (by decide)⟩ dL_trusted_14
set_option maxHeartbeats 4000000 in
set_option maxRecDepth 100000 in
theorem yl_hasAlarm (ε : kEnv) (l : Launch) {A : Nat → Prop} {ad : Nat → Nat → Nat} {σ : kS} {H : Heap} {o : Nat} {f : Nat → Int64} {x1 : Int32} {v : Int32} (hAb : ∀ q, A q → kHi ε q) (hoK : kHi ε o) (hoA : ¬ A o) (hw : kW ε A ad σ H) (ho : kat ε o (kJ ε 1 f) H) (hC : kPi ε l yX4_hasAlarm wsX4_hasAlarm ({ frames := 5, cells := 0, slots := 0, locals := 120 }) [.ref (ad 0 0), .int x1] H v) (h01 : v = 0 ∨ v = 1) : kMi ε l yL_hasAlarm wsL_hasAlarm ({ frames := 11, cells := 0, slots := 0, locals := 310 }) [.ref (ad 0 0), .int x1, .ref o] H (kAo A o) (0) (0) (kLP ε A o (ad 0 0) (σ) 0 v) := by
  refine kofH (cc := cL_hasAlarm) (maxL := 4) (ret := (some .int)) (hh := [(0, 16, 19, 13)]) (by decide) rfl (Nat.le_of_ble_eq_true rfl) ?_
  intro p e s m below meth c ls S hr hlocks hT hH hE hl
  have S : CallFix p m c cL_hasAlarm 4 s _ wsL_hasAlarm RL := S
  have hx := S.1
  have hb := S.2.1
  have hown : s.vm.findClass RL = some m.cls := S.2.2.2.1
  have hts := S.2.2.2.2
  have hK := hE.1
  have hS : va_S (kAo A o) s.heap H [] := by rw [hH]; exact va_S.rf
  have hAw := hAb
  have hAb := kAo_hi hAb hoK
  have hl : lv_has ls 4 [(0, .ref (ad 0 0)), (1, .int x1), (2, .ref o)] := hl
  refine lv_aload_n hx hb dL_hasAlarm_0 rfl (lv_at hl 2 rfl) ?_
  refine lv_iconst (v := 0) hx hb dL_hasAlarm_1 (by decide) ?_
  refine lv_aload_n hx hb dL_hasAlarm_2 rfl (lv_at hl 0 rfl) ?_
  refine lv_iload_n hx hb dL_hasAlarm_3 rfl (lv_at hl 1 rfl) ?_
  refine kgo_pi (v := v) (kc_V (As := [.int x1]) (rest := [.int 0, .ref o]) S hE hS hAb (hC) (cwV 1 hts gL_hasAlarm_X4_hasAlarm rfl rfl rfl (by decide +kernel) ⟨Nat.le_of_ble_eq_true rfl, Nat.le_of_ble_eq_true rfl⟩) (hw.lv 0 0 (rfl : (0 : Nat) = 0)) rfl rfl hl.1 rfl (Nat.le_of_ble_eq_true rfl) dL_hasAlarm_4 ⟨Nat.zero_le _, Nat.zero_le _⟩) hS (fun locs hS => ?_)
  rcases h01 with h01 | h01
  · subst h01
    refine lv_if_eq (tgt := 14) hx hb dL_hasAlarm_7 (by decide) (fun _ => ?_) (fun hc => absurd (rfl) hc)
    refine lv_lconst (v := 0) hx hb dL_hasAlarm_14 (by decide) ?_
    refine kr_lst (i := 0) hx hb hK hS ho (Or.inr rfl) (j := 0) (by decide) rfl (by decide) dL_hasAlarm_15 (fun H1 locs hU ho hS => ?_)
    have hw := hw.keep (fun k i hk => hU.2 _ (fun h => hoA (h ▸ (hw.1 k i hk).2)))
    refine lv_goto (tgt := 22) hx hb dL_hasAlarm_16 (by decide) ?_
    refine lv_iconst (v := 0) hx hb dL_hasAlarm_22 (by decide) ?_
    refine kend_i S hr hlocks hS ⟨rfl, ⟨ad, rfl, hw⟩, _, ho, fun _ => by simp [vp_updL]⟩ dL_hasAlarm_23
  · subst h01
    refine lv_if_eq (tgt := 14) hx hb dL_hasAlarm_7 (by decide) (fun hc => absurd hc (by decide)) (fun _ => ?_)
    refine lv_lconst (v := 1) hx hb dL_hasAlarm_10 (by decide) ?_
    refine lv_goto (tgt := 15) hx hb dL_hasAlarm_11 (by decide) ?_
    refine kr_lst (i := 0) hx hb hK hS ho (Or.inr rfl) (j := 0) (by decide) rfl (by decide) dL_hasAlarm_15 (fun H1 locs hU ho hS => ?_)
    have hw := hw.keep (fun k i hk => hU.2 _ (fun h => hoA (h ▸ (hw.1 k i hk).2)))
    refine lv_goto (tgt := 22) hx hb dL_hasAlarm_16 (by decide) ?_
    refine lv_iconst (v := 0) hx hb dL_hasAlarm_22 (by decide) ?_
    refine kend_i S hr hlocks hS ⟨rfl, ⟨ad, rfl, hw⟩, _, ho, fun _ => by simp [vp_updL]⟩ dL_hasAlarm_23
set_option maxHeartbeats 4000000 in
set_option maxRecDepth 100000 in
theorem yl_hasAlarmX1 (ε : kEnv) (l : Launch) {A : Nat → Prop} {ad : Nat → Nat → Nat} {σ : kS} {H : Heap} {o : Nat} {f : Nat → Int64} {x1 : Int32} (v : Int32) (hAb : ∀ q, A q → kHi ε q) (hoK : kHi ε o) (hoA : ¬ A o) (hw : kW ε A ad σ H) (ho : kat ε o (kJ ε 1 f) H) (hC : kX ε l yX4_hasAlarm wsX4_hasAlarm ({ frames := 7, cells := 1, slots := 6, locals := 120 }) [.ref (ad 0 0), .int x1] H "java/lang/IndexOutOfBoundsException") : kMi ε l yL_hasAlarm wsL_hasAlarm ({ frames := 11, cells := 1, slots := 6, locals := 310 }) [.ref (ad 0 0), .int x1, .ref o] H (kAo A o) (1) (6) (kLP ε A o (ad 0 0) (σ) 1 v) := by
  refine kofH (cc := cL_hasAlarm) (maxL := 4) (ret := (some .int)) (hh := [(0, 16, 19, 13)]) (by decide) rfl (Nat.le_of_ble_eq_true rfl) ?_
  intro p e s m below meth c ls S hr hlocks hT hH hE hl
  have S : CallFix p m c cL_hasAlarm 4 s _ wsL_hasAlarm RL := S
  have hx := S.1
  have hb := S.2.1
  have hown : s.vm.findClass RL = some m.cls := S.2.2.2.1
  have hts := S.2.2.2.2
  have hK := hE.1
  have hS : va_S (kAo A o) s.heap H [] := by rw [hH]; exact va_S.rf
  have hAw := hAb
  have hAb := kAo_hi hAb hoK
  have hl : lv_has ls 4 [(0, .ref (ad 0 0)), (1, .int x1), (2, .ref o)] := hl
  refine lv_aload_n hx hb dL_hasAlarm_0 rfl (lv_at hl 2 rfl) ?_
  refine lv_iconst (v := 0) hx hb dL_hasAlarm_1 (by decide) ?_
  refine lv_aload_n hx hb dL_hasAlarm_2 rfl (lv_at hl 0 rfl) ?_
  refine lv_iload_n hx hb dL_hasAlarm_3 rfl (lv_at hl 1 rfl) ?_
  refine kgo_x (kx_V (As := [.int x1]) (rest := [.int 0, .ref o]) S hE hS hAb hC (cwV 1 hts gL_hasAlarm_X4_hasAlarm rfl rfl rfl (by decide +kernel) ⟨Nat.le_of_ble_eq_true rfl, Nat.le_of_ble_eq_true rfl⟩) (hw.lv 0 0 (rfl : (0 : Nat) = 0)) rfl rfl hl.1 rfl (Nat.le_of_ble_eq_true rfl) dL_hasAlarm_4 ⟨Nat.le_refl _, Nat.le_refl _⟩) hS (fun ce q9 H1 locs h1 h2 hS h4 h5 h6 => ?_)
  have hw := hw.keep (fun k i hk => h2 _ (va_at.lt (hw.1 k i hk).1))
  have ho := va_at.kept ho (h2 o (va_at.lt ho))
  refine kcatch (E := "java/lang/IndexOutOfBoundsException") [] (0, 16, 19, 13) [] hE hown hT rfl (by decide) (by decide) (fun z hz => by simp at hz) (hts (.classLink RL 13 "java/lang/IndexOutOfBoundsException") (by decide +kernel)) (by decide +kernel) h4 h5 h6 ?_
  refine lv_astore_n (lv' := [(3, .ref q9), (0, .ref (ad 0 0)), (1, .int x1), (2, .ref o)]) hx hb dL_hasAlarm_19 rfl hl (by decide) rfl (fun ls hl => ?_)
  refine lv_iconst (v := 1) hx hb dL_hasAlarm_20 (by decide) ?_
  refine kend_i S hr hlocks hS ⟨rfl, ⟨ad, rfl, hw⟩, _, ho, fun h => absurd h (by decide)⟩ dL_hasAlarm_21
set_option maxHeartbeats 4000000 in
set_option maxRecDepth 100000 in
theorem yl_alarmCheck (ε : kEnv) (l : Launch) {A : Nat → Prop} {ad : Nat → Nat → Nat} {σ : kS} {H : Heap} {o : Nat} {f : Nat → Int64} {x1 : Int32} {v : Int32} (hAb : ∀ q, A q → kHi ε q) (hoK : kHi ε o) (hoA : ¬ A o) (hw : kW ε A ad σ H) (ho : kat ε o (kJ ε 1 f) H) (hC : kPi ε l yX4_alarmCheck wsX4_alarmCheck ({ frames := 5, cells := 0, slots := 0, locals := 120 }) [.ref (ad 0 0), .int x1] H v) : kMi ε l yL_alarmCheck wsL_alarmCheck ({ frames := 11, cells := 0, slots := 0, locals := 310 }) [.ref (ad 0 0), .int x1, .ref o] H (kAo A o) (0) (0) (kLP ε A o (ad 0 0) (σ) 0 v) := by
  refine kofH (cc := cL_alarmCheck) (maxL := 4) (ret := (some .int)) (hh := [(0, 9, 12, 13)]) (by decide) rfl (Nat.le_of_ble_eq_true rfl) ?_
  intro p e s m below meth c ls S hr hlocks hT hH hE hl
  have S : CallFix p m c cL_alarmCheck 4 s _ wsL_alarmCheck RL := S
  have hx := S.1
  have hb := S.2.1
  have hown : s.vm.findClass RL = some m.cls := S.2.2.2.1
  have hts := S.2.2.2.2
  have hK := hE.1
  have hS : va_S (kAo A o) s.heap H [] := by rw [hH]; exact va_S.rf
  have hAw := hAb
  have hAb := kAo_hi hAb hoK
  have hl : lv_has ls 4 [(0, .ref (ad 0 0)), (1, .int x1), (2, .ref o)] := hl
  refine lv_aload_n hx hb dL_alarmCheck_0 rfl (lv_at hl 2 rfl) ?_
  refine lv_iconst (v := 0) hx hb dL_alarmCheck_1 (by decide) ?_
  refine lv_aload_n hx hb dL_alarmCheck_2 rfl (lv_at hl 0 rfl) ?_
  refine lv_iload_n hx hb dL_alarmCheck_3 rfl (lv_at hl 1 rfl) ?_
  refine kgo_pi (v := v) (kc_V (As := [.int x1]) (rest := [.int 0, .ref o]) S hE hS hAb (hC) (cwV 1 hts gL_alarmCheck_X4_alarmCheck rfl rfl rfl (by decide +kernel) ⟨Nat.le_of_ble_eq_true rfl, Nat.le_of_ble_eq_true rfl⟩) (hw.lv 0 0 (rfl : (0 : Nat) = 0)) rfl rfl hl.1 rfl (Nat.le_of_ble_eq_true rfl) dL_alarmCheck_4 ⟨Nat.zero_le _, Nat.zero_le _⟩) hS (fun locs hS => ?_)
  refine lv_i2l (v := (v).toInt64) hx hb dL_alarmCheck_7 rfl ?_
  refine kr_lst (i := 0) hx hb hK hS ho (Or.inr rfl) (j := 0) (by decide) rfl (by decide) dL_alarmCheck_8 (fun H1 locs hU ho hS => ?_)
  have hw := hw.keep (fun k i hk => hU.2 _ (fun h => hoA (h ▸ (hw.1 k i hk).2)))
  refine lv_goto (tgt := 15) hx hb dL_alarmCheck_9 (by decide) ?_
  refine lv_iconst (v := 0) hx hb dL_alarmCheck_15 (by decide) ?_
  refine kend_i S hr hlocks hS ⟨rfl, ⟨ad, rfl, hw⟩, _, ho, fun _ => by simp [vp_updL]⟩ dL_alarmCheck_16
set_option maxHeartbeats 4000000 in
set_option maxRecDepth 100000 in
theorem yl_alarmCheckX1 (ε : kEnv) (l : Launch) {A : Nat → Prop} {ad : Nat → Nat → Nat} {σ : kS} {H : Heap} {o : Nat} {f : Nat → Int64} {x1 : Int32} (v : Int32) (hAb : ∀ q, A q → kHi ε q) (hoK : kHi ε o) (hoA : ¬ A o) (hw : kW ε A ad σ H) (ho : kat ε o (kJ ε 1 f) H) (hC : kX ε l yX4_alarmCheck wsX4_alarmCheck ({ frames := 7, cells := 1, slots := 6, locals := 120 }) [.ref (ad 0 0), .int x1] H "java/lang/IndexOutOfBoundsException") : kMi ε l yL_alarmCheck wsL_alarmCheck ({ frames := 11, cells := 1, slots := 6, locals := 310 }) [.ref (ad 0 0), .int x1, .ref o] H (kAo A o) (1) (6) (kLP ε A o (ad 0 0) (σ) 1 v) := by
  refine kofH (cc := cL_alarmCheck) (maxL := 4) (ret := (some .int)) (hh := [(0, 9, 12, 13)]) (by decide) rfl (Nat.le_of_ble_eq_true rfl) ?_
  intro p e s m below meth c ls S hr hlocks hT hH hE hl
  have S : CallFix p m c cL_alarmCheck 4 s _ wsL_alarmCheck RL := S
  have hx := S.1
  have hb := S.2.1
  have hown : s.vm.findClass RL = some m.cls := S.2.2.2.1
  have hts := S.2.2.2.2
  have hK := hE.1
  have hS : va_S (kAo A o) s.heap H [] := by rw [hH]; exact va_S.rf
  have hAw := hAb
  have hAb := kAo_hi hAb hoK
  have hl : lv_has ls 4 [(0, .ref (ad 0 0)), (1, .int x1), (2, .ref o)] := hl
  refine lv_aload_n hx hb dL_alarmCheck_0 rfl (lv_at hl 2 rfl) ?_
  refine lv_iconst (v := 0) hx hb dL_alarmCheck_1 (by decide) ?_
  refine lv_aload_n hx hb dL_alarmCheck_2 rfl (lv_at hl 0 rfl) ?_
  refine lv_iload_n hx hb dL_alarmCheck_3 rfl (lv_at hl 1 rfl) ?_
  refine kgo_x (kx_V (As := [.int x1]) (rest := [.int 0, .ref o]) S hE hS hAb hC (cwV 1 hts gL_alarmCheck_X4_alarmCheck rfl rfl rfl (by decide +kernel) ⟨Nat.le_of_ble_eq_true rfl, Nat.le_of_ble_eq_true rfl⟩) (hw.lv 0 0 (rfl : (0 : Nat) = 0)) rfl rfl hl.1 rfl (Nat.le_of_ble_eq_true rfl) dL_alarmCheck_4 ⟨Nat.le_refl _, Nat.le_refl _⟩) hS (fun ce q9 H1 locs h1 h2 hS h4 h5 h6 => ?_)
  have hw := hw.keep (fun k i hk => h2 _ (va_at.lt (hw.1 k i hk).1))
  have ho := va_at.kept ho (h2 o (va_at.lt ho))
  refine kcatch (E := "java/lang/IndexOutOfBoundsException") [] (0, 9, 12, 13) [] hE hown hT rfl (by decide) (by decide) (fun z hz => by simp at hz) (hts (.classLink RL 13 "java/lang/IndexOutOfBoundsException") (by decide +kernel)) (by decide +kernel) h4 h5 h6 ?_
  refine lv_astore_n (lv' := [(3, .ref q9), (0, .ref (ad 0 0)), (1, .int x1), (2, .ref o)]) hx hb dL_alarmCheck_12 rfl hl (by decide) rfl (fun ls hl => ?_)
  refine lv_iconst (v := 1) hx hb dL_alarmCheck_13 (by decide) ?_
  refine kend_i S hr hlocks hS ⟨rfl, ⟨ad, rfl, hw⟩, _, ho, fun h => absurd h (by decide)⟩ dL_alarmCheck_14
set_option maxHeartbeats 4000000 in
set_option maxRecDepth 100000 in
theorem yl_alarmRaised (ε : kEnv) (l : Launch) {A : Nat → Prop} {ad : Nat → Nat → Nat} {σ : kS} {H : Heap} {o : Nat} {f : Nat → Int64} {x1 : Int32} {v : Int32} (hAb : ∀ q, A q → kHi ε q) (hoK : kHi ε o) (hoA : ¬ A o) (hw : kW ε A ad σ H) (ho : kat ε o (kJ ε 1 f) H) (hC : kPi ε l yX4_alarmRaised wsX4_alarmRaised ({ frames := 5, cells := 0, slots := 0, locals := 120 }) [.ref (ad 0 0), .int x1] H v) : kMi ε l yL_alarmRaised wsL_alarmRaised ({ frames := 11, cells := 0, slots := 0, locals := 310 }) [.ref (ad 0 0), .int x1, .ref o] H (kAo A o) (0) (0) (kLP ε A o (ad 0 0) (σ) 0 v) := by
  refine kofH (cc := cL_alarmRaised) (maxL := 4) (ret := (some .int)) (hh := [(0, 9, 12, 13)]) (by decide) rfl (Nat.le_of_ble_eq_true rfl) ?_
  intro p e s m below meth c ls S hr hlocks hT hH hE hl
  have S : CallFix p m c cL_alarmRaised 4 s _ wsL_alarmRaised RL := S
  have hx := S.1
  have hb := S.2.1
  have hown : s.vm.findClass RL = some m.cls := S.2.2.2.1
  have hts := S.2.2.2.2
  have hK := hE.1
  have hS : va_S (kAo A o) s.heap H [] := by rw [hH]; exact va_S.rf
  have hAw := hAb
  have hAb := kAo_hi hAb hoK
  have hl : lv_has ls 4 [(0, .ref (ad 0 0)), (1, .int x1), (2, .ref o)] := hl
  refine lv_aload_n hx hb dL_alarmRaised_0 rfl (lv_at hl 2 rfl) ?_
  refine lv_iconst (v := 0) hx hb dL_alarmRaised_1 (by decide) ?_
  refine lv_aload_n hx hb dL_alarmRaised_2 rfl (lv_at hl 0 rfl) ?_
  refine lv_iload_n hx hb dL_alarmRaised_3 rfl (lv_at hl 1 rfl) ?_
  refine kgo_pi (v := v) (kc_V (As := [.int x1]) (rest := [.int 0, .ref o]) S hE hS hAb (hC) (cwV 1 hts gL_alarmRaised_X4_alarmRaised rfl rfl rfl (by decide +kernel) ⟨Nat.le_of_ble_eq_true rfl, Nat.le_of_ble_eq_true rfl⟩) (hw.lv 0 0 (rfl : (0 : Nat) = 0)) rfl rfl hl.1 rfl (Nat.le_of_ble_eq_true rfl) dL_alarmRaised_4 ⟨Nat.zero_le _, Nat.zero_le _⟩) hS (fun locs hS => ?_)
  refine lv_i2l (v := (v).toInt64) hx hb dL_alarmRaised_7 rfl ?_
  refine kr_lst (i := 0) hx hb hK hS ho (Or.inr rfl) (j := 0) (by decide) rfl (by decide) dL_alarmRaised_8 (fun H1 locs hU ho hS => ?_)
  have hw := hw.keep (fun k i hk => hU.2 _ (fun h => hoA (h ▸ (hw.1 k i hk).2)))
  refine lv_goto (tgt := 15) hx hb dL_alarmRaised_9 (by decide) ?_
  refine lv_iconst (v := 0) hx hb dL_alarmRaised_15 (by decide) ?_
  refine kend_i S hr hlocks hS ⟨rfl, ⟨ad, rfl, hw⟩, _, ho, fun _ => by simp [vp_updL]⟩ dL_alarmRaised_16
set_option maxHeartbeats 4000000 in
set_option maxRecDepth 100000 in
theorem yl_alarmRaisedX1 (ε : kEnv) (l : Launch) {A : Nat → Prop} {ad : Nat → Nat → Nat} {σ : kS} {H : Heap} {o : Nat} {f : Nat → Int64} {x1 : Int32} (v : Int32) (hAb : ∀ q, A q → kHi ε q) (hoK : kHi ε o) (hoA : ¬ A o) (hw : kW ε A ad σ H) (ho : kat ε o (kJ ε 1 f) H) (hC : kX ε l yX4_alarmRaised wsX4_alarmRaised ({ frames := 7, cells := 1, slots := 6, locals := 120 }) [.ref (ad 0 0), .int x1] H "java/lang/IndexOutOfBoundsException") : kMi ε l yL_alarmRaised wsL_alarmRaised ({ frames := 11, cells := 1, slots := 6, locals := 310 }) [.ref (ad 0 0), .int x1, .ref o] H (kAo A o) (1) (6) (kLP ε A o (ad 0 0) (σ) 1 v) := by
  refine kofH (cc := cL_alarmRaised) (maxL := 4) (ret := (some .int)) (hh := [(0, 9, 12, 13)]) (by decide) rfl (Nat.le_of_ble_eq_true rfl) ?_
  intro p e s m below meth c ls S hr hlocks hT hH hE hl
  have S : CallFix p m c cL_alarmRaised 4 s _ wsL_alarmRaised RL := S
  have hx := S.1
  have hb := S.2.1
  have hown : s.vm.findClass RL = some m.cls := S.2.2.2.1
  have hts := S.2.2.2.2
  have hK := hE.1
  have hS : va_S (kAo A o) s.heap H [] := by rw [hH]; exact va_S.rf
  have hAw := hAb
  have hAb := kAo_hi hAb hoK
  have hl : lv_has ls 4 [(0, .ref (ad 0 0)), (1, .int x1), (2, .ref o)] := hl
  refine lv_aload_n hx hb dL_alarmRaised_0 rfl (lv_at hl 2 rfl) ?_
  refine lv_iconst (v := 0) hx hb dL_alarmRaised_1 (by decide) ?_
  refine lv_aload_n hx hb dL_alarmRaised_2 rfl (lv_at hl 0 rfl) ?_
  refine lv_iload_n hx hb dL_alarmRaised_3 rfl (lv_at hl 1 rfl) ?_
  refine kgo_x (kx_V (As := [.int x1]) (rest := [.int 0, .ref o]) S hE hS hAb hC (cwV 1 hts gL_alarmRaised_X4_alarmRaised rfl rfl rfl (by decide +kernel) ⟨Nat.le_of_ble_eq_true rfl, Nat.le_of_ble_eq_true rfl⟩) (hw.lv 0 0 (rfl : (0 : Nat) = 0)) rfl rfl hl.1 rfl (Nat.le_of_ble_eq_true rfl) dL_alarmRaised_4 ⟨Nat.le_refl _, Nat.le_refl _⟩) hS (fun ce q9 H1 locs h1 h2 hS h4 h5 h6 => ?_)
  have hw := hw.keep (fun k i hk => h2 _ (va_at.lt (hw.1 k i hk).1))
  have ho := va_at.kept ho (h2 o (va_at.lt ho))
  refine kcatch (E := "java/lang/IndexOutOfBoundsException") [] (0, 9, 12, 13) [] hE hown hT rfl (by decide) (by decide) (fun z hz => by simp at hz) (hts (.classLink RL 13 "java/lang/IndexOutOfBoundsException") (by decide +kernel)) (by decide +kernel) h4 h5 h6 ?_
  refine lv_astore_n (lv' := [(3, .ref q9), (0, .ref (ad 0 0)), (1, .int x1), (2, .ref o)]) hx hb dL_alarmRaised_12 rfl hl (by decide) rfl (fun ls hl => ?_)
  refine lv_iconst (v := 1) hx hb dL_alarmRaised_13 (by decide) ?_
  refine kend_i S hr hlocks hS ⟨rfl, ⟨ad, rfl, hw⟩, _, ho, fun h => absurd h (by decide)⟩ dL_alarmRaised_14
set_option maxHeartbeats 4000000 in
set_option maxRecDepth 100000 in
theorem yl_alarmClosed (ε : kEnv) (l : Launch) {A : Nat → Prop} {ad : Nat → Nat → Nat} {σ : kS} {H : Heap} {o : Nat} {f : Nat → Int64} {x1 : Int32} {v : Int32} (hAb : ∀ q, A q → kHi ε q) (hoK : kHi ε o) (hoA : ¬ A o) (hw : kW ε A ad σ H) (ho : kat ε o (kJ ε 1 f) H) (hC : kPi ε l yX4_alarmClosed wsX4_alarmClosed ({ frames := 5, cells := 0, slots := 0, locals := 120 }) [.ref (ad 0 0), .int x1] H v) : kMi ε l yL_alarmClosed wsL_alarmClosed ({ frames := 11, cells := 0, slots := 0, locals := 310 }) [.ref (ad 0 0), .int x1, .ref o] H (kAo A o) (0) (0) (kLP ε A o (ad 0 0) (σ) 0 v) := by
  refine kofH (cc := cL_alarmClosed) (maxL := 4) (ret := (some .int)) (hh := [(0, 9, 12, 13)]) (by decide) rfl (Nat.le_of_ble_eq_true rfl) ?_
  intro p e s m below meth c ls S hr hlocks hT hH hE hl
  have S : CallFix p m c cL_alarmClosed 4 s _ wsL_alarmClosed RL := S
  have hx := S.1
  have hb := S.2.1
  have hown : s.vm.findClass RL = some m.cls := S.2.2.2.1
  have hts := S.2.2.2.2
  have hK := hE.1
  have hS : va_S (kAo A o) s.heap H [] := by rw [hH]; exact va_S.rf
  have hAw := hAb
  have hAb := kAo_hi hAb hoK
  have hl : lv_has ls 4 [(0, .ref (ad 0 0)), (1, .int x1), (2, .ref o)] := hl
  refine lv_aload_n hx hb dL_alarmClosed_0 rfl (lv_at hl 2 rfl) ?_
  refine lv_iconst (v := 0) hx hb dL_alarmClosed_1 (by decide) ?_
  refine lv_aload_n hx hb dL_alarmClosed_2 rfl (lv_at hl 0 rfl) ?_
  refine lv_iload_n hx hb dL_alarmClosed_3 rfl (lv_at hl 1 rfl) ?_
  refine kgo_pi (v := v) (kc_V (As := [.int x1]) (rest := [.int 0, .ref o]) S hE hS hAb (hC) (cwV 1 hts gL_alarmClosed_X4_alarmClosed rfl rfl rfl (by decide +kernel) ⟨Nat.le_of_ble_eq_true rfl, Nat.le_of_ble_eq_true rfl⟩) (hw.lv 0 0 (rfl : (0 : Nat) = 0)) rfl rfl hl.1 rfl (Nat.le_of_ble_eq_true rfl) dL_alarmClosed_4 ⟨Nat.zero_le _, Nat.zero_le _⟩) hS (fun locs hS => ?_)
  refine lv_i2l (v := (v).toInt64) hx hb dL_alarmClosed_7 rfl ?_
  refine kr_lst (i := 0) hx hb hK hS ho (Or.inr rfl) (j := 0) (by decide) rfl (by decide) dL_alarmClosed_8 (fun H1 locs hU ho hS => ?_)
  have hw := hw.keep (fun k i hk => hU.2 _ (fun h => hoA (h ▸ (hw.1 k i hk).2)))
  refine lv_goto (tgt := 15) hx hb dL_alarmClosed_9 (by decide) ?_
  refine lv_iconst (v := 0) hx hb dL_alarmClosed_15 (by decide) ?_
  refine kend_i S hr hlocks hS ⟨rfl, ⟨ad, rfl, hw⟩, _, ho, fun _ => by simp [vp_updL]⟩ dL_alarmClosed_16
set_option maxHeartbeats 4000000 in
set_option maxRecDepth 100000 in
theorem yl_alarmClosedX1 (ε : kEnv) (l : Launch) {A : Nat → Prop} {ad : Nat → Nat → Nat} {σ : kS} {H : Heap} {o : Nat} {f : Nat → Int64} {x1 : Int32} (v : Int32) (hAb : ∀ q, A q → kHi ε q) (hoK : kHi ε o) (hoA : ¬ A o) (hw : kW ε A ad σ H) (ho : kat ε o (kJ ε 1 f) H) (hC : kX ε l yX4_alarmClosed wsX4_alarmClosed ({ frames := 7, cells := 1, slots := 6, locals := 120 }) [.ref (ad 0 0), .int x1] H "java/lang/IndexOutOfBoundsException") : kMi ε l yL_alarmClosed wsL_alarmClosed ({ frames := 11, cells := 1, slots := 6, locals := 310 }) [.ref (ad 0 0), .int x1, .ref o] H (kAo A o) (1) (6) (kLP ε A o (ad 0 0) (σ) 1 v) := by
  refine kofH (cc := cL_alarmClosed) (maxL := 4) (ret := (some .int)) (hh := [(0, 9, 12, 13)]) (by decide) rfl (Nat.le_of_ble_eq_true rfl) ?_
  intro p e s m below meth c ls S hr hlocks hT hH hE hl
  have S : CallFix p m c cL_alarmClosed 4 s _ wsL_alarmClosed RL := S
  have hx := S.1
  have hb := S.2.1
  have hown : s.vm.findClass RL = some m.cls := S.2.2.2.1
  have hts := S.2.2.2.2
  have hK := hE.1
  have hS : va_S (kAo A o) s.heap H [] := by rw [hH]; exact va_S.rf
  have hAw := hAb
  have hAb := kAo_hi hAb hoK
  have hl : lv_has ls 4 [(0, .ref (ad 0 0)), (1, .int x1), (2, .ref o)] := hl
  refine lv_aload_n hx hb dL_alarmClosed_0 rfl (lv_at hl 2 rfl) ?_
  refine lv_iconst (v := 0) hx hb dL_alarmClosed_1 (by decide) ?_
  refine lv_aload_n hx hb dL_alarmClosed_2 rfl (lv_at hl 0 rfl) ?_
  refine lv_iload_n hx hb dL_alarmClosed_3 rfl (lv_at hl 1 rfl) ?_
  refine kgo_x (kx_V (As := [.int x1]) (rest := [.int 0, .ref o]) S hE hS hAb hC (cwV 1 hts gL_alarmClosed_X4_alarmClosed rfl rfl rfl (by decide +kernel) ⟨Nat.le_of_ble_eq_true rfl, Nat.le_of_ble_eq_true rfl⟩) (hw.lv 0 0 (rfl : (0 : Nat) = 0)) rfl rfl hl.1 rfl (Nat.le_of_ble_eq_true rfl) dL_alarmClosed_4 ⟨Nat.le_refl _, Nat.le_refl _⟩) hS (fun ce q9 H1 locs h1 h2 hS h4 h5 h6 => ?_)
  have hw := hw.keep (fun k i hk => h2 _ (va_at.lt (hw.1 k i hk).1))
  have ho := va_at.kept ho (h2 o (va_at.lt ho))
  refine kcatch (E := "java/lang/IndexOutOfBoundsException") [] (0, 9, 12, 13) [] hE hown hT rfl (by decide) (by decide) (fun z hz => by simp at hz) (hts (.classLink RL 13 "java/lang/IndexOutOfBoundsException") (by decide +kernel)) (by decide +kernel) h4 h5 h6 ?_
  refine lv_astore_n (lv' := [(3, .ref q9), (0, .ref (ad 0 0)), (1, .int x1), (2, .ref o)]) hx hb dL_alarmClosed_12 rfl hl (by decide) rfl (fun ls hl => ?_)
  refine lv_iconst (v := 1) hx hb dL_alarmClosed_13 (by decide) ?_
  refine kend_i S hr hlocks hS ⟨rfl, ⟨ad, rfl, hw⟩, _, ho, fun h => absurd h (by decide)⟩ dL_alarmClosed_14
set_option maxHeartbeats 4000000 in
set_option maxRecDepth 100000 in
theorem yl_availability (ε : kEnv) (l : Launch) {A : Nat → Prop} {ad : Nat → Nat → Nat} {σ : kS} {H : Heap} {o : Nat} {f : Nat → UInt64} {x1 : Int32} {v : UInt32} (hAb : ∀ q, A q → kHi ε q) (hoK : kHi ε o) (hoA : ¬ A o) (hw : kW ε A ad σ H) (ho : kat ε o (kD ε 1 f) H) (hC : kPf ε l yX4_availability wsX4_availability ({ frames := 5, cells := 0, slots := 0, locals := 120 }) [.ref (ad 0 0), .int x1] H v) (hv : vf_n32 v) : kMi ε l yL_availability wsL_availability ({ frames := 11, cells := 0, slots := 0, locals := 310 }) [.ref (ad 0 0), .int x1, .ref o] H (kAo A o) (0) (0) (kLD ε A o (ad 0 0) (σ) 0 v) := by
  refine kofH (cc := cL_availability) (maxL := 4) (ret := (some .int)) (hh := [(0, 9, 12, 13), (0, 9, 15, 15)]) (by decide) rfl (Nat.le_of_ble_eq_true rfl) ?_
  intro p e s m below meth c ls S hr hlocks hT hH hE hl
  have S : CallFix p m c cL_availability 4 s _ wsL_availability RL := S
  have hx := S.1
  have hb := S.2.1
  have hown : s.vm.findClass RL = some m.cls := S.2.2.2.1
  have hts := S.2.2.2.2
  have hK := hE.1
  have hS : va_S (kAo A o) s.heap H [] := by rw [hH]; exact va_S.rf
  have hAw := hAb
  have hAb := kAo_hi hAb hoK
  have hl : lv_has ls 4 [(0, .ref (ad 0 0)), (1, .int x1), (2, .ref o)] := hl
  refine lv_aload_n hx hb dL_availability_0 rfl (lv_at hl 2 rfl) ?_
  refine lv_iconst (v := 0) hx hb dL_availability_1 (by decide) ?_
  refine lv_aload_n hx hb dL_availability_2 rfl (lv_at hl 0 rfl) ?_
  refine lv_iload_n hx hb dL_availability_3 rfl (lv_at hl 1 rfl) ?_
  refine kgo_pf (v := v) (kc_V (As := [.int x1]) (rest := [.int 0, .ref o]) S hE hS hAb hC (cwV 1 hts gL_availability_X4_availability rfl rfl rfl (by decide +kernel) ⟨Nat.le_of_ble_eq_true rfl, Nat.le_of_ble_eq_true rfl⟩) (hw.lv 0 0 (rfl : (0 : Nat) = 0)) rfl rfl hl.1 rfl (Nat.le_of_ble_eq_true rfl) dL_availability_4 ⟨Nat.le_refl _, Nat.le_refl _⟩) hS (fun locs hS => ?_)
  refine lv_f2d hx hb dL_availability_7 (kf_n64 hv) ?_
  refine kr_dst (i := 0) hx hb hK hS ho (Or.inr rfl) (j := 0) (by decide) rfl (by decide) dL_availability_8 (fun H1 locs hU ho hS => ?_)
  have hw := hw.keep (fun k i hk => hU.2 _ (fun h => hoA (h ▸ (hw.1 k i hk).2)))
  refine lv_goto (tgt := 18) hx hb dL_availability_9 (by decide) ?_
  refine lv_iconst (v := 0) hx hb dL_availability_18 (by decide) ?_
  refine kend_i S hr hlocks hS ⟨rfl, ⟨ad, rfl, hw⟩, _, ho, fun _ => by simp [vf_upd]⟩ dL_availability_19
set_option maxHeartbeats 4000000 in
set_option maxRecDepth 100000 in
theorem yl_availabilityX1 (ε : kEnv) (l : Launch) {A : Nat → Prop} {ad : Nat → Nat → Nat} {σ : kS} {H : Heap} {o : Nat} {f : Nat → UInt64} {x1 : Int32} (v : UInt32) (hAb : ∀ q, A q → kHi ε q) (hoK : kHi ε o) (hoA : ¬ A o) (hw : kW ε A ad σ H) (ho : kat ε o (kD ε 1 f) H) (hC : kX ε l yX4_availability wsX4_availability ({ frames := 7, cells := 1, slots := 6, locals := 120 }) [.ref (ad 0 0), .int x1] H "java/lang/IndexOutOfBoundsException") : kMi ε l yL_availability wsL_availability ({ frames := 11, cells := 1, slots := 6, locals := 310 }) [.ref (ad 0 0), .int x1, .ref o] H (kAo A o) (1) (6) (kLD ε A o (ad 0 0) (σ) 1 v) := by
  refine kofH (cc := cL_availability) (maxL := 4) (ret := (some .int)) (hh := [(0, 9, 12, 13), (0, 9, 15, 15)]) (by decide) rfl (Nat.le_of_ble_eq_true rfl) ?_
  intro p e s m below meth c ls S hr hlocks hT hH hE hl
  have S : CallFix p m c cL_availability 4 s _ wsL_availability RL := S
  have hx := S.1
  have hb := S.2.1
  have hown : s.vm.findClass RL = some m.cls := S.2.2.2.1
  have hts := S.2.2.2.2
  have hK := hE.1
  have hS : va_S (kAo A o) s.heap H [] := by rw [hH]; exact va_S.rf
  have hAw := hAb
  have hAb := kAo_hi hAb hoK
  have hl : lv_has ls 4 [(0, .ref (ad 0 0)), (1, .int x1), (2, .ref o)] := hl
  refine lv_aload_n hx hb dL_availability_0 rfl (lv_at hl 2 rfl) ?_
  refine lv_iconst (v := 0) hx hb dL_availability_1 (by decide) ?_
  refine lv_aload_n hx hb dL_availability_2 rfl (lv_at hl 0 rfl) ?_
  refine lv_iload_n hx hb dL_availability_3 rfl (lv_at hl 1 rfl) ?_
  refine kgo_x (kx_V (As := [.int x1]) (rest := [.int 0, .ref o]) S hE hS hAb hC (cwV 1 hts gL_availability_X4_availability rfl rfl rfl (by decide +kernel) ⟨Nat.le_of_ble_eq_true rfl, Nat.le_of_ble_eq_true rfl⟩) (hw.lv 0 0 (rfl : (0 : Nat) = 0)) rfl rfl hl.1 rfl (Nat.le_of_ble_eq_true rfl) dL_availability_4 ⟨Nat.le_refl _, Nat.le_refl _⟩) hS (fun ce q9 H1 locs h1 h2 hS h4 h5 h6 => ?_)
  have hw := hw.keep (fun k i hk => h2 _ (va_at.lt (hw.1 k i hk).1))
  have ho := va_at.kept ho (h2 o (va_at.lt ho))
  refine kcatch (E := "java/lang/IndexOutOfBoundsException") [] (0, 9, 12, 13) [(0, 9, 15, 15)] hE hown hT rfl (by decide) (by decide) (fun z hz => by simp at hz) (hts (.classLink RL 13 "java/lang/IndexOutOfBoundsException") (by decide +kernel)) (by decide +kernel) h4 h5 h6 ?_
  refine lv_astore_n (lv' := [(3, .ref q9), (0, .ref (ad 0 0)), (1, .int x1), (2, .ref o)]) hx hb dL_availability_12 rfl hl (by decide) rfl (fun ls hl => ?_)
  refine lv_iconst (v := 1) hx hb dL_availability_13 (by decide) ?_
  refine kend_i S hr hlocks hS ⟨rfl, ⟨ad, rfl, hw⟩, _, ho, fun h => absurd h (by decide)⟩ dL_availability_14
set_option maxHeartbeats 4000000 in
set_option maxRecDepth 100000 in
theorem yl_availabilityX2 (ε : kEnv) (l : Launch) {A : Nat → Prop} {ad : Nat → Nat → Nat} {σ : kS} {H : Heap} {o : Nat} {f : Nat → UInt64} {x1 : Int32} (v : UInt32) (hAb : ∀ q, A q → kHi ε q) (hoK : kHi ε o) (hoA : ¬ A o) (hw : kW ε A ad σ H) (ho : kat ε o (kD ε 1 f) H) (hC : kX ε l yX4_availability wsX4_availability ({ frames := 7, cells := 1, slots := 6, locals := 120 }) [.ref (ad 0 0), .int x1] H "java/lang/IllegalStateException") : kMi ε l yL_availability wsL_availability ({ frames := 11, cells := 1, slots := 6, locals := 310 }) [.ref (ad 0 0), .int x1, .ref o] H (kAo A o) (1) (6) (kLD ε A o (ad 0 0) (σ) 2 v) := by
  refine kofH (cc := cL_availability) (maxL := 4) (ret := (some .int)) (hh := [(0, 9, 12, 13), (0, 9, 15, 15)]) (by decide) rfl (Nat.le_of_ble_eq_true rfl) ?_
  intro p e s m below meth c ls S hr hlocks hT hH hE hl
  have S : CallFix p m c cL_availability 4 s _ wsL_availability RL := S
  have hx := S.1
  have hb := S.2.1
  have hown : s.vm.findClass RL = some m.cls := S.2.2.2.1
  have hts := S.2.2.2.2
  have hK := hE.1
  have hS : va_S (kAo A o) s.heap H [] := by rw [hH]; exact va_S.rf
  have hAw := hAb
  have hAb := kAo_hi hAb hoK
  have hl : lv_has ls 4 [(0, .ref (ad 0 0)), (1, .int x1), (2, .ref o)] := hl
  refine lv_aload_n hx hb dL_availability_0 rfl (lv_at hl 2 rfl) ?_
  refine lv_iconst (v := 0) hx hb dL_availability_1 (by decide) ?_
  refine lv_aload_n hx hb dL_availability_2 rfl (lv_at hl 0 rfl) ?_
  refine lv_iload_n hx hb dL_availability_3 rfl (lv_at hl 1 rfl) ?_
  refine kgo_x (kx_V (As := [.int x1]) (rest := [.int 0, .ref o]) S hE hS hAb hC (cwV 1 hts gL_availability_X4_availability rfl rfl rfl (by decide +kernel) ⟨Nat.le_of_ble_eq_true rfl, Nat.le_of_ble_eq_true rfl⟩) (hw.lv 0 0 (rfl : (0 : Nat) = 0)) rfl rfl hl.1 rfl (Nat.le_of_ble_eq_true rfl) dL_availability_4 ⟨Nat.le_refl _, Nat.le_refl _⟩) hS (fun ce q9 H1 locs h1 h2 hS h4 h5 h6 => ?_)
  have hw := hw.keep (fun k i hk => h2 _ (va_at.lt (hw.1 k i hk).1))
  have ho := va_at.kept ho (h2 o (va_at.lt ho))
  refine kcatch (E := "java/lang/IllegalStateException") [(0, 9, 12, 13)] (0, 9, 15, 15) [] hE hown hT rfl (by decide) (by decide) (fun z hz => by
      simp only [List.mem_cons, List.not_mem_nil, or_false] at hz
      rcases hz with rfl
      · exact ⟨by decide, "java/lang/IndexOutOfBoundsException", hts (.classLink RL 13 "java/lang/IndexOutOfBoundsException") (by decide +kernel), by decide +kernel⟩) (hts (.classLink RL 15 "java/lang/IllegalStateException") (by decide +kernel)) (by decide +kernel) h4 h5 h6 ?_
  refine lv_astore_n (lv' := [(3, .ref q9), (0, .ref (ad 0 0)), (1, .int x1), (2, .ref o)]) hx hb dL_availability_15 rfl hl (by decide) rfl (fun ls hl => ?_)
  refine lv_iconst (v := 2) hx hb dL_availability_16 (by decide) ?_
  refine kend_i S hr hlocks hS ⟨rfl, ⟨ad, rfl, hw⟩, _, ho, fun h => absurd h (by decide)⟩ dL_availability_17
end KLW
