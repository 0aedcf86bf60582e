/-! ===== refuses: what there is not is refused, and nothing changes ===== -/
theorem kmx (n : Nat) : nI n ≤ 2147483647 := by
  rw [Int32.le_iff_toInt_le]
  exact Int32.toInt_le _
theorem kne_m1 {n : Nat} (h : n < 2 ^ 31) : ¬ nI n = -1 := fun e => by
  have h1 := congrArg Int32.toInt e
  rw [nI_toInt (by omega)] at h1
  have h2 : (-1 : Int32).toInt = -1 := by decide
  omega
section KRFS
variable {p : Program} {l : Launch} {e : Env} {s : State} {m : MethodId} {args : Array Value} {below : List Frame} {meth : Method} {c : Code} {H : Heap} {locs : List Loc} {Q : State → Prop} {ls : Array Slot}
variable {ε : kEnv} {A : Nat → Prop} {ad : Nat → Nat → Nat} {σ : kS}
set_option maxHeartbeats 4000000 in
set_option maxRecDepth 100000 in
theorem rf_0 (S : CallFix p m c cL_refuses 14 s args wsL_refuses RL) (hE : kE ε s) (hst : l.stackTraces = false) (hw : kW ε A ad σ H) (hB : kB σ) (h2 : 0 < σ 2 0) (hS : va_S kNo s.heap H locs) (hl : lv_has ls 14 [(0, .ref (ad 0 0)), (1, .int (nI (σ 1 0))), (2, .int (nI (σ 2 0))), (3, .int (nI (σ 3 0))), (4, .int (nI (σ 0 0))), (5, .int (nI (σ 4 0))), (6, .int 2147483647), (7, .int 0)])
    (KK : ∀ (H' : Heap) (locs' : List Loc) (ls' : Array Slot), kW ε A ad σ H' → va_S kNo s.heap H' locs' → lv_has ls' 14 [(0, .ref (ad 0 0)), (1, .int (nI (σ 1 0))), (2, .int (nI (σ 2 0))), (3, .int (nI (σ 3 0))), (4, .int (nI (σ 0 0))), (5, .int (nI (σ 4 0))), (6, .int 2147483647), (7, .int 1)] → W p l e ({ frames := 12, cells := 128, slots := 768, locals := 360 }) s m args below meth c H' locs' 32 192 Q (F0 m 19 ls' [])) : W p l e ({ frames := 12, cells := 128, slots := 768, locals := 360 }) s m args below meth c H locs 0 0 Q (F0 m 19 ls []) := by
  have hx := S.1
  have hb := S.2.1
  have hown : s.vm.findClass RL = some m.cls := S.2.2.2.1
  have hts := S.2.2.2.2
  have hK := hE.1
  have hAb : ∀ q, kNo q → kHi ε q := fun _ h => h.elim
  refine lv_iload hx hb dL_refuses_19 (lv_at hl 7 rfl) ?_
  refine lv_iconst (v := 4) hx hb dL_refuses_21 (by decide) ?_
  refine lv_icmp_ge (tgt := 669) hx hb dL_refuses_22 (by decide) (fun hc => absurd hc (by decide)) (fun _ => ?_)
  refine lv_iload hx hb dL_refuses_25 (lv_at hl 7 rfl) ?_
  refine lv_if_ne (tgt := 34) hx hb dL_refuses_27 (by decide) (fun hc => absurd (by decide) hc) (fun _ => ?_)
  refine lv_iconst (v := -1) hx hb dL_refuses_30 (by decide) ?_
  refine lv_goto (tgt := 50) hx hb dL_refuses_31 (by decide) ?_
  refine lv_istore (lv' := [(8, .int (-1)), (0, .ref (ad 0 0)), (1, .int (nI (σ 1 0))), (2, .int (nI (σ 2 0))), (3, .int (nI (σ 3 0))), (4, .int (nI (σ 0 0))), (5, .int (nI (σ 4 0))), (6, .int 2147483647), (7, .int 0)]) hx hb dL_refuses_50 hl (by decide) rfl (fun ls hl => ?_)
  refine lv_iload hx hb dL_refuses_52 (lv_at hl 8 rfl) ?_
  refine lv_iconst (v := 1) hx hb dL_refuses_54 (by decide) ?_
  refine lv_icmp_ne (tgt := 62) hx hb dL_refuses_55 (by decide) (fun _ => ?_) (fun hc => absurd hc (by decide))
  refine lv_iload hx hb dL_refuses_62 (lv_at hl 0 rfl) ?_
  refine lv_istore (lv' := [(9, .int (-1)), (8, .int (-1)), (0, .ref (ad 0 0)), (1, .int (nI (σ 1 0))), (2, .int (nI (σ 2 0))), (3, .int (nI (σ 3 0))), (4, .int (nI (σ 0 0))), (5, .int (nI (σ 4 0))), (6, .int 2147483647), (7, .int 0)]) hx hb dL_refuses_64 hl (by decide) rfl (fun ls hl => ?_)
  refine lv_iload hx hb dL_refuses_66 (lv_at hl 9 rfl) ?_
  refine lv_iconst (v := 1) hx hb dL_refuses_68 (by decide) ?_
  refine lv_icmp_ne (tgt := 76) hx hb dL_refuses_69 (by decide) (fun _ => ?_) (fun hc => absurd hc (by decide))
  refine lv_iload hx hb dL_refuses_76 (lv_at hl 1 rfl) ?_
  refine lv_istore (lv' := [(10, .int (-1)), (9, .int (-1)), (8, .int (-1)), (0, .ref (ad 0 0)), (1, .int (nI (σ 1 0))), (2, .int (nI (σ 2 0))), (3, .int (nI (σ 3 0))), (4, .int (nI (σ 0 0))), (5, .int (nI (σ 4 0))), (6, .int 2147483647), (7, .int 0)]) hx hb dL_refuses_78 hl (by decide) rfl (fun ls hl => ?_)
  refine lv_iload hx hb dL_refuses_80 (lv_at hl 10 rfl) ?_
  refine lv_if_ne (tgt := 89) hx hb dL_refuses_82 (by decide) (fun hc => absurd (by decide) hc) (fun _ => ?_)
  refine lv_iconst (v := 0) hx hb dL_refuses_85 (by decide) ?_
  refine lv_goto (tgt := 91) hx hb dL_refuses_86 (by decide) ?_
  refine lv_istore (lv' := [(11, .int 0), (10, .int (-1)), (9, .int (-1)), (8, .int (-1)), (0, .ref (ad 0 0)), (1, .int (nI (σ 1 0))), (2, .int (nI (σ 2 0))), (3, .int (nI (σ 3 0))), (4, .int (nI (σ 0 0))), (5, .int (nI (σ 4 0))), (6, .int 2147483647), (7, .int 0)]) hx hb dL_refuses_91 hl (by decide) rfl (fun ls hl => ?_)
  refine lv_aload_n hx hb dL_refuses_93 rfl (lv_at hl 4 rfl) ?_
  refine lv_iconst (v := 0) hx hb dL_refuses_94 (by decide) ?_
  refine lv_iload hx hb dL_refuses_95 (lv_at hl 11 rfl) ?_
  refine lv_if_ne (tgt := 105) hx hb dL_refuses_97 (by decide) (fun hc => absurd (by decide) hc) (fun _ => ?_)
  refine lv_bipush (v := -2) hx hb dL_refuses_100 (by decide) ?_
  refine lv_goto (tgt := 107) hx hb dL_refuses_102 (by decide) ?_
  refine lv_iconst (v := 0) hx hb dL_refuses_107 (by decide) ?_
  refine lv_iconst (v := 0) hx hb dL_refuses_108 (by decide) ?_
  refine lv_iconst (v := 0) hx hb dL_refuses_109 (by decide) ?_
  refine kgo_i (kc_SW (As := [.ref (ad 0 0), .int 0, .int (-2), .int 0, .int 0, .int 0]) (rest := []) S hE hS hAb (ax_addRegion1 ε l hw (cpx_addRegion1 ε l hw hB hst (x := (-2)) (by decide +kernel) (Or.inl (by decide +kernel)))) (vx_cwSW 6 hts gL_refuses_L_act rfl rfl rfl (by decide +kernel) ⟨Nat.le_of_ble_eq_true rfl, Nat.le_of_ble_eq_true rfl⟩) rfl hl.1 rfl (Nat.le_of_ble_eq_true rfl) dL_refuses_110 ⟨Nat.le_of_ble_eq_true rfl, Nat.le_of_ble_eq_true rfl⟩) hS (fun _ h => h) (fun r9 H1 locs e9 hz1 hq hS => ?_)
  have hw := hw.keep (fun k j hk => hq _ (va_at.lt (hw.1 k j hk).1) (fun h => h))
  clear hq hz1
  refine kr_room (c1 := 1) (s1 := 6) rfl rfl ?_
  refine kr_top e9 ?_
  refine lv_bipush (v := -41) hx hb dL_refuses_113 (by decide) ?_
  refine lv_icmp_ne (tgt := 226) hx hb dL_refuses_115 (by decide) (fun hc => absurd (by decide) hc) (fun _ => ?_)
  refine lv_aload_n hx hb dL_refuses_118 rfl (lv_at hl 4 rfl) ?_
  refine lv_iconst (v := 1) hx hb dL_refuses_119 (by decide) ?_
  refine lv_iload hx hb dL_refuses_120 (lv_at hl 11 rfl) ?_
  refine lv_iconst (v := 1) hx hb dL_refuses_122 (by decide) ?_
  refine lv_icmp_ne (tgt := 131) hx hb dL_refuses_123 (by decide) (fun _ => ?_) (fun hc => absurd hc (by decide))
  refine lv_iload hx hb dL_refuses_131 (lv_at hl 0 rfl) ?_
  refine lv_iconst (v := 0) hx hb dL_refuses_133 (by decide) ?_
  refine lv_iconst (v := 0) hx hb dL_refuses_134 (by decide) ?_
  refine lv_iconst (v := 1) hx hb dL_refuses_135 (by decide) ?_
  refine kgo_i (kc_SW (As := [.ref (ad 0 0), .int 1, .int 0, .int 0, .int 0, .int 1]) (rest := []) S hE hS hAb (ax_addCheck2 ε l hw (cpx_addCheck1 ε l hw hB hst (x1 := 0) (x2 := 0) (x3 := 0) (x4 := 1) (by decide +kernel))) (vx_cwSW 6 hts gL_refuses_L_act rfl rfl rfl (by decide +kernel) ⟨Nat.le_of_ble_eq_true rfl, Nat.le_of_ble_eq_true rfl⟩) rfl hl.1 rfl (Nat.le_of_ble_eq_true rfl) dL_refuses_136 ⟨Nat.le_of_ble_eq_true rfl, Nat.le_of_ble_eq_true rfl⟩) hS (fun _ h => h) (fun r9 H1 locs e9 hz1 hq hS => ?_)
  have hw := hw.keep (fun k j hk => hq _ (va_at.lt (hw.1 k j hk).1) (fun h => h))
  clear hq hz1
  refine kr_room (c1 := 2) (s1 := 12) rfl rfl ?_
  refine kr_top e9 ?_
  refine lv_bipush (v := -42) hx hb dL_refuses_139 (by decide) ?_
  refine lv_icmp_ne (tgt := 226) hx hb dL_refuses_141 (by decide) (fun hc => absurd (by decide) hc) (fun _ => ?_)
  refine lv_aload_n hx hb dL_refuses_144 rfl (lv_at hl 4 rfl) ?_
  refine lv_iconst (v := 1) hx hb dL_refuses_145 (by decide) ?_
  refine lv_iconst (v := 1) hx hb dL_refuses_146 (by decide) ?_
  refine lv_iload hx hb dL_refuses_147 (lv_at hl 11 rfl) ?_
  refine lv_iconst (v := 1) hx hb dL_refuses_149 (by decide) ?_
  refine lv_icmp_ne (tgt := 159) hx hb dL_refuses_150 (by decide) (fun _ => ?_) (fun hc => absurd hc (by decide))
  refine lv_iload hx hb dL_refuses_159 (lv_at hl 3 rfl) ?_
  refine lv_iconst (v := 0) hx hb dL_refuses_161 (by decide) ?_
  refine lv_iconst (v := 1) hx hb dL_refuses_162 (by decide) ?_
  refine kgo_i (kc_SW (As := [.ref (ad 0 0), .int 1, .int 1, .int (-1), .int 0, .int 1]) (rest := []) S hE hS hAb (ax_addCheck2 ε l hw (cpx_addCheck2 ε l hw hB hst (x1 := 1) (x2 := (-1)) (x3 := 0) (x4 := 1) (by decide +kernel) (by decide +kernel) (by decide +kernel))) (vx_cwSW 6 hts gL_refuses_L_act rfl rfl rfl (by decide +kernel) ⟨Nat.le_of_ble_eq_true rfl, Nat.le_of_ble_eq_true rfl⟩) rfl hl.1 rfl (Nat.le_of_ble_eq_true rfl) dL_refuses_163 ⟨Nat.le_of_ble_eq_true rfl, Nat.le_of_ble_eq_true rfl⟩) hS (fun _ h => h) (fun r9 H1 locs e9 hz1 hq hS => ?_)
  have hw := hw.keep (fun k j hk => hq _ (va_at.lt (hw.1 k j hk).1) (fun h => h))
  clear hq hz1
  refine kr_room (c1 := 3) (s1 := 18) rfl rfl ?_
  refine kr_top e9 ?_
  refine lv_bipush (v := -42) hx hb dL_refuses_166 (by decide) ?_
  refine lv_icmp_ne (tgt := 226) hx hb dL_refuses_168 (by decide) (fun hc => absurd (by decide) hc) (fun _ => ?_)
  refine lv_aload_n hx hb dL_refuses_171 rfl (lv_at hl 4 rfl) ?_
  refine lv_iconst (v := 1) hx hb dL_refuses_172 (by decide) ?_
  refine lv_iconst (v := 1) hx hb dL_refuses_173 (by decide) ?_
  refine lv_iconst (v := 0) hx hb dL_refuses_174 (by decide) ?_
  refine lv_iload hx hb dL_refuses_175 (lv_at hl 11 rfl) ?_
  refine lv_iconst (v := 1) hx hb dL_refuses_177 (by decide) ?_
  refine lv_icmp_ne (tgt := 185) hx hb dL_refuses_178 (by decide) (fun _ => ?_) (fun hc => absurd hc (by decide))
  refine lv_iload hx hb dL_refuses_185 (lv_at hl 3 rfl) ?_
  refine lv_iconst (v := 1) hx hb dL_refuses_187 (by decide) ?_
  refine kgo_i (kc_SW (As := [.ref (ad 0 0), .int 1, .int 1, .int 0, .int (-1), .int 1]) (rest := []) S hE hS hAb (ax_addCheck2 ε l hw (cpx_addCheck3 ε l hw hB hst (x1 := 1) (x2 := 0) (x3 := (-1)) (x4 := 1) (by decide +kernel) (by decide +kernel) (by decide +kernel) (by decide +kernel) (by decide +kernel))) (vx_cwSW 6 hts gL_refuses_L_act rfl rfl rfl (by decide +kernel) ⟨Nat.le_of_ble_eq_true rfl, Nat.le_of_ble_eq_true rfl⟩) rfl hl.1 rfl (Nat.le_of_ble_eq_true rfl) dL_refuses_188 ⟨Nat.le_of_ble_eq_true rfl, Nat.le_of_ble_eq_true rfl⟩) hS (fun _ h => h) (fun r9 H1 locs e9 hz1 hq hS => ?_)
  have hw := hw.keep (fun k j hk => hq _ (va_at.lt (hw.1 k j hk).1) (fun h => h))
  clear hq hz1
  refine kr_room (c1 := 4) (s1 := 24) rfl rfl ?_
  refine kr_top e9 ?_
  refine lv_bipush (v := -42) hx hb dL_refuses_191 (by decide) ?_
  refine lv_icmp_ne (tgt := 226) hx hb dL_refuses_193 (by decide) (fun hc => absurd (by decide) hc) (fun _ => ?_)
  refine lv_aload_n hx hb dL_refuses_196 rfl (lv_at hl 4 rfl) ?_
  refine lv_iconst (v := 1) hx hb dL_refuses_197 (by decide) ?_
  refine lv_iconst (v := 1) hx hb dL_refuses_198 (by decide) ?_
  refine lv_iconst (v := 0) hx hb dL_refuses_199 (by decide) ?_
  refine lv_iconst (v := 0) hx hb dL_refuses_200 (by decide) ?_
  refine lv_iload hx hb dL_refuses_201 (lv_at hl 11 rfl) ?_
  refine lv_iconst (v := 1) hx hb dL_refuses_203 (by decide) ?_
  refine lv_icmp_ne (tgt := 212) hx hb dL_refuses_204 (by decide) (fun _ => ?_) (fun hc => absurd hc (by decide))
  refine lv_iload hx hb dL_refuses_212 (lv_at hl 0 rfl) ?_
  refine kgo_i (kc_SW (As := [.ref (ad 0 0), .int 1, .int 1, .int 0, .int 0, .int 0]) (rest := []) S hE hS hAb (ax_addCheck2 ε l hw (cpx_addCheck4 ε l hw hB hst (x1 := 1) (x2 := 0) (x3 := 0) (x4 := 0) (by decide +kernel) (by decide +kernel) (by decide +kernel) (by decide +kernel) (by decide +kernel) (by decide +kernel) (by decide +kernel))) (vx_cwSW 6 hts gL_refuses_L_act rfl rfl rfl (by decide +kernel) ⟨Nat.le_of_ble_eq_true rfl, Nat.le_of_ble_eq_true rfl⟩) rfl hl.1 rfl (Nat.le_of_ble_eq_true rfl) dL_refuses_214 ⟨Nat.le_of_ble_eq_true rfl, Nat.le_of_ble_eq_true rfl⟩) hS (fun _ h => h) (fun r9 H1 locs e9 hz1 hq hS => ?_)
  have hw := hw.keep (fun k j hk => hq _ (va_at.lt (hw.1 k j hk).1) (fun h => h))
  clear hq hz1
  refine kr_room (c1 := 5) (s1 := 30) rfl rfl ?_
  refine kr_top e9 ?_
  refine lv_bipush (v := -42) hx hb dL_refuses_217 (by decide) ?_
  refine lv_icmp_ne (tgt := 226) hx hb dL_refuses_219 (by decide) (fun hc => absurd (by decide) hc) (fun _ => ?_)
  refine lv_iconst (v := 1) hx hb dL_refuses_222 (by decide) ?_
  refine lv_goto (tgt := 227) hx hb dL_refuses_223 (by decide) ?_
  refine lv_istore (lv' := [(12, .int 1), (11, .int 0), (10, .int (-1)), (9, .int (-1)), (8, .int (-1)), (0, .ref (ad 0 0)), (1, .int (nI (σ 1 0))), (2, .int (nI (σ 2 0))), (3, .int (nI (σ 3 0))), (4, .int (nI (σ 0 0))), (5, .int (nI (σ 4 0))), (6, .int 2147483647), (7, .int 0)]) hx hb dL_refuses_227 hl (by decide) rfl (fun ls hl => ?_)
  refine lv_iload hx hb dL_refuses_229 (lv_at hl 0 rfl) ?_
  refine lv_if_eq (tgt := 446) hx hb dL_refuses_231 (by decide) (fun hc => absurd hc (by decide)) (fun _ => ?_)
  refine lv_aload_n hx hb dL_refuses_234 rfl (lv_at hl 5 rfl) ?_
  refine lv_iconst (v := 2) hx hb dL_refuses_235 (by decide) ?_
  refine lv_iload hx hb dL_refuses_236 (lv_at hl 2 rfl) ?_
  refine lv_iconst (v := 0) hx hb dL_refuses_238 (by decide) ?_
  refine lv_iconst (v := 1) hx hb dL_refuses_239 (by decide) ?_
  refine lv_iconst (v := 0) hx hb dL_refuses_240 (by decide) ?_
  refine kgo_i (kc_SW (As := [.ref (ad 0 0), .int 2, .int (-1), .int 0, .int 1, .int 0]) (rest := []) S hE hS hAb (ax_setDown1 ε l hw (cpx_setDown1 ε l hw hB hst (x := (-1)) (y := 0) (z := 1) (Or.inl (by decide +kernel)))) (vx_cwSW 6 hts gL_refuses_L_act rfl rfl rfl (by decide +kernel) ⟨Nat.le_of_ble_eq_true rfl, Nat.le_of_ble_eq_true rfl⟩) rfl hl.1 rfl (Nat.le_of_ble_eq_true rfl) dL_refuses_241 ⟨Nat.le_of_ble_eq_true rfl, Nat.le_of_ble_eq_true rfl⟩) hS (fun _ h => h) (fun r9 H1 locs e9 hz1 hq hS => ?_)
  have hw := hw.keep (fun k j hk => hq _ (va_at.lt (hw.1 k j hk).1) (fun h => h))
  clear hq hz1
  refine kr_room (c1 := 6) (s1 := 36) rfl rfl ?_
  refine kr_top e9 ?_
  refine lv_bipush (v := -41) hx hb dL_refuses_244 (by decide) ?_
  refine lv_icmp_ne (tgt := 446) hx hb dL_refuses_246 (by decide) (fun hc => absurd (by decide) hc) (fun _ => ?_)
  refine lv_aload_n hx hb dL_refuses_249 rfl (lv_at hl 5 rfl) ?_
  refine lv_iconst (v := 2) hx hb dL_refuses_250 (by decide) ?_
  refine lv_iconst (v := 0) hx hb dL_refuses_251 (by decide) ?_
  refine lv_iload hx hb dL_refuses_252 (lv_at hl 3 rfl) ?_
  refine lv_iconst (v := 1) hx hb dL_refuses_254 (by decide) ?_
  refine lv_iconst (v := 0) hx hb dL_refuses_255 (by decide) ?_
  refine kgo_i (kc_SW (As := [.ref (ad 0 0), .int 2, .int (nI 0), .int (-1), .int 1, .int 0]) (rest := []) S hE hS hAb (ax_setDown1 ε l hw (cpx_setDown2 ε l hw hB hst (i := 0) (y := (-1)) (z := 1) h2 (Or.inl (by decide +kernel)))) (vx_cwSW 6 hts gL_refuses_L_act rfl rfl rfl (by decide +kernel) ⟨Nat.le_of_ble_eq_true rfl, Nat.le_of_ble_eq_true rfl⟩) rfl hl.1 rfl (Nat.le_of_ble_eq_true rfl) dL_refuses_256 ⟨Nat.le_of_ble_eq_true rfl, Nat.le_of_ble_eq_true rfl⟩) hS (fun _ h => h) (fun r9 H1 locs e9 hz1 hq hS => ?_)
  have hw := hw.keep (fun k j hk => hq _ (va_at.lt (hw.1 k j hk).1) (fun h => h))
  clear hq hz1
  refine kr_room (c1 := 7) (s1 := 42) rfl rfl ?_
  refine kr_top e9 ?_
  refine lv_bipush (v := -41) hx hb dL_refuses_259 (by decide) ?_
  refine lv_icmp_ne (tgt := 446) hx hb dL_refuses_261 (by decide) (fun hc => absurd (by decide) hc) (fun _ => ?_)
  refine lv_aload_n hx hb dL_refuses_264 rfl (lv_at hl 5 rfl) ?_
  refine lv_iconst (v := 3) hx hb dL_refuses_265 (by decide) ?_
  refine lv_iload hx hb dL_refuses_266 (lv_at hl 3 rfl) ?_
  refine lv_iconst (v := 1) hx hb dL_refuses_268 (by decide) ?_
  refine lv_iconst (v := 0) hx hb dL_refuses_269 (by decide) ?_
  refine lv_iconst (v := 0) hx hb dL_refuses_270 (by decide) ?_
  refine kgo_i (kc_SW (As := [.ref (ad 0 0), .int 3, .int (-1), .int 1, .int 0, .int 0]) (rest := []) S hE hS hAb (ax_setCut1 ε l hw (cpx_setCut ε l hw hB hst (x := (-1)) (y := 1) (Or.inl (by decide +kernel)))) (vx_cwSW 6 hts gL_refuses_L_act rfl rfl rfl (by decide +kernel) ⟨Nat.le_of_ble_eq_true rfl, Nat.le_of_ble_eq_true rfl⟩) rfl hl.1 rfl (Nat.le_of_ble_eq_true rfl) dL_refuses_271 ⟨Nat.le_of_ble_eq_true rfl, Nat.le_of_ble_eq_true rfl⟩) hS (fun _ h => h) (fun r9 H1 locs e9 hz1 hq hS => ?_)
  have hw := hw.keep (fun k j hk => hq _ (va_at.lt (hw.1 k j hk).1) (fun h => h))
  clear hq hz1
  refine kr_room (c1 := 8) (s1 := 48) rfl rfl ?_
  refine kr_top e9 ?_
  refine lv_bipush (v := -41) hx hb dL_refuses_274 (by decide) ?_
  refine lv_icmp_ne (tgt := 446) hx hb dL_refuses_276 (by decide) (fun hc => absurd (by decide) hc) (fun _ => ?_)
  refine lv_aload_n hx hb dL_refuses_279 rfl (lv_at hl 5 rfl) ?_
  refine lv_iconst (v := 4) hx hb dL_refuses_280 (by decide) ?_
  refine lv_iload hx hb dL_refuses_281 (lv_at hl 2 rfl) ?_
  refine lv_iconst (v := 0) hx hb dL_refuses_283 (by decide) ?_
  refine lv_iconst (v := 0) hx hb dL_refuses_284 (by decide) ?_
  refine lv_iconst (v := 0) hx hb dL_refuses_285 (by decide) ?_
  refine kgo_i (kc_SW (As := [.ref (ad 0 0), .int 4, .int (-1), .int 0, .int 0, .int 0]) (rest := []) S hE hS hAb (ax_setQuorum1 ε l hw (cpx_setQuorum1 ε l hw hB hst (x := (-1)) (y := 0) (Or.inl (by decide +kernel)))) (vx_cwSW 6 hts gL_refuses_L_act rfl rfl rfl (by decide +kernel) ⟨Nat.le_of_ble_eq_true rfl, Nat.le_of_ble_eq_true rfl⟩) rfl hl.1 rfl (Nat.le_of_ble_eq_true rfl) dL_refuses_286 ⟨Nat.le_of_ble_eq_true rfl, Nat.le_of_ble_eq_true rfl⟩) hS (fun _ h => h) (fun r9 H1 locs e9 hz1 hq hS => ?_)
  have hw := hw.keep (fun k j hk => hq _ (va_at.lt (hw.1 k j hk).1) (fun h => h))
  clear hq hz1
  refine kr_room (c1 := 9) (s1 := 54) rfl rfl ?_
  refine kr_top e9 ?_
  refine lv_bipush (v := -41) hx hb dL_refuses_289 (by decide) ?_
  refine lv_icmp_ne (tgt := 446) hx hb dL_refuses_291 (by decide) (fun hc => absurd (by decide) hc) (fun _ => ?_)
  refine lv_aload_n hx hb dL_refuses_294 rfl (lv_at hl 5 rfl) ?_
  refine lv_iconst (v := 4) hx hb dL_refuses_295 (by decide) ?_
  refine lv_iconst (v := 0) hx hb dL_refuses_296 (by decide) ?_
  refine lv_iload hx hb dL_refuses_297 (lv_at hl 12 rfl) ?_
  refine lv_iconst (v := 1) hx hb dL_refuses_299 (by decide) ?_
  refine lv_icmp_ne (tgt := 308) hx hb dL_refuses_300 (by decide) (fun _ => ?_) (fun hc => absurd hc (by decide))
  refine lv_iload hx hb dL_refuses_308 (lv_at hl 1 rfl) ?_
  refine lv_iconst (v := 0) hx hb dL_refuses_310 (by decide) ?_
  refine lv_iconst (v := 0) hx hb dL_refuses_311 (by decide) ?_
  refine kgo_i (kc_SW (As := [.ref (ad 0 0), .int 4, .int (nI 0), .int 0, .int 0, .int 0]) (rest := []) S hE hS hAb (ax_setQuorum2 ε l hw (cpx_setQuorum2 ε l hw hB hst (i := 0) (y := 0) h2 (by decide +kernel))) (vx_cwSW 6 hts gL_refuses_L_act rfl rfl rfl (by decide +kernel) ⟨Nat.le_of_ble_eq_true rfl, Nat.le_of_ble_eq_true rfl⟩) rfl hl.1 rfl (Nat.le_of_ble_eq_true rfl) dL_refuses_312 ⟨Nat.le_of_ble_eq_true rfl, Nat.le_of_ble_eq_true rfl⟩) hS (fun _ h => h) (fun r9 H1 locs e9 hz1 hq hS => ?_)
  have hw := hw.keep (fun k j hk => hq _ (va_at.lt (hw.1 k j hk).1) (fun h => h))
  clear hq hz1
  refine kr_room (c1 := 10) (s1 := 60) rfl rfl ?_
  refine kr_top e9 ?_
  refine lv_bipush (v := -42) hx hb dL_refuses_315 (by decide) ?_
  refine lv_icmp_ne (tgt := 446) hx hb dL_refuses_317 (by decide) (fun hc => absurd (by decide) hc) (fun _ => ?_)
  refine lv_aload_n hx hb dL_refuses_320 rfl (lv_at hl 5 rfl) ?_
  refine lv_iconst (v := 5) hx hb dL_refuses_321 (by decide) ?_
  refine lv_iload hx hb dL_refuses_322 (lv_at hl 2 rfl) ?_
  refine lv_iconst (v := -1) hx hb dL_refuses_324 (by decide) ?_
  refine lv_iconst (v := 0) hx hb dL_refuses_325 (by decide) ?_
  refine lv_iconst (v := 0) hx hb dL_refuses_326 (by decide) ?_
  refine kgo_i (kc_SW (As := [.ref (ad 0 0), .int 5, .int (-1), .int (-1), .int 0, .int 0]) (rest := []) S hE hS hAb (ax_addWindow1 ε l hw (cpx_addWindow1 ε l hw hB hst (x := (-1)) (x2 := (-1)) (x3 := 0) (Or.inl (by decide +kernel)))) (vx_cwSW 6 hts gL_refuses_L_act rfl rfl rfl (by decide +kernel) ⟨Nat.le_of_ble_eq_true rfl, Nat.le_of_ble_eq_true rfl⟩) rfl hl.1 rfl (Nat.le_of_ble_eq_true rfl) dL_refuses_327 ⟨Nat.le_of_ble_eq_true rfl, Nat.le_of_ble_eq_true rfl⟩) hS (fun _ h => h) (fun r9 H1 locs e9 hz1 hq hS => ?_)
  have hw := hw.keep (fun k j hk => hq _ (va_at.lt (hw.1 k j hk).1) (fun h => h))
  clear hq hz1
  refine kr_room (c1 := 11) (s1 := 66) rfl rfl ?_
  refine kr_top e9 ?_
  refine lv_bipush (v := -41) hx hb dL_refuses_330 (by decide) ?_
  refine lv_icmp_ne (tgt := 446) hx hb dL_refuses_332 (by decide) (fun hc => absurd (by decide) hc) (fun _ => ?_)
  refine lv_aload_n hx hb dL_refuses_335 rfl (lv_at hl 5 rfl) ?_
  refine lv_iconst (v := 5) hx hb dL_refuses_336 (by decide) ?_
  refine lv_iconst (v := 0) hx hb dL_refuses_337 (by decide) ?_
  refine lv_iload hx hb dL_refuses_338 (lv_at hl 12 rfl) ?_
  refine lv_iconst (v := 1) hx hb dL_refuses_340 (by decide) ?_
  refine lv_icmp_ne (tgt := 349) hx hb dL_refuses_341 (by decide) (fun _ => ?_) (fun hc => absurd hc (by decide))
  refine lv_iload hx hb dL_refuses_349 (lv_at hl 4 rfl) ?_
  refine lv_iconst (v := 1) hx hb dL_refuses_351 (by decide) ?_
  refine lv_iconst (v := 0) hx hb dL_refuses_352 (by decide) ?_
  refine kgo_i (kc_SW (As := [.ref (ad 0 0), .int 5, .int (nI 0), .int (-1), .int 1, .int 0]) (rest := []) S hE hS hAb (ax_addWindow2 ε l hw (cpx_addWindow2 ε l hw hB hst (i := 0) (x2 := (-1)) (x3 := 1) h2 (by decide +kernel))) (vx_cwSW 6 hts gL_refuses_L_act rfl rfl rfl (by decide +kernel) ⟨Nat.le_of_ble_eq_true rfl, Nat.le_of_ble_eq_true rfl⟩) rfl hl.1 rfl (Nat.le_of_ble_eq_true rfl) dL_refuses_353 ⟨Nat.le_of_ble_eq_true rfl, Nat.le_of_ble_eq_true rfl⟩) hS (fun _ h => h) (fun r9 H1 locs e9 hz1 hq hS => ?_)
  have hw := hw.keep (fun k j hk => hq _ (va_at.lt (hw.1 k j hk).1) (fun h => h))
  clear hq hz1
  refine kr_room (c1 := 12) (s1 := 72) rfl rfl ?_
  refine kr_top e9 ?_
  refine lv_bipush (v := -42) hx hb dL_refuses_356 (by decide) ?_
  refine lv_icmp_ne (tgt := 446) hx hb dL_refuses_358 (by decide) (fun hc => absurd (by decide) hc) (fun _ => ?_)
  refine lv_aload_n hx hb dL_refuses_361 rfl (lv_at hl 5 rfl) ?_
  refine lv_iconst (v := 5) hx hb dL_refuses_362 (by decide) ?_
  refine lv_iconst (v := 0) hx hb dL_refuses_363 (by decide) ?_
  refine lv_iconst (v := 0) hx hb dL_refuses_364 (by decide) ?_
  refine lv_iload hx hb dL_refuses_365 (lv_at hl 12 rfl) ?_
  refine lv_iconst (v := 1) hx hb dL_refuses_367 (by decide) ?_
  refine lv_icmp_ne (tgt := 377) hx hb dL_refuses_368 (by decide) (fun _ => ?_) (fun hc => absurd hc (by decide))
  refine lv_iload hx hb dL_refuses_377 (lv_at hl 1 rfl) ?_
  refine lv_iconst (v := 0) hx hb dL_refuses_379 (by decide) ?_
  refine kgo_i (kc_SW (As := [.ref (ad 0 0), .int 5, .int (nI 0), .int 0, .int 0, .int 0]) (rest := []) S hE hS hAb (ax_addWindow2 ε l hw (cpx_addWindow3 ε l hw hB hst (i := 0) (x2 := 0) (x3 := 0) h2 (by decide +kernel) (by decide +kernel) (by decide +kernel))) (vx_cwSW 6 hts gL_refuses_L_act rfl rfl rfl (by decide +kernel) ⟨Nat.le_of_ble_eq_true rfl, Nat.le_of_ble_eq_true rfl⟩) rfl hl.1 rfl (Nat.le_of_ble_eq_true rfl) dL_refuses_380 ⟨Nat.le_of_ble_eq_true rfl, Nat.le_of_ble_eq_true rfl⟩) hS (fun _ h => h) (fun r9 H1 locs e9 hz1 hq hS => ?_)
  have hw := hw.keep (fun k j hk => hq _ (va_at.lt (hw.1 k j hk).1) (fun h => h))
  clear hq hz1
  refine kr_room (c1 := 13) (s1 := 78) rfl rfl ?_
  refine kr_top e9 ?_
  refine lv_bipush (v := -42) hx hb dL_refuses_383 (by decide) ?_
  refine lv_icmp_ne (tgt := 446) hx hb dL_refuses_385 (by decide) (fun hc => absurd (by decide) hc) (fun _ => ?_)
  refine lv_aload_n hx hb dL_refuses_388 rfl (lv_at hl 5 rfl) ?_
  refine lv_bipush (v := 6) hx hb dL_refuses_389 (by decide) ?_
  refine lv_iload hx hb dL_refuses_391 (lv_at hl 12 rfl) ?_
  refine lv_iconst (v := 1) hx hb dL_refuses_393 (by decide) ?_
  refine lv_icmp_ne (tgt := 401) hx hb dL_refuses_394 (by decide) (fun _ => ?_) (fun hc => absurd hc (by decide))
  refine lv_iload hx hb dL_refuses_401 (lv_at hl 4 rfl) ?_
  refine lv_iconst (v := 0) hx hb dL_refuses_403 (by decide) ?_
  refine lv_iconst (v := 0) hx hb dL_refuses_404 (by decide) ?_
  refine lv_iconst (v := 0) hx hb dL_refuses_405 (by decide) ?_
  refine kgo_i (kc_SW (As := [.ref (ad 0 0), .int 6, .int (-1), .int 0, .int 0, .int 0]) (rest := []) S hE hS hAb (ax_endWindow1 ε l hw (cpx_endWindow ε l hw hB hst (x := (-1)) (Or.inl (by decide +kernel)))) (vx_cwSW 6 hts gL_refuses_L_act rfl rfl rfl (by decide +kernel) ⟨Nat.le_of_ble_eq_true rfl, Nat.le_of_ble_eq_true rfl⟩) rfl hl.1 rfl (Nat.le_of_ble_eq_true rfl) dL_refuses_406 ⟨Nat.le_of_ble_eq_true rfl, Nat.le_of_ble_eq_true rfl⟩) hS (fun _ h => h) (fun r9 H1 locs e9 hz1 hq hS => ?_)
  have hw := hw.keep (fun k j hk => hq _ (va_at.lt (hw.1 k j hk).1) (fun h => h))
  clear hq hz1
  refine kr_room (c1 := 14) (s1 := 84) rfl rfl ?_
  refine kr_top e9 ?_
  refine lv_bipush (v := -41) hx hb dL_refuses_409 (by decide) ?_
  refine lv_icmp_ne (tgt := 446) hx hb dL_refuses_411 (by decide) (fun hc => absurd (by decide) hc) (fun _ => ?_)
  refine lv_aload_n hx hb dL_refuses_414 rfl (lv_at hl 5 rfl) ?_
  refine lv_bipush (v := 7) hx hb dL_refuses_415 (by decide) ?_
  refine lv_iload hx hb dL_refuses_417 (lv_at hl 12 rfl) ?_
  refine lv_iconst (v := 1) hx hb dL_refuses_419 (by decide) ?_
  refine lv_icmp_ne (tgt := 429) hx hb dL_refuses_420 (by decide) (fun _ => ?_) (fun hc => absurd hc (by decide))
  refine lv_iload hx hb dL_refuses_429 (lv_at hl 1 rfl) ?_
  refine lv_iconst (v := 0) hx hb dL_refuses_431 (by decide) ?_
  refine lv_iconst (v := 0) hx hb dL_refuses_432 (by decide) ?_
  refine lv_iconst (v := 0) hx hb dL_refuses_433 (by decide) ?_
  refine kgo_i (kc_SW (As := [.ref (ad 0 0), .int 7, .int 0, .int 0, .int 0, .int 0]) (rest := []) S hE hS hAb (ax_pass2 ε l hw (cpx_pass ε l hw hB hst (x := 0) (by decide +kernel))) (vx_cwSW 6 hts gL_refuses_L_act rfl rfl rfl (by decide +kernel) ⟨Nat.le_of_ble_eq_true rfl, Nat.le_of_ble_eq_true rfl⟩) rfl hl.1 rfl (Nat.le_of_ble_eq_true rfl) dL_refuses_434 ⟨Nat.le_of_ble_eq_true rfl, Nat.le_of_ble_eq_true rfl⟩) hS (fun _ h => h) (fun r9 H1 locs e9 hz1 hq hS => ?_)
  have hw := hw.keep (fun k j hk => hq _ (va_at.lt (hw.1 k j hk).1) (fun h => h))
  clear hq hz1
  refine kr_room (c1 := 15) (s1 := 90) rfl rfl ?_
  refine kr_top e9 ?_
  refine lv_bipush (v := -42) hx hb dL_refuses_437 (by decide) ?_
  refine lv_icmp_ne (tgt := 446) hx hb dL_refuses_439 (by decide) (fun hc => absurd (by decide) hc) (fun _ => ?_)
  refine lv_iconst (v := 1) hx hb dL_refuses_442 (by decide) ?_
  refine lv_goto (tgt := 447) hx hb dL_refuses_443 (by decide) ?_
  refine lv_istore (lv' := [(12, .int 1), (11, .int 0), (10, .int (-1)), (9, .int (-1)), (8, .int (-1)), (0, .ref (ad 0 0)), (1, .int (nI (σ 1 0))), (2, .int (nI (σ 2 0))), (3, .int (nI (σ 3 0))), (4, .int (nI (σ 0 0))), (5, .int (nI (σ 4 0))), (6, .int 2147483647), (7, .int 0)]) hx hb dL_refuses_447 hl (by decide) rfl (fun ls hl => ?_)
  refine lv_bipush (v := 8) hx hb dL_refuses_449 (by decide) ?_
  refine lv_istore (lv' := [(13, .int 8), (12, .int 1), (11, .int 0), (10, .int (-1)), (9, .int (-1)), (8, .int (-1)), (0, .ref (ad 0 0)), (1, .int (nI (σ 1 0))), (2, .int (nI (σ 2 0))), (3, .int (nI (σ 3 0))), (4, .int (nI (σ 0 0))), (5, .int (nI (σ 4 0))), (6, .int 2147483647), (7, .int 0)]) hx hb dL_refuses_451 hl (by decide) rfl (fun ls hl => ?_)
  refine lv_iload hx hb dL_refuses_453 (lv_at hl 0 rfl) ?_
  refine lv_bipush (v := 13) hx hb dL_refuses_455 (by decide) ?_
  refine lv_icmp_ge (tgt := 494) hx hb dL_refuses_457 (by decide) (fun hc => absurd hc (by decide)) (fun _ => ?_)
  refine lv_iload hx hb dL_refuses_460 (lv_at hl 1 rfl) ?_
  refine lv_if_eq (tgt := 485) hx hb dL_refuses_462 (by decide) (fun hc => absurd hc (by decide)) (fun _ => ?_)
  refine lv_aload_n hx hb dL_refuses_465 rfl (lv_at hl 6 rfl) ?_
  refine lv_iload hx hb dL_refuses_466 (lv_at hl 0 rfl) ?_
  refine lv_iload hx hb dL_refuses_468 (lv_at hl 3 rfl) ?_
  refine lv_iconst (v := 0) hx hb dL_refuses_470 (by decide) ?_
  refine lv_iconst (v := 0) hx hb dL_refuses_471 (by decide) ?_
  refine lv_iconst (v := 0) hx hb dL_refuses_472 (by decide) ?_
  refine kgo_i (kc_SW (As := [.ref (ad 0 0), .int 8, .int (-1), .int 0, .int 0, .int 0]) (rest := []) S hE hS hAb (ax_failing1 ε l hw (cpx_failing ε l hw hB hst (x := (-1)) (Or.inl (by decide +kernel)))) (vx_cwSW 6 hts gL_refuses_L_act rfl rfl rfl (by decide +kernel) ⟨Nat.le_of_ble_eq_true rfl, Nat.le_of_ble_eq_true rfl⟩) rfl hl.1 rfl (Nat.le_of_ble_eq_true rfl) dL_refuses_473 ⟨Nat.le_of_ble_eq_true rfl, Nat.le_of_ble_eq_true rfl⟩) hS (fun _ h => h) (fun r9 H1 locs e9 hz1 hq hS => ?_)
  have hw := hw.keep (fun k j hk => hq _ (va_at.lt (hw.1 k j hk).1) (fun h => h))
  clear hq hz1
  refine kr_room (c1 := 16) (s1 := 96) rfl rfl ?_
  refine kr_top e9 ?_
  refine lv_bipush (v := -41) hx hb dL_refuses_476 (by decide) ?_
  refine lv_icmp_ne (tgt := 485) hx hb dL_refuses_478 (by decide) (fun hc => absurd (by decide) hc) (fun _ => ?_)
  refine lv_iconst (v := 1) hx hb dL_refuses_481 (by decide) ?_
  refine lv_goto (tgt := 486) hx hb dL_refuses_482 (by decide) ?_
  refine lv_istore (lv' := [(12, .int 1), (13, .int 8), (11, .int 0), (10, .int (-1)), (9, .int (-1)), (8, .int (-1)), (0, .ref (ad 0 0)), (1, .int (nI (σ 1 0))), (2, .int (nI (σ 2 0))), (3, .int (nI (σ 3 0))), (4, .int (nI (σ 0 0))), (5, .int (nI (σ 4 0))), (6, .int 2147483647), (7, .int 0)]) hx hb dL_refuses_486 hl (by decide) rfl (fun ls hl => ?_)
  refine lv_iinc (v := 9) (lv' := [(13, .int 9), (12, .int 1), (11, .int 0), (10, .int (-1)), (9, .int (-1)), (8, .int (-1)), (0, .ref (ad 0 0)), (1, .int (nI (σ 1 0))), (2, .int (nI (σ 2 0))), (3, .int (nI (σ 3 0))), (4, .int (nI (σ 0 0))), (5, .int (nI (σ 4 0))), (6, .int 2147483647), (7, .int 0)]) hx hb dL_refuses_488 hl (k := 1) rfl (by decide) (by decide) rfl (fun ls hl => ?_)
  refine lv_goto (tgt := 453) hx hb dL_refuses_491 (by decide) ?_
  refine lv_iload hx hb dL_refuses_453 (lv_at hl 0 rfl) ?_
  refine lv_bipush (v := 13) hx hb dL_refuses_455 (by decide) ?_
  refine lv_icmp_ge (tgt := 494) hx hb dL_refuses_457 (by decide) (fun hc => absurd hc (by decide)) (fun _ => ?_)
  refine lv_iload hx hb dL_refuses_460 (lv_at hl 1 rfl) ?_
  refine lv_if_eq (tgt := 485) hx hb dL_refuses_462 (by decide) (fun hc => absurd hc (by decide)) (fun _ => ?_)
  refine lv_aload_n hx hb dL_refuses_465 rfl (lv_at hl 6 rfl) ?_
  refine lv_iload hx hb dL_refuses_466 (lv_at hl 0 rfl) ?_
  refine lv_iload hx hb dL_refuses_468 (lv_at hl 3 rfl) ?_
  refine lv_iconst (v := 0) hx hb dL_refuses_470 (by decide) ?_
  refine lv_iconst (v := 0) hx hb dL_refuses_471 (by decide) ?_
  refine lv_iconst (v := 0) hx hb dL_refuses_472 (by decide) ?_
  refine kgo_i (kc_SW (As := [.ref (ad 0 0), .int 9, .int (-1), .int 0, .int 0, .int 0]) (rest := []) S hE hS hAb (ax_verdict1 ε l hw (cpx_verdict ε l hw hB hst (x := (-1)) (Or.inl (by decide +kernel)))) (vx_cwSW 6 hts gL_refuses_L_act rfl rfl rfl (by decide +kernel) ⟨Nat.le_of_ble_eq_true rfl, Nat.le_of_ble_eq_true rfl⟩) rfl hl.1 rfl (Nat.le_of_ble_eq_true rfl) dL_refuses_473 ⟨Nat.le_of_ble_eq_true rfl, Nat.le_of_ble_eq_true rfl⟩) hS (fun _ h => h) (fun r9 H1 locs e9 hz1 hq hS => ?_)
  have hw := hw.keep (fun k j hk => hq _ (va_at.lt (hw.1 k j hk).1) (fun h => h))
  clear hq hz1
  refine kr_room (c1 := 17) (s1 := 102) rfl rfl ?_
  refine kr_top e9 ?_
  refine lv_bipush (v := -41) hx hb dL_refuses_476 (by decide) ?_
  refine lv_icmp_ne (tgt := 485) hx hb dL_refuses_478 (by decide) (fun hc => absurd (by decide) hc) (fun _ => ?_)
  refine lv_iconst (v := 1) hx hb dL_refuses_481 (by decide) ?_
  refine lv_goto (tgt := 486) hx hb dL_refuses_482 (by decide) ?_
  refine lv_istore (lv' := [(12, .int 1), (13, .int 9), (11, .int 0), (10, .int (-1)), (9, .int (-1)), (8, .int (-1)), (0, .ref (ad 0 0)), (1, .int (nI (σ 1 0))), (2, .int (nI (σ 2 0))), (3, .int (nI (σ 3 0))), (4, .int (nI (σ 0 0))), (5, .int (nI (σ 4 0))), (6, .int 2147483647), (7, .int 0)]) hx hb dL_refuses_486 hl (by decide) rfl (fun ls hl => ?_)
  refine lv_iinc (v := 10) (lv' := [(13, .int 10), (12, .int 1), (11, .int 0), (10, .int (-1)), (9, .int (-1)), (8, .int (-1)), (0, .ref (ad 0 0)), (1, .int (nI (σ 1 0))), (2, .int (nI (σ 2 0))), (3, .int (nI (σ 3 0))), (4, .int (nI (σ 0 0))), (5, .int (nI (σ 4 0))), (6, .int 2147483647), (7, .int 0)]) hx hb dL_refuses_488 hl (k := 1) rfl (by decide) (by decide) rfl (fun ls hl => ?_)
  refine lv_goto (tgt := 453) hx hb dL_refuses_491 (by decide) ?_
  refine lv_iload hx hb dL_refuses_453 (lv_at hl 0 rfl) ?_
  refine lv_bipush (v := 13) hx hb dL_refuses_455 (by decide) ?_
  refine lv_icmp_ge (tgt := 494) hx hb dL_refuses_457 (by decide) (fun hc => absurd hc (by decide)) (fun _ => ?_)
  refine lv_iload hx hb dL_refuses_460 (lv_at hl 1 rfl) ?_
  refine lv_if_eq (tgt := 485) hx hb dL_refuses_462 (by decide) (fun hc => absurd hc (by decide)) (fun _ => ?_)
  refine lv_aload_n hx hb dL_refuses_465 rfl (lv_at hl 6 rfl) ?_
  refine lv_iload hx hb dL_refuses_466 (lv_at hl 0 rfl) ?_
  refine lv_iload hx hb dL_refuses_468 (lv_at hl 3 rfl) ?_
  refine lv_iconst (v := 0) hx hb dL_refuses_470 (by decide) ?_
  refine lv_iconst (v := 0) hx hb dL_refuses_471 (by decide) ?_
  refine lv_iconst (v := 0) hx hb dL_refuses_472 (by decide) ?_
  refine kgo_i (kc_SW (As := [.ref (ad 0 0), .int 10, .int (-1), .int 0, .int 0, .int 0]) (rest := []) S hE hS hAb (ax_trusted1 ε l hw (cpx_trusted ε l hw hB hst (x := (-1)) (Or.inl (by decide +kernel)))) (vx_cwSW 6 hts gL_refuses_L_act rfl rfl rfl (by decide +kernel) ⟨Nat.le_of_ble_eq_true rfl, Nat.le_of_ble_eq_true rfl⟩) rfl hl.1 rfl (Nat.le_of_ble_eq_true rfl) dL_refuses_473 ⟨Nat.le_of_ble_eq_true rfl, Nat.le_of_ble_eq_true rfl⟩) hS (fun _ h => h) (fun r9 H1 locs e9 hz1 hq hS => ?_)
  have hw := hw.keep (fun k j hk => hq _ (va_at.lt (hw.1 k j hk).1) (fun h => h))
  clear hq hz1
  refine kr_room (c1 := 18) (s1 := 108) rfl rfl ?_
  refine kr_top e9 ?_
  refine lv_bipush (v := -41) hx hb dL_refuses_476 (by decide) ?_
  refine lv_icmp_ne (tgt := 485) hx hb dL_refuses_478 (by decide) (fun hc => absurd (by decide) hc) (fun _ => ?_)
  refine lv_iconst (v := 1) hx hb dL_refuses_481 (by decide) ?_
  refine lv_goto (tgt := 486) hx hb dL_refuses_482 (by decide) ?_
  refine lv_istore (lv' := [(12, .int 1), (13, .int 10), (11, .int 0), (10, .int (-1)), (9, .int (-1)), (8, .int (-1)), (0, .ref (ad 0 0)), (1, .int (nI (σ 1 0))), (2, .int (nI (σ 2 0))), (3, .int (nI (σ 3 0))), (4, .int (nI (σ 0 0))), (5, .int (nI (σ 4 0))), (6, .int 2147483647), (7, .int 0)]) hx hb dL_refuses_486 hl (by decide) rfl (fun ls hl => ?_)
  refine lv_iinc (v := 11) (lv' := [(13, .int 11), (12, .int 1), (11, .int 0), (10, .int (-1)), (9, .int (-1)), (8, .int (-1)), (0, .ref (ad 0 0)), (1, .int (nI (σ 1 0))), (2, .int (nI (σ 2 0))), (3, .int (nI (σ 3 0))), (4, .int (nI (σ 0 0))), (5, .int (nI (σ 4 0))), (6, .int 2147483647), (7, .int 0)]) hx hb dL_refuses_488 hl (k := 1) rfl (by decide) (by decide) rfl (fun ls hl => ?_)
  refine lv_goto (tgt := 453) hx hb dL_refuses_491 (by decide) ?_
  refine lv_iload hx hb dL_refuses_453 (lv_at hl 0 rfl) ?_
  refine lv_bipush (v := 13) hx hb dL_refuses_455 (by decide) ?_
  refine lv_icmp_ge (tgt := 494) hx hb dL_refuses_457 (by decide) (fun hc => absurd hc (by decide)) (fun _ => ?_)
  refine lv_iload hx hb dL_refuses_460 (lv_at hl 1 rfl) ?_
  refine lv_if_eq (tgt := 485) hx hb dL_refuses_462 (by decide) (fun hc => absurd hc (by decide)) (fun _ => ?_)
  refine lv_aload_n hx hb dL_refuses_465 rfl (lv_at hl 6 rfl) ?_
  refine lv_iload hx hb dL_refuses_466 (lv_at hl 0 rfl) ?_
  refine lv_iload hx hb dL_refuses_468 (lv_at hl 3 rfl) ?_
  refine lv_iconst (v := 0) hx hb dL_refuses_470 (by decide) ?_
  refine lv_iconst (v := 0) hx hb dL_refuses_471 (by decide) ?_
  refine lv_iconst (v := 0) hx hb dL_refuses_472 (by decide) ?_
  refine kgo_i (kc_SW (As := [.ref (ad 0 0), .int 11, .int (-1), .int 0, .int 0, .int 0]) (rest := []) S hE hS hAb (ax_hasAlarm1 ε l hw (cpx_hasAlarm ε l hw hB hst (x := (-1)) (Or.inl (by decide +kernel)))) (vx_cwSW 6 hts gL_refuses_L_act rfl rfl rfl (by decide +kernel) ⟨Nat.le_of_ble_eq_true rfl, Nat.le_of_ble_eq_true rfl⟩) rfl hl.1 rfl (Nat.le_of_ble_eq_true rfl) dL_refuses_473 ⟨Nat.le_of_ble_eq_true rfl, Nat.le_of_ble_eq_true rfl⟩) hS (fun _ h => h) (fun r9 H1 locs e9 hz1 hq hS => ?_)
  have hw := hw.keep (fun k j hk => hq _ (va_at.lt (hw.1 k j hk).1) (fun h => h))
  clear hq hz1
  refine kr_room (c1 := 19) (s1 := 114) rfl rfl ?_
  refine kr_top e9 ?_
  refine lv_bipush (v := -41) hx hb dL_refuses_476 (by decide) ?_
  refine lv_icmp_ne (tgt := 485) hx hb dL_refuses_478 (by decide) (fun hc => absurd (by decide) hc) (fun _ => ?_)
  refine lv_iconst (v := 1) hx hb dL_refuses_481 (by decide) ?_
  refine lv_goto (tgt := 486) hx hb dL_refuses_482 (by decide) ?_
  refine lv_istore (lv' := [(12, .int 1), (13, .int 11), (11, .int 0), (10, .int (-1)), (9, .int (-1)), (8, .int (-1)), (0, .ref (ad 0 0)), (1, .int (nI (σ 1 0))), (2, .int (nI (σ 2 0))), (3, .int (nI (σ 3 0))), (4, .int (nI (σ 0 0))), (5, .int (nI (σ 4 0))), (6, .int 2147483647), (7, .int 0)]) hx hb dL_refuses_486 hl (by decide) rfl (fun ls hl => ?_)
  refine lv_iinc (v := 12) (lv' := [(13, .int 12), (12, .int 1), (11, .int 0), (10, .int (-1)), (9, .int (-1)), (8, .int (-1)), (0, .ref (ad 0 0)), (1, .int (nI (σ 1 0))), (2, .int (nI (σ 2 0))), (3, .int (nI (σ 3 0))), (4, .int (nI (σ 0 0))), (5, .int (nI (σ 4 0))), (6, .int 2147483647), (7, .int 0)]) hx hb dL_refuses_488 hl (k := 1) rfl (by decide) (by decide) rfl (fun ls hl => ?_)
  refine lv_goto (tgt := 453) hx hb dL_refuses_491 (by decide) ?_
  refine lv_iload hx hb dL_refuses_453 (lv_at hl 0 rfl) ?_
  refine lv_bipush (v := 13) hx hb dL_refuses_455 (by decide) ?_
  refine lv_icmp_ge (tgt := 494) hx hb dL_refuses_457 (by decide) (fun hc => absurd hc (by decide)) (fun _ => ?_)
  refine lv_iload hx hb dL_refuses_460 (lv_at hl 1 rfl) ?_
  refine lv_if_eq (tgt := 485) hx hb dL_refuses_462 (by decide) (fun hc => absurd hc (by decide)) (fun _ => ?_)
  refine lv_aload_n hx hb dL_refuses_465 rfl (lv_at hl 6 rfl) ?_
  refine lv_iload hx hb dL_refuses_466 (lv_at hl 0 rfl) ?_
  refine lv_iload hx hb dL_refuses_468 (lv_at hl 3 rfl) ?_
  refine lv_iconst (v := 0) hx hb dL_refuses_470 (by decide) ?_
  refine lv_iconst (v := 0) hx hb dL_refuses_471 (by decide) ?_
  refine lv_iconst (v := 0) hx hb dL_refuses_472 (by decide) ?_
  refine kgo_i (kc_SW (As := [.ref (ad 0 0), .int 12, .int (-1), .int 0, .int 0, .int 0]) (rest := []) S hE hS hAb (ax_availability1 ε l hw (cpx_availability1 ε l hw hB hst (x := (-1)) (Or.inl (by decide +kernel)))) (vx_cwSW 6 hts gL_refuses_L_act rfl rfl rfl (by decide +kernel) ⟨Nat.le_of_ble_eq_true rfl, Nat.le_of_ble_eq_true rfl⟩) rfl hl.1 rfl (Nat.le_of_ble_eq_true rfl) dL_refuses_473 ⟨Nat.le_of_ble_eq_true rfl, Nat.le_of_ble_eq_true rfl⟩) hS (fun _ h => h) (fun r9 H1 locs e9 hz1 hq hS => ?_)
  have hw := hw.keep (fun k j hk => hq _ (va_at.lt (hw.1 k j hk).1) (fun h => h))
  clear hq hz1
  refine kr_room (c1 := 20) (s1 := 120) rfl rfl ?_
  refine kr_top e9 ?_
  refine lv_bipush (v := -41) hx hb dL_refuses_476 (by decide) ?_
  refine lv_icmp_ne (tgt := 485) hx hb dL_refuses_478 (by decide) (fun hc => absurd (by decide) hc) (fun _ => ?_)
  refine lv_iconst (v := 1) hx hb dL_refuses_481 (by decide) ?_
  refine lv_goto (tgt := 486) hx hb dL_refuses_482 (by decide) ?_
  refine lv_istore (lv' := [(12, .int 1), (13, .int 12), (11, .int 0), (10, .int (-1)), (9, .int (-1)), (8, .int (-1)), (0, .ref (ad 0 0)), (1, .int (nI (σ 1 0))), (2, .int (nI (σ 2 0))), (3, .int (nI (σ 3 0))), (4, .int (nI (σ 0 0))), (5, .int (nI (σ 4 0))), (6, .int 2147483647), (7, .int 0)]) hx hb dL_refuses_486 hl (by decide) rfl (fun ls hl => ?_)
  refine lv_iinc (v := 13) (lv' := [(13, .int 13), (12, .int 1), (11, .int 0), (10, .int (-1)), (9, .int (-1)), (8, .int (-1)), (0, .ref (ad 0 0)), (1, .int (nI (σ 1 0))), (2, .int (nI (σ 2 0))), (3, .int (nI (σ 3 0))), (4, .int (nI (σ 0 0))), (5, .int (nI (σ 4 0))), (6, .int 2147483647), (7, .int 0)]) hx hb dL_refuses_488 hl (k := 1) rfl (by decide) (by decide) rfl (fun ls hl => ?_)
  refine lv_goto (tgt := 453) hx hb dL_refuses_491 (by decide) ?_
  refine lv_iload hx hb dL_refuses_453 (lv_at hl 0 rfl) ?_
  refine lv_bipush (v := 13) hx hb dL_refuses_455 (by decide) ?_
  refine lv_icmp_ge (tgt := 494) hx hb dL_refuses_457 (by decide) (fun _ => ?_) (fun hc => absurd (by decide) hc)
  refine lv_bipush (v := 13) hx hb dL_refuses_494 (by decide) ?_
  refine lv_istore (lv' := [(13, .int 13), (12, .int 1), (11, .int 0), (10, .int (-1)), (9, .int (-1)), (8, .int (-1)), (0, .ref (ad 0 0)), (1, .int (nI (σ 1 0))), (2, .int (nI (σ 2 0))), (3, .int (nI (σ 3 0))), (4, .int (nI (σ 0 0))), (5, .int (nI (σ 4 0))), (6, .int 2147483647), (7, .int 0)]) hx hb dL_refuses_496 hl (by decide) rfl (fun ls hl => ?_)
  refine lv_iload hx hb dL_refuses_498 (lv_at hl 0 rfl) ?_
  refine lv_bipush (v := 16) hx hb dL_refuses_500 (by decide) ?_
  refine lv_icmp_ge (tgt := 539) hx hb dL_refuses_502 (by decide) (fun hc => absurd hc (by decide)) (fun _ => ?_)
  refine lv_iload hx hb dL_refuses_505 (lv_at hl 1 rfl) ?_
  refine lv_if_eq (tgt := 530) hx hb dL_refuses_507 (by decide) (fun hc => absurd hc (by decide)) (fun _ => ?_)
  refine lv_aload_n hx hb dL_refuses_510 rfl (lv_at hl 6 rfl) ?_
  refine lv_iload hx hb dL_refuses_511 (lv_at hl 0 rfl) ?_
  refine lv_iload hx hb dL_refuses_513 (lv_at hl 4 rfl) ?_
  refine lv_iconst (v := 0) hx hb dL_refuses_515 (by decide) ?_
  refine lv_iconst (v := 0) hx hb dL_refuses_516 (by decide) ?_
  refine lv_iconst (v := 0) hx hb dL_refuses_517 (by decide) ?_
  refine kgo_i (kc_SW (As := [.ref (ad 0 0), .int 13, .int (-1), .int 0, .int 0, .int 0]) (rest := []) S hE hS hAb (ax_probes1 ε l hw (cpx_probes ε l hw hB hst (x := (-1)) (Or.inl (by decide +kernel)))) (vx_cwSW 6 hts gL_refuses_L_act rfl rfl rfl (by decide +kernel) ⟨Nat.le_of_ble_eq_true rfl, Nat.le_of_ble_eq_true rfl⟩) rfl hl.1 rfl (Nat.le_of_ble_eq_true rfl) dL_refuses_518 ⟨Nat.le_of_ble_eq_true rfl, Nat.le_of_ble_eq_true rfl⟩) hS (fun _ h => h) (fun r9 H1 locs e9 hz1 hq hS => ?_)
  have hw := hw.keep (fun k j hk => hq _ (va_at.lt (hw.1 k j hk).1) (fun h => h))
  clear hq hz1
  refine kr_room (c1 := 21) (s1 := 126) rfl rfl ?_
  refine kr_top e9 ?_
  refine lv_bipush (v := -41) hx hb dL_refuses_521 (by decide) ?_
  refine lv_icmp_ne (tgt := 530) hx hb dL_refuses_523 (by decide) (fun hc => absurd (by decide) hc) (fun _ => ?_)
  refine lv_iconst (v := 1) hx hb dL_refuses_526 (by decide) ?_
  refine lv_goto (tgt := 531) hx hb dL_refuses_527 (by decide) ?_
  refine lv_istore (lv' := [(12, .int 1), (13, .int 13), (11, .int 0), (10, .int (-1)), (9, .int (-1)), (8, .int (-1)), (0, .ref (ad 0 0)), (1, .int (nI (σ 1 0))), (2, .int (nI (σ 2 0))), (3, .int (nI (σ 3 0))), (4, .int (nI (σ 0 0))), (5, .int (nI (σ 4 0))), (6, .int 2147483647), (7, .int 0)]) hx hb dL_refuses_531 hl (by decide) rfl (fun ls hl => ?_)
  refine lv_iinc (v := 14) (lv' := [(13, .int 14), (12, .int 1), (11, .int 0), (10, .int (-1)), (9, .int (-1)), (8, .int (-1)), (0, .ref (ad 0 0)), (1, .int (nI (σ 1 0))), (2, .int (nI (σ 2 0))), (3, .int (nI (σ 3 0))), (4, .int (nI (σ 0 0))), (5, .int (nI (σ 4 0))), (6, .int 2147483647), (7, .int 0)]) hx hb dL_refuses_533 hl (k := 1) rfl (by decide) (by decide) rfl (fun ls hl => ?_)
  refine lv_goto (tgt := 498) hx hb dL_refuses_536 (by decide) ?_
  refine lv_iload hx hb dL_refuses_498 (lv_at hl 0 rfl) ?_
  refine lv_bipush (v := 16) hx hb dL_refuses_500 (by decide) ?_
  refine lv_icmp_ge (tgt := 539) hx hb dL_refuses_502 (by decide) (fun hc => absurd hc (by decide)) (fun _ => ?_)
  refine lv_iload hx hb dL_refuses_505 (lv_at hl 1 rfl) ?_
  refine lv_if_eq (tgt := 530) hx hb dL_refuses_507 (by decide) (fun hc => absurd hc (by decide)) (fun _ => ?_)
  refine lv_aload_n hx hb dL_refuses_510 rfl (lv_at hl 6 rfl) ?_
  refine lv_iload hx hb dL_refuses_511 (lv_at hl 0 rfl) ?_
  refine lv_iload hx hb dL_refuses_513 (lv_at hl 4 rfl) ?_
  refine lv_iconst (v := 0) hx hb dL_refuses_515 (by decide) ?_
  refine lv_iconst (v := 0) hx hb dL_refuses_516 (by decide) ?_
  refine lv_iconst (v := 0) hx hb dL_refuses_517 (by decide) ?_
  refine kgo_i (kc_SW (As := [.ref (ad 0 0), .int 14, .int (-1), .int 0, .int 0, .int 0]) (rest := []) S hE hS hAb (ax_failures1 ε l hw (cpx_failures ε l hw hB hst (x := (-1)) (Or.inl (by decide +kernel)))) (vx_cwSW 6 hts gL_refuses_L_act rfl rfl rfl (by decide +kernel) ⟨Nat.le_of_ble_eq_true rfl, Nat.le_of_ble_eq_true rfl⟩) rfl hl.1 rfl (Nat.le_of_ble_eq_true rfl) dL_refuses_518 ⟨Nat.le_of_ble_eq_true rfl, Nat.le_of_ble_eq_true rfl⟩) hS (fun _ h => h) (fun r9 H1 locs e9 hz1 hq hS => ?_)
  have hw := hw.keep (fun k j hk => hq _ (va_at.lt (hw.1 k j hk).1) (fun h => h))
  clear hq hz1
  refine kr_room (c1 := 22) (s1 := 132) rfl rfl ?_
  refine kr_top e9 ?_
  refine lv_bipush (v := -41) hx hb dL_refuses_521 (by decide) ?_
  refine lv_icmp_ne (tgt := 530) hx hb dL_refuses_523 (by decide) (fun hc => absurd (by decide) hc) (fun _ => ?_)
  refine lv_iconst (v := 1) hx hb dL_refuses_526 (by decide) ?_
  refine lv_goto (tgt := 531) hx hb dL_refuses_527 (by decide) ?_
  refine lv_istore (lv' := [(12, .int 1), (13, .int 14), (11, .int 0), (10, .int (-1)), (9, .int (-1)), (8, .int (-1)), (0, .ref (ad 0 0)), (1, .int (nI (σ 1 0))), (2, .int (nI (σ 2 0))), (3, .int (nI (σ 3 0))), (4, .int (nI (σ 0 0))), (5, .int (nI (σ 4 0))), (6, .int 2147483647), (7, .int 0)]) hx hb dL_refuses_531 hl (by decide) rfl (fun ls hl => ?_)
  refine lv_iinc (v := 15) (lv' := [(13, .int 15), (12, .int 1), (11, .int 0), (10, .int (-1)), (9, .int (-1)), (8, .int (-1)), (0, .ref (ad 0 0)), (1, .int (nI (σ 1 0))), (2, .int (nI (σ 2 0))), (3, .int (nI (σ 3 0))), (4, .int (nI (σ 0 0))), (5, .int (nI (σ 4 0))), (6, .int 2147483647), (7, .int 0)]) hx hb dL_refuses_533 hl (k := 1) rfl (by decide) (by decide) rfl (fun ls hl => ?_)
  refine lv_goto (tgt := 498) hx hb dL_refuses_536 (by decide) ?_
  refine lv_iload hx hb dL_refuses_498 (lv_at hl 0 rfl) ?_
  refine lv_bipush (v := 16) hx hb dL_refuses_500 (by decide) ?_
  refine lv_icmp_ge (tgt := 539) hx hb dL_refuses_502 (by decide) (fun hc => absurd hc (by decide)) (fun _ => ?_)
  refine lv_iload hx hb dL_refuses_505 (lv_at hl 1 rfl) ?_
  refine lv_if_eq (tgt := 530) hx hb dL_refuses_507 (by decide) (fun hc => absurd hc (by decide)) (fun _ => ?_)
  refine lv_aload_n hx hb dL_refuses_510 rfl (lv_at hl 6 rfl) ?_
  refine lv_iload hx hb dL_refuses_511 (lv_at hl 0 rfl) ?_
  refine lv_iload hx hb dL_refuses_513 (lv_at hl 4 rfl) ?_
  refine lv_iconst (v := 0) hx hb dL_refuses_515 (by decide) ?_
  refine lv_iconst (v := 0) hx hb dL_refuses_516 (by decide) ?_
  refine lv_iconst (v := 0) hx hb dL_refuses_517 (by decide) ?_
  refine kgo_i (kc_SW (As := [.ref (ad 0 0), .int 15, .int (-1), .int 0, .int 0, .int 0]) (rest := []) S hE hS hAb (ax_isBad1 ε l hw (cpx_isBad ε l hw hB hst (x := (-1)) (Or.inl (by decide +kernel)))) (vx_cwSW 6 hts gL_refuses_L_act rfl rfl rfl (by decide +kernel) ⟨Nat.le_of_ble_eq_true rfl, Nat.le_of_ble_eq_true rfl⟩) rfl hl.1 rfl (Nat.le_of_ble_eq_true rfl) dL_refuses_518 ⟨Nat.le_of_ble_eq_true rfl, Nat.le_of_ble_eq_true rfl⟩) hS (fun _ h => h) (fun r9 H1 locs e9 hz1 hq hS => ?_)
  have hw := hw.keep (fun k j hk => hq _ (va_at.lt (hw.1 k j hk).1) (fun h => h))
  clear hq hz1
  refine kr_room (c1 := 23) (s1 := 138) rfl rfl ?_
  refine kr_top e9 ?_
  refine lv_bipush (v := -41) hx hb dL_refuses_521 (by decide) ?_
  refine lv_icmp_ne (tgt := 530) hx hb dL_refuses_523 (by decide) (fun hc => absurd (by decide) hc) (fun _ => ?_)
  refine lv_iconst (v := 1) hx hb dL_refuses_526 (by decide) ?_
  refine lv_goto (tgt := 531) hx hb dL_refuses_527 (by decide) ?_
  refine lv_istore (lv' := [(12, .int 1), (13, .int 15), (11, .int 0), (10, .int (-1)), (9, .int (-1)), (8, .int (-1)), (0, .ref (ad 0 0)), (1, .int (nI (σ 1 0))), (2, .int (nI (σ 2 0))), (3, .int (nI (σ 3 0))), (4, .int (nI (σ 0 0))), (5, .int (nI (σ 4 0))), (6, .int 2147483647), (7, .int 0)]) hx hb dL_refuses_531 hl (by decide) rfl (fun ls hl => ?_)
  refine lv_iinc (v := 16) (lv' := [(13, .int 16), (12, .int 1), (11, .int 0), (10, .int (-1)), (9, .int (-1)), (8, .int (-1)), (0, .ref (ad 0 0)), (1, .int (nI (σ 1 0))), (2, .int (nI (σ 2 0))), (3, .int (nI (σ 3 0))), (4, .int (nI (σ 0 0))), (5, .int (nI (σ 4 0))), (6, .int 2147483647), (7, .int 0)]) hx hb dL_refuses_533 hl (k := 1) rfl (by decide) (by decide) rfl (fun ls hl => ?_)
  refine lv_goto (tgt := 498) hx hb dL_refuses_536 (by decide) ?_
  refine lv_iload hx hb dL_refuses_498 (lv_at hl 0 rfl) ?_
  refine lv_bipush (v := 16) hx hb dL_refuses_500 (by decide) ?_
  refine lv_icmp_ge (tgt := 539) hx hb dL_refuses_502 (by decide) (fun _ => ?_) (fun hc => absurd (by decide) hc)
  refine lv_bipush (v := 16) hx hb dL_refuses_539 (by decide) ?_
  refine lv_istore (lv' := [(13, .int 16), (12, .int 1), (11, .int 0), (10, .int (-1)), (9, .int (-1)), (8, .int (-1)), (0, .ref (ad 0 0)), (1, .int (nI (σ 1 0))), (2, .int (nI (σ 2 0))), (3, .int (nI (σ 3 0))), (4, .int (nI (σ 0 0))), (5, .int (nI (σ 4 0))), (6, .int 2147483647), (7, .int 0)]) hx hb dL_refuses_541 hl (by decide) rfl (fun ls hl => ?_)
  refine lv_iload hx hb dL_refuses_543 (lv_at hl 0 rfl) ?_
  refine lv_bipush (v := 19) hx hb dL_refuses_545 (by decide) ?_
  refine lv_icmp_ge (tgt := 600) hx hb dL_refuses_547 (by decide) (fun hc => absurd hc (by decide)) (fun _ => ?_)
  refine lv_iload hx hb dL_refuses_550 (lv_at hl 1 rfl) ?_
  refine lv_if_eq (tgt := 591) hx hb dL_refuses_552 (by decide) (fun hc => absurd hc (by decide)) (fun _ => ?_)
  refine lv_aload_n hx hb dL_refuses_555 rfl (lv_at hl 6 rfl) ?_
  refine lv_iload hx hb dL_refuses_556 (lv_at hl 0 rfl) ?_
  refine lv_iload hx hb dL_refuses_558 (lv_at hl 3 rfl) ?_
  refine lv_iconst (v := 0) hx hb dL_refuses_560 (by decide) ?_
  refine lv_iconst (v := 0) hx hb dL_refuses_561 (by decide) ?_
  refine lv_iconst (v := 0) hx hb dL_refuses_562 (by decide) ?_
  refine kgo_i (kc_SW (As := [.ref (ad 0 0), .int 16, .int (-1), .int 0, .int 0, .int 0]) (rest := []) S hE hS hAb (ax_nextProbe1 ε l hw (cpx_nextProbe1 ε l hw hB hst (x := (-1)) (y := 0) (Or.inl (by decide +kernel)))) (vx_cwSW 6 hts gL_refuses_L_act rfl rfl rfl (by decide +kernel) ⟨Nat.le_of_ble_eq_true rfl, Nat.le_of_ble_eq_true rfl⟩) rfl hl.1 rfl (Nat.le_of_ble_eq_true rfl) dL_refuses_563 ⟨Nat.le_of_ble_eq_true rfl, Nat.le_of_ble_eq_true rfl⟩) hS (fun _ h => h) (fun r9 H1 locs e9 hz1 hq hS => ?_)
  have hw := hw.keep (fun k j hk => hq _ (va_at.lt (hw.1 k j hk).1) (fun h => h))
  clear hq hz1
  refine kr_room (c1 := 24) (s1 := 144) rfl rfl ?_
  refine kr_top e9 ?_
  refine lv_bipush (v := -41) hx hb dL_refuses_566 (by decide) ?_
  refine lv_icmp_ne (tgt := 591) hx hb dL_refuses_568 (by decide) (fun hc => absurd (by decide) hc) (fun _ => ?_)
  refine lv_aload_n hx hb dL_refuses_571 rfl (lv_at hl 6 rfl) ?_
  refine lv_iload hx hb dL_refuses_572 (lv_at hl 0 rfl) ?_
  refine lv_iconst (v := 0) hx hb dL_refuses_574 (by decide) ?_
  refine lv_iload hx hb dL_refuses_575 (lv_at hl 4 rfl) ?_
  refine lv_iconst (v := 0) hx hb dL_refuses_577 (by decide) ?_
  refine lv_iconst (v := 0) hx hb dL_refuses_578 (by decide) ?_
  refine kgo_i (kc_SW (As := [.ref (ad 0 0), .int 16, .int (nI 0), .int (-1), .int 0, .int 0]) (rest := []) S hE hS hAb (ax_nextProbe1 ε l hw (cpx_nextProbe2 ε l hw hB hst (i := 0) (y := (-1)) h2 (Or.inl (by decide +kernel)))) (vx_cwSW 6 hts gL_refuses_L_act rfl rfl rfl (by decide +kernel) ⟨Nat.le_of_ble_eq_true rfl, Nat.le_of_ble_eq_true rfl⟩) rfl hl.1 rfl (Nat.le_of_ble_eq_true rfl) dL_refuses_579 ⟨Nat.le_of_ble_eq_true rfl, Nat.le_of_ble_eq_true rfl⟩) hS (fun _ h => h) (fun r9 H1 locs e9 hz1 hq hS => ?_)
  have hw := hw.keep (fun k j hk => hq _ (va_at.lt (hw.1 k j hk).1) (fun h => h))
  clear hq hz1
  refine kr_room (c1 := 25) (s1 := 150) rfl rfl ?_
  refine kr_top e9 ?_
  refine lv_bipush (v := -41) hx hb dL_refuses_582 (by decide) ?_
  refine lv_icmp_ne (tgt := 591) hx hb dL_refuses_584 (by decide) (fun hc => absurd (by decide) hc) (fun _ => ?_)
  refine lv_iconst (v := 1) hx hb dL_refuses_587 (by decide) ?_
  refine lv_goto (tgt := 592) hx hb dL_refuses_588 (by decide) ?_
  refine lv_istore (lv' := [(12, .int 1), (13, .int 16), (11, .int 0), (10, .int (-1)), (9, .int (-1)), (8, .int (-1)), (0, .ref (ad 0 0)), (1, .int (nI (σ 1 0))), (2, .int (nI (σ 2 0))), (3, .int (nI (σ 3 0))), (4, .int (nI (σ 0 0))), (5, .int (nI (σ 4 0))), (6, .int 2147483647), (7, .int 0)]) hx hb dL_refuses_592 hl (by decide) rfl (fun ls hl => ?_)
  refine lv_iinc (v := 17) (lv' := [(13, .int 17), (12, .int 1), (11, .int 0), (10, .int (-1)), (9, .int (-1)), (8, .int (-1)), (0, .ref (ad 0 0)), (1, .int (nI (σ 1 0))), (2, .int (nI (σ 2 0))), (3, .int (nI (σ 3 0))), (4, .int (nI (σ 0 0))), (5, .int (nI (σ 4 0))), (6, .int 2147483647), (7, .int 0)]) hx hb dL_refuses_594 hl (k := 1) rfl (by decide) (by decide) rfl (fun ls hl => ?_)
  refine lv_goto (tgt := 543) hx hb dL_refuses_597 (by decide) ?_
  refine lv_iload hx hb dL_refuses_543 (lv_at hl 0 rfl) ?_
  refine lv_bipush (v := 19) hx hb dL_refuses_545 (by decide) ?_
  refine lv_icmp_ge (tgt := 600) hx hb dL_refuses_547 (by decide) (fun hc => absurd hc (by decide)) (fun _ => ?_)
  refine lv_iload hx hb dL_refuses_550 (lv_at hl 1 rfl) ?_
  refine lv_if_eq (tgt := 591) hx hb dL_refuses_552 (by decide) (fun hc => absurd hc (by decide)) (fun _ => ?_)
  refine lv_aload_n hx hb dL_refuses_555 rfl (lv_at hl 6 rfl) ?_
  refine lv_iload hx hb dL_refuses_556 (lv_at hl 0 rfl) ?_
  refine lv_iload hx hb dL_refuses_558 (lv_at hl 3 rfl) ?_
  refine lv_iconst (v := 0) hx hb dL_refuses_560 (by decide) ?_
  refine lv_iconst (v := 0) hx hb dL_refuses_561 (by decide) ?_
  refine lv_iconst (v := 0) hx hb dL_refuses_562 (by decide) ?_
  refine kgo_i (kc_SW (As := [.ref (ad 0 0), .int 17, .int (-1), .int 0, .int 0, .int 0]) (rest := []) S hE hS hAb (ax_repetition1 ε l hw (cpx_repetition1 ε l hw hB hst (x := (-1)) (y := 0) (Or.inl (by decide +kernel)))) (vx_cwSW 6 hts gL_refuses_L_act rfl rfl rfl (by decide +kernel) ⟨Nat.le_of_ble_eq_true rfl, Nat.le_of_ble_eq_true rfl⟩) rfl hl.1 rfl (Nat.le_of_ble_eq_true rfl) dL_refuses_563 ⟨Nat.le_of_ble_eq_true rfl, Nat.le_of_ble_eq_true rfl⟩) hS (fun _ h => h) (fun r9 H1 locs e9 hz1 hq hS => ?_)
  have hw := hw.keep (fun k j hk => hq _ (va_at.lt (hw.1 k j hk).1) (fun h => h))
  clear hq hz1
  refine kr_room (c1 := 26) (s1 := 156) rfl rfl ?_
  refine kr_top e9 ?_
  refine lv_bipush (v := -41) hx hb dL_refuses_566 (by decide) ?_
  refine lv_icmp_ne (tgt := 591) hx hb dL_refuses_568 (by decide) (fun hc => absurd (by decide) hc) (fun _ => ?_)
  refine lv_aload_n hx hb dL_refuses_571 rfl (lv_at hl 6 rfl) ?_
  refine lv_iload hx hb dL_refuses_572 (lv_at hl 0 rfl) ?_
  refine lv_iconst (v := 0) hx hb dL_refuses_574 (by decide) ?_
  refine lv_iload hx hb dL_refuses_575 (lv_at hl 4 rfl) ?_
  refine lv_iconst (v := 0) hx hb dL_refuses_577 (by decide) ?_
  refine lv_iconst (v := 0) hx hb dL_refuses_578 (by decide) ?_
  refine kgo_i (kc_SW (As := [.ref (ad 0 0), .int 17, .int (nI 0), .int (-1), .int 0, .int 0]) (rest := []) S hE hS hAb (ax_repetition1 ε l hw (cpx_repetition2 ε l hw hB hst (i := 0) (y := (-1)) h2 (Or.inl (by decide +kernel)))) (vx_cwSW 6 hts gL_refuses_L_act rfl rfl rfl (by decide +kernel) ⟨Nat.le_of_ble_eq_true rfl, Nat.le_of_ble_eq_true rfl⟩) rfl hl.1 rfl (Nat.le_of_ble_eq_true rfl) dL_refuses_579 ⟨Nat.le_of_ble_eq_true rfl, Nat.le_of_ble_eq_true rfl⟩) hS (fun _ h => h) (fun r9 H1 locs e9 hz1 hq hS => ?_)
  have hw := hw.keep (fun k j hk => hq _ (va_at.lt (hw.1 k j hk).1) (fun h => h))
  clear hq hz1
  refine kr_room (c1 := 27) (s1 := 162) rfl rfl ?_
  refine kr_top e9 ?_
  refine lv_bipush (v := -41) hx hb dL_refuses_582 (by decide) ?_
  refine lv_icmp_ne (tgt := 591) hx hb dL_refuses_584 (by decide) (fun hc => absurd (by decide) hc) (fun _ => ?_)
  refine lv_iconst (v := 1) hx hb dL_refuses_587 (by decide) ?_
  refine lv_goto (tgt := 592) hx hb dL_refuses_588 (by decide) ?_
  refine lv_istore (lv' := [(12, .int 1), (13, .int 17), (11, .int 0), (10, .int (-1)), (9, .int (-1)), (8, .int (-1)), (0, .ref (ad 0 0)), (1, .int (nI (σ 1 0))), (2, .int (nI (σ 2 0))), (3, .int (nI (σ 3 0))), (4, .int (nI (σ 0 0))), (5, .int (nI (σ 4 0))), (6, .int 2147483647), (7, .int 0)]) hx hb dL_refuses_592 hl (by decide) rfl (fun ls hl => ?_)
  refine lv_iinc (v := 18) (lv' := [(13, .int 18), (12, .int 1), (11, .int 0), (10, .int (-1)), (9, .int (-1)), (8, .int (-1)), (0, .ref (ad 0 0)), (1, .int (nI (σ 1 0))), (2, .int (nI (σ 2 0))), (3, .int (nI (σ 3 0))), (4, .int (nI (σ 0 0))), (5, .int (nI (σ 4 0))), (6, .int 2147483647), (7, .int 0)]) hx hb dL_refuses_594 hl (k := 1) rfl (by decide) (by decide) rfl (fun ls hl => ?_)
  refine lv_goto (tgt := 543) hx hb dL_refuses_597 (by decide) ?_
  refine lv_iload hx hb dL_refuses_543 (lv_at hl 0 rfl) ?_
  refine lv_bipush (v := 19) hx hb dL_refuses_545 (by decide) ?_
  refine lv_icmp_ge (tgt := 600) hx hb dL_refuses_547 (by decide) (fun hc => absurd hc (by decide)) (fun _ => ?_)
  refine lv_iload hx hb dL_refuses_550 (lv_at hl 1 rfl) ?_
  refine lv_if_eq (tgt := 591) hx hb dL_refuses_552 (by decide) (fun hc => absurd hc (by decide)) (fun _ => ?_)
  refine lv_aload_n hx hb dL_refuses_555 rfl (lv_at hl 6 rfl) ?_
  refine lv_iload hx hb dL_refuses_556 (lv_at hl 0 rfl) ?_
  refine lv_iload hx hb dL_refuses_558 (lv_at hl 3 rfl) ?_
  refine lv_iconst (v := 0) hx hb dL_refuses_560 (by decide) ?_
  refine lv_iconst (v := 0) hx hb dL_refuses_561 (by decide) ?_
  refine lv_iconst (v := 0) hx hb dL_refuses_562 (by decide) ?_
  refine kgo_i (kc_SW (As := [.ref (ad 0 0), .int 18, .int (-1), .int 0, .int 0, .int 0]) (rest := []) S hE hS hAb (ax_vote1 ε l hw (cpx_vote1 ε l hw hB hst (x := (-1)) (y := 0) (Or.inl (by decide +kernel)))) (vx_cwSW 6 hts gL_refuses_L_act rfl rfl rfl (by decide +kernel) ⟨Nat.le_of_ble_eq_true rfl, Nat.le_of_ble_eq_true rfl⟩) rfl hl.1 rfl (Nat.le_of_ble_eq_true rfl) dL_refuses_563 ⟨Nat.le_of_ble_eq_true rfl, Nat.le_of_ble_eq_true rfl⟩) hS (fun _ h => h) (fun r9 H1 locs e9 hz1 hq hS => ?_)
  have hw := hw.keep (fun k j hk => hq _ (va_at.lt (hw.1 k j hk).1) (fun h => h))
  clear hq hz1
  refine kr_room (c1 := 28) (s1 := 168) rfl rfl ?_
  refine kr_top e9 ?_
  refine lv_bipush (v := -41) hx hb dL_refuses_566 (by decide) ?_
  refine lv_icmp_ne (tgt := 591) hx hb dL_refuses_568 (by decide) (fun hc => absurd (by decide) hc) (fun _ => ?_)
  refine lv_aload_n hx hb dL_refuses_571 rfl (lv_at hl 6 rfl) ?_
  refine lv_iload hx hb dL_refuses_572 (lv_at hl 0 rfl) ?_
  refine lv_iconst (v := 0) hx hb dL_refuses_574 (by decide) ?_
  refine lv_iload hx hb dL_refuses_575 (lv_at hl 4 rfl) ?_
  refine lv_iconst (v := 0) hx hb dL_refuses_577 (by decide) ?_
  refine lv_iconst (v := 0) hx hb dL_refuses_578 (by decide) ?_
  refine kgo_i (kc_SW (As := [.ref (ad 0 0), .int 18, .int (nI 0), .int (-1), .int 0, .int 0]) (rest := []) S hE hS hAb (ax_vote1 ε l hw (cpx_vote2 ε l hw hB hst (i := 0) (y := (-1)) h2 (Or.inl (by decide +kernel)))) (vx_cwSW 6 hts gL_refuses_L_act rfl rfl rfl (by decide +kernel) ⟨Nat.le_of_ble_eq_true rfl, Nat.le_of_ble_eq_true rfl⟩) rfl hl.1 rfl (Nat.le_of_ble_eq_true rfl) dL_refuses_579 ⟨Nat.le_of_ble_eq_true rfl, Nat.le_of_ble_eq_true rfl⟩) hS (fun _ h => h) (fun r9 H1 locs e9 hz1 hq hS => ?_)
  have hw := hw.keep (fun k j hk => hq _ (va_at.lt (hw.1 k j hk).1) (fun h => h))
  clear hq hz1
  refine kr_room (c1 := 29) (s1 := 174) rfl rfl ?_
  refine kr_top e9 ?_
  refine lv_bipush (v := -41) hx hb dL_refuses_582 (by decide) ?_
  refine lv_icmp_ne (tgt := 591) hx hb dL_refuses_584 (by decide) (fun hc => absurd (by decide) hc) (fun _ => ?_)
  refine lv_iconst (v := 1) hx hb dL_refuses_587 (by decide) ?_
  refine lv_goto (tgt := 592) hx hb dL_refuses_588 (by decide) ?_
  refine lv_istore (lv' := [(12, .int 1), (13, .int 18), (11, .int 0), (10, .int (-1)), (9, .int (-1)), (8, .int (-1)), (0, .ref (ad 0 0)), (1, .int (nI (σ 1 0))), (2, .int (nI (σ 2 0))), (3, .int (nI (σ 3 0))), (4, .int (nI (σ 0 0))), (5, .int (nI (σ 4 0))), (6, .int 2147483647), (7, .int 0)]) hx hb dL_refuses_592 hl (by decide) rfl (fun ls hl => ?_)
  refine lv_iinc (v := 19) (lv' := [(13, .int 19), (12, .int 1), (11, .int 0), (10, .int (-1)), (9, .int (-1)), (8, .int (-1)), (0, .ref (ad 0 0)), (1, .int (nI (σ 1 0))), (2, .int (nI (σ 2 0))), (3, .int (nI (σ 3 0))), (4, .int (nI (σ 0 0))), (5, .int (nI (σ 4 0))), (6, .int 2147483647), (7, .int 0)]) hx hb dL_refuses_594 hl (k := 1) rfl (by decide) (by decide) rfl (fun ls hl => ?_)
  refine lv_goto (tgt := 543) hx hb dL_refuses_597 (by decide) ?_
  refine lv_iload hx hb dL_refuses_543 (lv_at hl 0 rfl) ?_
  refine lv_bipush (v := 19) hx hb dL_refuses_545 (by decide) ?_
  refine lv_icmp_ge (tgt := 600) hx hb dL_refuses_547 (by decide) (fun _ => ?_) (fun hc => absurd (by decide) hc)
  refine lv_bipush (v := 19) hx hb dL_refuses_600 (by decide) ?_
  refine lv_istore (lv' := [(13, .int 19), (12, .int 1), (11, .int 0), (10, .int (-1)), (9, .int (-1)), (8, .int (-1)), (0, .ref (ad 0 0)), (1, .int (nI (σ 1 0))), (2, .int (nI (σ 2 0))), (3, .int (nI (σ 3 0))), (4, .int (nI (σ 0 0))), (5, .int (nI (σ 4 0))), (6, .int 2147483647), (7, .int 0)]) hx hb dL_refuses_602 hl (by decide) rfl (fun ls hl => ?_)
  refine lv_iload hx hb dL_refuses_604 (lv_at hl 0 rfl) ?_
  refine lv_bipush (v := 22) hx hb dL_refuses_606 (by decide) ?_
  refine lv_icmp_ge (tgt := 656) hx hb dL_refuses_608 (by decide) (fun hc => absurd hc (by decide)) (fun _ => ?_)
  refine lv_iload hx hb dL_refuses_611 (lv_at hl 1 rfl) ?_
  refine lv_if_eq (tgt := 647) hx hb dL_refuses_613 (by decide) (fun hc => absurd hc (by decide)) (fun _ => ?_)
  refine lv_aload_n hx hb dL_refuses_616 rfl (lv_at hl 6 rfl) ?_
  refine lv_iload hx hb dL_refuses_617 (lv_at hl 0 rfl) ?_
  refine lv_iload hx hb dL_refuses_619 (lv_at hl 13 rfl) ?_
  refine lv_iconst (v := 1) hx hb dL_refuses_621 (by decide) ?_
  refine lv_icmp_ne (tgt := 630) hx hb dL_refuses_622 (by decide) (fun _ => ?_) (fun hc => absurd hc (by decide))
  refine lv_iload hx hb dL_refuses_630 (lv_at hl 5 rfl) ?_
  refine lv_iconst (v := 0) hx hb dL_refuses_632 (by decide) ?_
  refine lv_iconst (v := 0) hx hb dL_refuses_633 (by decide) ?_
  refine lv_iconst (v := 0) hx hb dL_refuses_634 (by decide) ?_
  refine kgo_i (kc_SW (As := [.ref (ad 0 0), .int 19, .int (-1), .int 0, .int 0, .int 0]) (rest := []) S hE hS hAb (ax_alarmCheck1 ε l hw (cpx_alarmCheck ε l hw hB hst (x := (-1)) (Or.inl (by decide +kernel)))) (vx_cwSW 6 hts gL_refuses_L_act rfl rfl rfl (by decide +kernel) ⟨Nat.le_of_ble_eq_true rfl, Nat.le_of_ble_eq_true rfl⟩) rfl hl.1 rfl (Nat.le_of_ble_eq_true rfl) dL_refuses_635 ⟨Nat.le_of_ble_eq_true rfl, Nat.le_of_ble_eq_true rfl⟩) hS (fun _ h => h) (fun r9 H1 locs e9 hz1 hq hS => ?_)
  have hw := hw.keep (fun k j hk => hq _ (va_at.lt (hw.1 k j hk).1) (fun h => h))
  clear hq hz1
  refine kr_room (c1 := 30) (s1 := 180) rfl rfl ?_
  refine kr_top e9 ?_
  refine lv_bipush (v := -41) hx hb dL_refuses_638 (by decide) ?_
  refine lv_icmp_ne (tgt := 647) hx hb dL_refuses_640 (by decide) (fun hc => absurd (by decide) hc) (fun _ => ?_)
  refine lv_iconst (v := 1) hx hb dL_refuses_643 (by decide) ?_
  refine lv_goto (tgt := 648) hx hb dL_refuses_644 (by decide) ?_
  refine lv_istore (lv' := [(12, .int 1), (13, .int 19), (11, .int 0), (10, .int (-1)), (9, .int (-1)), (8, .int (-1)), (0, .ref (ad 0 0)), (1, .int (nI (σ 1 0))), (2, .int (nI (σ 2 0))), (3, .int (nI (σ 3 0))), (4, .int (nI (σ 0 0))), (5, .int (nI (σ 4 0))), (6, .int 2147483647), (7, .int 0)]) hx hb dL_refuses_648 hl (by decide) rfl (fun ls hl => ?_)
  refine lv_iinc (v := 20) (lv' := [(13, .int 20), (12, .int 1), (11, .int 0), (10, .int (-1)), (9, .int (-1)), (8, .int (-1)), (0, .ref (ad 0 0)), (1, .int (nI (σ 1 0))), (2, .int (nI (σ 2 0))), (3, .int (nI (σ 3 0))), (4, .int (nI (σ 0 0))), (5, .int (nI (σ 4 0))), (6, .int 2147483647), (7, .int 0)]) hx hb dL_refuses_650 hl (k := 1) rfl (by decide) (by decide) rfl (fun ls hl => ?_)
  refine lv_goto (tgt := 604) hx hb dL_refuses_653 (by decide) ?_
  refine lv_iload hx hb dL_refuses_604 (lv_at hl 0 rfl) ?_
  refine lv_bipush (v := 22) hx hb dL_refuses_606 (by decide) ?_
  refine lv_icmp_ge (tgt := 656) hx hb dL_refuses_608 (by decide) (fun hc => absurd hc (by decide)) (fun _ => ?_)
  refine lv_iload hx hb dL_refuses_611 (lv_at hl 1 rfl) ?_
  refine lv_if_eq (tgt := 647) hx hb dL_refuses_613 (by decide) (fun hc => absurd hc (by decide)) (fun _ => ?_)
  refine lv_aload_n hx hb dL_refuses_616 rfl (lv_at hl 6 rfl) ?_
  refine lv_iload hx hb dL_refuses_617 (lv_at hl 0 rfl) ?_
  refine lv_iload hx hb dL_refuses_619 (lv_at hl 13 rfl) ?_
  refine lv_iconst (v := 1) hx hb dL_refuses_621 (by decide) ?_
  refine lv_icmp_ne (tgt := 630) hx hb dL_refuses_622 (by decide) (fun _ => ?_) (fun hc => absurd hc (by decide))
  refine lv_iload hx hb dL_refuses_630 (lv_at hl 5 rfl) ?_
  refine lv_iconst (v := 0) hx hb dL_refuses_632 (by decide) ?_
  refine lv_iconst (v := 0) hx hb dL_refuses_633 (by decide) ?_
  refine lv_iconst (v := 0) hx hb dL_refuses_634 (by decide) ?_
  refine kgo_i (kc_SW (As := [.ref (ad 0 0), .int 20, .int (-1), .int 0, .int 0, .int 0]) (rest := []) S hE hS hAb (ax_alarmRaised1 ε l hw (cpx_alarmRaised ε l hw hB hst (x := (-1)) (Or.inl (by decide +kernel)))) (vx_cwSW 6 hts gL_refuses_L_act rfl rfl rfl (by decide +kernel) ⟨Nat.le_of_ble_eq_true rfl, Nat.le_of_ble_eq_true rfl⟩) rfl hl.1 rfl (Nat.le_of_ble_eq_true rfl) dL_refuses_635 ⟨Nat.le_of_ble_eq_true rfl, Nat.le_of_ble_eq_true rfl⟩) hS (fun _ h => h) (fun r9 H1 locs e9 hz1 hq hS => ?_)
  have hw := hw.keep (fun k j hk => hq _ (va_at.lt (hw.1 k j hk).1) (fun h => h))
  clear hq hz1
  refine kr_room (c1 := 31) (s1 := 186) rfl rfl ?_
  refine kr_top e9 ?_
  refine lv_bipush (v := -41) hx hb dL_refuses_638 (by decide) ?_
  refine lv_icmp_ne (tgt := 647) hx hb dL_refuses_640 (by decide) (fun hc => absurd (by decide) hc) (fun _ => ?_)
  refine lv_iconst (v := 1) hx hb dL_refuses_643 (by decide) ?_
  refine lv_goto (tgt := 648) hx hb dL_refuses_644 (by decide) ?_
  refine lv_istore (lv' := [(12, .int 1), (13, .int 20), (11, .int 0), (10, .int (-1)), (9, .int (-1)), (8, .int (-1)), (0, .ref (ad 0 0)), (1, .int (nI (σ 1 0))), (2, .int (nI (σ 2 0))), (3, .int (nI (σ 3 0))), (4, .int (nI (σ 0 0))), (5, .int (nI (σ 4 0))), (6, .int 2147483647), (7, .int 0)]) hx hb dL_refuses_648 hl (by decide) rfl (fun ls hl => ?_)
  refine lv_iinc (v := 21) (lv' := [(13, .int 21), (12, .int 1), (11, .int 0), (10, .int (-1)), (9, .int (-1)), (8, .int (-1)), (0, .ref (ad 0 0)), (1, .int (nI (σ 1 0))), (2, .int (nI (σ 2 0))), (3, .int (nI (σ 3 0))), (4, .int (nI (σ 0 0))), (5, .int (nI (σ 4 0))), (6, .int 2147483647), (7, .int 0)]) hx hb dL_refuses_650 hl (k := 1) rfl (by decide) (by decide) rfl (fun ls hl => ?_)
  refine lv_goto (tgt := 604) hx hb dL_refuses_653 (by decide) ?_
  refine lv_iload hx hb dL_refuses_604 (lv_at hl 0 rfl) ?_
  refine lv_bipush (v := 22) hx hb dL_refuses_606 (by decide) ?_
  refine lv_icmp_ge (tgt := 656) hx hb dL_refuses_608 (by decide) (fun hc => absurd hc (by decide)) (fun _ => ?_)
  refine lv_iload hx hb dL_refuses_611 (lv_at hl 1 rfl) ?_
  refine lv_if_eq (tgt := 647) hx hb dL_refuses_613 (by decide) (fun hc => absurd hc (by decide)) (fun _ => ?_)
  refine lv_aload_n hx hb dL_refuses_616 rfl (lv_at hl 6 rfl) ?_
  refine lv_iload hx hb dL_refuses_617 (lv_at hl 0 rfl) ?_
  refine lv_iload hx hb dL_refuses_619 (lv_at hl 13 rfl) ?_
  refine lv_iconst (v := 1) hx hb dL_refuses_621 (by decide) ?_
  refine lv_icmp_ne (tgt := 630) hx hb dL_refuses_622 (by decide) (fun _ => ?_) (fun hc => absurd hc (by decide))
  refine lv_iload hx hb dL_refuses_630 (lv_at hl 5 rfl) ?_
  refine lv_iconst (v := 0) hx hb dL_refuses_632 (by decide) ?_
  refine lv_iconst (v := 0) hx hb dL_refuses_633 (by decide) ?_
  refine lv_iconst (v := 0) hx hb dL_refuses_634 (by decide) ?_
  refine kgo_i (kc_SW (As := [.ref (ad 0 0), .int 21, .int (-1), .int 0, .int 0, .int 0]) (rest := []) S hE hS hAb (ax_alarmClosed1 ε l hw (cpx_alarmClosed ε l hw hB hst (x := (-1)) (Or.inl (by decide +kernel)))) (vx_cwSW 6 hts gL_refuses_L_act rfl rfl rfl (by decide +kernel) ⟨Nat.le_of_ble_eq_true rfl, Nat.le_of_ble_eq_true rfl⟩) rfl hl.1 rfl (Nat.le_of_ble_eq_true rfl) dL_refuses_635 ⟨Nat.le_of_ble_eq_true rfl, Nat.le_of_ble_eq_true rfl⟩) hS (fun _ h => h) (fun r9 H1 locs e9 hz1 hq hS => ?_)
  have hw := hw.keep (fun k j hk => hq _ (va_at.lt (hw.1 k j hk).1) (fun h => h))
  clear hq hz1
  refine kr_room (c1 := 32) (s1 := 192) rfl rfl ?_
  refine kr_top e9 ?_
  refine lv_bipush (v := -41) hx hb dL_refuses_638 (by decide) ?_
  refine lv_icmp_ne (tgt := 647) hx hb dL_refuses_640 (by decide) (fun hc => absurd (by decide) hc) (fun _ => ?_)
  refine lv_iconst (v := 1) hx hb dL_refuses_643 (by decide) ?_
  refine lv_goto (tgt := 648) hx hb dL_refuses_644 (by decide) ?_
  refine lv_istore (lv' := [(12, .int 1), (13, .int 21), (11, .int 0), (10, .int (-1)), (9, .int (-1)), (8, .int (-1)), (0, .ref (ad 0 0)), (1, .int (nI (σ 1 0))), (2, .int (nI (σ 2 0))), (3, .int (nI (σ 3 0))), (4, .int (nI (σ 0 0))), (5, .int (nI (σ 4 0))), (6, .int 2147483647), (7, .int 0)]) hx hb dL_refuses_648 hl (by decide) rfl (fun ls hl => ?_)
  refine lv_iinc (v := 22) (lv' := [(13, .int 22), (12, .int 1), (11, .int 0), (10, .int (-1)), (9, .int (-1)), (8, .int (-1)), (0, .ref (ad 0 0)), (1, .int (nI (σ 1 0))), (2, .int (nI (σ 2 0))), (3, .int (nI (σ 3 0))), (4, .int (nI (σ 0 0))), (5, .int (nI (σ 4 0))), (6, .int 2147483647), (7, .int 0)]) hx hb dL_refuses_650 hl (k := 1) rfl (by decide) (by decide) rfl (fun ls hl => ?_)
  refine lv_goto (tgt := 604) hx hb dL_refuses_653 (by decide) ?_
  refine lv_iload hx hb dL_refuses_604 (lv_at hl 0 rfl) ?_
  refine lv_bipush (v := 22) hx hb dL_refuses_606 (by decide) ?_
  refine lv_icmp_ge (tgt := 656) hx hb dL_refuses_608 (by decide) (fun _ => ?_) (fun hc => absurd (by decide) hc)
  refine lv_iload hx hb dL_refuses_656 (lv_at hl 1 rfl) ?_
  refine lv_if_ne (tgt := 663) hx hb dL_refuses_658 (by decide) (fun _ => ?_) (fun hc => absurd hc (by decide))
  refine lv_iinc (v := 1) (lv' := [(7, .int 1), (13, .int 22), (12, .int 1), (11, .int 0), (10, .int (-1)), (9, .int (-1)), (8, .int (-1)), (0, .ref (ad 0 0)), (1, .int (nI (σ 1 0))), (2, .int (nI (σ 2 0))), (3, .int (nI (σ 3 0))), (4, .int (nI (σ 0 0))), (5, .int (nI (σ 4 0))), (6, .int 2147483647)]) hx hb dL_refuses_663 hl (k := 13) rfl (by decide) (by decide) rfl (fun ls hl => ?_)
  refine lv_goto (tgt := 19) hx hb dL_refuses_666 (by decide) ?_
  exact KK _ _ _ hw hS (lv_sub hl [7, 8, 9, 10, 11, 12, 13, 0] rfl)
set_option maxHeartbeats 4000000 in
set_option maxRecDepth 100000 in
theorem rf_1 (S : CallFix p m c cL_refuses 14 s args wsL_refuses RL) (hE : kE ε s) (hst : l.stackTraces = false) (hw : kW ε A ad σ H) (hB : kB σ) (h2 : 0 < σ 2 0) (hS : va_S kNo s.heap H locs) (hl : lv_has ls 14 [(0, .ref (ad 0 0)), (1, .int (nI (σ 1 0))), (2, .int (nI (σ 2 0))), (3, .int (nI (σ 3 0))), (4, .int (nI (σ 0 0))), (5, .int (nI (σ 4 0))), (6, .int 2147483647), (7, .int 1)])
    (KK : ∀ (H' : Heap) (locs' : List Loc) (ls' : Array Slot), kW ε A ad σ H' → va_S kNo s.heap H' locs' → lv_has ls' 14 [(0, .ref (ad 0 0)), (1, .int (nI (σ 1 0))), (2, .int (nI (σ 2 0))), (3, .int (nI (σ 3 0))), (4, .int (nI (σ 0 0))), (5, .int (nI (σ 4 0))), (6, .int 2147483647), (7, .int 2)] → W p l e ({ frames := 12, cells := 128, slots := 768, locals := 360 }) s m args below meth c H' locs' 64 384 Q (F0 m 19 ls' [])) : W p l e ({ frames := 12, cells := 128, slots := 768, locals := 360 }) s m args below meth c H locs 32 192 Q (F0 m 19 ls []) := by
  have hx := S.1
  have hb := S.2.1
  have hown : s.vm.findClass RL = some m.cls := S.2.2.2.1
  have hts := S.2.2.2.2
  have hK := hE.1
  have hAb : ∀ q, kNo q → kHi ε q := fun _ h => h.elim
  refine lv_iload hx hb dL_refuses_19 (lv_at hl 7 rfl) ?_
  refine lv_iconst (v := 4) hx hb dL_refuses_21 (by decide) ?_
  refine lv_icmp_ge (tgt := 669) hx hb dL_refuses_22 (by decide) (fun hc => absurd hc (by decide)) (fun _ => ?_)
  refine lv_iload hx hb dL_refuses_25 (lv_at hl 7 rfl) ?_
  refine lv_if_ne (tgt := 34) hx hb dL_refuses_27 (by decide) (fun _ => ?_) (fun hc => absurd hc (by decide))
  refine lv_iload hx hb dL_refuses_34 (lv_at hl 7 rfl) ?_
  refine lv_iconst (v := 2) hx hb dL_refuses_36 (by decide) ?_
  refine lv_icmp_ne (tgt := 45) hx hb dL_refuses_37 (by decide) (fun _ => ?_) (fun hc => absurd hc (by decide))
  refine lv_iload hx hb dL_refuses_45 (lv_at hl 6 rfl) ?_
  refine lv_ineg hx hb dL_refuses_47 ?_
  refine lv_iconst (v := 1) hx hb dL_refuses_48 (by decide) ?_
  refine lv_isub hx hb dL_refuses_49 ?_
  refine kr_top (y := (-2147483648)) (by decide +kernel) ?_
  refine lv_istore (lv' := [(8, .int ((-2147483648))), (0, .ref (ad 0 0)), (1, .int (nI (σ 1 0))), (2, .int (nI (σ 2 0))), (3, .int (nI (σ 3 0))), (4, .int (nI (σ 0 0))), (5, .int (nI (σ 4 0))), (6, .int 2147483647), (7, .int 1)]) hx hb dL_refuses_50 hl (by decide) rfl (fun ls hl => ?_)
  refine lv_iload hx hb dL_refuses_52 (lv_at hl 8 rfl) ?_
  refine lv_iconst (v := 1) hx hb dL_refuses_54 (by decide) ?_
  refine lv_icmp_ne (tgt := 62) hx hb dL_refuses_55 (by decide) (fun hc => absurd (by decide) hc) (fun _ => ?_)
  refine lv_iload_n hx hb dL_refuses_58 rfl (lv_at hl 2 rfl) ?_
  refine lv_goto (tgt := 64) hx hb dL_refuses_59 (by decide) ?_
  refine lv_istore (lv' := [(9, .int (nI (σ 1 0))), (8, .int ((-2147483648))), (0, .ref (ad 0 0)), (1, .int (nI (σ 1 0))), (2, .int (nI (σ 2 0))), (3, .int (nI (σ 3 0))), (4, .int (nI (σ 0 0))), (5, .int (nI (σ 4 0))), (6, .int 2147483647), (7, .int 1)]) hx hb dL_refuses_64 hl (by decide) rfl (fun ls hl => ?_)
  refine lv_iload hx hb dL_refuses_66 (lv_at hl 9 rfl) ?_
  refine lv_iconst (v := 1) hx hb dL_refuses_68 (by decide) ?_
  refine lv_icmp_ne (tgt := 76) hx hb dL_refuses_69 (by decide) (fun hc => absurd (by decide) hc) (fun _ => ?_)
  refine lv_iload_n hx hb dL_refuses_72 rfl (lv_at hl 4 rfl) ?_
  refine lv_goto (tgt := 78) hx hb dL_refuses_73 (by decide) ?_
  refine lv_istore (lv' := [(10, .int (nI (σ 2 0))), (9, .int (nI (σ 1 0))), (8, .int ((-2147483648))), (0, .ref (ad 0 0)), (1, .int (nI (σ 1 0))), (2, .int (nI (σ 2 0))), (3, .int (nI (σ 3 0))), (4, .int (nI (σ 0 0))), (5, .int (nI (σ 4 0))), (6, .int 2147483647), (7, .int 1)]) hx hb dL_refuses_78 hl (by decide) rfl (fun ls hl => ?_)
  refine lv_iload hx hb dL_refuses_80 (lv_at hl 10 rfl) ?_
  refine lv_if_ne (tgt := 89) hx hb dL_refuses_82 (by decide) (fun _ => ?_) (fun hc => absurd hc (by decide))
  refine lv_iload hx hb dL_refuses_89 (lv_at hl 2 rfl) ?_
  refine lv_istore (lv' := [(11, .int ((-2147483648))), (10, .int (nI (σ 2 0))), (9, .int (nI (σ 1 0))), (8, .int ((-2147483648))), (0, .ref (ad 0 0)), (1, .int (nI (σ 1 0))), (2, .int (nI (σ 2 0))), (3, .int (nI (σ 3 0))), (4, .int (nI (σ 0 0))), (5, .int (nI (σ 4 0))), (6, .int 2147483647), (7, .int 1)]) hx hb dL_refuses_91 hl (by decide) rfl (fun ls hl => ?_)
  refine lv_aload_n hx hb dL_refuses_93 rfl (lv_at hl 4 rfl) ?_
  refine lv_iconst (v := 0) hx hb dL_refuses_94 (by decide) ?_
  refine lv_iload hx hb dL_refuses_95 (lv_at hl 11 rfl) ?_
  refine lv_if_ne (tgt := 105) hx hb dL_refuses_97 (by decide) (fun _ => ?_) (fun hc => absurd hc (by decide))
  refine lv_iload hx hb dL_refuses_105 (lv_at hl 2 rfl) ?_
  refine lv_iconst (v := 0) hx hb dL_refuses_107 (by decide) ?_
  refine lv_iconst (v := 0) hx hb dL_refuses_108 (by decide) ?_
  refine lv_iconst (v := 0) hx hb dL_refuses_109 (by decide) ?_
  refine kgo_i (kc_SW (As := [.ref (ad 0 0), .int 0, .int (nI (σ 1 0)), .int 0, .int 0, .int 0]) (rest := []) S hE hS hAb (ax_addRegion1 ε l hw (cpx_addRegion1 ε l hw hB hst (x := nI (σ 1 0)) (kne_m1 (by have := hB.nR; omega)) (Or.inr (Int32.le_refl _)))) (vx_cwSW 6 hts gL_refuses_L_act rfl rfl rfl (by decide +kernel) ⟨Nat.le_of_ble_eq_true rfl, Nat.le_of_ble_eq_true rfl⟩) rfl hl.1 rfl (Nat.le_of_ble_eq_true rfl) dL_refuses_110 ⟨Nat.le_of_ble_eq_true rfl, Nat.le_of_ble_eq_true rfl⟩) hS (fun _ h => h) (fun r9 H1 locs e9 hz1 hq hS => ?_)
  have hw := hw.keep (fun k j hk => hq _ (va_at.lt (hw.1 k j hk).1) (fun h => h))
  clear hq hz1
  refine kr_room (c1 := 33) (s1 := 198) rfl rfl ?_
  refine kr_top e9 ?_
  refine lv_bipush (v := -41) hx hb dL_refuses_113 (by decide) ?_
  refine lv_icmp_ne (tgt := 226) hx hb dL_refuses_115 (by decide) (fun hc => absurd (by decide) hc) (fun _ => ?_)
  refine lv_aload_n hx hb dL_refuses_118 rfl (lv_at hl 4 rfl) ?_
  refine lv_iconst (v := 1) hx hb dL_refuses_119 (by decide) ?_
  refine lv_iload hx hb dL_refuses_120 (lv_at hl 11 rfl) ?_
  refine lv_iconst (v := 1) hx hb dL_refuses_122 (by decide) ?_
  refine lv_icmp_ne (tgt := 131) hx hb dL_refuses_123 (by decide) (fun hc => absurd (by decide) hc) (fun _ => ?_)
  refine lv_bipush (v := 61) hx hb dL_refuses_126 (by decide) ?_
  refine lv_goto (tgt := 133) hx hb dL_refuses_128 (by decide) ?_
  refine lv_iconst (v := 0) hx hb dL_refuses_133 (by decide) ?_
  refine lv_iconst (v := 0) hx hb dL_refuses_134 (by decide) ?_
  refine lv_iconst (v := 1) hx hb dL_refuses_135 (by decide) ?_
  refine kgo_i (kc_SW (As := [.ref (ad 0 0), .int 1, .int 61, .int 0, .int 0, .int 1]) (rest := []) S hE hS hAb (ax_addCheck2 ε l hw (cpx_addCheck1 ε l hw hB hst (x1 := 61) (x2 := 0) (x3 := 0) (x4 := 1) (by decide +kernel))) (vx_cwSW 6 hts gL_refuses_L_act rfl rfl rfl (by decide +kernel) ⟨Nat.le_of_ble_eq_true rfl, Nat.le_of_ble_eq_true rfl⟩) rfl hl.1 rfl (Nat.le_of_ble_eq_true rfl) dL_refuses_136 ⟨Nat.le_of_ble_eq_true rfl, Nat.le_of_ble_eq_true rfl⟩) hS (fun _ h => h) (fun r9 H1 locs e9 hz1 hq hS => ?_)
  have hw := hw.keep (fun k j hk => hq _ (va_at.lt (hw.1 k j hk).1) (fun h => h))
  clear hq hz1
  refine kr_room (c1 := 34) (s1 := 204) rfl rfl ?_
  refine kr_top e9 ?_
  refine lv_bipush (v := -42) hx hb dL_refuses_139 (by decide) ?_
  refine lv_icmp_ne (tgt := 226) hx hb dL_refuses_141 (by decide) (fun hc => absurd (by decide) hc) (fun _ => ?_)
  refine lv_aload_n hx hb dL_refuses_144 rfl (lv_at hl 4 rfl) ?_
  refine lv_iconst (v := 1) hx hb dL_refuses_145 (by decide) ?_
  refine lv_iconst (v := 1) hx hb dL_refuses_146 (by decide) ?_
  refine lv_iload hx hb dL_refuses_147 (lv_at hl 11 rfl) ?_
  refine lv_iconst (v := 1) hx hb dL_refuses_149 (by decide) ?_
  refine lv_icmp_ne (tgt := 159) hx hb dL_refuses_150 (by decide) (fun hc => absurd (by decide) hc) (fun _ => ?_)
  refine lv_sipush (v := 1001) hx hb dL_refuses_153 (by decide) ?_
  refine lv_goto (tgt := 161) hx hb dL_refuses_156 (by decide) ?_
  refine lv_iconst (v := 0) hx hb dL_refuses_161 (by decide) ?_
  refine lv_iconst (v := 1) hx hb dL_refuses_162 (by decide) ?_
  refine kgo_i (kc_SW (As := [.ref (ad 0 0), .int 1, .int 1, .int 1001, .int 0, .int 1]) (rest := []) S hE hS hAb (ax_addCheck2 ε l hw (cpx_addCheck2 ε l hw hB hst (x1 := 1) (x2 := 1001) (x3 := 0) (x4 := 1) (by decide +kernel) (by decide +kernel) (by decide +kernel))) (vx_cwSW 6 hts gL_refuses_L_act rfl rfl rfl (by decide +kernel) ⟨Nat.le_of_ble_eq_true rfl, Nat.le_of_ble_eq_true rfl⟩) rfl hl.1 rfl (Nat.le_of_ble_eq_true rfl) dL_refuses_163 ⟨Nat.le_of_ble_eq_true rfl, Nat.le_of_ble_eq_true rfl⟩) hS (fun _ h => h) (fun r9 H1 locs e9 hz1 hq hS => ?_)
  have hw := hw.keep (fun k j hk => hq _ (va_at.lt (hw.1 k j hk).1) (fun h => h))
  clear hq hz1
  refine kr_room (c1 := 35) (s1 := 210) rfl rfl ?_
  refine kr_top e9 ?_
  refine lv_bipush (v := -42) hx hb dL_refuses_166 (by decide) ?_
  refine lv_icmp_ne (tgt := 226) hx hb dL_refuses_168 (by decide) (fun hc => absurd (by decide) hc) (fun _ => ?_)
  refine lv_aload_n hx hb dL_refuses_171 rfl (lv_at hl 4 rfl) ?_
  refine lv_iconst (v := 1) hx hb dL_refuses_172 (by decide) ?_
  refine lv_iconst (v := 1) hx hb dL_refuses_173 (by decide) ?_
  refine lv_iconst (v := 0) hx hb dL_refuses_174 (by decide) ?_
  refine lv_iload hx hb dL_refuses_175 (lv_at hl 11 rfl) ?_
  refine lv_iconst (v := 1) hx hb dL_refuses_177 (by decide) ?_
  refine lv_icmp_ne (tgt := 185) hx hb dL_refuses_178 (by decide) (fun hc => absurd (by decide) hc) (fun _ => ?_)
  refine lv_iconst (v := 4) hx hb dL_refuses_181 (by decide) ?_
  refine lv_goto (tgt := 187) hx hb dL_refuses_182 (by decide) ?_
  refine lv_iconst (v := 1) hx hb dL_refuses_187 (by decide) ?_
  refine kgo_i (kc_SW (As := [.ref (ad 0 0), .int 1, .int 1, .int 0, .int 4, .int 1]) (rest := []) S hE hS hAb (ax_addCheck2 ε l hw (cpx_addCheck3 ε l hw hB hst (x1 := 1) (x2 := 0) (x3 := 4) (x4 := 1) (by decide +kernel) (by decide +kernel) (by decide +kernel) (by decide +kernel) (by decide +kernel))) (vx_cwSW 6 hts gL_refuses_L_act rfl rfl rfl (by decide +kernel) ⟨Nat.le_of_ble_eq_true rfl, Nat.le_of_ble_eq_true rfl⟩) rfl hl.1 rfl (Nat.le_of_ble_eq_true rfl) dL_refuses_188 ⟨Nat.le_of_ble_eq_true rfl, Nat.le_of_ble_eq_true rfl⟩) hS (fun _ h => h) (fun r9 H1 locs e9 hz1 hq hS => ?_)
  have hw := hw.keep (fun k j hk => hq _ (va_at.lt (hw.1 k j hk).1) (fun h => h))
  clear hq hz1
  refine kr_room (c1 := 36) (s1 := 216) rfl rfl ?_
  refine kr_top e9 ?_
  refine lv_bipush (v := -42) hx hb dL_refuses_191 (by decide) ?_
  refine lv_icmp_ne (tgt := 226) hx hb dL_refuses_193 (by decide) (fun hc => absurd (by decide) hc) (fun _ => ?_)
  refine lv_aload_n hx hb dL_refuses_196 rfl (lv_at hl 4 rfl) ?_
  refine lv_iconst (v := 1) hx hb dL_refuses_197 (by decide) ?_
  refine lv_iconst (v := 1) hx hb dL_refuses_198 (by decide) ?_
  refine lv_iconst (v := 0) hx hb dL_refuses_199 (by decide) ?_
  refine lv_iconst (v := 0) hx hb dL_refuses_200 (by decide) ?_
  refine lv_iload hx hb dL_refuses_201 (lv_at hl 11 rfl) ?_
  refine lv_iconst (v := 1) hx hb dL_refuses_203 (by decide) ?_
  refine lv_icmp_ne (tgt := 212) hx hb dL_refuses_204 (by decide) (fun hc => absurd (by decide) hc) (fun _ => ?_)
  refine lv_bipush (v := 7) hx hb dL_refuses_207 (by decide) ?_
  refine lv_goto (tgt := 214) hx hb dL_refuses_209 (by decide) ?_
  refine kgo_i (kc_SW (As := [.ref (ad 0 0), .int 1, .int 1, .int 0, .int 0, .int 7]) (rest := []) S hE hS hAb (ax_addCheck2 ε l hw (cpx_addCheck4 ε l hw hB hst (x1 := 1) (x2 := 0) (x3 := 0) (x4 := 7) (by decide +kernel) (by decide +kernel) (by decide +kernel) (by decide +kernel) (by decide +kernel) (by decide +kernel) (by decide +kernel))) (vx_cwSW 6 hts gL_refuses_L_act rfl rfl rfl (by decide +kernel) ⟨Nat.le_of_ble_eq_true rfl, Nat.le_of_ble_eq_true rfl⟩) rfl hl.1 rfl (Nat.le_of_ble_eq_true rfl) dL_refuses_214 ⟨Nat.le_of_ble_eq_true rfl, Nat.le_of_ble_eq_true rfl⟩) hS (fun _ h => h) (fun r9 H1 locs e9 hz1 hq hS => ?_)
  have hw := hw.keep (fun k j hk => hq _ (va_at.lt (hw.1 k j hk).1) (fun h => h))
  clear hq hz1
  refine kr_room (c1 := 37) (s1 := 222) rfl rfl ?_
  refine kr_top e9 ?_
  refine lv_bipush (v := -42) hx hb dL_refuses_217 (by decide) ?_
  refine lv_icmp_ne (tgt := 226) hx hb dL_refuses_219 (by decide) (fun hc => absurd (by decide) hc) (fun _ => ?_)
  refine lv_iconst (v := 1) hx hb dL_refuses_222 (by decide) ?_
  refine lv_goto (tgt := 227) hx hb dL_refuses_223 (by decide) ?_
  refine lv_istore (lv' := [(12, .int 1), (11, .int ((-2147483648))), (10, .int (nI (σ 2 0))), (9, .int (nI (σ 1 0))), (8, .int ((-2147483648))), (0, .ref (ad 0 0)), (1, .int (nI (σ 1 0))), (2, .int (nI (σ 2 0))), (3, .int (nI (σ 3 0))), (4, .int (nI (σ 0 0))), (5, .int (nI (σ 4 0))), (6, .int 2147483647), (7, .int 1)]) hx hb dL_refuses_227 hl (by decide) rfl (fun ls hl => ?_)
  refine lv_iload hx hb dL_refuses_229 (lv_at hl 0 rfl) ?_
  refine lv_if_eq (tgt := 446) hx hb dL_refuses_231 (by decide) (fun hc => absurd hc (by decide)) (fun _ => ?_)
  refine lv_aload_n hx hb dL_refuses_234 rfl (lv_at hl 5 rfl) ?_
  refine lv_iconst (v := 2) hx hb dL_refuses_235 (by decide) ?_
  refine lv_iload hx hb dL_refuses_236 (lv_at hl 2 rfl) ?_
  refine lv_iconst (v := 0) hx hb dL_refuses_238 (by decide) ?_
  refine lv_iconst (v := 1) hx hb dL_refuses_239 (by decide) ?_
  refine lv_iconst (v := 0) hx hb dL_refuses_240 (by decide) ?_
  refine kgo_i (kc_SW (As := [.ref (ad 0 0), .int 2, .int (nI (σ 2 0)), .int 0, .int 1, .int 0]) (rest := []) S hE hS hAb (ax_setDown1 ε l hw (cpx_setDown1 ε l hw hB hst (x := nI (σ 2 0)) (y := 0) (z := 1) (Or.inr (Int32.le_refl _)))) (vx_cwSW 6 hts gL_refuses_L_act rfl rfl rfl (by decide +kernel) ⟨Nat.le_of_ble_eq_true rfl, Nat.le_of_ble_eq_true rfl⟩) rfl hl.1 rfl (Nat.le_of_ble_eq_true rfl) dL_refuses_241 ⟨Nat.le_of_ble_eq_true rfl, Nat.le_of_ble_eq_true rfl⟩) hS (fun _ h => h) (fun r9 H1 locs e9 hz1 hq hS => ?_)
  have hw := hw.keep (fun k j hk => hq _ (va_at.lt (hw.1 k j hk).1) (fun h => h))
  clear hq hz1
  refine kr_room (c1 := 38) (s1 := 228) rfl rfl ?_
  refine kr_top e9 ?_
  refine lv_bipush (v := -41) hx hb dL_refuses_244 (by decide) ?_
  refine lv_icmp_ne (tgt := 446) hx hb dL_refuses_246 (by decide) (fun hc => absurd (by decide) hc) (fun _ => ?_)
  refine lv_aload_n hx hb dL_refuses_249 rfl (lv_at hl 5 rfl) ?_
  refine lv_iconst (v := 2) hx hb dL_refuses_250 (by decide) ?_
  refine lv_iconst (v := 0) hx hb dL_refuses_251 (by decide) ?_
  refine lv_iload hx hb dL_refuses_252 (lv_at hl 3 rfl) ?_
  refine lv_iconst (v := 1) hx hb dL_refuses_254 (by decide) ?_
  refine lv_iconst (v := 0) hx hb dL_refuses_255 (by decide) ?_
  refine kgo_i (kc_SW (As := [.ref (ad 0 0), .int 2, .int (nI 0), .int (nI (σ 1 0)), .int 1, .int 0]) (rest := []) S hE hS hAb (ax_setDown1 ε l hw (cpx_setDown2 ε l hw hB hst (i := 0) (y := nI (σ 1 0)) (z := 1) h2 (Or.inr (Int32.le_refl _)))) (vx_cwSW 6 hts gL_refuses_L_act rfl rfl rfl (by decide +kernel) ⟨Nat.le_of_ble_eq_true rfl, Nat.le_of_ble_eq_true rfl⟩) rfl hl.1 rfl (Nat.le_of_ble_eq_true rfl) dL_refuses_256 ⟨Nat.le_of_ble_eq_true rfl, Nat.le_of_ble_eq_true rfl⟩) hS (fun _ h => h) (fun r9 H1 locs e9 hz1 hq hS => ?_)
  have hw := hw.keep (fun k j hk => hq _ (va_at.lt (hw.1 k j hk).1) (fun h => h))
  clear hq hz1
  refine kr_room (c1 := 39) (s1 := 234) rfl rfl ?_
  refine kr_top e9 ?_
  refine lv_bipush (v := -41) hx hb dL_refuses_259 (by decide) ?_
  refine lv_icmp_ne (tgt := 446) hx hb dL_refuses_261 (by decide) (fun hc => absurd (by decide) hc) (fun _ => ?_)
  refine lv_aload_n hx hb dL_refuses_264 rfl (lv_at hl 5 rfl) ?_
  refine lv_iconst (v := 3) hx hb dL_refuses_265 (by decide) ?_
  refine lv_iload hx hb dL_refuses_266 (lv_at hl 3 rfl) ?_
  refine lv_iconst (v := 1) hx hb dL_refuses_268 (by decide) ?_
  refine lv_iconst (v := 0) hx hb dL_refuses_269 (by decide) ?_
  refine lv_iconst (v := 0) hx hb dL_refuses_270 (by decide) ?_
  refine kgo_i (kc_SW (As := [.ref (ad 0 0), .int 3, .int (nI (σ 1 0)), .int 1, .int 0, .int 0]) (rest := []) S hE hS hAb (ax_setCut1 ε l hw (cpx_setCut ε l hw hB hst (x := nI (σ 1 0)) (y := 1) (Or.inr (Int32.le_refl _)))) (vx_cwSW 6 hts gL_refuses_L_act rfl rfl rfl (by decide +kernel) ⟨Nat.le_of_ble_eq_true rfl, Nat.le_of_ble_eq_true rfl⟩) rfl hl.1 rfl (Nat.le_of_ble_eq_true rfl) dL_refuses_271 ⟨Nat.le_of_ble_eq_true rfl, Nat.le_of_ble_eq_true rfl⟩) hS (fun _ h => h) (fun r9 H1 locs e9 hz1 hq hS => ?_)
  have hw := hw.keep (fun k j hk => hq _ (va_at.lt (hw.1 k j hk).1) (fun h => h))
  clear hq hz1
  refine kr_room (c1 := 40) (s1 := 240) rfl rfl ?_
  refine kr_top e9 ?_
  refine lv_bipush (v := -41) hx hb dL_refuses_274 (by decide) ?_
  refine lv_icmp_ne (tgt := 446) hx hb dL_refuses_276 (by decide) (fun hc => absurd (by decide) hc) (fun _ => ?_)
  refine lv_aload_n hx hb dL_refuses_279 rfl (lv_at hl 5 rfl) ?_
  refine lv_iconst (v := 4) hx hb dL_refuses_280 (by decide) ?_
  refine lv_iload hx hb dL_refuses_281 (lv_at hl 2 rfl) ?_
  refine lv_iconst (v := 0) hx hb dL_refuses_283 (by decide) ?_
  refine lv_iconst (v := 0) hx hb dL_refuses_284 (by decide) ?_
  refine lv_iconst (v := 0) hx hb dL_refuses_285 (by decide) ?_
  refine kgo_i (kc_SW (As := [.ref (ad 0 0), .int 4, .int (nI (σ 2 0)), .int 0, .int 0, .int 0]) (rest := []) S hE hS hAb (ax_setQuorum1 ε l hw (cpx_setQuorum1 ε l hw hB hst (x := nI (σ 2 0)) (y := 0) (Or.inr (Int32.le_refl _)))) (vx_cwSW 6 hts gL_refuses_L_act rfl rfl rfl (by decide +kernel) ⟨Nat.le_of_ble_eq_true rfl, Nat.le_of_ble_eq_true rfl⟩) rfl hl.1 rfl (Nat.le_of_ble_eq_true rfl) dL_refuses_286 ⟨Nat.le_of_ble_eq_true rfl, Nat.le_of_ble_eq_true rfl⟩) hS (fun _ h => h) (fun r9 H1 locs e9 hz1 hq hS => ?_)
  have hw := hw.keep (fun k j hk => hq _ (va_at.lt (hw.1 k j hk).1) (fun h => h))
  clear hq hz1
  refine kr_room (c1 := 41) (s1 := 246) rfl rfl ?_
  refine kr_top e9 ?_
  refine lv_bipush (v := -41) hx hb dL_refuses_289 (by decide) ?_
  refine lv_icmp_ne (tgt := 446) hx hb dL_refuses_291 (by decide) (fun hc => absurd (by decide) hc) (fun _ => ?_)
  refine lv_aload_n hx hb dL_refuses_294 rfl (lv_at hl 5 rfl) ?_
  refine lv_iconst (v := 4) hx hb dL_refuses_295 (by decide) ?_
  refine lv_iconst (v := 0) hx hb dL_refuses_296 (by decide) ?_
  refine lv_iload hx hb dL_refuses_297 (lv_at hl 12 rfl) ?_
  refine lv_iconst (v := 1) hx hb dL_refuses_299 (by decide) ?_
  refine lv_icmp_ne (tgt := 308) hx hb dL_refuses_300 (by decide) (fun hc => absurd (by decide) hc) (fun _ => ?_)
  refine lv_bipush (v := 7) hx hb dL_refuses_303 (by decide) ?_
  refine lv_goto (tgt := 310) hx hb dL_refuses_305 (by decide) ?_
  refine lv_iconst (v := 0) hx hb dL_refuses_310 (by decide) ?_
  refine lv_iconst (v := 0) hx hb dL_refuses_311 (by decide) ?_
  refine kgo_i (kc_SW (As := [.ref (ad 0 0), .int 4, .int (nI 0), .int 7, .int 0, .int 0]) (rest := []) S hE hS hAb (ax_setQuorum2 ε l hw (cpx_setQuorum2 ε l hw hB hst (i := 0) (y := 7) h2 (by decide +kernel))) (vx_cwSW 6 hts gL_refuses_L_act rfl rfl rfl (by decide +kernel) ⟨Nat.le_of_ble_eq_true rfl, Nat.le_of_ble_eq_true rfl⟩) rfl hl.1 rfl (Nat.le_of_ble_eq_true rfl) dL_refuses_312 ⟨Nat.le_of_ble_eq_true rfl, Nat.le_of_ble_eq_true rfl⟩) hS (fun _ h => h) (fun r9 H1 locs e9 hz1 hq hS => ?_)
  have hw := hw.keep (fun k j hk => hq _ (va_at.lt (hw.1 k j hk).1) (fun h => h))
  clear hq hz1
  refine kr_room (c1 := 42) (s1 := 252) rfl rfl ?_
  refine kr_top e9 ?_
  refine lv_bipush (v := -42) hx hb dL_refuses_315 (by decide) ?_
  refine lv_icmp_ne (tgt := 446) hx hb dL_refuses_317 (by decide) (fun hc => absurd (by decide) hc) (fun _ => ?_)
  refine lv_aload_n hx hb dL_refuses_320 rfl (lv_at hl 5 rfl) ?_
  refine lv_iconst (v := 5) hx hb dL_refuses_321 (by decide) ?_
  refine lv_iload hx hb dL_refuses_322 (lv_at hl 2 rfl) ?_
  refine lv_iconst (v := -1) hx hb dL_refuses_324 (by decide) ?_
  refine lv_iconst (v := 0) hx hb dL_refuses_325 (by decide) ?_
  refine lv_iconst (v := 0) hx hb dL_refuses_326 (by decide) ?_
  refine kgo_i (kc_SW (As := [.ref (ad 0 0), .int 5, .int (nI (σ 2 0)), .int (-1), .int 0, .int 0]) (rest := []) S hE hS hAb (ax_addWindow1 ε l hw (cpx_addWindow1 ε l hw hB hst (x := nI (σ 2 0)) (x2 := (-1)) (x3 := 0) (Or.inr (Int32.le_refl _)))) (vx_cwSW 6 hts gL_refuses_L_act rfl rfl rfl (by decide +kernel) ⟨Nat.le_of_ble_eq_true rfl, Nat.le_of_ble_eq_true rfl⟩) rfl hl.1 rfl (Nat.le_of_ble_eq_true rfl) dL_refuses_327 ⟨Nat.le_of_ble_eq_true rfl, Nat.le_of_ble_eq_true rfl⟩) hS (fun _ h => h) (fun r9 H1 locs e9 hz1 hq hS => ?_)
  have hw := hw.keep (fun k j hk => hq _ (va_at.lt (hw.1 k j hk).1) (fun h => h))
  clear hq hz1
  refine kr_room (c1 := 43) (s1 := 258) rfl rfl ?_
  refine kr_top e9 ?_
  refine lv_bipush (v := -41) hx hb dL_refuses_330 (by decide) ?_
  refine lv_icmp_ne (tgt := 446) hx hb dL_refuses_332 (by decide) (fun hc => absurd (by decide) hc) (fun _ => ?_)
  refine lv_aload_n hx hb dL_refuses_335 rfl (lv_at hl 5 rfl) ?_
  refine lv_iconst (v := 5) hx hb dL_refuses_336 (by decide) ?_
  refine lv_iconst (v := 0) hx hb dL_refuses_337 (by decide) ?_
  refine lv_iload hx hb dL_refuses_338 (lv_at hl 12 rfl) ?_
  refine lv_iconst (v := 1) hx hb dL_refuses_340 (by decide) ?_
  refine lv_icmp_ne (tgt := 349) hx hb dL_refuses_341 (by decide) (fun hc => absurd (by decide) hc) (fun _ => ?_)
  refine lv_ldc (own := RL) (v := 100001) hx hb hown (hts (.constant RL 103 (100001)) (by decide +kernel)) dL_refuses_344 ?_
  refine lv_goto (tgt := 351) hx hb dL_refuses_346 (by decide) ?_
  refine lv_iconst (v := 1) hx hb dL_refuses_351 (by decide) ?_
  refine lv_iconst (v := 0) hx hb dL_refuses_352 (by decide) ?_
  refine kgo_i (kc_SW (As := [.ref (ad 0 0), .int 5, .int (nI 0), .int 100001, .int 1, .int 0]) (rest := []) S hE hS hAb (ax_addWindow2 ε l hw (cpx_addWindow2 ε l hw hB hst (i := 0) (x2 := 100001) (x3 := 1) h2 (by decide +kernel))) (vx_cwSW 6 hts gL_refuses_L_act rfl rfl rfl (by decide +kernel) ⟨Nat.le_of_ble_eq_true rfl, Nat.le_of_ble_eq_true rfl⟩) rfl hl.1 rfl (Nat.le_of_ble_eq_true rfl) dL_refuses_353 ⟨Nat.le_of_ble_eq_true rfl, Nat.le_of_ble_eq_true rfl⟩) hS (fun _ h => h) (fun r9 H1 locs e9 hz1 hq hS => ?_)
  have hw := hw.keep (fun k j hk => hq _ (va_at.lt (hw.1 k j hk).1) (fun h => h))
  clear hq hz1
  refine kr_room (c1 := 44) (s1 := 264) rfl rfl ?_
  refine kr_top e9 ?_
  refine lv_bipush (v := -42) hx hb dL_refuses_356 (by decide) ?_
  refine lv_icmp_ne (tgt := 446) hx hb dL_refuses_358 (by decide) (fun hc => absurd (by decide) hc) (fun _ => ?_)
  refine lv_aload_n hx hb dL_refuses_361 rfl (lv_at hl 5 rfl) ?_
  refine lv_iconst (v := 5) hx hb dL_refuses_362 (by decide) ?_
  refine lv_iconst (v := 0) hx hb dL_refuses_363 (by decide) ?_
  refine lv_iconst (v := 0) hx hb dL_refuses_364 (by decide) ?_
  refine lv_iload hx hb dL_refuses_365 (lv_at hl 12 rfl) ?_
  refine lv_iconst (v := 1) hx hb dL_refuses_367 (by decide) ?_
  refine lv_icmp_ne (tgt := 377) hx hb dL_refuses_368 (by decide) (fun hc => absurd (by decide) hc) (fun _ => ?_)
  refine lv_sipush (v := 10001) hx hb dL_refuses_371 (by decide) ?_
  refine lv_goto (tgt := 379) hx hb dL_refuses_374 (by decide) ?_
  refine lv_iconst (v := 0) hx hb dL_refuses_379 (by decide) ?_
  refine kgo_i (kc_SW (As := [.ref (ad 0 0), .int 5, .int (nI 0), .int 0, .int 10001, .int 0]) (rest := []) S hE hS hAb (ax_addWindow2 ε l hw (cpx_addWindow3 ε l hw hB hst (i := 0) (x2 := 0) (x3 := 10001) h2 (by decide +kernel) (by decide +kernel) (by decide +kernel))) (vx_cwSW 6 hts gL_refuses_L_act rfl rfl rfl (by decide +kernel) ⟨Nat.le_of_ble_eq_true rfl, Nat.le_of_ble_eq_true rfl⟩) rfl hl.1 rfl (Nat.le_of_ble_eq_true rfl) dL_refuses_380 ⟨Nat.le_of_ble_eq_true rfl, Nat.le_of_ble_eq_true rfl⟩) hS (fun _ h => h) (fun r9 H1 locs e9 hz1 hq hS => ?_)
  have hw := hw.keep (fun k j hk => hq _ (va_at.lt (hw.1 k j hk).1) (fun h => h))
  clear hq hz1
  refine kr_room (c1 := 45) (s1 := 270) rfl rfl ?_
  refine kr_top e9 ?_
  refine lv_bipush (v := -42) hx hb dL_refuses_383 (by decide) ?_
  refine lv_icmp_ne (tgt := 446) hx hb dL_refuses_385 (by decide) (fun hc => absurd (by decide) hc) (fun _ => ?_)
  refine lv_aload_n hx hb dL_refuses_388 rfl (lv_at hl 5 rfl) ?_
  refine lv_bipush (v := 6) hx hb dL_refuses_389 (by decide) ?_
  refine lv_iload hx hb dL_refuses_391 (lv_at hl 12 rfl) ?_
  refine lv_iconst (v := 1) hx hb dL_refuses_393 (by decide) ?_
  refine lv_icmp_ne (tgt := 401) hx hb dL_refuses_394 (by decide) (fun hc => absurd (by decide) hc) (fun _ => ?_)
  refine lv_iload_n hx hb dL_refuses_397 rfl (lv_at hl 8 rfl) ?_
  refine lv_goto (tgt := 403) hx hb dL_refuses_398 (by decide) ?_
  refine lv_iconst (v := 0) hx hb dL_refuses_403 (by decide) ?_
  refine lv_iconst (v := 0) hx hb dL_refuses_404 (by decide) ?_
  refine lv_iconst (v := 0) hx hb dL_refuses_405 (by decide) ?_
  refine kgo_i (kc_SW (As := [.ref (ad 0 0), .int 6, .int (nI (σ 3 0)), .int 0, .int 0, .int 0]) (rest := []) S hE hS hAb (ax_endWindow1 ε l hw (cpx_endWindow ε l hw hB hst (x := nI (σ 3 0)) (Or.inr (Int32.le_refl _)))) (vx_cwSW 6 hts gL_refuses_L_act rfl rfl rfl (by decide +kernel) ⟨Nat.le_of_ble_eq_true rfl, Nat.le_of_ble_eq_true rfl⟩) rfl hl.1 rfl (Nat.le_of_ble_eq_true rfl) dL_refuses_406 ⟨Nat.le_of_ble_eq_true rfl, Nat.le_of_ble_eq_true rfl⟩) hS (fun _ h => h) (fun r9 H1 locs e9 hz1 hq hS => ?_)
  have hw := hw.keep (fun k j hk => hq _ (va_at.lt (hw.1 k j hk).1) (fun h => h))
  clear hq hz1
  refine kr_room (c1 := 46) (s1 := 276) rfl rfl ?_
  refine kr_top e9 ?_
  refine lv_bipush (v := -41) hx hb dL_refuses_409 (by decide) ?_
  refine lv_icmp_ne (tgt := 446) hx hb dL_refuses_411 (by decide) (fun hc => absurd (by decide) hc) (fun _ => ?_)
  refine lv_aload_n hx hb dL_refuses_414 rfl (lv_at hl 5 rfl) ?_
  refine lv_bipush (v := 7) hx hb dL_refuses_415 (by decide) ?_
  refine lv_iload hx hb dL_refuses_417 (lv_at hl 12 rfl) ?_
  refine lv_iconst (v := 1) hx hb dL_refuses_419 (by decide) ?_
  refine lv_icmp_ne (tgt := 429) hx hb dL_refuses_420 (by decide) (fun hc => absurd (by decide) hc) (fun _ => ?_)
  refine lv_sipush (v := 201) hx hb dL_refuses_423 (by decide) ?_
  refine lv_goto (tgt := 431) hx hb dL_refuses_426 (by decide) ?_
  refine lv_iconst (v := 0) hx hb dL_refuses_431 (by decide) ?_
  refine lv_iconst (v := 0) hx hb dL_refuses_432 (by decide) ?_
  refine lv_iconst (v := 0) hx hb dL_refuses_433 (by decide) ?_
  refine kgo_i (kc_SW (As := [.ref (ad 0 0), .int 7, .int 201, .int 0, .int 0, .int 0]) (rest := []) S hE hS hAb (ax_pass2 ε l hw (cpx_pass ε l hw hB hst (x := 201) (by decide +kernel))) (vx_cwSW 6 hts gL_refuses_L_act rfl rfl rfl (by decide +kernel) ⟨Nat.le_of_ble_eq_true rfl, Nat.le_of_ble_eq_true rfl⟩) rfl hl.1 rfl (Nat.le_of_ble_eq_true rfl) dL_refuses_434 ⟨Nat.le_of_ble_eq_true rfl, Nat.le_of_ble_eq_true rfl⟩) hS (fun _ h => h) (fun r9 H1 locs e9 hz1 hq hS => ?_)
  have hw := hw.keep (fun k j hk => hq _ (va_at.lt (hw.1 k j hk).1) (fun h => h))
  clear hq hz1
  refine kr_room (c1 := 47) (s1 := 282) rfl rfl ?_
  refine kr_top e9 ?_
  refine lv_bipush (v := -42) hx hb dL_refuses_437 (by decide) ?_
  refine lv_icmp_ne (tgt := 446) hx hb dL_refuses_439 (by decide) (fun hc => absurd (by decide) hc) (fun _ => ?_)
  refine lv_iconst (v := 1) hx hb dL_refuses_442 (by decide) ?_
  refine lv_goto (tgt := 447) hx hb dL_refuses_443 (by decide) ?_
  refine lv_istore (lv' := [(12, .int 1), (11, .int ((-2147483648))), (10, .int (nI (σ 2 0))), (9, .int (nI (σ 1 0))), (8, .int ((-2147483648))), (0, .ref (ad 0 0)), (1, .int (nI (σ 1 0))), (2, .int (nI (σ 2 0))), (3, .int (nI (σ 3 0))), (4, .int (nI (σ 0 0))), (5, .int (nI (σ 4 0))), (6, .int 2147483647), (7, .int 1)]) hx hb dL_refuses_447 hl (by decide) rfl (fun ls hl => ?_)
  refine lv_bipush (v := 8) hx hb dL_refuses_449 (by decide) ?_
  refine lv_istore (lv' := [(13, .int 8), (12, .int 1), (11, .int ((-2147483648))), (10, .int (nI (σ 2 0))), (9, .int (nI (σ 1 0))), (8, .int ((-2147483648))), (0, .ref (ad 0 0)), (1, .int (nI (σ 1 0))), (2, .int (nI (σ 2 0))), (3, .int (nI (σ 3 0))), (4, .int (nI (σ 0 0))), (5, .int (nI (σ 4 0))), (6, .int 2147483647), (7, .int 1)]) hx hb dL_refuses_451 hl (by decide) rfl (fun ls hl => ?_)
  refine lv_iload hx hb dL_refuses_453 (lv_at hl 0 rfl) ?_
  refine lv_bipush (v := 13) hx hb dL_refuses_455 (by decide) ?_
  refine lv_icmp_ge (tgt := 494) hx hb dL_refuses_457 (by decide) (fun hc => absurd hc (by decide)) (fun _ => ?_)
  refine lv_iload hx hb dL_refuses_460 (lv_at hl 1 rfl) ?_
  refine lv_if_eq (tgt := 485) hx hb dL_refuses_462 (by decide) (fun hc => absurd hc (by decide)) (fun _ => ?_)
  refine lv_aload_n hx hb dL_refuses_465 rfl (lv_at hl 6 rfl) ?_
  refine lv_iload hx hb dL_refuses_466 (lv_at hl 0 rfl) ?_
  refine lv_iload hx hb dL_refuses_468 (lv_at hl 3 rfl) ?_
  refine lv_iconst (v := 0) hx hb dL_refuses_470 (by decide) ?_
  refine lv_iconst (v := 0) hx hb dL_refuses_471 (by decide) ?_
  refine lv_iconst (v := 0) hx hb dL_refuses_472 (by decide) ?_
  refine kgo_i (kc_SW (As := [.ref (ad 0 0), .int 8, .int (nI (σ 2 0)), .int 0, .int 0, .int 0]) (rest := []) S hE hS hAb (ax_failing1 ε l hw (cpx_failing ε l hw hB hst (x := nI (σ 2 0)) (Or.inr (Int32.le_refl _)))) (vx_cwSW 6 hts gL_refuses_L_act rfl rfl rfl (by decide +kernel) ⟨Nat.le_of_ble_eq_true rfl, Nat.le_of_ble_eq_true rfl⟩) rfl hl.1 rfl (Nat.le_of_ble_eq_true rfl) dL_refuses_473 ⟨Nat.le_of_ble_eq_true rfl, Nat.le_of_ble_eq_true rfl⟩) hS (fun _ h => h) (fun r9 H1 locs e9 hz1 hq hS => ?_)
  have hw := hw.keep (fun k j hk => hq _ (va_at.lt (hw.1 k j hk).1) (fun h => h))
  clear hq hz1
  refine kr_room (c1 := 48) (s1 := 288) rfl rfl ?_
  refine kr_top e9 ?_
  refine lv_bipush (v := -41) hx hb dL_refuses_476 (by decide) ?_
  refine lv_icmp_ne (tgt := 485) hx hb dL_refuses_478 (by decide) (fun hc => absurd (by decide) hc) (fun _ => ?_)
  refine lv_iconst (v := 1) hx hb dL_refuses_481 (by decide) ?_
  refine lv_goto (tgt := 486) hx hb dL_refuses_482 (by decide) ?_
  refine lv_istore (lv' := [(12, .int 1), (13, .int 8), (11, .int ((-2147483648))), (10, .int (nI (σ 2 0))), (9, .int (nI (σ 1 0))), (8, .int ((-2147483648))), (0, .ref (ad 0 0)), (1, .int (nI (σ 1 0))), (2, .int (nI (σ 2 0))), (3, .int (nI (σ 3 0))), (4, .int (nI (σ 0 0))), (5, .int (nI (σ 4 0))), (6, .int 2147483647), (7, .int 1)]) hx hb dL_refuses_486 hl (by decide) rfl (fun ls hl => ?_)
  refine lv_iinc (v := 9) (lv' := [(13, .int 9), (12, .int 1), (11, .int ((-2147483648))), (10, .int (nI (σ 2 0))), (9, .int (nI (σ 1 0))), (8, .int ((-2147483648))), (0, .ref (ad 0 0)), (1, .int (nI (σ 1 0))), (2, .int (nI (σ 2 0))), (3, .int (nI (σ 3 0))), (4, .int (nI (σ 0 0))), (5, .int (nI (σ 4 0))), (6, .int 2147483647), (7, .int 1)]) hx hb dL_refuses_488 hl (k := 1) rfl (by decide) (by decide) rfl (fun ls hl => ?_)
  refine lv_goto (tgt := 453) hx hb dL_refuses_491 (by decide) ?_
  refine lv_iload hx hb dL_refuses_453 (lv_at hl 0 rfl) ?_
  refine lv_bipush (v := 13) hx hb dL_refuses_455 (by decide) ?_
  refine lv_icmp_ge (tgt := 494) hx hb dL_refuses_457 (by decide) (fun hc => absurd hc (by decide)) (fun _ => ?_)
  refine lv_iload hx hb dL_refuses_460 (lv_at hl 1 rfl) ?_
  refine lv_if_eq (tgt := 485) hx hb dL_refuses_462 (by decide) (fun hc => absurd hc (by decide)) (fun _ => ?_)
  refine lv_aload_n hx hb dL_refuses_465 rfl (lv_at hl 6 rfl) ?_
  refine lv_iload hx hb dL_refuses_466 (lv_at hl 0 rfl) ?_
  refine lv_iload hx hb dL_refuses_468 (lv_at hl 3 rfl) ?_
  refine lv_iconst (v := 0) hx hb dL_refuses_470 (by decide) ?_
  refine lv_iconst (v := 0) hx hb dL_refuses_471 (by decide) ?_
  refine lv_iconst (v := 0) hx hb dL_refuses_472 (by decide) ?_
  refine kgo_i (kc_SW (As := [.ref (ad 0 0), .int 9, .int (nI (σ 2 0)), .int 0, .int 0, .int 0]) (rest := []) S hE hS hAb (ax_verdict1 ε l hw (cpx_verdict ε l hw hB hst (x := nI (σ 2 0)) (Or.inr (Int32.le_refl _)))) (vx_cwSW 6 hts gL_refuses_L_act rfl rfl rfl (by decide +kernel) ⟨Nat.le_of_ble_eq_true rfl, Nat.le_of_ble_eq_true rfl⟩) rfl hl.1 rfl (Nat.le_of_ble_eq_true rfl) dL_refuses_473 ⟨Nat.le_of_ble_eq_true rfl, Nat.le_of_ble_eq_true rfl⟩) hS (fun _ h => h) (fun r9 H1 locs e9 hz1 hq hS => ?_)
  have hw := hw.keep (fun k j hk => hq _ (va_at.lt (hw.1 k j hk).1) (fun h => h))
  clear hq hz1
  refine kr_room (c1 := 49) (s1 := 294) rfl rfl ?_
  refine kr_top e9 ?_
  refine lv_bipush (v := -41) hx hb dL_refuses_476 (by decide) ?_
  refine lv_icmp_ne (tgt := 485) hx hb dL_refuses_478 (by decide) (fun hc => absurd (by decide) hc) (fun _ => ?_)
  refine lv_iconst (v := 1) hx hb dL_refuses_481 (by decide) ?_
  refine lv_goto (tgt := 486) hx hb dL_refuses_482 (by decide) ?_
  refine lv_istore (lv' := [(12, .int 1), (13, .int 9), (11, .int ((-2147483648))), (10, .int (nI (σ 2 0))), (9, .int (nI (σ 1 0))), (8, .int ((-2147483648))), (0, .ref (ad 0 0)), (1, .int (nI (σ 1 0))), (2, .int (nI (σ 2 0))), (3, .int (nI (σ 3 0))), (4, .int (nI (σ 0 0))), (5, .int (nI (σ 4 0))), (6, .int 2147483647), (7, .int 1)]) hx hb dL_refuses_486 hl (by decide) rfl (fun ls hl => ?_)
  refine lv_iinc (v := 10) (lv' := [(13, .int 10), (12, .int 1), (11, .int ((-2147483648))), (10, .int (nI (σ 2 0))), (9, .int (nI (σ 1 0))), (8, .int ((-2147483648))), (0, .ref (ad 0 0)), (1, .int (nI (σ 1 0))), (2, .int (nI (σ 2 0))), (3, .int (nI (σ 3 0))), (4, .int (nI (σ 0 0))), (5, .int (nI (σ 4 0))), (6, .int 2147483647), (7, .int 1)]) hx hb dL_refuses_488 hl (k := 1) rfl (by decide) (by decide) rfl (fun ls hl => ?_)
  refine lv_goto (tgt := 453) hx hb dL_refuses_491 (by decide) ?_
  refine lv_iload hx hb dL_refuses_453 (lv_at hl 0 rfl) ?_
  refine lv_bipush (v := 13) hx hb dL_refuses_455 (by decide) ?_
  refine lv_icmp_ge (tgt := 494) hx hb dL_refuses_457 (by decide) (fun hc => absurd hc (by decide)) (fun _ => ?_)
  refine lv_iload hx hb dL_refuses_460 (lv_at hl 1 rfl) ?_
  refine lv_if_eq (tgt := 485) hx hb dL_refuses_462 (by decide) (fun hc => absurd hc (by decide)) (fun _ => ?_)
  refine lv_aload_n hx hb dL_refuses_465 rfl (lv_at hl 6 rfl) ?_
  refine lv_iload hx hb dL_refuses_466 (lv_at hl 0 rfl) ?_
  refine lv_iload hx hb dL_refuses_468 (lv_at hl 3 rfl) ?_
  refine lv_iconst (v := 0) hx hb dL_refuses_470 (by decide) ?_
  refine lv_iconst (v := 0) hx hb dL_refuses_471 (by decide) ?_
  refine lv_iconst (v := 0) hx hb dL_refuses_472 (by decide) ?_
  refine kgo_i (kc_SW (As := [.ref (ad 0 0), .int 10, .int (nI (σ 2 0)), .int 0, .int 0, .int 0]) (rest := []) S hE hS hAb (ax_trusted1 ε l hw (cpx_trusted ε l hw hB hst (x := nI (σ 2 0)) (Or.inr (Int32.le_refl _)))) (vx_cwSW 6 hts gL_refuses_L_act rfl rfl rfl (by decide +kernel) ⟨Nat.le_of_ble_eq_true rfl, Nat.le_of_ble_eq_true rfl⟩) rfl hl.1 rfl (Nat.le_of_ble_eq_true rfl) dL_refuses_473 ⟨Nat.le_of_ble_eq_true rfl, Nat.le_of_ble_eq_true rfl⟩) hS (fun _ h => h) (fun r9 H1 locs e9 hz1 hq hS => ?_)
  have hw := hw.keep (fun k j hk => hq _ (va_at.lt (hw.1 k j hk).1) (fun h => h))
  clear hq hz1
  refine kr_room (c1 := 50) (s1 := 300) rfl rfl ?_
  refine kr_top e9 ?_
  refine lv_bipush (v := -41) hx hb dL_refuses_476 (by decide) ?_
  refine lv_icmp_ne (tgt := 485) hx hb dL_refuses_478 (by decide) (fun hc => absurd (by decide) hc) (fun _ => ?_)
  refine lv_iconst (v := 1) hx hb dL_refuses_481 (by decide) ?_
  refine lv_goto (tgt := 486) hx hb dL_refuses_482 (by decide) ?_
  refine lv_istore (lv' := [(12, .int 1), (13, .int 10), (11, .int ((-2147483648))), (10, .int (nI (σ 2 0))), (9, .int (nI (σ 1 0))), (8, .int ((-2147483648))), (0, .ref (ad 0 0)), (1, .int (nI (σ 1 0))), (2, .int (nI (σ 2 0))), (3, .int (nI (σ 3 0))), (4, .int (nI (σ 0 0))), (5, .int (nI (σ 4 0))), (6, .int 2147483647), (7, .int 1)]) hx hb dL_refuses_486 hl (by decide) rfl (fun ls hl => ?_)
  refine lv_iinc (v := 11) (lv' := [(13, .int 11), (12, .int 1), (11, .int ((-2147483648))), (10, .int (nI (σ 2 0))), (9, .int (nI (σ 1 0))), (8, .int ((-2147483648))), (0, .ref (ad 0 0)), (1, .int (nI (σ 1 0))), (2, .int (nI (σ 2 0))), (3, .int (nI (σ 3 0))), (4, .int (nI (σ 0 0))), (5, .int (nI (σ 4 0))), (6, .int 2147483647), (7, .int 1)]) hx hb dL_refuses_488 hl (k := 1) rfl (by decide) (by decide) rfl (fun ls hl => ?_)
  refine lv_goto (tgt := 453) hx hb dL_refuses_491 (by decide) ?_
  refine lv_iload hx hb dL_refuses_453 (lv_at hl 0 rfl) ?_
  refine lv_bipush (v := 13) hx hb dL_refuses_455 (by decide) ?_
  refine lv_icmp_ge (tgt := 494) hx hb dL_refuses_457 (by decide) (fun hc => absurd hc (by decide)) (fun _ => ?_)
  refine lv_iload hx hb dL_refuses_460 (lv_at hl 1 rfl) ?_
  refine lv_if_eq (tgt := 485) hx hb dL_refuses_462 (by decide) (fun hc => absurd hc (by decide)) (fun _ => ?_)
  refine lv_aload_n hx hb dL_refuses_465 rfl (lv_at hl 6 rfl) ?_
  refine lv_iload hx hb dL_refuses_466 (lv_at hl 0 rfl) ?_
  refine lv_iload hx hb dL_refuses_468 (lv_at hl 3 rfl) ?_
  refine lv_iconst (v := 0) hx hb dL_refuses_470 (by decide) ?_
  refine lv_iconst (v := 0) hx hb dL_refuses_471 (by decide) ?_
  refine lv_iconst (v := 0) hx hb dL_refuses_472 (by decide) ?_
  refine kgo_i (kc_SW (As := [.ref (ad 0 0), .int 11, .int (nI (σ 2 0)), .int 0, .int 0, .int 0]) (rest := []) S hE hS hAb (ax_hasAlarm1 ε l hw (cpx_hasAlarm ε l hw hB hst (x := nI (σ 2 0)) (Or.inr (Int32.le_refl _)))) (vx_cwSW 6 hts gL_refuses_L_act rfl rfl rfl (by decide +kernel) ⟨Nat.le_of_ble_eq_true rfl, Nat.le_of_ble_eq_true rfl⟩) rfl hl.1 rfl (Nat.le_of_ble_eq_true rfl) dL_refuses_473 ⟨Nat.le_of_ble_eq_true rfl, Nat.le_of_ble_eq_true rfl⟩) hS (fun _ h => h) (fun r9 H1 locs e9 hz1 hq hS => ?_)
  have hw := hw.keep (fun k j hk => hq _ (va_at.lt (hw.1 k j hk).1) (fun h => h))
  clear hq hz1
  refine kr_room (c1 := 51) (s1 := 306) rfl rfl ?_
  refine kr_top e9 ?_
  refine lv_bipush (v := -41) hx hb dL_refuses_476 (by decide) ?_
  refine lv_icmp_ne (tgt := 485) hx hb dL_refuses_478 (by decide) (fun hc => absurd (by decide) hc) (fun _ => ?_)
  refine lv_iconst (v := 1) hx hb dL_refuses_481 (by decide) ?_
  refine lv_goto (tgt := 486) hx hb dL_refuses_482 (by decide) ?_
  refine lv_istore (lv' := [(12, .int 1), (13, .int 11), (11, .int ((-2147483648))), (10, .int (nI (σ 2 0))), (9, .int (nI (σ 1 0))), (8, .int ((-2147483648))), (0, .ref (ad 0 0)), (1, .int (nI (σ 1 0))), (2, .int (nI (σ 2 0))), (3, .int (nI (σ 3 0))), (4, .int (nI (σ 0 0))), (5, .int (nI (σ 4 0))), (6, .int 2147483647), (7, .int 1)]) hx hb dL_refuses_486 hl (by decide) rfl (fun ls hl => ?_)
  refine lv_iinc (v := 12) (lv' := [(13, .int 12), (12, .int 1), (11, .int ((-2147483648))), (10, .int (nI (σ 2 0))), (9, .int (nI (σ 1 0))), (8, .int ((-2147483648))), (0, .ref (ad 0 0)), (1, .int (nI (σ 1 0))), (2, .int (nI (σ 2 0))), (3, .int (nI (σ 3 0))), (4, .int (nI (σ 0 0))), (5, .int (nI (σ 4 0))), (6, .int 2147483647), (7, .int 1)]) hx hb dL_refuses_488 hl (k := 1) rfl (by decide) (by decide) rfl (fun ls hl => ?_)
  refine lv_goto (tgt := 453) hx hb dL_refuses_491 (by decide) ?_
  refine lv_iload hx hb dL_refuses_453 (lv_at hl 0 rfl) ?_
  refine lv_bipush (v := 13) hx hb dL_refuses_455 (by decide) ?_
  refine lv_icmp_ge (tgt := 494) hx hb dL_refuses_457 (by decide) (fun hc => absurd hc (by decide)) (fun _ => ?_)
  refine lv_iload hx hb dL_refuses_460 (lv_at hl 1 rfl) ?_
  refine lv_if_eq (tgt := 485) hx hb dL_refuses_462 (by decide) (fun hc => absurd hc (by decide)) (fun _ => ?_)
  refine lv_aload_n hx hb dL_refuses_465 rfl (lv_at hl 6 rfl) ?_
  refine lv_iload hx hb dL_refuses_466 (lv_at hl 0 rfl) ?_
  refine lv_iload hx hb dL_refuses_468 (lv_at hl 3 rfl) ?_
  refine lv_iconst (v := 0) hx hb dL_refuses_470 (by decide) ?_
  refine lv_iconst (v := 0) hx hb dL_refuses_471 (by decide) ?_
  refine lv_iconst (v := 0) hx hb dL_refuses_472 (by decide) ?_
  refine kgo_i (kc_SW (As := [.ref (ad 0 0), .int 12, .int (nI (σ 2 0)), .int 0, .int 0, .int 0]) (rest := []) S hE hS hAb (ax_availability1 ε l hw (cpx_availability1 ε l hw hB hst (x := nI (σ 2 0)) (Or.inr (Int32.le_refl _)))) (vx_cwSW 6 hts gL_refuses_L_act rfl rfl rfl (by decide +kernel) ⟨Nat.le_of_ble_eq_true rfl, Nat.le_of_ble_eq_true rfl⟩) rfl hl.1 rfl (Nat.le_of_ble_eq_true rfl) dL_refuses_473 ⟨Nat.le_of_ble_eq_true rfl, Nat.le_of_ble_eq_true rfl⟩) hS (fun _ h => h) (fun r9 H1 locs e9 hz1 hq hS => ?_)
  have hw := hw.keep (fun k j hk => hq _ (va_at.lt (hw.1 k j hk).1) (fun h => h))
  clear hq hz1
  refine kr_room (c1 := 52) (s1 := 312) rfl rfl ?_
  refine kr_top e9 ?_
  refine lv_bipush (v := -41) hx hb dL_refuses_476 (by decide) ?_
  refine lv_icmp_ne (tgt := 485) hx hb dL_refuses_478 (by decide) (fun hc => absurd (by decide) hc) (fun _ => ?_)
  refine lv_iconst (v := 1) hx hb dL_refuses_481 (by decide) ?_
  refine lv_goto (tgt := 486) hx hb dL_refuses_482 (by decide) ?_
  refine lv_istore (lv' := [(12, .int 1), (13, .int 12), (11, .int ((-2147483648))), (10, .int (nI (σ 2 0))), (9, .int (nI (σ 1 0))), (8, .int ((-2147483648))), (0, .ref (ad 0 0)), (1, .int (nI (σ 1 0))), (2, .int (nI (σ 2 0))), (3, .int (nI (σ 3 0))), (4, .int (nI (σ 0 0))), (5, .int (nI (σ 4 0))), (6, .int 2147483647), (7, .int 1)]) hx hb dL_refuses_486 hl (by decide) rfl (fun ls hl => ?_)
  refine lv_iinc (v := 13) (lv' := [(13, .int 13), (12, .int 1), (11, .int ((-2147483648))), (10, .int (nI (σ 2 0))), (9, .int (nI (σ 1 0))), (8, .int ((-2147483648))), (0, .ref (ad 0 0)), (1, .int (nI (σ 1 0))), (2, .int (nI (σ 2 0))), (3, .int (nI (σ 3 0))), (4, .int (nI (σ 0 0))), (5, .int (nI (σ 4 0))), (6, .int 2147483647), (7, .int 1)]) hx hb dL_refuses_488 hl (k := 1) rfl (by decide) (by decide) rfl (fun ls hl => ?_)
  refine lv_goto (tgt := 453) hx hb dL_refuses_491 (by decide) ?_
  refine lv_iload hx hb dL_refuses_453 (lv_at hl 0 rfl) ?_
  refine lv_bipush (v := 13) hx hb dL_refuses_455 (by decide) ?_
  refine lv_icmp_ge (tgt := 494) hx hb dL_refuses_457 (by decide) (fun _ => ?_) (fun hc => absurd (by decide) hc)
  refine lv_bipush (v := 13) hx hb dL_refuses_494 (by decide) ?_
  refine lv_istore (lv' := [(13, .int 13), (12, .int 1), (11, .int ((-2147483648))), (10, .int (nI (σ 2 0))), (9, .int (nI (σ 1 0))), (8, .int ((-2147483648))), (0, .ref (ad 0 0)), (1, .int (nI (σ 1 0))), (2, .int (nI (σ 2 0))), (3, .int (nI (σ 3 0))), (4, .int (nI (σ 0 0))), (5, .int (nI (σ 4 0))), (6, .int 2147483647), (7, .int 1)]) hx hb dL_refuses_496 hl (by decide) rfl (fun ls hl => ?_)
  refine lv_iload hx hb dL_refuses_498 (lv_at hl 0 rfl) ?_
  refine lv_bipush (v := 16) hx hb dL_refuses_500 (by decide) ?_
  refine lv_icmp_ge (tgt := 539) hx hb dL_refuses_502 (by decide) (fun hc => absurd hc (by decide)) (fun _ => ?_)
  refine lv_iload hx hb dL_refuses_505 (lv_at hl 1 rfl) ?_
  refine lv_if_eq (tgt := 530) hx hb dL_refuses_507 (by decide) (fun hc => absurd hc (by decide)) (fun _ => ?_)
  refine lv_aload_n hx hb dL_refuses_510 rfl (lv_at hl 6 rfl) ?_
  refine lv_iload hx hb dL_refuses_511 (lv_at hl 0 rfl) ?_
  refine lv_iload hx hb dL_refuses_513 (lv_at hl 4 rfl) ?_
  refine lv_iconst (v := 0) hx hb dL_refuses_515 (by decide) ?_
  refine lv_iconst (v := 0) hx hb dL_refuses_516 (by decide) ?_
  refine lv_iconst (v := 0) hx hb dL_refuses_517 (by decide) ?_
  refine kgo_i (kc_SW (As := [.ref (ad 0 0), .int 13, .int (nI (σ 1 0)), .int 0, .int 0, .int 0]) (rest := []) S hE hS hAb (ax_probes1 ε l hw (cpx_probes ε l hw hB hst (x := nI (σ 1 0)) (Or.inr (Int32.le_refl _)))) (vx_cwSW 6 hts gL_refuses_L_act rfl rfl rfl (by decide +kernel) ⟨Nat.le_of_ble_eq_true rfl, Nat.le_of_ble_eq_true rfl⟩) rfl hl.1 rfl (Nat.le_of_ble_eq_true rfl) dL_refuses_518 ⟨Nat.le_of_ble_eq_true rfl, Nat.le_of_ble_eq_true rfl⟩) hS (fun _ h => h) (fun r9 H1 locs e9 hz1 hq hS => ?_)
  have hw := hw.keep (fun k j hk => hq _ (va_at.lt (hw.1 k j hk).1) (fun h => h))
  clear hq hz1
  refine kr_room (c1 := 53) (s1 := 318) rfl rfl ?_
  refine kr_top e9 ?_
  refine lv_bipush (v := -41) hx hb dL_refuses_521 (by decide) ?_
  refine lv_icmp_ne (tgt := 530) hx hb dL_refuses_523 (by decide) (fun hc => absurd (by decide) hc) (fun _ => ?_)
  refine lv_iconst (v := 1) hx hb dL_refuses_526 (by decide) ?_
  refine lv_goto (tgt := 531) hx hb dL_refuses_527 (by decide) ?_
  refine lv_istore (lv' := [(12, .int 1), (13, .int 13), (11, .int ((-2147483648))), (10, .int (nI (σ 2 0))), (9, .int (nI (σ 1 0))), (8, .int ((-2147483648))), (0, .ref (ad 0 0)), (1, .int (nI (σ 1 0))), (2, .int (nI (σ 2 0))), (3, .int (nI (σ 3 0))), (4, .int (nI (σ 0 0))), (5, .int (nI (σ 4 0))), (6, .int 2147483647), (7, .int 1)]) hx hb dL_refuses_531 hl (by decide) rfl (fun ls hl => ?_)
  refine lv_iinc (v := 14) (lv' := [(13, .int 14), (12, .int 1), (11, .int ((-2147483648))), (10, .int (nI (σ 2 0))), (9, .int (nI (σ 1 0))), (8, .int ((-2147483648))), (0, .ref (ad 0 0)), (1, .int (nI (σ 1 0))), (2, .int (nI (σ 2 0))), (3, .int (nI (σ 3 0))), (4, .int (nI (σ 0 0))), (5, .int (nI (σ 4 0))), (6, .int 2147483647), (7, .int 1)]) hx hb dL_refuses_533 hl (k := 1) rfl (by decide) (by decide) rfl (fun ls hl => ?_)
  refine lv_goto (tgt := 498) hx hb dL_refuses_536 (by decide) ?_
  refine lv_iload hx hb dL_refuses_498 (lv_at hl 0 rfl) ?_
  refine lv_bipush (v := 16) hx hb dL_refuses_500 (by decide) ?_
  refine lv_icmp_ge (tgt := 539) hx hb dL_refuses_502 (by decide) (fun hc => absurd hc (by decide)) (fun _ => ?_)
  refine lv_iload hx hb dL_refuses_505 (lv_at hl 1 rfl) ?_
  refine lv_if_eq (tgt := 530) hx hb dL_refuses_507 (by decide) (fun hc => absurd hc (by decide)) (fun _ => ?_)
  refine lv_aload_n hx hb dL_refuses_510 rfl (lv_at hl 6 rfl) ?_
  refine lv_iload hx hb dL_refuses_511 (lv_at hl 0 rfl) ?_
  refine lv_iload hx hb dL_refuses_513 (lv_at hl 4 rfl) ?_
  refine lv_iconst (v := 0) hx hb dL_refuses_515 (by decide) ?_
  refine lv_iconst (v := 0) hx hb dL_refuses_516 (by decide) ?_
  refine lv_iconst (v := 0) hx hb dL_refuses_517 (by decide) ?_
  refine kgo_i (kc_SW (As := [.ref (ad 0 0), .int 14, .int (nI (σ 1 0)), .int 0, .int 0, .int 0]) (rest := []) S hE hS hAb (ax_failures1 ε l hw (cpx_failures ε l hw hB hst (x := nI (σ 1 0)) (Or.inr (Int32.le_refl _)))) (vx_cwSW 6 hts gL_refuses_L_act rfl rfl rfl (by decide +kernel) ⟨Nat.le_of_ble_eq_true rfl, Nat.le_of_ble_eq_true rfl⟩) rfl hl.1 rfl (Nat.le_of_ble_eq_true rfl) dL_refuses_518 ⟨Nat.le_of_ble_eq_true rfl, Nat.le_of_ble_eq_true rfl⟩) hS (fun _ h => h) (fun r9 H1 locs e9 hz1 hq hS => ?_)
  have hw := hw.keep (fun k j hk => hq _ (va_at.lt (hw.1 k j hk).1) (fun h => h))
  clear hq hz1
  refine kr_room (c1 := 54) (s1 := 324) rfl rfl ?_
  refine kr_top e9 ?_
  refine lv_bipush (v := -41) hx hb dL_refuses_521 (by decide) ?_
  refine lv_icmp_ne (tgt := 530) hx hb dL_refuses_523 (by decide) (fun hc => absurd (by decide) hc) (fun _ => ?_)
  refine lv_iconst (v := 1) hx hb dL_refuses_526 (by decide) ?_
  refine lv_goto (tgt := 531) hx hb dL_refuses_527 (by decide) ?_
  refine lv_istore (lv' := [(12, .int 1), (13, .int 14), (11, .int ((-2147483648))), (10, .int (nI (σ 2 0))), (9, .int (nI (σ 1 0))), (8, .int ((-2147483648))), (0, .ref (ad 0 0)), (1, .int (nI (σ 1 0))), (2, .int (nI (σ 2 0))), (3, .int (nI (σ 3 0))), (4, .int (nI (σ 0 0))), (5, .int (nI (σ 4 0))), (6, .int 2147483647), (7, .int 1)]) hx hb dL_refuses_531 hl (by decide) rfl (fun ls hl => ?_)
  refine lv_iinc (v := 15) (lv' := [(13, .int 15), (12, .int 1), (11, .int ((-2147483648))), (10, .int (nI (σ 2 0))), (9, .int (nI (σ 1 0))), (8, .int ((-2147483648))), (0, .ref (ad 0 0)), (1, .int (nI (σ 1 0))), (2, .int (nI (σ 2 0))), (3, .int (nI (σ 3 0))), (4, .int (nI (σ 0 0))), (5, .int (nI (σ 4 0))), (6, .int 2147483647), (7, .int 1)]) hx hb dL_refuses_533 hl (k := 1) rfl (by decide) (by decide) rfl (fun ls hl => ?_)
  refine lv_goto (tgt := 498) hx hb dL_refuses_536 (by decide) ?_
  refine lv_iload hx hb dL_refuses_498 (lv_at hl 0 rfl) ?_
  refine lv_bipush (v := 16) hx hb dL_refuses_500 (by decide) ?_
  refine lv_icmp_ge (tgt := 539) hx hb dL_refuses_502 (by decide) (fun hc => absurd hc (by decide)) (fun _ => ?_)
  refine lv_iload hx hb dL_refuses_505 (lv_at hl 1 rfl) ?_
  refine lv_if_eq (tgt := 530) hx hb dL_refuses_507 (by decide) (fun hc => absurd hc (by decide)) (fun _ => ?_)
  refine lv_aload_n hx hb dL_refuses_510 rfl (lv_at hl 6 rfl) ?_
  refine lv_iload hx hb dL_refuses_511 (lv_at hl 0 rfl) ?_
  refine lv_iload hx hb dL_refuses_513 (lv_at hl 4 rfl) ?_
  refine lv_iconst (v := 0) hx hb dL_refuses_515 (by decide) ?_
  refine lv_iconst (v := 0) hx hb dL_refuses_516 (by decide) ?_
  refine lv_iconst (v := 0) hx hb dL_refuses_517 (by decide) ?_
  refine kgo_i (kc_SW (As := [.ref (ad 0 0), .int 15, .int (nI (σ 1 0)), .int 0, .int 0, .int 0]) (rest := []) S hE hS hAb (ax_isBad1 ε l hw (cpx_isBad ε l hw hB hst (x := nI (σ 1 0)) (Or.inr (Int32.le_refl _)))) (vx_cwSW 6 hts gL_refuses_L_act rfl rfl rfl (by decide +kernel) ⟨Nat.le_of_ble_eq_true rfl, Nat.le_of_ble_eq_true rfl⟩) rfl hl.1 rfl (Nat.le_of_ble_eq_true rfl) dL_refuses_518 ⟨Nat.le_of_ble_eq_true rfl, Nat.le_of_ble_eq_true rfl⟩) hS (fun _ h => h) (fun r9 H1 locs e9 hz1 hq hS => ?_)
  have hw := hw.keep (fun k j hk => hq _ (va_at.lt (hw.1 k j hk).1) (fun h => h))
  clear hq hz1
  refine kr_room (c1 := 55) (s1 := 330) rfl rfl ?_
  refine kr_top e9 ?_
  refine lv_bipush (v := -41) hx hb dL_refuses_521 (by decide) ?_
  refine lv_icmp_ne (tgt := 530) hx hb dL_refuses_523 (by decide) (fun hc => absurd (by decide) hc) (fun _ => ?_)
  refine lv_iconst (v := 1) hx hb dL_refuses_526 (by decide) ?_
  refine lv_goto (tgt := 531) hx hb dL_refuses_527 (by decide) ?_
  refine lv_istore (lv' := [(12, .int 1), (13, .int 15), (11, .int ((-2147483648))), (10, .int (nI (σ 2 0))), (9, .int (nI (σ 1 0))), (8, .int ((-2147483648))), (0, .ref (ad 0 0)), (1, .int (nI (σ 1 0))), (2, .int (nI (σ 2 0))), (3, .int (nI (σ 3 0))), (4, .int (nI (σ 0 0))), (5, .int (nI (σ 4 0))), (6, .int 2147483647), (7, .int 1)]) hx hb dL_refuses_531 hl (by decide) rfl (fun ls hl => ?_)
  refine lv_iinc (v := 16) (lv' := [(13, .int 16), (12, .int 1), (11, .int ((-2147483648))), (10, .int (nI (σ 2 0))), (9, .int (nI (σ 1 0))), (8, .int ((-2147483648))), (0, .ref (ad 0 0)), (1, .int (nI (σ 1 0))), (2, .int (nI (σ 2 0))), (3, .int (nI (σ 3 0))), (4, .int (nI (σ 0 0))), (5, .int (nI (σ 4 0))), (6, .int 2147483647), (7, .int 1)]) hx hb dL_refuses_533 hl (k := 1) rfl (by decide) (by decide) rfl (fun ls hl => ?_)
  refine lv_goto (tgt := 498) hx hb dL_refuses_536 (by decide) ?_
  refine lv_iload hx hb dL_refuses_498 (lv_at hl 0 rfl) ?_
  refine lv_bipush (v := 16) hx hb dL_refuses_500 (by decide) ?_
  refine lv_icmp_ge (tgt := 539) hx hb dL_refuses_502 (by decide) (fun _ => ?_) (fun hc => absurd (by decide) hc)
  refine lv_bipush (v := 16) hx hb dL_refuses_539 (by decide) ?_
  refine lv_istore (lv' := [(13, .int 16), (12, .int 1), (11, .int ((-2147483648))), (10, .int (nI (σ 2 0))), (9, .int (nI (σ 1 0))), (8, .int ((-2147483648))), (0, .ref (ad 0 0)), (1, .int (nI (σ 1 0))), (2, .int (nI (σ 2 0))), (3, .int (nI (σ 3 0))), (4, .int (nI (σ 0 0))), (5, .int (nI (σ 4 0))), (6, .int 2147483647), (7, .int 1)]) hx hb dL_refuses_541 hl (by decide) rfl (fun ls hl => ?_)
  refine lv_iload hx hb dL_refuses_543 (lv_at hl 0 rfl) ?_
  refine lv_bipush (v := 19) hx hb dL_refuses_545 (by decide) ?_
  refine lv_icmp_ge (tgt := 600) hx hb dL_refuses_547 (by decide) (fun hc => absurd hc (by decide)) (fun _ => ?_)
  refine lv_iload hx hb dL_refuses_550 (lv_at hl 1 rfl) ?_
  refine lv_if_eq (tgt := 591) hx hb dL_refuses_552 (by decide) (fun hc => absurd hc (by decide)) (fun _ => ?_)
  refine lv_aload_n hx hb dL_refuses_555 rfl (lv_at hl 6 rfl) ?_
  refine lv_iload hx hb dL_refuses_556 (lv_at hl 0 rfl) ?_
  refine lv_iload hx hb dL_refuses_558 (lv_at hl 3 rfl) ?_
  refine lv_iconst (v := 0) hx hb dL_refuses_560 (by decide) ?_
  refine lv_iconst (v := 0) hx hb dL_refuses_561 (by decide) ?_
  refine lv_iconst (v := 0) hx hb dL_refuses_562 (by decide) ?_
  refine kgo_i (kc_SW (As := [.ref (ad 0 0), .int 16, .int (nI (σ 2 0)), .int 0, .int 0, .int 0]) (rest := []) S hE hS hAb (ax_nextProbe1 ε l hw (cpx_nextProbe1 ε l hw hB hst (x := nI (σ 2 0)) (y := 0) (Or.inr (Int32.le_refl _)))) (vx_cwSW 6 hts gL_refuses_L_act rfl rfl rfl (by decide +kernel) ⟨Nat.le_of_ble_eq_true rfl, Nat.le_of_ble_eq_true rfl⟩) rfl hl.1 rfl (Nat.le_of_ble_eq_true rfl) dL_refuses_563 ⟨Nat.le_of_ble_eq_true rfl, Nat.le_of_ble_eq_true rfl⟩) hS (fun _ h => h) (fun r9 H1 locs e9 hz1 hq hS => ?_)
  have hw := hw.keep (fun k j hk => hq _ (va_at.lt (hw.1 k j hk).1) (fun h => h))
  clear hq hz1
  refine kr_room (c1 := 56) (s1 := 336) rfl rfl ?_
  refine kr_top e9 ?_
  refine lv_bipush (v := -41) hx hb dL_refuses_566 (by decide) ?_
  refine lv_icmp_ne (tgt := 591) hx hb dL_refuses_568 (by decide) (fun hc => absurd (by decide) hc) (fun _ => ?_)
  refine lv_aload_n hx hb dL_refuses_571 rfl (lv_at hl 6 rfl) ?_
  refine lv_iload hx hb dL_refuses_572 (lv_at hl 0 rfl) ?_
  refine lv_iconst (v := 0) hx hb dL_refuses_574 (by decide) ?_
  refine lv_iload hx hb dL_refuses_575 (lv_at hl 4 rfl) ?_
  refine lv_iconst (v := 0) hx hb dL_refuses_577 (by decide) ?_
  refine lv_iconst (v := 0) hx hb dL_refuses_578 (by decide) ?_
  refine kgo_i (kc_SW (As := [.ref (ad 0 0), .int 16, .int (nI 0), .int (nI (σ 1 0)), .int 0, .int 0]) (rest := []) S hE hS hAb (ax_nextProbe1 ε l hw (cpx_nextProbe2 ε l hw hB hst (i := 0) (y := nI (σ 1 0)) h2 (Or.inr (Int32.le_refl _)))) (vx_cwSW 6 hts gL_refuses_L_act rfl rfl rfl (by decide +kernel) ⟨Nat.le_of_ble_eq_true rfl, Nat.le_of_ble_eq_true rfl⟩) rfl hl.1 rfl (Nat.le_of_ble_eq_true rfl) dL_refuses_579 ⟨Nat.le_of_ble_eq_true rfl, Nat.le_of_ble_eq_true rfl⟩) hS (fun _ h => h) (fun r9 H1 locs e9 hz1 hq hS => ?_)
  have hw := hw.keep (fun k j hk => hq _ (va_at.lt (hw.1 k j hk).1) (fun h => h))
  clear hq hz1
  refine kr_room (c1 := 57) (s1 := 342) rfl rfl ?_
  refine kr_top e9 ?_
  refine lv_bipush (v := -41) hx hb dL_refuses_582 (by decide) ?_
  refine lv_icmp_ne (tgt := 591) hx hb dL_refuses_584 (by decide) (fun hc => absurd (by decide) hc) (fun _ => ?_)
  refine lv_iconst (v := 1) hx hb dL_refuses_587 (by decide) ?_
  refine lv_goto (tgt := 592) hx hb dL_refuses_588 (by decide) ?_
  refine lv_istore (lv' := [(12, .int 1), (13, .int 16), (11, .int ((-2147483648))), (10, .int (nI (σ 2 0))), (9, .int (nI (σ 1 0))), (8, .int ((-2147483648))), (0, .ref (ad 0 0)), (1, .int (nI (σ 1 0))), (2, .int (nI (σ 2 0))), (3, .int (nI (σ 3 0))), (4, .int (nI (σ 0 0))), (5, .int (nI (σ 4 0))), (6, .int 2147483647), (7, .int 1)]) hx hb dL_refuses_592 hl (by decide) rfl (fun ls hl => ?_)
  refine lv_iinc (v := 17) (lv' := [(13, .int 17), (12, .int 1), (11, .int ((-2147483648))), (10, .int (nI (σ 2 0))), (9, .int (nI (σ 1 0))), (8, .int ((-2147483648))), (0, .ref (ad 0 0)), (1, .int (nI (σ 1 0))), (2, .int (nI (σ 2 0))), (3, .int (nI (σ 3 0))), (4, .int (nI (σ 0 0))), (5, .int (nI (σ 4 0))), (6, .int 2147483647), (7, .int 1)]) hx hb dL_refuses_594 hl (k := 1) rfl (by decide) (by decide) rfl (fun ls hl => ?_)
  refine lv_goto (tgt := 543) hx hb dL_refuses_597 (by decide) ?_
  refine lv_iload hx hb dL_refuses_543 (lv_at hl 0 rfl) ?_
  refine lv_bipush (v := 19) hx hb dL_refuses_545 (by decide) ?_
  refine lv_icmp_ge (tgt := 600) hx hb dL_refuses_547 (by decide) (fun hc => absurd hc (by decide)) (fun _ => ?_)
  refine lv_iload hx hb dL_refuses_550 (lv_at hl 1 rfl) ?_
  refine lv_if_eq (tgt := 591) hx hb dL_refuses_552 (by decide) (fun hc => absurd hc (by decide)) (fun _ => ?_)
  refine lv_aload_n hx hb dL_refuses_555 rfl (lv_at hl 6 rfl) ?_
  refine lv_iload hx hb dL_refuses_556 (lv_at hl 0 rfl) ?_
  refine lv_iload hx hb dL_refuses_558 (lv_at hl 3 rfl) ?_
  refine lv_iconst (v := 0) hx hb dL_refuses_560 (by decide) ?_
  refine lv_iconst (v := 0) hx hb dL_refuses_561 (by decide) ?_
  refine lv_iconst (v := 0) hx hb dL_refuses_562 (by decide) ?_
  refine kgo_i (kc_SW (As := [.ref (ad 0 0), .int 17, .int (nI (σ 2 0)), .int 0, .int 0, .int 0]) (rest := []) S hE hS hAb (ax_repetition1 ε l hw (cpx_repetition1 ε l hw hB hst (x := nI (σ 2 0)) (y := 0) (Or.inr (Int32.le_refl _)))) (vx_cwSW 6 hts gL_refuses_L_act rfl rfl rfl (by decide +kernel) ⟨Nat.le_of_ble_eq_true rfl, Nat.le_of_ble_eq_true rfl⟩) rfl hl.1 rfl (Nat.le_of_ble_eq_true rfl) dL_refuses_563 ⟨Nat.le_of_ble_eq_true rfl, Nat.le_of_ble_eq_true rfl⟩) hS (fun _ h => h) (fun r9 H1 locs e9 hz1 hq hS => ?_)
  have hw := hw.keep (fun k j hk => hq _ (va_at.lt (hw.1 k j hk).1) (fun h => h))
  clear hq hz1
  refine kr_room (c1 := 58) (s1 := 348) rfl rfl ?_
  refine kr_top e9 ?_
  refine lv_bipush (v := -41) hx hb dL_refuses_566 (by decide) ?_
  refine lv_icmp_ne (tgt := 591) hx hb dL_refuses_568 (by decide) (fun hc => absurd (by decide) hc) (fun _ => ?_)
  refine lv_aload_n hx hb dL_refuses_571 rfl (lv_at hl 6 rfl) ?_
  refine lv_iload hx hb dL_refuses_572 (lv_at hl 0 rfl) ?_
  refine lv_iconst (v := 0) hx hb dL_refuses_574 (by decide) ?_
  refine lv_iload hx hb dL_refuses_575 (lv_at hl 4 rfl) ?_
  refine lv_iconst (v := 0) hx hb dL_refuses_577 (by decide) ?_
  refine lv_iconst (v := 0) hx hb dL_refuses_578 (by decide) ?_
  refine kgo_i (kc_SW (As := [.ref (ad 0 0), .int 17, .int (nI 0), .int (nI (σ 1 0)), .int 0, .int 0]) (rest := []) S hE hS hAb (ax_repetition1 ε l hw (cpx_repetition2 ε l hw hB hst (i := 0) (y := nI (σ 1 0)) h2 (Or.inr (Int32.le_refl _)))) (vx_cwSW 6 hts gL_refuses_L_act rfl rfl rfl (by decide +kernel) ⟨Nat.le_of_ble_eq_true rfl, Nat.le_of_ble_eq_true rfl⟩) rfl hl.1 rfl (Nat.le_of_ble_eq_true rfl) dL_refuses_579 ⟨Nat.le_of_ble_eq_true rfl, Nat.le_of_ble_eq_true rfl⟩) hS (fun _ h => h) (fun r9 H1 locs e9 hz1 hq hS => ?_)
  have hw := hw.keep (fun k j hk => hq _ (va_at.lt (hw.1 k j hk).1) (fun h => h))
  clear hq hz1
  refine kr_room (c1 := 59) (s1 := 354) rfl rfl ?_
  refine kr_top e9 ?_
  refine lv_bipush (v := -41) hx hb dL_refuses_582 (by decide) ?_
  refine lv_icmp_ne (tgt := 591) hx hb dL_refuses_584 (by decide) (fun hc => absurd (by decide) hc) (fun _ => ?_)
  refine lv_iconst (v := 1) hx hb dL_refuses_587 (by decide) ?_
  refine lv_goto (tgt := 592) hx hb dL_refuses_588 (by decide) ?_
  refine lv_istore (lv' := [(12, .int 1), (13, .int 17), (11, .int ((-2147483648))), (10, .int (nI (σ 2 0))), (9, .int (nI (σ 1 0))), (8, .int ((-2147483648))), (0, .ref (ad 0 0)), (1, .int (nI (σ 1 0))), (2, .int (nI (σ 2 0))), (3, .int (nI (σ 3 0))), (4, .int (nI (σ 0 0))), (5, .int (nI (σ 4 0))), (6, .int 2147483647), (7, .int 1)]) hx hb dL_refuses_592 hl (by decide) rfl (fun ls hl => ?_)
  refine lv_iinc (v := 18) (lv' := [(13, .int 18), (12, .int 1), (11, .int ((-2147483648))), (10, .int (nI (σ 2 0))), (9, .int (nI (σ 1 0))), (8, .int ((-2147483648))), (0, .ref (ad 0 0)), (1, .int (nI (σ 1 0))), (2, .int (nI (σ 2 0))), (3, .int (nI (σ 3 0))), (4, .int (nI (σ 0 0))), (5, .int (nI (σ 4 0))), (6, .int 2147483647), (7, .int 1)]) hx hb dL_refuses_594 hl (k := 1) rfl (by decide) (by decide) rfl (fun ls hl => ?_)
  refine lv_goto (tgt := 543) hx hb dL_refuses_597 (by decide) ?_
  refine lv_iload hx hb dL_refuses_543 (lv_at hl 0 rfl) ?_
  refine lv_bipush (v := 19) hx hb dL_refuses_545 (by decide) ?_
  refine lv_icmp_ge (tgt := 600) hx hb dL_refuses_547 (by decide) (fun hc => absurd hc (by decide)) (fun _ => ?_)
  refine lv_iload hx hb dL_refuses_550 (lv_at hl 1 rfl) ?_
  refine lv_if_eq (tgt := 591) hx hb dL_refuses_552 (by decide) (fun hc => absurd hc (by decide)) (fun _ => ?_)
  refine lv_aload_n hx hb dL_refuses_555 rfl (lv_at hl 6 rfl) ?_
  refine lv_iload hx hb dL_refuses_556 (lv_at hl 0 rfl) ?_
  refine lv_iload hx hb dL_refuses_558 (lv_at hl 3 rfl) ?_
  refine lv_iconst (v := 0) hx hb dL_refuses_560 (by decide) ?_
  refine lv_iconst (v := 0) hx hb dL_refuses_561 (by decide) ?_
  refine lv_iconst (v := 0) hx hb dL_refuses_562 (by decide) ?_
  refine kgo_i (kc_SW (As := [.ref (ad 0 0), .int 18, .int (nI (σ 2 0)), .int 0, .int 0, .int 0]) (rest := []) S hE hS hAb (ax_vote1 ε l hw (cpx_vote1 ε l hw hB hst (x := nI (σ 2 0)) (y := 0) (Or.inr (Int32.le_refl _)))) (vx_cwSW 6 hts gL_refuses_L_act rfl rfl rfl (by decide +kernel) ⟨Nat.le_of_ble_eq_true rfl, Nat.le_of_ble_eq_true rfl⟩) rfl hl.1 rfl (Nat.le_of_ble_eq_true rfl) dL_refuses_563 ⟨Nat.le_of_ble_eq_true rfl, Nat.le_of_ble_eq_true rfl⟩) hS (fun _ h => h) (fun r9 H1 locs e9 hz1 hq hS => ?_)
  have hw := hw.keep (fun k j hk => hq _ (va_at.lt (hw.1 k j hk).1) (fun h => h))
  clear hq hz1
  refine kr_room (c1 := 60) (s1 := 360) rfl rfl ?_
  refine kr_top e9 ?_
  refine lv_bipush (v := -41) hx hb dL_refuses_566 (by decide) ?_
  refine lv_icmp_ne (tgt := 591) hx hb dL_refuses_568 (by decide) (fun hc => absurd (by decide) hc) (fun _ => ?_)
  refine lv_aload_n hx hb dL_refuses_571 rfl (lv_at hl 6 rfl) ?_
  refine lv_iload hx hb dL_refuses_572 (lv_at hl 0 rfl) ?_
  refine lv_iconst (v := 0) hx hb dL_refuses_574 (by decide) ?_
  refine lv_iload hx hb dL_refuses_575 (lv_at hl 4 rfl) ?_
  refine lv_iconst (v := 0) hx hb dL_refuses_577 (by decide) ?_
  refine lv_iconst (v := 0) hx hb dL_refuses_578 (by decide) ?_
  refine kgo_i (kc_SW (As := [.ref (ad 0 0), .int 18, .int (nI 0), .int (nI (σ 1 0)), .int 0, .int 0]) (rest := []) S hE hS hAb (ax_vote1 ε l hw (cpx_vote2 ε l hw hB hst (i := 0) (y := nI (σ 1 0)) h2 (Or.inr (Int32.le_refl _)))) (vx_cwSW 6 hts gL_refuses_L_act rfl rfl rfl (by decide +kernel) ⟨Nat.le_of_ble_eq_true rfl, Nat.le_of_ble_eq_true rfl⟩) rfl hl.1 rfl (Nat.le_of_ble_eq_true rfl) dL_refuses_579 ⟨Nat.le_of_ble_eq_true rfl, Nat.le_of_ble_eq_true rfl⟩) hS (fun _ h => h) (fun r9 H1 locs e9 hz1 hq hS => ?_)
  have hw := hw.keep (fun k j hk => hq _ (va_at.lt (hw.1 k j hk).1) (fun h => h))
  clear hq hz1
  refine kr_room (c1 := 61) (s1 := 366) rfl rfl ?_
  refine kr_top e9 ?_
  refine lv_bipush (v := -41) hx hb dL_refuses_582 (by decide) ?_
  refine lv_icmp_ne (tgt := 591) hx hb dL_refuses_584 (by decide) (fun hc => absurd (by decide) hc) (fun _ => ?_)
  refine lv_iconst (v := 1) hx hb dL_refuses_587 (by decide) ?_
  refine lv_goto (tgt := 592) hx hb dL_refuses_588 (by decide) ?_
  refine lv_istore (lv' := [(12, .int 1), (13, .int 18), (11, .int ((-2147483648))), (10, .int (nI (σ 2 0))), (9, .int (nI (σ 1 0))), (8, .int ((-2147483648))), (0, .ref (ad 0 0)), (1, .int (nI (σ 1 0))), (2, .int (nI (σ 2 0))), (3, .int (nI (σ 3 0))), (4, .int (nI (σ 0 0))), (5, .int (nI (σ 4 0))), (6, .int 2147483647), (7, .int 1)]) hx hb dL_refuses_592 hl (by decide) rfl (fun ls hl => ?_)
  refine lv_iinc (v := 19) (lv' := [(13, .int 19), (12, .int 1), (11, .int ((-2147483648))), (10, .int (nI (σ 2 0))), (9, .int (nI (σ 1 0))), (8, .int ((-2147483648))), (0, .ref (ad 0 0)), (1, .int (nI (σ 1 0))), (2, .int (nI (σ 2 0))), (3, .int (nI (σ 3 0))), (4, .int (nI (σ 0 0))), (5, .int (nI (σ 4 0))), (6, .int 2147483647), (7, .int 1)]) hx hb dL_refuses_594 hl (k := 1) rfl (by decide) (by decide) rfl (fun ls hl => ?_)
  refine lv_goto (tgt := 543) hx hb dL_refuses_597 (by decide) ?_
  refine lv_iload hx hb dL_refuses_543 (lv_at hl 0 rfl) ?_
  refine lv_bipush (v := 19) hx hb dL_refuses_545 (by decide) ?_
  refine lv_icmp_ge (tgt := 600) hx hb dL_refuses_547 (by decide) (fun _ => ?_) (fun hc => absurd (by decide) hc)
  refine lv_bipush (v := 19) hx hb dL_refuses_600 (by decide) ?_
  refine lv_istore (lv' := [(13, .int 19), (12, .int 1), (11, .int ((-2147483648))), (10, .int (nI (σ 2 0))), (9, .int (nI (σ 1 0))), (8, .int ((-2147483648))), (0, .ref (ad 0 0)), (1, .int (nI (σ 1 0))), (2, .int (nI (σ 2 0))), (3, .int (nI (σ 3 0))), (4, .int (nI (σ 0 0))), (5, .int (nI (σ 4 0))), (6, .int 2147483647), (7, .int 1)]) hx hb dL_refuses_602 hl (by decide) rfl (fun ls hl => ?_)
  refine lv_iload hx hb dL_refuses_604 (lv_at hl 0 rfl) ?_
  refine lv_bipush (v := 22) hx hb dL_refuses_606 (by decide) ?_
  refine lv_icmp_ge (tgt := 656) hx hb dL_refuses_608 (by decide) (fun hc => absurd hc (by decide)) (fun _ => ?_)
  refine lv_iload hx hb dL_refuses_611 (lv_at hl 1 rfl) ?_
  refine lv_if_eq (tgt := 647) hx hb dL_refuses_613 (by decide) (fun hc => absurd hc (by decide)) (fun _ => ?_)
  refine lv_aload_n hx hb dL_refuses_616 rfl (lv_at hl 6 rfl) ?_
  refine lv_iload hx hb dL_refuses_617 (lv_at hl 0 rfl) ?_
  refine lv_iload hx hb dL_refuses_619 (lv_at hl 13 rfl) ?_
  refine lv_iconst (v := 1) hx hb dL_refuses_621 (by decide) ?_
  refine lv_icmp_ne (tgt := 630) hx hb dL_refuses_622 (by decide) (fun hc => absurd (by decide) hc) (fun _ => ?_)
  refine lv_iload hx hb dL_refuses_625 (lv_at hl 11 rfl) ?_
  refine lv_goto (tgt := 632) hx hb dL_refuses_627 (by decide) ?_
  refine lv_iconst (v := 0) hx hb dL_refuses_632 (by decide) ?_
  refine lv_iconst (v := 0) hx hb dL_refuses_633 (by decide) ?_
  refine lv_iconst (v := 0) hx hb dL_refuses_634 (by decide) ?_
  refine kgo_i (kc_SW (As := [.ref (ad 0 0), .int 19, .int (nI (σ 4 0)), .int 0, .int 0, .int 0]) (rest := []) S hE hS hAb (ax_alarmCheck1 ε l hw (cpx_alarmCheck ε l hw hB hst (x := nI (σ 4 0)) (Or.inr (Int32.le_refl _)))) (vx_cwSW 6 hts gL_refuses_L_act rfl rfl rfl (by decide +kernel) ⟨Nat.le_of_ble_eq_true rfl, Nat.le_of_ble_eq_true rfl⟩) rfl hl.1 rfl (Nat.le_of_ble_eq_true rfl) dL_refuses_635 ⟨Nat.le_of_ble_eq_true rfl, Nat.le_of_ble_eq_true rfl⟩) hS (fun _ h => h) (fun r9 H1 locs e9 hz1 hq hS => ?_)
  have hw := hw.keep (fun k j hk => hq _ (va_at.lt (hw.1 k j hk).1) (fun h => h))
  clear hq hz1
  refine kr_room (c1 := 62) (s1 := 372) rfl rfl ?_
  refine kr_top e9 ?_
  refine lv_bipush (v := -41) hx hb dL_refuses_638 (by decide) ?_
  refine lv_icmp_ne (tgt := 647) hx hb dL_refuses_640 (by decide) (fun hc => absurd (by decide) hc) (fun _ => ?_)
  refine lv_iconst (v := 1) hx hb dL_refuses_643 (by decide) ?_
  refine lv_goto (tgt := 648) hx hb dL_refuses_644 (by decide) ?_
  refine lv_istore (lv' := [(12, .int 1), (13, .int 19), (11, .int ((-2147483648))), (10, .int (nI (σ 2 0))), (9, .int (nI (σ 1 0))), (8, .int ((-2147483648))), (0, .ref (ad 0 0)), (1, .int (nI (σ 1 0))), (2, .int (nI (σ 2 0))), (3, .int (nI (σ 3 0))), (4, .int (nI (σ 0 0))), (5, .int (nI (σ 4 0))), (6, .int 2147483647), (7, .int 1)]) hx hb dL_refuses_648 hl (by decide) rfl (fun ls hl => ?_)
  refine lv_iinc (v := 20) (lv' := [(13, .int 20), (12, .int 1), (11, .int ((-2147483648))), (10, .int (nI (σ 2 0))), (9, .int (nI (σ 1 0))), (8, .int ((-2147483648))), (0, .ref (ad 0 0)), (1, .int (nI (σ 1 0))), (2, .int (nI (σ 2 0))), (3, .int (nI (σ 3 0))), (4, .int (nI (σ 0 0))), (5, .int (nI (σ 4 0))), (6, .int 2147483647), (7, .int 1)]) hx hb dL_refuses_650 hl (k := 1) rfl (by decide) (by decide) rfl (fun ls hl => ?_)
  refine lv_goto (tgt := 604) hx hb dL_refuses_653 (by decide) ?_
  refine lv_iload hx hb dL_refuses_604 (lv_at hl 0 rfl) ?_
  refine lv_bipush (v := 22) hx hb dL_refuses_606 (by decide) ?_
  refine lv_icmp_ge (tgt := 656) hx hb dL_refuses_608 (by decide) (fun hc => absurd hc (by decide)) (fun _ => ?_)
  refine lv_iload hx hb dL_refuses_611 (lv_at hl 1 rfl) ?_
  refine lv_if_eq (tgt := 647) hx hb dL_refuses_613 (by decide) (fun hc => absurd hc (by decide)) (fun _ => ?_)
  refine lv_aload_n hx hb dL_refuses_616 rfl (lv_at hl 6 rfl) ?_
  refine lv_iload hx hb dL_refuses_617 (lv_at hl 0 rfl) ?_
  refine lv_iload hx hb dL_refuses_619 (lv_at hl 13 rfl) ?_
  refine lv_iconst (v := 1) hx hb dL_refuses_621 (by decide) ?_
  refine lv_icmp_ne (tgt := 630) hx hb dL_refuses_622 (by decide) (fun hc => absurd (by decide) hc) (fun _ => ?_)
  refine lv_iload hx hb dL_refuses_625 (lv_at hl 11 rfl) ?_
  refine lv_goto (tgt := 632) hx hb dL_refuses_627 (by decide) ?_
  refine lv_iconst (v := 0) hx hb dL_refuses_632 (by decide) ?_
  refine lv_iconst (v := 0) hx hb dL_refuses_633 (by decide) ?_
  refine lv_iconst (v := 0) hx hb dL_refuses_634 (by decide) ?_
  refine kgo_i (kc_SW (As := [.ref (ad 0 0), .int 20, .int (nI (σ 4 0)), .int 0, .int 0, .int 0]) (rest := []) S hE hS hAb (ax_alarmRaised1 ε l hw (cpx_alarmRaised ε l hw hB hst (x := nI (σ 4 0)) (Or.inr (Int32.le_refl _)))) (vx_cwSW 6 hts gL_refuses_L_act rfl rfl rfl (by decide +kernel) ⟨Nat.le_of_ble_eq_true rfl, Nat.le_of_ble_eq_true rfl⟩) rfl hl.1 rfl (Nat.le_of_ble_eq_true rfl) dL_refuses_635 ⟨Nat.le_of_ble_eq_true rfl, Nat.le_of_ble_eq_true rfl⟩) hS (fun _ h => h) (fun r9 H1 locs e9 hz1 hq hS => ?_)
  have hw := hw.keep (fun k j hk => hq _ (va_at.lt (hw.1 k j hk).1) (fun h => h))
  clear hq hz1
  refine kr_room (c1 := 63) (s1 := 378) rfl rfl ?_
  refine kr_top e9 ?_
  refine lv_bipush (v := -41) hx hb dL_refuses_638 (by decide) ?_
  refine lv_icmp_ne (tgt := 647) hx hb dL_refuses_640 (by decide) (fun hc => absurd (by decide) hc) (fun _ => ?_)
  refine lv_iconst (v := 1) hx hb dL_refuses_643 (by decide) ?_
  refine lv_goto (tgt := 648) hx hb dL_refuses_644 (by decide) ?_
  refine lv_istore (lv' := [(12, .int 1), (13, .int 20), (11, .int ((-2147483648))), (10, .int (nI (σ 2 0))), (9, .int (nI (σ 1 0))), (8, .int ((-2147483648))), (0, .ref (ad 0 0)), (1, .int (nI (σ 1 0))), (2, .int (nI (σ 2 0))), (3, .int (nI (σ 3 0))), (4, .int (nI (σ 0 0))), (5, .int (nI (σ 4 0))), (6, .int 2147483647), (7, .int 1)]) hx hb dL_refuses_648 hl (by decide) rfl (fun ls hl => ?_)
  refine lv_iinc (v := 21) (lv' := [(13, .int 21), (12, .int 1), (11, .int ((-2147483648))), (10, .int (nI (σ 2 0))), (9, .int (nI (σ 1 0))), (8, .int ((-2147483648))), (0, .ref (ad 0 0)), (1, .int (nI (σ 1 0))), (2, .int (nI (σ 2 0))), (3, .int (nI (σ 3 0))), (4, .int (nI (σ 0 0))), (5, .int (nI (σ 4 0))), (6, .int 2147483647), (7, .int 1)]) hx hb dL_refuses_650 hl (k := 1) rfl (by decide) (by decide) rfl (fun ls hl => ?_)
  refine lv_goto (tgt := 604) hx hb dL_refuses_653 (by decide) ?_
  refine lv_iload hx hb dL_refuses_604 (lv_at hl 0 rfl) ?_
  refine lv_bipush (v := 22) hx hb dL_refuses_606 (by decide) ?_
  refine lv_icmp_ge (tgt := 656) hx hb dL_refuses_608 (by decide) (fun hc => absurd hc (by decide)) (fun _ => ?_)
  refine lv_iload hx hb dL_refuses_611 (lv_at hl 1 rfl) ?_
  refine lv_if_eq (tgt := 647) hx hb dL_refuses_613 (by decide) (fun hc => absurd hc (by decide)) (fun _ => ?_)
  refine lv_aload_n hx hb dL_refuses_616 rfl (lv_at hl 6 rfl) ?_
  refine lv_iload hx hb dL_refuses_617 (lv_at hl 0 rfl) ?_
  refine lv_iload hx hb dL_refuses_619 (lv_at hl 13 rfl) ?_
  refine lv_iconst (v := 1) hx hb dL_refuses_621 (by decide) ?_
  refine lv_icmp_ne (tgt := 630) hx hb dL_refuses_622 (by decide) (fun hc => absurd (by decide) hc) (fun _ => ?_)
  refine lv_iload hx hb dL_refuses_625 (lv_at hl 11 rfl) ?_
  refine lv_goto (tgt := 632) hx hb dL_refuses_627 (by decide) ?_
  refine lv_iconst (v := 0) hx hb dL_refuses_632 (by decide) ?_
  refine lv_iconst (v := 0) hx hb dL_refuses_633 (by decide) ?_
  refine lv_iconst (v := 0) hx hb dL_refuses_634 (by decide) ?_
  refine kgo_i (kc_SW (As := [.ref (ad 0 0), .int 21, .int (nI (σ 4 0)), .int 0, .int 0, .int 0]) (rest := []) S hE hS hAb (ax_alarmClosed1 ε l hw (cpx_alarmClosed ε l hw hB hst (x := nI (σ 4 0)) (Or.inr (Int32.le_refl _)))) (vx_cwSW 6 hts gL_refuses_L_act rfl rfl rfl (by decide +kernel) ⟨Nat.le_of_ble_eq_true rfl, Nat.le_of_ble_eq_true rfl⟩) rfl hl.1 rfl (Nat.le_of_ble_eq_true rfl) dL_refuses_635 ⟨Nat.le_of_ble_eq_true rfl, Nat.le_of_ble_eq_true rfl⟩) hS (fun _ h => h) (fun r9 H1 locs e9 hz1 hq hS => ?_)
  have hw := hw.keep (fun k j hk => hq _ (va_at.lt (hw.1 k j hk).1) (fun h => h))
  clear hq hz1
  refine kr_room (c1 := 64) (s1 := 384) rfl rfl ?_
  refine kr_top e9 ?_
  refine lv_bipush (v := -41) hx hb dL_refuses_638 (by decide) ?_
  refine lv_icmp_ne (tgt := 647) hx hb dL_refuses_640 (by decide) (fun hc => absurd (by decide) hc) (fun _ => ?_)
  refine lv_iconst (v := 1) hx hb dL_refuses_643 (by decide) ?_
  refine lv_goto (tgt := 648) hx hb dL_refuses_644 (by decide) ?_
  refine lv_istore (lv' := [(12, .int 1), (13, .int 21), (11, .int ((-2147483648))), (10, .int (nI (σ 2 0))), (9, .int (nI (σ 1 0))), (8, .int ((-2147483648))), (0, .ref (ad 0 0)), (1, .int (nI (σ 1 0))), (2, .int (nI (σ 2 0))), (3, .int (nI (σ 3 0))), (4, .int (nI (σ 0 0))), (5, .int (nI (σ 4 0))), (6, .int 2147483647), (7, .int 1)]) hx hb dL_refuses_648 hl (by decide) rfl (fun ls hl => ?_)
  refine lv_iinc (v := 22) (lv' := [(13, .int 22), (12, .int 1), (11, .int ((-2147483648))), (10, .int (nI (σ 2 0))), (9, .int (nI (σ 1 0))), (8, .int ((-2147483648))), (0, .ref (ad 0 0)), (1, .int (nI (σ 1 0))), (2, .int (nI (σ 2 0))), (3, .int (nI (σ 3 0))), (4, .int (nI (σ 0 0))), (5, .int (nI (σ 4 0))), (6, .int 2147483647), (7, .int 1)]) hx hb dL_refuses_650 hl (k := 1) rfl (by decide) (by decide) rfl (fun ls hl => ?_)
  refine lv_goto (tgt := 604) hx hb dL_refuses_653 (by decide) ?_
  refine lv_iload hx hb dL_refuses_604 (lv_at hl 0 rfl) ?_
  refine lv_bipush (v := 22) hx hb dL_refuses_606 (by decide) ?_
  refine lv_icmp_ge (tgt := 656) hx hb dL_refuses_608 (by decide) (fun _ => ?_) (fun hc => absurd (by decide) hc)
  refine lv_iload hx hb dL_refuses_656 (lv_at hl 1 rfl) ?_
  refine lv_if_ne (tgt := 663) hx hb dL_refuses_658 (by decide) (fun _ => ?_) (fun hc => absurd hc (by decide))
  refine lv_iinc (v := 2) (lv' := [(7, .int 2), (13, .int 22), (12, .int 1), (11, .int ((-2147483648))), (10, .int (nI (σ 2 0))), (9, .int (nI (σ 1 0))), (8, .int ((-2147483648))), (0, .ref (ad 0 0)), (1, .int (nI (σ 1 0))), (2, .int (nI (σ 2 0))), (3, .int (nI (σ 3 0))), (4, .int (nI (σ 0 0))), (5, .int (nI (σ 4 0))), (6, .int 2147483647)]) hx hb dL_refuses_663 hl (k := 13) rfl (by decide) (by decide) rfl (fun ls hl => ?_)
  refine lv_goto (tgt := 19) hx hb dL_refuses_666 (by decide) ?_
  exact KK _ _ _ hw hS (lv_sub hl [7, 8, 9, 10, 11, 12, 13, 0] rfl)
set_option maxHeartbeats 4000000 in
set_option maxRecDepth 100000 in
theorem rf_2 (S : CallFix p m c cL_refuses 14 s args wsL_refuses RL) (hE : kE ε s) (hst : l.stackTraces = false) (hw : kW ε A ad σ H) (hB : kB σ) (h2 : 0 < σ 2 0) (hS : va_S kNo s.heap H locs) (hl : lv_has ls 14 [(0, .ref (ad 0 0)), (1, .int (nI (σ 1 0))), (2, .int (nI (σ 2 0))), (3, .int (nI (σ 3 0))), (4, .int (nI (σ 0 0))), (5, .int (nI (σ 4 0))), (6, .int 2147483647), (7, .int 2)])
    (KK : ∀ (H' : Heap) (locs' : List Loc) (ls' : Array Slot), kW ε A ad σ H' → va_S kNo s.heap H' locs' → lv_has ls' 14 [(0, .ref (ad 0 0)), (1, .int (nI (σ 1 0))), (2, .int (nI (σ 2 0))), (3, .int (nI (σ 3 0))), (4, .int (nI (σ 0 0))), (5, .int (nI (σ 4 0))), (6, .int 2147483647), (7, .int 3)] → W p l e ({ frames := 12, cells := 128, slots := 768, locals := 360 }) s m args below meth c H' locs' 96 576 Q (F0 m 19 ls' [])) : W p l e ({ frames := 12, cells := 128, slots := 768, locals := 360 }) s m args below meth c H locs 64 384 Q (F0 m 19 ls []) := by
  have hx := S.1
  have hb := S.2.1
  have hown : s.vm.findClass RL = some m.cls := S.2.2.2.1
  have hts := S.2.2.2.2
  have hK := hE.1
  have hAb : ∀ q, kNo q → kHi ε q := fun _ h => h.elim
  refine lv_iload hx hb dL_refuses_19 (lv_at hl 7 rfl) ?_
  refine lv_iconst (v := 4) hx hb dL_refuses_21 (by decide) ?_
  refine lv_icmp_ge (tgt := 669) hx hb dL_refuses_22 (by decide) (fun hc => absurd hc (by decide)) (fun _ => ?_)
  refine lv_iload hx hb dL_refuses_25 (lv_at hl 7 rfl) ?_
  refine lv_if_ne (tgt := 34) hx hb dL_refuses_27 (by decide) (fun _ => ?_) (fun hc => absurd hc (by decide))
  refine lv_iload hx hb dL_refuses_34 (lv_at hl 7 rfl) ?_
  refine lv_iconst (v := 2) hx hb dL_refuses_36 (by decide) ?_
  refine lv_icmp_ne (tgt := 45) hx hb dL_refuses_37 (by decide) (fun hc => absurd (by decide) hc) (fun _ => ?_)
  refine lv_iload hx hb dL_refuses_40 (lv_at hl 6 rfl) ?_
  refine lv_goto (tgt := 50) hx hb dL_refuses_42 (by decide) ?_
  refine lv_istore (lv' := [(8, .int 2147483647), (0, .ref (ad 0 0)), (1, .int (nI (σ 1 0))), (2, .int (nI (σ 2 0))), (3, .int (nI (σ 3 0))), (4, .int (nI (σ 0 0))), (5, .int (nI (σ 4 0))), (6, .int 2147483647), (7, .int 2)]) hx hb dL_refuses_50 hl (by decide) rfl (fun ls hl => ?_)
  refine lv_iload hx hb dL_refuses_52 (lv_at hl 8 rfl) ?_
  refine lv_iconst (v := 1) hx hb dL_refuses_54 (by decide) ?_
  refine lv_icmp_ne (tgt := 62) hx hb dL_refuses_55 (by decide) (fun _ => ?_) (fun hc => absurd hc (by decide))
  refine lv_iload hx hb dL_refuses_62 (lv_at hl 0 rfl) ?_
  refine lv_istore (lv' := [(9, .int 2147483647), (8, .int 2147483647), (0, .ref (ad 0 0)), (1, .int (nI (σ 1 0))), (2, .int (nI (σ 2 0))), (3, .int (nI (σ 3 0))), (4, .int (nI (σ 0 0))), (5, .int (nI (σ 4 0))), (6, .int 2147483647), (7, .int 2)]) hx hb dL_refuses_64 hl (by decide) rfl (fun ls hl => ?_)
  refine lv_iload hx hb dL_refuses_66 (lv_at hl 9 rfl) ?_
  refine lv_iconst (v := 1) hx hb dL_refuses_68 (by decide) ?_
  refine lv_icmp_ne (tgt := 76) hx hb dL_refuses_69 (by decide) (fun _ => ?_) (fun hc => absurd hc (by decide))
  refine lv_iload hx hb dL_refuses_76 (lv_at hl 1 rfl) ?_
  refine lv_istore (lv' := [(10, .int 2147483647), (9, .int 2147483647), (8, .int 2147483647), (0, .ref (ad 0 0)), (1, .int (nI (σ 1 0))), (2, .int (nI (σ 2 0))), (3, .int (nI (σ 3 0))), (4, .int (nI (σ 0 0))), (5, .int (nI (σ 4 0))), (6, .int 2147483647), (7, .int 2)]) hx hb dL_refuses_78 hl (by decide) rfl (fun ls hl => ?_)
  refine lv_iload hx hb dL_refuses_80 (lv_at hl 10 rfl) ?_
  refine lv_if_ne (tgt := 89) hx hb dL_refuses_82 (by decide) (fun _ => ?_) (fun hc => absurd hc (by decide))
  refine lv_iload hx hb dL_refuses_89 (lv_at hl 2 rfl) ?_
  refine lv_istore (lv' := [(11, .int 2147483647), (10, .int 2147483647), (9, .int 2147483647), (8, .int 2147483647), (0, .ref (ad 0 0)), (1, .int (nI (σ 1 0))), (2, .int (nI (σ 2 0))), (3, .int (nI (σ 3 0))), (4, .int (nI (σ 0 0))), (5, .int (nI (σ 4 0))), (6, .int 2147483647), (7, .int 2)]) hx hb dL_refuses_91 hl (by decide) rfl (fun ls hl => ?_)
  refine lv_aload_n hx hb dL_refuses_93 rfl (lv_at hl 4 rfl) ?_
  refine lv_iconst (v := 0) hx hb dL_refuses_94 (by decide) ?_
  refine lv_iload hx hb dL_refuses_95 (lv_at hl 11 rfl) ?_
  refine lv_if_ne (tgt := 105) hx hb dL_refuses_97 (by decide) (fun _ => ?_) (fun hc => absurd hc (by decide))
  refine lv_iload hx hb dL_refuses_105 (lv_at hl 2 rfl) ?_
  refine lv_iconst (v := 0) hx hb dL_refuses_107 (by decide) ?_
  refine lv_iconst (v := 0) hx hb dL_refuses_108 (by decide) ?_
  refine lv_iconst (v := 0) hx hb dL_refuses_109 (by decide) ?_
  refine kgo_i (kc_SW (As := [.ref (ad 0 0), .int 0, .int 2147483647, .int 0, .int 0, .int 0]) (rest := []) S hE hS hAb (ax_addRegion1 ε l hw (cpx_addRegion1 ε l hw hB hst (x := 2147483647) (by decide +kernel) (Or.inr (kmx _)))) (vx_cwSW 6 hts gL_refuses_L_act rfl rfl rfl (by decide +kernel) ⟨Nat.le_of_ble_eq_true rfl, Nat.le_of_ble_eq_true rfl⟩) rfl hl.1 rfl (Nat.le_of_ble_eq_true rfl) dL_refuses_110 ⟨Nat.le_of_ble_eq_true rfl, Nat.le_of_ble_eq_true rfl⟩) hS (fun _ h => h) (fun r9 H1 locs e9 hz1 hq hS => ?_)
  have hw := hw.keep (fun k j hk => hq _ (va_at.lt (hw.1 k j hk).1) (fun h => h))
  clear hq hz1
  refine kr_room (c1 := 65) (s1 := 390) rfl rfl ?_
  refine kr_top e9 ?_
  refine lv_bipush (v := -41) hx hb dL_refuses_113 (by decide) ?_
  refine lv_icmp_ne (tgt := 226) hx hb dL_refuses_115 (by decide) (fun hc => absurd (by decide) hc) (fun _ => ?_)
  refine lv_aload_n hx hb dL_refuses_118 rfl (lv_at hl 4 rfl) ?_
  refine lv_iconst (v := 1) hx hb dL_refuses_119 (by decide) ?_
  refine lv_iload hx hb dL_refuses_120 (lv_at hl 11 rfl) ?_
  refine lv_iconst (v := 1) hx hb dL_refuses_122 (by decide) ?_
  refine lv_icmp_ne (tgt := 131) hx hb dL_refuses_123 (by decide) (fun _ => ?_) (fun hc => absurd hc (by decide))
  refine lv_iload hx hb dL_refuses_131 (lv_at hl 0 rfl) ?_
  refine lv_iconst (v := 0) hx hb dL_refuses_133 (by decide) ?_
  refine lv_iconst (v := 0) hx hb dL_refuses_134 (by decide) ?_
  refine lv_iconst (v := 1) hx hb dL_refuses_135 (by decide) ?_
  refine kgo_i (kc_SW (As := [.ref (ad 0 0), .int 1, .int 2147483647, .int 0, .int 0, .int 1]) (rest := []) S hE hS hAb (ax_addCheck2 ε l hw (cpx_addCheck1 ε l hw hB hst (x1 := 2147483647) (x2 := 0) (x3 := 0) (x4 := 1) (by decide +kernel))) (vx_cwSW 6 hts gL_refuses_L_act rfl rfl rfl (by decide +kernel) ⟨Nat.le_of_ble_eq_true rfl, Nat.le_of_ble_eq_true rfl⟩) rfl hl.1 rfl (Nat.le_of_ble_eq_true rfl) dL_refuses_136 ⟨Nat.le_of_ble_eq_true rfl, Nat.le_of_ble_eq_true rfl⟩) hS (fun _ h => h) (fun r9 H1 locs e9 hz1 hq hS => ?_)
  have hw := hw.keep (fun k j hk => hq _ (va_at.lt (hw.1 k j hk).1) (fun h => h))
  clear hq hz1
  refine kr_room (c1 := 66) (s1 := 396) rfl rfl ?_
  refine kr_top e9 ?_
  refine lv_bipush (v := -42) hx hb dL_refuses_139 (by decide) ?_
  refine lv_icmp_ne (tgt := 226) hx hb dL_refuses_141 (by decide) (fun hc => absurd (by decide) hc) (fun _ => ?_)
  refine lv_aload_n hx hb dL_refuses_144 rfl (lv_at hl 4 rfl) ?_
  refine lv_iconst (v := 1) hx hb dL_refuses_145 (by decide) ?_
  refine lv_iconst (v := 1) hx hb dL_refuses_146 (by decide) ?_
  refine lv_iload hx hb dL_refuses_147 (lv_at hl 11 rfl) ?_
  refine lv_iconst (v := 1) hx hb dL_refuses_149 (by decide) ?_
  refine lv_icmp_ne (tgt := 159) hx hb dL_refuses_150 (by decide) (fun _ => ?_) (fun hc => absurd hc (by decide))
  refine lv_iload hx hb dL_refuses_159 (lv_at hl 3 rfl) ?_
  refine lv_iconst (v := 0) hx hb dL_refuses_161 (by decide) ?_
  refine lv_iconst (v := 1) hx hb dL_refuses_162 (by decide) ?_
  refine kgo_i (kc_SW (As := [.ref (ad 0 0), .int 1, .int 1, .int 2147483647, .int 0, .int 1]) (rest := []) S hE hS hAb (ax_addCheck2 ε l hw (cpx_addCheck2 ε l hw hB hst (x1 := 1) (x2 := 2147483647) (x3 := 0) (x4 := 1) (by decide +kernel) (by decide +kernel) (by decide +kernel))) (vx_cwSW 6 hts gL_refuses_L_act rfl rfl rfl (by decide +kernel) ⟨Nat.le_of_ble_eq_true rfl, Nat.le_of_ble_eq_true rfl⟩) rfl hl.1 rfl (Nat.le_of_ble_eq_true rfl) dL_refuses_163 ⟨Nat.le_of_ble_eq_true rfl, Nat.le_of_ble_eq_true rfl⟩) hS (fun _ h => h) (fun r9 H1 locs e9 hz1 hq hS => ?_)
  have hw := hw.keep (fun k j hk => hq _ (va_at.lt (hw.1 k j hk).1) (fun h => h))
  clear hq hz1
  refine kr_room (c1 := 67) (s1 := 402) rfl rfl ?_
  refine kr_top e9 ?_
  refine lv_bipush (v := -42) hx hb dL_refuses_166 (by decide) ?_
  refine lv_icmp_ne (tgt := 226) hx hb dL_refuses_168 (by decide) (fun hc => absurd (by decide) hc) (fun _ => ?_)
  refine lv_aload_n hx hb dL_refuses_171 rfl (lv_at hl 4 rfl) ?_
  refine lv_iconst (v := 1) hx hb dL_refuses_172 (by decide) ?_
  refine lv_iconst (v := 1) hx hb dL_refuses_173 (by decide) ?_
  refine lv_iconst (v := 0) hx hb dL_refuses_174 (by decide) ?_
  refine lv_iload hx hb dL_refuses_175 (lv_at hl 11 rfl) ?_
  refine lv_iconst (v := 1) hx hb dL_refuses_177 (by decide) ?_
  refine lv_icmp_ne (tgt := 185) hx hb dL_refuses_178 (by decide) (fun _ => ?_) (fun hc => absurd hc (by decide))
  refine lv_iload hx hb dL_refuses_185 (lv_at hl 3 rfl) ?_
  refine lv_iconst (v := 1) hx hb dL_refuses_187 (by decide) ?_
  refine kgo_i (kc_SW (As := [.ref (ad 0 0), .int 1, .int 1, .int 0, .int 2147483647, .int 1]) (rest := []) S hE hS hAb (ax_addCheck2 ε l hw (cpx_addCheck3 ε l hw hB hst (x1 := 1) (x2 := 0) (x3 := 2147483647) (x4 := 1) (by decide +kernel) (by decide +kernel) (by decide +kernel) (by decide +kernel) (by decide +kernel))) (vx_cwSW 6 hts gL_refuses_L_act rfl rfl rfl (by decide +kernel) ⟨Nat.le_of_ble_eq_true rfl, Nat.le_of_ble_eq_true rfl⟩) rfl hl.1 rfl (Nat.le_of_ble_eq_true rfl) dL_refuses_188 ⟨Nat.le_of_ble_eq_true rfl, Nat.le_of_ble_eq_true rfl⟩) hS (fun _ h => h) (fun r9 H1 locs e9 hz1 hq hS => ?_)
  have hw := hw.keep (fun k j hk => hq _ (va_at.lt (hw.1 k j hk).1) (fun h => h))
  clear hq hz1
  refine kr_room (c1 := 68) (s1 := 408) rfl rfl ?_
  refine kr_top e9 ?_
  refine lv_bipush (v := -42) hx hb dL_refuses_191 (by decide) ?_
  refine lv_icmp_ne (tgt := 226) hx hb dL_refuses_193 (by decide) (fun hc => absurd (by decide) hc) (fun _ => ?_)
  refine lv_aload_n hx hb dL_refuses_196 rfl (lv_at hl 4 rfl) ?_
  refine lv_iconst (v := 1) hx hb dL_refuses_197 (by decide) ?_
  refine lv_iconst (v := 1) hx hb dL_refuses_198 (by decide) ?_
  refine lv_iconst (v := 0) hx hb dL_refuses_199 (by decide) ?_
  refine lv_iconst (v := 0) hx hb dL_refuses_200 (by decide) ?_
  refine lv_iload hx hb dL_refuses_201 (lv_at hl 11 rfl) ?_
  refine lv_iconst (v := 1) hx hb dL_refuses_203 (by decide) ?_
  refine lv_icmp_ne (tgt := 212) hx hb dL_refuses_204 (by decide) (fun _ => ?_) (fun hc => absurd hc (by decide))
  refine lv_iload hx hb dL_refuses_212 (lv_at hl 0 rfl) ?_
  refine kgo_i (kc_SW (As := [.ref (ad 0 0), .int 1, .int 1, .int 0, .int 0, .int 2147483647]) (rest := []) S hE hS hAb (ax_addCheck2 ε l hw (cpx_addCheck4 ε l hw hB hst (x1 := 1) (x2 := 0) (x3 := 0) (x4 := 2147483647) (by decide +kernel) (by decide +kernel) (by decide +kernel) (by decide +kernel) (by decide +kernel) (by decide +kernel) (by decide +kernel))) (vx_cwSW 6 hts gL_refuses_L_act rfl rfl rfl (by decide +kernel) ⟨Nat.le_of_ble_eq_true rfl, Nat.le_of_ble_eq_true rfl⟩) rfl hl.1 rfl (Nat.le_of_ble_eq_true rfl) dL_refuses_214 ⟨Nat.le_of_ble_eq_true rfl, Nat.le_of_ble_eq_true rfl⟩) hS (fun _ h => h) (fun r9 H1 locs e9 hz1 hq hS => ?_)
  have hw := hw.keep (fun k j hk => hq _ (va_at.lt (hw.1 k j hk).1) (fun h => h))
  clear hq hz1
  refine kr_room (c1 := 69) (s1 := 414) rfl rfl ?_
  refine kr_top e9 ?_
  refine lv_bipush (v := -42) hx hb dL_refuses_217 (by decide) ?_
  refine lv_icmp_ne (tgt := 226) hx hb dL_refuses_219 (by decide) (fun hc => absurd (by decide) hc) (fun _ => ?_)
  refine lv_iconst (v := 1) hx hb dL_refuses_222 (by decide) ?_
  refine lv_goto (tgt := 227) hx hb dL_refuses_223 (by decide) ?_
  refine lv_istore (lv' := [(12, .int 1), (11, .int 2147483647), (10, .int 2147483647), (9, .int 2147483647), (8, .int 2147483647), (0, .ref (ad 0 0)), (1, .int (nI (σ 1 0))), (2, .int (nI (σ 2 0))), (3, .int (nI (σ 3 0))), (4, .int (nI (σ 0 0))), (5, .int (nI (σ 4 0))), (6, .int 2147483647), (7, .int 2)]) hx hb dL_refuses_227 hl (by decide) rfl (fun ls hl => ?_)
  refine lv_iload hx hb dL_refuses_229 (lv_at hl 0 rfl) ?_
  refine lv_if_eq (tgt := 446) hx hb dL_refuses_231 (by decide) (fun hc => absurd hc (by decide)) (fun _ => ?_)
  refine lv_aload_n hx hb dL_refuses_234 rfl (lv_at hl 5 rfl) ?_
  refine lv_iconst (v := 2) hx hb dL_refuses_235 (by decide) ?_
  refine lv_iload hx hb dL_refuses_236 (lv_at hl 2 rfl) ?_
  refine lv_iconst (v := 0) hx hb dL_refuses_238 (by decide) ?_
  refine lv_iconst (v := 1) hx hb dL_refuses_239 (by decide) ?_
  refine lv_iconst (v := 0) hx hb dL_refuses_240 (by decide) ?_
  refine kgo_i (kc_SW (As := [.ref (ad 0 0), .int 2, .int 2147483647, .int 0, .int 1, .int 0]) (rest := []) S hE hS hAb (ax_setDown1 ε l hw (cpx_setDown1 ε l hw hB hst (x := 2147483647) (y := 0) (z := 1) (Or.inr (kmx _)))) (vx_cwSW 6 hts gL_refuses_L_act rfl rfl rfl (by decide +kernel) ⟨Nat.le_of_ble_eq_true rfl, Nat.le_of_ble_eq_true rfl⟩) rfl hl.1 rfl (Nat.le_of_ble_eq_true rfl) dL_refuses_241 ⟨Nat.le_of_ble_eq_true rfl, Nat.le_of_ble_eq_true rfl⟩) hS (fun _ h => h) (fun r9 H1 locs e9 hz1 hq hS => ?_)
  have hw := hw.keep (fun k j hk => hq _ (va_at.lt (hw.1 k j hk).1) (fun h => h))
  clear hq hz1
  refine kr_room (c1 := 70) (s1 := 420) rfl rfl ?_
  refine kr_top e9 ?_
  refine lv_bipush (v := -41) hx hb dL_refuses_244 (by decide) ?_
  refine lv_icmp_ne (tgt := 446) hx hb dL_refuses_246 (by decide) (fun hc => absurd (by decide) hc) (fun _ => ?_)
  refine lv_aload_n hx hb dL_refuses_249 rfl (lv_at hl 5 rfl) ?_
  refine lv_iconst (v := 2) hx hb dL_refuses_250 (by decide) ?_
  refine lv_iconst (v := 0) hx hb dL_refuses_251 (by decide) ?_
  refine lv_iload hx hb dL_refuses_252 (lv_at hl 3 rfl) ?_
  refine lv_iconst (v := 1) hx hb dL_refuses_254 (by decide) ?_
  refine lv_iconst (v := 0) hx hb dL_refuses_255 (by decide) ?_
  refine kgo_i (kc_SW (As := [.ref (ad 0 0), .int 2, .int (nI 0), .int 2147483647, .int 1, .int 0]) (rest := []) S hE hS hAb (ax_setDown1 ε l hw (cpx_setDown2 ε l hw hB hst (i := 0) (y := 2147483647) (z := 1) h2 (Or.inr (kmx _)))) (vx_cwSW 6 hts gL_refuses_L_act rfl rfl rfl (by decide +kernel) ⟨Nat.le_of_ble_eq_true rfl, Nat.le_of_ble_eq_true rfl⟩) rfl hl.1 rfl (Nat.le_of_ble_eq_true rfl) dL_refuses_256 ⟨Nat.le_of_ble_eq_true rfl, Nat.le_of_ble_eq_true rfl⟩) hS (fun _ h => h) (fun r9 H1 locs e9 hz1 hq hS => ?_)
  have hw := hw.keep (fun k j hk => hq _ (va_at.lt (hw.1 k j hk).1) (fun h => h))
  clear hq hz1
  refine kr_room (c1 := 71) (s1 := 426) rfl rfl ?_
  refine kr_top e9 ?_
  refine lv_bipush (v := -41) hx hb dL_refuses_259 (by decide) ?_
  refine lv_icmp_ne (tgt := 446) hx hb dL_refuses_261 (by decide) (fun hc => absurd (by decide) hc) (fun _ => ?_)
  refine lv_aload_n hx hb dL_refuses_264 rfl (lv_at hl 5 rfl) ?_
  refine lv_iconst (v := 3) hx hb dL_refuses_265 (by decide) ?_
  refine lv_iload hx hb dL_refuses_266 (lv_at hl 3 rfl) ?_
  refine lv_iconst (v := 1) hx hb dL_refuses_268 (by decide) ?_
  refine lv_iconst (v := 0) hx hb dL_refuses_269 (by decide) ?_
  refine lv_iconst (v := 0) hx hb dL_refuses_270 (by decide) ?_
  refine kgo_i (kc_SW (As := [.ref (ad 0 0), .int 3, .int 2147483647, .int 1, .int 0, .int 0]) (rest := []) S hE hS hAb (ax_setCut1 ε l hw (cpx_setCut ε l hw hB hst (x := 2147483647) (y := 1) (Or.inr (kmx _)))) (vx_cwSW 6 hts gL_refuses_L_act rfl rfl rfl (by decide +kernel) ⟨Nat.le_of_ble_eq_true rfl, Nat.le_of_ble_eq_true rfl⟩) rfl hl.1 rfl (Nat.le_of_ble_eq_true rfl) dL_refuses_271 ⟨Nat.le_of_ble_eq_true rfl, Nat.le_of_ble_eq_true rfl⟩) hS (fun _ h => h) (fun r9 H1 locs e9 hz1 hq hS => ?_)
  have hw := hw.keep (fun k j hk => hq _ (va_at.lt (hw.1 k j hk).1) (fun h => h))
  clear hq hz1
  refine kr_room (c1 := 72) (s1 := 432) rfl rfl ?_
  refine kr_top e9 ?_
  refine lv_bipush (v := -41) hx hb dL_refuses_274 (by decide) ?_
  refine lv_icmp_ne (tgt := 446) hx hb dL_refuses_276 (by decide) (fun hc => absurd (by decide) hc) (fun _ => ?_)
  refine lv_aload_n hx hb dL_refuses_279 rfl (lv_at hl 5 rfl) ?_
  refine lv_iconst (v := 4) hx hb dL_refuses_280 (by decide) ?_
  refine lv_iload hx hb dL_refuses_281 (lv_at hl 2 rfl) ?_
  refine lv_iconst (v := 0) hx hb dL_refuses_283 (by decide) ?_
  refine lv_iconst (v := 0) hx hb dL_refuses_284 (by decide) ?_
  refine lv_iconst (v := 0) hx hb dL_refuses_285 (by decide) ?_
  refine kgo_i (kc_SW (As := [.ref (ad 0 0), .int 4, .int 2147483647, .int 0, .int 0, .int 0]) (rest := []) S hE hS hAb (ax_setQuorum1 ε l hw (cpx_setQuorum1 ε l hw hB hst (x := 2147483647) (y := 0) (Or.inr (kmx _)))) (vx_cwSW 6 hts gL_refuses_L_act rfl rfl rfl (by decide +kernel) ⟨Nat.le_of_ble_eq_true rfl, Nat.le_of_ble_eq_true rfl⟩) rfl hl.1 rfl (Nat.le_of_ble_eq_true rfl) dL_refuses_286 ⟨Nat.le_of_ble_eq_true rfl, Nat.le_of_ble_eq_true rfl⟩) hS (fun _ h => h) (fun r9 H1 locs e9 hz1 hq hS => ?_)
  have hw := hw.keep (fun k j hk => hq _ (va_at.lt (hw.1 k j hk).1) (fun h => h))
  clear hq hz1
  refine kr_room (c1 := 73) (s1 := 438) rfl rfl ?_
  refine kr_top e9 ?_
  refine lv_bipush (v := -41) hx hb dL_refuses_289 (by decide) ?_
  refine lv_icmp_ne (tgt := 446) hx hb dL_refuses_291 (by decide) (fun hc => absurd (by decide) hc) (fun _ => ?_)
  refine lv_aload_n hx hb dL_refuses_294 rfl (lv_at hl 5 rfl) ?_
  refine lv_iconst (v := 4) hx hb dL_refuses_295 (by decide) ?_
  refine lv_iconst (v := 0) hx hb dL_refuses_296 (by decide) ?_
  refine lv_iload hx hb dL_refuses_297 (lv_at hl 12 rfl) ?_
  refine lv_iconst (v := 1) hx hb dL_refuses_299 (by decide) ?_
  refine lv_icmp_ne (tgt := 308) hx hb dL_refuses_300 (by decide) (fun _ => ?_) (fun hc => absurd hc (by decide))
  refine lv_iload hx hb dL_refuses_308 (lv_at hl 1 rfl) ?_
  refine lv_iconst (v := 0) hx hb dL_refuses_310 (by decide) ?_
  refine lv_iconst (v := 0) hx hb dL_refuses_311 (by decide) ?_
  refine kgo_i (kc_SW (As := [.ref (ad 0 0), .int 4, .int (nI 0), .int 2147483647, .int 0, .int 0]) (rest := []) S hE hS hAb (ax_setQuorum2 ε l hw (cpx_setQuorum2 ε l hw hB hst (i := 0) (y := 2147483647) h2 (by decide +kernel))) (vx_cwSW 6 hts gL_refuses_L_act rfl rfl rfl (by decide +kernel) ⟨Nat.le_of_ble_eq_true rfl, Nat.le_of_ble_eq_true rfl⟩) rfl hl.1 rfl (Nat.le_of_ble_eq_true rfl) dL_refuses_312 ⟨Nat.le_of_ble_eq_true rfl, Nat.le_of_ble_eq_true rfl⟩) hS (fun _ h => h) (fun r9 H1 locs e9 hz1 hq hS => ?_)
  have hw := hw.keep (fun k j hk => hq _ (va_at.lt (hw.1 k j hk).1) (fun h => h))
  clear hq hz1
  refine kr_room (c1 := 74) (s1 := 444) rfl rfl ?_
  refine kr_top e9 ?_
  refine lv_bipush (v := -42) hx hb dL_refuses_315 (by decide) ?_
  refine lv_icmp_ne (tgt := 446) hx hb dL_refuses_317 (by decide) (fun hc => absurd (by decide) hc) (fun _ => ?_)
  refine lv_aload_n hx hb dL_refuses_320 rfl (lv_at hl 5 rfl) ?_
  refine lv_iconst (v := 5) hx hb dL_refuses_321 (by decide) ?_
  refine lv_iload hx hb dL_refuses_322 (lv_at hl 2 rfl) ?_
  refine lv_iconst (v := -1) hx hb dL_refuses_324 (by decide) ?_
  refine lv_iconst (v := 0) hx hb dL_refuses_325 (by decide) ?_
  refine lv_iconst (v := 0) hx hb dL_refuses_326 (by decide) ?_
  refine kgo_i (kc_SW (As := [.ref (ad 0 0), .int 5, .int 2147483647, .int (-1), .int 0, .int 0]) (rest := []) S hE hS hAb (ax_addWindow1 ε l hw (cpx_addWindow1 ε l hw hB hst (x := 2147483647) (x2 := (-1)) (x3 := 0) (Or.inr (kmx _)))) (vx_cwSW 6 hts gL_refuses_L_act rfl rfl rfl (by decide +kernel) ⟨Nat.le_of_ble_eq_true rfl, Nat.le_of_ble_eq_true rfl⟩) rfl hl.1 rfl (Nat.le_of_ble_eq_true rfl) dL_refuses_327 ⟨Nat.le_of_ble_eq_true rfl, Nat.le_of_ble_eq_true rfl⟩) hS (fun _ h => h) (fun r9 H1 locs e9 hz1 hq hS => ?_)
  have hw := hw.keep (fun k j hk => hq _ (va_at.lt (hw.1 k j hk).1) (fun h => h))
  clear hq hz1
  refine kr_room (c1 := 75) (s1 := 450) rfl rfl ?_
  refine kr_top e9 ?_
  refine lv_bipush (v := -41) hx hb dL_refuses_330 (by decide) ?_
  refine lv_icmp_ne (tgt := 446) hx hb dL_refuses_332 (by decide) (fun hc => absurd (by decide) hc) (fun _ => ?_)
  refine lv_aload_n hx hb dL_refuses_335 rfl (lv_at hl 5 rfl) ?_
  refine lv_iconst (v := 5) hx hb dL_refuses_336 (by decide) ?_
  refine lv_iconst (v := 0) hx hb dL_refuses_337 (by decide) ?_
  refine lv_iload hx hb dL_refuses_338 (lv_at hl 12 rfl) ?_
  refine lv_iconst (v := 1) hx hb dL_refuses_340 (by decide) ?_
  refine lv_icmp_ne (tgt := 349) hx hb dL_refuses_341 (by decide) (fun _ => ?_) (fun hc => absurd hc (by decide))
  refine lv_iload hx hb dL_refuses_349 (lv_at hl 4 rfl) ?_
  refine lv_iconst (v := 1) hx hb dL_refuses_351 (by decide) ?_
  refine lv_iconst (v := 0) hx hb dL_refuses_352 (by decide) ?_
  refine kgo_i (kc_SW (As := [.ref (ad 0 0), .int 5, .int (nI 0), .int 2147483647, .int 1, .int 0]) (rest := []) S hE hS hAb (ax_addWindow2 ε l hw (cpx_addWindow2 ε l hw hB hst (i := 0) (x2 := 2147483647) (x3 := 1) h2 (by decide +kernel))) (vx_cwSW 6 hts gL_refuses_L_act rfl rfl rfl (by decide +kernel) ⟨Nat.le_of_ble_eq_true rfl, Nat.le_of_ble_eq_true rfl⟩) rfl hl.1 rfl (Nat.le_of_ble_eq_true rfl) dL_refuses_353 ⟨Nat.le_of_ble_eq_true rfl, Nat.le_of_ble_eq_true rfl⟩) hS (fun _ h => h) (fun r9 H1 locs e9 hz1 hq hS => ?_)
  have hw := hw.keep (fun k j hk => hq _ (va_at.lt (hw.1 k j hk).1) (fun h => h))
  clear hq hz1
  refine kr_room (c1 := 76) (s1 := 456) rfl rfl ?_
  refine kr_top e9 ?_
  refine lv_bipush (v := -42) hx hb dL_refuses_356 (by decide) ?_
  refine lv_icmp_ne (tgt := 446) hx hb dL_refuses_358 (by decide) (fun hc => absurd (by decide) hc) (fun _ => ?_)
  refine lv_aload_n hx hb dL_refuses_361 rfl (lv_at hl 5 rfl) ?_
  refine lv_iconst (v := 5) hx hb dL_refuses_362 (by decide) ?_
  refine lv_iconst (v := 0) hx hb dL_refuses_363 (by decide) ?_
  refine lv_iconst (v := 0) hx hb dL_refuses_364 (by decide) ?_
  refine lv_iload hx hb dL_refuses_365 (lv_at hl 12 rfl) ?_
  refine lv_iconst (v := 1) hx hb dL_refuses_367 (by decide) ?_
  refine lv_icmp_ne (tgt := 377) hx hb dL_refuses_368 (by decide) (fun _ => ?_) (fun hc => absurd hc (by decide))
  refine lv_iload hx hb dL_refuses_377 (lv_at hl 1 rfl) ?_
  refine lv_iconst (v := 0) hx hb dL_refuses_379 (by decide) ?_
  refine kgo_i (kc_SW (As := [.ref (ad 0 0), .int 5, .int (nI 0), .int 0, .int 2147483647, .int 0]) (rest := []) S hE hS hAb (ax_addWindow2 ε l hw (cpx_addWindow3 ε l hw hB hst (i := 0) (x2 := 0) (x3 := 2147483647) h2 (by decide +kernel) (by decide +kernel) (by decide +kernel))) (vx_cwSW 6 hts gL_refuses_L_act rfl rfl rfl (by decide +kernel) ⟨Nat.le_of_ble_eq_true rfl, Nat.le_of_ble_eq_true rfl⟩) rfl hl.1 rfl (Nat.le_of_ble_eq_true rfl) dL_refuses_380 ⟨Nat.le_of_ble_eq_true rfl, Nat.le_of_ble_eq_true rfl⟩) hS (fun _ h => h) (fun r9 H1 locs e9 hz1 hq hS => ?_)
  have hw := hw.keep (fun k j hk => hq _ (va_at.lt (hw.1 k j hk).1) (fun h => h))
  clear hq hz1
  refine kr_room (c1 := 77) (s1 := 462) rfl rfl ?_
  refine kr_top e9 ?_
  refine lv_bipush (v := -42) hx hb dL_refuses_383 (by decide) ?_
  refine lv_icmp_ne (tgt := 446) hx hb dL_refuses_385 (by decide) (fun hc => absurd (by decide) hc) (fun _ => ?_)
  refine lv_aload_n hx hb dL_refuses_388 rfl (lv_at hl 5 rfl) ?_
  refine lv_bipush (v := 6) hx hb dL_refuses_389 (by decide) ?_
  refine lv_iload hx hb dL_refuses_391 (lv_at hl 12 rfl) ?_
  refine lv_iconst (v := 1) hx hb dL_refuses_393 (by decide) ?_
  refine lv_icmp_ne (tgt := 401) hx hb dL_refuses_394 (by decide) (fun _ => ?_) (fun hc => absurd hc (by decide))
  refine lv_iload hx hb dL_refuses_401 (lv_at hl 4 rfl) ?_
  refine lv_iconst (v := 0) hx hb dL_refuses_403 (by decide) ?_
  refine lv_iconst (v := 0) hx hb dL_refuses_404 (by decide) ?_
  refine lv_iconst (v := 0) hx hb dL_refuses_405 (by decide) ?_
  refine kgo_i (kc_SW (As := [.ref (ad 0 0), .int 6, .int 2147483647, .int 0, .int 0, .int 0]) (rest := []) S hE hS hAb (ax_endWindow1 ε l hw (cpx_endWindow ε l hw hB hst (x := 2147483647) (Or.inr (kmx _)))) (vx_cwSW 6 hts gL_refuses_L_act rfl rfl rfl (by decide +kernel) ⟨Nat.le_of_ble_eq_true rfl, Nat.le_of_ble_eq_true rfl⟩) rfl hl.1 rfl (Nat.le_of_ble_eq_true rfl) dL_refuses_406 ⟨Nat.le_of_ble_eq_true rfl, Nat.le_of_ble_eq_true rfl⟩) hS (fun _ h => h) (fun r9 H1 locs e9 hz1 hq hS => ?_)
  have hw := hw.keep (fun k j hk => hq _ (va_at.lt (hw.1 k j hk).1) (fun h => h))
  clear hq hz1
  refine kr_room (c1 := 78) (s1 := 468) rfl rfl ?_
  refine kr_top e9 ?_
  refine lv_bipush (v := -41) hx hb dL_refuses_409 (by decide) ?_
  refine lv_icmp_ne (tgt := 446) hx hb dL_refuses_411 (by decide) (fun hc => absurd (by decide) hc) (fun _ => ?_)
  refine lv_aload_n hx hb dL_refuses_414 rfl (lv_at hl 5 rfl) ?_
  refine lv_bipush (v := 7) hx hb dL_refuses_415 (by decide) ?_
  refine lv_iload hx hb dL_refuses_417 (lv_at hl 12 rfl) ?_
  refine lv_iconst (v := 1) hx hb dL_refuses_419 (by decide) ?_
  refine lv_icmp_ne (tgt := 429) hx hb dL_refuses_420 (by decide) (fun _ => ?_) (fun hc => absurd hc (by decide))
  refine lv_iload hx hb dL_refuses_429 (lv_at hl 1 rfl) ?_
  refine lv_iconst (v := 0) hx hb dL_refuses_431 (by decide) ?_
  refine lv_iconst (v := 0) hx hb dL_refuses_432 (by decide) ?_
  refine lv_iconst (v := 0) hx hb dL_refuses_433 (by decide) ?_
  refine kgo_i (kc_SW (As := [.ref (ad 0 0), .int 7, .int 2147483647, .int 0, .int 0, .int 0]) (rest := []) S hE hS hAb (ax_pass2 ε l hw (cpx_pass ε l hw hB hst (x := 2147483647) (by decide +kernel))) (vx_cwSW 6 hts gL_refuses_L_act rfl rfl rfl (by decide +kernel) ⟨Nat.le_of_ble_eq_true rfl, Nat.le_of_ble_eq_true rfl⟩) rfl hl.1 rfl (Nat.le_of_ble_eq_true rfl) dL_refuses_434 ⟨Nat.le_of_ble_eq_true rfl, Nat.le_of_ble_eq_true rfl⟩) hS (fun _ h => h) (fun r9 H1 locs e9 hz1 hq hS => ?_)
  have hw := hw.keep (fun k j hk => hq _ (va_at.lt (hw.1 k j hk).1) (fun h => h))
  clear hq hz1
  refine kr_room (c1 := 79) (s1 := 474) rfl rfl ?_
  refine kr_top e9 ?_
  refine lv_bipush (v := -42) hx hb dL_refuses_437 (by decide) ?_
  refine lv_icmp_ne (tgt := 446) hx hb dL_refuses_439 (by decide) (fun hc => absurd (by decide) hc) (fun _ => ?_)
  refine lv_iconst (v := 1) hx hb dL_refuses_442 (by decide) ?_
  refine lv_goto (tgt := 447) hx hb dL_refuses_443 (by decide) ?_
  refine lv_istore (lv' := [(12, .int 1), (11, .int 2147483647), (10, .int 2147483647), (9, .int 2147483647), (8, .int 2147483647), (0, .ref (ad 0 0)), (1, .int (nI (σ 1 0))), (2, .int (nI (σ 2 0))), (3, .int (nI (σ 3 0))), (4, .int (nI (σ 0 0))), (5, .int (nI (σ 4 0))), (6, .int 2147483647), (7, .int 2)]) hx hb dL_refuses_447 hl (by decide) rfl (fun ls hl => ?_)
  refine lv_bipush (v := 8) hx hb dL_refuses_449 (by decide) ?_
  refine lv_istore (lv' := [(13, .int 8), (12, .int 1), (11, .int 2147483647), (10, .int 2147483647), (9, .int 2147483647), (8, .int 2147483647), (0, .ref (ad 0 0)), (1, .int (nI (σ 1 0))), (2, .int (nI (σ 2 0))), (3, .int (nI (σ 3 0))), (4, .int (nI (σ 0 0))), (5, .int (nI (σ 4 0))), (6, .int 2147483647), (7, .int 2)]) hx hb dL_refuses_451 hl (by decide) rfl (fun ls hl => ?_)
  refine lv_iload hx hb dL_refuses_453 (lv_at hl 0 rfl) ?_
  refine lv_bipush (v := 13) hx hb dL_refuses_455 (by decide) ?_
  refine lv_icmp_ge (tgt := 494) hx hb dL_refuses_457 (by decide) (fun hc => absurd hc (by decide)) (fun _ => ?_)
  refine lv_iload hx hb dL_refuses_460 (lv_at hl 1 rfl) ?_
  refine lv_if_eq (tgt := 485) hx hb dL_refuses_462 (by decide) (fun hc => absurd hc (by decide)) (fun _ => ?_)
  refine lv_aload_n hx hb dL_refuses_465 rfl (lv_at hl 6 rfl) ?_
  refine lv_iload hx hb dL_refuses_466 (lv_at hl 0 rfl) ?_
  refine lv_iload hx hb dL_refuses_468 (lv_at hl 3 rfl) ?_
  refine lv_iconst (v := 0) hx hb dL_refuses_470 (by decide) ?_
  refine lv_iconst (v := 0) hx hb dL_refuses_471 (by decide) ?_
  refine lv_iconst (v := 0) hx hb dL_refuses_472 (by decide) ?_
  refine kgo_i (kc_SW (As := [.ref (ad 0 0), .int 8, .int 2147483647, .int 0, .int 0, .int 0]) (rest := []) S hE hS hAb (ax_failing1 ε l hw (cpx_failing ε l hw hB hst (x := 2147483647) (Or.inr (kmx _)))) (vx_cwSW 6 hts gL_refuses_L_act rfl rfl rfl (by decide +kernel) ⟨Nat.le_of_ble_eq_true rfl, Nat.le_of_ble_eq_true rfl⟩) rfl hl.1 rfl (Nat.le_of_ble_eq_true rfl) dL_refuses_473 ⟨Nat.le_of_ble_eq_true rfl, Nat.le_of_ble_eq_true rfl⟩) hS (fun _ h => h) (fun r9 H1 locs e9 hz1 hq hS => ?_)
  have hw := hw.keep (fun k j hk => hq _ (va_at.lt (hw.1 k j hk).1) (fun h => h))
  clear hq hz1
  refine kr_room (c1 := 80) (s1 := 480) rfl rfl ?_
  refine kr_top e9 ?_
  refine lv_bipush (v := -41) hx hb dL_refuses_476 (by decide) ?_
  refine lv_icmp_ne (tgt := 485) hx hb dL_refuses_478 (by decide) (fun hc => absurd (by decide) hc) (fun _ => ?_)
  refine lv_iconst (v := 1) hx hb dL_refuses_481 (by decide) ?_
  refine lv_goto (tgt := 486) hx hb dL_refuses_482 (by decide) ?_
  refine lv_istore (lv' := [(12, .int 1), (13, .int 8), (11, .int 2147483647), (10, .int 2147483647), (9, .int 2147483647), (8, .int 2147483647), (0, .ref (ad 0 0)), (1, .int (nI (σ 1 0))), (2, .int (nI (σ 2 0))), (3, .int (nI (σ 3 0))), (4, .int (nI (σ 0 0))), (5, .int (nI (σ 4 0))), (6, .int 2147483647), (7, .int 2)]) hx hb dL_refuses_486 hl (by decide) rfl (fun ls hl => ?_)
  refine lv_iinc (v := 9) (lv' := [(13, .int 9), (12, .int 1), (11, .int 2147483647), (10, .int 2147483647), (9, .int 2147483647), (8, .int 2147483647), (0, .ref (ad 0 0)), (1, .int (nI (σ 1 0))), (2, .int (nI (σ 2 0))), (3, .int (nI (σ 3 0))), (4, .int (nI (σ 0 0))), (5, .int (nI (σ 4 0))), (6, .int 2147483647), (7, .int 2)]) hx hb dL_refuses_488 hl (k := 1) rfl (by decide) (by decide) rfl (fun ls hl => ?_)
  refine lv_goto (tgt := 453) hx hb dL_refuses_491 (by decide) ?_
  refine lv_iload hx hb dL_refuses_453 (lv_at hl 0 rfl) ?_
  refine lv_bipush (v := 13) hx hb dL_refuses_455 (by decide) ?_
  refine lv_icmp_ge (tgt := 494) hx hb dL_refuses_457 (by decide) (fun hc => absurd hc (by decide)) (fun _ => ?_)
  refine lv_iload hx hb dL_refuses_460 (lv_at hl 1 rfl) ?_
  refine lv_if_eq (tgt := 485) hx hb dL_refuses_462 (by decide) (fun hc => absurd hc (by decide)) (fun _ => ?_)
  refine lv_aload_n hx hb dL_refuses_465 rfl (lv_at hl 6 rfl) ?_
  refine lv_iload hx hb dL_refuses_466 (lv_at hl 0 rfl) ?_
  refine lv_iload hx hb dL_refuses_468 (lv_at hl 3 rfl) ?_
  refine lv_iconst (v := 0) hx hb dL_refuses_470 (by decide) ?_
  refine lv_iconst (v := 0) hx hb dL_refuses_471 (by decide) ?_
  refine lv_iconst (v := 0) hx hb dL_refuses_472 (by decide) ?_
  refine kgo_i (kc_SW (As := [.ref (ad 0 0), .int 9, .int 2147483647, .int 0, .int 0, .int 0]) (rest := []) S hE hS hAb (ax_verdict1 ε l hw (cpx_verdict ε l hw hB hst (x := 2147483647) (Or.inr (kmx _)))) (vx_cwSW 6 hts gL_refuses_L_act rfl rfl rfl (by decide +kernel) ⟨Nat.le_of_ble_eq_true rfl, Nat.le_of_ble_eq_true rfl⟩) rfl hl.1 rfl (Nat.le_of_ble_eq_true rfl) dL_refuses_473 ⟨Nat.le_of_ble_eq_true rfl, Nat.le_of_ble_eq_true rfl⟩) hS (fun _ h => h) (fun r9 H1 locs e9 hz1 hq hS => ?_)
  have hw := hw.keep (fun k j hk => hq _ (va_at.lt (hw.1 k j hk).1) (fun h => h))
  clear hq hz1
  refine kr_room (c1 := 81) (s1 := 486) rfl rfl ?_
  refine kr_top e9 ?_
  refine lv_bipush (v := -41) hx hb dL_refuses_476 (by decide) ?_
  refine lv_icmp_ne (tgt := 485) hx hb dL_refuses_478 (by decide) (fun hc => absurd (by decide) hc) (fun _ => ?_)
  refine lv_iconst (v := 1) hx hb dL_refuses_481 (by decide) ?_
  refine lv_goto (tgt := 486) hx hb dL_refuses_482 (by decide) ?_
  refine lv_istore (lv' := [(12, .int 1), (13, .int 9), (11, .int 2147483647), (10, .int 2147483647), (9, .int 2147483647), (8, .int 2147483647), (0, .ref (ad 0 0)), (1, .int (nI (σ 1 0))), (2, .int (nI (σ 2 0))), (3, .int (nI (σ 3 0))), (4, .int (nI (σ 0 0))), (5, .int (nI (σ 4 0))), (6, .int 2147483647), (7, .int 2)]) hx hb dL_refuses_486 hl (by decide) rfl (fun ls hl => ?_)
  refine lv_iinc (v := 10) (lv' := [(13, .int 10), (12, .int 1), (11, .int 2147483647), (10, .int 2147483647), (9, .int 2147483647), (8, .int 2147483647), (0, .ref (ad 0 0)), (1, .int (nI (σ 1 0))), (2, .int (nI (σ 2 0))), (3, .int (nI (σ 3 0))), (4, .int (nI (σ 0 0))), (5, .int (nI (σ 4 0))), (6, .int 2147483647), (7, .int 2)]) hx hb dL_refuses_488 hl (k := 1) rfl (by decide) (by decide) rfl (fun ls hl => ?_)
  refine lv_goto (tgt := 453) hx hb dL_refuses_491 (by decide) ?_
  refine lv_iload hx hb dL_refuses_453 (lv_at hl 0 rfl) ?_
  refine lv_bipush (v := 13) hx hb dL_refuses_455 (by decide) ?_
  refine lv_icmp_ge (tgt := 494) hx hb dL_refuses_457 (by decide) (fun hc => absurd hc (by decide)) (fun _ => ?_)
  refine lv_iload hx hb dL_refuses_460 (lv_at hl 1 rfl) ?_
  refine lv_if_eq (tgt := 485) hx hb dL_refuses_462 (by decide) (fun hc => absurd hc (by decide)) (fun _ => ?_)
  refine lv_aload_n hx hb dL_refuses_465 rfl (lv_at hl 6 rfl) ?_
  refine lv_iload hx hb dL_refuses_466 (lv_at hl 0 rfl) ?_
  refine lv_iload hx hb dL_refuses_468 (lv_at hl 3 rfl) ?_
  refine lv_iconst (v := 0) hx hb dL_refuses_470 (by decide) ?_
  refine lv_iconst (v := 0) hx hb dL_refuses_471 (by decide) ?_
  refine lv_iconst (v := 0) hx hb dL_refuses_472 (by decide) ?_
  refine kgo_i (kc_SW (As := [.ref (ad 0 0), .int 10, .int 2147483647, .int 0, .int 0, .int 0]) (rest := []) S hE hS hAb (ax_trusted1 ε l hw (cpx_trusted ε l hw hB hst (x := 2147483647) (Or.inr (kmx _)))) (vx_cwSW 6 hts gL_refuses_L_act rfl rfl rfl (by decide +kernel) ⟨Nat.le_of_ble_eq_true rfl, Nat.le_of_ble_eq_true rfl⟩) rfl hl.1 rfl (Nat.le_of_ble_eq_true rfl) dL_refuses_473 ⟨Nat.le_of_ble_eq_true rfl, Nat.le_of_ble_eq_true rfl⟩) hS (fun _ h => h) (fun r9 H1 locs e9 hz1 hq hS => ?_)
  have hw := hw.keep (fun k j hk => hq _ (va_at.lt (hw.1 k j hk).1) (fun h => h))
  clear hq hz1
  refine kr_room (c1 := 82) (s1 := 492) rfl rfl ?_
  refine kr_top e9 ?_
  refine lv_bipush (v := -41) hx hb dL_refuses_476 (by decide) ?_
  refine lv_icmp_ne (tgt := 485) hx hb dL_refuses_478 (by decide) (fun hc => absurd (by decide) hc) (fun _ => ?_)
  refine lv_iconst (v := 1) hx hb dL_refuses_481 (by decide) ?_
  refine lv_goto (tgt := 486) hx hb dL_refuses_482 (by decide) ?_
  refine lv_istore (lv' := [(12, .int 1), (13, .int 10), (11, .int 2147483647), (10, .int 2147483647), (9, .int 2147483647), (8, .int 2147483647), (0, .ref (ad 0 0)), (1, .int (nI (σ 1 0))), (2, .int (nI (σ 2 0))), (3, .int (nI (σ 3 0))), (4, .int (nI (σ 0 0))), (5, .int (nI (σ 4 0))), (6, .int 2147483647), (7, .int 2)]) hx hb dL_refuses_486 hl (by decide) rfl (fun ls hl => ?_)
  refine lv_iinc (v := 11) (lv' := [(13, .int 11), (12, .int 1), (11, .int 2147483647), (10, .int 2147483647), (9, .int 2147483647), (8, .int 2147483647), (0, .ref (ad 0 0)), (1, .int (nI (σ 1 0))), (2, .int (nI (σ 2 0))), (3, .int (nI (σ 3 0))), (4, .int (nI (σ 0 0))), (5, .int (nI (σ 4 0))), (6, .int 2147483647), (7, .int 2)]) hx hb dL_refuses_488 hl (k := 1) rfl (by decide) (by decide) rfl (fun ls hl => ?_)
  refine lv_goto (tgt := 453) hx hb dL_refuses_491 (by decide) ?_
  refine lv_iload hx hb dL_refuses_453 (lv_at hl 0 rfl) ?_
  refine lv_bipush (v := 13) hx hb dL_refuses_455 (by decide) ?_
  refine lv_icmp_ge (tgt := 494) hx hb dL_refuses_457 (by decide) (fun hc => absurd hc (by decide)) (fun _ => ?_)
  refine lv_iload hx hb dL_refuses_460 (lv_at hl 1 rfl) ?_
  refine lv_if_eq (tgt := 485) hx hb dL_refuses_462 (by decide) (fun hc => absurd hc (by decide)) (fun _ => ?_)
  refine lv_aload_n hx hb dL_refuses_465 rfl (lv_at hl 6 rfl) ?_
  refine lv_iload hx hb dL_refuses_466 (lv_at hl 0 rfl) ?_
  refine lv_iload hx hb dL_refuses_468 (lv_at hl 3 rfl) ?_
  refine lv_iconst (v := 0) hx hb dL_refuses_470 (by decide) ?_
  refine lv_iconst (v := 0) hx hb dL_refuses_471 (by decide) ?_
  refine lv_iconst (v := 0) hx hb dL_refuses_472 (by decide) ?_
  refine kgo_i (kc_SW (As := [.ref (ad 0 0), .int 11, .int 2147483647, .int 0, .int 0, .int 0]) (rest := []) S hE hS hAb (ax_hasAlarm1 ε l hw (cpx_hasAlarm ε l hw hB hst (x := 2147483647) (Or.inr (kmx _)))) (vx_cwSW 6 hts gL_refuses_L_act rfl rfl rfl (by decide +kernel) ⟨Nat.le_of_ble_eq_true rfl, Nat.le_of_ble_eq_true rfl⟩) rfl hl.1 rfl (Nat.le_of_ble_eq_true rfl) dL_refuses_473 ⟨Nat.le_of_ble_eq_true rfl, Nat.le_of_ble_eq_true rfl⟩) hS (fun _ h => h) (fun r9 H1 locs e9 hz1 hq hS => ?_)
  have hw := hw.keep (fun k j hk => hq _ (va_at.lt (hw.1 k j hk).1) (fun h => h))
  clear hq hz1
  refine kr_room (c1 := 83) (s1 := 498) rfl rfl ?_
  refine kr_top e9 ?_
  refine lv_bipush (v := -41) hx hb dL_refuses_476 (by decide) ?_
  refine lv_icmp_ne (tgt := 485) hx hb dL_refuses_478 (by decide) (fun hc => absurd (by decide) hc) (fun _ => ?_)
  refine lv_iconst (v := 1) hx hb dL_refuses_481 (by decide) ?_
  refine lv_goto (tgt := 486) hx hb dL_refuses_482 (by decide) ?_
  refine lv_istore (lv' := [(12, .int 1), (13, .int 11), (11, .int 2147483647), (10, .int 2147483647), (9, .int 2147483647), (8, .int 2147483647), (0, .ref (ad 0 0)), (1, .int (nI (σ 1 0))), (2, .int (nI (σ 2 0))), (3, .int (nI (σ 3 0))), (4, .int (nI (σ 0 0))), (5, .int (nI (σ 4 0))), (6, .int 2147483647), (7, .int 2)]) hx hb dL_refuses_486 hl (by decide) rfl (fun ls hl => ?_)
  refine lv_iinc (v := 12) (lv' := [(13, .int 12), (12, .int 1), (11, .int 2147483647), (10, .int 2147483647), (9, .int 2147483647), (8, .int 2147483647), (0, .ref (ad 0 0)), (1, .int (nI (σ 1 0))), (2, .int (nI (σ 2 0))), (3, .int (nI (σ 3 0))), (4, .int (nI (σ 0 0))), (5, .int (nI (σ 4 0))), (6, .int 2147483647), (7, .int 2)]) hx hb dL_refuses_488 hl (k := 1) rfl (by decide) (by decide) rfl (fun ls hl => ?_)
  refine lv_goto (tgt := 453) hx hb dL_refuses_491 (by decide) ?_
  refine lv_iload hx hb dL_refuses_453 (lv_at hl 0 rfl) ?_
  refine lv_bipush (v := 13) hx hb dL_refuses_455 (by decide) ?_
  refine lv_icmp_ge (tgt := 494) hx hb dL_refuses_457 (by decide) (fun hc => absurd hc (by decide)) (fun _ => ?_)
  refine lv_iload hx hb dL_refuses_460 (lv_at hl 1 rfl) ?_
  refine lv_if_eq (tgt := 485) hx hb dL_refuses_462 (by decide) (fun hc => absurd hc (by decide)) (fun _ => ?_)
  refine lv_aload_n hx hb dL_refuses_465 rfl (lv_at hl 6 rfl) ?_
  refine lv_iload hx hb dL_refuses_466 (lv_at hl 0 rfl) ?_
  refine lv_iload hx hb dL_refuses_468 (lv_at hl 3 rfl) ?_
  refine lv_iconst (v := 0) hx hb dL_refuses_470 (by decide) ?_
  refine lv_iconst (v := 0) hx hb dL_refuses_471 (by decide) ?_
  refine lv_iconst (v := 0) hx hb dL_refuses_472 (by decide) ?_
  refine kgo_i (kc_SW (As := [.ref (ad 0 0), .int 12, .int 2147483647, .int 0, .int 0, .int 0]) (rest := []) S hE hS hAb (ax_availability1 ε l hw (cpx_availability1 ε l hw hB hst (x := 2147483647) (Or.inr (kmx _)))) (vx_cwSW 6 hts gL_refuses_L_act rfl rfl rfl (by decide +kernel) ⟨Nat.le_of_ble_eq_true rfl, Nat.le_of_ble_eq_true rfl⟩) rfl hl.1 rfl (Nat.le_of_ble_eq_true rfl) dL_refuses_473 ⟨Nat.le_of_ble_eq_true rfl, Nat.le_of_ble_eq_true rfl⟩) hS (fun _ h => h) (fun r9 H1 locs e9 hz1 hq hS => ?_)
  have hw := hw.keep (fun k j hk => hq _ (va_at.lt (hw.1 k j hk).1) (fun h => h))
  clear hq hz1
  refine kr_room (c1 := 84) (s1 := 504) rfl rfl ?_
  refine kr_top e9 ?_
  refine lv_bipush (v := -41) hx hb dL_refuses_476 (by decide) ?_
  refine lv_icmp_ne (tgt := 485) hx hb dL_refuses_478 (by decide) (fun hc => absurd (by decide) hc) (fun _ => ?_)
  refine lv_iconst (v := 1) hx hb dL_refuses_481 (by decide) ?_
  refine lv_goto (tgt := 486) hx hb dL_refuses_482 (by decide) ?_
  refine lv_istore (lv' := [(12, .int 1), (13, .int 12), (11, .int 2147483647), (10, .int 2147483647), (9, .int 2147483647), (8, .int 2147483647), (0, .ref (ad 0 0)), (1, .int (nI (σ 1 0))), (2, .int (nI (σ 2 0))), (3, .int (nI (σ 3 0))), (4, .int (nI (σ 0 0))), (5, .int (nI (σ 4 0))), (6, .int 2147483647), (7, .int 2)]) hx hb dL_refuses_486 hl (by decide) rfl (fun ls hl => ?_)
  refine lv_iinc (v := 13) (lv' := [(13, .int 13), (12, .int 1), (11, .int 2147483647), (10, .int 2147483647), (9, .int 2147483647), (8, .int 2147483647), (0, .ref (ad 0 0)), (1, .int (nI (σ 1 0))), (2, .int (nI (σ 2 0))), (3, .int (nI (σ 3 0))), (4, .int (nI (σ 0 0))), (5, .int (nI (σ 4 0))), (6, .int 2147483647), (7, .int 2)]) hx hb dL_refuses_488 hl (k := 1) rfl (by decide) (by decide) rfl (fun ls hl => ?_)
  refine lv_goto (tgt := 453) hx hb dL_refuses_491 (by decide) ?_
  refine lv_iload hx hb dL_refuses_453 (lv_at hl 0 rfl) ?_
  refine lv_bipush (v := 13) hx hb dL_refuses_455 (by decide) ?_
  refine lv_icmp_ge (tgt := 494) hx hb dL_refuses_457 (by decide) (fun _ => ?_) (fun hc => absurd (by decide) hc)
  refine lv_bipush (v := 13) hx hb dL_refuses_494 (by decide) ?_
  refine lv_istore (lv' := [(13, .int 13), (12, .int 1), (11, .int 2147483647), (10, .int 2147483647), (9, .int 2147483647), (8, .int 2147483647), (0, .ref (ad 0 0)), (1, .int (nI (σ 1 0))), (2, .int (nI (σ 2 0))), (3, .int (nI (σ 3 0))), (4, .int (nI (σ 0 0))), (5, .int (nI (σ 4 0))), (6, .int 2147483647), (7, .int 2)]) hx hb dL_refuses_496 hl (by decide) rfl (fun ls hl => ?_)
  refine lv_iload hx hb dL_refuses_498 (lv_at hl 0 rfl) ?_
  refine lv_bipush (v := 16) hx hb dL_refuses_500 (by decide) ?_
  refine lv_icmp_ge (tgt := 539) hx hb dL_refuses_502 (by decide) (fun hc => absurd hc (by decide)) (fun _ => ?_)
  refine lv_iload hx hb dL_refuses_505 (lv_at hl 1 rfl) ?_
  refine lv_if_eq (tgt := 530) hx hb dL_refuses_507 (by decide) (fun hc => absurd hc (by decide)) (fun _ => ?_)
  refine lv_aload_n hx hb dL_refuses_510 rfl (lv_at hl 6 rfl) ?_
  refine lv_iload hx hb dL_refuses_511 (lv_at hl 0 rfl) ?_
  refine lv_iload hx hb dL_refuses_513 (lv_at hl 4 rfl) ?_
  refine lv_iconst (v := 0) hx hb dL_refuses_515 (by decide) ?_
  refine lv_iconst (v := 0) hx hb dL_refuses_516 (by decide) ?_
  refine lv_iconst (v := 0) hx hb dL_refuses_517 (by decide) ?_
  refine kgo_i (kc_SW (As := [.ref (ad 0 0), .int 13, .int 2147483647, .int 0, .int 0, .int 0]) (rest := []) S hE hS hAb (ax_probes1 ε l hw (cpx_probes ε l hw hB hst (x := 2147483647) (Or.inr (kmx _)))) (vx_cwSW 6 hts gL_refuses_L_act rfl rfl rfl (by decide +kernel) ⟨Nat.le_of_ble_eq_true rfl, Nat.le_of_ble_eq_true rfl⟩) rfl hl.1 rfl (Nat.le_of_ble_eq_true rfl) dL_refuses_518 ⟨Nat.le_of_ble_eq_true rfl, Nat.le_of_ble_eq_true rfl⟩) hS (fun _ h => h) (fun r9 H1 locs e9 hz1 hq hS => ?_)
  have hw := hw.keep (fun k j hk => hq _ (va_at.lt (hw.1 k j hk).1) (fun h => h))
  clear hq hz1
  refine kr_room (c1 := 85) (s1 := 510) rfl rfl ?_
  refine kr_top e9 ?_
  refine lv_bipush (v := -41) hx hb dL_refuses_521 (by decide) ?_
  refine lv_icmp_ne (tgt := 530) hx hb dL_refuses_523 (by decide) (fun hc => absurd (by decide) hc) (fun _ => ?_)
  refine lv_iconst (v := 1) hx hb dL_refuses_526 (by decide) ?_
  refine lv_goto (tgt := 531) hx hb dL_refuses_527 (by decide) ?_
  refine lv_istore (lv' := [(12, .int 1), (13, .int 13), (11, .int 2147483647), (10, .int 2147483647), (9, .int 2147483647), (8, .int 2147483647), (0, .ref (ad 0 0)), (1, .int (nI (σ 1 0))), (2, .int (nI (σ 2 0))), (3, .int (nI (σ 3 0))), (4, .int (nI (σ 0 0))), (5, .int (nI (σ 4 0))), (6, .int 2147483647), (7, .int 2)]) hx hb dL_refuses_531 hl (by decide) rfl (fun ls hl => ?_)
  refine lv_iinc (v := 14) (lv' := [(13, .int 14), (12, .int 1), (11, .int 2147483647), (10, .int 2147483647), (9, .int 2147483647), (8, .int 2147483647), (0, .ref (ad 0 0)), (1, .int (nI (σ 1 0))), (2, .int (nI (σ 2 0))), (3, .int (nI (σ 3 0))), (4, .int (nI (σ 0 0))), (5, .int (nI (σ 4 0))), (6, .int 2147483647), (7, .int 2)]) hx hb dL_refuses_533 hl (k := 1) rfl (by decide) (by decide) rfl (fun ls hl => ?_)
  refine lv_goto (tgt := 498) hx hb dL_refuses_536 (by decide) ?_
  refine lv_iload hx hb dL_refuses_498 (lv_at hl 0 rfl) ?_
  refine lv_bipush (v := 16) hx hb dL_refuses_500 (by decide) ?_
  refine lv_icmp_ge (tgt := 539) hx hb dL_refuses_502 (by decide) (fun hc => absurd hc (by decide)) (fun _ => ?_)
  refine lv_iload hx hb dL_refuses_505 (lv_at hl 1 rfl) ?_
  refine lv_if_eq (tgt := 530) hx hb dL_refuses_507 (by decide) (fun hc => absurd hc (by decide)) (fun _ => ?_)
  refine lv_aload_n hx hb dL_refuses_510 rfl (lv_at hl 6 rfl) ?_
  refine lv_iload hx hb dL_refuses_511 (lv_at hl 0 rfl) ?_
  refine lv_iload hx hb dL_refuses_513 (lv_at hl 4 rfl) ?_
  refine lv_iconst (v := 0) hx hb dL_refuses_515 (by decide) ?_
  refine lv_iconst (v := 0) hx hb dL_refuses_516 (by decide) ?_
  refine lv_iconst (v := 0) hx hb dL_refuses_517 (by decide) ?_
  refine kgo_i (kc_SW (As := [.ref (ad 0 0), .int 14, .int 2147483647, .int 0, .int 0, .int 0]) (rest := []) S hE hS hAb (ax_failures1 ε l hw (cpx_failures ε l hw hB hst (x := 2147483647) (Or.inr (kmx _)))) (vx_cwSW 6 hts gL_refuses_L_act rfl rfl rfl (by decide +kernel) ⟨Nat.le_of_ble_eq_true rfl, Nat.le_of_ble_eq_true rfl⟩) rfl hl.1 rfl (Nat.le_of_ble_eq_true rfl) dL_refuses_518 ⟨Nat.le_of_ble_eq_true rfl, Nat.le_of_ble_eq_true rfl⟩) hS (fun _ h => h) (fun r9 H1 locs e9 hz1 hq hS => ?_)
  have hw := hw.keep (fun k j hk => hq _ (va_at.lt (hw.1 k j hk).1) (fun h => h))
  clear hq hz1
  refine kr_room (c1 := 86) (s1 := 516) rfl rfl ?_
  refine kr_top e9 ?_
  refine lv_bipush (v := -41) hx hb dL_refuses_521 (by decide) ?_
  refine lv_icmp_ne (tgt := 530) hx hb dL_refuses_523 (by decide) (fun hc => absurd (by decide) hc) (fun _ => ?_)
  refine lv_iconst (v := 1) hx hb dL_refuses_526 (by decide) ?_
  refine lv_goto (tgt := 531) hx hb dL_refuses_527 (by decide) ?_
  refine lv_istore (lv' := [(12, .int 1), (13, .int 14), (11, .int 2147483647), (10, .int 2147483647), (9, .int 2147483647), (8, .int 2147483647), (0, .ref (ad 0 0)), (1, .int (nI (σ 1 0))), (2, .int (nI (σ 2 0))), (3, .int (nI (σ 3 0))), (4, .int (nI (σ 0 0))), (5, .int (nI (σ 4 0))), (6, .int 2147483647), (7, .int 2)]) hx hb dL_refuses_531 hl (by decide) rfl (fun ls hl => ?_)
  refine lv_iinc (v := 15) (lv' := [(13, .int 15), (12, .int 1), (11, .int 2147483647), (10, .int 2147483647), (9, .int 2147483647), (8, .int 2147483647), (0, .ref (ad 0 0)), (1, .int (nI (σ 1 0))), (2, .int (nI (σ 2 0))), (3, .int (nI (σ 3 0))), (4, .int (nI (σ 0 0))), (5, .int (nI (σ 4 0))), (6, .int 2147483647), (7, .int 2)]) hx hb dL_refuses_533 hl (k := 1) rfl (by decide) (by decide) rfl (fun ls hl => ?_)
  refine lv_goto (tgt := 498) hx hb dL_refuses_536 (by decide) ?_
  refine lv_iload hx hb dL_refuses_498 (lv_at hl 0 rfl) ?_
  refine lv_bipush (v := 16) hx hb dL_refuses_500 (by decide) ?_
  refine lv_icmp_ge (tgt := 539) hx hb dL_refuses_502 (by decide) (fun hc => absurd hc (by decide)) (fun _ => ?_)
  refine lv_iload hx hb dL_refuses_505 (lv_at hl 1 rfl) ?_
  refine lv_if_eq (tgt := 530) hx hb dL_refuses_507 (by decide) (fun hc => absurd hc (by decide)) (fun _ => ?_)
  refine lv_aload_n hx hb dL_refuses_510 rfl (lv_at hl 6 rfl) ?_
  refine lv_iload hx hb dL_refuses_511 (lv_at hl 0 rfl) ?_
  refine lv_iload hx hb dL_refuses_513 (lv_at hl 4 rfl) ?_
  refine lv_iconst (v := 0) hx hb dL_refuses_515 (by decide) ?_
  refine lv_iconst (v := 0) hx hb dL_refuses_516 (by decide) ?_
  refine lv_iconst (v := 0) hx hb dL_refuses_517 (by decide) ?_
  refine kgo_i (kc_SW (As := [.ref (ad 0 0), .int 15, .int 2147483647, .int 0, .int 0, .int 0]) (rest := []) S hE hS hAb (ax_isBad1 ε l hw (cpx_isBad ε l hw hB hst (x := 2147483647) (Or.inr (kmx _)))) (vx_cwSW 6 hts gL_refuses_L_act rfl rfl rfl (by decide +kernel) ⟨Nat.le_of_ble_eq_true rfl, Nat.le_of_ble_eq_true rfl⟩) rfl hl.1 rfl (Nat.le_of_ble_eq_true rfl) dL_refuses_518 ⟨Nat.le_of_ble_eq_true rfl, Nat.le_of_ble_eq_true rfl⟩) hS (fun _ h => h) (fun r9 H1 locs e9 hz1 hq hS => ?_)
  have hw := hw.keep (fun k j hk => hq _ (va_at.lt (hw.1 k j hk).1) (fun h => h))
  clear hq hz1
  refine kr_room (c1 := 87) (s1 := 522) rfl rfl ?_
  refine kr_top e9 ?_
  refine lv_bipush (v := -41) hx hb dL_refuses_521 (by decide) ?_
  refine lv_icmp_ne (tgt := 530) hx hb dL_refuses_523 (by decide) (fun hc => absurd (by decide) hc) (fun _ => ?_)
  refine lv_iconst (v := 1) hx hb dL_refuses_526 (by decide) ?_
  refine lv_goto (tgt := 531) hx hb dL_refuses_527 (by decide) ?_
  refine lv_istore (lv' := [(12, .int 1), (13, .int 15), (11, .int 2147483647), (10, .int 2147483647), (9, .int 2147483647), (8, .int 2147483647), (0, .ref (ad 0 0)), (1, .int (nI (σ 1 0))), (2, .int (nI (σ 2 0))), (3, .int (nI (σ 3 0))), (4, .int (nI (σ 0 0))), (5, .int (nI (σ 4 0))), (6, .int 2147483647), (7, .int 2)]) hx hb dL_refuses_531 hl (by decide) rfl (fun ls hl => ?_)
  refine lv_iinc (v := 16) (lv' := [(13, .int 16), (12, .int 1), (11, .int 2147483647), (10, .int 2147483647), (9, .int 2147483647), (8, .int 2147483647), (0, .ref (ad 0 0)), (1, .int (nI (σ 1 0))), (2, .int (nI (σ 2 0))), (3, .int (nI (σ 3 0))), (4, .int (nI (σ 0 0))), (5, .int (nI (σ 4 0))), (6, .int 2147483647), (7, .int 2)]) hx hb dL_refuses_533 hl (k := 1) rfl (by decide) (by decide) rfl (fun ls hl => ?_)
  refine lv_goto (tgt := 498) hx hb dL_refuses_536 (by decide) ?_
  refine lv_iload hx hb dL_refuses_498 (lv_at hl 0 rfl) ?_
  refine lv_bipush (v := 16) hx hb dL_refuses_500 (by decide) ?_
  refine lv_icmp_ge (tgt := 539) hx hb dL_refuses_502 (by decide) (fun _ => ?_) (fun hc => absurd (by decide) hc)
  refine lv_bipush (v := 16) hx hb dL_refuses_539 (by decide) ?_
  refine lv_istore (lv' := [(13, .int 16), (12, .int 1), (11, .int 2147483647), (10, .int 2147483647), (9, .int 2147483647), (8, .int 2147483647), (0, .ref (ad 0 0)), (1, .int (nI (σ 1 0))), (2, .int (nI (σ 2 0))), (3, .int (nI (σ 3 0))), (4, .int (nI (σ 0 0))), (5, .int (nI (σ 4 0))), (6, .int 2147483647), (7, .int 2)]) hx hb dL_refuses_541 hl (by decide) rfl (fun ls hl => ?_)
  refine lv_iload hx hb dL_refuses_543 (lv_at hl 0 rfl) ?_
  refine lv_bipush (v := 19) hx hb dL_refuses_545 (by decide) ?_
  refine lv_icmp_ge (tgt := 600) hx hb dL_refuses_547 (by decide) (fun hc => absurd hc (by decide)) (fun _ => ?_)
  refine lv_iload hx hb dL_refuses_550 (lv_at hl 1 rfl) ?_
  refine lv_if_eq (tgt := 591) hx hb dL_refuses_552 (by decide) (fun hc => absurd hc (by decide)) (fun _ => ?_)
  refine lv_aload_n hx hb dL_refuses_555 rfl (lv_at hl 6 rfl) ?_
  refine lv_iload hx hb dL_refuses_556 (lv_at hl 0 rfl) ?_
  refine lv_iload hx hb dL_refuses_558 (lv_at hl 3 rfl) ?_
  refine lv_iconst (v := 0) hx hb dL_refuses_560 (by decide) ?_
  refine lv_iconst (v := 0) hx hb dL_refuses_561 (by decide) ?_
  refine lv_iconst (v := 0) hx hb dL_refuses_562 (by decide) ?_
  refine kgo_i (kc_SW (As := [.ref (ad 0 0), .int 16, .int 2147483647, .int 0, .int 0, .int 0]) (rest := []) S hE hS hAb (ax_nextProbe1 ε l hw (cpx_nextProbe1 ε l hw hB hst (x := 2147483647) (y := 0) (Or.inr (kmx _)))) (vx_cwSW 6 hts gL_refuses_L_act rfl rfl rfl (by decide +kernel) ⟨Nat.le_of_ble_eq_true rfl, Nat.le_of_ble_eq_true rfl⟩) rfl hl.1 rfl (Nat.le_of_ble_eq_true rfl) dL_refuses_563 ⟨Nat.le_of_ble_eq_true rfl, Nat.le_of_ble_eq_true rfl⟩) hS (fun _ h => h) (fun r9 H1 locs e9 hz1 hq hS => ?_)
  have hw := hw.keep (fun k j hk => hq _ (va_at.lt (hw.1 k j hk).1) (fun h => h))
  clear hq hz1
  refine kr_room (c1 := 88) (s1 := 528) rfl rfl ?_
  refine kr_top e9 ?_
  refine lv_bipush (v := -41) hx hb dL_refuses_566 (by decide) ?_
  refine lv_icmp_ne (tgt := 591) hx hb dL_refuses_568 (by decide) (fun hc => absurd (by decide) hc) (fun _ => ?_)
  refine lv_aload_n hx hb dL_refuses_571 rfl (lv_at hl 6 rfl) ?_
  refine lv_iload hx hb dL_refuses_572 (lv_at hl 0 rfl) ?_
  refine lv_iconst (v := 0) hx hb dL_refuses_574 (by decide) ?_
  refine lv_iload hx hb dL_refuses_575 (lv_at hl 4 rfl) ?_
  refine lv_iconst (v := 0) hx hb dL_refuses_577 (by decide) ?_
  refine lv_iconst (v := 0) hx hb dL_refuses_578 (by decide) ?_
  refine kgo_i (kc_SW (As := [.ref (ad 0 0), .int 16, .int (nI 0), .int 2147483647, .int 0, .int 0]) (rest := []) S hE hS hAb (ax_nextProbe1 ε l hw (cpx_nextProbe2 ε l hw hB hst (i := 0) (y := 2147483647) h2 (Or.inr (kmx _)))) (vx_cwSW 6 hts gL_refuses_L_act rfl rfl rfl (by decide +kernel) ⟨Nat.le_of_ble_eq_true rfl, Nat.le_of_ble_eq_true rfl⟩) rfl hl.1 rfl (Nat.le_of_ble_eq_true rfl) dL_refuses_579 ⟨Nat.le_of_ble_eq_true rfl, Nat.le_of_ble_eq_true rfl⟩) hS (fun _ h => h) (fun r9 H1 locs e9 hz1 hq hS => ?_)
  have hw := hw.keep (fun k j hk => hq _ (va_at.lt (hw.1 k j hk).1) (fun h => h))
  clear hq hz1
  refine kr_room (c1 := 89) (s1 := 534) rfl rfl ?_
  refine kr_top e9 ?_
  refine lv_bipush (v := -41) hx hb dL_refuses_582 (by decide) ?_
  refine lv_icmp_ne (tgt := 591) hx hb dL_refuses_584 (by decide) (fun hc => absurd (by decide) hc) (fun _ => ?_)
  refine lv_iconst (v := 1) hx hb dL_refuses_587 (by decide) ?_
  refine lv_goto (tgt := 592) hx hb dL_refuses_588 (by decide) ?_
  refine lv_istore (lv' := [(12, .int 1), (13, .int 16), (11, .int 2147483647), (10, .int 2147483647), (9, .int 2147483647), (8, .int 2147483647), (0, .ref (ad 0 0)), (1, .int (nI (σ 1 0))), (2, .int (nI (σ 2 0))), (3, .int (nI (σ 3 0))), (4, .int (nI (σ 0 0))), (5, .int (nI (σ 4 0))), (6, .int 2147483647), (7, .int 2)]) hx hb dL_refuses_592 hl (by decide) rfl (fun ls hl => ?_)
  refine lv_iinc (v := 17) (lv' := [(13, .int 17), (12, .int 1), (11, .int 2147483647), (10, .int 2147483647), (9, .int 2147483647), (8, .int 2147483647), (0, .ref (ad 0 0)), (1, .int (nI (σ 1 0))), (2, .int (nI (σ 2 0))), (3, .int (nI (σ 3 0))), (4, .int (nI (σ 0 0))), (5, .int (nI (σ 4 0))), (6, .int 2147483647), (7, .int 2)]) hx hb dL_refuses_594 hl (k := 1) rfl (by decide) (by decide) rfl (fun ls hl => ?_)
  refine lv_goto (tgt := 543) hx hb dL_refuses_597 (by decide) ?_
  refine lv_iload hx hb dL_refuses_543 (lv_at hl 0 rfl) ?_
  refine lv_bipush (v := 19) hx hb dL_refuses_545 (by decide) ?_
  refine lv_icmp_ge (tgt := 600) hx hb dL_refuses_547 (by decide) (fun hc => absurd hc (by decide)) (fun _ => ?_)
  refine lv_iload hx hb dL_refuses_550 (lv_at hl 1 rfl) ?_
  refine lv_if_eq (tgt := 591) hx hb dL_refuses_552 (by decide) (fun hc => absurd hc (by decide)) (fun _ => ?_)
  refine lv_aload_n hx hb dL_refuses_555 rfl (lv_at hl 6 rfl) ?_
  refine lv_iload hx hb dL_refuses_556 (lv_at hl 0 rfl) ?_
  refine lv_iload hx hb dL_refuses_558 (lv_at hl 3 rfl) ?_
  refine lv_iconst (v := 0) hx hb dL_refuses_560 (by decide) ?_
  refine lv_iconst (v := 0) hx hb dL_refuses_561 (by decide) ?_
  refine lv_iconst (v := 0) hx hb dL_refuses_562 (by decide) ?_
  refine kgo_i (kc_SW (As := [.ref (ad 0 0), .int 17, .int 2147483647, .int 0, .int 0, .int 0]) (rest := []) S hE hS hAb (ax_repetition1 ε l hw (cpx_repetition1 ε l hw hB hst (x := 2147483647) (y := 0) (Or.inr (kmx _)))) (vx_cwSW 6 hts gL_refuses_L_act rfl rfl rfl (by decide +kernel) ⟨Nat.le_of_ble_eq_true rfl, Nat.le_of_ble_eq_true rfl⟩) rfl hl.1 rfl (Nat.le_of_ble_eq_true rfl) dL_refuses_563 ⟨Nat.le_of_ble_eq_true rfl, Nat.le_of_ble_eq_true rfl⟩) hS (fun _ h => h) (fun r9 H1 locs e9 hz1 hq hS => ?_)
  have hw := hw.keep (fun k j hk => hq _ (va_at.lt (hw.1 k j hk).1) (fun h => h))
  clear hq hz1
  refine kr_room (c1 := 90) (s1 := 540) rfl rfl ?_
  refine kr_top e9 ?_
  refine lv_bipush (v := -41) hx hb dL_refuses_566 (by decide) ?_
  refine lv_icmp_ne (tgt := 591) hx hb dL_refuses_568 (by decide) (fun hc => absurd (by decide) hc) (fun _ => ?_)
  refine lv_aload_n hx hb dL_refuses_571 rfl (lv_at hl 6 rfl) ?_
  refine lv_iload hx hb dL_refuses_572 (lv_at hl 0 rfl) ?_
  refine lv_iconst (v := 0) hx hb dL_refuses_574 (by decide) ?_
  refine lv_iload hx hb dL_refuses_575 (lv_at hl 4 rfl) ?_
  refine lv_iconst (v := 0) hx hb dL_refuses_577 (by decide) ?_
  refine lv_iconst (v := 0) hx hb dL_refuses_578 (by decide) ?_
  refine kgo_i (kc_SW (As := [.ref (ad 0 0), .int 17, .int (nI 0), .int 2147483647, .int 0, .int 0]) (rest := []) S hE hS hAb (ax_repetition1 ε l hw (cpx_repetition2 ε l hw hB hst (i := 0) (y := 2147483647) h2 (Or.inr (kmx _)))) (vx_cwSW 6 hts gL_refuses_L_act rfl rfl rfl (by decide +kernel) ⟨Nat.le_of_ble_eq_true rfl, Nat.le_of_ble_eq_true rfl⟩) rfl hl.1 rfl (Nat.le_of_ble_eq_true rfl) dL_refuses_579 ⟨Nat.le_of_ble_eq_true rfl, Nat.le_of_ble_eq_true rfl⟩) hS (fun _ h => h) (fun r9 H1 locs e9 hz1 hq hS => ?_)
  have hw := hw.keep (fun k j hk => hq _ (va_at.lt (hw.1 k j hk).1) (fun h => h))
  clear hq hz1
  refine kr_room (c1 := 91) (s1 := 546) rfl rfl ?_
  refine kr_top e9 ?_
  refine lv_bipush (v := -41) hx hb dL_refuses_582 (by decide) ?_
  refine lv_icmp_ne (tgt := 591) hx hb dL_refuses_584 (by decide) (fun hc => absurd (by decide) hc) (fun _ => ?_)
  refine lv_iconst (v := 1) hx hb dL_refuses_587 (by decide) ?_
  refine lv_goto (tgt := 592) hx hb dL_refuses_588 (by decide) ?_
  refine lv_istore (lv' := [(12, .int 1), (13, .int 17), (11, .int 2147483647), (10, .int 2147483647), (9, .int 2147483647), (8, .int 2147483647), (0, .ref (ad 0 0)), (1, .int (nI (σ 1 0))), (2, .int (nI (σ 2 0))), (3, .int (nI (σ 3 0))), (4, .int (nI (σ 0 0))), (5, .int (nI (σ 4 0))), (6, .int 2147483647), (7, .int 2)]) hx hb dL_refuses_592 hl (by decide) rfl (fun ls hl => ?_)
  refine lv_iinc (v := 18) (lv' := [(13, .int 18), (12, .int 1), (11, .int 2147483647), (10, .int 2147483647), (9, .int 2147483647), (8, .int 2147483647), (0, .ref (ad 0 0)), (1, .int (nI (σ 1 0))), (2, .int (nI (σ 2 0))), (3, .int (nI (σ 3 0))), (4, .int (nI (σ 0 0))), (5, .int (nI (σ 4 0))), (6, .int 2147483647), (7, .int 2)]) hx hb dL_refuses_594 hl (k := 1) rfl (by decide) (by decide) rfl (fun ls hl => ?_)
  refine lv_goto (tgt := 543) hx hb dL_refuses_597 (by decide) ?_
  refine lv_iload hx hb dL_refuses_543 (lv_at hl 0 rfl) ?_
  refine lv_bipush (v := 19) hx hb dL_refuses_545 (by decide) ?_
  refine lv_icmp_ge (tgt := 600) hx hb dL_refuses_547 (by decide) (fun hc => absurd hc (by decide)) (fun _ => ?_)
  refine lv_iload hx hb dL_refuses_550 (lv_at hl 1 rfl) ?_
  refine lv_if_eq (tgt := 591) hx hb dL_refuses_552 (by decide) (fun hc => absurd hc (by decide)) (fun _ => ?_)
  refine lv_aload_n hx hb dL_refuses_555 rfl (lv_at hl 6 rfl) ?_
  refine lv_iload hx hb dL_refuses_556 (lv_at hl 0 rfl) ?_
  refine lv_iload hx hb dL_refuses_558 (lv_at hl 3 rfl) ?_
  refine lv_iconst (v := 0) hx hb dL_refuses_560 (by decide) ?_
  refine lv_iconst (v := 0) hx hb dL_refuses_561 (by decide) ?_
  refine lv_iconst (v := 0) hx hb dL_refuses_562 (by decide) ?_
  refine kgo_i (kc_SW (As := [.ref (ad 0 0), .int 18, .int 2147483647, .int 0, .int 0, .int 0]) (rest := []) S hE hS hAb (ax_vote1 ε l hw (cpx_vote1 ε l hw hB hst (x := 2147483647) (y := 0) (Or.inr (kmx _)))) (vx_cwSW 6 hts gL_refuses_L_act rfl rfl rfl (by decide +kernel) ⟨Nat.le_of_ble_eq_true rfl, Nat.le_of_ble_eq_true rfl⟩) rfl hl.1 rfl (Nat.le_of_ble_eq_true rfl) dL_refuses_563 ⟨Nat.le_of_ble_eq_true rfl, Nat.le_of_ble_eq_true rfl⟩) hS (fun _ h => h) (fun r9 H1 locs e9 hz1 hq hS => ?_)
  have hw := hw.keep (fun k j hk => hq _ (va_at.lt (hw.1 k j hk).1) (fun h => h))
  clear hq hz1
  refine kr_room (c1 := 92) (s1 := 552) rfl rfl ?_
  refine kr_top e9 ?_
  refine lv_bipush (v := -41) hx hb dL_refuses_566 (by decide) ?_
  refine lv_icmp_ne (tgt := 591) hx hb dL_refuses_568 (by decide) (fun hc => absurd (by decide) hc) (fun _ => ?_)
  refine lv_aload_n hx hb dL_refuses_571 rfl (lv_at hl 6 rfl) ?_
  refine lv_iload hx hb dL_refuses_572 (lv_at hl 0 rfl) ?_
  refine lv_iconst (v := 0) hx hb dL_refuses_574 (by decide) ?_
  refine lv_iload hx hb dL_refuses_575 (lv_at hl 4 rfl) ?_
  refine lv_iconst (v := 0) hx hb dL_refuses_577 (by decide) ?_
  refine lv_iconst (v := 0) hx hb dL_refuses_578 (by decide) ?_
  refine kgo_i (kc_SW (As := [.ref (ad 0 0), .int 18, .int (nI 0), .int 2147483647, .int 0, .int 0]) (rest := []) S hE hS hAb (ax_vote1 ε l hw (cpx_vote2 ε l hw hB hst (i := 0) (y := 2147483647) h2 (Or.inr (kmx _)))) (vx_cwSW 6 hts gL_refuses_L_act rfl rfl rfl (by decide +kernel) ⟨Nat.le_of_ble_eq_true rfl, Nat.le_of_ble_eq_true rfl⟩) rfl hl.1 rfl (Nat.le_of_ble_eq_true rfl) dL_refuses_579 ⟨Nat.le_of_ble_eq_true rfl, Nat.le_of_ble_eq_true rfl⟩) hS (fun _ h => h) (fun r9 H1 locs e9 hz1 hq hS => ?_)
  have hw := hw.keep (fun k j hk => hq _ (va_at.lt (hw.1 k j hk).1) (fun h => h))
  clear hq hz1
  refine kr_room (c1 := 93) (s1 := 558) rfl rfl ?_
  refine kr_top e9 ?_
  refine lv_bipush (v := -41) hx hb dL_refuses_582 (by decide) ?_
  refine lv_icmp_ne (tgt := 591) hx hb dL_refuses_584 (by decide) (fun hc => absurd (by decide) hc) (fun _ => ?_)
  refine lv_iconst (v := 1) hx hb dL_refuses_587 (by decide) ?_
  refine lv_goto (tgt := 592) hx hb dL_refuses_588 (by decide) ?_
  refine lv_istore (lv' := [(12, .int 1), (13, .int 18), (11, .int 2147483647), (10, .int 2147483647), (9, .int 2147483647), (8, .int 2147483647), (0, .ref (ad 0 0)), (1, .int (nI (σ 1 0))), (2, .int (nI (σ 2 0))), (3, .int (nI (σ 3 0))), (4, .int (nI (σ 0 0))), (5, .int (nI (σ 4 0))), (6, .int 2147483647), (7, .int 2)]) hx hb dL_refuses_592 hl (by decide) rfl (fun ls hl => ?_)
  refine lv_iinc (v := 19) (lv' := [(13, .int 19), (12, .int 1), (11, .int 2147483647), (10, .int 2147483647), (9, .int 2147483647), (8, .int 2147483647), (0, .ref (ad 0 0)), (1, .int (nI (σ 1 0))), (2, .int (nI (σ 2 0))), (3, .int (nI (σ 3 0))), (4, .int (nI (σ 0 0))), (5, .int (nI (σ 4 0))), (6, .int 2147483647), (7, .int 2)]) hx hb dL_refuses_594 hl (k := 1) rfl (by decide) (by decide) rfl (fun ls hl => ?_)
  refine lv_goto (tgt := 543) hx hb dL_refuses_597 (by decide) ?_
  refine lv_iload hx hb dL_refuses_543 (lv_at hl 0 rfl) ?_
  refine lv_bipush (v := 19) hx hb dL_refuses_545 (by decide) ?_
  refine lv_icmp_ge (tgt := 600) hx hb dL_refuses_547 (by decide) (fun _ => ?_) (fun hc => absurd (by decide) hc)
  refine lv_bipush (v := 19) hx hb dL_refuses_600 (by decide) ?_
  refine lv_istore (lv' := [(13, .int 19), (12, .int 1), (11, .int 2147483647), (10, .int 2147483647), (9, .int 2147483647), (8, .int 2147483647), (0, .ref (ad 0 0)), (1, .int (nI (σ 1 0))), (2, .int (nI (σ 2 0))), (3, .int (nI (σ 3 0))), (4, .int (nI (σ 0 0))), (5, .int (nI (σ 4 0))), (6, .int 2147483647), (7, .int 2)]) hx hb dL_refuses_602 hl (by decide) rfl (fun ls hl => ?_)
  refine lv_iload hx hb dL_refuses_604 (lv_at hl 0 rfl) ?_
  refine lv_bipush (v := 22) hx hb dL_refuses_606 (by decide) ?_
  refine lv_icmp_ge (tgt := 656) hx hb dL_refuses_608 (by decide) (fun hc => absurd hc (by decide)) (fun _ => ?_)
  refine lv_iload hx hb dL_refuses_611 (lv_at hl 1 rfl) ?_
  refine lv_if_eq (tgt := 647) hx hb dL_refuses_613 (by decide) (fun hc => absurd hc (by decide)) (fun _ => ?_)
  refine lv_aload_n hx hb dL_refuses_616 rfl (lv_at hl 6 rfl) ?_
  refine lv_iload hx hb dL_refuses_617 (lv_at hl 0 rfl) ?_
  refine lv_iload hx hb dL_refuses_619 (lv_at hl 13 rfl) ?_
  refine lv_iconst (v := 1) hx hb dL_refuses_621 (by decide) ?_
  refine lv_icmp_ne (tgt := 630) hx hb dL_refuses_622 (by decide) (fun _ => ?_) (fun hc => absurd hc (by decide))
  refine lv_iload hx hb dL_refuses_630 (lv_at hl 5 rfl) ?_
  refine lv_iconst (v := 0) hx hb dL_refuses_632 (by decide) ?_
  refine lv_iconst (v := 0) hx hb dL_refuses_633 (by decide) ?_
  refine lv_iconst (v := 0) hx hb dL_refuses_634 (by decide) ?_
  refine kgo_i (kc_SW (As := [.ref (ad 0 0), .int 19, .int 2147483647, .int 0, .int 0, .int 0]) (rest := []) S hE hS hAb (ax_alarmCheck1 ε l hw (cpx_alarmCheck ε l hw hB hst (x := 2147483647) (Or.inr (kmx _)))) (vx_cwSW 6 hts gL_refuses_L_act rfl rfl rfl (by decide +kernel) ⟨Nat.le_of_ble_eq_true rfl, Nat.le_of_ble_eq_true rfl⟩) rfl hl.1 rfl (Nat.le_of_ble_eq_true rfl) dL_refuses_635 ⟨Nat.le_of_ble_eq_true rfl, Nat.le_of_ble_eq_true rfl⟩) hS (fun _ h => h) (fun r9 H1 locs e9 hz1 hq hS => ?_)
  have hw := hw.keep (fun k j hk => hq _ (va_at.lt (hw.1 k j hk).1) (fun h => h))
  clear hq hz1
  refine kr_room (c1 := 94) (s1 := 564) rfl rfl ?_
  refine kr_top e9 ?_
  refine lv_bipush (v := -41) hx hb dL_refuses_638 (by decide) ?_
  refine lv_icmp_ne (tgt := 647) hx hb dL_refuses_640 (by decide) (fun hc => absurd (by decide) hc) (fun _ => ?_)
  refine lv_iconst (v := 1) hx hb dL_refuses_643 (by decide) ?_
  refine lv_goto (tgt := 648) hx hb dL_refuses_644 (by decide) ?_
  refine lv_istore (lv' := [(12, .int 1), (13, .int 19), (11, .int 2147483647), (10, .int 2147483647), (9, .int 2147483647), (8, .int 2147483647), (0, .ref (ad 0 0)), (1, .int (nI (σ 1 0))), (2, .int (nI (σ 2 0))), (3, .int (nI (σ 3 0))), (4, .int (nI (σ 0 0))), (5, .int (nI (σ 4 0))), (6, .int 2147483647), (7, .int 2)]) hx hb dL_refuses_648 hl (by decide) rfl (fun ls hl => ?_)
  refine lv_iinc (v := 20) (lv' := [(13, .int 20), (12, .int 1), (11, .int 2147483647), (10, .int 2147483647), (9, .int 2147483647), (8, .int 2147483647), (0, .ref (ad 0 0)), (1, .int (nI (σ 1 0))), (2, .int (nI (σ 2 0))), (3, .int (nI (σ 3 0))), (4, .int (nI (σ 0 0))), (5, .int (nI (σ 4 0))), (6, .int 2147483647), (7, .int 2)]) hx hb dL_refuses_650 hl (k := 1) rfl (by decide) (by decide) rfl (fun ls hl => ?_)
  refine lv_goto (tgt := 604) hx hb dL_refuses_653 (by decide) ?_
  refine lv_iload hx hb dL_refuses_604 (lv_at hl 0 rfl) ?_
  refine lv_bipush (v := 22) hx hb dL_refuses_606 (by decide) ?_
  refine lv_icmp_ge (tgt := 656) hx hb dL_refuses_608 (by decide) (fun hc => absurd hc (by decide)) (fun _ => ?_)
  refine lv_iload hx hb dL_refuses_611 (lv_at hl 1 rfl) ?_
  refine lv_if_eq (tgt := 647) hx hb dL_refuses_613 (by decide) (fun hc => absurd hc (by decide)) (fun _ => ?_)
  refine lv_aload_n hx hb dL_refuses_616 rfl (lv_at hl 6 rfl) ?_
  refine lv_iload hx hb dL_refuses_617 (lv_at hl 0 rfl) ?_
  refine lv_iload hx hb dL_refuses_619 (lv_at hl 13 rfl) ?_
  refine lv_iconst (v := 1) hx hb dL_refuses_621 (by decide) ?_
  refine lv_icmp_ne (tgt := 630) hx hb dL_refuses_622 (by decide) (fun _ => ?_) (fun hc => absurd hc (by decide))
  refine lv_iload hx hb dL_refuses_630 (lv_at hl 5 rfl) ?_
  refine lv_iconst (v := 0) hx hb dL_refuses_632 (by decide) ?_
  refine lv_iconst (v := 0) hx hb dL_refuses_633 (by decide) ?_
  refine lv_iconst (v := 0) hx hb dL_refuses_634 (by decide) ?_
  refine kgo_i (kc_SW (As := [.ref (ad 0 0), .int 20, .int 2147483647, .int 0, .int 0, .int 0]) (rest := []) S hE hS hAb (ax_alarmRaised1 ε l hw (cpx_alarmRaised ε l hw hB hst (x := 2147483647) (Or.inr (kmx _)))) (vx_cwSW 6 hts gL_refuses_L_act rfl rfl rfl (by decide +kernel) ⟨Nat.le_of_ble_eq_true rfl, Nat.le_of_ble_eq_true rfl⟩) rfl hl.1 rfl (Nat.le_of_ble_eq_true rfl) dL_refuses_635 ⟨Nat.le_of_ble_eq_true rfl, Nat.le_of_ble_eq_true rfl⟩) hS (fun _ h => h) (fun r9 H1 locs e9 hz1 hq hS => ?_)
  have hw := hw.keep (fun k j hk => hq _ (va_at.lt (hw.1 k j hk).1) (fun h => h))
  clear hq hz1
  refine kr_room (c1 := 95) (s1 := 570) rfl rfl ?_
  refine kr_top e9 ?_
  refine lv_bipush (v := -41) hx hb dL_refuses_638 (by decide) ?_
  refine lv_icmp_ne (tgt := 647) hx hb dL_refuses_640 (by decide) (fun hc => absurd (by decide) hc) (fun _ => ?_)
  refine lv_iconst (v := 1) hx hb dL_refuses_643 (by decide) ?_
  refine lv_goto (tgt := 648) hx hb dL_refuses_644 (by decide) ?_
  refine lv_istore (lv' := [(12, .int 1), (13, .int 20), (11, .int 2147483647), (10, .int 2147483647), (9, .int 2147483647), (8, .int 2147483647), (0, .ref (ad 0 0)), (1, .int (nI (σ 1 0))), (2, .int (nI (σ 2 0))), (3, .int (nI (σ 3 0))), (4, .int (nI (σ 0 0))), (5, .int (nI (σ 4 0))), (6, .int 2147483647), (7, .int 2)]) hx hb dL_refuses_648 hl (by decide) rfl (fun ls hl => ?_)
  refine lv_iinc (v := 21) (lv' := [(13, .int 21), (12, .int 1), (11, .int 2147483647), (10, .int 2147483647), (9, .int 2147483647), (8, .int 2147483647), (0, .ref (ad 0 0)), (1, .int (nI (σ 1 0))), (2, .int (nI (σ 2 0))), (3, .int (nI (σ 3 0))), (4, .int (nI (σ 0 0))), (5, .int (nI (σ 4 0))), (6, .int 2147483647), (7, .int 2)]) hx hb dL_refuses_650 hl (k := 1) rfl (by decide) (by decide) rfl (fun ls hl => ?_)
  refine lv_goto (tgt := 604) hx hb dL_refuses_653 (by decide) ?_
  refine lv_iload hx hb dL_refuses_604 (lv_at hl 0 rfl) ?_
  refine lv_bipush (v := 22) hx hb dL_refuses_606 (by decide) ?_
  refine lv_icmp_ge (tgt := 656) hx hb dL_refuses_608 (by decide) (fun hc => absurd hc (by decide)) (fun _ => ?_)
  refine lv_iload hx hb dL_refuses_611 (lv_at hl 1 rfl) ?_
  refine lv_if_eq (tgt := 647) hx hb dL_refuses_613 (by decide) (fun hc => absurd hc (by decide)) (fun _ => ?_)
  refine lv_aload_n hx hb dL_refuses_616 rfl (lv_at hl 6 rfl) ?_
  refine lv_iload hx hb dL_refuses_617 (lv_at hl 0 rfl) ?_
  refine lv_iload hx hb dL_refuses_619 (lv_at hl 13 rfl) ?_
  refine lv_iconst (v := 1) hx hb dL_refuses_621 (by decide) ?_
  refine lv_icmp_ne (tgt := 630) hx hb dL_refuses_622 (by decide) (fun _ => ?_) (fun hc => absurd hc (by decide))
  refine lv_iload hx hb dL_refuses_630 (lv_at hl 5 rfl) ?_
  refine lv_iconst (v := 0) hx hb dL_refuses_632 (by decide) ?_
  refine lv_iconst (v := 0) hx hb dL_refuses_633 (by decide) ?_
  refine lv_iconst (v := 0) hx hb dL_refuses_634 (by decide) ?_
  refine kgo_i (kc_SW (As := [.ref (ad 0 0), .int 21, .int 2147483647, .int 0, .int 0, .int 0]) (rest := []) S hE hS hAb (ax_alarmClosed1 ε l hw (cpx_alarmClosed ε l hw hB hst (x := 2147483647) (Or.inr (kmx _)))) (vx_cwSW 6 hts gL_refuses_L_act rfl rfl rfl (by decide +kernel) ⟨Nat.le_of_ble_eq_true rfl, Nat.le_of_ble_eq_true rfl⟩) rfl hl.1 rfl (Nat.le_of_ble_eq_true rfl) dL_refuses_635 ⟨Nat.le_of_ble_eq_true rfl, Nat.le_of_ble_eq_true rfl⟩) hS (fun _ h => h) (fun r9 H1 locs e9 hz1 hq hS => ?_)
  have hw := hw.keep (fun k j hk => hq _ (va_at.lt (hw.1 k j hk).1) (fun h => h))
  clear hq hz1
  refine kr_room (c1 := 96) (s1 := 576) rfl rfl ?_
  refine kr_top e9 ?_
  refine lv_bipush (v := -41) hx hb dL_refuses_638 (by decide) ?_
  refine lv_icmp_ne (tgt := 647) hx hb dL_refuses_640 (by decide) (fun hc => absurd (by decide) hc) (fun _ => ?_)
  refine lv_iconst (v := 1) hx hb dL_refuses_643 (by decide) ?_
  refine lv_goto (tgt := 648) hx hb dL_refuses_644 (by decide) ?_
  refine lv_istore (lv' := [(12, .int 1), (13, .int 21), (11, .int 2147483647), (10, .int 2147483647), (9, .int 2147483647), (8, .int 2147483647), (0, .ref (ad 0 0)), (1, .int (nI (σ 1 0))), (2, .int (nI (σ 2 0))), (3, .int (nI (σ 3 0))), (4, .int (nI (σ 0 0))), (5, .int (nI (σ 4 0))), (6, .int 2147483647), (7, .int 2)]) hx hb dL_refuses_648 hl (by decide) rfl (fun ls hl => ?_)
  refine lv_iinc (v := 22) (lv' := [(13, .int 22), (12, .int 1), (11, .int 2147483647), (10, .int 2147483647), (9, .int 2147483647), (8, .int 2147483647), (0, .ref (ad 0 0)), (1, .int (nI (σ 1 0))), (2, .int (nI (σ 2 0))), (3, .int (nI (σ 3 0))), (4, .int (nI (σ 0 0))), (5, .int (nI (σ 4 0))), (6, .int 2147483647), (7, .int 2)]) hx hb dL_refuses_650 hl (k := 1) rfl (by decide) (by decide) rfl (fun ls hl => ?_)
  refine lv_goto (tgt := 604) hx hb dL_refuses_653 (by decide) ?_
  refine lv_iload hx hb dL_refuses_604 (lv_at hl 0 rfl) ?_
  refine lv_bipush (v := 22) hx hb dL_refuses_606 (by decide) ?_
  refine lv_icmp_ge (tgt := 656) hx hb dL_refuses_608 (by decide) (fun _ => ?_) (fun hc => absurd (by decide) hc)
  refine lv_iload hx hb dL_refuses_656 (lv_at hl 1 rfl) ?_
  refine lv_if_ne (tgt := 663) hx hb dL_refuses_658 (by decide) (fun _ => ?_) (fun hc => absurd hc (by decide))
  refine lv_iinc (v := 3) (lv' := [(7, .int 3), (13, .int 22), (12, .int 1), (11, .int 2147483647), (10, .int 2147483647), (9, .int 2147483647), (8, .int 2147483647), (0, .ref (ad 0 0)), (1, .int (nI (σ 1 0))), (2, .int (nI (σ 2 0))), (3, .int (nI (σ 3 0))), (4, .int (nI (σ 0 0))), (5, .int (nI (σ 4 0))), (6, .int 2147483647)]) hx hb dL_refuses_663 hl (k := 13) rfl (by decide) (by decide) rfl (fun ls hl => ?_)
  refine lv_goto (tgt := 19) hx hb dL_refuses_666 (by decide) ?_
  exact KK _ _ _ hw hS (lv_sub hl [7, 8, 9, 10, 11, 12, 13, 0] rfl)
set_option maxHeartbeats 4000000 in
set_option maxRecDepth 100000 in
theorem rf_3 (S : CallFix p m c cL_refuses 14 s args wsL_refuses RL) (hE : kE ε s) (hst : l.stackTraces = false) (hw : kW ε A ad σ H) (hB : kB σ) (h2 : 0 < σ 2 0) (hS : va_S kNo s.heap H locs) (hl : lv_has ls 14 [(0, .ref (ad 0 0)), (1, .int (nI (σ 1 0))), (2, .int (nI (σ 2 0))), (3, .int (nI (σ 3 0))), (4, .int (nI (σ 0 0))), (5, .int (nI (σ 4 0))), (6, .int 2147483647), (7, .int 3)])
    (KK : ∀ (H' : Heap) (locs' : List Loc) (ls' : Array Slot), kW ε A ad σ H' → va_S kNo s.heap H' locs' → lv_has ls' 14 [(0, .ref (ad 0 0)), (1, .int (nI (σ 1 0))), (2, .int (nI (σ 2 0))), (3, .int (nI (σ 3 0))), (4, .int (nI (σ 0 0))), (5, .int (nI (σ 4 0))), (6, .int 2147483647), (7, .int 4)] → W p l e ({ frames := 12, cells := 128, slots := 768, locals := 360 }) s m args below meth c H' locs' 128 768 Q (F0 m 19 ls' [])) : W p l e ({ frames := 12, cells := 128, slots := 768, locals := 360 }) s m args below meth c H locs 96 576 Q (F0 m 19 ls []) := by
  have hx := S.1
  have hb := S.2.1
  have hown : s.vm.findClass RL = some m.cls := S.2.2.2.1
  have hts := S.2.2.2.2
  have hK := hE.1
  have hAb : ∀ q, kNo q → kHi ε q := fun _ h => h.elim
  refine lv_iload hx hb dL_refuses_19 (lv_at hl 7 rfl) ?_
  refine lv_iconst (v := 4) hx hb dL_refuses_21 (by decide) ?_
  refine lv_icmp_ge (tgt := 669) hx hb dL_refuses_22 (by decide) (fun hc => absurd hc (by decide)) (fun _ => ?_)
  refine lv_iload hx hb dL_refuses_25 (lv_at hl 7 rfl) ?_
  refine lv_if_ne (tgt := 34) hx hb dL_refuses_27 (by decide) (fun _ => ?_) (fun hc => absurd hc (by decide))
  refine lv_iload hx hb dL_refuses_34 (lv_at hl 7 rfl) ?_
  refine lv_iconst (v := 2) hx hb dL_refuses_36 (by decide) ?_
  refine lv_icmp_ne (tgt := 45) hx hb dL_refuses_37 (by decide) (fun _ => ?_) (fun hc => absurd hc (by decide))
  refine lv_iload hx hb dL_refuses_45 (lv_at hl 6 rfl) ?_
  refine lv_ineg hx hb dL_refuses_47 ?_
  refine lv_iconst (v := 1) hx hb dL_refuses_48 (by decide) ?_
  refine lv_isub hx hb dL_refuses_49 ?_
  refine kr_top (y := (-2147483648)) (by decide +kernel) ?_
  refine lv_istore (lv' := [(8, .int ((-2147483648))), (0, .ref (ad 0 0)), (1, .int (nI (σ 1 0))), (2, .int (nI (σ 2 0))), (3, .int (nI (σ 3 0))), (4, .int (nI (σ 0 0))), (5, .int (nI (σ 4 0))), (6, .int 2147483647), (7, .int 3)]) hx hb dL_refuses_50 hl (by decide) rfl (fun ls hl => ?_)
  refine lv_iload hx hb dL_refuses_52 (lv_at hl 8 rfl) ?_
  refine lv_iconst (v := 1) hx hb dL_refuses_54 (by decide) ?_
  refine lv_icmp_ne (tgt := 62) hx hb dL_refuses_55 (by decide) (fun _ => ?_) (fun hc => absurd hc (by decide))
  refine lv_iload hx hb dL_refuses_62 (lv_at hl 0 rfl) ?_
  refine lv_istore (lv' := [(9, .int ((-2147483648))), (8, .int ((-2147483648))), (0, .ref (ad 0 0)), (1, .int (nI (σ 1 0))), (2, .int (nI (σ 2 0))), (3, .int (nI (σ 3 0))), (4, .int (nI (σ 0 0))), (5, .int (nI (σ 4 0))), (6, .int 2147483647), (7, .int 3)]) hx hb dL_refuses_64 hl (by decide) rfl (fun ls hl => ?_)
  refine lv_iload hx hb dL_refuses_66 (lv_at hl 9 rfl) ?_
  refine lv_iconst (v := 1) hx hb dL_refuses_68 (by decide) ?_
  refine lv_icmp_ne (tgt := 76) hx hb dL_refuses_69 (by decide) (fun _ => ?_) (fun hc => absurd hc (by decide))
  refine lv_iload hx hb dL_refuses_76 (lv_at hl 1 rfl) ?_
  refine lv_istore (lv' := [(10, .int ((-2147483648))), (9, .int ((-2147483648))), (8, .int ((-2147483648))), (0, .ref (ad 0 0)), (1, .int (nI (σ 1 0))), (2, .int (nI (σ 2 0))), (3, .int (nI (σ 3 0))), (4, .int (nI (σ 0 0))), (5, .int (nI (σ 4 0))), (6, .int 2147483647), (7, .int 3)]) hx hb dL_refuses_78 hl (by decide) rfl (fun ls hl => ?_)
  refine lv_iload hx hb dL_refuses_80 (lv_at hl 10 rfl) ?_
  refine lv_if_ne (tgt := 89) hx hb dL_refuses_82 (by decide) (fun _ => ?_) (fun hc => absurd hc (by decide))
  refine lv_iload hx hb dL_refuses_89 (lv_at hl 2 rfl) ?_
  refine lv_istore (lv' := [(11, .int ((-2147483648))), (10, .int ((-2147483648))), (9, .int ((-2147483648))), (8, .int ((-2147483648))), (0, .ref (ad 0 0)), (1, .int (nI (σ 1 0))), (2, .int (nI (σ 2 0))), (3, .int (nI (σ 3 0))), (4, .int (nI (σ 0 0))), (5, .int (nI (σ 4 0))), (6, .int 2147483647), (7, .int 3)]) hx hb dL_refuses_91 hl (by decide) rfl (fun ls hl => ?_)
  refine lv_aload_n hx hb dL_refuses_93 rfl (lv_at hl 4 rfl) ?_
  refine lv_iconst (v := 0) hx hb dL_refuses_94 (by decide) ?_
  refine lv_iload hx hb dL_refuses_95 (lv_at hl 11 rfl) ?_
  refine lv_if_ne (tgt := 105) hx hb dL_refuses_97 (by decide) (fun _ => ?_) (fun hc => absurd hc (by decide))
  refine lv_iload hx hb dL_refuses_105 (lv_at hl 2 rfl) ?_
  refine lv_iconst (v := 0) hx hb dL_refuses_107 (by decide) ?_
  refine lv_iconst (v := 0) hx hb dL_refuses_108 (by decide) ?_
  refine lv_iconst (v := 0) hx hb dL_refuses_109 (by decide) ?_
  refine kgo_i (kc_SW (As := [.ref (ad 0 0), .int 0, .int (-2147483648), .int 0, .int 0, .int 0]) (rest := []) S hE hS hAb (ax_addRegion1 ε l hw (cpx_addRegion1 ε l hw hB hst (x := ((-2147483648))) (by decide +kernel) (Or.inl (by decide +kernel)))) (vx_cwSW 6 hts gL_refuses_L_act rfl rfl rfl (by decide +kernel) ⟨Nat.le_of_ble_eq_true rfl, Nat.le_of_ble_eq_true rfl⟩) rfl hl.1 rfl (Nat.le_of_ble_eq_true rfl) dL_refuses_110 ⟨Nat.le_of_ble_eq_true rfl, Nat.le_of_ble_eq_true rfl⟩) hS (fun _ h => h) (fun r9 H1 locs e9 hz1 hq hS => ?_)
  have hw := hw.keep (fun k j hk => hq _ (va_at.lt (hw.1 k j hk).1) (fun h => h))
  clear hq hz1
  refine kr_room (c1 := 97) (s1 := 582) rfl rfl ?_
  refine kr_top e9 ?_
  refine lv_bipush (v := -41) hx hb dL_refuses_113 (by decide) ?_
  refine lv_icmp_ne (tgt := 226) hx hb dL_refuses_115 (by decide) (fun hc => absurd (by decide) hc) (fun _ => ?_)
  refine lv_aload_n hx hb dL_refuses_118 rfl (lv_at hl 4 rfl) ?_
  refine lv_iconst (v := 1) hx hb dL_refuses_119 (by decide) ?_
  refine lv_iload hx hb dL_refuses_120 (lv_at hl 11 rfl) ?_
  refine lv_iconst (v := 1) hx hb dL_refuses_122 (by decide) ?_
  refine lv_icmp_ne (tgt := 131) hx hb dL_refuses_123 (by decide) (fun _ => ?_) (fun hc => absurd hc (by decide))
  refine lv_iload hx hb dL_refuses_131 (lv_at hl 0 rfl) ?_
  refine lv_iconst (v := 0) hx hb dL_refuses_133 (by decide) ?_
  refine lv_iconst (v := 0) hx hb dL_refuses_134 (by decide) ?_
  refine lv_iconst (v := 1) hx hb dL_refuses_135 (by decide) ?_
  refine kgo_i (kc_SW (As := [.ref (ad 0 0), .int 1, .int (-2147483648), .int 0, .int 0, .int 1]) (rest := []) S hE hS hAb (ax_addCheck2 ε l hw (cpx_addCheck1 ε l hw hB hst (x1 := ((-2147483648))) (x2 := 0) (x3 := 0) (x4 := 1) (by decide +kernel))) (vx_cwSW 6 hts gL_refuses_L_act rfl rfl rfl (by decide +kernel) ⟨Nat.le_of_ble_eq_true rfl, Nat.le_of_ble_eq_true rfl⟩) rfl hl.1 rfl (Nat.le_of_ble_eq_true rfl) dL_refuses_136 ⟨Nat.le_of_ble_eq_true rfl, Nat.le_of_ble_eq_true rfl⟩) hS (fun _ h => h) (fun r9 H1 locs e9 hz1 hq hS => ?_)
  have hw := hw.keep (fun k j hk => hq _ (va_at.lt (hw.1 k j hk).1) (fun h => h))
  clear hq hz1
  refine kr_room (c1 := 98) (s1 := 588) rfl rfl ?_
  refine kr_top e9 ?_
  refine lv_bipush (v := -42) hx hb dL_refuses_139 (by decide) ?_
  refine lv_icmp_ne (tgt := 226) hx hb dL_refuses_141 (by decide) (fun hc => absurd (by decide) hc) (fun _ => ?_)
  refine lv_aload_n hx hb dL_refuses_144 rfl (lv_at hl 4 rfl) ?_
  refine lv_iconst (v := 1) hx hb dL_refuses_145 (by decide) ?_
  refine lv_iconst (v := 1) hx hb dL_refuses_146 (by decide) ?_
  refine lv_iload hx hb dL_refuses_147 (lv_at hl 11 rfl) ?_
  refine lv_iconst (v := 1) hx hb dL_refuses_149 (by decide) ?_
  refine lv_icmp_ne (tgt := 159) hx hb dL_refuses_150 (by decide) (fun _ => ?_) (fun hc => absurd hc (by decide))
  refine lv_iload hx hb dL_refuses_159 (lv_at hl 3 rfl) ?_
  refine lv_iconst (v := 0) hx hb dL_refuses_161 (by decide) ?_
  refine lv_iconst (v := 1) hx hb dL_refuses_162 (by decide) ?_
  refine kgo_i (kc_SW (As := [.ref (ad 0 0), .int 1, .int 1, .int (-2147483648), .int 0, .int 1]) (rest := []) S hE hS hAb (ax_addCheck2 ε l hw (cpx_addCheck2 ε l hw hB hst (x1 := 1) (x2 := ((-2147483648))) (x3 := 0) (x4 := 1) (by decide +kernel) (by decide +kernel) (by decide +kernel))) (vx_cwSW 6 hts gL_refuses_L_act rfl rfl rfl (by decide +kernel) ⟨Nat.le_of_ble_eq_true rfl, Nat.le_of_ble_eq_true rfl⟩) rfl hl.1 rfl (Nat.le_of_ble_eq_true rfl) dL_refuses_163 ⟨Nat.le_of_ble_eq_true rfl, Nat.le_of_ble_eq_true rfl⟩) hS (fun _ h => h) (fun r9 H1 locs e9 hz1 hq hS => ?_)
  have hw := hw.keep (fun k j hk => hq _ (va_at.lt (hw.1 k j hk).1) (fun h => h))
  clear hq hz1
  refine kr_room (c1 := 99) (s1 := 594) rfl rfl ?_
  refine kr_top e9 ?_
  refine lv_bipush (v := -42) hx hb dL_refuses_166 (by decide) ?_
  refine lv_icmp_ne (tgt := 226) hx hb dL_refuses_168 (by decide) (fun hc => absurd (by decide) hc) (fun _ => ?_)
  refine lv_aload_n hx hb dL_refuses_171 rfl (lv_at hl 4 rfl) ?_
  refine lv_iconst (v := 1) hx hb dL_refuses_172 (by decide) ?_
  refine lv_iconst (v := 1) hx hb dL_refuses_173 (by decide) ?_
  refine lv_iconst (v := 0) hx hb dL_refuses_174 (by decide) ?_
  refine lv_iload hx hb dL_refuses_175 (lv_at hl 11 rfl) ?_
  refine lv_iconst (v := 1) hx hb dL_refuses_177 (by decide) ?_
  refine lv_icmp_ne (tgt := 185) hx hb dL_refuses_178 (by decide) (fun _ => ?_) (fun hc => absurd hc (by decide))
  refine lv_iload hx hb dL_refuses_185 (lv_at hl 3 rfl) ?_
  refine lv_iconst (v := 1) hx hb dL_refuses_187 (by decide) ?_
  refine kgo_i (kc_SW (As := [.ref (ad 0 0), .int 1, .int 1, .int 0, .int (-2147483648), .int 1]) (rest := []) S hE hS hAb (ax_addCheck2 ε l hw (cpx_addCheck3 ε l hw hB hst (x1 := 1) (x2 := 0) (x3 := ((-2147483648))) (x4 := 1) (by decide +kernel) (by decide +kernel) (by decide +kernel) (by decide +kernel) (by decide +kernel))) (vx_cwSW 6 hts gL_refuses_L_act rfl rfl rfl (by decide +kernel) ⟨Nat.le_of_ble_eq_true rfl, Nat.le_of_ble_eq_true rfl⟩) rfl hl.1 rfl (Nat.le_of_ble_eq_true rfl) dL_refuses_188 ⟨Nat.le_of_ble_eq_true rfl, Nat.le_of_ble_eq_true rfl⟩) hS (fun _ h => h) (fun r9 H1 locs e9 hz1 hq hS => ?_)
  have hw := hw.keep (fun k j hk => hq _ (va_at.lt (hw.1 k j hk).1) (fun h => h))
  clear hq hz1
  refine kr_room (c1 := 100) (s1 := 600) rfl rfl ?_
  refine kr_top e9 ?_
  refine lv_bipush (v := -42) hx hb dL_refuses_191 (by decide) ?_
  refine lv_icmp_ne (tgt := 226) hx hb dL_refuses_193 (by decide) (fun hc => absurd (by decide) hc) (fun _ => ?_)
  refine lv_aload_n hx hb dL_refuses_196 rfl (lv_at hl 4 rfl) ?_
  refine lv_iconst (v := 1) hx hb dL_refuses_197 (by decide) ?_
  refine lv_iconst (v := 1) hx hb dL_refuses_198 (by decide) ?_
  refine lv_iconst (v := 0) hx hb dL_refuses_199 (by decide) ?_
  refine lv_iconst (v := 0) hx hb dL_refuses_200 (by decide) ?_
  refine lv_iload hx hb dL_refuses_201 (lv_at hl 11 rfl) ?_
  refine lv_iconst (v := 1) hx hb dL_refuses_203 (by decide) ?_
  refine lv_icmp_ne (tgt := 212) hx hb dL_refuses_204 (by decide) (fun _ => ?_) (fun hc => absurd hc (by decide))
  refine lv_iload hx hb dL_refuses_212 (lv_at hl 0 rfl) ?_
  refine kgo_i (kc_SW (As := [.ref (ad 0 0), .int 1, .int 1, .int 0, .int 0, .int (-2147483648)]) (rest := []) S hE hS hAb (ax_addCheck2 ε l hw (cpx_addCheck4 ε l hw hB hst (x1 := 1) (x2 := 0) (x3 := 0) (x4 := ((-2147483648))) (by decide +kernel) (by decide +kernel) (by decide +kernel) (by decide +kernel) (by decide +kernel) (by decide +kernel) (by decide +kernel))) (vx_cwSW 6 hts gL_refuses_L_act rfl rfl rfl (by decide +kernel) ⟨Nat.le_of_ble_eq_true rfl, Nat.le_of_ble_eq_true rfl⟩) rfl hl.1 rfl (Nat.le_of_ble_eq_true rfl) dL_refuses_214 ⟨Nat.le_of_ble_eq_true rfl, Nat.le_of_ble_eq_true rfl⟩) hS (fun _ h => h) (fun r9 H1 locs e9 hz1 hq hS => ?_)
  have hw := hw.keep (fun k j hk => hq _ (va_at.lt (hw.1 k j hk).1) (fun h => h))
  clear hq hz1
  refine kr_room (c1 := 101) (s1 := 606) rfl rfl ?_
  refine kr_top e9 ?_
  refine lv_bipush (v := -42) hx hb dL_refuses_217 (by decide) ?_
  refine lv_icmp_ne (tgt := 226) hx hb dL_refuses_219 (by decide) (fun hc => absurd (by decide) hc) (fun _ => ?_)
  refine lv_iconst (v := 1) hx hb dL_refuses_222 (by decide) ?_
  refine lv_goto (tgt := 227) hx hb dL_refuses_223 (by decide) ?_
  refine lv_istore (lv' := [(12, .int 1), (11, .int ((-2147483648))), (10, .int ((-2147483648))), (9, .int ((-2147483648))), (8, .int ((-2147483648))), (0, .ref (ad 0 0)), (1, .int (nI (σ 1 0))), (2, .int (nI (σ 2 0))), (3, .int (nI (σ 3 0))), (4, .int (nI (σ 0 0))), (5, .int (nI (σ 4 0))), (6, .int 2147483647), (7, .int 3)]) hx hb dL_refuses_227 hl (by decide) rfl (fun ls hl => ?_)
  refine lv_iload hx hb dL_refuses_229 (lv_at hl 0 rfl) ?_
  refine lv_if_eq (tgt := 446) hx hb dL_refuses_231 (by decide) (fun hc => absurd hc (by decide)) (fun _ => ?_)
  refine lv_aload_n hx hb dL_refuses_234 rfl (lv_at hl 5 rfl) ?_
  refine lv_iconst (v := 2) hx hb dL_refuses_235 (by decide) ?_
  refine lv_iload hx hb dL_refuses_236 (lv_at hl 2 rfl) ?_
  refine lv_iconst (v := 0) hx hb dL_refuses_238 (by decide) ?_
  refine lv_iconst (v := 1) hx hb dL_refuses_239 (by decide) ?_
  refine lv_iconst (v := 0) hx hb dL_refuses_240 (by decide) ?_
  refine kgo_i (kc_SW (As := [.ref (ad 0 0), .int 2, .int (-2147483648), .int 0, .int 1, .int 0]) (rest := []) S hE hS hAb (ax_setDown1 ε l hw (cpx_setDown1 ε l hw hB hst (x := ((-2147483648))) (y := 0) (z := 1) (Or.inl (by decide +kernel)))) (vx_cwSW 6 hts gL_refuses_L_act rfl rfl rfl (by decide +kernel) ⟨Nat.le_of_ble_eq_true rfl, Nat.le_of_ble_eq_true rfl⟩) rfl hl.1 rfl (Nat.le_of_ble_eq_true rfl) dL_refuses_241 ⟨Nat.le_of_ble_eq_true rfl, Nat.le_of_ble_eq_true rfl⟩) hS (fun _ h => h) (fun r9 H1 locs e9 hz1 hq hS => ?_)
  have hw := hw.keep (fun k j hk => hq _ (va_at.lt (hw.1 k j hk).1) (fun h => h))
  clear hq hz1
  refine kr_room (c1 := 102) (s1 := 612) rfl rfl ?_
  refine kr_top e9 ?_
  refine lv_bipush (v := -41) hx hb dL_refuses_244 (by decide) ?_
  refine lv_icmp_ne (tgt := 446) hx hb dL_refuses_246 (by decide) (fun hc => absurd (by decide) hc) (fun _ => ?_)
  refine lv_aload_n hx hb dL_refuses_249 rfl (lv_at hl 5 rfl) ?_
  refine lv_iconst (v := 2) hx hb dL_refuses_250 (by decide) ?_
  refine lv_iconst (v := 0) hx hb dL_refuses_251 (by decide) ?_
  refine lv_iload hx hb dL_refuses_252 (lv_at hl 3 rfl) ?_
  refine lv_iconst (v := 1) hx hb dL_refuses_254 (by decide) ?_
  refine lv_iconst (v := 0) hx hb dL_refuses_255 (by decide) ?_
  refine kgo_i (kc_SW (As := [.ref (ad 0 0), .int 2, .int (nI 0), .int (-2147483648), .int 1, .int 0]) (rest := []) S hE hS hAb (ax_setDown1 ε l hw (cpx_setDown2 ε l hw hB hst (i := 0) (y := ((-2147483648))) (z := 1) h2 (Or.inl (by decide +kernel)))) (vx_cwSW 6 hts gL_refuses_L_act rfl rfl rfl (by decide +kernel) ⟨Nat.le_of_ble_eq_true rfl, Nat.le_of_ble_eq_true rfl⟩) rfl hl.1 rfl (Nat.le_of_ble_eq_true rfl) dL_refuses_256 ⟨Nat.le_of_ble_eq_true rfl, Nat.le_of_ble_eq_true rfl⟩) hS (fun _ h => h) (fun r9 H1 locs e9 hz1 hq hS => ?_)
  have hw := hw.keep (fun k j hk => hq _ (va_at.lt (hw.1 k j hk).1) (fun h => h))
  clear hq hz1
  refine kr_room (c1 := 103) (s1 := 618) rfl rfl ?_
  refine kr_top e9 ?_
  refine lv_bipush (v := -41) hx hb dL_refuses_259 (by decide) ?_
  refine lv_icmp_ne (tgt := 446) hx hb dL_refuses_261 (by decide) (fun hc => absurd (by decide) hc) (fun _ => ?_)
  refine lv_aload_n hx hb dL_refuses_264 rfl (lv_at hl 5 rfl) ?_
  refine lv_iconst (v := 3) hx hb dL_refuses_265 (by decide) ?_
  refine lv_iload hx hb dL_refuses_266 (lv_at hl 3 rfl) ?_
  refine lv_iconst (v := 1) hx hb dL_refuses_268 (by decide) ?_
  refine lv_iconst (v := 0) hx hb dL_refuses_269 (by decide) ?_
  refine lv_iconst (v := 0) hx hb dL_refuses_270 (by decide) ?_
  refine kgo_i (kc_SW (As := [.ref (ad 0 0), .int 3, .int (-2147483648), .int 1, .int 0, .int 0]) (rest := []) S hE hS hAb (ax_setCut1 ε l hw (cpx_setCut ε l hw hB hst (x := ((-2147483648))) (y := 1) (Or.inl (by decide +kernel)))) (vx_cwSW 6 hts gL_refuses_L_act rfl rfl rfl (by decide +kernel) ⟨Nat.le_of_ble_eq_true rfl, Nat.le_of_ble_eq_true rfl⟩) rfl hl.1 rfl (Nat.le_of_ble_eq_true rfl) dL_refuses_271 ⟨Nat.le_of_ble_eq_true rfl, Nat.le_of_ble_eq_true rfl⟩) hS (fun _ h => h) (fun r9 H1 locs e9 hz1 hq hS => ?_)
  have hw := hw.keep (fun k j hk => hq _ (va_at.lt (hw.1 k j hk).1) (fun h => h))
  clear hq hz1
  refine kr_room (c1 := 104) (s1 := 624) rfl rfl ?_
  refine kr_top e9 ?_
  refine lv_bipush (v := -41) hx hb dL_refuses_274 (by decide) ?_
  refine lv_icmp_ne (tgt := 446) hx hb dL_refuses_276 (by decide) (fun hc => absurd (by decide) hc) (fun _ => ?_)
  refine lv_aload_n hx hb dL_refuses_279 rfl (lv_at hl 5 rfl) ?_
  refine lv_iconst (v := 4) hx hb dL_refuses_280 (by decide) ?_
  refine lv_iload hx hb dL_refuses_281 (lv_at hl 2 rfl) ?_
  refine lv_iconst (v := 0) hx hb dL_refuses_283 (by decide) ?_
  refine lv_iconst (v := 0) hx hb dL_refuses_284 (by decide) ?_
  refine lv_iconst (v := 0) hx hb dL_refuses_285 (by decide) ?_
  refine kgo_i (kc_SW (As := [.ref (ad 0 0), .int 4, .int (-2147483648), .int 0, .int 0, .int 0]) (rest := []) S hE hS hAb (ax_setQuorum1 ε l hw (cpx_setQuorum1 ε l hw hB hst (x := ((-2147483648))) (y := 0) (Or.inl (by decide +kernel)))) (vx_cwSW 6 hts gL_refuses_L_act rfl rfl rfl (by decide +kernel) ⟨Nat.le_of_ble_eq_true rfl, Nat.le_of_ble_eq_true rfl⟩) rfl hl.1 rfl (Nat.le_of_ble_eq_true rfl) dL_refuses_286 ⟨Nat.le_of_ble_eq_true rfl, Nat.le_of_ble_eq_true rfl⟩) hS (fun _ h => h) (fun r9 H1 locs e9 hz1 hq hS => ?_)
  have hw := hw.keep (fun k j hk => hq _ (va_at.lt (hw.1 k j hk).1) (fun h => h))
  clear hq hz1
  refine kr_room (c1 := 105) (s1 := 630) rfl rfl ?_
  refine kr_top e9 ?_
  refine lv_bipush (v := -41) hx hb dL_refuses_289 (by decide) ?_
  refine lv_icmp_ne (tgt := 446) hx hb dL_refuses_291 (by decide) (fun hc => absurd (by decide) hc) (fun _ => ?_)
  refine lv_aload_n hx hb dL_refuses_294 rfl (lv_at hl 5 rfl) ?_
  refine lv_iconst (v := 4) hx hb dL_refuses_295 (by decide) ?_
  refine lv_iconst (v := 0) hx hb dL_refuses_296 (by decide) ?_
  refine lv_iload hx hb dL_refuses_297 (lv_at hl 12 rfl) ?_
  refine lv_iconst (v := 1) hx hb dL_refuses_299 (by decide) ?_
  refine lv_icmp_ne (tgt := 308) hx hb dL_refuses_300 (by decide) (fun _ => ?_) (fun hc => absurd hc (by decide))
  refine lv_iload hx hb dL_refuses_308 (lv_at hl 1 rfl) ?_
  refine lv_iconst (v := 0) hx hb dL_refuses_310 (by decide) ?_
  refine lv_iconst (v := 0) hx hb dL_refuses_311 (by decide) ?_
  refine kgo_i (kc_SW (As := [.ref (ad 0 0), .int 4, .int (nI 0), .int (-2147483648), .int 0, .int 0]) (rest := []) S hE hS hAb (ax_setQuorum2 ε l hw (cpx_setQuorum2 ε l hw hB hst (i := 0) (y := ((-2147483648))) h2 (by decide +kernel))) (vx_cwSW 6 hts gL_refuses_L_act rfl rfl rfl (by decide +kernel) ⟨Nat.le_of_ble_eq_true rfl, Nat.le_of_ble_eq_true rfl⟩) rfl hl.1 rfl (Nat.le_of_ble_eq_true rfl) dL_refuses_312 ⟨Nat.le_of_ble_eq_true rfl, Nat.le_of_ble_eq_true rfl⟩) hS (fun _ h => h) (fun r9 H1 locs e9 hz1 hq hS => ?_)
  have hw := hw.keep (fun k j hk => hq _ (va_at.lt (hw.1 k j hk).1) (fun h => h))
  clear hq hz1
  refine kr_room (c1 := 106) (s1 := 636) rfl rfl ?_
  refine kr_top e9 ?_
  refine lv_bipush (v := -42) hx hb dL_refuses_315 (by decide) ?_
  refine lv_icmp_ne (tgt := 446) hx hb dL_refuses_317 (by decide) (fun hc => absurd (by decide) hc) (fun _ => ?_)
  refine lv_aload_n hx hb dL_refuses_320 rfl (lv_at hl 5 rfl) ?_
  refine lv_iconst (v := 5) hx hb dL_refuses_321 (by decide) ?_
  refine lv_iload hx hb dL_refuses_322 (lv_at hl 2 rfl) ?_
  refine lv_iconst (v := -1) hx hb dL_refuses_324 (by decide) ?_
  refine lv_iconst (v := 0) hx hb dL_refuses_325 (by decide) ?_
  refine lv_iconst (v := 0) hx hb dL_refuses_326 (by decide) ?_
  refine kgo_i (kc_SW (As := [.ref (ad 0 0), .int 5, .int (-2147483648), .int (-1), .int 0, .int 0]) (rest := []) S hE hS hAb (ax_addWindow1 ε l hw (cpx_addWindow1 ε l hw hB hst (x := ((-2147483648))) (x2 := (-1)) (x3 := 0) (Or.inl (by decide +kernel)))) (vx_cwSW 6 hts gL_refuses_L_act rfl rfl rfl (by decide +kernel) ⟨Nat.le_of_ble_eq_true rfl, Nat.le_of_ble_eq_true rfl⟩) rfl hl.1 rfl (Nat.le_of_ble_eq_true rfl) dL_refuses_327 ⟨Nat.le_of_ble_eq_true rfl, Nat.le_of_ble_eq_true rfl⟩) hS (fun _ h => h) (fun r9 H1 locs e9 hz1 hq hS => ?_)
  have hw := hw.keep (fun k j hk => hq _ (va_at.lt (hw.1 k j hk).1) (fun h => h))
  clear hq hz1
  refine kr_room (c1 := 107) (s1 := 642) rfl rfl ?_
  refine kr_top e9 ?_
  refine lv_bipush (v := -41) hx hb dL_refuses_330 (by decide) ?_
  refine lv_icmp_ne (tgt := 446) hx hb dL_refuses_332 (by decide) (fun hc => absurd (by decide) hc) (fun _ => ?_)
  refine lv_aload_n hx hb dL_refuses_335 rfl (lv_at hl 5 rfl) ?_
  refine lv_iconst (v := 5) hx hb dL_refuses_336 (by decide) ?_
  refine lv_iconst (v := 0) hx hb dL_refuses_337 (by decide) ?_
  refine lv_iload hx hb dL_refuses_338 (lv_at hl 12 rfl) ?_
  refine lv_iconst (v := 1) hx hb dL_refuses_340 (by decide) ?_
  refine lv_icmp_ne (tgt := 349) hx hb dL_refuses_341 (by decide) (fun _ => ?_) (fun hc => absurd hc (by decide))
  refine lv_iload hx hb dL_refuses_349 (lv_at hl 4 rfl) ?_
  refine lv_iconst (v := 1) hx hb dL_refuses_351 (by decide) ?_
  refine lv_iconst (v := 0) hx hb dL_refuses_352 (by decide) ?_
  refine kgo_i (kc_SW (As := [.ref (ad 0 0), .int 5, .int (nI 0), .int (-2147483648), .int 1, .int 0]) (rest := []) S hE hS hAb (ax_addWindow2 ε l hw (cpx_addWindow2 ε l hw hB hst (i := 0) (x2 := ((-2147483648))) (x3 := 1) h2 (by decide +kernel))) (vx_cwSW 6 hts gL_refuses_L_act rfl rfl rfl (by decide +kernel) ⟨Nat.le_of_ble_eq_true rfl, Nat.le_of_ble_eq_true rfl⟩) rfl hl.1 rfl (Nat.le_of_ble_eq_true rfl) dL_refuses_353 ⟨Nat.le_of_ble_eq_true rfl, Nat.le_of_ble_eq_true rfl⟩) hS (fun _ h => h) (fun r9 H1 locs e9 hz1 hq hS => ?_)
  have hw := hw.keep (fun k j hk => hq _ (va_at.lt (hw.1 k j hk).1) (fun h => h))
  clear hq hz1
  refine kr_room (c1 := 108) (s1 := 648) rfl rfl ?_
  refine kr_top e9 ?_
  refine lv_bipush (v := -42) hx hb dL_refuses_356 (by decide) ?_
  refine lv_icmp_ne (tgt := 446) hx hb dL_refuses_358 (by decide) (fun hc => absurd (by decide) hc) (fun _ => ?_)
  refine lv_aload_n hx hb dL_refuses_361 rfl (lv_at hl 5 rfl) ?_
  refine lv_iconst (v := 5) hx hb dL_refuses_362 (by decide) ?_
  refine lv_iconst (v := 0) hx hb dL_refuses_363 (by decide) ?_
  refine lv_iconst (v := 0) hx hb dL_refuses_364 (by decide) ?_
  refine lv_iload hx hb dL_refuses_365 (lv_at hl 12 rfl) ?_
  refine lv_iconst (v := 1) hx hb dL_refuses_367 (by decide) ?_
  refine lv_icmp_ne (tgt := 377) hx hb dL_refuses_368 (by decide) (fun _ => ?_) (fun hc => absurd hc (by decide))
  refine lv_iload hx hb dL_refuses_377 (lv_at hl 1 rfl) ?_
  refine lv_iconst (v := 0) hx hb dL_refuses_379 (by decide) ?_
  refine kgo_i (kc_SW (As := [.ref (ad 0 0), .int 5, .int (nI 0), .int 0, .int (-2147483648), .int 0]) (rest := []) S hE hS hAb (ax_addWindow2 ε l hw (cpx_addWindow3 ε l hw hB hst (i := 0) (x2 := 0) (x3 := ((-2147483648))) h2 (by decide +kernel) (by decide +kernel) (by decide +kernel))) (vx_cwSW 6 hts gL_refuses_L_act rfl rfl rfl (by decide +kernel) ⟨Nat.le_of_ble_eq_true rfl, Nat.le_of_ble_eq_true rfl⟩) rfl hl.1 rfl (Nat.le_of_ble_eq_true rfl) dL_refuses_380 ⟨Nat.le_of_ble_eq_true rfl, Nat.le_of_ble_eq_true rfl⟩) hS (fun _ h => h) (fun r9 H1 locs e9 hz1 hq hS => ?_)
  have hw := hw.keep (fun k j hk => hq _ (va_at.lt (hw.1 k j hk).1) (fun h => h))
  clear hq hz1
  refine kr_room (c1 := 109) (s1 := 654) rfl rfl ?_
  refine kr_top e9 ?_
  refine lv_bipush (v := -42) hx hb dL_refuses_383 (by decide) ?_
  refine lv_icmp_ne (tgt := 446) hx hb dL_refuses_385 (by decide) (fun hc => absurd (by decide) hc) (fun _ => ?_)
  refine lv_aload_n hx hb dL_refuses_388 rfl (lv_at hl 5 rfl) ?_
  refine lv_bipush (v := 6) hx hb dL_refuses_389 (by decide) ?_
  refine lv_iload hx hb dL_refuses_391 (lv_at hl 12 rfl) ?_
  refine lv_iconst (v := 1) hx hb dL_refuses_393 (by decide) ?_
  refine lv_icmp_ne (tgt := 401) hx hb dL_refuses_394 (by decide) (fun _ => ?_) (fun hc => absurd hc (by decide))
  refine lv_iload hx hb dL_refuses_401 (lv_at hl 4 rfl) ?_
  refine lv_iconst (v := 0) hx hb dL_refuses_403 (by decide) ?_
  refine lv_iconst (v := 0) hx hb dL_refuses_404 (by decide) ?_
  refine lv_iconst (v := 0) hx hb dL_refuses_405 (by decide) ?_
  refine kgo_i (kc_SW (As := [.ref (ad 0 0), .int 6, .int (-2147483648), .int 0, .int 0, .int 0]) (rest := []) S hE hS hAb (ax_endWindow1 ε l hw (cpx_endWindow ε l hw hB hst (x := ((-2147483648))) (Or.inl (by decide +kernel)))) (vx_cwSW 6 hts gL_refuses_L_act rfl rfl rfl (by decide +kernel) ⟨Nat.le_of_ble_eq_true rfl, Nat.le_of_ble_eq_true rfl⟩) rfl hl.1 rfl (Nat.le_of_ble_eq_true rfl) dL_refuses_406 ⟨Nat.le_of_ble_eq_true rfl, Nat.le_of_ble_eq_true rfl⟩) hS (fun _ h => h) (fun r9 H1 locs e9 hz1 hq hS => ?_)
  have hw := hw.keep (fun k j hk => hq _ (va_at.lt (hw.1 k j hk).1) (fun h => h))
  clear hq hz1
  refine kr_room (c1 := 110) (s1 := 660) rfl rfl ?_
  refine kr_top e9 ?_
  refine lv_bipush (v := -41) hx hb dL_refuses_409 (by decide) ?_
  refine lv_icmp_ne (tgt := 446) hx hb dL_refuses_411 (by decide) (fun hc => absurd (by decide) hc) (fun _ => ?_)
  refine lv_aload_n hx hb dL_refuses_414 rfl (lv_at hl 5 rfl) ?_
  refine lv_bipush (v := 7) hx hb dL_refuses_415 (by decide) ?_
  refine lv_iload hx hb dL_refuses_417 (lv_at hl 12 rfl) ?_
  refine lv_iconst (v := 1) hx hb dL_refuses_419 (by decide) ?_
  refine lv_icmp_ne (tgt := 429) hx hb dL_refuses_420 (by decide) (fun _ => ?_) (fun hc => absurd hc (by decide))
  refine lv_iload hx hb dL_refuses_429 (lv_at hl 1 rfl) ?_
  refine lv_iconst (v := 0) hx hb dL_refuses_431 (by decide) ?_
  refine lv_iconst (v := 0) hx hb dL_refuses_432 (by decide) ?_
  refine lv_iconst (v := 0) hx hb dL_refuses_433 (by decide) ?_
  refine kgo_i (kc_SW (As := [.ref (ad 0 0), .int 7, .int (-2147483648), .int 0, .int 0, .int 0]) (rest := []) S hE hS hAb (ax_pass2 ε l hw (cpx_pass ε l hw hB hst (x := ((-2147483648))) (by decide +kernel))) (vx_cwSW 6 hts gL_refuses_L_act rfl rfl rfl (by decide +kernel) ⟨Nat.le_of_ble_eq_true rfl, Nat.le_of_ble_eq_true rfl⟩) rfl hl.1 rfl (Nat.le_of_ble_eq_true rfl) dL_refuses_434 ⟨Nat.le_of_ble_eq_true rfl, Nat.le_of_ble_eq_true rfl⟩) hS (fun _ h => h) (fun r9 H1 locs e9 hz1 hq hS => ?_)
  have hw := hw.keep (fun k j hk => hq _ (va_at.lt (hw.1 k j hk).1) (fun h => h))
  clear hq hz1
  refine kr_room (c1 := 111) (s1 := 666) rfl rfl ?_
  refine kr_top e9 ?_
  refine lv_bipush (v := -42) hx hb dL_refuses_437 (by decide) ?_
  refine lv_icmp_ne (tgt := 446) hx hb dL_refuses_439 (by decide) (fun hc => absurd (by decide) hc) (fun _ => ?_)
  refine lv_iconst (v := 1) hx hb dL_refuses_442 (by decide) ?_
  refine lv_goto (tgt := 447) hx hb dL_refuses_443 (by decide) ?_
  refine lv_istore (lv' := [(12, .int 1), (11, .int ((-2147483648))), (10, .int ((-2147483648))), (9, .int ((-2147483648))), (8, .int ((-2147483648))), (0, .ref (ad 0 0)), (1, .int (nI (σ 1 0))), (2, .int (nI (σ 2 0))), (3, .int (nI (σ 3 0))), (4, .int (nI (σ 0 0))), (5, .int (nI (σ 4 0))), (6, .int 2147483647), (7, .int 3)]) hx hb dL_refuses_447 hl (by decide) rfl (fun ls hl => ?_)
  refine lv_bipush (v := 8) hx hb dL_refuses_449 (by decide) ?_
  refine lv_istore (lv' := [(13, .int 8), (12, .int 1), (11, .int ((-2147483648))), (10, .int ((-2147483648))), (9, .int ((-2147483648))), (8, .int ((-2147483648))), (0, .ref (ad 0 0)), (1, .int (nI (σ 1 0))), (2, .int (nI (σ 2 0))), (3, .int (nI (σ 3 0))), (4, .int (nI (σ 0 0))), (5, .int (nI (σ 4 0))), (6, .int 2147483647), (7, .int 3)]) hx hb dL_refuses_451 hl (by decide) rfl (fun ls hl => ?_)
  refine lv_iload hx hb dL_refuses_453 (lv_at hl 0 rfl) ?_
  refine lv_bipush (v := 13) hx hb dL_refuses_455 (by decide) ?_
  refine lv_icmp_ge (tgt := 494) hx hb dL_refuses_457 (by decide) (fun hc => absurd hc (by decide)) (fun _ => ?_)
  refine lv_iload hx hb dL_refuses_460 (lv_at hl 1 rfl) ?_
  refine lv_if_eq (tgt := 485) hx hb dL_refuses_462 (by decide) (fun hc => absurd hc (by decide)) (fun _ => ?_)
  refine lv_aload_n hx hb dL_refuses_465 rfl (lv_at hl 6 rfl) ?_
  refine lv_iload hx hb dL_refuses_466 (lv_at hl 0 rfl) ?_
  refine lv_iload hx hb dL_refuses_468 (lv_at hl 3 rfl) ?_
  refine lv_iconst (v := 0) hx hb dL_refuses_470 (by decide) ?_
  refine lv_iconst (v := 0) hx hb dL_refuses_471 (by decide) ?_
  refine lv_iconst (v := 0) hx hb dL_refuses_472 (by decide) ?_
  refine kgo_i (kc_SW (As := [.ref (ad 0 0), .int 8, .int (-2147483648), .int 0, .int 0, .int 0]) (rest := []) S hE hS hAb (ax_failing1 ε l hw (cpx_failing ε l hw hB hst (x := ((-2147483648))) (Or.inl (by decide +kernel)))) (vx_cwSW 6 hts gL_refuses_L_act rfl rfl rfl (by decide +kernel) ⟨Nat.le_of_ble_eq_true rfl, Nat.le_of_ble_eq_true rfl⟩) rfl hl.1 rfl (Nat.le_of_ble_eq_true rfl) dL_refuses_473 ⟨Nat.le_of_ble_eq_true rfl, Nat.le_of_ble_eq_true rfl⟩) hS (fun _ h => h) (fun r9 H1 locs e9 hz1 hq hS => ?_)
  have hw := hw.keep (fun k j hk => hq _ (va_at.lt (hw.1 k j hk).1) (fun h => h))
  clear hq hz1
  refine kr_room (c1 := 112) (s1 := 672) rfl rfl ?_
  refine kr_top e9 ?_
  refine lv_bipush (v := -41) hx hb dL_refuses_476 (by decide) ?_
  refine lv_icmp_ne (tgt := 485) hx hb dL_refuses_478 (by decide) (fun hc => absurd (by decide) hc) (fun _ => ?_)
  refine lv_iconst (v := 1) hx hb dL_refuses_481 (by decide) ?_
  refine lv_goto (tgt := 486) hx hb dL_refuses_482 (by decide) ?_
  refine lv_istore (lv' := [(12, .int 1), (13, .int 8), (11, .int ((-2147483648))), (10, .int ((-2147483648))), (9, .int ((-2147483648))), (8, .int ((-2147483648))), (0, .ref (ad 0 0)), (1, .int (nI (σ 1 0))), (2, .int (nI (σ 2 0))), (3, .int (nI (σ 3 0))), (4, .int (nI (σ 0 0))), (5, .int (nI (σ 4 0))), (6, .int 2147483647), (7, .int 3)]) hx hb dL_refuses_486 hl (by decide) rfl (fun ls hl => ?_)
  refine lv_iinc (v := 9) (lv' := [(13, .int 9), (12, .int 1), (11, .int ((-2147483648))), (10, .int ((-2147483648))), (9, .int ((-2147483648))), (8, .int ((-2147483648))), (0, .ref (ad 0 0)), (1, .int (nI (σ 1 0))), (2, .int (nI (σ 2 0))), (3, .int (nI (σ 3 0))), (4, .int (nI (σ 0 0))), (5, .int (nI (σ 4 0))), (6, .int 2147483647), (7, .int 3)]) hx hb dL_refuses_488 hl (k := 1) rfl (by decide) (by decide) rfl (fun ls hl => ?_)
  refine lv_goto (tgt := 453) hx hb dL_refuses_491 (by decide) ?_
  refine lv_iload hx hb dL_refuses_453 (lv_at hl 0 rfl) ?_
  refine lv_bipush (v := 13) hx hb dL_refuses_455 (by decide) ?_
  refine lv_icmp_ge (tgt := 494) hx hb dL_refuses_457 (by decide) (fun hc => absurd hc (by decide)) (fun _ => ?_)
  refine lv_iload hx hb dL_refuses_460 (lv_at hl 1 rfl) ?_
  refine lv_if_eq (tgt := 485) hx hb dL_refuses_462 (by decide) (fun hc => absurd hc (by decide)) (fun _ => ?_)
  refine lv_aload_n hx hb dL_refuses_465 rfl (lv_at hl 6 rfl) ?_
  refine lv_iload hx hb dL_refuses_466 (lv_at hl 0 rfl) ?_
  refine lv_iload hx hb dL_refuses_468 (lv_at hl 3 rfl) ?_
  refine lv_iconst (v := 0) hx hb dL_refuses_470 (by decide) ?_
  refine lv_iconst (v := 0) hx hb dL_refuses_471 (by decide) ?_
  refine lv_iconst (v := 0) hx hb dL_refuses_472 (by decide) ?_
  refine kgo_i (kc_SW (As := [.ref (ad 0 0), .int 9, .int (-2147483648), .int 0, .int 0, .int 0]) (rest := []) S hE hS hAb (ax_verdict1 ε l hw (cpx_verdict ε l hw hB hst (x := ((-2147483648))) (Or.inl (by decide +kernel)))) (vx_cwSW 6 hts gL_refuses_L_act rfl rfl rfl (by decide +kernel) ⟨Nat.le_of_ble_eq_true rfl, Nat.le_of_ble_eq_true rfl⟩) rfl hl.1 rfl (Nat.le_of_ble_eq_true rfl) dL_refuses_473 ⟨Nat.le_of_ble_eq_true rfl, Nat.le_of_ble_eq_true rfl⟩) hS (fun _ h => h) (fun r9 H1 locs e9 hz1 hq hS => ?_)
  have hw := hw.keep (fun k j hk => hq _ (va_at.lt (hw.1 k j hk).1) (fun h => h))
  clear hq hz1
  refine kr_room (c1 := 113) (s1 := 678) rfl rfl ?_
  refine kr_top e9 ?_
  refine lv_bipush (v := -41) hx hb dL_refuses_476 (by decide) ?_
  refine lv_icmp_ne (tgt := 485) hx hb dL_refuses_478 (by decide) (fun hc => absurd (by decide) hc) (fun _ => ?_)
  refine lv_iconst (v := 1) hx hb dL_refuses_481 (by decide) ?_
  refine lv_goto (tgt := 486) hx hb dL_refuses_482 (by decide) ?_
  refine lv_istore (lv' := [(12, .int 1), (13, .int 9), (11, .int ((-2147483648))), (10, .int ((-2147483648))), (9, .int ((-2147483648))), (8, .int ((-2147483648))), (0, .ref (ad 0 0)), (1, .int (nI (σ 1 0))), (2, .int (nI (σ 2 0))), (3, .int (nI (σ 3 0))), (4, .int (nI (σ 0 0))), (5, .int (nI (σ 4 0))), (6, .int 2147483647), (7, .int 3)]) hx hb dL_refuses_486 hl (by decide) rfl (fun ls hl => ?_)
  refine lv_iinc (v := 10) (lv' := [(13, .int 10), (12, .int 1), (11, .int ((-2147483648))), (10, .int ((-2147483648))), (9, .int ((-2147483648))), (8, .int ((-2147483648))), (0, .ref (ad 0 0)), (1, .int (nI (σ 1 0))), (2, .int (nI (σ 2 0))), (3, .int (nI (σ 3 0))), (4, .int (nI (σ 0 0))), (5, .int (nI (σ 4 0))), (6, .int 2147483647), (7, .int 3)]) hx hb dL_refuses_488 hl (k := 1) rfl (by decide) (by decide) rfl (fun ls hl => ?_)
  refine lv_goto (tgt := 453) hx hb dL_refuses_491 (by decide) ?_
  refine lv_iload hx hb dL_refuses_453 (lv_at hl 0 rfl) ?_
  refine lv_bipush (v := 13) hx hb dL_refuses_455 (by decide) ?_
  refine lv_icmp_ge (tgt := 494) hx hb dL_refuses_457 (by decide) (fun hc => absurd hc (by decide)) (fun _ => ?_)
  refine lv_iload hx hb dL_refuses_460 (lv_at hl 1 rfl) ?_
  refine lv_if_eq (tgt := 485) hx hb dL_refuses_462 (by decide) (fun hc => absurd hc (by decide)) (fun _ => ?_)
  refine lv_aload_n hx hb dL_refuses_465 rfl (lv_at hl 6 rfl) ?_
  refine lv_iload hx hb dL_refuses_466 (lv_at hl 0 rfl) ?_
  refine lv_iload hx hb dL_refuses_468 (lv_at hl 3 rfl) ?_
  refine lv_iconst (v := 0) hx hb dL_refuses_470 (by decide) ?_
  refine lv_iconst (v := 0) hx hb dL_refuses_471 (by decide) ?_
  refine lv_iconst (v := 0) hx hb dL_refuses_472 (by decide) ?_
  refine kgo_i (kc_SW (As := [.ref (ad 0 0), .int 10, .int (-2147483648), .int 0, .int 0, .int 0]) (rest := []) S hE hS hAb (ax_trusted1 ε l hw (cpx_trusted ε l hw hB hst (x := ((-2147483648))) (Or.inl (by decide +kernel)))) (vx_cwSW 6 hts gL_refuses_L_act rfl rfl rfl (by decide +kernel) ⟨Nat.le_of_ble_eq_true rfl, Nat.le_of_ble_eq_true rfl⟩) rfl hl.1 rfl (Nat.le_of_ble_eq_true rfl) dL_refuses_473 ⟨Nat.le_of_ble_eq_true rfl, Nat.le_of_ble_eq_true rfl⟩) hS (fun _ h => h) (fun r9 H1 locs e9 hz1 hq hS => ?_)
  have hw := hw.keep (fun k j hk => hq _ (va_at.lt (hw.1 k j hk).1) (fun h => h))
  clear hq hz1
  refine kr_room (c1 := 114) (s1 := 684) rfl rfl ?_
  refine kr_top e9 ?_
  refine lv_bipush (v := -41) hx hb dL_refuses_476 (by decide) ?_
  refine lv_icmp_ne (tgt := 485) hx hb dL_refuses_478 (by decide) (fun hc => absurd (by decide) hc) (fun _ => ?_)
  refine lv_iconst (v := 1) hx hb dL_refuses_481 (by decide) ?_
  refine lv_goto (tgt := 486) hx hb dL_refuses_482 (by decide) ?_
  refine lv_istore (lv' := [(12, .int 1), (13, .int 10), (11, .int ((-2147483648))), (10, .int ((-2147483648))), (9, .int ((-2147483648))), (8, .int ((-2147483648))), (0, .ref (ad 0 0)), (1, .int (nI (σ 1 0))), (2, .int (nI (σ 2 0))), (3, .int (nI (σ 3 0))), (4, .int (nI (σ 0 0))), (5, .int (nI (σ 4 0))), (6, .int 2147483647), (7, .int 3)]) hx hb dL_refuses_486 hl (by decide) rfl (fun ls hl => ?_)
  refine lv_iinc (v := 11) (lv' := [(13, .int 11), (12, .int 1), (11, .int ((-2147483648))), (10, .int ((-2147483648))), (9, .int ((-2147483648))), (8, .int ((-2147483648))), (0, .ref (ad 0 0)), (1, .int (nI (σ 1 0))), (2, .int (nI (σ 2 0))), (3, .int (nI (σ 3 0))), (4, .int (nI (σ 0 0))), (5, .int (nI (σ 4 0))), (6, .int 2147483647), (7, .int 3)]) hx hb dL_refuses_488 hl (k := 1) rfl (by decide) (by decide) rfl (fun ls hl => ?_)
  refine lv_goto (tgt := 453) hx hb dL_refuses_491 (by decide) ?_
  refine lv_iload hx hb dL_refuses_453 (lv_at hl 0 rfl) ?_
  refine lv_bipush (v := 13) hx hb dL_refuses_455 (by decide) ?_
  refine lv_icmp_ge (tgt := 494) hx hb dL_refuses_457 (by decide) (fun hc => absurd hc (by decide)) (fun _ => ?_)
  refine lv_iload hx hb dL_refuses_460 (lv_at hl 1 rfl) ?_
  refine lv_if_eq (tgt := 485) hx hb dL_refuses_462 (by decide) (fun hc => absurd hc (by decide)) (fun _ => ?_)
  refine lv_aload_n hx hb dL_refuses_465 rfl (lv_at hl 6 rfl) ?_
  refine lv_iload hx hb dL_refuses_466 (lv_at hl 0 rfl) ?_
  refine lv_iload hx hb dL_refuses_468 (lv_at hl 3 rfl) ?_
  refine lv_iconst (v := 0) hx hb dL_refuses_470 (by decide) ?_
  refine lv_iconst (v := 0) hx hb dL_refuses_471 (by decide) ?_
  refine lv_iconst (v := 0) hx hb dL_refuses_472 (by decide) ?_
  refine kgo_i (kc_SW (As := [.ref (ad 0 0), .int 11, .int (-2147483648), .int 0, .int 0, .int 0]) (rest := []) S hE hS hAb (ax_hasAlarm1 ε l hw (cpx_hasAlarm ε l hw hB hst (x := ((-2147483648))) (Or.inl (by decide +kernel)))) (vx_cwSW 6 hts gL_refuses_L_act rfl rfl rfl (by decide +kernel) ⟨Nat.le_of_ble_eq_true rfl, Nat.le_of_ble_eq_true rfl⟩) rfl hl.1 rfl (Nat.le_of_ble_eq_true rfl) dL_refuses_473 ⟨Nat.le_of_ble_eq_true rfl, Nat.le_of_ble_eq_true rfl⟩) hS (fun _ h => h) (fun r9 H1 locs e9 hz1 hq hS => ?_)
  have hw := hw.keep (fun k j hk => hq _ (va_at.lt (hw.1 k j hk).1) (fun h => h))
  clear hq hz1
  refine kr_room (c1 := 115) (s1 := 690) rfl rfl ?_
  refine kr_top e9 ?_
  refine lv_bipush (v := -41) hx hb dL_refuses_476 (by decide) ?_
  refine lv_icmp_ne (tgt := 485) hx hb dL_refuses_478 (by decide) (fun hc => absurd (by decide) hc) (fun _ => ?_)
  refine lv_iconst (v := 1) hx hb dL_refuses_481 (by decide) ?_
  refine lv_goto (tgt := 486) hx hb dL_refuses_482 (by decide) ?_
  refine lv_istore (lv' := [(12, .int 1), (13, .int 11), (11, .int ((-2147483648))), (10, .int ((-2147483648))), (9, .int ((-2147483648))), (8, .int ((-2147483648))), (0, .ref (ad 0 0)), (1, .int (nI (σ 1 0))), (2, .int (nI (σ 2 0))), (3, .int (nI (σ 3 0))), (4, .int (nI (σ 0 0))), (5, .int (nI (σ 4 0))), (6, .int 2147483647), (7, .int 3)]) hx hb dL_refuses_486 hl (by decide) rfl (fun ls hl => ?_)
  refine lv_iinc (v := 12) (lv' := [(13, .int 12), (12, .int 1), (11, .int ((-2147483648))), (10, .int ((-2147483648))), (9, .int ((-2147483648))), (8, .int ((-2147483648))), (0, .ref (ad 0 0)), (1, .int (nI (σ 1 0))), (2, .int (nI (σ 2 0))), (3, .int (nI (σ 3 0))), (4, .int (nI (σ 0 0))), (5, .int (nI (σ 4 0))), (6, .int 2147483647), (7, .int 3)]) hx hb dL_refuses_488 hl (k := 1) rfl (by decide) (by decide) rfl (fun ls hl => ?_)
  refine lv_goto (tgt := 453) hx hb dL_refuses_491 (by decide) ?_
  refine lv_iload hx hb dL_refuses_453 (lv_at hl 0 rfl) ?_
  refine lv_bipush (v := 13) hx hb dL_refuses_455 (by decide) ?_
  refine lv_icmp_ge (tgt := 494) hx hb dL_refuses_457 (by decide) (fun hc => absurd hc (by decide)) (fun _ => ?_)
  refine lv_iload hx hb dL_refuses_460 (lv_at hl 1 rfl) ?_
  refine lv_if_eq (tgt := 485) hx hb dL_refuses_462 (by decide) (fun hc => absurd hc (by decide)) (fun _ => ?_)
  refine lv_aload_n hx hb dL_refuses_465 rfl (lv_at hl 6 rfl) ?_
  refine lv_iload hx hb dL_refuses_466 (lv_at hl 0 rfl) ?_
  refine lv_iload hx hb dL_refuses_468 (lv_at hl 3 rfl) ?_
  refine lv_iconst (v := 0) hx hb dL_refuses_470 (by decide) ?_
  refine lv_iconst (v := 0) hx hb dL_refuses_471 (by decide) ?_
  refine lv_iconst (v := 0) hx hb dL_refuses_472 (by decide) ?_
  refine kgo_i (kc_SW (As := [.ref (ad 0 0), .int 12, .int (-2147483648), .int 0, .int 0, .int 0]) (rest := []) S hE hS hAb (ax_availability1 ε l hw (cpx_availability1 ε l hw hB hst (x := ((-2147483648))) (Or.inl (by decide +kernel)))) (vx_cwSW 6 hts gL_refuses_L_act rfl rfl rfl (by decide +kernel) ⟨Nat.le_of_ble_eq_true rfl, Nat.le_of_ble_eq_true rfl⟩) rfl hl.1 rfl (Nat.le_of_ble_eq_true rfl) dL_refuses_473 ⟨Nat.le_of_ble_eq_true rfl, Nat.le_of_ble_eq_true rfl⟩) hS (fun _ h => h) (fun r9 H1 locs e9 hz1 hq hS => ?_)
  have hw := hw.keep (fun k j hk => hq _ (va_at.lt (hw.1 k j hk).1) (fun h => h))
  clear hq hz1
  refine kr_room (c1 := 116) (s1 := 696) rfl rfl ?_
  refine kr_top e9 ?_
  refine lv_bipush (v := -41) hx hb dL_refuses_476 (by decide) ?_
  refine lv_icmp_ne (tgt := 485) hx hb dL_refuses_478 (by decide) (fun hc => absurd (by decide) hc) (fun _ => ?_)
  refine lv_iconst (v := 1) hx hb dL_refuses_481 (by decide) ?_
  refine lv_goto (tgt := 486) hx hb dL_refuses_482 (by decide) ?_
  refine lv_istore (lv' := [(12, .int 1), (13, .int 12), (11, .int ((-2147483648))), (10, .int ((-2147483648))), (9, .int ((-2147483648))), (8, .int ((-2147483648))), (0, .ref (ad 0 0)), (1, .int (nI (σ 1 0))), (2, .int (nI (σ 2 0))), (3, .int (nI (σ 3 0))), (4, .int (nI (σ 0 0))), (5, .int (nI (σ 4 0))), (6, .int 2147483647), (7, .int 3)]) hx hb dL_refuses_486 hl (by decide) rfl (fun ls hl => ?_)
  refine lv_iinc (v := 13) (lv' := [(13, .int 13), (12, .int 1), (11, .int ((-2147483648))), (10, .int ((-2147483648))), (9, .int ((-2147483648))), (8, .int ((-2147483648))), (0, .ref (ad 0 0)), (1, .int (nI (σ 1 0))), (2, .int (nI (σ 2 0))), (3, .int (nI (σ 3 0))), (4, .int (nI (σ 0 0))), (5, .int (nI (σ 4 0))), (6, .int 2147483647), (7, .int 3)]) hx hb dL_refuses_488 hl (k := 1) rfl (by decide) (by decide) rfl (fun ls hl => ?_)
  refine lv_goto (tgt := 453) hx hb dL_refuses_491 (by decide) ?_
  refine lv_iload hx hb dL_refuses_453 (lv_at hl 0 rfl) ?_
  refine lv_bipush (v := 13) hx hb dL_refuses_455 (by decide) ?_
  refine lv_icmp_ge (tgt := 494) hx hb dL_refuses_457 (by decide) (fun _ => ?_) (fun hc => absurd (by decide) hc)
  refine lv_bipush (v := 13) hx hb dL_refuses_494 (by decide) ?_
  refine lv_istore (lv' := [(13, .int 13), (12, .int 1), (11, .int ((-2147483648))), (10, .int ((-2147483648))), (9, .int ((-2147483648))), (8, .int ((-2147483648))), (0, .ref (ad 0 0)), (1, .int (nI (σ 1 0))), (2, .int (nI (σ 2 0))), (3, .int (nI (σ 3 0))), (4, .int (nI (σ 0 0))), (5, .int (nI (σ 4 0))), (6, .int 2147483647), (7, .int 3)]) hx hb dL_refuses_496 hl (by decide) rfl (fun ls hl => ?_)
  refine lv_iload hx hb dL_refuses_498 (lv_at hl 0 rfl) ?_
  refine lv_bipush (v := 16) hx hb dL_refuses_500 (by decide) ?_
  refine lv_icmp_ge (tgt := 539) hx hb dL_refuses_502 (by decide) (fun hc => absurd hc (by decide)) (fun _ => ?_)
  refine lv_iload hx hb dL_refuses_505 (lv_at hl 1 rfl) ?_
  refine lv_if_eq (tgt := 530) hx hb dL_refuses_507 (by decide) (fun hc => absurd hc (by decide)) (fun _ => ?_)
  refine lv_aload_n hx hb dL_refuses_510 rfl (lv_at hl 6 rfl) ?_
  refine lv_iload hx hb dL_refuses_511 (lv_at hl 0 rfl) ?_
  refine lv_iload hx hb dL_refuses_513 (lv_at hl 4 rfl) ?_
  refine lv_iconst (v := 0) hx hb dL_refuses_515 (by decide) ?_
  refine lv_iconst (v := 0) hx hb dL_refuses_516 (by decide) ?_
  refine lv_iconst (v := 0) hx hb dL_refuses_517 (by decide) ?_
  refine kgo_i (kc_SW (As := [.ref (ad 0 0), .int 13, .int (-2147483648), .int 0, .int 0, .int 0]) (rest := []) S hE hS hAb (ax_probes1 ε l hw (cpx_probes ε l hw hB hst (x := ((-2147483648))) (Or.inl (by decide +kernel)))) (vx_cwSW 6 hts gL_refuses_L_act rfl rfl rfl (by decide +kernel) ⟨Nat.le_of_ble_eq_true rfl, Nat.le_of_ble_eq_true rfl⟩) rfl hl.1 rfl (Nat.le_of_ble_eq_true rfl) dL_refuses_518 ⟨Nat.le_of_ble_eq_true rfl, Nat.le_of_ble_eq_true rfl⟩) hS (fun _ h => h) (fun r9 H1 locs e9 hz1 hq hS => ?_)
  have hw := hw.keep (fun k j hk => hq _ (va_at.lt (hw.1 k j hk).1) (fun h => h))
  clear hq hz1
  refine kr_room (c1 := 117) (s1 := 702) rfl rfl ?_
  refine kr_top e9 ?_
  refine lv_bipush (v := -41) hx hb dL_refuses_521 (by decide) ?_
  refine lv_icmp_ne (tgt := 530) hx hb dL_refuses_523 (by decide) (fun hc => absurd (by decide) hc) (fun _ => ?_)
  refine lv_iconst (v := 1) hx hb dL_refuses_526 (by decide) ?_
  refine lv_goto (tgt := 531) hx hb dL_refuses_527 (by decide) ?_
  refine lv_istore (lv' := [(12, .int 1), (13, .int 13), (11, .int ((-2147483648))), (10, .int ((-2147483648))), (9, .int ((-2147483648))), (8, .int ((-2147483648))), (0, .ref (ad 0 0)), (1, .int (nI (σ 1 0))), (2, .int (nI (σ 2 0))), (3, .int (nI (σ 3 0))), (4, .int (nI (σ 0 0))), (5, .int (nI (σ 4 0))), (6, .int 2147483647), (7, .int 3)]) hx hb dL_refuses_531 hl (by decide) rfl (fun ls hl => ?_)
  refine lv_iinc (v := 14) (lv' := [(13, .int 14), (12, .int 1), (11, .int ((-2147483648))), (10, .int ((-2147483648))), (9, .int ((-2147483648))), (8, .int ((-2147483648))), (0, .ref (ad 0 0)), (1, .int (nI (σ 1 0))), (2, .int (nI (σ 2 0))), (3, .int (nI (σ 3 0))), (4, .int (nI (σ 0 0))), (5, .int (nI (σ 4 0))), (6, .int 2147483647), (7, .int 3)]) hx hb dL_refuses_533 hl (k := 1) rfl (by decide) (by decide) rfl (fun ls hl => ?_)
  refine lv_goto (tgt := 498) hx hb dL_refuses_536 (by decide) ?_
  refine lv_iload hx hb dL_refuses_498 (lv_at hl 0 rfl) ?_
  refine lv_bipush (v := 16) hx hb dL_refuses_500 (by decide) ?_
  refine lv_icmp_ge (tgt := 539) hx hb dL_refuses_502 (by decide) (fun hc => absurd hc (by decide)) (fun _ => ?_)
  refine lv_iload hx hb dL_refuses_505 (lv_at hl 1 rfl) ?_
  refine lv_if_eq (tgt := 530) hx hb dL_refuses_507 (by decide) (fun hc => absurd hc (by decide)) (fun _ => ?_)
  refine lv_aload_n hx hb dL_refuses_510 rfl (lv_at hl 6 rfl) ?_
  refine lv_iload hx hb dL_refuses_511 (lv_at hl 0 rfl) ?_
  refine lv_iload hx hb dL_refuses_513 (lv_at hl 4 rfl) ?_
  refine lv_iconst (v := 0) hx hb dL_refuses_515 (by decide) ?_
  refine lv_iconst (v := 0) hx hb dL_refuses_516 (by decide) ?_
  refine lv_iconst (v := 0) hx hb dL_refuses_517 (by decide) ?_
  refine kgo_i (kc_SW (As := [.ref (ad 0 0), .int 14, .int (-2147483648), .int 0, .int 0, .int 0]) (rest := []) S hE hS hAb (ax_failures1 ε l hw (cpx_failures ε l hw hB hst (x := ((-2147483648))) (Or.inl (by decide +kernel)))) (vx_cwSW 6 hts gL_refuses_L_act rfl rfl rfl (by decide +kernel) ⟨Nat.le_of_ble_eq_true rfl, Nat.le_of_ble_eq_true rfl⟩) rfl hl.1 rfl (Nat.le_of_ble_eq_true rfl) dL_refuses_518 ⟨Nat.le_of_ble_eq_true rfl, Nat.le_of_ble_eq_true rfl⟩) hS (fun _ h => h) (fun r9 H1 locs e9 hz1 hq hS => ?_)
  have hw := hw.keep (fun k j hk => hq _ (va_at.lt (hw.1 k j hk).1) (fun h => h))
  clear hq hz1
  refine kr_room (c1 := 118) (s1 := 708) rfl rfl ?_
  refine kr_top e9 ?_
  refine lv_bipush (v := -41) hx hb dL_refuses_521 (by decide) ?_
  refine lv_icmp_ne (tgt := 530) hx hb dL_refuses_523 (by decide) (fun hc => absurd (by decide) hc) (fun _ => ?_)
  refine lv_iconst (v := 1) hx hb dL_refuses_526 (by decide) ?_
  refine lv_goto (tgt := 531) hx hb dL_refuses_527 (by decide) ?_
  refine lv_istore (lv' := [(12, .int 1), (13, .int 14), (11, .int ((-2147483648))), (10, .int ((-2147483648))), (9, .int ((-2147483648))), (8, .int ((-2147483648))), (0, .ref (ad 0 0)), (1, .int (nI (σ 1 0))), (2, .int (nI (σ 2 0))), (3, .int (nI (σ 3 0))), (4, .int (nI (σ 0 0))), (5, .int (nI (σ 4 0))), (6, .int 2147483647), (7, .int 3)]) hx hb dL_refuses_531 hl (by decide) rfl (fun ls hl => ?_)
  refine lv_iinc (v := 15) (lv' := [(13, .int 15), (12, .int 1), (11, .int ((-2147483648))), (10, .int ((-2147483648))), (9, .int ((-2147483648))), (8, .int ((-2147483648))), (0, .ref (ad 0 0)), (1, .int (nI (σ 1 0))), (2, .int (nI (σ 2 0))), (3, .int (nI (σ 3 0))), (4, .int (nI (σ 0 0))), (5, .int (nI (σ 4 0))), (6, .int 2147483647), (7, .int 3)]) hx hb dL_refuses_533 hl (k := 1) rfl (by decide) (by decide) rfl (fun ls hl => ?_)
  refine lv_goto (tgt := 498) hx hb dL_refuses_536 (by decide) ?_
  refine lv_iload hx hb dL_refuses_498 (lv_at hl 0 rfl) ?_
  refine lv_bipush (v := 16) hx hb dL_refuses_500 (by decide) ?_
  refine lv_icmp_ge (tgt := 539) hx hb dL_refuses_502 (by decide) (fun hc => absurd hc (by decide)) (fun _ => ?_)
  refine lv_iload hx hb dL_refuses_505 (lv_at hl 1 rfl) ?_
  refine lv_if_eq (tgt := 530) hx hb dL_refuses_507 (by decide) (fun hc => absurd hc (by decide)) (fun _ => ?_)
  refine lv_aload_n hx hb dL_refuses_510 rfl (lv_at hl 6 rfl) ?_
  refine lv_iload hx hb dL_refuses_511 (lv_at hl 0 rfl) ?_
  refine lv_iload hx hb dL_refuses_513 (lv_at hl 4 rfl) ?_
  refine lv_iconst (v := 0) hx hb dL_refuses_515 (by decide) ?_
  refine lv_iconst (v := 0) hx hb dL_refuses_516 (by decide) ?_
  refine lv_iconst (v := 0) hx hb dL_refuses_517 (by decide) ?_
  refine kgo_i (kc_SW (As := [.ref (ad 0 0), .int 15, .int (-2147483648), .int 0, .int 0, .int 0]) (rest := []) S hE hS hAb (ax_isBad1 ε l hw (cpx_isBad ε l hw hB hst (x := ((-2147483648))) (Or.inl (by decide +kernel)))) (vx_cwSW 6 hts gL_refuses_L_act rfl rfl rfl (by decide +kernel) ⟨Nat.le_of_ble_eq_true rfl, Nat.le_of_ble_eq_true rfl⟩) rfl hl.1 rfl (Nat.le_of_ble_eq_true rfl) dL_refuses_518 ⟨Nat.le_of_ble_eq_true rfl, Nat.le_of_ble_eq_true rfl⟩) hS (fun _ h => h) (fun r9 H1 locs e9 hz1 hq hS => ?_)
  have hw := hw.keep (fun k j hk => hq _ (va_at.lt (hw.1 k j hk).1) (fun h => h))
  clear hq hz1
  refine kr_room (c1 := 119) (s1 := 714) rfl rfl ?_
  refine kr_top e9 ?_
  refine lv_bipush (v := -41) hx hb dL_refuses_521 (by decide) ?_
  refine lv_icmp_ne (tgt := 530) hx hb dL_refuses_523 (by decide) (fun hc => absurd (by decide) hc) (fun _ => ?_)
  refine lv_iconst (v := 1) hx hb dL_refuses_526 (by decide) ?_
  refine lv_goto (tgt := 531) hx hb dL_refuses_527 (by decide) ?_
  refine lv_istore (lv' := [(12, .int 1), (13, .int 15), (11, .int ((-2147483648))), (10, .int ((-2147483648))), (9, .int ((-2147483648))), (8, .int ((-2147483648))), (0, .ref (ad 0 0)), (1, .int (nI (σ 1 0))), (2, .int (nI (σ 2 0))), (3, .int (nI (σ 3 0))), (4, .int (nI (σ 0 0))), (5, .int (nI (σ 4 0))), (6, .int 2147483647), (7, .int 3)]) hx hb dL_refuses_531 hl (by decide) rfl (fun ls hl => ?_)
  refine lv_iinc (v := 16) (lv' := [(13, .int 16), (12, .int 1), (11, .int ((-2147483648))), (10, .int ((-2147483648))), (9, .int ((-2147483648))), (8, .int ((-2147483648))), (0, .ref (ad 0 0)), (1, .int (nI (σ 1 0))), (2, .int (nI (σ 2 0))), (3, .int (nI (σ 3 0))), (4, .int (nI (σ 0 0))), (5, .int (nI (σ 4 0))), (6, .int 2147483647), (7, .int 3)]) hx hb dL_refuses_533 hl (k := 1) rfl (by decide) (by decide) rfl (fun ls hl => ?_)
  refine lv_goto (tgt := 498) hx hb dL_refuses_536 (by decide) ?_
  refine lv_iload hx hb dL_refuses_498 (lv_at hl 0 rfl) ?_
  refine lv_bipush (v := 16) hx hb dL_refuses_500 (by decide) ?_
  refine lv_icmp_ge (tgt := 539) hx hb dL_refuses_502 (by decide) (fun _ => ?_) (fun hc => absurd (by decide) hc)
  refine lv_bipush (v := 16) hx hb dL_refuses_539 (by decide) ?_
  refine lv_istore (lv' := [(13, .int 16), (12, .int 1), (11, .int ((-2147483648))), (10, .int ((-2147483648))), (9, .int ((-2147483648))), (8, .int ((-2147483648))), (0, .ref (ad 0 0)), (1, .int (nI (σ 1 0))), (2, .int (nI (σ 2 0))), (3, .int (nI (σ 3 0))), (4, .int (nI (σ 0 0))), (5, .int (nI (σ 4 0))), (6, .int 2147483647), (7, .int 3)]) hx hb dL_refuses_541 hl (by decide) rfl (fun ls hl => ?_)
  refine lv_iload hx hb dL_refuses_543 (lv_at hl 0 rfl) ?_
  refine lv_bipush (v := 19) hx hb dL_refuses_545 (by decide) ?_
  refine lv_icmp_ge (tgt := 600) hx hb dL_refuses_547 (by decide) (fun hc => absurd hc (by decide)) (fun _ => ?_)
  refine lv_iload hx hb dL_refuses_550 (lv_at hl 1 rfl) ?_
  refine lv_if_eq (tgt := 591) hx hb dL_refuses_552 (by decide) (fun hc => absurd hc (by decide)) (fun _ => ?_)
  refine lv_aload_n hx hb dL_refuses_555 rfl (lv_at hl 6 rfl) ?_
  refine lv_iload hx hb dL_refuses_556 (lv_at hl 0 rfl) ?_
  refine lv_iload hx hb dL_refuses_558 (lv_at hl 3 rfl) ?_
  refine lv_iconst (v := 0) hx hb dL_refuses_560 (by decide) ?_
  refine lv_iconst (v := 0) hx hb dL_refuses_561 (by decide) ?_
  refine lv_iconst (v := 0) hx hb dL_refuses_562 (by decide) ?_
  refine kgo_i (kc_SW (As := [.ref (ad 0 0), .int 16, .int (-2147483648), .int 0, .int 0, .int 0]) (rest := []) S hE hS hAb (ax_nextProbe1 ε l hw (cpx_nextProbe1 ε l hw hB hst (x := ((-2147483648))) (y := 0) (Or.inl (by decide +kernel)))) (vx_cwSW 6 hts gL_refuses_L_act rfl rfl rfl (by decide +kernel) ⟨Nat.le_of_ble_eq_true rfl, Nat.le_of_ble_eq_true rfl⟩) rfl hl.1 rfl (Nat.le_of_ble_eq_true rfl) dL_refuses_563 ⟨Nat.le_of_ble_eq_true rfl, Nat.le_of_ble_eq_true rfl⟩) hS (fun _ h => h) (fun r9 H1 locs e9 hz1 hq hS => ?_)
  have hw := hw.keep (fun k j hk => hq _ (va_at.lt (hw.1 k j hk).1) (fun h => h))
  clear hq hz1
  refine kr_room (c1 := 120) (s1 := 720) rfl rfl ?_
  refine kr_top e9 ?_
  refine lv_bipush (v := -41) hx hb dL_refuses_566 (by decide) ?_
  refine lv_icmp_ne (tgt := 591) hx hb dL_refuses_568 (by decide) (fun hc => absurd (by decide) hc) (fun _ => ?_)
  refine lv_aload_n hx hb dL_refuses_571 rfl (lv_at hl 6 rfl) ?_
  refine lv_iload hx hb dL_refuses_572 (lv_at hl 0 rfl) ?_
  refine lv_iconst (v := 0) hx hb dL_refuses_574 (by decide) ?_
  refine lv_iload hx hb dL_refuses_575 (lv_at hl 4 rfl) ?_
  refine lv_iconst (v := 0) hx hb dL_refuses_577 (by decide) ?_
  refine lv_iconst (v := 0) hx hb dL_refuses_578 (by decide) ?_
  refine kgo_i (kc_SW (As := [.ref (ad 0 0), .int 16, .int (nI 0), .int (-2147483648), .int 0, .int 0]) (rest := []) S hE hS hAb (ax_nextProbe1 ε l hw (cpx_nextProbe2 ε l hw hB hst (i := 0) (y := ((-2147483648))) h2 (Or.inl (by decide +kernel)))) (vx_cwSW 6 hts gL_refuses_L_act rfl rfl rfl (by decide +kernel) ⟨Nat.le_of_ble_eq_true rfl, Nat.le_of_ble_eq_true rfl⟩) rfl hl.1 rfl (Nat.le_of_ble_eq_true rfl) dL_refuses_579 ⟨Nat.le_of_ble_eq_true rfl, Nat.le_of_ble_eq_true rfl⟩) hS (fun _ h => h) (fun r9 H1 locs e9 hz1 hq hS => ?_)
  have hw := hw.keep (fun k j hk => hq _ (va_at.lt (hw.1 k j hk).1) (fun h => h))
  clear hq hz1
  refine kr_room (c1 := 121) (s1 := 726) rfl rfl ?_
  refine kr_top e9 ?_
  refine lv_bipush (v := -41) hx hb dL_refuses_582 (by decide) ?_
  refine lv_icmp_ne (tgt := 591) hx hb dL_refuses_584 (by decide) (fun hc => absurd (by decide) hc) (fun _ => ?_)
  refine lv_iconst (v := 1) hx hb dL_refuses_587 (by decide) ?_
  refine lv_goto (tgt := 592) hx hb dL_refuses_588 (by decide) ?_
  refine lv_istore (lv' := [(12, .int 1), (13, .int 16), (11, .int ((-2147483648))), (10, .int ((-2147483648))), (9, .int ((-2147483648))), (8, .int ((-2147483648))), (0, .ref (ad 0 0)), (1, .int (nI (σ 1 0))), (2, .int (nI (σ 2 0))), (3, .int (nI (σ 3 0))), (4, .int (nI (σ 0 0))), (5, .int (nI (σ 4 0))), (6, .int 2147483647), (7, .int 3)]) hx hb dL_refuses_592 hl (by decide) rfl (fun ls hl => ?_)
  refine lv_iinc (v := 17) (lv' := [(13, .int 17), (12, .int 1), (11, .int ((-2147483648))), (10, .int ((-2147483648))), (9, .int ((-2147483648))), (8, .int ((-2147483648))), (0, .ref (ad 0 0)), (1, .int (nI (σ 1 0))), (2, .int (nI (σ 2 0))), (3, .int (nI (σ 3 0))), (4, .int (nI (σ 0 0))), (5, .int (nI (σ 4 0))), (6, .int 2147483647), (7, .int 3)]) hx hb dL_refuses_594 hl (k := 1) rfl (by decide) (by decide) rfl (fun ls hl => ?_)
  refine lv_goto (tgt := 543) hx hb dL_refuses_597 (by decide) ?_
  refine lv_iload hx hb dL_refuses_543 (lv_at hl 0 rfl) ?_
  refine lv_bipush (v := 19) hx hb dL_refuses_545 (by decide) ?_
  refine lv_icmp_ge (tgt := 600) hx hb dL_refuses_547 (by decide) (fun hc => absurd hc (by decide)) (fun _ => ?_)
  refine lv_iload hx hb dL_refuses_550 (lv_at hl 1 rfl) ?_
  refine lv_if_eq (tgt := 591) hx hb dL_refuses_552 (by decide) (fun hc => absurd hc (by decide)) (fun _ => ?_)
  refine lv_aload_n hx hb dL_refuses_555 rfl (lv_at hl 6 rfl) ?_
  refine lv_iload hx hb dL_refuses_556 (lv_at hl 0 rfl) ?_
  refine lv_iload hx hb dL_refuses_558 (lv_at hl 3 rfl) ?_
  refine lv_iconst (v := 0) hx hb dL_refuses_560 (by decide) ?_
  refine lv_iconst (v := 0) hx hb dL_refuses_561 (by decide) ?_
  refine lv_iconst (v := 0) hx hb dL_refuses_562 (by decide) ?_
  refine kgo_i (kc_SW (As := [.ref (ad 0 0), .int 17, .int (-2147483648), .int 0, .int 0, .int 0]) (rest := []) S hE hS hAb (ax_repetition1 ε l hw (cpx_repetition1 ε l hw hB hst (x := ((-2147483648))) (y := 0) (Or.inl (by decide +kernel)))) (vx_cwSW 6 hts gL_refuses_L_act rfl rfl rfl (by decide +kernel) ⟨Nat.le_of_ble_eq_true rfl, Nat.le_of_ble_eq_true rfl⟩) rfl hl.1 rfl (Nat.le_of_ble_eq_true rfl) dL_refuses_563 ⟨Nat.le_of_ble_eq_true rfl, Nat.le_of_ble_eq_true rfl⟩) hS (fun _ h => h) (fun r9 H1 locs e9 hz1 hq hS => ?_)
  have hw := hw.keep (fun k j hk => hq _ (va_at.lt (hw.1 k j hk).1) (fun h => h))
  clear hq hz1
  refine kr_room (c1 := 122) (s1 := 732) rfl rfl ?_
  refine kr_top e9 ?_
  refine lv_bipush (v := -41) hx hb dL_refuses_566 (by decide) ?_
  refine lv_icmp_ne (tgt := 591) hx hb dL_refuses_568 (by decide) (fun hc => absurd (by decide) hc) (fun _ => ?_)
  refine lv_aload_n hx hb dL_refuses_571 rfl (lv_at hl 6 rfl) ?_
  refine lv_iload hx hb dL_refuses_572 (lv_at hl 0 rfl) ?_
  refine lv_iconst (v := 0) hx hb dL_refuses_574 (by decide) ?_
  refine lv_iload hx hb dL_refuses_575 (lv_at hl 4 rfl) ?_
  refine lv_iconst (v := 0) hx hb dL_refuses_577 (by decide) ?_
  refine lv_iconst (v := 0) hx hb dL_refuses_578 (by decide) ?_
  refine kgo_i (kc_SW (As := [.ref (ad 0 0), .int 17, .int (nI 0), .int (-2147483648), .int 0, .int 0]) (rest := []) S hE hS hAb (ax_repetition1 ε l hw (cpx_repetition2 ε l hw hB hst (i := 0) (y := ((-2147483648))) h2 (Or.inl (by decide +kernel)))) (vx_cwSW 6 hts gL_refuses_L_act rfl rfl rfl (by decide +kernel) ⟨Nat.le_of_ble_eq_true rfl, Nat.le_of_ble_eq_true rfl⟩) rfl hl.1 rfl (Nat.le_of_ble_eq_true rfl) dL_refuses_579 ⟨Nat.le_of_ble_eq_true rfl, Nat.le_of_ble_eq_true rfl⟩) hS (fun _ h => h) (fun r9 H1 locs e9 hz1 hq hS => ?_)
  have hw := hw.keep (fun k j hk => hq _ (va_at.lt (hw.1 k j hk).1) (fun h => h))
  clear hq hz1
  refine kr_room (c1 := 123) (s1 := 738) rfl rfl ?_
  refine kr_top e9 ?_
  refine lv_bipush (v := -41) hx hb dL_refuses_582 (by decide) ?_
  refine lv_icmp_ne (tgt := 591) hx hb dL_refuses_584 (by decide) (fun hc => absurd (by decide) hc) (fun _ => ?_)
  refine lv_iconst (v := 1) hx hb dL_refuses_587 (by decide) ?_
  refine lv_goto (tgt := 592) hx hb dL_refuses_588 (by decide) ?_
  refine lv_istore (lv' := [(12, .int 1), (13, .int 17), (11, .int ((-2147483648))), (10, .int ((-2147483648))), (9, .int ((-2147483648))), (8, .int ((-2147483648))), (0, .ref (ad 0 0)), (1, .int (nI (σ 1 0))), (2, .int (nI (σ 2 0))), (3, .int (nI (σ 3 0))), (4, .int (nI (σ 0 0))), (5, .int (nI (σ 4 0))), (6, .int 2147483647), (7, .int 3)]) hx hb dL_refuses_592 hl (by decide) rfl (fun ls hl => ?_)
  refine lv_iinc (v := 18) (lv' := [(13, .int 18), (12, .int 1), (11, .int ((-2147483648))), (10, .int ((-2147483648))), (9, .int ((-2147483648))), (8, .int ((-2147483648))), (0, .ref (ad 0 0)), (1, .int (nI (σ 1 0))), (2, .int (nI (σ 2 0))), (3, .int (nI (σ 3 0))), (4, .int (nI (σ 0 0))), (5, .int (nI (σ 4 0))), (6, .int 2147483647), (7, .int 3)]) hx hb dL_refuses_594 hl (k := 1) rfl (by decide) (by decide) rfl (fun ls hl => ?_)
  refine lv_goto (tgt := 543) hx hb dL_refuses_597 (by decide) ?_
  refine lv_iload hx hb dL_refuses_543 (lv_at hl 0 rfl) ?_
  refine lv_bipush (v := 19) hx hb dL_refuses_545 (by decide) ?_
  refine lv_icmp_ge (tgt := 600) hx hb dL_refuses_547 (by decide) (fun hc => absurd hc (by decide)) (fun _ => ?_)
  refine lv_iload hx hb dL_refuses_550 (lv_at hl 1 rfl) ?_
  refine lv_if_eq (tgt := 591) hx hb dL_refuses_552 (by decide) (fun hc => absurd hc (by decide)) (fun _ => ?_)
  refine lv_aload_n hx hb dL_refuses_555 rfl (lv_at hl 6 rfl) ?_
  refine lv_iload hx hb dL_refuses_556 (lv_at hl 0 rfl) ?_
  refine lv_iload hx hb dL_refuses_558 (lv_at hl 3 rfl) ?_
  refine lv_iconst (v := 0) hx hb dL_refuses_560 (by decide) ?_
  refine lv_iconst (v := 0) hx hb dL_refuses_561 (by decide) ?_
  refine lv_iconst (v := 0) hx hb dL_refuses_562 (by decide) ?_
  refine kgo_i (kc_SW (As := [.ref (ad 0 0), .int 18, .int (-2147483648), .int 0, .int 0, .int 0]) (rest := []) S hE hS hAb (ax_vote1 ε l hw (cpx_vote1 ε l hw hB hst (x := ((-2147483648))) (y := 0) (Or.inl (by decide +kernel)))) (vx_cwSW 6 hts gL_refuses_L_act rfl rfl rfl (by decide +kernel) ⟨Nat.le_of_ble_eq_true rfl, Nat.le_of_ble_eq_true rfl⟩) rfl hl.1 rfl (Nat.le_of_ble_eq_true rfl) dL_refuses_563 ⟨Nat.le_of_ble_eq_true rfl, Nat.le_of_ble_eq_true rfl⟩) hS (fun _ h => h) (fun r9 H1 locs e9 hz1 hq hS => ?_)
  have hw := hw.keep (fun k j hk => hq _ (va_at.lt (hw.1 k j hk).1) (fun h => h))
  clear hq hz1
  refine kr_room (c1 := 124) (s1 := 744) rfl rfl ?_
  refine kr_top e9 ?_
  refine lv_bipush (v := -41) hx hb dL_refuses_566 (by decide) ?_
  refine lv_icmp_ne (tgt := 591) hx hb dL_refuses_568 (by decide) (fun hc => absurd (by decide) hc) (fun _ => ?_)
  refine lv_aload_n hx hb dL_refuses_571 rfl (lv_at hl 6 rfl) ?_
  refine lv_iload hx hb dL_refuses_572 (lv_at hl 0 rfl) ?_
  refine lv_iconst (v := 0) hx hb dL_refuses_574 (by decide) ?_
  refine lv_iload hx hb dL_refuses_575 (lv_at hl 4 rfl) ?_
  refine lv_iconst (v := 0) hx hb dL_refuses_577 (by decide) ?_
  refine lv_iconst (v := 0) hx hb dL_refuses_578 (by decide) ?_
  refine kgo_i (kc_SW (As := [.ref (ad 0 0), .int 18, .int (nI 0), .int (-2147483648), .int 0, .int 0]) (rest := []) S hE hS hAb (ax_vote1 ε l hw (cpx_vote2 ε l hw hB hst (i := 0) (y := ((-2147483648))) h2 (Or.inl (by decide +kernel)))) (vx_cwSW 6 hts gL_refuses_L_act rfl rfl rfl (by decide +kernel) ⟨Nat.le_of_ble_eq_true rfl, Nat.le_of_ble_eq_true rfl⟩) rfl hl.1 rfl (Nat.le_of_ble_eq_true rfl) dL_refuses_579 ⟨Nat.le_of_ble_eq_true rfl, Nat.le_of_ble_eq_true rfl⟩) hS (fun _ h => h) (fun r9 H1 locs e9 hz1 hq hS => ?_)
  have hw := hw.keep (fun k j hk => hq _ (va_at.lt (hw.1 k j hk).1) (fun h => h))
  clear hq hz1
  refine kr_room (c1 := 125) (s1 := 750) rfl rfl ?_
  refine kr_top e9 ?_
  refine lv_bipush (v := -41) hx hb dL_refuses_582 (by decide) ?_
  refine lv_icmp_ne (tgt := 591) hx hb dL_refuses_584 (by decide) (fun hc => absurd (by decide) hc) (fun _ => ?_)
  refine lv_iconst (v := 1) hx hb dL_refuses_587 (by decide) ?_
  refine lv_goto (tgt := 592) hx hb dL_refuses_588 (by decide) ?_
  refine lv_istore (lv' := [(12, .int 1), (13, .int 18), (11, .int ((-2147483648))), (10, .int ((-2147483648))), (9, .int ((-2147483648))), (8, .int ((-2147483648))), (0, .ref (ad 0 0)), (1, .int (nI (σ 1 0))), (2, .int (nI (σ 2 0))), (3, .int (nI (σ 3 0))), (4, .int (nI (σ 0 0))), (5, .int (nI (σ 4 0))), (6, .int 2147483647), (7, .int 3)]) hx hb dL_refuses_592 hl (by decide) rfl (fun ls hl => ?_)
  refine lv_iinc (v := 19) (lv' := [(13, .int 19), (12, .int 1), (11, .int ((-2147483648))), (10, .int ((-2147483648))), (9, .int ((-2147483648))), (8, .int ((-2147483648))), (0, .ref (ad 0 0)), (1, .int (nI (σ 1 0))), (2, .int (nI (σ 2 0))), (3, .int (nI (σ 3 0))), (4, .int (nI (σ 0 0))), (5, .int (nI (σ 4 0))), (6, .int 2147483647), (7, .int 3)]) hx hb dL_refuses_594 hl (k := 1) rfl (by decide) (by decide) rfl (fun ls hl => ?_)
  refine lv_goto (tgt := 543) hx hb dL_refuses_597 (by decide) ?_
  refine lv_iload hx hb dL_refuses_543 (lv_at hl 0 rfl) ?_
  refine lv_bipush (v := 19) hx hb dL_refuses_545 (by decide) ?_
  refine lv_icmp_ge (tgt := 600) hx hb dL_refuses_547 (by decide) (fun _ => ?_) (fun hc => absurd (by decide) hc)
  refine lv_bipush (v := 19) hx hb dL_refuses_600 (by decide) ?_
  refine lv_istore (lv' := [(13, .int 19), (12, .int 1), (11, .int ((-2147483648))), (10, .int ((-2147483648))), (9, .int ((-2147483648))), (8, .int ((-2147483648))), (0, .ref (ad 0 0)), (1, .int (nI (σ 1 0))), (2, .int (nI (σ 2 0))), (3, .int (nI (σ 3 0))), (4, .int (nI (σ 0 0))), (5, .int (nI (σ 4 0))), (6, .int 2147483647), (7, .int 3)]) hx hb dL_refuses_602 hl (by decide) rfl (fun ls hl => ?_)
  refine lv_iload hx hb dL_refuses_604 (lv_at hl 0 rfl) ?_
  refine lv_bipush (v := 22) hx hb dL_refuses_606 (by decide) ?_
  refine lv_icmp_ge (tgt := 656) hx hb dL_refuses_608 (by decide) (fun hc => absurd hc (by decide)) (fun _ => ?_)
  refine lv_iload hx hb dL_refuses_611 (lv_at hl 1 rfl) ?_
  refine lv_if_eq (tgt := 647) hx hb dL_refuses_613 (by decide) (fun hc => absurd hc (by decide)) (fun _ => ?_)
  refine lv_aload_n hx hb dL_refuses_616 rfl (lv_at hl 6 rfl) ?_
  refine lv_iload hx hb dL_refuses_617 (lv_at hl 0 rfl) ?_
  refine lv_iload hx hb dL_refuses_619 (lv_at hl 13 rfl) ?_
  refine lv_iconst (v := 1) hx hb dL_refuses_621 (by decide) ?_
  refine lv_icmp_ne (tgt := 630) hx hb dL_refuses_622 (by decide) (fun _ => ?_) (fun hc => absurd hc (by decide))
  refine lv_iload hx hb dL_refuses_630 (lv_at hl 5 rfl) ?_
  refine lv_iconst (v := 0) hx hb dL_refuses_632 (by decide) ?_
  refine lv_iconst (v := 0) hx hb dL_refuses_633 (by decide) ?_
  refine lv_iconst (v := 0) hx hb dL_refuses_634 (by decide) ?_
  refine kgo_i (kc_SW (As := [.ref (ad 0 0), .int 19, .int (-2147483648), .int 0, .int 0, .int 0]) (rest := []) S hE hS hAb (ax_alarmCheck1 ε l hw (cpx_alarmCheck ε l hw hB hst (x := ((-2147483648))) (Or.inl (by decide +kernel)))) (vx_cwSW 6 hts gL_refuses_L_act rfl rfl rfl (by decide +kernel) ⟨Nat.le_of_ble_eq_true rfl, Nat.le_of_ble_eq_true rfl⟩) rfl hl.1 rfl (Nat.le_of_ble_eq_true rfl) dL_refuses_635 ⟨Nat.le_of_ble_eq_true rfl, Nat.le_of_ble_eq_true rfl⟩) hS (fun _ h => h) (fun r9 H1 locs e9 hz1 hq hS => ?_)
  have hw := hw.keep (fun k j hk => hq _ (va_at.lt (hw.1 k j hk).1) (fun h => h))
  clear hq hz1
  refine kr_room (c1 := 126) (s1 := 756) rfl rfl ?_
  refine kr_top e9 ?_
  refine lv_bipush (v := -41) hx hb dL_refuses_638 (by decide) ?_
  refine lv_icmp_ne (tgt := 647) hx hb dL_refuses_640 (by decide) (fun hc => absurd (by decide) hc) (fun _ => ?_)
  refine lv_iconst (v := 1) hx hb dL_refuses_643 (by decide) ?_
  refine lv_goto (tgt := 648) hx hb dL_refuses_644 (by decide) ?_
  refine lv_istore (lv' := [(12, .int 1), (13, .int 19), (11, .int ((-2147483648))), (10, .int ((-2147483648))), (9, .int ((-2147483648))), (8, .int ((-2147483648))), (0, .ref (ad 0 0)), (1, .int (nI (σ 1 0))), (2, .int (nI (σ 2 0))), (3, .int (nI (σ 3 0))), (4, .int (nI (σ 0 0))), (5, .int (nI (σ 4 0))), (6, .int 2147483647), (7, .int 3)]) hx hb dL_refuses_648 hl (by decide) rfl (fun ls hl => ?_)
  refine lv_iinc (v := 20) (lv' := [(13, .int 20), (12, .int 1), (11, .int ((-2147483648))), (10, .int ((-2147483648))), (9, .int ((-2147483648))), (8, .int ((-2147483648))), (0, .ref (ad 0 0)), (1, .int (nI (σ 1 0))), (2, .int (nI (σ 2 0))), (3, .int (nI (σ 3 0))), (4, .int (nI (σ 0 0))), (5, .int (nI (σ 4 0))), (6, .int 2147483647), (7, .int 3)]) hx hb dL_refuses_650 hl (k := 1) rfl (by decide) (by decide) rfl (fun ls hl => ?_)
  refine lv_goto (tgt := 604) hx hb dL_refuses_653 (by decide) ?_
  refine lv_iload hx hb dL_refuses_604 (lv_at hl 0 rfl) ?_
  refine lv_bipush (v := 22) hx hb dL_refuses_606 (by decide) ?_
  refine lv_icmp_ge (tgt := 656) hx hb dL_refuses_608 (by decide) (fun hc => absurd hc (by decide)) (fun _ => ?_)
  refine lv_iload hx hb dL_refuses_611 (lv_at hl 1 rfl) ?_
  refine lv_if_eq (tgt := 647) hx hb dL_refuses_613 (by decide) (fun hc => absurd hc (by decide)) (fun _ => ?_)
  refine lv_aload_n hx hb dL_refuses_616 rfl (lv_at hl 6 rfl) ?_
  refine lv_iload hx hb dL_refuses_617 (lv_at hl 0 rfl) ?_
  refine lv_iload hx hb dL_refuses_619 (lv_at hl 13 rfl) ?_
  refine lv_iconst (v := 1) hx hb dL_refuses_621 (by decide) ?_
  refine lv_icmp_ne (tgt := 630) hx hb dL_refuses_622 (by decide) (fun _ => ?_) (fun hc => absurd hc (by decide))
  refine lv_iload hx hb dL_refuses_630 (lv_at hl 5 rfl) ?_
  refine lv_iconst (v := 0) hx hb dL_refuses_632 (by decide) ?_
  refine lv_iconst (v := 0) hx hb dL_refuses_633 (by decide) ?_
  refine lv_iconst (v := 0) hx hb dL_refuses_634 (by decide) ?_
  refine kgo_i (kc_SW (As := [.ref (ad 0 0), .int 20, .int (-2147483648), .int 0, .int 0, .int 0]) (rest := []) S hE hS hAb (ax_alarmRaised1 ε l hw (cpx_alarmRaised ε l hw hB hst (x := ((-2147483648))) (Or.inl (by decide +kernel)))) (vx_cwSW 6 hts gL_refuses_L_act rfl rfl rfl (by decide +kernel) ⟨Nat.le_of_ble_eq_true rfl, Nat.le_of_ble_eq_true rfl⟩) rfl hl.1 rfl (Nat.le_of_ble_eq_true rfl) dL_refuses_635 ⟨Nat.le_of_ble_eq_true rfl, Nat.le_of_ble_eq_true rfl⟩) hS (fun _ h => h) (fun r9 H1 locs e9 hz1 hq hS => ?_)
  have hw := hw.keep (fun k j hk => hq _ (va_at.lt (hw.1 k j hk).1) (fun h => h))
  clear hq hz1
  refine kr_room (c1 := 127) (s1 := 762) rfl rfl ?_
  refine kr_top e9 ?_
  refine lv_bipush (v := -41) hx hb dL_refuses_638 (by decide) ?_
  refine lv_icmp_ne (tgt := 647) hx hb dL_refuses_640 (by decide) (fun hc => absurd (by decide) hc) (fun _ => ?_)
  refine lv_iconst (v := 1) hx hb dL_refuses_643 (by decide) ?_
  refine lv_goto (tgt := 648) hx hb dL_refuses_644 (by decide) ?_
  refine lv_istore (lv' := [(12, .int 1), (13, .int 20), (11, .int ((-2147483648))), (10, .int ((-2147483648))), (9, .int ((-2147483648))), (8, .int ((-2147483648))), (0, .ref (ad 0 0)), (1, .int (nI (σ 1 0))), (2, .int (nI (σ 2 0))), (3, .int (nI (σ 3 0))), (4, .int (nI (σ 0 0))), (5, .int (nI (σ 4 0))), (6, .int 2147483647), (7, .int 3)]) hx hb dL_refuses_648 hl (by decide) rfl (fun ls hl => ?_)
  refine lv_iinc (v := 21) (lv' := [(13, .int 21), (12, .int 1), (11, .int ((-2147483648))), (10, .int ((-2147483648))), (9, .int ((-2147483648))), (8, .int ((-2147483648))), (0, .ref (ad 0 0)), (1, .int (nI (σ 1 0))), (2, .int (nI (σ 2 0))), (3, .int (nI (σ 3 0))), (4, .int (nI (σ 0 0))), (5, .int (nI (σ 4 0))), (6, .int 2147483647), (7, .int 3)]) hx hb dL_refuses_650 hl (k := 1) rfl (by decide) (by decide) rfl (fun ls hl => ?_)
  refine lv_goto (tgt := 604) hx hb dL_refuses_653 (by decide) ?_
  refine lv_iload hx hb dL_refuses_604 (lv_at hl 0 rfl) ?_
  refine lv_bipush (v := 22) hx hb dL_refuses_606 (by decide) ?_
  refine lv_icmp_ge (tgt := 656) hx hb dL_refuses_608 (by decide) (fun hc => absurd hc (by decide)) (fun _ => ?_)
  refine lv_iload hx hb dL_refuses_611 (lv_at hl 1 rfl) ?_
  refine lv_if_eq (tgt := 647) hx hb dL_refuses_613 (by decide) (fun hc => absurd hc (by decide)) (fun _ => ?_)
  refine lv_aload_n hx hb dL_refuses_616 rfl (lv_at hl 6 rfl) ?_
  refine lv_iload hx hb dL_refuses_617 (lv_at hl 0 rfl) ?_
  refine lv_iload hx hb dL_refuses_619 (lv_at hl 13 rfl) ?_
  refine lv_iconst (v := 1) hx hb dL_refuses_621 (by decide) ?_
  refine lv_icmp_ne (tgt := 630) hx hb dL_refuses_622 (by decide) (fun _ => ?_) (fun hc => absurd hc (by decide))
  refine lv_iload hx hb dL_refuses_630 (lv_at hl 5 rfl) ?_
  refine lv_iconst (v := 0) hx hb dL_refuses_632 (by decide) ?_
  refine lv_iconst (v := 0) hx hb dL_refuses_633 (by decide) ?_
  refine lv_iconst (v := 0) hx hb dL_refuses_634 (by decide) ?_
  refine kgo_i (kc_SW (As := [.ref (ad 0 0), .int 21, .int (-2147483648), .int 0, .int 0, .int 0]) (rest := []) S hE hS hAb (ax_alarmClosed1 ε l hw (cpx_alarmClosed ε l hw hB hst (x := ((-2147483648))) (Or.inl (by decide +kernel)))) (vx_cwSW 6 hts gL_refuses_L_act rfl rfl rfl (by decide +kernel) ⟨Nat.le_of_ble_eq_true rfl, Nat.le_of_ble_eq_true rfl⟩) rfl hl.1 rfl (Nat.le_of_ble_eq_true rfl) dL_refuses_635 ⟨Nat.le_of_ble_eq_true rfl, Nat.le_of_ble_eq_true rfl⟩) hS (fun _ h => h) (fun r9 H1 locs e9 hz1 hq hS => ?_)
  have hw := hw.keep (fun k j hk => hq _ (va_at.lt (hw.1 k j hk).1) (fun h => h))
  clear hq hz1
  refine kr_room (c1 := 128) (s1 := 768) rfl rfl ?_
  refine kr_top e9 ?_
  refine lv_bipush (v := -41) hx hb dL_refuses_638 (by decide) ?_
  refine lv_icmp_ne (tgt := 647) hx hb dL_refuses_640 (by decide) (fun hc => absurd (by decide) hc) (fun _ => ?_)
  refine lv_iconst (v := 1) hx hb dL_refuses_643 (by decide) ?_
  refine lv_goto (tgt := 648) hx hb dL_refuses_644 (by decide) ?_
  refine lv_istore (lv' := [(12, .int 1), (13, .int 21), (11, .int ((-2147483648))), (10, .int ((-2147483648))), (9, .int ((-2147483648))), (8, .int ((-2147483648))), (0, .ref (ad 0 0)), (1, .int (nI (σ 1 0))), (2, .int (nI (σ 2 0))), (3, .int (nI (σ 3 0))), (4, .int (nI (σ 0 0))), (5, .int (nI (σ 4 0))), (6, .int 2147483647), (7, .int 3)]) hx hb dL_refuses_648 hl (by decide) rfl (fun ls hl => ?_)
  refine lv_iinc (v := 22) (lv' := [(13, .int 22), (12, .int 1), (11, .int ((-2147483648))), (10, .int ((-2147483648))), (9, .int ((-2147483648))), (8, .int ((-2147483648))), (0, .ref (ad 0 0)), (1, .int (nI (σ 1 0))), (2, .int (nI (σ 2 0))), (3, .int (nI (σ 3 0))), (4, .int (nI (σ 0 0))), (5, .int (nI (σ 4 0))), (6, .int 2147483647), (7, .int 3)]) hx hb dL_refuses_650 hl (k := 1) rfl (by decide) (by decide) rfl (fun ls hl => ?_)
  refine lv_goto (tgt := 604) hx hb dL_refuses_653 (by decide) ?_
  refine lv_iload hx hb dL_refuses_604 (lv_at hl 0 rfl) ?_
  refine lv_bipush (v := 22) hx hb dL_refuses_606 (by decide) ?_
  refine lv_icmp_ge (tgt := 656) hx hb dL_refuses_608 (by decide) (fun _ => ?_) (fun hc => absurd (by decide) hc)
  refine lv_iload hx hb dL_refuses_656 (lv_at hl 1 rfl) ?_
  refine lv_if_ne (tgt := 663) hx hb dL_refuses_658 (by decide) (fun _ => ?_) (fun hc => absurd hc (by decide))
  refine lv_iinc (v := 4) (lv' := [(7, .int 4), (13, .int 22), (12, .int 1), (11, .int ((-2147483648))), (10, .int ((-2147483648))), (9, .int ((-2147483648))), (8, .int ((-2147483648))), (0, .ref (ad 0 0)), (1, .int (nI (σ 1 0))), (2, .int (nI (σ 2 0))), (3, .int (nI (σ 3 0))), (4, .int (nI (σ 0 0))), (5, .int (nI (σ 4 0))), (6, .int 2147483647)]) hx hb dL_refuses_663 hl (k := 13) rfl (by decide) (by decide) rfl (fun ls hl => ?_)
  refine lv_goto (tgt := 19) hx hb dL_refuses_666 (by decide) ?_
  exact KK _ _ _ hw hS (lv_sub hl [7, 8, 9, 10, 11, 12, 13, 0] rfl)
end KRFS
set_option maxHeartbeats 4000000 in
set_option maxRecDepth 100000 in
theorem cl_refuses (ε : kEnv) (l : Launch) {A : Nat → Prop} {ad : Nat → Nat → Nat} {σ : kS} {H : Heap} (hst : l.stackTraces = false) (hw : kW ε A ad σ H) (hB : kB σ) (h2 : 0 < σ 2 0) : kMi ε l yL_refuses wsL_refuses ({ frames := 12, cells := 128, slots := 768, locals := 360 }) [.ref (ad 0 0), .int (nI (σ 1 0)), .int (nI (σ 2 0)), .int (nI (σ 3 0))] H kNo 128 768 (fun r9 _ => r9 = 1) := by
  refine kof (cc := cL_refuses) (maxL := 14) (ret := (some .boolean)) (by decide) rfl (Nat.le_of_ble_eq_true rfl) ?_
  intro p e s m below meth c ls S hr hlocks hin hH hE hl
  have S : CallFix p m c cL_refuses 14 s _ wsL_refuses RL := S
  have hx := S.1
  have hb := S.2.1
  have hown : s.vm.findClass RL = some m.cls := S.2.2.2.1
  have hts := S.2.2.2.2
  have hK := hE.1
  have hS : va_S kNo s.heap H [] := by rw [hH]; exact va_S.rf
  have hAb : ∀ q, kNo q → kHi ε q := fun _ h => h.elim
  have hl : lv_has ls 14 [(0, .ref (ad 0 0)), (1, .int (nI (σ 1 0))), (2, .int (nI (σ 2 0))), (3, .int (nI (σ 3 0)))] := hl
  refine lv_aload_n hx hb dL_refuses_0 rfl (lv_at hl 0 rfl) ?_
  refine kgo_pi (v := nI (σ 0 0)) (kc_V (As := []) (rest := []) S hE hS hAb (cp_minute ε l hw hB) (cwV 0 hts gL_refuses_X4_minute rfl rfl rfl (by decide +kernel) ⟨Nat.le_of_ble_eq_true rfl, Nat.le_of_ble_eq_true rfl⟩) (hw.lv 0 0 (rfl : (0 : Nat) = 0)) rfl rfl hl.1 rfl (Nat.le_of_ble_eq_true rfl) dL_refuses_1 ⟨Nat.le_of_ble_eq_true rfl, Nat.le_of_ble_eq_true rfl⟩) hS (fun locs hS => ?_)
  refine lv_istore (lv' := [(4, .int (nI (σ 0 0))), (0, .ref (ad 0 0)), (1, .int (nI (σ 1 0))), (2, .int (nI (σ 2 0))), (3, .int (nI (σ 3 0)))]) hx hb dL_refuses_4 hl (by decide) rfl (fun ls hl => ?_)
  refine lv_aload_n hx hb dL_refuses_6 rfl (lv_at hl 1 rfl) ?_
  refine kgo_pi (v := nI (σ 4 0)) (kc_V (As := []) (rest := []) S hE hS hAb (cp_alarms ε l hw hB) (cwV 0 hts gL_refuses_X4_alarms rfl rfl rfl (by decide +kernel) ⟨Nat.le_of_ble_eq_true rfl, Nat.le_of_ble_eq_true rfl⟩) (hw.lv 0 0 (rfl : (0 : Nat) = 0)) rfl rfl hl.1 rfl (Nat.le_of_ble_eq_true rfl) dL_refuses_7 ⟨Nat.le_of_ble_eq_true rfl, Nat.le_of_ble_eq_true rfl⟩) hS (fun locs hS => ?_)
  refine lv_istore (lv' := [(5, .int (nI (σ 4 0))), (4, .int (nI (σ 0 0))), (0, .ref (ad 0 0)), (1, .int (nI (σ 1 0))), (2, .int (nI (σ 2 0))), (3, .int (nI (σ 3 0)))]) hx hb dL_refuses_10 hl (by decide) rfl (fun ls hl => ?_)
  refine lv_ldc (own := RL) (v := 2147483647) hx hb hown (hts (.constant RL 96 (2147483647)) (by decide +kernel)) dL_refuses_12 ?_
  refine lv_istore (lv' := [(6, .int 2147483647), (5, .int (nI (σ 4 0))), (4, .int (nI (σ 0 0))), (0, .ref (ad 0 0)), (1, .int (nI (σ 1 0))), (2, .int (nI (σ 2 0))), (3, .int (nI (σ 3 0)))]) hx hb dL_refuses_14 hl (by decide) rfl (fun ls hl => ?_)
  refine lv_iconst (v := 0) hx hb dL_refuses_16 (by decide) ?_
  refine lv_istore (lv' := [(7, .int 0), (6, .int 2147483647), (5, .int (nI (σ 4 0))), (4, .int (nI (σ 0 0))), (0, .ref (ad 0 0)), (1, .int (nI (σ 1 0))), (2, .int (nI (σ 2 0))), (3, .int (nI (σ 3 0)))]) hx hb dL_refuses_17 hl (by decide) rfl (fun ls hl => ?_)
  refine rf_0 S hE hst hw hB h2 hS (lv_sub hl [4, 5, 6, 7, 3, 2, 1, 0] rfl) (fun H1 locs ls hw hS hl => ?_)
  refine rf_1 S hE hst hw hB h2 hS (lv_sub hl [0, 1, 2, 3, 4, 5, 6, 7] rfl) (fun H1 locs ls hw hS hl => ?_)
  refine rf_2 S hE hst hw hB h2 hS (lv_sub hl [0, 1, 2, 3, 4, 5, 6, 7] rfl) (fun H1 locs ls hw hS hl => ?_)
  refine rf_3 S hE hst hw hB h2 hS (lv_sub hl [0, 1, 2, 3, 4, 5, 6, 7] rfl) (fun H1 locs ls hw hS hl => ?_)
  refine lv_iload hx hb dL_refuses_19 (lv_at hl 7 rfl) ?_
  refine lv_iconst (v := 4) hx hb dL_refuses_21 (by decide) ?_
  refine lv_icmp_ge (tgt := 669) hx hb dL_refuses_22 (by decide) (fun _ => ?_) (fun hc => absurd (by decide) hc)
  refine lv_aload_n hx hb dL_refuses_669 rfl (lv_at hl 0 rfl) ?_
  refine kgo_pi (v := nI (σ 0 0)) (kc_V (As := []) (rest := []) S hE hS hAb (cp_minute ε l hw hB) (cwV 0 hts gL_refuses_X4_minute rfl rfl rfl (by decide +kernel) ⟨Nat.le_of_ble_eq_true rfl, Nat.le_of_ble_eq_true rfl⟩) (hw.lv 0 0 (rfl : (0 : Nat) = 0)) rfl rfl hl.1 rfl (Nat.le_of_ble_eq_true rfl) dL_refuses_670 ⟨Nat.le_of_ble_eq_true rfl, Nat.le_of_ble_eq_true rfl⟩) hS (fun locs hS => ?_)
  refine lv_iload hx hb dL_refuses_673 (lv_at hl 4 rfl) ?_
  refine lv_icmp_ne (tgt := 691) hx hb dL_refuses_675 (by decide) (fun hc => absurd (rfl) hc) (fun _ => ?_)
  refine lv_aload_n hx hb dL_refuses_678 rfl (lv_at hl 0 rfl) ?_
  refine kgo_pi (v := nI (σ 4 0)) (kc_V (As := []) (rest := []) S hE hS hAb (cp_alarms ε l hw hB) (cwV 0 hts gL_refuses_X4_alarms rfl rfl rfl (by decide +kernel) ⟨Nat.le_of_ble_eq_true rfl, Nat.le_of_ble_eq_true rfl⟩) (hw.lv 0 0 (rfl : (0 : Nat) = 0)) rfl rfl hl.1 rfl (Nat.le_of_ble_eq_true rfl) dL_refuses_679 ⟨Nat.le_of_ble_eq_true rfl, Nat.le_of_ble_eq_true rfl⟩) hS (fun locs hS => ?_)
  refine lv_iload hx hb dL_refuses_682 (lv_at hl 5 rfl) ?_
  refine lv_icmp_ne (tgt := 691) hx hb dL_refuses_684 (by decide) (fun hc => absurd (rfl) hc) (fun _ => ?_)
  refine lv_iconst (v := 1) hx hb dL_refuses_687 (by decide) ?_
  refine lv_goto (tgt := 692) hx hb dL_refuses_688 (by decide) ?_
  refine kend_z S hr hlocks hS rfl (Or.inr rfl) dL_refuses_692
