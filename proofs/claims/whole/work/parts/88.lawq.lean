/-! ===== the law's cases ===== -/
def kAp (ε : kEnv) (A B : Nat → Prop) (o od : Nat) : Prop := (∀ q, A q → kHi ε q) ∧ (∀ q, B q → kHi ε q) ∧ (∀ q, A q → ¬ B q) ∧ (¬ A o ∧ ¬ B o ∧ kHi ε o) ∧ (¬ A od ∧ ¬ B od ∧ kHi ε od) ∧ o ≠ od
def kLw (ε : kEnv) (A B : Nat → Prop) (o od x0 y0 : Nat) (σ τ : kS) (H : Heap) : Prop := (∃ ad, ad 0 0 = x0 ∧ kW ε A ad σ H) ∧ (∃ bd, bd 0 = y0 ∧ kM ε B bd τ H) ∧ (∃ g, kat ε o (kJ ε 1 g) H) ∧ ∃ g, kat ε od (kD ε 1 g) H
section KLQ
variable {p : Program} {l : Launch} {e : Env} {R : Room} {s : State} {m : MethodId} {args : Array Value} {below : List Frame} {meth : Method} {c : Code} {H : Heap} {locs : List Loc} {cells slots : Nat} {Q : State → Prop}
theorem kc_SW {cc : ByteArray} {pc : Nat} {ls : Array Slot} {rest st0 : List Value} {ε : kEnv} {A : Nat → Prop} {own : String} {index nL : Nat} {Ts : List Cond} {y : MethodName} {bytes : ByteArray} {maxL mc ms n : Nat} {ret : Option FieldType} {hh : List (Nat × Nat × Nat × Nat)} {ws : List Cond} {rm : Room} {Qc : Array Value → State → Outcome → State → Prop} {free : Addr → Prop} {As : List Value}
    (S : CallFix p m c cc nL s args Ts own) (hE : kE ε s) (hS : va_S A s.heap H locs) (hAb : ∀ q, A q → kHi ε q) (hM : Met l y ws rm (va_Pc As (kPre ε H)) Qc mc ms free) (cw : vx_CSW R s args own index y bytes maxL ret hh ws rm mc ms n) (hn : As.length = n) (hsz : ls.size = nL) (hst : st0 = As.reverse ++ rest) (hcat : (rest.map fun v => v.category).sum ≤ 8) (hdg : decode cc pc = .ok (.invokestatic index, 3)) (hf : cells + mc ≤ R.cells ∧ slots + ms ≤ R.slots) :
    va_Run p l e R s m args below meth c H locs cells slots mc ms (F0 m pc ls st0) rest (Qc As.toArray) free :=
  vx_runSW S hM cw ⟨kBl, kpre_at hE hS hAb⟩ rfl hn hsz hst (lv_room hcat) hdg hf
end KLQ
section KLQS
variable {p : Program} {l : Launch} {e : Env} {s : State} {m : MethodId} {below : List Frame} {meth : Method} {c : Code} {H : Heap} {locs : List Loc} {cells slots : Nat} {Q : State → Prop} {ls : Array Slot}
variable {ε : kEnv} {A B : Nat → Prop} {o od b L i : Nat} {xs : Nat → Int32} {ad : Nat → Nat → Nat} {bd : Nat → Nat} {σ σ' τ τ' : kS}
set_option maxHeartbeats 4000000 in
set_option maxRecDepth 100000 in
theorem lq_addRegion (S : CallFix p m c cL_law 8 s #[Value.ref b] wsL_law RL) (hE : kE ε s) (hX : va_X b L xs s s.heap) (hbl : b < s.heap.size) (hlo : ε.2.2.1 = s.heap.size) (hL : L ≤ 2560) (hi : i + 5 ≤ L) (hap : kAp ε A B o od) (hw : kW ε A ad σ H) (hm : kM ε B bd τ H) (hoJ : ∃ g, kat ε o (kJ ε 1 g) H) (hoD : ∃ g, kat ε od (kD ε 1 g) H) {v vm : Int32} {mc ms kn : Nat} (hC : kMi ε l yL_addRegion wsL_addRegion ({ frames := 11, cells := mc, slots := ms, locals := 310 }) [.ref (ad 0 0), .int (xs (i + 1)), .ref o] H (kAo A o) mc ms (kLP ε A o (ad 0 0) σ' kn v)) (hM : ∀ H1, kM ε B bd τ H1 → kMi ε l yX5_addRegion wsX5_addRegion ({ frames := 6, cells := 0, slots := 0, locals := 140 }) [.ref (bd 0), .int (xs (i + 1))] H1 B 0 0 (fun v9 H' => v9 = vm ∧ kM ε B bd τ' H')) (hk : τ' 35 0 = kn) (hkn : kn ≤ 3) (hv : kn = 0 → vm = v) (hcs : cells + mc ≤ room_1.cells ∧ slots + ms ≤ room_1.slots) (hS : va_S (kHi ε) s.heap H locs) (hl : lv_has ls 8 [(0, .ref b), (1, .ref (ad 0 0)), (2, .ref (bd 0)), (3, .ref o), (4, .ref od), (5, .int (nI i))]) (KK : ∀ (H' : Heap) (locs' : List Loc) (ls' : Array Slot), kLw ε A B o od (ad 0 0) (bd 0) σ' τ' H' → H.size ≤ H'.size → va_S (kHi ε) s.heap H' locs' → lv_has ls' 8 [(0, .ref b), (1, .ref (ad 0 0)), (2, .ref (bd 0)), (3, .ref o), (4, .ref od), (5, .int (nI i))] → W p l e room_1 s m #[Value.ref b] below meth c H' locs' (cells + mc) (slots + ms) Q (F0 m 1640 ls' [])) : W p l e room_1 s m #[Value.ref b] below meth c H locs cells slots Q (F0 m 156 ls []) := by
  have hx := S.1
  have hb := S.2.1
  have hown : s.vm.findClass RL = some m.cls := S.2.2.2.1
  have hts := S.2.2.2.2
  have hK := hE.1
  have hAb : ∀ q, kHi ε q → kHi ε q := fun _ h => h
  obtain ⟨hA1, hB1, hAB, ⟨hoA, hoB, hoK⟩, ⟨hdA, hdB, hdK⟩, hood⟩ := hap
  have hbA : ¬ kHi ε b := by show ¬ ε.2.2.1 ≤ b; omega
  refine lv_aload_n hx hb dL_law_156 rfl (lv_at hl 1 rfl) ?_
  refine lv_aload_n hx hb dL_law_157 rfl (lv_at hl 0 rfl) ?_
  refine lv_iload hx hb dL_law_158 (lv_at hl 5 rfl) ?_
  refine lv_iconst (v := 1) hx hb dL_law_160 (by decide) ?_
  refine lv_iadd hx hb dL_law_161 ?_
  refine kr_top (y := nI (i + 1)) (nI_add i 1) ?_
  refine va_sld hx hb hX hbl hbA hS (vp_in_nI (by omega) (by omega)) dL_law_162 ?_
  refine kr_top (y := xs (i + 1)) (congrArg xs (nI_clamp (by omega))) ?_
  refine lv_aload_n hx hb dL_law_163 rfl (lv_at hl 3 rfl) ?_
  refine kgo_i (kc_SW (As := [.ref (ad 0 0), .int (xs (i + 1)), .ref o]) (rest := []) S hE hS hAb hC (vx_cwSW 3 hts gL_law_L_addRegion rfl rfl rfl (by decide +kernel) ⟨Nat.le_of_ble_eq_true rfl, Nat.le_of_ble_eq_true rfl⟩) rfl hl.1 rfl (Nat.le_of_ble_eq_true rfl) dL_law_164 hcs) hS (kAo_hi hA1 hoK) (fun r9 H1 locs hp hz1 hq hS => ?_)
  obtain ⟨e9, ⟨ad', ea, hw⟩, g, hoJ, hg0⟩ := hp
  refine kr_top e9 ?_
  have hm := hm.keep (fun k hk => hq _ (va_at.lt (hm.1 k hk).1) (fun h => h.elim (fun h => hAB _ h (hm.1 k hk).2) (fun h => hoB (h ▸ (hm.1 k hk).2))))
  obtain ⟨gD, hoD⟩ := hoD
  have hoD := va_at.kept hoD (hq od (va_at.lt hoD) (fun h => h.elim hdA (fun h => hood h.symm)))
  clear hq
  refine lv_istore (lv' := [(6, .int (nI kn)), (0, .ref b), (1, .ref (ad 0 0)), (2, .ref (bd 0)), (3, .ref o), (4, .ref od), (5, .int (nI i))]) hx hb dL_law_167 hl (by decide) rfl (fun ls hl => ?_)
  refine lv_aload_n hx hb dL_law_169 rfl (lv_at hl 3 rfl) ?_
  refine lv_aload_n hx hb dL_law_170 rfl (lv_at hl 1 rfl) ?_
  refine lv_iload hx hb dL_law_171 (lv_at hl 6 rfl) ?_
  refine lv_iconst (v := 1) hx hb dL_law_173 (by decide) ?_
  refine lv_iadd hx hb dL_law_174 ?_
  refine kr_top (y := nI (i + 1)) (nI_add i 1) ?_
  refine va_sld hx hb hX hbl hbA hS (vp_in_nI (by omega) (by omega)) dL_law_175 ?_
  refine kr_top (y := xs (i + 1)) (congrArg xs (nI_clamp (by omega))) ?_
  refine kgo_i (kc_V (As := [.int (xs (i + 1))]) (rest := []) S hE hS hAb (hM _ hm) (cwV 1 hts gL_law_X5_addRegion rfl rfl rfl (by decide +kernel) ⟨Nat.le_of_ble_eq_true rfl, Nat.le_of_ble_eq_true rfl⟩) (hm.lv 0 (by decide)) rfl rfl hl.1 rfl (Nat.le_of_ble_eq_true rfl) dL_law_176 ⟨Nat.le_trans (Nat.le_of_eq (Nat.add_zero _)) hcs.1, Nat.le_trans (Nat.le_of_eq (Nat.add_zero _)) hcs.2⟩) hS hB1 (fun r8 H2 locs hp hz2 hq hS => ?_)
  obtain ⟨e8, hm⟩ := hp
  refine kr_top e8 ?_
  have hw := hw.keep (fun k j hk => hq _ (va_at.lt (hw.1 k j hk).1) (hAB _ (hw.1 k j hk).2))
  have hoJ := va_at.kept hoJ (hq o (va_at.lt hoJ) hoB)
  have hoD := va_at.kept hoD (hq od (va_at.lt hoD) hdB)
  clear hq
  refine lv_istore (lv' := [(7, .int vm), (6, .int (nI kn)), (0, .ref b), (1, .ref (ad 0 0)), (2, .ref (bd 0)), (3, .ref o), (4, .ref od), (5, .int (nI i))]) hx hb dL_law_179 hl (by decide) rfl (fun ls hl => ?_)
  refine lv_aload_n hx hb dL_law_181 rfl (lv_at hl 4 rfl) ?_
  refine kgo_pi (v := nI (τ' 35 0)) (kc_V (As := []) (rest := []) S hE hS hAb (cm_thrown ε l hm) (cwV 0 hts gL_law_X5_thrown rfl rfl rfl (by decide +kernel) ⟨Nat.le_of_ble_eq_true rfl, Nat.le_of_ble_eq_true rfl⟩) (hm.lv 0 (by decide)) rfl rfl hl.1 rfl (Nat.le_of_ble_eq_true rfl) dL_law_182 ⟨Nat.le_trans (Nat.le_of_eq (Nat.add_zero _)) hcs.1, Nat.le_trans (Nat.le_of_eq (Nat.add_zero _)) hcs.2⟩) hS (fun locs hS => ?_)
  refine kr_top (y := nI kn) (by rw [hk]) ?_
  refine lv_iload hx hb dL_law_185 (lv_at hl 1 rfl) ?_
  refine lv_icmp_eq (tgt := 192) hx hb dL_law_187 (by decide) (fun _ => ?_) (fun hc => absurd (rfl) hc)
  refine lv_iload hx hb dL_law_192 (lv_at hl 1 rfl) ?_
  by_cases hk0 : kn = 0
  · refine lv_if_ne (tgt := 209) hx hb dL_law_194 (by decide) (fun hc => absurd (by rw [hk0]; rfl) hc) (fun _ => ?_)
    refine lv_aload_n hx hb dL_law_197 rfl (lv_at hl 5 rfl) ?_
    refine lv_iconst (v := 0) hx hb dL_law_198 (by decide) ?_
    refine kr_lld hx hb hK hoJ (j := 0) (by decide) rfl (by decide) (x := v.toInt64) (hg0 hk0) dL_law_199 ?_
    refine lv_iload hx hb dL_law_200 (lv_at hl 0 rfl) ?_
    refine kr_top (y := v) (hv hk0) ?_
    refine lv_i2l (v := (v).toInt64) hx hb dL_law_202 rfl ?_
    refine kr_lcmpE hx hb dL_law_203 ?_
    refine lv_if_eq (tgt := 209) hx hb dL_law_204 (by decide) (fun _ => ?_) (fun hc => absurd (rfl) hc)
    refine lv_goto (tgt := 1640) hx hb dL_law_209 (by decide) ?_
    exact KK _ _ _ ⟨⟨ad', ea, hw⟩, ⟨bd, rfl, hm⟩, ⟨_, hoJ⟩, ⟨_, hoD⟩⟩ (Nat.le_trans hz1 hz2) hS (lv_sub hl [2, 3, 4, 5, 6, 7] rfl)
  · refine lv_if_ne (tgt := 209) hx hb dL_law_194 (by decide) (fun _ => ?_) (fun hc => absurd hc (nI_ne0 (by omega) (by omega)))
    refine lv_goto (tgt := 1640) hx hb dL_law_209 (by decide) ?_
    exact KK _ _ _ ⟨⟨ad', ea, hw⟩, ⟨bd, rfl, hm⟩, ⟨_, hoJ⟩, ⟨_, hoD⟩⟩ (Nat.le_trans hz1 hz2) hS (lv_sub hl [2, 3, 4, 5, 6, 7] rfl)
set_option maxHeartbeats 4000000 in
set_option maxRecDepth 100000 in
theorem lq_addCheck (S : CallFix p m c cL_law 8 s #[Value.ref b] wsL_law RL) (hE : kE ε s) (hX : va_X b L xs s s.heap) (hbl : b < s.heap.size) (hlo : ε.2.2.1 = s.heap.size) (hL : L ≤ 2560) (hi : i + 5 ≤ L) (hap : kAp ε A B o od) (hw : kW ε A ad σ H) (hm : kM ε B bd τ H) (hoJ : ∃ g, kat ε o (kJ ε 1 g) H) (hoD : ∃ g, kat ε od (kD ε 1 g) H) {v vm : Int32} {mc ms kn : Nat} (hC : kMi ε l yL_addCheck wsL_addCheck ({ frames := 11, cells := mc, slots := ms, locals := 310 }) [.ref (ad 0 0), .int (xs (i + 1)), .int (xs (i + 2)), .int (xs (i + 3)), .int (xs (i + 4)), .ref o] H (kAo A o) mc ms (kLP ε A o (ad 0 0) σ' kn v)) (hM : ∀ H1, kM ε B bd τ H1 → kMi ε l yX5_addCheck wsX5_addCheck ({ frames := 6, cells := 0, slots := 0, locals := 140 }) [.ref (bd 0), .int (xs (i + 1)), .int (xs (i + 2)), .int (xs (i + 3)), .int (xs (i + 4))] H1 B 0 0 (fun v9 H' => v9 = vm ∧ kM ε B bd τ' H')) (hk : τ' 35 0 = kn) (hkn : kn ≤ 3) (hv : kn = 0 → vm = v) (hcs : cells + mc ≤ room_1.cells ∧ slots + ms ≤ room_1.slots) (hS : va_S (kHi ε) s.heap H locs) (hl : lv_has ls 8 [(0, .ref b), (1, .ref (ad 0 0)), (2, .ref (bd 0)), (3, .ref o), (4, .ref od), (5, .int (nI i))]) (KK : ∀ (H' : Heap) (locs' : List Loc) (ls' : Array Slot), kLw ε A B o od (ad 0 0) (bd 0) σ' τ' H' → H.size ≤ H'.size → va_S (kHi ε) s.heap H' locs' → lv_has ls' 8 [(0, .ref b), (1, .ref (ad 0 0)), (2, .ref (bd 0)), (3, .ref o), (4, .ref od), (5, .int (nI i))] → W p l e room_1 s m #[Value.ref b] below meth c H' locs' (cells + mc) (slots + ms) Q (F0 m 1640 ls' [])) : W p l e room_1 s m #[Value.ref b] below meth c H locs cells slots Q (F0 m 212 ls []) := by
  have hx := S.1
  have hb := S.2.1
  have hown : s.vm.findClass RL = some m.cls := S.2.2.2.1
  have hts := S.2.2.2.2
  have hK := hE.1
  have hAb : ∀ q, kHi ε q → kHi ε q := fun _ h => h
  obtain ⟨hA1, hB1, hAB, ⟨hoA, hoB, hoK⟩, ⟨hdA, hdB, hdK⟩, hood⟩ := hap
  have hbA : ¬ kHi ε b := by show ¬ ε.2.2.1 ≤ b; omega
  refine lv_aload_n hx hb dL_law_212 rfl (lv_at hl 1 rfl) ?_
  refine lv_aload_n hx hb dL_law_213 rfl (lv_at hl 0 rfl) ?_
  refine lv_iload hx hb dL_law_214 (lv_at hl 5 rfl) ?_
  refine lv_iconst (v := 1) hx hb dL_law_216 (by decide) ?_
  refine lv_iadd hx hb dL_law_217 ?_
  refine kr_top (y := nI (i + 1)) (nI_add i 1) ?_
  refine va_sld hx hb hX hbl hbA hS (vp_in_nI (by omega) (by omega)) dL_law_218 ?_
  refine kr_top (y := xs (i + 1)) (congrArg xs (nI_clamp (by omega))) ?_
  refine lv_aload_n hx hb dL_law_219 rfl (lv_at hl 0 rfl) ?_
  refine lv_iload hx hb dL_law_220 (lv_at hl 5 rfl) ?_
  refine lv_iconst (v := 2) hx hb dL_law_222 (by decide) ?_
  refine lv_iadd hx hb dL_law_223 ?_
  refine kr_top (y := nI (i + 2)) (nI_add i 2) ?_
  refine va_sld hx hb hX hbl hbA hS (vp_in_nI (by omega) (by omega)) dL_law_224 ?_
  refine kr_top (y := xs (i + 2)) (congrArg xs (nI_clamp (by omega))) ?_
  refine lv_aload_n hx hb dL_law_225 rfl (lv_at hl 0 rfl) ?_
  refine lv_iload hx hb dL_law_226 (lv_at hl 5 rfl) ?_
  refine lv_iconst (v := 3) hx hb dL_law_228 (by decide) ?_
  refine lv_iadd hx hb dL_law_229 ?_
  refine kr_top (y := nI (i + 3)) (nI_add i 3) ?_
  refine va_sld hx hb hX hbl hbA hS (vp_in_nI (by omega) (by omega)) dL_law_230 ?_
  refine kr_top (y := xs (i + 3)) (congrArg xs (nI_clamp (by omega))) ?_
  refine lv_aload_n hx hb dL_law_231 rfl (lv_at hl 0 rfl) ?_
  refine lv_iload hx hb dL_law_232 (lv_at hl 5 rfl) ?_
  refine lv_iconst (v := 4) hx hb dL_law_234 (by decide) ?_
  refine lv_iadd hx hb dL_law_235 ?_
  refine kr_top (y := nI (i + 4)) (nI_add i 4) ?_
  refine va_sld hx hb hX hbl hbA hS (vp_in_nI (by omega) (by omega)) dL_law_236 ?_
  refine kr_top (y := xs (i + 4)) (congrArg xs (nI_clamp (by omega))) ?_
  refine lv_aload_n hx hb dL_law_237 rfl (lv_at hl 3 rfl) ?_
  refine kgo_i (kc_SW (As := [.ref (ad 0 0), .int (xs (i + 1)), .int (xs (i + 2)), .int (xs (i + 3)), .int (xs (i + 4)), .ref o]) (rest := []) S hE hS hAb hC (vx_cwSW 6 hts gL_law_L_addCheck rfl rfl rfl (by decide +kernel) ⟨Nat.le_of_ble_eq_true rfl, Nat.le_of_ble_eq_true rfl⟩) rfl hl.1 rfl (Nat.le_of_ble_eq_true rfl) dL_law_238 hcs) hS (kAo_hi hA1 hoK) (fun r9 H1 locs hp hz1 hq hS => ?_)
  obtain ⟨e9, ⟨ad', ea, hw⟩, g, hoJ, hg0⟩ := hp
  refine kr_top e9 ?_
  have hm := hm.keep (fun k hk => hq _ (va_at.lt (hm.1 k hk).1) (fun h => h.elim (fun h => hAB _ h (hm.1 k hk).2) (fun h => hoB (h ▸ (hm.1 k hk).2))))
  obtain ⟨gD, hoD⟩ := hoD
  have hoD := va_at.kept hoD (hq od (va_at.lt hoD) (fun h => h.elim hdA (fun h => hood h.symm)))
  clear hq
  refine lv_istore (lv' := [(6, .int (nI kn)), (0, .ref b), (1, .ref (ad 0 0)), (2, .ref (bd 0)), (3, .ref o), (4, .ref od), (5, .int (nI i))]) hx hb dL_law_241 hl (by decide) rfl (fun ls hl => ?_)
  refine lv_aload_n hx hb dL_law_243 rfl (lv_at hl 3 rfl) ?_
  refine lv_aload_n hx hb dL_law_244 rfl (lv_at hl 1 rfl) ?_
  refine lv_iload hx hb dL_law_245 (lv_at hl 6 rfl) ?_
  refine lv_iconst (v := 1) hx hb dL_law_247 (by decide) ?_
  refine lv_iadd hx hb dL_law_248 ?_
  refine kr_top (y := nI (i + 1)) (nI_add i 1) ?_
  refine va_sld hx hb hX hbl hbA hS (vp_in_nI (by omega) (by omega)) dL_law_249 ?_
  refine kr_top (y := xs (i + 1)) (congrArg xs (nI_clamp (by omega))) ?_
  refine lv_aload_n hx hb dL_law_250 rfl (lv_at hl 1 rfl) ?_
  refine lv_iload hx hb dL_law_251 (lv_at hl 6 rfl) ?_
  refine lv_iconst (v := 2) hx hb dL_law_253 (by decide) ?_
  refine lv_iadd hx hb dL_law_254 ?_
  refine kr_top (y := nI (i + 2)) (nI_add i 2) ?_
  refine va_sld hx hb hX hbl hbA hS (vp_in_nI (by omega) (by omega)) dL_law_255 ?_
  refine kr_top (y := xs (i + 2)) (congrArg xs (nI_clamp (by omega))) ?_
  refine lv_aload_n hx hb dL_law_256 rfl (lv_at hl 1 rfl) ?_
  refine lv_iload hx hb dL_law_257 (lv_at hl 6 rfl) ?_
  refine lv_iconst (v := 3) hx hb dL_law_259 (by decide) ?_
  refine lv_iadd hx hb dL_law_260 ?_
  refine kr_top (y := nI (i + 3)) (nI_add i 3) ?_
  refine va_sld hx hb hX hbl hbA hS (vp_in_nI (by omega) (by omega)) dL_law_261 ?_
  refine kr_top (y := xs (i + 3)) (congrArg xs (nI_clamp (by omega))) ?_
  refine lv_aload_n hx hb dL_law_262 rfl (lv_at hl 1 rfl) ?_
  refine lv_iload hx hb dL_law_263 (lv_at hl 6 rfl) ?_
  refine lv_iconst (v := 4) hx hb dL_law_265 (by decide) ?_
  refine lv_iadd hx hb dL_law_266 ?_
  refine kr_top (y := nI (i + 4)) (nI_add i 4) ?_
  refine va_sld hx hb hX hbl hbA hS (vp_in_nI (by omega) (by omega)) dL_law_267 ?_
  refine kr_top (y := xs (i + 4)) (congrArg xs (nI_clamp (by omega))) ?_
  refine kgo_i (kc_V (As := [.int (xs (i + 1)), .int (xs (i + 2)), .int (xs (i + 3)), .int (xs (i + 4))]) (rest := []) S hE hS hAb (hM _ hm) (cwV 4 hts gL_law_X5_addCheck rfl rfl rfl (by decide +kernel) ⟨Nat.le_of_ble_eq_true rfl, Nat.le_of_ble_eq_true rfl⟩) (hm.lv 0 (by decide)) rfl rfl hl.1 rfl (Nat.le_of_ble_eq_true rfl) dL_law_268 ⟨Nat.le_trans (Nat.le_of_eq (Nat.add_zero _)) hcs.1, Nat.le_trans (Nat.le_of_eq (Nat.add_zero _)) hcs.2⟩) hS hB1 (fun r8 H2 locs hp hz2 hq hS => ?_)
  obtain ⟨e8, hm⟩ := hp
  refine kr_top e8 ?_
  have hw := hw.keep (fun k j hk => hq _ (va_at.lt (hw.1 k j hk).1) (hAB _ (hw.1 k j hk).2))
  have hoJ := va_at.kept hoJ (hq o (va_at.lt hoJ) hoB)
  have hoD := va_at.kept hoD (hq od (va_at.lt hoD) hdB)
  clear hq
  refine lv_istore (lv' := [(7, .int vm), (6, .int (nI kn)), (0, .ref b), (1, .ref (ad 0 0)), (2, .ref (bd 0)), (3, .ref o), (4, .ref od), (5, .int (nI i))]) hx hb dL_law_271 hl (by decide) rfl (fun ls hl => ?_)
  refine lv_aload_n hx hb dL_law_273 rfl (lv_at hl 4 rfl) ?_
  refine kgo_pi (v := nI (τ' 35 0)) (kc_V (As := []) (rest := []) S hE hS hAb (cm_thrown ε l hm) (cwV 0 hts gL_law_X5_thrown rfl rfl rfl (by decide +kernel) ⟨Nat.le_of_ble_eq_true rfl, Nat.le_of_ble_eq_true rfl⟩) (hm.lv 0 (by decide)) rfl rfl hl.1 rfl (Nat.le_of_ble_eq_true rfl) dL_law_274 ⟨Nat.le_trans (Nat.le_of_eq (Nat.add_zero _)) hcs.1, Nat.le_trans (Nat.le_of_eq (Nat.add_zero _)) hcs.2⟩) hS (fun locs hS => ?_)
  refine kr_top (y := nI kn) (by rw [hk]) ?_
  refine lv_iload hx hb dL_law_277 (lv_at hl 1 rfl) ?_
  refine lv_icmp_eq (tgt := 284) hx hb dL_law_279 (by decide) (fun _ => ?_) (fun hc => absurd (rfl) hc)
  refine lv_iload hx hb dL_law_284 (lv_at hl 1 rfl) ?_
  by_cases hk0 : kn = 0
  · refine lv_if_ne (tgt := 301) hx hb dL_law_286 (by decide) (fun hc => absurd (by rw [hk0]; rfl) hc) (fun _ => ?_)
    refine lv_aload_n hx hb dL_law_289 rfl (lv_at hl 5 rfl) ?_
    refine lv_iconst (v := 0) hx hb dL_law_290 (by decide) ?_
    refine kr_lld hx hb hK hoJ (j := 0) (by decide) rfl (by decide) (x := v.toInt64) (hg0 hk0) dL_law_291 ?_
    refine lv_iload hx hb dL_law_292 (lv_at hl 0 rfl) ?_
    refine kr_top (y := v) (hv hk0) ?_
    refine lv_i2l (v := (v).toInt64) hx hb dL_law_294 rfl ?_
    refine kr_lcmpE hx hb dL_law_295 ?_
    refine lv_if_eq (tgt := 301) hx hb dL_law_296 (by decide) (fun _ => ?_) (fun hc => absurd (rfl) hc)
    refine lv_goto (tgt := 1640) hx hb dL_law_301 (by decide) ?_
    exact KK _ _ _ ⟨⟨ad', ea, hw⟩, ⟨bd, rfl, hm⟩, ⟨_, hoJ⟩, ⟨_, hoD⟩⟩ (Nat.le_trans hz1 hz2) hS (lv_sub hl [2, 3, 4, 5, 6, 7] rfl)
  · refine lv_if_ne (tgt := 301) hx hb dL_law_286 (by decide) (fun _ => ?_) (fun hc => absurd hc (nI_ne0 (by omega) (by omega)))
    refine lv_goto (tgt := 1640) hx hb dL_law_301 (by decide) ?_
    exact KK _ _ _ ⟨⟨ad', ea, hw⟩, ⟨bd, rfl, hm⟩, ⟨_, hoJ⟩, ⟨_, hoD⟩⟩ (Nat.le_trans hz1 hz2) hS (lv_sub hl [2, 3, 4, 5, 6, 7] rfl)
set_option maxHeartbeats 4000000 in
set_option maxRecDepth 100000 in
theorem lq_setDown (S : CallFix p m c cL_law 8 s #[Value.ref b] wsL_law RL) (hE : kE ε s) (hX : va_X b L xs s s.heap) (hbl : b < s.heap.size) (hlo : ε.2.2.1 = s.heap.size) (hL : L ≤ 2560) (hi : i + 5 ≤ L) (hap : kAp ε A B o od) (hw : kW ε A ad σ H) (hm : kM ε B bd τ H) (hoJ : ∃ g, kat ε o (kJ ε 1 g) H) (hoD : ∃ g, kat ε od (kD ε 1 g) H) {v vm : Int32} {mc ms kn : Nat} {z : Int32} (hz : (xs (i + 3) = 0 ∧ z = 0) ∨ (¬ xs (i + 3) = 0 ∧ z = 1)) (hC : kMi ε l yL_setDown wsL_setDown ({ frames := 11, cells := mc, slots := ms, locals := 310 }) [.ref (ad 0 0), .int (xs (i + 1)), .int (xs (i + 2)), .int z, .ref o] H (kAo A o) mc ms (kLP ε A o (ad 0 0) σ' kn v)) (hM : ∀ H1, kM ε B bd τ H1 → kMi ε l yX5_setDown wsX5_setDown ({ frames := 6, cells := 0, slots := 0, locals := 140 }) [.ref (bd 0), .int (xs (i + 1)), .int (xs (i + 2)), .int z] H1 B 0 0 (fun v9 H' => v9 = vm ∧ kM ε B bd τ' H')) (hk : τ' 35 0 = kn) (hkn : kn ≤ 3) (hv : kn = 0 → vm = v) (h01 : kn = 0 → v = 0 ∨ v = 1) (hcs : cells + mc ≤ room_1.cells ∧ slots + ms ≤ room_1.slots) (hS : va_S (kHi ε) s.heap H locs) (hl : lv_has ls 8 [(0, .ref b), (1, .ref (ad 0 0)), (2, .ref (bd 0)), (3, .ref o), (4, .ref od), (5, .int (nI i))]) (KK : ∀ (H' : Heap) (locs' : List Loc) (ls' : Array Slot), kLw ε A B o od (ad 0 0) (bd 0) σ' τ' H' → H.size ≤ H'.size → va_S (kHi ε) s.heap H' locs' → lv_has ls' 8 [(0, .ref b), (1, .ref (ad 0 0)), (2, .ref (bd 0)), (3, .ref o), (4, .ref od), (5, .int (nI i))] → W p l e room_1 s m #[Value.ref b] below meth c H' locs' (cells + mc) (slots + ms) Q (F0 m 1640 ls' [])) : W p l e room_1 s m #[Value.ref b] below meth c H locs cells slots Q (F0 m 304 ls []) := by
  have hx := S.1
  have hb := S.2.1
  have hown : s.vm.findClass RL = some m.cls := S.2.2.2.1
  have hts := S.2.2.2.2
  have hK := hE.1
  have hAb : ∀ q, kHi ε q → kHi ε q := fun _ h => h
  obtain ⟨hA1, hB1, hAB, ⟨hoA, hoB, hoK⟩, ⟨hdA, hdB, hdK⟩, hood⟩ := hap
  have hbA : ¬ kHi ε b := by show ¬ ε.2.2.1 ≤ b; omega
  rcases hz with ⟨hz, rfl⟩ | ⟨hz, rfl⟩
  · refine lv_aload_n hx hb dL_law_304 rfl (lv_at hl 1 rfl) ?_
    refine lv_aload_n hx hb dL_law_305 rfl (lv_at hl 0 rfl) ?_
    refine lv_iload hx hb dL_law_306 (lv_at hl 5 rfl) ?_
    refine lv_iconst (v := 1) hx hb dL_law_308 (by decide) ?_
    refine lv_iadd hx hb dL_law_309 ?_
    refine kr_top (y := nI (i + 1)) (nI_add i 1) ?_
    refine va_sld hx hb hX hbl hbA hS (vp_in_nI (by omega) (by omega)) dL_law_310 ?_
    refine kr_top (y := xs (i + 1)) (congrArg xs (nI_clamp (by omega))) ?_
    refine lv_aload_n hx hb dL_law_311 rfl (lv_at hl 0 rfl) ?_
    refine lv_iload hx hb dL_law_312 (lv_at hl 5 rfl) ?_
    refine lv_iconst (v := 2) hx hb dL_law_314 (by decide) ?_
    refine lv_iadd hx hb dL_law_315 ?_
    refine kr_top (y := nI (i + 2)) (nI_add i 2) ?_
    refine va_sld hx hb hX hbl hbA hS (vp_in_nI (by omega) (by omega)) dL_law_316 ?_
    refine kr_top (y := xs (i + 2)) (congrArg xs (nI_clamp (by omega))) ?_
    refine lv_aload_n hx hb dL_law_317 rfl (lv_at hl 0 rfl) ?_
    refine lv_iload hx hb dL_law_318 (lv_at hl 5 rfl) ?_
    refine lv_iconst (v := 3) hx hb dL_law_320 (by decide) ?_
    refine lv_iadd hx hb dL_law_321 ?_
    refine kr_top (y := nI (i + 3)) (nI_add i 3) ?_
    refine va_sld hx hb hX hbl hbA hS (vp_in_nI (by omega) (by omega)) dL_law_322 ?_
    refine kr_top (y := xs (i + 3)) (congrArg xs (nI_clamp (by omega))) ?_
    refine lv_if_eq (tgt := 330) hx hb dL_law_323 (by decide) (fun _ => ?_) (fun hc => absurd (hz) hc)
    refine lv_iconst (v := 0) hx hb dL_law_330 (by decide) ?_
    refine lv_aload_n hx hb dL_law_331 rfl (lv_at hl 3 rfl) ?_
    refine kgo_i (kc_SW (As := [.ref (ad 0 0), .int (xs (i + 1)), .int (xs (i + 2)), .int 0, .ref o]) (rest := []) S hE hS hAb hC (vx_cwSW 5 hts gL_law_L_setDown rfl rfl rfl (by decide +kernel) ⟨Nat.le_of_ble_eq_true rfl, Nat.le_of_ble_eq_true rfl⟩) rfl hl.1 rfl (Nat.le_of_ble_eq_true rfl) dL_law_332 hcs) hS (kAo_hi hA1 hoK) (fun r9 H1 locs hp hz1 hq hS => ?_)
    obtain ⟨e9, ⟨ad', ea, hw⟩, g, hoJ, hg0⟩ := hp
    refine kr_top e9 ?_
    have hm := hm.keep (fun k hk => hq _ (va_at.lt (hm.1 k hk).1) (fun h => h.elim (fun h => hAB _ h (hm.1 k hk).2) (fun h => hoB (h ▸ (hm.1 k hk).2))))
    obtain ⟨gD, hoD⟩ := hoD
    have hoD := va_at.kept hoD (hq od (va_at.lt hoD) (fun h => h.elim hdA (fun h => hood h.symm)))
    clear hq
    refine lv_istore (lv' := [(6, .int (nI kn)), (0, .ref b), (1, .ref (ad 0 0)), (2, .ref (bd 0)), (3, .ref o), (4, .ref od), (5, .int (nI i))]) hx hb dL_law_335 hl (by decide) rfl (fun ls hl => ?_)
    refine lv_aload_n hx hb dL_law_337 rfl (lv_at hl 3 rfl) ?_
    refine lv_aload_n hx hb dL_law_338 rfl (lv_at hl 1 rfl) ?_
    refine lv_iload hx hb dL_law_339 (lv_at hl 6 rfl) ?_
    refine lv_iconst (v := 1) hx hb dL_law_341 (by decide) ?_
    refine lv_iadd hx hb dL_law_342 ?_
    refine kr_top (y := nI (i + 1)) (nI_add i 1) ?_
    refine va_sld hx hb hX hbl hbA hS (vp_in_nI (by omega) (by omega)) dL_law_343 ?_
    refine kr_top (y := xs (i + 1)) (congrArg xs (nI_clamp (by omega))) ?_
    refine lv_aload_n hx hb dL_law_344 rfl (lv_at hl 1 rfl) ?_
    refine lv_iload hx hb dL_law_345 (lv_at hl 6 rfl) ?_
    refine lv_iconst (v := 2) hx hb dL_law_347 (by decide) ?_
    refine lv_iadd hx hb dL_law_348 ?_
    refine kr_top (y := nI (i + 2)) (nI_add i 2) ?_
    refine va_sld hx hb hX hbl hbA hS (vp_in_nI (by omega) (by omega)) dL_law_349 ?_
    refine kr_top (y := xs (i + 2)) (congrArg xs (nI_clamp (by omega))) ?_
    refine lv_aload_n hx hb dL_law_350 rfl (lv_at hl 1 rfl) ?_
    refine lv_iload hx hb dL_law_351 (lv_at hl 6 rfl) ?_
    refine lv_iconst (v := 3) hx hb dL_law_353 (by decide) ?_
    refine lv_iadd hx hb dL_law_354 ?_
    refine kr_top (y := nI (i + 3)) (nI_add i 3) ?_
    refine va_sld hx hb hX hbl hbA hS (vp_in_nI (by omega) (by omega)) dL_law_355 ?_
    refine kr_top (y := xs (i + 3)) (congrArg xs (nI_clamp (by omega))) ?_
    refine lv_if_eq (tgt := 363) hx hb dL_law_356 (by decide) (fun _ => ?_) (fun hc => absurd (hz) hc)
    refine lv_iconst (v := 0) hx hb dL_law_363 (by decide) ?_
    refine kgo_i (kc_V (As := [.int (xs (i + 1)), .int (xs (i + 2)), .int 0]) (rest := []) S hE hS hAb (hM _ hm) (cwV 3 hts gL_law_X5_setDown rfl rfl rfl (by decide +kernel) ⟨Nat.le_of_ble_eq_true rfl, Nat.le_of_ble_eq_true rfl⟩) (hm.lv 0 (by decide)) rfl rfl hl.1 rfl (Nat.le_of_ble_eq_true rfl) dL_law_364 ⟨Nat.le_trans (Nat.le_of_eq (Nat.add_zero _)) hcs.1, Nat.le_trans (Nat.le_of_eq (Nat.add_zero _)) hcs.2⟩) hS hB1 (fun r8 H2 locs hp hz2 hq hS => ?_)
    obtain ⟨e8, hm⟩ := hp
    refine kr_top e8 ?_
    have hw := hw.keep (fun k j hk => hq _ (va_at.lt (hw.1 k j hk).1) (hAB _ (hw.1 k j hk).2))
    have hoJ := va_at.kept hoJ (hq o (va_at.lt hoJ) hoB)
    have hoD := va_at.kept hoD (hq od (va_at.lt hoD) hdB)
    clear hq
    refine lv_istore (lv' := [(7, .int vm), (6, .int (nI kn)), (0, .ref b), (1, .ref (ad 0 0)), (2, .ref (bd 0)), (3, .ref o), (4, .ref od), (5, .int (nI i))]) hx hb dL_law_367 hl (by decide) rfl (fun ls hl => ?_)
    refine lv_aload_n hx hb dL_law_369 rfl (lv_at hl 4 rfl) ?_
    refine kgo_pi (v := nI (τ' 35 0)) (kc_V (As := []) (rest := []) S hE hS hAb (cm_thrown ε l hm) (cwV 0 hts gL_law_X5_thrown rfl rfl rfl (by decide +kernel) ⟨Nat.le_of_ble_eq_true rfl, Nat.le_of_ble_eq_true rfl⟩) (hm.lv 0 (by decide)) rfl rfl hl.1 rfl (Nat.le_of_ble_eq_true rfl) dL_law_370 ⟨Nat.le_trans (Nat.le_of_eq (Nat.add_zero _)) hcs.1, Nat.le_trans (Nat.le_of_eq (Nat.add_zero _)) hcs.2⟩) hS (fun locs hS => ?_)
    refine kr_top (y := nI kn) (by rw [hk]) ?_
    refine lv_iload hx hb dL_law_373 (lv_at hl 1 rfl) ?_
    refine lv_icmp_eq (tgt := 380) hx hb dL_law_375 (by decide) (fun _ => ?_) (fun hc => absurd (rfl) hc)
    refine lv_iload hx hb dL_law_380 (lv_at hl 1 rfl) ?_
    by_cases hk0 : kn = 0
    · refine lv_if_ne (tgt := 404) hx hb dL_law_382 (by decide) (fun hc => absurd (by rw [hk0]; rfl) hc) (fun _ => ?_)
      refine lv_aload_n hx hb dL_law_385 rfl (lv_at hl 5 rfl) ?_
      refine lv_iconst (v := 0) hx hb dL_law_386 (by decide) ?_
      rcases h01 hk0 with h01 | h01
      · refine kr_lld hx hb hK hoJ (j := 0) (by decide) rfl (by decide) (x := 0) (by rw [hg0 hk0, h01]; rfl) dL_law_387 ?_
        refine lv_iload hx hb dL_law_388 (lv_at hl 0 rfl) ?_
        refine kr_top (y := 0) (by rw [hv hk0, h01]) ?_
        refine lv_if_eq (tgt := 397) hx hb dL_law_390 (by decide) (fun _ => ?_) (fun hc => absurd (rfl) hc)
        refine lv_lconst (v := 0) hx hb dL_law_397 (by decide) ?_
        refine kr_lcmpE hx hb dL_law_398 ?_
        refine lv_if_eq (tgt := 404) hx hb dL_law_399 (by decide) (fun _ => ?_) (fun hc => absurd (rfl) hc)
        refine lv_goto (tgt := 1640) hx hb dL_law_404 (by decide) ?_
        exact KK _ _ _ ⟨⟨ad', ea, hw⟩, ⟨bd, rfl, hm⟩, ⟨_, hoJ⟩, ⟨_, hoD⟩⟩ (Nat.le_trans hz1 hz2) hS (lv_sub hl [2, 3, 4, 5, 6, 7] rfl)
      · refine kr_lld hx hb hK hoJ (j := 0) (by decide) rfl (by decide) (x := 1) (by rw [hg0 hk0, h01]; rfl) dL_law_387 ?_
        refine lv_iload hx hb dL_law_388 (lv_at hl 0 rfl) ?_
        refine kr_top (y := 1) (by rw [hv hk0, h01]) ?_
        refine lv_if_eq (tgt := 397) hx hb dL_law_390 (by decide) (fun hc => absurd hc (by decide)) (fun _ => ?_)
        refine lv_lconst (v := 1) hx hb dL_law_393 (by decide) ?_
        refine lv_goto (tgt := 398) hx hb dL_law_394 (by decide) ?_
        refine kr_lcmpE hx hb dL_law_398 ?_
        refine lv_if_eq (tgt := 404) hx hb dL_law_399 (by decide) (fun _ => ?_) (fun hc => absurd (rfl) hc)
        refine lv_goto (tgt := 1640) hx hb dL_law_404 (by decide) ?_
        exact KK _ _ _ ⟨⟨ad', ea, hw⟩, ⟨bd, rfl, hm⟩, ⟨_, hoJ⟩, ⟨_, hoD⟩⟩ (Nat.le_trans hz1 hz2) hS (lv_sub hl [2, 3, 4, 5, 6, 7] rfl)
    · refine lv_if_ne (tgt := 404) hx hb dL_law_382 (by decide) (fun _ => ?_) (fun hc => absurd hc (nI_ne0 (by omega) (by omega)))
      refine lv_goto (tgt := 1640) hx hb dL_law_404 (by decide) ?_
      exact KK _ _ _ ⟨⟨ad', ea, hw⟩, ⟨bd, rfl, hm⟩, ⟨_, hoJ⟩, ⟨_, hoD⟩⟩ (Nat.le_trans hz1 hz2) hS (lv_sub hl [2, 3, 4, 5, 6, 7] rfl)
  · refine lv_aload_n hx hb dL_law_304 rfl (lv_at hl 1 rfl) ?_
    refine lv_aload_n hx hb dL_law_305 rfl (lv_at hl 0 rfl) ?_
    refine lv_iload hx hb dL_law_306 (lv_at hl 5 rfl) ?_
    refine lv_iconst (v := 1) hx hb dL_law_308 (by decide) ?_
    refine lv_iadd hx hb dL_law_309 ?_
    refine kr_top (y := nI (i + 1)) (nI_add i 1) ?_
    refine va_sld hx hb hX hbl hbA hS (vp_in_nI (by omega) (by omega)) dL_law_310 ?_
    refine kr_top (y := xs (i + 1)) (congrArg xs (nI_clamp (by omega))) ?_
    refine lv_aload_n hx hb dL_law_311 rfl (lv_at hl 0 rfl) ?_
    refine lv_iload hx hb dL_law_312 (lv_at hl 5 rfl) ?_
    refine lv_iconst (v := 2) hx hb dL_law_314 (by decide) ?_
    refine lv_iadd hx hb dL_law_315 ?_
    refine kr_top (y := nI (i + 2)) (nI_add i 2) ?_
    refine va_sld hx hb hX hbl hbA hS (vp_in_nI (by omega) (by omega)) dL_law_316 ?_
    refine kr_top (y := xs (i + 2)) (congrArg xs (nI_clamp (by omega))) ?_
    refine lv_aload_n hx hb dL_law_317 rfl (lv_at hl 0 rfl) ?_
    refine lv_iload hx hb dL_law_318 (lv_at hl 5 rfl) ?_
    refine lv_iconst (v := 3) hx hb dL_law_320 (by decide) ?_
    refine lv_iadd hx hb dL_law_321 ?_
    refine kr_top (y := nI (i + 3)) (nI_add i 3) ?_
    refine va_sld hx hb hX hbl hbA hS (vp_in_nI (by omega) (by omega)) dL_law_322 ?_
    refine kr_top (y := xs (i + 3)) (congrArg xs (nI_clamp (by omega))) ?_
    refine lv_if_eq (tgt := 330) hx hb dL_law_323 (by decide) (fun hc => absurd hc (hz)) (fun _ => ?_)
    refine lv_iconst (v := 1) hx hb dL_law_326 (by decide) ?_
    refine lv_goto (tgt := 331) hx hb dL_law_327 (by decide) ?_
    refine lv_aload_n hx hb dL_law_331 rfl (lv_at hl 3 rfl) ?_
    refine kgo_i (kc_SW (As := [.ref (ad 0 0), .int (xs (i + 1)), .int (xs (i + 2)), .int 1, .ref o]) (rest := []) S hE hS hAb hC (vx_cwSW 5 hts gL_law_L_setDown rfl rfl rfl (by decide +kernel) ⟨Nat.le_of_ble_eq_true rfl, Nat.le_of_ble_eq_true rfl⟩) rfl hl.1 rfl (Nat.le_of_ble_eq_true rfl) dL_law_332 hcs) hS (kAo_hi hA1 hoK) (fun r9 H1 locs hp hz1 hq hS => ?_)
    obtain ⟨e9, ⟨ad', ea, hw⟩, g, hoJ, hg0⟩ := hp
    refine kr_top e9 ?_
    have hm := hm.keep (fun k hk => hq _ (va_at.lt (hm.1 k hk).1) (fun h => h.elim (fun h => hAB _ h (hm.1 k hk).2) (fun h => hoB (h ▸ (hm.1 k hk).2))))
    obtain ⟨gD, hoD⟩ := hoD
    have hoD := va_at.kept hoD (hq od (va_at.lt hoD) (fun h => h.elim hdA (fun h => hood h.symm)))
    clear hq
    refine lv_istore (lv' := [(6, .int (nI kn)), (0, .ref b), (1, .ref (ad 0 0)), (2, .ref (bd 0)), (3, .ref o), (4, .ref od), (5, .int (nI i))]) hx hb dL_law_335 hl (by decide) rfl (fun ls hl => ?_)
    refine lv_aload_n hx hb dL_law_337 rfl (lv_at hl 3 rfl) ?_
    refine lv_aload_n hx hb dL_law_338 rfl (lv_at hl 1 rfl) ?_
    refine lv_iload hx hb dL_law_339 (lv_at hl 6 rfl) ?_
    refine lv_iconst (v := 1) hx hb dL_law_341 (by decide) ?_
    refine lv_iadd hx hb dL_law_342 ?_
    refine kr_top (y := nI (i + 1)) (nI_add i 1) ?_
    refine va_sld hx hb hX hbl hbA hS (vp_in_nI (by omega) (by omega)) dL_law_343 ?_
    refine kr_top (y := xs (i + 1)) (congrArg xs (nI_clamp (by omega))) ?_
    refine lv_aload_n hx hb dL_law_344 rfl (lv_at hl 1 rfl) ?_
    refine lv_iload hx hb dL_law_345 (lv_at hl 6 rfl) ?_
    refine lv_iconst (v := 2) hx hb dL_law_347 (by decide) ?_
    refine lv_iadd hx hb dL_law_348 ?_
    refine kr_top (y := nI (i + 2)) (nI_add i 2) ?_
    refine va_sld hx hb hX hbl hbA hS (vp_in_nI (by omega) (by omega)) dL_law_349 ?_
    refine kr_top (y := xs (i + 2)) (congrArg xs (nI_clamp (by omega))) ?_
    refine lv_aload_n hx hb dL_law_350 rfl (lv_at hl 1 rfl) ?_
    refine lv_iload hx hb dL_law_351 (lv_at hl 6 rfl) ?_
    refine lv_iconst (v := 3) hx hb dL_law_353 (by decide) ?_
    refine lv_iadd hx hb dL_law_354 ?_
    refine kr_top (y := nI (i + 3)) (nI_add i 3) ?_
    refine va_sld hx hb hX hbl hbA hS (vp_in_nI (by omega) (by omega)) dL_law_355 ?_
    refine kr_top (y := xs (i + 3)) (congrArg xs (nI_clamp (by omega))) ?_
    refine lv_if_eq (tgt := 363) hx hb dL_law_356 (by decide) (fun hc => absurd hc (hz)) (fun _ => ?_)
    refine lv_iconst (v := 1) hx hb dL_law_359 (by decide) ?_
    refine lv_goto (tgt := 364) hx hb dL_law_360 (by decide) ?_
    refine kgo_i (kc_V (As := [.int (xs (i + 1)), .int (xs (i + 2)), .int 1]) (rest := []) S hE hS hAb (hM _ hm) (cwV 3 hts gL_law_X5_setDown rfl rfl rfl (by decide +kernel) ⟨Nat.le_of_ble_eq_true rfl, Nat.le_of_ble_eq_true rfl⟩) (hm.lv 0 (by decide)) rfl rfl hl.1 rfl (Nat.le_of_ble_eq_true rfl) dL_law_364 ⟨Nat.le_trans (Nat.le_of_eq (Nat.add_zero _)) hcs.1, Nat.le_trans (Nat.le_of_eq (Nat.add_zero _)) hcs.2⟩) hS hB1 (fun r8 H2 locs hp hz2 hq hS => ?_)
    obtain ⟨e8, hm⟩ := hp
    refine kr_top e8 ?_
    have hw := hw.keep (fun k j hk => hq _ (va_at.lt (hw.1 k j hk).1) (hAB _ (hw.1 k j hk).2))
    have hoJ := va_at.kept hoJ (hq o (va_at.lt hoJ) hoB)
    have hoD := va_at.kept hoD (hq od (va_at.lt hoD) hdB)
    clear hq
    refine lv_istore (lv' := [(7, .int vm), (6, .int (nI kn)), (0, .ref b), (1, .ref (ad 0 0)), (2, .ref (bd 0)), (3, .ref o), (4, .ref od), (5, .int (nI i))]) hx hb dL_law_367 hl (by decide) rfl (fun ls hl => ?_)
    refine lv_aload_n hx hb dL_law_369 rfl (lv_at hl 4 rfl) ?_
    refine kgo_pi (v := nI (τ' 35 0)) (kc_V (As := []) (rest := []) S hE hS hAb (cm_thrown ε l hm) (cwV 0 hts gL_law_X5_thrown rfl rfl rfl (by decide +kernel) ⟨Nat.le_of_ble_eq_true rfl, Nat.le_of_ble_eq_true rfl⟩) (hm.lv 0 (by decide)) rfl rfl hl.1 rfl (Nat.le_of_ble_eq_true rfl) dL_law_370 ⟨Nat.le_trans (Nat.le_of_eq (Nat.add_zero _)) hcs.1, Nat.le_trans (Nat.le_of_eq (Nat.add_zero _)) hcs.2⟩) hS (fun locs hS => ?_)
    refine kr_top (y := nI kn) (by rw [hk]) ?_
    refine lv_iload hx hb dL_law_373 (lv_at hl 1 rfl) ?_
    refine lv_icmp_eq (tgt := 380) hx hb dL_law_375 (by decide) (fun _ => ?_) (fun hc => absurd (rfl) hc)
    refine lv_iload hx hb dL_law_380 (lv_at hl 1 rfl) ?_
    by_cases hk0 : kn = 0
    · refine lv_if_ne (tgt := 404) hx hb dL_law_382 (by decide) (fun hc => absurd (by rw [hk0]; rfl) hc) (fun _ => ?_)
      refine lv_aload_n hx hb dL_law_385 rfl (lv_at hl 5 rfl) ?_
      refine lv_iconst (v := 0) hx hb dL_law_386 (by decide) ?_
      rcases h01 hk0 with h01 | h01
      · refine kr_lld hx hb hK hoJ (j := 0) (by decide) rfl (by decide) (x := 0) (by rw [hg0 hk0, h01]; rfl) dL_law_387 ?_
        refine lv_iload hx hb dL_law_388 (lv_at hl 0 rfl) ?_
        refine kr_top (y := 0) (by rw [hv hk0, h01]) ?_
        refine lv_if_eq (tgt := 397) hx hb dL_law_390 (by decide) (fun _ => ?_) (fun hc => absurd (rfl) hc)
        refine lv_lconst (v := 0) hx hb dL_law_397 (by decide) ?_
        refine kr_lcmpE hx hb dL_law_398 ?_
        refine lv_if_eq (tgt := 404) hx hb dL_law_399 (by decide) (fun _ => ?_) (fun hc => absurd (rfl) hc)
        refine lv_goto (tgt := 1640) hx hb dL_law_404 (by decide) ?_
        exact KK _ _ _ ⟨⟨ad', ea, hw⟩, ⟨bd, rfl, hm⟩, ⟨_, hoJ⟩, ⟨_, hoD⟩⟩ (Nat.le_trans hz1 hz2) hS (lv_sub hl [2, 3, 4, 5, 6, 7] rfl)
      · refine kr_lld hx hb hK hoJ (j := 0) (by decide) rfl (by decide) (x := 1) (by rw [hg0 hk0, h01]; rfl) dL_law_387 ?_
        refine lv_iload hx hb dL_law_388 (lv_at hl 0 rfl) ?_
        refine kr_top (y := 1) (by rw [hv hk0, h01]) ?_
        refine lv_if_eq (tgt := 397) hx hb dL_law_390 (by decide) (fun hc => absurd hc (by decide)) (fun _ => ?_)
        refine lv_lconst (v := 1) hx hb dL_law_393 (by decide) ?_
        refine lv_goto (tgt := 398) hx hb dL_law_394 (by decide) ?_
        refine kr_lcmpE hx hb dL_law_398 ?_
        refine lv_if_eq (tgt := 404) hx hb dL_law_399 (by decide) (fun _ => ?_) (fun hc => absurd (rfl) hc)
        refine lv_goto (tgt := 1640) hx hb dL_law_404 (by decide) ?_
        exact KK _ _ _ ⟨⟨ad', ea, hw⟩, ⟨bd, rfl, hm⟩, ⟨_, hoJ⟩, ⟨_, hoD⟩⟩ (Nat.le_trans hz1 hz2) hS (lv_sub hl [2, 3, 4, 5, 6, 7] rfl)
    · refine lv_if_ne (tgt := 404) hx hb dL_law_382 (by decide) (fun _ => ?_) (fun hc => absurd hc (nI_ne0 (by omega) (by omega)))
      refine lv_goto (tgt := 1640) hx hb dL_law_404 (by decide) ?_
      exact KK _ _ _ ⟨⟨ad', ea, hw⟩, ⟨bd, rfl, hm⟩, ⟨_, hoJ⟩, ⟨_, hoD⟩⟩ (Nat.le_trans hz1 hz2) hS (lv_sub hl [2, 3, 4, 5, 6, 7] rfl)
set_option maxHeartbeats 4000000 in
set_option maxRecDepth 100000 in
theorem lq_setCut (S : CallFix p m c cL_law 8 s #[Value.ref b] wsL_law RL) (hE : kE ε s) (hX : va_X b L xs s s.heap) (hbl : b < s.heap.size) (hlo : ε.2.2.1 = s.heap.size) (hL : L ≤ 2560) (hi : i + 5 ≤ L) (hap : kAp ε A B o od) (hw : kW ε A ad σ H) (hm : kM ε B bd τ H) (hoJ : ∃ g, kat ε o (kJ ε 1 g) H) (hoD : ∃ g, kat ε od (kD ε 1 g) H) {v vm : Int32} {mc ms kn : Nat} {z : Int32} (hz : (xs (i + 2) = 0 ∧ z = 0) ∨ (¬ xs (i + 2) = 0 ∧ z = 1)) (hC : kMi ε l yL_setCut wsL_setCut ({ frames := 11, cells := mc, slots := ms, locals := 310 }) [.ref (ad 0 0), .int (xs (i + 1)), .int z, .ref o] H (kAo A o) mc ms (kLP ε A o (ad 0 0) σ' kn v)) (hM : ∀ H1, kM ε B bd τ H1 → kMi ε l yX5_setCut wsX5_setCut ({ frames := 6, cells := 0, slots := 0, locals := 140 }) [.ref (bd 0), .int (xs (i + 1)), .int z] H1 B 0 0 (fun v9 H' => v9 = vm ∧ kM ε B bd τ' H')) (hk : τ' 35 0 = kn) (hkn : kn ≤ 3) (hv : kn = 0 → vm = v) (h01 : kn = 0 → v = 0 ∨ v = 1) (hcs : cells + mc ≤ room_1.cells ∧ slots + ms ≤ room_1.slots) (hS : va_S (kHi ε) s.heap H locs) (hl : lv_has ls 8 [(0, .ref b), (1, .ref (ad 0 0)), (2, .ref (bd 0)), (3, .ref o), (4, .ref od), (5, .int (nI i))]) (KK : ∀ (H' : Heap) (locs' : List Loc) (ls' : Array Slot), kLw ε A B o od (ad 0 0) (bd 0) σ' τ' H' → H.size ≤ H'.size → va_S (kHi ε) s.heap H' locs' → lv_has ls' 8 [(0, .ref b), (1, .ref (ad 0 0)), (2, .ref (bd 0)), (3, .ref o), (4, .ref od), (5, .int (nI i))] → W p l e room_1 s m #[Value.ref b] below meth c H' locs' (cells + mc) (slots + ms) Q (F0 m 1640 ls' [])) : W p l e room_1 s m #[Value.ref b] below meth c H locs cells slots Q (F0 m 407 ls []) := by
  have hx := S.1
  have hb := S.2.1
  have hown : s.vm.findClass RL = some m.cls := S.2.2.2.1
  have hts := S.2.2.2.2
  have hK := hE.1
  have hAb : ∀ q, kHi ε q → kHi ε q := fun _ h => h
  obtain ⟨hA1, hB1, hAB, ⟨hoA, hoB, hoK⟩, ⟨hdA, hdB, hdK⟩, hood⟩ := hap
  have hbA : ¬ kHi ε b := by show ¬ ε.2.2.1 ≤ b; omega
  rcases hz with ⟨hz, rfl⟩ | ⟨hz, rfl⟩
  · refine lv_aload_n hx hb dL_law_407 rfl (lv_at hl 1 rfl) ?_
    refine lv_aload_n hx hb dL_law_408 rfl (lv_at hl 0 rfl) ?_
    refine lv_iload hx hb dL_law_409 (lv_at hl 5 rfl) ?_
    refine lv_iconst (v := 1) hx hb dL_law_411 (by decide) ?_
    refine lv_iadd hx hb dL_law_412 ?_
    refine kr_top (y := nI (i + 1)) (nI_add i 1) ?_
    refine va_sld hx hb hX hbl hbA hS (vp_in_nI (by omega) (by omega)) dL_law_413 ?_
    refine kr_top (y := xs (i + 1)) (congrArg xs (nI_clamp (by omega))) ?_
    refine lv_aload_n hx hb dL_law_414 rfl (lv_at hl 0 rfl) ?_
    refine lv_iload hx hb dL_law_415 (lv_at hl 5 rfl) ?_
    refine lv_iconst (v := 2) hx hb dL_law_417 (by decide) ?_
    refine lv_iadd hx hb dL_law_418 ?_
    refine kr_top (y := nI (i + 2)) (nI_add i 2) ?_
    refine va_sld hx hb hX hbl hbA hS (vp_in_nI (by omega) (by omega)) dL_law_419 ?_
    refine kr_top (y := xs (i + 2)) (congrArg xs (nI_clamp (by omega))) ?_
    refine lv_if_eq (tgt := 427) hx hb dL_law_420 (by decide) (fun _ => ?_) (fun hc => absurd (hz) hc)
    refine lv_iconst (v := 0) hx hb dL_law_427 (by decide) ?_
    refine lv_aload_n hx hb dL_law_428 rfl (lv_at hl 3 rfl) ?_
    refine kgo_i (kc_SW (As := [.ref (ad 0 0), .int (xs (i + 1)), .int 0, .ref o]) (rest := []) S hE hS hAb hC (vx_cwSW 4 hts gL_law_L_setCut rfl rfl rfl (by decide +kernel) ⟨Nat.le_of_ble_eq_true rfl, Nat.le_of_ble_eq_true rfl⟩) rfl hl.1 rfl (Nat.le_of_ble_eq_true rfl) dL_law_429 hcs) hS (kAo_hi hA1 hoK) (fun r9 H1 locs hp hz1 hq hS => ?_)
    obtain ⟨e9, ⟨ad', ea, hw⟩, g, hoJ, hg0⟩ := hp
    refine kr_top e9 ?_
    have hm := hm.keep (fun k hk => hq _ (va_at.lt (hm.1 k hk).1) (fun h => h.elim (fun h => hAB _ h (hm.1 k hk).2) (fun h => hoB (h ▸ (hm.1 k hk).2))))
    obtain ⟨gD, hoD⟩ := hoD
    have hoD := va_at.kept hoD (hq od (va_at.lt hoD) (fun h => h.elim hdA (fun h => hood h.symm)))
    clear hq
    refine lv_istore (lv' := [(6, .int (nI kn)), (0, .ref b), (1, .ref (ad 0 0)), (2, .ref (bd 0)), (3, .ref o), (4, .ref od), (5, .int (nI i))]) hx hb dL_law_432 hl (by decide) rfl (fun ls hl => ?_)
    refine lv_aload_n hx hb dL_law_434 rfl (lv_at hl 3 rfl) ?_
    refine lv_aload_n hx hb dL_law_435 rfl (lv_at hl 1 rfl) ?_
    refine lv_iload hx hb dL_law_436 (lv_at hl 6 rfl) ?_
    refine lv_iconst (v := 1) hx hb dL_law_438 (by decide) ?_
    refine lv_iadd hx hb dL_law_439 ?_
    refine kr_top (y := nI (i + 1)) (nI_add i 1) ?_
    refine va_sld hx hb hX hbl hbA hS (vp_in_nI (by omega) (by omega)) dL_law_440 ?_
    refine kr_top (y := xs (i + 1)) (congrArg xs (nI_clamp (by omega))) ?_
    refine lv_aload_n hx hb dL_law_441 rfl (lv_at hl 1 rfl) ?_
    refine lv_iload hx hb dL_law_442 (lv_at hl 6 rfl) ?_
    refine lv_iconst (v := 2) hx hb dL_law_444 (by decide) ?_
    refine lv_iadd hx hb dL_law_445 ?_
    refine kr_top (y := nI (i + 2)) (nI_add i 2) ?_
    refine va_sld hx hb hX hbl hbA hS (vp_in_nI (by omega) (by omega)) dL_law_446 ?_
    refine kr_top (y := xs (i + 2)) (congrArg xs (nI_clamp (by omega))) ?_
    refine lv_if_eq (tgt := 454) hx hb dL_law_447 (by decide) (fun _ => ?_) (fun hc => absurd (hz) hc)
    refine lv_iconst (v := 0) hx hb dL_law_454 (by decide) ?_
    refine kgo_i (kc_V (As := [.int (xs (i + 1)), .int 0]) (rest := []) S hE hS hAb (hM _ hm) (cwV 2 hts gL_law_X5_setCut rfl rfl rfl (by decide +kernel) ⟨Nat.le_of_ble_eq_true rfl, Nat.le_of_ble_eq_true rfl⟩) (hm.lv 0 (by decide)) rfl rfl hl.1 rfl (Nat.le_of_ble_eq_true rfl) dL_law_455 ⟨Nat.le_trans (Nat.le_of_eq (Nat.add_zero _)) hcs.1, Nat.le_trans (Nat.le_of_eq (Nat.add_zero _)) hcs.2⟩) hS hB1 (fun r8 H2 locs hp hz2 hq hS => ?_)
    obtain ⟨e8, hm⟩ := hp
    refine kr_top e8 ?_
    have hw := hw.keep (fun k j hk => hq _ (va_at.lt (hw.1 k j hk).1) (hAB _ (hw.1 k j hk).2))
    have hoJ := va_at.kept hoJ (hq o (va_at.lt hoJ) hoB)
    have hoD := va_at.kept hoD (hq od (va_at.lt hoD) hdB)
    clear hq
    refine lv_istore (lv' := [(7, .int vm), (6, .int (nI kn)), (0, .ref b), (1, .ref (ad 0 0)), (2, .ref (bd 0)), (3, .ref o), (4, .ref od), (5, .int (nI i))]) hx hb dL_law_458 hl (by decide) rfl (fun ls hl => ?_)
    refine lv_aload_n hx hb dL_law_460 rfl (lv_at hl 4 rfl) ?_
    refine kgo_pi (v := nI (τ' 35 0)) (kc_V (As := []) (rest := []) S hE hS hAb (cm_thrown ε l hm) (cwV 0 hts gL_law_X5_thrown rfl rfl rfl (by decide +kernel) ⟨Nat.le_of_ble_eq_true rfl, Nat.le_of_ble_eq_true rfl⟩) (hm.lv 0 (by decide)) rfl rfl hl.1 rfl (Nat.le_of_ble_eq_true rfl) dL_law_461 ⟨Nat.le_trans (Nat.le_of_eq (Nat.add_zero _)) hcs.1, Nat.le_trans (Nat.le_of_eq (Nat.add_zero _)) hcs.2⟩) hS (fun locs hS => ?_)
    refine kr_top (y := nI kn) (by rw [hk]) ?_
    refine lv_iload hx hb dL_law_464 (lv_at hl 1 rfl) ?_
    refine lv_icmp_eq (tgt := 471) hx hb dL_law_466 (by decide) (fun _ => ?_) (fun hc => absurd (rfl) hc)
    refine lv_iload hx hb dL_law_471 (lv_at hl 1 rfl) ?_
    by_cases hk0 : kn = 0
    · refine lv_if_ne (tgt := 495) hx hb dL_law_473 (by decide) (fun hc => absurd (by rw [hk0]; rfl) hc) (fun _ => ?_)
      refine lv_aload_n hx hb dL_law_476 rfl (lv_at hl 5 rfl) ?_
      refine lv_iconst (v := 0) hx hb dL_law_477 (by decide) ?_
      rcases h01 hk0 with h01 | h01
      · refine kr_lld hx hb hK hoJ (j := 0) (by decide) rfl (by decide) (x := 0) (by rw [hg0 hk0, h01]; rfl) dL_law_478 ?_
        refine lv_iload hx hb dL_law_479 (lv_at hl 0 rfl) ?_
        refine kr_top (y := 0) (by rw [hv hk0, h01]) ?_
        refine lv_if_eq (tgt := 488) hx hb dL_law_481 (by decide) (fun _ => ?_) (fun hc => absurd (rfl) hc)
        refine lv_lconst (v := 0) hx hb dL_law_488 (by decide) ?_
        refine kr_lcmpE hx hb dL_law_489 ?_
        refine lv_if_eq (tgt := 495) hx hb dL_law_490 (by decide) (fun _ => ?_) (fun hc => absurd (rfl) hc)
        refine lv_goto (tgt := 1640) hx hb dL_law_495 (by decide) ?_
        exact KK _ _ _ ⟨⟨ad', ea, hw⟩, ⟨bd, rfl, hm⟩, ⟨_, hoJ⟩, ⟨_, hoD⟩⟩ (Nat.le_trans hz1 hz2) hS (lv_sub hl [2, 3, 4, 5, 6, 7] rfl)
      · refine kr_lld hx hb hK hoJ (j := 0) (by decide) rfl (by decide) (x := 1) (by rw [hg0 hk0, h01]; rfl) dL_law_478 ?_
        refine lv_iload hx hb dL_law_479 (lv_at hl 0 rfl) ?_
        refine kr_top (y := 1) (by rw [hv hk0, h01]) ?_
        refine lv_if_eq (tgt := 488) hx hb dL_law_481 (by decide) (fun hc => absurd hc (by decide)) (fun _ => ?_)
        refine lv_lconst (v := 1) hx hb dL_law_484 (by decide) ?_
        refine lv_goto (tgt := 489) hx hb dL_law_485 (by decide) ?_
        refine kr_lcmpE hx hb dL_law_489 ?_
        refine lv_if_eq (tgt := 495) hx hb dL_law_490 (by decide) (fun _ => ?_) (fun hc => absurd (rfl) hc)
        refine lv_goto (tgt := 1640) hx hb dL_law_495 (by decide) ?_
        exact KK _ _ _ ⟨⟨ad', ea, hw⟩, ⟨bd, rfl, hm⟩, ⟨_, hoJ⟩, ⟨_, hoD⟩⟩ (Nat.le_trans hz1 hz2) hS (lv_sub hl [2, 3, 4, 5, 6, 7] rfl)
    · refine lv_if_ne (tgt := 495) hx hb dL_law_473 (by decide) (fun _ => ?_) (fun hc => absurd hc (nI_ne0 (by omega) (by omega)))
      refine lv_goto (tgt := 1640) hx hb dL_law_495 (by decide) ?_
      exact KK _ _ _ ⟨⟨ad', ea, hw⟩, ⟨bd, rfl, hm⟩, ⟨_, hoJ⟩, ⟨_, hoD⟩⟩ (Nat.le_trans hz1 hz2) hS (lv_sub hl [2, 3, 4, 5, 6, 7] rfl)
  · refine lv_aload_n hx hb dL_law_407 rfl (lv_at hl 1 rfl) ?_
    refine lv_aload_n hx hb dL_law_408 rfl (lv_at hl 0 rfl) ?_
    refine lv_iload hx hb dL_law_409 (lv_at hl 5 rfl) ?_
    refine lv_iconst (v := 1) hx hb dL_law_411 (by decide) ?_
    refine lv_iadd hx hb dL_law_412 ?_
    refine kr_top (y := nI (i + 1)) (nI_add i 1) ?_
    refine va_sld hx hb hX hbl hbA hS (vp_in_nI (by omega) (by omega)) dL_law_413 ?_
    refine kr_top (y := xs (i + 1)) (congrArg xs (nI_clamp (by omega))) ?_
    refine lv_aload_n hx hb dL_law_414 rfl (lv_at hl 0 rfl) ?_
    refine lv_iload hx hb dL_law_415 (lv_at hl 5 rfl) ?_
    refine lv_iconst (v := 2) hx hb dL_law_417 (by decide) ?_
    refine lv_iadd hx hb dL_law_418 ?_
    refine kr_top (y := nI (i + 2)) (nI_add i 2) ?_
    refine va_sld hx hb hX hbl hbA hS (vp_in_nI (by omega) (by omega)) dL_law_419 ?_
    refine kr_top (y := xs (i + 2)) (congrArg xs (nI_clamp (by omega))) ?_
    refine lv_if_eq (tgt := 427) hx hb dL_law_420 (by decide) (fun hc => absurd hc (hz)) (fun _ => ?_)
    refine lv_iconst (v := 1) hx hb dL_law_423 (by decide) ?_
    refine lv_goto (tgt := 428) hx hb dL_law_424 (by decide) ?_
    refine lv_aload_n hx hb dL_law_428 rfl (lv_at hl 3 rfl) ?_
    refine kgo_i (kc_SW (As := [.ref (ad 0 0), .int (xs (i + 1)), .int 1, .ref o]) (rest := []) S hE hS hAb hC (vx_cwSW 4 hts gL_law_L_setCut rfl rfl rfl (by decide +kernel) ⟨Nat.le_of_ble_eq_true rfl, Nat.le_of_ble_eq_true rfl⟩) rfl hl.1 rfl (Nat.le_of_ble_eq_true rfl) dL_law_429 hcs) hS (kAo_hi hA1 hoK) (fun r9 H1 locs hp hz1 hq hS => ?_)
    obtain ⟨e9, ⟨ad', ea, hw⟩, g, hoJ, hg0⟩ := hp
    refine kr_top e9 ?_
    have hm := hm.keep (fun k hk => hq _ (va_at.lt (hm.1 k hk).1) (fun h => h.elim (fun h => hAB _ h (hm.1 k hk).2) (fun h => hoB (h ▸ (hm.1 k hk).2))))
    obtain ⟨gD, hoD⟩ := hoD
    have hoD := va_at.kept hoD (hq od (va_at.lt hoD) (fun h => h.elim hdA (fun h => hood h.symm)))
    clear hq
    refine lv_istore (lv' := [(6, .int (nI kn)), (0, .ref b), (1, .ref (ad 0 0)), (2, .ref (bd 0)), (3, .ref o), (4, .ref od), (5, .int (nI i))]) hx hb dL_law_432 hl (by decide) rfl (fun ls hl => ?_)
    refine lv_aload_n hx hb dL_law_434 rfl (lv_at hl 3 rfl) ?_
    refine lv_aload_n hx hb dL_law_435 rfl (lv_at hl 1 rfl) ?_
    refine lv_iload hx hb dL_law_436 (lv_at hl 6 rfl) ?_
    refine lv_iconst (v := 1) hx hb dL_law_438 (by decide) ?_
    refine lv_iadd hx hb dL_law_439 ?_
    refine kr_top (y := nI (i + 1)) (nI_add i 1) ?_
    refine va_sld hx hb hX hbl hbA hS (vp_in_nI (by omega) (by omega)) dL_law_440 ?_
    refine kr_top (y := xs (i + 1)) (congrArg xs (nI_clamp (by omega))) ?_
    refine lv_aload_n hx hb dL_law_441 rfl (lv_at hl 1 rfl) ?_
    refine lv_iload hx hb dL_law_442 (lv_at hl 6 rfl) ?_
    refine lv_iconst (v := 2) hx hb dL_law_444 (by decide) ?_
    refine lv_iadd hx hb dL_law_445 ?_
    refine kr_top (y := nI (i + 2)) (nI_add i 2) ?_
    refine va_sld hx hb hX hbl hbA hS (vp_in_nI (by omega) (by omega)) dL_law_446 ?_
    refine kr_top (y := xs (i + 2)) (congrArg xs (nI_clamp (by omega))) ?_
    refine lv_if_eq (tgt := 454) hx hb dL_law_447 (by decide) (fun hc => absurd hc (hz)) (fun _ => ?_)
    refine lv_iconst (v := 1) hx hb dL_law_450 (by decide) ?_
    refine lv_goto (tgt := 455) hx hb dL_law_451 (by decide) ?_
    refine kgo_i (kc_V (As := [.int (xs (i + 1)), .int 1]) (rest := []) S hE hS hAb (hM _ hm) (cwV 2 hts gL_law_X5_setCut rfl rfl rfl (by decide +kernel) ⟨Nat.le_of_ble_eq_true rfl, Nat.le_of_ble_eq_true rfl⟩) (hm.lv 0 (by decide)) rfl rfl hl.1 rfl (Nat.le_of_ble_eq_true rfl) dL_law_455 ⟨Nat.le_trans (Nat.le_of_eq (Nat.add_zero _)) hcs.1, Nat.le_trans (Nat.le_of_eq (Nat.add_zero _)) hcs.2⟩) hS hB1 (fun r8 H2 locs hp hz2 hq hS => ?_)
    obtain ⟨e8, hm⟩ := hp
    refine kr_top e8 ?_
    have hw := hw.keep (fun k j hk => hq _ (va_at.lt (hw.1 k j hk).1) (hAB _ (hw.1 k j hk).2))
    have hoJ := va_at.kept hoJ (hq o (va_at.lt hoJ) hoB)
    have hoD := va_at.kept hoD (hq od (va_at.lt hoD) hdB)
    clear hq
    refine lv_istore (lv' := [(7, .int vm), (6, .int (nI kn)), (0, .ref b), (1, .ref (ad 0 0)), (2, .ref (bd 0)), (3, .ref o), (4, .ref od), (5, .int (nI i))]) hx hb dL_law_458 hl (by decide) rfl (fun ls hl => ?_)
    refine lv_aload_n hx hb dL_law_460 rfl (lv_at hl 4 rfl) ?_
    refine kgo_pi (v := nI (τ' 35 0)) (kc_V (As := []) (rest := []) S hE hS hAb (cm_thrown ε l hm) (cwV 0 hts gL_law_X5_thrown rfl rfl rfl (by decide +kernel) ⟨Nat.le_of_ble_eq_true rfl, Nat.le_of_ble_eq_true rfl⟩) (hm.lv 0 (by decide)) rfl rfl hl.1 rfl (Nat.le_of_ble_eq_true rfl) dL_law_461 ⟨Nat.le_trans (Nat.le_of_eq (Nat.add_zero _)) hcs.1, Nat.le_trans (Nat.le_of_eq (Nat.add_zero _)) hcs.2⟩) hS (fun locs hS => ?_)
    refine kr_top (y := nI kn) (by rw [hk]) ?_
    refine lv_iload hx hb dL_law_464 (lv_at hl 1 rfl) ?_
    refine lv_icmp_eq (tgt := 471) hx hb dL_law_466 (by decide) (fun _ => ?_) (fun hc => absurd (rfl) hc)
    refine lv_iload hx hb dL_law_471 (lv_at hl 1 rfl) ?_
    by_cases hk0 : kn = 0
    · refine lv_if_ne (tgt := 495) hx hb dL_law_473 (by decide) (fun hc => absurd (by rw [hk0]; rfl) hc) (fun _ => ?_)
      refine lv_aload_n hx hb dL_law_476 rfl (lv_at hl 5 rfl) ?_
      refine lv_iconst (v := 0) hx hb dL_law_477 (by decide) ?_
      rcases h01 hk0 with h01 | h01
      · refine kr_lld hx hb hK hoJ (j := 0) (by decide) rfl (by decide) (x := 0) (by rw [hg0 hk0, h01]; rfl) dL_law_478 ?_
        refine lv_iload hx hb dL_law_479 (lv_at hl 0 rfl) ?_
        refine kr_top (y := 0) (by rw [hv hk0, h01]) ?_
        refine lv_if_eq (tgt := 488) hx hb dL_law_481 (by decide) (fun _ => ?_) (fun hc => absurd (rfl) hc)
        refine lv_lconst (v := 0) hx hb dL_law_488 (by decide) ?_
        refine kr_lcmpE hx hb dL_law_489 ?_
        refine lv_if_eq (tgt := 495) hx hb dL_law_490 (by decide) (fun _ => ?_) (fun hc => absurd (rfl) hc)
        refine lv_goto (tgt := 1640) hx hb dL_law_495 (by decide) ?_
        exact KK _ _ _ ⟨⟨ad', ea, hw⟩, ⟨bd, rfl, hm⟩, ⟨_, hoJ⟩, ⟨_, hoD⟩⟩ (Nat.le_trans hz1 hz2) hS (lv_sub hl [2, 3, 4, 5, 6, 7] rfl)
      · refine kr_lld hx hb hK hoJ (j := 0) (by decide) rfl (by decide) (x := 1) (by rw [hg0 hk0, h01]; rfl) dL_law_478 ?_
        refine lv_iload hx hb dL_law_479 (lv_at hl 0 rfl) ?_
        refine kr_top (y := 1) (by rw [hv hk0, h01]) ?_
        refine lv_if_eq (tgt := 488) hx hb dL_law_481 (by decide) (fun hc => absurd hc (by decide)) (fun _ => ?_)
        refine lv_lconst (v := 1) hx hb dL_law_484 (by decide) ?_
        refine lv_goto (tgt := 489) hx hb dL_law_485 (by decide) ?_
        refine kr_lcmpE hx hb dL_law_489 ?_
        refine lv_if_eq (tgt := 495) hx hb dL_law_490 (by decide) (fun _ => ?_) (fun hc => absurd (rfl) hc)
        refine lv_goto (tgt := 1640) hx hb dL_law_495 (by decide) ?_
        exact KK _ _ _ ⟨⟨ad', ea, hw⟩, ⟨bd, rfl, hm⟩, ⟨_, hoJ⟩, ⟨_, hoD⟩⟩ (Nat.le_trans hz1 hz2) hS (lv_sub hl [2, 3, 4, 5, 6, 7] rfl)
    · refine lv_if_ne (tgt := 495) hx hb dL_law_473 (by decide) (fun _ => ?_) (fun hc => absurd hc (nI_ne0 (by omega) (by omega)))
      refine lv_goto (tgt := 1640) hx hb dL_law_495 (by decide) ?_
      exact KK _ _ _ ⟨⟨ad', ea, hw⟩, ⟨bd, rfl, hm⟩, ⟨_, hoJ⟩, ⟨_, hoD⟩⟩ (Nat.le_trans hz1 hz2) hS (lv_sub hl [2, 3, 4, 5, 6, 7] rfl)
set_option maxHeartbeats 4000000 in
set_option maxRecDepth 100000 in
theorem lq_setQuorum (S : CallFix p m c cL_law 8 s #[Value.ref b] wsL_law RL) (hE : kE ε s) (hX : va_X b L xs s s.heap) (hbl : b < s.heap.size) (hlo : ε.2.2.1 = s.heap.size) (hL : L ≤ 2560) (hi : i + 5 ≤ L) (hap : kAp ε A B o od) (hw : kW ε A ad σ H) (hm : kM ε B bd τ H) (hoJ : ∃ g, kat ε o (kJ ε 1 g) H) (hoD : ∃ g, kat ε od (kD ε 1 g) H) {v vm : Int32} {mc ms kn : Nat} (hC : kMi ε l yL_setQuorum wsL_setQuorum ({ frames := 11, cells := mc, slots := ms, locals := 310 }) [.ref (ad 0 0), .int (xs (i + 1)), .int (xs (i + 2)), .ref o] H (kAo A o) mc ms (kLP ε A o (ad 0 0) σ' kn v)) (hM : ∀ H1, kM ε B bd τ H1 → kMi ε l yX5_setQuorum wsX5_setQuorum ({ frames := 6, cells := 0, slots := 0, locals := 140 }) [.ref (bd 0), .int (xs (i + 1)), .int (xs (i + 2))] H1 B 0 0 (fun v9 H' => v9 = vm ∧ kM ε B bd τ' H')) (hk : τ' 35 0 = kn) (hkn : kn ≤ 3) (hv : kn = 0 → vm = v) (hcs : cells + mc ≤ room_1.cells ∧ slots + ms ≤ room_1.slots) (hS : va_S (kHi ε) s.heap H locs) (hl : lv_has ls 8 [(0, .ref b), (1, .ref (ad 0 0)), (2, .ref (bd 0)), (3, .ref o), (4, .ref od), (5, .int (nI i))]) (KK : ∀ (H' : Heap) (locs' : List Loc) (ls' : Array Slot), kLw ε A B o od (ad 0 0) (bd 0) σ' τ' H' → H.size ≤ H'.size → va_S (kHi ε) s.heap H' locs' → lv_has ls' 8 [(0, .ref b), (1, .ref (ad 0 0)), (2, .ref (bd 0)), (3, .ref o), (4, .ref od), (5, .int (nI i))] → W p l e room_1 s m #[Value.ref b] below meth c H' locs' (cells + mc) (slots + ms) Q (F0 m 1640 ls' [])) : W p l e room_1 s m #[Value.ref b] below meth c H locs cells slots Q (F0 m 498 ls []) := by
  have hx := S.1
  have hb := S.2.1
  have hown : s.vm.findClass RL = some m.cls := S.2.2.2.1
  have hts := S.2.2.2.2
  have hK := hE.1
  have hAb : ∀ q, kHi ε q → kHi ε q := fun _ h => h
  obtain ⟨hA1, hB1, hAB, ⟨hoA, hoB, hoK⟩, ⟨hdA, hdB, hdK⟩, hood⟩ := hap
  have hbA : ¬ kHi ε b := by show ¬ ε.2.2.1 ≤ b; omega
  refine lv_aload_n hx hb dL_law_498 rfl (lv_at hl 1 rfl) ?_
  refine lv_aload_n hx hb dL_law_499 rfl (lv_at hl 0 rfl) ?_
  refine lv_iload hx hb dL_law_500 (lv_at hl 5 rfl) ?_
  refine lv_iconst (v := 1) hx hb dL_law_502 (by decide) ?_
  refine lv_iadd hx hb dL_law_503 ?_
  refine kr_top (y := nI (i + 1)) (nI_add i 1) ?_
  refine va_sld hx hb hX hbl hbA hS (vp_in_nI (by omega) (by omega)) dL_law_504 ?_
  refine kr_top (y := xs (i + 1)) (congrArg xs (nI_clamp (by omega))) ?_
  refine lv_aload_n hx hb dL_law_505 rfl (lv_at hl 0 rfl) ?_
  refine lv_iload hx hb dL_law_506 (lv_at hl 5 rfl) ?_
  refine lv_iconst (v := 2) hx hb dL_law_508 (by decide) ?_
  refine lv_iadd hx hb dL_law_509 ?_
  refine kr_top (y := nI (i + 2)) (nI_add i 2) ?_
  refine va_sld hx hb hX hbl hbA hS (vp_in_nI (by omega) (by omega)) dL_law_510 ?_
  refine kr_top (y := xs (i + 2)) (congrArg xs (nI_clamp (by omega))) ?_
  refine lv_aload_n hx hb dL_law_511 rfl (lv_at hl 3 rfl) ?_
  refine kgo_i (kc_SW (As := [.ref (ad 0 0), .int (xs (i + 1)), .int (xs (i + 2)), .ref o]) (rest := []) S hE hS hAb hC (vx_cwSW 4 hts gL_law_L_setQuorum rfl rfl rfl (by decide +kernel) ⟨Nat.le_of_ble_eq_true rfl, Nat.le_of_ble_eq_true rfl⟩) rfl hl.1 rfl (Nat.le_of_ble_eq_true rfl) dL_law_512 hcs) hS (kAo_hi hA1 hoK) (fun r9 H1 locs hp hz1 hq hS => ?_)
  obtain ⟨e9, ⟨ad', ea, hw⟩, g, hoJ, hg0⟩ := hp
  refine kr_top e9 ?_
  have hm := hm.keep (fun k hk => hq _ (va_at.lt (hm.1 k hk).1) (fun h => h.elim (fun h => hAB _ h (hm.1 k hk).2) (fun h => hoB (h ▸ (hm.1 k hk).2))))
  obtain ⟨gD, hoD⟩ := hoD
  have hoD := va_at.kept hoD (hq od (va_at.lt hoD) (fun h => h.elim hdA (fun h => hood h.symm)))
  clear hq
  refine lv_istore (lv' := [(6, .int (nI kn)), (0, .ref b), (1, .ref (ad 0 0)), (2, .ref (bd 0)), (3, .ref o), (4, .ref od), (5, .int (nI i))]) hx hb dL_law_515 hl (by decide) rfl (fun ls hl => ?_)
  refine lv_aload_n hx hb dL_law_517 rfl (lv_at hl 3 rfl) ?_
  refine lv_aload_n hx hb dL_law_518 rfl (lv_at hl 1 rfl) ?_
  refine lv_iload hx hb dL_law_519 (lv_at hl 6 rfl) ?_
  refine lv_iconst (v := 1) hx hb dL_law_521 (by decide) ?_
  refine lv_iadd hx hb dL_law_522 ?_
  refine kr_top (y := nI (i + 1)) (nI_add i 1) ?_
  refine va_sld hx hb hX hbl hbA hS (vp_in_nI (by omega) (by omega)) dL_law_523 ?_
  refine kr_top (y := xs (i + 1)) (congrArg xs (nI_clamp (by omega))) ?_
  refine lv_aload_n hx hb dL_law_524 rfl (lv_at hl 1 rfl) ?_
  refine lv_iload hx hb dL_law_525 (lv_at hl 6 rfl) ?_
  refine lv_iconst (v := 2) hx hb dL_law_527 (by decide) ?_
  refine lv_iadd hx hb dL_law_528 ?_
  refine kr_top (y := nI (i + 2)) (nI_add i 2) ?_
  refine va_sld hx hb hX hbl hbA hS (vp_in_nI (by omega) (by omega)) dL_law_529 ?_
  refine kr_top (y := xs (i + 2)) (congrArg xs (nI_clamp (by omega))) ?_
  refine kgo_i (kc_V (As := [.int (xs (i + 1)), .int (xs (i + 2))]) (rest := []) S hE hS hAb (hM _ hm) (cwV 2 hts gL_law_X5_setQuorum rfl rfl rfl (by decide +kernel) ⟨Nat.le_of_ble_eq_true rfl, Nat.le_of_ble_eq_true rfl⟩) (hm.lv 0 (by decide)) rfl rfl hl.1 rfl (Nat.le_of_ble_eq_true rfl) dL_law_530 ⟨Nat.le_trans (Nat.le_of_eq (Nat.add_zero _)) hcs.1, Nat.le_trans (Nat.le_of_eq (Nat.add_zero _)) hcs.2⟩) hS hB1 (fun r8 H2 locs hp hz2 hq hS => ?_)
  obtain ⟨e8, hm⟩ := hp
  refine kr_top e8 ?_
  have hw := hw.keep (fun k j hk => hq _ (va_at.lt (hw.1 k j hk).1) (hAB _ (hw.1 k j hk).2))
  have hoJ := va_at.kept hoJ (hq o (va_at.lt hoJ) hoB)
  have hoD := va_at.kept hoD (hq od (va_at.lt hoD) hdB)
  clear hq
  refine lv_istore (lv' := [(7, .int vm), (6, .int (nI kn)), (0, .ref b), (1, .ref (ad 0 0)), (2, .ref (bd 0)), (3, .ref o), (4, .ref od), (5, .int (nI i))]) hx hb dL_law_533 hl (by decide) rfl (fun ls hl => ?_)
  refine lv_aload_n hx hb dL_law_535 rfl (lv_at hl 4 rfl) ?_
  refine kgo_pi (v := nI (τ' 35 0)) (kc_V (As := []) (rest := []) S hE hS hAb (cm_thrown ε l hm) (cwV 0 hts gL_law_X5_thrown rfl rfl rfl (by decide +kernel) ⟨Nat.le_of_ble_eq_true rfl, Nat.le_of_ble_eq_true rfl⟩) (hm.lv 0 (by decide)) rfl rfl hl.1 rfl (Nat.le_of_ble_eq_true rfl) dL_law_536 ⟨Nat.le_trans (Nat.le_of_eq (Nat.add_zero _)) hcs.1, Nat.le_trans (Nat.le_of_eq (Nat.add_zero _)) hcs.2⟩) hS (fun locs hS => ?_)
  refine kr_top (y := nI kn) (by rw [hk]) ?_
  refine lv_iload hx hb dL_law_539 (lv_at hl 1 rfl) ?_
  refine lv_icmp_eq (tgt := 546) hx hb dL_law_541 (by decide) (fun _ => ?_) (fun hc => absurd (rfl) hc)
  refine lv_iload hx hb dL_law_546 (lv_at hl 1 rfl) ?_
  by_cases hk0 : kn = 0
  · refine lv_if_ne (tgt := 563) hx hb dL_law_548 (by decide) (fun hc => absurd (by rw [hk0]; rfl) hc) (fun _ => ?_)
    refine lv_aload_n hx hb dL_law_551 rfl (lv_at hl 5 rfl) ?_
    refine lv_iconst (v := 0) hx hb dL_law_552 (by decide) ?_
    refine kr_lld hx hb hK hoJ (j := 0) (by decide) rfl (by decide) (x := v.toInt64) (hg0 hk0) dL_law_553 ?_
    refine lv_iload hx hb dL_law_554 (lv_at hl 0 rfl) ?_
    refine kr_top (y := v) (hv hk0) ?_
    refine lv_i2l (v := (v).toInt64) hx hb dL_law_556 rfl ?_
    refine kr_lcmpE hx hb dL_law_557 ?_
    refine lv_if_eq (tgt := 563) hx hb dL_law_558 (by decide) (fun _ => ?_) (fun hc => absurd (rfl) hc)
    refine lv_goto (tgt := 1640) hx hb dL_law_563 (by decide) ?_
    exact KK _ _ _ ⟨⟨ad', ea, hw⟩, ⟨bd, rfl, hm⟩, ⟨_, hoJ⟩, ⟨_, hoD⟩⟩ (Nat.le_trans hz1 hz2) hS (lv_sub hl [2, 3, 4, 5, 6, 7] rfl)
  · refine lv_if_ne (tgt := 563) hx hb dL_law_548 (by decide) (fun _ => ?_) (fun hc => absurd hc (nI_ne0 (by omega) (by omega)))
    refine lv_goto (tgt := 1640) hx hb dL_law_563 (by decide) ?_
    exact KK _ _ _ ⟨⟨ad', ea, hw⟩, ⟨bd, rfl, hm⟩, ⟨_, hoJ⟩, ⟨_, hoD⟩⟩ (Nat.le_trans hz1 hz2) hS (lv_sub hl [2, 3, 4, 5, 6, 7] rfl)
set_option maxHeartbeats 4000000 in
set_option maxRecDepth 100000 in
theorem lq_addWindow (S : CallFix p m c cL_law 8 s #[Value.ref b] wsL_law RL) (hE : kE ε s) (hX : va_X b L xs s s.heap) (hbl : b < s.heap.size) (hlo : ε.2.2.1 = s.heap.size) (hL : L ≤ 2560) (hi : i + 5 ≤ L) (hap : kAp ε A B o od) (hw : kW ε A ad σ H) (hm : kM ε B bd τ H) (hoJ : ∃ g, kat ε o (kJ ε 1 g) H) (hoD : ∃ g, kat ε od (kD ε 1 g) H) {v vm : Int32} {mc ms kn : Nat} (hC : kMi ε l yL_addWindow wsL_addWindow ({ frames := 11, cells := mc, slots := ms, locals := 310 }) [.ref (ad 0 0), .int (xs (i + 1)), .int (xs (i + 2)), .int (xs (i + 3)), .ref o] H (kAo A o) mc ms (kLP ε A o (ad 0 0) σ' kn v)) (hM : ∀ H1, kM ε B bd τ H1 → kMi ε l yX5_addWindow wsX5_addWindow ({ frames := 6, cells := 0, slots := 0, locals := 140 }) [.ref (bd 0), .int (xs (i + 1)), .int (xs (i + 2)), .int (xs (i + 3))] H1 B 0 0 (fun v9 H' => v9 = vm ∧ kM ε B bd τ' H')) (hk : τ' 35 0 = kn) (hkn : kn ≤ 3) (hv : kn = 0 → vm = v) (hcs : cells + mc ≤ room_1.cells ∧ slots + ms ≤ room_1.slots) (hS : va_S (kHi ε) s.heap H locs) (hl : lv_has ls 8 [(0, .ref b), (1, .ref (ad 0 0)), (2, .ref (bd 0)), (3, .ref o), (4, .ref od), (5, .int (nI i))]) (KK : ∀ (H' : Heap) (locs' : List Loc) (ls' : Array Slot), kLw ε A B o od (ad 0 0) (bd 0) σ' τ' H' → H.size ≤ H'.size → va_S (kHi ε) s.heap H' locs' → lv_has ls' 8 [(0, .ref b), (1, .ref (ad 0 0)), (2, .ref (bd 0)), (3, .ref o), (4, .ref od), (5, .int (nI i))] → W p l e room_1 s m #[Value.ref b] below meth c H' locs' (cells + mc) (slots + ms) Q (F0 m 1640 ls' [])) : W p l e room_1 s m #[Value.ref b] below meth c H locs cells slots Q (F0 m 566 ls []) := by
  have hx := S.1
  have hb := S.2.1
  have hown : s.vm.findClass RL = some m.cls := S.2.2.2.1
  have hts := S.2.2.2.2
  have hK := hE.1
  have hAb : ∀ q, kHi ε q → kHi ε q := fun _ h => h
  obtain ⟨hA1, hB1, hAB, ⟨hoA, hoB, hoK⟩, ⟨hdA, hdB, hdK⟩, hood⟩ := hap
  have hbA : ¬ kHi ε b := by show ¬ ε.2.2.1 ≤ b; omega
  refine lv_aload_n hx hb dL_law_566 rfl (lv_at hl 1 rfl) ?_
  refine lv_aload_n hx hb dL_law_567 rfl (lv_at hl 0 rfl) ?_
  refine lv_iload hx hb dL_law_568 (lv_at hl 5 rfl) ?_
  refine lv_iconst (v := 1) hx hb dL_law_570 (by decide) ?_
  refine lv_iadd hx hb dL_law_571 ?_
  refine kr_top (y := nI (i + 1)) (nI_add i 1) ?_
  refine va_sld hx hb hX hbl hbA hS (vp_in_nI (by omega) (by omega)) dL_law_572 ?_
  refine kr_top (y := xs (i + 1)) (congrArg xs (nI_clamp (by omega))) ?_
  refine lv_aload_n hx hb dL_law_573 rfl (lv_at hl 0 rfl) ?_
  refine lv_iload hx hb dL_law_574 (lv_at hl 5 rfl) ?_
  refine lv_iconst (v := 2) hx hb dL_law_576 (by decide) ?_
  refine lv_iadd hx hb dL_law_577 ?_
  refine kr_top (y := nI (i + 2)) (nI_add i 2) ?_
  refine va_sld hx hb hX hbl hbA hS (vp_in_nI (by omega) (by omega)) dL_law_578 ?_
  refine kr_top (y := xs (i + 2)) (congrArg xs (nI_clamp (by omega))) ?_
  refine lv_aload_n hx hb dL_law_579 rfl (lv_at hl 0 rfl) ?_
  refine lv_iload hx hb dL_law_580 (lv_at hl 5 rfl) ?_
  refine lv_iconst (v := 3) hx hb dL_law_582 (by decide) ?_
  refine lv_iadd hx hb dL_law_583 ?_
  refine kr_top (y := nI (i + 3)) (nI_add i 3) ?_
  refine va_sld hx hb hX hbl hbA hS (vp_in_nI (by omega) (by omega)) dL_law_584 ?_
  refine kr_top (y := xs (i + 3)) (congrArg xs (nI_clamp (by omega))) ?_
  refine lv_aload_n hx hb dL_law_585 rfl (lv_at hl 3 rfl) ?_
  refine kgo_i (kc_SW (As := [.ref (ad 0 0), .int (xs (i + 1)), .int (xs (i + 2)), .int (xs (i + 3)), .ref o]) (rest := []) S hE hS hAb hC (vx_cwSW 5 hts gL_law_L_addWindow rfl rfl rfl (by decide +kernel) ⟨Nat.le_of_ble_eq_true rfl, Nat.le_of_ble_eq_true rfl⟩) rfl hl.1 rfl (Nat.le_of_ble_eq_true rfl) dL_law_586 hcs) hS (kAo_hi hA1 hoK) (fun r9 H1 locs hp hz1 hq hS => ?_)
  obtain ⟨e9, ⟨ad', ea, hw⟩, g, hoJ, hg0⟩ := hp
  refine kr_top e9 ?_
  have hm := hm.keep (fun k hk => hq _ (va_at.lt (hm.1 k hk).1) (fun h => h.elim (fun h => hAB _ h (hm.1 k hk).2) (fun h => hoB (h ▸ (hm.1 k hk).2))))
  obtain ⟨gD, hoD⟩ := hoD
  have hoD := va_at.kept hoD (hq od (va_at.lt hoD) (fun h => h.elim hdA (fun h => hood h.symm)))
  clear hq
  refine lv_istore (lv' := [(6, .int (nI kn)), (0, .ref b), (1, .ref (ad 0 0)), (2, .ref (bd 0)), (3, .ref o), (4, .ref od), (5, .int (nI i))]) hx hb dL_law_589 hl (by decide) rfl (fun ls hl => ?_)
  refine lv_aload_n hx hb dL_law_591 rfl (lv_at hl 3 rfl) ?_
  refine lv_aload_n hx hb dL_law_592 rfl (lv_at hl 1 rfl) ?_
  refine lv_iload hx hb dL_law_593 (lv_at hl 6 rfl) ?_
  refine lv_iconst (v := 1) hx hb dL_law_595 (by decide) ?_
  refine lv_iadd hx hb dL_law_596 ?_
  refine kr_top (y := nI (i + 1)) (nI_add i 1) ?_
  refine va_sld hx hb hX hbl hbA hS (vp_in_nI (by omega) (by omega)) dL_law_597 ?_
  refine kr_top (y := xs (i + 1)) (congrArg xs (nI_clamp (by omega))) ?_
  refine lv_aload_n hx hb dL_law_598 rfl (lv_at hl 1 rfl) ?_
  refine lv_iload hx hb dL_law_599 (lv_at hl 6 rfl) ?_
  refine lv_iconst (v := 2) hx hb dL_law_601 (by decide) ?_
  refine lv_iadd hx hb dL_law_602 ?_
  refine kr_top (y := nI (i + 2)) (nI_add i 2) ?_
  refine va_sld hx hb hX hbl hbA hS (vp_in_nI (by omega) (by omega)) dL_law_603 ?_
  refine kr_top (y := xs (i + 2)) (congrArg xs (nI_clamp (by omega))) ?_
  refine lv_aload_n hx hb dL_law_604 rfl (lv_at hl 1 rfl) ?_
  refine lv_iload hx hb dL_law_605 (lv_at hl 6 rfl) ?_
  refine lv_iconst (v := 3) hx hb dL_law_607 (by decide) ?_
  refine lv_iadd hx hb dL_law_608 ?_
  refine kr_top (y := nI (i + 3)) (nI_add i 3) ?_
  refine va_sld hx hb hX hbl hbA hS (vp_in_nI (by omega) (by omega)) dL_law_609 ?_
  refine kr_top (y := xs (i + 3)) (congrArg xs (nI_clamp (by omega))) ?_
  refine kgo_i (kc_V (As := [.int (xs (i + 1)), .int (xs (i + 2)), .int (xs (i + 3))]) (rest := []) S hE hS hAb (hM _ hm) (cwV 3 hts gL_law_X5_addWindow rfl rfl rfl (by decide +kernel) ⟨Nat.le_of_ble_eq_true rfl, Nat.le_of_ble_eq_true rfl⟩) (hm.lv 0 (by decide)) rfl rfl hl.1 rfl (Nat.le_of_ble_eq_true rfl) dL_law_610 ⟨Nat.le_trans (Nat.le_of_eq (Nat.add_zero _)) hcs.1, Nat.le_trans (Nat.le_of_eq (Nat.add_zero _)) hcs.2⟩) hS hB1 (fun r8 H2 locs hp hz2 hq hS => ?_)
  obtain ⟨e8, hm⟩ := hp
  refine kr_top e8 ?_
  have hw := hw.keep (fun k j hk => hq _ (va_at.lt (hw.1 k j hk).1) (hAB _ (hw.1 k j hk).2))
  have hoJ := va_at.kept hoJ (hq o (va_at.lt hoJ) hoB)
  have hoD := va_at.kept hoD (hq od (va_at.lt hoD) hdB)
  clear hq
  refine lv_istore (lv' := [(7, .int vm), (6, .int (nI kn)), (0, .ref b), (1, .ref (ad 0 0)), (2, .ref (bd 0)), (3, .ref o), (4, .ref od), (5, .int (nI i))]) hx hb dL_law_613 hl (by decide) rfl (fun ls hl => ?_)
  refine lv_aload_n hx hb dL_law_615 rfl (lv_at hl 4 rfl) ?_
  refine kgo_pi (v := nI (τ' 35 0)) (kc_V (As := []) (rest := []) S hE hS hAb (cm_thrown ε l hm) (cwV 0 hts gL_law_X5_thrown rfl rfl rfl (by decide +kernel) ⟨Nat.le_of_ble_eq_true rfl, Nat.le_of_ble_eq_true rfl⟩) (hm.lv 0 (by decide)) rfl rfl hl.1 rfl (Nat.le_of_ble_eq_true rfl) dL_law_616 ⟨Nat.le_trans (Nat.le_of_eq (Nat.add_zero _)) hcs.1, Nat.le_trans (Nat.le_of_eq (Nat.add_zero _)) hcs.2⟩) hS (fun locs hS => ?_)
  refine kr_top (y := nI kn) (by rw [hk]) ?_
  refine lv_iload hx hb dL_law_619 (lv_at hl 1 rfl) ?_
  refine lv_icmp_eq (tgt := 626) hx hb dL_law_621 (by decide) (fun _ => ?_) (fun hc => absurd (rfl) hc)
  refine lv_iload hx hb dL_law_626 (lv_at hl 1 rfl) ?_
  by_cases hk0 : kn = 0
  · refine lv_if_ne (tgt := 643) hx hb dL_law_628 (by decide) (fun hc => absurd (by rw [hk0]; rfl) hc) (fun _ => ?_)
    refine lv_aload_n hx hb dL_law_631 rfl (lv_at hl 5 rfl) ?_
    refine lv_iconst (v := 0) hx hb dL_law_632 (by decide) ?_
    refine kr_lld hx hb hK hoJ (j := 0) (by decide) rfl (by decide) (x := v.toInt64) (hg0 hk0) dL_law_633 ?_
    refine lv_iload hx hb dL_law_634 (lv_at hl 0 rfl) ?_
    refine kr_top (y := v) (hv hk0) ?_
    refine lv_i2l (v := (v).toInt64) hx hb dL_law_636 rfl ?_
    refine kr_lcmpE hx hb dL_law_637 ?_
    refine lv_if_eq (tgt := 643) hx hb dL_law_638 (by decide) (fun _ => ?_) (fun hc => absurd (rfl) hc)
    refine lv_goto (tgt := 1640) hx hb dL_law_643 (by decide) ?_
    exact KK _ _ _ ⟨⟨ad', ea, hw⟩, ⟨bd, rfl, hm⟩, ⟨_, hoJ⟩, ⟨_, hoD⟩⟩ (Nat.le_trans hz1 hz2) hS (lv_sub hl [2, 3, 4, 5, 6, 7] rfl)
  · refine lv_if_ne (tgt := 643) hx hb dL_law_628 (by decide) (fun _ => ?_) (fun hc => absurd hc (nI_ne0 (by omega) (by omega)))
    refine lv_goto (tgt := 1640) hx hb dL_law_643 (by decide) ?_
    exact KK _ _ _ ⟨⟨ad', ea, hw⟩, ⟨bd, rfl, hm⟩, ⟨_, hoJ⟩, ⟨_, hoD⟩⟩ (Nat.le_trans hz1 hz2) hS (lv_sub hl [2, 3, 4, 5, 6, 7] rfl)
set_option maxHeartbeats 4000000 in
set_option maxRecDepth 100000 in
theorem lq_endWindow (S : CallFix p m c cL_law 8 s #[Value.ref b] wsL_law RL) (hE : kE ε s) (hX : va_X b L xs s s.heap) (hbl : b < s.heap.size) (hlo : ε.2.2.1 = s.heap.size) (hL : L ≤ 2560) (hi : i + 5 ≤ L) (hap : kAp ε A B o od) (hw : kW ε A ad σ H) (hm : kM ε B bd τ H) (hoJ : ∃ g, kat ε o (kJ ε 1 g) H) (hoD : ∃ g, kat ε od (kD ε 1 g) H) {v vm : Int32} {mc ms kn : Nat} (hC : kMi ε l yL_endWindow wsL_endWindow ({ frames := 11, cells := mc, slots := ms, locals := 310 }) [.ref (ad 0 0), .int (xs (i + 1)), .ref o] H (kAo A o) mc ms (kLP ε A o (ad 0 0) σ' kn v)) (hM : ∀ H1, kM ε B bd τ H1 → kMi ε l yX5_endWindow wsX5_endWindow ({ frames := 6, cells := 0, slots := 0, locals := 140 }) [.ref (bd 0), .int (xs (i + 1))] H1 B 0 0 (fun v9 H' => v9 = vm ∧ kM ε B bd τ' H')) (hk : τ' 35 0 = kn) (hkn : kn ≤ 3) (hv : kn = 0 → vm = v) (hcs : cells + mc ≤ room_1.cells ∧ slots + ms ≤ room_1.slots) (hS : va_S (kHi ε) s.heap H locs) (hl : lv_has ls 8 [(0, .ref b), (1, .ref (ad 0 0)), (2, .ref (bd 0)), (3, .ref o), (4, .ref od), (5, .int (nI i))]) (KK : ∀ (H' : Heap) (locs' : List Loc) (ls' : Array Slot), kLw ε A B o od (ad 0 0) (bd 0) σ' τ' H' → H.size ≤ H'.size → va_S (kHi ε) s.heap H' locs' → lv_has ls' 8 [(0, .ref b), (1, .ref (ad 0 0)), (2, .ref (bd 0)), (3, .ref o), (4, .ref od), (5, .int (nI i))] → W p l e room_1 s m #[Value.ref b] below meth c H' locs' (cells + mc) (slots + ms) Q (F0 m 1640 ls' [])) : W p l e room_1 s m #[Value.ref b] below meth c H locs cells slots Q (F0 m 646 ls []) := by
  have hx := S.1
  have hb := S.2.1
  have hown : s.vm.findClass RL = some m.cls := S.2.2.2.1
  have hts := S.2.2.2.2
  have hK := hE.1
  have hAb : ∀ q, kHi ε q → kHi ε q := fun _ h => h
  obtain ⟨hA1, hB1, hAB, ⟨hoA, hoB, hoK⟩, ⟨hdA, hdB, hdK⟩, hood⟩ := hap
  have hbA : ¬ kHi ε b := by show ¬ ε.2.2.1 ≤ b; omega
  refine lv_aload_n hx hb dL_law_646 rfl (lv_at hl 1 rfl) ?_
  refine lv_aload_n hx hb dL_law_647 rfl (lv_at hl 0 rfl) ?_
  refine lv_iload hx hb dL_law_648 (lv_at hl 5 rfl) ?_
  refine lv_iconst (v := 1) hx hb dL_law_650 (by decide) ?_
  refine lv_iadd hx hb dL_law_651 ?_
  refine kr_top (y := nI (i + 1)) (nI_add i 1) ?_
  refine va_sld hx hb hX hbl hbA hS (vp_in_nI (by omega) (by omega)) dL_law_652 ?_
  refine kr_top (y := xs (i + 1)) (congrArg xs (nI_clamp (by omega))) ?_
  refine lv_aload_n hx hb dL_law_653 rfl (lv_at hl 3 rfl) ?_
  refine kgo_i (kc_SW (As := [.ref (ad 0 0), .int (xs (i + 1)), .ref o]) (rest := []) S hE hS hAb hC (vx_cwSW 3 hts gL_law_L_endWindow rfl rfl rfl (by decide +kernel) ⟨Nat.le_of_ble_eq_true rfl, Nat.le_of_ble_eq_true rfl⟩) rfl hl.1 rfl (Nat.le_of_ble_eq_true rfl) dL_law_654 hcs) hS (kAo_hi hA1 hoK) (fun r9 H1 locs hp hz1 hq hS => ?_)
  obtain ⟨e9, ⟨ad', ea, hw⟩, g, hoJ, hg0⟩ := hp
  refine kr_top e9 ?_
  have hm := hm.keep (fun k hk => hq _ (va_at.lt (hm.1 k hk).1) (fun h => h.elim (fun h => hAB _ h (hm.1 k hk).2) (fun h => hoB (h ▸ (hm.1 k hk).2))))
  obtain ⟨gD, hoD⟩ := hoD
  have hoD := va_at.kept hoD (hq od (va_at.lt hoD) (fun h => h.elim hdA (fun h => hood h.symm)))
  clear hq
  refine lv_istore (lv' := [(6, .int (nI kn)), (0, .ref b), (1, .ref (ad 0 0)), (2, .ref (bd 0)), (3, .ref o), (4, .ref od), (5, .int (nI i))]) hx hb dL_law_657 hl (by decide) rfl (fun ls hl => ?_)
  refine lv_aload_n hx hb dL_law_659 rfl (lv_at hl 3 rfl) ?_
  refine lv_aload_n hx hb dL_law_660 rfl (lv_at hl 1 rfl) ?_
  refine lv_iload hx hb dL_law_661 (lv_at hl 6 rfl) ?_
  refine lv_iconst (v := 1) hx hb dL_law_663 (by decide) ?_
  refine lv_iadd hx hb dL_law_664 ?_
  refine kr_top (y := nI (i + 1)) (nI_add i 1) ?_
  refine va_sld hx hb hX hbl hbA hS (vp_in_nI (by omega) (by omega)) dL_law_665 ?_
  refine kr_top (y := xs (i + 1)) (congrArg xs (nI_clamp (by omega))) ?_
  refine kgo_i (kc_V (As := [.int (xs (i + 1))]) (rest := []) S hE hS hAb (hM _ hm) (cwV 1 hts gL_law_X5_endWindow rfl rfl rfl (by decide +kernel) ⟨Nat.le_of_ble_eq_true rfl, Nat.le_of_ble_eq_true rfl⟩) (hm.lv 0 (by decide)) rfl rfl hl.1 rfl (Nat.le_of_ble_eq_true rfl) dL_law_666 ⟨Nat.le_trans (Nat.le_of_eq (Nat.add_zero _)) hcs.1, Nat.le_trans (Nat.le_of_eq (Nat.add_zero _)) hcs.2⟩) hS hB1 (fun r8 H2 locs hp hz2 hq hS => ?_)
  obtain ⟨e8, hm⟩ := hp
  refine kr_top e8 ?_
  have hw := hw.keep (fun k j hk => hq _ (va_at.lt (hw.1 k j hk).1) (hAB _ (hw.1 k j hk).2))
  have hoJ := va_at.kept hoJ (hq o (va_at.lt hoJ) hoB)
  have hoD := va_at.kept hoD (hq od (va_at.lt hoD) hdB)
  clear hq
  refine lv_istore (lv' := [(7, .int vm), (6, .int (nI kn)), (0, .ref b), (1, .ref (ad 0 0)), (2, .ref (bd 0)), (3, .ref o), (4, .ref od), (5, .int (nI i))]) hx hb dL_law_669 hl (by decide) rfl (fun ls hl => ?_)
  refine lv_aload_n hx hb dL_law_671 rfl (lv_at hl 4 rfl) ?_
  refine kgo_pi (v := nI (τ' 35 0)) (kc_V (As := []) (rest := []) S hE hS hAb (cm_thrown ε l hm) (cwV 0 hts gL_law_X5_thrown rfl rfl rfl (by decide +kernel) ⟨Nat.le_of_ble_eq_true rfl, Nat.le_of_ble_eq_true rfl⟩) (hm.lv 0 (by decide)) rfl rfl hl.1 rfl (Nat.le_of_ble_eq_true rfl) dL_law_672 ⟨Nat.le_trans (Nat.le_of_eq (Nat.add_zero _)) hcs.1, Nat.le_trans (Nat.le_of_eq (Nat.add_zero _)) hcs.2⟩) hS (fun locs hS => ?_)
  refine kr_top (y := nI kn) (by rw [hk]) ?_
  refine lv_iload hx hb dL_law_675 (lv_at hl 1 rfl) ?_
  refine lv_icmp_eq (tgt := 682) hx hb dL_law_677 (by decide) (fun _ => ?_) (fun hc => absurd (rfl) hc)
  refine lv_iload hx hb dL_law_682 (lv_at hl 1 rfl) ?_
  by_cases hk0 : kn = 0
  · refine lv_if_ne (tgt := 699) hx hb dL_law_684 (by decide) (fun hc => absurd (by rw [hk0]; rfl) hc) (fun _ => ?_)
    refine lv_aload_n hx hb dL_law_687 rfl (lv_at hl 5 rfl) ?_
    refine lv_iconst (v := 0) hx hb dL_law_688 (by decide) ?_
    refine kr_lld hx hb hK hoJ (j := 0) (by decide) rfl (by decide) (x := v.toInt64) (hg0 hk0) dL_law_689 ?_
    refine lv_iload hx hb dL_law_690 (lv_at hl 0 rfl) ?_
    refine kr_top (y := v) (hv hk0) ?_
    refine lv_i2l (v := (v).toInt64) hx hb dL_law_692 rfl ?_
    refine kr_lcmpE hx hb dL_law_693 ?_
    refine lv_if_eq (tgt := 699) hx hb dL_law_694 (by decide) (fun _ => ?_) (fun hc => absurd (rfl) hc)
    refine lv_goto (tgt := 1640) hx hb dL_law_699 (by decide) ?_
    exact KK _ _ _ ⟨⟨ad', ea, hw⟩, ⟨bd, rfl, hm⟩, ⟨_, hoJ⟩, ⟨_, hoD⟩⟩ (Nat.le_trans hz1 hz2) hS (lv_sub hl [2, 3, 4, 5, 6, 7] rfl)
  · refine lv_if_ne (tgt := 699) hx hb dL_law_684 (by decide) (fun _ => ?_) (fun hc => absurd hc (nI_ne0 (by omega) (by omega)))
    refine lv_goto (tgt := 1640) hx hb dL_law_699 (by decide) ?_
    exact KK _ _ _ ⟨⟨ad', ea, hw⟩, ⟨bd, rfl, hm⟩, ⟨_, hoJ⟩, ⟨_, hoD⟩⟩ (Nat.le_trans hz1 hz2) hS (lv_sub hl [2, 3, 4, 5, 6, 7] rfl)
set_option maxHeartbeats 4000000 in
set_option maxRecDepth 100000 in
theorem lq_pass (S : CallFix p m c cL_law 8 s #[Value.ref b] wsL_law RL) (hE : kE ε s) (hX : va_X b L xs s s.heap) (hbl : b < s.heap.size) (hlo : ε.2.2.1 = s.heap.size) (hL : L ≤ 2560) (hi : i + 5 ≤ L) (hap : kAp ε A B o od) (hw : kW ε A ad σ H) (hm : kM ε B bd τ H) (hoJ : ∃ g, kat ε o (kJ ε 1 g) H) (hoD : ∃ g, kat ε od (kD ε 1 g) H) {v vm : Int32} {mc ms kn : Nat} (hC : kMi ε l yL_pass wsL_pass ({ frames := 11, cells := mc, slots := ms, locals := 310 }) [.ref (ad 0 0), .int (xs (i + 1)), .ref o] H (kAo A o) mc ms (kLP ε A o (ad 0 0) σ' kn v)) (hM : ∀ H1, kM ε B bd τ H1 → kMi ε l yX5_pass wsX5_pass ({ frames := 6, cells := 0, slots := 0, locals := 140 }) [.ref (bd 0), .int (xs (i + 1))] H1 B 0 0 (fun v9 H' => v9 = vm ∧ kM ε B bd τ' H')) (hk : τ' 35 0 = kn) (hkn : kn ≤ 3) (hv : kn = 0 → vm = v) (hcs : cells + mc ≤ room_1.cells ∧ slots + ms ≤ room_1.slots) (hS : va_S (kHi ε) s.heap H locs) (hl : lv_has ls 8 [(0, .ref b), (1, .ref (ad 0 0)), (2, .ref (bd 0)), (3, .ref o), (4, .ref od), (5, .int (nI i))]) (KK : ∀ (H' : Heap) (locs' : List Loc) (ls' : Array Slot), kLw ε A B o od (ad 0 0) (bd 0) σ' τ' H' → H.size ≤ H'.size → va_S (kHi ε) s.heap H' locs' → lv_has ls' 8 [(0, .ref b), (1, .ref (ad 0 0)), (2, .ref (bd 0)), (3, .ref o), (4, .ref od), (5, .int (nI i))] → W p l e room_1 s m #[Value.ref b] below meth c H' locs' (cells + mc) (slots + ms) Q (F0 m 1640 ls' [])) : W p l e room_1 s m #[Value.ref b] below meth c H locs cells slots Q (F0 m 702 ls []) := by
  have hx := S.1
  have hb := S.2.1
  have hown : s.vm.findClass RL = some m.cls := S.2.2.2.1
  have hts := S.2.2.2.2
  have hK := hE.1
  have hAb : ∀ q, kHi ε q → kHi ε q := fun _ h => h
  obtain ⟨hA1, hB1, hAB, ⟨hoA, hoB, hoK⟩, ⟨hdA, hdB, hdK⟩, hood⟩ := hap
  have hbA : ¬ kHi ε b := by show ¬ ε.2.2.1 ≤ b; omega
  refine lv_aload_n hx hb dL_law_702 rfl (lv_at hl 1 rfl) ?_
  refine lv_aload_n hx hb dL_law_703 rfl (lv_at hl 0 rfl) ?_
  refine lv_iload hx hb dL_law_704 (lv_at hl 5 rfl) ?_
  refine lv_iconst (v := 1) hx hb dL_law_706 (by decide) ?_
  refine lv_iadd hx hb dL_law_707 ?_
  refine kr_top (y := nI (i + 1)) (nI_add i 1) ?_
  refine va_sld hx hb hX hbl hbA hS (vp_in_nI (by omega) (by omega)) dL_law_708 ?_
  refine kr_top (y := xs (i + 1)) (congrArg xs (nI_clamp (by omega))) ?_
  refine lv_aload_n hx hb dL_law_709 rfl (lv_at hl 3 rfl) ?_
  refine kgo_i (kc_SW (As := [.ref (ad 0 0), .int (xs (i + 1)), .ref o]) (rest := []) S hE hS hAb hC (vx_cwSW 3 hts gL_law_L_pass rfl rfl rfl (by decide +kernel) ⟨Nat.le_of_ble_eq_true rfl, Nat.le_of_ble_eq_true rfl⟩) rfl hl.1 rfl (Nat.le_of_ble_eq_true rfl) dL_law_710 hcs) hS (kAo_hi hA1 hoK) (fun r9 H1 locs hp hz1 hq hS => ?_)
  obtain ⟨e9, ⟨ad', ea, hw⟩, g, hoJ, hg0⟩ := hp
  refine kr_top e9 ?_
  have hm := hm.keep (fun k hk => hq _ (va_at.lt (hm.1 k hk).1) (fun h => h.elim (fun h => hAB _ h (hm.1 k hk).2) (fun h => hoB (h ▸ (hm.1 k hk).2))))
  obtain ⟨gD, hoD⟩ := hoD
  have hoD := va_at.kept hoD (hq od (va_at.lt hoD) (fun h => h.elim hdA (fun h => hood h.symm)))
  clear hq
  refine lv_istore (lv' := [(6, .int (nI kn)), (0, .ref b), (1, .ref (ad 0 0)), (2, .ref (bd 0)), (3, .ref o), (4, .ref od), (5, .int (nI i))]) hx hb dL_law_713 hl (by decide) rfl (fun ls hl => ?_)
  refine lv_aload_n hx hb dL_law_715 rfl (lv_at hl 3 rfl) ?_
  refine lv_aload_n hx hb dL_law_716 rfl (lv_at hl 1 rfl) ?_
  refine lv_iload hx hb dL_law_717 (lv_at hl 6 rfl) ?_
  refine lv_iconst (v := 1) hx hb dL_law_719 (by decide) ?_
  refine lv_iadd hx hb dL_law_720 ?_
  refine kr_top (y := nI (i + 1)) (nI_add i 1) ?_
  refine va_sld hx hb hX hbl hbA hS (vp_in_nI (by omega) (by omega)) dL_law_721 ?_
  refine kr_top (y := xs (i + 1)) (congrArg xs (nI_clamp (by omega))) ?_
  refine kgo_i (kc_V (As := [.int (xs (i + 1))]) (rest := []) S hE hS hAb (hM _ hm) (cwV 1 hts gL_law_X5_pass rfl rfl rfl (by decide +kernel) ⟨Nat.le_of_ble_eq_true rfl, Nat.le_of_ble_eq_true rfl⟩) (hm.lv 0 (by decide)) rfl rfl hl.1 rfl (Nat.le_of_ble_eq_true rfl) dL_law_722 ⟨Nat.le_trans (Nat.le_of_eq (Nat.add_zero _)) hcs.1, Nat.le_trans (Nat.le_of_eq (Nat.add_zero _)) hcs.2⟩) hS hB1 (fun r8 H2 locs hp hz2 hq hS => ?_)
  obtain ⟨e8, hm⟩ := hp
  refine kr_top e8 ?_
  have hw := hw.keep (fun k j hk => hq _ (va_at.lt (hw.1 k j hk).1) (hAB _ (hw.1 k j hk).2))
  have hoJ := va_at.kept hoJ (hq o (va_at.lt hoJ) hoB)
  have hoD := va_at.kept hoD (hq od (va_at.lt hoD) hdB)
  clear hq
  refine lv_istore (lv' := [(7, .int vm), (6, .int (nI kn)), (0, .ref b), (1, .ref (ad 0 0)), (2, .ref (bd 0)), (3, .ref o), (4, .ref od), (5, .int (nI i))]) hx hb dL_law_725 hl (by decide) rfl (fun ls hl => ?_)
  refine lv_aload_n hx hb dL_law_727 rfl (lv_at hl 4 rfl) ?_
  refine kgo_pi (v := nI (τ' 35 0)) (kc_V (As := []) (rest := []) S hE hS hAb (cm_thrown ε l hm) (cwV 0 hts gL_law_X5_thrown rfl rfl rfl (by decide +kernel) ⟨Nat.le_of_ble_eq_true rfl, Nat.le_of_ble_eq_true rfl⟩) (hm.lv 0 (by decide)) rfl rfl hl.1 rfl (Nat.le_of_ble_eq_true rfl) dL_law_728 ⟨Nat.le_trans (Nat.le_of_eq (Nat.add_zero _)) hcs.1, Nat.le_trans (Nat.le_of_eq (Nat.add_zero _)) hcs.2⟩) hS (fun locs hS => ?_)
  refine kr_top (y := nI kn) (by rw [hk]) ?_
  refine lv_iload hx hb dL_law_731 (lv_at hl 1 rfl) ?_
  refine lv_icmp_eq (tgt := 738) hx hb dL_law_733 (by decide) (fun _ => ?_) (fun hc => absurd (rfl) hc)
  refine lv_iload hx hb dL_law_738 (lv_at hl 1 rfl) ?_
  by_cases hk0 : kn = 0
  · refine lv_if_ne (tgt := 755) hx hb dL_law_740 (by decide) (fun hc => absurd (by rw [hk0]; rfl) hc) (fun _ => ?_)
    refine lv_aload_n hx hb dL_law_743 rfl (lv_at hl 5 rfl) ?_
    refine lv_iconst (v := 0) hx hb dL_law_744 (by decide) ?_
    refine kr_lld hx hb hK hoJ (j := 0) (by decide) rfl (by decide) (x := v.toInt64) (hg0 hk0) dL_law_745 ?_
    refine lv_iload hx hb dL_law_746 (lv_at hl 0 rfl) ?_
    refine kr_top (y := v) (hv hk0) ?_
    refine lv_i2l (v := (v).toInt64) hx hb dL_law_748 rfl ?_
    refine kr_lcmpE hx hb dL_law_749 ?_
    refine lv_if_eq (tgt := 755) hx hb dL_law_750 (by decide) (fun _ => ?_) (fun hc => absurd (rfl) hc)
    refine lv_goto (tgt := 1640) hx hb dL_law_755 (by decide) ?_
    exact KK _ _ _ ⟨⟨ad', ea, hw⟩, ⟨bd, rfl, hm⟩, ⟨_, hoJ⟩, ⟨_, hoD⟩⟩ (Nat.le_trans hz1 hz2) hS (lv_sub hl [2, 3, 4, 5, 6, 7] rfl)
  · refine lv_if_ne (tgt := 755) hx hb dL_law_740 (by decide) (fun _ => ?_) (fun hc => absurd hc (nI_ne0 (by omega) (by omega)))
    refine lv_goto (tgt := 1640) hx hb dL_law_755 (by decide) ?_
    exact KK _ _ _ ⟨⟨ad', ea, hw⟩, ⟨bd, rfl, hm⟩, ⟨_, hoJ⟩, ⟨_, hoD⟩⟩ (Nat.le_trans hz1 hz2) hS (lv_sub hl [2, 3, 4, 5, 6, 7] rfl)
set_option maxHeartbeats 4000000 in
set_option maxRecDepth 100000 in
theorem lq_minute (S : CallFix p m c cL_law 8 s #[Value.ref b] wsL_law RL) (hE : kE ε s) (hX : va_X b L xs s s.heap) (hbl : b < s.heap.size) (hlo : ε.2.2.1 = s.heap.size) (hL : L ≤ 2560) (hi : i + 5 ≤ L) (hap : kAp ε A B o od) (hw : kW ε A ad σ H) (hm : kM ε B bd τ H) (hoJ : ∃ g, kat ε o (kJ ε 1 g) H) (hoD : ∃ g, kat ε od (kD ε 1 g) H) {v vm : Int32} (hC : kPi ε l yX4_minute wsX4_minute ({ frames := 5, cells := 0, slots := 0, locals := 120 }) [.ref (ad 0 0)] H v) (hM : ∀ H1, kM ε B bd τ H1 → kMi ε l yX5_minute wsX5_minute ({ frames := 6, cells := 0, slots := 0, locals := 140 }) [.ref (bd 0)] H1 B 0 0 (fun v9 H' => v9 = vm ∧ kM ε B bd τ' H')) (hv : vm = v) (es : σ' = σ) (hcs : cells ≤ room_1.cells ∧ slots ≤ room_1.slots) (hS : va_S (kHi ε) s.heap H locs) (hl : lv_has ls 8 [(0, .ref b), (1, .ref (ad 0 0)), (2, .ref (bd 0)), (3, .ref o), (4, .ref od), (5, .int (nI i))]) (KK : ∀ (H' : Heap) (locs' : List Loc) (ls' : Array Slot), kLw ε A B o od (ad 0 0) (bd 0) σ' τ' H' → H.size ≤ H'.size → va_S (kHi ε) s.heap H' locs' → lv_has ls' 8 [(0, .ref b), (1, .ref (ad 0 0)), (2, .ref (bd 0)), (3, .ref o), (4, .ref od), (5, .int (nI i))] → W p l e room_1 s m #[Value.ref b] below meth c H' locs' (cells) (slots) Q (F0 m 1640 ls' [])) : W p l e room_1 s m #[Value.ref b] below meth c H locs cells slots Q (F0 m 758 ls []) := by
  have hx := S.1
  have hb := S.2.1
  have hown : s.vm.findClass RL = some m.cls := S.2.2.2.1
  have hts := S.2.2.2.2
  have hK := hE.1
  have hAb : ∀ q, kHi ε q → kHi ε q := fun _ h => h
  obtain ⟨hA1, hB1, hAB, ⟨hoA, hoB, hoK⟩, ⟨hdA, hdB, hdK⟩, hood⟩ := hap
  have hbA : ¬ kHi ε b := by show ¬ ε.2.2.1 ≤ b; omega
  subst es
  refine lv_aload_n hx hb dL_law_758 rfl (lv_at hl 1 rfl) ?_
  refine kgo_pi (v := v) (kc_V (As := []) (rest := []) S hE hS hAb (hC) (cwV 0 hts gL_law_X4_minute rfl rfl rfl (by decide +kernel) ⟨Nat.le_of_ble_eq_true rfl, Nat.le_of_ble_eq_true rfl⟩) (hw.lv 0 0 (rfl : (0 : Nat) = 0)) rfl rfl hl.1 rfl (Nat.le_of_ble_eq_true rfl) dL_law_759 ⟨Nat.le_trans (Nat.le_of_eq (Nat.add_zero _)) hcs.1, Nat.le_trans (Nat.le_of_eq (Nat.add_zero _)) hcs.2⟩) hS (fun locs hS => ?_)
  refine lv_aload_n hx hb dL_law_762 rfl (lv_at hl 2 rfl) ?_
  refine kgo_i (kc_V (As := []) (rest := [.int v]) S hE hS hAb (hM _ hm) (cwV 0 hts gL_law_X5_minute rfl rfl rfl (by decide +kernel) ⟨Nat.le_of_ble_eq_true rfl, Nat.le_of_ble_eq_true rfl⟩) (hm.lv 0 (by decide)) rfl rfl hl.1 rfl (Nat.le_of_ble_eq_true rfl) dL_law_763 ⟨Nat.le_trans (Nat.le_of_eq (Nat.add_zero _)) hcs.1, Nat.le_trans (Nat.le_of_eq (Nat.add_zero _)) hcs.2⟩) hS hB1 (fun r8 H2 locs hp hz2 hq hS => ?_)
  obtain ⟨e8, hm⟩ := hp
  refine kr_top (e8.trans hv) ?_
  have hw := hw.keep (fun k j hk => hq _ (va_at.lt (hw.1 k j hk).1) (hAB _ (hw.1 k j hk).2))
  obtain ⟨gJ, hoJ⟩ := hoJ
  obtain ⟨gD, hoD⟩ := hoD
  have hoJ := va_at.kept hoJ (hq o (va_at.lt hoJ) hoB)
  have hoD := va_at.kept hoD (hq od (va_at.lt hoD) hdB)
  refine lv_icmp_eq (tgt := 1640) hx hb dL_law_766 (by decide) (fun _ => ?_) (fun hc => absurd (rfl) hc)
  exact KK _ _ _ ⟨⟨ad, rfl, hw⟩, ⟨bd, rfl, hm⟩, ⟨_, hoJ⟩, ⟨_, hoD⟩⟩ hz2 hS (lv_sub hl [0, 1, 2, 3, 4, 5] rfl)
set_option maxHeartbeats 4000000 in
set_option maxRecDepth 100000 in
theorem lq_failing (S : CallFix p m c cL_law 8 s #[Value.ref b] wsL_law RL) (hE : kE ε s) (hX : va_X b L xs s s.heap) (hbl : b < s.heap.size) (hlo : ε.2.2.1 = s.heap.size) (hL : L ≤ 2560) (hi : i + 5 ≤ L) (hap : kAp ε A B o od) (hw : kW ε A ad σ H) (hm : kM ε B bd τ H) (hoJ : ∃ g, kat ε o (kJ ε 1 g) H) (hoD : ∃ g, kat ε od (kD ε 1 g) H) {v vm : Int32} {mc ms kn : Nat} (hC : kMi ε l yL_failing wsL_failing ({ frames := 11, cells := mc, slots := ms, locals := 310 }) [.ref (ad 0 0), .int (xs (i + 1)), .ref o] H (kAo A o) mc ms (kLP ε A o (ad 0 0) σ' kn v)) (hM : ∀ H1, kM ε B bd τ H1 → kMi ε l yX5_failing wsX5_failing ({ frames := 6, cells := 0, slots := 0, locals := 140 }) [.ref (bd 0), .int (xs (i + 1))] H1 B 0 0 (fun v9 H' => v9 = vm ∧ kM ε B bd τ' H')) (hk : τ' 35 0 = kn) (hkn : kn ≤ 3) (hv : kn = 0 → vm = v) (hcs : cells + mc ≤ room_1.cells ∧ slots + ms ≤ room_1.slots) (hS : va_S (kHi ε) s.heap H locs) (hl : lv_has ls 8 [(0, .ref b), (1, .ref (ad 0 0)), (2, .ref (bd 0)), (3, .ref o), (4, .ref od), (5, .int (nI i))]) (KK : ∀ (H' : Heap) (locs' : List Loc) (ls' : Array Slot), kLw ε A B o od (ad 0 0) (bd 0) σ' τ' H' → H.size ≤ H'.size → va_S (kHi ε) s.heap H' locs' → lv_has ls' 8 [(0, .ref b), (1, .ref (ad 0 0)), (2, .ref (bd 0)), (3, .ref o), (4, .ref od), (5, .int (nI i))] → W p l e room_1 s m #[Value.ref b] below meth c H' locs' (cells + mc) (slots + ms) Q (F0 m 1640 ls' [])) : W p l e room_1 s m #[Value.ref b] below meth c H locs cells slots Q (F0 m 771 ls []) := by
  have hx := S.1
  have hb := S.2.1
  have hown : s.vm.findClass RL = some m.cls := S.2.2.2.1
  have hts := S.2.2.2.2
  have hK := hE.1
  have hAb : ∀ q, kHi ε q → kHi ε q := fun _ h => h
  obtain ⟨hA1, hB1, hAB, ⟨hoA, hoB, hoK⟩, ⟨hdA, hdB, hdK⟩, hood⟩ := hap
  have hbA : ¬ kHi ε b := by show ¬ ε.2.2.1 ≤ b; omega
  refine lv_aload_n hx hb dL_law_771 rfl (lv_at hl 1 rfl) ?_
  refine lv_aload_n hx hb dL_law_772 rfl (lv_at hl 0 rfl) ?_
  refine lv_iload hx hb dL_law_773 (lv_at hl 5 rfl) ?_
  refine lv_iconst (v := 1) hx hb dL_law_775 (by decide) ?_
  refine lv_iadd hx hb dL_law_776 ?_
  refine kr_top (y := nI (i + 1)) (nI_add i 1) ?_
  refine va_sld hx hb hX hbl hbA hS (vp_in_nI (by omega) (by omega)) dL_law_777 ?_
  refine kr_top (y := xs (i + 1)) (congrArg xs (nI_clamp (by omega))) ?_
  refine lv_aload_n hx hb dL_law_778 rfl (lv_at hl 3 rfl) ?_
  refine kgo_i (kc_SW (As := [.ref (ad 0 0), .int (xs (i + 1)), .ref o]) (rest := []) S hE hS hAb hC (vx_cwSW 3 hts gL_law_L_failing rfl rfl rfl (by decide +kernel) ⟨Nat.le_of_ble_eq_true rfl, Nat.le_of_ble_eq_true rfl⟩) rfl hl.1 rfl (Nat.le_of_ble_eq_true rfl) dL_law_779 hcs) hS (kAo_hi hA1 hoK) (fun r9 H1 locs hp hz1 hq hS => ?_)
  obtain ⟨e9, ⟨ad', ea, hw⟩, g, hoJ, hg0⟩ := hp
  refine kr_top e9 ?_
  have hm := hm.keep (fun k hk => hq _ (va_at.lt (hm.1 k hk).1) (fun h => h.elim (fun h => hAB _ h (hm.1 k hk).2) (fun h => hoB (h ▸ (hm.1 k hk).2))))
  obtain ⟨gD, hoD⟩ := hoD
  have hoD := va_at.kept hoD (hq od (va_at.lt hoD) (fun h => h.elim hdA (fun h => hood h.symm)))
  clear hq
  refine lv_istore (lv' := [(6, .int (nI kn)), (0, .ref b), (1, .ref (ad 0 0)), (2, .ref (bd 0)), (3, .ref o), (4, .ref od), (5, .int (nI i))]) hx hb dL_law_782 hl (by decide) rfl (fun ls hl => ?_)
  refine lv_aload_n hx hb dL_law_784 rfl (lv_at hl 3 rfl) ?_
  refine lv_aload_n hx hb dL_law_785 rfl (lv_at hl 1 rfl) ?_
  refine lv_iload hx hb dL_law_786 (lv_at hl 6 rfl) ?_
  refine lv_iconst (v := 1) hx hb dL_law_788 (by decide) ?_
  refine lv_iadd hx hb dL_law_789 ?_
  refine kr_top (y := nI (i + 1)) (nI_add i 1) ?_
  refine va_sld hx hb hX hbl hbA hS (vp_in_nI (by omega) (by omega)) dL_law_790 ?_
  refine kr_top (y := xs (i + 1)) (congrArg xs (nI_clamp (by omega))) ?_
  refine kgo_i (kc_V (As := [.int (xs (i + 1))]) (rest := []) S hE hS hAb (hM _ hm) (cwV 1 hts gL_law_X5_failing rfl rfl rfl (by decide +kernel) ⟨Nat.le_of_ble_eq_true rfl, Nat.le_of_ble_eq_true rfl⟩) (hm.lv 0 (by decide)) rfl rfl hl.1 rfl (Nat.le_of_ble_eq_true rfl) dL_law_791 ⟨Nat.le_trans (Nat.le_of_eq (Nat.add_zero _)) hcs.1, Nat.le_trans (Nat.le_of_eq (Nat.add_zero _)) hcs.2⟩) hS hB1 (fun r8 H2 locs hp hz2 hq hS => ?_)
  obtain ⟨e8, hm⟩ := hp
  refine kr_top e8 ?_
  have hw := hw.keep (fun k j hk => hq _ (va_at.lt (hw.1 k j hk).1) (hAB _ (hw.1 k j hk).2))
  have hoJ := va_at.kept hoJ (hq o (va_at.lt hoJ) hoB)
  have hoD := va_at.kept hoD (hq od (va_at.lt hoD) hdB)
  clear hq
  refine lv_istore (lv' := [(7, .int vm), (6, .int (nI kn)), (0, .ref b), (1, .ref (ad 0 0)), (2, .ref (bd 0)), (3, .ref o), (4, .ref od), (5, .int (nI i))]) hx hb dL_law_794 hl (by decide) rfl (fun ls hl => ?_)
  refine lv_aload_n hx hb dL_law_796 rfl (lv_at hl 4 rfl) ?_
  refine kgo_pi (v := nI (τ' 35 0)) (kc_V (As := []) (rest := []) S hE hS hAb (cm_thrown ε l hm) (cwV 0 hts gL_law_X5_thrown rfl rfl rfl (by decide +kernel) ⟨Nat.le_of_ble_eq_true rfl, Nat.le_of_ble_eq_true rfl⟩) (hm.lv 0 (by decide)) rfl rfl hl.1 rfl (Nat.le_of_ble_eq_true rfl) dL_law_797 ⟨Nat.le_trans (Nat.le_of_eq (Nat.add_zero _)) hcs.1, Nat.le_trans (Nat.le_of_eq (Nat.add_zero _)) hcs.2⟩) hS (fun locs hS => ?_)
  refine kr_top (y := nI kn) (by rw [hk]) ?_
  refine lv_iload hx hb dL_law_800 (lv_at hl 1 rfl) ?_
  refine lv_icmp_eq (tgt := 807) hx hb dL_law_802 (by decide) (fun _ => ?_) (fun hc => absurd (rfl) hc)
  refine lv_iload hx hb dL_law_807 (lv_at hl 1 rfl) ?_
  by_cases hk0 : kn = 0
  · refine lv_if_ne (tgt := 824) hx hb dL_law_809 (by decide) (fun hc => absurd (by rw [hk0]; rfl) hc) (fun _ => ?_)
    refine lv_aload_n hx hb dL_law_812 rfl (lv_at hl 5 rfl) ?_
    refine lv_iconst (v := 0) hx hb dL_law_813 (by decide) ?_
    refine kr_lld hx hb hK hoJ (j := 0) (by decide) rfl (by decide) (x := v.toInt64) (hg0 hk0) dL_law_814 ?_
    refine lv_iload hx hb dL_law_815 (lv_at hl 0 rfl) ?_
    refine kr_top (y := v) (hv hk0) ?_
    refine lv_i2l (v := (v).toInt64) hx hb dL_law_817 rfl ?_
    refine kr_lcmpE hx hb dL_law_818 ?_
    refine lv_if_eq (tgt := 824) hx hb dL_law_819 (by decide) (fun _ => ?_) (fun hc => absurd (rfl) hc)
    refine lv_goto (tgt := 1640) hx hb dL_law_824 (by decide) ?_
    exact KK _ _ _ ⟨⟨ad', ea, hw⟩, ⟨bd, rfl, hm⟩, ⟨_, hoJ⟩, ⟨_, hoD⟩⟩ (Nat.le_trans hz1 hz2) hS (lv_sub hl [2, 3, 4, 5, 6, 7] rfl)
  · refine lv_if_ne (tgt := 824) hx hb dL_law_809 (by decide) (fun _ => ?_) (fun hc => absurd hc (nI_ne0 (by omega) (by omega)))
    refine lv_goto (tgt := 1640) hx hb dL_law_824 (by decide) ?_
    exact KK _ _ _ ⟨⟨ad', ea, hw⟩, ⟨bd, rfl, hm⟩, ⟨_, hoJ⟩, ⟨_, hoD⟩⟩ (Nat.le_trans hz1 hz2) hS (lv_sub hl [2, 3, 4, 5, 6, 7] rfl)
set_option maxHeartbeats 4000000 in
set_option maxRecDepth 100000 in
theorem lq_nextProbe (S : CallFix p m c cL_law 8 s #[Value.ref b] wsL_law RL) (hE : kE ε s) (hX : va_X b L xs s s.heap) (hbl : b < s.heap.size) (hlo : ε.2.2.1 = s.heap.size) (hL : L ≤ 2560) (hi : i + 5 ≤ L) (hap : kAp ε A B o od) (hw : kW ε A ad σ H) (hm : kM ε B bd τ H) (hoJ : ∃ g, kat ε o (kJ ε 1 g) H) (hoD : ∃ g, kat ε od (kD ε 1 g) H) {v vm : Int32} {mc ms kn : Nat} (hC : kMi ε l yL_nextProbe wsL_nextProbe ({ frames := 11, cells := mc, slots := ms, locals := 310 }) [.ref (ad 0 0), .int (xs (i + 1)), .int (xs (i + 2)), .ref o] H (kAo A o) mc ms (kLP ε A o (ad 0 0) σ' kn v)) (hM : ∀ H1, kM ε B bd τ H1 → kMi ε l yX5_nextProbe wsX5_nextProbe ({ frames := 6, cells := 0, slots := 0, locals := 140 }) [.ref (bd 0), .int (xs (i + 1)), .int (xs (i + 2))] H1 B 0 0 (fun v9 H' => v9 = vm ∧ kM ε B bd τ' H')) (hk : τ' 35 0 = kn) (hkn : kn ≤ 3) (hv : kn = 0 → vm = v) (hcs : cells + mc ≤ room_1.cells ∧ slots + ms ≤ room_1.slots) (hS : va_S (kHi ε) s.heap H locs) (hl : lv_has ls 8 [(0, .ref b), (1, .ref (ad 0 0)), (2, .ref (bd 0)), (3, .ref o), (4, .ref od), (5, .int (nI i))]) (KK : ∀ (H' : Heap) (locs' : List Loc) (ls' : Array Slot), kLw ε A B o od (ad 0 0) (bd 0) σ' τ' H' → H.size ≤ H'.size → va_S (kHi ε) s.heap H' locs' → lv_has ls' 8 [(0, .ref b), (1, .ref (ad 0 0)), (2, .ref (bd 0)), (3, .ref o), (4, .ref od), (5, .int (nI i))] → W p l e room_1 s m #[Value.ref b] below meth c H' locs' (cells + mc) (slots + ms) Q (F0 m 1640 ls' [])) : W p l e room_1 s m #[Value.ref b] below meth c H locs cells slots Q (F0 m 827 ls []) := by
  have hx := S.1
  have hb := S.2.1
  have hown : s.vm.findClass RL = some m.cls := S.2.2.2.1
  have hts := S.2.2.2.2
  have hK := hE.1
  have hAb : ∀ q, kHi ε q → kHi ε q := fun _ h => h
  obtain ⟨hA1, hB1, hAB, ⟨hoA, hoB, hoK⟩, ⟨hdA, hdB, hdK⟩, hood⟩ := hap
  have hbA : ¬ kHi ε b := by show ¬ ε.2.2.1 ≤ b; omega
  refine lv_aload_n hx hb dL_law_827 rfl (lv_at hl 1 rfl) ?_
  refine lv_aload_n hx hb dL_law_828 rfl (lv_at hl 0 rfl) ?_
  refine lv_iload hx hb dL_law_829 (lv_at hl 5 rfl) ?_
  refine lv_iconst (v := 1) hx hb dL_law_831 (by decide) ?_
  refine lv_iadd hx hb dL_law_832 ?_
  refine kr_top (y := nI (i + 1)) (nI_add i 1) ?_
  refine va_sld hx hb hX hbl hbA hS (vp_in_nI (by omega) (by omega)) dL_law_833 ?_
  refine kr_top (y := xs (i + 1)) (congrArg xs (nI_clamp (by omega))) ?_
  refine lv_aload_n hx hb dL_law_834 rfl (lv_at hl 0 rfl) ?_
  refine lv_iload hx hb dL_law_835 (lv_at hl 5 rfl) ?_
  refine lv_iconst (v := 2) hx hb dL_law_837 (by decide) ?_
  refine lv_iadd hx hb dL_law_838 ?_
  refine kr_top (y := nI (i + 2)) (nI_add i 2) ?_
  refine va_sld hx hb hX hbl hbA hS (vp_in_nI (by omega) (by omega)) dL_law_839 ?_
  refine kr_top (y := xs (i + 2)) (congrArg xs (nI_clamp (by omega))) ?_
  refine lv_aload_n hx hb dL_law_840 rfl (lv_at hl 3 rfl) ?_
  refine kgo_i (kc_SW (As := [.ref (ad 0 0), .int (xs (i + 1)), .int (xs (i + 2)), .ref o]) (rest := []) S hE hS hAb hC (vx_cwSW 4 hts gL_law_L_nextProbe rfl rfl rfl (by decide +kernel) ⟨Nat.le_of_ble_eq_true rfl, Nat.le_of_ble_eq_true rfl⟩) rfl hl.1 rfl (Nat.le_of_ble_eq_true rfl) dL_law_841 hcs) hS (kAo_hi hA1 hoK) (fun r9 H1 locs hp hz1 hq hS => ?_)
  obtain ⟨e9, ⟨ad', ea, hw⟩, g, hoJ, hg0⟩ := hp
  refine kr_top e9 ?_
  have hm := hm.keep (fun k hk => hq _ (va_at.lt (hm.1 k hk).1) (fun h => h.elim (fun h => hAB _ h (hm.1 k hk).2) (fun h => hoB (h ▸ (hm.1 k hk).2))))
  obtain ⟨gD, hoD⟩ := hoD
  have hoD := va_at.kept hoD (hq od (va_at.lt hoD) (fun h => h.elim hdA (fun h => hood h.symm)))
  clear hq
  refine lv_istore (lv' := [(6, .int (nI kn)), (0, .ref b), (1, .ref (ad 0 0)), (2, .ref (bd 0)), (3, .ref o), (4, .ref od), (5, .int (nI i))]) hx hb dL_law_844 hl (by decide) rfl (fun ls hl => ?_)
  refine lv_aload_n hx hb dL_law_846 rfl (lv_at hl 3 rfl) ?_
  refine lv_aload_n hx hb dL_law_847 rfl (lv_at hl 1 rfl) ?_
  refine lv_iload hx hb dL_law_848 (lv_at hl 6 rfl) ?_
  refine lv_iconst (v := 1) hx hb dL_law_850 (by decide) ?_
  refine lv_iadd hx hb dL_law_851 ?_
  refine kr_top (y := nI (i + 1)) (nI_add i 1) ?_
  refine va_sld hx hb hX hbl hbA hS (vp_in_nI (by omega) (by omega)) dL_law_852 ?_
  refine kr_top (y := xs (i + 1)) (congrArg xs (nI_clamp (by omega))) ?_
  refine lv_aload_n hx hb dL_law_853 rfl (lv_at hl 1 rfl) ?_
  refine lv_iload hx hb dL_law_854 (lv_at hl 6 rfl) ?_
  refine lv_iconst (v := 2) hx hb dL_law_856 (by decide) ?_
  refine lv_iadd hx hb dL_law_857 ?_
  refine kr_top (y := nI (i + 2)) (nI_add i 2) ?_
  refine va_sld hx hb hX hbl hbA hS (vp_in_nI (by omega) (by omega)) dL_law_858 ?_
  refine kr_top (y := xs (i + 2)) (congrArg xs (nI_clamp (by omega))) ?_
  refine kgo_i (kc_V (As := [.int (xs (i + 1)), .int (xs (i + 2))]) (rest := []) S hE hS hAb (hM _ hm) (cwV 2 hts gL_law_X5_nextProbe rfl rfl rfl (by decide +kernel) ⟨Nat.le_of_ble_eq_true rfl, Nat.le_of_ble_eq_true rfl⟩) (hm.lv 0 (by decide)) rfl rfl hl.1 rfl (Nat.le_of_ble_eq_true rfl) dL_law_859 ⟨Nat.le_trans (Nat.le_of_eq (Nat.add_zero _)) hcs.1, Nat.le_trans (Nat.le_of_eq (Nat.add_zero _)) hcs.2⟩) hS hB1 (fun r8 H2 locs hp hz2 hq hS => ?_)
  obtain ⟨e8, hm⟩ := hp
  refine kr_top e8 ?_
  have hw := hw.keep (fun k j hk => hq _ (va_at.lt (hw.1 k j hk).1) (hAB _ (hw.1 k j hk).2))
  have hoJ := va_at.kept hoJ (hq o (va_at.lt hoJ) hoB)
  have hoD := va_at.kept hoD (hq od (va_at.lt hoD) hdB)
  clear hq
  refine lv_istore (lv' := [(7, .int vm), (6, .int (nI kn)), (0, .ref b), (1, .ref (ad 0 0)), (2, .ref (bd 0)), (3, .ref o), (4, .ref od), (5, .int (nI i))]) hx hb dL_law_862 hl (by decide) rfl (fun ls hl => ?_)
  refine lv_aload_n hx hb dL_law_864 rfl (lv_at hl 4 rfl) ?_
  refine kgo_pi (v := nI (τ' 35 0)) (kc_V (As := []) (rest := []) S hE hS hAb (cm_thrown ε l hm) (cwV 0 hts gL_law_X5_thrown rfl rfl rfl (by decide +kernel) ⟨Nat.le_of_ble_eq_true rfl, Nat.le_of_ble_eq_true rfl⟩) (hm.lv 0 (by decide)) rfl rfl hl.1 rfl (Nat.le_of_ble_eq_true rfl) dL_law_865 ⟨Nat.le_trans (Nat.le_of_eq (Nat.add_zero _)) hcs.1, Nat.le_trans (Nat.le_of_eq (Nat.add_zero _)) hcs.2⟩) hS (fun locs hS => ?_)
  refine kr_top (y := nI kn) (by rw [hk]) ?_
  refine lv_iload hx hb dL_law_868 (lv_at hl 1 rfl) ?_
  refine lv_icmp_eq (tgt := 875) hx hb dL_law_870 (by decide) (fun _ => ?_) (fun hc => absurd (rfl) hc)
  refine lv_iload hx hb dL_law_875 (lv_at hl 1 rfl) ?_
  by_cases hk0 : kn = 0
  · refine lv_if_ne (tgt := 892) hx hb dL_law_877 (by decide) (fun hc => absurd (by rw [hk0]; rfl) hc) (fun _ => ?_)
    refine lv_aload_n hx hb dL_law_880 rfl (lv_at hl 5 rfl) ?_
    refine lv_iconst (v := 0) hx hb dL_law_881 (by decide) ?_
    refine kr_lld hx hb hK hoJ (j := 0) (by decide) rfl (by decide) (x := v.toInt64) (hg0 hk0) dL_law_882 ?_
    refine lv_iload hx hb dL_law_883 (lv_at hl 0 rfl) ?_
    refine kr_top (y := v) (hv hk0) ?_
    refine lv_i2l (v := (v).toInt64) hx hb dL_law_885 rfl ?_
    refine kr_lcmpE hx hb dL_law_886 ?_
    refine lv_if_eq (tgt := 892) hx hb dL_law_887 (by decide) (fun _ => ?_) (fun hc => absurd (rfl) hc)
    refine lv_goto (tgt := 1640) hx hb dL_law_892 (by decide) ?_
    exact KK _ _ _ ⟨⟨ad', ea, hw⟩, ⟨bd, rfl, hm⟩, ⟨_, hoJ⟩, ⟨_, hoD⟩⟩ (Nat.le_trans hz1 hz2) hS (lv_sub hl [2, 3, 4, 5, 6, 7] rfl)
  · refine lv_if_ne (tgt := 892) hx hb dL_law_877 (by decide) (fun _ => ?_) (fun hc => absurd hc (nI_ne0 (by omega) (by omega)))
    refine lv_goto (tgt := 1640) hx hb dL_law_892 (by decide) ?_
    exact KK _ _ _ ⟨⟨ad', ea, hw⟩, ⟨bd, rfl, hm⟩, ⟨_, hoJ⟩, ⟨_, hoD⟩⟩ (Nat.le_trans hz1 hz2) hS (lv_sub hl [2, 3, 4, 5, 6, 7] rfl)
set_option maxHeartbeats 4000000 in
set_option maxRecDepth 100000 in
theorem lq_repetition (S : CallFix p m c cL_law 8 s #[Value.ref b] wsL_law RL) (hE : kE ε s) (hX : va_X b L xs s s.heap) (hbl : b < s.heap.size) (hlo : ε.2.2.1 = s.heap.size) (hL : L ≤ 2560) (hi : i + 5 ≤ L) (hap : kAp ε A B o od) (hw : kW ε A ad σ H) (hm : kM ε B bd τ H) (hoJ : ∃ g, kat ε o (kJ ε 1 g) H) (hoD : ∃ g, kat ε od (kD ε 1 g) H) {v vm : Int32} {mc ms kn : Nat} (hC : kMi ε l yL_repetition wsL_repetition ({ frames := 11, cells := mc, slots := ms, locals := 310 }) [.ref (ad 0 0), .int (xs (i + 1)), .int (xs (i + 2)), .ref o] H (kAo A o) mc ms (kLP ε A o (ad 0 0) σ' kn v)) (hM : ∀ H1, kM ε B bd τ H1 → kMi ε l yX5_repetition wsX5_repetition ({ frames := 6, cells := 0, slots := 0, locals := 140 }) [.ref (bd 0), .int (xs (i + 1)), .int (xs (i + 2))] H1 B 0 0 (fun v9 H' => v9 = vm ∧ kM ε B bd τ' H')) (hk : τ' 35 0 = kn) (hkn : kn ≤ 3) (hv : kn = 0 → vm = v) (hcs : cells + mc ≤ room_1.cells ∧ slots + ms ≤ room_1.slots) (hS : va_S (kHi ε) s.heap H locs) (hl : lv_has ls 8 [(0, .ref b), (1, .ref (ad 0 0)), (2, .ref (bd 0)), (3, .ref o), (4, .ref od), (5, .int (nI i))]) (KK : ∀ (H' : Heap) (locs' : List Loc) (ls' : Array Slot), kLw ε A B o od (ad 0 0) (bd 0) σ' τ' H' → H.size ≤ H'.size → va_S (kHi ε) s.heap H' locs' → lv_has ls' 8 [(0, .ref b), (1, .ref (ad 0 0)), (2, .ref (bd 0)), (3, .ref o), (4, .ref od), (5, .int (nI i))] → W p l e room_1 s m #[Value.ref b] below meth c H' locs' (cells + mc) (slots + ms) Q (F0 m 1640 ls' [])) : W p l e room_1 s m #[Value.ref b] below meth c H locs cells slots Q (F0 m 895 ls []) := by
  have hx := S.1
  have hb := S.2.1
  have hown : s.vm.findClass RL = some m.cls := S.2.2.2.1
  have hts := S.2.2.2.2
  have hK := hE.1
  have hAb : ∀ q, kHi ε q → kHi ε q := fun _ h => h
  obtain ⟨hA1, hB1, hAB, ⟨hoA, hoB, hoK⟩, ⟨hdA, hdB, hdK⟩, hood⟩ := hap
  have hbA : ¬ kHi ε b := by show ¬ ε.2.2.1 ≤ b; omega
  refine lv_aload_n hx hb dL_law_895 rfl (lv_at hl 1 rfl) ?_
  refine lv_aload_n hx hb dL_law_896 rfl (lv_at hl 0 rfl) ?_
  refine lv_iload hx hb dL_law_897 (lv_at hl 5 rfl) ?_
  refine lv_iconst (v := 1) hx hb dL_law_899 (by decide) ?_
  refine lv_iadd hx hb dL_law_900 ?_
  refine kr_top (y := nI (i + 1)) (nI_add i 1) ?_
  refine va_sld hx hb hX hbl hbA hS (vp_in_nI (by omega) (by omega)) dL_law_901 ?_
  refine kr_top (y := xs (i + 1)) (congrArg xs (nI_clamp (by omega))) ?_
  refine lv_aload_n hx hb dL_law_902 rfl (lv_at hl 0 rfl) ?_
  refine lv_iload hx hb dL_law_903 (lv_at hl 5 rfl) ?_
  refine lv_iconst (v := 2) hx hb dL_law_905 (by decide) ?_
  refine lv_iadd hx hb dL_law_906 ?_
  refine kr_top (y := nI (i + 2)) (nI_add i 2) ?_
  refine va_sld hx hb hX hbl hbA hS (vp_in_nI (by omega) (by omega)) dL_law_907 ?_
  refine kr_top (y := xs (i + 2)) (congrArg xs (nI_clamp (by omega))) ?_
  refine lv_aload_n hx hb dL_law_908 rfl (lv_at hl 3 rfl) ?_
  refine kgo_i (kc_SW (As := [.ref (ad 0 0), .int (xs (i + 1)), .int (xs (i + 2)), .ref o]) (rest := []) S hE hS hAb hC (vx_cwSW 4 hts gL_law_L_repetition rfl rfl rfl (by decide +kernel) ⟨Nat.le_of_ble_eq_true rfl, Nat.le_of_ble_eq_true rfl⟩) rfl hl.1 rfl (Nat.le_of_ble_eq_true rfl) dL_law_909 hcs) hS (kAo_hi hA1 hoK) (fun r9 H1 locs hp hz1 hq hS => ?_)
  obtain ⟨e9, ⟨ad', ea, hw⟩, g, hoJ, hg0⟩ := hp
  refine kr_top e9 ?_
  have hm := hm.keep (fun k hk => hq _ (va_at.lt (hm.1 k hk).1) (fun h => h.elim (fun h => hAB _ h (hm.1 k hk).2) (fun h => hoB (h ▸ (hm.1 k hk).2))))
  obtain ⟨gD, hoD⟩ := hoD
  have hoD := va_at.kept hoD (hq od (va_at.lt hoD) (fun h => h.elim hdA (fun h => hood h.symm)))
  clear hq
  refine lv_istore (lv' := [(6, .int (nI kn)), (0, .ref b), (1, .ref (ad 0 0)), (2, .ref (bd 0)), (3, .ref o), (4, .ref od), (5, .int (nI i))]) hx hb dL_law_912 hl (by decide) rfl (fun ls hl => ?_)
  refine lv_aload_n hx hb dL_law_914 rfl (lv_at hl 3 rfl) ?_
  refine lv_aload_n hx hb dL_law_915 rfl (lv_at hl 1 rfl) ?_
  refine lv_iload hx hb dL_law_916 (lv_at hl 6 rfl) ?_
  refine lv_iconst (v := 1) hx hb dL_law_918 (by decide) ?_
  refine lv_iadd hx hb dL_law_919 ?_
  refine kr_top (y := nI (i + 1)) (nI_add i 1) ?_
  refine va_sld hx hb hX hbl hbA hS (vp_in_nI (by omega) (by omega)) dL_law_920 ?_
  refine kr_top (y := xs (i + 1)) (congrArg xs (nI_clamp (by omega))) ?_
  refine lv_aload_n hx hb dL_law_921 rfl (lv_at hl 1 rfl) ?_
  refine lv_iload hx hb dL_law_922 (lv_at hl 6 rfl) ?_
  refine lv_iconst (v := 2) hx hb dL_law_924 (by decide) ?_
  refine lv_iadd hx hb dL_law_925 ?_
  refine kr_top (y := nI (i + 2)) (nI_add i 2) ?_
  refine va_sld hx hb hX hbl hbA hS (vp_in_nI (by omega) (by omega)) dL_law_926 ?_
  refine kr_top (y := xs (i + 2)) (congrArg xs (nI_clamp (by omega))) ?_
  refine kgo_i (kc_V (As := [.int (xs (i + 1)), .int (xs (i + 2))]) (rest := []) S hE hS hAb (hM _ hm) (cwV 2 hts gL_law_X5_repetition rfl rfl rfl (by decide +kernel) ⟨Nat.le_of_ble_eq_true rfl, Nat.le_of_ble_eq_true rfl⟩) (hm.lv 0 (by decide)) rfl rfl hl.1 rfl (Nat.le_of_ble_eq_true rfl) dL_law_927 ⟨Nat.le_trans (Nat.le_of_eq (Nat.add_zero _)) hcs.1, Nat.le_trans (Nat.le_of_eq (Nat.add_zero _)) hcs.2⟩) hS hB1 (fun r8 H2 locs hp hz2 hq hS => ?_)
  obtain ⟨e8, hm⟩ := hp
  refine kr_top e8 ?_
  have hw := hw.keep (fun k j hk => hq _ (va_at.lt (hw.1 k j hk).1) (hAB _ (hw.1 k j hk).2))
  have hoJ := va_at.kept hoJ (hq o (va_at.lt hoJ) hoB)
  have hoD := va_at.kept hoD (hq od (va_at.lt hoD) hdB)
  clear hq
  refine lv_istore (lv' := [(7, .int vm), (6, .int (nI kn)), (0, .ref b), (1, .ref (ad 0 0)), (2, .ref (bd 0)), (3, .ref o), (4, .ref od), (5, .int (nI i))]) hx hb dL_law_930 hl (by decide) rfl (fun ls hl => ?_)
  refine lv_aload_n hx hb dL_law_932 rfl (lv_at hl 4 rfl) ?_
  refine kgo_pi (v := nI (τ' 35 0)) (kc_V (As := []) (rest := []) S hE hS hAb (cm_thrown ε l hm) (cwV 0 hts gL_law_X5_thrown rfl rfl rfl (by decide +kernel) ⟨Nat.le_of_ble_eq_true rfl, Nat.le_of_ble_eq_true rfl⟩) (hm.lv 0 (by decide)) rfl rfl hl.1 rfl (Nat.le_of_ble_eq_true rfl) dL_law_933 ⟨Nat.le_trans (Nat.le_of_eq (Nat.add_zero _)) hcs.1, Nat.le_trans (Nat.le_of_eq (Nat.add_zero _)) hcs.2⟩) hS (fun locs hS => ?_)
  refine kr_top (y := nI kn) (by rw [hk]) ?_
  refine lv_iload hx hb dL_law_936 (lv_at hl 1 rfl) ?_
  refine lv_icmp_eq (tgt := 943) hx hb dL_law_938 (by decide) (fun _ => ?_) (fun hc => absurd (rfl) hc)
  refine lv_iload hx hb dL_law_943 (lv_at hl 1 rfl) ?_
  by_cases hk0 : kn = 0
  · refine lv_if_ne (tgt := 960) hx hb dL_law_945 (by decide) (fun hc => absurd (by rw [hk0]; rfl) hc) (fun _ => ?_)
    refine lv_aload_n hx hb dL_law_948 rfl (lv_at hl 5 rfl) ?_
    refine lv_iconst (v := 0) hx hb dL_law_949 (by decide) ?_
    refine kr_lld hx hb hK hoJ (j := 0) (by decide) rfl (by decide) (x := v.toInt64) (hg0 hk0) dL_law_950 ?_
    refine lv_iload hx hb dL_law_951 (lv_at hl 0 rfl) ?_
    refine kr_top (y := v) (hv hk0) ?_
    refine lv_i2l (v := (v).toInt64) hx hb dL_law_953 rfl ?_
    refine kr_lcmpE hx hb dL_law_954 ?_
    refine lv_if_eq (tgt := 960) hx hb dL_law_955 (by decide) (fun _ => ?_) (fun hc => absurd (rfl) hc)
    refine lv_goto (tgt := 1640) hx hb dL_law_960 (by decide) ?_
    exact KK _ _ _ ⟨⟨ad', ea, hw⟩, ⟨bd, rfl, hm⟩, ⟨_, hoJ⟩, ⟨_, hoD⟩⟩ (Nat.le_trans hz1 hz2) hS (lv_sub hl [2, 3, 4, 5, 6, 7] rfl)
  · refine lv_if_ne (tgt := 960) hx hb dL_law_945 (by decide) (fun _ => ?_) (fun hc => absurd hc (nI_ne0 (by omega) (by omega)))
    refine lv_goto (tgt := 1640) hx hb dL_law_960 (by decide) ?_
    exact KK _ _ _ ⟨⟨ad', ea, hw⟩, ⟨bd, rfl, hm⟩, ⟨_, hoJ⟩, ⟨_, hoD⟩⟩ (Nat.le_trans hz1 hz2) hS (lv_sub hl [2, 3, 4, 5, 6, 7] rfl)
set_option maxHeartbeats 4000000 in
set_option maxRecDepth 100000 in
theorem lq_vote (S : CallFix p m c cL_law 8 s #[Value.ref b] wsL_law RL) (hE : kE ε s) (hX : va_X b L xs s s.heap) (hbl : b < s.heap.size) (hlo : ε.2.2.1 = s.heap.size) (hL : L ≤ 2560) (hi : i + 5 ≤ L) (hap : kAp ε A B o od) (hw : kW ε A ad σ H) (hm : kM ε B bd τ H) (hoJ : ∃ g, kat ε o (kJ ε 1 g) H) (hoD : ∃ g, kat ε od (kD ε 1 g) H) {v vm : Int32} {mc ms kn : Nat} (hC : kMi ε l yL_vote wsL_vote ({ frames := 11, cells := mc, slots := ms, locals := 310 }) [.ref (ad 0 0), .int (xs (i + 1)), .int (xs (i + 2)), .ref o] H (kAo A o) mc ms (kLP ε A o (ad 0 0) σ' kn v)) (hM : ∀ H1, kM ε B bd τ H1 → kMi ε l yX5_vote wsX5_vote ({ frames := 6, cells := 0, slots := 0, locals := 140 }) [.ref (bd 0), .int (xs (i + 1)), .int (xs (i + 2))] H1 B 0 0 (fun v9 H' => v9 = vm ∧ kM ε B bd τ' H')) (hk : τ' 35 0 = kn) (hkn : kn ≤ 3) (hv : kn = 0 → vm = v) (hcs : cells + mc ≤ room_1.cells ∧ slots + ms ≤ room_1.slots) (hS : va_S (kHi ε) s.heap H locs) (hl : lv_has ls 8 [(0, .ref b), (1, .ref (ad 0 0)), (2, .ref (bd 0)), (3, .ref o), (4, .ref od), (5, .int (nI i))]) (KK : ∀ (H' : Heap) (locs' : List Loc) (ls' : Array Slot), kLw ε A B o od (ad 0 0) (bd 0) σ' τ' H' → H.size ≤ H'.size → va_S (kHi ε) s.heap H' locs' → lv_has ls' 8 [(0, .ref b), (1, .ref (ad 0 0)), (2, .ref (bd 0)), (3, .ref o), (4, .ref od), (5, .int (nI i))] → W p l e room_1 s m #[Value.ref b] below meth c H' locs' (cells + mc) (slots + ms) Q (F0 m 1640 ls' [])) : W p l e room_1 s m #[Value.ref b] below meth c H locs cells slots Q (F0 m 963 ls []) := by
  have hx := S.1
  have hb := S.2.1
  have hown : s.vm.findClass RL = some m.cls := S.2.2.2.1
  have hts := S.2.2.2.2
  have hK := hE.1
  have hAb : ∀ q, kHi ε q → kHi ε q := fun _ h => h
  obtain ⟨hA1, hB1, hAB, ⟨hoA, hoB, hoK⟩, ⟨hdA, hdB, hdK⟩, hood⟩ := hap
  have hbA : ¬ kHi ε b := by show ¬ ε.2.2.1 ≤ b; omega
  refine lv_aload_n hx hb dL_law_963 rfl (lv_at hl 1 rfl) ?_
  refine lv_aload_n hx hb dL_law_964 rfl (lv_at hl 0 rfl) ?_
  refine lv_iload hx hb dL_law_965 (lv_at hl 5 rfl) ?_
  refine lv_iconst (v := 1) hx hb dL_law_967 (by decide) ?_
  refine lv_iadd hx hb dL_law_968 ?_
  refine kr_top (y := nI (i + 1)) (nI_add i 1) ?_
  refine va_sld hx hb hX hbl hbA hS (vp_in_nI (by omega) (by omega)) dL_law_969 ?_
  refine kr_top (y := xs (i + 1)) (congrArg xs (nI_clamp (by omega))) ?_
  refine lv_aload_n hx hb dL_law_970 rfl (lv_at hl 0 rfl) ?_
  refine lv_iload hx hb dL_law_971 (lv_at hl 5 rfl) ?_
  refine lv_iconst (v := 2) hx hb dL_law_973 (by decide) ?_
  refine lv_iadd hx hb dL_law_974 ?_
  refine kr_top (y := nI (i + 2)) (nI_add i 2) ?_
  refine va_sld hx hb hX hbl hbA hS (vp_in_nI (by omega) (by omega)) dL_law_975 ?_
  refine kr_top (y := xs (i + 2)) (congrArg xs (nI_clamp (by omega))) ?_
  refine lv_aload_n hx hb dL_law_976 rfl (lv_at hl 3 rfl) ?_
  refine kgo_i (kc_SW (As := [.ref (ad 0 0), .int (xs (i + 1)), .int (xs (i + 2)), .ref o]) (rest := []) S hE hS hAb hC (vx_cwSW 4 hts gL_law_L_vote rfl rfl rfl (by decide +kernel) ⟨Nat.le_of_ble_eq_true rfl, Nat.le_of_ble_eq_true rfl⟩) rfl hl.1 rfl (Nat.le_of_ble_eq_true rfl) dL_law_977 hcs) hS (kAo_hi hA1 hoK) (fun r9 H1 locs hp hz1 hq hS => ?_)
  obtain ⟨e9, ⟨ad', ea, hw⟩, g, hoJ, hg0⟩ := hp
  refine kr_top e9 ?_
  have hm := hm.keep (fun k hk => hq _ (va_at.lt (hm.1 k hk).1) (fun h => h.elim (fun h => hAB _ h (hm.1 k hk).2) (fun h => hoB (h ▸ (hm.1 k hk).2))))
  obtain ⟨gD, hoD⟩ := hoD
  have hoD := va_at.kept hoD (hq od (va_at.lt hoD) (fun h => h.elim hdA (fun h => hood h.symm)))
  clear hq
  refine lv_istore (lv' := [(6, .int (nI kn)), (0, .ref b), (1, .ref (ad 0 0)), (2, .ref (bd 0)), (3, .ref o), (4, .ref od), (5, .int (nI i))]) hx hb dL_law_980 hl (by decide) rfl (fun ls hl => ?_)
  refine lv_aload_n hx hb dL_law_982 rfl (lv_at hl 3 rfl) ?_
  refine lv_aload_n hx hb dL_law_983 rfl (lv_at hl 1 rfl) ?_
  refine lv_iload hx hb dL_law_984 (lv_at hl 6 rfl) ?_
  refine lv_iconst (v := 1) hx hb dL_law_986 (by decide) ?_
  refine lv_iadd hx hb dL_law_987 ?_
  refine kr_top (y := nI (i + 1)) (nI_add i 1) ?_
  refine va_sld hx hb hX hbl hbA hS (vp_in_nI (by omega) (by omega)) dL_law_988 ?_
  refine kr_top (y := xs (i + 1)) (congrArg xs (nI_clamp (by omega))) ?_
  refine lv_aload_n hx hb dL_law_989 rfl (lv_at hl 1 rfl) ?_
  refine lv_iload hx hb dL_law_990 (lv_at hl 6 rfl) ?_
  refine lv_iconst (v := 2) hx hb dL_law_992 (by decide) ?_
  refine lv_iadd hx hb dL_law_993 ?_
  refine kr_top (y := nI (i + 2)) (nI_add i 2) ?_
  refine va_sld hx hb hX hbl hbA hS (vp_in_nI (by omega) (by omega)) dL_law_994 ?_
  refine kr_top (y := xs (i + 2)) (congrArg xs (nI_clamp (by omega))) ?_
  refine kgo_i (kc_V (As := [.int (xs (i + 1)), .int (xs (i + 2))]) (rest := []) S hE hS hAb (hM _ hm) (cwV 2 hts gL_law_X5_vote rfl rfl rfl (by decide +kernel) ⟨Nat.le_of_ble_eq_true rfl, Nat.le_of_ble_eq_true rfl⟩) (hm.lv 0 (by decide)) rfl rfl hl.1 rfl (Nat.le_of_ble_eq_true rfl) dL_law_995 ⟨Nat.le_trans (Nat.le_of_eq (Nat.add_zero _)) hcs.1, Nat.le_trans (Nat.le_of_eq (Nat.add_zero _)) hcs.2⟩) hS hB1 (fun r8 H2 locs hp hz2 hq hS => ?_)
  obtain ⟨e8, hm⟩ := hp
  refine kr_top e8 ?_
  have hw := hw.keep (fun k j hk => hq _ (va_at.lt (hw.1 k j hk).1) (hAB _ (hw.1 k j hk).2))
  have hoJ := va_at.kept hoJ (hq o (va_at.lt hoJ) hoB)
  have hoD := va_at.kept hoD (hq od (va_at.lt hoD) hdB)
  clear hq
  refine lv_istore (lv' := [(7, .int vm), (6, .int (nI kn)), (0, .ref b), (1, .ref (ad 0 0)), (2, .ref (bd 0)), (3, .ref o), (4, .ref od), (5, .int (nI i))]) hx hb dL_law_998 hl (by decide) rfl (fun ls hl => ?_)
  refine lv_aload_n hx hb dL_law_1000 rfl (lv_at hl 4 rfl) ?_
  refine kgo_pi (v := nI (τ' 35 0)) (kc_V (As := []) (rest := []) S hE hS hAb (cm_thrown ε l hm) (cwV 0 hts gL_law_X5_thrown rfl rfl rfl (by decide +kernel) ⟨Nat.le_of_ble_eq_true rfl, Nat.le_of_ble_eq_true rfl⟩) (hm.lv 0 (by decide)) rfl rfl hl.1 rfl (Nat.le_of_ble_eq_true rfl) dL_law_1001 ⟨Nat.le_trans (Nat.le_of_eq (Nat.add_zero _)) hcs.1, Nat.le_trans (Nat.le_of_eq (Nat.add_zero _)) hcs.2⟩) hS (fun locs hS => ?_)
  refine kr_top (y := nI kn) (by rw [hk]) ?_
  refine lv_iload hx hb dL_law_1004 (lv_at hl 1 rfl) ?_
  refine lv_icmp_eq (tgt := 1011) hx hb dL_law_1006 (by decide) (fun _ => ?_) (fun hc => absurd (rfl) hc)
  refine lv_iload hx hb dL_law_1011 (lv_at hl 1 rfl) ?_
  by_cases hk0 : kn = 0
  · refine lv_if_ne (tgt := 1028) hx hb dL_law_1013 (by decide) (fun hc => absurd (by rw [hk0]; rfl) hc) (fun _ => ?_)
    refine lv_aload_n hx hb dL_law_1016 rfl (lv_at hl 5 rfl) ?_
    refine lv_iconst (v := 0) hx hb dL_law_1017 (by decide) ?_
    refine kr_lld hx hb hK hoJ (j := 0) (by decide) rfl (by decide) (x := v.toInt64) (hg0 hk0) dL_law_1018 ?_
    refine lv_iload hx hb dL_law_1019 (lv_at hl 0 rfl) ?_
    refine kr_top (y := v) (hv hk0) ?_
    refine lv_i2l (v := (v).toInt64) hx hb dL_law_1021 rfl ?_
    refine kr_lcmpE hx hb dL_law_1022 ?_
    refine lv_if_eq (tgt := 1028) hx hb dL_law_1023 (by decide) (fun _ => ?_) (fun hc => absurd (rfl) hc)
    refine lv_goto (tgt := 1640) hx hb dL_law_1028 (by decide) ?_
    exact KK _ _ _ ⟨⟨ad', ea, hw⟩, ⟨bd, rfl, hm⟩, ⟨_, hoJ⟩, ⟨_, hoD⟩⟩ (Nat.le_trans hz1 hz2) hS (lv_sub hl [2, 3, 4, 5, 6, 7] rfl)
  · refine lv_if_ne (tgt := 1028) hx hb dL_law_1013 (by decide) (fun _ => ?_) (fun hc => absurd hc (nI_ne0 (by omega) (by omega)))
    refine lv_goto (tgt := 1640) hx hb dL_law_1028 (by decide) ?_
    exact KK _ _ _ ⟨⟨ad', ea, hw⟩, ⟨bd, rfl, hm⟩, ⟨_, hoJ⟩, ⟨_, hoD⟩⟩ (Nat.le_trans hz1 hz2) hS (lv_sub hl [2, 3, 4, 5, 6, 7] rfl)
set_option maxHeartbeats 4000000 in
set_option maxRecDepth 100000 in
theorem lq_probes (S : CallFix p m c cL_law 8 s #[Value.ref b] wsL_law RL) (hE : kE ε s) (hX : va_X b L xs s s.heap) (hbl : b < s.heap.size) (hlo : ε.2.2.1 = s.heap.size) (hL : L ≤ 2560) (hi : i + 5 ≤ L) (hap : kAp ε A B o od) (hw : kW ε A ad σ H) (hm : kM ε B bd τ H) (hoJ : ∃ g, kat ε o (kJ ε 1 g) H) (hoD : ∃ g, kat ε od (kD ε 1 g) H) {v vm : Int32} {mc ms kn : Nat} (hC : kMi ε l yL_probes wsL_probes ({ frames := 11, cells := mc, slots := ms, locals := 310 }) [.ref (ad 0 0), .int (xs (i + 1)), .ref o] H (kAo A o) mc ms (kLP ε A o (ad 0 0) σ' kn v)) (hM : ∀ H1, kM ε B bd τ H1 → kMi ε l yX5_probes wsX5_probes ({ frames := 6, cells := 0, slots := 0, locals := 140 }) [.ref (bd 0), .int (xs (i + 1))] H1 B 0 0 (fun v9 H' => v9 = vm ∧ kM ε B bd τ' H')) (hk : τ' 35 0 = kn) (hkn : kn ≤ 3) (hv : kn = 0 → vm = v) (hcs : cells + mc ≤ room_1.cells ∧ slots + ms ≤ room_1.slots) (hS : va_S (kHi ε) s.heap H locs) (hl : lv_has ls 8 [(0, .ref b), (1, .ref (ad 0 0)), (2, .ref (bd 0)), (3, .ref o), (4, .ref od), (5, .int (nI i))]) (KK : ∀ (H' : Heap) (locs' : List Loc) (ls' : Array Slot), kLw ε A B o od (ad 0 0) (bd 0) σ' τ' H' → H.size ≤ H'.size → va_S (kHi ε) s.heap H' locs' → lv_has ls' 8 [(0, .ref b), (1, .ref (ad 0 0)), (2, .ref (bd 0)), (3, .ref o), (4, .ref od), (5, .int (nI i))] → W p l e room_1 s m #[Value.ref b] below meth c H' locs' (cells + mc) (slots + ms) Q (F0 m 1640 ls' [])) : W p l e room_1 s m #[Value.ref b] below meth c H locs cells slots Q (F0 m 1031 ls []) := by
  have hx := S.1
  have hb := S.2.1
  have hown : s.vm.findClass RL = some m.cls := S.2.2.2.1
  have hts := S.2.2.2.2
  have hK := hE.1
  have hAb : ∀ q, kHi ε q → kHi ε q := fun _ h => h
  obtain ⟨hA1, hB1, hAB, ⟨hoA, hoB, hoK⟩, ⟨hdA, hdB, hdK⟩, hood⟩ := hap
  have hbA : ¬ kHi ε b := by show ¬ ε.2.2.1 ≤ b; omega
  refine lv_aload_n hx hb dL_law_1031 rfl (lv_at hl 1 rfl) ?_
  refine lv_aload_n hx hb dL_law_1032 rfl (lv_at hl 0 rfl) ?_
  refine lv_iload hx hb dL_law_1033 (lv_at hl 5 rfl) ?_
  refine lv_iconst (v := 1) hx hb dL_law_1035 (by decide) ?_
  refine lv_iadd hx hb dL_law_1036 ?_
  refine kr_top (y := nI (i + 1)) (nI_add i 1) ?_
  refine va_sld hx hb hX hbl hbA hS (vp_in_nI (by omega) (by omega)) dL_law_1037 ?_
  refine kr_top (y := xs (i + 1)) (congrArg xs (nI_clamp (by omega))) ?_
  refine lv_aload_n hx hb dL_law_1038 rfl (lv_at hl 3 rfl) ?_
  refine kgo_i (kc_SW (As := [.ref (ad 0 0), .int (xs (i + 1)), .ref o]) (rest := []) S hE hS hAb hC (vx_cwSW 3 hts gL_law_L_probes rfl rfl rfl (by decide +kernel) ⟨Nat.le_of_ble_eq_true rfl, Nat.le_of_ble_eq_true rfl⟩) rfl hl.1 rfl (Nat.le_of_ble_eq_true rfl) dL_law_1039 hcs) hS (kAo_hi hA1 hoK) (fun r9 H1 locs hp hz1 hq hS => ?_)
  obtain ⟨e9, ⟨ad', ea, hw⟩, g, hoJ, hg0⟩ := hp
  refine kr_top e9 ?_
  have hm := hm.keep (fun k hk => hq _ (va_at.lt (hm.1 k hk).1) (fun h => h.elim (fun h => hAB _ h (hm.1 k hk).2) (fun h => hoB (h ▸ (hm.1 k hk).2))))
  obtain ⟨gD, hoD⟩ := hoD
  have hoD := va_at.kept hoD (hq od (va_at.lt hoD) (fun h => h.elim hdA (fun h => hood h.symm)))
  clear hq
  refine lv_istore (lv' := [(6, .int (nI kn)), (0, .ref b), (1, .ref (ad 0 0)), (2, .ref (bd 0)), (3, .ref o), (4, .ref od), (5, .int (nI i))]) hx hb dL_law_1042 hl (by decide) rfl (fun ls hl => ?_)
  refine lv_aload_n hx hb dL_law_1044 rfl (lv_at hl 3 rfl) ?_
  refine lv_aload_n hx hb dL_law_1045 rfl (lv_at hl 1 rfl) ?_
  refine lv_iload hx hb dL_law_1046 (lv_at hl 6 rfl) ?_
  refine lv_iconst (v := 1) hx hb dL_law_1048 (by decide) ?_
  refine lv_iadd hx hb dL_law_1049 ?_
  refine kr_top (y := nI (i + 1)) (nI_add i 1) ?_
  refine va_sld hx hb hX hbl hbA hS (vp_in_nI (by omega) (by omega)) dL_law_1050 ?_
  refine kr_top (y := xs (i + 1)) (congrArg xs (nI_clamp (by omega))) ?_
  refine kgo_i (kc_V (As := [.int (xs (i + 1))]) (rest := []) S hE hS hAb (hM _ hm) (cwV 1 hts gL_law_X5_probes rfl rfl rfl (by decide +kernel) ⟨Nat.le_of_ble_eq_true rfl, Nat.le_of_ble_eq_true rfl⟩) (hm.lv 0 (by decide)) rfl rfl hl.1 rfl (Nat.le_of_ble_eq_true rfl) dL_law_1051 ⟨Nat.le_trans (Nat.le_of_eq (Nat.add_zero _)) hcs.1, Nat.le_trans (Nat.le_of_eq (Nat.add_zero _)) hcs.2⟩) hS hB1 (fun r8 H2 locs hp hz2 hq hS => ?_)
  obtain ⟨e8, hm⟩ := hp
  refine kr_top e8 ?_
  have hw := hw.keep (fun k j hk => hq _ (va_at.lt (hw.1 k j hk).1) (hAB _ (hw.1 k j hk).2))
  have hoJ := va_at.kept hoJ (hq o (va_at.lt hoJ) hoB)
  have hoD := va_at.kept hoD (hq od (va_at.lt hoD) hdB)
  clear hq
  refine lv_istore (lv' := [(7, .int vm), (6, .int (nI kn)), (0, .ref b), (1, .ref (ad 0 0)), (2, .ref (bd 0)), (3, .ref o), (4, .ref od), (5, .int (nI i))]) hx hb dL_law_1054 hl (by decide) rfl (fun ls hl => ?_)
  refine lv_aload_n hx hb dL_law_1056 rfl (lv_at hl 4 rfl) ?_
  refine kgo_pi (v := nI (τ' 35 0)) (kc_V (As := []) (rest := []) S hE hS hAb (cm_thrown ε l hm) (cwV 0 hts gL_law_X5_thrown rfl rfl rfl (by decide +kernel) ⟨Nat.le_of_ble_eq_true rfl, Nat.le_of_ble_eq_true rfl⟩) (hm.lv 0 (by decide)) rfl rfl hl.1 rfl (Nat.le_of_ble_eq_true rfl) dL_law_1057 ⟨Nat.le_trans (Nat.le_of_eq (Nat.add_zero _)) hcs.1, Nat.le_trans (Nat.le_of_eq (Nat.add_zero _)) hcs.2⟩) hS (fun locs hS => ?_)
  refine kr_top (y := nI kn) (by rw [hk]) ?_
  refine lv_iload hx hb dL_law_1060 (lv_at hl 1 rfl) ?_
  refine lv_icmp_eq (tgt := 1067) hx hb dL_law_1062 (by decide) (fun _ => ?_) (fun hc => absurd (rfl) hc)
  refine lv_iload hx hb dL_law_1067 (lv_at hl 1 rfl) ?_
  by_cases hk0 : kn = 0
  · refine lv_if_ne (tgt := 1084) hx hb dL_law_1069 (by decide) (fun hc => absurd (by rw [hk0]; rfl) hc) (fun _ => ?_)
    refine lv_aload_n hx hb dL_law_1072 rfl (lv_at hl 5 rfl) ?_
    refine lv_iconst (v := 0) hx hb dL_law_1073 (by decide) ?_
    refine kr_lld hx hb hK hoJ (j := 0) (by decide) rfl (by decide) (x := v.toInt64) (hg0 hk0) dL_law_1074 ?_
    refine lv_iload hx hb dL_law_1075 (lv_at hl 0 rfl) ?_
    refine kr_top (y := v) (hv hk0) ?_
    refine lv_i2l (v := (v).toInt64) hx hb dL_law_1077 rfl ?_
    refine kr_lcmpE hx hb dL_law_1078 ?_
    refine lv_if_eq (tgt := 1084) hx hb dL_law_1079 (by decide) (fun _ => ?_) (fun hc => absurd (rfl) hc)
    refine lv_goto (tgt := 1640) hx hb dL_law_1084 (by decide) ?_
    exact KK _ _ _ ⟨⟨ad', ea, hw⟩, ⟨bd, rfl, hm⟩, ⟨_, hoJ⟩, ⟨_, hoD⟩⟩ (Nat.le_trans hz1 hz2) hS (lv_sub hl [2, 3, 4, 5, 6, 7] rfl)
  · refine lv_if_ne (tgt := 1084) hx hb dL_law_1069 (by decide) (fun _ => ?_) (fun hc => absurd hc (nI_ne0 (by omega) (by omega)))
    refine lv_goto (tgt := 1640) hx hb dL_law_1084 (by decide) ?_
    exact KK _ _ _ ⟨⟨ad', ea, hw⟩, ⟨bd, rfl, hm⟩, ⟨_, hoJ⟩, ⟨_, hoD⟩⟩ (Nat.le_trans hz1 hz2) hS (lv_sub hl [2, 3, 4, 5, 6, 7] rfl)
set_option maxHeartbeats 4000000 in
set_option maxRecDepth 100000 in
theorem lq_failures (S : CallFix p m c cL_law 8 s #[Value.ref b] wsL_law RL) (hE : kE ε s) (hX : va_X b L xs s s.heap) (hbl : b < s.heap.size) (hlo : ε.2.2.1 = s.heap.size) (hL : L ≤ 2560) (hi : i + 5 ≤ L) (hap : kAp ε A B o od) (hw : kW ε A ad σ H) (hm : kM ε B bd τ H) (hoJ : ∃ g, kat ε o (kJ ε 1 g) H) (hoD : ∃ g, kat ε od (kD ε 1 g) H) {v vm : Int32} {mc ms kn : Nat} (hC : kMi ε l yL_failures wsL_failures ({ frames := 11, cells := mc, slots := ms, locals := 310 }) [.ref (ad 0 0), .int (xs (i + 1)), .ref o] H (kAo A o) mc ms (kLP ε A o (ad 0 0) σ' kn v)) (hM : ∀ H1, kM ε B bd τ H1 → kMi ε l yX5_failures wsX5_failures ({ frames := 6, cells := 0, slots := 0, locals := 140 }) [.ref (bd 0), .int (xs (i + 1))] H1 B 0 0 (fun v9 H' => v9 = vm ∧ kM ε B bd τ' H')) (hk : τ' 35 0 = kn) (hkn : kn ≤ 3) (hv : kn = 0 → vm = v) (hcs : cells + mc ≤ room_1.cells ∧ slots + ms ≤ room_1.slots) (hS : va_S (kHi ε) s.heap H locs) (hl : lv_has ls 8 [(0, .ref b), (1, .ref (ad 0 0)), (2, .ref (bd 0)), (3, .ref o), (4, .ref od), (5, .int (nI i))]) (KK : ∀ (H' : Heap) (locs' : List Loc) (ls' : Array Slot), kLw ε A B o od (ad 0 0) (bd 0) σ' τ' H' → H.size ≤ H'.size → va_S (kHi ε) s.heap H' locs' → lv_has ls' 8 [(0, .ref b), (1, .ref (ad 0 0)), (2, .ref (bd 0)), (3, .ref o), (4, .ref od), (5, .int (nI i))] → W p l e room_1 s m #[Value.ref b] below meth c H' locs' (cells + mc) (slots + ms) Q (F0 m 1640 ls' [])) : W p l e room_1 s m #[Value.ref b] below meth c H locs cells slots Q (F0 m 1087 ls []) := by
  have hx := S.1
  have hb := S.2.1
  have hown : s.vm.findClass RL = some m.cls := S.2.2.2.1
  have hts := S.2.2.2.2
  have hK := hE.1
  have hAb : ∀ q, kHi ε q → kHi ε q := fun _ h => h
  obtain ⟨hA1, hB1, hAB, ⟨hoA, hoB, hoK⟩, ⟨hdA, hdB, hdK⟩, hood⟩ := hap
  have hbA : ¬ kHi ε b := by show ¬ ε.2.2.1 ≤ b; omega
  refine lv_aload_n hx hb dL_law_1087 rfl (lv_at hl 1 rfl) ?_
  refine lv_aload_n hx hb dL_law_1088 rfl (lv_at hl 0 rfl) ?_
  refine lv_iload hx hb dL_law_1089 (lv_at hl 5 rfl) ?_
  refine lv_iconst (v := 1) hx hb dL_law_1091 (by decide) ?_
  refine lv_iadd hx hb dL_law_1092 ?_
  refine kr_top (y := nI (i + 1)) (nI_add i 1) ?_
  refine va_sld hx hb hX hbl hbA hS (vp_in_nI (by omega) (by omega)) dL_law_1093 ?_
  refine kr_top (y := xs (i + 1)) (congrArg xs (nI_clamp (by omega))) ?_
  refine lv_aload_n hx hb dL_law_1094 rfl (lv_at hl 3 rfl) ?_
  refine kgo_i (kc_SW (As := [.ref (ad 0 0), .int (xs (i + 1)), .ref o]) (rest := []) S hE hS hAb hC (vx_cwSW 3 hts gL_law_L_failures rfl rfl rfl (by decide +kernel) ⟨Nat.le_of_ble_eq_true rfl, Nat.le_of_ble_eq_true rfl⟩) rfl hl.1 rfl (Nat.le_of_ble_eq_true rfl) dL_law_1095 hcs) hS (kAo_hi hA1 hoK) (fun r9 H1 locs hp hz1 hq hS => ?_)
  obtain ⟨e9, ⟨ad', ea, hw⟩, g, hoJ, hg0⟩ := hp
  refine kr_top e9 ?_
  have hm := hm.keep (fun k hk => hq _ (va_at.lt (hm.1 k hk).1) (fun h => h.elim (fun h => hAB _ h (hm.1 k hk).2) (fun h => hoB (h ▸ (hm.1 k hk).2))))
  obtain ⟨gD, hoD⟩ := hoD
  have hoD := va_at.kept hoD (hq od (va_at.lt hoD) (fun h => h.elim hdA (fun h => hood h.symm)))
  clear hq
  refine lv_istore (lv' := [(6, .int (nI kn)), (0, .ref b), (1, .ref (ad 0 0)), (2, .ref (bd 0)), (3, .ref o), (4, .ref od), (5, .int (nI i))]) hx hb dL_law_1098 hl (by decide) rfl (fun ls hl => ?_)
  refine lv_aload_n hx hb dL_law_1100 rfl (lv_at hl 3 rfl) ?_
  refine lv_aload_n hx hb dL_law_1101 rfl (lv_at hl 1 rfl) ?_
  refine lv_iload hx hb dL_law_1102 (lv_at hl 6 rfl) ?_
  refine lv_iconst (v := 1) hx hb dL_law_1104 (by decide) ?_
  refine lv_iadd hx hb dL_law_1105 ?_
  refine kr_top (y := nI (i + 1)) (nI_add i 1) ?_
  refine va_sld hx hb hX hbl hbA hS (vp_in_nI (by omega) (by omega)) dL_law_1106 ?_
  refine kr_top (y := xs (i + 1)) (congrArg xs (nI_clamp (by omega))) ?_
  refine kgo_i (kc_V (As := [.int (xs (i + 1))]) (rest := []) S hE hS hAb (hM _ hm) (cwV 1 hts gL_law_X5_failures rfl rfl rfl (by decide +kernel) ⟨Nat.le_of_ble_eq_true rfl, Nat.le_of_ble_eq_true rfl⟩) (hm.lv 0 (by decide)) rfl rfl hl.1 rfl (Nat.le_of_ble_eq_true rfl) dL_law_1107 ⟨Nat.le_trans (Nat.le_of_eq (Nat.add_zero _)) hcs.1, Nat.le_trans (Nat.le_of_eq (Nat.add_zero _)) hcs.2⟩) hS hB1 (fun r8 H2 locs hp hz2 hq hS => ?_)
  obtain ⟨e8, hm⟩ := hp
  refine kr_top e8 ?_
  have hw := hw.keep (fun k j hk => hq _ (va_at.lt (hw.1 k j hk).1) (hAB _ (hw.1 k j hk).2))
  have hoJ := va_at.kept hoJ (hq o (va_at.lt hoJ) hoB)
  have hoD := va_at.kept hoD (hq od (va_at.lt hoD) hdB)
  clear hq
  refine lv_istore (lv' := [(7, .int vm), (6, .int (nI kn)), (0, .ref b), (1, .ref (ad 0 0)), (2, .ref (bd 0)), (3, .ref o), (4, .ref od), (5, .int (nI i))]) hx hb dL_law_1110 hl (by decide) rfl (fun ls hl => ?_)
  refine lv_aload_n hx hb dL_law_1112 rfl (lv_at hl 4 rfl) ?_
  refine kgo_pi (v := nI (τ' 35 0)) (kc_V (As := []) (rest := []) S hE hS hAb (cm_thrown ε l hm) (cwV 0 hts gL_law_X5_thrown rfl rfl rfl (by decide +kernel) ⟨Nat.le_of_ble_eq_true rfl, Nat.le_of_ble_eq_true rfl⟩) (hm.lv 0 (by decide)) rfl rfl hl.1 rfl (Nat.le_of_ble_eq_true rfl) dL_law_1113 ⟨Nat.le_trans (Nat.le_of_eq (Nat.add_zero _)) hcs.1, Nat.le_trans (Nat.le_of_eq (Nat.add_zero _)) hcs.2⟩) hS (fun locs hS => ?_)
  refine kr_top (y := nI kn) (by rw [hk]) ?_
  refine lv_iload hx hb dL_law_1116 (lv_at hl 1 rfl) ?_
  refine lv_icmp_eq (tgt := 1123) hx hb dL_law_1118 (by decide) (fun _ => ?_) (fun hc => absurd (rfl) hc)
  refine lv_iload hx hb dL_law_1123 (lv_at hl 1 rfl) ?_
  by_cases hk0 : kn = 0
  · refine lv_if_ne (tgt := 1140) hx hb dL_law_1125 (by decide) (fun hc => absurd (by rw [hk0]; rfl) hc) (fun _ => ?_)
    refine lv_aload_n hx hb dL_law_1128 rfl (lv_at hl 5 rfl) ?_
    refine lv_iconst (v := 0) hx hb dL_law_1129 (by decide) ?_
    refine kr_lld hx hb hK hoJ (j := 0) (by decide) rfl (by decide) (x := v.toInt64) (hg0 hk0) dL_law_1130 ?_
    refine lv_iload hx hb dL_law_1131 (lv_at hl 0 rfl) ?_
    refine kr_top (y := v) (hv hk0) ?_
    refine lv_i2l (v := (v).toInt64) hx hb dL_law_1133 rfl ?_
    refine kr_lcmpE hx hb dL_law_1134 ?_
    refine lv_if_eq (tgt := 1140) hx hb dL_law_1135 (by decide) (fun _ => ?_) (fun hc => absurd (rfl) hc)
    refine lv_goto (tgt := 1640) hx hb dL_law_1140 (by decide) ?_
    exact KK _ _ _ ⟨⟨ad', ea, hw⟩, ⟨bd, rfl, hm⟩, ⟨_, hoJ⟩, ⟨_, hoD⟩⟩ (Nat.le_trans hz1 hz2) hS (lv_sub hl [2, 3, 4, 5, 6, 7] rfl)
  · refine lv_if_ne (tgt := 1140) hx hb dL_law_1125 (by decide) (fun _ => ?_) (fun hc => absurd hc (nI_ne0 (by omega) (by omega)))
    refine lv_goto (tgt := 1640) hx hb dL_law_1140 (by decide) ?_
    exact KK _ _ _ ⟨⟨ad', ea, hw⟩, ⟨bd, rfl, hm⟩, ⟨_, hoJ⟩, ⟨_, hoD⟩⟩ (Nat.le_trans hz1 hz2) hS (lv_sub hl [2, 3, 4, 5, 6, 7] rfl)
set_option maxHeartbeats 4000000 in
set_option maxRecDepth 100000 in
theorem lq_isBad (S : CallFix p m c cL_law 8 s #[Value.ref b] wsL_law RL) (hE : kE ε s) (hX : va_X b L xs s s.heap) (hbl : b < s.heap.size) (hlo : ε.2.2.1 = s.heap.size) (hL : L ≤ 2560) (hi : i + 5 ≤ L) (hap : kAp ε A B o od) (hw : kW ε A ad σ H) (hm : kM ε B bd τ H) (hoJ : ∃ g, kat ε o (kJ ε 1 g) H) (hoD : ∃ g, kat ε od (kD ε 1 g) H) {v vm : Int32} {mc ms kn : Nat} (hC : kMi ε l yL_isBad wsL_isBad ({ frames := 11, cells := mc, slots := ms, locals := 310 }) [.ref (ad 0 0), .int (xs (i + 1)), .ref o] H (kAo A o) mc ms (kLP ε A o (ad 0 0) σ' kn v)) (hM : ∀ H1, kM ε B bd τ H1 → kMi ε l yX5_isBad wsX5_isBad ({ frames := 6, cells := 0, slots := 0, locals := 140 }) [.ref (bd 0), .int (xs (i + 1))] H1 B 0 0 (fun v9 H' => v9 = vm ∧ kM ε B bd τ' H')) (hk : τ' 35 0 = kn) (hkn : kn ≤ 3) (hv : kn = 0 → vm = v) (h01 : kn = 0 → v = 0 ∨ v = 1) (hcs : cells + mc ≤ room_1.cells ∧ slots + ms ≤ room_1.slots) (hS : va_S (kHi ε) s.heap H locs) (hl : lv_has ls 8 [(0, .ref b), (1, .ref (ad 0 0)), (2, .ref (bd 0)), (3, .ref o), (4, .ref od), (5, .int (nI i))]) (KK : ∀ (H' : Heap) (locs' : List Loc) (ls' : Array Slot), kLw ε A B o od (ad 0 0) (bd 0) σ' τ' H' → H.size ≤ H'.size → va_S (kHi ε) s.heap H' locs' → lv_has ls' 8 [(0, .ref b), (1, .ref (ad 0 0)), (2, .ref (bd 0)), (3, .ref o), (4, .ref od), (5, .int (nI i))] → W p l e room_1 s m #[Value.ref b] below meth c H' locs' (cells + mc) (slots + ms) Q (F0 m 1640 ls' [])) : W p l e room_1 s m #[Value.ref b] below meth c H locs cells slots Q (F0 m 1143 ls []) := by
  have hx := S.1
  have hb := S.2.1
  have hown : s.vm.findClass RL = some m.cls := S.2.2.2.1
  have hts := S.2.2.2.2
  have hK := hE.1
  have hAb : ∀ q, kHi ε q → kHi ε q := fun _ h => h
  obtain ⟨hA1, hB1, hAB, ⟨hoA, hoB, hoK⟩, ⟨hdA, hdB, hdK⟩, hood⟩ := hap
  have hbA : ¬ kHi ε b := by show ¬ ε.2.2.1 ≤ b; omega
  refine lv_aload_n hx hb dL_law_1143 rfl (lv_at hl 1 rfl) ?_
  refine lv_aload_n hx hb dL_law_1144 rfl (lv_at hl 0 rfl) ?_
  refine lv_iload hx hb dL_law_1145 (lv_at hl 5 rfl) ?_
  refine lv_iconst (v := 1) hx hb dL_law_1147 (by decide) ?_
  refine lv_iadd hx hb dL_law_1148 ?_
  refine kr_top (y := nI (i + 1)) (nI_add i 1) ?_
  refine va_sld hx hb hX hbl hbA hS (vp_in_nI (by omega) (by omega)) dL_law_1149 ?_
  refine kr_top (y := xs (i + 1)) (congrArg xs (nI_clamp (by omega))) ?_
  refine lv_aload_n hx hb dL_law_1150 rfl (lv_at hl 3 rfl) ?_
  refine kgo_i (kc_SW (As := [.ref (ad 0 0), .int (xs (i + 1)), .ref o]) (rest := []) S hE hS hAb hC (vx_cwSW 3 hts gL_law_L_isBad rfl rfl rfl (by decide +kernel) ⟨Nat.le_of_ble_eq_true rfl, Nat.le_of_ble_eq_true rfl⟩) rfl hl.1 rfl (Nat.le_of_ble_eq_true rfl) dL_law_1151 hcs) hS (kAo_hi hA1 hoK) (fun r9 H1 locs hp hz1 hq hS => ?_)
  obtain ⟨e9, ⟨ad', ea, hw⟩, g, hoJ, hg0⟩ := hp
  refine kr_top e9 ?_
  have hm := hm.keep (fun k hk => hq _ (va_at.lt (hm.1 k hk).1) (fun h => h.elim (fun h => hAB _ h (hm.1 k hk).2) (fun h => hoB (h ▸ (hm.1 k hk).2))))
  obtain ⟨gD, hoD⟩ := hoD
  have hoD := va_at.kept hoD (hq od (va_at.lt hoD) (fun h => h.elim hdA (fun h => hood h.symm)))
  clear hq
  refine lv_istore (lv' := [(6, .int (nI kn)), (0, .ref b), (1, .ref (ad 0 0)), (2, .ref (bd 0)), (3, .ref o), (4, .ref od), (5, .int (nI i))]) hx hb dL_law_1154 hl (by decide) rfl (fun ls hl => ?_)
  refine lv_aload_n hx hb dL_law_1156 rfl (lv_at hl 3 rfl) ?_
  refine lv_aload_n hx hb dL_law_1157 rfl (lv_at hl 1 rfl) ?_
  refine lv_iload hx hb dL_law_1158 (lv_at hl 6 rfl) ?_
  refine lv_iconst (v := 1) hx hb dL_law_1160 (by decide) ?_
  refine lv_iadd hx hb dL_law_1161 ?_
  refine kr_top (y := nI (i + 1)) (nI_add i 1) ?_
  refine va_sld hx hb hX hbl hbA hS (vp_in_nI (by omega) (by omega)) dL_law_1162 ?_
  refine kr_top (y := xs (i + 1)) (congrArg xs (nI_clamp (by omega))) ?_
  refine kgo_i (kc_V (As := [.int (xs (i + 1))]) (rest := []) S hE hS hAb (hM _ hm) (cwV 1 hts gL_law_X5_isBad rfl rfl rfl (by decide +kernel) ⟨Nat.le_of_ble_eq_true rfl, Nat.le_of_ble_eq_true rfl⟩) (hm.lv 0 (by decide)) rfl rfl hl.1 rfl (Nat.le_of_ble_eq_true rfl) dL_law_1163 ⟨Nat.le_trans (Nat.le_of_eq (Nat.add_zero _)) hcs.1, Nat.le_trans (Nat.le_of_eq (Nat.add_zero _)) hcs.2⟩) hS hB1 (fun r8 H2 locs hp hz2 hq hS => ?_)
  obtain ⟨e8, hm⟩ := hp
  refine kr_top e8 ?_
  have hw := hw.keep (fun k j hk => hq _ (va_at.lt (hw.1 k j hk).1) (hAB _ (hw.1 k j hk).2))
  have hoJ := va_at.kept hoJ (hq o (va_at.lt hoJ) hoB)
  have hoD := va_at.kept hoD (hq od (va_at.lt hoD) hdB)
  clear hq
  refine lv_istore (lv' := [(7, .int vm), (6, .int (nI kn)), (0, .ref b), (1, .ref (ad 0 0)), (2, .ref (bd 0)), (3, .ref o), (4, .ref od), (5, .int (nI i))]) hx hb dL_law_1166 hl (by decide) rfl (fun ls hl => ?_)
  refine lv_aload_n hx hb dL_law_1168 rfl (lv_at hl 4 rfl) ?_
  refine kgo_pi (v := nI (τ' 35 0)) (kc_V (As := []) (rest := []) S hE hS hAb (cm_thrown ε l hm) (cwV 0 hts gL_law_X5_thrown rfl rfl rfl (by decide +kernel) ⟨Nat.le_of_ble_eq_true rfl, Nat.le_of_ble_eq_true rfl⟩) (hm.lv 0 (by decide)) rfl rfl hl.1 rfl (Nat.le_of_ble_eq_true rfl) dL_law_1169 ⟨Nat.le_trans (Nat.le_of_eq (Nat.add_zero _)) hcs.1, Nat.le_trans (Nat.le_of_eq (Nat.add_zero _)) hcs.2⟩) hS (fun locs hS => ?_)
  refine kr_top (y := nI kn) (by rw [hk]) ?_
  refine lv_iload hx hb dL_law_1172 (lv_at hl 1 rfl) ?_
  refine lv_icmp_eq (tgt := 1179) hx hb dL_law_1174 (by decide) (fun _ => ?_) (fun hc => absurd (rfl) hc)
  refine lv_iload hx hb dL_law_1179 (lv_at hl 1 rfl) ?_
  by_cases hk0 : kn = 0
  · refine lv_if_ne (tgt := 1203) hx hb dL_law_1181 (by decide) (fun hc => absurd (by rw [hk0]; rfl) hc) (fun _ => ?_)
    refine lv_aload_n hx hb dL_law_1184 rfl (lv_at hl 5 rfl) ?_
    refine lv_iconst (v := 0) hx hb dL_law_1185 (by decide) ?_
    rcases h01 hk0 with h01 | h01
    · refine kr_lld hx hb hK hoJ (j := 0) (by decide) rfl (by decide) (x := 0) (by rw [hg0 hk0, h01]; rfl) dL_law_1186 ?_
      refine lv_iload hx hb dL_law_1187 (lv_at hl 0 rfl) ?_
      refine kr_top (y := 0) (by rw [hv hk0, h01]) ?_
      refine lv_if_eq (tgt := 1196) hx hb dL_law_1189 (by decide) (fun _ => ?_) (fun hc => absurd (rfl) hc)
      refine lv_lconst (v := 0) hx hb dL_law_1196 (by decide) ?_
      refine kr_lcmpE hx hb dL_law_1197 ?_
      refine lv_if_eq (tgt := 1203) hx hb dL_law_1198 (by decide) (fun _ => ?_) (fun hc => absurd (rfl) hc)
      refine lv_goto (tgt := 1640) hx hb dL_law_1203 (by decide) ?_
      exact KK _ _ _ ⟨⟨ad', ea, hw⟩, ⟨bd, rfl, hm⟩, ⟨_, hoJ⟩, ⟨_, hoD⟩⟩ (Nat.le_trans hz1 hz2) hS (lv_sub hl [2, 3, 4, 5, 6, 7] rfl)
    · refine kr_lld hx hb hK hoJ (j := 0) (by decide) rfl (by decide) (x := 1) (by rw [hg0 hk0, h01]; rfl) dL_law_1186 ?_
      refine lv_iload hx hb dL_law_1187 (lv_at hl 0 rfl) ?_
      refine kr_top (y := 1) (by rw [hv hk0, h01]) ?_
      refine lv_if_eq (tgt := 1196) hx hb dL_law_1189 (by decide) (fun hc => absurd hc (by decide)) (fun _ => ?_)
      refine lv_lconst (v := 1) hx hb dL_law_1192 (by decide) ?_
      refine lv_goto (tgt := 1197) hx hb dL_law_1193 (by decide) ?_
      refine kr_lcmpE hx hb dL_law_1197 ?_
      refine lv_if_eq (tgt := 1203) hx hb dL_law_1198 (by decide) (fun _ => ?_) (fun hc => absurd (rfl) hc)
      refine lv_goto (tgt := 1640) hx hb dL_law_1203 (by decide) ?_
      exact KK _ _ _ ⟨⟨ad', ea, hw⟩, ⟨bd, rfl, hm⟩, ⟨_, hoJ⟩, ⟨_, hoD⟩⟩ (Nat.le_trans hz1 hz2) hS (lv_sub hl [2, 3, 4, 5, 6, 7] rfl)
  · refine lv_if_ne (tgt := 1203) hx hb dL_law_1181 (by decide) (fun _ => ?_) (fun hc => absurd hc (nI_ne0 (by omega) (by omega)))
    refine lv_goto (tgt := 1640) hx hb dL_law_1203 (by decide) ?_
    exact KK _ _ _ ⟨⟨ad', ea, hw⟩, ⟨bd, rfl, hm⟩, ⟨_, hoJ⟩, ⟨_, hoD⟩⟩ (Nat.le_trans hz1 hz2) hS (lv_sub hl [2, 3, 4, 5, 6, 7] rfl)
set_option maxHeartbeats 4000000 in
set_option maxRecDepth 100000 in
theorem lq_verdict (S : CallFix p m c cL_law 8 s #[Value.ref b] wsL_law RL) (hE : kE ε s) (hX : va_X b L xs s s.heap) (hbl : b < s.heap.size) (hlo : ε.2.2.1 = s.heap.size) (hL : L ≤ 2560) (hi : i + 5 ≤ L) (hap : kAp ε A B o od) (hw : kW ε A ad σ H) (hm : kM ε B bd τ H) (hoJ : ∃ g, kat ε o (kJ ε 1 g) H) (hoD : ∃ g, kat ε od (kD ε 1 g) H) {v vm : Int32} {mc ms kn : Nat} (hC : kMi ε l yL_verdict wsL_verdict ({ frames := 11, cells := mc, slots := ms, locals := 310 }) [.ref (ad 0 0), .int (xs (i + 1)), .ref o] H (kAo A o) mc ms (kLP ε A o (ad 0 0) σ' kn v)) (hM : ∀ H1, kM ε B bd τ H1 → kMi ε l yX5_verdict wsX5_verdict ({ frames := 6, cells := 0, slots := 0, locals := 140 }) [.ref (bd 0), .int (xs (i + 1))] H1 B 0 0 (fun v9 H' => v9 = vm ∧ kM ε B bd τ' H')) (hk : τ' 35 0 = kn) (hkn : kn ≤ 3) (hv : kn = 0 → vm = v) (hcs : cells + mc ≤ room_1.cells ∧ slots + ms ≤ room_1.slots) (hS : va_S (kHi ε) s.heap H locs) (hl : lv_has ls 8 [(0, .ref b), (1, .ref (ad 0 0)), (2, .ref (bd 0)), (3, .ref o), (4, .ref od), (5, .int (nI i))]) (KK : ∀ (H' : Heap) (locs' : List Loc) (ls' : Array Slot), kLw ε A B o od (ad 0 0) (bd 0) σ' τ' H' → H.size ≤ H'.size → va_S (kHi ε) s.heap H' locs' → lv_has ls' 8 [(0, .ref b), (1, .ref (ad 0 0)), (2, .ref (bd 0)), (3, .ref o), (4, .ref od), (5, .int (nI i))] → W p l e room_1 s m #[Value.ref b] below meth c H' locs' (cells + mc) (slots + ms) Q (F0 m 1640 ls' [])) : W p l e room_1 s m #[Value.ref b] below meth c H locs cells slots Q (F0 m 1206 ls []) := by
  have hx := S.1
  have hb := S.2.1
  have hown : s.vm.findClass RL = some m.cls := S.2.2.2.1
  have hts := S.2.2.2.2
  have hK := hE.1
  have hAb : ∀ q, kHi ε q → kHi ε q := fun _ h => h
  obtain ⟨hA1, hB1, hAB, ⟨hoA, hoB, hoK⟩, ⟨hdA, hdB, hdK⟩, hood⟩ := hap
  have hbA : ¬ kHi ε b := by show ¬ ε.2.2.1 ≤ b; omega
  refine lv_aload_n hx hb dL_law_1206 rfl (lv_at hl 1 rfl) ?_
  refine lv_aload_n hx hb dL_law_1207 rfl (lv_at hl 0 rfl) ?_
  refine lv_iload hx hb dL_law_1208 (lv_at hl 5 rfl) ?_
  refine lv_iconst (v := 1) hx hb dL_law_1210 (by decide) ?_
  refine lv_iadd hx hb dL_law_1211 ?_
  refine kr_top (y := nI (i + 1)) (nI_add i 1) ?_
  refine va_sld hx hb hX hbl hbA hS (vp_in_nI (by omega) (by omega)) dL_law_1212 ?_
  refine kr_top (y := xs (i + 1)) (congrArg xs (nI_clamp (by omega))) ?_
  refine lv_aload_n hx hb dL_law_1213 rfl (lv_at hl 3 rfl) ?_
  refine kgo_i (kc_SW (As := [.ref (ad 0 0), .int (xs (i + 1)), .ref o]) (rest := []) S hE hS hAb hC (vx_cwSW 3 hts gL_law_L_verdict rfl rfl rfl (by decide +kernel) ⟨Nat.le_of_ble_eq_true rfl, Nat.le_of_ble_eq_true rfl⟩) rfl hl.1 rfl (Nat.le_of_ble_eq_true rfl) dL_law_1214 hcs) hS (kAo_hi hA1 hoK) (fun r9 H1 locs hp hz1 hq hS => ?_)
  obtain ⟨e9, ⟨ad', ea, hw⟩, g, hoJ, hg0⟩ := hp
  refine kr_top e9 ?_
  have hm := hm.keep (fun k hk => hq _ (va_at.lt (hm.1 k hk).1) (fun h => h.elim (fun h => hAB _ h (hm.1 k hk).2) (fun h => hoB (h ▸ (hm.1 k hk).2))))
  obtain ⟨gD, hoD⟩ := hoD
  have hoD := va_at.kept hoD (hq od (va_at.lt hoD) (fun h => h.elim hdA (fun h => hood h.symm)))
  clear hq
  refine lv_istore (lv' := [(6, .int (nI kn)), (0, .ref b), (1, .ref (ad 0 0)), (2, .ref (bd 0)), (3, .ref o), (4, .ref od), (5, .int (nI i))]) hx hb dL_law_1217 hl (by decide) rfl (fun ls hl => ?_)
  refine lv_aload_n hx hb dL_law_1219 rfl (lv_at hl 3 rfl) ?_
  refine lv_aload_n hx hb dL_law_1220 rfl (lv_at hl 1 rfl) ?_
  refine lv_iload hx hb dL_law_1221 (lv_at hl 6 rfl) ?_
  refine lv_iconst (v := 1) hx hb dL_law_1223 (by decide) ?_
  refine lv_iadd hx hb dL_law_1224 ?_
  refine kr_top (y := nI (i + 1)) (nI_add i 1) ?_
  refine va_sld hx hb hX hbl hbA hS (vp_in_nI (by omega) (by omega)) dL_law_1225 ?_
  refine kr_top (y := xs (i + 1)) (congrArg xs (nI_clamp (by omega))) ?_
  refine kgo_i (kc_V (As := [.int (xs (i + 1))]) (rest := []) S hE hS hAb (hM _ hm) (cwV 1 hts gL_law_X5_verdict rfl rfl rfl (by decide +kernel) ⟨Nat.le_of_ble_eq_true rfl, Nat.le_of_ble_eq_true rfl⟩) (hm.lv 0 (by decide)) rfl rfl hl.1 rfl (Nat.le_of_ble_eq_true rfl) dL_law_1226 ⟨Nat.le_trans (Nat.le_of_eq (Nat.add_zero _)) hcs.1, Nat.le_trans (Nat.le_of_eq (Nat.add_zero _)) hcs.2⟩) hS hB1 (fun r8 H2 locs hp hz2 hq hS => ?_)
  obtain ⟨e8, hm⟩ := hp
  refine kr_top e8 ?_
  have hw := hw.keep (fun k j hk => hq _ (va_at.lt (hw.1 k j hk).1) (hAB _ (hw.1 k j hk).2))
  have hoJ := va_at.kept hoJ (hq o (va_at.lt hoJ) hoB)
  have hoD := va_at.kept hoD (hq od (va_at.lt hoD) hdB)
  clear hq
  refine lv_istore (lv' := [(7, .int vm), (6, .int (nI kn)), (0, .ref b), (1, .ref (ad 0 0)), (2, .ref (bd 0)), (3, .ref o), (4, .ref od), (5, .int (nI i))]) hx hb dL_law_1229 hl (by decide) rfl (fun ls hl => ?_)
  refine lv_aload_n hx hb dL_law_1231 rfl (lv_at hl 4 rfl) ?_
  refine kgo_pi (v := nI (τ' 35 0)) (kc_V (As := []) (rest := []) S hE hS hAb (cm_thrown ε l hm) (cwV 0 hts gL_law_X5_thrown rfl rfl rfl (by decide +kernel) ⟨Nat.le_of_ble_eq_true rfl, Nat.le_of_ble_eq_true rfl⟩) (hm.lv 0 (by decide)) rfl rfl hl.1 rfl (Nat.le_of_ble_eq_true rfl) dL_law_1232 ⟨Nat.le_trans (Nat.le_of_eq (Nat.add_zero _)) hcs.1, Nat.le_trans (Nat.le_of_eq (Nat.add_zero _)) hcs.2⟩) hS (fun locs hS => ?_)
  refine kr_top (y := nI kn) (by rw [hk]) ?_
  refine lv_iload hx hb dL_law_1235 (lv_at hl 1 rfl) ?_
  refine lv_icmp_eq (tgt := 1242) hx hb dL_law_1237 (by decide) (fun _ => ?_) (fun hc => absurd (rfl) hc)
  refine lv_iload hx hb dL_law_1242 (lv_at hl 1 rfl) ?_
  by_cases hk0 : kn = 0
  · refine lv_if_ne (tgt := 1259) hx hb dL_law_1244 (by decide) (fun hc => absurd (by rw [hk0]; rfl) hc) (fun _ => ?_)
    refine lv_aload_n hx hb dL_law_1247 rfl (lv_at hl 5 rfl) ?_
    refine lv_iconst (v := 0) hx hb dL_law_1248 (by decide) ?_
    refine kr_lld hx hb hK hoJ (j := 0) (by decide) rfl (by decide) (x := v.toInt64) (hg0 hk0) dL_law_1249 ?_
    refine lv_iload hx hb dL_law_1250 (lv_at hl 0 rfl) ?_
    refine kr_top (y := v) (hv hk0) ?_
    refine lv_i2l (v := (v).toInt64) hx hb dL_law_1252 rfl ?_
    refine kr_lcmpE hx hb dL_law_1253 ?_
    refine lv_if_eq (tgt := 1259) hx hb dL_law_1254 (by decide) (fun _ => ?_) (fun hc => absurd (rfl) hc)
    refine lv_goto (tgt := 1640) hx hb dL_law_1259 (by decide) ?_
    exact KK _ _ _ ⟨⟨ad', ea, hw⟩, ⟨bd, rfl, hm⟩, ⟨_, hoJ⟩, ⟨_, hoD⟩⟩ (Nat.le_trans hz1 hz2) hS (lv_sub hl [2, 3, 4, 5, 6, 7] rfl)
  · refine lv_if_ne (tgt := 1259) hx hb dL_law_1244 (by decide) (fun _ => ?_) (fun hc => absurd hc (nI_ne0 (by omega) (by omega)))
    refine lv_goto (tgt := 1640) hx hb dL_law_1259 (by decide) ?_
    exact KK _ _ _ ⟨⟨ad', ea, hw⟩, ⟨bd, rfl, hm⟩, ⟨_, hoJ⟩, ⟨_, hoD⟩⟩ (Nat.le_trans hz1 hz2) hS (lv_sub hl [2, 3, 4, 5, 6, 7] rfl)
set_option maxHeartbeats 4000000 in
set_option maxRecDepth 100000 in
theorem lq_trusted (S : CallFix p m c cL_law 8 s #[Value.ref b] wsL_law RL) (hE : kE ε s) (hX : va_X b L xs s s.heap) (hbl : b < s.heap.size) (hlo : ε.2.2.1 = s.heap.size) (hL : L ≤ 2560) (hi : i + 5 ≤ L) (hap : kAp ε A B o od) (hw : kW ε A ad σ H) (hm : kM ε B bd τ H) (hoJ : ∃ g, kat ε o (kJ ε 1 g) H) (hoD : ∃ g, kat ε od (kD ε 1 g) H) {v vm : Int32} {mc ms kn : Nat} (hC : kMi ε l yL_trusted wsL_trusted ({ frames := 11, cells := mc, slots := ms, locals := 310 }) [.ref (ad 0 0), .int (xs (i + 1)), .ref o] H (kAo A o) mc ms (kLP ε A o (ad 0 0) σ' kn v)) (hM : ∀ H1, kM ε B bd τ H1 → kMi ε l yX5_trusted wsX5_trusted ({ frames := 6, cells := 0, slots := 0, locals := 140 }) [.ref (bd 0), .int (xs (i + 1))] H1 B 0 0 (fun v9 H' => v9 = vm ∧ kM ε B bd τ' H')) (hk : τ' 35 0 = kn) (hkn : kn ≤ 3) (hv : kn = 0 → vm = v) (hcs : cells + mc ≤ room_1.cells ∧ slots + ms ≤ room_1.slots) (hS : va_S (kHi ε) s.heap H locs) (hl : lv_has ls 8 [(0, .ref b), (1, .ref (ad 0 0)), (2, .ref (bd 0)), (3, .ref o), (4, .ref od), (5, .int (nI i))]) (KK : ∀ (H' : Heap) (locs' : List Loc) (ls' : Array Slot), kLw ε A B o od (ad 0 0) (bd 0) σ' τ' H' → H.size ≤ H'.size → va_S (kHi ε) s.heap H' locs' → lv_has ls' 8 [(0, .ref b), (1, .ref (ad 0 0)), (2, .ref (bd 0)), (3, .ref o), (4, .ref od), (5, .int (nI i))] → W p l e room_1 s m #[Value.ref b] below meth c H' locs' (cells + mc) (slots + ms) Q (F0 m 1640 ls' [])) : W p l e room_1 s m #[Value.ref b] below meth c H locs cells slots Q (F0 m 1262 ls []) := by
  have hx := S.1
  have hb := S.2.1
  have hown : s.vm.findClass RL = some m.cls := S.2.2.2.1
  have hts := S.2.2.2.2
  have hK := hE.1
  have hAb : ∀ q, kHi ε q → kHi ε q := fun _ h => h
  obtain ⟨hA1, hB1, hAB, ⟨hoA, hoB, hoK⟩, ⟨hdA, hdB, hdK⟩, hood⟩ := hap
  have hbA : ¬ kHi ε b := by show ¬ ε.2.2.1 ≤ b; omega
  refine lv_aload_n hx hb dL_law_1262 rfl (lv_at hl 1 rfl) ?_
  refine lv_aload_n hx hb dL_law_1263 rfl (lv_at hl 0 rfl) ?_
  refine lv_iload hx hb dL_law_1264 (lv_at hl 5 rfl) ?_
  refine lv_iconst (v := 1) hx hb dL_law_1266 (by decide) ?_
  refine lv_iadd hx hb dL_law_1267 ?_
  refine kr_top (y := nI (i + 1)) (nI_add i 1) ?_
  refine va_sld hx hb hX hbl hbA hS (vp_in_nI (by omega) (by omega)) dL_law_1268 ?_
  refine kr_top (y := xs (i + 1)) (congrArg xs (nI_clamp (by omega))) ?_
  refine lv_aload_n hx hb dL_law_1269 rfl (lv_at hl 3 rfl) ?_
  refine kgo_i (kc_SW (As := [.ref (ad 0 0), .int (xs (i + 1)), .ref o]) (rest := []) S hE hS hAb hC (vx_cwSW 3 hts gL_law_L_trusted rfl rfl rfl (by decide +kernel) ⟨Nat.le_of_ble_eq_true rfl, Nat.le_of_ble_eq_true rfl⟩) rfl hl.1 rfl (Nat.le_of_ble_eq_true rfl) dL_law_1270 hcs) hS (kAo_hi hA1 hoK) (fun r9 H1 locs hp hz1 hq hS => ?_)
  obtain ⟨e9, ⟨ad', ea, hw⟩, g, hoJ, hg0⟩ := hp
  refine kr_top e9 ?_
  have hm := hm.keep (fun k hk => hq _ (va_at.lt (hm.1 k hk).1) (fun h => h.elim (fun h => hAB _ h (hm.1 k hk).2) (fun h => hoB (h ▸ (hm.1 k hk).2))))
  obtain ⟨gD, hoD⟩ := hoD
  have hoD := va_at.kept hoD (hq od (va_at.lt hoD) (fun h => h.elim hdA (fun h => hood h.symm)))
  clear hq
  refine lv_istore (lv' := [(6, .int (nI kn)), (0, .ref b), (1, .ref (ad 0 0)), (2, .ref (bd 0)), (3, .ref o), (4, .ref od), (5, .int (nI i))]) hx hb dL_law_1273 hl (by decide) rfl (fun ls hl => ?_)
  refine lv_aload_n hx hb dL_law_1275 rfl (lv_at hl 3 rfl) ?_
  refine lv_aload_n hx hb dL_law_1276 rfl (lv_at hl 1 rfl) ?_
  refine lv_iload hx hb dL_law_1277 (lv_at hl 6 rfl) ?_
  refine lv_iconst (v := 1) hx hb dL_law_1279 (by decide) ?_
  refine lv_iadd hx hb dL_law_1280 ?_
  refine kr_top (y := nI (i + 1)) (nI_add i 1) ?_
  refine va_sld hx hb hX hbl hbA hS (vp_in_nI (by omega) (by omega)) dL_law_1281 ?_
  refine kr_top (y := xs (i + 1)) (congrArg xs (nI_clamp (by omega))) ?_
  refine kgo_i (kc_V (As := [.int (xs (i + 1))]) (rest := []) S hE hS hAb (hM _ hm) (cwV 1 hts gL_law_X5_trusted rfl rfl rfl (by decide +kernel) ⟨Nat.le_of_ble_eq_true rfl, Nat.le_of_ble_eq_true rfl⟩) (hm.lv 0 (by decide)) rfl rfl hl.1 rfl (Nat.le_of_ble_eq_true rfl) dL_law_1282 ⟨Nat.le_trans (Nat.le_of_eq (Nat.add_zero _)) hcs.1, Nat.le_trans (Nat.le_of_eq (Nat.add_zero _)) hcs.2⟩) hS hB1 (fun r8 H2 locs hp hz2 hq hS => ?_)
  obtain ⟨e8, hm⟩ := hp
  refine kr_top e8 ?_
  have hw := hw.keep (fun k j hk => hq _ (va_at.lt (hw.1 k j hk).1) (hAB _ (hw.1 k j hk).2))
  have hoJ := va_at.kept hoJ (hq o (va_at.lt hoJ) hoB)
  have hoD := va_at.kept hoD (hq od (va_at.lt hoD) hdB)
  clear hq
  refine lv_istore (lv' := [(7, .int vm), (6, .int (nI kn)), (0, .ref b), (1, .ref (ad 0 0)), (2, .ref (bd 0)), (3, .ref o), (4, .ref od), (5, .int (nI i))]) hx hb dL_law_1285 hl (by decide) rfl (fun ls hl => ?_)
  refine lv_aload_n hx hb dL_law_1287 rfl (lv_at hl 4 rfl) ?_
  refine kgo_pi (v := nI (τ' 35 0)) (kc_V (As := []) (rest := []) S hE hS hAb (cm_thrown ε l hm) (cwV 0 hts gL_law_X5_thrown rfl rfl rfl (by decide +kernel) ⟨Nat.le_of_ble_eq_true rfl, Nat.le_of_ble_eq_true rfl⟩) (hm.lv 0 (by decide)) rfl rfl hl.1 rfl (Nat.le_of_ble_eq_true rfl) dL_law_1288 ⟨Nat.le_trans (Nat.le_of_eq (Nat.add_zero _)) hcs.1, Nat.le_trans (Nat.le_of_eq (Nat.add_zero _)) hcs.2⟩) hS (fun locs hS => ?_)
  refine kr_top (y := nI kn) (by rw [hk]) ?_
  refine lv_iload hx hb dL_law_1291 (lv_at hl 1 rfl) ?_
  refine lv_icmp_eq (tgt := 1298) hx hb dL_law_1293 (by decide) (fun _ => ?_) (fun hc => absurd (rfl) hc)
  refine lv_iload hx hb dL_law_1298 (lv_at hl 1 rfl) ?_
  by_cases hk0 : kn = 0
  · refine lv_if_ne (tgt := 1315) hx hb dL_law_1300 (by decide) (fun hc => absurd (by rw [hk0]; rfl) hc) (fun _ => ?_)
    refine lv_aload_n hx hb dL_law_1303 rfl (lv_at hl 5 rfl) ?_
    refine lv_iconst (v := 0) hx hb dL_law_1304 (by decide) ?_
    refine kr_lld hx hb hK hoJ (j := 0) (by decide) rfl (by decide) (x := v.toInt64) (hg0 hk0) dL_law_1305 ?_
    refine lv_iload hx hb dL_law_1306 (lv_at hl 0 rfl) ?_
    refine kr_top (y := v) (hv hk0) ?_
    refine lv_i2l (v := (v).toInt64) hx hb dL_law_1308 rfl ?_
    refine kr_lcmpE hx hb dL_law_1309 ?_
    refine lv_if_eq (tgt := 1315) hx hb dL_law_1310 (by decide) (fun _ => ?_) (fun hc => absurd (rfl) hc)
    refine lv_goto (tgt := 1640) hx hb dL_law_1315 (by decide) ?_
    exact KK _ _ _ ⟨⟨ad', ea, hw⟩, ⟨bd, rfl, hm⟩, ⟨_, hoJ⟩, ⟨_, hoD⟩⟩ (Nat.le_trans hz1 hz2) hS (lv_sub hl [2, 3, 4, 5, 6, 7] rfl)
  · refine lv_if_ne (tgt := 1315) hx hb dL_law_1300 (by decide) (fun _ => ?_) (fun hc => absurd hc (nI_ne0 (by omega) (by omega)))
    refine lv_goto (tgt := 1640) hx hb dL_law_1315 (by decide) ?_
    exact KK _ _ _ ⟨⟨ad', ea, hw⟩, ⟨bd, rfl, hm⟩, ⟨_, hoJ⟩, ⟨_, hoD⟩⟩ (Nat.le_trans hz1 hz2) hS (lv_sub hl [2, 3, 4, 5, 6, 7] rfl)
set_option maxHeartbeats 4000000 in
set_option maxRecDepth 100000 in
theorem lq_alarms (S : CallFix p m c cL_law 8 s #[Value.ref b] wsL_law RL) (hE : kE ε s) (hX : va_X b L xs s s.heap) (hbl : b < s.heap.size) (hlo : ε.2.2.1 = s.heap.size) (hL : L ≤ 2560) (hi : i + 5 ≤ L) (hap : kAp ε A B o od) (hw : kW ε A ad σ H) (hm : kM ε B bd τ H) (hoJ : ∃ g, kat ε o (kJ ε 1 g) H) (hoD : ∃ g, kat ε od (kD ε 1 g) H) {v vm : Int32} (hC : kPi ε l yX4_alarms wsX4_alarms ({ frames := 5, cells := 0, slots := 0, locals := 120 }) [.ref (ad 0 0)] H v) (hM : ∀ H1, kM ε B bd τ H1 → kMi ε l yX5_alarms wsX5_alarms ({ frames := 6, cells := 0, slots := 0, locals := 140 }) [.ref (bd 0)] H1 B 0 0 (fun v9 H' => v9 = vm ∧ kM ε B bd τ' H')) (hv : vm = v) (es : σ' = σ) (hcs : cells ≤ room_1.cells ∧ slots ≤ room_1.slots) (hS : va_S (kHi ε) s.heap H locs) (hl : lv_has ls 8 [(0, .ref b), (1, .ref (ad 0 0)), (2, .ref (bd 0)), (3, .ref o), (4, .ref od), (5, .int (nI i))]) (KK : ∀ (H' : Heap) (locs' : List Loc) (ls' : Array Slot), kLw ε A B o od (ad 0 0) (bd 0) σ' τ' H' → H.size ≤ H'.size → va_S (kHi ε) s.heap H' locs' → lv_has ls' 8 [(0, .ref b), (1, .ref (ad 0 0)), (2, .ref (bd 0)), (3, .ref o), (4, .ref od), (5, .int (nI i))] → W p l e room_1 s m #[Value.ref b] below meth c H' locs' (cells) (slots) Q (F0 m 1640 ls' [])) : W p l e room_1 s m #[Value.ref b] below meth c H locs cells slots Q (F0 m 1318 ls []) := by
  have hx := S.1
  have hb := S.2.1
  have hown : s.vm.findClass RL = some m.cls := S.2.2.2.1
  have hts := S.2.2.2.2
  have hK := hE.1
  have hAb : ∀ q, kHi ε q → kHi ε q := fun _ h => h
  obtain ⟨hA1, hB1, hAB, ⟨hoA, hoB, hoK⟩, ⟨hdA, hdB, hdK⟩, hood⟩ := hap
  have hbA : ¬ kHi ε b := by show ¬ ε.2.2.1 ≤ b; omega
  subst es
  refine lv_aload_n hx hb dL_law_1318 rfl (lv_at hl 1 rfl) ?_
  refine kgo_pi (v := v) (kc_V (As := []) (rest := []) S hE hS hAb (hC) (cwV 0 hts gL_law_X4_alarms rfl rfl rfl (by decide +kernel) ⟨Nat.le_of_ble_eq_true rfl, Nat.le_of_ble_eq_true rfl⟩) (hw.lv 0 0 (rfl : (0 : Nat) = 0)) rfl rfl hl.1 rfl (Nat.le_of_ble_eq_true rfl) dL_law_1319 ⟨Nat.le_trans (Nat.le_of_eq (Nat.add_zero _)) hcs.1, Nat.le_trans (Nat.le_of_eq (Nat.add_zero _)) hcs.2⟩) hS (fun locs hS => ?_)
  refine lv_aload_n hx hb dL_law_1322 rfl (lv_at hl 2 rfl) ?_
  refine kgo_i (kc_V (As := []) (rest := [.int v]) S hE hS hAb (hM _ hm) (cwV 0 hts gL_law_X5_alarms rfl rfl rfl (by decide +kernel) ⟨Nat.le_of_ble_eq_true rfl, Nat.le_of_ble_eq_true rfl⟩) (hm.lv 0 (by decide)) rfl rfl hl.1 rfl (Nat.le_of_ble_eq_true rfl) dL_law_1323 ⟨Nat.le_trans (Nat.le_of_eq (Nat.add_zero _)) hcs.1, Nat.le_trans (Nat.le_of_eq (Nat.add_zero _)) hcs.2⟩) hS hB1 (fun r8 H2 locs hp hz2 hq hS => ?_)
  obtain ⟨e8, hm⟩ := hp
  refine kr_top (e8.trans hv) ?_
  have hw := hw.keep (fun k j hk => hq _ (va_at.lt (hw.1 k j hk).1) (hAB _ (hw.1 k j hk).2))
  obtain ⟨gJ, hoJ⟩ := hoJ
  obtain ⟨gD, hoD⟩ := hoD
  have hoJ := va_at.kept hoJ (hq o (va_at.lt hoJ) hoB)
  have hoD := va_at.kept hoD (hq od (va_at.lt hoD) hdB)
  refine lv_icmp_eq (tgt := 1640) hx hb dL_law_1326 (by decide) (fun _ => ?_) (fun hc => absurd (rfl) hc)
  exact KK _ _ _ ⟨⟨ad, rfl, hw⟩, ⟨bd, rfl, hm⟩, ⟨_, hoJ⟩, ⟨_, hoD⟩⟩ hz2 hS (lv_sub hl [0, 1, 2, 3, 4, 5] rfl)
set_option maxHeartbeats 4000000 in
set_option maxRecDepth 100000 in
theorem lq_hasAlarm (S : CallFix p m c cL_law 8 s #[Value.ref b] wsL_law RL) (hE : kE ε s) (hX : va_X b L xs s s.heap) (hbl : b < s.heap.size) (hlo : ε.2.2.1 = s.heap.size) (hL : L ≤ 2560) (hi : i + 5 ≤ L) (hap : kAp ε A B o od) (hw : kW ε A ad σ H) (hm : kM ε B bd τ H) (hoJ : ∃ g, kat ε o (kJ ε 1 g) H) (hoD : ∃ g, kat ε od (kD ε 1 g) H) {v vm : Int32} {mc ms kn : Nat} (hC : kMi ε l yL_hasAlarm wsL_hasAlarm ({ frames := 11, cells := mc, slots := ms, locals := 310 }) [.ref (ad 0 0), .int (xs (i + 1)), .ref o] H (kAo A o) mc ms (kLP ε A o (ad 0 0) σ' kn v)) (hM : ∀ H1, kM ε B bd τ H1 → kMi ε l yX5_hasAlarm wsX5_hasAlarm ({ frames := 6, cells := 0, slots := 0, locals := 140 }) [.ref (bd 0), .int (xs (i + 1))] H1 B 0 0 (fun v9 H' => v9 = vm ∧ kM ε B bd τ' H')) (hk : τ' 35 0 = kn) (hkn : kn ≤ 3) (hv : kn = 0 → vm = v) (h01 : kn = 0 → v = 0 ∨ v = 1) (hcs : cells + mc ≤ room_1.cells ∧ slots + ms ≤ room_1.slots) (hS : va_S (kHi ε) s.heap H locs) (hl : lv_has ls 8 [(0, .ref b), (1, .ref (ad 0 0)), (2, .ref (bd 0)), (3, .ref o), (4, .ref od), (5, .int (nI i))]) (KK : ∀ (H' : Heap) (locs' : List Loc) (ls' : Array Slot), kLw ε A B o od (ad 0 0) (bd 0) σ' τ' H' → H.size ≤ H'.size → va_S (kHi ε) s.heap H' locs' → lv_has ls' 8 [(0, .ref b), (1, .ref (ad 0 0)), (2, .ref (bd 0)), (3, .ref o), (4, .ref od), (5, .int (nI i))] → W p l e room_1 s m #[Value.ref b] below meth c H' locs' (cells + mc) (slots + ms) Q (F0 m 1640 ls' [])) : W p l e room_1 s m #[Value.ref b] below meth c H locs cells slots Q (F0 m 1331 ls []) := by
  have hx := S.1
  have hb := S.2.1
  have hown : s.vm.findClass RL = some m.cls := S.2.2.2.1
  have hts := S.2.2.2.2
  have hK := hE.1
  have hAb : ∀ q, kHi ε q → kHi ε q := fun _ h => h
  obtain ⟨hA1, hB1, hAB, ⟨hoA, hoB, hoK⟩, ⟨hdA, hdB, hdK⟩, hood⟩ := hap
  have hbA : ¬ kHi ε b := by show ¬ ε.2.2.1 ≤ b; omega
  refine lv_aload_n hx hb dL_law_1331 rfl (lv_at hl 1 rfl) ?_
  refine lv_aload_n hx hb dL_law_1332 rfl (lv_at hl 0 rfl) ?_
  refine lv_iload hx hb dL_law_1333 (lv_at hl 5 rfl) ?_
  refine lv_iconst (v := 1) hx hb dL_law_1335 (by decide) ?_
  refine lv_iadd hx hb dL_law_1336 ?_
  refine kr_top (y := nI (i + 1)) (nI_add i 1) ?_
  refine va_sld hx hb hX hbl hbA hS (vp_in_nI (by omega) (by omega)) dL_law_1337 ?_
  refine kr_top (y := xs (i + 1)) (congrArg xs (nI_clamp (by omega))) ?_
  refine lv_aload_n hx hb dL_law_1338 rfl (lv_at hl 3 rfl) ?_
  refine kgo_i (kc_SW (As := [.ref (ad 0 0), .int (xs (i + 1)), .ref o]) (rest := []) S hE hS hAb hC (vx_cwSW 3 hts gL_law_L_hasAlarm rfl rfl rfl (by decide +kernel) ⟨Nat.le_of_ble_eq_true rfl, Nat.le_of_ble_eq_true rfl⟩) rfl hl.1 rfl (Nat.le_of_ble_eq_true rfl) dL_law_1339 hcs) hS (kAo_hi hA1 hoK) (fun r9 H1 locs hp hz1 hq hS => ?_)
  obtain ⟨e9, ⟨ad', ea, hw⟩, g, hoJ, hg0⟩ := hp
  refine kr_top e9 ?_
  have hm := hm.keep (fun k hk => hq _ (va_at.lt (hm.1 k hk).1) (fun h => h.elim (fun h => hAB _ h (hm.1 k hk).2) (fun h => hoB (h ▸ (hm.1 k hk).2))))
  obtain ⟨gD, hoD⟩ := hoD
  have hoD := va_at.kept hoD (hq od (va_at.lt hoD) (fun h => h.elim hdA (fun h => hood h.symm)))
  clear hq
  refine lv_istore (lv' := [(6, .int (nI kn)), (0, .ref b), (1, .ref (ad 0 0)), (2, .ref (bd 0)), (3, .ref o), (4, .ref od), (5, .int (nI i))]) hx hb dL_law_1342 hl (by decide) rfl (fun ls hl => ?_)
  refine lv_aload_n hx hb dL_law_1344 rfl (lv_at hl 3 rfl) ?_
  refine lv_aload_n hx hb dL_law_1345 rfl (lv_at hl 1 rfl) ?_
  refine lv_iload hx hb dL_law_1346 (lv_at hl 6 rfl) ?_
  refine lv_iconst (v := 1) hx hb dL_law_1348 (by decide) ?_
  refine lv_iadd hx hb dL_law_1349 ?_
  refine kr_top (y := nI (i + 1)) (nI_add i 1) ?_
  refine va_sld hx hb hX hbl hbA hS (vp_in_nI (by omega) (by omega)) dL_law_1350 ?_
  refine kr_top (y := xs (i + 1)) (congrArg xs (nI_clamp (by omega))) ?_
  refine kgo_i (kc_V (As := [.int (xs (i + 1))]) (rest := []) S hE hS hAb (hM _ hm) (cwV 1 hts gL_law_X5_hasAlarm rfl rfl rfl (by decide +kernel) ⟨Nat.le_of_ble_eq_true rfl, Nat.le_of_ble_eq_true rfl⟩) (hm.lv 0 (by decide)) rfl rfl hl.1 rfl (Nat.le_of_ble_eq_true rfl) dL_law_1351 ⟨Nat.le_trans (Nat.le_of_eq (Nat.add_zero _)) hcs.1, Nat.le_trans (Nat.le_of_eq (Nat.add_zero _)) hcs.2⟩) hS hB1 (fun r8 H2 locs hp hz2 hq hS => ?_)
  obtain ⟨e8, hm⟩ := hp
  refine kr_top e8 ?_
  have hw := hw.keep (fun k j hk => hq _ (va_at.lt (hw.1 k j hk).1) (hAB _ (hw.1 k j hk).2))
  have hoJ := va_at.kept hoJ (hq o (va_at.lt hoJ) hoB)
  have hoD := va_at.kept hoD (hq od (va_at.lt hoD) hdB)
  clear hq
  refine lv_istore (lv' := [(7, .int vm), (6, .int (nI kn)), (0, .ref b), (1, .ref (ad 0 0)), (2, .ref (bd 0)), (3, .ref o), (4, .ref od), (5, .int (nI i))]) hx hb dL_law_1354 hl (by decide) rfl (fun ls hl => ?_)
  refine lv_aload_n hx hb dL_law_1356 rfl (lv_at hl 4 rfl) ?_
  refine kgo_pi (v := nI (τ' 35 0)) (kc_V (As := []) (rest := []) S hE hS hAb (cm_thrown ε l hm) (cwV 0 hts gL_law_X5_thrown rfl rfl rfl (by decide +kernel) ⟨Nat.le_of_ble_eq_true rfl, Nat.le_of_ble_eq_true rfl⟩) (hm.lv 0 (by decide)) rfl rfl hl.1 rfl (Nat.le_of_ble_eq_true rfl) dL_law_1357 ⟨Nat.le_trans (Nat.le_of_eq (Nat.add_zero _)) hcs.1, Nat.le_trans (Nat.le_of_eq (Nat.add_zero _)) hcs.2⟩) hS (fun locs hS => ?_)
  refine kr_top (y := nI kn) (by rw [hk]) ?_
  refine lv_iload hx hb dL_law_1360 (lv_at hl 1 rfl) ?_
  refine lv_icmp_eq (tgt := 1367) hx hb dL_law_1362 (by decide) (fun _ => ?_) (fun hc => absurd (rfl) hc)
  refine lv_iload hx hb dL_law_1367 (lv_at hl 1 rfl) ?_
  by_cases hk0 : kn = 0
  · refine lv_if_ne (tgt := 1391) hx hb dL_law_1369 (by decide) (fun hc => absurd (by rw [hk0]; rfl) hc) (fun _ => ?_)
    refine lv_aload_n hx hb dL_law_1372 rfl (lv_at hl 5 rfl) ?_
    refine lv_iconst (v := 0) hx hb dL_law_1373 (by decide) ?_
    rcases h01 hk0 with h01 | h01
    · refine kr_lld hx hb hK hoJ (j := 0) (by decide) rfl (by decide) (x := 0) (by rw [hg0 hk0, h01]; rfl) dL_law_1374 ?_
      refine lv_iload hx hb dL_law_1375 (lv_at hl 0 rfl) ?_
      refine kr_top (y := 0) (by rw [hv hk0, h01]) ?_
      refine lv_if_eq (tgt := 1384) hx hb dL_law_1377 (by decide) (fun _ => ?_) (fun hc => absurd (rfl) hc)
      refine lv_lconst (v := 0) hx hb dL_law_1384 (by decide) ?_
      refine kr_lcmpE hx hb dL_law_1385 ?_
      refine lv_if_eq (tgt := 1391) hx hb dL_law_1386 (by decide) (fun _ => ?_) (fun hc => absurd (rfl) hc)
      refine lv_goto (tgt := 1640) hx hb dL_law_1391 (by decide) ?_
      exact KK _ _ _ ⟨⟨ad', ea, hw⟩, ⟨bd, rfl, hm⟩, ⟨_, hoJ⟩, ⟨_, hoD⟩⟩ (Nat.le_trans hz1 hz2) hS (lv_sub hl [2, 3, 4, 5, 6, 7] rfl)
    · refine kr_lld hx hb hK hoJ (j := 0) (by decide) rfl (by decide) (x := 1) (by rw [hg0 hk0, h01]; rfl) dL_law_1374 ?_
      refine lv_iload hx hb dL_law_1375 (lv_at hl 0 rfl) ?_
      refine kr_top (y := 1) (by rw [hv hk0, h01]) ?_
      refine lv_if_eq (tgt := 1384) hx hb dL_law_1377 (by decide) (fun hc => absurd hc (by decide)) (fun _ => ?_)
      refine lv_lconst (v := 1) hx hb dL_law_1380 (by decide) ?_
      refine lv_goto (tgt := 1385) hx hb dL_law_1381 (by decide) ?_
      refine kr_lcmpE hx hb dL_law_1385 ?_
      refine lv_if_eq (tgt := 1391) hx hb dL_law_1386 (by decide) (fun _ => ?_) (fun hc => absurd (rfl) hc)
      refine lv_goto (tgt := 1640) hx hb dL_law_1391 (by decide) ?_
      exact KK _ _ _ ⟨⟨ad', ea, hw⟩, ⟨bd, rfl, hm⟩, ⟨_, hoJ⟩, ⟨_, hoD⟩⟩ (Nat.le_trans hz1 hz2) hS (lv_sub hl [2, 3, 4, 5, 6, 7] rfl)
  · refine lv_if_ne (tgt := 1391) hx hb dL_law_1369 (by decide) (fun _ => ?_) (fun hc => absurd hc (nI_ne0 (by omega) (by omega)))
    refine lv_goto (tgt := 1640) hx hb dL_law_1391 (by decide) ?_
    exact KK _ _ _ ⟨⟨ad', ea, hw⟩, ⟨bd, rfl, hm⟩, ⟨_, hoJ⟩, ⟨_, hoD⟩⟩ (Nat.le_trans hz1 hz2) hS (lv_sub hl [2, 3, 4, 5, 6, 7] rfl)
set_option maxHeartbeats 4000000 in
set_option maxRecDepth 100000 in
theorem lq_alarmCheck (S : CallFix p m c cL_law 8 s #[Value.ref b] wsL_law RL) (hE : kE ε s) (hX : va_X b L xs s s.heap) (hbl : b < s.heap.size) (hlo : ε.2.2.1 = s.heap.size) (hL : L ≤ 2560) (hi : i + 5 ≤ L) (hap : kAp ε A B o od) (hw : kW ε A ad σ H) (hm : kM ε B bd τ H) (hoJ : ∃ g, kat ε o (kJ ε 1 g) H) (hoD : ∃ g, kat ε od (kD ε 1 g) H) {v vm : Int32} {mc ms kn : Nat} (hC : kMi ε l yL_alarmCheck wsL_alarmCheck ({ frames := 11, cells := mc, slots := ms, locals := 310 }) [.ref (ad 0 0), .int (xs (i + 1)), .ref o] H (kAo A o) mc ms (kLP ε A o (ad 0 0) σ' kn v)) (hM : ∀ H1, kM ε B bd τ H1 → kMi ε l yX5_alarmCheck wsX5_alarmCheck ({ frames := 6, cells := 0, slots := 0, locals := 140 }) [.ref (bd 0), .int (xs (i + 1))] H1 B 0 0 (fun v9 H' => v9 = vm ∧ kM ε B bd τ' H')) (hk : τ' 35 0 = kn) (hkn : kn ≤ 3) (hv : kn = 0 → vm = v) (hcs : cells + mc ≤ room_1.cells ∧ slots + ms ≤ room_1.slots) (hS : va_S (kHi ε) s.heap H locs) (hl : lv_has ls 8 [(0, .ref b), (1, .ref (ad 0 0)), (2, .ref (bd 0)), (3, .ref o), (4, .ref od), (5, .int (nI i))]) (KK : ∀ (H' : Heap) (locs' : List Loc) (ls' : Array Slot), kLw ε A B o od (ad 0 0) (bd 0) σ' τ' H' → H.size ≤ H'.size → va_S (kHi ε) s.heap H' locs' → lv_has ls' 8 [(0, .ref b), (1, .ref (ad 0 0)), (2, .ref (bd 0)), (3, .ref o), (4, .ref od), (5, .int (nI i))] → W p l e room_1 s m #[Value.ref b] below meth c H' locs' (cells + mc) (slots + ms) Q (F0 m 1640 ls' [])) : W p l e room_1 s m #[Value.ref b] below meth c H locs cells slots Q (F0 m 1394 ls []) := by
  have hx := S.1
  have hb := S.2.1
  have hown : s.vm.findClass RL = some m.cls := S.2.2.2.1
  have hts := S.2.2.2.2
  have hK := hE.1
  have hAb : ∀ q, kHi ε q → kHi ε q := fun _ h => h
  obtain ⟨hA1, hB1, hAB, ⟨hoA, hoB, hoK⟩, ⟨hdA, hdB, hdK⟩, hood⟩ := hap
  have hbA : ¬ kHi ε b := by show ¬ ε.2.2.1 ≤ b; omega
  refine lv_aload_n hx hb dL_law_1394 rfl (lv_at hl 1 rfl) ?_
  refine lv_aload_n hx hb dL_law_1395 rfl (lv_at hl 0 rfl) ?_
  refine lv_iload hx hb dL_law_1396 (lv_at hl 5 rfl) ?_
  refine lv_iconst (v := 1) hx hb dL_law_1398 (by decide) ?_
  refine lv_iadd hx hb dL_law_1399 ?_
  refine kr_top (y := nI (i + 1)) (nI_add i 1) ?_
  refine va_sld hx hb hX hbl hbA hS (vp_in_nI (by omega) (by omega)) dL_law_1400 ?_
  refine kr_top (y := xs (i + 1)) (congrArg xs (nI_clamp (by omega))) ?_
  refine lv_aload_n hx hb dL_law_1401 rfl (lv_at hl 3 rfl) ?_
  refine kgo_i (kc_SW (As := [.ref (ad 0 0), .int (xs (i + 1)), .ref o]) (rest := []) S hE hS hAb hC (vx_cwSW 3 hts gL_law_L_alarmCheck rfl rfl rfl (by decide +kernel) ⟨Nat.le_of_ble_eq_true rfl, Nat.le_of_ble_eq_true rfl⟩) rfl hl.1 rfl (Nat.le_of_ble_eq_true rfl) dL_law_1402 hcs) hS (kAo_hi hA1 hoK) (fun r9 H1 locs hp hz1 hq hS => ?_)
  obtain ⟨e9, ⟨ad', ea, hw⟩, g, hoJ, hg0⟩ := hp
  refine kr_top e9 ?_
  have hm := hm.keep (fun k hk => hq _ (va_at.lt (hm.1 k hk).1) (fun h => h.elim (fun h => hAB _ h (hm.1 k hk).2) (fun h => hoB (h ▸ (hm.1 k hk).2))))
  obtain ⟨gD, hoD⟩ := hoD
  have hoD := va_at.kept hoD (hq od (va_at.lt hoD) (fun h => h.elim hdA (fun h => hood h.symm)))
  clear hq
  refine lv_istore (lv' := [(6, .int (nI kn)), (0, .ref b), (1, .ref (ad 0 0)), (2, .ref (bd 0)), (3, .ref o), (4, .ref od), (5, .int (nI i))]) hx hb dL_law_1405 hl (by decide) rfl (fun ls hl => ?_)
  refine lv_aload_n hx hb dL_law_1407 rfl (lv_at hl 3 rfl) ?_
  refine lv_aload_n hx hb dL_law_1408 rfl (lv_at hl 1 rfl) ?_
  refine lv_iload hx hb dL_law_1409 (lv_at hl 6 rfl) ?_
  refine lv_iconst (v := 1) hx hb dL_law_1411 (by decide) ?_
  refine lv_iadd hx hb dL_law_1412 ?_
  refine kr_top (y := nI (i + 1)) (nI_add i 1) ?_
  refine va_sld hx hb hX hbl hbA hS (vp_in_nI (by omega) (by omega)) dL_law_1413 ?_
  refine kr_top (y := xs (i + 1)) (congrArg xs (nI_clamp (by omega))) ?_
  refine kgo_i (kc_V (As := [.int (xs (i + 1))]) (rest := []) S hE hS hAb (hM _ hm) (cwV 1 hts gL_law_X5_alarmCheck rfl rfl rfl (by decide +kernel) ⟨Nat.le_of_ble_eq_true rfl, Nat.le_of_ble_eq_true rfl⟩) (hm.lv 0 (by decide)) rfl rfl hl.1 rfl (Nat.le_of_ble_eq_true rfl) dL_law_1414 ⟨Nat.le_trans (Nat.le_of_eq (Nat.add_zero _)) hcs.1, Nat.le_trans (Nat.le_of_eq (Nat.add_zero _)) hcs.2⟩) hS hB1 (fun r8 H2 locs hp hz2 hq hS => ?_)
  obtain ⟨e8, hm⟩ := hp
  refine kr_top e8 ?_
  have hw := hw.keep (fun k j hk => hq _ (va_at.lt (hw.1 k j hk).1) (hAB _ (hw.1 k j hk).2))
  have hoJ := va_at.kept hoJ (hq o (va_at.lt hoJ) hoB)
  have hoD := va_at.kept hoD (hq od (va_at.lt hoD) hdB)
  clear hq
  refine lv_istore (lv' := [(7, .int vm), (6, .int (nI kn)), (0, .ref b), (1, .ref (ad 0 0)), (2, .ref (bd 0)), (3, .ref o), (4, .ref od), (5, .int (nI i))]) hx hb dL_law_1417 hl (by decide) rfl (fun ls hl => ?_)
  refine lv_aload_n hx hb dL_law_1419 rfl (lv_at hl 4 rfl) ?_
  refine kgo_pi (v := nI (τ' 35 0)) (kc_V (As := []) (rest := []) S hE hS hAb (cm_thrown ε l hm) (cwV 0 hts gL_law_X5_thrown rfl rfl rfl (by decide +kernel) ⟨Nat.le_of_ble_eq_true rfl, Nat.le_of_ble_eq_true rfl⟩) (hm.lv 0 (by decide)) rfl rfl hl.1 rfl (Nat.le_of_ble_eq_true rfl) dL_law_1420 ⟨Nat.le_trans (Nat.le_of_eq (Nat.add_zero _)) hcs.1, Nat.le_trans (Nat.le_of_eq (Nat.add_zero _)) hcs.2⟩) hS (fun locs hS => ?_)
  refine kr_top (y := nI kn) (by rw [hk]) ?_
  refine lv_iload hx hb dL_law_1423 (lv_at hl 1 rfl) ?_
  refine lv_icmp_eq (tgt := 1430) hx hb dL_law_1425 (by decide) (fun _ => ?_) (fun hc => absurd (rfl) hc)
  refine lv_iload hx hb dL_law_1430 (lv_at hl 1 rfl) ?_
  by_cases hk0 : kn = 0
  · refine lv_if_ne (tgt := 1447) hx hb dL_law_1432 (by decide) (fun hc => absurd (by rw [hk0]; rfl) hc) (fun _ => ?_)
    refine lv_aload_n hx hb dL_law_1435 rfl (lv_at hl 5 rfl) ?_
    refine lv_iconst (v := 0) hx hb dL_law_1436 (by decide) ?_
    refine kr_lld hx hb hK hoJ (j := 0) (by decide) rfl (by decide) (x := v.toInt64) (hg0 hk0) dL_law_1437 ?_
    refine lv_iload hx hb dL_law_1438 (lv_at hl 0 rfl) ?_
    refine kr_top (y := v) (hv hk0) ?_
    refine lv_i2l (v := (v).toInt64) hx hb dL_law_1440 rfl ?_
    refine kr_lcmpE hx hb dL_law_1441 ?_
    refine lv_if_eq (tgt := 1447) hx hb dL_law_1442 (by decide) (fun _ => ?_) (fun hc => absurd (rfl) hc)
    refine lv_goto (tgt := 1640) hx hb dL_law_1447 (by decide) ?_
    exact KK _ _ _ ⟨⟨ad', ea, hw⟩, ⟨bd, rfl, hm⟩, ⟨_, hoJ⟩, ⟨_, hoD⟩⟩ (Nat.le_trans hz1 hz2) hS (lv_sub hl [2, 3, 4, 5, 6, 7] rfl)
  · refine lv_if_ne (tgt := 1447) hx hb dL_law_1432 (by decide) (fun _ => ?_) (fun hc => absurd hc (nI_ne0 (by omega) (by omega)))
    refine lv_goto (tgt := 1640) hx hb dL_law_1447 (by decide) ?_
    exact KK _ _ _ ⟨⟨ad', ea, hw⟩, ⟨bd, rfl, hm⟩, ⟨_, hoJ⟩, ⟨_, hoD⟩⟩ (Nat.le_trans hz1 hz2) hS (lv_sub hl [2, 3, 4, 5, 6, 7] rfl)
set_option maxHeartbeats 4000000 in
set_option maxRecDepth 100000 in
theorem lq_alarmRaised (S : CallFix p m c cL_law 8 s #[Value.ref b] wsL_law RL) (hE : kE ε s) (hX : va_X b L xs s s.heap) (hbl : b < s.heap.size) (hlo : ε.2.2.1 = s.heap.size) (hL : L ≤ 2560) (hi : i + 5 ≤ L) (hap : kAp ε A B o od) (hw : kW ε A ad σ H) (hm : kM ε B bd τ H) (hoJ : ∃ g, kat ε o (kJ ε 1 g) H) (hoD : ∃ g, kat ε od (kD ε 1 g) H) {v vm : Int32} {mc ms kn : Nat} (hC : kMi ε l yL_alarmRaised wsL_alarmRaised ({ frames := 11, cells := mc, slots := ms, locals := 310 }) [.ref (ad 0 0), .int (xs (i + 1)), .ref o] H (kAo A o) mc ms (kLP ε A o (ad 0 0) σ' kn v)) (hM : ∀ H1, kM ε B bd τ H1 → kMi ε l yX5_alarmRaised wsX5_alarmRaised ({ frames := 6, cells := 0, slots := 0, locals := 140 }) [.ref (bd 0), .int (xs (i + 1))] H1 B 0 0 (fun v9 H' => v9 = vm ∧ kM ε B bd τ' H')) (hk : τ' 35 0 = kn) (hkn : kn ≤ 3) (hv : kn = 0 → vm = v) (hcs : cells + mc ≤ room_1.cells ∧ slots + ms ≤ room_1.slots) (hS : va_S (kHi ε) s.heap H locs) (hl : lv_has ls 8 [(0, .ref b), (1, .ref (ad 0 0)), (2, .ref (bd 0)), (3, .ref o), (4, .ref od), (5, .int (nI i))]) (KK : ∀ (H' : Heap) (locs' : List Loc) (ls' : Array Slot), kLw ε A B o od (ad 0 0) (bd 0) σ' τ' H' → H.size ≤ H'.size → va_S (kHi ε) s.heap H' locs' → lv_has ls' 8 [(0, .ref b), (1, .ref (ad 0 0)), (2, .ref (bd 0)), (3, .ref o), (4, .ref od), (5, .int (nI i))] → W p l e room_1 s m #[Value.ref b] below meth c H' locs' (cells + mc) (slots + ms) Q (F0 m 1640 ls' [])) : W p l e room_1 s m #[Value.ref b] below meth c H locs cells slots Q (F0 m 1450 ls []) := by
  have hx := S.1
  have hb := S.2.1
  have hown : s.vm.findClass RL = some m.cls := S.2.2.2.1
  have hts := S.2.2.2.2
  have hK := hE.1
  have hAb : ∀ q, kHi ε q → kHi ε q := fun _ h => h
  obtain ⟨hA1, hB1, hAB, ⟨hoA, hoB, hoK⟩, ⟨hdA, hdB, hdK⟩, hood⟩ := hap
  have hbA : ¬ kHi ε b := by show ¬ ε.2.2.1 ≤ b; omega
  refine lv_aload_n hx hb dL_law_1450 rfl (lv_at hl 1 rfl) ?_
  refine lv_aload_n hx hb dL_law_1451 rfl (lv_at hl 0 rfl) ?_
  refine lv_iload hx hb dL_law_1452 (lv_at hl 5 rfl) ?_
  refine lv_iconst (v := 1) hx hb dL_law_1454 (by decide) ?_
  refine lv_iadd hx hb dL_law_1455 ?_
  refine kr_top (y := nI (i + 1)) (nI_add i 1) ?_
  refine va_sld hx hb hX hbl hbA hS (vp_in_nI (by omega) (by omega)) dL_law_1456 ?_
  refine kr_top (y := xs (i + 1)) (congrArg xs (nI_clamp (by omega))) ?_
  refine lv_aload_n hx hb dL_law_1457 rfl (lv_at hl 3 rfl) ?_
  refine kgo_i (kc_SW (As := [.ref (ad 0 0), .int (xs (i + 1)), .ref o]) (rest := []) S hE hS hAb hC (vx_cwSW 3 hts gL_law_L_alarmRaised rfl rfl rfl (by decide +kernel) ⟨Nat.le_of_ble_eq_true rfl, Nat.le_of_ble_eq_true rfl⟩) rfl hl.1 rfl (Nat.le_of_ble_eq_true rfl) dL_law_1458 hcs) hS (kAo_hi hA1 hoK) (fun r9 H1 locs hp hz1 hq hS => ?_)
  obtain ⟨e9, ⟨ad', ea, hw⟩, g, hoJ, hg0⟩ := hp
  refine kr_top e9 ?_
  have hm := hm.keep (fun k hk => hq _ (va_at.lt (hm.1 k hk).1) (fun h => h.elim (fun h => hAB _ h (hm.1 k hk).2) (fun h => hoB (h ▸ (hm.1 k hk).2))))
  obtain ⟨gD, hoD⟩ := hoD
  have hoD := va_at.kept hoD (hq od (va_at.lt hoD) (fun h => h.elim hdA (fun h => hood h.symm)))
  clear hq
  refine lv_istore (lv' := [(6, .int (nI kn)), (0, .ref b), (1, .ref (ad 0 0)), (2, .ref (bd 0)), (3, .ref o), (4, .ref od), (5, .int (nI i))]) hx hb dL_law_1461 hl (by decide) rfl (fun ls hl => ?_)
  refine lv_aload_n hx hb dL_law_1463 rfl (lv_at hl 3 rfl) ?_
  refine lv_aload_n hx hb dL_law_1464 rfl (lv_at hl 1 rfl) ?_
  refine lv_iload hx hb dL_law_1465 (lv_at hl 6 rfl) ?_
  refine lv_iconst (v := 1) hx hb dL_law_1467 (by decide) ?_
  refine lv_iadd hx hb dL_law_1468 ?_
  refine kr_top (y := nI (i + 1)) (nI_add i 1) ?_
  refine va_sld hx hb hX hbl hbA hS (vp_in_nI (by omega) (by omega)) dL_law_1469 ?_
  refine kr_top (y := xs (i + 1)) (congrArg xs (nI_clamp (by omega))) ?_
  refine kgo_i (kc_V (As := [.int (xs (i + 1))]) (rest := []) S hE hS hAb (hM _ hm) (cwV 1 hts gL_law_X5_alarmRaised rfl rfl rfl (by decide +kernel) ⟨Nat.le_of_ble_eq_true rfl, Nat.le_of_ble_eq_true rfl⟩) (hm.lv 0 (by decide)) rfl rfl hl.1 rfl (Nat.le_of_ble_eq_true rfl) dL_law_1470 ⟨Nat.le_trans (Nat.le_of_eq (Nat.add_zero _)) hcs.1, Nat.le_trans (Nat.le_of_eq (Nat.add_zero _)) hcs.2⟩) hS hB1 (fun r8 H2 locs hp hz2 hq hS => ?_)
  obtain ⟨e8, hm⟩ := hp
  refine kr_top e8 ?_
  have hw := hw.keep (fun k j hk => hq _ (va_at.lt (hw.1 k j hk).1) (hAB _ (hw.1 k j hk).2))
  have hoJ := va_at.kept hoJ (hq o (va_at.lt hoJ) hoB)
  have hoD := va_at.kept hoD (hq od (va_at.lt hoD) hdB)
  clear hq
  refine lv_istore (lv' := [(7, .int vm), (6, .int (nI kn)), (0, .ref b), (1, .ref (ad 0 0)), (2, .ref (bd 0)), (3, .ref o), (4, .ref od), (5, .int (nI i))]) hx hb dL_law_1473 hl (by decide) rfl (fun ls hl => ?_)
  refine lv_aload_n hx hb dL_law_1475 rfl (lv_at hl 4 rfl) ?_
  refine kgo_pi (v := nI (τ' 35 0)) (kc_V (As := []) (rest := []) S hE hS hAb (cm_thrown ε l hm) (cwV 0 hts gL_law_X5_thrown rfl rfl rfl (by decide +kernel) ⟨Nat.le_of_ble_eq_true rfl, Nat.le_of_ble_eq_true rfl⟩) (hm.lv 0 (by decide)) rfl rfl hl.1 rfl (Nat.le_of_ble_eq_true rfl) dL_law_1476 ⟨Nat.le_trans (Nat.le_of_eq (Nat.add_zero _)) hcs.1, Nat.le_trans (Nat.le_of_eq (Nat.add_zero _)) hcs.2⟩) hS (fun locs hS => ?_)
  refine kr_top (y := nI kn) (by rw [hk]) ?_
  refine lv_iload hx hb dL_law_1479 (lv_at hl 1 rfl) ?_
  refine lv_icmp_eq (tgt := 1486) hx hb dL_law_1481 (by decide) (fun _ => ?_) (fun hc => absurd (rfl) hc)
  refine lv_iload hx hb dL_law_1486 (lv_at hl 1 rfl) ?_
  by_cases hk0 : kn = 0
  · refine lv_if_ne (tgt := 1503) hx hb dL_law_1488 (by decide) (fun hc => absurd (by rw [hk0]; rfl) hc) (fun _ => ?_)
    refine lv_aload_n hx hb dL_law_1491 rfl (lv_at hl 5 rfl) ?_
    refine lv_iconst (v := 0) hx hb dL_law_1492 (by decide) ?_
    refine kr_lld hx hb hK hoJ (j := 0) (by decide) rfl (by decide) (x := v.toInt64) (hg0 hk0) dL_law_1493 ?_
    refine lv_iload hx hb dL_law_1494 (lv_at hl 0 rfl) ?_
    refine kr_top (y := v) (hv hk0) ?_
    refine lv_i2l (v := (v).toInt64) hx hb dL_law_1496 rfl ?_
    refine kr_lcmpE hx hb dL_law_1497 ?_
    refine lv_if_eq (tgt := 1503) hx hb dL_law_1498 (by decide) (fun _ => ?_) (fun hc => absurd (rfl) hc)
    refine lv_goto (tgt := 1640) hx hb dL_law_1503 (by decide) ?_
    exact KK _ _ _ ⟨⟨ad', ea, hw⟩, ⟨bd, rfl, hm⟩, ⟨_, hoJ⟩, ⟨_, hoD⟩⟩ (Nat.le_trans hz1 hz2) hS (lv_sub hl [2, 3, 4, 5, 6, 7] rfl)
  · refine lv_if_ne (tgt := 1503) hx hb dL_law_1488 (by decide) (fun _ => ?_) (fun hc => absurd hc (nI_ne0 (by omega) (by omega)))
    refine lv_goto (tgt := 1640) hx hb dL_law_1503 (by decide) ?_
    exact KK _ _ _ ⟨⟨ad', ea, hw⟩, ⟨bd, rfl, hm⟩, ⟨_, hoJ⟩, ⟨_, hoD⟩⟩ (Nat.le_trans hz1 hz2) hS (lv_sub hl [2, 3, 4, 5, 6, 7] rfl)
set_option maxHeartbeats 4000000 in
set_option maxRecDepth 100000 in
theorem lq_alarmClosed (S : CallFix p m c cL_law 8 s #[Value.ref b] wsL_law RL) (hE : kE ε s) (hX : va_X b L xs s s.heap) (hbl : b < s.heap.size) (hlo : ε.2.2.1 = s.heap.size) (hL : L ≤ 2560) (hi : i + 5 ≤ L) (hap : kAp ε A B o od) (hw : kW ε A ad σ H) (hm : kM ε B bd τ H) (hoJ : ∃ g, kat ε o (kJ ε 1 g) H) (hoD : ∃ g, kat ε od (kD ε 1 g) H) {v vm : Int32} {mc ms kn : Nat} (hC : kMi ε l yL_alarmClosed wsL_alarmClosed ({ frames := 11, cells := mc, slots := ms, locals := 310 }) [.ref (ad 0 0), .int (xs (i + 1)), .ref o] H (kAo A o) mc ms (kLP ε A o (ad 0 0) σ' kn v)) (hM : ∀ H1, kM ε B bd τ H1 → kMi ε l yX5_alarmClosed wsX5_alarmClosed ({ frames := 6, cells := 0, slots := 0, locals := 140 }) [.ref (bd 0), .int (xs (i + 1))] H1 B 0 0 (fun v9 H' => v9 = vm ∧ kM ε B bd τ' H')) (hk : τ' 35 0 = kn) (hkn : kn ≤ 3) (hv : kn = 0 → vm = v) (hcs : cells + mc ≤ room_1.cells ∧ slots + ms ≤ room_1.slots) (hS : va_S (kHi ε) s.heap H locs) (hl : lv_has ls 8 [(0, .ref b), (1, .ref (ad 0 0)), (2, .ref (bd 0)), (3, .ref o), (4, .ref od), (5, .int (nI i))]) (KK : ∀ (H' : Heap) (locs' : List Loc) (ls' : Array Slot), kLw ε A B o od (ad 0 0) (bd 0) σ' τ' H' → H.size ≤ H'.size → va_S (kHi ε) s.heap H' locs' → lv_has ls' 8 [(0, .ref b), (1, .ref (ad 0 0)), (2, .ref (bd 0)), (3, .ref o), (4, .ref od), (5, .int (nI i))] → W p l e room_1 s m #[Value.ref b] below meth c H' locs' (cells + mc) (slots + ms) Q (F0 m 1640 ls' [])) : W p l e room_1 s m #[Value.ref b] below meth c H locs cells slots Q (F0 m 1506 ls []) := by
  have hx := S.1
  have hb := S.2.1
  have hown : s.vm.findClass RL = some m.cls := S.2.2.2.1
  have hts := S.2.2.2.2
  have hK := hE.1
  have hAb : ∀ q, kHi ε q → kHi ε q := fun _ h => h
  obtain ⟨hA1, hB1, hAB, ⟨hoA, hoB, hoK⟩, ⟨hdA, hdB, hdK⟩, hood⟩ := hap
  have hbA : ¬ kHi ε b := by show ¬ ε.2.2.1 ≤ b; omega
  refine lv_aload_n hx hb dL_law_1506 rfl (lv_at hl 1 rfl) ?_
  refine lv_aload_n hx hb dL_law_1507 rfl (lv_at hl 0 rfl) ?_
  refine lv_iload hx hb dL_law_1508 (lv_at hl 5 rfl) ?_
  refine lv_iconst (v := 1) hx hb dL_law_1510 (by decide) ?_
  refine lv_iadd hx hb dL_law_1511 ?_
  refine kr_top (y := nI (i + 1)) (nI_add i 1) ?_
  refine va_sld hx hb hX hbl hbA hS (vp_in_nI (by omega) (by omega)) dL_law_1512 ?_
  refine kr_top (y := xs (i + 1)) (congrArg xs (nI_clamp (by omega))) ?_
  refine lv_aload_n hx hb dL_law_1513 rfl (lv_at hl 3 rfl) ?_
  refine kgo_i (kc_SW (As := [.ref (ad 0 0), .int (xs (i + 1)), .ref o]) (rest := []) S hE hS hAb hC (vx_cwSW 3 hts gL_law_L_alarmClosed rfl rfl rfl (by decide +kernel) ⟨Nat.le_of_ble_eq_true rfl, Nat.le_of_ble_eq_true rfl⟩) rfl hl.1 rfl (Nat.le_of_ble_eq_true rfl) dL_law_1514 hcs) hS (kAo_hi hA1 hoK) (fun r9 H1 locs hp hz1 hq hS => ?_)
  obtain ⟨e9, ⟨ad', ea, hw⟩, g, hoJ, hg0⟩ := hp
  refine kr_top e9 ?_
  have hm := hm.keep (fun k hk => hq _ (va_at.lt (hm.1 k hk).1) (fun h => h.elim (fun h => hAB _ h (hm.1 k hk).2) (fun h => hoB (h ▸ (hm.1 k hk).2))))
  obtain ⟨gD, hoD⟩ := hoD
  have hoD := va_at.kept hoD (hq od (va_at.lt hoD) (fun h => h.elim hdA (fun h => hood h.symm)))
  clear hq
  refine lv_istore (lv' := [(6, .int (nI kn)), (0, .ref b), (1, .ref (ad 0 0)), (2, .ref (bd 0)), (3, .ref o), (4, .ref od), (5, .int (nI i))]) hx hb dL_law_1517 hl (by decide) rfl (fun ls hl => ?_)
  refine lv_aload_n hx hb dL_law_1519 rfl (lv_at hl 3 rfl) ?_
  refine lv_aload_n hx hb dL_law_1520 rfl (lv_at hl 1 rfl) ?_
  refine lv_iload hx hb dL_law_1521 (lv_at hl 6 rfl) ?_
  refine lv_iconst (v := 1) hx hb dL_law_1523 (by decide) ?_
  refine lv_iadd hx hb dL_law_1524 ?_
  refine kr_top (y := nI (i + 1)) (nI_add i 1) ?_
  refine va_sld hx hb hX hbl hbA hS (vp_in_nI (by omega) (by omega)) dL_law_1525 ?_
  refine kr_top (y := xs (i + 1)) (congrArg xs (nI_clamp (by omega))) ?_
  refine kgo_i (kc_V (As := [.int (xs (i + 1))]) (rest := []) S hE hS hAb (hM _ hm) (cwV 1 hts gL_law_X5_alarmClosed rfl rfl rfl (by decide +kernel) ⟨Nat.le_of_ble_eq_true rfl, Nat.le_of_ble_eq_true rfl⟩) (hm.lv 0 (by decide)) rfl rfl hl.1 rfl (Nat.le_of_ble_eq_true rfl) dL_law_1526 ⟨Nat.le_trans (Nat.le_of_eq (Nat.add_zero _)) hcs.1, Nat.le_trans (Nat.le_of_eq (Nat.add_zero _)) hcs.2⟩) hS hB1 (fun r8 H2 locs hp hz2 hq hS => ?_)
  obtain ⟨e8, hm⟩ := hp
  refine kr_top e8 ?_
  have hw := hw.keep (fun k j hk => hq _ (va_at.lt (hw.1 k j hk).1) (hAB _ (hw.1 k j hk).2))
  have hoJ := va_at.kept hoJ (hq o (va_at.lt hoJ) hoB)
  have hoD := va_at.kept hoD (hq od (va_at.lt hoD) hdB)
  clear hq
  refine lv_istore (lv' := [(7, .int vm), (6, .int (nI kn)), (0, .ref b), (1, .ref (ad 0 0)), (2, .ref (bd 0)), (3, .ref o), (4, .ref od), (5, .int (nI i))]) hx hb dL_law_1529 hl (by decide) rfl (fun ls hl => ?_)
  refine lv_aload_n hx hb dL_law_1531 rfl (lv_at hl 4 rfl) ?_
  refine kgo_pi (v := nI (τ' 35 0)) (kc_V (As := []) (rest := []) S hE hS hAb (cm_thrown ε l hm) (cwV 0 hts gL_law_X5_thrown rfl rfl rfl (by decide +kernel) ⟨Nat.le_of_ble_eq_true rfl, Nat.le_of_ble_eq_true rfl⟩) (hm.lv 0 (by decide)) rfl rfl hl.1 rfl (Nat.le_of_ble_eq_true rfl) dL_law_1532 ⟨Nat.le_trans (Nat.le_of_eq (Nat.add_zero _)) hcs.1, Nat.le_trans (Nat.le_of_eq (Nat.add_zero _)) hcs.2⟩) hS (fun locs hS => ?_)
  refine kr_top (y := nI kn) (by rw [hk]) ?_
  refine lv_iload hx hb dL_law_1535 (lv_at hl 1 rfl) ?_
  refine lv_icmp_eq (tgt := 1542) hx hb dL_law_1537 (by decide) (fun _ => ?_) (fun hc => absurd (rfl) hc)
  refine lv_iload hx hb dL_law_1542 (lv_at hl 1 rfl) ?_
  by_cases hk0 : kn = 0
  · refine lv_if_ne (tgt := 1559) hx hb dL_law_1544 (by decide) (fun hc => absurd (by rw [hk0]; rfl) hc) (fun _ => ?_)
    refine lv_aload_n hx hb dL_law_1547 rfl (lv_at hl 5 rfl) ?_
    refine lv_iconst (v := 0) hx hb dL_law_1548 (by decide) ?_
    refine kr_lld hx hb hK hoJ (j := 0) (by decide) rfl (by decide) (x := v.toInt64) (hg0 hk0) dL_law_1549 ?_
    refine lv_iload hx hb dL_law_1550 (lv_at hl 0 rfl) ?_
    refine kr_top (y := v) (hv hk0) ?_
    refine lv_i2l (v := (v).toInt64) hx hb dL_law_1552 rfl ?_
    refine kr_lcmpE hx hb dL_law_1553 ?_
    refine lv_if_eq (tgt := 1559) hx hb dL_law_1554 (by decide) (fun _ => ?_) (fun hc => absurd (rfl) hc)
    refine lv_goto (tgt := 1640) hx hb dL_law_1559 (by decide) ?_
    exact KK _ _ _ ⟨⟨ad', ea, hw⟩, ⟨bd, rfl, hm⟩, ⟨_, hoJ⟩, ⟨_, hoD⟩⟩ (Nat.le_trans hz1 hz2) hS (lv_sub hl [2, 3, 4, 5, 6, 7] rfl)
  · refine lv_if_ne (tgt := 1559) hx hb dL_law_1544 (by decide) (fun _ => ?_) (fun hc => absurd hc (nI_ne0 (by omega) (by omega)))
    refine lv_goto (tgt := 1640) hx hb dL_law_1559 (by decide) ?_
    exact KK _ _ _ ⟨⟨ad', ea, hw⟩, ⟨bd, rfl, hm⟩, ⟨_, hoJ⟩, ⟨_, hoD⟩⟩ (Nat.le_trans hz1 hz2) hS (lv_sub hl [2, 3, 4, 5, 6, 7] rfl)
set_option maxHeartbeats 4000000 in
set_option maxRecDepth 100000 in
theorem lq_availability (S : CallFix p m c cL_law 8 s #[Value.ref b] wsL_law RL) (hE : kE ε s) (hX : va_X b L xs s s.heap) (hbl : b < s.heap.size) (hlo : ε.2.2.1 = s.heap.size) (hL : L ≤ 2560) (hi : i + 5 ≤ L) (hap : kAp ε A B o od) (hw : kW ε A ad σ H) (hm : kM ε B bd τ H) (hoJ : ∃ g, kat ε o (kJ ε 1 g) H) (hoD : ∃ g, kat ε od (kD ε 1 g) H) {v vm : UInt32} {mc ms kn : Nat} (hC : kMi ε l yL_availability wsL_availability ({ frames := 11, cells := mc, slots := ms, locals := 310 }) [.ref (ad 0 0), .int (xs (i + 1)), .ref od] H (kAo A od) mc ms (kLD ε A od (ad 0 0) σ' kn v)) (hM : ∀ H1, kM ε B bd τ H1 → kMf ε l yX5_availability wsX5_availability ({ frames := 6, cells := 0, slots := 0, locals := 140 }) [.ref (bd 0), .int (xs (i + 1))] H1 B 0 0 (fun v9 H' => v9 = vm ∧ kM ε B bd τ' H')) (hk : τ' 35 0 = kn) (hkn : kn ≤ 3) (hv : kn = 0 → vm = v) (hnn : kn = 0 → vf_n32 vm) (hcs : cells + mc ≤ room_1.cells ∧ slots + ms ≤ room_1.slots) (hS : va_S (kHi ε) s.heap H locs) (hl : lv_has ls 8 [(0, .ref b), (1, .ref (ad 0 0)), (2, .ref (bd 0)), (3, .ref o), (4, .ref od), (5, .int (nI i))]) (KK : ∀ (H' : Heap) (locs' : List Loc) (ls' : Array Slot), kLw ε A B o od (ad 0 0) (bd 0) σ' τ' H' → H.size ≤ H'.size → va_S (kHi ε) s.heap H' locs' → lv_has ls' 8 [(0, .ref b), (1, .ref (ad 0 0)), (2, .ref (bd 0)), (3, .ref o), (4, .ref od), (5, .int (nI i))] → W p l e room_1 s m #[Value.ref b] below meth c H' locs' (cells + mc) (slots + ms) Q (F0 m 1640 ls' [])) : W p l e room_1 s m #[Value.ref b] below meth c H locs cells slots Q (F0 m 1562 ls []) := by
  have hx := S.1
  have hb := S.2.1
  have hown : s.vm.findClass RL = some m.cls := S.2.2.2.1
  have hts := S.2.2.2.2
  have hK := hE.1
  have hAb : ∀ q, kHi ε q → kHi ε q := fun _ h => h
  obtain ⟨hA1, hB1, hAB, ⟨hoA, hoB, hoK⟩, ⟨hdA, hdB, hdK⟩, hood⟩ := hap
  have hbA : ¬ kHi ε b := by show ¬ ε.2.2.1 ≤ b; omega
  refine lv_aload_n hx hb dL_law_1562 rfl (lv_at hl 1 rfl) ?_
  refine lv_aload_n hx hb dL_law_1563 rfl (lv_at hl 0 rfl) ?_
  refine lv_iload hx hb dL_law_1564 (lv_at hl 5 rfl) ?_
  refine lv_iconst (v := 1) hx hb dL_law_1566 (by decide) ?_
  refine lv_iadd hx hb dL_law_1567 ?_
  refine kr_top (y := nI (i + 1)) (nI_add i 1) ?_
  refine va_sld hx hb hX hbl hbA hS (vp_in_nI (by omega) (by omega)) dL_law_1568 ?_
  refine kr_top (y := xs (i + 1)) (congrArg xs (nI_clamp (by omega))) ?_
  refine lv_aload hx hb dL_law_1569 (lv_at hl 4 rfl) ?_
  refine kgo_i (kc_SW (As := [.ref (ad 0 0), .int (xs (i + 1)), .ref od]) (rest := []) S hE hS hAb hC (vx_cwSW 3 hts gL_law_L_availability rfl rfl rfl (by decide +kernel) ⟨Nat.le_of_ble_eq_true rfl, Nat.le_of_ble_eq_true rfl⟩) rfl hl.1 rfl (Nat.le_of_ble_eq_true rfl) dL_law_1571 hcs) hS (kAo_hi hA1 hdK) (fun r9 H1 locs hp hz1 hq hS => ?_)
  obtain ⟨e9, ⟨ad', ea, hw⟩, g, hoD, hg0⟩ := hp
  refine kr_top e9 ?_
  have hm := hm.keep (fun k hk => hq _ (va_at.lt (hm.1 k hk).1) (fun h => h.elim (fun h => hAB _ h (hm.1 k hk).2) (fun h => hdB (h ▸ (hm.1 k hk).2))))
  obtain ⟨gJ, hoJ⟩ := hoJ
  have hoJ := va_at.kept hoJ (hq o (va_at.lt hoJ) (fun h => h.elim hoA (fun h => hood h)))
  clear hq
  refine lv_istore (lv' := [(6, .int (nI kn)), (0, .ref b), (1, .ref (ad 0 0)), (2, .ref (bd 0)), (3, .ref o), (4, .ref od), (5, .int (nI i))]) hx hb dL_law_1574 hl (by decide) rfl (fun ls hl => ?_)
  refine lv_aload_n hx hb dL_law_1576 rfl (lv_at hl 3 rfl) ?_
  refine lv_aload_n hx hb dL_law_1577 rfl (lv_at hl 1 rfl) ?_
  refine lv_iload hx hb dL_law_1578 (lv_at hl 6 rfl) ?_
  refine lv_iconst (v := 1) hx hb dL_law_1580 (by decide) ?_
  refine lv_iadd hx hb dL_law_1581 ?_
  refine kr_top (y := nI (i + 1)) (nI_add i 1) ?_
  refine va_sld hx hb hX hbl hbA hS (vp_in_nI (by omega) (by omega)) dL_law_1582 ?_
  refine kr_top (y := xs (i + 1)) (congrArg xs (nI_clamp (by omega))) ?_
  refine kgo_f (kc_V (As := [.int (xs (i + 1))]) (rest := []) S hE hS hAb (hM _ hm) (cwV 1 hts gL_law_X5_availability rfl rfl rfl (by decide +kernel) ⟨Nat.le_of_ble_eq_true rfl, Nat.le_of_ble_eq_true rfl⟩) (hm.lv 0 (by decide)) rfl rfl hl.1 rfl (Nat.le_of_ble_eq_true rfl) dL_law_1583 ⟨Nat.le_trans (Nat.le_of_eq (Nat.add_zero _)) hcs.1, Nat.le_trans (Nat.le_of_eq (Nat.add_zero _)) hcs.2⟩) hS hB1 (fun r8 H2 locs hp hz2 hq hS => ?_)
  obtain ⟨e8, hm⟩ := hp
  subst e8
  have hw := hw.keep (fun k j hk => hq _ (va_at.lt (hw.1 k j hk).1) (hAB _ (hw.1 k j hk).2))
  have hoJ := va_at.kept hoJ (hq o (va_at.lt hoJ) hoB)
  have hoD := va_at.kept hoD (hq od (va_at.lt hoD) hdB)
  clear hq
  refine lv_fstore (lv' := [(7, .float r8), (6, .int (nI kn)), (0, .ref b), (1, .ref (ad 0 0)), (2, .ref (bd 0)), (3, .ref o), (4, .ref od), (5, .int (nI i))]) hx hb dL_law_1586 hl (by decide) rfl (fun ls hl => ?_)
  refine lv_aload_n hx hb dL_law_1588 rfl (lv_at hl 4 rfl) ?_
  refine kgo_pi (v := nI (τ' 35 0)) (kc_V (As := []) (rest := []) S hE hS hAb (cm_thrown ε l hm) (cwV 0 hts gL_law_X5_thrown rfl rfl rfl (by decide +kernel) ⟨Nat.le_of_ble_eq_true rfl, Nat.le_of_ble_eq_true rfl⟩) (hm.lv 0 (by decide)) rfl rfl hl.1 rfl (Nat.le_of_ble_eq_true rfl) dL_law_1589 ⟨Nat.le_trans (Nat.le_of_eq (Nat.add_zero _)) hcs.1, Nat.le_trans (Nat.le_of_eq (Nat.add_zero _)) hcs.2⟩) hS (fun locs hS => ?_)
  refine kr_top (y := nI kn) (by rw [hk]) ?_
  refine lv_iload hx hb dL_law_1592 (lv_at hl 1 rfl) ?_
  refine lv_icmp_eq (tgt := 1599) hx hb dL_law_1594 (by decide) (fun _ => ?_) (fun hc => absurd (rfl) hc)
  refine lv_iload hx hb dL_law_1599 (lv_at hl 1 rfl) ?_
  by_cases hk0 : kn = 0
  · refine lv_if_ne (tgt := 1637) hx hb dL_law_1601 (by decide) (fun hc => absurd (by rw [hk0]; rfl) hc) (fun _ => ?_)
    refine lv_aload hx hb dL_law_1604 (lv_at hl 6 rfl) ?_
    refine lv_iconst (v := 0) hx hb dL_law_1606 (by decide) ?_
    refine kr_dld hx hb hK hoD (j := 0) (by decide) rfl (by decide) (x := FP.f2d r8) (by rw [hg0 hk0, hv hk0]) dL_law_1607 ?_
    refine lv_fload hx hb dL_law_1608 (lv_at hl 0 rfl) ?_
    refine lv_f2d hx hb dL_law_1610 (kf_n64 (hnn hk0)) ?_
    refine kr_dcmpE hx hb dL_law_1611 (kf_n64 (hnn hk0)) ?_
    refine lv_if_eq (tgt := 1637) hx hb dL_law_1612 (by decide) (fun _ => ?_) (fun hc => absurd (rfl) hc)
    refine lv_goto (tgt := 1640) hx hb dL_law_1637 (by decide) ?_
    exact KK _ _ _ ⟨⟨ad', ea, hw⟩, ⟨bd, rfl, hm⟩, ⟨_, hoJ⟩, ⟨_, hoD⟩⟩ (Nat.le_trans hz1 hz2) hS (lv_sub hl [2, 3, 4, 5, 6, 7] rfl)
  · refine lv_if_ne (tgt := 1637) hx hb dL_law_1601 (by decide) (fun _ => ?_) (fun hc => absurd hc (nI_ne0 (by omega) (by omega)))
    refine lv_goto (tgt := 1640) hx hb dL_law_1637 (by decide) ?_
    exact KK _ _ _ ⟨⟨ad', ea, hw⟩, ⟨bd, rfl, hm⟩, ⟨_, hoJ⟩, ⟨_, hoD⟩⟩ (Nat.le_trans hz1 hz2) hS (lv_sub hl [2, 3, 4, 5, 6, 7] rfl)
end KLQS
