/-! ===== the law's cases over the invariant ===== -/
section KST
variable {p : Program} {l : Launch} {e : Env} {s : State} {m : MethodId} {below : List Frame} {meth : Method} {c : Code} {H : Heap} {locs : List Loc} {Q : State → Prop} {ls : Array Slot}
variable {ε : kEnv} {A B : Nat → Prop} {o od b L i n : Nat} {xs : Nat → Int32} {ad : Nat → Nat → Nat} {bd : Nat → Nat} {σ τ : kS}
set_option maxHeartbeats 4000000 in
set_option maxRecDepth 100000 in
theorem st_addRegion (S : CallFix p m c cL_law 8 s #[Value.ref b] wsL_law RL) (hE : kE ε s) (hX : va_X b L xs s s.heap) (hbl : b < s.heap.size) (hlo : ε.2.2.1 = s.heap.size) (hL : L ≤ 2560) (hi : i + 5 ≤ L) (hap : kAp ε A B o od) (hst : l.stackTraces = false) (hnv : kNv n σ τ) (hn : n < 512) (hA2 : ∀ q, H.size ≤ q → A q) (hw : kW ε A ad σ H) (hm : kM ε B bd τ H) (hoJ : ∃ g, kat ε o (kJ ε 1 g) H) (hoD : ∃ g, kat ε od (kD ε 1 g) H) (hS : va_S (kHi ε) s.heap H locs) (hl : lv_has ls 8 [(0, .ref b), (1, .ref (ad 0 0)), (2, .ref (bd 0)), (3, .ref o), (4, .ref od), (5, .int (nI i))]) (KK : ∀ (σ' τ' : kS) (H' : Heap) (locs' : List Loc) (ls' : Array Slot), kNv (n + 1) σ' τ' → kLw ε A B o od (ad 0 0) (bd 0) σ' τ' H' → H.size ≤ H'.size → va_S (kHi ε) s.heap H' locs' → lv_has ls' 8 [(0, .ref b), (1, .ref (ad 0 0)), (2, .ref (bd 0)), (3, .ref o), (4, .ref od), (5, .int (nI i))] → W p l e room_1 s m #[Value.ref b] below meth c H' locs' (kCe (n + 1) σ') (kSl (n + 1) σ') Q (F0 m 1640 ls' [])) : W p l e room_1 s m #[Value.ref b] below meth c H locs (kCe n σ) (kSl n σ) Q (F0 m 156 ls []) := by
  obtain ⟨hA1, hB1, hAB, ⟨hoA, hoB, hoK⟩, ⟨hdA, hdB, hdK⟩, hood⟩ := id hap
  obtain ⟨hR, hB, hmB, hZ, ⟨M, hP⟩, hCb, ht⟩ := id hnv
  have e30 : τ 30 0 = σ 0 0 := hR.1.1
  have e31 : τ 31 0 = σ 1 0 := hR.1.2.1
  have e32 : τ 32 0 = σ 2 0 := hR.1.2.2.1
  have e33 : τ 33 0 = σ 3 0 := hR.1.2.2.2.1
  have e34 : τ 34 0 = σ 4 0 := hR.1.2.2.2.2
  have nR := hB.nR
  have nC := hB.nC
  have nW := hB.nW
  have nA := hB.nA
  obtain ⟨gJ, hoJ⟩ := hoJ
  obtain ⟨gD, hoD⟩ := hoD
  by_cases e1 : xs (i + 1) = -1
  · rcases Nat.lt_or_ge (σ 1 0) 6 with h6 | h6
    · have hnv' : kNv (n + 1) (kAddR σ (0)) (mAddR τ (0)) := kNv_w hnv (kR_addR hR hB (Nat.zero_le _) h6) (kB_addR hB (Nat.zero_le _) h6) (mB_addR hmB (Nat.zero_le _) (by rw [e31]; exact h6)) (kZ_addR hZ _) (by funext q; simp [kAddR, ku]) (by funext q; simp [kAddR, ku]) (by funext q; simp [kAddR, ku]) (by funext q; simp [kAddR, ku]) (by funext q; simp [kAddR, ku]) (by funext q; simp [kAddR, ku]) (by simp [kAddR, ku])
      have hco : kCo n (1 + kgc (σ 1 0)) (4 + kgs (σ 1 0)) σ (kAddR σ (0)) := kCo_addR h6
      exact lq_addRegion (σ' := kAddR σ (0)) (τ' := mAddR τ (0)) (v := nI (σ 1 0)) (vm := nI (τ 31 0)) (mc := 1 + kgc (σ 1 0)) (ms := 4 + kgs (σ 1 0)) (kn := 0) S hE hX hbl hlo hL hi hap hw hm ⟨gJ, hoJ⟩ ⟨gD, hoD⟩ (yl_addRegion ε l hA1 hoK hoA hw hoJ (by rw [e1]; exact cp_addRegion0 ε l hA1 hw hB h6 hZ hA2) (fun _ _ h => h)) (fun H1 hm1 => by rw [e1]; exact cm_addRegion0 ε l hB1 hm1 hmB (by rw [e31]; exact h6)) (by simp [mAddR, ku]) (by decide) (fun _ => by rw [e31]) (kCo_b hco hnv' hn) hS hl (fun H' locs' ls' hL' hz' hS' hl' => W.widen hco.1 hco.2 (KK _ _ H' locs' ls' hnv' hL' hz' hS' hl'))
    · have hnv' : kNv (n + 1) (σ) (mT τ 2) := (kNv_t hnv 2)
      have hco : kCo n (1) (6) σ (σ) := kCo_x n σ
      exact lq_addRegion (σ' := σ) (τ' := mT τ 2) (v := 0) (vm := 0) (mc := 1) (ms := 6) (kn := 2) S hE hX hbl hlo hL hi hap hw hm ⟨gJ, hoJ⟩ ⟨gD, hoD⟩ (yl_addRegionX2 ε l 0 hA1 hoK hoA hw hoJ (by rw [e1]; exact cpx_addRegion2a ε l hw hB hst h6)) (fun H1 hm1 => by rw [e1]; exact cm_addRegionX2a ε l hB1 hm1 hmB (by omega)) (by simp [ku]) (by decide) (fun h => absurd h (by decide)) (kCo_b hco hnv' hn) hS hl (fun H' locs' ls' hL' hz' hS' hl' => W.widen hco.1 hco.2 (KK _ _ H' locs' ls' hnv' hL' hz' hS' hl'))
  · rcases kidx (xs (i + 1)) (N := σ 1 0) (by omega) with ⟨j, hj, e2⟩ | h
    · rcases Nat.lt_or_ge (σ 1 0) 6 with h6 | h6
      · have hnv' : kNv (n + 1) (kAddR σ (j + 1)) (mAddR τ (j + 1)) := kNv_w hnv (kR_addR hR hB (by omega) h6) (kB_addR hB (by omega) h6) (mB_addR hmB (by rw [e31]; omega) (by rw [e31]; exact h6)) (kZ_addR hZ _) (by funext q; simp [kAddR, ku]) (by funext q; simp [kAddR, ku]) (by funext q; simp [kAddR, ku]) (by funext q; simp [kAddR, ku]) (by funext q; simp [kAddR, ku]) (by funext q; simp [kAddR, ku]) (by simp [kAddR, ku])
        have hco : kCo n (1 + kgc (σ 1 0)) (4 + kgs (σ 1 0)) σ (kAddR σ (j + 1)) := kCo_addR h6
        exact lq_addRegion (σ' := kAddR σ (j + 1)) (τ' := mAddR τ (j + 1)) (v := nI (σ 1 0)) (vm := nI (τ 31 0)) (mc := 1 + kgc (σ 1 0)) (ms := 4 + kgs (σ 1 0)) (kn := 0) S hE hX hbl hlo hL hi hap hw hm ⟨gJ, hoJ⟩ ⟨gD, hoD⟩ (yl_addRegion ε l hA1 hoK hoA hw hoJ (by rw [e2]; exact cp_addRegionS ε l hA1 hw hB hj h6 hZ hA2) (fun _ _ h => h)) (fun H1 hm1 => by rw [e2]; exact cm_addRegionS ε l hB1 hm1 hmB (by rw [e31]; exact hj) (by rw [e31]; exact h6)) (by simp [mAddR, ku]) (by decide) (fun _ => by rw [e31]) (kCo_b hco hnv' hn) hS hl (fun H' locs' ls' hL' hz' hS' hl' => W.widen hco.1 hco.2 (KK _ _ H' locs' ls' hnv' hL' hz' hS' hl'))
      · have hnv' : kNv (n + 1) (σ) (mT τ 2) := (kNv_t hnv 2)
        have hco : kCo n (1) (6) σ (σ) := kCo_x n σ
        exact lq_addRegion (σ' := σ) (τ' := mT τ 2) (v := 0) (vm := 0) (mc := 1) (ms := 6) (kn := 2) S hE hX hbl hlo hL hi hap hw hm ⟨gJ, hoJ⟩ ⟨gD, hoD⟩ (yl_addRegionX2 ε l 0 hA1 hoK hoA hw hoJ (by rw [e2]; exact cpx_addRegion2b ε l hw hB hst hj h6)) (fun H1 hm1 => by rw [e2]; exact cm_addRegionX2b ε l hB1 hm1 hmB (by rw [e31]; exact hj) (by omega)) (by simp [ku]) (by decide) (fun h => absurd h (by decide)) (kCo_b hco hnv' hn) hS hl (fun H' locs' ls' hL' hz' hS' hl' => W.widen hco.1 hco.2 (KK _ _ H' locs' ls' hnv' hL' hz' hS' hl'))
    · have hnv' : kNv (n + 1) (σ) (mT τ 1) := (kNv_t hnv 1)
      have hco : kCo n (1) (6) σ (σ) := kCo_x n σ
      exact lq_addRegion (σ' := σ) (τ' := mT τ 1) (v := 0) (vm := 0) (mc := 1) (ms := 6) (kn := 1) S hE hX hbl hlo hL hi hap hw hm ⟨gJ, hoJ⟩ ⟨gD, hoD⟩ (yl_addRegionX1 ε l 0 hA1 hoK hoA hw hoJ (by exact cpx_addRegion1 ε l hw hB hst e1 h)) (fun H1 hm1 => by exact cm_addRegionX1 ε l hB1 hm1 hmB e1 (by rw [e31]; exact h)) (by simp [ku]) (by decide) (fun h => absurd h (by decide)) (kCo_b hco hnv' hn) hS hl (fun H' locs' ls' hL' hz' hS' hl' => W.widen hco.1 hco.2 (KK _ _ H' locs' ls' hnv' hL' hz' hS' hl'))
set_option maxHeartbeats 4000000 in
set_option maxRecDepth 100000 in
theorem st_addCheck (S : CallFix p m c cL_law 8 s #[Value.ref b] wsL_law RL) (hE : kE ε s) (hX : va_X b L xs s s.heap) (hbl : b < s.heap.size) (hlo : ε.2.2.1 = s.heap.size) (hL : L ≤ 2560) (hi : i + 5 ≤ L) (hap : kAp ε A B o od) (hst : l.stackTraces = false) (hnv : kNv n σ τ) (hn : n < 512) (hA2 : ∀ q, H.size ≤ q → A q) (hw : kW ε A ad σ H) (hm : kM ε B bd τ H) (hoJ : ∃ g, kat ε o (kJ ε 1 g) H) (hoD : ∃ g, kat ε od (kD ε 1 g) H) (hS : va_S (kHi ε) s.heap H locs) (hl : lv_has ls 8 [(0, .ref b), (1, .ref (ad 0 0)), (2, .ref (bd 0)), (3, .ref o), (4, .ref od), (5, .int (nI i))]) (KK : ∀ (σ' τ' : kS) (H' : Heap) (locs' : List Loc) (ls' : Array Slot), kNv (n + 1) σ' τ' → kLw ε A B o od (ad 0 0) (bd 0) σ' τ' H' → H.size ≤ H'.size → va_S (kHi ε) s.heap H' locs' → lv_has ls' 8 [(0, .ref b), (1, .ref (ad 0 0)), (2, .ref (bd 0)), (3, .ref o), (4, .ref od), (5, .int (nI i))] → W p l e room_1 s m #[Value.ref b] below meth c H' locs' (kCe (n + 1) σ') (kSl (n + 1) σ') Q (F0 m 1640 ls' [])) : W p l e room_1 s m #[Value.ref b] below meth c H locs (kCe n σ) (kSl n σ) Q (F0 m 212 ls []) := by
  obtain ⟨hA1, hB1, hAB, ⟨hoA, hoB, hoK⟩, ⟨hdA, hdB, hdK⟩, hood⟩ := id hap
  obtain ⟨hR, hB, hmB, hZ, ⟨M, hP⟩, hCb, ht⟩ := id hnv
  have e30 : τ 30 0 = σ 0 0 := hR.1.1
  have e31 : τ 31 0 = σ 1 0 := hR.1.2.1
  have e32 : τ 32 0 = σ 2 0 := hR.1.2.2.1
  have e33 : τ 33 0 = σ 3 0 := hR.1.2.2.2.1
  have e34 : τ 34 0 = σ 4 0 := hR.1.2.2.2.2
  have nR := hB.nR
  have nC := hB.nC
  have nW := hB.nW
  have nA := hB.nA
  obtain ⟨gJ, hoJ⟩ := hoJ
  obtain ⟨gD, hoD⟩ := hoD
  rcases krng1 (xs (i + 1)) 60 (n := 60) (by decide) with h | ⟨a1, b1, t1, p1, q1, e1⟩
  · have hnv' : kNv (n + 1) (σ) (mT τ 1) := (kNv_t hnv 1)
    have hco : kCo n (1) (6) σ (σ) := kCo_x n σ
    exact lq_addCheck (σ' := σ) (τ' := mT τ 1) (v := 0) (vm := 0) (mc := 1) (ms := 6) (kn := 1) S hE hX hbl hlo hL hi hap hw hm ⟨gJ, hoJ⟩ ⟨gD, hoD⟩ (yl_addCheckX1 ε l 0 hA1 hoK hoA hw hoJ (by exact cpx_addCheck1 ε l hw hB hst h)) (fun H1 hm1 => by exact cm_addCheckX1 ε l hB1 hm1 hmB h) (by simp [ku]) (by decide) (fun h => absurd h (by decide)) (kCo_b hco hnv' hn) hS hl (fun H' locs' ls' hL' hz' hS' hl' => W.widen hco.1 hco.2 (KK _ _ H' locs' ls' hnv' hL' hz' hS' hl'))
  · rcases krng0 (xs (i + 2)) 1000 (n := 1000) (by decide) with h | ⟨a2, b2, t2, q2, e2⟩
    · have hnv' : kNv (n + 1) (σ) (mT τ 1) := (kNv_t hnv 1)
      have hco : kCo n (1) (6) σ (σ) := kCo_x n σ
      exact lq_addCheck (σ' := σ) (τ' := mT τ 1) (v := 0) (vm := 0) (mc := 1) (ms := 6) (kn := 1) S hE hX hbl hlo hL hi hap hw hm ⟨gJ, hoJ⟩ ⟨gD, hoD⟩ (yl_addCheckX1 ε l 0 hA1 hoK hoA hw hoJ (by exact cpx_addCheck2 ε l hw hB hst a1 b1 h)) (fun H1 hm1 => by exact cm_addCheckX2 ε l hB1 hm1 hmB a1 b1 h) (by simp [ku]) (by decide) (fun h => absurd h (by decide)) (kCo_b hco hnv' hn) hS hl (fun H' locs' ls' hL' hz' hS' hl' => W.widen hco.1 hco.2 (KK _ _ H' locs' ls' hnv' hL' hz' hS' hl'))
    · rcases krng0 (xs (i + 3)) 3 (n := 3) (by decide) with h | ⟨a3, b3, t3, q3, e3⟩
      · have hnv' : kNv (n + 1) (σ) (mT τ 1) := (kNv_t hnv 1)
        have hco : kCo n (1) (6) σ (σ) := kCo_x n σ
        exact lq_addCheck (σ' := σ) (τ' := mT τ 1) (v := 0) (vm := 0) (mc := 1) (ms := 6) (kn := 1) S hE hX hbl hlo hL hi hap hw hm ⟨gJ, hoJ⟩ ⟨gD, hoD⟩ (yl_addCheckX1 ε l 0 hA1 hoK hoA hw hoJ (by exact cpx_addCheck3 ε l hw hB hst a1 b1 a2 b2 h)) (fun H1 hm1 => by exact cm_addCheckX3 ε l hB1 hm1 hmB a1 b1 a2 b2 h) (by simp [ku]) (by decide) (fun h => absurd h (by decide)) (kCo_b hco hnv' hn) hS hl (fun H' locs' ls' hL' hz' hS' hl' => W.widen hco.1 hco.2 (KK _ _ H' locs' ls' hnv' hL' hz' hS' hl'))
      · rcases krng1 (xs (i + 4)) 6 (n := 6) (by decide) with h | ⟨a4, b4, t4, p4, q4, e4⟩
        · have hnv' : kNv (n + 1) (σ) (mT τ 1) := (kNv_t hnv 1)
          have hco : kCo n (1) (6) σ (σ) := kCo_x n σ
          exact lq_addCheck (σ' := σ) (τ' := mT τ 1) (v := 0) (vm := 0) (mc := 1) (ms := 6) (kn := 1) S hE hX hbl hlo hL hi hap hw hm ⟨gJ, hoJ⟩ ⟨gD, hoD⟩ (yl_addCheckX1 ε l 0 hA1 hoK hoA hw hoJ (by exact cpx_addCheck4 ε l hw hB hst a1 b1 a2 b2 a3 b3 h)) (fun H1 hm1 => by exact cm_addCheckX4 ε l hB1 hm1 hmB a1 b1 a2 b2 a3 b3 h) (by simp [ku]) (by decide) (fun h => absurd h (by decide)) (kCo_b hco hnv' hn) hS hl (fun H' locs' ls' hL' hz' hS' hl' => W.widen hco.1 hco.2 (KK _ _ H' locs' ls' hnv' hL' hz' hS' hl'))
        · rcases Nat.lt_or_ge (σ 2 0) 8 with h8 | h8
          · have hnv' : kNv (n + 1) (kAddC σ t1 t2 t3 t4) (mAddC τ t1 t2 t3 t4) := kNv_addC hnv p1 q1 q2 q3 p4 q4 h8
            have hco : kCo n (4 + kgc (σ 2 0)) (31 + kgs (σ 2 0)) σ (kAddC σ t1 t2 t3 t4) := kCo_addC h8
            exact lq_addCheck (σ' := kAddC σ t1 t2 t3 t4) (τ' := mAddC τ t1 t2 t3 t4) (v := nI (σ 2 0)) (vm := nI (τ 32 0)) (mc := 4 + kgc (σ 2 0)) (ms := 31 + kgs (σ 2 0)) (kn := 0) S hE hX hbl hlo hL hi hap hw hm ⟨gJ, hoJ⟩ ⟨gD, hoD⟩ (yl_addCheck ε l hA1 hoK hoA hw hoJ (by rw [e1, e2, e3, e4]; exact cp_addCheck ε l hA1 hw hB p1 q1 q2 q3 p4 q4 h8 hZ hA2) (fun _ _ h => h)) (fun H1 hm1 => by rw [e1, e2, e3, e4]; exact cm_addCheck ε l hB1 hm1 hmB p1 q1 q2 q3 p4 q4 (by rw [e32]; exact h8)) (by simp [mAddC, ku]) (by decide) (fun _ => by rw [e32]) (kCo_b hco hnv' hn) hS hl (fun H' locs' ls' hL' hz' hS' hl' => W.widen hco.1 hco.2 (KK _ _ H' locs' ls' hnv' hL' hz' hS' hl'))
          · have hnv' : kNv (n + 1) (σ) (mT τ 2) := (kNv_t hnv 2)
            have hco : kCo n (1) (6) σ (σ) := kCo_x n σ
            exact lq_addCheck (σ' := σ) (τ' := mT τ 2) (v := 0) (vm := 0) (mc := 1) (ms := 6) (kn := 2) S hE hX hbl hlo hL hi hap hw hm ⟨gJ, hoJ⟩ ⟨gD, hoD⟩ (yl_addCheckX2 ε l 0 hA1 hoK hoA hw hoJ (by exact cpx_addCheck5 ε l hw hB hst a1 b1 a2 b2 a3 b3 a4 b4 h8)) (fun H1 hm1 => by exact cm_addCheckX5 ε l hB1 hm1 hmB a1 b1 a2 b2 a3 b3 a4 b4 (by omega)) (by simp [ku]) (by decide) (fun h => absurd h (by decide)) (kCo_b hco hnv' hn) hS hl (fun H' locs' ls' hL' hz' hS' hl' => W.widen hco.1 hco.2 (KK _ _ H' locs' ls' hnv' hL' hz' hS' hl'))
set_option maxHeartbeats 4000000 in
set_option maxRecDepth 100000 in
theorem st_setDown (S : CallFix p m c cL_law 8 s #[Value.ref b] wsL_law RL) (hE : kE ε s) (hX : va_X b L xs s s.heap) (hbl : b < s.heap.size) (hlo : ε.2.2.1 = s.heap.size) (hL : L ≤ 2560) (hi : i + 5 ≤ L) (hap : kAp ε A B o od) (hst : l.stackTraces = false) (hnv : kNv n σ τ) (hn : n < 512) (hA2 : ∀ q, H.size ≤ q → A q) (hw : kW ε A ad σ H) (hm : kM ε B bd τ H) (hoJ : ∃ g, kat ε o (kJ ε 1 g) H) (hoD : ∃ g, kat ε od (kD ε 1 g) H) (hS : va_S (kHi ε) s.heap H locs) (hl : lv_has ls 8 [(0, .ref b), (1, .ref (ad 0 0)), (2, .ref (bd 0)), (3, .ref o), (4, .ref od), (5, .int (nI i))]) (KK : ∀ (σ' τ' : kS) (H' : Heap) (locs' : List Loc) (ls' : Array Slot), kNv (n + 1) σ' τ' → kLw ε A B o od (ad 0 0) (bd 0) σ' τ' H' → H.size ≤ H'.size → va_S (kHi ε) s.heap H' locs' → lv_has ls' 8 [(0, .ref b), (1, .ref (ad 0 0)), (2, .ref (bd 0)), (3, .ref o), (4, .ref od), (5, .int (nI i))] → W p l e room_1 s m #[Value.ref b] below meth c H' locs' (kCe (n + 1) σ') (kSl (n + 1) σ') Q (F0 m 1640 ls' [])) : W p l e room_1 s m #[Value.ref b] below meth c H locs (kCe n σ) (kSl n σ) Q (F0 m 304 ls []) := by
  obtain ⟨hA1, hB1, hAB, ⟨hoA, hoB, hoK⟩, ⟨hdA, hdB, hdK⟩, hood⟩ := id hap
  obtain ⟨hR, hB, hmB, hZ, ⟨M, hP⟩, hCb, ht⟩ := id hnv
  have e30 : τ 30 0 = σ 0 0 := hR.1.1
  have e31 : τ 31 0 = σ 1 0 := hR.1.2.1
  have e32 : τ 32 0 = σ 2 0 := hR.1.2.2.1
  have e33 : τ 33 0 = σ 3 0 := hR.1.2.2.2.1
  have e34 : τ 34 0 = σ 4 0 := hR.1.2.2.2.2
  have nR := hB.nR
  have nC := hB.nC
  have nW := hB.nW
  have nA := hB.nA
  obtain ⟨gJ, hoJ⟩ := hoJ
  obtain ⟨gD, hoD⟩ := hoD
  obtain ⟨bb, hz⟩ := kbz (xs (i + 3))
  have ez := kbn bb
  have ev : (if bb then 1 else 0) ≤ 1 := by split <;> decide
  rcases kidx (xs (i + 1)) (N := σ 2 0) (by omega) with ⟨j, hj, e1⟩ | h
  · rcases kidx (xs (i + 2)) (N := σ 1 0) (by omega) with ⟨r, hr, e2⟩ | h
    · have hnv' : kNv (n + 1) (ku σ 30 j (kwr (σ 30 j) r bb)) (ku (mT τ 0) 14 (6 * j + r) (if bb then 1 else 0)) := kNv_w hnv (kR_down hR hB hj (by omega)) (kB_p30 hB (kwr_lt r (by omega) _ (hB.ck j hj).2.2.2.2.2.1 bb)) (mB_p14 (mB_t hmB 0) ev) (kZ_down hZ _ hj) (by funext q; simp [ku, ku]) (by funext q; simp [ku, ku]) (by funext q; simp [ku, ku]) (by funext q; simp [ku, ku]) (by funext q; simp [ku, ku]) (by funext q; simp [ku, ku]) (by simp [ku, ku])
      have hco : kCo n (0) (0) σ (ku σ 30 j (kwr (σ 30 j) r bb)) := kCo_same (by simp [ku]) (by simp [ku]) (by simp [ku]) (by simp [ku])
      exact lq_setDown (σ' := ku σ 30 j (kwr (σ 30 j) r bb)) (τ' := ku (mT τ 0) 14 (6 * j + r) (if bb then 1 else 0)) (v := bI ((σ 30 j).testBit r)) (vm := nI (τ 14 (6 * j + r))) (mc := 0) (ms := 0) (kn := 0) S hE hX hbl hlo hL hi hap hw hm ⟨gJ, hoJ⟩ ⟨gD, hoD⟩ hz (yl_setDown ε l hA1 hoK hoA hw hoJ (post := fun v9 H9 => v9 = bI ((σ 30 j).testBit r) ∧ kW ε A ad (ku σ 30 j (kwr (σ 30 j) r bb)) H9) (by rw [e1, e2]; exact cp_setDown ε l hA1 hw hB hj hr) (fun _ _ h => ⟨h.1, ad, rfl, h.2⟩) (bI_01 _)) (fun H1 hm1 => by rw [e1, e2, ez]; exact cm_setDown ε l hB1 hm1 hmB (by rw [e32]; exact hj) (by rw [e31]; exact hr) ev) (by simp [ku]) (by decide) (fun _ => by rw [hR.2.2.1.2.2 j r (by omega)]; exact kb2 _ _) (fun _ => bI_01 _) (kCo_b hco hnv' hn) hS hl (fun H' locs' ls' hL' hz' hS' hl' => W.widen hco.1 hco.2 (KK _ _ H' locs' ls' hnv' hL' hz' hS' hl'))
    · have hnv' : kNv (n + 1) (σ) (mT τ 1) := (kNv_t hnv 1)
      have hco : kCo n (1) (6) σ (σ) := kCo_x n σ
      exact lq_setDown (σ' := σ) (τ' := mT τ 1) (v := 0) (vm := 0) (mc := 1) (ms := 6) (kn := 1) S hE hX hbl hlo hL hi hap hw hm ⟨gJ, hoJ⟩ ⟨gD, hoD⟩ hz (yl_setDownX1 ε l 0 hA1 hoK hoA hw hoJ (by rw [e1]; exact cpx_setDown2 ε l hw hB hst hj h)) (fun H1 hm1 => by rw [e1]; exact cm_setDownX2 ε l hB1 hm1 hmB (by rw [e32]; exact hj) (by rw [e31]; exact h)) (by simp [ku]) (by decide) (fun h => absurd h (by decide)) (fun h => absurd h (by decide)) (kCo_b hco hnv' hn) hS hl (fun H' locs' ls' hL' hz' hS' hl' => W.widen hco.1 hco.2 (KK _ _ H' locs' ls' hnv' hL' hz' hS' hl'))
  · have hnv' : kNv (n + 1) (σ) (mT τ 1) := (kNv_t hnv 1)
    have hco : kCo n (1) (6) σ (σ) := kCo_x n σ
    exact lq_setDown (σ' := σ) (τ' := mT τ 1) (v := 0) (vm := 0) (mc := 1) (ms := 6) (kn := 1) S hE hX hbl hlo hL hi hap hw hm ⟨gJ, hoJ⟩ ⟨gD, hoD⟩ hz (yl_setDownX1 ε l 0 hA1 hoK hoA hw hoJ (by exact cpx_setDown1 ε l hw hB hst h)) (fun H1 hm1 => by exact cm_setDownX1 ε l hB1 hm1 hmB (by rw [e32]; exact h)) (by simp [ku]) (by decide) (fun h => absurd h (by decide)) (fun h => absurd h (by decide)) (kCo_b hco hnv' hn) hS hl (fun H' locs' ls' hL' hz' hS' hl' => W.widen hco.1 hco.2 (KK _ _ H' locs' ls' hnv' hL' hz' hS' hl'))
set_option maxHeartbeats 4000000 in
set_option maxRecDepth 100000 in
theorem st_setCut (S : CallFix p m c cL_law 8 s #[Value.ref b] wsL_law RL) (hE : kE ε s) (hX : va_X b L xs s s.heap) (hbl : b < s.heap.size) (hlo : ε.2.2.1 = s.heap.size) (hL : L ≤ 2560) (hi : i + 5 ≤ L) (hap : kAp ε A B o od) (hst : l.stackTraces = false) (hnv : kNv n σ τ) (hn : n < 512) (hA2 : ∀ q, H.size ≤ q → A q) (hw : kW ε A ad σ H) (hm : kM ε B bd τ H) (hoJ : ∃ g, kat ε o (kJ ε 1 g) H) (hoD : ∃ g, kat ε od (kD ε 1 g) H) (hS : va_S (kHi ε) s.heap H locs) (hl : lv_has ls 8 [(0, .ref b), (1, .ref (ad 0 0)), (2, .ref (bd 0)), (3, .ref o), (4, .ref od), (5, .int (nI i))]) (KK : ∀ (σ' τ' : kS) (H' : Heap) (locs' : List Loc) (ls' : Array Slot), kNv (n + 1) σ' τ' → kLw ε A B o od (ad 0 0) (bd 0) σ' τ' H' → H.size ≤ H'.size → va_S (kHi ε) s.heap H' locs' → lv_has ls' 8 [(0, .ref b), (1, .ref (ad 0 0)), (2, .ref (bd 0)), (3, .ref o), (4, .ref od), (5, .int (nI i))] → W p l e room_1 s m #[Value.ref b] below meth c H' locs' (kCe (n + 1) σ') (kSl (n + 1) σ') Q (F0 m 1640 ls' [])) : W p l e room_1 s m #[Value.ref b] below meth c H locs (kCe n σ) (kSl n σ) Q (F0 m 407 ls []) := by
  obtain ⟨hA1, hB1, hAB, ⟨hoA, hoB, hoK⟩, ⟨hdA, hdB, hdK⟩, hood⟩ := id hap
  obtain ⟨hR, hB, hmB, hZ, ⟨M, hP⟩, hCb, ht⟩ := id hnv
  have e30 : τ 30 0 = σ 0 0 := hR.1.1
  have e31 : τ 31 0 = σ 1 0 := hR.1.2.1
  have e32 : τ 32 0 = σ 2 0 := hR.1.2.2.1
  have e33 : τ 33 0 = σ 3 0 := hR.1.2.2.2.1
  have e34 : τ 34 0 = σ 4 0 := hR.1.2.2.2.2
  have nR := hB.nR
  have nC := hB.nC
  have nW := hB.nW
  have nA := hB.nA
  obtain ⟨gJ, hoJ⟩ := hoJ
  obtain ⟨gD, hoD⟩ := hoD
  obtain ⟨bb, hz⟩ := kbz (xs (i + 2))
  have ez := kbn bb
  have ev : (if bb then 1 else 0) ≤ 1 := by split <;> decide
  rcases kidx (xs (i + 1)) (N := σ 1 0) (by omega) with ⟨r, hr, e1⟩ | h
  · have hnv' : kNv (n + 1) (ku σ 14 0 (kwr (σ 14 0) r bb)) (ku (mT τ 0) 2 r (if bb then 1 else 0)) := kNv_w hnv (kR_cut hR hB (by omega)) (kB_p14 (j := 0) hB (kwr_lt r (by omega) _ hB.cut bb)) (mB_p2 (mB_t hmB 0) ev) (kZ_o hZ _ _ (by decide) (by decide) (by decide)) (by funext q; simp [ku, ku]) (by funext q; simp [ku, ku]) (by funext q; simp [ku, ku]) (by funext q; simp [ku, ku]) (by funext q; simp [ku, ku]) (by funext q; simp [ku, ku]) (by simp [ku, ku])
    have hco : kCo n (0) (0) σ (ku σ 14 0 (kwr (σ 14 0) r bb)) := kCo_same (by simp [ku]) (by simp [ku]) (by simp [ku]) (by simp [ku])
    exact lq_setCut (σ' := ku σ 14 0 (kwr (σ 14 0) r bb)) (τ' := ku (mT τ 0) 2 r (if bb then 1 else 0)) (v := bI ((σ 14 0).testBit r)) (vm := nI (τ 2 r)) (mc := 0) (ms := 0) (kn := 0) S hE hX hbl hlo hL hi hap hw hm ⟨gJ, hoJ⟩ ⟨gD, hoD⟩ hz (yl_setCut ε l hA1 hoK hoA hw hoJ (post := fun v9 H9 => v9 = bI ((σ 14 0).testBit r) ∧ kW ε A ad (ku σ 14 0 (kwr (σ 14 0) r bb)) H9) (by rw [e1]; exact cp_setCut ε l hA1 hw hB hr) (fun _ _ h => ⟨h.1, ad, rfl, h.2⟩) (bI_01 _)) (fun H1 hm1 => by rw [e1, ez]; exact cm_setCut ε l hB1 hm1 hmB (by rw [e31]; exact hr) ev) (by simp [ku]) (by decide) (fun _ => by rw [hR.2.2.1.1 r (by omega)]; exact kb2 _ _) (fun _ => bI_01 _) (kCo_b hco hnv' hn) hS hl (fun H' locs' ls' hL' hz' hS' hl' => W.widen hco.1 hco.2 (KK _ _ H' locs' ls' hnv' hL' hz' hS' hl'))
  · have hnv' : kNv (n + 1) (σ) (mT τ 1) := (kNv_t hnv 1)
    have hco : kCo n (1) (6) σ (σ) := kCo_x n σ
    exact lq_setCut (σ' := σ) (τ' := mT τ 1) (v := 0) (vm := 0) (mc := 1) (ms := 6) (kn := 1) S hE hX hbl hlo hL hi hap hw hm ⟨gJ, hoJ⟩ ⟨gD, hoD⟩ hz (yl_setCutX1 ε l 0 hA1 hoK hoA hw hoJ (by exact cpx_setCut ε l hw hB hst h)) (fun H1 hm1 => by rw [ez]; exact cm_setCutX ε l hB1 hm1 hmB (by rw [e31]; exact h)) (by simp [ku]) (by decide) (fun h => absurd h (by decide)) (fun h => absurd h (by decide)) (kCo_b hco hnv' hn) hS hl (fun H' locs' ls' hL' hz' hS' hl' => W.widen hco.1 hco.2 (KK _ _ H' locs' ls' hnv' hL' hz' hS' hl'))
set_option maxHeartbeats 4000000 in
set_option maxRecDepth 100000 in
theorem st_setQuorum (S : CallFix p m c cL_law 8 s #[Value.ref b] wsL_law RL) (hE : kE ε s) (hX : va_X b L xs s s.heap) (hbl : b < s.heap.size) (hlo : ε.2.2.1 = s.heap.size) (hL : L ≤ 2560) (hi : i + 5 ≤ L) (hap : kAp ε A B o od) (hst : l.stackTraces = false) (hnv : kNv n σ τ) (hn : n < 512) (hA2 : ∀ q, H.size ≤ q → A q) (hw : kW ε A ad σ H) (hm : kM ε B bd τ H) (hoJ : ∃ g, kat ε o (kJ ε 1 g) H) (hoD : ∃ g, kat ε od (kD ε 1 g) H) (hS : va_S (kHi ε) s.heap H locs) (hl : lv_has ls 8 [(0, .ref b), (1, .ref (ad 0 0)), (2, .ref (bd 0)), (3, .ref o), (4, .ref od), (5, .int (nI i))]) (KK : ∀ (σ' τ' : kS) (H' : Heap) (locs' : List Loc) (ls' : Array Slot), kNv (n + 1) σ' τ' → kLw ε A B o od (ad 0 0) (bd 0) σ' τ' H' → H.size ≤ H'.size → va_S (kHi ε) s.heap H' locs' → lv_has ls' 8 [(0, .ref b), (1, .ref (ad 0 0)), (2, .ref (bd 0)), (3, .ref o), (4, .ref od), (5, .int (nI i))] → W p l e room_1 s m #[Value.ref b] below meth c H' locs' (kCe (n + 1) σ') (kSl (n + 1) σ') Q (F0 m 1640 ls' [])) : W p l e room_1 s m #[Value.ref b] below meth c H locs (kCe n σ) (kSl n σ) Q (F0 m 498 ls []) := by
  obtain ⟨hA1, hB1, hAB, ⟨hoA, hoB, hoK⟩, ⟨hdA, hdB, hdK⟩, hood⟩ := id hap
  obtain ⟨hR, hB, hmB, hZ, ⟨M, hP⟩, hCb, ht⟩ := id hnv
  have e30 : τ 30 0 = σ 0 0 := hR.1.1
  have e31 : τ 31 0 = σ 1 0 := hR.1.2.1
  have e32 : τ 32 0 = σ 2 0 := hR.1.2.2.1
  have e33 : τ 33 0 = σ 3 0 := hR.1.2.2.2.1
  have e34 : τ 34 0 = σ 4 0 := hR.1.2.2.2.2
  have nR := hB.nR
  have nC := hB.nC
  have nW := hB.nW
  have nA := hB.nA
  obtain ⟨gJ, hoJ⟩ := hoJ
  obtain ⟨gD, hoD⟩ := hoD
  rcases kidx (xs (i + 1)) (N := σ 2 0) (by omega) with ⟨j, hj, e1⟩ | h
  · rcases krng1 (xs (i + 2)) 6 (n := 6) (by decide) with h | ⟨a2, b2, t, p2, q2, e2⟩
    · have hnv' : kNv (n + 1) (σ) (mT τ 2) := (kNv_t hnv 2)
      have hco : kCo n (1) (6) σ (σ) := kCo_x n σ
      exact lq_setQuorum (σ' := σ) (τ' := mT τ 2) (v := 0) (vm := 0) (mc := 1) (ms := 6) (kn := 2) S hE hX hbl hlo hL hi hap hw hm ⟨gJ, hoJ⟩ ⟨gD, hoD⟩ (yl_setQuorumX2 ε l 0 hA1 hoK hoA hw hoJ (by rw [e1]; exact cpx_setQuorum2 ε l hw hB hst hj h)) (fun H1 hm1 => by rw [e1]; exact cm_setQuorumX2 ε l hB1 hm1 hmB (by rw [e32]; exact hj) h) (by simp [ku]) (by decide) (fun h => absurd h (by decide)) (kCo_b hco hnv' hn) hS hl (fun H' locs' ls' hL' hz' hS' hl' => W.widen hco.1 hco.2 (KK _ _ H' locs' ls' hnv' hL' hz' hS' hl'))
    · have hnv' : kNv (n + 1) (ku σ 23 j t) (ku (mT τ 0) 9 j t) := kNv_w hnv (kR_quo hR j t) (kB_p23 hB ⟨p2, q2⟩) (mB_p9 (mB_t hmB 0) ⟨p2, q2⟩) (kZ_o hZ _ _ (by decide) (by decide) (by decide)) (by funext q; simp [ku, ku]) (by funext q; simp [ku, ku]) (by funext q; simp [ku, ku]) (by funext q; simp [ku, ku]) (by funext q; simp [ku, ku]) (by funext q; simp [ku, ku]) (by simp [ku, ku])
      have hco : kCo n (0) (0) σ (ku σ 23 j t) := kCo_same (by simp [ku]) (by simp [ku]) (by simp [ku]) (by simp [ku])
      exact lq_setQuorum (σ' := ku σ 23 j t) (τ' := ku (mT τ 0) 9 j t) (v := nI (σ 23 j)) (vm := nI (τ 9 j)) (mc := 0) (ms := 0) (kn := 0) S hE hX hbl hlo hL hi hap hw hm ⟨gJ, hoJ⟩ ⟨gD, hoD⟩ (yl_setQuorum ε l hA1 hoK hoA hw hoJ (post := fun v9 H9 => v9 = nI (σ 23 j) ∧ kW ε A ad (ku σ 23 j t) H9) (by rw [e1, e2]; exact cp_setQuorum ε l hA1 hw hB hj p2 q2) (fun _ _ h => ⟨h.1, ad, rfl, h.2⟩)) (fun H1 hm1 => by rw [e1, e2]; exact cm_setQuorum ε l hB1 hm1 hmB (by rw [e32]; exact hj) p2 q2) (by simp [ku]) (by decide) (fun _ => by rw [hR.2.1.2.2.2.2.2.1]) (kCo_b hco hnv' hn) hS hl (fun H' locs' ls' hL' hz' hS' hl' => W.widen hco.1 hco.2 (KK _ _ H' locs' ls' hnv' hL' hz' hS' hl'))
  · have hnv' : kNv (n + 1) (σ) (mT τ 1) := (kNv_t hnv 1)
    have hco : kCo n (1) (6) σ (σ) := kCo_x n σ
    exact lq_setQuorum (σ' := σ) (τ' := mT τ 1) (v := 0) (vm := 0) (mc := 1) (ms := 6) (kn := 1) S hE hX hbl hlo hL hi hap hw hm ⟨gJ, hoJ⟩ ⟨gD, hoD⟩ (yl_setQuorumX1 ε l 0 hA1 hoK hoA hw hoJ (by exact cpx_setQuorum1 ε l hw hB hst h)) (fun H1 hm1 => by exact cm_setQuorumX1 ε l hB1 hm1 hmB (by rw [e32]; exact h)) (by simp [ku]) (by decide) (fun h => absurd h (by decide)) (kCo_b hco hnv' hn) hS hl (fun H' locs' ls' hL' hz' hS' hl' => W.widen hco.1 hco.2 (KK _ _ H' locs' ls' hnv' hL' hz' hS' hl'))
set_option maxHeartbeats 4000000 in
set_option maxRecDepth 100000 in
theorem st_addWindow (S : CallFix p m c cL_law 8 s #[Value.ref b] wsL_law RL) (hE : kE ε s) (hX : va_X b L xs s s.heap) (hbl : b < s.heap.size) (hlo : ε.2.2.1 = s.heap.size) (hL : L ≤ 2560) (hi : i + 5 ≤ L) (hap : kAp ε A B o od) (hst : l.stackTraces = false) (hnv : kNv n σ τ) (hn : n < 512) (hA2 : ∀ q, H.size ≤ q → A q) (hw : kW ε A ad σ H) (hm : kM ε B bd τ H) (hoJ : ∃ g, kat ε o (kJ ε 1 g) H) (hoD : ∃ g, kat ε od (kD ε 1 g) H) (hS : va_S (kHi ε) s.heap H locs) (hl : lv_has ls 8 [(0, .ref b), (1, .ref (ad 0 0)), (2, .ref (bd 0)), (3, .ref o), (4, .ref od), (5, .int (nI i))]) (KK : ∀ (σ' τ' : kS) (H' : Heap) (locs' : List Loc) (ls' : Array Slot), kNv (n + 1) σ' τ' → kLw ε A B o od (ad 0 0) (bd 0) σ' τ' H' → H.size ≤ H'.size → va_S (kHi ε) s.heap H' locs' → lv_has ls' 8 [(0, .ref b), (1, .ref (ad 0 0)), (2, .ref (bd 0)), (3, .ref o), (4, .ref od), (5, .int (nI i))] → W p l e room_1 s m #[Value.ref b] below meth c H' locs' (kCe (n + 1) σ') (kSl (n + 1) σ') Q (F0 m 1640 ls' [])) : W p l e room_1 s m #[Value.ref b] below meth c H locs (kCe n σ) (kSl n σ) Q (F0 m 566 ls []) := by
  obtain ⟨hA1, hB1, hAB, ⟨hoA, hoB, hoK⟩, ⟨hdA, hdB, hdK⟩, hood⟩ := id hap
  obtain ⟨hR, hB, hmB, hZ, ⟨M, hP⟩, hCb, ht⟩ := id hnv
  have e30 : τ 30 0 = σ 0 0 := hR.1.1
  have e31 : τ 31 0 = σ 1 0 := hR.1.2.1
  have e32 : τ 32 0 = σ 2 0 := hR.1.2.2.1
  have e33 : τ 33 0 = σ 3 0 := hR.1.2.2.2.1
  have e34 : τ 34 0 = σ 4 0 := hR.1.2.2.2.2
  have nR := hB.nR
  have nC := hB.nC
  have nW := hB.nW
  have nA := hB.nA
  obtain ⟨gJ, hoJ⟩ := hoJ
  obtain ⟨gD, hoD⟩ := hoD
  rcases kidx (xs (i + 1)) (N := σ 2 0) (by omega) with ⟨j, hj, e1⟩ | h
  · rcases krng0 (xs (i + 2)) 100000 (n := 100000) (by decide) with h | ⟨a1, b1, t1, q1, e2⟩
    · have hnv' : kNv (n + 1) (σ) (mT τ 2) := (kNv_t hnv 2)
      have hco : kCo n (1) (6) σ (σ) := kCo_x n σ
      exact lq_addWindow (σ' := σ) (τ' := mT τ 2) (v := 0) (vm := 0) (mc := 1) (ms := 6) (kn := 2) S hE hX hbl hlo hL hi hap hw hm ⟨gJ, hoJ⟩ ⟨gD, hoD⟩ (yl_addWindowX2 ε l 0 hA1 hoK hoA hw hoJ (by rw [e1]; exact cpx_addWindow2 ε l hw hB hst hj h)) (fun H1 hm1 => by rw [e1]; exact cm_addWindowX2 ε l hB1 hm1 hmB (by rw [e32]; exact hj) h) (by simp [ku]) (by decide) (fun h => absurd h (by decide)) (kCo_b hco hnv' hn) hS hl (fun H' locs' ls' hL' hz' hS' hl' => W.widen hco.1 hco.2 (KK _ _ H' locs' ls' hnv' hL' hz' hS' hl'))
    · rcases krng1 (xs (i + 3)) 10000 (n := 10000) (by decide) with h | ⟨a2, b2, t2, p2, q2, e3⟩
      · have hnv' : kNv (n + 1) (σ) (mT τ 2) := (kNv_t hnv 2)
        have hco : kCo n (1) (6) σ (σ) := kCo_x n σ
        exact lq_addWindow (σ' := σ) (τ' := mT τ 2) (v := 0) (vm := 0) (mc := 1) (ms := 6) (kn := 2) S hE hX hbl hlo hL hi hap hw hm ⟨gJ, hoJ⟩ ⟨gD, hoD⟩ (yl_addWindowX2 ε l 0 hA1 hoK hoA hw hoJ (by rw [e1]; exact cpx_addWindow3 ε l hw hB hst hj a1 b1 h)) (fun H1 hm1 => by rw [e1]; exact cm_addWindowX3 ε l hB1 hm1 hmB (by rw [e32]; exact hj) a1 b1 h) (by simp [ku]) (by decide) (fun h => absurd h (by decide)) (kCo_b hco hnv' hn) hS hl (fun H' locs' ls' hL' hz' hS' hl' => W.widen hco.1 hco.2 (KK _ _ H' locs' ls' hnv' hL' hz' hS' hl'))
      · rcases Nat.lt_or_ge (σ 3 0) 12 with h12 | h12
        · have hnv' : kNv (n + 1) (kAddW σ j t1 t2) (mAddW τ j t1 t2) := kNv_w hnv (kR_addW hR p2) (kB_addW hB hj q1 q2 h12) (mB_addW hmB (by rw [e32]; exact hj) q1 q2 (by rw [e33]; exact h12)) (kZ_addW hZ _ _ _) (by funext q; simp [kAddW, ku]) (by funext q; simp [kAddW, ku]) (by funext q; simp [kAddW, ku]) (by funext q; simp [kAddW, ku]) (by funext q; simp [kAddW, ku]) (by funext q; simp [kAddW, ku]) (by simp [kAddW, ku])
          have hco : kCo n (1 + kgc (σ 3 0)) (3 + kgs (σ 3 0)) σ (kAddW σ j t1 t2) := kCo_addW h12
          exact lq_addWindow (σ' := kAddW σ j t1 t2) (τ' := mAddW τ j t1 t2) (v := nI (σ 3 0)) (vm := nI (τ 33 0)) (mc := 1 + kgc (σ 3 0)) (ms := 3 + kgs (σ 3 0)) (kn := 0) S hE hX hbl hlo hL hi hap hw hm ⟨gJ, hoJ⟩ ⟨gD, hoD⟩ (yl_addWindow ε l hA1 hoK hoA hw hoJ (by rw [e1, e2, e3]; exact cp_addWindow ε l hA1 hw hB hj q1 p2 q2 h12 hA2) (fun _ _ h => h)) (fun H1 hm1 => by rw [e1, e2, e3]; exact cm_addWindow ε l hB1 hm1 hmB (by rw [e32]; exact hj) q1 p2 q2 (by rw [e33]; exact h12)) (by simp [mAddW, ku]) (by decide) (fun _ => by rw [e33]) (kCo_b hco hnv' hn) hS hl (fun H' locs' ls' hL' hz' hS' hl' => W.widen hco.1 hco.2 (KK _ _ H' locs' ls' hnv' hL' hz' hS' hl'))
        · have hnv' : kNv (n + 1) (σ) (mT τ 3) := (kNv_t hnv 3)
          have hco : kCo n (1) (6) σ (σ) := kCo_x n σ
          exact lq_addWindow (σ' := σ) (τ' := mT τ 3) (v := 0) (vm := 0) (mc := 1) (ms := 6) (kn := 3) S hE hX hbl hlo hL hi hap hw hm ⟨gJ, hoJ⟩ ⟨gD, hoD⟩ (yl_addWindowX3 ε l 0 hA1 hoK hoA hw hoJ (by rw [e1]; exact cpx_addWindow4 ε l hw hB hst hj a1 b1 a2 b2 h12)) (fun H1 hm1 => by rw [e1]; exact cm_addWindowX4 ε l hB1 hm1 hmB (by rw [e32]; exact hj) a1 b1 a2 b2 (by omega)) (by simp [ku]) (by decide) (fun h => absurd h (by decide)) (kCo_b hco hnv' hn) hS hl (fun H' locs' ls' hL' hz' hS' hl' => W.widen hco.1 hco.2 (KK _ _ H' locs' ls' hnv' hL' hz' hS' hl'))
  · have hnv' : kNv (n + 1) (σ) (mT τ 1) := (kNv_t hnv 1)
    have hco : kCo n (1) (6) σ (σ) := kCo_x n σ
    exact lq_addWindow (σ' := σ) (τ' := mT τ 1) (v := 0) (vm := 0) (mc := 1) (ms := 6) (kn := 1) S hE hX hbl hlo hL hi hap hw hm ⟨gJ, hoJ⟩ ⟨gD, hoD⟩ (yl_addWindowX1 ε l 0 hA1 hoK hoA hw hoJ (by exact cpx_addWindow1 ε l hw hB hst h)) (fun H1 hm1 => by exact cm_addWindowX1 ε l hB1 hm1 hmB (by rw [e32]; exact h)) (by simp [ku]) (by decide) (fun h => absurd h (by decide)) (kCo_b hco hnv' hn) hS hl (fun H' locs' ls' hL' hz' hS' hl' => W.widen hco.1 hco.2 (KK _ _ H' locs' ls' hnv' hL' hz' hS' hl'))
set_option maxHeartbeats 4000000 in
set_option maxRecDepth 100000 in
theorem st_endWindow (S : CallFix p m c cL_law 8 s #[Value.ref b] wsL_law RL) (hE : kE ε s) (hX : va_X b L xs s s.heap) (hbl : b < s.heap.size) (hlo : ε.2.2.1 = s.heap.size) (hL : L ≤ 2560) (hi : i + 5 ≤ L) (hap : kAp ε A B o od) (hst : l.stackTraces = false) (hnv : kNv n σ τ) (hn : n < 512) (hA2 : ∀ q, H.size ≤ q → A q) (hw : kW ε A ad σ H) (hm : kM ε B bd τ H) (hoJ : ∃ g, kat ε o (kJ ε 1 g) H) (hoD : ∃ g, kat ε od (kD ε 1 g) H) (hS : va_S (kHi ε) s.heap H locs) (hl : lv_has ls 8 [(0, .ref b), (1, .ref (ad 0 0)), (2, .ref (bd 0)), (3, .ref o), (4, .ref od), (5, .int (nI i))]) (KK : ∀ (σ' τ' : kS) (H' : Heap) (locs' : List Loc) (ls' : Array Slot), kNv (n + 1) σ' τ' → kLw ε A B o od (ad 0 0) (bd 0) σ' τ' H' → H.size ≤ H'.size → va_S (kHi ε) s.heap H' locs' → lv_has ls' 8 [(0, .ref b), (1, .ref (ad 0 0)), (2, .ref (bd 0)), (3, .ref o), (4, .ref od), (5, .int (nI i))] → W p l e room_1 s m #[Value.ref b] below meth c H' locs' (kCe (n + 1) σ') (kSl (n + 1) σ') Q (F0 m 1640 ls' [])) : W p l e room_1 s m #[Value.ref b] below meth c H locs (kCe n σ) (kSl n σ) Q (F0 m 646 ls []) := by
  obtain ⟨hA1, hB1, hAB, ⟨hoA, hoB, hoK⟩, ⟨hdA, hdB, hdK⟩, hood⟩ := id hap
  obtain ⟨hR, hB, hmB, hZ, ⟨M, hP⟩, hCb, ht⟩ := id hnv
  have e30 : τ 30 0 = σ 0 0 := hR.1.1
  have e31 : τ 31 0 = σ 1 0 := hR.1.2.1
  have e32 : τ 32 0 = σ 2 0 := hR.1.2.2.1
  have e33 : τ 33 0 = σ 3 0 := hR.1.2.2.2.1
  have e34 : τ 34 0 = σ 4 0 := hR.1.2.2.2.2
  have nR := hB.nR
  have nC := hB.nC
  have nW := hB.nW
  have nA := hB.nA
  obtain ⟨gJ, hoJ⟩ := hoJ
  obtain ⟨gD, hoD⟩ := hoD
  rcases kidx (xs (i + 1)) (N := σ 3 0) (by omega) with ⟨j, hj, e1⟩ | h
  · have w19 : τ 19 j = σ 41 j := by rw [hR.2.1.2.2.2.2.2.2.2.2.2.2.2.2.2]
    have w20 : τ 20 j = max (σ 42 j + 1) (σ 41 j) := hR.2.2.2.2.2.1 j hj
    have wb := hmB.wn j (by rw [e33]; exact hj)
    have wk := hB.wn j hj
    have hnv' : kNv (n + 1) (ku σ 42 j (min (σ 0 0) (σ 42 j))) (ku (mT τ 0) 20 j (max (min (τ 30 0 + 1) (τ 20 j)) (τ 19 j))) := kNv_w hnv (kR_endW hR hj) (kB_p42 hB (by omega)) (mB_p20 (mB_t hmB 0) (by omega)) (kZ_o hZ _ _ (by decide) (by decide) (by decide)) (by funext q; simp [ku, ku]) (by funext q; simp [ku, ku]) (by funext q; simp [ku, ku]) (by funext q; simp [ku, ku]) (by funext q; simp [ku, ku]) (by funext q; simp [ku, ku]) (by simp [ku, ku])
    have hco : kCo n (0) (0) σ (ku σ 42 j (min (σ 0 0) (σ 42 j))) := kCo_same (by simp [ku]) (by simp [ku]) (by simp [ku]) (by simp [ku])
    exact lq_endWindow (σ' := ku σ 42 j (min (σ 0 0) (σ 42 j))) (τ' := ku (mT τ 0) 20 j (max (min (τ 30 0 + 1) (τ 20 j)) (τ 19 j))) (v := nI (min (σ 0 0) (σ 42 j) + 1 - σ 41 j)) (vm := nI (max (min (τ 30 0 + 1) (τ 20 j)) (τ 19 j) - τ 19 j)) (mc := 0) (ms := 0) (kn := 0) S hE hX hbl hlo hL hi hap hw hm ⟨gJ, hoJ⟩ ⟨gD, hoD⟩ (yl_endWindow ε l hA1 hoK hoA hw hoJ (post := fun v9 H9 => v9 = nI (min (σ 0 0) (σ 42 j) + 1 - σ 41 j) ∧ kW ε A ad (ku σ 42 j (min (σ 0 0) (σ 42 j))) H9) (by rw [e1]; exact cp_endWindow ε l hA1 hw hB hj) (fun _ _ h => ⟨h.1, ad, rfl, h.2⟩)) (fun H1 hm1 => by rw [e1]; exact cm_endWindow ε l hB1 hm1 hmB (by rw [e33]; exact hj)) (by simp [ku]) (by decide) (fun _ => congrArg nI (by rw [e30, w19, w20]; omega)) (kCo_b hco hnv' hn) hS hl (fun H' locs' ls' hL' hz' hS' hl' => W.widen hco.1 hco.2 (KK _ _ H' locs' ls' hnv' hL' hz' hS' hl'))
  · have hnv' : kNv (n + 1) (σ) (mT τ 1) := (kNv_t hnv 1)
    have hco : kCo n (1) (6) σ (σ) := kCo_x n σ
    exact lq_endWindow (σ' := σ) (τ' := mT τ 1) (v := 0) (vm := 0) (mc := 1) (ms := 6) (kn := 1) S hE hX hbl hlo hL hi hap hw hm ⟨gJ, hoJ⟩ ⟨gD, hoD⟩ (yl_endWindowX1 ε l 0 hA1 hoK hoA hw hoJ (by exact cpx_endWindow ε l hw hB hst h)) (fun H1 hm1 => by exact cm_endWindowX ε l hB1 hm1 hmB (by rw [e33]; exact h)) (by simp [ku]) (by decide) (fun h => absurd h (by decide)) (kCo_b hco hnv' hn) hS hl (fun H' locs' ls' hL' hz' hS' hl' => W.widen hco.1 hco.2 (KK _ _ H' locs' ls' hnv' hL' hz' hS' hl'))
set_option maxHeartbeats 4000000 in
set_option maxRecDepth 100000 in
theorem st_pass (S : CallFix p m c cL_law 8 s #[Value.ref b] wsL_law RL) (hE : kE ε s) (hX : va_X b L xs s s.heap) (hbl : b < s.heap.size) (hlo : ε.2.2.1 = s.heap.size) (hL : L ≤ 2560) (hi : i + 5 ≤ L) (hap : kAp ε A B o od) (hst : l.stackTraces = false) (hnv : kNv n σ τ) (hn : n < 512) (hA2 : ∀ q, H.size ≤ q → A q) (hw : kW ε A ad σ H) (hm : kM ε B bd τ H) (hoJ : ∃ g, kat ε o (kJ ε 1 g) H) (hoD : ∃ g, kat ε od (kD ε 1 g) H) (hS : va_S (kHi ε) s.heap H locs) (hl : lv_has ls 8 [(0, .ref b), (1, .ref (ad 0 0)), (2, .ref (bd 0)), (3, .ref o), (4, .ref od), (5, .int (nI i))]) (KK : ∀ (σ' τ' : kS) (H' : Heap) (locs' : List Loc) (ls' : Array Slot), kNv (n + 1) σ' τ' → kLw ε A B o od (ad 0 0) (bd 0) σ' τ' H' → H.size ≤ H'.size → va_S (kHi ε) s.heap H' locs' → lv_has ls' 8 [(0, .ref b), (1, .ref (ad 0 0)), (2, .ref (bd 0)), (3, .ref o), (4, .ref od), (5, .int (nI i))] → W p l e room_1 s m #[Value.ref b] below meth c H' locs' (kCe (n + 1) σ') (kSl (n + 1) σ') Q (F0 m 1640 ls' [])) : W p l e room_1 s m #[Value.ref b] below meth c H locs (kCe n σ) (kSl n σ) Q (F0 m 702 ls []) := by
  obtain ⟨hA1, hB1, hAB, ⟨hoA, hoB, hoK⟩, ⟨hdA, hdB, hdK⟩, hood⟩ := id hap
  obtain ⟨hR, hB, hmB, hZ, ⟨M, hP⟩, hCb, ht⟩ := id hnv
  have e30 : τ 30 0 = σ 0 0 := hR.1.1
  have e31 : τ 31 0 = σ 1 0 := hR.1.2.1
  have e32 : τ 32 0 = σ 2 0 := hR.1.2.2.1
  have e33 : τ 33 0 = σ 3 0 := hR.1.2.2.2.1
  have e34 : τ 34 0 = σ 4 0 := hR.1.2.2.2.2
  have nR := hB.nR
  have nC := hB.nC
  have nW := hB.nW
  have nA := hB.nA
  obtain ⟨gJ, hoJ⟩ := hoJ
  obtain ⟨gD, hoD⟩ := hoD
  rcases krng1 (xs (i + 1)) 200 (n := 200) (by decide) with h | ⟨a1, b1, t, p1, q1, e1⟩
  · have hnv' : kNv (n + 1) (σ) (mT τ 1) := (kNv_t hnv 1)
    have hco : kCo n (1) (6) σ (σ) := kCo_x n σ
    exact lq_pass (σ' := σ) (τ' := mT τ 1) (v := 0) (vm := 0) (mc := 1) (ms := 6) (kn := 1) S hE hX hbl hlo hL hi hap hw hm ⟨gJ, hoJ⟩ ⟨gD, hoD⟩ (yl_passX1 ε l 0 hA1 hoK hoA hw hoJ (by exact cpx_pass ε l hw hB hst h)) (fun H1 hm1 => by exact cm_passX ε l hB1 hm1 hmB h) (by simp [ku]) (by decide) (fun h => absurd h (by decide)) (kCo_b hco hnv' hn) hS hl (fun H' locs' ls' hL' hz' hS' hl' => W.widen hco.1 hco.2 (KK _ _ H' locs' ls' hnv' hL' hz' hS' hl'))
  · obtain ⟨f1, f2, f3, f4, f5⟩ := kNv_pass hnv hn p1 q1
    have g1 := kPass_in hB t f1 f2
    have g2 := mPass_in (mB_t hmB 0) t (by show τ 30 0 + t ≤ 102400; rw [e30]; exact f1) f3
    have hnv' : kNv (n + 1) (kPass t σ) (mPass t (mT τ 0)) := f5
    have hco : kCo n (kTc (kPass t σ 4 0) - kTc (σ 4 0)) (kTs (kPass t σ 4 0) - kTs (σ 4 0)) σ (kPass t σ) := kCo_pass g1.2.2.1 g1.2.2.2.1 g1.2.2.2.2.1 g1.2.2.2.2.2
    exact lq_pass (σ' := kPass t σ) (τ' := mPass t (mT τ 0)) (v := nI (kPass t σ 4 0 - σ 4 0)) (vm := nI (mPass t (mT τ 0) 34 0 - τ 34 0)) (mc := kTc (kPass t σ 4 0) - kTc (σ 4 0)) (ms := kTs (kPass t σ 4 0) - kTs (σ 4 0)) (kn := 0) S hE hX hbl hlo hL hi hap hw hm ⟨gJ, hoJ⟩ ⟨gD, hoD⟩ (yl_pass ε l hA1 hoK hoA hw hoJ (by rw [e1]; exact cc_pass0 ε l hA1 hw hB rfl p1 q1 f1 hA2 f2) (fun _ _ h => h)) (fun H1 hm1 => by rw [e1]; exact cm_pass ε l hB1 hm1 hmB p1 q1 (by rw [e30]; exact f1) f3) (g2.2.2.2.2.2.1.trans (by simp [ku])) (by decide) (fun _ => by rw [f4, e34]) (kCo_b hco hnv' hn) hS hl (fun H' locs' ls' hL' hz' hS' hl' => W.widen hco.1 hco.2 (KK _ _ H' locs' ls' hnv' hL' hz' hS' hl'))
set_option maxHeartbeats 4000000 in
set_option maxRecDepth 100000 in
theorem st_minute (S : CallFix p m c cL_law 8 s #[Value.ref b] wsL_law RL) (hE : kE ε s) (hX : va_X b L xs s s.heap) (hbl : b < s.heap.size) (hlo : ε.2.2.1 = s.heap.size) (hL : L ≤ 2560) (hi : i + 5 ≤ L) (hap : kAp ε A B o od) (hst : l.stackTraces = false) (hnv : kNv n σ τ) (hn : n < 512) (hA2 : ∀ q, H.size ≤ q → A q) (hw : kW ε A ad σ H) (hm : kM ε B bd τ H) (hoJ : ∃ g, kat ε o (kJ ε 1 g) H) (hoD : ∃ g, kat ε od (kD ε 1 g) H) (hS : va_S (kHi ε) s.heap H locs) (hl : lv_has ls 8 [(0, .ref b), (1, .ref (ad 0 0)), (2, .ref (bd 0)), (3, .ref o), (4, .ref od), (5, .int (nI i))]) (KK : ∀ (σ' τ' : kS) (H' : Heap) (locs' : List Loc) (ls' : Array Slot), kNv (n + 1) σ' τ' → kLw ε A B o od (ad 0 0) (bd 0) σ' τ' H' → H.size ≤ H'.size → va_S (kHi ε) s.heap H' locs' → lv_has ls' 8 [(0, .ref b), (1, .ref (ad 0 0)), (2, .ref (bd 0)), (3, .ref o), (4, .ref od), (5, .int (nI i))] → W p l e room_1 s m #[Value.ref b] below meth c H' locs' (kCe (n + 1) σ') (kSl (n + 1) σ') Q (F0 m 1640 ls' [])) : W p l e room_1 s m #[Value.ref b] below meth c H locs (kCe n σ) (kSl n σ) Q (F0 m 758 ls []) := by
  obtain ⟨hA1, hB1, hAB, ⟨hoA, hoB, hoK⟩, ⟨hdA, hdB, hdK⟩, hood⟩ := id hap
  obtain ⟨hR, hB, hmB, hZ, ⟨M, hP⟩, hCb, ht⟩ := id hnv
  have e30 : τ 30 0 = σ 0 0 := hR.1.1
  have e31 : τ 31 0 = σ 1 0 := hR.1.2.1
  have e32 : τ 32 0 = σ 2 0 := hR.1.2.2.1
  have e33 : τ 33 0 = σ 3 0 := hR.1.2.2.2.1
  have e34 : τ 34 0 = σ 4 0 := hR.1.2.2.2.2
  have nR := hB.nR
  have nC := hB.nC
  have nW := hB.nW
  have nA := hB.nA
  obtain ⟨gJ, hoJ⟩ := hoJ
  obtain ⟨gD, hoD⟩ := hoD
  have hnv' : kNv (n + 1) σ (mT τ 0) := kNv_t hnv 0
  have hco := kCo_rd n σ
  exact lq_minute (σ' := σ) (τ' := mT τ 0) (v := nI (σ 0 0)) (vm := nI (τ 30 0)) S hE hX hbl hlo hL hi hap hw hm ⟨gJ, hoJ⟩ ⟨gD, hoD⟩ (cp_minute ε l hw hB) (fun H1 hm1 => cm_minute ε l hB1 hm1 hmB) (by rw [e30]) rfl (kCo_b hco hnv' hn) hS hl (fun H' locs' ls' hL' hz' hS' hl' => W.widen hco.1 hco.2 (KK _ _ H' locs' ls' hnv' hL' hz' hS' hl'))
set_option maxHeartbeats 4000000 in
set_option maxRecDepth 100000 in
theorem st_alarms (S : CallFix p m c cL_law 8 s #[Value.ref b] wsL_law RL) (hE : kE ε s) (hX : va_X b L xs s s.heap) (hbl : b < s.heap.size) (hlo : ε.2.2.1 = s.heap.size) (hL : L ≤ 2560) (hi : i + 5 ≤ L) (hap : kAp ε A B o od) (hst : l.stackTraces = false) (hnv : kNv n σ τ) (hn : n < 512) (hA2 : ∀ q, H.size ≤ q → A q) (hw : kW ε A ad σ H) (hm : kM ε B bd τ H) (hoJ : ∃ g, kat ε o (kJ ε 1 g) H) (hoD : ∃ g, kat ε od (kD ε 1 g) H) (hS : va_S (kHi ε) s.heap H locs) (hl : lv_has ls 8 [(0, .ref b), (1, .ref (ad 0 0)), (2, .ref (bd 0)), (3, .ref o), (4, .ref od), (5, .int (nI i))]) (KK : ∀ (σ' τ' : kS) (H' : Heap) (locs' : List Loc) (ls' : Array Slot), kNv (n + 1) σ' τ' → kLw ε A B o od (ad 0 0) (bd 0) σ' τ' H' → H.size ≤ H'.size → va_S (kHi ε) s.heap H' locs' → lv_has ls' 8 [(0, .ref b), (1, .ref (ad 0 0)), (2, .ref (bd 0)), (3, .ref o), (4, .ref od), (5, .int (nI i))] → W p l e room_1 s m #[Value.ref b] below meth c H' locs' (kCe (n + 1) σ') (kSl (n + 1) σ') Q (F0 m 1640 ls' [])) : W p l e room_1 s m #[Value.ref b] below meth c H locs (kCe n σ) (kSl n σ) Q (F0 m 1318 ls []) := by
  obtain ⟨hA1, hB1, hAB, ⟨hoA, hoB, hoK⟩, ⟨hdA, hdB, hdK⟩, hood⟩ := id hap
  obtain ⟨hR, hB, hmB, hZ, ⟨M, hP⟩, hCb, ht⟩ := id hnv
  have e30 : τ 30 0 = σ 0 0 := hR.1.1
  have e31 : τ 31 0 = σ 1 0 := hR.1.2.1
  have e32 : τ 32 0 = σ 2 0 := hR.1.2.2.1
  have e33 : τ 33 0 = σ 3 0 := hR.1.2.2.2.1
  have e34 : τ 34 0 = σ 4 0 := hR.1.2.2.2.2
  have nR := hB.nR
  have nC := hB.nC
  have nW := hB.nW
  have nA := hB.nA
  obtain ⟨gJ, hoJ⟩ := hoJ
  obtain ⟨gD, hoD⟩ := hoD
  have hnv' : kNv (n + 1) σ (mT τ 0) := kNv_t hnv 0
  have hco := kCo_rd n σ
  exact lq_alarms (σ' := σ) (τ' := mT τ 0) (v := nI (σ 4 0)) (vm := nI (τ 34 0)) S hE hX hbl hlo hL hi hap hw hm ⟨gJ, hoJ⟩ ⟨gD, hoD⟩ (cp_alarms ε l hw hB) (fun H1 hm1 => cm_alarms ε l hB1 hm1 hmB) (by rw [e34]) rfl (kCo_b hco hnv' hn) hS hl (fun H' locs' ls' hL' hz' hS' hl' => W.widen hco.1 hco.2 (KK _ _ H' locs' ls' hnv' hL' hz' hS' hl'))
set_option maxHeartbeats 4000000 in
set_option maxRecDepth 100000 in
theorem st_failing (S : CallFix p m c cL_law 8 s #[Value.ref b] wsL_law RL) (hE : kE ε s) (hX : va_X b L xs s s.heap) (hbl : b < s.heap.size) (hlo : ε.2.2.1 = s.heap.size) (hL : L ≤ 2560) (hi : i + 5 ≤ L) (hap : kAp ε A B o od) (hst : l.stackTraces = false) (hnv : kNv n σ τ) (hn : n < 512) (hA2 : ∀ q, H.size ≤ q → A q) (hw : kW ε A ad σ H) (hm : kM ε B bd τ H) (hoJ : ∃ g, kat ε o (kJ ε 1 g) H) (hoD : ∃ g, kat ε od (kD ε 1 g) H) (hS : va_S (kHi ε) s.heap H locs) (hl : lv_has ls 8 [(0, .ref b), (1, .ref (ad 0 0)), (2, .ref (bd 0)), (3, .ref o), (4, .ref od), (5, .int (nI i))]) (KK : ∀ (σ' τ' : kS) (H' : Heap) (locs' : List Loc) (ls' : Array Slot), kNv (n + 1) σ' τ' → kLw ε A B o od (ad 0 0) (bd 0) σ' τ' H' → H.size ≤ H'.size → va_S (kHi ε) s.heap H' locs' → lv_has ls' 8 [(0, .ref b), (1, .ref (ad 0 0)), (2, .ref (bd 0)), (3, .ref o), (4, .ref od), (5, .int (nI i))] → W p l e room_1 s m #[Value.ref b] below meth c H' locs' (kCe (n + 1) σ') (kSl (n + 1) σ') Q (F0 m 1640 ls' [])) : W p l e room_1 s m #[Value.ref b] below meth c H locs (kCe n σ) (kSl n σ) Q (F0 m 771 ls []) := by
  obtain ⟨hA1, hB1, hAB, ⟨hoA, hoB, hoK⟩, ⟨hdA, hdB, hdK⟩, hood⟩ := id hap
  obtain ⟨hR, hB, hmB, hZ, ⟨M, hP⟩, hCb, ht⟩ := id hnv
  have e30 : τ 30 0 = σ 0 0 := hR.1.1
  have e31 : τ 31 0 = σ 1 0 := hR.1.2.1
  have e32 : τ 32 0 = σ 2 0 := hR.1.2.2.1
  have e33 : τ 33 0 = σ 3 0 := hR.1.2.2.2.1
  have e34 : τ 34 0 = σ 4 0 := hR.1.2.2.2.2
  have nR := hB.nR
  have nC := hB.nC
  have nW := hB.nW
  have nA := hB.nA
  obtain ⟨gJ, hoJ⟩ := hoJ
  obtain ⟨gD, hoD⟩ := hoD
  rcases kidx (xs (i + 1)) (N := σ 2 0) (by omega) with ⟨j, hj, e1⟩ | h
  · have hnv' : kNv (n + 1) (σ) (mT τ 0) := (kNv_t hnv 0)
    have hco : kCo n (0) (0) σ (σ) := kCo_rd n σ
    exact lq_failing (σ' := σ) (τ' := mT τ 0) (v := nI (kFm σ j (σ 1 0))) (vm := nI (mSet (fun r => mFl τ j r) (τ 31 0))) (mc := 0) (ms := 0) (kn := 0) S hE hX hbl hlo hL hi hap hw hm ⟨gJ, hoJ⟩ ⟨gD, hoD⟩ (yl_failing ε l hA1 hoK hoA hw hoJ (by rw [e1]; exact cp_failing ε l hw hB hj)) (fun H1 hm1 => by rw [e1]; exact cm_failing ε l hB1 hm1 hmB (by rw [e32]; exact hj)) (by simp [ku]) (by decide) (fun _ => by rw [kA_failing hR hB hj]) (kCo_b hco hnv' hn) hS hl (fun H' locs' ls' hL' hz' hS' hl' => W.widen hco.1 hco.2 (KK _ _ H' locs' ls' hnv' hL' hz' hS' hl'))
  · have hnv' : kNv (n + 1) (σ) (mT τ 1) := (kNv_t hnv 1)
    have hco : kCo n (1) (6) σ (σ) := kCo_x n σ
    exact lq_failing (σ' := σ) (τ' := mT τ 1) (v := 0) (vm := 0) (mc := 1) (ms := 6) (kn := 1) S hE hX hbl hlo hL hi hap hw hm ⟨gJ, hoJ⟩ ⟨gD, hoD⟩ (yl_failingX1 ε l 0 hA1 hoK hoA hw hoJ (by exact cpx_failing ε l hw hB hst h)) (fun H1 hm1 => by exact cm_failingX ε l hB1 hm1 hmB (by rw [e32]; exact h)) (by simp [ku]) (by decide) (fun h => absurd h (by decide)) (kCo_b hco hnv' hn) hS hl (fun H' locs' ls' hL' hz' hS' hl' => W.widen hco.1 hco.2 (KK _ _ H' locs' ls' hnv' hL' hz' hS' hl'))
set_option maxHeartbeats 4000000 in
set_option maxRecDepth 100000 in
theorem st_nextProbe (S : CallFix p m c cL_law 8 s #[Value.ref b] wsL_law RL) (hE : kE ε s) (hX : va_X b L xs s s.heap) (hbl : b < s.heap.size) (hlo : ε.2.2.1 = s.heap.size) (hL : L ≤ 2560) (hi : i + 5 ≤ L) (hap : kAp ε A B o od) (hst : l.stackTraces = false) (hnv : kNv n σ τ) (hn : n < 512) (hA2 : ∀ q, H.size ≤ q → A q) (hw : kW ε A ad σ H) (hm : kM ε B bd τ H) (hoJ : ∃ g, kat ε o (kJ ε 1 g) H) (hoD : ∃ g, kat ε od (kD ε 1 g) H) (hS : va_S (kHi ε) s.heap H locs) (hl : lv_has ls 8 [(0, .ref b), (1, .ref (ad 0 0)), (2, .ref (bd 0)), (3, .ref o), (4, .ref od), (5, .int (nI i))]) (KK : ∀ (σ' τ' : kS) (H' : Heap) (locs' : List Loc) (ls' : Array Slot), kNv (n + 1) σ' τ' → kLw ε A B o od (ad 0 0) (bd 0) σ' τ' H' → H.size ≤ H'.size → va_S (kHi ε) s.heap H' locs' → lv_has ls' 8 [(0, .ref b), (1, .ref (ad 0 0)), (2, .ref (bd 0)), (3, .ref o), (4, .ref od), (5, .int (nI i))] → W p l e room_1 s m #[Value.ref b] below meth c H' locs' (kCe (n + 1) σ') (kSl (n + 1) σ') Q (F0 m 1640 ls' [])) : W p l e room_1 s m #[Value.ref b] below meth c H locs (kCe n σ) (kSl n σ) Q (F0 m 827 ls []) := by
  obtain ⟨hA1, hB1, hAB, ⟨hoA, hoB, hoK⟩, ⟨hdA, hdB, hdK⟩, hood⟩ := id hap
  obtain ⟨hR, hB, hmB, hZ, ⟨M, hP⟩, hCb, ht⟩ := id hnv
  have e30 : τ 30 0 = σ 0 0 := hR.1.1
  have e31 : τ 31 0 = σ 1 0 := hR.1.2.1
  have e32 : τ 32 0 = σ 2 0 := hR.1.2.2.1
  have e33 : τ 33 0 = σ 3 0 := hR.1.2.2.2.1
  have e34 : τ 34 0 = σ 4 0 := hR.1.2.2.2.2
  have nR := hB.nR
  have nC := hB.nC
  have nW := hB.nW
  have nA := hB.nA
  obtain ⟨gJ, hoJ⟩ := hoJ
  obtain ⟨gD, hoD⟩ := hoD
  rcases kidx (xs (i + 1)) (N := σ 2 0) (by omega) with ⟨j, hj, e1⟩ | h
  · rcases kidx (xs (i + 2)) (N := σ 1 0) (by omega) with ⟨r, hr, e2⟩ | h
    · have hnv' : kNv (n + 1) (σ) (mT τ 0) := (kNv_t hnv 0)
      have hco : kCo n (0) (0) σ (σ) := kCo_rd n σ
      exact lq_nextProbe (σ' := σ) (τ' := mT τ 0) (v := nI (kNext σ j r (σ 0 0 + 1))) (vm := nI (mNx τ j r)) (mc := 0) (ms := 0) (kn := 0) S hE hX hbl hlo hL hi hap hw hm ⟨gJ, hoJ⟩ ⟨gD, hoD⟩ (yl_nextProbe ε l hA1 hoK hoA hw hoJ (by rw [e1, e2]; exact cp_nextProbe ε l hw hB hj hr)) (fun H1 hm1 => by rw [e1, e2]; exact cm_nextProbe ε l hB1 hm1 hmB (by rw [e32]; exact hj) (by rw [e31]; exact hr)) (by simp [ku]) (by decide) (fun _ => by rw [kA_next hR j r]) (kCo_b hco hnv' hn) hS hl (fun H' locs' ls' hL' hz' hS' hl' => W.widen hco.1 hco.2 (KK _ _ H' locs' ls' hnv' hL' hz' hS' hl'))
    · have hnv' : kNv (n + 1) (σ) (mT τ 1) := (kNv_t hnv 1)
      have hco : kCo n (1) (6) σ (σ) := kCo_x n σ
      exact lq_nextProbe (σ' := σ) (τ' := mT τ 1) (v := 0) (vm := 0) (mc := 1) (ms := 6) (kn := 1) S hE hX hbl hlo hL hi hap hw hm ⟨gJ, hoJ⟩ ⟨gD, hoD⟩ (yl_nextProbeX1 ε l 0 hA1 hoK hoA hw hoJ (by rw [e1]; exact cpx_nextProbe2 ε l hw hB hst hj h)) (fun H1 hm1 => by rw [e1]; exact cm_nextProbeX2 ε l hB1 hm1 hmB (by rw [e32]; exact hj) (by rw [e31]; exact h)) (by simp [ku]) (by decide) (fun h => absurd h (by decide)) (kCo_b hco hnv' hn) hS hl (fun H' locs' ls' hL' hz' hS' hl' => W.widen hco.1 hco.2 (KK _ _ H' locs' ls' hnv' hL' hz' hS' hl'))
  · have hnv' : kNv (n + 1) (σ) (mT τ 1) := (kNv_t hnv 1)
    have hco : kCo n (1) (6) σ (σ) := kCo_x n σ
    exact lq_nextProbe (σ' := σ) (τ' := mT τ 1) (v := 0) (vm := 0) (mc := 1) (ms := 6) (kn := 1) S hE hX hbl hlo hL hi hap hw hm ⟨gJ, hoJ⟩ ⟨gD, hoD⟩ (yl_nextProbeX1 ε l 0 hA1 hoK hoA hw hoJ (by exact cpx_nextProbe1 ε l hw hB hst h)) (fun H1 hm1 => by exact cm_nextProbeX1 ε l hB1 hm1 hmB (by rw [e32]; exact h)) (by simp [ku]) (by decide) (fun h => absurd h (by decide)) (kCo_b hco hnv' hn) hS hl (fun H' locs' ls' hL' hz' hS' hl' => W.widen hco.1 hco.2 (KK _ _ H' locs' ls' hnv' hL' hz' hS' hl'))
set_option maxHeartbeats 4000000 in
set_option maxRecDepth 100000 in
theorem st_repetition (S : CallFix p m c cL_law 8 s #[Value.ref b] wsL_law RL) (hE : kE ε s) (hX : va_X b L xs s s.heap) (hbl : b < s.heap.size) (hlo : ε.2.2.1 = s.heap.size) (hL : L ≤ 2560) (hi : i + 5 ≤ L) (hap : kAp ε A B o od) (hst : l.stackTraces = false) (hnv : kNv n σ τ) (hn : n < 512) (hA2 : ∀ q, H.size ≤ q → A q) (hw : kW ε A ad σ H) (hm : kM ε B bd τ H) (hoJ : ∃ g, kat ε o (kJ ε 1 g) H) (hoD : ∃ g, kat ε od (kD ε 1 g) H) (hS : va_S (kHi ε) s.heap H locs) (hl : lv_has ls 8 [(0, .ref b), (1, .ref (ad 0 0)), (2, .ref (bd 0)), (3, .ref o), (4, .ref od), (5, .int (nI i))]) (KK : ∀ (σ' τ' : kS) (H' : Heap) (locs' : List Loc) (ls' : Array Slot), kNv (n + 1) σ' τ' → kLw ε A B o od (ad 0 0) (bd 0) σ' τ' H' → H.size ≤ H'.size → va_S (kHi ε) s.heap H' locs' → lv_has ls' 8 [(0, .ref b), (1, .ref (ad 0 0)), (2, .ref (bd 0)), (3, .ref o), (4, .ref od), (5, .int (nI i))] → W p l e room_1 s m #[Value.ref b] below meth c H' locs' (kCe (n + 1) σ') (kSl (n + 1) σ') Q (F0 m 1640 ls' [])) : W p l e room_1 s m #[Value.ref b] below meth c H locs (kCe n σ) (kSl n σ) Q (F0 m 895 ls []) := by
  obtain ⟨hA1, hB1, hAB, ⟨hoA, hoB, hoK⟩, ⟨hdA, hdB, hdK⟩, hood⟩ := id hap
  obtain ⟨hR, hB, hmB, hZ, ⟨M, hP⟩, hCb, ht⟩ := id hnv
  have e30 : τ 30 0 = σ 0 0 := hR.1.1
  have e31 : τ 31 0 = σ 1 0 := hR.1.2.1
  have e32 : τ 32 0 = σ 2 0 := hR.1.2.2.1
  have e33 : τ 33 0 = σ 3 0 := hR.1.2.2.2.1
  have e34 : τ 34 0 = σ 4 0 := hR.1.2.2.2.2
  have nR := hB.nR
  have nC := hB.nC
  have nW := hB.nW
  have nA := hB.nA
  obtain ⟨gJ, hoJ⟩ := hoJ
  obtain ⟨gD, hoD⟩ := hoD
  rcases kidx (xs (i + 1)) (N := σ 2 0) (by omega) with ⟨j, hj, e1⟩ | h
  · rcases kidx (xs (i + 2)) (N := σ 1 0) (by omega) with ⟨r, hr, e2⟩ | h
    · have hnv' : kNv (n + 1) (σ) (mT τ 0) := (kNv_t hnv 0)
      have hco : kCo n (0) (0) σ (σ) := kCo_rd n σ
      exact lq_repetition (σ' := σ) (τ' := mT τ 0) (v := nI (σ 32 (6 * j + r))) (vm := nI (τ 16 (6 * j + r))) (mc := 0) (ms := 0) (kn := 0) S hE hX hbl hlo hL hi hap hw hm ⟨gJ, hoJ⟩ ⟨gD, hoD⟩ (yl_repetition ε l hA1 hoK hoA hw hoJ (by rw [e1, e2]; exact cp_repetition ε l hw hB hj hr)) (fun H1 hm1 => by rw [e1, e2]; exact cm_repetition ε l hB1 hm1 hmB (by rw [e32]; exact hj) (by rw [e31]; exact hr)) (by simp [ku]) (by decide) (fun _ => by rw [hR.2.1.2.2.2.2.2.2.2.2.2.2.1]) (kCo_b hco hnv' hn) hS hl (fun H' locs' ls' hL' hz' hS' hl' => W.widen hco.1 hco.2 (KK _ _ H' locs' ls' hnv' hL' hz' hS' hl'))
    · have hnv' : kNv (n + 1) (σ) (mT τ 1) := (kNv_t hnv 1)
      have hco : kCo n (1) (6) σ (σ) := kCo_x n σ
      exact lq_repetition (σ' := σ) (τ' := mT τ 1) (v := 0) (vm := 0) (mc := 1) (ms := 6) (kn := 1) S hE hX hbl hlo hL hi hap hw hm ⟨gJ, hoJ⟩ ⟨gD, hoD⟩ (yl_repetitionX1 ε l 0 hA1 hoK hoA hw hoJ (by rw [e1]; exact cpx_repetition2 ε l hw hB hst hj h)) (fun H1 hm1 => by rw [e1]; exact cm_repetitionX2 ε l hB1 hm1 hmB (by rw [e32]; exact hj) (by rw [e31]; exact h)) (by simp [ku]) (by decide) (fun h => absurd h (by decide)) (kCo_b hco hnv' hn) hS hl (fun H' locs' ls' hL' hz' hS' hl' => W.widen hco.1 hco.2 (KK _ _ H' locs' ls' hnv' hL' hz' hS' hl'))
  · have hnv' : kNv (n + 1) (σ) (mT τ 1) := (kNv_t hnv 1)
    have hco : kCo n (1) (6) σ (σ) := kCo_x n σ
    exact lq_repetition (σ' := σ) (τ' := mT τ 1) (v := 0) (vm := 0) (mc := 1) (ms := 6) (kn := 1) S hE hX hbl hlo hL hi hap hw hm ⟨gJ, hoJ⟩ ⟨gD, hoD⟩ (yl_repetitionX1 ε l 0 hA1 hoK hoA hw hoJ (by exact cpx_repetition1 ε l hw hB hst h)) (fun H1 hm1 => by exact cm_repetitionX1 ε l hB1 hm1 hmB (by rw [e32]; exact h)) (by simp [ku]) (by decide) (fun h => absurd h (by decide)) (kCo_b hco hnv' hn) hS hl (fun H' locs' ls' hL' hz' hS' hl' => W.widen hco.1 hco.2 (KK _ _ H' locs' ls' hnv' hL' hz' hS' hl'))
set_option maxHeartbeats 4000000 in
set_option maxRecDepth 100000 in
theorem st_vote (S : CallFix p m c cL_law 8 s #[Value.ref b] wsL_law RL) (hE : kE ε s) (hX : va_X b L xs s s.heap) (hbl : b < s.heap.size) (hlo : ε.2.2.1 = s.heap.size) (hL : L ≤ 2560) (hi : i + 5 ≤ L) (hap : kAp ε A B o od) (hst : l.stackTraces = false) (hnv : kNv n σ τ) (hn : n < 512) (hA2 : ∀ q, H.size ≤ q → A q) (hw : kW ε A ad σ H) (hm : kM ε B bd τ H) (hoJ : ∃ g, kat ε o (kJ ε 1 g) H) (hoD : ∃ g, kat ε od (kD ε 1 g) H) (hS : va_S (kHi ε) s.heap H locs) (hl : lv_has ls 8 [(0, .ref b), (1, .ref (ad 0 0)), (2, .ref (bd 0)), (3, .ref o), (4, .ref od), (5, .int (nI i))]) (KK : ∀ (σ' τ' : kS) (H' : Heap) (locs' : List Loc) (ls' : Array Slot), kNv (n + 1) σ' τ' → kLw ε A B o od (ad 0 0) (bd 0) σ' τ' H' → H.size ≤ H'.size → va_S (kHi ε) s.heap H' locs' → lv_has ls' 8 [(0, .ref b), (1, .ref (ad 0 0)), (2, .ref (bd 0)), (3, .ref o), (4, .ref od), (5, .int (nI i))] → W p l e room_1 s m #[Value.ref b] below meth c H' locs' (kCe (n + 1) σ') (kSl (n + 1) σ') Q (F0 m 1640 ls' [])) : W p l e room_1 s m #[Value.ref b] below meth c H locs (kCe n σ) (kSl n σ) Q (F0 m 963 ls []) := by
  obtain ⟨hA1, hB1, hAB, ⟨hoA, hoB, hoK⟩, ⟨hdA, hdB, hdK⟩, hood⟩ := id hap
  obtain ⟨hR, hB, hmB, hZ, ⟨M, hP⟩, hCb, ht⟩ := id hnv
  have e30 : τ 30 0 = σ 0 0 := hR.1.1
  have e31 : τ 31 0 = σ 1 0 := hR.1.2.1
  have e32 : τ 32 0 = σ 2 0 := hR.1.2.2.1
  have e33 : τ 33 0 = σ 3 0 := hR.1.2.2.2.1
  have e34 : τ 34 0 = σ 4 0 := hR.1.2.2.2.2
  have nR := hB.nR
  have nC := hB.nC
  have nW := hB.nW
  have nA := hB.nA
  obtain ⟨gJ, hoJ⟩ := hoJ
  obtain ⟨gD, hoD⟩ := hoD
  rcases kidx (xs (i + 1)) (N := σ 2 0) (by omega) with ⟨j, hj, e1⟩ | h
  · rcases kidx (xs (i + 2)) (N := σ 1 0) (by omega) with ⟨r, hr, e2⟩ | h
    · have hnv' : kNv (n + 1) (σ) (mT τ 0) := (kNv_t hnv 0)
      have hco : kCo n (0) (0) σ (σ) := kCo_rd n σ
      exact lq_vote (σ' := σ) (τ' := mT τ 0) (v := nI (σ 31 (6 * j + r))) (vm := nI (τ 15 (6 * j + r))) (mc := 0) (ms := 0) (kn := 0) S hE hX hbl hlo hL hi hap hw hm ⟨gJ, hoJ⟩ ⟨gD, hoD⟩ (yl_vote ε l hA1 hoK hoA hw hoJ (by rw [e1, e2]; exact cp_vote ε l hw hB hj hr)) (fun H1 hm1 => by rw [e1, e2]; exact cm_vote ε l hB1 hm1 hmB (by rw [e32]; exact hj) (by rw [e31]; exact hr)) (by simp [ku]) (by decide) (fun _ => by rw [hR.2.1.2.2.2.2.2.2.2.2.2.1]) (kCo_b hco hnv' hn) hS hl (fun H' locs' ls' hL' hz' hS' hl' => W.widen hco.1 hco.2 (KK _ _ H' locs' ls' hnv' hL' hz' hS' hl'))
    · have hnv' : kNv (n + 1) (σ) (mT τ 1) := (kNv_t hnv 1)
      have hco : kCo n (1) (6) σ (σ) := kCo_x n σ
      exact lq_vote (σ' := σ) (τ' := mT τ 1) (v := 0) (vm := 0) (mc := 1) (ms := 6) (kn := 1) S hE hX hbl hlo hL hi hap hw hm ⟨gJ, hoJ⟩ ⟨gD, hoD⟩ (yl_voteX1 ε l 0 hA1 hoK hoA hw hoJ (by rw [e1]; exact cpx_vote2 ε l hw hB hst hj h)) (fun H1 hm1 => by rw [e1]; exact cm_voteX2 ε l hB1 hm1 hmB (by rw [e32]; exact hj) (by rw [e31]; exact h)) (by simp [ku]) (by decide) (fun h => absurd h (by decide)) (kCo_b hco hnv' hn) hS hl (fun H' locs' ls' hL' hz' hS' hl' => W.widen hco.1 hco.2 (KK _ _ H' locs' ls' hnv' hL' hz' hS' hl'))
  · have hnv' : kNv (n + 1) (σ) (mT τ 1) := (kNv_t hnv 1)
    have hco : kCo n (1) (6) σ (σ) := kCo_x n σ
    exact lq_vote (σ' := σ) (τ' := mT τ 1) (v := 0) (vm := 0) (mc := 1) (ms := 6) (kn := 1) S hE hX hbl hlo hL hi hap hw hm ⟨gJ, hoJ⟩ ⟨gD, hoD⟩ (yl_voteX1 ε l 0 hA1 hoK hoA hw hoJ (by exact cpx_vote1 ε l hw hB hst h)) (fun H1 hm1 => by exact cm_voteX1 ε l hB1 hm1 hmB (by rw [e32]; exact h)) (by simp [ku]) (by decide) (fun h => absurd h (by decide)) (kCo_b hco hnv' hn) hS hl (fun H' locs' ls' hL' hz' hS' hl' => W.widen hco.1 hco.2 (KK _ _ H' locs' ls' hnv' hL' hz' hS' hl'))
set_option maxHeartbeats 4000000 in
set_option maxRecDepth 100000 in
theorem st_probes (S : CallFix p m c cL_law 8 s #[Value.ref b] wsL_law RL) (hE : kE ε s) (hX : va_X b L xs s s.heap) (hbl : b < s.heap.size) (hlo : ε.2.2.1 = s.heap.size) (hL : L ≤ 2560) (hi : i + 5 ≤ L) (hap : kAp ε A B o od) (hst : l.stackTraces = false) (hnv : kNv n σ τ) (hn : n < 512) (hA2 : ∀ q, H.size ≤ q → A q) (hw : kW ε A ad σ H) (hm : kM ε B bd τ H) (hoJ : ∃ g, kat ε o (kJ ε 1 g) H) (hoD : ∃ g, kat ε od (kD ε 1 g) H) (hS : va_S (kHi ε) s.heap H locs) (hl : lv_has ls 8 [(0, .ref b), (1, .ref (ad 0 0)), (2, .ref (bd 0)), (3, .ref o), (4, .ref od), (5, .int (nI i))]) (KK : ∀ (σ' τ' : kS) (H' : Heap) (locs' : List Loc) (ls' : Array Slot), kNv (n + 1) σ' τ' → kLw ε A B o od (ad 0 0) (bd 0) σ' τ' H' → H.size ≤ H'.size → va_S (kHi ε) s.heap H' locs' → lv_has ls' 8 [(0, .ref b), (1, .ref (ad 0 0)), (2, .ref (bd 0)), (3, .ref o), (4, .ref od), (5, .int (nI i))] → W p l e room_1 s m #[Value.ref b] below meth c H' locs' (kCe (n + 1) σ') (kSl (n + 1) σ') Q (F0 m 1640 ls' [])) : W p l e room_1 s m #[Value.ref b] below meth c H locs (kCe n σ) (kSl n σ) Q (F0 m 1031 ls []) := by
  obtain ⟨hA1, hB1, hAB, ⟨hoA, hoB, hoK⟩, ⟨hdA, hdB, hdK⟩, hood⟩ := id hap
  obtain ⟨hR, hB, hmB, hZ, ⟨M, hP⟩, hCb, ht⟩ := id hnv
  have e30 : τ 30 0 = σ 0 0 := hR.1.1
  have e31 : τ 31 0 = σ 1 0 := hR.1.2.1
  have e32 : τ 32 0 = σ 2 0 := hR.1.2.2.1
  have e33 : τ 33 0 = σ 3 0 := hR.1.2.2.2.1
  have e34 : τ 34 0 = σ 4 0 := hR.1.2.2.2.2
  have nR := hB.nR
  have nC := hB.nC
  have nW := hB.nW
  have nA := hB.nA
  obtain ⟨gJ, hoJ⟩ := hoJ
  obtain ⟨gD, hoD⟩ := hoD
  rcases kidx (xs (i + 1)) (N := σ 1 0) (by omega) with ⟨j, hj, e1⟩ | h
  · have hnv' : kNv (n + 1) (σ) (mT τ 0) := (kNv_t hnv 0)
    have hco : kCo n (0) (0) σ (σ) := kCo_rd n σ
    exact lq_probes (σ' := σ) (τ' := mT τ 0) (v := nI (σ 12 j)) (vm := nI (τ 4 j)) (mc := 0) (ms := 0) (kn := 0) S hE hX hbl hlo hL hi hap hw hm ⟨gJ, hoJ⟩ ⟨gD, hoD⟩ (yl_probes ε l hA1 hoK hoA hw hoJ (by rw [e1]; exact cp_probes ε l hw hB hj)) (fun H1 hm1 => by rw [e1]; exact cm_probes ε l hB1 hm1 hmB (by rw [e31]; exact hj)) (by simp [ku]) (by decide) (fun _ => by rw [hR.2.1.1]) (kCo_b hco hnv' hn) hS hl (fun H' locs' ls' hL' hz' hS' hl' => W.widen hco.1 hco.2 (KK _ _ H' locs' ls' hnv' hL' hz' hS' hl'))
  · have hnv' : kNv (n + 1) (σ) (mT τ 1) := (kNv_t hnv 1)
    have hco : kCo n (1) (6) σ (σ) := kCo_x n σ
    exact lq_probes (σ' := σ) (τ' := mT τ 1) (v := 0) (vm := 0) (mc := 1) (ms := 6) (kn := 1) S hE hX hbl hlo hL hi hap hw hm ⟨gJ, hoJ⟩ ⟨gD, hoD⟩ (yl_probesX1 ε l 0 hA1 hoK hoA hw hoJ (by exact cpx_probes ε l hw hB hst h)) (fun H1 hm1 => by exact cm_probesX ε l hB1 hm1 hmB (by rw [e31]; exact h)) (by simp [ku]) (by decide) (fun h => absurd h (by decide)) (kCo_b hco hnv' hn) hS hl (fun H' locs' ls' hL' hz' hS' hl' => W.widen hco.1 hco.2 (KK _ _ H' locs' ls' hnv' hL' hz' hS' hl'))
set_option maxHeartbeats 4000000 in
set_option maxRecDepth 100000 in
theorem st_failures (S : CallFix p m c cL_law 8 s #[Value.ref b] wsL_law RL) (hE : kE ε s) (hX : va_X b L xs s s.heap) (hbl : b < s.heap.size) (hlo : ε.2.2.1 = s.heap.size) (hL : L ≤ 2560) (hi : i + 5 ≤ L) (hap : kAp ε A B o od) (hst : l.stackTraces = false) (hnv : kNv n σ τ) (hn : n < 512) (hA2 : ∀ q, H.size ≤ q → A q) (hw : kW ε A ad σ H) (hm : kM ε B bd τ H) (hoJ : ∃ g, kat ε o (kJ ε 1 g) H) (hoD : ∃ g, kat ε od (kD ε 1 g) H) (hS : va_S (kHi ε) s.heap H locs) (hl : lv_has ls 8 [(0, .ref b), (1, .ref (ad 0 0)), (2, .ref (bd 0)), (3, .ref o), (4, .ref od), (5, .int (nI i))]) (KK : ∀ (σ' τ' : kS) (H' : Heap) (locs' : List Loc) (ls' : Array Slot), kNv (n + 1) σ' τ' → kLw ε A B o od (ad 0 0) (bd 0) σ' τ' H' → H.size ≤ H'.size → va_S (kHi ε) s.heap H' locs' → lv_has ls' 8 [(0, .ref b), (1, .ref (ad 0 0)), (2, .ref (bd 0)), (3, .ref o), (4, .ref od), (5, .int (nI i))] → W p l e room_1 s m #[Value.ref b] below meth c H' locs' (kCe (n + 1) σ') (kSl (n + 1) σ') Q (F0 m 1640 ls' [])) : W p l e room_1 s m #[Value.ref b] below meth c H locs (kCe n σ) (kSl n σ) Q (F0 m 1087 ls []) := by
  obtain ⟨hA1, hB1, hAB, ⟨hoA, hoB, hoK⟩, ⟨hdA, hdB, hdK⟩, hood⟩ := id hap
  obtain ⟨hR, hB, hmB, hZ, ⟨M, hP⟩, hCb, ht⟩ := id hnv
  have e30 : τ 30 0 = σ 0 0 := hR.1.1
  have e31 : τ 31 0 = σ 1 0 := hR.1.2.1
  have e32 : τ 32 0 = σ 2 0 := hR.1.2.2.1
  have e33 : τ 33 0 = σ 3 0 := hR.1.2.2.2.1
  have e34 : τ 34 0 = σ 4 0 := hR.1.2.2.2.2
  have nR := hB.nR
  have nC := hB.nC
  have nW := hB.nW
  have nA := hB.nA
  obtain ⟨gJ, hoJ⟩ := hoJ
  obtain ⟨gD, hoD⟩ := hoD
  rcases kidx (xs (i + 1)) (N := σ 1 0) (by omega) with ⟨j, hj, e1⟩ | h
  · have hnv' : kNv (n + 1) (σ) (mT τ 0) := (kNv_t hnv 0)
    have hco : kCo n (0) (0) σ (σ) := kCo_rd n σ
    exact lq_failures (σ' := σ) (τ' := mT τ 0) (v := nI (σ 13 j)) (vm := nI (τ 5 j)) (mc := 0) (ms := 0) (kn := 0) S hE hX hbl hlo hL hi hap hw hm ⟨gJ, hoJ⟩ ⟨gD, hoD⟩ (yl_failures ε l hA1 hoK hoA hw hoJ (by rw [e1]; exact cp_failures ε l hw hB hj)) (fun H1 hm1 => by rw [e1]; exact cm_failures ε l hB1 hm1 hmB (by rw [e31]; exact hj)) (by simp [ku]) (by decide) (fun _ => by rw [hR.2.1.2.1]) (kCo_b hco hnv' hn) hS hl (fun H' locs' ls' hL' hz' hS' hl' => W.widen hco.1 hco.2 (KK _ _ H' locs' ls' hnv' hL' hz' hS' hl'))
  · have hnv' : kNv (n + 1) (σ) (mT τ 1) := (kNv_t hnv 1)
    have hco : kCo n (1) (6) σ (σ) := kCo_x n σ
    exact lq_failures (σ' := σ) (τ' := mT τ 1) (v := 0) (vm := 0) (mc := 1) (ms := 6) (kn := 1) S hE hX hbl hlo hL hi hap hw hm ⟨gJ, hoJ⟩ ⟨gD, hoD⟩ (yl_failuresX1 ε l 0 hA1 hoK hoA hw hoJ (by exact cpx_failures ε l hw hB hst h)) (fun H1 hm1 => by exact cm_failuresX ε l hB1 hm1 hmB (by rw [e31]; exact h)) (by simp [ku]) (by decide) (fun h => absurd h (by decide)) (kCo_b hco hnv' hn) hS hl (fun H' locs' ls' hL' hz' hS' hl' => W.widen hco.1 hco.2 (KK _ _ H' locs' ls' hnv' hL' hz' hS' hl'))
set_option maxHeartbeats 4000000 in
set_option maxRecDepth 100000 in
theorem st_isBad (S : CallFix p m c cL_law 8 s #[Value.ref b] wsL_law RL) (hE : kE ε s) (hX : va_X b L xs s s.heap) (hbl : b < s.heap.size) (hlo : ε.2.2.1 = s.heap.size) (hL : L ≤ 2560) (hi : i + 5 ≤ L) (hap : kAp ε A B o od) (hst : l.stackTraces = false) (hnv : kNv n σ τ) (hn : n < 512) (hA2 : ∀ q, H.size ≤ q → A q) (hw : kW ε A ad σ H) (hm : kM ε B bd τ H) (hoJ : ∃ g, kat ε o (kJ ε 1 g) H) (hoD : ∃ g, kat ε od (kD ε 1 g) H) (hS : va_S (kHi ε) s.heap H locs) (hl : lv_has ls 8 [(0, .ref b), (1, .ref (ad 0 0)), (2, .ref (bd 0)), (3, .ref o), (4, .ref od), (5, .int (nI i))]) (KK : ∀ (σ' τ' : kS) (H' : Heap) (locs' : List Loc) (ls' : Array Slot), kNv (n + 1) σ' τ' → kLw ε A B o od (ad 0 0) (bd 0) σ' τ' H' → H.size ≤ H'.size → va_S (kHi ε) s.heap H' locs' → lv_has ls' 8 [(0, .ref b), (1, .ref (ad 0 0)), (2, .ref (bd 0)), (3, .ref o), (4, .ref od), (5, .int (nI i))] → W p l e room_1 s m #[Value.ref b] below meth c H' locs' (kCe (n + 1) σ') (kSl (n + 1) σ') Q (F0 m 1640 ls' [])) : W p l e room_1 s m #[Value.ref b] below meth c H locs (kCe n σ) (kSl n σ) Q (F0 m 1143 ls []) := by
  obtain ⟨hA1, hB1, hAB, ⟨hoA, hoB, hoK⟩, ⟨hdA, hdB, hdK⟩, hood⟩ := id hap
  obtain ⟨hR, hB, hmB, hZ, ⟨M, hP⟩, hCb, ht⟩ := id hnv
  have e30 : τ 30 0 = σ 0 0 := hR.1.1
  have e31 : τ 31 0 = σ 1 0 := hR.1.2.1
  have e32 : τ 32 0 = σ 2 0 := hR.1.2.2.1
  have e33 : τ 33 0 = σ 3 0 := hR.1.2.2.2.1
  have e34 : τ 34 0 = σ 4 0 := hR.1.2.2.2.2
  have nR := hB.nR
  have nC := hB.nC
  have nW := hB.nW
  have nA := hB.nA
  obtain ⟨gJ, hoJ⟩ := hoJ
  obtain ⟨gD, hoD⟩ := hoD
  rcases kidx (xs (i + 1)) (N := σ 1 0) (by omega) with ⟨j, hj, e1⟩ | h
  · have hnv' : kNv (n + 1) (σ) (mT τ 0) := (kNv_t hnv 0)
    have hco : kCo n (0) (0) σ (σ) := kCo_rd n σ
    exact lq_isBad (σ' := σ) (τ' := mT τ 0) (v := bI ((σ 15 0).testBit j)) (vm := nI (τ 3 j)) (mc := 0) (ms := 0) (kn := 0) S hE hX hbl hlo hL hi hap hw hm ⟨gJ, hoJ⟩ ⟨gD, hoD⟩ (yl_isBad ε l hA1 hoK hoA hw hoJ (by rw [e1]; exact cp_isBad ε l hw hB hj) (bI_01 _)) (fun H1 hm1 => by rw [e1]; exact cm_isBad ε l hB1 hm1 hmB (by rw [e31]; exact hj)) (by simp [ku]) (by decide) (fun _ => by rw [hR.2.2.1.2.1 j (by omega)]; exact kb2 _ _) (fun _ => bI_01 _) (kCo_b hco hnv' hn) hS hl (fun H' locs' ls' hL' hz' hS' hl' => W.widen hco.1 hco.2 (KK _ _ H' locs' ls' hnv' hL' hz' hS' hl'))
  · have hnv' : kNv (n + 1) (σ) (mT τ 1) := (kNv_t hnv 1)
    have hco : kCo n (1) (6) σ (σ) := kCo_x n σ
    exact lq_isBad (σ' := σ) (τ' := mT τ 1) (v := 0) (vm := 0) (mc := 1) (ms := 6) (kn := 1) S hE hX hbl hlo hL hi hap hw hm ⟨gJ, hoJ⟩ ⟨gD, hoD⟩ (yl_isBadX1 ε l 0 hA1 hoK hoA hw hoJ (by exact cpx_isBad ε l hw hB hst h)) (fun H1 hm1 => by exact cm_isBadX ε l hB1 hm1 hmB (by rw [e31]; exact h)) (by simp [ku]) (by decide) (fun h => absurd h (by decide)) (fun h => absurd h (by decide)) (kCo_b hco hnv' hn) hS hl (fun H' locs' ls' hL' hz' hS' hl' => W.widen hco.1 hco.2 (KK _ _ H' locs' ls' hnv' hL' hz' hS' hl'))
set_option maxHeartbeats 4000000 in
set_option maxRecDepth 100000 in
theorem st_verdict (S : CallFix p m c cL_law 8 s #[Value.ref b] wsL_law RL) (hE : kE ε s) (hX : va_X b L xs s s.heap) (hbl : b < s.heap.size) (hlo : ε.2.2.1 = s.heap.size) (hL : L ≤ 2560) (hi : i + 5 ≤ L) (hap : kAp ε A B o od) (hst : l.stackTraces = false) (hnv : kNv n σ τ) (hn : n < 512) (hA2 : ∀ q, H.size ≤ q → A q) (hw : kW ε A ad σ H) (hm : kM ε B bd τ H) (hoJ : ∃ g, kat ε o (kJ ε 1 g) H) (hoD : ∃ g, kat ε od (kD ε 1 g) H) (hS : va_S (kHi ε) s.heap H locs) (hl : lv_has ls 8 [(0, .ref b), (1, .ref (ad 0 0)), (2, .ref (bd 0)), (3, .ref o), (4, .ref od), (5, .int (nI i))]) (KK : ∀ (σ' τ' : kS) (H' : Heap) (locs' : List Loc) (ls' : Array Slot), kNv (n + 1) σ' τ' → kLw ε A B o od (ad 0 0) (bd 0) σ' τ' H' → H.size ≤ H'.size → va_S (kHi ε) s.heap H' locs' → lv_has ls' 8 [(0, .ref b), (1, .ref (ad 0 0)), (2, .ref (bd 0)), (3, .ref o), (4, .ref od), (5, .int (nI i))] → W p l e room_1 s m #[Value.ref b] below meth c H' locs' (kCe (n + 1) σ') (kSl (n + 1) σ') Q (F0 m 1640 ls' [])) : W p l e room_1 s m #[Value.ref b] below meth c H locs (kCe n σ) (kSl n σ) Q (F0 m 1206 ls []) := by
  obtain ⟨hA1, hB1, hAB, ⟨hoA, hoB, hoK⟩, ⟨hdA, hdB, hdK⟩, hood⟩ := id hap
  obtain ⟨hR, hB, hmB, hZ, ⟨M, hP⟩, hCb, ht⟩ := id hnv
  have e30 : τ 30 0 = σ 0 0 := hR.1.1
  have e31 : τ 31 0 = σ 1 0 := hR.1.2.1
  have e32 : τ 32 0 = σ 2 0 := hR.1.2.2.1
  have e33 : τ 33 0 = σ 3 0 := hR.1.2.2.2.1
  have e34 : τ 34 0 = σ 4 0 := hR.1.2.2.2.2
  have nR := hB.nR
  have nC := hB.nC
  have nW := hB.nW
  have nA := hB.nA
  obtain ⟨gJ, hoJ⟩ := hoJ
  obtain ⟨gD, hoD⟩ := hoD
  rcases kidx (xs (i + 1)) (N := σ 2 0) (by omega) with ⟨j, hj, e1⟩ | h
  · have hnv' : kNv (n + 1) (σ) (mT τ 0) := (kNv_t hnv 0)
    have hco : kCo n (0) (0) σ (σ) := kCo_rd n σ
    exact lq_verdict (σ' := σ) (τ' := mT τ 0) (v := nI (σ 24 j)) (vm := nI (τ 10 j)) (mc := 0) (ms := 0) (kn := 0) S hE hX hbl hlo hL hi hap hw hm ⟨gJ, hoJ⟩ ⟨gD, hoD⟩ (yl_verdict ε l hA1 hoK hoA hw hoJ (by rw [e1]; exact cp_verdict ε l hw hB hj)) (fun H1 hm1 => by rw [e1]; exact cm_verdict ε l hB1 hm1 hmB (by rw [e32]; exact hj)) (by simp [ku]) (by decide) (fun _ => by rw [hR.2.1.2.2.2.2.2.2.1]) (kCo_b hco hnv' hn) hS hl (fun H' locs' ls' hL' hz' hS' hl' => W.widen hco.1 hco.2 (KK _ _ H' locs' ls' hnv' hL' hz' hS' hl'))
  · have hnv' : kNv (n + 1) (σ) (mT τ 1) := (kNv_t hnv 1)
    have hco : kCo n (1) (6) σ (σ) := kCo_x n σ
    exact lq_verdict (σ' := σ) (τ' := mT τ 1) (v := 0) (vm := 0) (mc := 1) (ms := 6) (kn := 1) S hE hX hbl hlo hL hi hap hw hm ⟨gJ, hoJ⟩ ⟨gD, hoD⟩ (yl_verdictX1 ε l 0 hA1 hoK hoA hw hoJ (by exact cpx_verdict ε l hw hB hst h)) (fun H1 hm1 => by exact cm_verdictX ε l hB1 hm1 hmB (by rw [e32]; exact h)) (by simp [ku]) (by decide) (fun h => absurd h (by decide)) (kCo_b hco hnv' hn) hS hl (fun H' locs' ls' hL' hz' hS' hl' => W.widen hco.1 hco.2 (KK _ _ H' locs' ls' hnv' hL' hz' hS' hl'))
set_option maxHeartbeats 4000000 in
set_option maxRecDepth 100000 in
theorem st_trusted (S : CallFix p m c cL_law 8 s #[Value.ref b] wsL_law RL) (hE : kE ε s) (hX : va_X b L xs s s.heap) (hbl : b < s.heap.size) (hlo : ε.2.2.1 = s.heap.size) (hL : L ≤ 2560) (hi : i + 5 ≤ L) (hap : kAp ε A B o od) (hst : l.stackTraces = false) (hnv : kNv n σ τ) (hn : n < 512) (hA2 : ∀ q, H.size ≤ q → A q) (hw : kW ε A ad σ H) (hm : kM ε B bd τ H) (hoJ : ∃ g, kat ε o (kJ ε 1 g) H) (hoD : ∃ g, kat ε od (kD ε 1 g) H) (hS : va_S (kHi ε) s.heap H locs) (hl : lv_has ls 8 [(0, .ref b), (1, .ref (ad 0 0)), (2, .ref (bd 0)), (3, .ref o), (4, .ref od), (5, .int (nI i))]) (KK : ∀ (σ' τ' : kS) (H' : Heap) (locs' : List Loc) (ls' : Array Slot), kNv (n + 1) σ' τ' → kLw ε A B o od (ad 0 0) (bd 0) σ' τ' H' → H.size ≤ H'.size → va_S (kHi ε) s.heap H' locs' → lv_has ls' 8 [(0, .ref b), (1, .ref (ad 0 0)), (2, .ref (bd 0)), (3, .ref o), (4, .ref od), (5, .int (nI i))] → W p l e room_1 s m #[Value.ref b] below meth c H' locs' (kCe (n + 1) σ') (kSl (n + 1) σ') Q (F0 m 1640 ls' [])) : W p l e room_1 s m #[Value.ref b] below meth c H locs (kCe n σ) (kSl n σ) Q (F0 m 1262 ls []) := by
  obtain ⟨hA1, hB1, hAB, ⟨hoA, hoB, hoK⟩, ⟨hdA, hdB, hdK⟩, hood⟩ := id hap
  obtain ⟨hR, hB, hmB, hZ, ⟨M, hP⟩, hCb, ht⟩ := id hnv
  have e30 : τ 30 0 = σ 0 0 := hR.1.1
  have e31 : τ 31 0 = σ 1 0 := hR.1.2.1
  have e32 : τ 32 0 = σ 2 0 := hR.1.2.2.1
  have e33 : τ 33 0 = σ 3 0 := hR.1.2.2.2.1
  have e34 : τ 34 0 = σ 4 0 := hR.1.2.2.2.2
  have nR := hB.nR
  have nC := hB.nC
  have nW := hB.nW
  have nA := hB.nA
  obtain ⟨gJ, hoJ⟩ := hoJ
  obtain ⟨gD, hoD⟩ := hoD
  rcases kidx (xs (i + 1)) (N := σ 2 0) (by omega) with ⟨j, hj, e1⟩ | h
  · have hnv' : kNv (n + 1) (σ) (mT τ 0) := (kNv_t hnv 0)
    have hco : kCo n (0) (0) σ (σ) := kCo_rd n σ
    exact lq_trusted (σ' := σ) (τ' := mT τ 0) (v := nI (kTrm σ j (σ 1 0))) (vm := nI (mSet (fun r => mTr τ j r) (τ 31 0))) (mc := 0) (ms := 0) (kn := 0) S hE hX hbl hlo hL hi hap hw hm ⟨gJ, hoJ⟩ ⟨gD, hoD⟩ (yl_trusted ε l hA1 hoK hoA hw hoJ (by rw [e1]; exact cp_trusted ε l hw hB hj)) (fun H1 hm1 => by rw [e1]; exact cm_trusted ε l hB1 hm1 hmB (by rw [e32]; exact hj)) (by simp [ku]) (by decide) (fun _ => by rw [kA_trusted hR hB hj]) (kCo_b hco hnv' hn) hS hl (fun H' locs' ls' hL' hz' hS' hl' => W.widen hco.1 hco.2 (KK _ _ H' locs' ls' hnv' hL' hz' hS' hl'))
  · have hnv' : kNv (n + 1) (σ) (mT τ 1) := (kNv_t hnv 1)
    have hco : kCo n (1) (6) σ (σ) := kCo_x n σ
    exact lq_trusted (σ' := σ) (τ' := mT τ 1) (v := 0) (vm := 0) (mc := 1) (ms := 6) (kn := 1) S hE hX hbl hlo hL hi hap hw hm ⟨gJ, hoJ⟩ ⟨gD, hoD⟩ (yl_trustedX1 ε l 0 hA1 hoK hoA hw hoJ (by exact cpx_trusted ε l hw hB hst h)) (fun H1 hm1 => by exact cm_trustedX ε l hB1 hm1 hmB (by rw [e32]; exact h)) (by simp [ku]) (by decide) (fun h => absurd h (by decide)) (kCo_b hco hnv' hn) hS hl (fun H' locs' ls' hL' hz' hS' hl' => W.widen hco.1 hco.2 (KK _ _ H' locs' ls' hnv' hL' hz' hS' hl'))
set_option maxHeartbeats 4000000 in
set_option maxRecDepth 100000 in
theorem st_hasAlarm (S : CallFix p m c cL_law 8 s #[Value.ref b] wsL_law RL) (hE : kE ε s) (hX : va_X b L xs s s.heap) (hbl : b < s.heap.size) (hlo : ε.2.2.1 = s.heap.size) (hL : L ≤ 2560) (hi : i + 5 ≤ L) (hap : kAp ε A B o od) (hst : l.stackTraces = false) (hnv : kNv n σ τ) (hn : n < 512) (hA2 : ∀ q, H.size ≤ q → A q) (hw : kW ε A ad σ H) (hm : kM ε B bd τ H) (hoJ : ∃ g, kat ε o (kJ ε 1 g) H) (hoD : ∃ g, kat ε od (kD ε 1 g) H) (hS : va_S (kHi ε) s.heap H locs) (hl : lv_has ls 8 [(0, .ref b), (1, .ref (ad 0 0)), (2, .ref (bd 0)), (3, .ref o), (4, .ref od), (5, .int (nI i))]) (KK : ∀ (σ' τ' : kS) (H' : Heap) (locs' : List Loc) (ls' : Array Slot), kNv (n + 1) σ' τ' → kLw ε A B o od (ad 0 0) (bd 0) σ' τ' H' → H.size ≤ H'.size → va_S (kHi ε) s.heap H' locs' → lv_has ls' 8 [(0, .ref b), (1, .ref (ad 0 0)), (2, .ref (bd 0)), (3, .ref o), (4, .ref od), (5, .int (nI i))] → W p l e room_1 s m #[Value.ref b] below meth c H' locs' (kCe (n + 1) σ') (kSl (n + 1) σ') Q (F0 m 1640 ls' [])) : W p l e room_1 s m #[Value.ref b] below meth c H locs (kCe n σ) (kSl n σ) Q (F0 m 1331 ls []) := by
  obtain ⟨hA1, hB1, hAB, ⟨hoA, hoB, hoK⟩, ⟨hdA, hdB, hdK⟩, hood⟩ := id hap
  obtain ⟨hR, hB, hmB, hZ, ⟨M, hP⟩, hCb, ht⟩ := id hnv
  have e30 : τ 30 0 = σ 0 0 := hR.1.1
  have e31 : τ 31 0 = σ 1 0 := hR.1.2.1
  have e32 : τ 32 0 = σ 2 0 := hR.1.2.2.1
  have e33 : τ 33 0 = σ 3 0 := hR.1.2.2.2.1
  have e34 : τ 34 0 = σ 4 0 := hR.1.2.2.2.2
  have nR := hB.nR
  have nC := hB.nC
  have nW := hB.nW
  have nA := hB.nA
  obtain ⟨gJ, hoJ⟩ := hoJ
  obtain ⟨gD, hoD⟩ := hoD
  rcases kidx (xs (i + 1)) (N := σ 2 0) (by omega) with ⟨j, hj, e1⟩ | h
  · have hnv' : kNv (n + 1) (σ) (mT τ 0) := (kNv_t hnv 0)
    have hco : kCo n (0) (0) σ (σ) := kCo_rd n σ
    exact lq_hasAlarm (σ' := σ) (τ' := mT τ 0) (v := bI (σ 25 j != 0)) (vm := bI (τ 11 j != 0)) (mc := 0) (ms := 0) (kn := 0) S hE hX hbl hlo hL hi hap hw hm ⟨gJ, hoJ⟩ ⟨gD, hoD⟩ (yl_hasAlarm ε l hA1 hoK hoA hw hoJ (by rw [e1]; exact cp_hasAlarm ε l hw hB hj) (bI_01 _)) (fun H1 hm1 => by rw [e1]; exact cm_hasAlarm ε l hB1 hm1 hmB (by rw [e32]; exact hj)) (by simp [ku]) (by decide) (fun _ => by rw [hR.2.2.2.2.1 j hj]) (fun _ => bI_01 _) (kCo_b hco hnv' hn) hS hl (fun H' locs' ls' hL' hz' hS' hl' => W.widen hco.1 hco.2 (KK _ _ H' locs' ls' hnv' hL' hz' hS' hl'))
  · have hnv' : kNv (n + 1) (σ) (mT τ 1) := (kNv_t hnv 1)
    have hco : kCo n (1) (6) σ (σ) := kCo_x n σ
    exact lq_hasAlarm (σ' := σ) (τ' := mT τ 1) (v := 0) (vm := 0) (mc := 1) (ms := 6) (kn := 1) S hE hX hbl hlo hL hi hap hw hm ⟨gJ, hoJ⟩ ⟨gD, hoD⟩ (yl_hasAlarmX1 ε l 0 hA1 hoK hoA hw hoJ (by exact cpx_hasAlarm ε l hw hB hst h)) (fun H1 hm1 => by exact cm_hasAlarmX ε l hB1 hm1 hmB (by rw [e32]; exact h)) (by simp [ku]) (by decide) (fun h => absurd h (by decide)) (fun h => absurd h (by decide)) (kCo_b hco hnv' hn) hS hl (fun H' locs' ls' hL' hz' hS' hl' => W.widen hco.1 hco.2 (KK _ _ H' locs' ls' hnv' hL' hz' hS' hl'))
set_option maxHeartbeats 4000000 in
set_option maxRecDepth 100000 in
theorem st_alarmCheck (S : CallFix p m c cL_law 8 s #[Value.ref b] wsL_law RL) (hE : kE ε s) (hX : va_X b L xs s s.heap) (hbl : b < s.heap.size) (hlo : ε.2.2.1 = s.heap.size) (hL : L ≤ 2560) (hi : i + 5 ≤ L) (hap : kAp ε A B o od) (hst : l.stackTraces = false) (hnv : kNv n σ τ) (hn : n < 512) (hA2 : ∀ q, H.size ≤ q → A q) (hw : kW ε A ad σ H) (hm : kM ε B bd τ H) (hoJ : ∃ g, kat ε o (kJ ε 1 g) H) (hoD : ∃ g, kat ε od (kD ε 1 g) H) (hS : va_S (kHi ε) s.heap H locs) (hl : lv_has ls 8 [(0, .ref b), (1, .ref (ad 0 0)), (2, .ref (bd 0)), (3, .ref o), (4, .ref od), (5, .int (nI i))]) (KK : ∀ (σ' τ' : kS) (H' : Heap) (locs' : List Loc) (ls' : Array Slot), kNv (n + 1) σ' τ' → kLw ε A B o od (ad 0 0) (bd 0) σ' τ' H' → H.size ≤ H'.size → va_S (kHi ε) s.heap H' locs' → lv_has ls' 8 [(0, .ref b), (1, .ref (ad 0 0)), (2, .ref (bd 0)), (3, .ref o), (4, .ref od), (5, .int (nI i))] → W p l e room_1 s m #[Value.ref b] below meth c H' locs' (kCe (n + 1) σ') (kSl (n + 1) σ') Q (F0 m 1640 ls' [])) : W p l e room_1 s m #[Value.ref b] below meth c H locs (kCe n σ) (kSl n σ) Q (F0 m 1394 ls []) := by
  obtain ⟨hA1, hB1, hAB, ⟨hoA, hoB, hoK⟩, ⟨hdA, hdB, hdK⟩, hood⟩ := id hap
  obtain ⟨hR, hB, hmB, hZ, ⟨M, hP⟩, hCb, ht⟩ := id hnv
  have e30 : τ 30 0 = σ 0 0 := hR.1.1
  have e31 : τ 31 0 = σ 1 0 := hR.1.2.1
  have e32 : τ 32 0 = σ 2 0 := hR.1.2.2.1
  have e33 : τ 33 0 = σ 3 0 := hR.1.2.2.2.1
  have e34 : τ 34 0 = σ 4 0 := hR.1.2.2.2.2
  have nR := hB.nR
  have nC := hB.nC
  have nW := hB.nW
  have nA := hB.nA
  obtain ⟨gJ, hoJ⟩ := hoJ
  obtain ⟨gD, hoD⟩ := hoD
  rcases kidx (xs (i + 1)) (N := σ 4 0) (by omega) with ⟨j, hj, e1⟩ | h
  · have hnv' : kNv (n + 1) (σ) (mT τ 0) := (kNv_t hnv 0)
    have hco : kCo n (0) (0) σ (σ) := kCo_rd n σ
    exact lq_alarmCheck (σ' := σ) (τ' := mT τ 0) (v := nI (σ 50 j)) (vm := nI (τ 21 j % 8)) (mc := 0) (ms := 0) (kn := 0) S hE hX hbl hlo hL hi hap hw hm ⟨gJ, hoJ⟩ ⟨gD, hoD⟩ (yl_alarmCheck ε l hA1 hoK hoA hw hoJ (by rw [e1]; exact cp_alarmCheck ε l hw hB hj)) (fun H1 hm1 => by rw [e1]; exact cm_alarmCheck ε l hB1 hm1 hmB (by rw [e34]; exact hj)) (by simp [ku]) (by decide) (fun _ => by rw [(kA_al hR hB hj).1]) (kCo_b hco hnv' hn) hS hl (fun H' locs' ls' hL' hz' hS' hl' => W.widen hco.1 hco.2 (KK _ _ H' locs' ls' hnv' hL' hz' hS' hl'))
  · have hnv' : kNv (n + 1) (σ) (mT τ 1) := (kNv_t hnv 1)
    have hco : kCo n (1) (6) σ (σ) := kCo_x n σ
    exact lq_alarmCheck (σ' := σ) (τ' := mT τ 1) (v := 0) (vm := 0) (mc := 1) (ms := 6) (kn := 1) S hE hX hbl hlo hL hi hap hw hm ⟨gJ, hoJ⟩ ⟨gD, hoD⟩ (yl_alarmCheckX1 ε l 0 hA1 hoK hoA hw hoJ (by exact cpx_alarmCheck ε l hw hB hst h)) (fun H1 hm1 => by exact cm_alarmCheckX ε l hB1 hm1 hmB (by rw [e34]; exact h)) (by simp [ku]) (by decide) (fun h => absurd h (by decide)) (kCo_b hco hnv' hn) hS hl (fun H' locs' ls' hL' hz' hS' hl' => W.widen hco.1 hco.2 (KK _ _ H' locs' ls' hnv' hL' hz' hS' hl'))
set_option maxHeartbeats 4000000 in
set_option maxRecDepth 100000 in
theorem st_alarmRaised (S : CallFix p m c cL_law 8 s #[Value.ref b] wsL_law RL) (hE : kE ε s) (hX : va_X b L xs s s.heap) (hbl : b < s.heap.size) (hlo : ε.2.2.1 = s.heap.size) (hL : L ≤ 2560) (hi : i + 5 ≤ L) (hap : kAp ε A B o od) (hst : l.stackTraces = false) (hnv : kNv n σ τ) (hn : n < 512) (hA2 : ∀ q, H.size ≤ q → A q) (hw : kW ε A ad σ H) (hm : kM ε B bd τ H) (hoJ : ∃ g, kat ε o (kJ ε 1 g) H) (hoD : ∃ g, kat ε od (kD ε 1 g) H) (hS : va_S (kHi ε) s.heap H locs) (hl : lv_has ls 8 [(0, .ref b), (1, .ref (ad 0 0)), (2, .ref (bd 0)), (3, .ref o), (4, .ref od), (5, .int (nI i))]) (KK : ∀ (σ' τ' : kS) (H' : Heap) (locs' : List Loc) (ls' : Array Slot), kNv (n + 1) σ' τ' → kLw ε A B o od (ad 0 0) (bd 0) σ' τ' H' → H.size ≤ H'.size → va_S (kHi ε) s.heap H' locs' → lv_has ls' 8 [(0, .ref b), (1, .ref (ad 0 0)), (2, .ref (bd 0)), (3, .ref o), (4, .ref od), (5, .int (nI i))] → W p l e room_1 s m #[Value.ref b] below meth c H' locs' (kCe (n + 1) σ') (kSl (n + 1) σ') Q (F0 m 1640 ls' [])) : W p l e room_1 s m #[Value.ref b] below meth c H locs (kCe n σ) (kSl n σ) Q (F0 m 1450 ls []) := by
  obtain ⟨hA1, hB1, hAB, ⟨hoA, hoB, hoK⟩, ⟨hdA, hdB, hdK⟩, hood⟩ := id hap
  obtain ⟨hR, hB, hmB, hZ, ⟨M, hP⟩, hCb, ht⟩ := id hnv
  have e30 : τ 30 0 = σ 0 0 := hR.1.1
  have e31 : τ 31 0 = σ 1 0 := hR.1.2.1
  have e32 : τ 32 0 = σ 2 0 := hR.1.2.2.1
  have e33 : τ 33 0 = σ 3 0 := hR.1.2.2.2.1
  have e34 : τ 34 0 = σ 4 0 := hR.1.2.2.2.2
  have nR := hB.nR
  have nC := hB.nC
  have nW := hB.nW
  have nA := hB.nA
  obtain ⟨gJ, hoJ⟩ := hoJ
  obtain ⟨gD, hoD⟩ := hoD
  rcases kidx (xs (i + 1)) (N := σ 4 0) (by omega) with ⟨j, hj, e1⟩ | h
  · have hnv' : kNv (n + 1) (σ) (mT τ 0) := (kNv_t hnv 0)
    have hco : kCo n (0) (0) σ (σ) := kCo_rd n σ
    exact lq_alarmRaised (σ' := σ) (τ' := mT τ 0) (v := nI (σ 51 j)) (vm := nI (τ 21 j / 8)) (mc := 0) (ms := 0) (kn := 0) S hE hX hbl hlo hL hi hap hw hm ⟨gJ, hoJ⟩ ⟨gD, hoD⟩ (yl_alarmRaised ε l hA1 hoK hoA hw hoJ (by rw [e1]; exact cp_alarmRaised ε l hw hB hj)) (fun H1 hm1 => by rw [e1]; exact cm_alarmRaised ε l hB1 hm1 hmB (by rw [e34]; exact hj)) (by simp [ku]) (by decide) (fun _ => by rw [(kA_al hR hB hj).2.1]) (kCo_b hco hnv' hn) hS hl (fun H' locs' ls' hL' hz' hS' hl' => W.widen hco.1 hco.2 (KK _ _ H' locs' ls' hnv' hL' hz' hS' hl'))
  · have hnv' : kNv (n + 1) (σ) (mT τ 1) := (kNv_t hnv 1)
    have hco : kCo n (1) (6) σ (σ) := kCo_x n σ
    exact lq_alarmRaised (σ' := σ) (τ' := mT τ 1) (v := 0) (vm := 0) (mc := 1) (ms := 6) (kn := 1) S hE hX hbl hlo hL hi hap hw hm ⟨gJ, hoJ⟩ ⟨gD, hoD⟩ (yl_alarmRaisedX1 ε l 0 hA1 hoK hoA hw hoJ (by exact cpx_alarmRaised ε l hw hB hst h)) (fun H1 hm1 => by exact cm_alarmRaisedX ε l hB1 hm1 hmB (by rw [e34]; exact h)) (by simp [ku]) (by decide) (fun h => absurd h (by decide)) (kCo_b hco hnv' hn) hS hl (fun H' locs' ls' hL' hz' hS' hl' => W.widen hco.1 hco.2 (KK _ _ H' locs' ls' hnv' hL' hz' hS' hl'))
set_option maxHeartbeats 4000000 in
set_option maxRecDepth 100000 in
theorem st_alarmClosed (S : CallFix p m c cL_law 8 s #[Value.ref b] wsL_law RL) (hE : kE ε s) (hX : va_X b L xs s s.heap) (hbl : b < s.heap.size) (hlo : ε.2.2.1 = s.heap.size) (hL : L ≤ 2560) (hi : i + 5 ≤ L) (hap : kAp ε A B o od) (hst : l.stackTraces = false) (hnv : kNv n σ τ) (hn : n < 512) (hA2 : ∀ q, H.size ≤ q → A q) (hw : kW ε A ad σ H) (hm : kM ε B bd τ H) (hoJ : ∃ g, kat ε o (kJ ε 1 g) H) (hoD : ∃ g, kat ε od (kD ε 1 g) H) (hS : va_S (kHi ε) s.heap H locs) (hl : lv_has ls 8 [(0, .ref b), (1, .ref (ad 0 0)), (2, .ref (bd 0)), (3, .ref o), (4, .ref od), (5, .int (nI i))]) (KK : ∀ (σ' τ' : kS) (H' : Heap) (locs' : List Loc) (ls' : Array Slot), kNv (n + 1) σ' τ' → kLw ε A B o od (ad 0 0) (bd 0) σ' τ' H' → H.size ≤ H'.size → va_S (kHi ε) s.heap H' locs' → lv_has ls' 8 [(0, .ref b), (1, .ref (ad 0 0)), (2, .ref (bd 0)), (3, .ref o), (4, .ref od), (5, .int (nI i))] → W p l e room_1 s m #[Value.ref b] below meth c H' locs' (kCe (n + 1) σ') (kSl (n + 1) σ') Q (F0 m 1640 ls' [])) : W p l e room_1 s m #[Value.ref b] below meth c H locs (kCe n σ) (kSl n σ) Q (F0 m 1506 ls []) := by
  obtain ⟨hA1, hB1, hAB, ⟨hoA, hoB, hoK⟩, ⟨hdA, hdB, hdK⟩, hood⟩ := id hap
  obtain ⟨hR, hB, hmB, hZ, ⟨M, hP⟩, hCb, ht⟩ := id hnv
  have e30 : τ 30 0 = σ 0 0 := hR.1.1
  have e31 : τ 31 0 = σ 1 0 := hR.1.2.1
  have e32 : τ 32 0 = σ 2 0 := hR.1.2.2.1
  have e33 : τ 33 0 = σ 3 0 := hR.1.2.2.2.1
  have e34 : τ 34 0 = σ 4 0 := hR.1.2.2.2.2
  have nR := hB.nR
  have nC := hB.nC
  have nW := hB.nW
  have nA := hB.nA
  obtain ⟨gJ, hoJ⟩ := hoJ
  obtain ⟨gD, hoD⟩ := hoD
  rcases kidx (xs (i + 1)) (N := σ 4 0) (by omega) with ⟨j, hj, e1⟩ | h
  · have hnv' : kNv (n + 1) (σ) (mT τ 0) := (kNv_t hnv 0)
    have hco : kCo n (0) (0) σ (σ) := kCo_rd n σ
    exact lq_alarmClosed (σ' := σ) (τ' := mT τ 0) (v := mI (σ 52 j)) (vm := mI (τ 22 j)) (mc := 0) (ms := 0) (kn := 0) S hE hX hbl hlo hL hi hap hw hm ⟨gJ, hoJ⟩ ⟨gD, hoD⟩ (yl_alarmClosed ε l hA1 hoK hoA hw hoJ (by rw [e1]; exact cp_alarmClosed ε l hw hB hj)) (fun H1 hm1 => by rw [e1]; exact cm_alarmClosed ε l hB1 hm1 hmB (by rw [e34]; exact hj)) (by simp [ku]) (by decide) (fun _ => by rw [(kA_al hR hB hj).2.2]) (kCo_b hco hnv' hn) hS hl (fun H' locs' ls' hL' hz' hS' hl' => W.widen hco.1 hco.2 (KK _ _ H' locs' ls' hnv' hL' hz' hS' hl'))
  · have hnv' : kNv (n + 1) (σ) (mT τ 1) := (kNv_t hnv 1)
    have hco : kCo n (1) (6) σ (σ) := kCo_x n σ
    exact lq_alarmClosed (σ' := σ) (τ' := mT τ 1) (v := 0) (vm := 0) (mc := 1) (ms := 6) (kn := 1) S hE hX hbl hlo hL hi hap hw hm ⟨gJ, hoJ⟩ ⟨gD, hoD⟩ (yl_alarmClosedX1 ε l 0 hA1 hoK hoA hw hoJ (by exact cpx_alarmClosed ε l hw hB hst h)) (fun H1 hm1 => by exact cm_alarmClosedX ε l hB1 hm1 hmB (by rw [e34]; exact h)) (by simp [ku]) (by decide) (fun h => absurd h (by decide)) (kCo_b hco hnv' hn) hS hl (fun H' locs' ls' hL' hz' hS' hl' => W.widen hco.1 hco.2 (KK _ _ H' locs' ls' hnv' hL' hz' hS' hl'))
set_option maxHeartbeats 4000000 in
set_option maxRecDepth 100000 in
theorem st_availability (S : CallFix p m c cL_law 8 s #[Value.ref b] wsL_law RL) (hE : kE ε s) (hX : va_X b L xs s s.heap) (hbl : b < s.heap.size) (hlo : ε.2.2.1 = s.heap.size) (hL : L ≤ 2560) (hi : i + 5 ≤ L) (hap : kAp ε A B o od) (hst : l.stackTraces = false) (hnv : kNv n σ τ) (hn : n < 512) (hA2 : ∀ q, H.size ≤ q → A q) (hw : kW ε A ad σ H) (hm : kM ε B bd τ H) (hoJ : ∃ g, kat ε o (kJ ε 1 g) H) (hoD : ∃ g, kat ε od (kD ε 1 g) H) (hS : va_S (kHi ε) s.heap H locs) (hl : lv_has ls 8 [(0, .ref b), (1, .ref (ad 0 0)), (2, .ref (bd 0)), (3, .ref o), (4, .ref od), (5, .int (nI i))]) (KK : ∀ (σ' τ' : kS) (H' : Heap) (locs' : List Loc) (ls' : Array Slot), kNv (n + 1) σ' τ' → kLw ε A B o od (ad 0 0) (bd 0) σ' τ' H' → H.size ≤ H'.size → va_S (kHi ε) s.heap H' locs' → lv_has ls' 8 [(0, .ref b), (1, .ref (ad 0 0)), (2, .ref (bd 0)), (3, .ref o), (4, .ref od), (5, .int (nI i))] → W p l e room_1 s m #[Value.ref b] below meth c H' locs' (kCe (n + 1) σ') (kSl (n + 1) σ') Q (F0 m 1640 ls' [])) : W p l e room_1 s m #[Value.ref b] below meth c H locs (kCe n σ) (kSl n σ) Q (F0 m 1562 ls []) := by
  obtain ⟨hA1, hB1, hAB, ⟨hoA, hoB, hoK⟩, ⟨hdA, hdB, hdK⟩, hood⟩ := id hap
  obtain ⟨hR, hB, hmB, hZ, ⟨M, hP⟩, hCb, ht⟩ := id hnv
  have e30 : τ 30 0 = σ 0 0 := hR.1.1
  have e31 : τ 31 0 = σ 1 0 := hR.1.2.1
  have e32 : τ 32 0 = σ 2 0 := hR.1.2.2.1
  have e33 : τ 33 0 = σ 3 0 := hR.1.2.2.2.1
  have e34 : τ 34 0 = σ 4 0 := hR.1.2.2.2.2
  have nR := hB.nR
  have nC := hB.nC
  have nW := hB.nW
  have nA := hB.nA
  obtain ⟨gJ, hoJ⟩ := hoJ
  obtain ⟨gD, hoD⟩ := hoD
  rcases kidx (xs (i + 1)) (N := σ 2 0) (by omega) with ⟨j, hj, e1⟩ | h
  · have w12 : τ 12 j = σ 26 j := by rw [hR.2.1.2.2.2.2.2.2.2.1]
    have w13 : τ 13 j = σ 27 j := by rw [hR.2.1.2.2.2.2.2.2.2.2.1]
    have cb := hCb j
    have mn := hB.min
    by_cases h0 : σ 27 j = 0
    · have hnv' : kNv (n + 1) (σ) (mT τ 2) := (kNv_t hnv 2)
      have hco : kCo n (1) (6) σ (σ) := kCo_x n σ
      exact lq_availability (σ' := σ) (τ' := mT τ 2) (v := 0) (vm := FP.fconst0) (mc := 1) (ms := 6) (kn := 2) S hE hX hbl hlo hL hi hap hw hm ⟨gJ, hoJ⟩ ⟨gD, hoD⟩ (yl_availabilityX2 ε l 0 hA1 hdK hdA hw hoD (by rw [e1]; exact cpx_availability2 ε l hw hB hst hj h0)) (fun H1 hm1 => by rw [e1]; exact cm_availabilityX2 ε l hB1 hm1 hmB (by rw [e32]; exact hj) (by rw [w13]; exact h0)) (by simp [ku]) (by decide) (fun h => absurd h (by decide)) (fun h => absurd h (by decide)) (kCo_b hco hnv' hn) hS hl (fun H' locs' ls' hL' hz' hS' hl' => W.widen hco.1 hco.2 (KK _ _ H' locs' ls' hnv' hL' hz' hS' hl'))
    · have k26 : σ 26 j ≤ 2 ^ 24 := by have := cb.1; omega
      have k27 : σ 27 j ≤ 2 ^ 24 := by have := cb.2; omega
      have hnv' : kNv (n + 1) (σ) (mT τ 0) := (kNv_t hnv 0)
      have hco : kCo n (0) (0) σ (σ) := kCo_rd n σ
      exact lq_availability (σ' := σ) (τ' := mT τ 0) (v := FP.fdiv (FP.i2f (nI (σ 26 j))) (FP.i2f (nI (σ 27 j)))) (vm := FP.fdiv (FP.i2f (nI (τ 12 j))) (FP.i2f (nI (τ 13 j)))) (mc := 0) (ms := 0) (kn := 0) S hE hX hbl hlo hL hi hap hw hm ⟨gJ, hoJ⟩ ⟨gD, hoD⟩ (yl_availability ε l hA1 hdK hdA hw hoD (by rw [e1]; exact cp_availability ε l hw hB hj k26 k27 h0) (kf_div k26 k27 (by omega))) (fun H1 hm1 => by rw [e1]; exact cm_availability ε l hB1 hm1 hmB (by rw [e32]; exact hj) (by rw [w12]; exact k26) (by rw [w13]; exact k27) (by rw [w13]; exact h0)) (by simp [ku]) (by decide) (fun _ => by rw [w12, w13]) (fun _ => by rw [w12, w13]; exact kf_div k26 k27 (by omega)) (kCo_b hco hnv' hn) hS hl (fun H' locs' ls' hL' hz' hS' hl' => W.widen hco.1 hco.2 (KK _ _ H' locs' ls' hnv' hL' hz' hS' hl'))
  · have hnv' : kNv (n + 1) (σ) (mT τ 1) := (kNv_t hnv 1)
    have hco : kCo n (1) (6) σ (σ) := kCo_x n σ
    exact lq_availability (σ' := σ) (τ' := mT τ 1) (v := 0) (vm := FP.fconst0) (mc := 1) (ms := 6) (kn := 1) S hE hX hbl hlo hL hi hap hw hm ⟨gJ, hoJ⟩ ⟨gD, hoD⟩ (yl_availabilityX1 ε l 0 hA1 hdK hdA hw hoD (by exact cpx_availability1 ε l hw hB hst h)) (fun H1 hm1 => by exact cm_availabilityX1 ε l hB1 hm1 hmB (by rw [e32]; exact h)) (by simp [ku]) (by decide) (fun h => absurd h (by decide)) (fun h => absurd h (by decide)) (kCo_b hco hnv' hn) hS hl (fun H' locs' ls' hL' hz' hS' hl' => W.widen hco.1 hco.2 (KK _ _ H' locs' ls' hnv' hL' hz' hS' hl'))
end KST
