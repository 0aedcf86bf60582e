section
-- ===== PART A: goes FIRST, ahead of the names: the tables' words, and 'selects' of the private methods out of them =====
/-- a private method of a class that the tables say can be made, by its rows of tables_1 -/
def lw_okq (q : MethodName × Nat) : Prop := (q.1.cls ≠ "java/lang/invoke/MethodHandle" ∧ q.1.cls ≠ "java/lang/invoke/VarHandle") ∧ Cond.instantiable q.1.cls q.2 ∈ tables_1 ∧ Cond.privateMethod q.1 ∈ tables_1 ∧ Cond.instanceMethod q.1 ∈ tables_1
theorem lw_p0 : lw_okq (⟨"Probeweb", "requireRegion", "(I)V"⟩, 7) := ⟨⟨by decide +kernel, by decide +kernel⟩, List.mem_of_getElem? (i := 24) (by decide +kernel), List.mem_of_getElem? (i := 101) (by decide +kernel), List.mem_of_getElem? (i := 102) (by decide +kernel)⟩
theorem lw_p1 : lw_okq (⟨"java/lang/Throwable", "fillInStackTrace", "(I)Ljava/lang/Throwable;"⟩, 6) := ⟨⟨by decide +kernel, by decide +kernel⟩, List.mem_of_getElem? (i := 143) (by decide +kernel), List.mem_of_getElem? (i := 141) (by decide +kernel), List.mem_of_getElem? (i := 142) (by decide +kernel)⟩
theorem lw_p2 : lw_okq (⟨"java/util/ArrayList", "add", "(Ljava/lang/Object;[Ljava/lang/Object;I)V"⟩, 3) := ⟨⟨by decide +kernel, by decide +kernel⟩, List.mem_of_getElem? (i := 32) (by decide +kernel), List.mem_of_getElem? (i := 231) (by decide +kernel), List.mem_of_getElem? (i := 232) (by decide +kernel)⟩
theorem lw_p3 : lw_okq (⟨"java/util/ArrayList", "grow", "()[Ljava/lang/Object;"⟩, 3) := ⟨⟨by decide +kernel, by decide +kernel⟩, List.mem_of_getElem? (i := 32) (by decide +kernel), List.mem_of_getElem? (i := 235) (by decide +kernel), List.mem_of_getElem? (i := 236) (by decide +kernel)⟩
theorem lw_p4 : lw_okq (⟨"java/util/ArrayList", "grow", "(I)[Ljava/lang/Object;"⟩, 3) := ⟨⟨by decide +kernel, by decide +kernel⟩, List.mem_of_getElem? (i := 32) (by decide +kernel), List.mem_of_getElem? (i := 239) (by decide +kernel), List.mem_of_getElem? (i := 240) (by decide +kernel)⟩
theorem lw_p5 : lw_okq (⟨"Probeweb", "requireCheck", "(I)V"⟩, 7) := ⟨⟨by decide +kernel, by decide +kernel⟩, List.mem_of_getElem? (i := 24) (by decide +kernel), List.mem_of_getElem? (i := 371) (by decide +kernel), List.mem_of_getElem? (i := 372) (by decide +kernel)⟩
theorem lw_p6 : lw_okq (⟨"Probeweb", "passOneMinute", "()V"⟩, 7) := ⟨⟨by decide +kernel, by decide +kernel⟩, List.mem_of_getElem? (i := 24) (by decide +kernel), List.mem_of_getElem? (i := 445) (by decide +kernel), List.mem_of_getElem? (i := 446) (by decide +kernel)⟩
theorem lw_p7 : lw_okq (⟨"Probeweb", "makeProbes", "()V"⟩, 7) := ⟨⟨by decide +kernel, by decide +kernel⟩, List.mem_of_getElem? (i := 24) (by decide +kernel), List.mem_of_getElem? (i := 449) (by decide +kernel), List.mem_of_getElem? (i := 450) (by decide +kernel)⟩
theorem lw_p8 : lw_okq (⟨"Probeweb", "makeProbe", "(LProbeweb$Check;LProbeweb$Region;)V"⟩, 7) := ⟨⟨by decide +kernel, by decide +kernel⟩, List.mem_of_getElem? (i := 24) (by decide +kernel), List.mem_of_getElem? (i := 461) (by decide +kernel), List.mem_of_getElem? (i := 462) (by decide +kernel)⟩
theorem lw_p9 : lw_okq (⟨"Probeweb", "wouldFail", "(LProbeweb$Check;LProbeweb$Region;)Z"⟩, 7) := ⟨⟨by decide +kernel, by decide +kernel⟩, List.mem_of_getElem? (i := 24) (by decide +kernel), List.mem_of_getElem? (i := 465) (by decide +kernel), List.mem_of_getElem? (i := 466) (by decide +kernel)⟩
theorem lw_p10 : lw_okq (⟨"Probeweb", "judgeRegions", "()V"⟩, 7) := ⟨⟨by decide +kernel, by decide +kernel⟩, List.mem_of_getElem? (i := 24) (by decide +kernel), List.mem_of_getElem? (i := 477) (by decide +kernel), List.mem_of_getElem? (i := 478) (by decide +kernel)⟩
theorem lw_p11 : lw_okq (⟨"Probeweb", "votesAreBad", "(I)Z"⟩, 7) := ⟨⟨by decide +kernel, by decide +kernel⟩, List.mem_of_getElem? (i := 24) (by decide +kernel), List.mem_of_getElem? (i := 481) (by decide +kernel), List.mem_of_getElem? (i := 482) (by decide +kernel)⟩
theorem lw_p12 : lw_okq (⟨"Probeweb", "judgeChecks", "()V"⟩, 7) := ⟨⟨by decide +kernel, by decide +kernel⟩, List.mem_of_getElem? (i := 24) (by decide +kernel), List.mem_of_getElem? (i := 485) (by decide +kernel), List.mem_of_getElem? (i := 486) (by decide +kernel)⟩
theorem lw_p13 : lw_okq (⟨"Probeweb", "trustedRegions", "(LProbeweb$Check;)I"⟩, 7) := ⟨⟨by decide +kernel, by decide +kernel⟩, List.mem_of_getElem? (i := 24) (by decide +kernel), List.mem_of_getElem? (i := 489) (by decide +kernel), List.mem_of_getElem? (i := 490) (by decide +kernel)⟩
theorem lw_p14 : lw_okq (⟨"Probeweb", "raiseAndCloseAlarms", "()V"⟩, 7) := ⟨⟨by decide +kernel, by decide +kernel⟩, List.mem_of_getElem? (i := 24) (by decide +kernel), List.mem_of_getElem? (i := 504) (by decide +kernel), List.mem_of_getElem? (i := 505) (by decide +kernel)⟩
theorem lw_p15 : lw_okq (⟨"Probeweb", "isMaintained", "(LProbeweb$Check;)Z"⟩, 7) := ⟨⟨by decide +kernel, by decide +kernel⟩, List.mem_of_getElem? (i := 24) (by decide +kernel), List.mem_of_getElem? (i := 508) (by decide +kernel), List.mem_of_getElem? (i := 509) (by decide +kernel)⟩
def lw_privs_1 : List (MethodName × Nat) := [(⟨"Probeweb", "requireRegion", "(I)V"⟩, 7), (⟨"java/lang/Throwable", "fillInStackTrace", "(I)Ljava/lang/Throwable;"⟩, 6), (⟨"java/util/ArrayList", "add", "(Ljava/lang/Object;[Ljava/lang/Object;I)V"⟩, 3), (⟨"java/util/ArrayList", "grow", "()[Ljava/lang/Object;"⟩, 3), (⟨"java/util/ArrayList", "grow", "(I)[Ljava/lang/Object;"⟩, 3), (⟨"Probeweb", "requireCheck", "(I)V"⟩, 7), (⟨"Probeweb", "passOneMinute", "()V"⟩, 7), (⟨"Probeweb", "makeProbes", "()V"⟩, 7), (⟨"Probeweb", "makeProbe", "(LProbeweb$Check;LProbeweb$Region;)V"⟩, 7), (⟨"Probeweb", "wouldFail", "(LProbeweb$Check;LProbeweb$Region;)Z"⟩, 7), (⟨"Probeweb", "judgeRegions", "()V"⟩, 7), (⟨"Probeweb", "votesAreBad", "(I)Z"⟩, 7), (⟨"Probeweb", "judgeChecks", "()V"⟩, 7), (⟨"Probeweb", "trustedRegions", "(LProbeweb$Check;)I"⟩, 7), (⟨"Probeweb", "raiseAndCloseAlarms", "()V"⟩, 7), (⟨"Probeweb", "isMaintained", "(LProbeweb$Check;)Z"⟩, 7)]
theorem lw_r1 : ∀ q ∈ lw_privs_1, lw_okq q := List.forall_mem_cons.mpr ⟨lw_p0, List.forall_mem_cons.mpr ⟨lw_p1, List.forall_mem_cons.mpr ⟨lw_p2, List.forall_mem_cons.mpr ⟨lw_p3, List.forall_mem_cons.mpr ⟨lw_p4, List.forall_mem_cons.mpr ⟨lw_p5, List.forall_mem_cons.mpr ⟨lw_p6, List.forall_mem_cons.mpr ⟨lw_p7, List.forall_mem_cons.mpr ⟨lw_p8, List.forall_mem_cons.mpr ⟨lw_p9, List.forall_mem_cons.mpr ⟨lw_p10, List.forall_mem_cons.mpr ⟨lw_p11, List.forall_mem_cons.mpr ⟨lw_p12, List.forall_mem_cons.mpr ⟨lw_p13, List.forall_mem_cons.mpr ⟨lw_p14, List.forall_mem_cons.mpr ⟨lw_p15, fun _ h => absurd h List.not_mem_nil⟩⟩⟩⟩⟩⟩⟩⟩⟩⟩⟩⟩⟩⟩⟩⟩
theorem lw_p16 : lw_okq (⟨"Probeweb", "raiseAlarm", "(LProbeweb$Check;)V"⟩, 7) := ⟨⟨by decide +kernel, by decide +kernel⟩, List.mem_of_getElem? (i := 24) (by decide +kernel), List.mem_of_getElem? (i := 516) (by decide +kernel), List.mem_of_getElem? (i := 517) (by decide +kernel)⟩
theorem lw_p17 : lw_okq (⟨"Probeweb", "countMinute", "()V"⟩, 7) := ⟨⟨by decide +kernel, by decide +kernel⟩, List.mem_of_getElem? (i := 24) (by decide +kernel), List.mem_of_getElem? (i := 540) (by decide +kernel), List.mem_of_getElem? (i := 541) (by decide +kernel)⟩
theorem lw_p18 : lw_okq (⟨"Probeweb", "requireAlarm", "(I)V"⟩, 7) := ⟨⟨by decide +kernel, by decide +kernel⟩, List.mem_of_getElem? (i := 24) (by decide +kernel), List.mem_of_getElem? (i := 622) (by decide +kernel), List.mem_of_getElem? (i := 623) (by decide +kernel)⟩
theorem lw_p19 : lw_okq (⟨"ProbewebModel", "isRegion", "(I)Z"⟩, 28) := ⟨⟨by decide +kernel, by decide +kernel⟩, List.mem_of_getElem? (i := 649) (by decide +kernel), List.mem_of_getElem? (i := 750) (by decide +kernel), List.mem_of_getElem? (i := 751) (by decide +kernel)⟩
theorem lw_p20 : lw_okq (⟨"ProbewebModel", "isCheck", "(I)Z"⟩, 28) := ⟨⟨by decide +kernel, by decide +kernel⟩, List.mem_of_getElem? (i := 649) (by decide +kernel), List.mem_of_getElem? (i := 765) (by decide +kernel), List.mem_of_getElem? (i := 766) (by decide +kernel)⟩
theorem lw_p21 : lw_okq (⟨"ProbewebModel", "passes", "()V"⟩, 28) := ⟨⟨by decide +kernel, by decide +kernel⟩, List.mem_of_getElem? (i := 649) (by decide +kernel), List.mem_of_getElem? (i := 790) (by decide +kernel), List.mem_of_getElem? (i := 791) (by decide +kernel)⟩
theorem lw_p22 : lw_okq (⟨"ProbewebModel", "probe", "(II)V"⟩, 28) := ⟨⟨by decide +kernel, by decide +kernel⟩, List.mem_of_getElem? (i := 649) (by decide +kernel), List.mem_of_getElem? (i := 794) (by decide +kernel), List.mem_of_getElem? (i := 795) (by decide +kernel)⟩
theorem lw_p23 : lw_okq (⟨"ProbewebModel", "isScheduled", "(III)Z"⟩, 28) := ⟨⟨by decide +kernel, by decide +kernel⟩, List.mem_of_getElem? (i := 649) (by decide +kernel), List.mem_of_getElem? (i := 798) (by decide +kernel), List.mem_of_getElem? (i := 799) (by decide +kernel)⟩
theorem lw_p24 : lw_okq (⟨"ProbewebModel", "fails", "(II)Z"⟩, 28) := ⟨⟨by decide +kernel, by decide +kernel⟩, List.mem_of_getElem? (i := 649) (by decide +kernel), List.mem_of_getElem? (i := 802) (by decide +kernel), List.mem_of_getElem? (i := 803) (by decide +kernel)⟩
theorem lw_p25 : lw_okq (⟨"ProbewebModel", "votesOf", "(II)I"⟩, 28) := ⟨⟨by decide +kernel, by decide +kernel⟩, List.mem_of_getElem? (i := 649) (by decide +kernel), List.mem_of_getElem? (i := 806) (by decide +kernel), List.mem_of_getElem? (i := 807) (by decide +kernel)⟩
theorem lw_p26 : lw_okq (⟨"ProbewebModel", "judged", "(I)I"⟩, 28) := ⟨⟨by decide +kernel, by decide +kernel⟩, List.mem_of_getElem? (i := 649) (by decide +kernel), List.mem_of_getElem? (i := 810) (by decide +kernel), List.mem_of_getElem? (i := 811) (by decide +kernel)⟩
theorem lw_p27 : lw_okq (⟨"ProbewebModel", "isTrusted", "(II)Z"⟩, 28) := ⟨⟨by decide +kernel, by decide +kernel⟩, List.mem_of_getElem? (i := 649) (by decide +kernel), List.mem_of_getElem? (i := 814) (by decide +kernel), List.mem_of_getElem? (i := 815) (by decide +kernel)⟩
theorem lw_p28 : lw_okq (⟨"ProbewebModel", "raises", "(I)V"⟩, 28) := ⟨⟨by decide +kernel, by decide +kernel⟩, List.mem_of_getElem? (i := 649) (by decide +kernel), List.mem_of_getElem? (i := 818) (by decide +kernel), List.mem_of_getElem? (i := 819) (by decide +kernel)⟩
theorem lw_p29 : lw_okq (⟨"ProbewebModel", "isMaintained", "(I)Z"⟩, 28) := ⟨⟨by decide +kernel, by decide +kernel⟩, List.mem_of_getElem? (i := 649) (by decide +kernel), List.mem_of_getElem? (i := 822) (by decide +kernel), List.mem_of_getElem? (i := 823) (by decide +kernel)⟩
theorem lw_p30 : lw_okq (⟨"ProbewebModel", "isPair", "(II)Z"⟩, 28) := ⟨⟨by decide +kernel, by decide +kernel⟩, List.mem_of_getElem? (i := 649) (by decide +kernel), List.mem_of_getElem? (i := 838) (by decide +kernel), List.mem_of_getElem? (i := 839) (by decide +kernel)⟩
theorem lw_p31 : lw_okq (⟨"ProbewebModel", "isAlarm", "(I)Z"⟩, 28) := ⟨⟨by decide +kernel, by decide +kernel⟩, List.mem_of_getElem? (i := 649) (by decide +kernel), List.mem_of_getElem? (i := 882) (by decide +kernel), List.mem_of_getElem? (i := 883) (by decide +kernel)⟩
def lw_privs_2 : List (MethodName × Nat) := [(⟨"Probeweb", "raiseAlarm", "(LProbeweb$Check;)V"⟩, 7), (⟨"Probeweb", "countMinute", "()V"⟩, 7), (⟨"Probeweb", "requireAlarm", "(I)V"⟩, 7), (⟨"ProbewebModel", "isRegion", "(I)Z"⟩, 28), (⟨"ProbewebModel", "isCheck", "(I)Z"⟩, 28), (⟨"ProbewebModel", "passes", "()V"⟩, 28), (⟨"ProbewebModel", "probe", "(II)V"⟩, 28), (⟨"ProbewebModel", "isScheduled", "(III)Z"⟩, 28), (⟨"ProbewebModel", "fails", "(II)Z"⟩, 28), (⟨"ProbewebModel", "votesOf", "(II)I"⟩, 28), (⟨"ProbewebModel", "judged", "(I)I"⟩, 28), (⟨"ProbewebModel", "isTrusted", "(II)Z"⟩, 28), (⟨"ProbewebModel", "raises", "(I)V"⟩, 28), (⟨"ProbewebModel", "isMaintained", "(I)Z"⟩, 28), (⟨"ProbewebModel", "isPair", "(II)Z"⟩, 28), (⟨"ProbewebModel", "isAlarm", "(I)Z"⟩, 28)]
theorem lw_r2 : ∀ q ∈ lw_privs_2, lw_okq q := List.forall_mem_cons.mpr ⟨lw_p16, List.forall_mem_cons.mpr ⟨lw_p17, List.forall_mem_cons.mpr ⟨lw_p18, List.forall_mem_cons.mpr ⟨lw_p19, List.forall_mem_cons.mpr ⟨lw_p20, List.forall_mem_cons.mpr ⟨lw_p21, List.forall_mem_cons.mpr ⟨lw_p22, List.forall_mem_cons.mpr ⟨lw_p23, List.forall_mem_cons.mpr ⟨lw_p24, List.forall_mem_cons.mpr ⟨lw_p25, List.forall_mem_cons.mpr ⟨lw_p26, List.forall_mem_cons.mpr ⟨lw_p27, List.forall_mem_cons.mpr ⟨lw_p28, List.forall_mem_cons.mpr ⟨lw_p29, List.forall_mem_cons.mpr ⟨lw_p30, List.forall_mem_cons.mpr ⟨lw_p31, fun _ h => absurd h List.not_mem_nil⟩⟩⟩⟩⟩⟩⟩⟩⟩⟩⟩⟩⟩⟩⟩⟩
def lw_privs : List (MethodName × Nat) := lw_privs_1 ++ (lw_privs_2)
def lw_tbl : List Cond := k2_sels lw_privs ++ tables_1
theorem lw_privs_ok : ∀ q ∈ lw_privs, lw_okq q := by
  show ∀ q ∈ lw_privs_1 ++ (lw_privs_2), lw_okq q
  exact List.forall_mem_append.mpr ⟨lw_r1, lw_r2⟩
/-- the streams that the claim lets the run draw from -/
abbrev lw_cs : List Choice := [Jvm.Choice.named "NaN.bits"]
theorem lw_bits : nanBits ∈ lw_cs := by first | decide | exact List.mem_cons_self | simp [lw_cs, nanBits]
end
section
/-! ===== BEGIN words of one list among another's, by their places ===== -/
theorem goodIn_r {big : List Cond} (ws : List Cond) (ps : List Nat) (hp : ws = ps.filterMap (fun i => big[i]?)) (h : ws.all goodWord = true) : GoodIn big ws := by
  intro w hw
  have h1 := List.all_eq_true.mp h w hw
  rw [hp] at hw
  obtain ⟨i, -, hi⟩ := List.mem_filterMap.mp hw
  have hm : w ∈ big := by first | exact List.mem_of_getElem? hi | exact List.getElem?_mem hi
  exact ⟨hm, good_of_word h1⟩
theorem goodIn_app {big a b : List Cond} (ha : GoodIn big a) (hb : GoodIn big b) : GoodIn big (a ++ b) := fun w h => (List.mem_append.mp h).elim (ha w) (hb w)
theorem goodIn_ca {big a b : List Cond} {c : Cond} (ha : GoodIn big (c :: a)) (hb : GoodIn big b) : GoodIn big (c :: (a ++ b)) := fun w h => (List.mem_cons.mp h).elim (fun e => ha w (List.mem_cons.mpr (Or.inl e))) (fun h => (List.mem_append.mp h).elim (fun h => ha w (List.mem_cons.mpr (Or.inr h))) (hb w))
theorem goodIn_sub {big ws : List Cond} (hm : ∀ w ∈ ws, w ∈ big) (h : ws.all goodWord = true) : GoodIn big ws := fun w hw => ⟨hm w hw, good_of_word (List.all_eq_true.mp h w hw)⟩
/-! ===== END ===== -/

/-! ===== BEGIN exceptions that leave a method, and their catching by the caller (launches without stack traces) ===== -/
section VXA
/-! The laws vx_back, vx_callV, vx_callS, vx_callSW, vx_throw0, vx_throwS follow proofs of the library, with one case more: JvmDerived/Free/Laws.lean (Back.of_free), Shelf42/LK1.lean (callV, callS), Shelf/KitTraced.lean (throwNew0V, throwNewS). -/
/-- where a method has thrown q: the class by its name, the cell, what was written, the world -/
def vx_T (XC : String → State → State → Prop) (st : State) (q : Addr) (t : State) (mc ms : Nat) (free : Addr → Prop) : Prop :=
  ∃ (E : String) (ce : Cell) (L : List Loc), XC E st t ∧ t.heap[q]? = some ce ∧ ce.vm = .none ∧ st.vm.findClass E = some ce.cls ∧ st.WarmedH t.vm ∧ st.sameButNew ({ t with vm := st.vm } : State) L mc ms ∧ ∀ z ∈ L, free z.base
def vx_Q (Qc : Array Value → State → Outcome → State → Prop) (XC : String → State → State → Prop) (mc ms : Nat) (free : Addr → Prop) : Array Value → State → Outcome → State → Prop := fun a st o t =>
  (Qc a st o t ∧ ∃ L, FrameEnd st o t L mc ms ∧ ∀ q ∈ L, free q.base) ∨ ∃ q, o = .threw q ∧ vx_T XC st q t mc ms free
/-- a callee that returns or throws -/
def vx_Met (l : Launch) (y : MethodName) (ws : List Cond) (rm : Room) (Pc : Array Value → State → Prop) (Qc : Array Value → State → Outcome → State → Prop) (XC : String → State → State → Prop) (mc ms : Nat) (free : Addr → Prop) : Prop :=
  MetFree l y (headSpec ws rm) Pc (fun _ _ _ _ _ => True) (vx_Q Qc XC mc ms free)
def vx_Post (XC : String → State → State → Prop) (mc ms : Nat) (free : Addr → Prop) : Pt → Array Value → Addr → Pt → Prop := fun A a q B =>
  ∃ (g : JFrame) (mk : MethodId) (t : State) (L : List Loc) (E : String) (ce : Cell), B.U.heap = t.heap ∧ B.U.vm = t.vm ∧ XC E (A.U.calling g mk a) t ∧ t.heap[q]? = some ce ∧ ce.vm = .none ∧ A.U.vm.findClass E = some ce.cls ∧ B.locs = A.locs ++ L ∧ (∀ z ∈ L, free z.base) ∧ B.cells = A.cells + mc ∧ B.slots = A.slots + ms
def vx_Back (l : Launch) (R : Room) (p : Program) (e : Env) (below : List Frame) (s : State) (sargs : Array Value) (y : MethodName) (len W9 : Nat)
    (Pre : Pt → Array Value → Prop) (Post : Pt → Array Value → Option Value → Pt → Prop) (PostX : Pt → Array Value → Addr → Pt → Prop) : Prop :=
  ∀ (m : MethodId) (meth : Method) (c : Code) (A : Pt) (g : JFrame) (ig : Instr) (mk : MethodId) (a : Array Value),
    Stand p l e R s m sargs below meth c A.U A.locs A.cells A.slots → g.method = m → g.locals.size = c.maxLocals → decode c.code g.pc = .ok (ig, len) →
    2 * g.monitorRoom + (g.stack.map fun v => v.category).sum ≤ W9 → A.U.methodNamed? y = some mk → Pre A a →
    (∃ (v : Option Value) (B : Pt), Stand p l e R s m sargs below meth c B.U B.locs B.cells B.slots ∧ Post A a v B ∧
      Steps p.tables e below (doInvoke e (A.U.setTop g) [] mk a).1 (B.U.setTop { g with pc := g.pc + len, stack := v.toList ++ g.stack })) ∨
    (∃ (q : Addr) (B : Pt), Stand p l e R s m sargs below meth c B.U B.locs B.cells B.slots ∧ PostX A a q B ∧
      Steps p.tables e below (doInvoke e (A.U.setTop g) [] mk a).1 ((B.U.setTop g).pushFrame (.throwing q)))
section Payer
variable {l : Launch} {R : Room} {p : Program} {e : Env} {below : List Frame} {s : State} {sargs : Array Value} {y : MethodName} {len W9 : Nat}
theorem vx_back {ws : List Cond} {rm : Room} {Pc : Array Value → State → Prop} {Qc : Array Value → State → Outcome → State → Prop} {XC : String → State → State → Prop} {mc ms : Nat} {free : Addr → Prop} {bytes : ByteArray} {maxL : Nat} {ret : Option FieldType}
    (hM : vx_Met l y ws rm Pc Qc XC mc ms free) (hblind : FrameBlind Pc) (hrc : rm.cells = mc) (hrs : rm.slots = ms)
    (hframes : rm.frames + 1 ≤ R.frames) (hlocals : W9 + (maxL + 11) + rm.locals ≤ R.locals)
    (hws : ∀ w ∈ ws, ∀ a' U, s.WarmedH U.vm → w.before a' U = true) (hcode : Cond.code y bytes maxL ret ∈ ws) (hinit : ∀ a' U, s.WarmedH U.vm → (Cond.initialized y.cls).before a' U = true) :
    vx_Back l R p e below s sargs y len W9 (PreOf R mc ms Pc) (PostOf Qc mc ms free) (vx_Post XC mc ms free) := by
  intro m meth c A g ig mk a X hg hsize hdg hW hn hp
  have h1 : (headSpec ws rm).pre.before a A.U = true := atoms_intro fun w hw => hws w hw _ _ X.warmed
  have h2 : (Cond.code y bytes maxL ret).before a A.U = true := hws _ hcode _ _ X.warmed
  have h3 : (Cond.initialized y.cls).before a A.U = true := hinit _ _ X.warmed
  have h4 : A.cells + (headSpec ws rm).room.cells ≤ R.cells := by rw [show (headSpec ws rm).room.cells = mc from hrc]; exact hp.1
  have h5 : A.slots + (headSpec ws rm).room.slots ≤ R.slots := by rw [show (headSpec ws rm).room.slots = ms from hrs]; exact hp.2.1
  have hPc : Pc a (A.U.calling g mk a) := hblind _ _ _ _ hp.2.2
  obtain ⟨U, Ls, c0, s0⟩ := A
  dsimp only [Pt.U, Pt.locs, Pt.cells, Pt.slots] at h1 h2 h3 h4 h5 X hn hPc ⊢
  obtain ⟨methY, cY, hmY, hcY, -, hlY, -, -, -, -⟩ := Cond.code_spec hn h2
  obtain ⟨kY, hkY, -⟩ := className_of_methodNamed hn
  have hinitY : kY.init = .initialized := Cond.initialized_spec (findClass_of_methodNamed hn) hkY h3
  have h : At U g.method c below := by rw [hg]; exact X.here
  have hlocals9 : W9 + (maxL + 11) + (headSpec ws rm).room.locals ≤ R.locals := hlocals
  have happ : (headSpec ws rm).appliesLoose y e.platform (U.calling g mk a) = true :=
    Spec.appliesLoose_calling (g := g) h hdg hn hkY hinitY
      (X.room_calling (g := g) (R' := (headSpec ws rm).room) hsize hmY hcY hframes (by rw [hlY]; omega) h4 h5) h1
  obtain ⟨mid, hmid⟩ := h.above
  have hfr : (U.setTop g).frames = (.java g :: mid) ++ below := by rw [State.frames_setTop' g h.top, hmid]; rfl
  obtain ⟨o, s₂, hsteps, -, hend, hq⟩ := Steps.callFree hM p X.admits X.cas X.clock (acts := []) hfr happ hPc trivial
  have hq' : vx_Q Qc XC mc ms free a (U.calling g mk a) o s₂ := hq
  rw [State.frames_setTop' g h.top] at hend
  obtain ⟨g₀, hg0⟩ := Option.isSome_iff_exists.mp h.top
  obtain ⟨r, hr⟩ := State.topJava?_eq_some.mp hg0
  have hr' : (({ U with heap := s₂.heap, slotsUsed := s₂.slotsUsed } : State).setVm s₂.vm).frames = .java g₀ :: r := hr
  rcases hq' with ⟨hqc, L, hfe, hL⟩ | ⟨q, rfl, E, ce, L, hx, hce, hcv, hcl, hW₂, hsm, hL⟩
  · obtain ⟨⟨v, rfl⟩, hW₂, e2, q2, q3, q4, q5, q6⟩ := id hfe
    have e3 : s₂ = ({ (U.calling g mk a).setFrames s₂.frames with heap := s₂.heap, slotsUsed := s₂.slotsUsed } : State).setVm s₂.vm := by
      have : s₂ = ({ s₂ with vm := (U.calling g mk a).vm } : State).setVm s₂.vm := rfl
      rw [e2] at this
      exact this
    obtain ⟨c₂, i₂, len₂, hc₂, hd₂, hf₂⟩ := hend
    have hW' : U.WarmedH s₂.vm := hW₂
    have hcc : c₂ = c := by
      have h1 : s₂.code? g.method = U.code? g.method := by
        rw [State.code?_eq, State.code?_eq, hW'.alike.method?]
      exact Option.some.inj (hc₂.symm.trans (h1.trans h.code))
    subst hcc
    have hlen : len₂ = len := by rw [hdg] at hd₂; cases hd₂; rfl
    subst hlen
    have hs₂ : s₂ = (({ U with heap := s₂.heap, slotsUsed := s₂.slotsUsed } : State).setVm s₂.vm).setTop { g with pc := g.pc + len₂, stack := v.toList ++ g.stack } := by
      refine e3.trans ?_
      rw [hf₂, State.calling_eq h.top, State.setFrames_setFrames, State.setTop_of_frames _ hr', hr]
      rfl
    have hsame : U.sameButNew ({ U with heap := s₂.heap, slotsUsed := s₂.slotsUsed } : State) L mc ms := by
      refine ⟨?_, q2, q3, q4, q5, q6⟩
      obtain ⟨t, ht, -⟩ := State.frames_cons hr
      show ({ U with heap := s₂.heap, slotsUsed := s₂.slotsUsed } : State) = { U.setFrames U.frames with heap := s₂.heap, slotsUsed := s₂.slotsUsed }
      rw [State.setFrames_self ht]
    subst hg
    refine Or.inl ⟨v, ⟨(({ U with heap := s₂.heap, slotsUsed := s₂.slotsUsed } : State).setVm s₂.vm), Ls ++ L, c0 + mc, s0 + ms⟩,
      ⟨X.admits, X.cas, X.clock, X.frames, X.room, X.hears, X.method, X.code, (X.here.setHeapUsed s₂.heap s₂.slotsUsed).setVm hW'.alike, X.tail, State.WarmedH.trans X.warmed hW', X.limits, X.bytes, X.same.trans (hsame.setVm s.vm)⟩,
      ⟨g, mk, s₂, L, rfl, rfl, hqc, rfl, hL, rfl, rfl⟩, ?_⟩
    show Steps p.tables e below _ ((({ U with heap := s₂.heap, slotsUsed := s₂.slotsUsed } : State).setVm s₂.vm).setTop { g with pc := g.pc + len₂, stack := v.toList ++ g.stack })
    rw [← hs₂]
    exact hsteps
  · obtain ⟨e2, q2, q3, q4, q5, q6⟩ := id hsm
    have e3 : s₂ = ({ (U.calling g mk a).setFrames s₂.frames with heap := s₂.heap, slotsUsed := s₂.slotsUsed } : State).setVm s₂.vm := by
      have : s₂ = ({ s₂ with vm := (U.calling g mk a).vm } : State).setVm s₂.vm := rfl
      rw [e2] at this
      exact this
    have hf₂ : s₂.frames = .throwing q :: .java g :: U.frames.tail := hend
    have hW' : U.WarmedH s₂.vm := hW₂
    have hs₂ : s₂ = ((({ U with heap := s₂.heap, slotsUsed := s₂.slotsUsed } : State).setVm s₂.vm).setTop g).pushFrame (.throwing q) := by
      refine e3.trans ?_
      rw [hf₂, State.calling_eq h.top, State.setFrames_setFrames, State.pushFrame, State.frames_setTop _ hr', State.setTop_of_frames _ hr', State.setFrames_setFrames, hr]
      rfl
    have hsame : U.sameButNew ({ U with heap := s₂.heap, slotsUsed := s₂.slotsUsed } : State) L mc ms := by
      refine ⟨?_, q2, q3, q4, q5, q6⟩
      obtain ⟨t, ht, -⟩ := State.frames_cons hr
      show ({ U with heap := s₂.heap, slotsUsed := s₂.slotsUsed } : State) = { U.setFrames U.frames with heap := s₂.heap, slotsUsed := s₂.slotsUsed }
      rw [State.setFrames_self ht]
    subst hg
    refine Or.inr ⟨q, ⟨(({ U with heap := s₂.heap, slotsUsed := s₂.slotsUsed } : State).setVm s₂.vm), Ls ++ L, c0 + mc, s0 + ms⟩,
      ⟨X.admits, X.cas, X.clock, X.frames, X.room, X.hears, X.method, X.code, (X.here.setHeapUsed s₂.heap s₂.slotsUsed).setVm hW'.alike, X.tail, State.WarmedH.trans X.warmed hW', X.limits, X.bytes, X.same.trans (hsame.setVm s.vm)⟩,
      ⟨g, mk, s₂, L, E, ce, rfl, rfl, hx, hce, hcv, hcl, rfl, hL, rfl, rfl⟩, ?_⟩
    show Steps p.tables e below _ (((({ U with heap := s₂.heap, slotsUsed := s₂.slotsUsed } : State).setVm s₂.vm).setTop g).pushFrame (.throwing q))
    rw [← hs₂]
    exact hsteps
end Payer
section Calls
variable {p : Program} {l : Launch} {e : Env} {R : Room} {s : State} {m : MethodId} {args : Array Value} {below : List Frame} {meth : Method} {c : Code} {T : State} {locs : List Loc} {cells slots : Nat}
theorem vx_callV (X : Stand p l e R s m args below meth c T locs cells slots) (hexec : p.tables.exec = Jvm.exec) {own C : String} {index : Nat} {y : MethodName} {bytes : ByteArray} {maxL : Nat} {ret : Option FieldType}
    (hown : s.vm.findClass own = some m.cls) (hlink : (Cond.methodLink own index y).before args s = true) (hinst : (Cond.instanceMethod y).before args s = true) (hsel : (Cond.selects C y y).before args s = true)
    (hcode : (Cond.code y bytes maxL ret).before args s = true) (hy : y.cls ≠ "java/lang/invoke/MethodHandle" ∧ y.cls ≠ "java/lang/invoke/VarHandle")
    {W9 : Nat} {Pre : Pt → Array Value → Prop} {Post : Pt → Array Value → Option Value → Pt → Prop} {PostX : Pt → Array Value → Addr → Pt → Prop} (hK : vx_Back l R p e below s args y 3 W9 Pre Post PostX)
    {b : Addr} {cellB : Cell} (hcell : T.heap[b]? = some cellB) (hobj : cellB.vm.isStatics = false) (hcls : s.vm.findClass C = some cellB.cls)
    {g : JFrame} (hg : g.method = m) (hsize : g.locals.size = c.maxLocals) {argsL rest : List Value} (hlen : ∀ sig, parseMethodDescriptor y.desc = some sig → argsL.length = sig.parameters.length)
    (hstack : g.stack = argsL.reverse ++ .ref b :: rest) (hW : 2 * g.monitorRoom + (rest.map fun v => v.category).sum ≤ W9) (hdg : decode c.code g.pc = .ok (.invokevirtual index, 3))
    (hpre : ∀ vm₁, s.WarmedH vm₁ → Pre ⟨T.setVm vm₁, locs, cells, slots⟩ (Value.ref b :: argsL).toArray) :
    (∃ (v : Option Value) (vm₁ : Vm) (B : Pt), s.WarmedH vm₁ ∧ Stand p l e R s m args below meth c B.U B.locs B.cells B.slots ∧ Post ⟨T.setVm vm₁, locs, cells, slots⟩ (Value.ref b :: argsL).toArray v B ∧
      ∀ target, Steps p.tables e below (B.U.setTop { g with pc := g.pc + 3, stack := v.toList ++ rest }) target → Steps p.tables e below (T.setTop g) target) ∨
    (∃ (q : Addr) (vm₁ : Vm) (B : Pt), s.WarmedH vm₁ ∧ Stand p l e R s m args below meth c B.U B.locs B.cells B.slots ∧ PostX ⟨T.setVm vm₁, locs, cells, slots⟩ (Value.ref b :: argsL).toArray q B ∧
      Steps p.tables e below (T.setTop g) ((B.U.setTop { g with stack := rest }).pushFrame (.throwing q))) := by
  obtain ⟨mk, methM, hnamed, hmethM, hstM, habM⟩ := Cond.instanceMethod_spec hinst
  obtain ⟨methM', cM, hmethM', -, -, -, -, -, -, hsigM⟩ := Cond.code_spec hnamed hcode
  cases hmethM.symm.trans hmethM'
  obtain ⟨c2, r2, m2, q1, q2, q3, q4, kP, hkP, hkPi⟩ := Cond.selects_spec hsel
  cases hcls.symm.trans q1
  cases (State.methodFound?_of_named hnamed hy).symm.trans q2
  cases hnamed.symm.trans q3
  have hselP : selectMethod e.platform s.vm cellB.cls mk = .method mk := by rw [Launch.admits_selectMethod X.admits]; exact q4
  obtain ⟨vm₁, X₁, hstep₁⟩ := X.invokevirtual hexec hown hlink hnamed hmethM hstM hkP hkPi hy (a := b) (cell := cellB) hcell
    (fun z h => by rw [h] at hobj; cases hobj) hselP hmethM habM hkP hkPi (g := g) hg (argsL := argsL) (rest := rest) (hlen _ hsigM) hstack hdg
  rcases hK m meth c ⟨T.setVm vm₁, locs, cells, slots⟩ { g with stack := rest } (.invokevirtual index) mk (Value.ref b :: argsL).toArray X₁ hg hsize hdg hW (X₁.named hnamed) (hpre vm₁ X₁.warmed) with ⟨v, B, X', hpost, hsteps⟩ | ⟨q, B, X', hpost, hsteps⟩
  · exact Or.inl ⟨v, vm₁, B, X₁.warmed, X', hpost, fun target h => hstep₁ _ fun acts => by rw [doInvoke_state]; exact hsteps.trans h⟩
  · exact Or.inr ⟨q, vm₁, B, X₁.warmed, X', hpost, hstep₁ _ fun acts => by rw [doInvoke_state]; exact hsteps⟩
theorem vx_callS (X : Stand p l e R s m args below meth c T locs cells slots) (hexec : p.tables.exec = Jvm.exec) {own : String} {index : Nat} {y : MethodName} {bytes : ByteArray} {maxL : Nat} {ret : Option FieldType}
    (hown : s.vm.findClass own = some m.cls) (hlink : (Cond.methodLink own index y).before args s = true) (hstat : (Cond.static y).before args s = true) (hinit : (Cond.initialized y.cls).before args s = true)
    (hcode : (Cond.code y bytes maxL ret).before args s = true) (hy : y.cls ≠ "java/lang/invoke/MethodHandle" ∧ y.cls ≠ "java/lang/invoke/VarHandle")
    {W9 : Nat} {Pre : Pt → Array Value → Prop} {Post : Pt → Array Value → Option Value → Pt → Prop} {PostX : Pt → Array Value → Addr → Pt → Prop} (hK : vx_Back l R p e below s args y 3 W9 Pre Post PostX)
    {g : JFrame} (hg : g.method = m) (hsize : g.locals.size = c.maxLocals) {argsL rest : List Value} (hlen : ∀ sig, parseMethodDescriptor y.desc = some sig → argsL.length = sig.parameters.length)
    (hstack : g.stack = argsL.reverse ++ rest) (hW : 2 * g.monitorRoom + (rest.map fun v => v.category).sum ≤ W9) (hdg : decode c.code g.pc = .ok (.invokestatic index, 3))
    (hpre : ∀ vm₁, s.WarmedH vm₁ → Pre ⟨T.setVm vm₁, locs, cells, slots⟩ argsL.toArray) :
    (∃ (v : Option Value) (vm₁ : Vm) (B : Pt), s.WarmedH vm₁ ∧ Stand p l e R s m args below meth c B.U B.locs B.cells B.slots ∧ Post ⟨T.setVm vm₁, locs, cells, slots⟩ argsL.toArray v B ∧
      ∀ target, Steps p.tables e below (B.U.setTop { g with pc := g.pc + 3, stack := v.toList ++ rest }) target → Steps p.tables e below (T.setTop g) target) ∨
    (∃ (q : Addr) (vm₁ : Vm) (B : Pt), s.WarmedH vm₁ ∧ Stand p l e R s m args below meth c B.U B.locs B.cells B.slots ∧ PostX ⟨T.setVm vm₁, locs, cells, slots⟩ argsL.toArray q B ∧
      Steps p.tables e below (T.setTop g) ((B.U.setTop { g with stack := rest }).pushFrame (.throwing q))) := by
  obtain ⟨mk, hnamed⟩ := Cond.code_named hcode
  obtain ⟨methM, cM, hmethM, -, -, -, -, -, -, hsigM⟩ := Cond.code_spec hnamed hcode
  have hstatic : methM.isStatic = true := Cond.static_spec hnamed hmethM hstat
  obtain ⟨kP, hkP, -⟩ := className_of_methodNamed hnamed
  have hinitP : kP.init = .initialized := Cond.initialized_spec (findClass_of_methodNamed hnamed) hkP hinit
  obtain ⟨vm₁, X₁, hstep₁⟩ := X.invokestatic hexec hown hlink hnamed hmethM hstatic hkP hinitP hy (g := g) hg (argsL := argsL) (rest := rest) (hlen _ hsigM) hstack hdg
  rcases hK m meth c ⟨T.setVm vm₁, locs, cells, slots⟩ { g with stack := rest } (.invokestatic index) mk argsL.toArray X₁ hg hsize hdg hW (X₁.named hnamed) (hpre vm₁ X₁.warmed) with ⟨v, B, X', hpost, hsteps⟩ | ⟨q, B, X', hpost, hsteps⟩
  · exact Or.inl ⟨v, vm₁, B, X₁.warmed, X', hpost, fun target h => hstep₁ _ fun acts => by rw [doInvoke_state]; exact hsteps.trans h⟩
  · exact Or.inr ⟨q, vm₁, B, X₁.warmed, X', hpost, hstep₁ _ fun acts => by rw [doInvoke_state]; exact hsteps⟩
end Calls
theorem vx_cls {s : State} {T : State} {vm₁ : Vm} {E : String} {k : ClassId} (hW : s.WarmedH vm₁) (h : (T.setVm vm₁).vm.findClass E = some k) : s.vm.findClass E = some k := by
  have h1 : vm₁.findClass E = some k := h
  rw [hW.alike.findClass] at h1
  exact h1
/-- the method's frame g, with q thrown over it -/
def vx_W (p : Program) (l : Launch) (e : Env) (R : Room) (s : State) (m : MethodId) (args : Array Value) (below : List Frame) (meth : Method) (c : Code) (H : Heap) (locs : List Loc) (cells slots : Nat) (Q : State → Prop) (g : JFrame) (q : Addr) : Prop :=
  ∀ T : State, T.heap = H → Stand p l e R s m args below meth c T locs cells slots → ∃ t, Steps p.tables e below ((T.setTop g).pushFrame (.throwing q)) t ∧ Q t
def vx_Run (p : Program) (l : Launch) (e : Env) (R : Room) (s : State) (m : MethodId) (args : Array Value) (below : List Frame) (meth : Method) (c : Code) (H : Heap) (locs : List Loc) (cells slots mc ms : Nat) (g : JFrame) (rest : List Value) (Qa : State → Outcome → State → Prop) (XC : String → State → State → Prop) (free : Addr → Prop) : Prop :=
  ∀ T : State, T.heap = H → Stand p l e R s m args below meth c T locs cells slots →
    (∃ (v : Option Value) (st₀ t T' : State) (L : List Loc), st₀.heap = H ∧ Stand p l e R s m args below meth c T' (locs ++ L) (cells + mc) (slots + ms) ∧ (∀ q ∈ L, free q.base) ∧ T'.heap = t.heap ∧ T'.vm = t.vm ∧ Qa st₀ (.returned v) t ∧
      Goes p e below T g T' { g with pc := g.pc + 3, stack := v.toList ++ rest }) ∨
    (∃ (q : Addr) (st₀ t T' : State) (L : List Loc) (E : String) (ce : Cell), st₀.heap = H ∧ Stand p l e R s m args below meth c T' (locs ++ L) (cells + mc) (slots + ms) ∧ (∀ z ∈ L, free z.base) ∧ T'.heap = t.heap ∧ T'.vm = t.vm ∧ XC E st₀ t ∧ t.heap[q]? = some ce ∧ ce.vm = .none ∧ s.vm.findClass E = some ce.cls ∧
      Steps p.tables e below (T.setTop g) ((T'.setTop { g with stack := rest }).pushFrame (.throwing q)))
def vx_X {S : Type} (px : S → Prop) (B : String → S → State → Prop) (A : Nat → Prop) : String → State → State → Prop := fun E st t => ∃ u : S, px u ∧ B E u t ∧ va_F A st t
section Runs
variable {p : Program} {l : Launch} {e : Env} {R : Room} {s : State} {m : MethodId} {args : Array Value} {below : List Frame} {meth : Method} {c : Code} {H : Heap} {locs : List Loc} {cells slots : Nat}
variable {y : MethodName} {bytes cc : ByteArray} {maxL nL mc ms n index : Nat} {ret : Option FieldType} {ws : List Cond} {rm : Room} {Pc : Array Value → State → Prop} {Qc : Array Value → State → Outcome → State → Prop} {XC : String → State → State → Prop} {free : Addr → Prop} {Ts : List Cond} {own C : String} {b : Addr} {As rest : List Value} {g : JFrame}
theorem vx_callBack (cb : CallB R s args own index y bytes maxL ret ws rm mc ms n) (hM : vx_Met l y ws rm Pc Qc XC mc ms free) (hbl : FrameBlind Pc) : vx_Back l R p e below s args y 3 8 (PreOf R mc ms Pc) (PostOf Qc mc ms free) (vx_Post XC mc ms free) := by
  obtain ⟨hrc, hrs, hfr, hlo, hws, hcw, -, hini, -⟩ := cb
  exact vx_back (bytes := bytes) (maxL := maxL) (ret := ret) hM hbl hrc hrs hfr hlo hws hcw (fun a' U hW => word_at hW (Or.inl (by first | rfl | simp [Cond.onTables, Cond.keeps, Cond.steady])) hini)
theorem vx_runV (S : CallFix p m c cc nL s args Ts own) (hM : vx_Met l y ws rm Pc Qc XC mc ms free) (cw : CallW R s args own C index y bytes maxL ret ws rm mc ms n) (hp : PreV s H C b Pc As)
    (hg : g.method = m) (hn : As.length = n) (hsize : g.locals.size = nL) (hstack : g.stack = As.reverse ++ .ref b :: rest) (hW : 2 * g.monitorRoom + (rest.map fun v => v.category).sum ≤ 8) (hdg : decode cc g.pc = .ok (.invokevirtual index, 3)) (hf : cells + mc ≤ R.cells ∧ slots + ms ≤ R.slots) :
    vx_Run p l e R s m args below meth c H locs cells slots mc ms g rest (Qc (Value.ref b :: As).toArray) XC free := by
  have hK : vx_Back l R p e below s args y 3 8 (PreOf R mc ms Pc) (PostOf Qc mc ms free) (vx_Post XC mc ms free) := vx_callBack cw.1 hM hp.1
  obtain ⟨⟨-, -, -, -, -, -, hcode, -, hy, hlen, hl⟩, hin, hse⟩ := cw
  obtain ⟨hx, hb, hml, ho, -⟩ := S
  obtain ⟨-, ⟨cellB, hcB, hoB, hclB⟩, hPc⟩ := hp
  intro T hT X
  rcases vx_callV X hx (C := C) (bytes := bytes) (maxL := maxL) (ret := ret) ho hl hin hse hcode hy hK (by rw [hT]; exact hcB) hoB hclB hg (hsize.trans hml.symm) (argsL := As) (rest := rest) (fun sig h => hn.trans (hlen sig h)) hstack hW (by rw [hb]; exact hdg)
    (fun vm₁ hW₁ => ⟨hf.1, hf.2, hPc (T.setVm vm₁) hT hW₁⟩) with ⟨v, vm₁, ⟨U', l2, c2, s2⟩, hW₁, X', ⟨g', mk, t, L, e1, e2, hq, h1, hL, h2, h3⟩, st⟩ | ⟨q, vm₁, ⟨U', l2, c2, s2⟩, hW₁, X', ⟨g', mk, t, L, E, ce, e1, e2, hq, hce, hcv, hcl, h1, hL, h2, h3⟩, st⟩
  · dsimp only [Pt.U, Pt.locs, Pt.cells, Pt.slots] at X' e1 e2 h1 h2 h3 st
    subst h1; subst h2; subst h3
    exact Or.inl ⟨v, (T.setVm vm₁).calling g' mk (Value.ref b :: As).toArray, t, U', L, hT, X', hL, e1, e2, hq, st⟩
  · dsimp only [Pt.U, Pt.locs, Pt.cells, Pt.slots] at X' e1 e2 h1 h2 h3 st hcl
    subst h1; subst h2; subst h3
    exact Or.inr ⟨q, (T.setVm vm₁).calling g' mk (Value.ref b :: As).toArray, t, U', L, E, ce, hT, X', hL, e1, e2, hq, hce, hcv, vx_cls hW₁ hcl, st⟩
theorem vx_runS (S : CallFix p m c cc nL s args Ts own) (hM : vx_Met l y ws rm Pc Qc XC mc ms free) (cw : CallB R s args own index y bytes maxL ret ws rm mc ms n ∧ (Cond.static y).before args s = true) (hp : PreS s H Pc As)
    (hg : g.method = m) (hn : As.length = n) (hsize : g.locals.size = nL) (hstack : g.stack = As.reverse ++ rest) (hW : 2 * g.monitorRoom + (rest.map fun v => v.category).sum ≤ 8) (hdg : decode cc g.pc = .ok (.invokestatic index, 3)) (hf : cells + mc ≤ R.cells ∧ slots + ms ≤ R.slots) :
    vx_Run p l e R s m args below meth c H locs cells slots mc ms g rest (Qc As.toArray) XC free := by
  have hK : vx_Back l R p e below s args y 3 8 (PreOf R mc ms Pc) (PostOf Qc mc ms free) (vx_Post XC mc ms free) := vx_callBack cw.1 hM hp.1
  obtain ⟨⟨-, -, -, -, -, -, hcode, hini, hy, hlen, hl⟩, hstt⟩ := cw
  obtain ⟨hx, hb, hml, ho, -⟩ := S
  intro T hT X
  rcases vx_callS X hx (bytes := bytes) (maxL := maxL) (ret := ret) ho hl hstt hini hcode hy hK hg (hsize.trans hml.symm) (argsL := As) (rest := rest) (fun sig h => hn.trans (hlen sig h)) hstack hW (by rw [hb]; exact hdg)
    (fun vm₁ hW₁ => ⟨hf.1, hf.2, hp.2 (T.setVm vm₁) hT hW₁⟩) with ⟨v, vm₁, ⟨U', l2, c2, s2⟩, hW₁, X', ⟨g', mk, t, L, e1, e2, hq, h1, hL, h2, h3⟩, st⟩ | ⟨q, vm₁, ⟨U', l2, c2, s2⟩, hW₁, X', ⟨g', mk, t, L, E, ce, e1, e2, hq, hce, hcv, hcl, h1, hL, h2, h3⟩, st⟩
  · dsimp only [Pt.U, Pt.locs, Pt.cells, Pt.slots] at X' e1 e2 h1 h2 h3 st
    subst h1; subst h2; subst h3
    exact Or.inl ⟨v, (T.setVm vm₁).calling g' mk As.toArray, t, U', L, hT, X', hL, e1, e2, hq, st⟩
  · dsimp only [Pt.U, Pt.locs, Pt.cells, Pt.slots] at X' e1 e2 h1 h2 h3 st hcl
    subst h1; subst h2; subst h3
    exact Or.inr ⟨q, (T.setVm vm₁).calling g' mk As.toArray, t, U', L, E, ce, hT, X', hL, e1, e2, hq, hce, hcv, vx_cls hW₁ hcl, st⟩
end Runs
section Rows
variable {p : Program} {l : Launch} {e : Env} {R : Room} {s : State} {m : MethodId} {args : Array Value} {below : List Frame} {meth : Method} {c : Code} {H : Heap} {locs : List Loc} {cells slots : Nat} {Q : State → Prop}
variable {mc ms : Nat} {free : Addr → Prop} {A0 A1 : Nat → Prop} {H0 : Heap} {a : Array Value} {pc : Nat} {ls : Array Slot} {st0 rest : List Value}
theorem vx_keep {st₀ t T' : State} {L : List Loc} (h0 : st₀.heap = H) (e1 : T'.heap = t.heap) (hS : va_S A0 H0 H locs) (hA : ∀ q, q < H.size → A1 q → A0 q) (hf : ∀ q, free q → A0 q) (hL : ∀ q ∈ L, free q.base) (hF : va_F A1 st₀ t) :
    H.size ≤ T'.heap.size ∧ (∀ q : Nat, q < H.size → ¬ A1 q → T'.heap[q]? = H[q]?) ∧ va_S A0 H0 T'.heap (locs ++ L) := by
  obtain ⟨hz, hk⟩ := hF
  rw [h0] at hz hk
  exact ⟨by rw [e1]; exact hz, fun q h1 h2 => by rw [e1]; exact hk q h1 h2,
    ⟨Nat.le_trans hS.1 (by rw [e1]; exact hz), fun q h1 h2 => by rw [e1, hk q (Nat.lt_of_lt_of_le h1 hS.1) (fun z => h2 (hA q (Nat.lt_of_lt_of_le h1 hS.1) z))]; exact hS.2.1 q h1 h2, fun q hq => by
      rcases List.mem_append.mp hq with h | h
      · exact hS.2.2 q h
      · exact hf _ (hL q h)⟩⟩
theorem vx_calli {S SX : Type} {post : Int32 → S → Prop} {px : SX → Prop} {B : S → State → Prop} {BX : String → SX → State → Prop} {AX : Nat → Prop} (hr : vx_Run p l e R s m args below meth c H locs cells slots mc ms (F0 m pc ls st0) rest (va_Qi post B A1 a) (vx_X px BX AX) free) (hS : va_S A0 H0 H locs) (hA : ∀ q, q < H.size → A1 q → A0 q) (hf : ∀ q, free q → A0 q) (hAX : ∀ q, q < H.size → AX q → A0 q)
    (kx : ∀ (E : String) (ce : Cell) (q9 : Addr) (u : SX) (t : State) (H1 : Heap) (locs1 : List Loc), t.heap = H1 → s.vm.Alike t.vm → px u → BX E u t → H.size ≤ H1.size → (∀ q : Nat, q < H.size → ¬ AX q → H1[q]? = H[q]?) → va_S A0 H0 H1 locs1 → H1[q9]? = some ce → ce.vm = .none → s.vm.findClass E = some ce.cls → vx_W p l e R s m args below meth c H1 locs1 (cells + mc) (slots + ms) Q (F0 m pc ls rest) q9)
    (kk : ∀ (r : Int32) (u : S) (t : State) (H1 : Heap) (locs1 : List Loc), t.heap = H1 → s.vm.Alike t.vm → post r u → B u t → H.size ≤ H1.size → (∀ q : Nat, q < H.size → ¬ A1 q → H1[q]? = H[q]?) → va_S A0 H0 H1 locs1 → W p l e R s m args below meth c H1 locs1 (cells + mc) (slots + ms) Q (F0 m (pc + 3) ls (.int r :: rest))) : W p l e R s m args below meth c H locs cells slots Q (F0 m pc ls st0) := by
  intro T hT X
  rcases hr T hT X with ⟨v, st₀, t, T', L, h0, X', hL, e1, e2, ⟨⟨r, u, hv, hp, hb⟩, hF⟩, st⟩ | ⟨q, st₀, t, T', L, E, ce, h0, X', hL, e1, e2, ⟨u, hp, hb, hF⟩, hce, hcv, hcl, st⟩
  · cases hv
    obtain ⟨k1, k2, k3⟩ := vx_keep h0 e1 hS hA hf hL hF
    obtain ⟨t2, a1, b1⟩ := kk r u t T'.heap (locs ++ L) e1.symm (by rw [← e2]; exact X'.warmed.alike) hp hb k1 k2 k3 T' rfl X'
    exact ⟨t2, st t2 a1, b1⟩
  · obtain ⟨k1, k2, k3⟩ := vx_keep h0 e1 hS hAX hf hL hF
    obtain ⟨t2, a1, b1⟩ := kx E ce q u t T'.heap (locs ++ L) e1.symm (by rw [← e2]; exact X'.warmed.alike) hp hb k1 k2 k3 (by rw [e1]; exact hce) hcv hcl T' rfl X'
    exact ⟨t2, st.trans a1, b1⟩
theorem vx_calll {S SX : Type} {post : Int64 → S → Prop} {px : SX → Prop} {B : S → State → Prop} {BX : String → SX → State → Prop} {AX : Nat → Prop} (hr : vx_Run p l e R s m args below meth c H locs cells slots mc ms (F0 m pc ls st0) rest (va_Ql post B A1 a) (vx_X px BX AX) free) (hS : va_S A0 H0 H locs) (hA : ∀ q, q < H.size → A1 q → A0 q) (hf : ∀ q, free q → A0 q) (hAX : ∀ q, q < H.size → AX q → A0 q)
    (kx : ∀ (E : String) (ce : Cell) (q9 : Addr) (u : SX) (t : State) (H1 : Heap) (locs1 : List Loc), t.heap = H1 → s.vm.Alike t.vm → px u → BX E u t → H.size ≤ H1.size → (∀ q : Nat, q < H.size → ¬ AX q → H1[q]? = H[q]?) → va_S A0 H0 H1 locs1 → H1[q9]? = some ce → ce.vm = .none → s.vm.findClass E = some ce.cls → vx_W p l e R s m args below meth c H1 locs1 (cells + mc) (slots + ms) Q (F0 m pc ls rest) q9)
    (kk : ∀ (r : Int64) (u : S) (t : State) (H1 : Heap) (locs1 : List Loc), t.heap = H1 → s.vm.Alike t.vm → post r u → B u t → H.size ≤ H1.size → (∀ q : Nat, q < H.size → ¬ A1 q → H1[q]? = H[q]?) → va_S A0 H0 H1 locs1 → W p l e R s m args below meth c H1 locs1 (cells + mc) (slots + ms) Q (F0 m (pc + 3) ls (.long r :: rest))) : W p l e R s m args below meth c H locs cells slots Q (F0 m pc ls st0) := by
  intro T hT X
  rcases hr T hT X with ⟨v, st₀, t, T', L, h0, X', hL, e1, e2, ⟨⟨r, u, hv, hp, hb⟩, hF⟩, st⟩ | ⟨q, st₀, t, T', L, E, ce, h0, X', hL, e1, e2, ⟨u, hp, hb, hF⟩, hce, hcv, hcl, st⟩
  · cases hv
    obtain ⟨k1, k2, k3⟩ := vx_keep h0 e1 hS hA hf hL hF
    obtain ⟨t2, a1, b1⟩ := kk r u t T'.heap (locs ++ L) e1.symm (by rw [← e2]; exact X'.warmed.alike) hp hb k1 k2 k3 T' rfl X'
    exact ⟨t2, st t2 a1, b1⟩
  · obtain ⟨k1, k2, k3⟩ := vx_keep h0 e1 hS hAX hf hL hF
    obtain ⟨t2, a1, b1⟩ := kx E ce q u t T'.heap (locs ++ L) e1.symm (by rw [← e2]; exact X'.warmed.alike) hp hb k1 k2 k3 (by rw [e1]; exact hce) hcv hcl T' rfl X'
    exact ⟨t2, st.trans a1, b1⟩
theorem vx_callf {S SX : Type} {post : UInt32 → S → Prop} {px : SX → Prop} {B : S → State → Prop} {BX : String → SX → State → Prop} {AX : Nat → Prop} (hr : vx_Run p l e R s m args below meth c H locs cells slots mc ms (F0 m pc ls st0) rest (va_Qf post B A1 a) (vx_X px BX AX) free) (hS : va_S A0 H0 H locs) (hA : ∀ q, q < H.size → A1 q → A0 q) (hf : ∀ q, free q → A0 q) (hAX : ∀ q, q < H.size → AX q → A0 q)
    (kx : ∀ (E : String) (ce : Cell) (q9 : Addr) (u : SX) (t : State) (H1 : Heap) (locs1 : List Loc), t.heap = H1 → s.vm.Alike t.vm → px u → BX E u t → H.size ≤ H1.size → (∀ q : Nat, q < H.size → ¬ AX q → H1[q]? = H[q]?) → va_S A0 H0 H1 locs1 → H1[q9]? = some ce → ce.vm = .none → s.vm.findClass E = some ce.cls → vx_W p l e R s m args below meth c H1 locs1 (cells + mc) (slots + ms) Q (F0 m pc ls rest) q9)
    (kk : ∀ (r : UInt32) (u : S) (t : State) (H1 : Heap) (locs1 : List Loc), t.heap = H1 → s.vm.Alike t.vm → post r u → B u t → H.size ≤ H1.size → (∀ q : Nat, q < H.size → ¬ A1 q → H1[q]? = H[q]?) → va_S A0 H0 H1 locs1 → W p l e R s m args below meth c H1 locs1 (cells + mc) (slots + ms) Q (F0 m (pc + 3) ls (.float r :: rest))) : W p l e R s m args below meth c H locs cells slots Q (F0 m pc ls st0) := by
  intro T hT X
  rcases hr T hT X with ⟨v, st₀, t, T', L, h0, X', hL, e1, e2, ⟨⟨r, u, hv, hp, hb⟩, hF⟩, st⟩ | ⟨q, st₀, t, T', L, E, ce, h0, X', hL, e1, e2, ⟨u, hp, hb, hF⟩, hce, hcv, hcl, st⟩
  · cases hv
    obtain ⟨k1, k2, k3⟩ := vx_keep h0 e1 hS hA hf hL hF
    obtain ⟨t2, a1, b1⟩ := kk r u t T'.heap (locs ++ L) e1.symm (by rw [← e2]; exact X'.warmed.alike) hp hb k1 k2 k3 T' rfl X'
    exact ⟨t2, st t2 a1, b1⟩
  · obtain ⟨k1, k2, k3⟩ := vx_keep h0 e1 hS hAX hf hL hF
    obtain ⟨t2, a1, b1⟩ := kx E ce q u t T'.heap (locs ++ L) e1.symm (by rw [← e2]; exact X'.warmed.alike) hp hb k1 k2 k3 (by rw [e1]; exact hce) hcv hcl T' rfl X'
    exact ⟨t2, st.trans a1, b1⟩
theorem vx_calld {S SX : Type} {post : UInt64 → S → Prop} {px : SX → Prop} {B : S → State → Prop} {BX : String → SX → State → Prop} {AX : Nat → Prop} (hr : vx_Run p l e R s m args below meth c H locs cells slots mc ms (F0 m pc ls st0) rest (va_Qd post B A1 a) (vx_X px BX AX) free) (hS : va_S A0 H0 H locs) (hA : ∀ q, q < H.size → A1 q → A0 q) (hf : ∀ q, free q → A0 q) (hAX : ∀ q, q < H.size → AX q → A0 q)
    (kx : ∀ (E : String) (ce : Cell) (q9 : Addr) (u : SX) (t : State) (H1 : Heap) (locs1 : List Loc), t.heap = H1 → s.vm.Alike t.vm → px u → BX E u t → H.size ≤ H1.size → (∀ q : Nat, q < H.size → ¬ AX q → H1[q]? = H[q]?) → va_S A0 H0 H1 locs1 → H1[q9]? = some ce → ce.vm = .none → s.vm.findClass E = some ce.cls → vx_W p l e R s m args below meth c H1 locs1 (cells + mc) (slots + ms) Q (F0 m pc ls rest) q9)
    (kk : ∀ (r : UInt64) (u : S) (t : State) (H1 : Heap) (locs1 : List Loc), t.heap = H1 → s.vm.Alike t.vm → post r u → B u t → H.size ≤ H1.size → (∀ q : Nat, q < H.size → ¬ A1 q → H1[q]? = H[q]?) → va_S A0 H0 H1 locs1 → W p l e R s m args below meth c H1 locs1 (cells + mc) (slots + ms) Q (F0 m (pc + 3) ls (.double r :: rest))) : W p l e R s m args below meth c H locs cells slots Q (F0 m pc ls st0) := by
  intro T hT X
  rcases hr T hT X with ⟨v, st₀, t, T', L, h0, X', hL, e1, e2, ⟨⟨r, u, hv, hp, hb⟩, hF⟩, st⟩ | ⟨q, st₀, t, T', L, E, ce, h0, X', hL, e1, e2, ⟨u, hp, hb, hF⟩, hce, hcv, hcl, st⟩
  · cases hv
    obtain ⟨k1, k2, k3⟩ := vx_keep h0 e1 hS hA hf hL hF
    obtain ⟨t2, a1, b1⟩ := kk r u t T'.heap (locs ++ L) e1.symm (by rw [← e2]; exact X'.warmed.alike) hp hb k1 k2 k3 T' rfl X'
    exact ⟨t2, st t2 a1, b1⟩
  · obtain ⟨k1, k2, k3⟩ := vx_keep h0 e1 hS hAX hf hL hF
    obtain ⟨t2, a1, b1⟩ := kx E ce q u t T'.heap (locs ++ L) e1.symm (by rw [← e2]; exact X'.warmed.alike) hp hb k1 k2 k3 (by rw [e1]; exact hce) hcv hcl T' rfl X'
    exact ⟨t2, st.trans a1, b1⟩
theorem vx_callv {S SX : Type} {post : S → Prop} {px : SX → Prop} {B : S → State → Prop} {BX : String → SX → State → Prop} {AX : Nat → Prop} (hr : vx_Run p l e R s m args below meth c H locs cells slots mc ms (F0 m pc ls st0) rest (va_Qv post B A1 a) (vx_X px BX AX) free) (hS : va_S A0 H0 H locs) (hA : ∀ q, q < H.size → A1 q → A0 q) (hf : ∀ q, free q → A0 q) (hAX : ∀ q, q < H.size → AX q → A0 q)
    (kx : ∀ (E : String) (ce : Cell) (q9 : Addr) (u : SX) (t : State) (H1 : Heap) (locs1 : List Loc), t.heap = H1 → s.vm.Alike t.vm → px u → BX E u t → H.size ≤ H1.size → (∀ q : Nat, q < H.size → ¬ AX q → H1[q]? = H[q]?) → va_S A0 H0 H1 locs1 → H1[q9]? = some ce → ce.vm = .none → s.vm.findClass E = some ce.cls → vx_W p l e R s m args below meth c H1 locs1 (cells + mc) (slots + ms) Q (F0 m pc ls rest) q9)
    (kk : ∀ (u : S) (t : State) (H1 : Heap) (locs1 : List Loc), t.heap = H1 → s.vm.Alike t.vm → post u → B u t → H.size ≤ H1.size → (∀ q : Nat, q < H.size → ¬ A1 q → H1[q]? = H[q]?) → va_S A0 H0 H1 locs1 → W p l e R s m args below meth c H1 locs1 (cells + mc) (slots + ms) Q (F0 m (pc + 3) ls (rest))) : W p l e R s m args below meth c H locs cells slots Q (F0 m pc ls st0) := by
  intro T hT X
  rcases hr T hT X with ⟨v, st₀, t, T', L, h0, X', hL, e1, e2, ⟨⟨u, hv, hp, hb⟩, hF⟩, st⟩ | ⟨q, st₀, t, T', L, E, ce, h0, X', hL, e1, e2, ⟨u, hp, hb, hF⟩, hce, hcv, hcl, st⟩
  · cases hv
    obtain ⟨k1, k2, k3⟩ := vx_keep h0 e1 hS hA hf hL hF
    obtain ⟨t2, a1, b1⟩ := kk u t T'.heap (locs ++ L) e1.symm (by rw [← e2]; exact X'.warmed.alike) hp hb k1 k2 k3 T' rfl X'
    exact ⟨t2, st t2 a1, b1⟩
  · obtain ⟨k1, k2, k3⟩ := vx_keep h0 e1 hS hAX hf hL hF
    obtain ⟨t2, a1, b1⟩ := kx E ce q u t T'.heap (locs ++ L) e1.symm (by rw [← e2]; exact X'.warmed.alike) hp hb k1 k2 k3 (by rw [e1]; exact hce) hcv hcl T' rfl X'
    exact ⟨t2, st.trans a1, b1⟩
/-- caught by the row x of this method's table; the rows ahead don't take it -/
theorem vx_catch {own name : String} {E : String} {ce : Cell} {q : Addr} (hown : s.vm.findClass own = some m.cls) (pre : List ExceptionTableEntry) (x : ExceptionTableEntry) (suf : List ExceptionTableEntry) (hsplit : c.exceptionTable.toList = pre ++ x :: suf)
    (hpass : ∀ z ∈ pre, covers z pc = false ∨ (z.catchType ≠ 0 ∧ ∃ nm : String, (Cond.classLink own z.catchType nm).before args s = true ∧ va_Nc E nm s)) (hx : covers x pc = true) (h0 : x.catchType ≠ 0)
    (hlink : (Cond.classLink own x.catchType name).before args s = true) (hcast : (Cond.castable E name).before args s = true) (hcell : H[q]? = some ce) (hv : ce.vm = .none) (hcl : s.vm.findClass E = some ce.cls)
    (kk : W p l e R s m args below meth c H locs cells slots Q (F0 m x.handlerPc ls [.ref q])) : vx_W p l e R s m args below meth c H locs cells slots Q (F0 m pc ls rest) q := by
  intro T hT X
  have hpl : e.platform.magicAccessors = ({} : Platform).magicAccessors := by rw [X.admits.platform]
  obtain ⟨c3, c4, hc3, hc4, hasg⟩ := Cond.castable_spec hcast
  cases Option.some.inj (hc3.symm.trans hcl)
  obtain ⟨c5, hc5, hcl5⟩ := Cond.classLink_spec hown hlink e.platform hpl
  cases Option.some.inj (hc4.symm.trans hc5)
  obtain ⟨vm', X', st⟩ := X.thenCaughtThrough q (g := F0 m pc ls rest) rfl (Steps.refl _) (by rw [hT]; exact hcell) (by rw [hv]; rfl) (by obtain ⟨k9, h9, -⟩ := Vm.findClass_spec hcl; exact ⟨k9, h9⟩) pre x suf hsplit
    (fun z hz => by
      rcases hpass z hz with h | ⟨hz0, nm, hl1, hn1⟩
      · exact Or.inl h
      · obtain ⟨c6, hc6, hcl6⟩ := Cond.classLink_spec hown hl1 e.platform hpl
        obtain ⟨a8, b8, h1, h2, h3⟩ := hn1
        cases Option.some.inj (h1.symm.trans hcl)
        cases Option.some.inj (h2.symm.trans hc6)
        exact Or.inr ⟨hz0, _, hcl6, h3⟩) hx (Or.inr ⟨h0, c4, hcl5, hasg⟩)
  obtain ⟨t, a1, b1⟩ := kk (T.setVm vm') hT X'
  exact ⟨t, st.trans a1, b1⟩
end Rows
section Ends
variable {p : Program} {l : Launch} {e : Env} {R : Room} {s : State} {m : MethodId} {args : Array Value} {below : List Frame} {meth : Method} {c : Code} {H : Heap} {locs : List Loc} {cells slots : Nat} {Q : State → Prop}
variable {mc ms : Nat} {free : Addr → Prop} {A0 A1 : Nat → Prop} {H0 : Heap} {a : Array Value} {ls : Array Slot} {st0 rest : List Value}
variable {Qc : Array Value → State → Outcome → State → Prop} {XC : String → State → State → Prop}
/-- what a body that may throw owes at its end -/
def vx_MQ (below : List Frame) (Qc : Array Value → State → Outcome → State → Prop) (XC : String → State → State → Prop) (a : Array Value) (s : State) (mc ms : Nat) (free : Addr → Prop) : State → Prop := fun t =>
  ∃ o, t.status = .running ∧ Ended t below o ∧ vx_Q Qc XC mc ms free a s o t
theorem vx_ret {g : JFrame} {mc ms : Nat} (k : W p l e R s m args below meth c H locs cells slots (MQ below Qc args s mc ms free) g) : W p l e R s m args below meth c H locs cells slots (vx_MQ below Qc XC args s mc ms free) g := by
  intro T hT X
  obtain ⟨t, a1, o, b1, b2, b3, b4⟩ := k T hT X
  exact ⟨t, a1, o, b1, b2, Or.inl ⟨b3, b4⟩⟩
/-- not caught here: it goes on to the caller -/
theorem vx_widen {g : JFrame} {q : Addr} {k n : Nat} (h1 : cells ≤ k) (h2 : slots ≤ n) (kk : vx_W p l e R s m args below meth c H locs k n Q g q) : vx_W p l e R s m args below meth c H locs cells slots Q g q := fun T hT X => kk T hT (stand_widen X h1 h2)
theorem vx_out {pc : Nat} {E : String} {ce : Cell} {q : Addr} {mc ms : Nat} (hout : ∀ x ∈ c.exceptionTable.toList, covers x pc = false) (hlocks : meth.locks = false) (hcell : H[q]? = some ce) (hv : ce.vm = .none) (hcl : s.vm.findClass E = some ce.cls)
    (hx : ∀ t : State, t.heap = H → s.vm.Alike t.vm → XC E s t) (hf : ∀ z ∈ locs, free z.base) (hc : cells ≤ mc) (hs : slots ≤ ms) :
    vx_W p l e R s m args below meth c H locs cells slots (vx_MQ below Qc XC args s mc ms free) (F0 m pc ls rest) q := by
  intro T hT X
  obtain ⟨st1, hrun, hend, hW, hsm⟩ := X.leaveThrown q (g := F0 m pc ls rest) rfl rfl rfl hout hlocks
  have hcell9 : (T.setFrames (.throwing q :: below)).heap[q]? = some ce := by
    show T.heap[q]? = some ce
    rw [hT]; exact hcell
  exact ⟨_, st1, .threw q, hrun, hend, Or.inr ⟨q, rfl, E, ce, locs, hx _ hT hW.alike, hcell9, hv, hcl, hW, hsm.mono hc hs, hf⟩⟩
theorem vx_frame {U : State} {k n : Nat} (h : s.sameButNew ({ U with vm := s.vm } : State) locs k n) : s.heap.size ≤ U.heap.size ∧ ∀ q : Nat, q < s.heap.size → (∀ z ∈ locs, z.base ≠ q) → U.heap[q]? = s.heap[q]? := by
  obtain ⟨-, h2, -, -, -, h6⟩ := h
  refine ⟨h2, fun q hq hz => ?_⟩
  obtain ⟨c9, e1, e2, e3, e4⟩ := h6 q _ (Array.getElem?_eq_getElem hq)
  have hs : c9.slots = (s.heap[q]).slots := Array.ext_getElem? fun i => e4 i fun hm => hz _ hm rfl
  have h9 : c9 = s.heap[q] := by
    rw [hs] at e2
    exact e2
  have e5 : U.heap[q]? = some c9 := e1
  rw [e5, h9, Array.getElem?_eq_getElem hq]
/-- the words of a throw but the four that speak of the heap -/
def vx_no (w : Cond) : Bool := decide (w ≠ .isRef (.static Bundle.tN "UNASSIGNED_STACK" Bundle.steD)) && decide (w ≠ .isRef (.static Bundle.tN "SUPPRESSED_SENTINEL" Bundle.listD)) && decide (w ≠ .laysStatic Bundle.tN "UNASSIGNED_STACK" Bundle.steD) && decide (w ≠ .laysStatic Bundle.tN "SUPPRESSED_SENTINEL" Bundle.listD)
def vx_at0 (own : String) (ic : Nat) (X : String) (names : List String) : List Cond := (Bundle.ownAtoms0 own ic X names).filter vx_no
def vx_atS (own : String) (ic : Nat) (X : String) (names : List String) : List Cond := (Bundle.ownAtoms own ic X names).filter vx_no
/-- a word that the tables alone decide, or a good one -/
def vx_ot (w : Cond) : Bool := w.onTables || goodWord w
theorem vx_ot_at {args a' : Array Value} {s U : State} {w : Cond} (hW : s.WarmedH U.vm) (hvm : s.vm = U.vm) (hg : vx_ot w = true) (h : w.before args s = true) : w.before a' U = true := by
  simp only [vx_ot, Bool.or_eq_true] at hg
  rcases hg with hg | hg
  · exact va_tabs hg hvm h
  · exact word_at hW (good_of_word hg) h
/-- a list's words: the good ones out of the method's own list, the others by premises of their own -/
theorem vx_hat {args : Array Value} {s : State} {L B : List Cond} (h1 : ∀ w ∈ L.filter goodWord, w.before args s = true) (h2 : ∀ w ∈ L.filter (fun w => !goodWord w), w ∈ B) (h3 : ∀ w ∈ B, w.before args s = true) : ∀ w ∈ L, w.before args s = true := by
  intro w hw
  by_cases g : goodWord w = true
  · exact h1 w (List.mem_filter.mpr ⟨hw, g⟩)
  · refine h3 w (h2 w (List.mem_filter.mpr ⟨hw, ?_⟩))
    show (!goodWord w) = true
    cases hgw : goodWord w
    · rfl
    · exact absurd hgw g
theorem vx_c {args : Array Value} {s : State} {w : Cond} {B : List Cond} (h : w.before args s = true) (t : ∀ w ∈ B, w.before args s = true) : ∀ w' ∈ w :: B, w'.before args s = true := fun w' h' => (List.mem_cons.mp h').elim (fun e => by rw [e]; exact h) (t w')
theorem vx_n {args : Array Value} {s : State} : ∀ w ∈ ([] : List Cond), w.before args s = true := fun _ h => nomatch h
theorem vx_own {args : Array Value} {s : State} {L : List Cond} (h1 : ∀ w ∈ L.filter vx_no, w.before args s = true)
    (hU : (Cond.isRef (.static Bundle.tN "UNASSIGNED_STACK" Bundle.steD)).before args s = true) (hN : (Cond.isRef (.static Bundle.tN "SUPPRESSED_SENTINEL" Bundle.listD)).before args s = true)
    (lU : (Cond.laysStatic Bundle.tN "UNASSIGNED_STACK" Bundle.steD).before args s = true) (lN : (Cond.laysStatic Bundle.tN "SUPPRESSED_SENTINEL" Bundle.listD).before args s = true) : ∀ w ∈ L, w.before args s = true := by
  intro w hw
  by_cases e1 : w = .isRef (.static Bundle.tN "UNASSIGNED_STACK" Bundle.steD)
  · rw [e1]; exact hU
  · by_cases e2 : w = .isRef (.static Bundle.tN "SUPPRESSED_SENTINEL" Bundle.listD)
    · rw [e2]; exact hN
    · by_cases e3 : w = .laysStatic Bundle.tN "UNASSIGNED_STACK" Bundle.steD
      · rw [e3]; exact lU
      · by_cases e4 : w = .laysStatic Bundle.tN "SUPPRESSED_SENTINEL" Bundle.listD
        · rw [e4]; exact lN
        · exact h1 w (List.mem_filter.mpr ⟨hw, by unfold vx_no; rw [decide_eq_true e1, decide_eq_true e2, decide_eq_true e3, decide_eq_true e4]; rfl⟩)
/-- where a static field lies, its class's statics cell in H -/
def vx_L (C n d : String) (A : Nat → Prop) (U : State) (H : Heap) : Prop := ∃ (c : ClassId) (k : Class) (i : Nat) (f : Field) (a : Nat) (cell : Cell), U.vm.findClass C = some c ∧ U.fieldFound? C n d = some (c, k, i, f) ∧ f.isStatic = true ∧ k.statics = some a ∧ H[a]? = some cell ∧ cell.vm.isStatics = true ∧ cell.cls = c ∧ f.slot < cell.slots.size ∧ k.staticTypes[f.slot]? = some f.type ∧ ¬ A a
theorem vx_L.moved {C n d : String} {A : Nat → Prop} {u U : State} {H : Heap} (hvm : u.vm.Alike U.vm) (h : vx_L C n d A u H) : vx_L C n d A U H := by
  obtain ⟨c, k, i, f, a, cell, h1, h2, h3, h4, h5, h6, h7, h8, h9, h10⟩ := h
  obtain ⟨k', hi', he⟩ := State.fieldFound?_setVm hvm h2
  exact ⟨c, k', i, f, a, cell, by rw [hvm.findClass]; exact h1, hi', h3, by rw [he]; exact h4, h5, h6, h7, h8, by rw [he]; exact h9, h10⟩
theorem vx_L.kept {C n d : String} {A : Nat → Prop} {U : State} {H H1 : Heap} (h : vx_L C n d A U H) (hq : ∀ a : Nat, a < H.size → ¬ A a → H1[a]? = H[a]?) : vx_L C n d A U H1 := by
  obtain ⟨c, k, i, f, a, cell, h1, h2, h3, h4, h5, h6, h7, h8, h9, h10⟩ := h
  exact ⟨c, k, i, f, a, cell, h1, h2, h3, h4, by rw [hq a (Array.getElem?_eq_some_iff.mp h5).1 h10]; exact h5, h6, h7, h8, h9, h10⟩
theorem vx_L.narrow {C n d : String} {A B : Nat → Prop} {U : State} {H : Heap} (h : vx_L C n d A U H) (hAB : ∀ q, B q → A q) : vx_L C n d B U H := by
  obtain ⟨c, k, i, f, a, cell, h1, h2, h3, h4, h5, h6, h7, h8, h9, h10⟩ := h
  exact ⟨c, k, i, f, a, cell, h1, h2, h3, h4, h5, h6, h7, h8, h9, fun z => h10 (hAB _ z)⟩
theorem vx_L.word {C n d : String} {A : Nat → Prop} {s : State} {args : Array Value} (h : vx_L C n d A s s.heap) : (Cond.laysStatic C n d).before args s = true := by
  obtain ⟨c, k, i, f, a, cell, h1, h2, h3, h4, h5, h6, h7, h8, h9, -⟩ := h
  show (Cond.laysStatic C n d).holds args s none s [] = true
  exact Cond.laysStatic_of h1 h2 h3 h4 h5 h6 h7 h8 h9
/-- .. and what it holds: null or some reference -/
def vx_Zq (C n d : String) (A : Nat → Prop) (U : State) (H : Heap) : Prop := va_Zq C n d A U H ∧ vx_L C n d A U H
theorem vx_Zq.moved {C n d : String} {A : Nat → Prop} {u U : State} {H : Heap} (hvm : u.vm.Alike U.vm) (h : vx_Zq C n d A u H) : vx_Zq C n d A U H := ⟨va_Zq.moved hvm h.1, vx_L.moved hvm h.2⟩
theorem vx_Zq.kept {C n d : String} {A : Nat → Prop} {U : State} {H H1 : Heap} (h : vx_Zq C n d A U H) (hq : ∀ a : Nat, a < H.size → ¬ A a → H1[a]? = H[a]?) : vx_Zq C n d A U H1 := ⟨va_Zq.kept h.1 hq, vx_L.kept h.2 hq⟩
theorem vx_Zq.narrow {C n d : String} {A B : Nat → Prop} {U : State} {H : Heap} (h : vx_Zq C n d A U H) (hAB : ∀ q, B q → A q) : vx_Zq C n d B U H := ⟨va_Zq.narrow h.1 hAB, vx_L.narrow h.2 hAB⟩
theorem vx_Zqof {args : Array Value} {s : State} {C n d : String} {A : Nat → Prop} (hl : (Cond.laysStatic C n d).before args s = true) (hini : (Cond.initialized C).before args s = true) (h : (Cond.isRef (.static C n d)).before args s = true) (hA : ∀ a : Nat, a < s.heap.size → ¬ A a) : vx_Zq C n d A s s.heap := by
  refine ⟨va_Zqof hl hini h hA, ?_⟩
  obtain ⟨c, k, i, f, a, cell, h1, h2, h3, h4, h5, h6, h7, h8, h9⟩ := Cond.laysStatic_spec hl
  exact ⟨c, k, i, f, a, cell, h1, h2, h3, h4, h5, h6, h7, h8, h9, hA a (Array.getElem?_eq_some_iff.mp h5).1⟩
theorem vx_isRef {C n d : String} {v : Value} {A : Nat → Prop} {s : State} {args : Array Value} (h : va_Z C n d v A s s.heap) (hv : v.isRef = true) : (Cond.isRef (.static C n d)).before args s = true := by
  obtain ⟨cf, kf, fi, f, a, cell, h1, h2, h3, h4, h5, h6, h7, -⟩ := h
  have he : (Term.static C n d).eval args s none [] s = some v := by
    simp [Term.eval, State.fieldNamed?, h1, h2, h4, h5, h6, h7]
  simp only [Cond.before, Cond.holds, Cond.value, he]
  cases v <;> simp_all [Value.isRef]
theorem vx_isRefq {C n d : String} {A : Nat → Prop} {s : State} {args : Array Value} (h : va_Zq C n d A s s.heap) : (Cond.isRef (.static C n d)).before args s = true := by
  rcases h with h | ⟨t, h⟩
  · exact vx_isRef h rfl
  · exact vx_isRef h rfl
/-- the same frame, seen from here: as if the method were called anew in this heap -/
theorem vx_rebase {T : State} (X : Stand p l e R s m args below meth c T locs cells slots) {R' : Room} (hf : R'.frames ≤ R.frames) (hl : R'.locals ≤ R.locals) (hc : cells + R'.cells ≤ R.cells) (hs : slots + R'.slots ≤ R.slots) :
    Stand p l e R' ((T.setVm s.vm).setFrames (.invoking m args :: below)) m args below meth c T [] 0 0 := by
  have htop : (T.setVm s.vm).topJava?.isSome := X.here.top
  have hF : ((T.setVm s.vm).setFrames (.invoking m args :: below)).frames = .invoking m args :: below := State.frames_setFrames _ (State.cur_lt_of_top htop)
  obtain ⟨g₀, hg0⟩ := Option.isSome_iff_exists.mp htop
  obtain ⟨r, hr⟩ := State.topJava?_eq_some.mp hg0
  have hl9 : e.platform.stackLimits (T.setVm s.vm).me = e.platform.stackLimits s.me := X.limits
  have hb9 : (T.setVm s.vm).me.stackBytes = s.me.stackBytes := X.bytes
  refine ⟨X.admits, X.cas, X.clock, hF, ?_, X.hears, X.method, X.code, X.here, X.tail, X.warmed, ?_, ?_, ?_⟩
  · have h := X.room
    have hU : ((T.setVm s.vm).setFrames (.invoking m args :: below)).localsInUse = s.localsInUse := by
      rw [State.localsInUse_invoking hF (meth := meth) (c := c) X.method X.code, State.localsInUse_invoking X.frames X.method X.code]
    simp only [State.hasRoom, Bool.and_eq_true, decide_eq_true_eq] at h ⊢
    obtain ⟨⟨⟨⟨h1, h2, h3, h4, h5, h6⟩, h7⟩, h8⟩, h9⟩ := h
    rw [X.frames, List.length_cons] at h2 h3
    have q1 := X.heapSize
    have q2 := X.used
    simp only [hF, hU, List.length_cons, State.stackLimits_setFrames, State.stackBytes_setFrames, hl9, hb9]
    refine ⟨⟨⟨⟨by omega, by omega, by omega, by omega, by omega, h6⟩, ?_⟩, ?_⟩, X.book⟩
    · show T.heap.size + R'.cells ≤ e.platform.maxCells
      omega
    · show T.slotsUsed + R'.slots ≤ e.platform.maxSlots
      omega
  · rw [State.stackLimits_setFrames]; rfl
  · rw [State.stackBytes_setFrames]; rfl
  · refine ⟨?_, Nat.le_refl _, Nat.le_refl _, ?_, ?_, fun a c9 h9 => ⟨c9, h9, rfl, rfl, fun _ _ => rfl⟩⟩
    · obtain ⟨t, ht, -⟩ := State.frames_cons hr
      show T.setVm s.vm = { ((T.setVm s.vm).setFrames (.invoking m args :: below)).setFrames (T.setVm s.vm).frames with heap := T.heap, slotsUsed := T.slotsUsed }
      rw [State.setFrames_setFrames, State.setFrames_self ht]
      rfl
    · show T.slotsUsed = T.slotsUsed + ((T.heap.toList.drop T.heap.size).map (·.slots.size)).sum
      rw [List.drop_eq_nil_of_le (Nat.le_of_eq Array.length_toList)]
      rfl
    · show ((T.heap.toList.drop T.heap.size).map (·.slots.size)).sum ≤ 0
      rw [List.drop_eq_nil_of_le (Nat.le_of_eq Array.length_toList)]
      exact Nat.le_refl _
/-- 'throw new E()': new; dup; invokespecial; athrow -/
theorem vx_throw0 {cc : ByteArray} {pc : Nat} (hexec : p.tables.exec = Jvm.exec) (hb : c.code = cc) (hl : l.stackTraces = false) {own cls : String} {names : List String} {ik ic mc ms : Nat} {A : Nat → Prop}
    (hown : s.vm.findClass own = some m.cls) (hcls : Bundle.fit cls = true) (hnames : ∀ n ∈ names, Bundle.fit n = true)
    (hk : (Cond.classLink own ik cls).before args s = true) (hini : (Cond.initialized cls).before args s = true) (hat : ∀ w ∈ vx_at0 own ic cls names, w.before args s = true)
    (hgood : ∀ w ∈ Cond.classLink own ik cls :: Cond.initialized cls :: vx_at0 own ic cls names, vx_ot w = true)
    (hU : vx_Zq Bundle.tN "UNASSIGNED_STACK" Bundle.steD A s s.heap) (hN : vx_Zq Bundle.tN "SUPPRESSED_SENTINEL" Bundle.listD A s s.heap) (hS : va_S A s.heap H locs) (hsize : ls.size = c.maxLocals)
    (d0 : decode cc pc = .ok (.new ik, 3)) (d3 : decode cc (pc + 3) = .ok (.dup, 1)) (d4 : decode cc (pc + 4) = .ok (.invokespecial ic, 3)) (d7 : decode cc (pc + 7) = .ok (.athrow, 1))
    (hout : ∀ x ∈ c.exceptionTable.toList, covers x (pc + 7) = false)
    (hRframes : names.length + 3 < R.frames) (hRlocals : (rest.map fun v => v.category).sum + (13 * (names.length + 1) + 42) ≤ R.locals) (hRcells : cells + 1 ≤ R.cells) (hRslots : slots + 6 ≤ R.slots) (hlocks : meth.locks = false)
    (hx : ∀ t : State, s.vm.Alike t.vm → H.size ≤ t.heap.size → (∀ q : Nat, q < H.size → t.heap[q]? = H[q]?) → XC cls s t)
    (hf : ∀ z ∈ locs, free z.base) (hc : cells + 1 ≤ mc) (hs : slots + 6 ≤ ms) :
    W p l e R s m args below meth c H locs cells slots (vx_MQ below Qc XC args s mc ms free) (F0 m pc ls rest) := by
  intro T hT X
  have htr : e.platform.stackTraces = false := (show e.platform.stackTraces = l.stackTraces by rw [X.admits.platform]).trans hl
  have Y := vx_rebase X (R' := { frames := R.frames, locals := R.locals, cells := 1, slots := 6 }) (Nat.le_refl _) (Nat.le_refl _) hRcells hRslots
  obtain ⟨s', hA⟩ : ∃ z, z = (T.setVm s.vm).setFrames (.invoking m args :: below) := ⟨_, rfl⟩
  rw [← hA] at Y
  have hvm : s'.vm = s.vm := by rw [hA]; rfl
  have hhp : s'.heap = H := by rw [hA]; exact hT
  have hW0 : s.WarmedH s'.vm := by rw [hvm]; exact State.WarmedH.refl s
  have hat' : ∀ w ∈ vx_at0 own ic cls names, w.before args s' = true := fun w hw => vx_ot_at hW0 hvm.symm (hgood w (List.mem_cons_of_mem _ (List.mem_cons_of_mem _ hw))) (hat w hw)
  have hk' : (Cond.classLink own ik cls).before args s' = true := vx_ot_at hW0 hvm.symm (hgood _ List.mem_cons_self) hk
  have hini' : (Cond.initialized cls).before args s' = true := vx_ot_at hW0 hvm.symm (hgood _ (List.mem_cons_of_mem _ List.mem_cons_self)) hini
  have hU' : vx_Zq Bundle.tN "UNASSIGNED_STACK" Bundle.steD A s' s'.heap := by rw [hhp]; exact vx_Zq.moved hW0.alike (hU.kept hS.2.1)
  have hN' : vx_Zq Bundle.tN "SUPPRESSED_SENTINEL" Bundle.listD A s' s'.heap := by rw [hhp]; exact vx_Zq.moved hW0.alike (hN.kept hS.2.1)
  have h : ∀ w ∈ Bundle.ownAtoms0 own ic cls names, w.before args s' = true := vx_own hat' (vx_isRefq hU'.1) (vx_isRefq hN'.1) hU'.2.word hN'.2.word
  have hown' : s'.vm.findClass own = some m.cls := by rw [hvm]; exact hown
  have hins : (Cond.instantiable cls 6).before args s' = true := h _ (by simp [Bundle.ownAtoms0])
  obtain ⟨vm₁, cX, kX, hfX, hkX, -, -, X₁, st1⟩ := Y.newCold hexec (own := own) (C := cls) (index := ik) (n := 6) hown' hk' hins hini'
    (g := F0 m pc ls rest) rfl (by rw [hb]; exact d0) (Nat.le_refl _) (Nat.le_refl _)
  generalize hT1 : (T.setVm vm₁).pushCell { cls := cX, slots := kX.instanceTypes.map defaultValue, vm := .none } = T1 at X₁ st1
  have hcat : (Value.ref T.heap.size).category = 1 := rfl
  have hcellA : T1.heap[T.heap.size]? = some (freshCell cX kX) := by rw [← hT1]; exact State.heap_pushCell_size _ _
  have d3' : decode c.code (pc + 3) = .ok (.dup, 1) := by rw [hb]; exact d3
  obtain ⟨U, hsteps, hrun, hend, hW, hsame, ce, hce, hO⟩ := X₁.ctorThrow0 hexec htr (own := own) (cls := cls) (names := names) (ic := ic) hown' hcls hnames h (fun x hx => nomatch hx) hfX hkX hcellA (by rw [hhp, hT]; exact Nat.le_refl _)
    (g := { method := m, pc := pc + 4, locals := ls, stack := .ref T.heap.size :: .ref T.heap.size :: rest, locked := none }) rfl hsize rfl rfl (rest := rest) rfl
    (by rw [hb]; exact d4) (by rw [hb]; exact d7) hout hRframes (by simp only [List.map_cons, List.sum_cons, hcat]; omega) hlocks
  obtain ⟨f1, f2⟩ := vx_frame hsame
  rw [hhp] at f1 f2
  have hWs : s.WarmedH U.vm := State.WarmedH.trans hW0 hW
  have hcl : s.vm.findClass cls = some ce.cls := by
    have h9 := hO.cls
    rw [hvm] at h9
    exact h9
  have hall : s.sameButNew ({ U with vm := s.vm } : State) locs mc ms := by
    subst hA
    obtain ⟨e1, e2⟩ := hsame
    rw [State.setFrames_setFrames] at e1
    have h2 : (T.setVm s.vm).sameButNew ({ U with vm := s.vm } : State) [] (0 + 1) (0 + 6) := ⟨e1, e2⟩
    have h3 := X.same.trans h2
    rw [List.append_nil] at h3
    exact h3.mono hc hs
  refine ⟨U, ?_, .threw T.heap.size, hrun, hend, Or.inr ⟨T.heap.size, rfl, cls, ce, locs, hx U hWs.alike f1 (fun q hq => f2 q hq (fun z hz => nomatch hz)), hce, hO.vm, hcl, hWs, hall, hf⟩⟩
  refine st1 _ ?_
  show Steps p.tables e below (T1.setTop { method := m, pc := pc + 3, locals := ls, stack := .ref T.heap.size :: rest, locked := none }) _
  jvm_step X₁.here [X₁.here.top, hexec, d3', Value.category]
  exact hsteps
/-- 'throw new E("text")': new; dup; ldc; invokespecial; athrow -/
theorem vx_throwS {cc : ByteArray} {pc : Nat} (hexec : p.tables.exec = Jvm.exec) (hb : c.code = cc) (hl : l.stackTraces = false) {own cls text : String} {names : List String} {ik is ic mc ms sa : Nat} {A : Nat → Prop}
    (hown : s.vm.findClass own = some m.cls) (hcls : Bundle.fit cls = true) (hnames : ∀ n ∈ names, Bundle.fit n = true)
    (hk : (Cond.classLink own ik cls).before args s = true) (hini : (Cond.initialized cls).before args s = true) (hstr : vk_R own is text sa s) (hat : ∀ w ∈ vx_atS own ic cls names, w.before args s = true)
    (hgood : ∀ w ∈ Cond.classLink own ik cls :: Cond.initialized cls :: vx_atS own ic cls names, vx_ot w = true)
    (hU : vx_Zq Bundle.tN "UNASSIGNED_STACK" Bundle.steD A s s.heap) (hN : vx_Zq Bundle.tN "SUPPRESSED_SENTINEL" Bundle.listD A s s.heap) (hS : va_S A s.heap H locs) (hsize : ls.size = c.maxLocals)
    (d0 : decode cc pc = .ok (.new ik, 3)) (d3 : decode cc (pc + 3) = .ok (.dup, 1)) (d4 : decode cc (pc + 4) = .ok (.ldc is, 2)) (d6 : decode cc (pc + 6) = .ok (.invokespecial ic, 3)) (d9 : decode cc (pc + 9) = .ok (.athrow, 1))
    (hout : ∀ x ∈ c.exceptionTable.toList, covers x (pc + 9) = false)
    (hRframes : names.length + 3 < R.frames) (hRlocals : (rest.map fun v => v.category).sum + (13 * (names.length + 1) + 43) ≤ R.locals) (hRcells : cells + 1 ≤ R.cells) (hRslots : slots + 6 ≤ R.slots) (hlocks : meth.locks = false)
    (hx : ∀ t : State, s.vm.Alike t.vm → H.size ≤ t.heap.size → (∀ q : Nat, q < H.size → t.heap[q]? = H[q]?) → XC cls s t)
    (hf : ∀ z ∈ locs, free z.base) (hc : cells + 1 ≤ mc) (hs : slots + 6 ≤ ms) :
    W p l e R s m args below meth c H locs cells slots (vx_MQ below Qc XC args s mc ms free) (F0 m pc ls rest) := by
  intro T hT X
  have htr : e.platform.stackTraces = false := (show e.platform.stackTraces = l.stackTraces by rw [X.admits.platform]).trans hl
  have Y := vx_rebase X (R' := { frames := R.frames, locals := R.locals, cells := 1, slots := 6 }) (Nat.le_refl _) (Nat.le_refl _) hRcells hRslots
  obtain ⟨s', hA⟩ : ∃ z, z = (T.setVm s.vm).setFrames (.invoking m args :: below) := ⟨_, rfl⟩
  rw [← hA] at Y
  have hvm : s'.vm = s.vm := by rw [hA]; rfl
  have hhp : s'.heap = H := by rw [hA]; exact hT
  have hW0 : s.WarmedH s'.vm := by rw [hvm]; exact State.WarmedH.refl s
  have hat' : ∀ w ∈ vx_atS own ic cls names, w.before args s' = true := fun w hw => vx_ot_at hW0 hvm.symm (hgood w (List.mem_cons_of_mem _ (List.mem_cons_of_mem _ hw))) (hat w hw)
  have hk' : (Cond.classLink own ik cls).before args s' = true := vx_ot_at hW0 hvm.symm (hgood _ List.mem_cons_self) hk
  have hini' : (Cond.initialized cls).before args s' = true := vx_ot_at hW0 hvm.symm (hgood _ (List.mem_cons_of_mem _ List.mem_cons_self)) hini
  have hU' : vx_Zq Bundle.tN "UNASSIGNED_STACK" Bundle.steD A s' s'.heap := by rw [hhp]; exact vx_Zq.moved hW0.alike (hU.kept hS.2.1)
  have hN' : vx_Zq Bundle.tN "SUPPRESSED_SENTINEL" Bundle.listD A s' s'.heap := by rw [hhp]; exact vx_Zq.moved hW0.alike (hN.kept hS.2.1)
  have h : ∀ w ∈ Bundle.ownAtoms own ic cls names, w.before args s' = true := vx_own hat' (vx_isRefq hU'.1) (vx_isRefq hN'.1) hU'.2.word hN'.2.word
  have hown' : s'.vm.findClass own = some m.cls := by rw [hvm]; exact hown
  have hins : (Cond.instantiable cls 6).before args s' = true := h _ (by simp [Bundle.ownAtoms])
  obtain ⟨vm₁, cX, kX, hfX, hkX, -, -, X₁, st1⟩ := Y.newCold hexec (own := own) (C := cls) (index := ik) (n := 6) hown' hk' hins hini'
    (g := F0 m pc ls rest) rfl (by rw [hb]; exact d0) (Nat.le_refl _) (Nat.le_refl _)
  generalize hT1 : (T.setVm vm₁).pushCell { cls := cX, slots := kX.instanceTypes.map defaultValue, vm := .none } = T1 at X₁ st1
  have hcat : (Value.ref T.heap.size).category = 1 := rfl
  have hcellA : T1.heap[T.heap.size]? = some (freshCell cX kX) := by rw [← hT1]; exact State.heap_pushCell_size _ _
  have d3' : decode c.code (pc + 3) = .ok (.dup, 1) := by rw [hb]; exact d3
  have d4' : decode c.code (pc + 4) = .ok (.ldc is, 2) := by rw [hb]; exact d4
  have hstr' : vk_R own is text sa s' := vk_R.warm hW0 hstr
  obtain ⟨U, hsteps, hrun, hend, hW, hsame, ce, hce, hO⟩ := X₁.ctorThrowS hexec htr (own := own) (cls := cls) (names := names) (ic := ic) hown' hcls hnames h (fun x hx => nomatch hx) hfX hkX hcellA (by rw [hhp, hT]; exact Nat.le_refl _) (msg := .ref sa) rfl
    (g := { method := m, pc := pc + 6, locals := ls, stack := .ref sa :: .ref T.heap.size :: .ref T.heap.size :: rest, locked := none }) rfl hsize rfl rfl (rest := rest) rfl
    (by rw [hb]; exact d6) (by rw [hb]; exact d9) hout hRframes (by simp only [List.map_cons, List.sum_cons, hcat]; omega) hlocks
  obtain ⟨f1, f2⟩ := vx_frame hsame
  rw [hhp] at f1 f2
  have hWs : s.WarmedH U.vm := State.WarmedH.trans hW0 hW
  have hcl : s.vm.findClass cls = some ce.cls := by
    have h9 := hO.cls
    rw [hvm] at h9
    exact h9
  have hall : s.sameButNew ({ U with vm := s.vm } : State) locs mc ms := by
    subst hA
    obtain ⟨e1, e2⟩ := hsame
    rw [State.setFrames_setFrames] at e1
    have h2 : (T.setVm s.vm).sameButNew ({ U with vm := s.vm } : State) [] (0 + 1) (0 + 6) := ⟨e1, e2⟩
    have h3 := X.same.trans h2
    rw [List.append_nil] at h3
    exact h3.mono hc hs
  refine ⟨U, ?_, .threw T.heap.size, hrun, hend, Or.inr ⟨T.heap.size, rfl, cls, ce, locs, hx U hWs.alike f1 (fun q hq => f2 q hq (fun z hz => nomatch hz)), hce, hO.vm, hcl, hWs, hall, hf⟩⟩
  refine st1 _ ?_
  show Steps p.tables e below (T1.setTop { method := m, pc := pc + 3, locals := ls, stack := .ref T.heap.size :: rest, locked := none }) _
  jvm_step X₁.here [X₁.here.top, hexec, d3', Value.category]
  exact X₁.ldcString hexec (own := own) (text := text) (index := is) (a := sa) hown' hstr'.1 hstr'.2
    (g := { method := m, pc := pc + 4, locals := ls, stack := .ref T.heap.size :: .ref T.heap.size :: rest, locked := none }) rfl d4' _ hsteps
/-- 'throw new E("text")', the text by a wide index -/
theorem vx_throwSW {cc : ByteArray} {pc : Nat} (hexec : p.tables.exec = Jvm.exec) (hb : c.code = cc) (hl : l.stackTraces = false) {own cls text : String} {names : List String} {ik is ic mc ms sa : Nat} {A : Nat → Prop}
    (hown : s.vm.findClass own = some m.cls) (hcls : Bundle.fit cls = true) (hnames : ∀ n ∈ names, Bundle.fit n = true)
    (hk : (Cond.classLink own ik cls).before args s = true) (hini : (Cond.initialized cls).before args s = true) (hstr : vk_R own is text sa s) (hat : ∀ w ∈ vx_atS own ic cls names, w.before args s = true)
    (hgood : ∀ w ∈ Cond.classLink own ik cls :: Cond.initialized cls :: vx_atS own ic cls names, vx_ot w = true)
    (hU : vx_Zq Bundle.tN "UNASSIGNED_STACK" Bundle.steD A s s.heap) (hN : vx_Zq Bundle.tN "SUPPRESSED_SENTINEL" Bundle.listD A s s.heap) (hS : va_S A s.heap H locs) (hsize : ls.size = c.maxLocals)
    (d0 : decode cc pc = .ok (.new ik, 3)) (d3 : decode cc (pc + 3) = .ok (.dup, 1)) (d4 : decode cc (pc + 4) = .ok (.ldc_w is, 3)) (d7 : decode cc (pc + 7) = .ok (.invokespecial ic, 3)) (d10 : decode cc (pc + 10) = .ok (.athrow, 1))
    (hout : ∀ x ∈ c.exceptionTable.toList, covers x (pc + 10) = false)
    (hRframes : names.length + 3 < R.frames) (hRlocals : (rest.map fun v => v.category).sum + (13 * (names.length + 1) + 43) ≤ R.locals) (hRcells : cells + 1 ≤ R.cells) (hRslots : slots + 6 ≤ R.slots) (hlocks : meth.locks = false)
    (hx : ∀ t : State, s.vm.Alike t.vm → H.size ≤ t.heap.size → (∀ q : Nat, q < H.size → t.heap[q]? = H[q]?) → XC cls s t)
    (hf : ∀ z ∈ locs, free z.base) (hc : cells + 1 ≤ mc) (hs : slots + 6 ≤ ms) :
    W p l e R s m args below meth c H locs cells slots (vx_MQ below Qc XC args s mc ms free) (F0 m pc ls rest) := by
  intro T hT X
  have htr : e.platform.stackTraces = false := (show e.platform.stackTraces = l.stackTraces by rw [X.admits.platform]).trans hl
  have Y := vx_rebase X (R' := { frames := R.frames, locals := R.locals, cells := 1, slots := 6 }) (Nat.le_refl _) (Nat.le_refl _) hRcells hRslots
  obtain ⟨s', hA⟩ : ∃ z, z = (T.setVm s.vm).setFrames (.invoking m args :: below) := ⟨_, rfl⟩
  rw [← hA] at Y
  have hvm : s'.vm = s.vm := by rw [hA]; rfl
  have hhp : s'.heap = H := by rw [hA]; exact hT
  have hW0 : s.WarmedH s'.vm := by rw [hvm]; exact State.WarmedH.refl s
  have hat' : ∀ w ∈ vx_atS own ic cls names, w.before args s' = true := fun w hw => vx_ot_at hW0 hvm.symm (hgood w (List.mem_cons_of_mem _ (List.mem_cons_of_mem _ hw))) (hat w hw)
  have hk' : (Cond.classLink own ik cls).before args s' = true := vx_ot_at hW0 hvm.symm (hgood _ List.mem_cons_self) hk
  have hini' : (Cond.initialized cls).before args s' = true := vx_ot_at hW0 hvm.symm (hgood _ (List.mem_cons_of_mem _ List.mem_cons_self)) hini
  have hU' : vx_Zq Bundle.tN "UNASSIGNED_STACK" Bundle.steD A s' s'.heap := by rw [hhp]; exact vx_Zq.moved hW0.alike (hU.kept hS.2.1)
  have hN' : vx_Zq Bundle.tN "SUPPRESSED_SENTINEL" Bundle.listD A s' s'.heap := by rw [hhp]; exact vx_Zq.moved hW0.alike (hN.kept hS.2.1)
  have h : ∀ w ∈ Bundle.ownAtoms own ic cls names, w.before args s' = true := vx_own hat' (vx_isRefq hU'.1) (vx_isRefq hN'.1) hU'.2.word hN'.2.word
  have hown' : s'.vm.findClass own = some m.cls := by rw [hvm]; exact hown
  have hins : (Cond.instantiable cls 6).before args s' = true := h _ (by simp [Bundle.ownAtoms])
  obtain ⟨vm₁, cX, kX, hfX, hkX, -, -, X₁, st1⟩ := Y.newCold hexec (own := own) (C := cls) (index := ik) (n := 6) hown' hk' hins hini'
    (g := F0 m pc ls rest) rfl (by rw [hb]; exact d0) (Nat.le_refl _) (Nat.le_refl _)
  generalize hT1 : (T.setVm vm₁).pushCell { cls := cX, slots := kX.instanceTypes.map defaultValue, vm := .none } = T1 at X₁ st1
  have hcat : (Value.ref T.heap.size).category = 1 := rfl
  have hcellA : T1.heap[T.heap.size]? = some (freshCell cX kX) := by rw [← hT1]; exact State.heap_pushCell_size _ _
  have d3' : decode c.code (pc + 3) = .ok (.dup, 1) := by rw [hb]; exact d3
  have d4' : decode c.code (pc + 4) = .ok (.ldc_w is, 3) := by rw [hb]; exact d4
  have hstr' : vk_R own is text sa s' := vk_R.warm hW0 hstr
  obtain ⟨U, hsteps, hrun, hend, hW, hsame, ce, hce, hO⟩ := X₁.ctorThrowS hexec htr (own := own) (cls := cls) (names := names) (ic := ic) hown' hcls hnames h (fun x hx => nomatch hx) hfX hkX hcellA (by rw [hhp, hT]; exact Nat.le_refl _) (msg := .ref sa) rfl
    (g := { method := m, pc := pc + 7, locals := ls, stack := .ref sa :: .ref T.heap.size :: .ref T.heap.size :: rest, locked := none }) rfl hsize rfl rfl (rest := rest) rfl
    (by rw [hb]; exact d7) (by rw [hb]; exact d10) hout hRframes (by simp only [List.map_cons, List.sum_cons, hcat]; omega) hlocks
  obtain ⟨f1, f2⟩ := vx_frame hsame
  rw [hhp] at f1 f2
  have hWs : s.WarmedH U.vm := State.WarmedH.trans hW0 hW
  have hcl : s.vm.findClass cls = some ce.cls := by
    have h9 := hO.cls
    rw [hvm] at h9
    exact h9
  have hall : s.sameButNew ({ U with vm := s.vm } : State) locs mc ms := by
    subst hA
    obtain ⟨e1, e2⟩ := hsame
    rw [State.setFrames_setFrames] at e1
    have h2 : (T.setVm s.vm).sameButNew ({ U with vm := s.vm } : State) [] (0 + 1) (0 + 6) := ⟨e1, e2⟩
    have h3 := X.same.trans h2
    rw [List.append_nil] at h3
    exact h3.mono hc hs
  refine ⟨U, ?_, .threw T.heap.size, hrun, hend, Or.inr ⟨T.heap.size, rfl, cls, ce, locs, hx U hWs.alike f1 (fun q hq => f2 q hq (fun z hz => nomatch hz)), hce, hO.vm, hcl, hWs, hall, hf⟩⟩
  refine st1 _ ?_
  show Steps p.tables e below (T1.setTop { method := m, pc := pc + 3, locals := ls, stack := .ref T.heap.size :: rest, locked := none }) _
  jvm_step X₁.here [X₁.here.top, hexec, d3', Value.category]
  exact X₁.ldcStringW hexec (own := own) (text := text) (index := is) (a := sa) hown' hstr'.1 hstr'.2
    (g := { method := m, pc := pc + 4, locals := ls, stack := .ref T.heap.size :: .ref T.heap.size :: rest, locked := none }) rfl d4' _ hsteps
end Ends
section Bodies
variable {l : Launch}
theorem vx_ofW {y : MethodName} {ws ws' : List Cond} {rm : Room} {Pc : Array Value → State → Prop} {Qc : Array Value → State → Outcome → State → Prop} {XC : String → State → State → Prop} {mc ms : Nat} {free : Addr → Prop} {cc : ByteArray} {maxL : Nat} {ret : Option FieldType}
    (hy : plainName y.cls = true) (hw : ws = Cond.code y cc maxL ret :: ws')
    (body : ∀ p e s m args below meth c s₁, BodyLoose p l y (headSpec ws rm) cc maxL ret e s m args below meth c s₁ → c.maxLocals = maxL → (∀ x ∈ c.exceptionTable.toList, False) → Pc args s →
      W p l e (headSpec ws rm).room s m args below meth c s.heap [] 0 0 (vx_MQ below Qc XC args s mc ms free) (entryFrame m args maxL)) : vx_Met l y ws rm Pc Qc XC mc ms free := by
  refine MetFree.of_bodyS (code := cc) (maxLocals := maxL) (ret := ret) hy ?_ ?_
  · intro args s m h hn
    obtain ⟨meth, c, h1, h2, h3, h4, h5, h6, -, -⟩ := Cond.code_spec hn (atoms_spec (ws := ws) h _ (by rw [hw]; exact List.mem_cons_self))
    exact ⟨meth, c, h1, h2, h3, h4, h5, h6⟩
  · intro p e s m args below meth c s₁ B hml hP _
    have hh0 : s₁.heap = s.heap := by rw [B.state]; rfl
    have ht : ∀ x ∈ c.exceptionTable.toList, False := by
      obtain ⟨meth9, c9, h1, h2, -, -, -, -, h7, -⟩ := Cond.code_spec B.named (atoms_spec (ws := ws) B.pre _ (by rw [hw]; exact List.mem_cons_self))
      cases Option.some.inj (h1.symm.trans B.method)
      cases Option.some.inj (h2.symm.trans (Stand.of_body B).code)
      intro x hx
      rw [Array.isEmpty_iff.mp h7] at hx
      cases hx
    obtain ⟨t, a1, o, b1, b2, b3⟩ := body p e s m args below meth c s₁ B hml ht hP s₁ hh0 (Stand.of_body B)
    exact ⟨t, o, a1, b1, b2, b3⟩
/-- the table of a body with handlers -/
theorem vx_table {p : Program} {x y : MethodName} {S : Spec} {cc bytes : ByteArray} {maxL maxL' : Nat} {ret ret' : Option FieldType} {e : Env} {s s₁ : State} {m : MethodId} {args : Array Value} {below : List Frame} {meth : Method} {c : Code} {hh : List (Nat × Nat × Nat × Nat)}
    (B : BodyLoose p l y S cc maxL ret e s m args below meth c s₁) (h : (Cond.codeWith y bytes maxL' ret' hh).before args s = true) : c.exceptionTable.toList = tableOf hh := by
  obtain ⟨m9, meth9, c9, hn9, h1, h2, -, -, h6, -⟩ := Cond.codeWith_spec h
  cases Option.some.inj (hn9.symm.trans B.named)
  cases Option.some.inj (h1.symm.trans B.method)
  cases Option.some.inj (h2.symm.trans (Stand.of_body B).code)
  rw [← h6, table_eq]
end Bodies
end VXA
/-! ===== END ===== -/
/-! ===== BEGIN a static call of a method with an exception table ===== -/
section VXS
variable {p : Program} {l : Launch} {e : Env} {R : Room} {s : State} {m : MethodId} {args : Array Value} {below : List Frame} {meth : Method} {c : Code} {T : State} {H : Heap} {locs : List Loc} {cells slots : Nat}
abbrev vx_CSW (R : Room) (s : State) (args : Array Value) (own : String) (index : Nat) (y : MethodName) (bytes : ByteArray) (maxL : Nat) (ret : Option FieldType) (hh : List (Nat × Nat × Nat × Nat)) (ws : List Cond) (rm : Room) (mc ms n : Nat) : Prop :=
  (rm.cells = mc ∧ rm.slots = ms ∧ rm.frames + 1 ≤ R.frames ∧ 8 + (maxL + 11) + rm.locals ≤ R.locals ∧ (∀ w ∈ ws, ∀ (a' : Array Value) (U : State), s.WarmedH U.vm → w.before a' U = true) ∧ Cond.codeWith y bytes maxL ret hh ∈ ws) ∧
  (Cond.codeWith y bytes maxL ret hh).before args s = true ∧ (Cond.initialized y.cls).before args s = true ∧ (y.cls ≠ "java/lang/invoke/MethodHandle" ∧ y.cls ≠ "java/lang/invoke/VarHandle") ∧
  (∀ sig, parseMethodDescriptor y.desc = some sig → n = sig.parameters.length) ∧ (Cond.methodLink own index y).before args s = true ∧ (Cond.static y).before args s = true
theorem vx_cwSW {own : String} {index maxL mc ms : Nat} {y : MethodName} {bytes : ByteArray} {ret : Option FieldType} {hh : List (Nat × Nat × Nat × Nat)} {Ts ws ws' : List Cond} {rm : Room} (n : Nat) (ht : ∀ w ∈ Ts, w.before args s = true) (hT : GoodIn Ts (va_wsS own index y ws)) (hw : ws = Cond.codeWith y bytes maxL ret hh :: ws') (hrc : rm.cells = mc) (hrs : rm.slots = ms)
    (hd : y.cls ≠ "java/lang/invoke/MethodHandle" ∧ y.cls ≠ "java/lang/invoke/VarHandle" ∧ (parseMethodDescriptor y.desc).map (fun d => d.parameters.length) = some n) (hR : rm.frames + 1 ≤ R.frames ∧ 8 + (maxL + 11) + rm.locals ≤ R.locals) :
    vx_CSW R s args own index y bytes maxL ret hh ws rm mc ms n := by
  have ok : ∀ w ∈ va_wsS own index y ws, w.before args s = true := fun w h => ht w (hT w h).1
  have hG : GoodIn Ts ws := fun w h => hT w (by unfold va_wsS; exact List.mem_append_right _ h)
  have hc : Cond.codeWith y bytes maxL ret hh ∈ ws := by rw [hw]; exact List.mem_cons_self
  refine ⟨⟨hrc, hrs, hR.1, hR.2, pay_in ht hG, hc⟩, ht _ (hG _ hc).1, ok _ (by simp [va_wsS]), ⟨hd.1, hd.2.1⟩, fun sig h => ?_, ok _ (by simp [va_wsS]), ok _ (by simp [va_wsS])⟩
  have h2 := hd.2.2
  rw [h] at h2
  exact (Option.some.inj h2).symm
theorem vx_callSW (X : Stand p l e R s m args below meth c T locs cells slots) (hexec : p.tables.exec = Jvm.exec) {own : String} {index : Nat} {y : MethodName} {bytes : ByteArray} {maxL : Nat} {ret : Option FieldType} {hh : List (Nat × Nat × Nat × Nat)}
    (hown : s.vm.findClass own = some m.cls) (hlink : (Cond.methodLink own index y).before args s = true) (hstat : (Cond.static y).before args s = true) (hinit : (Cond.initialized y.cls).before args s = true)
    (hcode : (Cond.codeWith y bytes maxL ret hh).before args s = true) (hy : y.cls ≠ "java/lang/invoke/MethodHandle" ∧ y.cls ≠ "java/lang/invoke/VarHandle")
    {W9 : Nat} {Pre : Pt → Array Value → Prop} {Post : Pt → Array Value → Option Value → Pt → Prop} (hK : Back l R p e below s args y 3 W9 Pre Post)
    {g : JFrame} (hg : g.method = m) (hsize : g.locals.size = c.maxLocals) {argsL rest : List Value} (hlen : ∀ sig, parseMethodDescriptor y.desc = some sig → argsL.length = sig.parameters.length)
    (hstack : g.stack = argsL.reverse ++ rest) (hW : 2 * g.monitorRoom + (rest.map fun v => v.category).sum ≤ W9) (hdg : decode c.code g.pc = .ok (.invokestatic index, 3))
    (hpre : ∀ vm₁, s.WarmedH vm₁ → Pre ⟨T.setVm vm₁, locs, cells, slots⟩ argsL.toArray) :
    ∃ (v : Option Value) (vm₁ : Vm) (B : Pt), s.WarmedH vm₁ ∧ Stand p l e R s m args below meth c B.U B.locs B.cells B.slots ∧ Post ⟨T.setVm vm₁, locs, cells, slots⟩ argsL.toArray v B ∧
      ∀ target, Steps p.tables e below (B.U.setTop { g with pc := g.pc + 3, stack := v.toList ++ rest }) target → Steps p.tables e below (T.setTop g) target := by
  obtain ⟨mk, methM, cM, hnamed, hmethM, -, -, -, -, -, -, hsigM⟩ := Cond.codeWith_spec hcode
  have hstatic : methM.isStatic = true := Cond.static_spec hnamed hmethM hstat
  obtain ⟨kP, hkP, -⟩ := className_of_methodNamed hnamed
  have hinitP : kP.init = .initialized := Cond.initialized_spec (findClass_of_methodNamed hnamed) hkP hinit
  obtain ⟨vm₁, X₁, hstep₁⟩ := X.invokestatic hexec hown hlink hnamed hmethM hstatic hkP hinitP hy (g := g) hg (argsL := argsL) (rest := rest) (hlen _ hsigM) hstack hdg
  obtain ⟨v, B, X', hpost, hsteps⟩ := hK m meth c ⟨T.setVm vm₁, locs, cells, slots⟩ { g with stack := rest } (.invokestatic index) mk argsL.toArray X₁ hg hsize hdg hW (X₁.named hnamed) (hpre vm₁ X₁.warmed)
  exact ⟨v, vm₁, B, X₁.warmed, X', hpost, fun target h => hstep₁ _ fun acts => by rw [doInvoke_state]; exact hsteps.trans h⟩
theorem vx_runSW {y : MethodName} {bytes cc : ByteArray} {maxL nL mc ms n index : Nat} {ret : Option FieldType} {hh : List (Nat × Nat × Nat × Nat)} {ws : List Cond} {rm : Room} {Pc : Array Value → State → Prop} {Qc : Array Value → State → Outcome → State → Prop} {free : Addr → Prop} {Ts : List Cond} {own : String} {As rest : List Value} {g : JFrame}
    (S : CallFix p m c cc nL s args Ts own) (hM : Met l y ws rm Pc Qc mc ms free) (cw : vx_CSW R s args own index y bytes maxL ret hh ws rm mc ms n) (hp : PreS s H Pc As)
    (hg : g.method = m) (hn : As.length = n) (hsize : g.locals.size = nL) (hstack : g.stack = As.reverse ++ rest) (hW : 2 * g.monitorRoom + (rest.map fun v => v.category).sum ≤ 8) (hdg : decode cc g.pc = .ok (.invokestatic index, 3)) (hf : cells + mc ≤ R.cells ∧ slots + ms ≤ R.slots) :
    va_Run p l e R s m args below meth c H locs cells slots mc ms g rest (Qc As.toArray) (free) := by
  obtain ⟨⟨hrc, hrs, hfr, hlo, hws, hcw⟩, hcode, hini, hy, hlen, hl, hstt⟩ := cw
  have hK : Back l R p e below s args y 3 8 (PreOf R mc ms Pc) (PostOf Qc mc ms free) := va_backW (hh := hh) (bytes := bytes) (maxL := maxL) (ret := ret) hM hp.1 hrc hrs hfr hlo hws hcw (fun a' U hW => word_at hW (Or.inl (by first | rfl | simp [Cond.onTables, Cond.keeps, Cond.steady])) hini)
  obtain ⟨hx, hb, hml, ho, -⟩ := S
  intro T hT X
  obtain ⟨v, vm₁, ⟨U', l2, c2, s2⟩, hW₁, X', ⟨g', mk, t, L, e1, e2, hq, h1, hL, h2, h3⟩, st⟩ := vx_callSW X hx (hh := hh) (bytes := bytes) (maxL := maxL) (ret := ret) ho hl hstt hini hcode hy hK hg (hsize.trans hml.symm) (argsL := As) (rest := rest) (fun sig h => hn.trans (hlen sig h)) hstack hW (by rw [hb]; exact hdg)
    (fun vm₁ hW₁ => ⟨hf.1, hf.2, hp.2 (T.setVm vm₁) hT hW₁⟩)
  dsimp only [Pt.U, Pt.locs, Pt.cells, Pt.slots] at X' e1 e2 h1 h2 h3 st
  subst h1; subst h2; subst h3
  exact ⟨v, (T.setVm vm₁).calling g' mk As.toArray, t, U', L, hT, X', hL, e1, e2, hq, st⟩
/-- not caught here, past rows that name other classes: it goes on to the caller -/
theorem vx_outP {p : Program} {l : Launch} {e : Env} {R : Room} {s : State} {m : MethodId} {args : Array Value} {below : List Frame} {meth : Method} {c : Code} {H : Heap} {locs : List Loc} {cells slots : Nat} {free : Addr → Prop} {ls : Array Slot} {rest : List Value} {Qc : Array Value → State → Outcome → State → Prop} {XC : String → State → State → Prop}
    {pc : Nat} {own E : String} {ce : Cell} {q : Addr} {mc ms : Nat} (hown : s.vm.findClass own = some m.cls) (hlocks : meth.locks = false)
    (hpass : ∀ z ∈ c.exceptionTable.toList, covers z pc = false ∨ (z.catchType ≠ 0 ∧ ∃ nm : String, (Cond.classLink own z.catchType nm).before args s = true ∧ va_Nc E nm s)) (hcell : H[q]? = some ce) (hv : ce.vm = .none) (hcl : s.vm.findClass E = some ce.cls)
    (hx : ∀ t : State, t.heap = H → s.vm.Alike t.vm → XC E s t) (hf : ∀ z ∈ locs, free z.base) (hc : cells ≤ mc) (hs : slots ≤ ms) :
    vx_W p l e R s m args below meth c H locs cells slots (vx_MQ below Qc XC args s mc ms free) (F0 m pc ls rest) q := by
  intro T hT X
  have hpl : e.platform.magicAccessors = ({} : Platform).magicAccessors := by rw [X.admits.platform]
  obtain ⟨vm', hW', X', st⟩ := X.outThrough hlocks q (g := F0 m pc ls rest) rfl rfl rfl (cell := ce) (by rw [hT]; exact hcell) (by rw [hv]; rfl)
    (by obtain ⟨k9, h9, -⟩ := Vm.findClass_spec hcl; exact ⟨k9, h9⟩) (fun z hz => by
      rcases hpass z hz with h | ⟨hz0, nm, hl1, hn1⟩
      · exact Or.inl h
      · obtain ⟨c6, hc6, hcl6⟩ := Cond.classLink_spec hown hl1 e.platform hpl
        obtain ⟨a8, b8, h1, h2, h3⟩ := hn1
        cases Option.some.inj (h1.symm.trans hcl)
        cases Option.some.inj (h2.symm.trans hc6)
        exact Or.inr ⟨hz0, _, hcl6, h3⟩)
  obtain ⟨g₀, hfr⟩ := X'.frames_eq
  have hcell9 : ((T.setVm vm').setFrames (.throwing q :: below)).heap[q]? = some ce := by
    show T.heap[q]? = some ce
    rw [hT]; exact hcell
  have hend : Ended ((T.setVm vm').setFrames (.throwing q :: below)) below (.threw q) := State.frames_setFrames _ (State.cur_lt_of_frames hfr)
  refine ⟨(T.setVm vm').setFrames (.throwing q :: below), ?_, .threw q, X'.here.running, hend, Or.inr ⟨q, rfl, E, ce, locs, hx _ hT (X'.ends _).1.alike, hcell9, hv, hcl, (X'.ends _).1, (X'.ends _).2.mono hc hs, hf⟩⟩
  rw [X.pushThrowing_eq]
  exact st
/-- a thing of a world lies in the heap -/
theorem vx_lt {D : va_G} {cl : List vw_C} {ws : va_W} {H1 : Heap} (h : va_P D cl ws H1) {k : Nat} {q : Nat × va_E} (hk : ws[k]? = some q) : q.1 < H1.size := (h k q hk).lt
end VXS
/-! ===== END ===== -/
/-! ===== BEGIN methods with a table of their own: called by a name, returning or throwing ===== -/
section VXH
/-! vx_backW, vx_callVX, vx_callSX, vx_callVW, vx_runVW, vx_runVX, vx_runSX, vx_ofWH follow the same proofs as their sisters above (Free/Laws.lean, Shelf42/LK1.lean); vx_outP calls Shelf42/NT130.lean (outThrough). -/
section
variable {l : Launch} {R : Room} {p : Program} {e : Env} {below : List Frame} {s : State} {sargs : Array Value} {y : MethodName} {len W9 : Nat}
theorem vx_backW {ws : List Cond} {rm : Room} {Pc : Array Value → State → Prop} {Qc : Array Value → State → Outcome → State → Prop} {XC : String → State → State → Prop} {mc ms : Nat} {free : Addr → Prop} {bytes : ByteArray} {maxL : Nat} {ret : Option FieldType} {hh : List (Nat × Nat × Nat × Nat)}
    (hM : vx_Met l y ws rm Pc Qc XC mc ms free) (hblind : FrameBlind Pc) (hrc : rm.cells = mc) (hrs : rm.slots = ms)
    (hframes : rm.frames + 1 ≤ R.frames) (hlocals : W9 + (maxL + 11) + rm.locals ≤ R.locals)
    (hws : ∀ w ∈ ws, ∀ a' U, s.WarmedH U.vm → w.before a' U = true) (hcode : Cond.codeWith y bytes maxL ret hh ∈ ws) (hinit : ∀ a' U, s.WarmedH U.vm → (Cond.initialized y.cls).before a' U = true) :
    vx_Back l R p e below s sargs y len W9 (PreOf R mc ms Pc) (PostOf Qc mc ms free) (vx_Post XC mc ms free) := by
  intro m meth c A g ig mk a X hg hsize hdg hW hn hp
  have h1 : (headSpec ws rm).pre.before a A.U = true := atoms_intro fun w hw => hws w hw _ _ X.warmed
  have h2 : (Cond.codeWith y bytes maxL ret hh).before a A.U = true := hws _ hcode _ _ X.warmed
  have h3 : (Cond.initialized y.cls).before a A.U = true := hinit _ _ X.warmed
  have h4 : A.cells + (headSpec ws rm).room.cells ≤ R.cells := by rw [show (headSpec ws rm).room.cells = mc from hrc]; exact hp.1
  have h5 : A.slots + (headSpec ws rm).room.slots ≤ R.slots := by rw [show (headSpec ws rm).room.slots = ms from hrs]; exact hp.2.1
  have hPc : Pc a (A.U.calling g mk a) := hblind _ _ _ _ hp.2.2
  obtain ⟨U, Ls, c0, s0⟩ := A
  dsimp only [Pt.U, Pt.locs, Pt.cells, Pt.slots] at h1 h2 h3 h4 h5 X hn hPc ⊢
  obtain ⟨m9, methY, cY, hn9, hmY, hcY, -, hlY, -⟩ := Cond.codeWith_spec h2
  cases Option.some.inj (hn9.symm.trans hn)
  obtain ⟨kY, hkY, -⟩ := className_of_methodNamed hn
  have hinitY : kY.init = .initialized := Cond.initialized_spec (findClass_of_methodNamed hn) hkY h3
  have h : At U g.method c below := by rw [hg]; exact X.here
  have hlocals9 : W9 + (maxL + 11) + (headSpec ws rm).room.locals ≤ R.locals := hlocals
  have happ : (headSpec ws rm).appliesLoose y e.platform (U.calling g mk a) = true :=
    Spec.appliesLoose_calling (g := g) h hdg hn hkY hinitY
      (X.room_calling (g := g) (R' := (headSpec ws rm).room) hsize hmY hcY hframes (by rw [hlY]; omega) h4 h5) h1
  obtain ⟨mid, hmid⟩ := h.above
  have hfr : (U.setTop g).frames = (.java g :: mid) ++ below := by rw [State.frames_setTop' g h.top, hmid]; rfl
  obtain ⟨o, s₂, hsteps, -, hend, hq⟩ := Steps.callFree hM p X.admits X.cas X.clock (acts := []) hfr happ hPc trivial
  have hq' : vx_Q Qc XC mc ms free a (U.calling g mk a) o s₂ := hq
  rw [State.frames_setTop' g h.top] at hend
  obtain ⟨g₀, hg0⟩ := Option.isSome_iff_exists.mp h.top
  obtain ⟨r, hr⟩ := State.topJava?_eq_some.mp hg0
  have hr' : (({ U with heap := s₂.heap, slotsUsed := s₂.slotsUsed } : State).setVm s₂.vm).frames = .java g₀ :: r := hr
  rcases hq' with ⟨hqc, L, hfe, hL⟩ | ⟨q, rfl, E, ce, L, hx, hce, hcv, hcl, hW₂, hsm, hL⟩
  · obtain ⟨⟨v, rfl⟩, hW₂, e2, q2, q3, q4, q5, q6⟩ := id hfe
    have e3 : s₂ = ({ (U.calling g mk a).setFrames s₂.frames with heap := s₂.heap, slotsUsed := s₂.slotsUsed } : State).setVm s₂.vm := by
      have : s₂ = ({ s₂ with vm := (U.calling g mk a).vm } : State).setVm s₂.vm := rfl
      rw [e2] at this
      exact this
    obtain ⟨c₂, i₂, len₂, hc₂, hd₂, hf₂⟩ := hend
    have hW' : U.WarmedH s₂.vm := hW₂
    have hcc : c₂ = c := by
      have h1 : s₂.code? g.method = U.code? g.method := by
        rw [State.code?_eq, State.code?_eq, hW'.alike.method?]
      exact Option.some.inj (hc₂.symm.trans (h1.trans h.code))
    subst hcc
    have hlen : len₂ = len := by rw [hdg] at hd₂; cases hd₂; rfl
    subst hlen
    have hs₂ : s₂ = (({ U with heap := s₂.heap, slotsUsed := s₂.slotsUsed } : State).setVm s₂.vm).setTop { g with pc := g.pc + len₂, stack := v.toList ++ g.stack } := by
      refine e3.trans ?_
      rw [hf₂, State.calling_eq h.top, State.setFrames_setFrames, State.setTop_of_frames _ hr', hr]
      rfl
    have hsame : U.sameButNew ({ U with heap := s₂.heap, slotsUsed := s₂.slotsUsed } : State) L mc ms := by
      refine ⟨?_, q2, q3, q4, q5, q6⟩
      obtain ⟨t, ht, -⟩ := State.frames_cons hr
      show ({ U with heap := s₂.heap, slotsUsed := s₂.slotsUsed } : State) = { U.setFrames U.frames with heap := s₂.heap, slotsUsed := s₂.slotsUsed }
      rw [State.setFrames_self ht]
    subst hg
    refine Or.inl ⟨v, ⟨(({ U with heap := s₂.heap, slotsUsed := s₂.slotsUsed } : State).setVm s₂.vm), Ls ++ L, c0 + mc, s0 + ms⟩,
      ⟨X.admits, X.cas, X.clock, X.frames, X.room, X.hears, X.method, X.code, (X.here.setHeapUsed s₂.heap s₂.slotsUsed).setVm hW'.alike, X.tail, State.WarmedH.trans X.warmed hW', X.limits, X.bytes, X.same.trans (hsame.setVm s.vm)⟩,
      ⟨g, mk, s₂, L, rfl, rfl, hqc, rfl, hL, rfl, rfl⟩, ?_⟩
    show Steps p.tables e below _ ((({ U with heap := s₂.heap, slotsUsed := s₂.slotsUsed } : State).setVm s₂.vm).setTop { g with pc := g.pc + len₂, stack := v.toList ++ g.stack })
    rw [← hs₂]
    exact hsteps
  · obtain ⟨e2, q2, q3, q4, q5, q6⟩ := id hsm
    have e3 : s₂ = ({ (U.calling g mk a).setFrames s₂.frames with heap := s₂.heap, slotsUsed := s₂.slotsUsed } : State).setVm s₂.vm := by
      have : s₂ = ({ s₂ with vm := (U.calling g mk a).vm } : State).setVm s₂.vm := rfl
      rw [e2] at this
      exact this
    have hf₂ : s₂.frames = .throwing q :: .java g :: U.frames.tail := hend
    have hW' : U.WarmedH s₂.vm := hW₂
    have hs₂ : s₂ = ((({ U with heap := s₂.heap, slotsUsed := s₂.slotsUsed } : State).setVm s₂.vm).setTop g).pushFrame (.throwing q) := by
      refine e3.trans ?_
      rw [hf₂, State.calling_eq h.top, State.setFrames_setFrames, State.pushFrame, State.frames_setTop _ hr', State.setTop_of_frames _ hr', State.setFrames_setFrames, hr]
      rfl
    have hsame : U.sameButNew ({ U with heap := s₂.heap, slotsUsed := s₂.slotsUsed } : State) L mc ms := by
      refine ⟨?_, q2, q3, q4, q5, q6⟩
      obtain ⟨t, ht, -⟩ := State.frames_cons hr
      show ({ U with heap := s₂.heap, slotsUsed := s₂.slotsUsed } : State) = { U.setFrames U.frames with heap := s₂.heap, slotsUsed := s₂.slotsUsed }
      rw [State.setFrames_self ht]
    subst hg
    refine Or.inr ⟨q, ⟨(({ U with heap := s₂.heap, slotsUsed := s₂.slotsUsed } : State).setVm s₂.vm), Ls ++ L, c0 + mc, s0 + ms⟩,
      ⟨X.admits, X.cas, X.clock, X.frames, X.room, X.hears, X.method, X.code, (X.here.setHeapUsed s₂.heap s₂.slotsUsed).setVm hW'.alike, X.tail, State.WarmedH.trans X.warmed hW', X.limits, X.bytes, X.same.trans (hsame.setVm s.vm)⟩,
      ⟨g, mk, s₂, L, E, ce, rfl, rfl, hx, hce, hcv, hcl, rfl, hL, rfl, rfl⟩, ?_⟩
    show Steps p.tables e below _ (((({ U with heap := s₂.heap, slotsUsed := s₂.slotsUsed } : State).setVm s₂.vm).setTop g).pushFrame (.throwing q))
    rw [← hs₂]
    exact hsteps
end
variable {p : Program} {l : Launch} {e : Env} {R : Room} {s : State} {m : MethodId} {args : Array Value} {below : List Frame} {meth : Method} {c : Code} {T : State} {H : Heap} {locs : List Loc} {cells slots : Nat}
theorem vx_callVX (X : Stand p l e R s m args below meth c T locs cells slots) (hexec : p.tables.exec = Jvm.exec) {own C : String} {index : Nat} {y : MethodName} {bytes : ByteArray} {maxL : Nat} {ret : Option FieldType} {hh : List (Nat × Nat × Nat × Nat)}
    (hown : s.vm.findClass own = some m.cls) (hlink : (Cond.methodLink own index y).before args s = true) (hinst : (Cond.instanceMethod y).before args s = true) (hsel : (Cond.selects C y y).before args s = true)
    (hcode : (Cond.codeWith y bytes maxL ret hh).before args s = true) (hy : y.cls ≠ "java/lang/invoke/MethodHandle" ∧ y.cls ≠ "java/lang/invoke/VarHandle")
    {W9 : Nat} {Pre : Pt → Array Value → Prop} {Post : Pt → Array Value → Option Value → Pt → Prop} {PostX : Pt → Array Value → Addr → Pt → Prop} (hK : vx_Back l R p e below s args y 3 W9 Pre Post PostX)
    {b : Addr} {cellB : Cell} (hcell : T.heap[b]? = some cellB) (hobj : cellB.vm.isStatics = false) (hcls : s.vm.findClass C = some cellB.cls)
    {g : JFrame} (hg : g.method = m) (hsize : g.locals.size = c.maxLocals) {argsL rest : List Value} (hlen : ∀ sig, parseMethodDescriptor y.desc = some sig → argsL.length = sig.parameters.length)
    (hstack : g.stack = argsL.reverse ++ .ref b :: rest) (hW : 2 * g.monitorRoom + (rest.map fun v => v.category).sum ≤ W9) (hdg : decode c.code g.pc = .ok (.invokevirtual index, 3))
    (hpre : ∀ vm₁, s.WarmedH vm₁ → Pre ⟨T.setVm vm₁, locs, cells, slots⟩ (Value.ref b :: argsL).toArray) :
    (∃ (v : Option Value) (vm₁ : Vm) (B : Pt), s.WarmedH vm₁ ∧ Stand p l e R s m args below meth c B.U B.locs B.cells B.slots ∧ Post ⟨T.setVm vm₁, locs, cells, slots⟩ (Value.ref b :: argsL).toArray v B ∧
      ∀ target, Steps p.tables e below (B.U.setTop { g with pc := g.pc + 3, stack := v.toList ++ rest }) target → Steps p.tables e below (T.setTop g) target) ∨
    (∃ (q : Addr) (vm₁ : Vm) (B : Pt), s.WarmedH vm₁ ∧ Stand p l e R s m args below meth c B.U B.locs B.cells B.slots ∧ PostX ⟨T.setVm vm₁, locs, cells, slots⟩ (Value.ref b :: argsL).toArray q B ∧
      Steps p.tables e below (T.setTop g) ((B.U.setTop { g with stack := rest }).pushFrame (.throwing q))) := by
  obtain ⟨mk, methM, hnamed, hmethM, hstM, habM⟩ := Cond.instanceMethod_spec hinst
  obtain ⟨m8, methM', cM, hn8, hmethM', -, -, -, -, -, -, hsigM⟩ := Cond.codeWith_spec hcode
  cases Option.some.inj (hn8.symm.trans hnamed)
  cases hmethM.symm.trans hmethM'
  obtain ⟨c2, r2, m2, q1, q2, q3, q4, kP, hkP, hkPi⟩ := Cond.selects_spec hsel
  cases hcls.symm.trans q1
  cases (State.methodFound?_of_named hnamed hy).symm.trans q2
  cases hnamed.symm.trans q3
  have hselP : selectMethod e.platform s.vm cellB.cls mk = .method mk := by rw [Launch.admits_selectMethod X.admits]; exact q4
  obtain ⟨vm₁, X₁, hstep₁⟩ := X.invokevirtual hexec hown hlink hnamed hmethM hstM hkP hkPi hy (a := b) (cell := cellB) hcell
    (fun z h => by rw [h] at hobj; cases hobj) hselP hmethM habM hkP hkPi (g := g) hg (argsL := argsL) (rest := rest) (hlen _ hsigM) hstack hdg
  rcases hK m meth c ⟨T.setVm vm₁, locs, cells, slots⟩ { g with stack := rest } (.invokevirtual index) mk (Value.ref b :: argsL).toArray X₁ hg hsize hdg hW (X₁.named hnamed) (hpre vm₁ X₁.warmed) with ⟨v, B, X', hpost, hsteps⟩ | ⟨q, B, X', hpost, hsteps⟩
  · exact Or.inl ⟨v, vm₁, B, X₁.warmed, X', hpost, fun target h => hstep₁ _ fun acts => by rw [doInvoke_state]; exact hsteps.trans h⟩
  · exact Or.inr ⟨q, vm₁, B, X₁.warmed, X', hpost, hstep₁ _ fun acts => by rw [doInvoke_state]; exact hsteps⟩
theorem vx_callSX (X : Stand p l e R s m args below meth c T locs cells slots) (hexec : p.tables.exec = Jvm.exec) {own : String} {index : Nat} {y : MethodName} {bytes : ByteArray} {maxL : Nat} {ret : Option FieldType} {hh : List (Nat × Nat × Nat × Nat)}
    (hown : s.vm.findClass own = some m.cls) (hlink : (Cond.methodLink own index y).before args s = true) (hstat : (Cond.static y).before args s = true) (hinit : (Cond.initialized y.cls).before args s = true)
    (hcode : (Cond.codeWith y bytes maxL ret hh).before args s = true) (hy : y.cls ≠ "java/lang/invoke/MethodHandle" ∧ y.cls ≠ "java/lang/invoke/VarHandle")
    {W9 : Nat} {Pre : Pt → Array Value → Prop} {Post : Pt → Array Value → Option Value → Pt → Prop} {PostX : Pt → Array Value → Addr → Pt → Prop} (hK : vx_Back l R p e below s args y 3 W9 Pre Post PostX)
    {g : JFrame} (hg : g.method = m) (hsize : g.locals.size = c.maxLocals) {argsL rest : List Value} (hlen : ∀ sig, parseMethodDescriptor y.desc = some sig → argsL.length = sig.parameters.length)
    (hstack : g.stack = argsL.reverse ++ rest) (hW : 2 * g.monitorRoom + (rest.map fun v => v.category).sum ≤ W9) (hdg : decode c.code g.pc = .ok (.invokestatic index, 3))
    (hpre : ∀ vm₁, s.WarmedH vm₁ → Pre ⟨T.setVm vm₁, locs, cells, slots⟩ argsL.toArray) :
    (∃ (v : Option Value) (vm₁ : Vm) (B : Pt), s.WarmedH vm₁ ∧ Stand p l e R s m args below meth c B.U B.locs B.cells B.slots ∧ Post ⟨T.setVm vm₁, locs, cells, slots⟩ argsL.toArray v B ∧
      ∀ target, Steps p.tables e below (B.U.setTop { g with pc := g.pc + 3, stack := v.toList ++ rest }) target → Steps p.tables e below (T.setTop g) target) ∨
    (∃ (q : Addr) (vm₁ : Vm) (B : Pt), s.WarmedH vm₁ ∧ Stand p l e R s m args below meth c B.U B.locs B.cells B.slots ∧ PostX ⟨T.setVm vm₁, locs, cells, slots⟩ argsL.toArray q B ∧
      Steps p.tables e below (T.setTop g) ((B.U.setTop { g with stack := rest }).pushFrame (.throwing q))) := by
  obtain ⟨mk, methM, cM, hnamed, hmethM, -, -, -, -, -, -, hsigM⟩ := Cond.codeWith_spec hcode
  have hstatic : methM.isStatic = true := Cond.static_spec hnamed hmethM hstat
  obtain ⟨kP, hkP, -⟩ := className_of_methodNamed hnamed
  have hinitP : kP.init = .initialized := Cond.initialized_spec (findClass_of_methodNamed hnamed) hkP hinit
  obtain ⟨vm₁, X₁, hstep₁⟩ := X.invokestatic hexec hown hlink hnamed hmethM hstatic hkP hinitP hy (g := g) hg (argsL := argsL) (rest := rest) (hlen _ hsigM) hstack hdg
  rcases hK m meth c ⟨T.setVm vm₁, locs, cells, slots⟩ { g with stack := rest } (.invokestatic index) mk argsL.toArray X₁ hg hsize hdg hW (X₁.named hnamed) (hpre vm₁ X₁.warmed) with ⟨v, B, X', hpost, hsteps⟩ | ⟨q, B, X', hpost, hsteps⟩
  · exact Or.inl ⟨v, vm₁, B, X₁.warmed, X', hpost, fun target h => hstep₁ _ fun acts => by rw [doInvoke_state]; exact hsteps.trans h⟩
  · exact Or.inr ⟨q, vm₁, B, X₁.warmed, X', hpost, hstep₁ _ fun acts => by rw [doInvoke_state]; exact hsteps⟩
theorem vx_callVW (X : Stand p l e R s m args below meth c T locs cells slots) (hexec : p.tables.exec = Jvm.exec) {own C : String} {index : Nat} {y : MethodName} {bytes : ByteArray} {maxL : Nat} {ret : Option FieldType} {hh : List (Nat × Nat × Nat × Nat)}
    (hown : s.vm.findClass own = some m.cls) (hlink : (Cond.methodLink own index y).before args s = true) (hinst : (Cond.instanceMethod y).before args s = true) (hsel : (Cond.selects C y y).before args s = true)
    (hcode : (Cond.codeWith y bytes maxL ret hh).before args s = true) (hy : y.cls ≠ "java/lang/invoke/MethodHandle" ∧ y.cls ≠ "java/lang/invoke/VarHandle")
    {W9 : Nat} {Pre : Pt → Array Value → Prop} {Post : Pt → Array Value → Option Value → Pt → Prop} (hK : Back l R p e below s args y 3 W9 Pre Post)
    {b : Addr} {cellB : Cell} (hcell : T.heap[b]? = some cellB) (hobj : cellB.vm.isStatics = false) (hcls : s.vm.findClass C = some cellB.cls)
    {g : JFrame} (hg : g.method = m) (hsize : g.locals.size = c.maxLocals) {argsL rest : List Value} (hlen : ∀ sig, parseMethodDescriptor y.desc = some sig → argsL.length = sig.parameters.length)
    (hstack : g.stack = argsL.reverse ++ .ref b :: rest) (hW : 2 * g.monitorRoom + (rest.map fun v => v.category).sum ≤ W9) (hdg : decode c.code g.pc = .ok (.invokevirtual index, 3))
    (hpre : ∀ vm₁, s.WarmedH vm₁ → Pre ⟨T.setVm vm₁, locs, cells, slots⟩ (Value.ref b :: argsL).toArray) :
    ∃ (v : Option Value) (vm₁ : Vm) (B : Pt), s.WarmedH vm₁ ∧ Stand p l e R s m args below meth c B.U B.locs B.cells B.slots ∧ Post ⟨T.setVm vm₁, locs, cells, slots⟩ (Value.ref b :: argsL).toArray v B ∧
      ∀ target, Steps p.tables e below (B.U.setTop { g with pc := g.pc + 3, stack := v.toList ++ rest }) target → Steps p.tables e below (T.setTop g) target := by
  obtain ⟨mk, methM, hnamed, hmethM, hstM, habM⟩ := Cond.instanceMethod_spec hinst
  obtain ⟨m8, methM', cM, hn8, hmethM', -, -, -, -, -, -, hsigM⟩ := Cond.codeWith_spec hcode
  cases Option.some.inj (hn8.symm.trans hnamed)
  cases hmethM.symm.trans hmethM'
  obtain ⟨c2, r2, m2, q1, q2, q3, q4, kP, hkP, hkPi⟩ := Cond.selects_spec hsel
  cases hcls.symm.trans q1
  cases (State.methodFound?_of_named hnamed hy).symm.trans q2
  cases hnamed.symm.trans q3
  have hselP : selectMethod e.platform s.vm cellB.cls mk = .method mk := by rw [Launch.admits_selectMethod X.admits]; exact q4
  obtain ⟨vm₁, X₁, hstep₁⟩ := X.invokevirtual hexec hown hlink hnamed hmethM hstM hkP hkPi hy (a := b) (cell := cellB) hcell
    (fun z h => by rw [h] at hobj; cases hobj) hselP hmethM habM hkP hkPi (g := g) hg (argsL := argsL) (rest := rest) (hlen _ hsigM) hstack hdg
  obtain ⟨v, B, X', hpost, hsteps⟩ := hK m meth c ⟨T.setVm vm₁, locs, cells, slots⟩ { g with stack := rest } (.invokevirtual index) mk (Value.ref b :: argsL).toArray X₁ hg hsize hdg hW (X₁.named hnamed) (hpre vm₁ X₁.warmed)
  exact ⟨v, vm₁, B, X₁.warmed, X', hpost, fun target h => hstep₁ _ fun acts => by rw [doInvoke_state]; exact hsteps.trans h⟩
abbrev vx_CVW (R : Room) (s : State) (args : Array Value) (own C : String) (index : Nat) (y : MethodName) (bytes : ByteArray) (maxL : Nat) (ret : Option FieldType) (hh : List (Nat × Nat × Nat × Nat)) (ws : List Cond) (rm : Room) (mc ms n : Nat) : Prop :=
  (rm.cells = mc ∧ rm.slots = ms ∧ rm.frames + 1 ≤ R.frames ∧ 8 + (maxL + 11) + rm.locals ≤ R.locals ∧ (∀ w ∈ ws, ∀ (a' : Array Value) (U : State), s.WarmedH U.vm → w.before a' U = true) ∧ Cond.codeWith y bytes maxL ret hh ∈ ws) ∧
  (Cond.codeWith y bytes maxL ret hh).before args s = true ∧ (Cond.initialized y.cls).before args s = true ∧ (y.cls ≠ "java/lang/invoke/MethodHandle" ∧ y.cls ≠ "java/lang/invoke/VarHandle") ∧
  (∀ sig, parseMethodDescriptor y.desc = some sig → n = sig.parameters.length) ∧ (Cond.methodLink own index y).before args s = true ∧ (Cond.instanceMethod y).before args s = true ∧ (Cond.selects C y y).before args s = true
theorem vx_cwVW {own C : String} {index maxL mc ms : Nat} {y : MethodName} {bytes : ByteArray} {ret : Option FieldType} {hh : List (Nat × Nat × Nat × Nat)} {Ts ws ws' : List Cond} {rm : Room} (n : Nat) (ht : ∀ w ∈ Ts, w.before args s = true) (hT : GoodIn Ts (wsV own index C y ws)) (hw : ws = Cond.codeWith y bytes maxL ret hh :: ws') (hrc : rm.cells = mc) (hrs : rm.slots = ms)
    (hd : y.cls = C ∧ y.cls ≠ "java/lang/invoke/MethodHandle" ∧ y.cls ≠ "java/lang/invoke/VarHandle" ∧ (parseMethodDescriptor y.desc).map (fun d => d.parameters.length) = some n) (hR : rm.frames + 1 ≤ R.frames ∧ 8 + (maxL + 11) + rm.locals ≤ R.locals) :
    vx_CVW R s args own C index y bytes maxL ret hh ws rm mc ms n := by
  obtain ⟨hC, hd⟩ := hd
  subst hC
  have ok : ∀ w ∈ wsV own index y.cls y ws, w.before args s = true := fun w h => ht w (hT w h).1
  have hG : GoodIn Ts ws := fun w h => hT w (by unfold wsV; exact List.mem_append_right _ h)
  have hc : Cond.codeWith y bytes maxL ret hh ∈ ws := by rw [hw]; exact List.mem_cons_self
  refine ⟨⟨hrc, hrs, hR.1, hR.2, pay_in ht hG, hc⟩, ht _ (hG _ hc).1, ok _ (by simp [wsV]), ⟨hd.1, hd.2.1⟩, fun sig h => ?_, ok _ (by simp [wsV]), ok _ (by simp [wsV]), ok _ (by simp [wsV])⟩
  have h2 := hd.2.2
  rw [h] at h2
  exact (Option.some.inj h2).symm
theorem vx_runVW {y : MethodName} {bytes cc : ByteArray} {maxL nL mc ms n index : Nat} {ret : Option FieldType} {hh : List (Nat × Nat × Nat × Nat)} {ws : List Cond} {rm : Room} {Pc : Array Value → State → Prop} {Qc : Array Value → State → Outcome → State → Prop} {free : Addr → Prop} {Ts : List Cond} {own C : String} {b : Addr} {As rest : List Value} {g : JFrame}
    (S : CallFix p m c cc nL s args Ts own) (hM : Met l y ws rm Pc Qc mc ms free) (cw : vx_CVW R s args own C index y bytes maxL ret hh ws rm mc ms n) (hp : PreV s H C b Pc As)
    (hg : g.method = m) (hn : As.length = n) (hsize : g.locals.size = nL) (hstack : g.stack = As.reverse ++ .ref b :: rest) (hW : 2 * g.monitorRoom + (rest.map fun v => v.category).sum ≤ 8) (hdg : decode cc g.pc = .ok (.invokevirtual index, 3)) (hf : cells + mc ≤ R.cells ∧ slots + ms ≤ R.slots) :
    va_Run p l e R s m args below meth c H locs cells slots mc ms g rest (Qc (Value.ref b :: As).toArray) free := by
  obtain ⟨⟨hrc, hrs, hfr, hlo, hws, hcw⟩, hcode, hini, hy, hlen, hl, hin, hse⟩ := cw
  have hK : Back l R p e below s args y 3 8 (PreOf R mc ms Pc) (PostOf Qc mc ms free) := va_backW (hh := hh) (bytes := bytes) (maxL := maxL) (ret := ret) hM hp.1 hrc hrs hfr hlo hws hcw (fun a' U hW => word_at hW (Or.inl (by first | rfl | simp [Cond.onTables, Cond.keeps, Cond.steady])) hini)
  obtain ⟨hx, hb, hml, ho, -⟩ := S
  obtain ⟨-, ⟨cellB, hcB, hoB, hclB⟩, hPc⟩ := hp
  intro T hT X
  obtain ⟨v, vm₁, ⟨U', l2, c2, s2⟩, hW₁, X', ⟨g', mk, t, L, e1, e2, hq, h1, hL, h2, h3⟩, st⟩ := vx_callVW X hx (C := C) (hh := hh) (bytes := bytes) (maxL := maxL) (ret := ret) ho hl hin hse hcode hy hK (by rw [hT]; exact hcB) hoB hclB hg (hsize.trans hml.symm) (argsL := As) (rest := rest) (fun sig h => hn.trans (hlen sig h)) hstack hW (by rw [hb]; exact hdg)
    (fun vm₁ hW₁ => ⟨hf.1, hf.2, hPc (T.setVm vm₁) hT hW₁⟩)
  dsimp only [Pt.U, Pt.locs, Pt.cells, Pt.slots] at X' e1 e2 h1 h2 h3 st
  subst h1; subst h2; subst h3
  exact ⟨v, (T.setVm vm₁).calling g' mk (Value.ref b :: As).toArray, t, U', L, hT, X', hL, e1, e2, hq, st⟩
section
variable {y : MethodName} {bytes cc : ByteArray} {maxL nL mc ms n index : Nat} {ret : Option FieldType} {ws : List Cond} {rm : Room} {Pc : Array Value → State → Prop} {Qc : Array Value → State → Outcome → State → Prop} {XC : String → State → State → Prop} {free : Addr → Prop} {Ts : List Cond} {own C : String} {b : Addr} {As rest : List Value} {g : JFrame}
theorem vx_runVX {hh : List (Nat × Nat × Nat × Nat)} (S : CallFix p m c cc nL s args Ts own) (hM : vx_Met l y ws rm Pc Qc XC mc ms free) (cw : vx_CVW R s args own C index y bytes maxL ret hh ws rm mc ms n) (hp : PreV s H C b Pc As)
    (hg : g.method = m) (hn : As.length = n) (hsize : g.locals.size = nL) (hstack : g.stack = As.reverse ++ .ref b :: rest) (hW : 2 * g.monitorRoom + (rest.map fun v => v.category).sum ≤ 8) (hdg : decode cc g.pc = .ok (.invokevirtual index, 3)) (hf : cells + mc ≤ R.cells ∧ slots + ms ≤ R.slots) :
    vx_Run p l e R s m args below meth c H locs cells slots mc ms g rest (Qc (Value.ref b :: As).toArray) XC free := by
  obtain ⟨⟨hrc, hrs, hfr, hlo, hws, hcw⟩, hcode, hini, hy, hlen, hl, hin, hse⟩ := cw
  have hK : vx_Back l R p e below s args y 3 8 (PreOf R mc ms Pc) (PostOf Qc mc ms free) (vx_Post XC mc ms free) := vx_backW (hh := hh) (bytes := bytes) (maxL := maxL) (ret := ret) hM hp.1 hrc hrs hfr hlo hws hcw (fun a' U hW => word_at hW (Or.inl (by first | rfl | simp [Cond.onTables, Cond.keeps, Cond.steady])) hini)
  obtain ⟨hx, hb, hml, ho, -⟩ := S
  obtain ⟨-, ⟨cellB, hcB, hoB, hclB⟩, hPc⟩ := hp
  intro T hT X
  rcases vx_callVX X hx (C := C) (hh := hh) (bytes := bytes) (maxL := maxL) (ret := ret) ho hl hin hse hcode hy hK (by rw [hT]; exact hcB) hoB hclB hg (hsize.trans hml.symm) (argsL := As) (rest := rest) (fun sig h => hn.trans (hlen sig h)) hstack hW (by rw [hb]; exact hdg)
    (fun vm₁ hW₁ => ⟨hf.1, hf.2, hPc (T.setVm vm₁) hT hW₁⟩) with ⟨v, vm₁, ⟨U', l2, c2, s2⟩, hW₁, X', ⟨g', mk, t, L, e1, e2, hq, h1, hL, h2, h3⟩, st⟩ | ⟨q, vm₁, ⟨U', l2, c2, s2⟩, hW₁, X', ⟨g', mk, t, L, E, ce, e1, e2, hq, hce, hcv, hcl, h1, hL, h2, h3⟩, st⟩
  · dsimp only [Pt.U, Pt.locs, Pt.cells, Pt.slots] at X' e1 e2 h1 h2 h3 st
    subst h1; subst h2; subst h3
    exact Or.inl ⟨v, (T.setVm vm₁).calling g' mk (Value.ref b :: As).toArray, t, U', L, hT, X', hL, e1, e2, hq, st⟩
  · dsimp only [Pt.U, Pt.locs, Pt.cells, Pt.slots] at X' e1 e2 h1 h2 h3 st hcl
    subst h1; subst h2; subst h3
    exact Or.inr ⟨q, (T.setVm vm₁).calling g' mk (Value.ref b :: As).toArray, t, U', L, E, ce, hT, X', hL, e1, e2, hq, hce, hcv, vx_cls hW₁ hcl, st⟩
theorem vx_runSX {hh : List (Nat × Nat × Nat × Nat)} (S : CallFix p m c cc nL s args Ts own) (hM : vx_Met l y ws rm Pc Qc XC mc ms free) (cw : vx_CSW R s args own index y bytes maxL ret hh ws rm mc ms n) (hp : PreS s H Pc As)
    (hg : g.method = m) (hn : As.length = n) (hsize : g.locals.size = nL) (hstack : g.stack = As.reverse ++ rest) (hW : 2 * g.monitorRoom + (rest.map fun v => v.category).sum ≤ 8) (hdg : decode cc g.pc = .ok (.invokestatic index, 3)) (hf : cells + mc ≤ R.cells ∧ slots + ms ≤ R.slots) :
    vx_Run p l e R s m args below meth c H locs cells slots mc ms g rest (Qc As.toArray) XC free := by
  obtain ⟨⟨hrc, hrs, hfr, hlo, hws, hcw⟩, hcode, hini, hy, hlen, hl, hstt⟩ := cw
  have hK : vx_Back l R p e below s args y 3 8 (PreOf R mc ms Pc) (PostOf Qc mc ms free) (vx_Post XC mc ms free) := vx_backW (hh := hh) (bytes := bytes) (maxL := maxL) (ret := ret) hM hp.1 hrc hrs hfr hlo hws hcw (fun a' U hW => word_at hW (Or.inl (by first | rfl | simp [Cond.onTables, Cond.keeps, Cond.steady])) hini)
  obtain ⟨hx, hb, hml, ho, -⟩ := S
  intro T hT X
  rcases vx_callSX X hx (hh := hh) (bytes := bytes) (maxL := maxL) (ret := ret) ho hl hstt hini hcode hy hK hg (hsize.trans hml.symm) (argsL := As) (rest := rest) (fun sig h => hn.trans (hlen sig h)) hstack hW (by rw [hb]; exact hdg)
    (fun vm₁ hW₁ => ⟨hf.1, hf.2, hp.2 (T.setVm vm₁) hT hW₁⟩) with ⟨v, vm₁, ⟨U', l2, c2, s2⟩, hW₁, X', ⟨g', mk, t, L, e1, e2, hq, h1, hL, h2, h3⟩, st⟩ | ⟨q, vm₁, ⟨U', l2, c2, s2⟩, hW₁, X', ⟨g', mk, t, L, E, ce, e1, e2, hq, hce, hcv, hcl, h1, hL, h2, h3⟩, st⟩
  · dsimp only [Pt.U, Pt.locs, Pt.cells, Pt.slots] at X' e1 e2 h1 h2 h3 st
    subst h1; subst h2; subst h3
    exact Or.inl ⟨v, (T.setVm vm₁).calling g' mk As.toArray, t, U', L, hT, X', hL, e1, e2, hq, st⟩
  · dsimp only [Pt.U, Pt.locs, Pt.cells, Pt.slots] at X' e1 e2 h1 h2 h3 st hcl
    subst h1; subst h2; subst h3
    exact Or.inr ⟨q, (T.setVm vm₁).calling g' mk As.toArray, t, U', L, E, ce, hT, X', hL, e1, e2, hq, hce, hcv, vx_cls hW₁ hcl, st⟩
end
end VXH
theorem vx_ofWH {l : Launch} {y : MethodName} {ws ws' : List Cond} {rm : Room} {Pc : Array Value → State → Prop} {Qc : Array Value → State → Outcome → State → Prop} {XC : String → State → State → Prop} {mc ms : Nat} {free : Addr → Prop} {cc : ByteArray} {maxL : Nat} {ret : Option FieldType} {hh : List (Nat × Nat × Nat × Nat)}
    (hy : plainName y.cls = true) (hw : ws = Cond.codeWith y cc maxL ret hh :: ws')
    (body : ∀ p e s m args below meth c s₁, BodyLoose p l y (headSpec ws rm) cc maxL ret e s m args below meth c s₁ → c.maxLocals = maxL → Pc args s →
      W p l e (headSpec ws rm).room s m args below meth c s.heap [] 0 0 (vx_MQ below Qc XC args s mc ms free) (entryFrame m args maxL)) : vx_Met l y ws rm Pc Qc XC mc ms free := by
  refine MetFree.of_bodyS (code := cc) (maxLocals := maxL) (ret := ret) hy ?_ ?_
  · intro args s m h hn
    obtain ⟨m9, meth, c, hn9, h1, h2, h3, h4, -, h5, h6, -⟩ := Cond.codeWith_spec (atoms_spec (ws := ws) h _ (by rw [hw]; exact List.mem_cons_self))
    cases hn.symm.trans hn9
    exact ⟨meth, c, h1, h2, h3, h4, h5, h6⟩
  · intro p e s m args below meth c s₁ B hml hP _
    have hh0 : s₁.heap = s.heap := by rw [B.state]; rfl
    obtain ⟨t, a1, o, b1, b2, b3⟩ := body p e s m args below meth c s₁ B hml hP s₁ hh0 (Stand.of_body B)
    exact ⟨t, o, a1, b1, b2, b3⟩
/-! ===== END ===== -/
end
section
def RX0 : String := "Probeweb$Alarm"
def TX0 : u_T := fun k => match k with
  | 0 => ("Probeweb$Alarm", "check", "I", true)
  | 1 => ("Probeweb$Alarm", "raised", "I", true)
  | _ => ("Probeweb$Alarm", "closed", "I", false)
def tyX0 : Nat → FieldType := fun k => match k with
  | 0 => .int
  | 1 => .int
  | _ => .int
abbrev wsX00 : List Cond := u_ws RX0 TX0 3
theorem nmX0 : ∀ a, a < 3 → ∀ b, b < 3 → a ≠ b → (TX0 a).2.1 ≠ (TX0 b).2.1 := by decide +kernel
theorem tyX0_ok : ∀ k, k < 3 → parseFieldDescriptor (TX0 k).2.2.1 = some (tyX0 k) := by decide +kernel
abbrev cX0_init : ByteArray := prog_2_method_1_code
def yX0_init : MethodName := ⟨RX0, "<init>", "(II)V"⟩
def RX1 : String := "Probeweb$Check"
def TX1 : u_T := fun k => match k with
  | 0 => ("Probeweb$Check", "number", "I", true)
  | 1 => ("Probeweb$Check", "interval", "I", true)
  | 2 => ("Probeweb$Check", "offset", "I", true)
  | 3 => ("Probeweb$Check", "repetitions", "I", true)
  | 4 => ("Probeweb$Check", "quorum", "I", false)
  | 5 => ("Probeweb$Check", "downRegions", "I", false)
  | 6 => ("Probeweb$Check", "votes", "[I", true)
  | 7 => ("Probeweb$Check", "planned", "[I", true)
  | 8 => ("Probeweb$Check", "plannedMinute", "[I", true)
  | 9 => ("Probeweb$Check", "lastVerdict", "I", false)
  | 10 => ("Probeweb$Check", "openAlarm", "LProbeweb$Alarm;", false)
  | 11 => ("Probeweb$Check", "minutesUp", "I", false)
  | _ => ("Probeweb$Check", "minutesCounted", "I", false)
def tyX1 : Nat → FieldType := fun k => match k with
  | 0 => .int
  | 1 => .int
  | 2 => .int
  | 3 => .int
  | 4 => .int
  | 5 => .int
  | 6 => .array .int
  | 7 => .array .int
  | 8 => .array .int
  | 9 => .int
  | 10 => .object "Probeweb$Alarm"
  | 11 => .int
  | _ => .int
abbrev wsX10 : List Cond := u_ws RX1 TX1 13
theorem nmX1 : ∀ a, a < 13 → ∀ b, b < 13 → a ≠ b → (TX1 a).2.1 ≠ (TX1 b).2.1 := by decide +kernel
theorem tyX1_ok : ∀ k, k < 13 → parseFieldDescriptor (TX1 k).2.2.1 = some (tyX1 k) := by decide +kernel
abbrev cX1_init : ByteArray := prog_3_method_1_code
def yX1_init : MethodName := ⟨RX1, "<init>", "(IIIII)V"⟩
abbrev cX1_isDue : ByteArray := prog_3_method_2_code
def yX1_isDue : MethodName := ⟨RX1, "isDue", "(II)Z"⟩
abbrev cX1_nextMinuteFrom : ByteArray := prog_3_method_3_code
def yX1_nextMinuteFrom : MethodName := ⟨RX1, "nextMinuteFrom", "(II)I"⟩
abbrev cX1_takeSuccess : ByteArray := prog_3_method_4_code
def yX1_takeSuccess : MethodName := ⟨RX1, "takeSuccess", "(I)V"⟩
abbrev cX1_takeFailure : ByteArray := prog_3_method_5_code
def yX1_takeFailure : MethodName := ⟨RX1, "takeFailure", "(II)V"⟩
abbrev cX1_judge : ByteArray := prog_3_method_6_code
def yX1_judge : MethodName := ⟨RX1, "judge", "(I)V"⟩
def RX2 : String := "Probeweb$Region"
def TX2 : u_T := fun k => match k with
  | 0 => ("Probeweb$Region", "number", "I", true)
  | 1 => ("Probeweb$Region", "path", "I", true)
  | 2 => ("Probeweb$Region", "probesMade", "I", false)
  | _ => ("Probeweb$Region", "probesFailed", "I", false)
def tyX2 : Nat → FieldType := fun k => match k with
  | 0 => .int
  | 1 => .int
  | 2 => .int
  | _ => .int
abbrev wsX20 : List Cond := u_ws RX2 TX2 4
theorem nmX2 : ∀ a, a < 4 → ∀ b, b < 4 → a ≠ b → (TX2 a).2.1 ≠ (TX2 b).2.1 := by decide +kernel
theorem tyX2_ok : ∀ k, k < 4 → parseFieldDescriptor (TX2 k).2.2.1 = some (tyX2 k) := by decide +kernel
abbrev cX2_init : ByteArray := prog_4_method_1_code
def yX2_init : MethodName := ⟨RX2, "<init>", "(II)V"⟩
def RX3 : String := "Probeweb$Window"
def TX3 : u_T := fun k => match k with
  | 0 => ("Probeweb$Window", "check", "I", true)
  | 1 => ("Probeweb$Window", "first", "I", true)
  | _ => ("Probeweb$Window", "last", "I", false)
def tyX3 : Nat → FieldType := fun k => match k with
  | 0 => .int
  | 1 => .int
  | _ => .int
abbrev wsX30 : List Cond := u_ws RX3 TX3 3
theorem nmX3 : ∀ a, a < 3 → ∀ b, b < 3 → a ≠ b → (TX3 a).2.1 ≠ (TX3 b).2.1 := by decide +kernel
theorem tyX3_ok : ∀ k, k < 3 → parseFieldDescriptor (TX3 k).2.2.1 = some (tyX3 k) := by decide +kernel
abbrev cX3_init : ByteArray := prog_5_method_1_code
def yX3_init : MethodName := ⟨RX3, "<init>", "(III)V"⟩
abbrev cX3_contains : ByteArray := prog_5_method_2_code
def yX3_contains : MethodName := ⟨RX3, "contains", "(I)Z"⟩
abbrev cX3_endAfter : ByteArray := prog_5_method_3_code
def yX3_endAfter : MethodName := ⟨RX3, "endAfter", "(I)V"⟩
abbrev cX3_length : ByteArray := prog_5_method_4_code
def yX3_length : MethodName := ⟨RX3, "length", "()I"⟩
def RX4 : String := "Probeweb"
def TX4 : u_T := fun k => match k with
  | 0 => ("Probeweb", "regions", "Ljava/util/ArrayList;", true)
  | 1 => ("Probeweb", "checks", "Ljava/util/ArrayList;", true)
  | 2 => ("Probeweb", "windows", "Ljava/util/ArrayList;", true)
  | 3 => ("Probeweb", "alarmLog", "Ljava/util/ArrayList;", true)
  | 4 => ("Probeweb", "cutRegions", "I", false)
  | 5 => ("Probeweb", "badRegions", "I", false)
  | _ => ("Probeweb", "minute", "I", false)
def tyX4 : Nat → FieldType := fun k => match k with
  | 0 => .object "java/util/ArrayList"
  | 1 => .object "java/util/ArrayList"
  | 2 => .object "java/util/ArrayList"
  | 3 => .object "java/util/ArrayList"
  | 4 => .int
  | 5 => .int
  | _ => .int
abbrev wsX40 : List Cond := u_ws RX4 TX4 7
theorem nmX4 : ∀ a, a < 7 → ∀ b, b < 7 → a ≠ b → (TX4 a).2.1 ≠ (TX4 b).2.1 := by decide +kernel
theorem tyX4_ok : ∀ k, k < 7 → parseFieldDescriptor (TX4 k).2.2.1 = some (tyX4 k) := by decide +kernel
abbrev cX4_init : ByteArray := prog_1_method_1_code
def yX4_init : MethodName := ⟨RX4, "<init>", "()V"⟩
abbrev cX4_addRegion : ByteArray := prog_1_method_2_code
def yX4_addRegion : MethodName := ⟨RX4, "addRegion", "(I)I"⟩
abbrev cX4_addCheck : ByteArray := prog_1_method_3_code
def yX4_addCheck : MethodName := ⟨RX4, "addCheck", "(IIII)I"⟩
abbrev cX4_setDown : ByteArray := prog_1_method_4_code
def yX4_setDown : MethodName := ⟨RX4, "setDown", "(IIZ)Z"⟩
abbrev cX4_setCut : ByteArray := prog_1_method_5_code
def yX4_setCut : MethodName := ⟨RX4, "setCut", "(IZ)Z"⟩
abbrev cX4_setQuorum : ByteArray := prog_1_method_6_code
def yX4_setQuorum : MethodName := ⟨RX4, "setQuorum", "(II)I"⟩
abbrev cX4_addWindow : ByteArray := prog_1_method_7_code
def yX4_addWindow : MethodName := ⟨RX4, "addWindow", "(III)I"⟩
abbrev cX4_endWindow : ByteArray := prog_1_method_8_code
def yX4_endWindow : MethodName := ⟨RX4, "endWindow", "(I)I"⟩
abbrev cX4_pass : ByteArray := prog_1_method_9_code
def yX4_pass : MethodName := ⟨RX4, "pass", "(I)I"⟩
abbrev cX4_minute : ByteArray := prog_1_method_10_code
def yX4_minute : MethodName := ⟨RX4, "minute", "()I"⟩
abbrev cX4_failing : ByteArray := prog_1_method_11_code
def yX4_failing : MethodName := ⟨RX4, "failing", "(I)I"⟩
abbrev cX4_nextProbe : ByteArray := prog_1_method_12_code
def yX4_nextProbe : MethodName := ⟨RX4, "nextProbe", "(II)I"⟩
abbrev cX4_repetition : ByteArray := prog_1_method_13_code
def yX4_repetition : MethodName := ⟨RX4, "repetition", "(II)I"⟩
abbrev cX4_vote : ByteArray := prog_1_method_14_code
def yX4_vote : MethodName := ⟨RX4, "vote", "(II)I"⟩
abbrev cX4_probes : ByteArray := prog_1_method_15_code
def yX4_probes : MethodName := ⟨RX4, "probes", "(I)I"⟩
abbrev cX4_failures : ByteArray := prog_1_method_16_code
def yX4_failures : MethodName := ⟨RX4, "failures", "(I)I"⟩
abbrev cX4_isBad : ByteArray := prog_1_method_17_code
def yX4_isBad : MethodName := ⟨RX4, "isBad", "(I)Z"⟩
abbrev cX4_verdict : ByteArray := prog_1_method_18_code
def yX4_verdict : MethodName := ⟨RX4, "verdict", "(I)I"⟩
abbrev cX4_trusted : ByteArray := prog_1_method_19_code
def yX4_trusted : MethodName := ⟨RX4, "trusted", "(I)I"⟩
abbrev cX4_alarms : ByteArray := prog_1_method_20_code
def yX4_alarms : MethodName := ⟨RX4, "alarms", "()I"⟩
abbrev cX4_hasAlarm : ByteArray := prog_1_method_21_code
def yX4_hasAlarm : MethodName := ⟨RX4, "hasAlarm", "(I)Z"⟩
abbrev cX4_alarmCheck : ByteArray := prog_1_method_22_code
def yX4_alarmCheck : MethodName := ⟨RX4, "alarmCheck", "(I)I"⟩
abbrev cX4_alarmRaised : ByteArray := prog_1_method_23_code
def yX4_alarmRaised : MethodName := ⟨RX4, "alarmRaised", "(I)I"⟩
abbrev cX4_alarmClosed : ByteArray := prog_1_method_24_code
def yX4_alarmClosed : MethodName := ⟨RX4, "alarmClosed", "(I)I"⟩
abbrev cX4_availability : ByteArray := prog_1_method_25_code
def yX4_availability : MethodName := ⟨RX4, "availability", "(I)F"⟩
abbrev cX4_requireRegion : ByteArray := prog_1_method_26_code
def yX4_requireRegion : MethodName := ⟨RX4, "requireRegion", "(I)V"⟩
abbrev cX4_requireCheck : ByteArray := prog_1_method_27_code
def yX4_requireCheck : MethodName := ⟨RX4, "requireCheck", "(I)V"⟩
abbrev cX4_requireAlarm : ByteArray := prog_1_method_28_code
def yX4_requireAlarm : MethodName := ⟨RX4, "requireAlarm", "(I)V"⟩
abbrev cX4_requireRange : ByteArray := prog_1_method_29_code
def yX4_requireRange : MethodName := ⟨RX4, "requireRange", "(III)V"⟩
abbrev cX4_holds : ByteArray := prog_1_method_30_code
def yX4_holds : MethodName := ⟨RX4, "holds", "(II)Z"⟩
abbrev cX4_withRegion : ByteArray := prog_1_method_31_code
def yX4_withRegion : MethodName := ⟨RX4, "withRegion", "(IIZ)I"⟩
abbrev cX4_passOneMinute : ByteArray := prog_1_method_32_code
def yX4_passOneMinute : MethodName := ⟨RX4, "passOneMinute", "()V"⟩
abbrev cX4_makeProbes : ByteArray := prog_1_method_33_code
def yX4_makeProbes : MethodName := ⟨RX4, "makeProbes", "()V"⟩
abbrev cX4_makeProbe : ByteArray := prog_1_method_34_code
def yX4_makeProbe : MethodName := ⟨RX4, "makeProbe", "(LProbeweb$Check;LProbeweb$Region;)V"⟩
abbrev cX4_wouldFail : ByteArray := prog_1_method_35_code
def yX4_wouldFail : MethodName := ⟨RX4, "wouldFail", "(LProbeweb$Check;LProbeweb$Region;)Z"⟩
abbrev cX4_judgeRegions : ByteArray := prog_1_method_36_code
def yX4_judgeRegions : MethodName := ⟨RX4, "judgeRegions", "()V"⟩
abbrev cX4_votesAreBad : ByteArray := prog_1_method_37_code
def yX4_votesAreBad : MethodName := ⟨RX4, "votesAreBad", "(I)Z"⟩
abbrev cX4_judgeChecks : ByteArray := prog_1_method_38_code
def yX4_judgeChecks : MethodName := ⟨RX4, "judgeChecks", "()V"⟩
abbrev cX4_trustedRegions : ByteArray := prog_1_method_39_code
def yX4_trustedRegions : MethodName := ⟨RX4, "trustedRegions", "(LProbeweb$Check;)I"⟩
abbrev cX4_raiseAndCloseAlarms : ByteArray := prog_1_method_40_code
def yX4_raiseAndCloseAlarms : MethodName := ⟨RX4, "raiseAndCloseAlarms", "()V"⟩
abbrev cX4_isMaintained : ByteArray := prog_1_method_41_code
def yX4_isMaintained : MethodName := ⟨RX4, "isMaintained", "(LProbeweb$Check;)Z"⟩
abbrev cX4_raiseAlarm : ByteArray := prog_1_method_42_code
def yX4_raiseAlarm : MethodName := ⟨RX4, "raiseAlarm", "(LProbeweb$Check;)V"⟩
abbrev cX4_countMinute : ByteArray := prog_1_method_43_code
def yX4_countMinute : MethodName := ⟨RX4, "countMinute", "()V"⟩
def RX5 : String := "ProbewebModel"
def TX5 : u_T := fun k => match k with
  | 0 => ("ProbewebModel", "minute", "I", false)
  | 1 => ("ProbewebModel", "regions", "I", false)
  | 2 => ("ProbewebModel", "parent", "[I", true)
  | 3 => ("ProbewebModel", "cut", "[Z", true)
  | 4 => ("ProbewebModel", "bad", "[Z", true)
  | 5 => ("ProbewebModel", "made", "[I", true)
  | 6 => ("ProbewebModel", "failed", "[I", true)
  | 7 => ("ProbewebModel", "checks", "I", false)
  | 8 => ("ProbewebModel", "interval", "[I", true)
  | 9 => ("ProbewebModel", "offset", "[I", true)
  | 10 => ("ProbewebModel", "repetitions", "[I", true)
  | 11 => ("ProbewebModel", "quorum", "[I", true)
  | 12 => ("ProbewebModel", "verdict", "[I", true)
  | 13 => ("ProbewebModel", "open", "[I", true)
  | 14 => ("ProbewebModel", "ups", "[I", true)
  | 15 => ("ProbewebModel", "counted", "[I", true)
  | 16 => ("ProbewebModel", "down", "[Z", true)
  | 17 => ("ProbewebModel", "vote", "[I", true)
  | 18 => ("ProbewebModel", "planned", "[I", true)
  | 19 => ("ProbewebModel", "plannedFor", "[I", true)
  | 20 => ("ProbewebModel", "windows", "I", false)
  | 21 => ("ProbewebModel", "of", "[I", true)
  | 22 => ("ProbewebModel", "begin", "[I", true)
  | 23 => ("ProbewebModel", "end", "[I", true)
  | 24 => ("ProbewebModel", "alarms", "I", false)
  | 25 => ("ProbewebModel", "raised", "[I", true)
  | 26 => ("ProbewebModel", "closed", "[I", true)
  | _ => ("ProbewebModel", "thrown", "I", false)
def tyX5 : Nat → FieldType := fun k => match k with
  | 0 => .int
  | 1 => .int
  | 2 => .array .int
  | 3 => .array .boolean
  | 4 => .array .boolean
  | 5 => .array .int
  | 6 => .array .int
  | 7 => .int
  | 8 => .array .int
  | 9 => .array .int
  | 10 => .array .int
  | 11 => .array .int
  | 12 => .array .int
  | 13 => .array .int
  | 14 => .array .int
  | 15 => .array .int
  | 16 => .array .boolean
  | 17 => .array .int
  | 18 => .array .int
  | 19 => .array .int
  | 20 => .int
  | 21 => .array .int
  | 22 => .array .int
  | 23 => .array .int
  | 24 => .int
  | 25 => .array .int
  | 26 => .array .int
  | _ => .int
abbrev wsX50 : List Cond := u_ws RX5 TX5 28
theorem nmX5 : ∀ a, a < 28 → ∀ b, b < 28 → a ≠ b → (TX5 a).2.1 ≠ (TX5 b).2.1 := by decide +kernel
theorem tyX5_ok : ∀ k, k < 28 → parseFieldDescriptor (TX5 k).2.2.1 = some (tyX5 k) := by decide +kernel
abbrev cX5_init : ByteArray := prog_7_method_1_code
def yX5_init : MethodName := ⟨RX5, "<init>", "()V"⟩
abbrev cX5_thrown : ByteArray := prog_7_method_2_code
def yX5_thrown : MethodName := ⟨RX5, "thrown", "()I"⟩
abbrev cX5_isIn : ByteArray := prog_7_method_3_code
def yX5_isIn : MethodName := ⟨RX5, "isIn", "(III)Z"⟩
abbrev cX5_isRegion : ByteArray := prog_7_method_4_code
def yX5_isRegion : MethodName := ⟨RX5, "isRegion", "(I)Z"⟩
abbrev cX5_isCheck : ByteArray := prog_7_method_5_code
def yX5_isCheck : MethodName := ⟨RX5, "isCheck", "(I)Z"⟩
abbrev cX5_addRegion : ByteArray := prog_7_method_6_code
def yX5_addRegion : MethodName := ⟨RX5, "addRegion", "(I)I"⟩
abbrev cX5_addCheck : ByteArray := prog_7_method_7_code
def yX5_addCheck : MethodName := ⟨RX5, "addCheck", "(IIII)I"⟩
abbrev cX5_setDown : ByteArray := prog_7_method_8_code
def yX5_setDown : MethodName := ⟨RX5, "setDown", "(IIZ)Z"⟩
abbrev cX5_setCut : ByteArray := prog_7_method_9_code
def yX5_setCut : MethodName := ⟨RX5, "setCut", "(IZ)Z"⟩
abbrev cX5_setQuorum : ByteArray := prog_7_method_10_code
def yX5_setQuorum : MethodName := ⟨RX5, "setQuorum", "(II)I"⟩
abbrev cX5_addWindow : ByteArray := prog_7_method_11_code
def yX5_addWindow : MethodName := ⟨RX5, "addWindow", "(III)I"⟩
abbrev cX5_endWindow : ByteArray := prog_7_method_12_code
def yX5_endWindow : MethodName := ⟨RX5, "endWindow", "(I)I"⟩
abbrev cX5_fails : ByteArray := prog_7_method_13_code
def yX5_fails : MethodName := ⟨RX5, "fails", "(II)Z"⟩
abbrev cX5_isScheduled : ByteArray := prog_7_method_14_code
def yX5_isScheduled : MethodName := ⟨RX5, "isScheduled", "(III)Z"⟩
abbrev cX5_probe : ByteArray := prog_7_method_15_code
def yX5_probe : MethodName := ⟨RX5, "probe", "(II)V"⟩
abbrev cX5_votesOf : ByteArray := prog_7_method_16_code
def yX5_votesOf : MethodName := ⟨RX5, "votesOf", "(II)I"⟩
abbrev cX5_isTrusted : ByteArray := prog_7_method_17_code
def yX5_isTrusted : MethodName := ⟨RX5, "isTrusted", "(II)Z"⟩
abbrev cX5_judged : ByteArray := prog_7_method_18_code
def yX5_judged : MethodName := ⟨RX5, "judged", "(I)I"⟩
abbrev cX5_isMaintained : ByteArray := prog_7_method_19_code
def yX5_isMaintained : MethodName := ⟨RX5, "isMaintained", "(I)Z"⟩
abbrev cX5_raises : ByteArray := prog_7_method_20_code
def yX5_raises : MethodName := ⟨RX5, "raises", "(I)V"⟩
abbrev cX5_passes : ByteArray := prog_7_method_21_code
def yX5_passes : MethodName := ⟨RX5, "passes", "()V"⟩
abbrev cX5_pass : ByteArray := prog_7_method_22_code
def yX5_pass : MethodName := ⟨RX5, "pass", "(I)I"⟩
abbrev cX5_minute : ByteArray := prog_7_method_23_code
def yX5_minute : MethodName := ⟨RX5, "minute", "()I"⟩
abbrev cX5_failing : ByteArray := prog_7_method_24_code
def yX5_failing : MethodName := ⟨RX5, "failing", "(I)I"⟩
abbrev cX5_isPair : ByteArray := prog_7_method_25_code
def yX5_isPair : MethodName := ⟨RX5, "isPair", "(II)Z"⟩
abbrev cX5_nextProbe : ByteArray := prog_7_method_26_code
def yX5_nextProbe : MethodName := ⟨RX5, "nextProbe", "(II)I"⟩
abbrev cX5_repetition : ByteArray := prog_7_method_27_code
def yX5_repetition : MethodName := ⟨RX5, "repetition", "(II)I"⟩
abbrev cX5_vote : ByteArray := prog_7_method_28_code
def yX5_vote : MethodName := ⟨RX5, "vote", "(II)I"⟩
abbrev cX5_probes : ByteArray := prog_7_method_29_code
def yX5_probes : MethodName := ⟨RX5, "probes", "(I)I"⟩
abbrev cX5_failures : ByteArray := prog_7_method_30_code
def yX5_failures : MethodName := ⟨RX5, "failures", "(I)I"⟩
abbrev cX5_isBad : ByteArray := prog_7_method_31_code
def yX5_isBad : MethodName := ⟨RX5, "isBad", "(I)Z"⟩
abbrev cX5_verdict : ByteArray := prog_7_method_32_code
def yX5_verdict : MethodName := ⟨RX5, "verdict", "(I)I"⟩
abbrev cX5_trusted : ByteArray := prog_7_method_33_code
def yX5_trusted : MethodName := ⟨RX5, "trusted", "(I)I"⟩
abbrev cX5_alarms : ByteArray := prog_7_method_34_code
def yX5_alarms : MethodName := ⟨RX5, "alarms", "()I"⟩
abbrev cX5_hasAlarm : ByteArray := prog_7_method_35_code
def yX5_hasAlarm : MethodName := ⟨RX5, "hasAlarm", "(I)Z"⟩
abbrev cX5_isAlarm : ByteArray := prog_7_method_36_code
def yX5_isAlarm : MethodName := ⟨RX5, "isAlarm", "(I)Z"⟩
abbrev cX5_alarmCheck : ByteArray := prog_7_method_37_code
def yX5_alarmCheck : MethodName := ⟨RX5, "alarmCheck", "(I)I"⟩
abbrev cX5_alarmRaised : ByteArray := prog_7_method_38_code
def yX5_alarmRaised : MethodName := ⟨RX5, "alarmRaised", "(I)I"⟩
abbrev cX5_alarmClosed : ByteArray := prog_7_method_39_code
def yX5_alarmClosed : MethodName := ⟨RX5, "alarmClosed", "(I)I"⟩
abbrev cX5_availability : ByteArray := prog_7_method_40_code
def yX5_availability : MethodName := ⟨RX5, "availability", "(I)F"⟩
def RJx145de : String := "java/io/Serializable"
def TJx145de : u_T := fun k => match k with
  | _ => ("", "", "", false)
def tyJx145de : Nat → FieldType := fun k => match k with
  | _ => .int
abbrev wsJx145de0 : List Cond := u_ws RJx145de TJx145de 0
theorem nmJx145de : ∀ a, a < 0 → ∀ b, b < 0 → a ≠ b → (TJx145de a).2.1 ≠ (TJx145de b).2.1 := by decide +kernel
theorem tyJx145de_ok : ∀ k, k < 0 → parseFieldDescriptor (TJx145de k).2.2.1 = some (tyJx145de k) := by decide +kernel
def RJx8e188 : String := "java/lang/Cloneable"
def TJx8e188 : u_T := fun k => match k with
  | _ => ("", "", "", false)
def tyJx8e188 : Nat → FieldType := fun k => match k with
  | _ => .int
abbrev wsJx8e1880 : List Cond := u_ws RJx8e188 TJx8e188 0
theorem nmJx8e188 : ∀ a, a < 0 → ∀ b, b < 0 → a ≠ b → (TJx8e188 a).2.1 ≠ (TJx8e188 b).2.1 := by decide +kernel
theorem tyJx8e188_ok : ∀ k, k < 0 → parseFieldDescriptor (TJx8e188 k).2.2.1 = some (tyJx8e188 k) := by decide +kernel
def RJ6 : String := "java/lang/Integer"
def TJ6 : u_T := fun k => match k with
  | _ => ("", "", "", false)
def tyJ6 : Nat → FieldType := fun k => match k with
  | _ => .int
abbrev wsJ60 : List Cond := u_ws RJ6 TJ6 0
theorem nmJ6 : ∀ a, a < 0 → ∀ b, b < 0 → a ≠ b → (TJ6 a).2.1 ≠ (TJ6 b).2.1 := by decide +kernel
theorem tyJ6_ok : ∀ k, k < 0 → parseFieldDescriptor (TJ6 k).2.2.1 = some (tyJ6 k) := by decide +kernel
abbrev cJ6_bitCount_0f7a4 : ByteArray := prog_14_method_49_code
def yJ6_bitCount_0f7a4 : MethodName := ⟨RJ6, "bitCount", "(I)I"⟩
def RJxab1ab : String := "java/lang/Iterable"
def TJxab1ab : u_T := fun k => match k with
  | _ => ("", "", "", false)
def tyJxab1ab : Nat → FieldType := fun k => match k with
  | _ => .int
abbrev wsJxab1ab0 : List Cond := u_ws RJxab1ab TJxab1ab 0
theorem nmJxab1ab : ∀ a, a < 0 → ∀ b, b < 0 → a ≠ b → (TJxab1ab a).2.1 ≠ (TJxab1ab b).2.1 := by decide +kernel
theorem tyJxab1ab_ok : ∀ k, k < 0 → parseFieldDescriptor (TJxab1ab k).2.2.1 = some (tyJxab1ab k) := by decide +kernel
def RJ9 : String := "java/lang/Math"
def TJ9 : u_T := fun k => match k with
  | _ => ("", "", "", false)
def tyJ9 : Nat → FieldType := fun k => match k with
  | _ => .int
abbrev wsJ90 : List Cond := u_ws RJ9 TJ9 0
theorem nmJ9 : ∀ a, a < 0 → ∀ b, b < 0 → a ≠ b → (TJ9 a).2.1 ≠ (TJ9 b).2.1 := by decide +kernel
theorem tyJ9_ok : ∀ k, k < 0 → parseFieldDescriptor (TJ9 k).2.2.1 = some (tyJ9 k) := by decide +kernel
abbrev cJ9_max_7cf53 : ByteArray := prog_16_method_65_code
def yJ9_max_7cf53 : MethodName := ⟨RJ9, "max", "(II)I"⟩
abbrev cJ9_min_7cf53 : ByteArray := prog_16_method_69_code
def yJ9_min_7cf53 : MethodName := ⟨RJ9, "min", "(II)I"⟩
def RJ0 : String := "java/lang/String"
def TJ0 : u_T := fun k => match k with
  | _ => ("", "", "", false)
def tyJ0 : Nat → FieldType := fun k => match k with
  | _ => .int
abbrev wsJ00 : List Cond := u_ws RJ0 TJ0 0
theorem nmJ0 : ∀ a, a < 0 → ∀ b, b < 0 → a ≠ b → (TJ0 a).2.1 ≠ (TJ0 b).2.1 := by decide +kernel
theorem tyJ0_ok : ∀ k, k < 0 → parseFieldDescriptor (TJ0 k).2.2.1 = some (tyJ0 k) := by decide +kernel
def RJ10 : String := "java/lang/System"
def TJ10 : u_T := fun k => match k with
  | _ => ("", "", "", false)
def tyJ10 : Nat → FieldType := fun k => match k with
  | _ => .int
abbrev wsJ100 : List Cond := u_ws RJ10 TJ10 0
theorem nmJ10 : ∀ a, a < 0 → ∀ b, b < 0 → a ≠ b → (TJ10 a).2.1 ≠ (TJ10 b).2.1 := by decide +kernel
theorem tyJ10_ok : ∀ k, k < 0 → parseFieldDescriptor (TJ10 k).2.2.1 = some (tyJ10 k) := by decide +kernel
def RJxa1e45 : String := "java/util/AbstractCollection"
def TJxa1e45 : u_T := fun k => match k with
  | _ => ("", "", "", false)
def tyJxa1e45 : Nat → FieldType := fun k => match k with
  | _ => .int
abbrev wsJxa1e450 : List Cond := u_ws RJxa1e45 TJxa1e45 0
theorem nmJxa1e45 : ∀ a, a < 0 → ∀ b, b < 0 → a ≠ b → (TJxa1e45 a).2.1 ≠ (TJxa1e45 b).2.1 := by decide +kernel
theorem tyJxa1e45_ok : ∀ k, k < 0 → parseFieldDescriptor (TJxa1e45 k).2.2.1 = some (tyJxa1e45 k) := by decide +kernel
abbrev cJxa1e45_init_da8c8 : ByteArray := prog_21_method_1_code
def yJxa1e45_init_da8c8 : MethodName := ⟨RJxa1e45, "<init>", "()V"⟩
def RJxc12de : String := "java/util/AbstractList"
def TJxc12de : u_T := fun k => match k with
  | _ => ("", "", "", false)
def tyJxc12de : Nat → FieldType := fun k => match k with
  | _ => .int
abbrev wsJxc12de0 : List Cond := u_ws RJxc12de TJxc12de 0
theorem nmJxc12de : ∀ a, a < 0 → ∀ b, b < 0 → a ≠ b → (TJxc12de a).2.1 ≠ (TJxc12de b).2.1 := by decide +kernel
theorem tyJxc12de_ok : ∀ k, k < 0 → parseFieldDescriptor (TJxc12de k).2.2.1 = some (tyJxc12de k) := by decide +kernel
abbrev cJxc12de_init_da8c8 : ByteArray := prog_22_method_1_code
def yJxc12de_init_da8c8 : MethodName := ⟨RJxc12de, "<init>", "()V"⟩
def RJx4a65c : String := "java/util/ArrayList"
def TJx4a65c : u_T := fun k => match k with
  | 0 => ("java/util/AbstractList", "modCount", "I", false)
  | 1 => ("java/util/ArrayList", "elementData", "[Ljava/lang/Object;", false)
  | _ => ("java/util/ArrayList", "size", "I", false)
def tyJx4a65c : Nat → FieldType := fun k => match k with
  | 0 => .int
  | 1 => .array (.object "java/lang/Object")
  | _ => .int
abbrev wsJx4a65c0 : List Cond := u_ws RJx4a65c TJx4a65c 3
theorem nmJx4a65c : ∀ a, a < 3 → ∀ b, b < 3 → a ≠ b → (TJx4a65c a).2.1 ≠ (TJx4a65c b).2.1 := by decide +kernel
theorem tyJx4a65c_ok : ∀ k, k < 3 → parseFieldDescriptor (TJx4a65c k).2.2.1 = some (tyJx4a65c k) := by decide +kernel
abbrev cJx4a65c_init_da8c8 : ByteArray := prog_23_method_2_code
def yJx4a65c_init_da8c8 : MethodName := ⟨RJx4a65c, "<init>", "()V"⟩
abbrev cJx4a65c_grow_92f84 : ByteArray := prog_23_method_6_code
def yJx4a65c_grow_92f84 : MethodName := ⟨RJx4a65c, "grow", "(I)[Ljava/lang/Object;"⟩
abbrev cJx4a65c_grow_d5877 : ByteArray := prog_23_method_7_code
def yJx4a65c_grow_d5877 : MethodName := ⟨RJx4a65c, "grow", "()[Ljava/lang/Object;"⟩
abbrev cJx4a65c_size_8abf5 : ByteArray := prog_23_method_8_code
def yJx4a65c_size_8abf5 : MethodName := ⟨RJx4a65c, "size", "()I"⟩
abbrev cJx4a65c_elementData_915e3 : ByteArray := prog_23_method_18_code
def yJx4a65c_elementData_915e3 : MethodName := ⟨RJx4a65c, "elementData", "(I)Ljava/lang/Object;"⟩
abbrev cJx4a65c_get_915e3 : ByteArray := prog_23_method_20_code
def yJx4a65c_get_915e3 : MethodName := ⟨RJx4a65c, "get", "(I)Ljava/lang/Object;"⟩
abbrev cJx4a65c_add_72be8 : ByteArray := prog_23_method_24_code
def yJx4a65c_add_72be8 : MethodName := ⟨RJx4a65c, "add", "(Ljava/lang/Object;[Ljava/lang/Object;I)V"⟩
abbrev cJx4a65c_add_9ea2d : ByteArray := prog_23_method_25_code
def yJx4a65c_add_9ea2d : MethodName := ⟨RJx4a65c, "add", "(Ljava/lang/Object;)Z"⟩
def RJ7 : String := "java/util/Arrays"
def TJ7 : u_T := fun k => match k with
  | _ => ("", "", "", false)
def tyJ7 : Nat → FieldType := fun k => match k with
  | _ => .int
abbrev wsJ70 : List Cond := u_ws RJ7 TJ7 0
theorem nmJ7 : ∀ a, a < 0 → ∀ b, b < 0 → a ≠ b → (TJ7 a).2.1 ≠ (TJ7 b).2.1 := by decide +kernel
theorem tyJ7_ok : ∀ k, k < 0 → parseFieldDescriptor (TJ7 k).2.2.1 = some (tyJ7 k) := by decide +kernel
abbrev cJ7_copyOf_1904c : ByteArray := prog_24_method_119_code
def yJ7_copyOf_1904c : MethodName := ⟨RJ7, "copyOf", "([Ljava/lang/Object;I)[Ljava/lang/Object;"⟩
abbrev cJ7_copyOf_6403c : ByteArray := prog_24_method_120_code
def yJ7_copyOf_6403c : MethodName := ⟨RJ7, "copyOf", "([Ljava/lang/Object;ILjava/lang/Class;)[Ljava/lang/Object;"⟩
def RJx5ef63 : String := "java/util/Collection"
def TJx5ef63 : u_T := fun k => match k with
  | _ => ("", "", "", false)
def tyJx5ef63 : Nat → FieldType := fun k => match k with
  | _ => .int
abbrev wsJx5ef630 : List Cond := u_ws RJx5ef63 TJx5ef63 0
theorem nmJx5ef63 : ∀ a, a < 0 → ∀ b, b < 0 → a ≠ b → (TJx5ef63 a).2.1 ≠ (TJx5ef63 b).2.1 := by decide +kernel
theorem tyJx5ef63_ok : ∀ k, k < 0 → parseFieldDescriptor (TJx5ef63 k).2.2.1 = some (tyJx5ef63 k) := by decide +kernel
def RJxbd725 : String := "java/util/List"
def TJxbd725 : u_T := fun k => match k with
  | _ => ("", "", "", false)
def tyJxbd725 : Nat → FieldType := fun k => match k with
  | _ => .int
abbrev wsJxbd7250 : List Cond := u_ws RJxbd725 TJxbd725 0
theorem nmJxbd725 : ∀ a, a < 0 → ∀ b, b < 0 → a ≠ b → (TJxbd725 a).2.1 ≠ (TJxbd725 b).2.1 := by decide +kernel
theorem tyJxbd725_ok : ∀ k, k < 0 → parseFieldDescriptor (TJxbd725 k).2.2.1 = some (tyJxbd725 k) := by decide +kernel
def RJ15 : String := "java/util/Objects"
def TJ15 : u_T := fun k => match k with
  | _ => ("", "", "", false)
def tyJ15 : Nat → FieldType := fun k => match k with
  | _ => .int
abbrev wsJ150 : List Cond := u_ws RJ15 TJ15 0
theorem nmJ15 : ∀ a, a < 0 → ∀ b, b < 0 → a ≠ b → (TJ15 a).2.1 ≠ (TJ15 b).2.1 := by decide +kernel
theorem tyJ15_ok : ∀ k, k < 0 → parseFieldDescriptor (TJ15 k).2.2.1 = some (tyJ15 k) := by decide +kernel
abbrev cJ15_checkIndex_7cf53 : ByteArray := prog_27_method_17_code
def yJ15_checkIndex_7cf53 : MethodName := ⟨RJ15, "checkIndex", "(II)I"⟩
def RJxf0a74 : String := "java/util/RandomAccess"
def TJxf0a74 : u_T := fun k => match k with
  | _ => ("", "", "", false)
def tyJxf0a74 : Nat → FieldType := fun k => match k with
  | _ => .int
abbrev wsJxf0a740 : List Cond := u_ws RJxf0a74 TJxf0a74 0
theorem nmJxf0a74 : ∀ a, a < 0 → ∀ b, b < 0 → a ≠ b → (TJxf0a74 a).2.1 ≠ (TJxf0a74 b).2.1 := by decide +kernel
theorem tyJxf0a74_ok : ∀ k, k < 0 → parseFieldDescriptor (TJxf0a74 k).2.2.1 = some (tyJxf0a74 k) := by decide +kernel
def RJxa66e6 : String := "java/util/SequencedCollection"
def TJxa66e6 : u_T := fun k => match k with
  | _ => ("", "", "", false)
def tyJxa66e6 : Nat → FieldType := fun k => match k with
  | _ => .int
abbrev wsJxa66e60 : List Cond := u_ws RJxa66e6 TJxa66e6 0
theorem nmJxa66e6 : ∀ a, a < 0 → ∀ b, b < 0 → a ≠ b → (TJxa66e6 a).2.1 ≠ (TJxa66e6 b).2.1 := by decide +kernel
theorem tyJxa66e6_ok : ∀ k, k < 0 → parseFieldDescriptor (TJxa66e6 k).2.2.1 = some (tyJxa66e6 k) := by decide +kernel
def RJ8 : String := "jdk/internal/util/ArraysSupport"
def TJ8 : u_T := fun k => match k with
  | _ => ("", "", "", false)
def tyJ8 : Nat → FieldType := fun k => match k with
  | _ => .int
abbrev wsJ80 : List Cond := u_ws RJ8 TJ8 0
theorem nmJ8 : ∀ a, a < 0 → ∀ b, b < 0 → a ≠ b → (TJ8 a).2.1 ≠ (TJ8 b).2.1 := by decide +kernel
theorem tyJ8_ok : ∀ k, k < 0 → parseFieldDescriptor (TJ8 k).2.2.1 = some (tyJ8 k) := by decide +kernel
abbrev cJ8_newLength_cabcc : ByteArray := prog_30_method_27_code
def yJ8_newLength_cabcc : MethodName := ⟨RJ8, "newLength", "(III)I"⟩
abbrev cJ8_hugeLength_7cf53 : ByteArray := prog_30_method_28_code
def yJ8_hugeLength_7cf53 : MethodName := ⟨RJ8, "hugeLength", "(II)I"⟩
def RJ3 : String := "jdk/internal/util/Preconditions"
def TJ3 : u_T := fun k => match k with
  | _ => ("", "", "", false)
def tyJ3 : Nat → FieldType := fun k => match k with
  | _ => .int
abbrev wsJ30 : List Cond := u_ws RJ3 TJ3 0
theorem nmJ3 : ∀ a, a < 0 → ∀ b, b < 0 → a ≠ b → (TJ3 a).2.1 ≠ (TJ3 b).2.1 := by decide +kernel
theorem tyJ3_ok : ∀ k, k < 0 → parseFieldDescriptor (TJ3 k).2.2.1 = some (tyJ3 k) := by decide +kernel
abbrev cJ3_checkIndex_8e157 : ByteArray := prog_31_method_11_code
def yJ3_checkIndex_8e157 : MethodName := ⟨RJ3, "checkIndex", "(IILjava/util/function/BiFunction;)I"⟩
def RL : String := "ProbewebLaw"
abbrev cL_addRegion : ByteArray := method_3_code
def yL_addRegion : MethodName := ⟨RL, "addRegion", "(LProbeweb;I[J)I"⟩
abbrev cL_addCheck : ByteArray := method_4_code
def yL_addCheck : MethodName := ⟨RL, "addCheck", "(LProbeweb;IIII[J)I"⟩
abbrev cL_setDown : ByteArray := method_5_code
def yL_setDown : MethodName := ⟨RL, "setDown", "(LProbeweb;IIZ[J)I"⟩
abbrev cL_setCut : ByteArray := method_6_code
def yL_setCut : MethodName := ⟨RL, "setCut", "(LProbeweb;IZ[J)I"⟩
abbrev cL_setQuorum : ByteArray := method_7_code
def yL_setQuorum : MethodName := ⟨RL, "setQuorum", "(LProbeweb;II[J)I"⟩
abbrev cL_addWindow : ByteArray := method_8_code
def yL_addWindow : MethodName := ⟨RL, "addWindow", "(LProbeweb;III[J)I"⟩
abbrev cL_endWindow : ByteArray := method_9_code
def yL_endWindow : MethodName := ⟨RL, "endWindow", "(LProbeweb;I[J)I"⟩
abbrev cL_pass : ByteArray := method_10_code
def yL_pass : MethodName := ⟨RL, "pass", "(LProbeweb;I[J)I"⟩
abbrev cL_failing : ByteArray := method_11_code
def yL_failing : MethodName := ⟨RL, "failing", "(LProbeweb;I[J)I"⟩
abbrev cL_nextProbe : ByteArray := method_12_code
def yL_nextProbe : MethodName := ⟨RL, "nextProbe", "(LProbeweb;II[J)I"⟩
abbrev cL_repetition : ByteArray := method_13_code
def yL_repetition : MethodName := ⟨RL, "repetition", "(LProbeweb;II[J)I"⟩
abbrev cL_vote : ByteArray := method_14_code
def yL_vote : MethodName := ⟨RL, "vote", "(LProbeweb;II[J)I"⟩
abbrev cL_probes : ByteArray := method_15_code
def yL_probes : MethodName := ⟨RL, "probes", "(LProbeweb;I[J)I"⟩
abbrev cL_failures : ByteArray := method_16_code
def yL_failures : MethodName := ⟨RL, "failures", "(LProbeweb;I[J)I"⟩
abbrev cL_isBad : ByteArray := method_17_code
def yL_isBad : MethodName := ⟨RL, "isBad", "(LProbeweb;I[J)I"⟩
abbrev cL_verdict : ByteArray := method_18_code
def yL_verdict : MethodName := ⟨RL, "verdict", "(LProbeweb;I[J)I"⟩
abbrev cL_trusted : ByteArray := method_19_code
def yL_trusted : MethodName := ⟨RL, "trusted", "(LProbeweb;I[J)I"⟩
abbrev cL_hasAlarm : ByteArray := method_20_code
def yL_hasAlarm : MethodName := ⟨RL, "hasAlarm", "(LProbeweb;I[J)I"⟩
abbrev cL_alarmCheck : ByteArray := method_21_code
def yL_alarmCheck : MethodName := ⟨RL, "alarmCheck", "(LProbeweb;I[J)I"⟩
abbrev cL_alarmRaised : ByteArray := method_22_code
def yL_alarmRaised : MethodName := ⟨RL, "alarmRaised", "(LProbeweb;I[J)I"⟩
abbrev cL_alarmClosed : ByteArray := method_23_code
def yL_alarmClosed : MethodName := ⟨RL, "alarmClosed", "(LProbeweb;I[J)I"⟩
abbrev cL_availability : ByteArray := method_24_code
def yL_availability : MethodName := ⟨RL, "availability", "(LProbeweb;I[D)I"⟩
abbrev cL_law : ByteArray := code
def yL_law : MethodName := ⟨RL, "law", "([I)Z"⟩
def wsX0_init : List Cond := .code yX0_init cX0_init 3 none :: ([.methodLink RX0 3 objectInit, .instanceMethod objectInit, .code objectInit ⟨#[0xb1]⟩ 1 none, .fieldLink RX0 9 "Probeweb$Alarm" "check" "I", .fieldLink RX0 15 "Probeweb$Alarm" "raised" "I", .fieldLink RX0 18 "Probeweb$Alarm" "closed" "I"] ++ wsX00)
def wsX1_init : List Cond := .code yX1_init cX1_init 6 none :: ([.methodLink RX1 3 objectInit, .instanceMethod objectInit, .code objectInit ⟨#[0xb1]⟩ 1 none, .fieldLink RX1 9 "Probeweb$Check" "number" "I", .fieldLink RX1 15 "Probeweb$Check" "interval" "I", .fieldLink RX1 18 "Probeweb$Check" "offset" "I", .fieldLink RX1 21 "Probeweb$Check" "repetitions" "I", .fieldLink RX1 24 "Probeweb$Check" "quorum" "I", .arrayClass .int, .fieldLink RX1 27 "Probeweb$Check" "votes" "[I", .fieldLink RX1 31 "Probeweb$Check" "planned" "[I", .fieldLink RX1 34 "Probeweb$Check" "plannedMinute" "[I"] ++ wsX10)
def wsX1_nextMinuteFrom : List Cond := .code yX1_nextMinuteFrom cX1_nextMinuteFrom 5 (some .int) :: ([.fieldLink RX1 31 "Probeweb$Check" "planned" "[I", .fieldLink RX1 34 "Probeweb$Check" "plannedMinute" "[I", .fieldLink RX1 18 "Probeweb$Check" "offset" "I", .fieldLink RX1 15 "Probeweb$Check" "interval" "I"] ++ wsX10)
def wsX1_isDue : List Cond := .code yX1_isDue cX1_isDue 3 (some .boolean) :: ([.methodLink RX1 37 yX1_nextMinuteFrom, .instanceMethod yX1_nextMinuteFrom, .selects RX1 yX1_nextMinuteFrom yX1_nextMinuteFrom, .initialized RX1, .code yX1_nextMinuteFrom cX1_nextMinuteFrom 5 (some .int), .fieldLink RX1 31 "Probeweb$Check" "planned" "[I", .fieldLink RX1 34 "Probeweb$Check" "plannedMinute" "[I", .fieldLink RX1 18 "Probeweb$Check" "offset" "I", .fieldLink RX1 15 "Probeweb$Check" "interval" "I"] ++ wsX10)
def wsX1_takeSuccess : List Cond := .code yX1_takeSuccess cX1_takeSuccess 2 none :: ([.fieldLink RX1 31 "Probeweb$Check" "planned" "[I", .fieldLink RX1 27 "Probeweb$Check" "votes" "[I"] ++ wsX10)
def wsX1_takeFailure : List Cond := .code yX1_takeFailure cX1_takeFailure 4 none :: ([.fieldLink RX1 31 "Probeweb$Check" "planned" "[I", .fieldLink RX1 27 "Probeweb$Check" "votes" "[I", .fieldLink RX1 21 "Probeweb$Check" "repetitions" "I", .fieldLink RX1 34 "Probeweb$Check" "plannedMinute" "[I", .fieldLink RX1 9 "Probeweb$Check" "number" "I"] ++ wsX10)
def wsX4_holds : List Cond := .code yX4_holds cX4_holds 2 (some .boolean) :: ([])
def wsJ6_bitCount_0f7a4 : List Cond := .code yJ6_bitCount_0f7a4 cJ6_bitCount_0f7a4 1 (some .int) :: ([.constant RJ6 265 (1431655765), .constant RJ6 266 (858993459), .constant RJ6 267 (252645135)])
def wsX1_judge : List Cond := .code yX1_judge cX1_judge 4 none :: ([.fieldLink RX1 27 "Probeweb$Check" "votes" "[I", .fieldLink RX1 24 "Probeweb$Check" "quorum" "I", .fieldLink RX1 51 "Probeweb$Check" "lastVerdict" "I", .static yX4_holds, .initialized RX4, .code yX4_holds cX4_holds 2 (some .boolean), .methodLink RX1 45 yJ6_bitCount_0f7a4, .static yJ6_bitCount_0f7a4, .initialized RJ6, .code yJ6_bitCount_0f7a4 cJ6_bitCount_0f7a4 1 (some .int), .constant RJ6 265 (1431655765), .constant RJ6 266 (858993459), .constant RJ6 267 (252645135)] ++ wsX10)
def wsX4_withRegion : List Cond := .code yX4_withRegion cX4_withRegion 3 (some .int) :: ([])
def wsX2_init : List Cond := .code yX2_init cX2_init 3 none :: ([.methodLink RX2 1 objectInit, .instanceMethod objectInit, .code objectInit ⟨#[0xb1]⟩ 1 none, .fieldLink RX2 7 "Probeweb$Region" "number" "I", .fieldLink RX2 19 "Probeweb$Region" "path" "I", .static yX4_withRegion, .initialized RX4, .code yX4_withRegion cX4_withRegion 3 (some .int)] ++ wsX20)
def wsX3_init : List Cond := .code yX3_init cX3_init 4 none :: ([.methodLink RX3 1 objectInit, .instanceMethod objectInit, .code objectInit ⟨#[0xb1]⟩ 1 none, .fieldLink RX3 7 "Probeweb$Window" "check" "I", .fieldLink RX3 13 "Probeweb$Window" "first" "I", .fieldLink RX3 16 "Probeweb$Window" "last" "I"] ++ wsX30)
def wsX3_contains : List Cond := .code yX3_contains cX3_contains 2 (some .boolean) :: ([.fieldLink RX3 13 "Probeweb$Window" "first" "I", .fieldLink RX3 16 "Probeweb$Window" "last" "I"] ++ wsX30)
def wsX3_endAfter : List Cond := .code yX3_endAfter cX3_endAfter 2 none :: ([.fieldLink RX3 16 "Probeweb$Window" "last" "I", .methodLink RX3 19 Lib.Math.min.name, .static Lib.Math.min.name, .initialized "java/lang/Math", .code Lib.Math.min.name Lib.Math.min.code 2 (some .int)] ++ wsX30)
def wsX3_length : List Cond := .code yX3_length cX3_length 1 (some .int) :: ([.fieldLink RX3 16 "Probeweb$Window" "last" "I", .fieldLink RX3 13 "Probeweb$Window" "first" "I", .methodLink RX3 25 Lib.Math.max.name, .static Lib.Math.max.name, .initialized "java/lang/Math", .code Lib.Math.max.name Lib.Math.max.code 2 (some .int)] ++ wsX30)
def wsJxa1e45_init_da8c8 : List Cond := .code yJxa1e45_init_da8c8 cJxa1e45_init_da8c8 1 none :: ([.methodLink RJxa1e45 1 objectInit, .instanceMethod objectInit, .code objectInit ⟨#[0xb1]⟩ 1 none])
def wsJxc12de_init_da8c8 : List Cond := .code yJxc12de_init_da8c8 cJxc12de_init_da8c8 1 none :: ([.fieldLink RJxc12de 7 "java/util/AbstractList" "modCount" "I", .methodLink RJxc12de 1 yJxa1e45_init_da8c8, .instanceMethod yJxa1e45_init_da8c8, .initialized RJxa1e45, .code yJxa1e45_init_da8c8 cJxa1e45_init_da8c8 1 none, .methodLink RJxa1e45 1 objectInit, .instanceMethod objectInit, .code objectInit ⟨#[0xb1]⟩ 1 none] ++ wsJx4a65c0)
def wsJx4a65c_init_da8c8 : List Cond := .code yJx4a65c_init_da8c8 cJx4a65c_init_da8c8 1 none :: ([.fieldLink RJx4a65c 39 "java/util/ArrayList" "DEFAULTCAPACITY_EMPTY_ELEMENTDATA" "[Ljava/lang/Object;", .fieldLink RJx4a65c 9 "java/util/ArrayList" "elementData" "[Ljava/lang/Object;", .methodLink RJx4a65c 1 yJxc12de_init_da8c8, .instanceMethod yJxc12de_init_da8c8, .initialized RJxc12de, .code yJxc12de_init_da8c8 cJxc12de_init_da8c8 1 none, .fieldLink RJxc12de 7 "java/util/AbstractList" "modCount" "I", .methodLink RJxc12de 1 yJxa1e45_init_da8c8, .instanceMethod yJxa1e45_init_da8c8, .initialized RJxa1e45, .code yJxa1e45_init_da8c8 cJxa1e45_init_da8c8 1 none, .methodLink RJxa1e45 1 objectInit, .instanceMethod objectInit, .code objectInit ⟨#[0xb1]⟩ 1 none] ++ wsJx4a65c0)
def wsX4_init_r1 : List Cond := [Cond.methodLink RX4 1 objectInit, Cond.instanceMethod objectInit, Cond.code objectInit ⟨#[0xb1]⟩ 1 none, Cond.classLink RX4 7 RJx4a65c, Cond.instantiable RJx4a65c 3, Cond.initialized RJx4a65c, Cond.fieldLink RX4 10 "Probeweb" "regions" "Ljava/util/ArrayList;", Cond.fieldLink RX4 16 "Probeweb" "checks" "Ljava/util/ArrayList;", Cond.fieldLink RX4 19 "Probeweb" "windows" "Ljava/util/ArrayList;", Cond.fieldLink RX4 22 "Probeweb" "alarmLog" "Ljava/util/ArrayList;", Cond.fieldLink RX4 25 "Probeweb" "cutRegions" "I", Cond.fieldLink RX4 29 "Probeweb" "badRegions" "I", Cond.fieldLink RX4 32 "Probeweb" "minute" "I", Cond.methodLink RX4 9 yJx4a65c_init_da8c8, Cond.instanceMethod yJx4a65c_init_da8c8, Cond.code yJx4a65c_init_da8c8 cJx4a65c_init_da8c8 1 none, Cond.fieldLink RJx4a65c 39 "java/util/ArrayList" "DEFAULTCAPACITY_EMPTY_ELEMENTDATA" "[Ljava/lang/Object;", Cond.fieldLink RJx4a65c 9 "java/util/ArrayList" "elementData" "[Ljava/lang/Object;", Cond.methodLink RJx4a65c 1 yJxc12de_init_da8c8, Cond.instanceMethod yJxc12de_init_da8c8, Cond.initialized RJxc12de, Cond.code yJxc12de_init_da8c8 cJxc12de_init_da8c8 1 none, Cond.fieldLink RJxc12de 7 "java/util/AbstractList" "modCount" "I", Cond.methodLink RJxc12de 1 yJxa1e45_init_da8c8]
def wsX4_init_r2 : List Cond := [Cond.instanceMethod yJxa1e45_init_da8c8, Cond.initialized RJxa1e45, Cond.code yJxa1e45_init_da8c8 cJxa1e45_init_da8c8 1 none, Cond.methodLink RJxa1e45 1 objectInit]
def wsX4_init : List Cond := .code yX4_init cX4_init 1 none :: ((wsX4_init_r1 ++ wsX4_init_r2) ++ wsJx4a65c0 ++ wsX40)
def wsJx4a65c_size_8abf5 : List Cond := .code yJx4a65c_size_8abf5 cJx4a65c_size_8abf5 1 (some .int) :: ([.fieldLink RJx4a65c 48 "java/util/ArrayList" "size" "I"] ++ wsJx4a65c0)
def wsX4_requireRegion : List Cond := .code yX4_requireRegion cX4_requireRegion 2 none :: ([.classLink RX4 101 "java/lang/IndexOutOfBoundsException", .initialized "java/lang/IndexOutOfBoundsException", .fieldLink RX4 10 "Probeweb" "regions" "Ljava/util/ArrayList;", .methodLink RX4 39 yJx4a65c_size_8abf5, .instanceMethod yJx4a65c_size_8abf5, .selects RJx4a65c yJx4a65c_size_8abf5 yJx4a65c_size_8abf5, .initialized RJx4a65c, .code yJx4a65c_size_8abf5 cJx4a65c_size_8abf5 1 (some .int), .fieldLink RJx4a65c 48 "java/util/ArrayList" "size" "I"] ++ wsX40 ++ wsJx4a65c0 ++ (vx_atS RX4 105 "java/lang/IndexOutOfBoundsException" ["java/lang/RuntimeException", "java/lang/Exception"]).filter goodWord)
def wsJ3_checkIndex_8e157 : List Cond := .code yJ3_checkIndex_8e157 cJ3_checkIndex_8e157 3 (some .int) :: ([])
def wsJ15_checkIndex_7cf53 : List Cond := .code yJ15_checkIndex_7cf53 cJ15_checkIndex_7cf53 2 (some .int) :: ([.methodLink RJ15 105 yJ3_checkIndex_8e157, .static yJ3_checkIndex_8e157, .initialized RJ3, .code yJ3_checkIndex_8e157 cJ3_checkIndex_8e157 3 (some .int)])
def wsJx4a65c_elementData_915e3 : List Cond := .code yJx4a65c_elementData_915e3 cJx4a65c_elementData_915e3 2 (some (.object "java/lang/Object")) :: ([.fieldLink RJx4a65c 9 "java/util/ArrayList" "elementData" "[Ljava/lang/Object;"] ++ wsJx4a65c0)
def wsJx4a65c_get_915e3 : List Cond := .code yJx4a65c_get_915e3 cJx4a65c_get_915e3 2 (some (.object "java/lang/Object")) :: ([.fieldLink RJx4a65c 48 "java/util/ArrayList" "size" "I", .methodLink RJx4a65c 118 yJ15_checkIndex_7cf53, .static yJ15_checkIndex_7cf53, .initialized RJ15, .code yJ15_checkIndex_7cf53 cJ15_checkIndex_7cf53 2 (some .int), .methodLink RJ15 105 yJ3_checkIndex_8e157, .static yJ3_checkIndex_8e157, .initialized RJ3, .code yJ3_checkIndex_8e157 cJ3_checkIndex_8e157 3 (some .int), .methodLink RJx4a65c 123 yJx4a65c_elementData_915e3, .instanceMethod yJx4a65c_elementData_915e3, .selects RJx4a65c yJx4a65c_elementData_915e3 yJx4a65c_elementData_915e3, .initialized RJx4a65c, .code yJx4a65c_elementData_915e3 cJx4a65c_elementData_915e3 2 (some (.object "java/lang/Object")), .fieldLink RJx4a65c 9 "java/util/ArrayList" "elementData" "[Ljava/lang/Object;"] ++ wsJx4a65c0)
def wsJ8_hugeLength_7cf53 : List Cond := .code yJ8_hugeLength_7cf53 cJ8_hugeLength_7cf53 3 (some .int) :: ([.constant RJ8 200 (2147483639)])
def wsJ8_newLength_cabcc : List Cond := .code yJ8_newLength_cabcc cJ8_newLength_cabcc 4 (some .int) :: ([.methodLink RJ8 194 Lib.Math.max.name, .static Lib.Math.max.name, .initialized "java/lang/Math", .code Lib.Math.max.name Lib.Math.max.code 2 (some .int), .constant RJ8 200 (2147483639), .methodLink RJ8 201 yJ8_hugeLength_7cf53, .static yJ8_hugeLength_7cf53, .initialized RJ8, .code yJ8_hugeLength_7cf53 cJ8_hugeLength_7cf53 3 (some .int)])
def wsJ7_copyOf_6403c : List Cond := .code yJ7_copyOf_6403c cJ7_copyOf_6403c 4 (some (.array (.object "java/lang/Object"))) :: ([.classLink RJ7 110 "[Ljava/lang/Object;", .classLink RJ7 2 "java/lang/Object", .methodLink RJ7 304 Lib.Math.min.name, .static Lib.Math.min.name, .initialized "java/lang/Math", .code Lib.Math.min.name Lib.Math.min.code 2 (some .int), .methodLink RJ7 150 arraycopyName, .native arraycopyName, .static arraycopyName, .initialized "java/lang/System"])
def wsJ7_copyOf_1904c : List Cond := .code yJ7_copyOf_1904c cJ7_copyOf_1904c 2 (some (.array (.object "java/lang/Object"))) :: ([.methodLink RJ7 86 ⟨"java/lang/Object", "getClass", "()Ljava/lang/Class;"⟩, .selects "[Ljava/lang/Object;" ⟨"java/lang/Object", "getClass", "()Ljava/lang/Class;"⟩ ⟨"java/lang/Object", "getClass", "()Ljava/lang/Class;"⟩, .instanceMethod ⟨"java/lang/Object", "getClass", "()Ljava/lang/Class;"⟩, .native ⟨"java/lang/Object", "getClass", "()Ljava/lang/Class;"⟩, .methodLink RJ7 300 yJ7_copyOf_6403c, .static yJ7_copyOf_6403c, .initialized RJ7, .code yJ7_copyOf_6403c cJ7_copyOf_6403c 4 (some (.array (.object "java/lang/Object"))), .classLink RJ7 110 "[Ljava/lang/Object;", .classLink RJ7 2 "java/lang/Object", .methodLink RJ7 304 Lib.Math.min.name, .static Lib.Math.min.name, .initialized "java/lang/Math", .code Lib.Math.min.name Lib.Math.min.code 2 (some .int), .methodLink RJ7 150 arraycopyName, .native arraycopyName, .static arraycopyName, .initialized "java/lang/System"])
def wsJx4a65c_grow_92f84_r1 : List Cond := [Cond.fieldLink RJx4a65c 9 "java/util/ArrayList" "elementData" "[Ljava/lang/Object;", Cond.fieldLink RJx4a65c 39 "java/util/ArrayList" "DEFAULTCAPACITY_EMPTY_ELEMENTDATA" "[Ljava/lang/Object;", Cond.methodLink RJx4a65c 79 Lib.Math.max.name, Cond.static Lib.Math.max.name, Cond.initialized "java/lang/Math", Cond.code Lib.Math.max.name Lib.Math.max.code 2 (some .int), Cond.classLink RJx4a65c 7 "java/lang/Object", Cond.methodLink RJx4a65c 73 yJ8_newLength_cabcc, Cond.static yJ8_newLength_cabcc, Cond.initialized RJ8, Cond.code yJ8_newLength_cabcc cJ8_newLength_cabcc 4 (some .int), Cond.methodLink RJ8 194 Lib.Math.max.name, Cond.constant RJ8 200 (2147483639), Cond.methodLink RJ8 201 yJ8_hugeLength_7cf53, Cond.static yJ8_hugeLength_7cf53, Cond.code yJ8_hugeLength_7cf53 cJ8_hugeLength_7cf53 3 (some .int), Cond.methodLink RJx4a65c 66 yJ7_copyOf_1904c, Cond.static yJ7_copyOf_1904c, Cond.initialized RJ7, Cond.code yJ7_copyOf_1904c cJ7_copyOf_1904c 2 (some (.array (.object "java/lang/Object"))), Cond.methodLink RJ7 86 ⟨"java/lang/Object", "getClass", "()Ljava/lang/Class;"⟩, Cond.selects "[Ljava/lang/Object;" ⟨"java/lang/Object", "getClass", "()Ljava/lang/Class;"⟩ ⟨"java/lang/Object", "getClass", "()Ljava/lang/Class;"⟩, Cond.instanceMethod ⟨"java/lang/Object", "getClass", "()Ljava/lang/Class;"⟩, Cond.native ⟨"java/lang/Object", "getClass", "()Ljava/lang/Class;"⟩]
def wsJx4a65c_grow_92f84_r2 : List Cond := [Cond.methodLink RJ7 300 yJ7_copyOf_6403c, Cond.static yJ7_copyOf_6403c, Cond.code yJ7_copyOf_6403c cJ7_copyOf_6403c 4 (some (.array (.object "java/lang/Object"))), Cond.classLink RJ7 110 "[Ljava/lang/Object;", Cond.classLink RJ7 2 "java/lang/Object", Cond.methodLink RJ7 304 Lib.Math.min.name, Cond.static Lib.Math.min.name, Cond.code Lib.Math.min.name Lib.Math.min.code 2 (some .int), Cond.methodLink RJ7 150 arraycopyName, Cond.native arraycopyName, Cond.static arraycopyName, Cond.initialized "java/lang/System"]
def wsJx4a65c_grow_92f84 : List Cond := .code yJx4a65c_grow_92f84 cJx4a65c_grow_92f84 4 (some (.array (.object "java/lang/Object"))) :: ((wsJx4a65c_grow_92f84_r1 ++ wsJx4a65c_grow_92f84_r2) ++ wsJx4a65c0)
def wsJx4a65c_grow_d5877_r1 : List Cond := [Cond.fieldLink RJx4a65c 48 "java/util/ArrayList" "size" "I", Cond.methodLink RJx4a65c 69 yJx4a65c_grow_92f84, Cond.instanceMethod yJx4a65c_grow_92f84, Cond.selects RJx4a65c yJx4a65c_grow_92f84 yJx4a65c_grow_92f84, Cond.initialized RJx4a65c, Cond.code yJx4a65c_grow_92f84 cJx4a65c_grow_92f84 4 (some (.array (.object "java/lang/Object"))), Cond.fieldLink RJx4a65c 9 "java/util/ArrayList" "elementData" "[Ljava/lang/Object;", Cond.fieldLink RJx4a65c 39 "java/util/ArrayList" "DEFAULTCAPACITY_EMPTY_ELEMENTDATA" "[Ljava/lang/Object;", Cond.methodLink RJx4a65c 79 Lib.Math.max.name, Cond.static Lib.Math.max.name, Cond.initialized "java/lang/Math", Cond.code Lib.Math.max.name Lib.Math.max.code 2 (some .int), Cond.classLink RJx4a65c 7 "java/lang/Object", Cond.methodLink RJx4a65c 73 yJ8_newLength_cabcc, Cond.static yJ8_newLength_cabcc, Cond.initialized RJ8, Cond.code yJ8_newLength_cabcc cJ8_newLength_cabcc 4 (some .int), Cond.methodLink RJ8 194 Lib.Math.max.name, Cond.constant RJ8 200 (2147483639), Cond.methodLink RJ8 201 yJ8_hugeLength_7cf53, Cond.static yJ8_hugeLength_7cf53, Cond.code yJ8_hugeLength_7cf53 cJ8_hugeLength_7cf53 3 (some .int), Cond.methodLink RJx4a65c 66 yJ7_copyOf_1904c, Cond.static yJ7_copyOf_1904c]
def wsJx4a65c_grow_d5877_r2 : List Cond := [Cond.initialized RJ7, Cond.code yJ7_copyOf_1904c cJ7_copyOf_1904c 2 (some (.array (.object "java/lang/Object"))), Cond.methodLink RJ7 86 ⟨"java/lang/Object", "getClass", "()Ljava/lang/Class;"⟩, Cond.selects "[Ljava/lang/Object;" ⟨"java/lang/Object", "getClass", "()Ljava/lang/Class;"⟩ ⟨"java/lang/Object", "getClass", "()Ljava/lang/Class;"⟩, Cond.instanceMethod ⟨"java/lang/Object", "getClass", "()Ljava/lang/Class;"⟩, Cond.native ⟨"java/lang/Object", "getClass", "()Ljava/lang/Class;"⟩, Cond.methodLink RJ7 300 yJ7_copyOf_6403c, Cond.static yJ7_copyOf_6403c, Cond.code yJ7_copyOf_6403c cJ7_copyOf_6403c 4 (some (.array (.object "java/lang/Object"))), Cond.classLink RJ7 110 "[Ljava/lang/Object;", Cond.classLink RJ7 2 "java/lang/Object", Cond.methodLink RJ7 304 Lib.Math.min.name, Cond.static Lib.Math.min.name, Cond.code Lib.Math.min.name Lib.Math.min.code 2 (some .int), Cond.methodLink RJ7 150 arraycopyName, Cond.native arraycopyName, Cond.static arraycopyName, Cond.initialized "java/lang/System"]
def wsJx4a65c_grow_d5877 : List Cond := .code yJx4a65c_grow_d5877 cJx4a65c_grow_d5877 1 (some (.array (.object "java/lang/Object"))) :: ((wsJx4a65c_grow_d5877_r1 ++ wsJx4a65c_grow_d5877_r2) ++ wsJx4a65c0)
def wsJx4a65c_add_72be8_r1 : List Cond := [Cond.fieldLink RJx4a65c 48 "java/util/ArrayList" "size" "I", Cond.methodLink RJx4a65c 129 yJx4a65c_grow_d5877, Cond.instanceMethod yJx4a65c_grow_d5877, Cond.selects RJx4a65c yJx4a65c_grow_d5877 yJx4a65c_grow_d5877, Cond.initialized RJx4a65c, Cond.code yJx4a65c_grow_d5877 cJx4a65c_grow_d5877 1 (some (.array (.object "java/lang/Object"))), Cond.methodLink RJx4a65c 69 yJx4a65c_grow_92f84, Cond.instanceMethod yJx4a65c_grow_92f84, Cond.selects RJx4a65c yJx4a65c_grow_92f84 yJx4a65c_grow_92f84, Cond.code yJx4a65c_grow_92f84 cJx4a65c_grow_92f84 4 (some (.array (.object "java/lang/Object"))), Cond.fieldLink RJx4a65c 9 "java/util/ArrayList" "elementData" "[Ljava/lang/Object;", Cond.fieldLink RJx4a65c 39 "java/util/ArrayList" "DEFAULTCAPACITY_EMPTY_ELEMENTDATA" "[Ljava/lang/Object;", Cond.methodLink RJx4a65c 79 Lib.Math.max.name, Cond.static Lib.Math.max.name, Cond.initialized "java/lang/Math", Cond.code Lib.Math.max.name Lib.Math.max.code 2 (some .int), Cond.classLink RJx4a65c 7 "java/lang/Object", Cond.methodLink RJx4a65c 73 yJ8_newLength_cabcc, Cond.static yJ8_newLength_cabcc, Cond.initialized RJ8, Cond.code yJ8_newLength_cabcc cJ8_newLength_cabcc 4 (some .int), Cond.methodLink RJ8 194 Lib.Math.max.name, Cond.constant RJ8 200 (2147483639), Cond.methodLink RJ8 201 yJ8_hugeLength_7cf53]
def wsJx4a65c_add_72be8_r2 : List Cond := [Cond.static yJ8_hugeLength_7cf53, Cond.code yJ8_hugeLength_7cf53 cJ8_hugeLength_7cf53 3 (some .int), Cond.methodLink RJx4a65c 66 yJ7_copyOf_1904c, Cond.static yJ7_copyOf_1904c, Cond.initialized RJ7, Cond.code yJ7_copyOf_1904c cJ7_copyOf_1904c 2 (some (.array (.object "java/lang/Object"))), Cond.methodLink RJ7 86 ⟨"java/lang/Object", "getClass", "()Ljava/lang/Class;"⟩, Cond.selects "[Ljava/lang/Object;" ⟨"java/lang/Object", "getClass", "()Ljava/lang/Class;"⟩ ⟨"java/lang/Object", "getClass", "()Ljava/lang/Class;"⟩, Cond.instanceMethod ⟨"java/lang/Object", "getClass", "()Ljava/lang/Class;"⟩, Cond.native ⟨"java/lang/Object", "getClass", "()Ljava/lang/Class;"⟩, Cond.methodLink RJ7 300 yJ7_copyOf_6403c, Cond.static yJ7_copyOf_6403c, Cond.code yJ7_copyOf_6403c cJ7_copyOf_6403c 4 (some (.array (.object "java/lang/Object"))), Cond.classLink RJ7 110 "[Ljava/lang/Object;", Cond.classLink RJ7 2 "java/lang/Object", Cond.methodLink RJ7 304 Lib.Math.min.name, Cond.static Lib.Math.min.name, Cond.code Lib.Math.min.name Lib.Math.min.code 2 (some .int), Cond.methodLink RJ7 150 arraycopyName, Cond.native arraycopyName, Cond.static arraycopyName, Cond.initialized "java/lang/System"]
def wsJx4a65c_add_72be8 : List Cond := .code yJx4a65c_add_72be8 cJx4a65c_add_72be8 4 none :: ((wsJx4a65c_add_72be8_r1 ++ wsJx4a65c_add_72be8_r2) ++ wsJx4a65c0)
def wsJx4a65c_add_9ea2d_r1 : List Cond := [Cond.fieldLink RJx4a65c 63 "java/util/ArrayList" "modCount" "I", Cond.sameField "java/util/ArrayList" "java/util/AbstractList" "modCount" "I", Cond.fieldLink RJx4a65c 9 "java/util/ArrayList" "elementData" "[Ljava/lang/Object;", Cond.fieldLink RJx4a65c 48 "java/util/ArrayList" "size" "I", Cond.methodLink RJx4a65c 131 yJx4a65c_add_72be8, Cond.instanceMethod yJx4a65c_add_72be8, Cond.selects RJx4a65c yJx4a65c_add_72be8 yJx4a65c_add_72be8, Cond.initialized RJx4a65c, Cond.code yJx4a65c_add_72be8 cJx4a65c_add_72be8 4 none, Cond.methodLink RJx4a65c 129 yJx4a65c_grow_d5877, Cond.instanceMethod yJx4a65c_grow_d5877, Cond.selects RJx4a65c yJx4a65c_grow_d5877 yJx4a65c_grow_d5877, Cond.code yJx4a65c_grow_d5877 cJx4a65c_grow_d5877 1 (some (.array (.object "java/lang/Object"))), Cond.methodLink RJx4a65c 69 yJx4a65c_grow_92f84, Cond.instanceMethod yJx4a65c_grow_92f84, Cond.selects RJx4a65c yJx4a65c_grow_92f84 yJx4a65c_grow_92f84, Cond.code yJx4a65c_grow_92f84 cJx4a65c_grow_92f84 4 (some (.array (.object "java/lang/Object"))), Cond.fieldLink RJx4a65c 39 "java/util/ArrayList" "DEFAULTCAPACITY_EMPTY_ELEMENTDATA" "[Ljava/lang/Object;", Cond.methodLink RJx4a65c 79 Lib.Math.max.name, Cond.static Lib.Math.max.name, Cond.initialized "java/lang/Math", Cond.code Lib.Math.max.name Lib.Math.max.code 2 (some .int), Cond.classLink RJx4a65c 7 "java/lang/Object", Cond.methodLink RJx4a65c 73 yJ8_newLength_cabcc]
def wsJx4a65c_add_9ea2d_r2 : List Cond := [Cond.static yJ8_newLength_cabcc, Cond.initialized RJ8, Cond.code yJ8_newLength_cabcc cJ8_newLength_cabcc 4 (some .int), Cond.methodLink RJ8 194 Lib.Math.max.name, Cond.constant RJ8 200 (2147483639), Cond.methodLink RJ8 201 yJ8_hugeLength_7cf53, Cond.static yJ8_hugeLength_7cf53, Cond.code yJ8_hugeLength_7cf53 cJ8_hugeLength_7cf53 3 (some .int), Cond.methodLink RJx4a65c 66 yJ7_copyOf_1904c, Cond.static yJ7_copyOf_1904c, Cond.initialized RJ7, Cond.code yJ7_copyOf_1904c cJ7_copyOf_1904c 2 (some (.array (.object "java/lang/Object"))), Cond.methodLink RJ7 86 ⟨"java/lang/Object", "getClass", "()Ljava/lang/Class;"⟩, Cond.selects "[Ljava/lang/Object;" ⟨"java/lang/Object", "getClass", "()Ljava/lang/Class;"⟩ ⟨"java/lang/Object", "getClass", "()Ljava/lang/Class;"⟩, Cond.instanceMethod ⟨"java/lang/Object", "getClass", "()Ljava/lang/Class;"⟩, Cond.native ⟨"java/lang/Object", "getClass", "()Ljava/lang/Class;"⟩, Cond.methodLink RJ7 300 yJ7_copyOf_6403c, Cond.static yJ7_copyOf_6403c, Cond.code yJ7_copyOf_6403c cJ7_copyOf_6403c 4 (some (.array (.object "java/lang/Object"))), Cond.classLink RJ7 110 "[Ljava/lang/Object;", Cond.classLink RJ7 2 "java/lang/Object", Cond.methodLink RJ7 304 Lib.Math.min.name, Cond.static Lib.Math.min.name, Cond.code Lib.Math.min.name Lib.Math.min.code 2 (some .int)]
def wsJx4a65c_add_9ea2d_r3 : List Cond := [Cond.methodLink RJ7 150 arraycopyName, Cond.native arraycopyName, Cond.static arraycopyName, Cond.initialized "java/lang/System"]
def wsJx4a65c_add_9ea2d : List Cond := .code yJx4a65c_add_9ea2d cJx4a65c_add_9ea2d 2 (some .boolean) :: ((wsJx4a65c_add_9ea2d_r1 ++ (wsJx4a65c_add_9ea2d_r2 ++ wsJx4a65c_add_9ea2d_r3)) ++ wsJx4a65c0)
def wsX4_addRegion_r1 : List Cond := [Cond.classLink RX4 43 "java/lang/IllegalStateException", Cond.initialized "java/lang/IllegalStateException", Cond.fieldLink RX4 10 "Probeweb" "regions" "Ljava/util/ArrayList;", Cond.classLink RX4 54 "Probeweb$Region", Cond.fieldLink RX4 56 "Probeweb$Region" "path" "I", Cond.classLink RX4 54 RX2, Cond.instantiable RX2 4, Cond.initialized RX2, Cond.methodLink RX4 35 yX4_requireRegion, Cond.instanceMethod yX4_requireRegion, Cond.selects RX4 yX4_requireRegion yX4_requireRegion, Cond.initialized RX4, Cond.code yX4_requireRegion cX4_requireRegion 2 none, Cond.classLink RX4 101 "java/lang/IndexOutOfBoundsException", Cond.initialized "java/lang/IndexOutOfBoundsException", Cond.methodLink RX4 39 yJx4a65c_size_8abf5, Cond.instanceMethod yJx4a65c_size_8abf5, Cond.selects RJx4a65c yJx4a65c_size_8abf5 yJx4a65c_size_8abf5, Cond.initialized RJx4a65c, Cond.code yJx4a65c_size_8abf5 cJx4a65c_size_8abf5 1 (some .int), Cond.fieldLink RJx4a65c 48 "java/util/ArrayList" "size" "I", Cond.methodLink RX4 50 yJx4a65c_get_915e3, Cond.instanceMethod yJx4a65c_get_915e3, Cond.selects RJx4a65c yJx4a65c_get_915e3 yJx4a65c_get_915e3]
def wsX4_addRegion_r2 : List Cond := [Cond.code yJx4a65c_get_915e3 cJx4a65c_get_915e3 2 (some (.object "java/lang/Object")), Cond.methodLink RJx4a65c 118 yJ15_checkIndex_7cf53, Cond.static yJ15_checkIndex_7cf53, Cond.initialized RJ15, Cond.code yJ15_checkIndex_7cf53 cJ15_checkIndex_7cf53 2 (some .int), Cond.methodLink RJ15 105 yJ3_checkIndex_8e157, Cond.static yJ3_checkIndex_8e157, Cond.initialized RJ3, Cond.code yJ3_checkIndex_8e157 cJ3_checkIndex_8e157 3 (some .int), Cond.methodLink RJx4a65c 123 yJx4a65c_elementData_915e3, Cond.instanceMethod yJx4a65c_elementData_915e3, Cond.selects RJx4a65c yJx4a65c_elementData_915e3 yJx4a65c_elementData_915e3, Cond.code yJx4a65c_elementData_915e3 cJx4a65c_elementData_915e3 2 (some (.object "java/lang/Object")), Cond.fieldLink RJx4a65c 9 "java/util/ArrayList" "elementData" "[Ljava/lang/Object;", Cond.methodLink RX4 59 yX2_init, Cond.instanceMethod yX2_init, Cond.code yX2_init cX2_init 3 none, Cond.methodLink RX2 1 objectInit, Cond.instanceMethod objectInit, Cond.code objectInit ⟨#[0xb1]⟩ 1 none, Cond.fieldLink RX2 7 "Probeweb$Region" "number" "I", Cond.fieldLink RX2 19 "Probeweb$Region" "path" "I", Cond.static yX4_withRegion, Cond.code yX4_withRegion cX4_withRegion 3 (some .int)]
def wsX4_addRegion_r3 : List Cond := [Cond.methodLink RX4 62 yJx4a65c_add_9ea2d, Cond.instanceMethod yJx4a65c_add_9ea2d, Cond.selects RJx4a65c yJx4a65c_add_9ea2d yJx4a65c_add_9ea2d, Cond.code yJx4a65c_add_9ea2d cJx4a65c_add_9ea2d 2 (some .boolean), Cond.fieldLink RJx4a65c 63 "java/util/ArrayList" "modCount" "I", Cond.sameField "java/util/ArrayList" "java/util/AbstractList" "modCount" "I", Cond.methodLink RJx4a65c 131 yJx4a65c_add_72be8, Cond.instanceMethod yJx4a65c_add_72be8, Cond.selects RJx4a65c yJx4a65c_add_72be8 yJx4a65c_add_72be8, Cond.code yJx4a65c_add_72be8 cJx4a65c_add_72be8 4 none, Cond.methodLink RJx4a65c 129 yJx4a65c_grow_d5877, Cond.instanceMethod yJx4a65c_grow_d5877, Cond.selects RJx4a65c yJx4a65c_grow_d5877 yJx4a65c_grow_d5877, Cond.code yJx4a65c_grow_d5877 cJx4a65c_grow_d5877 1 (some (.array (.object "java/lang/Object"))), Cond.methodLink RJx4a65c 69 yJx4a65c_grow_92f84, Cond.instanceMethod yJx4a65c_grow_92f84, Cond.selects RJx4a65c yJx4a65c_grow_92f84 yJx4a65c_grow_92f84, Cond.code yJx4a65c_grow_92f84 cJx4a65c_grow_92f84 4 (some (.array (.object "java/lang/Object"))), Cond.fieldLink RJx4a65c 39 "java/util/ArrayList" "DEFAULTCAPACITY_EMPTY_ELEMENTDATA" "[Ljava/lang/Object;", Cond.methodLink RJx4a65c 79 Lib.Math.max.name, Cond.static Lib.Math.max.name, Cond.initialized "java/lang/Math", Cond.code Lib.Math.max.name Lib.Math.max.code 2 (some .int), Cond.classLink RJx4a65c 7 "java/lang/Object"]
def wsX4_addRegion_r4 : List Cond := [Cond.methodLink RJx4a65c 73 yJ8_newLength_cabcc, Cond.static yJ8_newLength_cabcc, Cond.initialized RJ8, Cond.code yJ8_newLength_cabcc cJ8_newLength_cabcc 4 (some .int), Cond.methodLink RJ8 194 Lib.Math.max.name, Cond.constant RJ8 200 (2147483639), Cond.methodLink RJ8 201 yJ8_hugeLength_7cf53, Cond.static yJ8_hugeLength_7cf53, Cond.code yJ8_hugeLength_7cf53 cJ8_hugeLength_7cf53 3 (some .int), Cond.methodLink RJx4a65c 66 yJ7_copyOf_1904c, Cond.static yJ7_copyOf_1904c, Cond.initialized RJ7, Cond.code yJ7_copyOf_1904c cJ7_copyOf_1904c 2 (some (.array (.object "java/lang/Object"))), Cond.methodLink RJ7 86 ⟨"java/lang/Object", "getClass", "()Ljava/lang/Class;"⟩, Cond.selects "[Ljava/lang/Object;" ⟨"java/lang/Object", "getClass", "()Ljava/lang/Class;"⟩ ⟨"java/lang/Object", "getClass", "()Ljava/lang/Class;"⟩, Cond.instanceMethod ⟨"java/lang/Object", "getClass", "()Ljava/lang/Class;"⟩, Cond.native ⟨"java/lang/Object", "getClass", "()Ljava/lang/Class;"⟩, Cond.methodLink RJ7 300 yJ7_copyOf_6403c, Cond.static yJ7_copyOf_6403c, Cond.code yJ7_copyOf_6403c cJ7_copyOf_6403c 4 (some (.array (.object "java/lang/Object"))), Cond.classLink RJ7 110 "[Ljava/lang/Object;", Cond.classLink RJ7 2 "java/lang/Object", Cond.methodLink RJ7 304 Lib.Math.min.name, Cond.static Lib.Math.min.name]
def wsX4_addRegion_r5 : List Cond := [Cond.code Lib.Math.min.name Lib.Math.min.code 2 (some .int), Cond.methodLink RJ7 150 arraycopyName, Cond.native arraycopyName, Cond.static arraycopyName, Cond.initialized "java/lang/System"]
def wsX4_addRegion : List Cond := .code yX4_addRegion cX4_addRegion 4 (some .int) :: ((wsX4_addRegion_r1 ++ (wsX4_addRegion_r2 ++ (wsX4_addRegion_r3 ++ (wsX4_addRegion_r4 ++ wsX4_addRegion_r5)))) ++ wsX40 ++ wsX20 ++ wsJx4a65c0 ++ (vx_atS RX4 47 "java/lang/IllegalStateException" ["java/lang/RuntimeException", "java/lang/Exception"]).filter goodWord ++ (vx_atS RX4 105 "java/lang/IndexOutOfBoundsException" ["java/lang/RuntimeException", "java/lang/Exception"]).filter goodWord)
def wsX4_requireRange : List Cond := .code yX4_requireRange cX4_requireRange 3 none :: ([.classLink RX4 175 "java/lang/IllegalArgumentException", .initialized "java/lang/IllegalArgumentException"] ++ (vx_atS RX4 179 "java/lang/IllegalArgumentException" ["java/lang/RuntimeException", "java/lang/Exception"]).filter goodWord)
def wsX4_addCheck_r1 : List Cond := [Cond.classLink RX4 43 "java/lang/IllegalStateException", Cond.initialized "java/lang/IllegalStateException", Cond.fieldLink RX4 16 "Probeweb" "checks" "Ljava/util/ArrayList;", Cond.classLink RX4 72 RX1, Cond.instantiable RX1 13, Cond.initialized RX1, Cond.methodLink RX4 66 yX4_requireRange, Cond.static yX4_requireRange, Cond.initialized RX4, Cond.code yX4_requireRange cX4_requireRange 3 none, Cond.classLink RX4 175 "java/lang/IllegalArgumentException", Cond.initialized "java/lang/IllegalArgumentException", Cond.methodLink RX4 39 yJx4a65c_size_8abf5, Cond.instanceMethod yJx4a65c_size_8abf5, Cond.selects RJx4a65c yJx4a65c_size_8abf5 yJx4a65c_size_8abf5, Cond.initialized RJx4a65c, Cond.code yJx4a65c_size_8abf5 cJx4a65c_size_8abf5 1 (some .int), Cond.fieldLink RJx4a65c 48 "java/util/ArrayList" "size" "I", Cond.methodLink RX4 74 yX1_init, Cond.instanceMethod yX1_init, Cond.code yX1_init cX1_init 6 none, Cond.methodLink RX1 3 objectInit, Cond.instanceMethod objectInit, Cond.code objectInit ⟨#[0xb1]⟩ 1 none]
def wsX4_addCheck_r2 : List Cond := [Cond.fieldLink RX1 9 "Probeweb$Check" "number" "I", Cond.fieldLink RX1 15 "Probeweb$Check" "interval" "I", Cond.fieldLink RX1 18 "Probeweb$Check" "offset" "I", Cond.fieldLink RX1 21 "Probeweb$Check" "repetitions" "I", Cond.fieldLink RX1 24 "Probeweb$Check" "quorum" "I", Cond.arrayClass .int, Cond.fieldLink RX1 27 "Probeweb$Check" "votes" "[I", Cond.fieldLink RX1 31 "Probeweb$Check" "planned" "[I", Cond.fieldLink RX1 34 "Probeweb$Check" "plannedMinute" "[I", Cond.methodLink RX4 62 yJx4a65c_add_9ea2d, Cond.instanceMethod yJx4a65c_add_9ea2d, Cond.selects RJx4a65c yJx4a65c_add_9ea2d yJx4a65c_add_9ea2d, Cond.code yJx4a65c_add_9ea2d cJx4a65c_add_9ea2d 2 (some .boolean), Cond.fieldLink RJx4a65c 63 "java/util/ArrayList" "modCount" "I", Cond.sameField "java/util/ArrayList" "java/util/AbstractList" "modCount" "I", Cond.fieldLink RJx4a65c 9 "java/util/ArrayList" "elementData" "[Ljava/lang/Object;", Cond.methodLink RJx4a65c 131 yJx4a65c_add_72be8, Cond.instanceMethod yJx4a65c_add_72be8, Cond.selects RJx4a65c yJx4a65c_add_72be8 yJx4a65c_add_72be8, Cond.code yJx4a65c_add_72be8 cJx4a65c_add_72be8 4 none, Cond.methodLink RJx4a65c 129 yJx4a65c_grow_d5877, Cond.instanceMethod yJx4a65c_grow_d5877, Cond.selects RJx4a65c yJx4a65c_grow_d5877 yJx4a65c_grow_d5877, Cond.code yJx4a65c_grow_d5877 cJx4a65c_grow_d5877 1 (some (.array (.object "java/lang/Object")))]
def wsX4_addCheck_r3 : List Cond := [Cond.methodLink RJx4a65c 69 yJx4a65c_grow_92f84, Cond.instanceMethod yJx4a65c_grow_92f84, Cond.selects RJx4a65c yJx4a65c_grow_92f84 yJx4a65c_grow_92f84, Cond.code yJx4a65c_grow_92f84 cJx4a65c_grow_92f84 4 (some (.array (.object "java/lang/Object"))), Cond.fieldLink RJx4a65c 39 "java/util/ArrayList" "DEFAULTCAPACITY_EMPTY_ELEMENTDATA" "[Ljava/lang/Object;", Cond.methodLink RJx4a65c 79 Lib.Math.max.name, Cond.static Lib.Math.max.name, Cond.initialized "java/lang/Math", Cond.code Lib.Math.max.name Lib.Math.max.code 2 (some .int), Cond.classLink RJx4a65c 7 "java/lang/Object", Cond.methodLink RJx4a65c 73 yJ8_newLength_cabcc, Cond.static yJ8_newLength_cabcc, Cond.initialized RJ8, Cond.code yJ8_newLength_cabcc cJ8_newLength_cabcc 4 (some .int), Cond.methodLink RJ8 194 Lib.Math.max.name, Cond.constant RJ8 200 (2147483639), Cond.methodLink RJ8 201 yJ8_hugeLength_7cf53, Cond.static yJ8_hugeLength_7cf53, Cond.code yJ8_hugeLength_7cf53 cJ8_hugeLength_7cf53 3 (some .int), Cond.methodLink RJx4a65c 66 yJ7_copyOf_1904c, Cond.static yJ7_copyOf_1904c, Cond.initialized RJ7, Cond.code yJ7_copyOf_1904c cJ7_copyOf_1904c 2 (some (.array (.object "java/lang/Object"))), Cond.methodLink RJ7 86 ⟨"java/lang/Object", "getClass", "()Ljava/lang/Class;"⟩]
def wsX4_addCheck_r4 : List Cond := [Cond.selects "[Ljava/lang/Object;" ⟨"java/lang/Object", "getClass", "()Ljava/lang/Class;"⟩ ⟨"java/lang/Object", "getClass", "()Ljava/lang/Class;"⟩, Cond.instanceMethod ⟨"java/lang/Object", "getClass", "()Ljava/lang/Class;"⟩, Cond.native ⟨"java/lang/Object", "getClass", "()Ljava/lang/Class;"⟩, Cond.methodLink RJ7 300 yJ7_copyOf_6403c, Cond.static yJ7_copyOf_6403c, Cond.code yJ7_copyOf_6403c cJ7_copyOf_6403c 4 (some (.array (.object "java/lang/Object"))), Cond.classLink RJ7 110 "[Ljava/lang/Object;", Cond.classLink RJ7 2 "java/lang/Object", Cond.methodLink RJ7 304 Lib.Math.min.name, Cond.static Lib.Math.min.name, Cond.code Lib.Math.min.name Lib.Math.min.code 2 (some .int), Cond.methodLink RJ7 150 arraycopyName, Cond.native arraycopyName, Cond.static arraycopyName, Cond.initialized "java/lang/System"]
def wsX4_addCheck : List Cond := .code yX4_addCheck cX4_addCheck 6 (some .int) :: ((wsX4_addCheck_r1 ++ (wsX4_addCheck_r2 ++ (wsX4_addCheck_r3 ++ wsX4_addCheck_r4))) ++ wsX40 ++ wsX10 ++ wsJx4a65c0 ++ (vx_atS RX4 47 "java/lang/IllegalStateException" ["java/lang/RuntimeException", "java/lang/Exception"]).filter goodWord ++ (vx_atS RX4 179 "java/lang/IllegalArgumentException" ["java/lang/RuntimeException", "java/lang/Exception"]).filter goodWord)
def wsX4_requireCheck : List Cond := .code yX4_requireCheck cX4_requireCheck 2 none :: ([.classLink RX4 101 "java/lang/IndexOutOfBoundsException", .initialized "java/lang/IndexOutOfBoundsException", .fieldLink RX4 16 "Probeweb" "checks" "Ljava/util/ArrayList;", .methodLink RX4 39 yJx4a65c_size_8abf5, .instanceMethod yJx4a65c_size_8abf5, .selects RJx4a65c yJx4a65c_size_8abf5 yJx4a65c_size_8abf5, .initialized RJx4a65c, .code yJx4a65c_size_8abf5 cJx4a65c_size_8abf5 1 (some .int), .fieldLink RJx4a65c 48 "java/util/ArrayList" "size" "I"] ++ wsX40 ++ wsJx4a65c0 ++ (vx_atS RX4 105 "java/lang/IndexOutOfBoundsException" ["java/lang/RuntimeException", "java/lang/Exception"]).filter goodWord)
def wsX4_setDown_r1 : List Cond := [Cond.fieldLink RX4 16 "Probeweb" "checks" "Ljava/util/ArrayList;", Cond.classLink RX4 72 "Probeweb$Check", Cond.fieldLink RX4 80 "Probeweb$Check" "downRegions" "I", Cond.methodLink RX4 77 yX4_requireCheck, Cond.instanceMethod yX4_requireCheck, Cond.selects RX4 yX4_requireCheck yX4_requireCheck, Cond.initialized RX4, Cond.code yX4_requireCheck cX4_requireCheck 2 none, Cond.classLink RX4 101 "java/lang/IndexOutOfBoundsException", Cond.initialized "java/lang/IndexOutOfBoundsException", Cond.methodLink RX4 39 yJx4a65c_size_8abf5, Cond.instanceMethod yJx4a65c_size_8abf5, Cond.selects RJx4a65c yJx4a65c_size_8abf5 yJx4a65c_size_8abf5, Cond.initialized RJx4a65c, Cond.code yJx4a65c_size_8abf5 cJx4a65c_size_8abf5 1 (some .int), Cond.fieldLink RJx4a65c 48 "java/util/ArrayList" "size" "I", Cond.methodLink RX4 35 yX4_requireRegion, Cond.instanceMethod yX4_requireRegion, Cond.selects RX4 yX4_requireRegion yX4_requireRegion, Cond.code yX4_requireRegion cX4_requireRegion 2 none, Cond.fieldLink RX4 10 "Probeweb" "regions" "Ljava/util/ArrayList;", Cond.methodLink RX4 50 yJx4a65c_get_915e3, Cond.instanceMethod yJx4a65c_get_915e3, Cond.selects RJx4a65c yJx4a65c_get_915e3 yJx4a65c_get_915e3]
def wsX4_setDown_r2 : List Cond := [Cond.code yJx4a65c_get_915e3 cJx4a65c_get_915e3 2 (some (.object "java/lang/Object")), Cond.methodLink RJx4a65c 118 yJ15_checkIndex_7cf53, Cond.static yJ15_checkIndex_7cf53, Cond.initialized RJ15, Cond.code yJ15_checkIndex_7cf53 cJ15_checkIndex_7cf53 2 (some .int), Cond.methodLink RJ15 105 yJ3_checkIndex_8e157, Cond.static yJ3_checkIndex_8e157, Cond.initialized RJ3, Cond.code yJ3_checkIndex_8e157 cJ3_checkIndex_8e157 3 (some .int), Cond.methodLink RJx4a65c 123 yJx4a65c_elementData_915e3, Cond.instanceMethod yJx4a65c_elementData_915e3, Cond.selects RJx4a65c yJx4a65c_elementData_915e3 yJx4a65c_elementData_915e3, Cond.code yJx4a65c_elementData_915e3 cJx4a65c_elementData_915e3 2 (some (.object "java/lang/Object")), Cond.fieldLink RJx4a65c 9 "java/util/ArrayList" "elementData" "[Ljava/lang/Object;", Cond.methodLink RX4 83 yX4_holds, Cond.static yX4_holds, Cond.code yX4_holds cX4_holds 2 (some .boolean), Cond.methodLink RX4 87 yX4_withRegion, Cond.static yX4_withRegion, Cond.code yX4_withRegion cX4_withRegion 3 (some .int)]
def wsX4_setDown : List Cond := .code yX4_setDown cX4_setDown 6 (some .boolean) :: ((wsX4_setDown_r1 ++ wsX4_setDown_r2) ++ wsX40 ++ wsX10 ++ wsJx4a65c0 ++ (vx_atS RX4 105 "java/lang/IndexOutOfBoundsException" ["java/lang/RuntimeException", "java/lang/Exception"]).filter goodWord)
def wsX4_setCut : List Cond := .code yX4_setCut cX4_setCut 4 (some .boolean) :: ([.fieldLink RX4 25 "Probeweb" "cutRegions" "I", .methodLink RX4 35 yX4_requireRegion, .instanceMethod yX4_requireRegion, .selects RX4 yX4_requireRegion yX4_requireRegion, .initialized RX4, .code yX4_requireRegion cX4_requireRegion 2 none, .classLink RX4 101 "java/lang/IndexOutOfBoundsException", .initialized "java/lang/IndexOutOfBoundsException", .fieldLink RX4 10 "Probeweb" "regions" "Ljava/util/ArrayList;", .methodLink RX4 39 yJx4a65c_size_8abf5, .instanceMethod yJx4a65c_size_8abf5, .selects RJx4a65c yJx4a65c_size_8abf5 yJx4a65c_size_8abf5, .initialized RJx4a65c, .code yJx4a65c_size_8abf5 cJx4a65c_size_8abf5 1 (some .int), .fieldLink RJx4a65c 48 "java/util/ArrayList" "size" "I", .methodLink RX4 83 yX4_holds, .static yX4_holds, .code yX4_holds cX4_holds 2 (some .boolean), .methodLink RX4 87 yX4_withRegion, .static yX4_withRegion, .code yX4_withRegion cX4_withRegion 3 (some .int)] ++ wsX40 ++ wsJx4a65c0 ++ (vx_atS RX4 105 "java/lang/IndexOutOfBoundsException" ["java/lang/RuntimeException", "java/lang/Exception"]).filter goodWord)
def wsX4_setQuorum_r1 : List Cond := [Cond.fieldLink RX4 16 "Probeweb" "checks" "Ljava/util/ArrayList;", Cond.classLink RX4 72 "Probeweb$Check", Cond.fieldLink RX4 91 "Probeweb$Check" "quorum" "I", Cond.methodLink RX4 77 yX4_requireCheck, Cond.instanceMethod yX4_requireCheck, Cond.selects RX4 yX4_requireCheck yX4_requireCheck, Cond.initialized RX4, Cond.code yX4_requireCheck cX4_requireCheck 2 none, Cond.classLink RX4 101 "java/lang/IndexOutOfBoundsException", Cond.initialized "java/lang/IndexOutOfBoundsException", Cond.methodLink RX4 39 yJx4a65c_size_8abf5, Cond.instanceMethod yJx4a65c_size_8abf5, Cond.selects RJx4a65c yJx4a65c_size_8abf5 yJx4a65c_size_8abf5, Cond.initialized RJx4a65c, Cond.code yJx4a65c_size_8abf5 cJx4a65c_size_8abf5 1 (some .int), Cond.fieldLink RJx4a65c 48 "java/util/ArrayList" "size" "I", Cond.methodLink RX4 66 yX4_requireRange, Cond.static yX4_requireRange, Cond.code yX4_requireRange cX4_requireRange 3 none, Cond.classLink RX4 175 "java/lang/IllegalArgumentException", Cond.initialized "java/lang/IllegalArgumentException", Cond.methodLink RX4 50 yJx4a65c_get_915e3, Cond.instanceMethod yJx4a65c_get_915e3, Cond.selects RJx4a65c yJx4a65c_get_915e3 yJx4a65c_get_915e3]
def wsX4_setQuorum_r2 : List Cond := [Cond.code yJx4a65c_get_915e3 cJx4a65c_get_915e3 2 (some (.object "java/lang/Object")), Cond.methodLink RJx4a65c 118 yJ15_checkIndex_7cf53, Cond.static yJ15_checkIndex_7cf53, Cond.initialized RJ15, Cond.code yJ15_checkIndex_7cf53 cJ15_checkIndex_7cf53 2 (some .int), Cond.methodLink RJ15 105 yJ3_checkIndex_8e157, Cond.static yJ3_checkIndex_8e157, Cond.initialized RJ3, Cond.code yJ3_checkIndex_8e157 cJ3_checkIndex_8e157 3 (some .int), Cond.methodLink RJx4a65c 123 yJx4a65c_elementData_915e3, Cond.instanceMethod yJx4a65c_elementData_915e3, Cond.selects RJx4a65c yJx4a65c_elementData_915e3 yJx4a65c_elementData_915e3, Cond.code yJx4a65c_elementData_915e3 cJx4a65c_elementData_915e3 2 (some (.object "java/lang/Object")), Cond.fieldLink RJx4a65c 9 "java/util/ArrayList" "elementData" "[Ljava/lang/Object;"]
def wsX4_setQuorum : List Cond := .code yX4_setQuorum cX4_setQuorum 5 (some .int) :: ((wsX4_setQuorum_r1 ++ wsX4_setQuorum_r2) ++ wsX40 ++ wsX10 ++ wsJx4a65c0 ++ (vx_atS RX4 105 "java/lang/IndexOutOfBoundsException" ["java/lang/RuntimeException", "java/lang/Exception"]).filter goodWord ++ (vx_atS RX4 179 "java/lang/IllegalArgumentException" ["java/lang/RuntimeException", "java/lang/Exception"]).filter goodWord)
def wsX4_addWindow_r1 : List Cond := [Cond.classLink RX4 43 "java/lang/IllegalStateException", Cond.initialized "java/lang/IllegalStateException", Cond.constant RX4 94 (100000), Cond.fieldLink RX4 19 "Probeweb" "windows" "Ljava/util/ArrayList;", Cond.classLink RX4 97 RX3, Cond.instantiable RX3 3, Cond.initialized RX3, Cond.methodLink RX4 77 yX4_requireCheck, Cond.instanceMethod yX4_requireCheck, Cond.selects RX4 yX4_requireCheck yX4_requireCheck, Cond.initialized RX4, Cond.code yX4_requireCheck cX4_requireCheck 2 none, Cond.classLink RX4 101 "java/lang/IndexOutOfBoundsException", Cond.initialized "java/lang/IndexOutOfBoundsException", Cond.fieldLink RX4 16 "Probeweb" "checks" "Ljava/util/ArrayList;", Cond.methodLink RX4 39 yJx4a65c_size_8abf5, Cond.instanceMethod yJx4a65c_size_8abf5, Cond.selects RJx4a65c yJx4a65c_size_8abf5 yJx4a65c_size_8abf5, Cond.initialized RJx4a65c, Cond.code yJx4a65c_size_8abf5 cJx4a65c_size_8abf5 1 (some .int), Cond.fieldLink RJx4a65c 48 "java/util/ArrayList" "size" "I", Cond.methodLink RX4 66 yX4_requireRange, Cond.static yX4_requireRange, Cond.code yX4_requireRange cX4_requireRange 3 none]
def wsX4_addWindow_r2 : List Cond := [Cond.classLink RX4 175 "java/lang/IllegalArgumentException", Cond.initialized "java/lang/IllegalArgumentException", Cond.methodLink RX4 99 yX3_init, Cond.instanceMethod yX3_init, Cond.code yX3_init cX3_init 4 none, Cond.methodLink RX3 1 objectInit, Cond.instanceMethod objectInit, Cond.code objectInit ⟨#[0xb1]⟩ 1 none, Cond.fieldLink RX3 7 "Probeweb$Window" "check" "I", Cond.fieldLink RX3 13 "Probeweb$Window" "first" "I", Cond.fieldLink RX3 16 "Probeweb$Window" "last" "I", Cond.methodLink RX4 62 yJx4a65c_add_9ea2d, Cond.instanceMethod yJx4a65c_add_9ea2d, Cond.selects RJx4a65c yJx4a65c_add_9ea2d yJx4a65c_add_9ea2d, Cond.code yJx4a65c_add_9ea2d cJx4a65c_add_9ea2d 2 (some .boolean), Cond.fieldLink RJx4a65c 63 "java/util/ArrayList" "modCount" "I", Cond.sameField "java/util/ArrayList" "java/util/AbstractList" "modCount" "I", Cond.fieldLink RJx4a65c 9 "java/util/ArrayList" "elementData" "[Ljava/lang/Object;", Cond.methodLink RJx4a65c 131 yJx4a65c_add_72be8, Cond.instanceMethod yJx4a65c_add_72be8, Cond.selects RJx4a65c yJx4a65c_add_72be8 yJx4a65c_add_72be8, Cond.code yJx4a65c_add_72be8 cJx4a65c_add_72be8 4 none, Cond.methodLink RJx4a65c 129 yJx4a65c_grow_d5877, Cond.instanceMethod yJx4a65c_grow_d5877]
def wsX4_addWindow_r3 : List Cond := [Cond.selects RJx4a65c yJx4a65c_grow_d5877 yJx4a65c_grow_d5877, Cond.code yJx4a65c_grow_d5877 cJx4a65c_grow_d5877 1 (some (.array (.object "java/lang/Object"))), Cond.methodLink RJx4a65c 69 yJx4a65c_grow_92f84, Cond.instanceMethod yJx4a65c_grow_92f84, Cond.selects RJx4a65c yJx4a65c_grow_92f84 yJx4a65c_grow_92f84, Cond.code yJx4a65c_grow_92f84 cJx4a65c_grow_92f84 4 (some (.array (.object "java/lang/Object"))), Cond.fieldLink RJx4a65c 39 "java/util/ArrayList" "DEFAULTCAPACITY_EMPTY_ELEMENTDATA" "[Ljava/lang/Object;", Cond.methodLink RJx4a65c 79 Lib.Math.max.name, Cond.static Lib.Math.max.name, Cond.initialized "java/lang/Math", Cond.code Lib.Math.max.name Lib.Math.max.code 2 (some .int), Cond.classLink RJx4a65c 7 "java/lang/Object", Cond.methodLink RJx4a65c 73 yJ8_newLength_cabcc, Cond.static yJ8_newLength_cabcc, Cond.initialized RJ8, Cond.code yJ8_newLength_cabcc cJ8_newLength_cabcc 4 (some .int), Cond.methodLink RJ8 194 Lib.Math.max.name, Cond.constant RJ8 200 (2147483639), Cond.methodLink RJ8 201 yJ8_hugeLength_7cf53, Cond.static yJ8_hugeLength_7cf53, Cond.code yJ8_hugeLength_7cf53 cJ8_hugeLength_7cf53 3 (some .int), Cond.methodLink RJx4a65c 66 yJ7_copyOf_1904c, Cond.static yJ7_copyOf_1904c, Cond.initialized RJ7]
def wsX4_addWindow_r4 : List Cond := [Cond.code yJ7_copyOf_1904c cJ7_copyOf_1904c 2 (some (.array (.object "java/lang/Object"))), Cond.methodLink RJ7 86 ⟨"java/lang/Object", "getClass", "()Ljava/lang/Class;"⟩, Cond.selects "[Ljava/lang/Object;" ⟨"java/lang/Object", "getClass", "()Ljava/lang/Class;"⟩ ⟨"java/lang/Object", "getClass", "()Ljava/lang/Class;"⟩, Cond.instanceMethod ⟨"java/lang/Object", "getClass", "()Ljava/lang/Class;"⟩, Cond.native ⟨"java/lang/Object", "getClass", "()Ljava/lang/Class;"⟩, Cond.methodLink RJ7 300 yJ7_copyOf_6403c, Cond.static yJ7_copyOf_6403c, Cond.code yJ7_copyOf_6403c cJ7_copyOf_6403c 4 (some (.array (.object "java/lang/Object"))), Cond.classLink RJ7 110 "[Ljava/lang/Object;", Cond.classLink RJ7 2 "java/lang/Object", Cond.methodLink RJ7 304 Lib.Math.min.name, Cond.static Lib.Math.min.name, Cond.code Lib.Math.min.name Lib.Math.min.code 2 (some .int), Cond.methodLink RJ7 150 arraycopyName, Cond.native arraycopyName, Cond.static arraycopyName, Cond.initialized "java/lang/System"]
def wsX4_addWindow : List Cond := .code yX4_addWindow cX4_addWindow 4 (some .int) :: ((wsX4_addWindow_r1 ++ (wsX4_addWindow_r2 ++ (wsX4_addWindow_r3 ++ wsX4_addWindow_r4))) ++ wsX40 ++ wsX30 ++ wsJx4a65c0 ++ (vx_atS RX4 47 "java/lang/IllegalStateException" ["java/lang/RuntimeException", "java/lang/Exception"]).filter goodWord ++ (vx_atS RX4 105 "java/lang/IndexOutOfBoundsException" ["java/lang/RuntimeException", "java/lang/Exception"]).filter goodWord ++ (vx_atS RX4 179 "java/lang/IllegalArgumentException" ["java/lang/RuntimeException", "java/lang/Exception"]).filter goodWord)
def wsX4_endWindow_r1 : List Cond := [Cond.classLink RX4 101 "java/lang/IndexOutOfBoundsException", Cond.initialized "java/lang/IndexOutOfBoundsException", Cond.fieldLink RX4 19 "Probeweb" "windows" "Ljava/util/ArrayList;", Cond.classLink RX4 97 "Probeweb$Window", Cond.fieldLink RX4 32 "Probeweb" "minute" "I", Cond.methodLink RX4 39 yJx4a65c_size_8abf5, Cond.instanceMethod yJx4a65c_size_8abf5, Cond.selects RJx4a65c yJx4a65c_size_8abf5 yJx4a65c_size_8abf5, Cond.initialized RJx4a65c, Cond.code yJx4a65c_size_8abf5 cJx4a65c_size_8abf5 1 (some .int), Cond.fieldLink RJx4a65c 48 "java/util/ArrayList" "size" "I", Cond.methodLink RX4 50 yJx4a65c_get_915e3, Cond.instanceMethod yJx4a65c_get_915e3, Cond.selects RJx4a65c yJx4a65c_get_915e3 yJx4a65c_get_915e3, Cond.code yJx4a65c_get_915e3 cJx4a65c_get_915e3 2 (some (.object "java/lang/Object")), Cond.methodLink RJx4a65c 118 yJ15_checkIndex_7cf53, Cond.static yJ15_checkIndex_7cf53, Cond.initialized RJ15, Cond.code yJ15_checkIndex_7cf53 cJ15_checkIndex_7cf53 2 (some .int), Cond.methodLink RJ15 105 yJ3_checkIndex_8e157, Cond.static yJ3_checkIndex_8e157, Cond.initialized RJ3, Cond.code yJ3_checkIndex_8e157 cJ3_checkIndex_8e157 3 (some .int), Cond.methodLink RJx4a65c 123 yJx4a65c_elementData_915e3]
def wsX4_endWindow_r2 : List Cond := [Cond.instanceMethod yJx4a65c_elementData_915e3, Cond.selects RJx4a65c yJx4a65c_elementData_915e3 yJx4a65c_elementData_915e3, Cond.code yJx4a65c_elementData_915e3 cJx4a65c_elementData_915e3 2 (some (.object "java/lang/Object")), Cond.fieldLink RJx4a65c 9 "java/util/ArrayList" "elementData" "[Ljava/lang/Object;", Cond.methodLink RX4 106 yX3_endAfter, Cond.instanceMethod yX3_endAfter, Cond.selects RX3 yX3_endAfter yX3_endAfter, Cond.initialized RX3, Cond.code yX3_endAfter cX3_endAfter 2 none, Cond.fieldLink RX3 16 "Probeweb$Window" "last" "I", Cond.methodLink RX3 19 Lib.Math.min.name, Cond.static Lib.Math.min.name, Cond.initialized "java/lang/Math", Cond.code Lib.Math.min.name Lib.Math.min.code 2 (some .int), Cond.methodLink RX4 109 yX3_length, Cond.instanceMethod yX3_length, Cond.selects RX3 yX3_length yX3_length, Cond.code yX3_length cX3_length 1 (some .int), Cond.fieldLink RX3 13 "Probeweb$Window" "first" "I", Cond.methodLink RX3 25 Lib.Math.max.name, Cond.static Lib.Math.max.name, Cond.code Lib.Math.max.name Lib.Math.max.code 2 (some .int)]
def wsX4_endWindow : List Cond := .code yX4_endWindow cX4_endWindow 3 (some .int) :: ((wsX4_endWindow_r1 ++ wsX4_endWindow_r2) ++ wsX40 ++ wsJx4a65c0 ++ wsX30 ++ (vx_atS RX4 105 "java/lang/IndexOutOfBoundsException" ["java/lang/RuntimeException", "java/lang/Exception"]).filter goodWord)
def wsX4_wouldFail : List Cond := .code yX4_wouldFail cX4_wouldFail 3 (some .boolean) :: ([.fieldLink RX4 80 "Probeweb$Check" "downRegions" "I", .fieldLink RX4 202 "Probeweb$Region" "number" "I", .fieldLink RX4 56 "Probeweb$Region" "path" "I", .fieldLink RX4 25 "Probeweb" "cutRegions" "I", .methodLink RX4 83 yX4_holds, .static yX4_holds, .initialized RX4, .code yX4_holds cX4_holds 2 (some .boolean)] ++ wsX10 ++ wsX20 ++ wsX40)
def wsX4_makeProbe_r1 : List Cond := [Cond.fieldLink RX4 130 "Probeweb$Region" "probesMade" "I", Cond.fieldLink RX4 133 "Probeweb$Region" "probesFailed" "I", Cond.fieldLink RX4 202 "Probeweb$Region" "number" "I", Cond.fieldLink RX4 32 "Probeweb" "minute" "I", Cond.methodLink RX4 115 yX4_wouldFail, Cond.instanceMethod yX4_wouldFail, Cond.selects RX4 yX4_wouldFail yX4_wouldFail, Cond.initialized RX4, Cond.code yX4_wouldFail cX4_wouldFail 3 (some .boolean), Cond.fieldLink RX4 80 "Probeweb$Check" "downRegions" "I", Cond.fieldLink RX4 56 "Probeweb$Region" "path" "I", Cond.fieldLink RX4 25 "Probeweb" "cutRegions" "I", Cond.methodLink RX4 83 yX4_holds, Cond.static yX4_holds, Cond.code yX4_holds cX4_holds 2 (some .boolean), Cond.methodLink RX4 205 yX1_takeFailure, Cond.instanceMethod yX1_takeFailure, Cond.selects RX1 yX1_takeFailure yX1_takeFailure, Cond.initialized RX1, Cond.code yX1_takeFailure cX1_takeFailure 4 none, Cond.fieldLink RX1 31 "Probeweb$Check" "planned" "[I", Cond.fieldLink RX1 27 "Probeweb$Check" "votes" "[I", Cond.fieldLink RX1 21 "Probeweb$Check" "repetitions" "I", Cond.fieldLink RX1 34 "Probeweb$Check" "plannedMinute" "[I"]
def wsX4_makeProbe_r2 : List Cond := [Cond.fieldLink RX1 9 "Probeweb$Check" "number" "I", Cond.methodLink RX4 208 yX1_takeSuccess, Cond.instanceMethod yX1_takeSuccess, Cond.selects RX1 yX1_takeSuccess yX1_takeSuccess, Cond.code yX1_takeSuccess cX1_takeSuccess 2 none]
def wsX4_makeProbe : List Cond := .code yX4_makeProbe cX4_makeProbe 3 none :: ((wsX4_makeProbe_r1 ++ wsX4_makeProbe_r2) ++ wsX20 ++ wsX40 ++ wsX10)
def wsX4_makeProbes_r1 : List Cond := [Cond.fieldLink RX4 16 "Probeweb" "checks" "Ljava/util/ArrayList;", Cond.fieldLink RX4 10 "Probeweb" "regions" "Ljava/util/ArrayList;", Cond.classLink RX4 72 "Probeweb$Check", Cond.fieldLink RX4 32 "Probeweb" "minute" "I", Cond.classLink RX4 54 "Probeweb$Region", Cond.methodLink RX4 39 yJx4a65c_size_8abf5, Cond.instanceMethod yJx4a65c_size_8abf5, Cond.selects RJx4a65c yJx4a65c_size_8abf5 yJx4a65c_size_8abf5, Cond.initialized RJx4a65c, Cond.code yJx4a65c_size_8abf5 cJx4a65c_size_8abf5 1 (some .int), Cond.fieldLink RJx4a65c 48 "java/util/ArrayList" "size" "I", Cond.methodLink RX4 50 yJx4a65c_get_915e3, Cond.instanceMethod yJx4a65c_get_915e3, Cond.selects RJx4a65c yJx4a65c_get_915e3 yJx4a65c_get_915e3, Cond.code yJx4a65c_get_915e3 cJx4a65c_get_915e3 2 (some (.object "java/lang/Object")), Cond.methodLink RJx4a65c 118 yJ15_checkIndex_7cf53, Cond.static yJ15_checkIndex_7cf53, Cond.initialized RJ15, Cond.code yJ15_checkIndex_7cf53 cJ15_checkIndex_7cf53 2 (some .int), Cond.methodLink RJ15 105 yJ3_checkIndex_8e157, Cond.static yJ3_checkIndex_8e157, Cond.initialized RJ3, Cond.code yJ3_checkIndex_8e157 cJ3_checkIndex_8e157 3 (some .int), Cond.methodLink RJx4a65c 123 yJx4a65c_elementData_915e3]
def wsX4_makeProbes_r2 : List Cond := [Cond.instanceMethod yJx4a65c_elementData_915e3, Cond.selects RJx4a65c yJx4a65c_elementData_915e3 yJx4a65c_elementData_915e3, Cond.code yJx4a65c_elementData_915e3 cJx4a65c_elementData_915e3 2 (some (.object "java/lang/Object")), Cond.fieldLink RJx4a65c 9 "java/util/ArrayList" "elementData" "[Ljava/lang/Object;", Cond.methodLink RX4 195 yX1_isDue, Cond.instanceMethod yX1_isDue, Cond.selects RX1 yX1_isDue yX1_isDue, Cond.initialized RX1, Cond.code yX1_isDue cX1_isDue 3 (some .boolean), Cond.methodLink RX1 37 yX1_nextMinuteFrom, Cond.instanceMethod yX1_nextMinuteFrom, Cond.selects RX1 yX1_nextMinuteFrom yX1_nextMinuteFrom, Cond.code yX1_nextMinuteFrom cX1_nextMinuteFrom 5 (some .int), Cond.fieldLink RX1 31 "Probeweb$Check" "planned" "[I", Cond.fieldLink RX1 34 "Probeweb$Check" "plannedMinute" "[I", Cond.fieldLink RX1 18 "Probeweb$Check" "offset" "I", Cond.fieldLink RX1 15 "Probeweb$Check" "interval" "I", Cond.methodLink RX4 198 yX4_makeProbe, Cond.instanceMethod yX4_makeProbe, Cond.selects RX4 yX4_makeProbe yX4_makeProbe, Cond.initialized RX4, Cond.code yX4_makeProbe cX4_makeProbe 3 none, Cond.fieldLink RX4 130 "Probeweb$Region" "probesMade" "I", Cond.fieldLink RX4 133 "Probeweb$Region" "probesFailed" "I"]
def wsX4_makeProbes_r3 : List Cond := [Cond.fieldLink RX4 202 "Probeweb$Region" "number" "I", Cond.methodLink RX4 115 yX4_wouldFail, Cond.instanceMethod yX4_wouldFail, Cond.selects RX4 yX4_wouldFail yX4_wouldFail, Cond.code yX4_wouldFail cX4_wouldFail 3 (some .boolean), Cond.fieldLink RX4 80 "Probeweb$Check" "downRegions" "I", Cond.fieldLink RX4 56 "Probeweb$Region" "path" "I", Cond.fieldLink RX4 25 "Probeweb" "cutRegions" "I", Cond.methodLink RX4 83 yX4_holds, Cond.static yX4_holds, Cond.code yX4_holds cX4_holds 2 (some .boolean), Cond.methodLink RX4 205 yX1_takeFailure, Cond.instanceMethod yX1_takeFailure, Cond.selects RX1 yX1_takeFailure yX1_takeFailure, Cond.code yX1_takeFailure cX1_takeFailure 4 none, Cond.fieldLink RX1 27 "Probeweb$Check" "votes" "[I", Cond.fieldLink RX1 21 "Probeweb$Check" "repetitions" "I", Cond.fieldLink RX1 9 "Probeweb$Check" "number" "I", Cond.methodLink RX4 208 yX1_takeSuccess, Cond.instanceMethod yX1_takeSuccess, Cond.selects RX1 yX1_takeSuccess yX1_takeSuccess, Cond.code yX1_takeSuccess cX1_takeSuccess 2 none]
def wsX4_makeProbes : List Cond := .code yX4_makeProbes cX4_makeProbes 3 none :: ((wsX4_makeProbes_r1 ++ (wsX4_makeProbes_r2 ++ wsX4_makeProbes_r3)) ++ wsX40 ++ wsJx4a65c0 ++ wsX10 ++ wsX20)
def wsX4_votesAreBad_r1 : List Cond := [Cond.fieldLink RX4 16 "Probeweb" "checks" "Ljava/util/ArrayList;", Cond.classLink RX4 72 "Probeweb$Check", Cond.fieldLink RX4 127 "Probeweb$Check" "votes" "[I", Cond.methodLink RX4 39 yJx4a65c_size_8abf5, Cond.instanceMethod yJx4a65c_size_8abf5, Cond.selects RJx4a65c yJx4a65c_size_8abf5 yJx4a65c_size_8abf5, Cond.initialized RJx4a65c, Cond.code yJx4a65c_size_8abf5 cJx4a65c_size_8abf5 1 (some .int), Cond.fieldLink RJx4a65c 48 "java/util/ArrayList" "size" "I", Cond.methodLink RX4 50 yJx4a65c_get_915e3, Cond.instanceMethod yJx4a65c_get_915e3, Cond.selects RJx4a65c yJx4a65c_get_915e3 yJx4a65c_get_915e3, Cond.code yJx4a65c_get_915e3 cJx4a65c_get_915e3 2 (some (.object "java/lang/Object")), Cond.methodLink RJx4a65c 118 yJ15_checkIndex_7cf53, Cond.static yJ15_checkIndex_7cf53, Cond.initialized RJ15, Cond.code yJ15_checkIndex_7cf53 cJ15_checkIndex_7cf53 2 (some .int), Cond.methodLink RJ15 105 yJ3_checkIndex_8e157, Cond.static yJ3_checkIndex_8e157, Cond.initialized RJ3, Cond.code yJ3_checkIndex_8e157 cJ3_checkIndex_8e157 3 (some .int), Cond.methodLink RJx4a65c 123 yJx4a65c_elementData_915e3, Cond.instanceMethod yJx4a65c_elementData_915e3, Cond.selects RJx4a65c yJx4a65c_elementData_915e3 yJx4a65c_elementData_915e3]
def wsX4_votesAreBad_r2 : List Cond := [Cond.code yJx4a65c_elementData_915e3 cJx4a65c_elementData_915e3 2 (some (.object "java/lang/Object")), Cond.fieldLink RJx4a65c 9 "java/util/ArrayList" "elementData" "[Ljava/lang/Object;"]
def wsX4_votesAreBad : List Cond := .code yX4_votesAreBad cX4_votesAreBad 6 (some .boolean) :: ((wsX4_votesAreBad_r1 ++ wsX4_votesAreBad_r2) ++ wsX40 ++ wsX10 ++ wsJx4a65c0)
def wsX4_judgeRegions_r1 : List Cond := [Cond.fieldLink RX4 10 "Probeweb" "regions" "Ljava/util/ArrayList;", Cond.fieldLink RX4 29 "Probeweb" "badRegions" "I", Cond.methodLink RX4 39 yJx4a65c_size_8abf5, Cond.instanceMethod yJx4a65c_size_8abf5, Cond.selects RJx4a65c yJx4a65c_size_8abf5 yJx4a65c_size_8abf5, Cond.initialized RJx4a65c, Cond.code yJx4a65c_size_8abf5 cJx4a65c_size_8abf5 1 (some .int), Cond.fieldLink RJx4a65c 48 "java/util/ArrayList" "size" "I", Cond.methodLink RX4 211 yX4_votesAreBad, Cond.instanceMethod yX4_votesAreBad, Cond.selects RX4 yX4_votesAreBad yX4_votesAreBad, Cond.initialized RX4, Cond.code yX4_votesAreBad cX4_votesAreBad 6 (some .boolean), Cond.fieldLink RX4 16 "Probeweb" "checks" "Ljava/util/ArrayList;", Cond.classLink RX4 72 "Probeweb$Check", Cond.fieldLink RX4 127 "Probeweb$Check" "votes" "[I", Cond.methodLink RX4 50 yJx4a65c_get_915e3, Cond.instanceMethod yJx4a65c_get_915e3, Cond.selects RJx4a65c yJx4a65c_get_915e3 yJx4a65c_get_915e3, Cond.code yJx4a65c_get_915e3 cJx4a65c_get_915e3 2 (some (.object "java/lang/Object")), Cond.methodLink RJx4a65c 118 yJ15_checkIndex_7cf53, Cond.static yJ15_checkIndex_7cf53, Cond.initialized RJ15, Cond.code yJ15_checkIndex_7cf53 cJ15_checkIndex_7cf53 2 (some .int)]
def wsX4_judgeRegions_r2 : List Cond := [Cond.methodLink RJ15 105 yJ3_checkIndex_8e157, Cond.static yJ3_checkIndex_8e157, Cond.initialized RJ3, Cond.code yJ3_checkIndex_8e157 cJ3_checkIndex_8e157 3 (some .int), Cond.methodLink RJx4a65c 123 yJx4a65c_elementData_915e3, Cond.instanceMethod yJx4a65c_elementData_915e3, Cond.selects RJx4a65c yJx4a65c_elementData_915e3 yJx4a65c_elementData_915e3, Cond.code yJx4a65c_elementData_915e3 cJx4a65c_elementData_915e3 2 (some (.object "java/lang/Object")), Cond.fieldLink RJx4a65c 9 "java/util/ArrayList" "elementData" "[Ljava/lang/Object;", Cond.methodLink RX4 87 yX4_withRegion, Cond.static yX4_withRegion, Cond.code yX4_withRegion cX4_withRegion 3 (some .int)]
def wsX4_judgeRegions : List Cond := .code yX4_judgeRegions cX4_judgeRegions 2 none :: ((wsX4_judgeRegions_r1 ++ wsX4_judgeRegions_r2) ++ wsX40 ++ wsJx4a65c0 ++ wsX10)
def wsX4_trustedRegions_r1 : List Cond := [Cond.fieldLink RX4 10 "Probeweb" "regions" "Ljava/util/ArrayList;", Cond.fieldLink RX4 127 "Probeweb$Check" "votes" "[I", Cond.classLink RX4 54 "Probeweb$Region", Cond.fieldLink RX4 56 "Probeweb$Region" "path" "I", Cond.fieldLink RX4 29 "Probeweb" "badRegions" "I", Cond.methodLink RX4 39 yJx4a65c_size_8abf5, Cond.instanceMethod yJx4a65c_size_8abf5, Cond.selects RJx4a65c yJx4a65c_size_8abf5 yJx4a65c_size_8abf5, Cond.initialized RJx4a65c, Cond.code yJx4a65c_size_8abf5 cJx4a65c_size_8abf5 1 (some .int), Cond.fieldLink RJx4a65c 48 "java/util/ArrayList" "size" "I", Cond.methodLink RX4 50 yJx4a65c_get_915e3, Cond.instanceMethod yJx4a65c_get_915e3, Cond.selects RJx4a65c yJx4a65c_get_915e3 yJx4a65c_get_915e3, Cond.code yJx4a65c_get_915e3 cJx4a65c_get_915e3 2 (some (.object "java/lang/Object")), Cond.methodLink RJx4a65c 118 yJ15_checkIndex_7cf53, Cond.static yJ15_checkIndex_7cf53, Cond.initialized RJ15, Cond.code yJ15_checkIndex_7cf53 cJ15_checkIndex_7cf53 2 (some .int), Cond.methodLink RJ15 105 yJ3_checkIndex_8e157, Cond.static yJ3_checkIndex_8e157, Cond.initialized RJ3, Cond.code yJ3_checkIndex_8e157 cJ3_checkIndex_8e157 3 (some .int), Cond.methodLink RJx4a65c 123 yJx4a65c_elementData_915e3]
def wsX4_trustedRegions_r2 : List Cond := [Cond.instanceMethod yJx4a65c_elementData_915e3, Cond.selects RJx4a65c yJx4a65c_elementData_915e3 yJx4a65c_elementData_915e3, Cond.code yJx4a65c_elementData_915e3 cJx4a65c_elementData_915e3 2 (some (.object "java/lang/Object")), Cond.fieldLink RJx4a65c 9 "java/util/ArrayList" "elementData" "[Ljava/lang/Object;", Cond.methodLink RX4 87 yX4_withRegion, Cond.static yX4_withRegion, Cond.initialized RX4, Cond.code yX4_withRegion cX4_withRegion 3 (some .int)]
def wsX4_trustedRegions : List Cond := .code yX4_trustedRegions cX4_trustedRegions 5 (some .int) :: ((wsX4_trustedRegions_r1 ++ wsX4_trustedRegions_r2) ++ wsX40 ++ wsX10 ++ wsX20 ++ wsJx4a65c0)
def wsX4_judgeChecks_r1 : List Cond := [Cond.fieldLink RX4 16 "Probeweb" "checks" "Ljava/util/ArrayList;", Cond.classLink RX4 72 "Probeweb$Check", Cond.methodLink RX4 39 yJx4a65c_size_8abf5, Cond.instanceMethod yJx4a65c_size_8abf5, Cond.selects RJx4a65c yJx4a65c_size_8abf5 yJx4a65c_size_8abf5, Cond.initialized RJx4a65c, Cond.code yJx4a65c_size_8abf5 cJx4a65c_size_8abf5 1 (some .int), Cond.fieldLink RJx4a65c 48 "java/util/ArrayList" "size" "I", Cond.methodLink RX4 50 yJx4a65c_get_915e3, Cond.instanceMethod yJx4a65c_get_915e3, Cond.selects RJx4a65c yJx4a65c_get_915e3 yJx4a65c_get_915e3, Cond.code yJx4a65c_get_915e3 cJx4a65c_get_915e3 2 (some (.object "java/lang/Object")), Cond.methodLink RJx4a65c 118 yJ15_checkIndex_7cf53, Cond.static yJ15_checkIndex_7cf53, Cond.initialized RJ15, Cond.code yJ15_checkIndex_7cf53 cJ15_checkIndex_7cf53 2 (some .int), Cond.methodLink RJ15 105 yJ3_checkIndex_8e157, Cond.static yJ3_checkIndex_8e157, Cond.initialized RJ3, Cond.code yJ3_checkIndex_8e157 cJ3_checkIndex_8e157 3 (some .int), Cond.methodLink RJx4a65c 123 yJx4a65c_elementData_915e3, Cond.instanceMethod yJx4a65c_elementData_915e3, Cond.selects RJx4a65c yJx4a65c_elementData_915e3 yJx4a65c_elementData_915e3, Cond.code yJx4a65c_elementData_915e3 cJx4a65c_elementData_915e3 2 (some (.object "java/lang/Object"))]
def wsX4_judgeChecks_r2 : List Cond := [Cond.fieldLink RJx4a65c 9 "java/util/ArrayList" "elementData" "[Ljava/lang/Object;", Cond.methodLink RX4 139 yX4_trustedRegions, Cond.instanceMethod yX4_trustedRegions, Cond.selects RX4 yX4_trustedRegions yX4_trustedRegions, Cond.initialized RX4, Cond.code yX4_trustedRegions cX4_trustedRegions 5 (some .int), Cond.fieldLink RX4 10 "Probeweb" "regions" "Ljava/util/ArrayList;", Cond.fieldLink RX4 127 "Probeweb$Check" "votes" "[I", Cond.classLink RX4 54 "Probeweb$Region", Cond.fieldLink RX4 56 "Probeweb$Region" "path" "I", Cond.fieldLink RX4 29 "Probeweb" "badRegions" "I", Cond.methodLink RX4 87 yX4_withRegion, Cond.static yX4_withRegion, Cond.code yX4_withRegion cX4_withRegion 3 (some .int), Cond.methodLink RX4 215 yX1_judge, Cond.instanceMethod yX1_judge, Cond.selects RX1 yX1_judge yX1_judge, Cond.initialized RX1, Cond.code yX1_judge cX1_judge 4 none, Cond.fieldLink RX1 27 "Probeweb$Check" "votes" "[I", Cond.fieldLink RX1 24 "Probeweb$Check" "quorum" "I", Cond.fieldLink RX1 51 "Probeweb$Check" "lastVerdict" "I", Cond.static yX4_holds, Cond.code yX4_holds cX4_holds 2 (some .boolean)]
def wsX4_judgeChecks_r3 : List Cond := [Cond.methodLink RX1 45 yJ6_bitCount_0f7a4, Cond.static yJ6_bitCount_0f7a4, Cond.initialized RJ6, Cond.code yJ6_bitCount_0f7a4 cJ6_bitCount_0f7a4 1 (some .int), Cond.constant RJ6 265 (1431655765), Cond.constant RJ6 266 (858993459), Cond.constant RJ6 267 (252645135)]
def wsX4_judgeChecks : List Cond := .code yX4_judgeChecks cX4_judgeChecks 3 none :: ((wsX4_judgeChecks_r1 ++ (wsX4_judgeChecks_r2 ++ wsX4_judgeChecks_r3)) ++ wsX40 ++ wsJx4a65c0 ++ wsX10 ++ wsX20)
def wsX4_isMaintained_r1 : List Cond := [Cond.fieldLink RX4 19 "Probeweb" "windows" "Ljava/util/ArrayList;", Cond.classLink RX4 97 "Probeweb$Window", Cond.fieldLink RX4 226 "Probeweb$Window" "check" "I", Cond.fieldLink RX4 227 "Probeweb$Check" "number" "I", Cond.fieldLink RX4 32 "Probeweb" "minute" "I", Cond.methodLink RX4 39 yJx4a65c_size_8abf5, Cond.instanceMethod yJx4a65c_size_8abf5, Cond.selects RJx4a65c yJx4a65c_size_8abf5 yJx4a65c_size_8abf5, Cond.initialized RJx4a65c, Cond.code yJx4a65c_size_8abf5 cJx4a65c_size_8abf5 1 (some .int), Cond.fieldLink RJx4a65c 48 "java/util/ArrayList" "size" "I", Cond.methodLink RX4 50 yJx4a65c_get_915e3, Cond.instanceMethod yJx4a65c_get_915e3, Cond.selects RJx4a65c yJx4a65c_get_915e3 yJx4a65c_get_915e3, Cond.code yJx4a65c_get_915e3 cJx4a65c_get_915e3 2 (some (.object "java/lang/Object")), Cond.methodLink RJx4a65c 118 yJ15_checkIndex_7cf53, Cond.static yJ15_checkIndex_7cf53, Cond.initialized RJ15, Cond.code yJ15_checkIndex_7cf53 cJ15_checkIndex_7cf53 2 (some .int), Cond.methodLink RJ15 105 yJ3_checkIndex_8e157, Cond.static yJ3_checkIndex_8e157, Cond.initialized RJ3, Cond.code yJ3_checkIndex_8e157 cJ3_checkIndex_8e157 3 (some .int), Cond.methodLink RJx4a65c 123 yJx4a65c_elementData_915e3]
def wsX4_isMaintained_r2 : List Cond := [Cond.instanceMethod yJx4a65c_elementData_915e3, Cond.selects RJx4a65c yJx4a65c_elementData_915e3 yJx4a65c_elementData_915e3, Cond.code yJx4a65c_elementData_915e3 cJx4a65c_elementData_915e3 2 (some (.object "java/lang/Object")), Cond.fieldLink RJx4a65c 9 "java/util/ArrayList" "elementData" "[Ljava/lang/Object;", Cond.methodLink RX4 228 yX3_contains, Cond.instanceMethod yX3_contains, Cond.selects RX3 yX3_contains yX3_contains, Cond.initialized RX3, Cond.code yX3_contains cX3_contains 2 (some .boolean), Cond.fieldLink RX3 13 "Probeweb$Window" "first" "I", Cond.fieldLink RX3 16 "Probeweb$Window" "last" "I"]
def wsX4_isMaintained : List Cond := .code yX4_isMaintained cX4_isMaintained 4 (some .boolean) :: ((wsX4_isMaintained_r1 ++ wsX4_isMaintained_r2) ++ wsX40 ++ wsX30 ++ wsX10 ++ wsJx4a65c0)
def wsX4_raiseAlarm_r1 : List Cond := [Cond.fieldLink RX4 22 "Probeweb" "alarmLog" "Ljava/util/ArrayList;", Cond.constant RX4 231 (1000000), Cond.classLink RX4 150 RX0, Cond.instantiable RX0 3, Cond.initialized RX0, Cond.fieldLink RX4 227 "Probeweb$Check" "number" "I", Cond.fieldLink RX4 32 "Probeweb" "minute" "I", Cond.fieldLink RX4 143 "Probeweb$Check" "openAlarm" "LProbeweb$Alarm;", Cond.methodLink RX4 39 yJx4a65c_size_8abf5, Cond.instanceMethod yJx4a65c_size_8abf5, Cond.selects RJx4a65c yJx4a65c_size_8abf5 yJx4a65c_size_8abf5, Cond.initialized RJx4a65c, Cond.code yJx4a65c_size_8abf5 cJx4a65c_size_8abf5 1 (some .int), Cond.fieldLink RJx4a65c 48 "java/util/ArrayList" "size" "I", Cond.methodLink RX4 232 yX0_init, Cond.instanceMethod yX0_init, Cond.code yX0_init cX0_init 3 none, Cond.methodLink RX0 3 objectInit, Cond.instanceMethod objectInit, Cond.code objectInit ⟨#[0xb1]⟩ 1 none, Cond.fieldLink RX0 9 "Probeweb$Alarm" "check" "I", Cond.fieldLink RX0 15 "Probeweb$Alarm" "raised" "I", Cond.fieldLink RX0 18 "Probeweb$Alarm" "closed" "I", Cond.methodLink RX4 62 yJx4a65c_add_9ea2d]
def wsX4_raiseAlarm_r2 : List Cond := [Cond.instanceMethod yJx4a65c_add_9ea2d, Cond.selects RJx4a65c yJx4a65c_add_9ea2d yJx4a65c_add_9ea2d, Cond.code yJx4a65c_add_9ea2d cJx4a65c_add_9ea2d 2 (some .boolean), Cond.fieldLink RJx4a65c 63 "java/util/ArrayList" "modCount" "I", Cond.sameField "java/util/ArrayList" "java/util/AbstractList" "modCount" "I", Cond.fieldLink RJx4a65c 9 "java/util/ArrayList" "elementData" "[Ljava/lang/Object;", Cond.methodLink RJx4a65c 131 yJx4a65c_add_72be8, Cond.instanceMethod yJx4a65c_add_72be8, Cond.selects RJx4a65c yJx4a65c_add_72be8 yJx4a65c_add_72be8, Cond.code yJx4a65c_add_72be8 cJx4a65c_add_72be8 4 none, Cond.methodLink RJx4a65c 129 yJx4a65c_grow_d5877, Cond.instanceMethod yJx4a65c_grow_d5877, Cond.selects RJx4a65c yJx4a65c_grow_d5877 yJx4a65c_grow_d5877, Cond.code yJx4a65c_grow_d5877 cJx4a65c_grow_d5877 1 (some (.array (.object "java/lang/Object"))), Cond.methodLink RJx4a65c 69 yJx4a65c_grow_92f84, Cond.instanceMethod yJx4a65c_grow_92f84, Cond.selects RJx4a65c yJx4a65c_grow_92f84 yJx4a65c_grow_92f84, Cond.code yJx4a65c_grow_92f84 cJx4a65c_grow_92f84 4 (some (.array (.object "java/lang/Object"))), Cond.fieldLink RJx4a65c 39 "java/util/ArrayList" "DEFAULTCAPACITY_EMPTY_ELEMENTDATA" "[Ljava/lang/Object;", Cond.methodLink RJx4a65c 79 Lib.Math.max.name, Cond.static Lib.Math.max.name, Cond.initialized "java/lang/Math", Cond.code Lib.Math.max.name Lib.Math.max.code 2 (some .int), Cond.classLink RJx4a65c 7 "java/lang/Object"]
def wsX4_raiseAlarm_r3 : List Cond := [Cond.methodLink RJx4a65c 73 yJ8_newLength_cabcc, Cond.static yJ8_newLength_cabcc, Cond.initialized RJ8, Cond.code yJ8_newLength_cabcc cJ8_newLength_cabcc 4 (some .int), Cond.methodLink RJ8 194 Lib.Math.max.name, Cond.constant RJ8 200 (2147483639), Cond.methodLink RJ8 201 yJ8_hugeLength_7cf53, Cond.static yJ8_hugeLength_7cf53, Cond.code yJ8_hugeLength_7cf53 cJ8_hugeLength_7cf53 3 (some .int), Cond.methodLink RJx4a65c 66 yJ7_copyOf_1904c, Cond.static yJ7_copyOf_1904c, Cond.initialized RJ7, Cond.code yJ7_copyOf_1904c cJ7_copyOf_1904c 2 (some (.array (.object "java/lang/Object"))), Cond.methodLink RJ7 86 ⟨"java/lang/Object", "getClass", "()Ljava/lang/Class;"⟩, Cond.selects "[Ljava/lang/Object;" ⟨"java/lang/Object", "getClass", "()Ljava/lang/Class;"⟩ ⟨"java/lang/Object", "getClass", "()Ljava/lang/Class;"⟩, Cond.instanceMethod ⟨"java/lang/Object", "getClass", "()Ljava/lang/Class;"⟩, Cond.native ⟨"java/lang/Object", "getClass", "()Ljava/lang/Class;"⟩, Cond.methodLink RJ7 300 yJ7_copyOf_6403c, Cond.static yJ7_copyOf_6403c, Cond.code yJ7_copyOf_6403c cJ7_copyOf_6403c 4 (some (.array (.object "java/lang/Object"))), Cond.classLink RJ7 110 "[Ljava/lang/Object;", Cond.classLink RJ7 2 "java/lang/Object", Cond.methodLink RJ7 304 Lib.Math.min.name, Cond.static Lib.Math.min.name]
def wsX4_raiseAlarm_r4 : List Cond := [Cond.code Lib.Math.min.name Lib.Math.min.code 2 (some .int), Cond.methodLink RJ7 150 arraycopyName, Cond.native arraycopyName, Cond.static arraycopyName, Cond.initialized "java/lang/System"]
def wsX4_raiseAlarm : List Cond := .code yX4_raiseAlarm cX4_raiseAlarm 2 none :: ((wsX4_raiseAlarm_r1 ++ (wsX4_raiseAlarm_r2 ++ (wsX4_raiseAlarm_r3 ++ wsX4_raiseAlarm_r4))) ++ wsX40 ++ wsX00 ++ wsX10 ++ wsJx4a65c0)
def wsX4_raiseAndCloseAlarms_r1 : List Cond := [Cond.fieldLink RX4 16 "Probeweb" "checks" "Ljava/util/ArrayList;", Cond.classLink RX4 72 "Probeweb$Check", Cond.fieldLink RX4 136 "Probeweb$Check" "lastVerdict" "I", Cond.fieldLink RX4 143 "Probeweb$Check" "openAlarm" "LProbeweb$Alarm;", Cond.fieldLink RX4 32 "Probeweb" "minute" "I", Cond.fieldLink RX4 158 "Probeweb$Alarm" "closed" "I", Cond.methodLink RX4 39 yJx4a65c_size_8abf5, Cond.instanceMethod yJx4a65c_size_8abf5, Cond.selects RJx4a65c yJx4a65c_size_8abf5 yJx4a65c_size_8abf5, Cond.initialized RJx4a65c, Cond.code yJx4a65c_size_8abf5 cJx4a65c_size_8abf5 1 (some .int), Cond.fieldLink RJx4a65c 48 "java/util/ArrayList" "size" "I", Cond.methodLink RX4 50 yJx4a65c_get_915e3, Cond.instanceMethod yJx4a65c_get_915e3, Cond.selects RJx4a65c yJx4a65c_get_915e3 yJx4a65c_get_915e3, Cond.code yJx4a65c_get_915e3 cJx4a65c_get_915e3 2 (some (.object "java/lang/Object")), Cond.methodLink RJx4a65c 118 yJ15_checkIndex_7cf53, Cond.static yJ15_checkIndex_7cf53, Cond.initialized RJ15, Cond.code yJ15_checkIndex_7cf53 cJ15_checkIndex_7cf53 2 (some .int), Cond.methodLink RJ15 105 yJ3_checkIndex_8e157, Cond.static yJ3_checkIndex_8e157, Cond.initialized RJ3, Cond.code yJ3_checkIndex_8e157 cJ3_checkIndex_8e157 3 (some .int)]
def wsX4_raiseAndCloseAlarms_r2 : List Cond := [Cond.methodLink RJx4a65c 123 yJx4a65c_elementData_915e3, Cond.instanceMethod yJx4a65c_elementData_915e3, Cond.selects RJx4a65c yJx4a65c_elementData_915e3 yJx4a65c_elementData_915e3, Cond.code yJx4a65c_elementData_915e3 cJx4a65c_elementData_915e3 2 (some (.object "java/lang/Object")), Cond.fieldLink RJx4a65c 9 "java/util/ArrayList" "elementData" "[Ljava/lang/Object;", Cond.methodLink RX4 218 yX4_isMaintained, Cond.instanceMethod yX4_isMaintained, Cond.selects RX4 yX4_isMaintained yX4_isMaintained, Cond.initialized RX4, Cond.code yX4_isMaintained cX4_isMaintained 4 (some .boolean), Cond.fieldLink RX4 19 "Probeweb" "windows" "Ljava/util/ArrayList;", Cond.classLink RX4 97 "Probeweb$Window", Cond.fieldLink RX4 226 "Probeweb$Window" "check" "I", Cond.fieldLink RX4 227 "Probeweb$Check" "number" "I", Cond.methodLink RX4 228 yX3_contains, Cond.instanceMethod yX3_contains, Cond.selects RX3 yX3_contains yX3_contains, Cond.initialized RX3, Cond.code yX3_contains cX3_contains 2 (some .boolean), Cond.fieldLink RX3 13 "Probeweb$Window" "first" "I", Cond.fieldLink RX3 16 "Probeweb$Window" "last" "I", Cond.methodLink RX4 222 yX4_raiseAlarm, Cond.instanceMethod yX4_raiseAlarm, Cond.selects RX4 yX4_raiseAlarm yX4_raiseAlarm]
def wsX4_raiseAndCloseAlarms_r3 : List Cond := [Cond.code yX4_raiseAlarm cX4_raiseAlarm 2 none, Cond.fieldLink RX4 22 "Probeweb" "alarmLog" "Ljava/util/ArrayList;", Cond.constant RX4 231 (1000000), Cond.classLink RX4 150 RX0, Cond.instantiable RX0 3, Cond.initialized RX0, Cond.methodLink RX4 232 yX0_init, Cond.instanceMethod yX0_init, Cond.code yX0_init cX0_init 3 none, Cond.methodLink RX0 3 objectInit, Cond.instanceMethod objectInit, Cond.code objectInit ⟨#[0xb1]⟩ 1 none, Cond.fieldLink RX0 9 "Probeweb$Alarm" "check" "I", Cond.fieldLink RX0 15 "Probeweb$Alarm" "raised" "I", Cond.fieldLink RX0 18 "Probeweb$Alarm" "closed" "I", Cond.methodLink RX4 62 yJx4a65c_add_9ea2d, Cond.instanceMethod yJx4a65c_add_9ea2d, Cond.selects RJx4a65c yJx4a65c_add_9ea2d yJx4a65c_add_9ea2d, Cond.code yJx4a65c_add_9ea2d cJx4a65c_add_9ea2d 2 (some .boolean), Cond.fieldLink RJx4a65c 63 "java/util/ArrayList" "modCount" "I", Cond.sameField "java/util/ArrayList" "java/util/AbstractList" "modCount" "I", Cond.methodLink RJx4a65c 131 yJx4a65c_add_72be8, Cond.instanceMethod yJx4a65c_add_72be8, Cond.selects RJx4a65c yJx4a65c_add_72be8 yJx4a65c_add_72be8]
def wsX4_raiseAndCloseAlarms_r4 : List Cond := [Cond.code yJx4a65c_add_72be8 cJx4a65c_add_72be8 4 none, Cond.methodLink RJx4a65c 129 yJx4a65c_grow_d5877, Cond.instanceMethod yJx4a65c_grow_d5877, Cond.selects RJx4a65c yJx4a65c_grow_d5877 yJx4a65c_grow_d5877, Cond.code yJx4a65c_grow_d5877 cJx4a65c_grow_d5877 1 (some (.array (.object "java/lang/Object"))), Cond.methodLink RJx4a65c 69 yJx4a65c_grow_92f84, Cond.instanceMethod yJx4a65c_grow_92f84, Cond.selects RJx4a65c yJx4a65c_grow_92f84 yJx4a65c_grow_92f84, Cond.code yJx4a65c_grow_92f84 cJx4a65c_grow_92f84 4 (some (.array (.object "java/lang/Object"))), Cond.fieldLink RJx4a65c 39 "java/util/ArrayList" "DEFAULTCAPACITY_EMPTY_ELEMENTDATA" "[Ljava/lang/Object;", Cond.methodLink RJx4a65c 79 Lib.Math.max.name, Cond.static Lib.Math.max.name, Cond.initialized "java/lang/Math", Cond.code Lib.Math.max.name Lib.Math.max.code 2 (some .int), Cond.classLink RJx4a65c 7 "java/lang/Object", Cond.methodLink RJx4a65c 73 yJ8_newLength_cabcc, Cond.static yJ8_newLength_cabcc, Cond.initialized RJ8, Cond.code yJ8_newLength_cabcc cJ8_newLength_cabcc 4 (some .int), Cond.methodLink RJ8 194 Lib.Math.max.name, Cond.constant RJ8 200 (2147483639), Cond.methodLink RJ8 201 yJ8_hugeLength_7cf53, Cond.static yJ8_hugeLength_7cf53, Cond.code yJ8_hugeLength_7cf53 cJ8_hugeLength_7cf53 3 (some .int)]
def wsX4_raiseAndCloseAlarms_r5 : List Cond := [Cond.methodLink RJx4a65c 66 yJ7_copyOf_1904c, Cond.static yJ7_copyOf_1904c, Cond.initialized RJ7, Cond.code yJ7_copyOf_1904c cJ7_copyOf_1904c 2 (some (.array (.object "java/lang/Object"))), Cond.methodLink RJ7 86 ⟨"java/lang/Object", "getClass", "()Ljava/lang/Class;"⟩, Cond.selects "[Ljava/lang/Object;" ⟨"java/lang/Object", "getClass", "()Ljava/lang/Class;"⟩ ⟨"java/lang/Object", "getClass", "()Ljava/lang/Class;"⟩, Cond.instanceMethod ⟨"java/lang/Object", "getClass", "()Ljava/lang/Class;"⟩, Cond.native ⟨"java/lang/Object", "getClass", "()Ljava/lang/Class;"⟩, Cond.methodLink RJ7 300 yJ7_copyOf_6403c, Cond.static yJ7_copyOf_6403c, Cond.code yJ7_copyOf_6403c cJ7_copyOf_6403c 4 (some (.array (.object "java/lang/Object"))), Cond.classLink RJ7 110 "[Ljava/lang/Object;", Cond.classLink RJ7 2 "java/lang/Object", Cond.methodLink RJ7 304 Lib.Math.min.name, Cond.static Lib.Math.min.name, Cond.code Lib.Math.min.name Lib.Math.min.code 2 (some .int), Cond.methodLink RJ7 150 arraycopyName, Cond.native arraycopyName, Cond.static arraycopyName, Cond.initialized "java/lang/System"]
def wsX4_raiseAndCloseAlarms : List Cond := .code yX4_raiseAndCloseAlarms cX4_raiseAndCloseAlarms 3 none :: ((wsX4_raiseAndCloseAlarms_r1 ++ (wsX4_raiseAndCloseAlarms_r2 ++ (wsX4_raiseAndCloseAlarms_r3 ++ (wsX4_raiseAndCloseAlarms_r4 ++ wsX4_raiseAndCloseAlarms_r5)))) ++ wsX40 ++ wsX10 ++ wsX00 ++ wsJx4a65c0 ++ wsX30)
def wsX4_countMinute_r1 : List Cond := [Cond.fieldLink RX4 16 "Probeweb" "checks" "Ljava/util/ArrayList;", Cond.classLink RX4 72 "Probeweb$Check", Cond.fieldLink RX4 136 "Probeweb$Check" "lastVerdict" "I", Cond.fieldLink RX4 161 "Probeweb$Check" "minutesCounted" "I", Cond.fieldLink RX4 166 "Probeweb$Check" "minutesUp" "I", Cond.methodLink RX4 39 yJx4a65c_size_8abf5, Cond.instanceMethod yJx4a65c_size_8abf5, Cond.selects RJx4a65c yJx4a65c_size_8abf5 yJx4a65c_size_8abf5, Cond.initialized RJx4a65c, Cond.code yJx4a65c_size_8abf5 cJx4a65c_size_8abf5 1 (some .int), Cond.fieldLink RJx4a65c 48 "java/util/ArrayList" "size" "I", Cond.methodLink RX4 50 yJx4a65c_get_915e3, Cond.instanceMethod yJx4a65c_get_915e3, Cond.selects RJx4a65c yJx4a65c_get_915e3 yJx4a65c_get_915e3, Cond.code yJx4a65c_get_915e3 cJx4a65c_get_915e3 2 (some (.object "java/lang/Object")), Cond.methodLink RJx4a65c 118 yJ15_checkIndex_7cf53, Cond.static yJ15_checkIndex_7cf53, Cond.initialized RJ15, Cond.code yJ15_checkIndex_7cf53 cJ15_checkIndex_7cf53 2 (some .int), Cond.methodLink RJ15 105 yJ3_checkIndex_8e157, Cond.static yJ3_checkIndex_8e157, Cond.initialized RJ3, Cond.code yJ3_checkIndex_8e157 cJ3_checkIndex_8e157 3 (some .int), Cond.methodLink RJx4a65c 123 yJx4a65c_elementData_915e3]
def wsX4_countMinute_r2 : List Cond := [Cond.instanceMethod yJx4a65c_elementData_915e3, Cond.selects RJx4a65c yJx4a65c_elementData_915e3 yJx4a65c_elementData_915e3, Cond.code yJx4a65c_elementData_915e3 cJx4a65c_elementData_915e3 2 (some (.object "java/lang/Object")), Cond.fieldLink RJx4a65c 9 "java/util/ArrayList" "elementData" "[Ljava/lang/Object;"]
def wsX4_countMinute : List Cond := .code yX4_countMinute cX4_countMinute 3 none :: ((wsX4_countMinute_r1 ++ wsX4_countMinute_r2) ++ wsX40 ++ wsX10 ++ wsJx4a65c0)
def wsX4_passOneMinute_r1 : List Cond := [Cond.fieldLink RX4 32 "Probeweb" "minute" "I", Cond.methodLink RX4 180 yX4_makeProbes, Cond.instanceMethod yX4_makeProbes, Cond.selects RX4 yX4_makeProbes yX4_makeProbes, Cond.initialized RX4, Cond.code yX4_makeProbes cX4_makeProbes 3 none, Cond.fieldLink RX4 16 "Probeweb" "checks" "Ljava/util/ArrayList;", Cond.fieldLink RX4 10 "Probeweb" "regions" "Ljava/util/ArrayList;", Cond.classLink RX4 72 "Probeweb$Check", Cond.classLink RX4 54 "Probeweb$Region", Cond.methodLink RX4 39 yJx4a65c_size_8abf5, Cond.instanceMethod yJx4a65c_size_8abf5, Cond.selects RJx4a65c yJx4a65c_size_8abf5 yJx4a65c_size_8abf5, Cond.initialized RJx4a65c, Cond.code yJx4a65c_size_8abf5 cJx4a65c_size_8abf5 1 (some .int), Cond.fieldLink RJx4a65c 48 "java/util/ArrayList" "size" "I", Cond.methodLink RX4 50 yJx4a65c_get_915e3, Cond.instanceMethod yJx4a65c_get_915e3, Cond.selects RJx4a65c yJx4a65c_get_915e3 yJx4a65c_get_915e3, Cond.code yJx4a65c_get_915e3 cJx4a65c_get_915e3 2 (some (.object "java/lang/Object")), Cond.methodLink RJx4a65c 118 yJ15_checkIndex_7cf53, Cond.static yJ15_checkIndex_7cf53, Cond.initialized RJ15, Cond.code yJ15_checkIndex_7cf53 cJ15_checkIndex_7cf53 2 (some .int)]
def wsX4_passOneMinute_r2 : List Cond := [Cond.methodLink RJ15 105 yJ3_checkIndex_8e157, Cond.static yJ3_checkIndex_8e157, Cond.initialized RJ3, Cond.code yJ3_checkIndex_8e157 cJ3_checkIndex_8e157 3 (some .int), Cond.methodLink RJx4a65c 123 yJx4a65c_elementData_915e3, Cond.instanceMethod yJx4a65c_elementData_915e3, Cond.selects RJx4a65c yJx4a65c_elementData_915e3 yJx4a65c_elementData_915e3, Cond.code yJx4a65c_elementData_915e3 cJx4a65c_elementData_915e3 2 (some (.object "java/lang/Object")), Cond.fieldLink RJx4a65c 9 "java/util/ArrayList" "elementData" "[Ljava/lang/Object;", Cond.methodLink RX4 195 yX1_isDue, Cond.instanceMethod yX1_isDue, Cond.selects RX1 yX1_isDue yX1_isDue, Cond.initialized RX1, Cond.code yX1_isDue cX1_isDue 3 (some .boolean), Cond.methodLink RX1 37 yX1_nextMinuteFrom, Cond.instanceMethod yX1_nextMinuteFrom, Cond.selects RX1 yX1_nextMinuteFrom yX1_nextMinuteFrom, Cond.code yX1_nextMinuteFrom cX1_nextMinuteFrom 5 (some .int), Cond.fieldLink RX1 31 "Probeweb$Check" "planned" "[I", Cond.fieldLink RX1 34 "Probeweb$Check" "plannedMinute" "[I", Cond.fieldLink RX1 18 "Probeweb$Check" "offset" "I", Cond.fieldLink RX1 15 "Probeweb$Check" "interval" "I", Cond.methodLink RX4 198 yX4_makeProbe, Cond.instanceMethod yX4_makeProbe]
def wsX4_passOneMinute_r3 : List Cond := [Cond.selects RX4 yX4_makeProbe yX4_makeProbe, Cond.code yX4_makeProbe cX4_makeProbe 3 none, Cond.fieldLink RX4 130 "Probeweb$Region" "probesMade" "I", Cond.fieldLink RX4 133 "Probeweb$Region" "probesFailed" "I", Cond.fieldLink RX4 202 "Probeweb$Region" "number" "I", Cond.methodLink RX4 115 yX4_wouldFail, Cond.instanceMethod yX4_wouldFail, Cond.selects RX4 yX4_wouldFail yX4_wouldFail, Cond.code yX4_wouldFail cX4_wouldFail 3 (some .boolean), Cond.fieldLink RX4 80 "Probeweb$Check" "downRegions" "I", Cond.fieldLink RX4 56 "Probeweb$Region" "path" "I", Cond.fieldLink RX4 25 "Probeweb" "cutRegions" "I", Cond.methodLink RX4 83 yX4_holds, Cond.static yX4_holds, Cond.code yX4_holds cX4_holds 2 (some .boolean), Cond.methodLink RX4 205 yX1_takeFailure, Cond.instanceMethod yX1_takeFailure, Cond.selects RX1 yX1_takeFailure yX1_takeFailure, Cond.code yX1_takeFailure cX1_takeFailure 4 none, Cond.fieldLink RX1 27 "Probeweb$Check" "votes" "[I", Cond.fieldLink RX1 21 "Probeweb$Check" "repetitions" "I", Cond.fieldLink RX1 9 "Probeweb$Check" "number" "I", Cond.methodLink RX4 208 yX1_takeSuccess, Cond.instanceMethod yX1_takeSuccess]
def wsX4_passOneMinute_r4 : List Cond := [Cond.selects RX1 yX1_takeSuccess yX1_takeSuccess, Cond.code yX1_takeSuccess cX1_takeSuccess 2 none, Cond.methodLink RX4 183 yX4_judgeRegions, Cond.instanceMethod yX4_judgeRegions, Cond.selects RX4 yX4_judgeRegions yX4_judgeRegions, Cond.code yX4_judgeRegions cX4_judgeRegions 2 none, Cond.fieldLink RX4 29 "Probeweb" "badRegions" "I", Cond.methodLink RX4 211 yX4_votesAreBad, Cond.instanceMethod yX4_votesAreBad, Cond.selects RX4 yX4_votesAreBad yX4_votesAreBad, Cond.code yX4_votesAreBad cX4_votesAreBad 6 (some .boolean), Cond.fieldLink RX4 127 "Probeweb$Check" "votes" "[I", Cond.methodLink RX4 87 yX4_withRegion, Cond.static yX4_withRegion, Cond.code yX4_withRegion cX4_withRegion 3 (some .int), Cond.methodLink RX4 186 yX4_judgeChecks, Cond.instanceMethod yX4_judgeChecks, Cond.selects RX4 yX4_judgeChecks yX4_judgeChecks, Cond.code yX4_judgeChecks cX4_judgeChecks 3 none, Cond.methodLink RX4 139 yX4_trustedRegions, Cond.instanceMethod yX4_trustedRegions, Cond.selects RX4 yX4_trustedRegions yX4_trustedRegions, Cond.code yX4_trustedRegions cX4_trustedRegions 5 (some .int), Cond.methodLink RX4 215 yX1_judge]
def wsX4_passOneMinute_r5 : List Cond := [Cond.instanceMethod yX1_judge, Cond.selects RX1 yX1_judge yX1_judge, Cond.code yX1_judge cX1_judge 4 none, Cond.fieldLink RX1 24 "Probeweb$Check" "quorum" "I", Cond.fieldLink RX1 51 "Probeweb$Check" "lastVerdict" "I", Cond.methodLink RX1 45 yJ6_bitCount_0f7a4, Cond.static yJ6_bitCount_0f7a4, Cond.initialized RJ6, Cond.code yJ6_bitCount_0f7a4 cJ6_bitCount_0f7a4 1 (some .int), Cond.constant RJ6 265 (1431655765), Cond.constant RJ6 266 (858993459), Cond.constant RJ6 267 (252645135), Cond.methodLink RX4 189 yX4_raiseAndCloseAlarms, Cond.instanceMethod yX4_raiseAndCloseAlarms, Cond.selects RX4 yX4_raiseAndCloseAlarms yX4_raiseAndCloseAlarms, Cond.code yX4_raiseAndCloseAlarms cX4_raiseAndCloseAlarms 3 none, Cond.fieldLink RX4 136 "Probeweb$Check" "lastVerdict" "I", Cond.fieldLink RX4 143 "Probeweb$Check" "openAlarm" "LProbeweb$Alarm;", Cond.fieldLink RX4 158 "Probeweb$Alarm" "closed" "I", Cond.methodLink RX4 218 yX4_isMaintained, Cond.instanceMethod yX4_isMaintained, Cond.selects RX4 yX4_isMaintained yX4_isMaintained, Cond.code yX4_isMaintained cX4_isMaintained 4 (some .boolean), Cond.fieldLink RX4 19 "Probeweb" "windows" "Ljava/util/ArrayList;"]
def wsX4_passOneMinute_r6 : List Cond := [Cond.classLink RX4 97 "Probeweb$Window", Cond.fieldLink RX4 226 "Probeweb$Window" "check" "I", Cond.fieldLink RX4 227 "Probeweb$Check" "number" "I", Cond.methodLink RX4 228 yX3_contains, Cond.instanceMethod yX3_contains, Cond.selects RX3 yX3_contains yX3_contains, Cond.initialized RX3, Cond.code yX3_contains cX3_contains 2 (some .boolean), Cond.fieldLink RX3 13 "Probeweb$Window" "first" "I", Cond.fieldLink RX3 16 "Probeweb$Window" "last" "I", Cond.methodLink RX4 222 yX4_raiseAlarm, Cond.instanceMethod yX4_raiseAlarm, Cond.selects RX4 yX4_raiseAlarm yX4_raiseAlarm, Cond.code yX4_raiseAlarm cX4_raiseAlarm 2 none, Cond.fieldLink RX4 22 "Probeweb" "alarmLog" "Ljava/util/ArrayList;", Cond.constant RX4 231 (1000000), Cond.classLink RX4 150 RX0, Cond.instantiable RX0 3, Cond.initialized RX0, Cond.methodLink RX4 232 yX0_init, Cond.instanceMethod yX0_init, Cond.code yX0_init cX0_init 3 none, Cond.methodLink RX0 3 objectInit, Cond.instanceMethod objectInit]
def wsX4_passOneMinute_r7 : List Cond := [Cond.code objectInit ⟨#[0xb1]⟩ 1 none, Cond.fieldLink RX0 9 "Probeweb$Alarm" "check" "I", Cond.fieldLink RX0 15 "Probeweb$Alarm" "raised" "I", Cond.fieldLink RX0 18 "Probeweb$Alarm" "closed" "I", Cond.methodLink RX4 62 yJx4a65c_add_9ea2d, Cond.instanceMethod yJx4a65c_add_9ea2d, Cond.selects RJx4a65c yJx4a65c_add_9ea2d yJx4a65c_add_9ea2d, Cond.code yJx4a65c_add_9ea2d cJx4a65c_add_9ea2d 2 (some .boolean), Cond.fieldLink RJx4a65c 63 "java/util/ArrayList" "modCount" "I", Cond.sameField "java/util/ArrayList" "java/util/AbstractList" "modCount" "I", Cond.methodLink RJx4a65c 131 yJx4a65c_add_72be8, Cond.instanceMethod yJx4a65c_add_72be8, Cond.selects RJx4a65c yJx4a65c_add_72be8 yJx4a65c_add_72be8, Cond.code yJx4a65c_add_72be8 cJx4a65c_add_72be8 4 none, Cond.methodLink RJx4a65c 129 yJx4a65c_grow_d5877, Cond.instanceMethod yJx4a65c_grow_d5877, Cond.selects RJx4a65c yJx4a65c_grow_d5877 yJx4a65c_grow_d5877, Cond.code yJx4a65c_grow_d5877 cJx4a65c_grow_d5877 1 (some (.array (.object "java/lang/Object"))), Cond.methodLink RJx4a65c 69 yJx4a65c_grow_92f84, Cond.instanceMethod yJx4a65c_grow_92f84, Cond.selects RJx4a65c yJx4a65c_grow_92f84 yJx4a65c_grow_92f84, Cond.code yJx4a65c_grow_92f84 cJx4a65c_grow_92f84 4 (some (.array (.object "java/lang/Object"))), Cond.fieldLink RJx4a65c 39 "java/util/ArrayList" "DEFAULTCAPACITY_EMPTY_ELEMENTDATA" "[Ljava/lang/Object;", Cond.methodLink RJx4a65c 79 Lib.Math.max.name]
def wsX4_passOneMinute_r8 : List Cond := [Cond.static Lib.Math.max.name, Cond.initialized "java/lang/Math", Cond.code Lib.Math.max.name Lib.Math.max.code 2 (some .int), Cond.classLink RJx4a65c 7 "java/lang/Object", Cond.methodLink RJx4a65c 73 yJ8_newLength_cabcc, Cond.static yJ8_newLength_cabcc, Cond.initialized RJ8, Cond.code yJ8_newLength_cabcc cJ8_newLength_cabcc 4 (some .int), Cond.methodLink RJ8 194 Lib.Math.max.name, Cond.constant RJ8 200 (2147483639), Cond.methodLink RJ8 201 yJ8_hugeLength_7cf53, Cond.static yJ8_hugeLength_7cf53, Cond.code yJ8_hugeLength_7cf53 cJ8_hugeLength_7cf53 3 (some .int), Cond.methodLink RJx4a65c 66 yJ7_copyOf_1904c, Cond.static yJ7_copyOf_1904c, Cond.initialized RJ7, Cond.code yJ7_copyOf_1904c cJ7_copyOf_1904c 2 (some (.array (.object "java/lang/Object"))), Cond.methodLink RJ7 86 ⟨"java/lang/Object", "getClass", "()Ljava/lang/Class;"⟩, Cond.selects "[Ljava/lang/Object;" ⟨"java/lang/Object", "getClass", "()Ljava/lang/Class;"⟩ ⟨"java/lang/Object", "getClass", "()Ljava/lang/Class;"⟩, Cond.instanceMethod ⟨"java/lang/Object", "getClass", "()Ljava/lang/Class;"⟩, Cond.native ⟨"java/lang/Object", "getClass", "()Ljava/lang/Class;"⟩, Cond.methodLink RJ7 300 yJ7_copyOf_6403c, Cond.static yJ7_copyOf_6403c, Cond.code yJ7_copyOf_6403c cJ7_copyOf_6403c 4 (some (.array (.object "java/lang/Object")))]
def wsX4_passOneMinute_r9 : List Cond := [Cond.classLink RJ7 110 "[Ljava/lang/Object;", Cond.classLink RJ7 2 "java/lang/Object", Cond.methodLink RJ7 304 Lib.Math.min.name, Cond.static Lib.Math.min.name, Cond.code Lib.Math.min.name Lib.Math.min.code 2 (some .int), Cond.methodLink RJ7 150 arraycopyName, Cond.native arraycopyName, Cond.static arraycopyName, Cond.initialized "java/lang/System", Cond.methodLink RX4 192 yX4_countMinute, Cond.instanceMethod yX4_countMinute, Cond.selects RX4 yX4_countMinute yX4_countMinute, Cond.code yX4_countMinute cX4_countMinute 3 none, Cond.fieldLink RX4 161 "Probeweb$Check" "minutesCounted" "I", Cond.fieldLink RX4 166 "Probeweb$Check" "minutesUp" "I"]
def wsX4_passOneMinute : List Cond := .code yX4_passOneMinute cX4_passOneMinute 1 none :: ((wsX4_passOneMinute_r1 ++ (wsX4_passOneMinute_r2 ++ (wsX4_passOneMinute_r3 ++ (wsX4_passOneMinute_r4 ++ (wsX4_passOneMinute_r5 ++ (wsX4_passOneMinute_r6 ++ (wsX4_passOneMinute_r7 ++ (wsX4_passOneMinute_r8 ++ wsX4_passOneMinute_r9)))))))) ++ wsX40 ++ wsJx4a65c0 ++ wsX10 ++ wsX20 ++ wsX00 ++ wsX30)
def wsX4_pass_r1 : List Cond := [Cond.fieldLink RX4 22 "Probeweb" "alarmLog" "Ljava/util/ArrayList;", Cond.methodLink RX4 66 yX4_requireRange, Cond.static yX4_requireRange, Cond.initialized RX4, Cond.code yX4_requireRange cX4_requireRange 3 none, Cond.classLink RX4 175 "java/lang/IllegalArgumentException", Cond.initialized "java/lang/IllegalArgumentException", Cond.methodLink RX4 39 yJx4a65c_size_8abf5, Cond.instanceMethod yJx4a65c_size_8abf5, Cond.selects RJx4a65c yJx4a65c_size_8abf5 yJx4a65c_size_8abf5, Cond.initialized RJx4a65c, Cond.code yJx4a65c_size_8abf5 cJx4a65c_size_8abf5 1 (some .int), Cond.fieldLink RJx4a65c 48 "java/util/ArrayList" "size" "I", Cond.methodLink RX4 112 yX4_passOneMinute, Cond.instanceMethod yX4_passOneMinute, Cond.selects RX4 yX4_passOneMinute yX4_passOneMinute, Cond.code yX4_passOneMinute cX4_passOneMinute 1 none, Cond.fieldLink RX4 32 "Probeweb" "minute" "I", Cond.methodLink RX4 180 yX4_makeProbes, Cond.instanceMethod yX4_makeProbes, Cond.selects RX4 yX4_makeProbes yX4_makeProbes, Cond.code yX4_makeProbes cX4_makeProbes 3 none, Cond.fieldLink RX4 16 "Probeweb" "checks" "Ljava/util/ArrayList;", Cond.fieldLink RX4 10 "Probeweb" "regions" "Ljava/util/ArrayList;"]
def wsX4_pass_r2 : List Cond := [Cond.classLink RX4 72 "Probeweb$Check", Cond.classLink RX4 54 "Probeweb$Region", Cond.methodLink RX4 50 yJx4a65c_get_915e3, Cond.instanceMethod yJx4a65c_get_915e3, Cond.selects RJx4a65c yJx4a65c_get_915e3 yJx4a65c_get_915e3, Cond.code yJx4a65c_get_915e3 cJx4a65c_get_915e3 2 (some (.object "java/lang/Object")), Cond.methodLink RJx4a65c 118 yJ15_checkIndex_7cf53, Cond.static yJ15_checkIndex_7cf53, Cond.initialized RJ15, Cond.code yJ15_checkIndex_7cf53 cJ15_checkIndex_7cf53 2 (some .int), Cond.methodLink RJ15 105 yJ3_checkIndex_8e157, Cond.static yJ3_checkIndex_8e157, Cond.initialized RJ3, Cond.code yJ3_checkIndex_8e157 cJ3_checkIndex_8e157 3 (some .int), Cond.methodLink RJx4a65c 123 yJx4a65c_elementData_915e3, Cond.instanceMethod yJx4a65c_elementData_915e3, Cond.selects RJx4a65c yJx4a65c_elementData_915e3 yJx4a65c_elementData_915e3, Cond.code yJx4a65c_elementData_915e3 cJx4a65c_elementData_915e3 2 (some (.object "java/lang/Object")), Cond.fieldLink RJx4a65c 9 "java/util/ArrayList" "elementData" "[Ljava/lang/Object;", Cond.methodLink RX4 195 yX1_isDue, Cond.instanceMethod yX1_isDue, Cond.selects RX1 yX1_isDue yX1_isDue, Cond.initialized RX1, Cond.code yX1_isDue cX1_isDue 3 (some .boolean)]
def wsX4_pass_r3 : List Cond := [Cond.methodLink RX1 37 yX1_nextMinuteFrom, Cond.instanceMethod yX1_nextMinuteFrom, Cond.selects RX1 yX1_nextMinuteFrom yX1_nextMinuteFrom, Cond.code yX1_nextMinuteFrom cX1_nextMinuteFrom 5 (some .int), Cond.fieldLink RX1 31 "Probeweb$Check" "planned" "[I", Cond.fieldLink RX1 34 "Probeweb$Check" "plannedMinute" "[I", Cond.fieldLink RX1 18 "Probeweb$Check" "offset" "I", Cond.fieldLink RX1 15 "Probeweb$Check" "interval" "I", Cond.methodLink RX4 198 yX4_makeProbe, Cond.instanceMethod yX4_makeProbe, Cond.selects RX4 yX4_makeProbe yX4_makeProbe, Cond.code yX4_makeProbe cX4_makeProbe 3 none, Cond.fieldLink RX4 130 "Probeweb$Region" "probesMade" "I", Cond.fieldLink RX4 133 "Probeweb$Region" "probesFailed" "I", Cond.fieldLink RX4 202 "Probeweb$Region" "number" "I", Cond.methodLink RX4 115 yX4_wouldFail, Cond.instanceMethod yX4_wouldFail, Cond.selects RX4 yX4_wouldFail yX4_wouldFail, Cond.code yX4_wouldFail cX4_wouldFail 3 (some .boolean), Cond.fieldLink RX4 80 "Probeweb$Check" "downRegions" "I", Cond.fieldLink RX4 56 "Probeweb$Region" "path" "I", Cond.fieldLink RX4 25 "Probeweb" "cutRegions" "I", Cond.methodLink RX4 83 yX4_holds, Cond.static yX4_holds]
def wsX4_pass_r4 : List Cond := [Cond.code yX4_holds cX4_holds 2 (some .boolean), Cond.methodLink RX4 205 yX1_takeFailure, Cond.instanceMethod yX1_takeFailure, Cond.selects RX1 yX1_takeFailure yX1_takeFailure, Cond.code yX1_takeFailure cX1_takeFailure 4 none, Cond.fieldLink RX1 27 "Probeweb$Check" "votes" "[I", Cond.fieldLink RX1 21 "Probeweb$Check" "repetitions" "I", Cond.fieldLink RX1 9 "Probeweb$Check" "number" "I", Cond.methodLink RX4 208 yX1_takeSuccess, Cond.instanceMethod yX1_takeSuccess, Cond.selects RX1 yX1_takeSuccess yX1_takeSuccess, Cond.code yX1_takeSuccess cX1_takeSuccess 2 none, Cond.methodLink RX4 183 yX4_judgeRegions, Cond.instanceMethod yX4_judgeRegions, Cond.selects RX4 yX4_judgeRegions yX4_judgeRegions, Cond.code yX4_judgeRegions cX4_judgeRegions 2 none, Cond.fieldLink RX4 29 "Probeweb" "badRegions" "I", Cond.methodLink RX4 211 yX4_votesAreBad, Cond.instanceMethod yX4_votesAreBad, Cond.selects RX4 yX4_votesAreBad yX4_votesAreBad, Cond.code yX4_votesAreBad cX4_votesAreBad 6 (some .boolean), Cond.fieldLink RX4 127 "Probeweb$Check" "votes" "[I", Cond.methodLink RX4 87 yX4_withRegion, Cond.static yX4_withRegion]
def wsX4_pass_r5 : List Cond := [Cond.code yX4_withRegion cX4_withRegion 3 (some .int), Cond.methodLink RX4 186 yX4_judgeChecks, Cond.instanceMethod yX4_judgeChecks, Cond.selects RX4 yX4_judgeChecks yX4_judgeChecks, Cond.code yX4_judgeChecks cX4_judgeChecks 3 none, Cond.methodLink RX4 139 yX4_trustedRegions, Cond.instanceMethod yX4_trustedRegions, Cond.selects RX4 yX4_trustedRegions yX4_trustedRegions, Cond.code yX4_trustedRegions cX4_trustedRegions 5 (some .int), Cond.methodLink RX4 215 yX1_judge, Cond.instanceMethod yX1_judge, Cond.selects RX1 yX1_judge yX1_judge, Cond.code yX1_judge cX1_judge 4 none, Cond.fieldLink RX1 24 "Probeweb$Check" "quorum" "I", Cond.fieldLink RX1 51 "Probeweb$Check" "lastVerdict" "I", Cond.methodLink RX1 45 yJ6_bitCount_0f7a4, Cond.static yJ6_bitCount_0f7a4, Cond.initialized RJ6, Cond.code yJ6_bitCount_0f7a4 cJ6_bitCount_0f7a4 1 (some .int), Cond.constant RJ6 265 (1431655765), Cond.constant RJ6 266 (858993459), Cond.constant RJ6 267 (252645135), Cond.methodLink RX4 189 yX4_raiseAndCloseAlarms, Cond.instanceMethod yX4_raiseAndCloseAlarms]
def wsX4_pass_r6 : List Cond := [Cond.selects RX4 yX4_raiseAndCloseAlarms yX4_raiseAndCloseAlarms, Cond.code yX4_raiseAndCloseAlarms cX4_raiseAndCloseAlarms 3 none, Cond.fieldLink RX4 136 "Probeweb$Check" "lastVerdict" "I", Cond.fieldLink RX4 143 "Probeweb$Check" "openAlarm" "LProbeweb$Alarm;", Cond.fieldLink RX4 158 "Probeweb$Alarm" "closed" "I", Cond.methodLink RX4 218 yX4_isMaintained, Cond.instanceMethod yX4_isMaintained, Cond.selects RX4 yX4_isMaintained yX4_isMaintained, Cond.code yX4_isMaintained cX4_isMaintained 4 (some .boolean), Cond.fieldLink RX4 19 "Probeweb" "windows" "Ljava/util/ArrayList;", Cond.classLink RX4 97 "Probeweb$Window", Cond.fieldLink RX4 226 "Probeweb$Window" "check" "I", Cond.fieldLink RX4 227 "Probeweb$Check" "number" "I", Cond.methodLink RX4 228 yX3_contains, Cond.instanceMethod yX3_contains, Cond.selects RX3 yX3_contains yX3_contains, Cond.initialized RX3, Cond.code yX3_contains cX3_contains 2 (some .boolean), Cond.fieldLink RX3 13 "Probeweb$Window" "first" "I", Cond.fieldLink RX3 16 "Probeweb$Window" "last" "I", Cond.methodLink RX4 222 yX4_raiseAlarm, Cond.instanceMethod yX4_raiseAlarm, Cond.selects RX4 yX4_raiseAlarm yX4_raiseAlarm, Cond.code yX4_raiseAlarm cX4_raiseAlarm 2 none]
def wsX4_pass_r7 : List Cond := [Cond.constant RX4 231 (1000000), Cond.classLink RX4 150 RX0, Cond.instantiable RX0 3, Cond.initialized RX0, Cond.methodLink RX4 232 yX0_init, Cond.instanceMethod yX0_init, Cond.code yX0_init cX0_init 3 none, Cond.methodLink RX0 3 objectInit, Cond.instanceMethod objectInit, Cond.code objectInit ⟨#[0xb1]⟩ 1 none, Cond.fieldLink RX0 9 "Probeweb$Alarm" "check" "I", Cond.fieldLink RX0 15 "Probeweb$Alarm" "raised" "I", Cond.fieldLink RX0 18 "Probeweb$Alarm" "closed" "I", Cond.methodLink RX4 62 yJx4a65c_add_9ea2d, Cond.instanceMethod yJx4a65c_add_9ea2d, Cond.selects RJx4a65c yJx4a65c_add_9ea2d yJx4a65c_add_9ea2d, Cond.code yJx4a65c_add_9ea2d cJx4a65c_add_9ea2d 2 (some .boolean), Cond.fieldLink RJx4a65c 63 "java/util/ArrayList" "modCount" "I", Cond.sameField "java/util/ArrayList" "java/util/AbstractList" "modCount" "I", Cond.methodLink RJx4a65c 131 yJx4a65c_add_72be8, Cond.instanceMethod yJx4a65c_add_72be8, Cond.selects RJx4a65c yJx4a65c_add_72be8 yJx4a65c_add_72be8, Cond.code yJx4a65c_add_72be8 cJx4a65c_add_72be8 4 none, Cond.methodLink RJx4a65c 129 yJx4a65c_grow_d5877]
def wsX4_pass_r8 : List Cond := [Cond.instanceMethod yJx4a65c_grow_d5877, Cond.selects RJx4a65c yJx4a65c_grow_d5877 yJx4a65c_grow_d5877, Cond.code yJx4a65c_grow_d5877 cJx4a65c_grow_d5877 1 (some (.array (.object "java/lang/Object"))), Cond.methodLink RJx4a65c 69 yJx4a65c_grow_92f84, Cond.instanceMethod yJx4a65c_grow_92f84, Cond.selects RJx4a65c yJx4a65c_grow_92f84 yJx4a65c_grow_92f84, Cond.code yJx4a65c_grow_92f84 cJx4a65c_grow_92f84 4 (some (.array (.object "java/lang/Object"))), Cond.fieldLink RJx4a65c 39 "java/util/ArrayList" "DEFAULTCAPACITY_EMPTY_ELEMENTDATA" "[Ljava/lang/Object;", Cond.methodLink RJx4a65c 79 Lib.Math.max.name, Cond.static Lib.Math.max.name, Cond.initialized "java/lang/Math", Cond.code Lib.Math.max.name Lib.Math.max.code 2 (some .int), Cond.classLink RJx4a65c 7 "java/lang/Object", Cond.methodLink RJx4a65c 73 yJ8_newLength_cabcc, Cond.static yJ8_newLength_cabcc, Cond.initialized RJ8, Cond.code yJ8_newLength_cabcc cJ8_newLength_cabcc 4 (some .int), Cond.methodLink RJ8 194 Lib.Math.max.name, Cond.constant RJ8 200 (2147483639), Cond.methodLink RJ8 201 yJ8_hugeLength_7cf53, Cond.static yJ8_hugeLength_7cf53, Cond.code yJ8_hugeLength_7cf53 cJ8_hugeLength_7cf53 3 (some .int), Cond.methodLink RJx4a65c 66 yJ7_copyOf_1904c, Cond.static yJ7_copyOf_1904c]
def wsX4_pass_r9 : List Cond := [Cond.initialized RJ7, Cond.code yJ7_copyOf_1904c cJ7_copyOf_1904c 2 (some (.array (.object "java/lang/Object"))), Cond.methodLink RJ7 86 ⟨"java/lang/Object", "getClass", "()Ljava/lang/Class;"⟩, Cond.selects "[Ljava/lang/Object;" ⟨"java/lang/Object", "getClass", "()Ljava/lang/Class;"⟩ ⟨"java/lang/Object", "getClass", "()Ljava/lang/Class;"⟩, Cond.instanceMethod ⟨"java/lang/Object", "getClass", "()Ljava/lang/Class;"⟩, Cond.native ⟨"java/lang/Object", "getClass", "()Ljava/lang/Class;"⟩, Cond.methodLink RJ7 300 yJ7_copyOf_6403c, Cond.static yJ7_copyOf_6403c, Cond.code yJ7_copyOf_6403c cJ7_copyOf_6403c 4 (some (.array (.object "java/lang/Object"))), Cond.classLink RJ7 110 "[Ljava/lang/Object;", Cond.classLink RJ7 2 "java/lang/Object", Cond.methodLink RJ7 304 Lib.Math.min.name, Cond.static Lib.Math.min.name, Cond.code Lib.Math.min.name Lib.Math.min.code 2 (some .int), Cond.methodLink RJ7 150 arraycopyName, Cond.native arraycopyName, Cond.static arraycopyName, Cond.initialized "java/lang/System", Cond.methodLink RX4 192 yX4_countMinute, Cond.instanceMethod yX4_countMinute, Cond.selects RX4 yX4_countMinute yX4_countMinute, Cond.code yX4_countMinute cX4_countMinute 3 none, Cond.fieldLink RX4 161 "Probeweb$Check" "minutesCounted" "I", Cond.fieldLink RX4 166 "Probeweb$Check" "minutesUp" "I"]
def wsX4_pass : List Cond := .code yX4_pass cX4_pass 4 (some .int) :: ((wsX4_pass_r1 ++ (wsX4_pass_r2 ++ (wsX4_pass_r3 ++ (wsX4_pass_r4 ++ (wsX4_pass_r5 ++ (wsX4_pass_r6 ++ (wsX4_pass_r7 ++ (wsX4_pass_r8 ++ wsX4_pass_r9)))))))) ++ wsX40 ++ wsJx4a65c0 ++ wsX10 ++ wsX20 ++ wsX00 ++ wsX30 ++ (vx_atS RX4 179 "java/lang/IllegalArgumentException" ["java/lang/RuntimeException", "java/lang/Exception"]).filter goodWord)
def wsX4_minute : List Cond := .code yX4_minute cX4_minute 1 (some .int) :: ([.fieldLink RX4 32 "Probeweb" "minute" "I"] ++ wsX40)
def wsX4_failing_r1 : List Cond := [Cond.fieldLink RX4 10 "Probeweb" "regions" "Ljava/util/ArrayList;", Cond.fieldLink RX4 16 "Probeweb" "checks" "Ljava/util/ArrayList;", Cond.classLink RX4 72 "Probeweb$Check", Cond.classLink RX4 54 "Probeweb$Region", Cond.methodLink RX4 77 yX4_requireCheck, Cond.instanceMethod yX4_requireCheck, Cond.selects RX4 yX4_requireCheck yX4_requireCheck, Cond.initialized RX4, Cond.code yX4_requireCheck cX4_requireCheck 2 none, Cond.classLink RX4 101 "java/lang/IndexOutOfBoundsException", Cond.initialized "java/lang/IndexOutOfBoundsException", Cond.methodLink RX4 39 yJx4a65c_size_8abf5, Cond.instanceMethod yJx4a65c_size_8abf5, Cond.selects RJx4a65c yJx4a65c_size_8abf5 yJx4a65c_size_8abf5, Cond.initialized RJx4a65c, Cond.code yJx4a65c_size_8abf5 cJx4a65c_size_8abf5 1 (some .int), Cond.fieldLink RJx4a65c 48 "java/util/ArrayList" "size" "I", Cond.methodLink RX4 50 yJx4a65c_get_915e3, Cond.instanceMethod yJx4a65c_get_915e3, Cond.selects RJx4a65c yJx4a65c_get_915e3 yJx4a65c_get_915e3, Cond.code yJx4a65c_get_915e3 cJx4a65c_get_915e3 2 (some (.object "java/lang/Object")), Cond.methodLink RJx4a65c 118 yJ15_checkIndex_7cf53, Cond.static yJ15_checkIndex_7cf53, Cond.initialized RJ15]
def wsX4_failing_r2 : List Cond := [Cond.code yJ15_checkIndex_7cf53 cJ15_checkIndex_7cf53 2 (some .int), Cond.methodLink RJ15 105 yJ3_checkIndex_8e157, Cond.static yJ3_checkIndex_8e157, Cond.initialized RJ3, Cond.code yJ3_checkIndex_8e157 cJ3_checkIndex_8e157 3 (some .int), Cond.methodLink RJx4a65c 123 yJx4a65c_elementData_915e3, Cond.instanceMethod yJx4a65c_elementData_915e3, Cond.selects RJx4a65c yJx4a65c_elementData_915e3 yJx4a65c_elementData_915e3, Cond.code yJx4a65c_elementData_915e3 cJx4a65c_elementData_915e3 2 (some (.object "java/lang/Object")), Cond.fieldLink RJx4a65c 9 "java/util/ArrayList" "elementData" "[Ljava/lang/Object;", Cond.methodLink RX4 115 yX4_wouldFail, Cond.instanceMethod yX4_wouldFail, Cond.selects RX4 yX4_wouldFail yX4_wouldFail, Cond.code yX4_wouldFail cX4_wouldFail 3 (some .boolean), Cond.fieldLink RX4 80 "Probeweb$Check" "downRegions" "I", Cond.fieldLink RX4 202 "Probeweb$Region" "number" "I", Cond.fieldLink RX4 56 "Probeweb$Region" "path" "I", Cond.fieldLink RX4 25 "Probeweb" "cutRegions" "I", Cond.methodLink RX4 83 yX4_holds, Cond.static yX4_holds, Cond.code yX4_holds cX4_holds 2 (some .boolean), Cond.methodLink RX4 87 yX4_withRegion, Cond.static yX4_withRegion, Cond.code yX4_withRegion cX4_withRegion 3 (some .int)]
def wsX4_failing : List Cond := .code yX4_failing cX4_failing 4 (some .int) :: ((wsX4_failing_r1 ++ wsX4_failing_r2) ++ wsX40 ++ wsJx4a65c0 ++ wsX10 ++ wsX20 ++ (vx_atS RX4 105 "java/lang/IndexOutOfBoundsException" ["java/lang/RuntimeException", "java/lang/Exception"]).filter goodWord)
def wsX4_nextProbe_r1 : List Cond := [Cond.fieldLink RX4 16 "Probeweb" "checks" "Ljava/util/ArrayList;", Cond.classLink RX4 72 "Probeweb$Check", Cond.fieldLink RX4 32 "Probeweb" "minute" "I", Cond.methodLink RX4 77 yX4_requireCheck, Cond.instanceMethod yX4_requireCheck, Cond.selects RX4 yX4_requireCheck yX4_requireCheck, Cond.initialized RX4, Cond.code yX4_requireCheck cX4_requireCheck 2 none, Cond.classLink RX4 101 "java/lang/IndexOutOfBoundsException", Cond.initialized "java/lang/IndexOutOfBoundsException", Cond.methodLink RX4 39 yJx4a65c_size_8abf5, Cond.instanceMethod yJx4a65c_size_8abf5, Cond.selects RJx4a65c yJx4a65c_size_8abf5 yJx4a65c_size_8abf5, Cond.initialized RJx4a65c, Cond.code yJx4a65c_size_8abf5 cJx4a65c_size_8abf5 1 (some .int), Cond.fieldLink RJx4a65c 48 "java/util/ArrayList" "size" "I", Cond.methodLink RX4 35 yX4_requireRegion, Cond.instanceMethod yX4_requireRegion, Cond.selects RX4 yX4_requireRegion yX4_requireRegion, Cond.code yX4_requireRegion cX4_requireRegion 2 none, Cond.fieldLink RX4 10 "Probeweb" "regions" "Ljava/util/ArrayList;", Cond.methodLink RX4 50 yJx4a65c_get_915e3, Cond.instanceMethod yJx4a65c_get_915e3, Cond.selects RJx4a65c yJx4a65c_get_915e3 yJx4a65c_get_915e3]
def wsX4_nextProbe_r2 : List Cond := [Cond.code yJx4a65c_get_915e3 cJx4a65c_get_915e3 2 (some (.object "java/lang/Object")), Cond.methodLink RJx4a65c 118 yJ15_checkIndex_7cf53, Cond.static yJ15_checkIndex_7cf53, Cond.initialized RJ15, Cond.code yJ15_checkIndex_7cf53 cJ15_checkIndex_7cf53 2 (some .int), Cond.methodLink RJ15 105 yJ3_checkIndex_8e157, Cond.static yJ3_checkIndex_8e157, Cond.initialized RJ3, Cond.code yJ3_checkIndex_8e157 cJ3_checkIndex_8e157 3 (some .int), Cond.methodLink RJx4a65c 123 yJx4a65c_elementData_915e3, Cond.instanceMethod yJx4a65c_elementData_915e3, Cond.selects RJx4a65c yJx4a65c_elementData_915e3 yJx4a65c_elementData_915e3, Cond.code yJx4a65c_elementData_915e3 cJx4a65c_elementData_915e3 2 (some (.object "java/lang/Object")), Cond.fieldLink RJx4a65c 9 "java/util/ArrayList" "elementData" "[Ljava/lang/Object;", Cond.methodLink RX4 119 yX1_nextMinuteFrom, Cond.instanceMethod yX1_nextMinuteFrom, Cond.selects RX1 yX1_nextMinuteFrom yX1_nextMinuteFrom, Cond.initialized RX1, Cond.code yX1_nextMinuteFrom cX1_nextMinuteFrom 5 (some .int), Cond.fieldLink RX1 31 "Probeweb$Check" "planned" "[I", Cond.fieldLink RX1 34 "Probeweb$Check" "plannedMinute" "[I", Cond.fieldLink RX1 18 "Probeweb$Check" "offset" "I", Cond.fieldLink RX1 15 "Probeweb$Check" "interval" "I"]
def wsX4_nextProbe : List Cond := .code yX4_nextProbe cX4_nextProbe 3 (some .int) :: ((wsX4_nextProbe_r1 ++ wsX4_nextProbe_r2) ++ wsX40 ++ wsJx4a65c0 ++ wsX10 ++ (vx_atS RX4 105 "java/lang/IndexOutOfBoundsException" ["java/lang/RuntimeException", "java/lang/Exception"]).filter goodWord)
def wsX4_repetition_r1 : List Cond := [Cond.fieldLink RX4 16 "Probeweb" "checks" "Ljava/util/ArrayList;", Cond.classLink RX4 72 "Probeweb$Check", Cond.fieldLink RX4 123 "Probeweb$Check" "planned" "[I", Cond.methodLink RX4 77 yX4_requireCheck, Cond.instanceMethod yX4_requireCheck, Cond.selects RX4 yX4_requireCheck yX4_requireCheck, Cond.initialized RX4, Cond.code yX4_requireCheck cX4_requireCheck 2 none, Cond.classLink RX4 101 "java/lang/IndexOutOfBoundsException", Cond.initialized "java/lang/IndexOutOfBoundsException", Cond.methodLink RX4 39 yJx4a65c_size_8abf5, Cond.instanceMethod yJx4a65c_size_8abf5, Cond.selects RJx4a65c yJx4a65c_size_8abf5 yJx4a65c_size_8abf5, Cond.initialized RJx4a65c, Cond.code yJx4a65c_size_8abf5 cJx4a65c_size_8abf5 1 (some .int), Cond.fieldLink RJx4a65c 48 "java/util/ArrayList" "size" "I", Cond.methodLink RX4 35 yX4_requireRegion, Cond.instanceMethod yX4_requireRegion, Cond.selects RX4 yX4_requireRegion yX4_requireRegion, Cond.code yX4_requireRegion cX4_requireRegion 2 none, Cond.fieldLink RX4 10 "Probeweb" "regions" "Ljava/util/ArrayList;", Cond.methodLink RX4 50 yJx4a65c_get_915e3, Cond.instanceMethod yJx4a65c_get_915e3, Cond.selects RJx4a65c yJx4a65c_get_915e3 yJx4a65c_get_915e3]
def wsX4_repetition_r2 : List Cond := [Cond.code yJx4a65c_get_915e3 cJx4a65c_get_915e3 2 (some (.object "java/lang/Object")), Cond.methodLink RJx4a65c 118 yJ15_checkIndex_7cf53, Cond.static yJ15_checkIndex_7cf53, Cond.initialized RJ15, Cond.code yJ15_checkIndex_7cf53 cJ15_checkIndex_7cf53 2 (some .int), Cond.methodLink RJ15 105 yJ3_checkIndex_8e157, Cond.static yJ3_checkIndex_8e157, Cond.initialized RJ3, Cond.code yJ3_checkIndex_8e157 cJ3_checkIndex_8e157 3 (some .int), Cond.methodLink RJx4a65c 123 yJx4a65c_elementData_915e3, Cond.instanceMethod yJx4a65c_elementData_915e3, Cond.selects RJx4a65c yJx4a65c_elementData_915e3 yJx4a65c_elementData_915e3, Cond.code yJx4a65c_elementData_915e3 cJx4a65c_elementData_915e3 2 (some (.object "java/lang/Object")), Cond.fieldLink RJx4a65c 9 "java/util/ArrayList" "elementData" "[Ljava/lang/Object;"]
def wsX4_repetition : List Cond := .code yX4_repetition cX4_repetition 3 (some .int) :: ((wsX4_repetition_r1 ++ wsX4_repetition_r2) ++ wsX40 ++ wsX10 ++ wsJx4a65c0 ++ (vx_atS RX4 105 "java/lang/IndexOutOfBoundsException" ["java/lang/RuntimeException", "java/lang/Exception"]).filter goodWord)
def wsX4_vote_r1 : List Cond := [Cond.fieldLink RX4 16 "Probeweb" "checks" "Ljava/util/ArrayList;", Cond.classLink RX4 72 "Probeweb$Check", Cond.fieldLink RX4 127 "Probeweb$Check" "votes" "[I", Cond.methodLink RX4 77 yX4_requireCheck, Cond.instanceMethod yX4_requireCheck, Cond.selects RX4 yX4_requireCheck yX4_requireCheck, Cond.initialized RX4, Cond.code yX4_requireCheck cX4_requireCheck 2 none, Cond.classLink RX4 101 "java/lang/IndexOutOfBoundsException", Cond.initialized "java/lang/IndexOutOfBoundsException", Cond.methodLink RX4 39 yJx4a65c_size_8abf5, Cond.instanceMethod yJx4a65c_size_8abf5, Cond.selects RJx4a65c yJx4a65c_size_8abf5 yJx4a65c_size_8abf5, Cond.initialized RJx4a65c, Cond.code yJx4a65c_size_8abf5 cJx4a65c_size_8abf5 1 (some .int), Cond.fieldLink RJx4a65c 48 "java/util/ArrayList" "size" "I", Cond.methodLink RX4 35 yX4_requireRegion, Cond.instanceMethod yX4_requireRegion, Cond.selects RX4 yX4_requireRegion yX4_requireRegion, Cond.code yX4_requireRegion cX4_requireRegion 2 none, Cond.fieldLink RX4 10 "Probeweb" "regions" "Ljava/util/ArrayList;", Cond.methodLink RX4 50 yJx4a65c_get_915e3, Cond.instanceMethod yJx4a65c_get_915e3, Cond.selects RJx4a65c yJx4a65c_get_915e3 yJx4a65c_get_915e3]
def wsX4_vote_r2 : List Cond := [Cond.code yJx4a65c_get_915e3 cJx4a65c_get_915e3 2 (some (.object "java/lang/Object")), Cond.methodLink RJx4a65c 118 yJ15_checkIndex_7cf53, Cond.static yJ15_checkIndex_7cf53, Cond.initialized RJ15, Cond.code yJ15_checkIndex_7cf53 cJ15_checkIndex_7cf53 2 (some .int), Cond.methodLink RJ15 105 yJ3_checkIndex_8e157, Cond.static yJ3_checkIndex_8e157, Cond.initialized RJ3, Cond.code yJ3_checkIndex_8e157 cJ3_checkIndex_8e157 3 (some .int), Cond.methodLink RJx4a65c 123 yJx4a65c_elementData_915e3, Cond.instanceMethod yJx4a65c_elementData_915e3, Cond.selects RJx4a65c yJx4a65c_elementData_915e3 yJx4a65c_elementData_915e3, Cond.code yJx4a65c_elementData_915e3 cJx4a65c_elementData_915e3 2 (some (.object "java/lang/Object")), Cond.fieldLink RJx4a65c 9 "java/util/ArrayList" "elementData" "[Ljava/lang/Object;"]
def wsX4_vote : List Cond := .code yX4_vote cX4_vote 3 (some .int) :: ((wsX4_vote_r1 ++ wsX4_vote_r2) ++ wsX40 ++ wsX10 ++ wsJx4a65c0 ++ (vx_atS RX4 105 "java/lang/IndexOutOfBoundsException" ["java/lang/RuntimeException", "java/lang/Exception"]).filter goodWord)
def wsX4_probes_r1 : List Cond := [Cond.fieldLink RX4 10 "Probeweb" "regions" "Ljava/util/ArrayList;", Cond.classLink RX4 54 "Probeweb$Region", Cond.fieldLink RX4 130 "Probeweb$Region" "probesMade" "I", Cond.methodLink RX4 35 yX4_requireRegion, Cond.instanceMethod yX4_requireRegion, Cond.selects RX4 yX4_requireRegion yX4_requireRegion, Cond.initialized RX4, Cond.code yX4_requireRegion cX4_requireRegion 2 none, Cond.classLink RX4 101 "java/lang/IndexOutOfBoundsException", Cond.initialized "java/lang/IndexOutOfBoundsException", Cond.methodLink RX4 39 yJx4a65c_size_8abf5, Cond.instanceMethod yJx4a65c_size_8abf5, Cond.selects RJx4a65c yJx4a65c_size_8abf5 yJx4a65c_size_8abf5, Cond.initialized RJx4a65c, Cond.code yJx4a65c_size_8abf5 cJx4a65c_size_8abf5 1 (some .int), Cond.fieldLink RJx4a65c 48 "java/util/ArrayList" "size" "I", Cond.methodLink RX4 50 yJx4a65c_get_915e3, Cond.instanceMethod yJx4a65c_get_915e3, Cond.selects RJx4a65c yJx4a65c_get_915e3 yJx4a65c_get_915e3, Cond.code yJx4a65c_get_915e3 cJx4a65c_get_915e3 2 (some (.object "java/lang/Object")), Cond.methodLink RJx4a65c 118 yJ15_checkIndex_7cf53, Cond.static yJ15_checkIndex_7cf53, Cond.initialized RJ15, Cond.code yJ15_checkIndex_7cf53 cJ15_checkIndex_7cf53 2 (some .int)]
def wsX4_probes_r2 : List Cond := [Cond.methodLink RJ15 105 yJ3_checkIndex_8e157, Cond.static yJ3_checkIndex_8e157, Cond.initialized RJ3, Cond.code yJ3_checkIndex_8e157 cJ3_checkIndex_8e157 3 (some .int), Cond.methodLink RJx4a65c 123 yJx4a65c_elementData_915e3, Cond.instanceMethod yJx4a65c_elementData_915e3, Cond.selects RJx4a65c yJx4a65c_elementData_915e3 yJx4a65c_elementData_915e3, Cond.code yJx4a65c_elementData_915e3 cJx4a65c_elementData_915e3 2 (some (.object "java/lang/Object")), Cond.fieldLink RJx4a65c 9 "java/util/ArrayList" "elementData" "[Ljava/lang/Object;"]
def wsX4_probes : List Cond := .code yX4_probes cX4_probes 2 (some .int) :: ((wsX4_probes_r1 ++ wsX4_probes_r2) ++ wsX40 ++ wsX20 ++ wsJx4a65c0 ++ (vx_atS RX4 105 "java/lang/IndexOutOfBoundsException" ["java/lang/RuntimeException", "java/lang/Exception"]).filter goodWord)
def wsX4_failures_r1 : List Cond := [Cond.fieldLink RX4 10 "Probeweb" "regions" "Ljava/util/ArrayList;", Cond.classLink RX4 54 "Probeweb$Region", Cond.fieldLink RX4 133 "Probeweb$Region" "probesFailed" "I", Cond.methodLink RX4 35 yX4_requireRegion, Cond.instanceMethod yX4_requireRegion, Cond.selects RX4 yX4_requireRegion yX4_requireRegion, Cond.initialized RX4, Cond.code yX4_requireRegion cX4_requireRegion 2 none, Cond.classLink RX4 101 "java/lang/IndexOutOfBoundsException", Cond.initialized "java/lang/IndexOutOfBoundsException", Cond.methodLink RX4 39 yJx4a65c_size_8abf5, Cond.instanceMethod yJx4a65c_size_8abf5, Cond.selects RJx4a65c yJx4a65c_size_8abf5 yJx4a65c_size_8abf5, Cond.initialized RJx4a65c, Cond.code yJx4a65c_size_8abf5 cJx4a65c_size_8abf5 1 (some .int), Cond.fieldLink RJx4a65c 48 "java/util/ArrayList" "size" "I", Cond.methodLink RX4 50 yJx4a65c_get_915e3, Cond.instanceMethod yJx4a65c_get_915e3, Cond.selects RJx4a65c yJx4a65c_get_915e3 yJx4a65c_get_915e3, Cond.code yJx4a65c_get_915e3 cJx4a65c_get_915e3 2 (some (.object "java/lang/Object")), Cond.methodLink RJx4a65c 118 yJ15_checkIndex_7cf53, Cond.static yJ15_checkIndex_7cf53, Cond.initialized RJ15, Cond.code yJ15_checkIndex_7cf53 cJ15_checkIndex_7cf53 2 (some .int)]
def wsX4_failures_r2 : List Cond := [Cond.methodLink RJ15 105 yJ3_checkIndex_8e157, Cond.static yJ3_checkIndex_8e157, Cond.initialized RJ3, Cond.code yJ3_checkIndex_8e157 cJ3_checkIndex_8e157 3 (some .int), Cond.methodLink RJx4a65c 123 yJx4a65c_elementData_915e3, Cond.instanceMethod yJx4a65c_elementData_915e3, Cond.selects RJx4a65c yJx4a65c_elementData_915e3 yJx4a65c_elementData_915e3, Cond.code yJx4a65c_elementData_915e3 cJx4a65c_elementData_915e3 2 (some (.object "java/lang/Object")), Cond.fieldLink RJx4a65c 9 "java/util/ArrayList" "elementData" "[Ljava/lang/Object;"]
def wsX4_failures : List Cond := .code yX4_failures cX4_failures 2 (some .int) :: ((wsX4_failures_r1 ++ wsX4_failures_r2) ++ wsX40 ++ wsX20 ++ wsJx4a65c0 ++ (vx_atS RX4 105 "java/lang/IndexOutOfBoundsException" ["java/lang/RuntimeException", "java/lang/Exception"]).filter goodWord)
def wsX4_isBad : List Cond := .code yX4_isBad cX4_isBad 2 (some .boolean) :: ([.fieldLink RX4 29 "Probeweb" "badRegions" "I", .methodLink RX4 35 yX4_requireRegion, .instanceMethod yX4_requireRegion, .selects RX4 yX4_requireRegion yX4_requireRegion, .initialized RX4, .code yX4_requireRegion cX4_requireRegion 2 none, .classLink RX4 101 "java/lang/IndexOutOfBoundsException", .initialized "java/lang/IndexOutOfBoundsException", .fieldLink RX4 10 "Probeweb" "regions" "Ljava/util/ArrayList;", .methodLink RX4 39 yJx4a65c_size_8abf5, .instanceMethod yJx4a65c_size_8abf5, .selects RJx4a65c yJx4a65c_size_8abf5 yJx4a65c_size_8abf5, .initialized RJx4a65c, .code yJx4a65c_size_8abf5 cJx4a65c_size_8abf5 1 (some .int), .fieldLink RJx4a65c 48 "java/util/ArrayList" "size" "I", .methodLink RX4 83 yX4_holds, .static yX4_holds, .code yX4_holds cX4_holds 2 (some .boolean)] ++ wsX40 ++ wsJx4a65c0 ++ (vx_atS RX4 105 "java/lang/IndexOutOfBoundsException" ["java/lang/RuntimeException", "java/lang/Exception"]).filter goodWord)
def wsX4_verdict_r1 : List Cond := [Cond.fieldLink RX4 16 "Probeweb" "checks" "Ljava/util/ArrayList;", Cond.classLink RX4 72 "Probeweb$Check", Cond.fieldLink RX4 136 "Probeweb$Check" "lastVerdict" "I", Cond.methodLink RX4 77 yX4_requireCheck, Cond.instanceMethod yX4_requireCheck, Cond.selects RX4 yX4_requireCheck yX4_requireCheck, Cond.initialized RX4, Cond.code yX4_requireCheck cX4_requireCheck 2 none, Cond.classLink RX4 101 "java/lang/IndexOutOfBoundsException", Cond.initialized "java/lang/IndexOutOfBoundsException", Cond.methodLink RX4 39 yJx4a65c_size_8abf5, Cond.instanceMethod yJx4a65c_size_8abf5, Cond.selects RJx4a65c yJx4a65c_size_8abf5 yJx4a65c_size_8abf5, Cond.initialized RJx4a65c, Cond.code yJx4a65c_size_8abf5 cJx4a65c_size_8abf5 1 (some .int), Cond.fieldLink RJx4a65c 48 "java/util/ArrayList" "size" "I", Cond.methodLink RX4 50 yJx4a65c_get_915e3, Cond.instanceMethod yJx4a65c_get_915e3, Cond.selects RJx4a65c yJx4a65c_get_915e3 yJx4a65c_get_915e3, Cond.code yJx4a65c_get_915e3 cJx4a65c_get_915e3 2 (some (.object "java/lang/Object")), Cond.methodLink RJx4a65c 118 yJ15_checkIndex_7cf53, Cond.static yJ15_checkIndex_7cf53, Cond.initialized RJ15, Cond.code yJ15_checkIndex_7cf53 cJ15_checkIndex_7cf53 2 (some .int)]
def wsX4_verdict_r2 : List Cond := [Cond.methodLink RJ15 105 yJ3_checkIndex_8e157, Cond.static yJ3_checkIndex_8e157, Cond.initialized RJ3, Cond.code yJ3_checkIndex_8e157 cJ3_checkIndex_8e157 3 (some .int), Cond.methodLink RJx4a65c 123 yJx4a65c_elementData_915e3, Cond.instanceMethod yJx4a65c_elementData_915e3, Cond.selects RJx4a65c yJx4a65c_elementData_915e3 yJx4a65c_elementData_915e3, Cond.code yJx4a65c_elementData_915e3 cJx4a65c_elementData_915e3 2 (some (.object "java/lang/Object")), Cond.fieldLink RJx4a65c 9 "java/util/ArrayList" "elementData" "[Ljava/lang/Object;"]
def wsX4_verdict : List Cond := .code yX4_verdict cX4_verdict 2 (some .int) :: ((wsX4_verdict_r1 ++ wsX4_verdict_r2) ++ wsX40 ++ wsX10 ++ wsJx4a65c0 ++ (vx_atS RX4 105 "java/lang/IndexOutOfBoundsException" ["java/lang/RuntimeException", "java/lang/Exception"]).filter goodWord)
def wsX4_trusted_r1 : List Cond := [Cond.fieldLink RX4 16 "Probeweb" "checks" "Ljava/util/ArrayList;", Cond.classLink RX4 72 "Probeweb$Check", Cond.methodLink RX4 77 yX4_requireCheck, Cond.instanceMethod yX4_requireCheck, Cond.selects RX4 yX4_requireCheck yX4_requireCheck, Cond.initialized RX4, Cond.code yX4_requireCheck cX4_requireCheck 2 none, Cond.classLink RX4 101 "java/lang/IndexOutOfBoundsException", Cond.initialized "java/lang/IndexOutOfBoundsException", Cond.methodLink RX4 39 yJx4a65c_size_8abf5, Cond.instanceMethod yJx4a65c_size_8abf5, Cond.selects RJx4a65c yJx4a65c_size_8abf5 yJx4a65c_size_8abf5, Cond.initialized RJx4a65c, Cond.code yJx4a65c_size_8abf5 cJx4a65c_size_8abf5 1 (some .int), Cond.fieldLink RJx4a65c 48 "java/util/ArrayList" "size" "I", Cond.methodLink RX4 50 yJx4a65c_get_915e3, Cond.instanceMethod yJx4a65c_get_915e3, Cond.selects RJx4a65c yJx4a65c_get_915e3 yJx4a65c_get_915e3, Cond.code yJx4a65c_get_915e3 cJx4a65c_get_915e3 2 (some (.object "java/lang/Object")), Cond.methodLink RJx4a65c 118 yJ15_checkIndex_7cf53, Cond.static yJ15_checkIndex_7cf53, Cond.initialized RJ15, Cond.code yJ15_checkIndex_7cf53 cJ15_checkIndex_7cf53 2 (some .int), Cond.methodLink RJ15 105 yJ3_checkIndex_8e157]
def wsX4_trusted_r2 : List Cond := [Cond.static yJ3_checkIndex_8e157, Cond.initialized RJ3, Cond.code yJ3_checkIndex_8e157 cJ3_checkIndex_8e157 3 (some .int), Cond.methodLink RJx4a65c 123 yJx4a65c_elementData_915e3, Cond.instanceMethod yJx4a65c_elementData_915e3, Cond.selects RJx4a65c yJx4a65c_elementData_915e3 yJx4a65c_elementData_915e3, Cond.code yJx4a65c_elementData_915e3 cJx4a65c_elementData_915e3 2 (some (.object "java/lang/Object")), Cond.fieldLink RJx4a65c 9 "java/util/ArrayList" "elementData" "[Ljava/lang/Object;", Cond.methodLink RX4 139 yX4_trustedRegions, Cond.instanceMethod yX4_trustedRegions, Cond.selects RX4 yX4_trustedRegions yX4_trustedRegions, Cond.code yX4_trustedRegions cX4_trustedRegions 5 (some .int), Cond.fieldLink RX4 10 "Probeweb" "regions" "Ljava/util/ArrayList;", Cond.fieldLink RX4 127 "Probeweb$Check" "votes" "[I", Cond.classLink RX4 54 "Probeweb$Region", Cond.fieldLink RX4 56 "Probeweb$Region" "path" "I", Cond.fieldLink RX4 29 "Probeweb" "badRegions" "I", Cond.methodLink RX4 87 yX4_withRegion, Cond.static yX4_withRegion, Cond.code yX4_withRegion cX4_withRegion 3 (some .int)]
def wsX4_trusted : List Cond := .code yX4_trusted cX4_trusted 2 (some .int) :: ((wsX4_trusted_r1 ++ wsX4_trusted_r2) ++ wsX40 ++ wsJx4a65c0 ++ wsX10 ++ wsX20 ++ (vx_atS RX4 105 "java/lang/IndexOutOfBoundsException" ["java/lang/RuntimeException", "java/lang/Exception"]).filter goodWord)
def wsX4_alarms : List Cond := .code yX4_alarms cX4_alarms 1 (some .int) :: ([.fieldLink RX4 22 "Probeweb" "alarmLog" "Ljava/util/ArrayList;", .methodLink RX4 39 yJx4a65c_size_8abf5, .instanceMethod yJx4a65c_size_8abf5, .selects RJx4a65c yJx4a65c_size_8abf5 yJx4a65c_size_8abf5, .initialized RJx4a65c, .code yJx4a65c_size_8abf5 cJx4a65c_size_8abf5 1 (some .int), .fieldLink RJx4a65c 48 "java/util/ArrayList" "size" "I"] ++ wsX40 ++ wsJx4a65c0)
def wsX4_hasAlarm_r1 : List Cond := [Cond.fieldLink RX4 16 "Probeweb" "checks" "Ljava/util/ArrayList;", Cond.classLink RX4 72 "Probeweb$Check", Cond.fieldLink RX4 143 "Probeweb$Check" "openAlarm" "LProbeweb$Alarm;", Cond.methodLink RX4 77 yX4_requireCheck, Cond.instanceMethod yX4_requireCheck, Cond.selects RX4 yX4_requireCheck yX4_requireCheck, Cond.initialized RX4, Cond.code yX4_requireCheck cX4_requireCheck 2 none, Cond.classLink RX4 101 "java/lang/IndexOutOfBoundsException", Cond.initialized "java/lang/IndexOutOfBoundsException", Cond.methodLink RX4 39 yJx4a65c_size_8abf5, Cond.instanceMethod yJx4a65c_size_8abf5, Cond.selects RJx4a65c yJx4a65c_size_8abf5 yJx4a65c_size_8abf5, Cond.initialized RJx4a65c, Cond.code yJx4a65c_size_8abf5 cJx4a65c_size_8abf5 1 (some .int), Cond.fieldLink RJx4a65c 48 "java/util/ArrayList" "size" "I", Cond.methodLink RX4 50 yJx4a65c_get_915e3, Cond.instanceMethod yJx4a65c_get_915e3, Cond.selects RJx4a65c yJx4a65c_get_915e3 yJx4a65c_get_915e3, Cond.code yJx4a65c_get_915e3 cJx4a65c_get_915e3 2 (some (.object "java/lang/Object")), Cond.methodLink RJx4a65c 118 yJ15_checkIndex_7cf53, Cond.static yJ15_checkIndex_7cf53, Cond.initialized RJ15, Cond.code yJ15_checkIndex_7cf53 cJ15_checkIndex_7cf53 2 (some .int)]
def wsX4_hasAlarm_r2 : List Cond := [Cond.methodLink RJ15 105 yJ3_checkIndex_8e157, Cond.static yJ3_checkIndex_8e157, Cond.initialized RJ3, Cond.code yJ3_checkIndex_8e157 cJ3_checkIndex_8e157 3 (some .int), Cond.methodLink RJx4a65c 123 yJx4a65c_elementData_915e3, Cond.instanceMethod yJx4a65c_elementData_915e3, Cond.selects RJx4a65c yJx4a65c_elementData_915e3 yJx4a65c_elementData_915e3, Cond.code yJx4a65c_elementData_915e3 cJx4a65c_elementData_915e3 2 (some (.object "java/lang/Object")), Cond.fieldLink RJx4a65c 9 "java/util/ArrayList" "elementData" "[Ljava/lang/Object;"]
def wsX4_hasAlarm : List Cond := .code yX4_hasAlarm cX4_hasAlarm 2 (some .boolean) :: ((wsX4_hasAlarm_r1 ++ wsX4_hasAlarm_r2) ++ wsX40 ++ wsX10 ++ wsJx4a65c0 ++ (vx_atS RX4 105 "java/lang/IndexOutOfBoundsException" ["java/lang/RuntimeException", "java/lang/Exception"]).filter goodWord)
def wsX4_requireAlarm : List Cond := .code yX4_requireAlarm cX4_requireAlarm 2 none :: ([.classLink RX4 101 "java/lang/IndexOutOfBoundsException", .initialized "java/lang/IndexOutOfBoundsException", .fieldLink RX4 22 "Probeweb" "alarmLog" "Ljava/util/ArrayList;", .methodLink RX4 39 yJx4a65c_size_8abf5, .instanceMethod yJx4a65c_size_8abf5, .selects RJx4a65c yJx4a65c_size_8abf5 yJx4a65c_size_8abf5, .initialized RJx4a65c, .code yJx4a65c_size_8abf5 cJx4a65c_size_8abf5 1 (some .int), .fieldLink RJx4a65c 48 "java/util/ArrayList" "size" "I"] ++ wsX40 ++ wsJx4a65c0 ++ (vx_atS RX4 105 "java/lang/IndexOutOfBoundsException" ["java/lang/RuntimeException", "java/lang/Exception"]).filter goodWord)
def wsX4_alarmCheck_r1 : List Cond := [Cond.fieldLink RX4 22 "Probeweb" "alarmLog" "Ljava/util/ArrayList;", Cond.classLink RX4 150 "Probeweb$Alarm", Cond.fieldLink RX4 152 "Probeweb$Alarm" "check" "I", Cond.methodLink RX4 147 yX4_requireAlarm, Cond.instanceMethod yX4_requireAlarm, Cond.selects RX4 yX4_requireAlarm yX4_requireAlarm, Cond.initialized RX4, Cond.code yX4_requireAlarm cX4_requireAlarm 2 none, Cond.classLink RX4 101 "java/lang/IndexOutOfBoundsException", Cond.initialized "java/lang/IndexOutOfBoundsException", Cond.methodLink RX4 39 yJx4a65c_size_8abf5, Cond.instanceMethod yJx4a65c_size_8abf5, Cond.selects RJx4a65c yJx4a65c_size_8abf5 yJx4a65c_size_8abf5, Cond.initialized RJx4a65c, Cond.code yJx4a65c_size_8abf5 cJx4a65c_size_8abf5 1 (some .int), Cond.fieldLink RJx4a65c 48 "java/util/ArrayList" "size" "I", Cond.methodLink RX4 50 yJx4a65c_get_915e3, Cond.instanceMethod yJx4a65c_get_915e3, Cond.selects RJx4a65c yJx4a65c_get_915e3 yJx4a65c_get_915e3, Cond.code yJx4a65c_get_915e3 cJx4a65c_get_915e3 2 (some (.object "java/lang/Object")), Cond.methodLink RJx4a65c 118 yJ15_checkIndex_7cf53, Cond.static yJ15_checkIndex_7cf53, Cond.initialized RJ15, Cond.code yJ15_checkIndex_7cf53 cJ15_checkIndex_7cf53 2 (some .int)]
def wsX4_alarmCheck_r2 : List Cond := [Cond.methodLink RJ15 105 yJ3_checkIndex_8e157, Cond.static yJ3_checkIndex_8e157, Cond.initialized RJ3, Cond.code yJ3_checkIndex_8e157 cJ3_checkIndex_8e157 3 (some .int), Cond.methodLink RJx4a65c 123 yJx4a65c_elementData_915e3, Cond.instanceMethod yJx4a65c_elementData_915e3, Cond.selects RJx4a65c yJx4a65c_elementData_915e3 yJx4a65c_elementData_915e3, Cond.code yJx4a65c_elementData_915e3 cJx4a65c_elementData_915e3 2 (some (.object "java/lang/Object")), Cond.fieldLink RJx4a65c 9 "java/util/ArrayList" "elementData" "[Ljava/lang/Object;"]
def wsX4_alarmCheck : List Cond := .code yX4_alarmCheck cX4_alarmCheck 2 (some .int) :: ((wsX4_alarmCheck_r1 ++ wsX4_alarmCheck_r2) ++ wsX40 ++ wsX00 ++ wsJx4a65c0 ++ (vx_atS RX4 105 "java/lang/IndexOutOfBoundsException" ["java/lang/RuntimeException", "java/lang/Exception"]).filter goodWord)
def wsX4_alarmRaised_r1 : List Cond := [Cond.fieldLink RX4 22 "Probeweb" "alarmLog" "Ljava/util/ArrayList;", Cond.classLink RX4 150 "Probeweb$Alarm", Cond.fieldLink RX4 155 "Probeweb$Alarm" "raised" "I", Cond.methodLink RX4 147 yX4_requireAlarm, Cond.instanceMethod yX4_requireAlarm, Cond.selects RX4 yX4_requireAlarm yX4_requireAlarm, Cond.initialized RX4, Cond.code yX4_requireAlarm cX4_requireAlarm 2 none, Cond.classLink RX4 101 "java/lang/IndexOutOfBoundsException", Cond.initialized "java/lang/IndexOutOfBoundsException", Cond.methodLink RX4 39 yJx4a65c_size_8abf5, Cond.instanceMethod yJx4a65c_size_8abf5, Cond.selects RJx4a65c yJx4a65c_size_8abf5 yJx4a65c_size_8abf5, Cond.initialized RJx4a65c, Cond.code yJx4a65c_size_8abf5 cJx4a65c_size_8abf5 1 (some .int), Cond.fieldLink RJx4a65c 48 "java/util/ArrayList" "size" "I", Cond.methodLink RX4 50 yJx4a65c_get_915e3, Cond.instanceMethod yJx4a65c_get_915e3, Cond.selects RJx4a65c yJx4a65c_get_915e3 yJx4a65c_get_915e3, Cond.code yJx4a65c_get_915e3 cJx4a65c_get_915e3 2 (some (.object "java/lang/Object")), Cond.methodLink RJx4a65c 118 yJ15_checkIndex_7cf53, Cond.static yJ15_checkIndex_7cf53, Cond.initialized RJ15, Cond.code yJ15_checkIndex_7cf53 cJ15_checkIndex_7cf53 2 (some .int)]
def wsX4_alarmRaised_r2 : List Cond := [Cond.methodLink RJ15 105 yJ3_checkIndex_8e157, Cond.static yJ3_checkIndex_8e157, Cond.initialized RJ3, Cond.code yJ3_checkIndex_8e157 cJ3_checkIndex_8e157 3 (some .int), Cond.methodLink RJx4a65c 123 yJx4a65c_elementData_915e3, Cond.instanceMethod yJx4a65c_elementData_915e3, Cond.selects RJx4a65c yJx4a65c_elementData_915e3 yJx4a65c_elementData_915e3, Cond.code yJx4a65c_elementData_915e3 cJx4a65c_elementData_915e3 2 (some (.object "java/lang/Object")), Cond.fieldLink RJx4a65c 9 "java/util/ArrayList" "elementData" "[Ljava/lang/Object;"]
def wsX4_alarmRaised : List Cond := .code yX4_alarmRaised cX4_alarmRaised 2 (some .int) :: ((wsX4_alarmRaised_r1 ++ wsX4_alarmRaised_r2) ++ wsX40 ++ wsX00 ++ wsJx4a65c0 ++ (vx_atS RX4 105 "java/lang/IndexOutOfBoundsException" ["java/lang/RuntimeException", "java/lang/Exception"]).filter goodWord)
def wsX4_alarmClosed_r1 : List Cond := [Cond.fieldLink RX4 22 "Probeweb" "alarmLog" "Ljava/util/ArrayList;", Cond.classLink RX4 150 "Probeweb$Alarm", Cond.fieldLink RX4 158 "Probeweb$Alarm" "closed" "I", Cond.methodLink RX4 147 yX4_requireAlarm, Cond.instanceMethod yX4_requireAlarm, Cond.selects RX4 yX4_requireAlarm yX4_requireAlarm, Cond.initialized RX4, Cond.code yX4_requireAlarm cX4_requireAlarm 2 none, Cond.classLink RX4 101 "java/lang/IndexOutOfBoundsException", Cond.initialized "java/lang/IndexOutOfBoundsException", Cond.methodLink RX4 39 yJx4a65c_size_8abf5, Cond.instanceMethod yJx4a65c_size_8abf5, Cond.selects RJx4a65c yJx4a65c_size_8abf5 yJx4a65c_size_8abf5, Cond.initialized RJx4a65c, Cond.code yJx4a65c_size_8abf5 cJx4a65c_size_8abf5 1 (some .int), Cond.fieldLink RJx4a65c 48 "java/util/ArrayList" "size" "I", Cond.methodLink RX4 50 yJx4a65c_get_915e3, Cond.instanceMethod yJx4a65c_get_915e3, Cond.selects RJx4a65c yJx4a65c_get_915e3 yJx4a65c_get_915e3, Cond.code yJx4a65c_get_915e3 cJx4a65c_get_915e3 2 (some (.object "java/lang/Object")), Cond.methodLink RJx4a65c 118 yJ15_checkIndex_7cf53, Cond.static yJ15_checkIndex_7cf53, Cond.initialized RJ15, Cond.code yJ15_checkIndex_7cf53 cJ15_checkIndex_7cf53 2 (some .int)]
def wsX4_alarmClosed_r2 : List Cond := [Cond.methodLink RJ15 105 yJ3_checkIndex_8e157, Cond.static yJ3_checkIndex_8e157, Cond.initialized RJ3, Cond.code yJ3_checkIndex_8e157 cJ3_checkIndex_8e157 3 (some .int), Cond.methodLink RJx4a65c 123 yJx4a65c_elementData_915e3, Cond.instanceMethod yJx4a65c_elementData_915e3, Cond.selects RJx4a65c yJx4a65c_elementData_915e3 yJx4a65c_elementData_915e3, Cond.code yJx4a65c_elementData_915e3 cJx4a65c_elementData_915e3 2 (some (.object "java/lang/Object")), Cond.fieldLink RJx4a65c 9 "java/util/ArrayList" "elementData" "[Ljava/lang/Object;"]
def wsX4_alarmClosed : List Cond := .code yX4_alarmClosed cX4_alarmClosed 2 (some .int) :: ((wsX4_alarmClosed_r1 ++ wsX4_alarmClosed_r2) ++ wsX40 ++ wsX00 ++ wsJx4a65c0 ++ (vx_atS RX4 105 "java/lang/IndexOutOfBoundsException" ["java/lang/RuntimeException", "java/lang/Exception"]).filter goodWord)
def wsX4_availability_r1 : List Cond := [Cond.classLink RX4 43 "java/lang/IllegalStateException", Cond.initialized "java/lang/IllegalStateException", Cond.fieldLink RX4 16 "Probeweb" "checks" "Ljava/util/ArrayList;", Cond.classLink RX4 72 "Probeweb$Check", Cond.fieldLink RX4 161 "Probeweb$Check" "minutesCounted" "I", Cond.fieldLink RX4 166 "Probeweb$Check" "minutesUp" "I", Cond.methodLink RX4 77 yX4_requireCheck, Cond.instanceMethod yX4_requireCheck, Cond.selects RX4 yX4_requireCheck yX4_requireCheck, Cond.initialized RX4, Cond.code yX4_requireCheck cX4_requireCheck 2 none, Cond.classLink RX4 101 "java/lang/IndexOutOfBoundsException", Cond.initialized "java/lang/IndexOutOfBoundsException", Cond.methodLink RX4 39 yJx4a65c_size_8abf5, Cond.instanceMethod yJx4a65c_size_8abf5, Cond.selects RJx4a65c yJx4a65c_size_8abf5 yJx4a65c_size_8abf5, Cond.initialized RJx4a65c, Cond.code yJx4a65c_size_8abf5 cJx4a65c_size_8abf5 1 (some .int), Cond.fieldLink RJx4a65c 48 "java/util/ArrayList" "size" "I", Cond.methodLink RX4 50 yJx4a65c_get_915e3, Cond.instanceMethod yJx4a65c_get_915e3, Cond.selects RJx4a65c yJx4a65c_get_915e3 yJx4a65c_get_915e3, Cond.code yJx4a65c_get_915e3 cJx4a65c_get_915e3 2 (some (.object "java/lang/Object")), Cond.methodLink RJx4a65c 118 yJ15_checkIndex_7cf53]
def wsX4_availability_r2 : List Cond := [Cond.static yJ15_checkIndex_7cf53, Cond.initialized RJ15, Cond.code yJ15_checkIndex_7cf53 cJ15_checkIndex_7cf53 2 (some .int), Cond.methodLink RJ15 105 yJ3_checkIndex_8e157, Cond.static yJ3_checkIndex_8e157, Cond.initialized RJ3, Cond.code yJ3_checkIndex_8e157 cJ3_checkIndex_8e157 3 (some .int), Cond.methodLink RJx4a65c 123 yJx4a65c_elementData_915e3, Cond.instanceMethod yJx4a65c_elementData_915e3, Cond.selects RJx4a65c yJx4a65c_elementData_915e3 yJx4a65c_elementData_915e3, Cond.code yJx4a65c_elementData_915e3 cJx4a65c_elementData_915e3 2 (some (.object "java/lang/Object")), Cond.fieldLink RJx4a65c 9 "java/util/ArrayList" "elementData" "[Ljava/lang/Object;"]
def wsX4_availability : List Cond := .code yX4_availability cX4_availability 3 (some .float) :: ((wsX4_availability_r1 ++ wsX4_availability_r2) ++ wsX40 ++ wsX10 ++ wsJx4a65c0 ++ (vx_atS RX4 47 "java/lang/IllegalStateException" ["java/lang/RuntimeException", "java/lang/Exception"]).filter goodWord ++ (vx_atS RX4 105 "java/lang/IndexOutOfBoundsException" ["java/lang/RuntimeException", "java/lang/Exception"]).filter goodWord)
def wsX5_init_r1 : List Cond := [Cond.methodLink RX5 1 objectInit, Cond.instanceMethod objectInit, Cond.code objectInit ⟨#[0xb1]⟩ 1 none, Cond.arrayClass .int, Cond.fieldLink RX5 7 "ProbewebModel" "parent" "[I", Cond.arrayClass .boolean, Cond.fieldLink RX5 13 "ProbewebModel" "cut" "[Z", Cond.fieldLink RX5 17 "ProbewebModel" "bad" "[Z", Cond.fieldLink RX5 20 "ProbewebModel" "made" "[I", Cond.fieldLink RX5 23 "ProbewebModel" "failed" "[I", Cond.fieldLink RX5 26 "ProbewebModel" "interval" "[I", Cond.fieldLink RX5 29 "ProbewebModel" "offset" "[I", Cond.fieldLink RX5 32 "ProbewebModel" "repetitions" "[I", Cond.fieldLink RX5 35 "ProbewebModel" "quorum" "[I", Cond.fieldLink RX5 38 "ProbewebModel" "verdict" "[I", Cond.fieldLink RX5 41 "ProbewebModel" "open" "[I", Cond.fieldLink RX5 44 "ProbewebModel" "ups" "[I", Cond.fieldLink RX5 47 "ProbewebModel" "counted" "[I", Cond.fieldLink RX5 50 "ProbewebModel" "down" "[Z", Cond.fieldLink RX5 53 "ProbewebModel" "vote" "[I", Cond.fieldLink RX5 56 "ProbewebModel" "planned" "[I", Cond.fieldLink RX5 59 "ProbewebModel" "plannedFor" "[I", Cond.fieldLink RX5 62 "ProbewebModel" "of" "[I", Cond.fieldLink RX5 65 "ProbewebModel" "begin" "[I"]
def wsX5_init_r2 : List Cond := [Cond.fieldLink RX5 68 "ProbewebModel" "end" "[I", Cond.constant RX5 71 (60000), Cond.fieldLink RX5 72 "ProbewebModel" "raised" "[I", Cond.fieldLink RX5 75 "ProbewebModel" "closed" "[I"]
def wsX5_init : List Cond := .code yX5_init cX5_init 1 none :: ((wsX5_init_r1 ++ wsX5_init_r2) ++ wsX50)
def wsX5_thrown : List Cond := .code yX5_thrown cX5_thrown 1 (some .int) :: ([.fieldLink RX5 78 "ProbewebModel" "thrown" "I"] ++ wsX50)
def wsX5_isIn : List Cond := .code yX5_isIn cX5_isIn 3 (some .boolean) :: ([])
def wsX5_isRegion : List Cond := .code yX5_isRegion cX5_isRegion 2 (some .boolean) :: ([.fieldLink RX5 82 "ProbewebModel" "regions" "I", .methodLink RX5 85 yX5_isIn, .static yX5_isIn, .initialized RX5, .code yX5_isIn cX5_isIn 3 (some .boolean)] ++ wsX50)
def wsX5_isCheck : List Cond := .code yX5_isCheck cX5_isCheck 2 (some .boolean) :: ([.fieldLink RX5 89 "ProbewebModel" "checks" "I", .methodLink RX5 85 yX5_isIn, .static yX5_isIn, .initialized RX5, .code yX5_isIn cX5_isIn 3 (some .boolean)] ++ wsX50)
def wsX5_addRegion : List Cond := .code yX5_addRegion cX5_addRegion 2 (some .int) :: ([.fieldLink RX5 82 "ProbewebModel" "regions" "I", .fieldLink RX5 78 "ProbewebModel" "thrown" "I", .fieldLink RX5 7 "ProbewebModel" "parent" "[I", .methodLink RX5 92 yX5_isRegion, .instanceMethod yX5_isRegion, .selects RX5 yX5_isRegion yX5_isRegion, .initialized RX5, .code yX5_isRegion cX5_isRegion 2 (some .boolean), .methodLink RX5 85 yX5_isIn, .static yX5_isIn, .code yX5_isIn cX5_isIn 3 (some .boolean)] ++ wsX50)
def wsX5_addCheck : List Cond := .code yX5_addCheck cX5_addCheck 6 (some .int) :: ([.fieldLink RX5 89 "ProbewebModel" "checks" "I", .fieldLink RX5 78 "ProbewebModel" "thrown" "I", .fieldLink RX5 26 "ProbewebModel" "interval" "[I", .fieldLink RX5 29 "ProbewebModel" "offset" "[I", .fieldLink RX5 32 "ProbewebModel" "repetitions" "[I", .fieldLink RX5 35 "ProbewebModel" "quorum" "[I", .fieldLink RX5 41 "ProbewebModel" "open" "[I", .methodLink RX5 85 yX5_isIn, .static yX5_isIn, .initialized RX5, .code yX5_isIn cX5_isIn 3 (some .boolean)] ++ wsX50)
def wsX5_setDown : List Cond := .code yX5_setDown cX5_setDown 5 (some .boolean) :: ([.fieldLink RX5 78 "ProbewebModel" "thrown" "I", .fieldLink RX5 50 "ProbewebModel" "down" "[Z", .methodLink RX5 96 yX5_isCheck, .instanceMethod yX5_isCheck, .selects RX5 yX5_isCheck yX5_isCheck, .initialized RX5, .code yX5_isCheck cX5_isCheck 2 (some .boolean), .fieldLink RX5 89 "ProbewebModel" "checks" "I", .methodLink RX5 85 yX5_isIn, .static yX5_isIn, .code yX5_isIn cX5_isIn 3 (some .boolean), .methodLink RX5 92 yX5_isRegion, .instanceMethod yX5_isRegion, .selects RX5 yX5_isRegion yX5_isRegion, .code yX5_isRegion cX5_isRegion 2 (some .boolean), .fieldLink RX5 82 "ProbewebModel" "regions" "I"] ++ wsX50)
def wsX5_setCut : List Cond := .code yX5_setCut cX5_setCut 4 (some .boolean) :: ([.fieldLink RX5 78 "ProbewebModel" "thrown" "I", .fieldLink RX5 13 "ProbewebModel" "cut" "[Z", .methodLink RX5 92 yX5_isRegion, .instanceMethod yX5_isRegion, .selects RX5 yX5_isRegion yX5_isRegion, .initialized RX5, .code yX5_isRegion cX5_isRegion 2 (some .boolean), .fieldLink RX5 82 "ProbewebModel" "regions" "I", .methodLink RX5 85 yX5_isIn, .static yX5_isIn, .code yX5_isIn cX5_isIn 3 (some .boolean)] ++ wsX50)
def wsX5_setQuorum : List Cond := .code yX5_setQuorum cX5_setQuorum 4 (some .int) :: ([.fieldLink RX5 78 "ProbewebModel" "thrown" "I", .fieldLink RX5 35 "ProbewebModel" "quorum" "[I", .methodLink RX5 96 yX5_isCheck, .instanceMethod yX5_isCheck, .selects RX5 yX5_isCheck yX5_isCheck, .initialized RX5, .code yX5_isCheck cX5_isCheck 2 (some .boolean), .fieldLink RX5 89 "ProbewebModel" "checks" "I", .methodLink RX5 85 yX5_isIn, .static yX5_isIn, .code yX5_isIn cX5_isIn 3 (some .boolean)] ++ wsX50)
def wsX5_addWindow : List Cond := .code yX5_addWindow cX5_addWindow 4 (some .int) :: ([.constant RX5 99 (100000), .fieldLink RX5 78 "ProbewebModel" "thrown" "I", .fieldLink RX5 100 "ProbewebModel" "windows" "I", .fieldLink RX5 62 "ProbewebModel" "of" "[I", .fieldLink RX5 65 "ProbewebModel" "begin" "[I", .fieldLink RX5 68 "ProbewebModel" "end" "[I", .methodLink RX5 96 yX5_isCheck, .instanceMethod yX5_isCheck, .selects RX5 yX5_isCheck yX5_isCheck, .initialized RX5, .code yX5_isCheck cX5_isCheck 2 (some .boolean), .fieldLink RX5 89 "ProbewebModel" "checks" "I", .methodLink RX5 85 yX5_isIn, .static yX5_isIn, .code yX5_isIn cX5_isIn 3 (some .boolean)] ++ wsX50)
def wsX5_endWindow : List Cond := .code yX5_endWindow cX5_endWindow 3 (some .int) :: ([.fieldLink RX5 100 "ProbewebModel" "windows" "I", .fieldLink RX5 78 "ProbewebModel" "thrown" "I", .fieldLink RX5 68 "ProbewebModel" "end" "[I", .fieldLink RX5 103 "ProbewebModel" "minute" "I", .fieldLink RX5 65 "ProbewebModel" "begin" "[I", .methodLink RX5 85 yX5_isIn, .static yX5_isIn, .initialized RX5, .code yX5_isIn cX5_isIn 3 (some .boolean)] ++ wsX50)
def wsX5_fails : List Cond := .code yX5_fails cX5_fails 5 (some .boolean) :: ([.fieldLink RX5 50 "ProbewebModel" "down" "[Z", .fieldLink RX5 13 "ProbewebModel" "cut" "[Z", .fieldLink RX5 7 "ProbewebModel" "parent" "[I"] ++ wsX50)
def wsX5_isScheduled : List Cond := .code yX5_isScheduled cX5_isScheduled 5 (some .boolean) :: ([.fieldLink RX5 29 "ProbewebModel" "offset" "[I", .fieldLink RX5 26 "ProbewebModel" "interval" "[I"] ++ wsX50)
def wsX5_probe : List Cond := .code yX5_probe cX5_probe 5 none :: ([.fieldLink RX5 56 "ProbewebModel" "planned" "[I", .fieldLink RX5 59 "ProbewebModel" "plannedFor" "[I", .fieldLink RX5 103 "ProbewebModel" "minute" "I", .fieldLink RX5 20 "ProbewebModel" "made" "[I", .fieldLink RX5 53 "ProbewebModel" "vote" "[I", .fieldLink RX5 23 "ProbewebModel" "failed" "[I", .fieldLink RX5 32 "ProbewebModel" "repetitions" "[I", .methodLink RX5 106 yX5_isScheduled, .instanceMethod yX5_isScheduled, .selects RX5 yX5_isScheduled yX5_isScheduled, .initialized RX5, .code yX5_isScheduled cX5_isScheduled 5 (some .boolean), .fieldLink RX5 29 "ProbewebModel" "offset" "[I", .fieldLink RX5 26 "ProbewebModel" "interval" "[I", .methodLink RX5 109 yX5_fails, .instanceMethod yX5_fails, .selects RX5 yX5_fails yX5_fails, .code yX5_fails cX5_fails 5 (some .boolean), .fieldLink RX5 50 "ProbewebModel" "down" "[Z", .fieldLink RX5 13 "ProbewebModel" "cut" "[Z", .fieldLink RX5 7 "ProbewebModel" "parent" "[I"] ++ wsX50)
def wsX5_votesOf : List Cond := .code yX5_votesOf cX5_votesOf 5 (some .int) :: ([.fieldLink RX5 89 "ProbewebModel" "checks" "I", .fieldLink RX5 53 "ProbewebModel" "vote" "[I"] ++ wsX50)
def wsX5_isTrusted : List Cond := .code yX5_isTrusted cX5_isTrusted 5 (some .boolean) :: ([.fieldLink RX5 53 "ProbewebModel" "vote" "[I", .fieldLink RX5 17 "ProbewebModel" "bad" "[Z", .fieldLink RX5 7 "ProbewebModel" "parent" "[I"] ++ wsX50)
def wsX5_judged : List Cond := .code yX5_judged cX5_judged 6 (some .int) :: ([.fieldLink RX5 82 "ProbewebModel" "regions" "I", .fieldLink RX5 53 "ProbewebModel" "vote" "[I", .fieldLink RX5 35 "ProbewebModel" "quorum" "[I", .methodLink RX5 113 yX5_isTrusted, .instanceMethod yX5_isTrusted, .selects RX5 yX5_isTrusted yX5_isTrusted, .initialized RX5, .code yX5_isTrusted cX5_isTrusted 5 (some .boolean), .fieldLink RX5 17 "ProbewebModel" "bad" "[Z", .fieldLink RX5 7 "ProbewebModel" "parent" "[I"] ++ wsX50)
def wsX5_isMaintained : List Cond := .code yX5_isMaintained cX5_isMaintained 4 (some .boolean) :: ([.fieldLink RX5 100 "ProbewebModel" "windows" "I", .fieldLink RX5 62 "ProbewebModel" "of" "[I", .fieldLink RX5 65 "ProbewebModel" "begin" "[I", .fieldLink RX5 103 "ProbewebModel" "minute" "I", .fieldLink RX5 68 "ProbewebModel" "end" "[I"] ++ wsX50)
def wsX5_raises : List Cond := .code yX5_raises cX5_raises 2 none :: ([.fieldLink RX5 38 "ProbewebModel" "verdict" "[I", .fieldLink RX5 41 "ProbewebModel" "open" "[I", .fieldLink RX5 72 "ProbewebModel" "raised" "[I", .fieldLink RX5 119 "ProbewebModel" "alarms" "I", .fieldLink RX5 103 "ProbewebModel" "minute" "I", .fieldLink RX5 75 "ProbewebModel" "closed" "[I", .methodLink RX5 116 yX5_isMaintained, .instanceMethod yX5_isMaintained, .selects RX5 yX5_isMaintained yX5_isMaintained, .initialized RX5, .code yX5_isMaintained cX5_isMaintained 4 (some .boolean), .fieldLink RX5 100 "ProbewebModel" "windows" "I", .fieldLink RX5 62 "ProbewebModel" "of" "[I", .fieldLink RX5 65 "ProbewebModel" "begin" "[I", .fieldLink RX5 68 "ProbewebModel" "end" "[I"] ++ wsX50)
def wsX5_passes_r1 : List Cond := [Cond.fieldLink RX5 103 "ProbewebModel" "minute" "I", Cond.fieldLink RX5 89 "ProbewebModel" "checks" "I", Cond.fieldLink RX5 82 "ProbewebModel" "regions" "I", Cond.fieldLink RX5 17 "ProbewebModel" "bad" "[Z", Cond.fieldLink RX5 38 "ProbewebModel" "verdict" "[I", Cond.fieldLink RX5 44 "ProbewebModel" "ups" "[I", Cond.fieldLink RX5 47 "ProbewebModel" "counted" "[I", Cond.methodLink RX5 122 yX5_probe, Cond.instanceMethod yX5_probe, Cond.selects RX5 yX5_probe yX5_probe, Cond.initialized RX5, Cond.code yX5_probe cX5_probe 5 none, Cond.fieldLink RX5 56 "ProbewebModel" "planned" "[I", Cond.fieldLink RX5 59 "ProbewebModel" "plannedFor" "[I", Cond.fieldLink RX5 20 "ProbewebModel" "made" "[I", Cond.fieldLink RX5 53 "ProbewebModel" "vote" "[I", Cond.fieldLink RX5 23 "ProbewebModel" "failed" "[I", Cond.fieldLink RX5 32 "ProbewebModel" "repetitions" "[I", Cond.methodLink RX5 106 yX5_isScheduled, Cond.instanceMethod yX5_isScheduled, Cond.selects RX5 yX5_isScheduled yX5_isScheduled, Cond.code yX5_isScheduled cX5_isScheduled 5 (some .boolean), Cond.fieldLink RX5 29 "ProbewebModel" "offset" "[I", Cond.fieldLink RX5 26 "ProbewebModel" "interval" "[I"]
def wsX5_passes_r2 : List Cond := [Cond.methodLink RX5 109 yX5_fails, Cond.instanceMethod yX5_fails, Cond.selects RX5 yX5_fails yX5_fails, Cond.code yX5_fails cX5_fails 5 (some .boolean), Cond.fieldLink RX5 50 "ProbewebModel" "down" "[Z", Cond.fieldLink RX5 13 "ProbewebModel" "cut" "[Z", Cond.fieldLink RX5 7 "ProbewebModel" "parent" "[I", Cond.methodLink RX5 126 yX5_votesOf, Cond.instanceMethod yX5_votesOf, Cond.selects RX5 yX5_votesOf yX5_votesOf, Cond.code yX5_votesOf cX5_votesOf 5 (some .int), Cond.methodLink RX5 130 yX5_judged, Cond.instanceMethod yX5_judged, Cond.selects RX5 yX5_judged yX5_judged, Cond.code yX5_judged cX5_judged 6 (some .int), Cond.fieldLink RX5 35 "ProbewebModel" "quorum" "[I", Cond.methodLink RX5 113 yX5_isTrusted, Cond.instanceMethod yX5_isTrusted, Cond.selects RX5 yX5_isTrusted yX5_isTrusted, Cond.code yX5_isTrusted cX5_isTrusted 5 (some .boolean), Cond.methodLink RX5 134 yX5_raises, Cond.instanceMethod yX5_raises, Cond.selects RX5 yX5_raises yX5_raises, Cond.code yX5_raises cX5_raises 2 none]
def wsX5_passes_r3 : List Cond := [Cond.fieldLink RX5 41 "ProbewebModel" "open" "[I", Cond.fieldLink RX5 72 "ProbewebModel" "raised" "[I", Cond.fieldLink RX5 119 "ProbewebModel" "alarms" "I", Cond.fieldLink RX5 75 "ProbewebModel" "closed" "[I", Cond.methodLink RX5 116 yX5_isMaintained, Cond.instanceMethod yX5_isMaintained, Cond.selects RX5 yX5_isMaintained yX5_isMaintained, Cond.code yX5_isMaintained cX5_isMaintained 4 (some .boolean), Cond.fieldLink RX5 100 "ProbewebModel" "windows" "I", Cond.fieldLink RX5 62 "ProbewebModel" "of" "[I", Cond.fieldLink RX5 65 "ProbewebModel" "begin" "[I", Cond.fieldLink RX5 68 "ProbewebModel" "end" "[I"]
def wsX5_passes : List Cond := .code yX5_passes cX5_passes 4 none :: ((wsX5_passes_r1 ++ (wsX5_passes_r2 ++ wsX5_passes_r3)) ++ wsX50)
def wsX5_pass_r1 : List Cond := [Cond.fieldLink RX5 78 "ProbewebModel" "thrown" "I", Cond.fieldLink RX5 119 "ProbewebModel" "alarms" "I", Cond.methodLink RX5 85 yX5_isIn, Cond.static yX5_isIn, Cond.initialized RX5, Cond.code yX5_isIn cX5_isIn 3 (some .boolean), Cond.methodLink RX5 138 yX5_passes, Cond.instanceMethod yX5_passes, Cond.selects RX5 yX5_passes yX5_passes, Cond.code yX5_passes cX5_passes 4 none, Cond.fieldLink RX5 103 "ProbewebModel" "minute" "I", Cond.fieldLink RX5 89 "ProbewebModel" "checks" "I", Cond.fieldLink RX5 82 "ProbewebModel" "regions" "I", Cond.fieldLink RX5 17 "ProbewebModel" "bad" "[Z", Cond.fieldLink RX5 38 "ProbewebModel" "verdict" "[I", Cond.fieldLink RX5 44 "ProbewebModel" "ups" "[I", Cond.fieldLink RX5 47 "ProbewebModel" "counted" "[I", Cond.methodLink RX5 122 yX5_probe, Cond.instanceMethod yX5_probe, Cond.selects RX5 yX5_probe yX5_probe, Cond.code yX5_probe cX5_probe 5 none, Cond.fieldLink RX5 56 "ProbewebModel" "planned" "[I", Cond.fieldLink RX5 59 "ProbewebModel" "plannedFor" "[I", Cond.fieldLink RX5 20 "ProbewebModel" "made" "[I"]
def wsX5_pass_r2 : List Cond := [Cond.fieldLink RX5 53 "ProbewebModel" "vote" "[I", Cond.fieldLink RX5 23 "ProbewebModel" "failed" "[I", Cond.fieldLink RX5 32 "ProbewebModel" "repetitions" "[I", Cond.methodLink RX5 106 yX5_isScheduled, Cond.instanceMethod yX5_isScheduled, Cond.selects RX5 yX5_isScheduled yX5_isScheduled, Cond.code yX5_isScheduled cX5_isScheduled 5 (some .boolean), Cond.fieldLink RX5 29 "ProbewebModel" "offset" "[I", Cond.fieldLink RX5 26 "ProbewebModel" "interval" "[I", Cond.methodLink RX5 109 yX5_fails, Cond.instanceMethod yX5_fails, Cond.selects RX5 yX5_fails yX5_fails, Cond.code yX5_fails cX5_fails 5 (some .boolean), Cond.fieldLink RX5 50 "ProbewebModel" "down" "[Z", Cond.fieldLink RX5 13 "ProbewebModel" "cut" "[Z", Cond.fieldLink RX5 7 "ProbewebModel" "parent" "[I", Cond.methodLink RX5 126 yX5_votesOf, Cond.instanceMethod yX5_votesOf, Cond.selects RX5 yX5_votesOf yX5_votesOf, Cond.code yX5_votesOf cX5_votesOf 5 (some .int), Cond.methodLink RX5 130 yX5_judged, Cond.instanceMethod yX5_judged, Cond.selects RX5 yX5_judged yX5_judged, Cond.code yX5_judged cX5_judged 6 (some .int)]
def wsX5_pass_r3 : List Cond := [Cond.fieldLink RX5 35 "ProbewebModel" "quorum" "[I", Cond.methodLink RX5 113 yX5_isTrusted, Cond.instanceMethod yX5_isTrusted, Cond.selects RX5 yX5_isTrusted yX5_isTrusted, Cond.code yX5_isTrusted cX5_isTrusted 5 (some .boolean), Cond.methodLink RX5 134 yX5_raises, Cond.instanceMethod yX5_raises, Cond.selects RX5 yX5_raises yX5_raises, Cond.code yX5_raises cX5_raises 2 none, Cond.fieldLink RX5 41 "ProbewebModel" "open" "[I", Cond.fieldLink RX5 72 "ProbewebModel" "raised" "[I", Cond.fieldLink RX5 75 "ProbewebModel" "closed" "[I", Cond.methodLink RX5 116 yX5_isMaintained, Cond.instanceMethod yX5_isMaintained, Cond.selects RX5 yX5_isMaintained yX5_isMaintained, Cond.code yX5_isMaintained cX5_isMaintained 4 (some .boolean), Cond.fieldLink RX5 100 "ProbewebModel" "windows" "I", Cond.fieldLink RX5 62 "ProbewebModel" "of" "[I", Cond.fieldLink RX5 65 "ProbewebModel" "begin" "[I", Cond.fieldLink RX5 68 "ProbewebModel" "end" "[I"]
def wsX5_pass : List Cond := .code yX5_pass cX5_pass 4 (some .int) :: ((wsX5_pass_r1 ++ (wsX5_pass_r2 ++ wsX5_pass_r3)) ++ wsX50)
def wsX5_minute : List Cond := .code yX5_minute cX5_minute 1 (some .int) :: ([.fieldLink RX5 78 "ProbewebModel" "thrown" "I", .fieldLink RX5 103 "ProbewebModel" "minute" "I"] ++ wsX50)
def wsX5_failing : List Cond := .code yX5_failing cX5_failing 4 (some .int) :: ([.fieldLink RX5 78 "ProbewebModel" "thrown" "I", .fieldLink RX5 82 "ProbewebModel" "regions" "I", .methodLink RX5 96 yX5_isCheck, .instanceMethod yX5_isCheck, .selects RX5 yX5_isCheck yX5_isCheck, .initialized RX5, .code yX5_isCheck cX5_isCheck 2 (some .boolean), .fieldLink RX5 89 "ProbewebModel" "checks" "I", .methodLink RX5 85 yX5_isIn, .static yX5_isIn, .code yX5_isIn cX5_isIn 3 (some .boolean), .methodLink RX5 109 yX5_fails, .instanceMethod yX5_fails, .selects RX5 yX5_fails yX5_fails, .code yX5_fails cX5_fails 5 (some .boolean), .fieldLink RX5 50 "ProbewebModel" "down" "[Z", .fieldLink RX5 13 "ProbewebModel" "cut" "[Z", .fieldLink RX5 7 "ProbewebModel" "parent" "[I"] ++ wsX50)
def wsX5_isPair : List Cond := .code yX5_isPair cX5_isPair 3 (some .boolean) :: ([.fieldLink RX5 78 "ProbewebModel" "thrown" "I", .methodLink RX5 96 yX5_isCheck, .instanceMethod yX5_isCheck, .selects RX5 yX5_isCheck yX5_isCheck, .initialized RX5, .code yX5_isCheck cX5_isCheck 2 (some .boolean), .fieldLink RX5 89 "ProbewebModel" "checks" "I", .methodLink RX5 85 yX5_isIn, .static yX5_isIn, .code yX5_isIn cX5_isIn 3 (some .boolean), .methodLink RX5 92 yX5_isRegion, .instanceMethod yX5_isRegion, .selects RX5 yX5_isRegion yX5_isRegion, .code yX5_isRegion cX5_isRegion 2 (some .boolean), .fieldLink RX5 82 "ProbewebModel" "regions" "I"] ++ wsX50)
def wsX5_nextProbe_r1 : List Cond := [Cond.fieldLink RX5 56 "ProbewebModel" "planned" "[I", Cond.fieldLink RX5 59 "ProbewebModel" "plannedFor" "[I", Cond.fieldLink RX5 103 "ProbewebModel" "minute" "I", Cond.methodLink RX5 141 yX5_isPair, Cond.instanceMethod yX5_isPair, Cond.selects RX5 yX5_isPair yX5_isPair, Cond.initialized RX5, Cond.code yX5_isPair cX5_isPair 3 (some .boolean), Cond.fieldLink RX5 78 "ProbewebModel" "thrown" "I", Cond.methodLink RX5 96 yX5_isCheck, Cond.instanceMethod yX5_isCheck, Cond.selects RX5 yX5_isCheck yX5_isCheck, Cond.code yX5_isCheck cX5_isCheck 2 (some .boolean), Cond.fieldLink RX5 89 "ProbewebModel" "checks" "I", Cond.methodLink RX5 85 yX5_isIn, Cond.static yX5_isIn, Cond.code yX5_isIn cX5_isIn 3 (some .boolean), Cond.methodLink RX5 92 yX5_isRegion, Cond.instanceMethod yX5_isRegion, Cond.selects RX5 yX5_isRegion yX5_isRegion, Cond.code yX5_isRegion cX5_isRegion 2 (some .boolean), Cond.fieldLink RX5 82 "ProbewebModel" "regions" "I", Cond.methodLink RX5 106 yX5_isScheduled, Cond.instanceMethod yX5_isScheduled]
def wsX5_nextProbe_r2 : List Cond := [Cond.selects RX5 yX5_isScheduled yX5_isScheduled, Cond.code yX5_isScheduled cX5_isScheduled 5 (some .boolean), Cond.fieldLink RX5 29 "ProbewebModel" "offset" "[I", Cond.fieldLink RX5 26 "ProbewebModel" "interval" "[I"]
def wsX5_nextProbe : List Cond := .code yX5_nextProbe cX5_nextProbe 5 (some .int) :: ((wsX5_nextProbe_r1 ++ wsX5_nextProbe_r2) ++ wsX50)
def wsX5_repetition : List Cond := .code yX5_repetition cX5_repetition 3 (some .int) :: ([.fieldLink RX5 56 "ProbewebModel" "planned" "[I", .methodLink RX5 141 yX5_isPair, .instanceMethod yX5_isPair, .selects RX5 yX5_isPair yX5_isPair, .initialized RX5, .code yX5_isPair cX5_isPair 3 (some .boolean), .fieldLink RX5 78 "ProbewebModel" "thrown" "I", .methodLink RX5 96 yX5_isCheck, .instanceMethod yX5_isCheck, .selects RX5 yX5_isCheck yX5_isCheck, .code yX5_isCheck cX5_isCheck 2 (some .boolean), .fieldLink RX5 89 "ProbewebModel" "checks" "I", .methodLink RX5 85 yX5_isIn, .static yX5_isIn, .code yX5_isIn cX5_isIn 3 (some .boolean), .methodLink RX5 92 yX5_isRegion, .instanceMethod yX5_isRegion, .selects RX5 yX5_isRegion yX5_isRegion, .code yX5_isRegion cX5_isRegion 2 (some .boolean), .fieldLink RX5 82 "ProbewebModel" "regions" "I"] ++ wsX50)
def wsX5_vote : List Cond := .code yX5_vote cX5_vote 3 (some .int) :: ([.fieldLink RX5 53 "ProbewebModel" "vote" "[I", .methodLink RX5 141 yX5_isPair, .instanceMethod yX5_isPair, .selects RX5 yX5_isPair yX5_isPair, .initialized RX5, .code yX5_isPair cX5_isPair 3 (some .boolean), .fieldLink RX5 78 "ProbewebModel" "thrown" "I", .methodLink RX5 96 yX5_isCheck, .instanceMethod yX5_isCheck, .selects RX5 yX5_isCheck yX5_isCheck, .code yX5_isCheck cX5_isCheck 2 (some .boolean), .fieldLink RX5 89 "ProbewebModel" "checks" "I", .methodLink RX5 85 yX5_isIn, .static yX5_isIn, .code yX5_isIn cX5_isIn 3 (some .boolean), .methodLink RX5 92 yX5_isRegion, .instanceMethod yX5_isRegion, .selects RX5 yX5_isRegion yX5_isRegion, .code yX5_isRegion cX5_isRegion 2 (some .boolean), .fieldLink RX5 82 "ProbewebModel" "regions" "I"] ++ wsX50)
def wsX5_probes : List Cond := .code yX5_probes cX5_probes 2 (some .int) :: ([.fieldLink RX5 78 "ProbewebModel" "thrown" "I", .fieldLink RX5 20 "ProbewebModel" "made" "[I", .methodLink RX5 92 yX5_isRegion, .instanceMethod yX5_isRegion, .selects RX5 yX5_isRegion yX5_isRegion, .initialized RX5, .code yX5_isRegion cX5_isRegion 2 (some .boolean), .fieldLink RX5 82 "ProbewebModel" "regions" "I", .methodLink RX5 85 yX5_isIn, .static yX5_isIn, .code yX5_isIn cX5_isIn 3 (some .boolean)] ++ wsX50)
def wsX5_failures : List Cond := .code yX5_failures cX5_failures 2 (some .int) :: ([.fieldLink RX5 78 "ProbewebModel" "thrown" "I", .fieldLink RX5 23 "ProbewebModel" "failed" "[I", .methodLink RX5 92 yX5_isRegion, .instanceMethod yX5_isRegion, .selects RX5 yX5_isRegion yX5_isRegion, .initialized RX5, .code yX5_isRegion cX5_isRegion 2 (some .boolean), .fieldLink RX5 82 "ProbewebModel" "regions" "I", .methodLink RX5 85 yX5_isIn, .static yX5_isIn, .code yX5_isIn cX5_isIn 3 (some .boolean)] ++ wsX50)
def wsX5_isBad : List Cond := .code yX5_isBad cX5_isBad 2 (some .boolean) :: ([.fieldLink RX5 78 "ProbewebModel" "thrown" "I", .fieldLink RX5 17 "ProbewebModel" "bad" "[Z", .methodLink RX5 92 yX5_isRegion, .instanceMethod yX5_isRegion, .selects RX5 yX5_isRegion yX5_isRegion, .initialized RX5, .code yX5_isRegion cX5_isRegion 2 (some .boolean), .fieldLink RX5 82 "ProbewebModel" "regions" "I", .methodLink RX5 85 yX5_isIn, .static yX5_isIn, .code yX5_isIn cX5_isIn 3 (some .boolean)] ++ wsX50)
def wsX5_verdict : List Cond := .code yX5_verdict cX5_verdict 2 (some .int) :: ([.fieldLink RX5 78 "ProbewebModel" "thrown" "I", .fieldLink RX5 38 "ProbewebModel" "verdict" "[I", .methodLink RX5 96 yX5_isCheck, .instanceMethod yX5_isCheck, .selects RX5 yX5_isCheck yX5_isCheck, .initialized RX5, .code yX5_isCheck cX5_isCheck 2 (some .boolean), .fieldLink RX5 89 "ProbewebModel" "checks" "I", .methodLink RX5 85 yX5_isIn, .static yX5_isIn, .code yX5_isIn cX5_isIn 3 (some .boolean)] ++ wsX50)
def wsX5_trusted : List Cond := .code yX5_trusted cX5_trusted 4 (some .int) :: ([.fieldLink RX5 78 "ProbewebModel" "thrown" "I", .fieldLink RX5 82 "ProbewebModel" "regions" "I", .methodLink RX5 96 yX5_isCheck, .instanceMethod yX5_isCheck, .selects RX5 yX5_isCheck yX5_isCheck, .initialized RX5, .code yX5_isCheck cX5_isCheck 2 (some .boolean), .fieldLink RX5 89 "ProbewebModel" "checks" "I", .methodLink RX5 85 yX5_isIn, .static yX5_isIn, .code yX5_isIn cX5_isIn 3 (some .boolean), .methodLink RX5 113 yX5_isTrusted, .instanceMethod yX5_isTrusted, .selects RX5 yX5_isTrusted yX5_isTrusted, .code yX5_isTrusted cX5_isTrusted 5 (some .boolean), .fieldLink RX5 53 "ProbewebModel" "vote" "[I", .fieldLink RX5 17 "ProbewebModel" "bad" "[Z", .fieldLink RX5 7 "ProbewebModel" "parent" "[I"] ++ wsX50)
def wsX5_alarms : List Cond := .code yX5_alarms cX5_alarms 1 (some .int) :: ([.fieldLink RX5 78 "ProbewebModel" "thrown" "I", .fieldLink RX5 119 "ProbewebModel" "alarms" "I"] ++ wsX50)
def wsX5_hasAlarm : List Cond := .code yX5_hasAlarm cX5_hasAlarm 2 (some .boolean) :: ([.fieldLink RX5 78 "ProbewebModel" "thrown" "I", .fieldLink RX5 41 "ProbewebModel" "open" "[I", .methodLink RX5 96 yX5_isCheck, .instanceMethod yX5_isCheck, .selects RX5 yX5_isCheck yX5_isCheck, .initialized RX5, .code yX5_isCheck cX5_isCheck 2 (some .boolean), .fieldLink RX5 89 "ProbewebModel" "checks" "I", .methodLink RX5 85 yX5_isIn, .static yX5_isIn, .code yX5_isIn cX5_isIn 3 (some .boolean)] ++ wsX50)
def wsX5_isAlarm : List Cond := .code yX5_isAlarm cX5_isAlarm 2 (some .boolean) :: ([.fieldLink RX5 119 "ProbewebModel" "alarms" "I", .fieldLink RX5 78 "ProbewebModel" "thrown" "I", .methodLink RX5 85 yX5_isIn, .static yX5_isIn, .initialized RX5, .code yX5_isIn cX5_isIn 3 (some .boolean)] ++ wsX50)
def wsX5_alarmCheck : List Cond := .code yX5_alarmCheck cX5_alarmCheck 2 (some .int) :: ([.fieldLink RX5 72 "ProbewebModel" "raised" "[I", .methodLink RX5 144 yX5_isAlarm, .instanceMethod yX5_isAlarm, .selects RX5 yX5_isAlarm yX5_isAlarm, .initialized RX5, .code yX5_isAlarm cX5_isAlarm 2 (some .boolean), .fieldLink RX5 119 "ProbewebModel" "alarms" "I", .fieldLink RX5 78 "ProbewebModel" "thrown" "I", .methodLink RX5 85 yX5_isIn, .static yX5_isIn, .code yX5_isIn cX5_isIn 3 (some .boolean)] ++ wsX50)
def wsX5_alarmRaised : List Cond := .code yX5_alarmRaised cX5_alarmRaised 2 (some .int) :: ([.fieldLink RX5 72 "ProbewebModel" "raised" "[I", .methodLink RX5 144 yX5_isAlarm, .instanceMethod yX5_isAlarm, .selects RX5 yX5_isAlarm yX5_isAlarm, .initialized RX5, .code yX5_isAlarm cX5_isAlarm 2 (some .boolean), .fieldLink RX5 119 "ProbewebModel" "alarms" "I", .fieldLink RX5 78 "ProbewebModel" "thrown" "I", .methodLink RX5 85 yX5_isIn, .static yX5_isIn, .code yX5_isIn cX5_isIn 3 (some .boolean)] ++ wsX50)
def wsX5_alarmClosed : List Cond := .code yX5_alarmClosed cX5_alarmClosed 2 (some .int) :: ([.fieldLink RX5 75 "ProbewebModel" "closed" "[I", .methodLink RX5 144 yX5_isAlarm, .instanceMethod yX5_isAlarm, .selects RX5 yX5_isAlarm yX5_isAlarm, .initialized RX5, .code yX5_isAlarm cX5_isAlarm 2 (some .boolean), .fieldLink RX5 119 "ProbewebModel" "alarms" "I", .fieldLink RX5 78 "ProbewebModel" "thrown" "I", .methodLink RX5 85 yX5_isIn, .static yX5_isIn, .code yX5_isIn cX5_isIn 3 (some .boolean)] ++ wsX50)
def wsX5_availability : List Cond := .code yX5_availability cX5_availability 4 (some .float) :: ([.fieldLink RX5 47 "ProbewebModel" "counted" "[I", .fieldLink RX5 78 "ProbewebModel" "thrown" "I", .fieldLink RX5 44 "ProbewebModel" "ups" "[I", .methodLink RX5 96 yX5_isCheck, .instanceMethod yX5_isCheck, .selects RX5 yX5_isCheck yX5_isCheck, .initialized RX5, .code yX5_isCheck cX5_isCheck 2 (some .boolean), .fieldLink RX5 89 "ProbewebModel" "checks" "I", .methodLink RX5 85 yX5_isIn, .static yX5_isIn, .code yX5_isIn cX5_isIn 3 (some .boolean)] ++ wsX50)
def wsJ9_max_7cf53 : List Cond := .code yJ9_max_7cf53 cJ9_max_7cf53 2 (some .int) :: ([])
def wsJ9_min_7cf53 : List Cond := .code yJ9_min_7cf53 cJ9_min_7cf53 2 (some .int) :: ([])
def wsL_addRegion_r1 : List Cond := [Cond.classLink RL 13 "java/lang/IndexOutOfBoundsException", Cond.classLink RL 15 "java/lang/IllegalStateException", Cond.methodLink RL 7 yX4_addRegion, Cond.instanceMethod yX4_addRegion, Cond.selects RX4 yX4_addRegion yX4_addRegion, Cond.initialized RX4, Cond.code yX4_addRegion cX4_addRegion 4 (some .int), Cond.classLink RX4 43 "java/lang/IllegalStateException", Cond.initialized "java/lang/IllegalStateException", Cond.fieldLink RX4 10 "Probeweb" "regions" "Ljava/util/ArrayList;", Cond.classLink RX4 54 "Probeweb$Region", Cond.fieldLink RX4 56 "Probeweb$Region" "path" "I", Cond.classLink RX4 54 RX2, Cond.instantiable RX2 4, Cond.initialized RX2, Cond.methodLink RX4 35 yX4_requireRegion, Cond.instanceMethod yX4_requireRegion, Cond.selects RX4 yX4_requireRegion yX4_requireRegion, Cond.code yX4_requireRegion cX4_requireRegion 2 none, Cond.classLink RX4 101 "java/lang/IndexOutOfBoundsException", Cond.initialized "java/lang/IndexOutOfBoundsException", Cond.methodLink RX4 39 yJx4a65c_size_8abf5, Cond.instanceMethod yJx4a65c_size_8abf5, Cond.selects RJx4a65c yJx4a65c_size_8abf5 yJx4a65c_size_8abf5]
def wsL_addRegion_r2 : List Cond := [Cond.initialized RJx4a65c, Cond.code yJx4a65c_size_8abf5 cJx4a65c_size_8abf5 1 (some .int), Cond.fieldLink RJx4a65c 48 "java/util/ArrayList" "size" "I", Cond.methodLink RX4 50 yJx4a65c_get_915e3, Cond.instanceMethod yJx4a65c_get_915e3, Cond.selects RJx4a65c yJx4a65c_get_915e3 yJx4a65c_get_915e3, Cond.code yJx4a65c_get_915e3 cJx4a65c_get_915e3 2 (some (.object "java/lang/Object")), Cond.methodLink RJx4a65c 118 yJ15_checkIndex_7cf53, Cond.static yJ15_checkIndex_7cf53, Cond.initialized RJ15, Cond.code yJ15_checkIndex_7cf53 cJ15_checkIndex_7cf53 2 (some .int), Cond.methodLink RJ15 105 yJ3_checkIndex_8e157, Cond.static yJ3_checkIndex_8e157, Cond.initialized RJ3, Cond.code yJ3_checkIndex_8e157 cJ3_checkIndex_8e157 3 (some .int), Cond.methodLink RJx4a65c 123 yJx4a65c_elementData_915e3, Cond.instanceMethod yJx4a65c_elementData_915e3, Cond.selects RJx4a65c yJx4a65c_elementData_915e3 yJx4a65c_elementData_915e3, Cond.code yJx4a65c_elementData_915e3 cJx4a65c_elementData_915e3 2 (some (.object "java/lang/Object")), Cond.fieldLink RJx4a65c 9 "java/util/ArrayList" "elementData" "[Ljava/lang/Object;", Cond.methodLink RX4 59 yX2_init, Cond.instanceMethod yX2_init, Cond.code yX2_init cX2_init 3 none, Cond.methodLink RX2 1 objectInit]
def wsL_addRegion_r3 : List Cond := [Cond.instanceMethod objectInit, Cond.code objectInit ⟨#[0xb1]⟩ 1 none, Cond.fieldLink RX2 7 "Probeweb$Region" "number" "I", Cond.fieldLink RX2 19 "Probeweb$Region" "path" "I", Cond.static yX4_withRegion, Cond.code yX4_withRegion cX4_withRegion 3 (some .int), Cond.methodLink RX4 62 yJx4a65c_add_9ea2d, Cond.instanceMethod yJx4a65c_add_9ea2d, Cond.selects RJx4a65c yJx4a65c_add_9ea2d yJx4a65c_add_9ea2d, Cond.code yJx4a65c_add_9ea2d cJx4a65c_add_9ea2d 2 (some .boolean), Cond.fieldLink RJx4a65c 63 "java/util/ArrayList" "modCount" "I", Cond.sameField "java/util/ArrayList" "java/util/AbstractList" "modCount" "I", Cond.methodLink RJx4a65c 131 yJx4a65c_add_72be8, Cond.instanceMethod yJx4a65c_add_72be8, Cond.selects RJx4a65c yJx4a65c_add_72be8 yJx4a65c_add_72be8, Cond.code yJx4a65c_add_72be8 cJx4a65c_add_72be8 4 none, Cond.methodLink RJx4a65c 129 yJx4a65c_grow_d5877, Cond.instanceMethod yJx4a65c_grow_d5877, Cond.selects RJx4a65c yJx4a65c_grow_d5877 yJx4a65c_grow_d5877, Cond.code yJx4a65c_grow_d5877 cJx4a65c_grow_d5877 1 (some (.array (.object "java/lang/Object"))), Cond.methodLink RJx4a65c 69 yJx4a65c_grow_92f84, Cond.instanceMethod yJx4a65c_grow_92f84, Cond.selects RJx4a65c yJx4a65c_grow_92f84 yJx4a65c_grow_92f84, Cond.code yJx4a65c_grow_92f84 cJx4a65c_grow_92f84 4 (some (.array (.object "java/lang/Object")))]
def wsL_addRegion_r4 : List Cond := [Cond.fieldLink RJx4a65c 39 "java/util/ArrayList" "DEFAULTCAPACITY_EMPTY_ELEMENTDATA" "[Ljava/lang/Object;", Cond.methodLink RJx4a65c 79 Lib.Math.max.name, Cond.static Lib.Math.max.name, Cond.initialized "java/lang/Math", Cond.code Lib.Math.max.name Lib.Math.max.code 2 (some .int), Cond.classLink RJx4a65c 7 "java/lang/Object", Cond.methodLink RJx4a65c 73 yJ8_newLength_cabcc, Cond.static yJ8_newLength_cabcc, Cond.initialized RJ8, Cond.code yJ8_newLength_cabcc cJ8_newLength_cabcc 4 (some .int), Cond.methodLink RJ8 194 Lib.Math.max.name, Cond.constant RJ8 200 (2147483639), Cond.methodLink RJ8 201 yJ8_hugeLength_7cf53, Cond.static yJ8_hugeLength_7cf53, Cond.code yJ8_hugeLength_7cf53 cJ8_hugeLength_7cf53 3 (some .int), Cond.methodLink RJx4a65c 66 yJ7_copyOf_1904c, Cond.static yJ7_copyOf_1904c, Cond.initialized RJ7, Cond.code yJ7_copyOf_1904c cJ7_copyOf_1904c 2 (some (.array (.object "java/lang/Object"))), Cond.methodLink RJ7 86 ⟨"java/lang/Object", "getClass", "()Ljava/lang/Class;"⟩, Cond.selects "[Ljava/lang/Object;" ⟨"java/lang/Object", "getClass", "()Ljava/lang/Class;"⟩ ⟨"java/lang/Object", "getClass", "()Ljava/lang/Class;"⟩, Cond.instanceMethod ⟨"java/lang/Object", "getClass", "()Ljava/lang/Class;"⟩, Cond.native ⟨"java/lang/Object", "getClass", "()Ljava/lang/Class;"⟩, Cond.methodLink RJ7 300 yJ7_copyOf_6403c]
def wsL_addRegion_r5 : List Cond := [Cond.static yJ7_copyOf_6403c, Cond.code yJ7_copyOf_6403c cJ7_copyOf_6403c 4 (some (.array (.object "java/lang/Object"))), Cond.classLink RJ7 110 "[Ljava/lang/Object;", Cond.classLink RJ7 2 "java/lang/Object", Cond.methodLink RJ7 304 Lib.Math.min.name, Cond.static Lib.Math.min.name, Cond.code Lib.Math.min.name Lib.Math.min.code 2 (some .int), Cond.methodLink RJ7 150 arraycopyName, Cond.native arraycopyName, Cond.static arraycopyName, Cond.initialized "java/lang/System"]
def wsL_addRegion : List Cond := .codeWith yL_addRegion cL_addRegion 4 (some .int) [(0, 9, 12, 13), (0, 9, 15, 15)] :: ((wsL_addRegion_r1 ++ (wsL_addRegion_r2 ++ (wsL_addRegion_r3 ++ (wsL_addRegion_r4 ++ wsL_addRegion_r5)))) ++ wsX40 ++ wsX20 ++ wsJx4a65c0 ++ (vx_atS RX4 47 "java/lang/IllegalStateException" ["java/lang/RuntimeException", "java/lang/Exception"]).filter goodWord ++ (vx_atS RX4 105 "java/lang/IndexOutOfBoundsException" ["java/lang/RuntimeException", "java/lang/Exception"]).filter goodWord)
def wsL_addCheck_r1 : List Cond := [Cond.classLink RL 21 "java/lang/IllegalArgumentException", Cond.classLink RL 15 "java/lang/IllegalStateException", Cond.methodLink RL 17 yX4_addCheck, Cond.instanceMethod yX4_addCheck, Cond.selects RX4 yX4_addCheck yX4_addCheck, Cond.initialized RX4, Cond.code yX4_addCheck cX4_addCheck 6 (some .int), Cond.classLink RX4 43 "java/lang/IllegalStateException", Cond.initialized "java/lang/IllegalStateException", Cond.fieldLink RX4 16 "Probeweb" "checks" "Ljava/util/ArrayList;", Cond.classLink RX4 72 RX1, Cond.instantiable RX1 13, Cond.initialized RX1, Cond.methodLink RX4 66 yX4_requireRange, Cond.static yX4_requireRange, Cond.code yX4_requireRange cX4_requireRange 3 none, Cond.classLink RX4 175 "java/lang/IllegalArgumentException", Cond.initialized "java/lang/IllegalArgumentException", Cond.methodLink RX4 39 yJx4a65c_size_8abf5, Cond.instanceMethod yJx4a65c_size_8abf5, Cond.selects RJx4a65c yJx4a65c_size_8abf5 yJx4a65c_size_8abf5, Cond.initialized RJx4a65c, Cond.code yJx4a65c_size_8abf5 cJx4a65c_size_8abf5 1 (some .int), Cond.fieldLink RJx4a65c 48 "java/util/ArrayList" "size" "I"]
def wsL_addCheck_r2 : List Cond := [Cond.methodLink RX4 74 yX1_init, Cond.instanceMethod yX1_init, Cond.code yX1_init cX1_init 6 none, Cond.methodLink RX1 3 objectInit, Cond.instanceMethod objectInit, Cond.code objectInit ⟨#[0xb1]⟩ 1 none, Cond.fieldLink RX1 9 "Probeweb$Check" "number" "I", Cond.fieldLink RX1 15 "Probeweb$Check" "interval" "I", Cond.fieldLink RX1 18 "Probeweb$Check" "offset" "I", Cond.fieldLink RX1 21 "Probeweb$Check" "repetitions" "I", Cond.fieldLink RX1 24 "Probeweb$Check" "quorum" "I", Cond.arrayClass .int, Cond.fieldLink RX1 27 "Probeweb$Check" "votes" "[I", Cond.fieldLink RX1 31 "Probeweb$Check" "planned" "[I", Cond.fieldLink RX1 34 "Probeweb$Check" "plannedMinute" "[I", Cond.methodLink RX4 62 yJx4a65c_add_9ea2d, Cond.instanceMethod yJx4a65c_add_9ea2d, Cond.selects RJx4a65c yJx4a65c_add_9ea2d yJx4a65c_add_9ea2d, Cond.code yJx4a65c_add_9ea2d cJx4a65c_add_9ea2d 2 (some .boolean), Cond.fieldLink RJx4a65c 63 "java/util/ArrayList" "modCount" "I", Cond.sameField "java/util/ArrayList" "java/util/AbstractList" "modCount" "I", Cond.fieldLink RJx4a65c 9 "java/util/ArrayList" "elementData" "[Ljava/lang/Object;", Cond.methodLink RJx4a65c 131 yJx4a65c_add_72be8, Cond.instanceMethod yJx4a65c_add_72be8]
def wsL_addCheck_r3 : List Cond := [Cond.selects RJx4a65c yJx4a65c_add_72be8 yJx4a65c_add_72be8, Cond.code yJx4a65c_add_72be8 cJx4a65c_add_72be8 4 none, Cond.methodLink RJx4a65c 129 yJx4a65c_grow_d5877, Cond.instanceMethod yJx4a65c_grow_d5877, Cond.selects RJx4a65c yJx4a65c_grow_d5877 yJx4a65c_grow_d5877, Cond.code yJx4a65c_grow_d5877 cJx4a65c_grow_d5877 1 (some (.array (.object "java/lang/Object"))), Cond.methodLink RJx4a65c 69 yJx4a65c_grow_92f84, Cond.instanceMethod yJx4a65c_grow_92f84, Cond.selects RJx4a65c yJx4a65c_grow_92f84 yJx4a65c_grow_92f84, Cond.code yJx4a65c_grow_92f84 cJx4a65c_grow_92f84 4 (some (.array (.object "java/lang/Object"))), Cond.fieldLink RJx4a65c 39 "java/util/ArrayList" "DEFAULTCAPACITY_EMPTY_ELEMENTDATA" "[Ljava/lang/Object;", Cond.methodLink RJx4a65c 79 Lib.Math.max.name, Cond.static Lib.Math.max.name, Cond.initialized "java/lang/Math", Cond.code Lib.Math.max.name Lib.Math.max.code 2 (some .int), Cond.classLink RJx4a65c 7 "java/lang/Object", Cond.methodLink RJx4a65c 73 yJ8_newLength_cabcc, Cond.static yJ8_newLength_cabcc, Cond.initialized RJ8, Cond.code yJ8_newLength_cabcc cJ8_newLength_cabcc 4 (some .int), Cond.methodLink RJ8 194 Lib.Math.max.name, Cond.constant RJ8 200 (2147483639), Cond.methodLink RJ8 201 yJ8_hugeLength_7cf53, Cond.static yJ8_hugeLength_7cf53]
def wsL_addCheck_r4 : List Cond := [Cond.code yJ8_hugeLength_7cf53 cJ8_hugeLength_7cf53 3 (some .int), Cond.methodLink RJx4a65c 66 yJ7_copyOf_1904c, Cond.static yJ7_copyOf_1904c, Cond.initialized RJ7, Cond.code yJ7_copyOf_1904c cJ7_copyOf_1904c 2 (some (.array (.object "java/lang/Object"))), Cond.methodLink RJ7 86 ⟨"java/lang/Object", "getClass", "()Ljava/lang/Class;"⟩, Cond.selects "[Ljava/lang/Object;" ⟨"java/lang/Object", "getClass", "()Ljava/lang/Class;"⟩ ⟨"java/lang/Object", "getClass", "()Ljava/lang/Class;"⟩, Cond.instanceMethod ⟨"java/lang/Object", "getClass", "()Ljava/lang/Class;"⟩, Cond.native ⟨"java/lang/Object", "getClass", "()Ljava/lang/Class;"⟩, Cond.methodLink RJ7 300 yJ7_copyOf_6403c, Cond.static yJ7_copyOf_6403c, Cond.code yJ7_copyOf_6403c cJ7_copyOf_6403c 4 (some (.array (.object "java/lang/Object"))), Cond.classLink RJ7 110 "[Ljava/lang/Object;", Cond.classLink RJ7 2 "java/lang/Object", Cond.methodLink RJ7 304 Lib.Math.min.name, Cond.static Lib.Math.min.name, Cond.code Lib.Math.min.name Lib.Math.min.code 2 (some .int), Cond.methodLink RJ7 150 arraycopyName, Cond.native arraycopyName, Cond.static arraycopyName, Cond.initialized "java/lang/System"]
def wsL_addCheck : List Cond := .codeWith yL_addCheck cL_addCheck 7 (some .int) [(0, 14, 17, 21), (0, 14, 21, 15)] :: ((wsL_addCheck_r1 ++ (wsL_addCheck_r2 ++ (wsL_addCheck_r3 ++ wsL_addCheck_r4))) ++ wsX40 ++ wsX10 ++ wsJx4a65c0 ++ (vx_atS RX4 47 "java/lang/IllegalStateException" ["java/lang/RuntimeException", "java/lang/Exception"]).filter goodWord ++ (vx_atS RX4 179 "java/lang/IllegalArgumentException" ["java/lang/RuntimeException", "java/lang/Exception"]).filter goodWord)
def wsL_setDown_r1 : List Cond := [Cond.classLink RL 13 "java/lang/IndexOutOfBoundsException", Cond.methodLink RL 23 yX4_setDown, Cond.instanceMethod yX4_setDown, Cond.selects RX4 yX4_setDown yX4_setDown, Cond.initialized RX4, Cond.code yX4_setDown cX4_setDown 6 (some .boolean), Cond.fieldLink RX4 16 "Probeweb" "checks" "Ljava/util/ArrayList;", Cond.classLink RX4 72 "Probeweb$Check", Cond.fieldLink RX4 80 "Probeweb$Check" "downRegions" "I", Cond.methodLink RX4 77 yX4_requireCheck, Cond.instanceMethod yX4_requireCheck, Cond.selects RX4 yX4_requireCheck yX4_requireCheck, Cond.code yX4_requireCheck cX4_requireCheck 2 none, Cond.classLink RX4 101 "java/lang/IndexOutOfBoundsException", Cond.initialized "java/lang/IndexOutOfBoundsException", Cond.methodLink RX4 39 yJx4a65c_size_8abf5, Cond.instanceMethod yJx4a65c_size_8abf5, Cond.selects RJx4a65c yJx4a65c_size_8abf5 yJx4a65c_size_8abf5, Cond.initialized RJx4a65c, Cond.code yJx4a65c_size_8abf5 cJx4a65c_size_8abf5 1 (some .int), Cond.fieldLink RJx4a65c 48 "java/util/ArrayList" "size" "I", Cond.methodLink RX4 35 yX4_requireRegion, Cond.instanceMethod yX4_requireRegion, Cond.selects RX4 yX4_requireRegion yX4_requireRegion]
def wsL_setDown_r2 : List Cond := [Cond.code yX4_requireRegion cX4_requireRegion 2 none, Cond.fieldLink RX4 10 "Probeweb" "regions" "Ljava/util/ArrayList;", Cond.methodLink RX4 50 yJx4a65c_get_915e3, Cond.instanceMethod yJx4a65c_get_915e3, Cond.selects RJx4a65c yJx4a65c_get_915e3 yJx4a65c_get_915e3, Cond.code yJx4a65c_get_915e3 cJx4a65c_get_915e3 2 (some (.object "java/lang/Object")), Cond.methodLink RJx4a65c 118 yJ15_checkIndex_7cf53, Cond.static yJ15_checkIndex_7cf53, Cond.initialized RJ15, Cond.code yJ15_checkIndex_7cf53 cJ15_checkIndex_7cf53 2 (some .int), Cond.methodLink RJ15 105 yJ3_checkIndex_8e157, Cond.static yJ3_checkIndex_8e157, Cond.initialized RJ3, Cond.code yJ3_checkIndex_8e157 cJ3_checkIndex_8e157 3 (some .int), Cond.methodLink RJx4a65c 123 yJx4a65c_elementData_915e3, Cond.instanceMethod yJx4a65c_elementData_915e3, Cond.selects RJx4a65c yJx4a65c_elementData_915e3 yJx4a65c_elementData_915e3, Cond.code yJx4a65c_elementData_915e3 cJx4a65c_elementData_915e3 2 (some (.object "java/lang/Object")), Cond.fieldLink RJx4a65c 9 "java/util/ArrayList" "elementData" "[Ljava/lang/Object;", Cond.methodLink RX4 83 yX4_holds, Cond.static yX4_holds, Cond.code yX4_holds cX4_holds 2 (some .boolean), Cond.methodLink RX4 87 yX4_withRegion, Cond.static yX4_withRegion]
def wsL_setDown_r3 : List Cond := [Cond.code yX4_withRegion cX4_withRegion 3 (some .int)]
def wsL_setDown : List Cond := .codeWith yL_setDown cL_setDown 6 (some .int) [(0, 19, 22, 13)] :: ((wsL_setDown_r1 ++ (wsL_setDown_r2 ++ wsL_setDown_r3)) ++ wsX40 ++ wsX10 ++ wsJx4a65c0 ++ (vx_atS RX4 105 "java/lang/IndexOutOfBoundsException" ["java/lang/RuntimeException", "java/lang/Exception"]).filter goodWord)
def wsL_setCut_r1 : List Cond := [Cond.classLink RL 13 "java/lang/IndexOutOfBoundsException", Cond.methodLink RL 27 yX4_setCut, Cond.instanceMethod yX4_setCut, Cond.selects RX4 yX4_setCut yX4_setCut, Cond.initialized RX4, Cond.code yX4_setCut cX4_setCut 4 (some .boolean), Cond.fieldLink RX4 25 "Probeweb" "cutRegions" "I", Cond.methodLink RX4 35 yX4_requireRegion, Cond.instanceMethod yX4_requireRegion, Cond.selects RX4 yX4_requireRegion yX4_requireRegion, Cond.code yX4_requireRegion cX4_requireRegion 2 none, Cond.classLink RX4 101 "java/lang/IndexOutOfBoundsException", Cond.initialized "java/lang/IndexOutOfBoundsException", Cond.fieldLink RX4 10 "Probeweb" "regions" "Ljava/util/ArrayList;", Cond.methodLink RX4 39 yJx4a65c_size_8abf5, Cond.instanceMethod yJx4a65c_size_8abf5, Cond.selects RJx4a65c yJx4a65c_size_8abf5 yJx4a65c_size_8abf5, Cond.initialized RJx4a65c, Cond.code yJx4a65c_size_8abf5 cJx4a65c_size_8abf5 1 (some .int), Cond.fieldLink RJx4a65c 48 "java/util/ArrayList" "size" "I", Cond.methodLink RX4 83 yX4_holds, Cond.static yX4_holds, Cond.code yX4_holds cX4_holds 2 (some .boolean), Cond.methodLink RX4 87 yX4_withRegion]
def wsL_setCut_r2 : List Cond := [Cond.static yX4_withRegion, Cond.code yX4_withRegion cX4_withRegion 3 (some .int)]
def wsL_setCut : List Cond := .codeWith yL_setCut cL_setCut 5 (some .int) [(0, 17, 20, 13)] :: ((wsL_setCut_r1 ++ wsL_setCut_r2) ++ wsX40 ++ wsJx4a65c0 ++ (vx_atS RX4 105 "java/lang/IndexOutOfBoundsException" ["java/lang/RuntimeException", "java/lang/Exception"]).filter goodWord)
def wsL_setQuorum_r1 : List Cond := [Cond.classLink RL 13 "java/lang/IndexOutOfBoundsException", Cond.classLink RL 21 "java/lang/IllegalArgumentException", Cond.methodLink RL 31 yX4_setQuorum, Cond.instanceMethod yX4_setQuorum, Cond.selects RX4 yX4_setQuorum yX4_setQuorum, Cond.initialized RX4, Cond.code yX4_setQuorum cX4_setQuorum 5 (some .int), Cond.fieldLink RX4 16 "Probeweb" "checks" "Ljava/util/ArrayList;", Cond.classLink RX4 72 "Probeweb$Check", Cond.fieldLink RX4 91 "Probeweb$Check" "quorum" "I", Cond.methodLink RX4 77 yX4_requireCheck, Cond.instanceMethod yX4_requireCheck, Cond.selects RX4 yX4_requireCheck yX4_requireCheck, Cond.code yX4_requireCheck cX4_requireCheck 2 none, Cond.classLink RX4 101 "java/lang/IndexOutOfBoundsException", Cond.initialized "java/lang/IndexOutOfBoundsException", Cond.methodLink RX4 39 yJx4a65c_size_8abf5, Cond.instanceMethod yJx4a65c_size_8abf5, Cond.selects RJx4a65c yJx4a65c_size_8abf5 yJx4a65c_size_8abf5, Cond.initialized RJx4a65c, Cond.code yJx4a65c_size_8abf5 cJx4a65c_size_8abf5 1 (some .int), Cond.fieldLink RJx4a65c 48 "java/util/ArrayList" "size" "I", Cond.methodLink RX4 66 yX4_requireRange, Cond.static yX4_requireRange]
def wsL_setQuorum_r2 : List Cond := [Cond.code yX4_requireRange cX4_requireRange 3 none, Cond.classLink RX4 175 "java/lang/IllegalArgumentException", Cond.initialized "java/lang/IllegalArgumentException", Cond.methodLink RX4 50 yJx4a65c_get_915e3, Cond.instanceMethod yJx4a65c_get_915e3, Cond.selects RJx4a65c yJx4a65c_get_915e3 yJx4a65c_get_915e3, Cond.code yJx4a65c_get_915e3 cJx4a65c_get_915e3 2 (some (.object "java/lang/Object")), Cond.methodLink RJx4a65c 118 yJ15_checkIndex_7cf53, Cond.static yJ15_checkIndex_7cf53, Cond.initialized RJ15, Cond.code yJ15_checkIndex_7cf53 cJ15_checkIndex_7cf53 2 (some .int), Cond.methodLink RJ15 105 yJ3_checkIndex_8e157, Cond.static yJ3_checkIndex_8e157, Cond.initialized RJ3, Cond.code yJ3_checkIndex_8e157 cJ3_checkIndex_8e157 3 (some .int), Cond.methodLink RJx4a65c 123 yJx4a65c_elementData_915e3, Cond.instanceMethod yJx4a65c_elementData_915e3, Cond.selects RJx4a65c yJx4a65c_elementData_915e3 yJx4a65c_elementData_915e3, Cond.code yJx4a65c_elementData_915e3 cJx4a65c_elementData_915e3 2 (some (.object "java/lang/Object")), Cond.fieldLink RJx4a65c 9 "java/util/ArrayList" "elementData" "[Ljava/lang/Object;"]
def wsL_setQuorum : List Cond := .codeWith yL_setQuorum cL_setQuorum 5 (some .int) [(0, 10, 13, 13), (0, 10, 17, 21)] :: ((wsL_setQuorum_r1 ++ wsL_setQuorum_r2) ++ wsX40 ++ wsX10 ++ wsJx4a65c0 ++ (vx_atS RX4 105 "java/lang/IndexOutOfBoundsException" ["java/lang/RuntimeException", "java/lang/Exception"]).filter goodWord ++ (vx_atS RX4 179 "java/lang/IllegalArgumentException" ["java/lang/RuntimeException", "java/lang/Exception"]).filter goodWord)
def wsL_addWindow_r1 : List Cond := [Cond.classLink RL 13 "java/lang/IndexOutOfBoundsException", Cond.classLink RL 21 "java/lang/IllegalArgumentException", Cond.classLink RL 15 "java/lang/IllegalStateException", Cond.methodLink RL 35 yX4_addWindow, Cond.instanceMethod yX4_addWindow, Cond.selects RX4 yX4_addWindow yX4_addWindow, Cond.initialized RX4, Cond.code yX4_addWindow cX4_addWindow 4 (some .int), Cond.classLink RX4 43 "java/lang/IllegalStateException", Cond.initialized "java/lang/IllegalStateException", Cond.constant RX4 94 (100000), Cond.fieldLink RX4 19 "Probeweb" "windows" "Ljava/util/ArrayList;", Cond.classLink RX4 97 RX3, Cond.instantiable RX3 3, Cond.initialized RX3, Cond.methodLink RX4 77 yX4_requireCheck, Cond.instanceMethod yX4_requireCheck, Cond.selects RX4 yX4_requireCheck yX4_requireCheck, Cond.code yX4_requireCheck cX4_requireCheck 2 none, Cond.classLink RX4 101 "java/lang/IndexOutOfBoundsException", Cond.initialized "java/lang/IndexOutOfBoundsException", Cond.fieldLink RX4 16 "Probeweb" "checks" "Ljava/util/ArrayList;", Cond.methodLink RX4 39 yJx4a65c_size_8abf5, Cond.instanceMethod yJx4a65c_size_8abf5]
def wsL_addWindow_r2 : List Cond := [Cond.selects RJx4a65c yJx4a65c_size_8abf5 yJx4a65c_size_8abf5, Cond.initialized RJx4a65c, Cond.code yJx4a65c_size_8abf5 cJx4a65c_size_8abf5 1 (some .int), Cond.fieldLink RJx4a65c 48 "java/util/ArrayList" "size" "I", Cond.methodLink RX4 66 yX4_requireRange, Cond.static yX4_requireRange, Cond.code yX4_requireRange cX4_requireRange 3 none, Cond.classLink RX4 175 "java/lang/IllegalArgumentException", Cond.initialized "java/lang/IllegalArgumentException", Cond.methodLink RX4 99 yX3_init, Cond.instanceMethod yX3_init, Cond.code yX3_init cX3_init 4 none, Cond.methodLink RX3 1 objectInit, Cond.instanceMethod objectInit, Cond.code objectInit ⟨#[0xb1]⟩ 1 none, Cond.fieldLink RX3 7 "Probeweb$Window" "check" "I", Cond.fieldLink RX3 13 "Probeweb$Window" "first" "I", Cond.fieldLink RX3 16 "Probeweb$Window" "last" "I", Cond.methodLink RX4 62 yJx4a65c_add_9ea2d, Cond.instanceMethod yJx4a65c_add_9ea2d, Cond.selects RJx4a65c yJx4a65c_add_9ea2d yJx4a65c_add_9ea2d, Cond.code yJx4a65c_add_9ea2d cJx4a65c_add_9ea2d 2 (some .boolean), Cond.fieldLink RJx4a65c 63 "java/util/ArrayList" "modCount" "I", Cond.sameField "java/util/ArrayList" "java/util/AbstractList" "modCount" "I"]
def wsL_addWindow_r3 : List Cond := [Cond.fieldLink RJx4a65c 9 "java/util/ArrayList" "elementData" "[Ljava/lang/Object;", Cond.methodLink RJx4a65c 131 yJx4a65c_add_72be8, Cond.instanceMethod yJx4a65c_add_72be8, Cond.selects RJx4a65c yJx4a65c_add_72be8 yJx4a65c_add_72be8, Cond.code yJx4a65c_add_72be8 cJx4a65c_add_72be8 4 none, Cond.methodLink RJx4a65c 129 yJx4a65c_grow_d5877, Cond.instanceMethod yJx4a65c_grow_d5877, Cond.selects RJx4a65c yJx4a65c_grow_d5877 yJx4a65c_grow_d5877, Cond.code yJx4a65c_grow_d5877 cJx4a65c_grow_d5877 1 (some (.array (.object "java/lang/Object"))), Cond.methodLink RJx4a65c 69 yJx4a65c_grow_92f84, Cond.instanceMethod yJx4a65c_grow_92f84, Cond.selects RJx4a65c yJx4a65c_grow_92f84 yJx4a65c_grow_92f84, Cond.code yJx4a65c_grow_92f84 cJx4a65c_grow_92f84 4 (some (.array (.object "java/lang/Object"))), Cond.fieldLink RJx4a65c 39 "java/util/ArrayList" "DEFAULTCAPACITY_EMPTY_ELEMENTDATA" "[Ljava/lang/Object;", Cond.methodLink RJx4a65c 79 Lib.Math.max.name, Cond.static Lib.Math.max.name, Cond.initialized "java/lang/Math", Cond.code Lib.Math.max.name Lib.Math.max.code 2 (some .int), Cond.classLink RJx4a65c 7 "java/lang/Object", Cond.methodLink RJx4a65c 73 yJ8_newLength_cabcc, Cond.static yJ8_newLength_cabcc, Cond.initialized RJ8, Cond.code yJ8_newLength_cabcc cJ8_newLength_cabcc 4 (some .int), Cond.methodLink RJ8 194 Lib.Math.max.name]
def wsL_addWindow_r4 : List Cond := [Cond.constant RJ8 200 (2147483639), Cond.methodLink RJ8 201 yJ8_hugeLength_7cf53, Cond.static yJ8_hugeLength_7cf53, Cond.code yJ8_hugeLength_7cf53 cJ8_hugeLength_7cf53 3 (some .int), Cond.methodLink RJx4a65c 66 yJ7_copyOf_1904c, Cond.static yJ7_copyOf_1904c, Cond.initialized RJ7, Cond.code yJ7_copyOf_1904c cJ7_copyOf_1904c 2 (some (.array (.object "java/lang/Object"))), Cond.methodLink RJ7 86 ⟨"java/lang/Object", "getClass", "()Ljava/lang/Class;"⟩, Cond.selects "[Ljava/lang/Object;" ⟨"java/lang/Object", "getClass", "()Ljava/lang/Class;"⟩ ⟨"java/lang/Object", "getClass", "()Ljava/lang/Class;"⟩, Cond.instanceMethod ⟨"java/lang/Object", "getClass", "()Ljava/lang/Class;"⟩, Cond.native ⟨"java/lang/Object", "getClass", "()Ljava/lang/Class;"⟩, Cond.methodLink RJ7 300 yJ7_copyOf_6403c, Cond.static yJ7_copyOf_6403c, Cond.code yJ7_copyOf_6403c cJ7_copyOf_6403c 4 (some (.array (.object "java/lang/Object"))), Cond.classLink RJ7 110 "[Ljava/lang/Object;", Cond.classLink RJ7 2 "java/lang/Object", Cond.methodLink RJ7 304 Lib.Math.min.name, Cond.static Lib.Math.min.name, Cond.code Lib.Math.min.name Lib.Math.min.code 2 (some .int), Cond.methodLink RJ7 150 arraycopyName, Cond.native arraycopyName, Cond.static arraycopyName, Cond.initialized "java/lang/System"]
def wsL_addWindow : List Cond := .codeWith yL_addWindow cL_addWindow 6 (some .int) [(0, 12, 15, 13), (0, 12, 19, 21), (0, 12, 23, 15)] :: ((wsL_addWindow_r1 ++ (wsL_addWindow_r2 ++ (wsL_addWindow_r3 ++ wsL_addWindow_r4))) ++ wsX40 ++ wsX30 ++ wsJx4a65c0 ++ (vx_atS RX4 47 "java/lang/IllegalStateException" ["java/lang/RuntimeException", "java/lang/Exception"]).filter goodWord ++ (vx_atS RX4 105 "java/lang/IndexOutOfBoundsException" ["java/lang/RuntimeException", "java/lang/Exception"]).filter goodWord ++ (vx_atS RX4 179 "java/lang/IllegalArgumentException" ["java/lang/RuntimeException", "java/lang/Exception"]).filter goodWord)
def wsL_endWindow_r1 : List Cond := [Cond.classLink RL 13 "java/lang/IndexOutOfBoundsException", Cond.methodLink RL 39 yX4_endWindow, Cond.instanceMethod yX4_endWindow, Cond.selects RX4 yX4_endWindow yX4_endWindow, Cond.initialized RX4, Cond.code yX4_endWindow cX4_endWindow 3 (some .int), Cond.classLink RX4 101 "java/lang/IndexOutOfBoundsException", Cond.initialized "java/lang/IndexOutOfBoundsException", Cond.fieldLink RX4 19 "Probeweb" "windows" "Ljava/util/ArrayList;", Cond.classLink RX4 97 "Probeweb$Window", Cond.fieldLink RX4 32 "Probeweb" "minute" "I", Cond.methodLink RX4 39 yJx4a65c_size_8abf5, Cond.instanceMethod yJx4a65c_size_8abf5, Cond.selects RJx4a65c yJx4a65c_size_8abf5 yJx4a65c_size_8abf5, Cond.initialized RJx4a65c, Cond.code yJx4a65c_size_8abf5 cJx4a65c_size_8abf5 1 (some .int), Cond.fieldLink RJx4a65c 48 "java/util/ArrayList" "size" "I", Cond.methodLink RX4 50 yJx4a65c_get_915e3, Cond.instanceMethod yJx4a65c_get_915e3, Cond.selects RJx4a65c yJx4a65c_get_915e3 yJx4a65c_get_915e3, Cond.code yJx4a65c_get_915e3 cJx4a65c_get_915e3 2 (some (.object "java/lang/Object")), Cond.methodLink RJx4a65c 118 yJ15_checkIndex_7cf53, Cond.static yJ15_checkIndex_7cf53, Cond.initialized RJ15]
def wsL_endWindow_r2 : List Cond := [Cond.code yJ15_checkIndex_7cf53 cJ15_checkIndex_7cf53 2 (some .int), Cond.methodLink RJ15 105 yJ3_checkIndex_8e157, Cond.static yJ3_checkIndex_8e157, Cond.initialized RJ3, Cond.code yJ3_checkIndex_8e157 cJ3_checkIndex_8e157 3 (some .int), Cond.methodLink RJx4a65c 123 yJx4a65c_elementData_915e3, Cond.instanceMethod yJx4a65c_elementData_915e3, Cond.selects RJx4a65c yJx4a65c_elementData_915e3 yJx4a65c_elementData_915e3, Cond.code yJx4a65c_elementData_915e3 cJx4a65c_elementData_915e3 2 (some (.object "java/lang/Object")), Cond.fieldLink RJx4a65c 9 "java/util/ArrayList" "elementData" "[Ljava/lang/Object;", Cond.methodLink RX4 106 yX3_endAfter, Cond.instanceMethod yX3_endAfter, Cond.selects RX3 yX3_endAfter yX3_endAfter, Cond.initialized RX3, Cond.code yX3_endAfter cX3_endAfter 2 none, Cond.fieldLink RX3 16 "Probeweb$Window" "last" "I", Cond.methodLink RX3 19 Lib.Math.min.name, Cond.static Lib.Math.min.name, Cond.initialized "java/lang/Math", Cond.code Lib.Math.min.name Lib.Math.min.code 2 (some .int), Cond.methodLink RX4 109 yX3_length, Cond.instanceMethod yX3_length, Cond.selects RX3 yX3_length yX3_length, Cond.code yX3_length cX3_length 1 (some .int)]
def wsL_endWindow_r3 : List Cond := [Cond.fieldLink RX3 13 "Probeweb$Window" "first" "I", Cond.methodLink RX3 25 Lib.Math.max.name, Cond.static Lib.Math.max.name, Cond.code Lib.Math.max.name Lib.Math.max.code 2 (some .int)]
def wsL_endWindow : List Cond := .codeWith yL_endWindow cL_endWindow 4 (some .int) [(0, 9, 12, 13)] :: ((wsL_endWindow_r1 ++ (wsL_endWindow_r2 ++ wsL_endWindow_r3)) ++ wsX40 ++ wsJx4a65c0 ++ wsX30 ++ (vx_atS RX4 105 "java/lang/IndexOutOfBoundsException" ["java/lang/RuntimeException", "java/lang/Exception"]).filter goodWord)
def wsL_pass_r1 : List Cond := [Cond.classLink RL 21 "java/lang/IllegalArgumentException", Cond.methodLink RL 42 yX4_pass, Cond.instanceMethod yX4_pass, Cond.selects RX4 yX4_pass yX4_pass, Cond.initialized RX4, Cond.code yX4_pass cX4_pass 4 (some .int), Cond.fieldLink RX4 22 "Probeweb" "alarmLog" "Ljava/util/ArrayList;", Cond.methodLink RX4 66 yX4_requireRange, Cond.static yX4_requireRange, Cond.code yX4_requireRange cX4_requireRange 3 none, Cond.classLink RX4 175 "java/lang/IllegalArgumentException", Cond.initialized "java/lang/IllegalArgumentException", Cond.methodLink RX4 39 yJx4a65c_size_8abf5, Cond.instanceMethod yJx4a65c_size_8abf5, Cond.selects RJx4a65c yJx4a65c_size_8abf5 yJx4a65c_size_8abf5, Cond.initialized RJx4a65c, Cond.code yJx4a65c_size_8abf5 cJx4a65c_size_8abf5 1 (some .int), Cond.fieldLink RJx4a65c 48 "java/util/ArrayList" "size" "I", Cond.methodLink RX4 112 yX4_passOneMinute, Cond.instanceMethod yX4_passOneMinute, Cond.selects RX4 yX4_passOneMinute yX4_passOneMinute, Cond.code yX4_passOneMinute cX4_passOneMinute 1 none, Cond.fieldLink RX4 32 "Probeweb" "minute" "I", Cond.methodLink RX4 180 yX4_makeProbes]
def wsL_pass_r2 : List Cond := [Cond.instanceMethod yX4_makeProbes, Cond.selects RX4 yX4_makeProbes yX4_makeProbes, Cond.code yX4_makeProbes cX4_makeProbes 3 none, Cond.fieldLink RX4 16 "Probeweb" "checks" "Ljava/util/ArrayList;", Cond.fieldLink RX4 10 "Probeweb" "regions" "Ljava/util/ArrayList;", Cond.classLink RX4 72 "Probeweb$Check", Cond.classLink RX4 54 "Probeweb$Region", Cond.methodLink RX4 50 yJx4a65c_get_915e3, Cond.instanceMethod yJx4a65c_get_915e3, Cond.selects RJx4a65c yJx4a65c_get_915e3 yJx4a65c_get_915e3, Cond.code yJx4a65c_get_915e3 cJx4a65c_get_915e3 2 (some (.object "java/lang/Object")), Cond.methodLink RJx4a65c 118 yJ15_checkIndex_7cf53, Cond.static yJ15_checkIndex_7cf53, Cond.initialized RJ15, Cond.code yJ15_checkIndex_7cf53 cJ15_checkIndex_7cf53 2 (some .int), Cond.methodLink RJ15 105 yJ3_checkIndex_8e157, Cond.static yJ3_checkIndex_8e157, Cond.initialized RJ3, Cond.code yJ3_checkIndex_8e157 cJ3_checkIndex_8e157 3 (some .int), Cond.methodLink RJx4a65c 123 yJx4a65c_elementData_915e3, Cond.instanceMethod yJx4a65c_elementData_915e3, Cond.selects RJx4a65c yJx4a65c_elementData_915e3 yJx4a65c_elementData_915e3, Cond.code yJx4a65c_elementData_915e3 cJx4a65c_elementData_915e3 2 (some (.object "java/lang/Object")), Cond.fieldLink RJx4a65c 9 "java/util/ArrayList" "elementData" "[Ljava/lang/Object;"]
def wsL_pass_r3 : List Cond := [Cond.methodLink RX4 195 yX1_isDue, Cond.instanceMethod yX1_isDue, Cond.selects RX1 yX1_isDue yX1_isDue, Cond.initialized RX1, Cond.code yX1_isDue cX1_isDue 3 (some .boolean), Cond.methodLink RX1 37 yX1_nextMinuteFrom, Cond.instanceMethod yX1_nextMinuteFrom, Cond.selects RX1 yX1_nextMinuteFrom yX1_nextMinuteFrom, Cond.code yX1_nextMinuteFrom cX1_nextMinuteFrom 5 (some .int), Cond.fieldLink RX1 31 "Probeweb$Check" "planned" "[I", Cond.fieldLink RX1 34 "Probeweb$Check" "plannedMinute" "[I", Cond.fieldLink RX1 18 "Probeweb$Check" "offset" "I", Cond.fieldLink RX1 15 "Probeweb$Check" "interval" "I", Cond.methodLink RX4 198 yX4_makeProbe, Cond.instanceMethod yX4_makeProbe, Cond.selects RX4 yX4_makeProbe yX4_makeProbe, Cond.code yX4_makeProbe cX4_makeProbe 3 none, Cond.fieldLink RX4 130 "Probeweb$Region" "probesMade" "I", Cond.fieldLink RX4 133 "Probeweb$Region" "probesFailed" "I", Cond.fieldLink RX4 202 "Probeweb$Region" "number" "I", Cond.methodLink RX4 115 yX4_wouldFail, Cond.instanceMethod yX4_wouldFail, Cond.selects RX4 yX4_wouldFail yX4_wouldFail, Cond.code yX4_wouldFail cX4_wouldFail 3 (some .boolean)]
def wsL_pass_r4 : List Cond := [Cond.fieldLink RX4 80 "Probeweb$Check" "downRegions" "I", Cond.fieldLink RX4 56 "Probeweb$Region" "path" "I", Cond.fieldLink RX4 25 "Probeweb" "cutRegions" "I", Cond.methodLink RX4 83 yX4_holds, Cond.static yX4_holds, Cond.code yX4_holds cX4_holds 2 (some .boolean), Cond.methodLink RX4 205 yX1_takeFailure, Cond.instanceMethod yX1_takeFailure, Cond.selects RX1 yX1_takeFailure yX1_takeFailure, Cond.code yX1_takeFailure cX1_takeFailure 4 none, Cond.fieldLink RX1 27 "Probeweb$Check" "votes" "[I", Cond.fieldLink RX1 21 "Probeweb$Check" "repetitions" "I", Cond.fieldLink RX1 9 "Probeweb$Check" "number" "I", Cond.methodLink RX4 208 yX1_takeSuccess, Cond.instanceMethod yX1_takeSuccess, Cond.selects RX1 yX1_takeSuccess yX1_takeSuccess, Cond.code yX1_takeSuccess cX1_takeSuccess 2 none, Cond.methodLink RX4 183 yX4_judgeRegions, Cond.instanceMethod yX4_judgeRegions, Cond.selects RX4 yX4_judgeRegions yX4_judgeRegions, Cond.code yX4_judgeRegions cX4_judgeRegions 2 none, Cond.fieldLink RX4 29 "Probeweb" "badRegions" "I", Cond.methodLink RX4 211 yX4_votesAreBad, Cond.instanceMethod yX4_votesAreBad]
def wsL_pass_r5 : List Cond := [Cond.selects RX4 yX4_votesAreBad yX4_votesAreBad, Cond.code yX4_votesAreBad cX4_votesAreBad 6 (some .boolean), Cond.fieldLink RX4 127 "Probeweb$Check" "votes" "[I", Cond.methodLink RX4 87 yX4_withRegion, Cond.static yX4_withRegion, Cond.code yX4_withRegion cX4_withRegion 3 (some .int), Cond.methodLink RX4 186 yX4_judgeChecks, Cond.instanceMethod yX4_judgeChecks, Cond.selects RX4 yX4_judgeChecks yX4_judgeChecks, Cond.code yX4_judgeChecks cX4_judgeChecks 3 none, Cond.methodLink RX4 139 yX4_trustedRegions, Cond.instanceMethod yX4_trustedRegions, Cond.selects RX4 yX4_trustedRegions yX4_trustedRegions, Cond.code yX4_trustedRegions cX4_trustedRegions 5 (some .int), Cond.methodLink RX4 215 yX1_judge, Cond.instanceMethod yX1_judge, Cond.selects RX1 yX1_judge yX1_judge, Cond.code yX1_judge cX1_judge 4 none, Cond.fieldLink RX1 24 "Probeweb$Check" "quorum" "I", Cond.fieldLink RX1 51 "Probeweb$Check" "lastVerdict" "I", Cond.methodLink RX1 45 yJ6_bitCount_0f7a4, Cond.static yJ6_bitCount_0f7a4, Cond.initialized RJ6, Cond.code yJ6_bitCount_0f7a4 cJ6_bitCount_0f7a4 1 (some .int)]
def wsL_pass_r6 : List Cond := [Cond.constant RJ6 265 (1431655765), Cond.constant RJ6 266 (858993459), Cond.constant RJ6 267 (252645135), Cond.methodLink RX4 189 yX4_raiseAndCloseAlarms, Cond.instanceMethod yX4_raiseAndCloseAlarms, Cond.selects RX4 yX4_raiseAndCloseAlarms yX4_raiseAndCloseAlarms, Cond.code yX4_raiseAndCloseAlarms cX4_raiseAndCloseAlarms 3 none, Cond.fieldLink RX4 136 "Probeweb$Check" "lastVerdict" "I", Cond.fieldLink RX4 143 "Probeweb$Check" "openAlarm" "LProbeweb$Alarm;", Cond.fieldLink RX4 158 "Probeweb$Alarm" "closed" "I", Cond.methodLink RX4 218 yX4_isMaintained, Cond.instanceMethod yX4_isMaintained, Cond.selects RX4 yX4_isMaintained yX4_isMaintained, Cond.code yX4_isMaintained cX4_isMaintained 4 (some .boolean), Cond.fieldLink RX4 19 "Probeweb" "windows" "Ljava/util/ArrayList;", Cond.classLink RX4 97 "Probeweb$Window", Cond.fieldLink RX4 226 "Probeweb$Window" "check" "I", Cond.fieldLink RX4 227 "Probeweb$Check" "number" "I", Cond.methodLink RX4 228 yX3_contains, Cond.instanceMethod yX3_contains, Cond.selects RX3 yX3_contains yX3_contains, Cond.initialized RX3, Cond.code yX3_contains cX3_contains 2 (some .boolean), Cond.fieldLink RX3 13 "Probeweb$Window" "first" "I"]
def wsL_pass_r7 : List Cond := [Cond.fieldLink RX3 16 "Probeweb$Window" "last" "I", Cond.methodLink RX4 222 yX4_raiseAlarm, Cond.instanceMethod yX4_raiseAlarm, Cond.selects RX4 yX4_raiseAlarm yX4_raiseAlarm, Cond.code yX4_raiseAlarm cX4_raiseAlarm 2 none, Cond.constant RX4 231 (1000000), Cond.classLink RX4 150 RX0, Cond.instantiable RX0 3, Cond.initialized RX0, Cond.methodLink RX4 232 yX0_init, Cond.instanceMethod yX0_init, Cond.code yX0_init cX0_init 3 none, Cond.methodLink RX0 3 objectInit, Cond.instanceMethod objectInit, Cond.code objectInit ⟨#[0xb1]⟩ 1 none, Cond.fieldLink RX0 9 "Probeweb$Alarm" "check" "I", Cond.fieldLink RX0 15 "Probeweb$Alarm" "raised" "I", Cond.fieldLink RX0 18 "Probeweb$Alarm" "closed" "I", Cond.methodLink RX4 62 yJx4a65c_add_9ea2d, Cond.instanceMethod yJx4a65c_add_9ea2d, Cond.selects RJx4a65c yJx4a65c_add_9ea2d yJx4a65c_add_9ea2d, Cond.code yJx4a65c_add_9ea2d cJx4a65c_add_9ea2d 2 (some .boolean), Cond.fieldLink RJx4a65c 63 "java/util/ArrayList" "modCount" "I", Cond.sameField "java/util/ArrayList" "java/util/AbstractList" "modCount" "I"]
def wsL_pass_r8 : List Cond := [Cond.methodLink RJx4a65c 131 yJx4a65c_add_72be8, Cond.instanceMethod yJx4a65c_add_72be8, Cond.selects RJx4a65c yJx4a65c_add_72be8 yJx4a65c_add_72be8, Cond.code yJx4a65c_add_72be8 cJx4a65c_add_72be8 4 none, Cond.methodLink RJx4a65c 129 yJx4a65c_grow_d5877, Cond.instanceMethod yJx4a65c_grow_d5877, Cond.selects RJx4a65c yJx4a65c_grow_d5877 yJx4a65c_grow_d5877, Cond.code yJx4a65c_grow_d5877 cJx4a65c_grow_d5877 1 (some (.array (.object "java/lang/Object"))), Cond.methodLink RJx4a65c 69 yJx4a65c_grow_92f84, Cond.instanceMethod yJx4a65c_grow_92f84, Cond.selects RJx4a65c yJx4a65c_grow_92f84 yJx4a65c_grow_92f84, Cond.code yJx4a65c_grow_92f84 cJx4a65c_grow_92f84 4 (some (.array (.object "java/lang/Object"))), Cond.fieldLink RJx4a65c 39 "java/util/ArrayList" "DEFAULTCAPACITY_EMPTY_ELEMENTDATA" "[Ljava/lang/Object;", Cond.methodLink RJx4a65c 79 Lib.Math.max.name, Cond.static Lib.Math.max.name, Cond.initialized "java/lang/Math", Cond.code Lib.Math.max.name Lib.Math.max.code 2 (some .int), Cond.classLink RJx4a65c 7 "java/lang/Object", Cond.methodLink RJx4a65c 73 yJ8_newLength_cabcc, Cond.static yJ8_newLength_cabcc, Cond.initialized RJ8, Cond.code yJ8_newLength_cabcc cJ8_newLength_cabcc 4 (some .int), Cond.methodLink RJ8 194 Lib.Math.max.name, Cond.constant RJ8 200 (2147483639)]
def wsL_pass_r9 : List Cond := [Cond.methodLink RJ8 201 yJ8_hugeLength_7cf53, Cond.static yJ8_hugeLength_7cf53, Cond.code yJ8_hugeLength_7cf53 cJ8_hugeLength_7cf53 3 (some .int), Cond.methodLink RJx4a65c 66 yJ7_copyOf_1904c, Cond.static yJ7_copyOf_1904c, Cond.initialized RJ7, Cond.code yJ7_copyOf_1904c cJ7_copyOf_1904c 2 (some (.array (.object "java/lang/Object"))), Cond.methodLink RJ7 86 ⟨"java/lang/Object", "getClass", "()Ljava/lang/Class;"⟩, Cond.selects "[Ljava/lang/Object;" ⟨"java/lang/Object", "getClass", "()Ljava/lang/Class;"⟩ ⟨"java/lang/Object", "getClass", "()Ljava/lang/Class;"⟩, Cond.instanceMethod ⟨"java/lang/Object", "getClass", "()Ljava/lang/Class;"⟩, Cond.native ⟨"java/lang/Object", "getClass", "()Ljava/lang/Class;"⟩, Cond.methodLink RJ7 300 yJ7_copyOf_6403c, Cond.static yJ7_copyOf_6403c, Cond.code yJ7_copyOf_6403c cJ7_copyOf_6403c 4 (some (.array (.object "java/lang/Object"))), Cond.classLink RJ7 110 "[Ljava/lang/Object;", Cond.classLink RJ7 2 "java/lang/Object", Cond.methodLink RJ7 304 Lib.Math.min.name, Cond.static Lib.Math.min.name, Cond.code Lib.Math.min.name Lib.Math.min.code 2 (some .int), Cond.methodLink RJ7 150 arraycopyName, Cond.native arraycopyName, Cond.static arraycopyName, Cond.initialized "java/lang/System", Cond.methodLink RX4 192 yX4_countMinute]
def wsL_pass_r10 : List Cond := [Cond.instanceMethod yX4_countMinute, Cond.selects RX4 yX4_countMinute yX4_countMinute, Cond.code yX4_countMinute cX4_countMinute 3 none, Cond.fieldLink RX4 161 "Probeweb$Check" "minutesCounted" "I", Cond.fieldLink RX4 166 "Probeweb$Check" "minutesUp" "I"]
def wsL_pass : List Cond := .codeWith yL_pass cL_pass 4 (some .int) [(0, 9, 12, 21)] :: ((wsL_pass_r1 ++ (wsL_pass_r2 ++ (wsL_pass_r3 ++ (wsL_pass_r4 ++ (wsL_pass_r5 ++ (wsL_pass_r6 ++ (wsL_pass_r7 ++ (wsL_pass_r8 ++ (wsL_pass_r9 ++ wsL_pass_r10))))))))) ++ wsX40 ++ wsJx4a65c0 ++ wsX10 ++ wsX20 ++ wsX00 ++ wsX30 ++ (vx_atS RX4 179 "java/lang/IllegalArgumentException" ["java/lang/RuntimeException", "java/lang/Exception"]).filter goodWord)
def wsL_failing_r1 : List Cond := [Cond.classLink RL 13 "java/lang/IndexOutOfBoundsException", Cond.methodLink RL 45 yX4_failing, Cond.instanceMethod yX4_failing, Cond.selects RX4 yX4_failing yX4_failing, Cond.initialized RX4, Cond.code yX4_failing cX4_failing 4 (some .int), Cond.fieldLink RX4 10 "Probeweb" "regions" "Ljava/util/ArrayList;", Cond.fieldLink RX4 16 "Probeweb" "checks" "Ljava/util/ArrayList;", Cond.classLink RX4 72 "Probeweb$Check", Cond.classLink RX4 54 "Probeweb$Region", Cond.methodLink RX4 77 yX4_requireCheck, Cond.instanceMethod yX4_requireCheck, Cond.selects RX4 yX4_requireCheck yX4_requireCheck, Cond.code yX4_requireCheck cX4_requireCheck 2 none, Cond.classLink RX4 101 "java/lang/IndexOutOfBoundsException", Cond.initialized "java/lang/IndexOutOfBoundsException", Cond.methodLink RX4 39 yJx4a65c_size_8abf5, Cond.instanceMethod yJx4a65c_size_8abf5, Cond.selects RJx4a65c yJx4a65c_size_8abf5 yJx4a65c_size_8abf5, Cond.initialized RJx4a65c, Cond.code yJx4a65c_size_8abf5 cJx4a65c_size_8abf5 1 (some .int), Cond.fieldLink RJx4a65c 48 "java/util/ArrayList" "size" "I", Cond.methodLink RX4 50 yJx4a65c_get_915e3, Cond.instanceMethod yJx4a65c_get_915e3]
def wsL_failing_r2 : List Cond := [Cond.selects RJx4a65c yJx4a65c_get_915e3 yJx4a65c_get_915e3, Cond.code yJx4a65c_get_915e3 cJx4a65c_get_915e3 2 (some (.object "java/lang/Object")), Cond.methodLink RJx4a65c 118 yJ15_checkIndex_7cf53, Cond.static yJ15_checkIndex_7cf53, Cond.initialized RJ15, Cond.code yJ15_checkIndex_7cf53 cJ15_checkIndex_7cf53 2 (some .int), Cond.methodLink RJ15 105 yJ3_checkIndex_8e157, Cond.static yJ3_checkIndex_8e157, Cond.initialized RJ3, Cond.code yJ3_checkIndex_8e157 cJ3_checkIndex_8e157 3 (some .int), Cond.methodLink RJx4a65c 123 yJx4a65c_elementData_915e3, Cond.instanceMethod yJx4a65c_elementData_915e3, Cond.selects RJx4a65c yJx4a65c_elementData_915e3 yJx4a65c_elementData_915e3, Cond.code yJx4a65c_elementData_915e3 cJx4a65c_elementData_915e3 2 (some (.object "java/lang/Object")), Cond.fieldLink RJx4a65c 9 "java/util/ArrayList" "elementData" "[Ljava/lang/Object;", Cond.methodLink RX4 115 yX4_wouldFail, Cond.instanceMethod yX4_wouldFail, Cond.selects RX4 yX4_wouldFail yX4_wouldFail, Cond.code yX4_wouldFail cX4_wouldFail 3 (some .boolean), Cond.fieldLink RX4 80 "Probeweb$Check" "downRegions" "I", Cond.fieldLink RX4 202 "Probeweb$Region" "number" "I", Cond.fieldLink RX4 56 "Probeweb$Region" "path" "I", Cond.fieldLink RX4 25 "Probeweb" "cutRegions" "I", Cond.methodLink RX4 83 yX4_holds]
def wsL_failing_r3 : List Cond := [Cond.static yX4_holds, Cond.code yX4_holds cX4_holds 2 (some .boolean), Cond.methodLink RX4 87 yX4_withRegion, Cond.static yX4_withRegion, Cond.code yX4_withRegion cX4_withRegion 3 (some .int)]
def wsL_failing : List Cond := .codeWith yL_failing cL_failing 4 (some .int) [(0, 9, 12, 13)] :: ((wsL_failing_r1 ++ (wsL_failing_r2 ++ wsL_failing_r3)) ++ wsX40 ++ wsJx4a65c0 ++ wsX10 ++ wsX20 ++ (vx_atS RX4 105 "java/lang/IndexOutOfBoundsException" ["java/lang/RuntimeException", "java/lang/Exception"]).filter goodWord)
def wsL_nextProbe_r1 : List Cond := [Cond.classLink RL 13 "java/lang/IndexOutOfBoundsException", Cond.methodLink RL 48 yX4_nextProbe, Cond.instanceMethod yX4_nextProbe, Cond.selects RX4 yX4_nextProbe yX4_nextProbe, Cond.initialized RX4, Cond.code yX4_nextProbe cX4_nextProbe 3 (some .int), Cond.fieldLink RX4 16 "Probeweb" "checks" "Ljava/util/ArrayList;", Cond.classLink RX4 72 "Probeweb$Check", Cond.fieldLink RX4 32 "Probeweb" "minute" "I", Cond.methodLink RX4 77 yX4_requireCheck, Cond.instanceMethod yX4_requireCheck, Cond.selects RX4 yX4_requireCheck yX4_requireCheck, Cond.code yX4_requireCheck cX4_requireCheck 2 none, Cond.classLink RX4 101 "java/lang/IndexOutOfBoundsException", Cond.initialized "java/lang/IndexOutOfBoundsException", Cond.methodLink RX4 39 yJx4a65c_size_8abf5, Cond.instanceMethod yJx4a65c_size_8abf5, Cond.selects RJx4a65c yJx4a65c_size_8abf5 yJx4a65c_size_8abf5, Cond.initialized RJx4a65c, Cond.code yJx4a65c_size_8abf5 cJx4a65c_size_8abf5 1 (some .int), Cond.fieldLink RJx4a65c 48 "java/util/ArrayList" "size" "I", Cond.methodLink RX4 35 yX4_requireRegion, Cond.instanceMethod yX4_requireRegion, Cond.selects RX4 yX4_requireRegion yX4_requireRegion]
def wsL_nextProbe_r2 : List Cond := [Cond.code yX4_requireRegion cX4_requireRegion 2 none, Cond.fieldLink RX4 10 "Probeweb" "regions" "Ljava/util/ArrayList;", Cond.methodLink RX4 50 yJx4a65c_get_915e3, Cond.instanceMethod yJx4a65c_get_915e3, Cond.selects RJx4a65c yJx4a65c_get_915e3 yJx4a65c_get_915e3, Cond.code yJx4a65c_get_915e3 cJx4a65c_get_915e3 2 (some (.object "java/lang/Object")), Cond.methodLink RJx4a65c 118 yJ15_checkIndex_7cf53, Cond.static yJ15_checkIndex_7cf53, Cond.initialized RJ15, Cond.code yJ15_checkIndex_7cf53 cJ15_checkIndex_7cf53 2 (some .int), Cond.methodLink RJ15 105 yJ3_checkIndex_8e157, Cond.static yJ3_checkIndex_8e157, Cond.initialized RJ3, Cond.code yJ3_checkIndex_8e157 cJ3_checkIndex_8e157 3 (some .int), Cond.methodLink RJx4a65c 123 yJx4a65c_elementData_915e3, Cond.instanceMethod yJx4a65c_elementData_915e3, Cond.selects RJx4a65c yJx4a65c_elementData_915e3 yJx4a65c_elementData_915e3, Cond.code yJx4a65c_elementData_915e3 cJx4a65c_elementData_915e3 2 (some (.object "java/lang/Object")), Cond.fieldLink RJx4a65c 9 "java/util/ArrayList" "elementData" "[Ljava/lang/Object;", Cond.methodLink RX4 119 yX1_nextMinuteFrom, Cond.instanceMethod yX1_nextMinuteFrom, Cond.selects RX1 yX1_nextMinuteFrom yX1_nextMinuteFrom, Cond.initialized RX1, Cond.code yX1_nextMinuteFrom cX1_nextMinuteFrom 5 (some .int)]
def wsL_nextProbe_r3 : List Cond := [Cond.fieldLink RX1 31 "Probeweb$Check" "planned" "[I", Cond.fieldLink RX1 34 "Probeweb$Check" "plannedMinute" "[I", Cond.fieldLink RX1 18 "Probeweb$Check" "offset" "I", Cond.fieldLink RX1 15 "Probeweb$Check" "interval" "I"]
def wsL_nextProbe : List Cond := .codeWith yL_nextProbe cL_nextProbe 5 (some .int) [(0, 10, 13, 13)] :: ((wsL_nextProbe_r1 ++ (wsL_nextProbe_r2 ++ wsL_nextProbe_r3)) ++ wsX40 ++ wsJx4a65c0 ++ wsX10 ++ (vx_atS RX4 105 "java/lang/IndexOutOfBoundsException" ["java/lang/RuntimeException", "java/lang/Exception"]).filter goodWord)
def wsL_repetition_r1 : List Cond := [Cond.classLink RL 13 "java/lang/IndexOutOfBoundsException", Cond.methodLink RL 51 yX4_repetition, Cond.instanceMethod yX4_repetition, Cond.selects RX4 yX4_repetition yX4_repetition, Cond.initialized RX4, Cond.code yX4_repetition cX4_repetition 3 (some .int), Cond.fieldLink RX4 16 "Probeweb" "checks" "Ljava/util/ArrayList;", Cond.classLink RX4 72 "Probeweb$Check", Cond.fieldLink RX4 123 "Probeweb$Check" "planned" "[I", Cond.methodLink RX4 77 yX4_requireCheck, Cond.instanceMethod yX4_requireCheck, Cond.selects RX4 yX4_requireCheck yX4_requireCheck, Cond.code yX4_requireCheck cX4_requireCheck 2 none, Cond.classLink RX4 101 "java/lang/IndexOutOfBoundsException", Cond.initialized "java/lang/IndexOutOfBoundsException", Cond.methodLink RX4 39 yJx4a65c_size_8abf5, Cond.instanceMethod yJx4a65c_size_8abf5, Cond.selects RJx4a65c yJx4a65c_size_8abf5 yJx4a65c_size_8abf5, Cond.initialized RJx4a65c, Cond.code yJx4a65c_size_8abf5 cJx4a65c_size_8abf5 1 (some .int), Cond.fieldLink RJx4a65c 48 "java/util/ArrayList" "size" "I", Cond.methodLink RX4 35 yX4_requireRegion, Cond.instanceMethod yX4_requireRegion, Cond.selects RX4 yX4_requireRegion yX4_requireRegion]
def wsL_repetition_r2 : List Cond := [Cond.code yX4_requireRegion cX4_requireRegion 2 none, Cond.fieldLink RX4 10 "Probeweb" "regions" "Ljava/util/ArrayList;", Cond.methodLink RX4 50 yJx4a65c_get_915e3, Cond.instanceMethod yJx4a65c_get_915e3, Cond.selects RJx4a65c yJx4a65c_get_915e3 yJx4a65c_get_915e3, Cond.code yJx4a65c_get_915e3 cJx4a65c_get_915e3 2 (some (.object "java/lang/Object")), Cond.methodLink RJx4a65c 118 yJ15_checkIndex_7cf53, Cond.static yJ15_checkIndex_7cf53, Cond.initialized RJ15, Cond.code yJ15_checkIndex_7cf53 cJ15_checkIndex_7cf53 2 (some .int), Cond.methodLink RJ15 105 yJ3_checkIndex_8e157, Cond.static yJ3_checkIndex_8e157, Cond.initialized RJ3, Cond.code yJ3_checkIndex_8e157 cJ3_checkIndex_8e157 3 (some .int), Cond.methodLink RJx4a65c 123 yJx4a65c_elementData_915e3, Cond.instanceMethod yJx4a65c_elementData_915e3, Cond.selects RJx4a65c yJx4a65c_elementData_915e3 yJx4a65c_elementData_915e3, Cond.code yJx4a65c_elementData_915e3 cJx4a65c_elementData_915e3 2 (some (.object "java/lang/Object")), Cond.fieldLink RJx4a65c 9 "java/util/ArrayList" "elementData" "[Ljava/lang/Object;"]
def wsL_repetition : List Cond := .codeWith yL_repetition cL_repetition 5 (some .int) [(0, 10, 13, 13)] :: ((wsL_repetition_r1 ++ wsL_repetition_r2) ++ wsX40 ++ wsX10 ++ wsJx4a65c0 ++ (vx_atS RX4 105 "java/lang/IndexOutOfBoundsException" ["java/lang/RuntimeException", "java/lang/Exception"]).filter goodWord)
def wsL_vote_r1 : List Cond := [Cond.classLink RL 13 "java/lang/IndexOutOfBoundsException", Cond.methodLink RL 54 yX4_vote, Cond.instanceMethod yX4_vote, Cond.selects RX4 yX4_vote yX4_vote, Cond.initialized RX4, Cond.code yX4_vote cX4_vote 3 (some .int), Cond.fieldLink RX4 16 "Probeweb" "checks" "Ljava/util/ArrayList;", Cond.classLink RX4 72 "Probeweb$Check", Cond.fieldLink RX4 127 "Probeweb$Check" "votes" "[I", Cond.methodLink RX4 77 yX4_requireCheck, Cond.instanceMethod yX4_requireCheck, Cond.selects RX4 yX4_requireCheck yX4_requireCheck, Cond.code yX4_requireCheck cX4_requireCheck 2 none, Cond.classLink RX4 101 "java/lang/IndexOutOfBoundsException", Cond.initialized "java/lang/IndexOutOfBoundsException", Cond.methodLink RX4 39 yJx4a65c_size_8abf5, Cond.instanceMethod yJx4a65c_size_8abf5, Cond.selects RJx4a65c yJx4a65c_size_8abf5 yJx4a65c_size_8abf5, Cond.initialized RJx4a65c, Cond.code yJx4a65c_size_8abf5 cJx4a65c_size_8abf5 1 (some .int), Cond.fieldLink RJx4a65c 48 "java/util/ArrayList" "size" "I", Cond.methodLink RX4 35 yX4_requireRegion, Cond.instanceMethod yX4_requireRegion, Cond.selects RX4 yX4_requireRegion yX4_requireRegion]
def wsL_vote_r2 : List Cond := [Cond.code yX4_requireRegion cX4_requireRegion 2 none, Cond.fieldLink RX4 10 "Probeweb" "regions" "Ljava/util/ArrayList;", Cond.methodLink RX4 50 yJx4a65c_get_915e3, Cond.instanceMethod yJx4a65c_get_915e3, Cond.selects RJx4a65c yJx4a65c_get_915e3 yJx4a65c_get_915e3, Cond.code yJx4a65c_get_915e3 cJx4a65c_get_915e3 2 (some (.object "java/lang/Object")), Cond.methodLink RJx4a65c 118 yJ15_checkIndex_7cf53, Cond.static yJ15_checkIndex_7cf53, Cond.initialized RJ15, Cond.code yJ15_checkIndex_7cf53 cJ15_checkIndex_7cf53 2 (some .int), Cond.methodLink RJ15 105 yJ3_checkIndex_8e157, Cond.static yJ3_checkIndex_8e157, Cond.initialized RJ3, Cond.code yJ3_checkIndex_8e157 cJ3_checkIndex_8e157 3 (some .int), Cond.methodLink RJx4a65c 123 yJx4a65c_elementData_915e3, Cond.instanceMethod yJx4a65c_elementData_915e3, Cond.selects RJx4a65c yJx4a65c_elementData_915e3 yJx4a65c_elementData_915e3, Cond.code yJx4a65c_elementData_915e3 cJx4a65c_elementData_915e3 2 (some (.object "java/lang/Object")), Cond.fieldLink RJx4a65c 9 "java/util/ArrayList" "elementData" "[Ljava/lang/Object;"]
def wsL_vote : List Cond := .codeWith yL_vote cL_vote 5 (some .int) [(0, 10, 13, 13)] :: ((wsL_vote_r1 ++ wsL_vote_r2) ++ wsX40 ++ wsX10 ++ wsJx4a65c0 ++ (vx_atS RX4 105 "java/lang/IndexOutOfBoundsException" ["java/lang/RuntimeException", "java/lang/Exception"]).filter goodWord)
def wsL_probes_r1 : List Cond := [Cond.classLink RL 13 "java/lang/IndexOutOfBoundsException", Cond.methodLink RL 57 yX4_probes, Cond.instanceMethod yX4_probes, Cond.selects RX4 yX4_probes yX4_probes, Cond.initialized RX4, Cond.code yX4_probes cX4_probes 2 (some .int), Cond.fieldLink RX4 10 "Probeweb" "regions" "Ljava/util/ArrayList;", Cond.classLink RX4 54 "Probeweb$Region", Cond.fieldLink RX4 130 "Probeweb$Region" "probesMade" "I", Cond.methodLink RX4 35 yX4_requireRegion, Cond.instanceMethod yX4_requireRegion, Cond.selects RX4 yX4_requireRegion yX4_requireRegion, Cond.code yX4_requireRegion cX4_requireRegion 2 none, Cond.classLink RX4 101 "java/lang/IndexOutOfBoundsException", Cond.initialized "java/lang/IndexOutOfBoundsException", Cond.methodLink RX4 39 yJx4a65c_size_8abf5, Cond.instanceMethod yJx4a65c_size_8abf5, Cond.selects RJx4a65c yJx4a65c_size_8abf5 yJx4a65c_size_8abf5, Cond.initialized RJx4a65c, Cond.code yJx4a65c_size_8abf5 cJx4a65c_size_8abf5 1 (some .int), Cond.fieldLink RJx4a65c 48 "java/util/ArrayList" "size" "I", Cond.methodLink RX4 50 yJx4a65c_get_915e3, Cond.instanceMethod yJx4a65c_get_915e3, Cond.selects RJx4a65c yJx4a65c_get_915e3 yJx4a65c_get_915e3]
def wsL_probes_r2 : List Cond := [Cond.code yJx4a65c_get_915e3 cJx4a65c_get_915e3 2 (some (.object "java/lang/Object")), Cond.methodLink RJx4a65c 118 yJ15_checkIndex_7cf53, Cond.static yJ15_checkIndex_7cf53, Cond.initialized RJ15, Cond.code yJ15_checkIndex_7cf53 cJ15_checkIndex_7cf53 2 (some .int), Cond.methodLink RJ15 105 yJ3_checkIndex_8e157, Cond.static yJ3_checkIndex_8e157, Cond.initialized RJ3, Cond.code yJ3_checkIndex_8e157 cJ3_checkIndex_8e157 3 (some .int), Cond.methodLink RJx4a65c 123 yJx4a65c_elementData_915e3, Cond.instanceMethod yJx4a65c_elementData_915e3, Cond.selects RJx4a65c yJx4a65c_elementData_915e3 yJx4a65c_elementData_915e3, Cond.code yJx4a65c_elementData_915e3 cJx4a65c_elementData_915e3 2 (some (.object "java/lang/Object")), Cond.fieldLink RJx4a65c 9 "java/util/ArrayList" "elementData" "[Ljava/lang/Object;"]
def wsL_probes : List Cond := .codeWith yL_probes cL_probes 4 (some .int) [(0, 9, 12, 13)] :: ((wsL_probes_r1 ++ wsL_probes_r2) ++ wsX40 ++ wsX20 ++ wsJx4a65c0 ++ (vx_atS RX4 105 "java/lang/IndexOutOfBoundsException" ["java/lang/RuntimeException", "java/lang/Exception"]).filter goodWord)
def wsL_failures_r1 : List Cond := [Cond.classLink RL 13 "java/lang/IndexOutOfBoundsException", Cond.methodLink RL 60 yX4_failures, Cond.instanceMethod yX4_failures, Cond.selects RX4 yX4_failures yX4_failures, Cond.initialized RX4, Cond.code yX4_failures cX4_failures 2 (some .int), Cond.fieldLink RX4 10 "Probeweb" "regions" "Ljava/util/ArrayList;", Cond.classLink RX4 54 "Probeweb$Region", Cond.fieldLink RX4 133 "Probeweb$Region" "probesFailed" "I", Cond.methodLink RX4 35 yX4_requireRegion, Cond.instanceMethod yX4_requireRegion, Cond.selects RX4 yX4_requireRegion yX4_requireRegion, Cond.code yX4_requireRegion cX4_requireRegion 2 none, Cond.classLink RX4 101 "java/lang/IndexOutOfBoundsException", Cond.initialized "java/lang/IndexOutOfBoundsException", Cond.methodLink RX4 39 yJx4a65c_size_8abf5, Cond.instanceMethod yJx4a65c_size_8abf5, Cond.selects RJx4a65c yJx4a65c_size_8abf5 yJx4a65c_size_8abf5, Cond.initialized RJx4a65c, Cond.code yJx4a65c_size_8abf5 cJx4a65c_size_8abf5 1 (some .int), Cond.fieldLink RJx4a65c 48 "java/util/ArrayList" "size" "I", Cond.methodLink RX4 50 yJx4a65c_get_915e3, Cond.instanceMethod yJx4a65c_get_915e3, Cond.selects RJx4a65c yJx4a65c_get_915e3 yJx4a65c_get_915e3]
def wsL_failures_r2 : List Cond := [Cond.code yJx4a65c_get_915e3 cJx4a65c_get_915e3 2 (some (.object "java/lang/Object")), Cond.methodLink RJx4a65c 118 yJ15_checkIndex_7cf53, Cond.static yJ15_checkIndex_7cf53, Cond.initialized RJ15, Cond.code yJ15_checkIndex_7cf53 cJ15_checkIndex_7cf53 2 (some .int), Cond.methodLink RJ15 105 yJ3_checkIndex_8e157, Cond.static yJ3_checkIndex_8e157, Cond.initialized RJ3, Cond.code yJ3_checkIndex_8e157 cJ3_checkIndex_8e157 3 (some .int), Cond.methodLink RJx4a65c 123 yJx4a65c_elementData_915e3, Cond.instanceMethod yJx4a65c_elementData_915e3, Cond.selects RJx4a65c yJx4a65c_elementData_915e3 yJx4a65c_elementData_915e3, Cond.code yJx4a65c_elementData_915e3 cJx4a65c_elementData_915e3 2 (some (.object "java/lang/Object")), Cond.fieldLink RJx4a65c 9 "java/util/ArrayList" "elementData" "[Ljava/lang/Object;"]
def wsL_failures : List Cond := .codeWith yL_failures cL_failures 4 (some .int) [(0, 9, 12, 13)] :: ((wsL_failures_r1 ++ wsL_failures_r2) ++ wsX40 ++ wsX20 ++ wsJx4a65c0 ++ (vx_atS RX4 105 "java/lang/IndexOutOfBoundsException" ["java/lang/RuntimeException", "java/lang/Exception"]).filter goodWord)
def wsL_isBad : List Cond := .codeWith yL_isBad cL_isBad 4 (some .int) [(0, 16, 19, 13)] :: ([.classLink RL 13 "java/lang/IndexOutOfBoundsException", .methodLink RL 63 yX4_isBad, .instanceMethod yX4_isBad, .selects RX4 yX4_isBad yX4_isBad, .initialized RX4, .code yX4_isBad cX4_isBad 2 (some .boolean), .fieldLink RX4 29 "Probeweb" "badRegions" "I", .methodLink RX4 35 yX4_requireRegion, .instanceMethod yX4_requireRegion, .selects RX4 yX4_requireRegion yX4_requireRegion, .code yX4_requireRegion cX4_requireRegion 2 none, .classLink RX4 101 "java/lang/IndexOutOfBoundsException", .initialized "java/lang/IndexOutOfBoundsException", .fieldLink RX4 10 "Probeweb" "regions" "Ljava/util/ArrayList;", .methodLink RX4 39 yJx4a65c_size_8abf5, .instanceMethod yJx4a65c_size_8abf5, .selects RJx4a65c yJx4a65c_size_8abf5 yJx4a65c_size_8abf5, .initialized RJx4a65c, .code yJx4a65c_size_8abf5 cJx4a65c_size_8abf5 1 (some .int), .fieldLink RJx4a65c 48 "java/util/ArrayList" "size" "I", .methodLink RX4 83 yX4_holds, .static yX4_holds, .code yX4_holds cX4_holds 2 (some .boolean)] ++ wsX40 ++ wsJx4a65c0 ++ (vx_atS RX4 105 "java/lang/IndexOutOfBoundsException" ["java/lang/RuntimeException", "java/lang/Exception"]).filter goodWord)
def wsL_verdict_r1 : List Cond := [Cond.classLink RL 13 "java/lang/IndexOutOfBoundsException", Cond.methodLink RL 67 yX4_verdict, Cond.instanceMethod yX4_verdict, Cond.selects RX4 yX4_verdict yX4_verdict, Cond.initialized RX4, Cond.code yX4_verdict cX4_verdict 2 (some .int), Cond.fieldLink RX4 16 "Probeweb" "checks" "Ljava/util/ArrayList;", Cond.classLink RX4 72 "Probeweb$Check", Cond.fieldLink RX4 136 "Probeweb$Check" "lastVerdict" "I", Cond.methodLink RX4 77 yX4_requireCheck, Cond.instanceMethod yX4_requireCheck, Cond.selects RX4 yX4_requireCheck yX4_requireCheck, Cond.code yX4_requireCheck cX4_requireCheck 2 none, Cond.classLink RX4 101 "java/lang/IndexOutOfBoundsException", Cond.initialized "java/lang/IndexOutOfBoundsException", Cond.methodLink RX4 39 yJx4a65c_size_8abf5, Cond.instanceMethod yJx4a65c_size_8abf5, Cond.selects RJx4a65c yJx4a65c_size_8abf5 yJx4a65c_size_8abf5, Cond.initialized RJx4a65c, Cond.code yJx4a65c_size_8abf5 cJx4a65c_size_8abf5 1 (some .int), Cond.fieldLink RJx4a65c 48 "java/util/ArrayList" "size" "I", Cond.methodLink RX4 50 yJx4a65c_get_915e3, Cond.instanceMethod yJx4a65c_get_915e3, Cond.selects RJx4a65c yJx4a65c_get_915e3 yJx4a65c_get_915e3]
def wsL_verdict_r2 : List Cond := [Cond.code yJx4a65c_get_915e3 cJx4a65c_get_915e3 2 (some (.object "java/lang/Object")), Cond.methodLink RJx4a65c 118 yJ15_checkIndex_7cf53, Cond.static yJ15_checkIndex_7cf53, Cond.initialized RJ15, Cond.code yJ15_checkIndex_7cf53 cJ15_checkIndex_7cf53 2 (some .int), Cond.methodLink RJ15 105 yJ3_checkIndex_8e157, Cond.static yJ3_checkIndex_8e157, Cond.initialized RJ3, Cond.code yJ3_checkIndex_8e157 cJ3_checkIndex_8e157 3 (some .int), Cond.methodLink RJx4a65c 123 yJx4a65c_elementData_915e3, Cond.instanceMethod yJx4a65c_elementData_915e3, Cond.selects RJx4a65c yJx4a65c_elementData_915e3 yJx4a65c_elementData_915e3, Cond.code yJx4a65c_elementData_915e3 cJx4a65c_elementData_915e3 2 (some (.object "java/lang/Object")), Cond.fieldLink RJx4a65c 9 "java/util/ArrayList" "elementData" "[Ljava/lang/Object;"]
def wsL_verdict : List Cond := .codeWith yL_verdict cL_verdict 4 (some .int) [(0, 9, 12, 13)] :: ((wsL_verdict_r1 ++ wsL_verdict_r2) ++ wsX40 ++ wsX10 ++ wsJx4a65c0 ++ (vx_atS RX4 105 "java/lang/IndexOutOfBoundsException" ["java/lang/RuntimeException", "java/lang/Exception"]).filter goodWord)
def wsL_trusted_r1 : List Cond := [Cond.classLink RL 13 "java/lang/IndexOutOfBoundsException", Cond.methodLink RL 70 yX4_trusted, Cond.instanceMethod yX4_trusted, Cond.selects RX4 yX4_trusted yX4_trusted, Cond.initialized RX4, Cond.code yX4_trusted cX4_trusted 2 (some .int), Cond.fieldLink RX4 16 "Probeweb" "checks" "Ljava/util/ArrayList;", Cond.classLink RX4 72 "Probeweb$Check", Cond.methodLink RX4 77 yX4_requireCheck, Cond.instanceMethod yX4_requireCheck, Cond.selects RX4 yX4_requireCheck yX4_requireCheck, Cond.code yX4_requireCheck cX4_requireCheck 2 none, Cond.classLink RX4 101 "java/lang/IndexOutOfBoundsException", Cond.initialized "java/lang/IndexOutOfBoundsException", Cond.methodLink RX4 39 yJx4a65c_size_8abf5, Cond.instanceMethod yJx4a65c_size_8abf5, Cond.selects RJx4a65c yJx4a65c_size_8abf5 yJx4a65c_size_8abf5, Cond.initialized RJx4a65c, Cond.code yJx4a65c_size_8abf5 cJx4a65c_size_8abf5 1 (some .int), Cond.fieldLink RJx4a65c 48 "java/util/ArrayList" "size" "I", Cond.methodLink RX4 50 yJx4a65c_get_915e3, Cond.instanceMethod yJx4a65c_get_915e3, Cond.selects RJx4a65c yJx4a65c_get_915e3 yJx4a65c_get_915e3, Cond.code yJx4a65c_get_915e3 cJx4a65c_get_915e3 2 (some (.object "java/lang/Object"))]
def wsL_trusted_r2 : List Cond := [Cond.methodLink RJx4a65c 118 yJ15_checkIndex_7cf53, Cond.static yJ15_checkIndex_7cf53, Cond.initialized RJ15, Cond.code yJ15_checkIndex_7cf53 cJ15_checkIndex_7cf53 2 (some .int), Cond.methodLink RJ15 105 yJ3_checkIndex_8e157, Cond.static yJ3_checkIndex_8e157, Cond.initialized RJ3, Cond.code yJ3_checkIndex_8e157 cJ3_checkIndex_8e157 3 (some .int), Cond.methodLink RJx4a65c 123 yJx4a65c_elementData_915e3, Cond.instanceMethod yJx4a65c_elementData_915e3, Cond.selects RJx4a65c yJx4a65c_elementData_915e3 yJx4a65c_elementData_915e3, Cond.code yJx4a65c_elementData_915e3 cJx4a65c_elementData_915e3 2 (some (.object "java/lang/Object")), Cond.fieldLink RJx4a65c 9 "java/util/ArrayList" "elementData" "[Ljava/lang/Object;", Cond.methodLink RX4 139 yX4_trustedRegions, Cond.instanceMethod yX4_trustedRegions, Cond.selects RX4 yX4_trustedRegions yX4_trustedRegions, Cond.code yX4_trustedRegions cX4_trustedRegions 5 (some .int), Cond.fieldLink RX4 10 "Probeweb" "regions" "Ljava/util/ArrayList;", Cond.fieldLink RX4 127 "Probeweb$Check" "votes" "[I", Cond.classLink RX4 54 "Probeweb$Region", Cond.fieldLink RX4 56 "Probeweb$Region" "path" "I", Cond.fieldLink RX4 29 "Probeweb" "badRegions" "I", Cond.methodLink RX4 87 yX4_withRegion, Cond.static yX4_withRegion]
def wsL_trusted_r3 : List Cond := [Cond.code yX4_withRegion cX4_withRegion 3 (some .int)]
def wsL_trusted : List Cond := .codeWith yL_trusted cL_trusted 4 (some .int) [(0, 9, 12, 13)] :: ((wsL_trusted_r1 ++ (wsL_trusted_r2 ++ wsL_trusted_r3)) ++ wsX40 ++ wsJx4a65c0 ++ wsX10 ++ wsX20 ++ (vx_atS RX4 105 "java/lang/IndexOutOfBoundsException" ["java/lang/RuntimeException", "java/lang/Exception"]).filter goodWord)
def wsL_hasAlarm_r1 : List Cond := [Cond.classLink RL 13 "java/lang/IndexOutOfBoundsException", Cond.methodLink RL 73 yX4_hasAlarm, Cond.instanceMethod yX4_hasAlarm, Cond.selects RX4 yX4_hasAlarm yX4_hasAlarm, Cond.initialized RX4, Cond.code yX4_hasAlarm cX4_hasAlarm 2 (some .boolean), Cond.fieldLink RX4 16 "Probeweb" "checks" "Ljava/util/ArrayList;", Cond.classLink RX4 72 "Probeweb$Check", Cond.fieldLink RX4 143 "Probeweb$Check" "openAlarm" "LProbeweb$Alarm;", Cond.methodLink RX4 77 yX4_requireCheck, Cond.instanceMethod yX4_requireCheck, Cond.selects RX4 yX4_requireCheck yX4_requireCheck, Cond.code yX4_requireCheck cX4_requireCheck 2 none, Cond.classLink RX4 101 "java/lang/IndexOutOfBoundsException", Cond.initialized "java/lang/IndexOutOfBoundsException", Cond.methodLink RX4 39 yJx4a65c_size_8abf5, Cond.instanceMethod yJx4a65c_size_8abf5, Cond.selects RJx4a65c yJx4a65c_size_8abf5 yJx4a65c_size_8abf5, Cond.initialized RJx4a65c, Cond.code yJx4a65c_size_8abf5 cJx4a65c_size_8abf5 1 (some .int), Cond.fieldLink RJx4a65c 48 "java/util/ArrayList" "size" "I", Cond.methodLink RX4 50 yJx4a65c_get_915e3, Cond.instanceMethod yJx4a65c_get_915e3, Cond.selects RJx4a65c yJx4a65c_get_915e3 yJx4a65c_get_915e3]
def wsL_hasAlarm_r2 : List Cond := [Cond.code yJx4a65c_get_915e3 cJx4a65c_get_915e3 2 (some (.object "java/lang/Object")), Cond.methodLink RJx4a65c 118 yJ15_checkIndex_7cf53, Cond.static yJ15_checkIndex_7cf53, Cond.initialized RJ15, Cond.code yJ15_checkIndex_7cf53 cJ15_checkIndex_7cf53 2 (some .int), Cond.methodLink RJ15 105 yJ3_checkIndex_8e157, Cond.static yJ3_checkIndex_8e157, Cond.initialized RJ3, Cond.code yJ3_checkIndex_8e157 cJ3_checkIndex_8e157 3 (some .int), Cond.methodLink RJx4a65c 123 yJx4a65c_elementData_915e3, Cond.instanceMethod yJx4a65c_elementData_915e3, Cond.selects RJx4a65c yJx4a65c_elementData_915e3 yJx4a65c_elementData_915e3, Cond.code yJx4a65c_elementData_915e3 cJx4a65c_elementData_915e3 2 (some (.object "java/lang/Object")), Cond.fieldLink RJx4a65c 9 "java/util/ArrayList" "elementData" "[Ljava/lang/Object;"]
def wsL_hasAlarm : List Cond := .codeWith yL_hasAlarm cL_hasAlarm 4 (some .int) [(0, 16, 19, 13)] :: ((wsL_hasAlarm_r1 ++ wsL_hasAlarm_r2) ++ wsX40 ++ wsX10 ++ wsJx4a65c0 ++ (vx_atS RX4 105 "java/lang/IndexOutOfBoundsException" ["java/lang/RuntimeException", "java/lang/Exception"]).filter goodWord)
def wsL_alarmCheck_r1 : List Cond := [Cond.classLink RL 13 "java/lang/IndexOutOfBoundsException", Cond.methodLink RL 76 yX4_alarmCheck, Cond.instanceMethod yX4_alarmCheck, Cond.selects RX4 yX4_alarmCheck yX4_alarmCheck, Cond.initialized RX4, Cond.code yX4_alarmCheck cX4_alarmCheck 2 (some .int), Cond.fieldLink RX4 22 "Probeweb" "alarmLog" "Ljava/util/ArrayList;", Cond.classLink RX4 150 "Probeweb$Alarm", Cond.fieldLink RX4 152 "Probeweb$Alarm" "check" "I", Cond.methodLink RX4 147 yX4_requireAlarm, Cond.instanceMethod yX4_requireAlarm, Cond.selects RX4 yX4_requireAlarm yX4_requireAlarm, Cond.code yX4_requireAlarm cX4_requireAlarm 2 none, Cond.classLink RX4 101 "java/lang/IndexOutOfBoundsException", Cond.initialized "java/lang/IndexOutOfBoundsException", Cond.methodLink RX4 39 yJx4a65c_size_8abf5, Cond.instanceMethod yJx4a65c_size_8abf5, Cond.selects RJx4a65c yJx4a65c_size_8abf5 yJx4a65c_size_8abf5, Cond.initialized RJx4a65c, Cond.code yJx4a65c_size_8abf5 cJx4a65c_size_8abf5 1 (some .int), Cond.fieldLink RJx4a65c 48 "java/util/ArrayList" "size" "I", Cond.methodLink RX4 50 yJx4a65c_get_915e3, Cond.instanceMethod yJx4a65c_get_915e3, Cond.selects RJx4a65c yJx4a65c_get_915e3 yJx4a65c_get_915e3]
def wsL_alarmCheck_r2 : List Cond := [Cond.code yJx4a65c_get_915e3 cJx4a65c_get_915e3 2 (some (.object "java/lang/Object")), Cond.methodLink RJx4a65c 118 yJ15_checkIndex_7cf53, Cond.static yJ15_checkIndex_7cf53, Cond.initialized RJ15, Cond.code yJ15_checkIndex_7cf53 cJ15_checkIndex_7cf53 2 (some .int), Cond.methodLink RJ15 105 yJ3_checkIndex_8e157, Cond.static yJ3_checkIndex_8e157, Cond.initialized RJ3, Cond.code yJ3_checkIndex_8e157 cJ3_checkIndex_8e157 3 (some .int), Cond.methodLink RJx4a65c 123 yJx4a65c_elementData_915e3, Cond.instanceMethod yJx4a65c_elementData_915e3, Cond.selects RJx4a65c yJx4a65c_elementData_915e3 yJx4a65c_elementData_915e3, Cond.code yJx4a65c_elementData_915e3 cJx4a65c_elementData_915e3 2 (some (.object "java/lang/Object")), Cond.fieldLink RJx4a65c 9 "java/util/ArrayList" "elementData" "[Ljava/lang/Object;"]
def wsL_alarmCheck : List Cond := .codeWith yL_alarmCheck cL_alarmCheck 4 (some .int) [(0, 9, 12, 13)] :: ((wsL_alarmCheck_r1 ++ wsL_alarmCheck_r2) ++ wsX40 ++ wsX00 ++ wsJx4a65c0 ++ (vx_atS RX4 105 "java/lang/IndexOutOfBoundsException" ["java/lang/RuntimeException", "java/lang/Exception"]).filter goodWord)
def wsL_alarmRaised_r1 : List Cond := [Cond.classLink RL 13 "java/lang/IndexOutOfBoundsException", Cond.methodLink RL 79 yX4_alarmRaised, Cond.instanceMethod yX4_alarmRaised, Cond.selects RX4 yX4_alarmRaised yX4_alarmRaised, Cond.initialized RX4, Cond.code yX4_alarmRaised cX4_alarmRaised 2 (some .int), Cond.fieldLink RX4 22 "Probeweb" "alarmLog" "Ljava/util/ArrayList;", Cond.classLink RX4 150 "Probeweb$Alarm", Cond.fieldLink RX4 155 "Probeweb$Alarm" "raised" "I", Cond.methodLink RX4 147 yX4_requireAlarm, Cond.instanceMethod yX4_requireAlarm, Cond.selects RX4 yX4_requireAlarm yX4_requireAlarm, Cond.code yX4_requireAlarm cX4_requireAlarm 2 none, Cond.classLink RX4 101 "java/lang/IndexOutOfBoundsException", Cond.initialized "java/lang/IndexOutOfBoundsException", Cond.methodLink RX4 39 yJx4a65c_size_8abf5, Cond.instanceMethod yJx4a65c_size_8abf5, Cond.selects RJx4a65c yJx4a65c_size_8abf5 yJx4a65c_size_8abf5, Cond.initialized RJx4a65c, Cond.code yJx4a65c_size_8abf5 cJx4a65c_size_8abf5 1 (some .int), Cond.fieldLink RJx4a65c 48 "java/util/ArrayList" "size" "I", Cond.methodLink RX4 50 yJx4a65c_get_915e3, Cond.instanceMethod yJx4a65c_get_915e3, Cond.selects RJx4a65c yJx4a65c_get_915e3 yJx4a65c_get_915e3]
def wsL_alarmRaised_r2 : List Cond := [Cond.code yJx4a65c_get_915e3 cJx4a65c_get_915e3 2 (some (.object "java/lang/Object")), Cond.methodLink RJx4a65c 118 yJ15_checkIndex_7cf53, Cond.static yJ15_checkIndex_7cf53, Cond.initialized RJ15, Cond.code yJ15_checkIndex_7cf53 cJ15_checkIndex_7cf53 2 (some .int), Cond.methodLink RJ15 105 yJ3_checkIndex_8e157, Cond.static yJ3_checkIndex_8e157, Cond.initialized RJ3, Cond.code yJ3_checkIndex_8e157 cJ3_checkIndex_8e157 3 (some .int), Cond.methodLink RJx4a65c 123 yJx4a65c_elementData_915e3, Cond.instanceMethod yJx4a65c_elementData_915e3, Cond.selects RJx4a65c yJx4a65c_elementData_915e3 yJx4a65c_elementData_915e3, Cond.code yJx4a65c_elementData_915e3 cJx4a65c_elementData_915e3 2 (some (.object "java/lang/Object")), Cond.fieldLink RJx4a65c 9 "java/util/ArrayList" "elementData" "[Ljava/lang/Object;"]
def wsL_alarmRaised : List Cond := .codeWith yL_alarmRaised cL_alarmRaised 4 (some .int) [(0, 9, 12, 13)] :: ((wsL_alarmRaised_r1 ++ wsL_alarmRaised_r2) ++ wsX40 ++ wsX00 ++ wsJx4a65c0 ++ (vx_atS RX4 105 "java/lang/IndexOutOfBoundsException" ["java/lang/RuntimeException", "java/lang/Exception"]).filter goodWord)
def wsL_alarmClosed_r1 : List Cond := [Cond.classLink RL 13 "java/lang/IndexOutOfBoundsException", Cond.methodLink RL 82 yX4_alarmClosed, Cond.instanceMethod yX4_alarmClosed, Cond.selects RX4 yX4_alarmClosed yX4_alarmClosed, Cond.initialized RX4, Cond.code yX4_alarmClosed cX4_alarmClosed 2 (some .int), Cond.fieldLink RX4 22 "Probeweb" "alarmLog" "Ljava/util/ArrayList;", Cond.classLink RX4 150 "Probeweb$Alarm", Cond.fieldLink RX4 158 "Probeweb$Alarm" "closed" "I", Cond.methodLink RX4 147 yX4_requireAlarm, Cond.instanceMethod yX4_requireAlarm, Cond.selects RX4 yX4_requireAlarm yX4_requireAlarm, Cond.code yX4_requireAlarm cX4_requireAlarm 2 none, Cond.classLink RX4 101 "java/lang/IndexOutOfBoundsException", Cond.initialized "java/lang/IndexOutOfBoundsException", Cond.methodLink RX4 39 yJx4a65c_size_8abf5, Cond.instanceMethod yJx4a65c_size_8abf5, Cond.selects RJx4a65c yJx4a65c_size_8abf5 yJx4a65c_size_8abf5, Cond.initialized RJx4a65c, Cond.code yJx4a65c_size_8abf5 cJx4a65c_size_8abf5 1 (some .int), Cond.fieldLink RJx4a65c 48 "java/util/ArrayList" "size" "I", Cond.methodLink RX4 50 yJx4a65c_get_915e3, Cond.instanceMethod yJx4a65c_get_915e3, Cond.selects RJx4a65c yJx4a65c_get_915e3 yJx4a65c_get_915e3]
def wsL_alarmClosed_r2 : List Cond := [Cond.code yJx4a65c_get_915e3 cJx4a65c_get_915e3 2 (some (.object "java/lang/Object")), Cond.methodLink RJx4a65c 118 yJ15_checkIndex_7cf53, Cond.static yJ15_checkIndex_7cf53, Cond.initialized RJ15, Cond.code yJ15_checkIndex_7cf53 cJ15_checkIndex_7cf53 2 (some .int), Cond.methodLink RJ15 105 yJ3_checkIndex_8e157, Cond.static yJ3_checkIndex_8e157, Cond.initialized RJ3, Cond.code yJ3_checkIndex_8e157 cJ3_checkIndex_8e157 3 (some .int), Cond.methodLink RJx4a65c 123 yJx4a65c_elementData_915e3, Cond.instanceMethod yJx4a65c_elementData_915e3, Cond.selects RJx4a65c yJx4a65c_elementData_915e3 yJx4a65c_elementData_915e3, Cond.code yJx4a65c_elementData_915e3 cJx4a65c_elementData_915e3 2 (some (.object "java/lang/Object")), Cond.fieldLink RJx4a65c 9 "java/util/ArrayList" "elementData" "[Ljava/lang/Object;"]
def wsL_alarmClosed : List Cond := .codeWith yL_alarmClosed cL_alarmClosed 4 (some .int) [(0, 9, 12, 13)] :: ((wsL_alarmClosed_r1 ++ wsL_alarmClosed_r2) ++ wsX40 ++ wsX00 ++ wsJx4a65c0 ++ (vx_atS RX4 105 "java/lang/IndexOutOfBoundsException" ["java/lang/RuntimeException", "java/lang/Exception"]).filter goodWord)
def wsL_availability_r1 : List Cond := [Cond.classLink RL 13 "java/lang/IndexOutOfBoundsException", Cond.classLink RL 15 "java/lang/IllegalStateException", Cond.methodLink RL 85 yX4_availability, Cond.instanceMethod yX4_availability, Cond.selects RX4 yX4_availability yX4_availability, Cond.initialized RX4, Cond.code yX4_availability cX4_availability 3 (some .float), Cond.classLink RX4 43 "java/lang/IllegalStateException", Cond.initialized "java/lang/IllegalStateException", Cond.fieldLink RX4 16 "Probeweb" "checks" "Ljava/util/ArrayList;", Cond.classLink RX4 72 "Probeweb$Check", Cond.fieldLink RX4 161 "Probeweb$Check" "minutesCounted" "I", Cond.fieldLink RX4 166 "Probeweb$Check" "minutesUp" "I", Cond.methodLink RX4 77 yX4_requireCheck, Cond.instanceMethod yX4_requireCheck, Cond.selects RX4 yX4_requireCheck yX4_requireCheck, Cond.code yX4_requireCheck cX4_requireCheck 2 none, Cond.classLink RX4 101 "java/lang/IndexOutOfBoundsException", Cond.initialized "java/lang/IndexOutOfBoundsException", Cond.methodLink RX4 39 yJx4a65c_size_8abf5, Cond.instanceMethod yJx4a65c_size_8abf5, Cond.selects RJx4a65c yJx4a65c_size_8abf5 yJx4a65c_size_8abf5, Cond.initialized RJx4a65c, Cond.code yJx4a65c_size_8abf5 cJx4a65c_size_8abf5 1 (some .int)]
def wsL_availability_r2 : List Cond := [Cond.fieldLink RJx4a65c 48 "java/util/ArrayList" "size" "I", Cond.methodLink RX4 50 yJx4a65c_get_915e3, Cond.instanceMethod yJx4a65c_get_915e3, Cond.selects RJx4a65c yJx4a65c_get_915e3 yJx4a65c_get_915e3, Cond.code yJx4a65c_get_915e3 cJx4a65c_get_915e3 2 (some (.object "java/lang/Object")), Cond.methodLink RJx4a65c 118 yJ15_checkIndex_7cf53, Cond.static yJ15_checkIndex_7cf53, Cond.initialized RJ15, Cond.code yJ15_checkIndex_7cf53 cJ15_checkIndex_7cf53 2 (some .int), Cond.methodLink RJ15 105 yJ3_checkIndex_8e157, Cond.static yJ3_checkIndex_8e157, Cond.initialized RJ3, Cond.code yJ3_checkIndex_8e157 cJ3_checkIndex_8e157 3 (some .int), Cond.methodLink RJx4a65c 123 yJx4a65c_elementData_915e3, Cond.instanceMethod yJx4a65c_elementData_915e3, Cond.selects RJx4a65c yJx4a65c_elementData_915e3 yJx4a65c_elementData_915e3, Cond.code yJx4a65c_elementData_915e3 cJx4a65c_elementData_915e3 2 (some (.object "java/lang/Object")), Cond.fieldLink RJx4a65c 9 "java/util/ArrayList" "elementData" "[Ljava/lang/Object;"]
def wsL_availability : List Cond := .codeWith yL_availability cL_availability 4 (some .int) [(0, 9, 12, 13), (0, 9, 15, 15)] :: ((wsL_availability_r1 ++ wsL_availability_r2) ++ wsX40 ++ wsX10 ++ wsJx4a65c0 ++ (vx_atS RX4 47 "java/lang/IllegalStateException" ["java/lang/RuntimeException", "java/lang/Exception"]).filter goodWord ++ (vx_atS RX4 105 "java/lang/IndexOutOfBoundsException" ["java/lang/RuntimeException", "java/lang/Exception"]).filter goodWord)
abbrev vwCl : List vw_C := [(RJx4a65c, TJx4a65c, 3), (RX0, TX0, 3), (RX1, TX1, 13), (RX2, TX2, 4), (RX3, TX3, 3), (RX4, TX4, 7), (RX5, TX5, 28)]
end
section
theorem dX0_init_0 : decode cX0_init 0 = .ok (.aload_n 0, 1) := by decide +kernel
theorem dX0_init_1 : decode cX0_init 1 = .ok (.invokespecial 3, 3) := by decide +kernel
theorem dX0_init_4 : decode cX0_init 4 = .ok (.aload_n 0, 1) := by decide +kernel
theorem dX0_init_5 : decode cX0_init 5 = .ok (.iload_n 1, 1) := by decide +kernel
theorem dX0_init_6 : decode cX0_init 6 = .ok (.putfield 9, 3) := by decide +kernel
theorem dX0_init_9 : decode cX0_init 9 = .ok (.aload_n 0, 1) := by decide +kernel
theorem dX0_init_10 : decode cX0_init 10 = .ok (.iload_n 2, 1) := by decide +kernel
theorem dX0_init_11 : decode cX0_init 11 = .ok (.putfield 15, 3) := by decide +kernel
theorem dX0_init_14 : decode cX0_init 14 = .ok (.aload_n 0, 1) := by decide +kernel
theorem dX0_init_15 : decode cX0_init 15 = .ok (.iconst (-1), 1) := by decide +kernel
theorem dX0_init_16 : decode cX0_init 16 = .ok (.putfield 18, 3) := by decide +kernel
theorem dX0_init_19 : decode cX0_init 19 = .ok (.return_, 1) := by decide +kernel
theorem dX1_init_0 : decode cX1_init 0 = .ok (.aload_n 0, 1) := by decide +kernel
theorem dX1_init_1 : decode cX1_init 1 = .ok (.invokespecial 3, 3) := by decide +kernel
theorem dX1_init_4 : decode cX1_init 4 = .ok (.aload_n 0, 1) := by decide +kernel
theorem dX1_init_5 : decode cX1_init 5 = .ok (.iload_n 1, 1) := by decide +kernel
theorem dX1_init_6 : decode cX1_init 6 = .ok (.putfield 9, 3) := by decide +kernel
theorem dX1_init_9 : decode cX1_init 9 = .ok (.aload_n 0, 1) := by decide +kernel
theorem dX1_init_10 : decode cX1_init 10 = .ok (.iload_n 2, 1) := by decide +kernel
theorem dX1_init_11 : decode cX1_init 11 = .ok (.putfield 15, 3) := by decide +kernel
theorem dX1_init_14 : decode cX1_init 14 = .ok (.aload_n 0, 1) := by decide +kernel
theorem dX1_init_15 : decode cX1_init 15 = .ok (.iload_n 3, 1) := by decide +kernel
theorem dX1_init_16 : decode cX1_init 16 = .ok (.putfield 18, 3) := by decide +kernel
theorem dX1_init_19 : decode cX1_init 19 = .ok (.aload_n 0, 1) := by decide +kernel
theorem dX1_init_20 : decode cX1_init 20 = .ok (.iload 4, 2) := by decide +kernel
theorem dX1_init_22 : decode cX1_init 22 = .ok (.putfield 21, 3) := by decide +kernel
theorem dX1_init_25 : decode cX1_init 25 = .ok (.aload_n 0, 1) := by decide +kernel
theorem dX1_init_26 : decode cX1_init 26 = .ok (.iload 5, 2) := by decide +kernel
theorem dX1_init_28 : decode cX1_init 28 = .ok (.putfield 24, 3) := by decide +kernel
theorem dX1_init_31 : decode cX1_init 31 = .ok (.aload_n 0, 1) := by decide +kernel
theorem dX1_init_32 : decode cX1_init 32 = .ok (.bipush 6, 2) := by decide +kernel
theorem dX1_init_34 : decode cX1_init 34 = .ok (.newarray .int, 2) := by decide +kernel
theorem dX1_init_36 : decode cX1_init 36 = .ok (.putfield 27, 3) := by decide +kernel
theorem dX1_init_39 : decode cX1_init 39 = .ok (.aload_n 0, 1) := by decide +kernel
theorem dX1_init_40 : decode cX1_init 40 = .ok (.bipush 6, 2) := by decide +kernel
theorem dX1_init_42 : decode cX1_init 42 = .ok (.newarray .int, 2) := by decide +kernel
theorem dX1_init_44 : decode cX1_init 44 = .ok (.putfield 31, 3) := by decide +kernel
theorem dX1_init_47 : decode cX1_init 47 = .ok (.aload_n 0, 1) := by decide +kernel
theorem dX1_init_48 : decode cX1_init 48 = .ok (.bipush 6, 2) := by decide +kernel
theorem dX1_init_50 : decode cX1_init 50 = .ok (.newarray .int, 2) := by decide +kernel
theorem dX1_init_52 : decode cX1_init 52 = .ok (.putfield 34, 3) := by decide +kernel
theorem dX1_init_55 : decode cX1_init 55 = .ok (.return_, 1) := by decide +kernel
set_option maxRecDepth 20000 in
theorem ggX1_isDue_X1_nextMinuteFrom : GoodIn wsX1_isDue wsX1_nextMinuteFrom := goodIn_r _ [5, 6, 7, 8, 9, 10, 11, 12, 13, 14, 15, 16, 17, 18, 19, 20, 21, 22] (by decide +kernel) (by decide +kernel)
set_option maxRecDepth 20000 in
theorem gX1_isDue_X1_nextMinuteFrom : GoodIn wsX1_isDue (wsV RX1 37 RX1 yX1_nextMinuteFrom wsX1_nextMinuteFrom) := goodIn_app (goodIn_of _ (by decide +kernel)) ggX1_isDue_X1_nextMinuteFrom
theorem dX1_isDue_0 : decode cX1_isDue 0 = .ok (.aload_n 0, 1) := by decide +kernel
theorem dX1_isDue_1 : decode cX1_isDue 1 = .ok (.iload_n 1, 1) := by decide +kernel
theorem dX1_isDue_2 : decode cX1_isDue 2 = .ok (.iload_n 2, 1) := by decide +kernel
theorem dX1_isDue_3 : decode cX1_isDue 3 = .ok (.invokevirtual 37, 3) := by decide +kernel
theorem dX1_isDue_6 : decode cX1_isDue 6 = .ok (.iload_n 2, 1) := by decide +kernel
theorem dX1_isDue_7 : decode cX1_isDue 7 = .ok (.if_icmp .ne 7, 3) := by decide +kernel
theorem dX1_isDue_10 : decode cX1_isDue 10 = .ok (.iconst 1, 1) := by decide +kernel
theorem dX1_isDue_11 : decode cX1_isDue 11 = .ok (.goto 4, 3) := by decide +kernel
theorem dX1_isDue_14 : decode cX1_isDue 14 = .ok (.iconst 0, 1) := by decide +kernel
theorem dX1_isDue_15 : decode cX1_isDue 15 = .ok (.ireturn, 1) := by decide +kernel
theorem dX1_nextMinuteFrom_0 : decode cX1_nextMinuteFrom 0 = .ok (.aload_n 0, 1) := by decide +kernel
theorem dX1_nextMinuteFrom_1 : decode cX1_nextMinuteFrom 1 = .ok (.getfield 31, 3) := by decide +kernel
theorem dX1_nextMinuteFrom_4 : decode cX1_nextMinuteFrom 4 = .ok (.iload_n 1, 1) := by decide +kernel
theorem dX1_nextMinuteFrom_5 : decode cX1_nextMinuteFrom 5 = .ok (.iaload, 1) := by decide +kernel
theorem dX1_nextMinuteFrom_6 : decode cX1_nextMinuteFrom 6 = .ok (.ifCond .eq 10, 3) := by decide +kernel
theorem dX1_nextMinuteFrom_9 : decode cX1_nextMinuteFrom 9 = .ok (.aload_n 0, 1) := by decide +kernel
theorem dX1_nextMinuteFrom_10 : decode cX1_nextMinuteFrom 10 = .ok (.getfield 34, 3) := by decide +kernel
theorem dX1_nextMinuteFrom_13 : decode cX1_nextMinuteFrom 13 = .ok (.iload_n 1, 1) := by decide +kernel
theorem dX1_nextMinuteFrom_14 : decode cX1_nextMinuteFrom 14 = .ok (.iaload, 1) := by decide +kernel
theorem dX1_nextMinuteFrom_15 : decode cX1_nextMinuteFrom 15 = .ok (.ireturn, 1) := by decide +kernel
theorem dX1_nextMinuteFrom_16 : decode cX1_nextMinuteFrom 16 = .ok (.aload_n 0, 1) := by decide +kernel
theorem dX1_nextMinuteFrom_17 : decode cX1_nextMinuteFrom 17 = .ok (.getfield 18, 3) := by decide +kernel
theorem dX1_nextMinuteFrom_20 : decode cX1_nextMinuteFrom 20 = .ok (.iload_n 1, 1) := by decide +kernel
theorem dX1_nextMinuteFrom_21 : decode cX1_nextMinuteFrom 21 = .ok (.iadd, 1) := by decide +kernel
theorem dX1_nextMinuteFrom_22 : decode cX1_nextMinuteFrom 22 = .ok (.istore_n 3, 1) := by decide +kernel
theorem dX1_nextMinuteFrom_23 : decode cX1_nextMinuteFrom 23 = .ok (.iload_n 2, 1) := by decide +kernel
theorem dX1_nextMinuteFrom_24 : decode cX1_nextMinuteFrom 24 = .ok (.iload_n 3, 1) := by decide +kernel
theorem dX1_nextMinuteFrom_25 : decode cX1_nextMinuteFrom 25 = .ok (.if_icmp .gt 5, 3) := by decide +kernel
theorem dX1_nextMinuteFrom_28 : decode cX1_nextMinuteFrom 28 = .ok (.iload_n 3, 1) := by decide +kernel
theorem dX1_nextMinuteFrom_29 : decode cX1_nextMinuteFrom 29 = .ok (.ireturn, 1) := by decide +kernel
theorem dX1_nextMinuteFrom_30 : decode cX1_nextMinuteFrom 30 = .ok (.iload_n 2, 1) := by decide +kernel
theorem dX1_nextMinuteFrom_31 : decode cX1_nextMinuteFrom 31 = .ok (.iload_n 3, 1) := by decide +kernel
theorem dX1_nextMinuteFrom_32 : decode cX1_nextMinuteFrom 32 = .ok (.isub, 1) := by decide +kernel
theorem dX1_nextMinuteFrom_33 : decode cX1_nextMinuteFrom 33 = .ok (.aload_n 0, 1) := by decide +kernel
theorem dX1_nextMinuteFrom_34 : decode cX1_nextMinuteFrom 34 = .ok (.getfield 15, 3) := by decide +kernel
theorem dX1_nextMinuteFrom_37 : decode cX1_nextMinuteFrom 37 = .ok (.irem, 1) := by decide +kernel
theorem dX1_nextMinuteFrom_38 : decode cX1_nextMinuteFrom 38 = .ok (.istore 4, 2) := by decide +kernel
theorem dX1_nextMinuteFrom_40 : decode cX1_nextMinuteFrom 40 = .ok (.iload 4, 2) := by decide +kernel
theorem dX1_nextMinuteFrom_42 : decode cX1_nextMinuteFrom 42 = .ok (.ifCond .ne 7, 3) := by decide +kernel
theorem dX1_nextMinuteFrom_45 : decode cX1_nextMinuteFrom 45 = .ok (.iload_n 2, 1) := by decide +kernel
theorem dX1_nextMinuteFrom_46 : decode cX1_nextMinuteFrom 46 = .ok (.goto 12, 3) := by decide +kernel
theorem dX1_nextMinuteFrom_49 : decode cX1_nextMinuteFrom 49 = .ok (.iload_n 2, 1) := by decide +kernel
theorem dX1_nextMinuteFrom_50 : decode cX1_nextMinuteFrom 50 = .ok (.aload_n 0, 1) := by decide +kernel
theorem dX1_nextMinuteFrom_51 : decode cX1_nextMinuteFrom 51 = .ok (.getfield 15, 3) := by decide +kernel
theorem dX1_nextMinuteFrom_54 : decode cX1_nextMinuteFrom 54 = .ok (.iadd, 1) := by decide +kernel
theorem dX1_nextMinuteFrom_55 : decode cX1_nextMinuteFrom 55 = .ok (.iload 4, 2) := by decide +kernel
theorem dX1_nextMinuteFrom_57 : decode cX1_nextMinuteFrom 57 = .ok (.isub, 1) := by decide +kernel
theorem dX1_nextMinuteFrom_58 : decode cX1_nextMinuteFrom 58 = .ok (.ireturn, 1) := by decide +kernel
theorem dX1_takeSuccess_0 : decode cX1_takeSuccess 0 = .ok (.aload_n 0, 1) := by decide +kernel
theorem dX1_takeSuccess_1 : decode cX1_takeSuccess 1 = .ok (.getfield 31, 3) := by decide +kernel
theorem dX1_takeSuccess_4 : decode cX1_takeSuccess 4 = .ok (.iload_n 1, 1) := by decide +kernel
theorem dX1_takeSuccess_5 : decode cX1_takeSuccess 5 = .ok (.iconst 0, 1) := by decide +kernel
theorem dX1_takeSuccess_6 : decode cX1_takeSuccess 6 = .ok (.iastore, 1) := by decide +kernel
theorem dX1_takeSuccess_7 : decode cX1_takeSuccess 7 = .ok (.aload_n 0, 1) := by decide +kernel
theorem dX1_takeSuccess_8 : decode cX1_takeSuccess 8 = .ok (.getfield 27, 3) := by decide +kernel
theorem dX1_takeSuccess_11 : decode cX1_takeSuccess 11 = .ok (.iload_n 1, 1) := by decide +kernel
theorem dX1_takeSuccess_12 : decode cX1_takeSuccess 12 = .ok (.iconst 1, 1) := by decide +kernel
theorem dX1_takeSuccess_13 : decode cX1_takeSuccess 13 = .ok (.iastore, 1) := by decide +kernel
theorem dX1_takeSuccess_14 : decode cX1_takeSuccess 14 = .ok (.return_, 1) := by decide +kernel
theorem dX1_takeFailure_0 : decode cX1_takeFailure 0 = .ok (.aload_n 0, 1) := by decide +kernel
theorem dX1_takeFailure_1 : decode cX1_takeFailure 1 = .ok (.getfield 31, 3) := by decide +kernel
theorem dX1_takeFailure_4 : decode cX1_takeFailure 4 = .ok (.iload_n 1, 1) := by decide +kernel
theorem dX1_takeFailure_5 : decode cX1_takeFailure 5 = .ok (.iaload, 1) := by decide +kernel
theorem dX1_takeFailure_6 : decode cX1_takeFailure 6 = .ok (.iconst 1, 1) := by decide +kernel
theorem dX1_takeFailure_7 : decode cX1_takeFailure 7 = .ok (.iadd, 1) := by decide +kernel
theorem dX1_takeFailure_8 : decode cX1_takeFailure 8 = .ok (.istore_n 3, 1) := by decide +kernel
theorem dX1_takeFailure_9 : decode cX1_takeFailure 9 = .ok (.aload_n 0, 1) := by decide +kernel
theorem dX1_takeFailure_10 : decode cX1_takeFailure 10 = .ok (.getfield 31, 3) := by decide +kernel
theorem dX1_takeFailure_13 : decode cX1_takeFailure 13 = .ok (.iload_n 1, 1) := by decide +kernel
theorem dX1_takeFailure_14 : decode cX1_takeFailure 14 = .ok (.iconst 0, 1) := by decide +kernel
theorem dX1_takeFailure_15 : decode cX1_takeFailure 15 = .ok (.iastore, 1) := by decide +kernel
theorem dX1_takeFailure_16 : decode cX1_takeFailure 16 = .ok (.aload_n 0, 1) := by decide +kernel
theorem dX1_takeFailure_17 : decode cX1_takeFailure 17 = .ok (.getfield 27, 3) := by decide +kernel
theorem dX1_takeFailure_20 : decode cX1_takeFailure 20 = .ok (.iload_n 1, 1) := by decide +kernel
theorem dX1_takeFailure_21 : decode cX1_takeFailure 21 = .ok (.iaload, 1) := by decide +kernel
theorem dX1_takeFailure_22 : decode cX1_takeFailure 22 = .ok (.iconst 2, 1) := by decide +kernel
theorem dX1_takeFailure_23 : decode cX1_takeFailure 23 = .ok (.if_icmp .ne 4, 3) := by decide +kernel
theorem dX1_takeFailure_26 : decode cX1_takeFailure 26 = .ok (.return_, 1) := by decide +kernel
theorem dX1_takeFailure_27 : decode cX1_takeFailure 27 = .ok (.iload_n 3, 1) := by decide +kernel
theorem dX1_takeFailure_28 : decode cX1_takeFailure 28 = .ok (.aload_n 0, 1) := by decide +kernel
theorem dX1_takeFailure_29 : decode cX1_takeFailure 29 = .ok (.getfield 21, 3) := by decide +kernel
theorem dX1_takeFailure_32 : decode cX1_takeFailure 32 = .ok (.if_icmp .le 11, 3) := by decide +kernel
theorem dX1_takeFailure_35 : decode cX1_takeFailure 35 = .ok (.aload_n 0, 1) := by decide +kernel
theorem dX1_takeFailure_36 : decode cX1_takeFailure 36 = .ok (.getfield 27, 3) := by decide +kernel
theorem dX1_takeFailure_39 : decode cX1_takeFailure 39 = .ok (.iload_n 1, 1) := by decide +kernel
theorem dX1_takeFailure_40 : decode cX1_takeFailure 40 = .ok (.iconst 2, 1) := by decide +kernel
theorem dX1_takeFailure_41 : decode cX1_takeFailure 41 = .ok (.iastore, 1) := by decide +kernel
theorem dX1_takeFailure_42 : decode cX1_takeFailure 42 = .ok (.return_, 1) := by decide +kernel
theorem dX1_takeFailure_43 : decode cX1_takeFailure 43 = .ok (.aload_n 0, 1) := by decide +kernel
theorem dX1_takeFailure_44 : decode cX1_takeFailure 44 = .ok (.getfield 31, 3) := by decide +kernel
theorem dX1_takeFailure_47 : decode cX1_takeFailure 47 = .ok (.iload_n 1, 1) := by decide +kernel
theorem dX1_takeFailure_48 : decode cX1_takeFailure 48 = .ok (.iload_n 3, 1) := by decide +kernel
theorem dX1_takeFailure_49 : decode cX1_takeFailure 49 = .ok (.iastore, 1) := by decide +kernel
theorem dX1_takeFailure_50 : decode cX1_takeFailure 50 = .ok (.aload_n 0, 1) := by decide +kernel
theorem dX1_takeFailure_51 : decode cX1_takeFailure 51 = .ok (.getfield 34, 3) := by decide +kernel
theorem dX1_takeFailure_54 : decode cX1_takeFailure 54 = .ok (.iload_n 1, 1) := by decide +kernel
theorem dX1_takeFailure_55 : decode cX1_takeFailure 55 = .ok (.iload_n 2, 1) := by decide +kernel
theorem dX1_takeFailure_56 : decode cX1_takeFailure 56 = .ok (.iconst 1, 1) := by decide +kernel
theorem dX1_takeFailure_57 : decode cX1_takeFailure 57 = .ok (.iadd, 1) := by decide +kernel
theorem dX1_takeFailure_58 : decode cX1_takeFailure 58 = .ok (.iconst 3, 1) := by decide +kernel
theorem dX1_takeFailure_59 : decode cX1_takeFailure 59 = .ok (.aload_n 0, 1) := by decide +kernel
theorem dX1_takeFailure_60 : decode cX1_takeFailure 60 = .ok (.getfield 9, 3) := by decide +kernel
theorem dX1_takeFailure_63 : decode cX1_takeFailure 63 = .ok (.imul, 1) := by decide +kernel
theorem dX1_takeFailure_64 : decode cX1_takeFailure 64 = .ok (.iconst 5, 1) := by decide +kernel
theorem dX1_takeFailure_65 : decode cX1_takeFailure 65 = .ok (.iload_n 1, 1) := by decide +kernel
theorem dX1_takeFailure_66 : decode cX1_takeFailure 66 = .ok (.imul, 1) := by decide +kernel
theorem dX1_takeFailure_67 : decode cX1_takeFailure 67 = .ok (.iadd, 1) := by decide +kernel
theorem dX1_takeFailure_68 : decode cX1_takeFailure 68 = .ok (.bipush 7, 2) := by decide +kernel
theorem dX1_takeFailure_70 : decode cX1_takeFailure 70 = .ok (.iload_n 3, 1) := by decide +kernel
theorem dX1_takeFailure_71 : decode cX1_takeFailure 71 = .ok (.imul, 1) := by decide +kernel
theorem dX1_takeFailure_72 : decode cX1_takeFailure 72 = .ok (.iadd, 1) := by decide +kernel
theorem dX1_takeFailure_73 : decode cX1_takeFailure 73 = .ok (.iconst 4, 1) := by decide +kernel
theorem dX1_takeFailure_74 : decode cX1_takeFailure 74 = .ok (.irem, 1) := by decide +kernel
theorem dX1_takeFailure_75 : decode cX1_takeFailure 75 = .ok (.iadd, 1) := by decide +kernel
theorem dX1_takeFailure_76 : decode cX1_takeFailure 76 = .ok (.iastore, 1) := by decide +kernel
theorem dX1_takeFailure_77 : decode cX1_takeFailure 77 = .ok (.return_, 1) := by decide +kernel
set_option maxRecDepth 20000 in
theorem ggX1_judge_X4_holds : GoodIn wsX1_judge wsX4_holds := goodIn_r _ [6] (by decide +kernel) (by decide +kernel)
set_option maxRecDepth 20000 in
theorem gX1_judge_X4_holds_n41 : GoodIn wsX1_judge (wsX4_holds) := ggX1_judge_X4_holds
set_option maxRecDepth 20000 in
theorem ggX1_judge_J6_bitCount_0f7a4 : GoodIn wsX1_judge wsJ6_bitCount_0f7a4 := goodIn_r _ [10, 11, 12, 13] (by decide +kernel) (by decide +kernel)
set_option maxRecDepth 20000 in
theorem gX1_judge_J6_bitCount_0f7a4 : GoodIn wsX1_judge (va_wsS RX1 45 yJ6_bitCount_0f7a4 wsJ6_bitCount_0f7a4) := goodIn_app (goodIn_of _ (by decide +kernel)) ggX1_judge_J6_bitCount_0f7a4
theorem dX1_judge_0 : decode cX1_judge 0 = .ok (.iconst 0, 1) := by decide +kernel
theorem dX1_judge_1 : decode cX1_judge 1 = .ok (.istore_n 2, 1) := by decide +kernel
theorem dX1_judge_2 : decode cX1_judge 2 = .ok (.iconst 0, 1) := by decide +kernel
theorem dX1_judge_3 : decode cX1_judge 3 = .ok (.istore_n 3, 1) := by decide +kernel
theorem dX1_judge_4 : decode cX1_judge 4 = .ok (.iload_n 3, 1) := by decide +kernel
theorem dX1_judge_5 : decode cX1_judge 5 = .ok (.bipush 6, 2) := by decide +kernel
theorem dX1_judge_7 : decode cX1_judge 7 = .ok (.if_icmp .ge 30, 3) := by decide +kernel
theorem dX1_judge_10 : decode cX1_judge 10 = .ok (.iload_n 1, 1) := by decide +kernel
theorem dX1_judge_11 : decode cX1_judge 11 = .ok (.iload_n 3, 1) := by decide +kernel
theorem dX1_judge_12 : decode cX1_judge 12 = .ok (.invokestatic 41, 3) := by decide +kernel
theorem dX1_judge_15 : decode cX1_judge 15 = .ok (.ifCond .eq 16, 3) := by decide +kernel
theorem dX1_judge_18 : decode cX1_judge 18 = .ok (.aload_n 0, 1) := by decide +kernel
theorem dX1_judge_19 : decode cX1_judge 19 = .ok (.getfield 27, 3) := by decide +kernel
theorem dX1_judge_22 : decode cX1_judge 22 = .ok (.iload_n 3, 1) := by decide +kernel
theorem dX1_judge_23 : decode cX1_judge 23 = .ok (.iaload, 1) := by decide +kernel
theorem dX1_judge_24 : decode cX1_judge 24 = .ok (.iconst 2, 1) := by decide +kernel
theorem dX1_judge_25 : decode cX1_judge 25 = .ok (.if_icmp .ne 6, 3) := by decide +kernel
theorem dX1_judge_28 : decode cX1_judge 28 = .ok (.iinc 2 1, 3) := by decide +kernel
theorem dX1_judge_31 : decode cX1_judge 31 = .ok (.iinc 3 1, 3) := by decide +kernel
theorem dX1_judge_34 : decode cX1_judge 34 = .ok (.goto (-30), 3) := by decide +kernel
theorem dX1_judge_37 : decode cX1_judge 37 = .ok (.iload_n 1, 1) := by decide +kernel
theorem dX1_judge_38 : decode cX1_judge 38 = .ok (.invokestatic 45, 3) := by decide +kernel
theorem dX1_judge_41 : decode cX1_judge 41 = .ok (.aload_n 0, 1) := by decide +kernel
theorem dX1_judge_42 : decode cX1_judge 42 = .ok (.getfield 24, 3) := by decide +kernel
theorem dX1_judge_45 : decode cX1_judge 45 = .ok (.if_icmp .ge 11, 3) := by decide +kernel
theorem dX1_judge_48 : decode cX1_judge 48 = .ok (.aload_n 0, 1) := by decide +kernel
theorem dX1_judge_49 : decode cX1_judge 49 = .ok (.iconst 0, 1) := by decide +kernel
theorem dX1_judge_50 : decode cX1_judge 50 = .ok (.putfield 51, 3) := by decide +kernel
theorem dX1_judge_53 : decode cX1_judge 53 = .ok (.goto 20, 3) := by decide +kernel
theorem dX1_judge_56 : decode cX1_judge 56 = .ok (.aload_n 0, 1) := by decide +kernel
theorem dX1_judge_57 : decode cX1_judge 57 = .ok (.iload_n 2, 1) := by decide +kernel
theorem dX1_judge_58 : decode cX1_judge 58 = .ok (.aload_n 0, 1) := by decide +kernel
theorem dX1_judge_59 : decode cX1_judge 59 = .ok (.getfield 24, 3) := by decide +kernel
theorem dX1_judge_62 : decode cX1_judge 62 = .ok (.if_icmp .lt 7, 3) := by decide +kernel
theorem dX1_judge_65 : decode cX1_judge 65 = .ok (.iconst 2, 1) := by decide +kernel
theorem dX1_judge_66 : decode cX1_judge 66 = .ok (.goto 4, 3) := by decide +kernel
theorem dX1_judge_69 : decode cX1_judge 69 = .ok (.iconst 1, 1) := by decide +kernel
theorem dX1_judge_70 : decode cX1_judge 70 = .ok (.putfield 51, 3) := by decide +kernel
theorem dX1_judge_73 : decode cX1_judge 73 = .ok (.return_, 1) := by decide +kernel
set_option maxRecDepth 20000 in
theorem ggX2_init_X4_withRegion : GoodIn wsX2_init wsX4_withRegion := goodIn_r _ [8] (by decide +kernel) (by decide +kernel)
set_option maxRecDepth 20000 in
theorem gX2_init_X4_withRegion_n13 : GoodIn wsX2_init (wsX4_withRegion) := ggX2_init_X4_withRegion
theorem dX2_init_0 : decode cX2_init 0 = .ok (.aload_n 0, 1) := by decide +kernel
theorem dX2_init_1 : decode cX2_init 1 = .ok (.invokespecial 1, 3) := by decide +kernel
theorem dX2_init_4 : decode cX2_init 4 = .ok (.aload_n 0, 1) := by decide +kernel
theorem dX2_init_5 : decode cX2_init 5 = .ok (.iload_n 1, 1) := by decide +kernel
theorem dX2_init_6 : decode cX2_init 6 = .ok (.putfield 7, 3) := by decide +kernel
theorem dX2_init_9 : decode cX2_init 9 = .ok (.aload_n 0, 1) := by decide +kernel
theorem dX2_init_10 : decode cX2_init 10 = .ok (.iload_n 2, 1) := by decide +kernel
theorem dX2_init_11 : decode cX2_init 11 = .ok (.iload_n 1, 1) := by decide +kernel
theorem dX2_init_12 : decode cX2_init 12 = .ok (.iconst 1, 1) := by decide +kernel
theorem dX2_init_13 : decode cX2_init 13 = .ok (.invokestatic 13, 3) := by decide +kernel
theorem dX2_init_16 : decode cX2_init 16 = .ok (.putfield 19, 3) := by decide +kernel
theorem dX2_init_19 : decode cX2_init 19 = .ok (.return_, 1) := by decide +kernel
theorem dX3_init_0 : decode cX3_init 0 = .ok (.aload_n 0, 1) := by decide +kernel
theorem dX3_init_1 : decode cX3_init 1 = .ok (.invokespecial 1, 3) := by decide +kernel
theorem dX3_init_4 : decode cX3_init 4 = .ok (.aload_n 0, 1) := by decide +kernel
theorem dX3_init_5 : decode cX3_init 5 = .ok (.iload_n 1, 1) := by decide +kernel
theorem dX3_init_6 : decode cX3_init 6 = .ok (.putfield 7, 3) := by decide +kernel
theorem dX3_init_9 : decode cX3_init 9 = .ok (.aload_n 0, 1) := by decide +kernel
theorem dX3_init_10 : decode cX3_init 10 = .ok (.iload_n 2, 1) := by decide +kernel
theorem dX3_init_11 : decode cX3_init 11 = .ok (.putfield 13, 3) := by decide +kernel
theorem dX3_init_14 : decode cX3_init 14 = .ok (.aload_n 0, 1) := by decide +kernel
theorem dX3_init_15 : decode cX3_init 15 = .ok (.iload_n 3, 1) := by decide +kernel
theorem dX3_init_16 : decode cX3_init 16 = .ok (.putfield 16, 3) := by decide +kernel
theorem dX3_init_19 : decode cX3_init 19 = .ok (.return_, 1) := by decide +kernel
theorem dX3_contains_0 : decode cX3_contains 0 = .ok (.aload_n 0, 1) := by decide +kernel
theorem dX3_contains_1 : decode cX3_contains 1 = .ok (.getfield 13, 3) := by decide +kernel
theorem dX3_contains_4 : decode cX3_contains 4 = .ok (.iload_n 1, 1) := by decide +kernel
theorem dX3_contains_5 : decode cX3_contains 5 = .ok (.if_icmp .gt 15, 3) := by decide +kernel
theorem dX3_contains_8 : decode cX3_contains 8 = .ok (.iload_n 1, 1) := by decide +kernel
theorem dX3_contains_9 : decode cX3_contains 9 = .ok (.aload_n 0, 1) := by decide +kernel
theorem dX3_contains_10 : decode cX3_contains 10 = .ok (.getfield 16, 3) := by decide +kernel
theorem dX3_contains_13 : decode cX3_contains 13 = .ok (.if_icmp .gt 7, 3) := by decide +kernel
theorem dX3_contains_16 : decode cX3_contains 16 = .ok (.iconst 1, 1) := by decide +kernel
theorem dX3_contains_17 : decode cX3_contains 17 = .ok (.goto 4, 3) := by decide +kernel
theorem dX3_contains_20 : decode cX3_contains 20 = .ok (.iconst 0, 1) := by decide +kernel
theorem dX3_contains_21 : decode cX3_contains 21 = .ok (.ireturn, 1) := by decide +kernel
theorem dX3_endAfter_0 : decode cX3_endAfter 0 = .ok (.aload_n 0, 1) := by decide +kernel
theorem dX3_endAfter_1 : decode cX3_endAfter 1 = .ok (.aload_n 0, 1) := by decide +kernel
theorem dX3_endAfter_2 : decode cX3_endAfter 2 = .ok (.getfield 16, 3) := by decide +kernel
theorem dX3_endAfter_5 : decode cX3_endAfter 5 = .ok (.iload_n 1, 1) := by decide +kernel
theorem dX3_endAfter_6 : decode cX3_endAfter 6 = .ok (.invokestatic 19, 3) := by decide +kernel
theorem dX3_endAfter_9 : decode cX3_endAfter 9 = .ok (.putfield 16, 3) := by decide +kernel
theorem dX3_endAfter_12 : decode cX3_endAfter 12 = .ok (.return_, 1) := by decide +kernel
theorem dX3_length_0 : decode cX3_length 0 = .ok (.iconst 0, 1) := by decide +kernel
theorem dX3_length_1 : decode cX3_length 1 = .ok (.aload_n 0, 1) := by decide +kernel
theorem dX3_length_2 : decode cX3_length 2 = .ok (.getfield 16, 3) := by decide +kernel
theorem dX3_length_5 : decode cX3_length 5 = .ok (.aload_n 0, 1) := by decide +kernel
theorem dX3_length_6 : decode cX3_length 6 = .ok (.getfield 13, 3) := by decide +kernel
theorem dX3_length_9 : decode cX3_length 9 = .ok (.isub, 1) := by decide +kernel
theorem dX3_length_10 : decode cX3_length 10 = .ok (.iconst 1, 1) := by decide +kernel
theorem dX3_length_11 : decode cX3_length 11 = .ok (.iadd, 1) := by decide +kernel
theorem dX3_length_12 : decode cX3_length 12 = .ok (.invokestatic 25, 3) := by decide +kernel
theorem dX3_length_15 : decode cX3_length 15 = .ok (.ireturn, 1) := by decide +kernel
set_option maxRecDepth 20000 in
theorem ggX4_init_Jx4a65c_init_da8c8 : GoodIn wsX4_init wsJx4a65c_init_da8c8 := goodIn_r _ [16, 17, 18, 19, 20, 21, 22, 23, 24, 25, 26, 27, 28, 2, 3, 29, 30, 31] (by decide +kernel) (by decide +kernel)
set_option maxRecDepth 20000 in
theorem gX4_init_Jx4a65c_init_da8c8 : GoodIn wsX4_init (wsJx4a65c_init_da8c8) := ggX4_init_Jx4a65c_init_da8c8
theorem dX4_init_0 : decode cX4_init 0 = .ok (.aload_n 0, 1) := by decide +kernel
theorem dX4_init_1 : decode cX4_init 1 = .ok (.invokespecial 1, 3) := by decide +kernel
theorem dX4_init_4 : decode cX4_init 4 = .ok (.aload_n 0, 1) := by decide +kernel
theorem dX4_init_5 : decode cX4_init 5 = .ok (.new 7, 3) := by decide +kernel
theorem dX4_init_8 : decode cX4_init 8 = .ok (.dup, 1) := by decide +kernel
theorem dX4_init_9 : decode cX4_init 9 = .ok (.invokespecial 9, 3) := by decide +kernel
theorem dX4_init_12 : decode cX4_init 12 = .ok (.putfield 10, 3) := by decide +kernel
theorem dX4_init_15 : decode cX4_init 15 = .ok (.aload_n 0, 1) := by decide +kernel
theorem dX4_init_16 : decode cX4_init 16 = .ok (.new 7, 3) := by decide +kernel
theorem dX4_init_19 : decode cX4_init 19 = .ok (.dup, 1) := by decide +kernel
theorem dX4_init_20 : decode cX4_init 20 = .ok (.invokespecial 9, 3) := by decide +kernel
theorem dX4_init_23 : decode cX4_init 23 = .ok (.putfield 16, 3) := by decide +kernel
theorem dX4_init_26 : decode cX4_init 26 = .ok (.aload_n 0, 1) := by decide +kernel
theorem dX4_init_27 : decode cX4_init 27 = .ok (.new 7, 3) := by decide +kernel
theorem dX4_init_30 : decode cX4_init 30 = .ok (.dup, 1) := by decide +kernel
theorem dX4_init_31 : decode cX4_init 31 = .ok (.invokespecial 9, 3) := by decide +kernel
theorem dX4_init_34 : decode cX4_init 34 = .ok (.putfield 19, 3) := by decide +kernel
theorem dX4_init_37 : decode cX4_init 37 = .ok (.aload_n 0, 1) := by decide +kernel
theorem dX4_init_38 : decode cX4_init 38 = .ok (.new 7, 3) := by decide +kernel
theorem dX4_init_41 : decode cX4_init 41 = .ok (.dup, 1) := by decide +kernel
theorem dX4_init_42 : decode cX4_init 42 = .ok (.invokespecial 9, 3) := by decide +kernel
theorem dX4_init_45 : decode cX4_init 45 = .ok (.putfield 22, 3) := by decide +kernel
theorem dX4_init_48 : decode cX4_init 48 = .ok (.aload_n 0, 1) := by decide +kernel
theorem dX4_init_49 : decode cX4_init 49 = .ok (.iconst 0, 1) := by decide +kernel
theorem dX4_init_50 : decode cX4_init 50 = .ok (.putfield 25, 3) := by decide +kernel
theorem dX4_init_53 : decode cX4_init 53 = .ok (.aload_n 0, 1) := by decide +kernel
theorem dX4_init_54 : decode cX4_init 54 = .ok (.iconst 0, 1) := by decide +kernel
theorem dX4_init_55 : decode cX4_init 55 = .ok (.putfield 29, 3) := by decide +kernel
theorem dX4_init_58 : decode cX4_init 58 = .ok (.aload_n 0, 1) := by decide +kernel
theorem dX4_init_59 : decode cX4_init 59 = .ok (.iconst 0, 1) := by decide +kernel
theorem dX4_init_60 : decode cX4_init 60 = .ok (.putfield 32, 3) := by decide +kernel
theorem dX4_init_63 : decode cX4_init 63 = .ok (.return_, 1) := by decide +kernel
set_option maxRecDepth 20000 in
theorem ggX4_addRegion_X4_requireRegion : GoodIn wsX4_addRegion wsX4_requireRegion := goodIn_ca (goodIn_r _ [13, 14, 15, 3, 16, 17, 18, 19, 20, 21, 102, 103, 104, 105, 106, 107, 108, 113, 114, 115] (by decide +kernel) (by decide +kernel)) (goodIn_sub (fun _ h => List.mem_cons_of_mem _ (List.mem_append_right _ h)) (by decide +kernel))
set_option maxRecDepth 20000 in
theorem gX4_addRegion_X4_requireRegion : GoodIn wsX4_addRegion (wsV RX4 35 RX4 yX4_requireRegion wsX4_requireRegion) := goodIn_app (goodIn_of _ (by decide +kernel)) ggX4_addRegion_X4_requireRegion
set_option maxRecDepth 20000 in
theorem ggX4_addRegion_Jx4a65c_size_8abf5 : GoodIn wsX4_addRegion wsJx4a65c_size_8abf5 := goodIn_r _ [20, 21, 113, 114, 115] (by decide +kernel) (by decide +kernel)
set_option maxRecDepth 20000 in
theorem gX4_addRegion_Jx4a65c_size_8abf5 : GoodIn wsX4_addRegion (wsV RX4 39 RJx4a65c yJx4a65c_size_8abf5 wsJx4a65c_size_8abf5) := goodIn_app (goodIn_of _ (by decide +kernel)) ggX4_addRegion_Jx4a65c_size_8abf5
set_option maxRecDepth 20000 in
theorem ggX4_addRegion_Jx4a65c_get_915e3 : GoodIn wsX4_addRegion wsJx4a65c_get_915e3 := goodIn_r _ [25, 21, 26, 27, 28, 29, 30, 31, 32, 33, 34, 35, 36, 19, 37, 38, 113, 114, 115] (by decide +kernel) (by decide +kernel)
set_option maxRecDepth 20000 in
theorem gX4_addRegion_Jx4a65c_get_915e3 : GoodIn wsX4_addRegion (wsV RX4 50 RJx4a65c yJx4a65c_get_915e3 wsJx4a65c_get_915e3) := goodIn_app (goodIn_of _ (by decide +kernel)) ggX4_addRegion_Jx4a65c_get_915e3
set_option maxRecDepth 20000 in
theorem ggX4_addRegion_X2_init : GoodIn wsX4_addRegion wsX2_init := goodIn_r _ [41, 42, 43, 44, 45, 46, 47, 12, 48, 109, 110, 111, 112] (by decide +kernel) (by decide +kernel)
set_option maxRecDepth 20000 in
theorem gX4_addRegion_X2_init : GoodIn wsX4_addRegion (wsX2_init) := ggX4_addRegion_X2_init
set_option maxRecDepth 20000 in
theorem ggX4_addRegion_Jx4a65c_add_9ea2d : GoodIn wsX4_addRegion wsJx4a65c_add_9ea2d := goodIn_r _ [52, 53, 54, 38, 21, 55, 56, 57, 19, 58, 59, 60, 61, 62, 63, 64, 65, 66, 67, 68, 69, 70, 71, 72, 73, 74, 75, 76, 77, 78, 79, 80, 81, 82, 83, 84, 85, 86, 87, 88, 89, 90, 91, 92, 93, 94, 95, 96, 97, 98, 99, 100, 101, 113, 114, 115] (by decide +kernel) (by decide +kernel)
set_option maxRecDepth 20000 in
theorem gX4_addRegion_Jx4a65c_add_9ea2d : GoodIn wsX4_addRegion (wsV RX4 62 RJx4a65c yJx4a65c_add_9ea2d wsJx4a65c_add_9ea2d) := goodIn_app (goodIn_of _ (by decide +kernel)) ggX4_addRegion_Jx4a65c_add_9ea2d
theorem dX4_addRegion_0 : decode cX4_addRegion 0 = .ok (.iload_n 1, 1) := by decide +kernel
theorem dX4_addRegion_1 : decode cX4_addRegion 1 = .ok (.iconst (-1), 1) := by decide +kernel
theorem dX4_addRegion_2 : decode cX4_addRegion 2 = .ok (.if_icmp .eq 8, 3) := by decide +kernel
theorem dX4_addRegion_5 : decode cX4_addRegion 5 = .ok (.aload_n 0, 1) := by decide +kernel
theorem dX4_addRegion_6 : decode cX4_addRegion 6 = .ok (.iload_n 1, 1) := by decide +kernel
theorem dX4_addRegion_7 : decode cX4_addRegion 7 = .ok (.invokevirtual 35, 3) := by decide +kernel
theorem dX4_addRegion_10 : decode cX4_addRegion 10 = .ok (.aload_n 0, 1) := by decide +kernel
theorem dX4_addRegion_11 : decode cX4_addRegion 11 = .ok (.getfield 10, 3) := by decide +kernel
theorem dX4_addRegion_14 : decode cX4_addRegion 14 = .ok (.invokevirtual 39, 3) := by decide +kernel
theorem dX4_addRegion_17 : decode cX4_addRegion 17 = .ok (.bipush 6, 2) := by decide +kernel
theorem dX4_addRegion_19 : decode cX4_addRegion 19 = .ok (.if_icmp .lt 13, 3) := by decide +kernel
theorem dX4_addRegion_22 : decode cX4_addRegion 22 = .ok (.new 43, 3) := by decide +kernel
theorem dX4_addRegion_25 : decode cX4_addRegion 25 = .ok (.dup, 1) := by decide +kernel
theorem dX4_addRegion_26 : decode cX4_addRegion 26 = .ok (.ldc 45, 2) := by decide +kernel
theorem dX4_addRegion_28 : decode cX4_addRegion 28 = .ok (.invokespecial 47, 3) := by decide +kernel
theorem dX4_addRegion_31 : decode cX4_addRegion 31 = .ok (.athrow, 1) := by decide +kernel
theorem dX4_addRegion_32 : decode cX4_addRegion 32 = .ok (.aload_n 0, 1) := by decide +kernel
theorem dX4_addRegion_33 : decode cX4_addRegion 33 = .ok (.getfield 10, 3) := by decide +kernel
theorem dX4_addRegion_36 : decode cX4_addRegion 36 = .ok (.invokevirtual 39, 3) := by decide +kernel
theorem dX4_addRegion_39 : decode cX4_addRegion 39 = .ok (.istore_n 2, 1) := by decide +kernel
theorem dX4_addRegion_40 : decode cX4_addRegion 40 = .ok (.iload_n 1, 1) := by decide +kernel
theorem dX4_addRegion_41 : decode cX4_addRegion 41 = .ok (.iconst (-1), 1) := by decide +kernel
theorem dX4_addRegion_42 : decode cX4_addRegion 42 = .ok (.if_icmp .ne 7, 3) := by decide +kernel
theorem dX4_addRegion_45 : decode cX4_addRegion 45 = .ok (.iconst 0, 1) := by decide +kernel
theorem dX4_addRegion_46 : decode cX4_addRegion 46 = .ok (.goto 17, 3) := by decide +kernel
theorem dX4_addRegion_49 : decode cX4_addRegion 49 = .ok (.aload_n 0, 1) := by decide +kernel
theorem dX4_addRegion_50 : decode cX4_addRegion 50 = .ok (.getfield 10, 3) := by decide +kernel
theorem dX4_addRegion_53 : decode cX4_addRegion 53 = .ok (.iload_n 1, 1) := by decide +kernel
theorem dX4_addRegion_54 : decode cX4_addRegion 54 = .ok (.invokevirtual 50, 3) := by decide +kernel
theorem dX4_addRegion_57 : decode cX4_addRegion 57 = .ok (.checkcast 54, 3) := by decide +kernel
theorem dX4_addRegion_60 : decode cX4_addRegion 60 = .ok (.getfield 56, 3) := by decide +kernel
theorem dX4_addRegion_63 : decode cX4_addRegion 63 = .ok (.istore_n 3, 1) := by decide +kernel
theorem dX4_addRegion_64 : decode cX4_addRegion 64 = .ok (.aload_n 0, 1) := by decide +kernel
theorem dX4_addRegion_65 : decode cX4_addRegion 65 = .ok (.getfield 10, 3) := by decide +kernel
theorem dX4_addRegion_68 : decode cX4_addRegion 68 = .ok (.new 54, 3) := by decide +kernel
theorem dX4_addRegion_71 : decode cX4_addRegion 71 = .ok (.dup, 1) := by decide +kernel
theorem dX4_addRegion_72 : decode cX4_addRegion 72 = .ok (.iload_n 2, 1) := by decide +kernel
theorem dX4_addRegion_73 : decode cX4_addRegion 73 = .ok (.iload_n 3, 1) := by decide +kernel
theorem dX4_addRegion_74 : decode cX4_addRegion 74 = .ok (.invokespecial 59, 3) := by decide +kernel
theorem dX4_addRegion_77 : decode cX4_addRegion 77 = .ok (.invokevirtual 62, 3) := by decide +kernel
theorem dX4_addRegion_80 : decode cX4_addRegion 80 = .ok (.pop, 1) := by decide +kernel
theorem dX4_addRegion_81 : decode cX4_addRegion 81 = .ok (.iload_n 2, 1) := by decide +kernel
theorem dX4_addRegion_82 : decode cX4_addRegion 82 = .ok (.ireturn, 1) := by decide +kernel
set_option maxRecDepth 20000 in
theorem ggX4_addCheck_X4_requireRange : GoodIn wsX4_addCheck wsX4_requireRange := goodIn_ca (goodIn_r _ [10, 11, 12] (by decide +kernel) (by decide +kernel)) (goodIn_sub (fun _ h => List.mem_cons_of_mem _ (List.mem_append_right _ h)) (by decide +kernel))
set_option maxRecDepth 20000 in
theorem gX4_addCheck_X4_requireRange : GoodIn wsX4_addCheck (va_wsS RX4 66 yX4_requireRange wsX4_requireRange) := goodIn_app (goodIn_of _ (by decide +kernel)) ggX4_addCheck_X4_requireRange
set_option maxRecDepth 20000 in
theorem ggX4_addCheck_Jx4a65c_size_8abf5 : GoodIn wsX4_addCheck wsJx4a65c_size_8abf5 := goodIn_r _ [17, 18, 108, 109, 110] (by decide +kernel) (by decide +kernel)
set_option maxRecDepth 20000 in
theorem gX4_addCheck_Jx4a65c_size_8abf5 : GoodIn wsX4_addCheck (wsV RX4 39 RJx4a65c yJx4a65c_size_8abf5 wsJx4a65c_size_8abf5) := goodIn_app (goodIn_of _ (by decide +kernel)) ggX4_addCheck_Jx4a65c_size_8abf5
set_option maxRecDepth 20000 in
theorem ggX4_addCheck_X1_init : GoodIn wsX4_addCheck wsX1_init := goodIn_r _ [21, 22, 23, 24, 25, 26, 27, 28, 29, 30, 31, 32, 33, 95, 96, 97, 98, 99, 100, 101, 102, 103, 104, 105, 106, 107] (by decide +kernel) (by decide +kernel)
set_option maxRecDepth 20000 in
theorem gX4_addCheck_X1_init : GoodIn wsX4_addCheck (wsX1_init) := ggX4_addCheck_X1_init
set_option maxRecDepth 20000 in
theorem ggX4_addCheck_Jx4a65c_add_9ea2d : GoodIn wsX4_addCheck wsJx4a65c_add_9ea2d := goodIn_r _ [37, 38, 39, 40, 18, 41, 42, 43, 16, 44, 45, 46, 47, 48, 49, 50, 51, 52, 53, 54, 55, 56, 57, 58, 59, 60, 61, 62, 63, 64, 65, 66, 67, 68, 69, 70, 71, 72, 73, 74, 75, 76, 77, 78, 79, 80, 81, 82, 83, 84, 85, 86, 87, 108, 109, 110] (by decide +kernel) (by decide +kernel)
set_option maxRecDepth 20000 in
theorem gX4_addCheck_Jx4a65c_add_9ea2d : GoodIn wsX4_addCheck (wsV RX4 62 RJx4a65c yJx4a65c_add_9ea2d wsJx4a65c_add_9ea2d) := goodIn_app (goodIn_of _ (by decide +kernel)) ggX4_addCheck_Jx4a65c_add_9ea2d
theorem dX4_addCheck_0 : decode cX4_addCheck 0 = .ok (.iload_n 1, 1) := by decide +kernel
theorem dX4_addCheck_1 : decode cX4_addCheck 1 = .ok (.iconst 1, 1) := by decide +kernel
theorem dX4_addCheck_2 : decode cX4_addCheck 2 = .ok (.bipush 60, 2) := by decide +kernel
theorem dX4_addCheck_4 : decode cX4_addCheck 4 = .ok (.invokestatic 66, 3) := by decide +kernel
theorem dX4_addCheck_7 : decode cX4_addCheck 7 = .ok (.iload_n 2, 1) := by decide +kernel
theorem dX4_addCheck_8 : decode cX4_addCheck 8 = .ok (.iconst 0, 1) := by decide +kernel
theorem dX4_addCheck_9 : decode cX4_addCheck 9 = .ok (.sipush 1000, 3) := by decide +kernel
theorem dX4_addCheck_12 : decode cX4_addCheck 12 = .ok (.invokestatic 66, 3) := by decide +kernel
theorem dX4_addCheck_15 : decode cX4_addCheck 15 = .ok (.iload_n 3, 1) := by decide +kernel
theorem dX4_addCheck_16 : decode cX4_addCheck 16 = .ok (.iconst 0, 1) := by decide +kernel
theorem dX4_addCheck_17 : decode cX4_addCheck 17 = .ok (.iconst 3, 1) := by decide +kernel
theorem dX4_addCheck_18 : decode cX4_addCheck 18 = .ok (.invokestatic 66, 3) := by decide +kernel
theorem dX4_addCheck_21 : decode cX4_addCheck 21 = .ok (.iload 4, 2) := by decide +kernel
theorem dX4_addCheck_23 : decode cX4_addCheck 23 = .ok (.iconst 1, 1) := by decide +kernel
theorem dX4_addCheck_24 : decode cX4_addCheck 24 = .ok (.bipush 6, 2) := by decide +kernel
theorem dX4_addCheck_26 : decode cX4_addCheck 26 = .ok (.invokestatic 66, 3) := by decide +kernel
theorem dX4_addCheck_29 : decode cX4_addCheck 29 = .ok (.aload_n 0, 1) := by decide +kernel
theorem dX4_addCheck_30 : decode cX4_addCheck 30 = .ok (.getfield 16, 3) := by decide +kernel
theorem dX4_addCheck_33 : decode cX4_addCheck 33 = .ok (.invokevirtual 39, 3) := by decide +kernel
theorem dX4_addCheck_36 : decode cX4_addCheck 36 = .ok (.bipush 8, 2) := by decide +kernel
theorem dX4_addCheck_38 : decode cX4_addCheck 38 = .ok (.if_icmp .lt 13, 3) := by decide +kernel
theorem dX4_addCheck_41 : decode cX4_addCheck 41 = .ok (.new 43, 3) := by decide +kernel
theorem dX4_addCheck_44 : decode cX4_addCheck 44 = .ok (.dup, 1) := by decide +kernel
theorem dX4_addCheck_45 : decode cX4_addCheck 45 = .ok (.ldc 70, 2) := by decide +kernel
theorem dX4_addCheck_47 : decode cX4_addCheck 47 = .ok (.invokespecial 47, 3) := by decide +kernel
theorem dX4_addCheck_50 : decode cX4_addCheck 50 = .ok (.athrow, 1) := by decide +kernel
theorem dX4_addCheck_51 : decode cX4_addCheck 51 = .ok (.aload_n 0, 1) := by decide +kernel
theorem dX4_addCheck_52 : decode cX4_addCheck 52 = .ok (.getfield 16, 3) := by decide +kernel
theorem dX4_addCheck_55 : decode cX4_addCheck 55 = .ok (.invokevirtual 39, 3) := by decide +kernel
theorem dX4_addCheck_58 : decode cX4_addCheck 58 = .ok (.istore 5, 2) := by decide +kernel
theorem dX4_addCheck_60 : decode cX4_addCheck 60 = .ok (.aload_n 0, 1) := by decide +kernel
theorem dX4_addCheck_61 : decode cX4_addCheck 61 = .ok (.getfield 16, 3) := by decide +kernel
theorem dX4_addCheck_64 : decode cX4_addCheck 64 = .ok (.new 72, 3) := by decide +kernel
theorem dX4_addCheck_67 : decode cX4_addCheck 67 = .ok (.dup, 1) := by decide +kernel
theorem dX4_addCheck_68 : decode cX4_addCheck 68 = .ok (.iload 5, 2) := by decide +kernel
theorem dX4_addCheck_70 : decode cX4_addCheck 70 = .ok (.iload_n 1, 1) := by decide +kernel
theorem dX4_addCheck_71 : decode cX4_addCheck 71 = .ok (.iload_n 2, 1) := by decide +kernel
theorem dX4_addCheck_72 : decode cX4_addCheck 72 = .ok (.iload_n 3, 1) := by decide +kernel
theorem dX4_addCheck_73 : decode cX4_addCheck 73 = .ok (.iload 4, 2) := by decide +kernel
theorem dX4_addCheck_75 : decode cX4_addCheck 75 = .ok (.invokespecial 74, 3) := by decide +kernel
theorem dX4_addCheck_78 : decode cX4_addCheck 78 = .ok (.invokevirtual 62, 3) := by decide +kernel
theorem dX4_addCheck_81 : decode cX4_addCheck 81 = .ok (.pop, 1) := by decide +kernel
theorem dX4_addCheck_82 : decode cX4_addCheck 82 = .ok (.iload 5, 2) := by decide +kernel
theorem dX4_addCheck_84 : decode cX4_addCheck 84 = .ok (.ireturn, 1) := by decide +kernel
set_option maxRecDepth 20000 in
theorem ggX4_setDown_X4_requireCheck : GoodIn wsX4_setDown wsX4_requireCheck := goodIn_ca (goodIn_r _ [8, 9, 10, 1, 11, 12, 13, 14, 15, 16, 45, 46, 47, 48, 49, 50, 51, 65, 66, 67] (by decide +kernel) (by decide +kernel)) (goodIn_sub (fun _ h => List.mem_cons_of_mem _ (List.mem_append_right _ h)) (by decide +kernel))
set_option maxRecDepth 20000 in
theorem gX4_setDown_X4_requireCheck : GoodIn wsX4_setDown (wsV RX4 77 RX4 yX4_requireCheck wsX4_requireCheck) := goodIn_app (goodIn_of _ (by decide +kernel)) ggX4_setDown_X4_requireCheck
set_option maxRecDepth 20000 in
theorem ggX4_setDown_X4_requireRegion : GoodIn wsX4_setDown wsX4_requireRegion := goodIn_ca (goodIn_r _ [20, 9, 10, 21, 11, 12, 13, 14, 15, 16, 45, 46, 47, 48, 49, 50, 51, 65, 66, 67] (by decide +kernel) (by decide +kernel)) (goodIn_sub (fun _ h => List.mem_cons_of_mem _ (List.mem_append_right _ h)) (by decide +kernel))
set_option maxRecDepth 20000 in
theorem gX4_setDown_X4_requireRegion : GoodIn wsX4_setDown (wsV RX4 35 RX4 yX4_requireRegion wsX4_requireRegion) := goodIn_app (goodIn_of _ (by decide +kernel)) ggX4_setDown_X4_requireRegion
set_option maxRecDepth 20000 in
theorem ggX4_setDown_Jx4a65c_get_915e3 : GoodIn wsX4_setDown wsJx4a65c_get_915e3 := goodIn_r _ [25, 16, 26, 27, 28, 29, 30, 31, 32, 33, 34, 35, 36, 14, 37, 38, 65, 66, 67] (by decide +kernel) (by decide +kernel)
set_option maxRecDepth 20000 in
theorem gX4_setDown_Jx4a65c_get_915e3 : GoodIn wsX4_setDown (wsV RX4 50 RJx4a65c yJx4a65c_get_915e3 wsJx4a65c_get_915e3) := goodIn_app (goodIn_of _ (by decide +kernel)) ggX4_setDown_Jx4a65c_get_915e3
set_option maxRecDepth 20000 in
theorem ggX4_setDown_X4_holds : GoodIn wsX4_setDown wsX4_holds := goodIn_r _ [41] (by decide +kernel) (by decide +kernel)
set_option maxRecDepth 20000 in
theorem gX4_setDown_X4_holds : GoodIn wsX4_setDown (va_wsS RX4 83 yX4_holds wsX4_holds) := goodIn_app (goodIn_of _ (by decide +kernel)) ggX4_setDown_X4_holds
set_option maxRecDepth 20000 in
theorem ggX4_setDown_X4_withRegion : GoodIn wsX4_setDown wsX4_withRegion := goodIn_r _ [44] (by decide +kernel) (by decide +kernel)
set_option maxRecDepth 20000 in
theorem gX4_setDown_X4_withRegion : GoodIn wsX4_setDown (va_wsS RX4 87 yX4_withRegion wsX4_withRegion) := goodIn_app (goodIn_of _ (by decide +kernel)) ggX4_setDown_X4_withRegion
theorem dX4_setDown_0 : decode cX4_setDown 0 = .ok (.aload_n 0, 1) := by decide +kernel
theorem dX4_setDown_1 : decode cX4_setDown 1 = .ok (.iload_n 1, 1) := by decide +kernel
theorem dX4_setDown_2 : decode cX4_setDown 2 = .ok (.invokevirtual 77, 3) := by decide +kernel
theorem dX4_setDown_5 : decode cX4_setDown 5 = .ok (.aload_n 0, 1) := by decide +kernel
theorem dX4_setDown_6 : decode cX4_setDown 6 = .ok (.iload_n 2, 1) := by decide +kernel
theorem dX4_setDown_7 : decode cX4_setDown 7 = .ok (.invokevirtual 35, 3) := by decide +kernel
theorem dX4_setDown_10 : decode cX4_setDown 10 = .ok (.aload_n 0, 1) := by decide +kernel
theorem dX4_setDown_11 : decode cX4_setDown 11 = .ok (.getfield 16, 3) := by decide +kernel
theorem dX4_setDown_14 : decode cX4_setDown 14 = .ok (.iload_n 1, 1) := by decide +kernel
theorem dX4_setDown_15 : decode cX4_setDown 15 = .ok (.invokevirtual 50, 3) := by decide +kernel
theorem dX4_setDown_18 : decode cX4_setDown 18 = .ok (.checkcast 72, 3) := by decide +kernel
theorem dX4_setDown_21 : decode cX4_setDown 21 = .ok (.astore 4, 2) := by decide +kernel
theorem dX4_setDown_23 : decode cX4_setDown 23 = .ok (.aload 4, 2) := by decide +kernel
theorem dX4_setDown_25 : decode cX4_setDown 25 = .ok (.getfield 80, 3) := by decide +kernel
theorem dX4_setDown_28 : decode cX4_setDown 28 = .ok (.iload_n 2, 1) := by decide +kernel
theorem dX4_setDown_29 : decode cX4_setDown 29 = .ok (.invokestatic 83, 3) := by decide +kernel
theorem dX4_setDown_32 : decode cX4_setDown 32 = .ok (.istore 5, 2) := by decide +kernel
theorem dX4_setDown_34 : decode cX4_setDown 34 = .ok (.aload 4, 2) := by decide +kernel
theorem dX4_setDown_36 : decode cX4_setDown 36 = .ok (.aload 4, 2) := by decide +kernel
theorem dX4_setDown_38 : decode cX4_setDown 38 = .ok (.getfield 80, 3) := by decide +kernel
theorem dX4_setDown_41 : decode cX4_setDown 41 = .ok (.iload_n 2, 1) := by decide +kernel
theorem dX4_setDown_42 : decode cX4_setDown 42 = .ok (.iload_n 3, 1) := by decide +kernel
theorem dX4_setDown_43 : decode cX4_setDown 43 = .ok (.invokestatic 87, 3) := by decide +kernel
theorem dX4_setDown_46 : decode cX4_setDown 46 = .ok (.putfield 80, 3) := by decide +kernel
theorem dX4_setDown_49 : decode cX4_setDown 49 = .ok (.iload 5, 2) := by decide +kernel
theorem dX4_setDown_51 : decode cX4_setDown 51 = .ok (.ireturn, 1) := by decide +kernel
set_option maxRecDepth 20000 in
theorem ggX4_setCut_X4_requireRegion : GoodIn wsX4_setCut wsX4_requireRegion := goodIn_ca (goodIn_r _ [6, 7, 8, 9, 10, 11, 12, 13, 14, 15, 22, 23, 24, 25, 26, 27, 28, 29, 30, 31] (by decide +kernel) (by decide +kernel)) (goodIn_sub (fun _ h => List.mem_cons_of_mem _ (List.mem_append_right _ h)) (by decide +kernel))
set_option maxRecDepth 20000 in
theorem gX4_setCut_X4_requireRegion : GoodIn wsX4_setCut (wsV RX4 35 RX4 yX4_requireRegion wsX4_requireRegion) := goodIn_app (goodIn_of _ (by decide +kernel)) ggX4_setCut_X4_requireRegion
set_option maxRecDepth 20000 in
theorem ggX4_setCut_X4_holds : GoodIn wsX4_setCut wsX4_holds := goodIn_r _ [18] (by decide +kernel) (by decide +kernel)
set_option maxRecDepth 20000 in
theorem gX4_setCut_X4_holds : GoodIn wsX4_setCut (va_wsS RX4 83 yX4_holds wsX4_holds) := goodIn_app (goodIn_of _ (by decide +kernel)) ggX4_setCut_X4_holds
set_option maxRecDepth 20000 in
theorem ggX4_setCut_X4_withRegion : GoodIn wsX4_setCut wsX4_withRegion := goodIn_r _ [21] (by decide +kernel) (by decide +kernel)
set_option maxRecDepth 20000 in
theorem gX4_setCut_X4_withRegion : GoodIn wsX4_setCut (va_wsS RX4 87 yX4_withRegion wsX4_withRegion) := goodIn_app (goodIn_of _ (by decide +kernel)) ggX4_setCut_X4_withRegion
theorem dX4_setCut_0 : decode cX4_setCut 0 = .ok (.aload_n 0, 1) := by decide +kernel
theorem dX4_setCut_1 : decode cX4_setCut 1 = .ok (.iload_n 1, 1) := by decide +kernel
theorem dX4_setCut_2 : decode cX4_setCut 2 = .ok (.invokevirtual 35, 3) := by decide +kernel
theorem dX4_setCut_5 : decode cX4_setCut 5 = .ok (.aload_n 0, 1) := by decide +kernel
theorem dX4_setCut_6 : decode cX4_setCut 6 = .ok (.getfield 25, 3) := by decide +kernel
theorem dX4_setCut_9 : decode cX4_setCut 9 = .ok (.iload_n 1, 1) := by decide +kernel
theorem dX4_setCut_10 : decode cX4_setCut 10 = .ok (.invokestatic 83, 3) := by decide +kernel
theorem dX4_setCut_13 : decode cX4_setCut 13 = .ok (.istore_n 3, 1) := by decide +kernel
theorem dX4_setCut_14 : decode cX4_setCut 14 = .ok (.aload_n 0, 1) := by decide +kernel
theorem dX4_setCut_15 : decode cX4_setCut 15 = .ok (.aload_n 0, 1) := by decide +kernel
theorem dX4_setCut_16 : decode cX4_setCut 16 = .ok (.getfield 25, 3) := by decide +kernel
theorem dX4_setCut_19 : decode cX4_setCut 19 = .ok (.iload_n 1, 1) := by decide +kernel
theorem dX4_setCut_20 : decode cX4_setCut 20 = .ok (.iload_n 2, 1) := by decide +kernel
theorem dX4_setCut_21 : decode cX4_setCut 21 = .ok (.invokestatic 87, 3) := by decide +kernel
theorem dX4_setCut_24 : decode cX4_setCut 24 = .ok (.putfield 25, 3) := by decide +kernel
theorem dX4_setCut_27 : decode cX4_setCut 27 = .ok (.iload_n 3, 1) := by decide +kernel
theorem dX4_setCut_28 : decode cX4_setCut 28 = .ok (.ireturn, 1) := by decide +kernel
set_option maxRecDepth 20000 in
theorem ggX4_setQuorum_X4_requireCheck : GoodIn wsX4_setQuorum wsX4_requireCheck := goodIn_ca (goodIn_r _ [8, 9, 10, 1, 11, 12, 13, 14, 15, 16, 39, 40, 41, 42, 43, 44, 45, 59, 60, 61] (by decide +kernel) (by decide +kernel)) (goodIn_sub (fun _ h => List.mem_cons_of_mem _ (List.mem_append_left _ (List.mem_append_right _ h))) (by decide +kernel))
set_option maxRecDepth 20000 in
theorem gX4_setQuorum_X4_requireCheck : GoodIn wsX4_setQuorum (wsV RX4 77 RX4 yX4_requireCheck wsX4_requireCheck) := goodIn_app (goodIn_of _ (by decide +kernel)) ggX4_setQuorum_X4_requireCheck
set_option maxRecDepth 20000 in
theorem ggX4_setQuorum_X4_requireRange : GoodIn wsX4_setQuorum wsX4_requireRange := goodIn_ca (goodIn_r _ [19, 20, 21] (by decide +kernel) (by decide +kernel)) (goodIn_sub (fun _ h => List.mem_cons_of_mem _ (List.mem_append_right _ h)) (by decide +kernel))
set_option maxRecDepth 20000 in
theorem gX4_setQuorum_X4_requireRange : GoodIn wsX4_setQuorum (va_wsS RX4 66 yX4_requireRange wsX4_requireRange) := goodIn_app (goodIn_of _ (by decide +kernel)) ggX4_setQuorum_X4_requireRange
set_option maxRecDepth 20000 in
theorem ggX4_setQuorum_Jx4a65c_get_915e3 : GoodIn wsX4_setQuorum wsJx4a65c_get_915e3 := goodIn_r _ [25, 16, 26, 27, 28, 29, 30, 31, 32, 33, 34, 35, 36, 14, 37, 38, 59, 60, 61] (by decide +kernel) (by decide +kernel)
set_option maxRecDepth 20000 in
theorem gX4_setQuorum_Jx4a65c_get_915e3 : GoodIn wsX4_setQuorum (wsV RX4 50 RJx4a65c yJx4a65c_get_915e3 wsJx4a65c_get_915e3) := goodIn_app (goodIn_of _ (by decide +kernel)) ggX4_setQuorum_Jx4a65c_get_915e3
theorem dX4_setQuorum_0 : decode cX4_setQuorum 0 = .ok (.aload_n 0, 1) := by decide +kernel
theorem dX4_setQuorum_1 : decode cX4_setQuorum 1 = .ok (.iload_n 1, 1) := by decide +kernel
theorem dX4_setQuorum_2 : decode cX4_setQuorum 2 = .ok (.invokevirtual 77, 3) := by decide +kernel
theorem dX4_setQuorum_5 : decode cX4_setQuorum 5 = .ok (.iload_n 2, 1) := by decide +kernel
theorem dX4_setQuorum_6 : decode cX4_setQuorum 6 = .ok (.iconst 1, 1) := by decide +kernel
theorem dX4_setQuorum_7 : decode cX4_setQuorum 7 = .ok (.bipush 6, 2) := by decide +kernel
theorem dX4_setQuorum_9 : decode cX4_setQuorum 9 = .ok (.invokestatic 66, 3) := by decide +kernel
theorem dX4_setQuorum_12 : decode cX4_setQuorum 12 = .ok (.aload_n 0, 1) := by decide +kernel
theorem dX4_setQuorum_13 : decode cX4_setQuorum 13 = .ok (.getfield 16, 3) := by decide +kernel
theorem dX4_setQuorum_16 : decode cX4_setQuorum 16 = .ok (.iload_n 1, 1) := by decide +kernel
theorem dX4_setQuorum_17 : decode cX4_setQuorum 17 = .ok (.invokevirtual 50, 3) := by decide +kernel
theorem dX4_setQuorum_20 : decode cX4_setQuorum 20 = .ok (.checkcast 72, 3) := by decide +kernel
theorem dX4_setQuorum_23 : decode cX4_setQuorum 23 = .ok (.astore_n 3, 1) := by decide +kernel
theorem dX4_setQuorum_24 : decode cX4_setQuorum 24 = .ok (.aload_n 3, 1) := by decide +kernel
theorem dX4_setQuorum_25 : decode cX4_setQuorum 25 = .ok (.getfield 91, 3) := by decide +kernel
theorem dX4_setQuorum_28 : decode cX4_setQuorum 28 = .ok (.istore 4, 2) := by decide +kernel
theorem dX4_setQuorum_30 : decode cX4_setQuorum 30 = .ok (.aload_n 3, 1) := by decide +kernel
theorem dX4_setQuorum_31 : decode cX4_setQuorum 31 = .ok (.iload_n 2, 1) := by decide +kernel
theorem dX4_setQuorum_32 : decode cX4_setQuorum 32 = .ok (.putfield 91, 3) := by decide +kernel
theorem dX4_setQuorum_35 : decode cX4_setQuorum 35 = .ok (.iload 4, 2) := by decide +kernel
theorem dX4_setQuorum_37 : decode cX4_setQuorum 37 = .ok (.ireturn, 1) := by decide +kernel
set_option maxRecDepth 20000 in
theorem ggX4_addWindow_X4_requireCheck : GoodIn wsX4_addWindow wsX4_requireCheck := goodIn_ca (goodIn_r _ [12, 13, 14, 15, 16, 17, 18, 19, 20, 21, 90, 91, 92, 93, 94, 95, 96, 100, 101, 102] (by decide +kernel) (by decide +kernel)) (goodIn_sub (fun _ h => List.mem_cons_of_mem _ (List.mem_append_left _ (List.mem_append_right _ h))) (by decide +kernel))
set_option maxRecDepth 20000 in
theorem gX4_addWindow_X4_requireCheck : GoodIn wsX4_addWindow (wsV RX4 77 RX4 yX4_requireCheck wsX4_requireCheck) := goodIn_app (goodIn_of _ (by decide +kernel)) ggX4_addWindow_X4_requireCheck
set_option maxRecDepth 20000 in
theorem ggX4_addWindow_X4_requireRange : GoodIn wsX4_addWindow wsX4_requireRange := goodIn_ca (goodIn_r _ [24, 25, 26] (by decide +kernel) (by decide +kernel)) (goodIn_sub (fun _ h => List.mem_cons_of_mem _ (List.mem_append_right _ h)) (by decide +kernel))
set_option maxRecDepth 20000 in
theorem gX4_addWindow_X4_requireRange : GoodIn wsX4_addWindow (va_wsS RX4 66 yX4_requireRange wsX4_requireRange) := goodIn_app (goodIn_of _ (by decide +kernel)) ggX4_addWindow_X4_requireRange
set_option maxRecDepth 20000 in
theorem ggX4_addWindow_Jx4a65c_size_8abf5 : GoodIn wsX4_addWindow wsJx4a65c_size_8abf5 := goodIn_r _ [20, 21, 100, 101, 102] (by decide +kernel) (by decide +kernel)
set_option maxRecDepth 20000 in
theorem gX4_addWindow_Jx4a65c_size_8abf5 : GoodIn wsX4_addWindow (wsV RX4 39 RJx4a65c yJx4a65c_size_8abf5 wsJx4a65c_size_8abf5) := goodIn_app (goodIn_of _ (by decide +kernel)) ggX4_addWindow_Jx4a65c_size_8abf5
set_option maxRecDepth 20000 in
theorem ggX4_addWindow_X3_init : GoodIn wsX4_addWindow wsX3_init := goodIn_r _ [29, 30, 31, 32, 33, 34, 35, 97, 98, 99] (by decide +kernel) (by decide +kernel)
set_option maxRecDepth 20000 in
theorem gX4_addWindow_X3_init : GoodIn wsX4_addWindow (wsX3_init) := ggX4_addWindow_X3_init
set_option maxRecDepth 20000 in
theorem ggX4_addWindow_Jx4a65c_add_9ea2d : GoodIn wsX4_addWindow wsJx4a65c_add_9ea2d := goodIn_r _ [39, 40, 41, 42, 21, 43, 44, 45, 19, 46, 47, 48, 49, 50, 51, 52, 53, 54, 55, 56, 57, 58, 59, 60, 61, 62, 63, 64, 65, 66, 67, 68, 69, 70, 71, 72, 73, 74, 75, 76, 77, 78, 79, 80, 81, 82, 83, 84, 85, 86, 87, 88, 89, 100, 101, 102] (by decide +kernel) (by decide +kernel)
set_option maxRecDepth 20000 in
theorem gX4_addWindow_Jx4a65c_add_9ea2d : GoodIn wsX4_addWindow (wsV RX4 62 RJx4a65c yJx4a65c_add_9ea2d wsJx4a65c_add_9ea2d) := goodIn_app (goodIn_of _ (by decide +kernel)) ggX4_addWindow_Jx4a65c_add_9ea2d
theorem dX4_addWindow_0 : decode cX4_addWindow 0 = .ok (.aload_n 0, 1) := by decide +kernel
theorem dX4_addWindow_1 : decode cX4_addWindow 1 = .ok (.iload_n 1, 1) := by decide +kernel
theorem dX4_addWindow_2 : decode cX4_addWindow 2 = .ok (.invokevirtual 77, 3) := by decide +kernel
theorem dX4_addWindow_5 : decode cX4_addWindow 5 = .ok (.iload_n 2, 1) := by decide +kernel
theorem dX4_addWindow_6 : decode cX4_addWindow 6 = .ok (.iconst 0, 1) := by decide +kernel
theorem dX4_addWindow_7 : decode cX4_addWindow 7 = .ok (.ldc 94, 2) := by decide +kernel
theorem dX4_addWindow_9 : decode cX4_addWindow 9 = .ok (.invokestatic 66, 3) := by decide +kernel
theorem dX4_addWindow_12 : decode cX4_addWindow 12 = .ok (.iload_n 3, 1) := by decide +kernel
theorem dX4_addWindow_13 : decode cX4_addWindow 13 = .ok (.iconst 1, 1) := by decide +kernel
theorem dX4_addWindow_14 : decode cX4_addWindow 14 = .ok (.sipush 10000, 3) := by decide +kernel
theorem dX4_addWindow_17 : decode cX4_addWindow 17 = .ok (.invokestatic 66, 3) := by decide +kernel
theorem dX4_addWindow_20 : decode cX4_addWindow 20 = .ok (.aload_n 0, 1) := by decide +kernel
theorem dX4_addWindow_21 : decode cX4_addWindow 21 = .ok (.getfield 19, 3) := by decide +kernel
theorem dX4_addWindow_24 : decode cX4_addWindow 24 = .ok (.invokevirtual 39, 3) := by decide +kernel
theorem dX4_addWindow_27 : decode cX4_addWindow 27 = .ok (.bipush 12, 2) := by decide +kernel
theorem dX4_addWindow_29 : decode cX4_addWindow 29 = .ok (.if_icmp .lt 13, 3) := by decide +kernel
theorem dX4_addWindow_32 : decode cX4_addWindow 32 = .ok (.new 43, 3) := by decide +kernel
theorem dX4_addWindow_35 : decode cX4_addWindow 35 = .ok (.dup, 1) := by decide +kernel
theorem dX4_addWindow_36 : decode cX4_addWindow 36 = .ok (.ldc 95, 2) := by decide +kernel
theorem dX4_addWindow_38 : decode cX4_addWindow 38 = .ok (.invokespecial 47, 3) := by decide +kernel
theorem dX4_addWindow_41 : decode cX4_addWindow 41 = .ok (.athrow, 1) := by decide +kernel
theorem dX4_addWindow_42 : decode cX4_addWindow 42 = .ok (.aload_n 0, 1) := by decide +kernel
theorem dX4_addWindow_43 : decode cX4_addWindow 43 = .ok (.getfield 19, 3) := by decide +kernel
theorem dX4_addWindow_46 : decode cX4_addWindow 46 = .ok (.new 97, 3) := by decide +kernel
theorem dX4_addWindow_49 : decode cX4_addWindow 49 = .ok (.dup, 1) := by decide +kernel
theorem dX4_addWindow_50 : decode cX4_addWindow 50 = .ok (.iload_n 1, 1) := by decide +kernel
theorem dX4_addWindow_51 : decode cX4_addWindow 51 = .ok (.iload_n 2, 1) := by decide +kernel
theorem dX4_addWindow_52 : decode cX4_addWindow 52 = .ok (.iload_n 2, 1) := by decide +kernel
theorem dX4_addWindow_53 : decode cX4_addWindow 53 = .ok (.iload_n 3, 1) := by decide +kernel
theorem dX4_addWindow_54 : decode cX4_addWindow 54 = .ok (.iadd, 1) := by decide +kernel
theorem dX4_addWindow_55 : decode cX4_addWindow 55 = .ok (.iconst 1, 1) := by decide +kernel
theorem dX4_addWindow_56 : decode cX4_addWindow 56 = .ok (.isub, 1) := by decide +kernel
theorem dX4_addWindow_57 : decode cX4_addWindow 57 = .ok (.invokespecial 99, 3) := by decide +kernel
theorem dX4_addWindow_60 : decode cX4_addWindow 60 = .ok (.invokevirtual 62, 3) := by decide +kernel
theorem dX4_addWindow_63 : decode cX4_addWindow 63 = .ok (.pop, 1) := by decide +kernel
theorem dX4_addWindow_64 : decode cX4_addWindow 64 = .ok (.aload_n 0, 1) := by decide +kernel
theorem dX4_addWindow_65 : decode cX4_addWindow 65 = .ok (.getfield 19, 3) := by decide +kernel
theorem dX4_addWindow_68 : decode cX4_addWindow 68 = .ok (.invokevirtual 39, 3) := by decide +kernel
theorem dX4_addWindow_71 : decode cX4_addWindow 71 = .ok (.iconst 1, 1) := by decide +kernel
theorem dX4_addWindow_72 : decode cX4_addWindow 72 = .ok (.isub, 1) := by decide +kernel
theorem dX4_addWindow_73 : decode cX4_addWindow 73 = .ok (.ireturn, 1) := by decide +kernel
set_option maxRecDepth 20000 in
theorem ggX4_endWindow_Jx4a65c_size_8abf5 : GoodIn wsX4_endWindow wsJx4a65c_size_8abf5 := goodIn_r _ [10, 11, 54, 55, 56] (by decide +kernel) (by decide +kernel)
set_option maxRecDepth 20000 in
theorem gX4_endWindow_Jx4a65c_size_8abf5 : GoodIn wsX4_endWindow (wsV RX4 39 RJx4a65c yJx4a65c_size_8abf5 wsJx4a65c_size_8abf5) := goodIn_app (goodIn_of _ (by decide +kernel)) ggX4_endWindow_Jx4a65c_size_8abf5
set_option maxRecDepth 20000 in
theorem ggX4_endWindow_Jx4a65c_get_915e3 : GoodIn wsX4_endWindow wsJx4a65c_get_915e3 := goodIn_r _ [15, 11, 16, 17, 18, 19, 20, 21, 22, 23, 24, 25, 26, 9, 27, 28, 54, 55, 56] (by decide +kernel) (by decide +kernel)
set_option maxRecDepth 20000 in
theorem gX4_endWindow_Jx4a65c_get_915e3 : GoodIn wsX4_endWindow (wsV RX4 50 RJx4a65c yJx4a65c_get_915e3 wsJx4a65c_get_915e3) := goodIn_app (goodIn_of _ (by decide +kernel)) ggX4_endWindow_Jx4a65c_get_915e3
set_option maxRecDepth 20000 in
theorem ggX4_endWindow_X3_endAfter : GoodIn wsX4_endWindow wsX3_endAfter := goodIn_r _ [33, 34, 35, 36, 37, 38, 57, 58, 59] (by decide +kernel) (by decide +kernel)
set_option maxRecDepth 20000 in
theorem gX4_endWindow_X3_endAfter : GoodIn wsX4_endWindow (wsV RX4 106 RX3 yX3_endAfter wsX3_endAfter) := goodIn_app (goodIn_of _ (by decide +kernel)) ggX4_endWindow_X3_endAfter
set_option maxRecDepth 20000 in
theorem ggX4_endWindow_X3_length : GoodIn wsX4_endWindow wsX3_length := goodIn_r _ [42, 34, 43, 44, 45, 37, 46, 57, 58, 59] (by decide +kernel) (by decide +kernel)
set_option maxRecDepth 20000 in
theorem gX4_endWindow_X3_length : GoodIn wsX4_endWindow (wsV RX4 109 RX3 yX3_length wsX3_length) := goodIn_app (goodIn_of _ (by decide +kernel)) ggX4_endWindow_X3_length
theorem dX4_endWindow_0 : decode cX4_endWindow 0 = .ok (.iload_n 1, 1) := by decide +kernel
theorem dX4_endWindow_1 : decode cX4_endWindow 1 = .ok (.ifCond .lt 14, 3) := by decide +kernel
theorem dX4_endWindow_4 : decode cX4_endWindow 4 = .ok (.iload_n 1, 1) := by decide +kernel
theorem dX4_endWindow_5 : decode cX4_endWindow 5 = .ok (.aload_n 0, 1) := by decide +kernel
theorem dX4_endWindow_6 : decode cX4_endWindow 6 = .ok (.getfield 19, 3) := by decide +kernel
theorem dX4_endWindow_9 : decode cX4_endWindow 9 = .ok (.invokevirtual 39, 3) := by decide +kernel
theorem dX4_endWindow_12 : decode cX4_endWindow 12 = .ok (.if_icmp .lt 13, 3) := by decide +kernel
theorem dX4_endWindow_15 : decode cX4_endWindow 15 = .ok (.new 101, 3) := by decide +kernel
theorem dX4_endWindow_18 : decode cX4_endWindow 18 = .ok (.dup, 1) := by decide +kernel
theorem dX4_endWindow_19 : decode cX4_endWindow 19 = .ok (.ldc 103, 2) := by decide +kernel
theorem dX4_endWindow_21 : decode cX4_endWindow 21 = .ok (.invokespecial 105, 3) := by decide +kernel
theorem dX4_endWindow_24 : decode cX4_endWindow 24 = .ok (.athrow, 1) := by decide +kernel
theorem dX4_endWindow_25 : decode cX4_endWindow 25 = .ok (.aload_n 0, 1) := by decide +kernel
theorem dX4_endWindow_26 : decode cX4_endWindow 26 = .ok (.getfield 19, 3) := by decide +kernel
theorem dX4_endWindow_29 : decode cX4_endWindow 29 = .ok (.iload_n 1, 1) := by decide +kernel
theorem dX4_endWindow_30 : decode cX4_endWindow 30 = .ok (.invokevirtual 50, 3) := by decide +kernel
theorem dX4_endWindow_33 : decode cX4_endWindow 33 = .ok (.checkcast 97, 3) := by decide +kernel
theorem dX4_endWindow_36 : decode cX4_endWindow 36 = .ok (.astore_n 2, 1) := by decide +kernel
theorem dX4_endWindow_37 : decode cX4_endWindow 37 = .ok (.aload_n 2, 1) := by decide +kernel
theorem dX4_endWindow_38 : decode cX4_endWindow 38 = .ok (.aload_n 0, 1) := by decide +kernel
theorem dX4_endWindow_39 : decode cX4_endWindow 39 = .ok (.getfield 32, 3) := by decide +kernel
theorem dX4_endWindow_42 : decode cX4_endWindow 42 = .ok (.invokevirtual 106, 3) := by decide +kernel
theorem dX4_endWindow_45 : decode cX4_endWindow 45 = .ok (.aload_n 2, 1) := by decide +kernel
theorem dX4_endWindow_46 : decode cX4_endWindow 46 = .ok (.invokevirtual 109, 3) := by decide +kernel
theorem dX4_endWindow_49 : decode cX4_endWindow 49 = .ok (.ireturn, 1) := by decide +kernel
set_option maxRecDepth 20000 in
theorem ggX4_pass_X4_requireRange : GoodIn wsX4_pass wsX4_requireRange := goodIn_ca (goodIn_r _ [5, 6, 7] (by decide +kernel) (by decide +kernel)) (goodIn_sub (fun _ h => List.mem_cons_of_mem _ (List.mem_append_right _ h)) (by decide +kernel))
set_option maxRecDepth 20000 in
theorem gX4_pass_X4_requireRange : GoodIn wsX4_pass (va_wsS RX4 66 yX4_requireRange wsX4_requireRange) := goodIn_app (goodIn_of _ (by decide +kernel)) ggX4_pass_X4_requireRange
set_option maxRecDepth 20000 in
theorem ggX4_pass_Jx4a65c_size_8abf5 : GoodIn wsX4_pass wsJx4a65c_size_8abf5 := goodIn_r _ [12, 13, 224, 225, 226] (by decide +kernel) (by decide +kernel)
set_option maxRecDepth 20000 in
theorem gX4_pass_Jx4a65c_size_8abf5 : GoodIn wsX4_pass (wsV RX4 39 RJx4a65c yJx4a65c_size_8abf5 wsJx4a65c_size_8abf5) := goodIn_app (goodIn_of _ (by decide +kernel)) ggX4_pass_Jx4a65c_size_8abf5
set_option maxRecDepth 20000 in
theorem ggX4_pass_X4_passOneMinute : GoodIn wsX4_pass wsX4_passOneMinute := goodIn_r _ [17, 18, 19, 20, 21, 4, 22, 23, 24, 25, 26, 8, 9, 10, 11, 12, 13, 27, 28, 29, 30, 31, 32, 33, 34, 35, 36, 37, 38, 39, 40, 41, 42, 43, 44, 45, 46, 47, 48, 49, 50, 51, 52, 53, 54, 55, 56, 57, 58, 59, 60, 61, 62, 63, 64, 65, 66, 67, 68, 69, 70, 71, 72, 73, 74, 75, 76, 77, 78, 79, 80, 81, 82, 83, 84, 85, 86, 87, 88, 89, 90, 91, 92, 93, 94, 95, 96, 97, 98, 99, 100, 101, 102, 103, 104, 105, 106, 107, 108, 109, 110, 111, 112, 113, 114, 115, 116, 117, 118, 119, 120, 121, 122, 123, 124, 125, 126, 127, 128, 129, 130, 131, 132, 133, 134, 135, 136, 137, 138, 139, 140, 141, 142, 143, 144, 1, 145, 146, 147, 148, 149, 150, 151, 152, 153, 154, 155, 156, 157, 158, 159, 160, 161, 162, 163, 164, 165, 166, 167, 168, 169, 170, 171, 172, 173, 174, 175, 176, 177, 178, 179, 180, 181, 182, 183, 184, 185, 186, 187, 188, 189, 190, 191, 192, 193, 194, 195, 196, 197, 198, 199, 200, 201, 202, 203, 204, 205, 206, 207, 208, 209, 210, 211, 212, 213, 214, 215, 216, 217, 218, 219, 220, 221, 222, 223, 224, 225, 226, 227, 228, 229, 230, 231, 232, 233, 234, 235, 236, 237, 238, 239, 240, 241, 242, 243, 244, 245, 246, 247, 248, 249] (by decide +kernel) (by decide +kernel)
set_option maxRecDepth 20000 in
theorem gX4_pass_X4_passOneMinute : GoodIn wsX4_pass (wsV RX4 112 RX4 yX4_passOneMinute wsX4_passOneMinute) := goodIn_app (goodIn_of _ (by decide +kernel)) ggX4_pass_X4_passOneMinute
theorem dX4_pass_0 : decode cX4_pass 0 = .ok (.iload_n 1, 1) := by decide +kernel
theorem dX4_pass_1 : decode cX4_pass 1 = .ok (.iconst 1, 1) := by decide +kernel
theorem dX4_pass_2 : decode cX4_pass 2 = .ok (.sipush 200, 3) := by decide +kernel
theorem dX4_pass_5 : decode cX4_pass 5 = .ok (.invokestatic 66, 3) := by decide +kernel
theorem dX4_pass_8 : decode cX4_pass 8 = .ok (.aload_n 0, 1) := by decide +kernel
theorem dX4_pass_9 : decode cX4_pass 9 = .ok (.getfield 22, 3) := by decide +kernel
theorem dX4_pass_12 : decode cX4_pass 12 = .ok (.invokevirtual 39, 3) := by decide +kernel
theorem dX4_pass_15 : decode cX4_pass 15 = .ok (.istore_n 2, 1) := by decide +kernel
theorem dX4_pass_16 : decode cX4_pass 16 = .ok (.iconst 0, 1) := by decide +kernel
theorem dX4_pass_17 : decode cX4_pass 17 = .ok (.istore_n 3, 1) := by decide +kernel
theorem dX4_pass_18 : decode cX4_pass 18 = .ok (.iload_n 3, 1) := by decide +kernel
theorem dX4_pass_19 : decode cX4_pass 19 = .ok (.iload_n 1, 1) := by decide +kernel
theorem dX4_pass_20 : decode cX4_pass 20 = .ok (.if_icmp .ge 13, 3) := by decide +kernel
theorem dX4_pass_23 : decode cX4_pass 23 = .ok (.aload_n 0, 1) := by decide +kernel
theorem dX4_pass_24 : decode cX4_pass 24 = .ok (.invokevirtual 112, 3) := by decide +kernel
theorem dX4_pass_27 : decode cX4_pass 27 = .ok (.iinc 3 1, 3) := by decide +kernel
theorem dX4_pass_30 : decode cX4_pass 30 = .ok (.goto (-12), 3) := by decide +kernel
theorem dX4_pass_33 : decode cX4_pass 33 = .ok (.aload_n 0, 1) := by decide +kernel
theorem dX4_pass_34 : decode cX4_pass 34 = .ok (.getfield 22, 3) := by decide +kernel
theorem dX4_pass_37 : decode cX4_pass 37 = .ok (.invokevirtual 39, 3) := by decide +kernel
theorem dX4_pass_40 : decode cX4_pass 40 = .ok (.iload_n 2, 1) := by decide +kernel
theorem dX4_pass_41 : decode cX4_pass 41 = .ok (.isub, 1) := by decide +kernel
theorem dX4_pass_42 : decode cX4_pass 42 = .ok (.ireturn, 1) := by decide +kernel
theorem dX4_minute_0 : decode cX4_minute 0 = .ok (.aload_n 0, 1) := by decide +kernel
theorem dX4_minute_1 : decode cX4_minute 1 = .ok (.getfield 32, 3) := by decide +kernel
theorem dX4_minute_4 : decode cX4_minute 4 = .ok (.ireturn, 1) := by decide +kernel
set_option maxRecDepth 20000 in
theorem ggX4_failing_X4_requireCheck : GoodIn wsX4_failing wsX4_requireCheck := goodIn_ca (goodIn_r _ [9, 10, 11, 2, 12, 13, 14, 15, 16, 17, 49, 50, 51, 52, 53, 54, 55, 56, 57, 58] (by decide +kernel) (by decide +kernel)) (goodIn_sub (fun _ h => List.mem_cons_of_mem _ (List.mem_append_right _ h)) (by decide +kernel))
set_option maxRecDepth 20000 in
theorem gX4_failing_X4_requireCheck : GoodIn wsX4_failing (wsV RX4 77 RX4 yX4_requireCheck wsX4_requireCheck) := goodIn_app (goodIn_of _ (by decide +kernel)) ggX4_failing_X4_requireCheck
set_option maxRecDepth 20000 in
theorem ggX4_failing_Jx4a65c_size_8abf5 : GoodIn wsX4_failing wsJx4a65c_size_8abf5 := goodIn_r _ [16, 17, 56, 57, 58] (by decide +kernel) (by decide +kernel)
set_option maxRecDepth 20000 in
theorem gX4_failing_Jx4a65c_size_8abf5 : GoodIn wsX4_failing (wsV RX4 39 RJx4a65c yJx4a65c_size_8abf5 wsJx4a65c_size_8abf5) := goodIn_app (goodIn_of _ (by decide +kernel)) ggX4_failing_Jx4a65c_size_8abf5
set_option maxRecDepth 20000 in
theorem ggX4_failing_Jx4a65c_get_915e3 : GoodIn wsX4_failing wsJx4a65c_get_915e3 := goodIn_r _ [21, 17, 22, 23, 24, 25, 26, 27, 28, 29, 30, 31, 32, 15, 33, 34, 56, 57, 58] (by decide +kernel) (by decide +kernel)
set_option maxRecDepth 20000 in
theorem gX4_failing_Jx4a65c_get_915e3 : GoodIn wsX4_failing (wsV RX4 50 RJx4a65c yJx4a65c_get_915e3 wsJx4a65c_get_915e3) := goodIn_app (goodIn_of _ (by decide +kernel)) ggX4_failing_Jx4a65c_get_915e3
set_option maxRecDepth 20000 in
theorem ggX4_failing_X4_wouldFail : GoodIn wsX4_failing wsX4_wouldFail := goodIn_r _ [38, 39, 40, 41, 42, 43, 44, 8, 45, 59, 60, 61, 62, 63, 64, 65, 66, 67, 68, 69, 70, 71, 72, 73, 74, 75, 49, 50, 51, 52, 53, 54, 55] (by decide +kernel) (by decide +kernel)
set_option maxRecDepth 20000 in
theorem gX4_failing_X4_wouldFail : GoodIn wsX4_failing (wsV RX4 115 RX4 yX4_wouldFail wsX4_wouldFail) := goodIn_app (goodIn_of _ (by decide +kernel)) ggX4_failing_X4_wouldFail
set_option maxRecDepth 20000 in
theorem ggX4_failing_X4_withRegion : GoodIn wsX4_failing wsX4_withRegion := goodIn_r _ [48] (by decide +kernel) (by decide +kernel)
set_option maxRecDepth 20000 in
theorem gX4_failing_X4_withRegion : GoodIn wsX4_failing (va_wsS RX4 87 yX4_withRegion wsX4_withRegion) := goodIn_app (goodIn_of _ (by decide +kernel)) ggX4_failing_X4_withRegion
theorem dX4_failing_0 : decode cX4_failing 0 = .ok (.aload_n 0, 1) := by decide +kernel
theorem dX4_failing_1 : decode cX4_failing 1 = .ok (.iload_n 1, 1) := by decide +kernel
theorem dX4_failing_2 : decode cX4_failing 2 = .ok (.invokevirtual 77, 3) := by decide +kernel
theorem dX4_failing_5 : decode cX4_failing 5 = .ok (.iconst 0, 1) := by decide +kernel
theorem dX4_failing_6 : decode cX4_failing 6 = .ok (.istore_n 2, 1) := by decide +kernel
theorem dX4_failing_7 : decode cX4_failing 7 = .ok (.iconst 0, 1) := by decide +kernel
theorem dX4_failing_8 : decode cX4_failing 8 = .ok (.istore_n 3, 1) := by decide +kernel
theorem dX4_failing_9 : decode cX4_failing 9 = .ok (.iload_n 3, 1) := by decide +kernel
theorem dX4_failing_10 : decode cX4_failing 10 = .ok (.aload_n 0, 1) := by decide +kernel
theorem dX4_failing_11 : decode cX4_failing 11 = .ok (.getfield 10, 3) := by decide +kernel
theorem dX4_failing_14 : decode cX4_failing 14 = .ok (.invokevirtual 39, 3) := by decide +kernel
theorem dX4_failing_17 : decode cX4_failing 17 = .ok (.if_icmp .ge 41, 3) := by decide +kernel
theorem dX4_failing_20 : decode cX4_failing 20 = .ok (.iload_n 2, 1) := by decide +kernel
theorem dX4_failing_21 : decode cX4_failing 21 = .ok (.iload_n 3, 1) := by decide +kernel
theorem dX4_failing_22 : decode cX4_failing 22 = .ok (.aload_n 0, 1) := by decide +kernel
theorem dX4_failing_23 : decode cX4_failing 23 = .ok (.aload_n 0, 1) := by decide +kernel
theorem dX4_failing_24 : decode cX4_failing 24 = .ok (.getfield 16, 3) := by decide +kernel
theorem dX4_failing_27 : decode cX4_failing 27 = .ok (.iload_n 1, 1) := by decide +kernel
theorem dX4_failing_28 : decode cX4_failing 28 = .ok (.invokevirtual 50, 3) := by decide +kernel
theorem dX4_failing_31 : decode cX4_failing 31 = .ok (.checkcast 72, 3) := by decide +kernel
theorem dX4_failing_34 : decode cX4_failing 34 = .ok (.aload_n 0, 1) := by decide +kernel
theorem dX4_failing_35 : decode cX4_failing 35 = .ok (.getfield 10, 3) := by decide +kernel
theorem dX4_failing_38 : decode cX4_failing 38 = .ok (.iload_n 3, 1) := by decide +kernel
theorem dX4_failing_39 : decode cX4_failing 39 = .ok (.invokevirtual 50, 3) := by decide +kernel
theorem dX4_failing_42 : decode cX4_failing 42 = .ok (.checkcast 54, 3) := by decide +kernel
theorem dX4_failing_45 : decode cX4_failing 45 = .ok (.invokevirtual 115, 3) := by decide +kernel
theorem dX4_failing_48 : decode cX4_failing 48 = .ok (.invokestatic 87, 3) := by decide +kernel
theorem dX4_failing_51 : decode cX4_failing 51 = .ok (.istore_n 2, 1) := by decide +kernel
theorem dX4_failing_52 : decode cX4_failing 52 = .ok (.iinc 3 1, 3) := by decide +kernel
theorem dX4_failing_55 : decode cX4_failing 55 = .ok (.goto (-46), 3) := by decide +kernel
theorem dX4_failing_58 : decode cX4_failing 58 = .ok (.iload_n 2, 1) := by decide +kernel
theorem dX4_failing_59 : decode cX4_failing 59 = .ok (.ireturn, 1) := by decide +kernel
set_option maxRecDepth 20000 in
theorem ggX4_nextProbe_X4_requireCheck : GoodIn wsX4_nextProbe wsX4_requireCheck := goodIn_ca (goodIn_r _ [8, 9, 10, 1, 11, 12, 13, 14, 15, 16, 48, 49, 50, 51, 52, 53, 54, 55, 56, 57] (by decide +kernel) (by decide +kernel)) (goodIn_sub (fun _ h => List.mem_cons_of_mem _ (List.mem_append_right _ h)) (by decide +kernel))
set_option maxRecDepth 20000 in
theorem gX4_nextProbe_X4_requireCheck : GoodIn wsX4_nextProbe (wsV RX4 77 RX4 yX4_requireCheck wsX4_requireCheck) := goodIn_app (goodIn_of _ (by decide +kernel)) ggX4_nextProbe_X4_requireCheck
set_option maxRecDepth 20000 in
theorem ggX4_nextProbe_X4_requireRegion : GoodIn wsX4_nextProbe wsX4_requireRegion := goodIn_ca (goodIn_r _ [20, 9, 10, 21, 11, 12, 13, 14, 15, 16, 48, 49, 50, 51, 52, 53, 54, 55, 56, 57] (by decide +kernel) (by decide +kernel)) (goodIn_sub (fun _ h => List.mem_cons_of_mem _ (List.mem_append_right _ h)) (by decide +kernel))
set_option maxRecDepth 20000 in
theorem gX4_nextProbe_X4_requireRegion : GoodIn wsX4_nextProbe (wsV RX4 35 RX4 yX4_requireRegion wsX4_requireRegion) := goodIn_app (goodIn_of _ (by decide +kernel)) ggX4_nextProbe_X4_requireRegion
set_option maxRecDepth 20000 in
theorem ggX4_nextProbe_Jx4a65c_get_915e3 : GoodIn wsX4_nextProbe wsJx4a65c_get_915e3 := goodIn_r _ [25, 16, 26, 27, 28, 29, 30, 31, 32, 33, 34, 35, 36, 14, 37, 38, 55, 56, 57] (by decide +kernel) (by decide +kernel)
set_option maxRecDepth 20000 in
theorem gX4_nextProbe_Jx4a65c_get_915e3 : GoodIn wsX4_nextProbe (wsV RX4 50 RJx4a65c yJx4a65c_get_915e3 wsJx4a65c_get_915e3) := goodIn_app (goodIn_of _ (by decide +kernel)) ggX4_nextProbe_Jx4a65c_get_915e3
set_option maxRecDepth 20000 in
theorem ggX4_nextProbe_X1_nextMinuteFrom : GoodIn wsX4_nextProbe wsX1_nextMinuteFrom := goodIn_r _ [43, 44, 45, 46, 47, 58, 59, 60, 61, 62, 63, 64, 65, 66, 67, 68, 69, 70] (by decide +kernel) (by decide +kernel)
set_option maxRecDepth 20000 in
theorem gX4_nextProbe_X1_nextMinuteFrom : GoodIn wsX4_nextProbe (wsV RX4 119 RX1 yX1_nextMinuteFrom wsX1_nextMinuteFrom) := goodIn_app (goodIn_of _ (by decide +kernel)) ggX4_nextProbe_X1_nextMinuteFrom
theorem dX4_nextProbe_0 : decode cX4_nextProbe 0 = .ok (.aload_n 0, 1) := by decide +kernel
theorem dX4_nextProbe_1 : decode cX4_nextProbe 1 = .ok (.iload_n 1, 1) := by decide +kernel
theorem dX4_nextProbe_2 : decode cX4_nextProbe 2 = .ok (.invokevirtual 77, 3) := by decide +kernel
theorem dX4_nextProbe_5 : decode cX4_nextProbe 5 = .ok (.aload_n 0, 1) := by decide +kernel
theorem dX4_nextProbe_6 : decode cX4_nextProbe 6 = .ok (.iload_n 2, 1) := by decide +kernel
theorem dX4_nextProbe_7 : decode cX4_nextProbe 7 = .ok (.invokevirtual 35, 3) := by decide +kernel
theorem dX4_nextProbe_10 : decode cX4_nextProbe 10 = .ok (.aload_n 0, 1) := by decide +kernel
theorem dX4_nextProbe_11 : decode cX4_nextProbe 11 = .ok (.getfield 16, 3) := by decide +kernel
theorem dX4_nextProbe_14 : decode cX4_nextProbe 14 = .ok (.iload_n 1, 1) := by decide +kernel
theorem dX4_nextProbe_15 : decode cX4_nextProbe 15 = .ok (.invokevirtual 50, 3) := by decide +kernel
theorem dX4_nextProbe_18 : decode cX4_nextProbe 18 = .ok (.checkcast 72, 3) := by decide +kernel
theorem dX4_nextProbe_21 : decode cX4_nextProbe 21 = .ok (.iload_n 2, 1) := by decide +kernel
theorem dX4_nextProbe_22 : decode cX4_nextProbe 22 = .ok (.aload_n 0, 1) := by decide +kernel
theorem dX4_nextProbe_23 : decode cX4_nextProbe 23 = .ok (.getfield 32, 3) := by decide +kernel
theorem dX4_nextProbe_26 : decode cX4_nextProbe 26 = .ok (.iconst 1, 1) := by decide +kernel
theorem dX4_nextProbe_27 : decode cX4_nextProbe 27 = .ok (.iadd, 1) := by decide +kernel
theorem dX4_nextProbe_28 : decode cX4_nextProbe 28 = .ok (.invokevirtual 119, 3) := by decide +kernel
theorem dX4_nextProbe_31 : decode cX4_nextProbe 31 = .ok (.ireturn, 1) := by decide +kernel
set_option maxRecDepth 20000 in
theorem ggX4_repetition_X4_requireCheck : GoodIn wsX4_repetition wsX4_requireCheck := goodIn_ca (goodIn_r _ [8, 9, 10, 1, 11, 12, 13, 14, 15, 16, 39, 40, 41, 42, 43, 44, 45, 59, 60, 61] (by decide +kernel) (by decide +kernel)) (goodIn_sub (fun _ h => List.mem_cons_of_mem _ (List.mem_append_right _ h)) (by decide +kernel))
set_option maxRecDepth 20000 in
theorem gX4_repetition_X4_requireCheck : GoodIn wsX4_repetition (wsV RX4 77 RX4 yX4_requireCheck wsX4_requireCheck) := goodIn_app (goodIn_of _ (by decide +kernel)) ggX4_repetition_X4_requireCheck
set_option maxRecDepth 20000 in
theorem ggX4_repetition_X4_requireRegion : GoodIn wsX4_repetition wsX4_requireRegion := goodIn_ca (goodIn_r _ [20, 9, 10, 21, 11, 12, 13, 14, 15, 16, 39, 40, 41, 42, 43, 44, 45, 59, 60, 61] (by decide +kernel) (by decide +kernel)) (goodIn_sub (fun _ h => List.mem_cons_of_mem _ (List.mem_append_right _ h)) (by decide +kernel))
set_option maxRecDepth 20000 in
theorem gX4_repetition_X4_requireRegion : GoodIn wsX4_repetition (wsV RX4 35 RX4 yX4_requireRegion wsX4_requireRegion) := goodIn_app (goodIn_of _ (by decide +kernel)) ggX4_repetition_X4_requireRegion
set_option maxRecDepth 20000 in
theorem ggX4_repetition_Jx4a65c_get_915e3 : GoodIn wsX4_repetition wsJx4a65c_get_915e3 := goodIn_r _ [25, 16, 26, 27, 28, 29, 30, 31, 32, 33, 34, 35, 36, 14, 37, 38, 59, 60, 61] (by decide +kernel) (by decide +kernel)
set_option maxRecDepth 20000 in
theorem gX4_repetition_Jx4a65c_get_915e3 : GoodIn wsX4_repetition (wsV RX4 50 RJx4a65c yJx4a65c_get_915e3 wsJx4a65c_get_915e3) := goodIn_app (goodIn_of _ (by decide +kernel)) ggX4_repetition_Jx4a65c_get_915e3
theorem dX4_repetition_0 : decode cX4_repetition 0 = .ok (.aload_n 0, 1) := by decide +kernel
theorem dX4_repetition_1 : decode cX4_repetition 1 = .ok (.iload_n 1, 1) := by decide +kernel
theorem dX4_repetition_2 : decode cX4_repetition 2 = .ok (.invokevirtual 77, 3) := by decide +kernel
theorem dX4_repetition_5 : decode cX4_repetition 5 = .ok (.aload_n 0, 1) := by decide +kernel
theorem dX4_repetition_6 : decode cX4_repetition 6 = .ok (.iload_n 2, 1) := by decide +kernel
theorem dX4_repetition_7 : decode cX4_repetition 7 = .ok (.invokevirtual 35, 3) := by decide +kernel
theorem dX4_repetition_10 : decode cX4_repetition 10 = .ok (.aload_n 0, 1) := by decide +kernel
theorem dX4_repetition_11 : decode cX4_repetition 11 = .ok (.getfield 16, 3) := by decide +kernel
theorem dX4_repetition_14 : decode cX4_repetition 14 = .ok (.iload_n 1, 1) := by decide +kernel
theorem dX4_repetition_15 : decode cX4_repetition 15 = .ok (.invokevirtual 50, 3) := by decide +kernel
theorem dX4_repetition_18 : decode cX4_repetition 18 = .ok (.checkcast 72, 3) := by decide +kernel
theorem dX4_repetition_21 : decode cX4_repetition 21 = .ok (.getfield 123, 3) := by decide +kernel
theorem dX4_repetition_24 : decode cX4_repetition 24 = .ok (.iload_n 2, 1) := by decide +kernel
theorem dX4_repetition_25 : decode cX4_repetition 25 = .ok (.iaload, 1) := by decide +kernel
theorem dX4_repetition_26 : decode cX4_repetition 26 = .ok (.ireturn, 1) := by decide +kernel
set_option maxRecDepth 20000 in
theorem ggX4_vote_X4_requireCheck : GoodIn wsX4_vote wsX4_requireCheck := goodIn_ca (goodIn_r _ [8, 9, 10, 1, 11, 12, 13, 14, 15, 16, 39, 40, 41, 42, 43, 44, 45, 59, 60, 61] (by decide +kernel) (by decide +kernel)) (goodIn_sub (fun _ h => List.mem_cons_of_mem _ (List.mem_append_right _ h)) (by decide +kernel))
set_option maxRecDepth 20000 in
theorem gX4_vote_X4_requireCheck : GoodIn wsX4_vote (wsV RX4 77 RX4 yX4_requireCheck wsX4_requireCheck) := goodIn_app (goodIn_of _ (by decide +kernel)) ggX4_vote_X4_requireCheck
set_option maxRecDepth 20000 in
theorem ggX4_vote_X4_requireRegion : GoodIn wsX4_vote wsX4_requireRegion := goodIn_ca (goodIn_r _ [20, 9, 10, 21, 11, 12, 13, 14, 15, 16, 39, 40, 41, 42, 43, 44, 45, 59, 60, 61] (by decide +kernel) (by decide +kernel)) (goodIn_sub (fun _ h => List.mem_cons_of_mem _ (List.mem_append_right _ h)) (by decide +kernel))
set_option maxRecDepth 20000 in
theorem gX4_vote_X4_requireRegion : GoodIn wsX4_vote (wsV RX4 35 RX4 yX4_requireRegion wsX4_requireRegion) := goodIn_app (goodIn_of _ (by decide +kernel)) ggX4_vote_X4_requireRegion
set_option maxRecDepth 20000 in
theorem ggX4_vote_Jx4a65c_get_915e3 : GoodIn wsX4_vote wsJx4a65c_get_915e3 := goodIn_r _ [25, 16, 26, 27, 28, 29, 30, 31, 32, 33, 34, 35, 36, 14, 37, 38, 59, 60, 61] (by decide +kernel) (by decide +kernel)
set_option maxRecDepth 20000 in
theorem gX4_vote_Jx4a65c_get_915e3 : GoodIn wsX4_vote (wsV RX4 50 RJx4a65c yJx4a65c_get_915e3 wsJx4a65c_get_915e3) := goodIn_app (goodIn_of _ (by decide +kernel)) ggX4_vote_Jx4a65c_get_915e3
theorem dX4_vote_0 : decode cX4_vote 0 = .ok (.aload_n 0, 1) := by decide +kernel
theorem dX4_vote_1 : decode cX4_vote 1 = .ok (.iload_n 1, 1) := by decide +kernel
theorem dX4_vote_2 : decode cX4_vote 2 = .ok (.invokevirtual 77, 3) := by decide +kernel
theorem dX4_vote_5 : decode cX4_vote 5 = .ok (.aload_n 0, 1) := by decide +kernel
theorem dX4_vote_6 : decode cX4_vote 6 = .ok (.iload_n 2, 1) := by decide +kernel
theorem dX4_vote_7 : decode cX4_vote 7 = .ok (.invokevirtual 35, 3) := by decide +kernel
theorem dX4_vote_10 : decode cX4_vote 10 = .ok (.aload_n 0, 1) := by decide +kernel
theorem dX4_vote_11 : decode cX4_vote 11 = .ok (.getfield 16, 3) := by decide +kernel
theorem dX4_vote_14 : decode cX4_vote 14 = .ok (.iload_n 1, 1) := by decide +kernel
theorem dX4_vote_15 : decode cX4_vote 15 = .ok (.invokevirtual 50, 3) := by decide +kernel
theorem dX4_vote_18 : decode cX4_vote 18 = .ok (.checkcast 72, 3) := by decide +kernel
theorem dX4_vote_21 : decode cX4_vote 21 = .ok (.getfield 127, 3) := by decide +kernel
theorem dX4_vote_24 : decode cX4_vote 24 = .ok (.iload_n 2, 1) := by decide +kernel
theorem dX4_vote_25 : decode cX4_vote 25 = .ok (.iaload, 1) := by decide +kernel
theorem dX4_vote_26 : decode cX4_vote 26 = .ok (.ireturn, 1) := by decide +kernel
set_option maxRecDepth 20000 in
theorem ggX4_probes_X4_requireRegion : GoodIn wsX4_probes wsX4_requireRegion := goodIn_ca (goodIn_r _ [8, 9, 10, 1, 11, 12, 13, 14, 15, 16, 34, 35, 36, 37, 38, 39, 40, 45, 46, 47] (by decide +kernel) (by decide +kernel)) (goodIn_sub (fun _ h => List.mem_cons_of_mem _ (List.mem_append_right _ h)) (by decide +kernel))
set_option maxRecDepth 20000 in
theorem gX4_probes_X4_requireRegion : GoodIn wsX4_probes (wsV RX4 35 RX4 yX4_requireRegion wsX4_requireRegion) := goodIn_app (goodIn_of _ (by decide +kernel)) ggX4_probes_X4_requireRegion
set_option maxRecDepth 20000 in
theorem ggX4_probes_Jx4a65c_get_915e3 : GoodIn wsX4_probes wsJx4a65c_get_915e3 := goodIn_r _ [20, 16, 21, 22, 23, 24, 25, 26, 27, 28, 29, 30, 31, 14, 32, 33, 45, 46, 47] (by decide +kernel) (by decide +kernel)
set_option maxRecDepth 20000 in
theorem gX4_probes_Jx4a65c_get_915e3 : GoodIn wsX4_probes (wsV RX4 50 RJx4a65c yJx4a65c_get_915e3 wsJx4a65c_get_915e3) := goodIn_app (goodIn_of _ (by decide +kernel)) ggX4_probes_Jx4a65c_get_915e3
theorem dX4_probes_0 : decode cX4_probes 0 = .ok (.aload_n 0, 1) := by decide +kernel
theorem dX4_probes_1 : decode cX4_probes 1 = .ok (.iload_n 1, 1) := by decide +kernel
theorem dX4_probes_2 : decode cX4_probes 2 = .ok (.invokevirtual 35, 3) := by decide +kernel
theorem dX4_probes_5 : decode cX4_probes 5 = .ok (.aload_n 0, 1) := by decide +kernel
theorem dX4_probes_6 : decode cX4_probes 6 = .ok (.getfield 10, 3) := by decide +kernel
theorem dX4_probes_9 : decode cX4_probes 9 = .ok (.iload_n 1, 1) := by decide +kernel
theorem dX4_probes_10 : decode cX4_probes 10 = .ok (.invokevirtual 50, 3) := by decide +kernel
theorem dX4_probes_13 : decode cX4_probes 13 = .ok (.checkcast 54, 3) := by decide +kernel
theorem dX4_probes_16 : decode cX4_probes 16 = .ok (.getfield 130, 3) := by decide +kernel
theorem dX4_probes_19 : decode cX4_probes 19 = .ok (.ireturn, 1) := by decide +kernel
set_option maxRecDepth 20000 in
theorem ggX4_failures_X4_requireRegion : GoodIn wsX4_failures wsX4_requireRegion := goodIn_ca (goodIn_r _ [8, 9, 10, 1, 11, 12, 13, 14, 15, 16, 34, 35, 36, 37, 38, 39, 40, 45, 46, 47] (by decide +kernel) (by decide +kernel)) (goodIn_sub (fun _ h => List.mem_cons_of_mem _ (List.mem_append_right _ h)) (by decide +kernel))
set_option maxRecDepth 20000 in
theorem gX4_failures_X4_requireRegion : GoodIn wsX4_failures (wsV RX4 35 RX4 yX4_requireRegion wsX4_requireRegion) := goodIn_app (goodIn_of _ (by decide +kernel)) ggX4_failures_X4_requireRegion
set_option maxRecDepth 20000 in
theorem ggX4_failures_Jx4a65c_get_915e3 : GoodIn wsX4_failures wsJx4a65c_get_915e3 := goodIn_r _ [20, 16, 21, 22, 23, 24, 25, 26, 27, 28, 29, 30, 31, 14, 32, 33, 45, 46, 47] (by decide +kernel) (by decide +kernel)
set_option maxRecDepth 20000 in
theorem gX4_failures_Jx4a65c_get_915e3 : GoodIn wsX4_failures (wsV RX4 50 RJx4a65c yJx4a65c_get_915e3 wsJx4a65c_get_915e3) := goodIn_app (goodIn_of _ (by decide +kernel)) ggX4_failures_Jx4a65c_get_915e3
theorem dX4_failures_0 : decode cX4_failures 0 = .ok (.aload_n 0, 1) := by decide +kernel
theorem dX4_failures_1 : decode cX4_failures 1 = .ok (.iload_n 1, 1) := by decide +kernel
theorem dX4_failures_2 : decode cX4_failures 2 = .ok (.invokevirtual 35, 3) := by decide +kernel
theorem dX4_failures_5 : decode cX4_failures 5 = .ok (.aload_n 0, 1) := by decide +kernel
theorem dX4_failures_6 : decode cX4_failures 6 = .ok (.getfield 10, 3) := by decide +kernel
theorem dX4_failures_9 : decode cX4_failures 9 = .ok (.iload_n 1, 1) := by decide +kernel
theorem dX4_failures_10 : decode cX4_failures 10 = .ok (.invokevirtual 50, 3) := by decide +kernel
theorem dX4_failures_13 : decode cX4_failures 13 = .ok (.checkcast 54, 3) := by decide +kernel
theorem dX4_failures_16 : decode cX4_failures 16 = .ok (.getfield 133, 3) := by decide +kernel
theorem dX4_failures_19 : decode cX4_failures 19 = .ok (.ireturn, 1) := by decide +kernel
set_option maxRecDepth 20000 in
theorem ggX4_isBad_X4_requireRegion : GoodIn wsX4_isBad wsX4_requireRegion := goodIn_ca (goodIn_r _ [6, 7, 8, 9, 10, 11, 12, 13, 14, 15, 19, 20, 21, 22, 23, 24, 25, 26, 27, 28] (by decide +kernel) (by decide +kernel)) (goodIn_sub (fun _ h => List.mem_cons_of_mem _ (List.mem_append_right _ h)) (by decide +kernel))
set_option maxRecDepth 20000 in
theorem gX4_isBad_X4_requireRegion : GoodIn wsX4_isBad (wsV RX4 35 RX4 yX4_requireRegion wsX4_requireRegion) := goodIn_app (goodIn_of _ (by decide +kernel)) ggX4_isBad_X4_requireRegion
set_option maxRecDepth 20000 in
theorem ggX4_isBad_X4_holds : GoodIn wsX4_isBad wsX4_holds := goodIn_r _ [18] (by decide +kernel) (by decide +kernel)
set_option maxRecDepth 20000 in
theorem gX4_isBad_X4_holds : GoodIn wsX4_isBad (va_wsS RX4 83 yX4_holds wsX4_holds) := goodIn_app (goodIn_of _ (by decide +kernel)) ggX4_isBad_X4_holds
theorem dX4_isBad_0 : decode cX4_isBad 0 = .ok (.aload_n 0, 1) := by decide +kernel
theorem dX4_isBad_1 : decode cX4_isBad 1 = .ok (.iload_n 1, 1) := by decide +kernel
theorem dX4_isBad_2 : decode cX4_isBad 2 = .ok (.invokevirtual 35, 3) := by decide +kernel
theorem dX4_isBad_5 : decode cX4_isBad 5 = .ok (.aload_n 0, 1) := by decide +kernel
theorem dX4_isBad_6 : decode cX4_isBad 6 = .ok (.getfield 29, 3) := by decide +kernel
theorem dX4_isBad_9 : decode cX4_isBad 9 = .ok (.iload_n 1, 1) := by decide +kernel
theorem dX4_isBad_10 : decode cX4_isBad 10 = .ok (.invokestatic 83, 3) := by decide +kernel
theorem dX4_isBad_13 : decode cX4_isBad 13 = .ok (.ireturn, 1) := by decide +kernel
set_option maxRecDepth 20000 in
theorem ggX4_verdict_X4_requireCheck : GoodIn wsX4_verdict wsX4_requireCheck := goodIn_ca (goodIn_r _ [8, 9, 10, 1, 11, 12, 13, 14, 15, 16, 34, 35, 36, 37, 38, 39, 40, 54, 55, 56] (by decide +kernel) (by decide +kernel)) (goodIn_sub (fun _ h => List.mem_cons_of_mem _ (List.mem_append_right _ h)) (by decide +kernel))
set_option maxRecDepth 20000 in
theorem gX4_verdict_X4_requireCheck : GoodIn wsX4_verdict (wsV RX4 77 RX4 yX4_requireCheck wsX4_requireCheck) := goodIn_app (goodIn_of _ (by decide +kernel)) ggX4_verdict_X4_requireCheck
set_option maxRecDepth 20000 in
theorem ggX4_verdict_Jx4a65c_get_915e3 : GoodIn wsX4_verdict wsJx4a65c_get_915e3 := goodIn_r _ [20, 16, 21, 22, 23, 24, 25, 26, 27, 28, 29, 30, 31, 14, 32, 33, 54, 55, 56] (by decide +kernel) (by decide +kernel)
set_option maxRecDepth 20000 in
theorem gX4_verdict_Jx4a65c_get_915e3 : GoodIn wsX4_verdict (wsV RX4 50 RJx4a65c yJx4a65c_get_915e3 wsJx4a65c_get_915e3) := goodIn_app (goodIn_of _ (by decide +kernel)) ggX4_verdict_Jx4a65c_get_915e3
theorem dX4_verdict_0 : decode cX4_verdict 0 = .ok (.aload_n 0, 1) := by decide +kernel
theorem dX4_verdict_1 : decode cX4_verdict 1 = .ok (.iload_n 1, 1) := by decide +kernel
theorem dX4_verdict_2 : decode cX4_verdict 2 = .ok (.invokevirtual 77, 3) := by decide +kernel
theorem dX4_verdict_5 : decode cX4_verdict 5 = .ok (.aload_n 0, 1) := by decide +kernel
theorem dX4_verdict_6 : decode cX4_verdict 6 = .ok (.getfield 16, 3) := by decide +kernel
theorem dX4_verdict_9 : decode cX4_verdict 9 = .ok (.iload_n 1, 1) := by decide +kernel
theorem dX4_verdict_10 : decode cX4_verdict 10 = .ok (.invokevirtual 50, 3) := by decide +kernel
theorem dX4_verdict_13 : decode cX4_verdict 13 = .ok (.checkcast 72, 3) := by decide +kernel
theorem dX4_verdict_16 : decode cX4_verdict 16 = .ok (.getfield 136, 3) := by decide +kernel
theorem dX4_verdict_19 : decode cX4_verdict 19 = .ok (.ireturn, 1) := by decide +kernel
set_option maxRecDepth 20000 in
theorem ggX4_trusted_X4_requireCheck : GoodIn wsX4_trusted wsX4_requireCheck := goodIn_ca (goodIn_r _ [7, 8, 9, 1, 10, 11, 12, 13, 14, 15, 45, 46, 47, 48, 49, 50, 51, 52, 53, 54] (by decide +kernel) (by decide +kernel)) (goodIn_sub (fun _ h => List.mem_cons_of_mem _ (List.mem_append_right _ h)) (by decide +kernel))
set_option maxRecDepth 20000 in
theorem gX4_trusted_X4_requireCheck : GoodIn wsX4_trusted (wsV RX4 77 RX4 yX4_requireCheck wsX4_requireCheck) := goodIn_app (goodIn_of _ (by decide +kernel)) ggX4_trusted_X4_requireCheck
set_option maxRecDepth 20000 in
theorem ggX4_trusted_Jx4a65c_get_915e3 : GoodIn wsX4_trusted wsJx4a65c_get_915e3 := goodIn_r _ [19, 15, 20, 21, 22, 23, 24, 25, 26, 27, 28, 29, 30, 13, 31, 32, 52, 53, 54] (by decide +kernel) (by decide +kernel)
set_option maxRecDepth 20000 in
theorem gX4_trusted_Jx4a65c_get_915e3 : GoodIn wsX4_trusted (wsV RX4 50 RJx4a65c yJx4a65c_get_915e3 wsJx4a65c_get_915e3) := goodIn_app (goodIn_of _ (by decide +kernel)) ggX4_trusted_Jx4a65c_get_915e3
set_option maxRecDepth 20000 in
theorem ggX4_trusted_X4_trustedRegions : GoodIn wsX4_trusted wsX4_trustedRegions := goodIn_r _ [36, 37, 38, 39, 40, 41, 10, 11, 12, 13, 14, 15, 16, 17, 18, 19, 20, 21, 22, 23, 24, 25, 26, 27, 28, 29, 30, 31, 32, 42, 43, 6, 44, 45, 46, 47, 48, 49, 50, 51, 55, 56, 57, 58, 59, 60, 61, 62, 63, 64, 65, 66, 67, 68, 69, 70, 71, 52, 53, 54] (by decide +kernel) (by decide +kernel)
set_option maxRecDepth 20000 in
theorem gX4_trusted_X4_trustedRegions : GoodIn wsX4_trusted (wsV RX4 139 RX4 yX4_trustedRegions wsX4_trustedRegions) := goodIn_app (goodIn_of _ (by decide +kernel)) ggX4_trusted_X4_trustedRegions
theorem dX4_trusted_0 : decode cX4_trusted 0 = .ok (.aload_n 0, 1) := by decide +kernel
theorem dX4_trusted_1 : decode cX4_trusted 1 = .ok (.iload_n 1, 1) := by decide +kernel
theorem dX4_trusted_2 : decode cX4_trusted 2 = .ok (.invokevirtual 77, 3) := by decide +kernel
theorem dX4_trusted_5 : decode cX4_trusted 5 = .ok (.aload_n 0, 1) := by decide +kernel
theorem dX4_trusted_6 : decode cX4_trusted 6 = .ok (.aload_n 0, 1) := by decide +kernel
theorem dX4_trusted_7 : decode cX4_trusted 7 = .ok (.getfield 16, 3) := by decide +kernel
theorem dX4_trusted_10 : decode cX4_trusted 10 = .ok (.iload_n 1, 1) := by decide +kernel
theorem dX4_trusted_11 : decode cX4_trusted 11 = .ok (.invokevirtual 50, 3) := by decide +kernel
theorem dX4_trusted_14 : decode cX4_trusted 14 = .ok (.checkcast 72, 3) := by decide +kernel
theorem dX4_trusted_17 : decode cX4_trusted 17 = .ok (.invokevirtual 139, 3) := by decide +kernel
theorem dX4_trusted_20 : decode cX4_trusted 20 = .ok (.ireturn, 1) := by decide +kernel
set_option maxRecDepth 20000 in
theorem ggX4_alarms_Jx4a65c_size_8abf5 : GoodIn wsX4_alarms wsJx4a65c_size_8abf5 := goodIn_r _ [6, 7, 15, 16, 17] (by decide +kernel) (by decide +kernel)
set_option maxRecDepth 20000 in
theorem gX4_alarms_Jx4a65c_size_8abf5 : GoodIn wsX4_alarms (wsV RX4 39 RJx4a65c yJx4a65c_size_8abf5 wsJx4a65c_size_8abf5) := goodIn_app (goodIn_of _ (by decide +kernel)) ggX4_alarms_Jx4a65c_size_8abf5
theorem dX4_alarms_0 : decode cX4_alarms 0 = .ok (.aload_n 0, 1) := by decide +kernel
theorem dX4_alarms_1 : decode cX4_alarms 1 = .ok (.getfield 22, 3) := by decide +kernel
theorem dX4_alarms_4 : decode cX4_alarms 4 = .ok (.invokevirtual 39, 3) := by decide +kernel
theorem dX4_alarms_7 : decode cX4_alarms 7 = .ok (.ireturn, 1) := by decide +kernel
set_option maxRecDepth 20000 in
theorem ggX4_hasAlarm_X4_requireCheck : GoodIn wsX4_hasAlarm wsX4_requireCheck := goodIn_ca (goodIn_r _ [8, 9, 10, 1, 11, 12, 13, 14, 15, 16, 34, 35, 36, 37, 38, 39, 40, 54, 55, 56] (by decide +kernel) (by decide +kernel)) (goodIn_sub (fun _ h => List.mem_cons_of_mem _ (List.mem_append_right _ h)) (by decide +kernel))
set_option maxRecDepth 20000 in
theorem gX4_hasAlarm_X4_requireCheck : GoodIn wsX4_hasAlarm (wsV RX4 77 RX4 yX4_requireCheck wsX4_requireCheck) := goodIn_app (goodIn_of _ (by decide +kernel)) ggX4_hasAlarm_X4_requireCheck
set_option maxRecDepth 20000 in
theorem ggX4_hasAlarm_Jx4a65c_get_915e3 : GoodIn wsX4_hasAlarm wsJx4a65c_get_915e3 := goodIn_r _ [20, 16, 21, 22, 23, 24, 25, 26, 27, 28, 29, 30, 31, 14, 32, 33, 54, 55, 56] (by decide +kernel) (by decide +kernel)
set_option maxRecDepth 20000 in
theorem gX4_hasAlarm_Jx4a65c_get_915e3 : GoodIn wsX4_hasAlarm (wsV RX4 50 RJx4a65c yJx4a65c_get_915e3 wsJx4a65c_get_915e3) := goodIn_app (goodIn_of _ (by decide +kernel)) ggX4_hasAlarm_Jx4a65c_get_915e3
theorem dX4_hasAlarm_0 : decode cX4_hasAlarm 0 = .ok (.aload_n 0, 1) := by decide +kernel
theorem dX4_hasAlarm_1 : decode cX4_hasAlarm 1 = .ok (.iload_n 1, 1) := by decide +kernel
theorem dX4_hasAlarm_2 : decode cX4_hasAlarm 2 = .ok (.invokevirtual 77, 3) := by decide +kernel
theorem dX4_hasAlarm_5 : decode cX4_hasAlarm 5 = .ok (.aload_n 0, 1) := by decide +kernel
theorem dX4_hasAlarm_6 : decode cX4_hasAlarm 6 = .ok (.getfield 16, 3) := by decide +kernel
theorem dX4_hasAlarm_9 : decode cX4_hasAlarm 9 = .ok (.iload_n 1, 1) := by decide +kernel
theorem dX4_hasAlarm_10 : decode cX4_hasAlarm 10 = .ok (.invokevirtual 50, 3) := by decide +kernel
theorem dX4_hasAlarm_13 : decode cX4_hasAlarm 13 = .ok (.checkcast 72, 3) := by decide +kernel
theorem dX4_hasAlarm_16 : decode cX4_hasAlarm 16 = .ok (.getfield 143, 3) := by decide +kernel
theorem dX4_hasAlarm_19 : decode cX4_hasAlarm 19 = .ok (.ifnull 7, 3) := by decide +kernel
theorem dX4_hasAlarm_22 : decode cX4_hasAlarm 22 = .ok (.iconst 1, 1) := by decide +kernel
theorem dX4_hasAlarm_23 : decode cX4_hasAlarm 23 = .ok (.goto 4, 3) := by decide +kernel
theorem dX4_hasAlarm_26 : decode cX4_hasAlarm 26 = .ok (.iconst 0, 1) := by decide +kernel
theorem dX4_hasAlarm_27 : decode cX4_hasAlarm 27 = .ok (.ireturn, 1) := by decide +kernel
set_option maxRecDepth 20000 in
theorem ggX4_alarmCheck_X4_requireAlarm : GoodIn wsX4_alarmCheck wsX4_requireAlarm := goodIn_ca (goodIn_r _ [8, 9, 10, 1, 11, 12, 13, 14, 15, 16, 34, 35, 36, 37, 38, 39, 40, 44, 45, 46] (by decide +kernel) (by decide +kernel)) (goodIn_sub (fun _ h => List.mem_cons_of_mem _ (List.mem_append_right _ h)) (by decide +kernel))
set_option maxRecDepth 20000 in
theorem gX4_alarmCheck_X4_requireAlarm : GoodIn wsX4_alarmCheck (wsV RX4 147 RX4 yX4_requireAlarm wsX4_requireAlarm) := goodIn_app (goodIn_of _ (by decide +kernel)) ggX4_alarmCheck_X4_requireAlarm
set_option maxRecDepth 20000 in
theorem ggX4_alarmCheck_Jx4a65c_get_915e3 : GoodIn wsX4_alarmCheck wsJx4a65c_get_915e3 := goodIn_r _ [20, 16, 21, 22, 23, 24, 25, 26, 27, 28, 29, 30, 31, 14, 32, 33, 44, 45, 46] (by decide +kernel) (by decide +kernel)
set_option maxRecDepth 20000 in
theorem gX4_alarmCheck_Jx4a65c_get_915e3 : GoodIn wsX4_alarmCheck (wsV RX4 50 RJx4a65c yJx4a65c_get_915e3 wsJx4a65c_get_915e3) := goodIn_app (goodIn_of _ (by decide +kernel)) ggX4_alarmCheck_Jx4a65c_get_915e3
theorem dX4_alarmCheck_0 : decode cX4_alarmCheck 0 = .ok (.aload_n 0, 1) := by decide +kernel
theorem dX4_alarmCheck_1 : decode cX4_alarmCheck 1 = .ok (.iload_n 1, 1) := by decide +kernel
theorem dX4_alarmCheck_2 : decode cX4_alarmCheck 2 = .ok (.invokevirtual 147, 3) := by decide +kernel
theorem dX4_alarmCheck_5 : decode cX4_alarmCheck 5 = .ok (.aload_n 0, 1) := by decide +kernel
theorem dX4_alarmCheck_6 : decode cX4_alarmCheck 6 = .ok (.getfield 22, 3) := by decide +kernel
theorem dX4_alarmCheck_9 : decode cX4_alarmCheck 9 = .ok (.iload_n 1, 1) := by decide +kernel
theorem dX4_alarmCheck_10 : decode cX4_alarmCheck 10 = .ok (.invokevirtual 50, 3) := by decide +kernel
theorem dX4_alarmCheck_13 : decode cX4_alarmCheck 13 = .ok (.checkcast 150, 3) := by decide +kernel
theorem dX4_alarmCheck_16 : decode cX4_alarmCheck 16 = .ok (.getfield 152, 3) := by decide +kernel
theorem dX4_alarmCheck_19 : decode cX4_alarmCheck 19 = .ok (.ireturn, 1) := by decide +kernel
set_option maxRecDepth 20000 in
theorem ggX4_alarmRaised_X4_requireAlarm : GoodIn wsX4_alarmRaised wsX4_requireAlarm := goodIn_ca (goodIn_r _ [8, 9, 10, 1, 11, 12, 13, 14, 15, 16, 34, 35, 36, 37, 38, 39, 40, 44, 45, 46] (by decide +kernel) (by decide +kernel)) (goodIn_sub (fun _ h => List.mem_cons_of_mem _ (List.mem_append_right _ h)) (by decide +kernel))
set_option maxRecDepth 20000 in
theorem gX4_alarmRaised_X4_requireAlarm : GoodIn wsX4_alarmRaised (wsV RX4 147 RX4 yX4_requireAlarm wsX4_requireAlarm) := goodIn_app (goodIn_of _ (by decide +kernel)) ggX4_alarmRaised_X4_requireAlarm
set_option maxRecDepth 20000 in
theorem ggX4_alarmRaised_Jx4a65c_get_915e3 : GoodIn wsX4_alarmRaised wsJx4a65c_get_915e3 := goodIn_r _ [20, 16, 21, 22, 23, 24, 25, 26, 27, 28, 29, 30, 31, 14, 32, 33, 44, 45, 46] (by decide +kernel) (by decide +kernel)
set_option maxRecDepth 20000 in
theorem gX4_alarmRaised_Jx4a65c_get_915e3 : GoodIn wsX4_alarmRaised (wsV RX4 50 RJx4a65c yJx4a65c_get_915e3 wsJx4a65c_get_915e3) := goodIn_app (goodIn_of _ (by decide +kernel)) ggX4_alarmRaised_Jx4a65c_get_915e3
theorem dX4_alarmRaised_0 : decode cX4_alarmRaised 0 = .ok (.aload_n 0, 1) := by decide +kernel
theorem dX4_alarmRaised_1 : decode cX4_alarmRaised 1 = .ok (.iload_n 1, 1) := by decide +kernel
theorem dX4_alarmRaised_2 : decode cX4_alarmRaised 2 = .ok (.invokevirtual 147, 3) := by decide +kernel
theorem dX4_alarmRaised_5 : decode cX4_alarmRaised 5 = .ok (.aload_n 0, 1) := by decide +kernel
theorem dX4_alarmRaised_6 : decode cX4_alarmRaised 6 = .ok (.getfield 22, 3) := by decide +kernel
theorem dX4_alarmRaised_9 : decode cX4_alarmRaised 9 = .ok (.iload_n 1, 1) := by decide +kernel
theorem dX4_alarmRaised_10 : decode cX4_alarmRaised 10 = .ok (.invokevirtual 50, 3) := by decide +kernel
theorem dX4_alarmRaised_13 : decode cX4_alarmRaised 13 = .ok (.checkcast 150, 3) := by decide +kernel
theorem dX4_alarmRaised_16 : decode cX4_alarmRaised 16 = .ok (.getfield 155, 3) := by decide +kernel
theorem dX4_alarmRaised_19 : decode cX4_alarmRaised 19 = .ok (.ireturn, 1) := by decide +kernel
set_option maxRecDepth 20000 in
theorem ggX4_alarmClosed_X4_requireAlarm : GoodIn wsX4_alarmClosed wsX4_requireAlarm := goodIn_ca (goodIn_r _ [8, 9, 10, 1, 11, 12, 13, 14, 15, 16, 34, 35, 36, 37, 38, 39, 40, 44, 45, 46] (by decide +kernel) (by decide +kernel)) (goodIn_sub (fun _ h => List.mem_cons_of_mem _ (List.mem_append_right _ h)) (by decide +kernel))
set_option maxRecDepth 20000 in
theorem gX4_alarmClosed_X4_requireAlarm : GoodIn wsX4_alarmClosed (wsV RX4 147 RX4 yX4_requireAlarm wsX4_requireAlarm) := goodIn_app (goodIn_of _ (by decide +kernel)) ggX4_alarmClosed_X4_requireAlarm
set_option maxRecDepth 20000 in
theorem ggX4_alarmClosed_Jx4a65c_get_915e3 : GoodIn wsX4_alarmClosed wsJx4a65c_get_915e3 := goodIn_r _ [20, 16, 21, 22, 23, 24, 25, 26, 27, 28, 29, 30, 31, 14, 32, 33, 44, 45, 46] (by decide +kernel) (by decide +kernel)
set_option maxRecDepth 20000 in
theorem gX4_alarmClosed_Jx4a65c_get_915e3 : GoodIn wsX4_alarmClosed (wsV RX4 50 RJx4a65c yJx4a65c_get_915e3 wsJx4a65c_get_915e3) := goodIn_app (goodIn_of _ (by decide +kernel)) ggX4_alarmClosed_Jx4a65c_get_915e3
theorem dX4_alarmClosed_0 : decode cX4_alarmClosed 0 = .ok (.aload_n 0, 1) := by decide +kernel
theorem dX4_alarmClosed_1 : decode cX4_alarmClosed 1 = .ok (.iload_n 1, 1) := by decide +kernel
theorem dX4_alarmClosed_2 : decode cX4_alarmClosed 2 = .ok (.invokevirtual 147, 3) := by decide +kernel
theorem dX4_alarmClosed_5 : decode cX4_alarmClosed 5 = .ok (.aload_n 0, 1) := by decide +kernel
theorem dX4_alarmClosed_6 : decode cX4_alarmClosed 6 = .ok (.getfield 22, 3) := by decide +kernel
theorem dX4_alarmClosed_9 : decode cX4_alarmClosed 9 = .ok (.iload_n 1, 1) := by decide +kernel
theorem dX4_alarmClosed_10 : decode cX4_alarmClosed 10 = .ok (.invokevirtual 50, 3) := by decide +kernel
theorem dX4_alarmClosed_13 : decode cX4_alarmClosed 13 = .ok (.checkcast 150, 3) := by decide +kernel
theorem dX4_alarmClosed_16 : decode cX4_alarmClosed 16 = .ok (.getfield 158, 3) := by decide +kernel
theorem dX4_alarmClosed_19 : decode cX4_alarmClosed 19 = .ok (.ireturn, 1) := by decide +kernel
set_option maxRecDepth 20000 in
theorem ggX4_availability_X4_requireCheck : GoodIn wsX4_availability wsX4_requireCheck := goodIn_ca (goodIn_r _ [11, 12, 13, 3, 14, 15, 16, 17, 18, 19, 37, 38, 39, 40, 41, 42, 43, 57, 58, 59] (by decide +kernel) (by decide +kernel)) (goodIn_sub (fun _ h => List.mem_cons_of_mem _ (List.mem_append_right _ h)) (by decide +kernel))
set_option maxRecDepth 20000 in
theorem gX4_availability_X4_requireCheck : GoodIn wsX4_availability (wsV RX4 77 RX4 yX4_requireCheck wsX4_requireCheck) := goodIn_app (goodIn_of _ (by decide +kernel)) ggX4_availability_X4_requireCheck
set_option maxRecDepth 20000 in
theorem ggX4_availability_Jx4a65c_get_915e3 : GoodIn wsX4_availability wsJx4a65c_get_915e3 := goodIn_r _ [23, 19, 24, 25, 26, 27, 28, 29, 30, 31, 32, 33, 34, 17, 35, 36, 57, 58, 59] (by decide +kernel) (by decide +kernel)
set_option maxRecDepth 20000 in
theorem gX4_availability_Jx4a65c_get_915e3 : GoodIn wsX4_availability (wsV RX4 50 RJx4a65c yJx4a65c_get_915e3 wsJx4a65c_get_915e3) := goodIn_app (goodIn_of _ (by decide +kernel)) ggX4_availability_Jx4a65c_get_915e3
theorem dX4_availability_0 : decode cX4_availability 0 = .ok (.aload_n 0, 1) := by decide +kernel
theorem dX4_availability_1 : decode cX4_availability 1 = .ok (.iload_n 1, 1) := by decide +kernel
theorem dX4_availability_2 : decode cX4_availability 2 = .ok (.invokevirtual 77, 3) := by decide +kernel
theorem dX4_availability_5 : decode cX4_availability 5 = .ok (.aload_n 0, 1) := by decide +kernel
theorem dX4_availability_6 : decode cX4_availability 6 = .ok (.getfield 16, 3) := by decide +kernel
theorem dX4_availability_9 : decode cX4_availability 9 = .ok (.iload_n 1, 1) := by decide +kernel
theorem dX4_availability_10 : decode cX4_availability 10 = .ok (.invokevirtual 50, 3) := by decide +kernel
theorem dX4_availability_13 : decode cX4_availability 13 = .ok (.checkcast 72, 3) := by decide +kernel
theorem dX4_availability_16 : decode cX4_availability 16 = .ok (.astore_n 2, 1) := by decide +kernel
theorem dX4_availability_17 : decode cX4_availability 17 = .ok (.aload_n 2, 1) := by decide +kernel
theorem dX4_availability_18 : decode cX4_availability 18 = .ok (.getfield 161, 3) := by decide +kernel
theorem dX4_availability_21 : decode cX4_availability 21 = .ok (.ifCond .ne 13, 3) := by decide +kernel
theorem dX4_availability_24 : decode cX4_availability 24 = .ok (.new 43, 3) := by decide +kernel
theorem dX4_availability_27 : decode cX4_availability 27 = .ok (.dup, 1) := by decide +kernel
theorem dX4_availability_28 : decode cX4_availability 28 = .ok (.ldc 164, 2) := by decide +kernel
theorem dX4_availability_30 : decode cX4_availability 30 = .ok (.invokespecial 47, 3) := by decide +kernel
theorem dX4_availability_33 : decode cX4_availability 33 = .ok (.athrow, 1) := by decide +kernel
theorem dX4_availability_34 : decode cX4_availability 34 = .ok (.aload_n 2, 1) := by decide +kernel
theorem dX4_availability_35 : decode cX4_availability 35 = .ok (.getfield 166, 3) := by decide +kernel
theorem dX4_availability_38 : decode cX4_availability 38 = .ok (.i2f, 1) := by decide +kernel
theorem dX4_availability_39 : decode cX4_availability 39 = .ok (.aload_n 2, 1) := by decide +kernel
theorem dX4_availability_40 : decode cX4_availability 40 = .ok (.getfield 161, 3) := by decide +kernel
theorem dX4_availability_43 : decode cX4_availability 43 = .ok (.i2f, 1) := by decide +kernel
theorem dX4_availability_44 : decode cX4_availability 44 = .ok (.fdiv, 1) := by decide +kernel
theorem dX4_availability_45 : decode cX4_availability 45 = .ok (.freturn, 1) := by decide +kernel
set_option maxRecDepth 20000 in
theorem ggX4_requireRegion_Jx4a65c_size_8abf5 : GoodIn wsX4_requireRegion wsJx4a65c_size_8abf5 := goodIn_r _ [8, 9, 17, 18, 19] (by decide +kernel) (by decide +kernel)
set_option maxRecDepth 20000 in
theorem gX4_requireRegion_Jx4a65c_size_8abf5 : GoodIn wsX4_requireRegion (wsV RX4 39 RJx4a65c yJx4a65c_size_8abf5 wsJx4a65c_size_8abf5) := goodIn_app (goodIn_of _ (by decide +kernel)) ggX4_requireRegion_Jx4a65c_size_8abf5
theorem dX4_requireRegion_0 : decode cX4_requireRegion 0 = .ok (.iload_n 1, 1) := by decide +kernel
theorem dX4_requireRegion_1 : decode cX4_requireRegion 1 = .ok (.ifCond .lt 14, 3) := by decide +kernel
theorem dX4_requireRegion_4 : decode cX4_requireRegion 4 = .ok (.iload_n 1, 1) := by decide +kernel
theorem dX4_requireRegion_5 : decode cX4_requireRegion 5 = .ok (.aload_n 0, 1) := by decide +kernel
theorem dX4_requireRegion_6 : decode cX4_requireRegion 6 = .ok (.getfield 10, 3) := by decide +kernel
theorem dX4_requireRegion_9 : decode cX4_requireRegion 9 = .ok (.invokevirtual 39, 3) := by decide +kernel
theorem dX4_requireRegion_12 : decode cX4_requireRegion 12 = .ok (.if_icmp .lt 13, 3) := by decide +kernel
theorem dX4_requireRegion_15 : decode cX4_requireRegion 15 = .ok (.new 101, 3) := by decide +kernel
theorem dX4_requireRegion_18 : decode cX4_requireRegion 18 = .ok (.dup, 1) := by decide +kernel
theorem dX4_requireRegion_19 : decode cX4_requireRegion 19 = .ok (.ldc 169, 2) := by decide +kernel
theorem dX4_requireRegion_21 : decode cX4_requireRegion 21 = .ok (.invokespecial 105, 3) := by decide +kernel
theorem dX4_requireRegion_24 : decode cX4_requireRegion 24 = .ok (.athrow, 1) := by decide +kernel
theorem dX4_requireRegion_25 : decode cX4_requireRegion 25 = .ok (.return_, 1) := by decide +kernel
set_option maxRecDepth 20000 in
theorem ggX4_requireCheck_Jx4a65c_size_8abf5 : GoodIn wsX4_requireCheck wsJx4a65c_size_8abf5 := goodIn_r _ [8, 9, 17, 18, 19] (by decide +kernel) (by decide +kernel)
set_option maxRecDepth 20000 in
theorem gX4_requireCheck_Jx4a65c_size_8abf5 : GoodIn wsX4_requireCheck (wsV RX4 39 RJx4a65c yJx4a65c_size_8abf5 wsJx4a65c_size_8abf5) := goodIn_app (goodIn_of _ (by decide +kernel)) ggX4_requireCheck_Jx4a65c_size_8abf5
theorem dX4_requireCheck_0 : decode cX4_requireCheck 0 = .ok (.iload_n 1, 1) := by decide +kernel
theorem dX4_requireCheck_1 : decode cX4_requireCheck 1 = .ok (.ifCond .lt 14, 3) := by decide +kernel
theorem dX4_requireCheck_4 : decode cX4_requireCheck 4 = .ok (.iload_n 1, 1) := by decide +kernel
theorem dX4_requireCheck_5 : decode cX4_requireCheck 5 = .ok (.aload_n 0, 1) := by decide +kernel
theorem dX4_requireCheck_6 : decode cX4_requireCheck 6 = .ok (.getfield 16, 3) := by decide +kernel
theorem dX4_requireCheck_9 : decode cX4_requireCheck 9 = .ok (.invokevirtual 39, 3) := by decide +kernel
theorem dX4_requireCheck_12 : decode cX4_requireCheck 12 = .ok (.if_icmp .lt 13, 3) := by decide +kernel
theorem dX4_requireCheck_15 : decode cX4_requireCheck 15 = .ok (.new 101, 3) := by decide +kernel
theorem dX4_requireCheck_18 : decode cX4_requireCheck 18 = .ok (.dup, 1) := by decide +kernel
theorem dX4_requireCheck_19 : decode cX4_requireCheck 19 = .ok (.ldc 171, 2) := by decide +kernel
theorem dX4_requireCheck_21 : decode cX4_requireCheck 21 = .ok (.invokespecial 105, 3) := by decide +kernel
theorem dX4_requireCheck_24 : decode cX4_requireCheck 24 = .ok (.athrow, 1) := by decide +kernel
theorem dX4_requireCheck_25 : decode cX4_requireCheck 25 = .ok (.return_, 1) := by decide +kernel
set_option maxRecDepth 20000 in
theorem ggX4_requireAlarm_Jx4a65c_size_8abf5 : GoodIn wsX4_requireAlarm wsJx4a65c_size_8abf5 := goodIn_r _ [8, 9, 17, 18, 19] (by decide +kernel) (by decide +kernel)
set_option maxRecDepth 20000 in
theorem gX4_requireAlarm_Jx4a65c_size_8abf5 : GoodIn wsX4_requireAlarm (wsV RX4 39 RJx4a65c yJx4a65c_size_8abf5 wsJx4a65c_size_8abf5) := goodIn_app (goodIn_of _ (by decide +kernel)) ggX4_requireAlarm_Jx4a65c_size_8abf5
theorem dX4_requireAlarm_0 : decode cX4_requireAlarm 0 = .ok (.iload_n 1, 1) := by decide +kernel
theorem dX4_requireAlarm_1 : decode cX4_requireAlarm 1 = .ok (.ifCond .lt 14, 3) := by decide +kernel
theorem dX4_requireAlarm_4 : decode cX4_requireAlarm 4 = .ok (.iload_n 1, 1) := by decide +kernel
theorem dX4_requireAlarm_5 : decode cX4_requireAlarm 5 = .ok (.aload_n 0, 1) := by decide +kernel
theorem dX4_requireAlarm_6 : decode cX4_requireAlarm 6 = .ok (.getfield 22, 3) := by decide +kernel
theorem dX4_requireAlarm_9 : decode cX4_requireAlarm 9 = .ok (.invokevirtual 39, 3) := by decide +kernel
theorem dX4_requireAlarm_12 : decode cX4_requireAlarm 12 = .ok (.if_icmp .lt 13, 3) := by decide +kernel
theorem dX4_requireAlarm_15 : decode cX4_requireAlarm 15 = .ok (.new 101, 3) := by decide +kernel
theorem dX4_requireAlarm_18 : decode cX4_requireAlarm 18 = .ok (.dup, 1) := by decide +kernel
theorem dX4_requireAlarm_19 : decode cX4_requireAlarm 19 = .ok (.ldc 173, 2) := by decide +kernel
theorem dX4_requireAlarm_21 : decode cX4_requireAlarm 21 = .ok (.invokespecial 105, 3) := by decide +kernel
theorem dX4_requireAlarm_24 : decode cX4_requireAlarm 24 = .ok (.athrow, 1) := by decide +kernel
theorem dX4_requireAlarm_25 : decode cX4_requireAlarm 25 = .ok (.return_, 1) := by decide +kernel
theorem dX4_requireRange_0 : decode cX4_requireRange 0 = .ok (.iload_n 0, 1) := by decide +kernel
theorem dX4_requireRange_1 : decode cX4_requireRange 1 = .ok (.iload_n 1, 1) := by decide +kernel
theorem dX4_requireRange_2 : decode cX4_requireRange 2 = .ok (.if_icmp .lt 8, 3) := by decide +kernel
theorem dX4_requireRange_5 : decode cX4_requireRange 5 = .ok (.iload_n 0, 1) := by decide +kernel
theorem dX4_requireRange_6 : decode cX4_requireRange 6 = .ok (.iload_n 2, 1) := by decide +kernel
theorem dX4_requireRange_7 : decode cX4_requireRange 7 = .ok (.if_icmp .le 13, 3) := by decide +kernel
theorem dX4_requireRange_10 : decode cX4_requireRange 10 = .ok (.new 175, 3) := by decide +kernel
theorem dX4_requireRange_13 : decode cX4_requireRange 13 = .ok (.dup, 1) := by decide +kernel
theorem dX4_requireRange_14 : decode cX4_requireRange 14 = .ok (.ldc 177, 2) := by decide +kernel
theorem dX4_requireRange_16 : decode cX4_requireRange 16 = .ok (.invokespecial 179, 3) := by decide +kernel
theorem dX4_requireRange_19 : decode cX4_requireRange 19 = .ok (.athrow, 1) := by decide +kernel
theorem dX4_requireRange_20 : decode cX4_requireRange 20 = .ok (.return_, 1) := by decide +kernel
theorem dX4_holds_0 : decode cX4_holds 0 = .ok (.iload_n 0, 1) := by decide +kernel
theorem dX4_holds_1 : decode cX4_holds 1 = .ok (.iconst 1, 1) := by decide +kernel
theorem dX4_holds_2 : decode cX4_holds 2 = .ok (.iload_n 1, 1) := by decide +kernel
theorem dX4_holds_3 : decode cX4_holds 3 = .ok (.ishl, 1) := by decide +kernel
theorem dX4_holds_4 : decode cX4_holds 4 = .ok (.iand, 1) := by decide +kernel
theorem dX4_holds_5 : decode cX4_holds 5 = .ok (.ifCond .eq 7, 3) := by decide +kernel
theorem dX4_holds_8 : decode cX4_holds 8 = .ok (.iconst 1, 1) := by decide +kernel
theorem dX4_holds_9 : decode cX4_holds 9 = .ok (.goto 4, 3) := by decide +kernel
theorem dX4_holds_12 : decode cX4_holds 12 = .ok (.iconst 0, 1) := by decide +kernel
theorem dX4_holds_13 : decode cX4_holds 13 = .ok (.ireturn, 1) := by decide +kernel
theorem dX4_withRegion_0 : decode cX4_withRegion 0 = .ok (.iload_n 2, 1) := by decide +kernel
theorem dX4_withRegion_1 : decode cX4_withRegion 1 = .ok (.ifCond .eq 11, 3) := by decide +kernel
theorem dX4_withRegion_4 : decode cX4_withRegion 4 = .ok (.iload_n 0, 1) := by decide +kernel
theorem dX4_withRegion_5 : decode cX4_withRegion 5 = .ok (.iconst 1, 1) := by decide +kernel
theorem dX4_withRegion_6 : decode cX4_withRegion 6 = .ok (.iload_n 1, 1) := by decide +kernel
theorem dX4_withRegion_7 : decode cX4_withRegion 7 = .ok (.ishl, 1) := by decide +kernel
theorem dX4_withRegion_8 : decode cX4_withRegion 8 = .ok (.ior, 1) := by decide +kernel
theorem dX4_withRegion_9 : decode cX4_withRegion 9 = .ok (.goto 10, 3) := by decide +kernel
theorem dX4_withRegion_12 : decode cX4_withRegion 12 = .ok (.iload_n 0, 1) := by decide +kernel
theorem dX4_withRegion_13 : decode cX4_withRegion 13 = .ok (.iconst 1, 1) := by decide +kernel
theorem dX4_withRegion_14 : decode cX4_withRegion 14 = .ok (.iload_n 1, 1) := by decide +kernel
theorem dX4_withRegion_15 : decode cX4_withRegion 15 = .ok (.ishl, 1) := by decide +kernel
theorem dX4_withRegion_16 : decode cX4_withRegion 16 = .ok (.iconst (-1), 1) := by decide +kernel
theorem dX4_withRegion_17 : decode cX4_withRegion 17 = .ok (.ixor, 1) := by decide +kernel
theorem dX4_withRegion_18 : decode cX4_withRegion 18 = .ok (.iand, 1) := by decide +kernel
theorem dX4_withRegion_19 : decode cX4_withRegion 19 = .ok (.ireturn, 1) := by decide +kernel
set_option maxRecDepth 20000 in
theorem ggX4_passOneMinute_X4_makeProbes : GoodIn wsX4_passOneMinute wsX4_makeProbes := goodIn_r _ [6, 7, 8, 9, 1, 10, 11, 12, 13, 14, 15, 16, 17, 18, 19, 20, 21, 22, 23, 24, 25, 26, 27, 28, 29, 30, 31, 32, 33, 34, 35, 36, 37, 38, 39, 40, 41, 42, 43, 44, 45, 46, 47, 48, 49, 5, 50, 51, 52, 53, 54, 55, 56, 57, 58, 59, 60, 61, 62, 63, 64, 65, 66, 67, 68, 69, 70, 71, 72, 73, 74, 208, 209, 210, 211, 212, 213, 214, 215, 216, 217, 218, 219, 220, 221, 222, 223, 224, 225, 226, 227, 228, 229, 230, 231, 232, 233, 234] (by decide +kernel) (by decide +kernel)
set_option maxRecDepth 20000 in
theorem gX4_passOneMinute_X4_makeProbes : GoodIn wsX4_passOneMinute (wsV RX4 180 RX4 yX4_makeProbes wsX4_makeProbes) := goodIn_app (goodIn_of _ (by decide +kernel)) ggX4_passOneMinute_X4_makeProbes
set_option maxRecDepth 20000 in
theorem ggX4_passOneMinute_X4_judgeRegions : GoodIn wsX4_passOneMinute wsX4_judgeRegions := goodIn_r _ [78, 8, 79, 11, 12, 13, 14, 15, 16, 80, 81, 82, 5, 83, 7, 9, 84, 17, 18, 19, 20, 21, 22, 23, 24, 25, 26, 27, 28, 29, 30, 31, 32, 33, 85, 86, 87, 208, 209, 210, 211, 212, 213, 214, 215, 216, 217, 218, 219, 220, 221, 222, 223, 224, 225, 226, 227, 228, 229, 230] (by decide +kernel) (by decide +kernel)
set_option maxRecDepth 20000 in
theorem gX4_passOneMinute_X4_judgeRegions : GoodIn wsX4_passOneMinute (wsV RX4 183 RX4 yX4_judgeRegions wsX4_judgeRegions) := goodIn_app (goodIn_of _ (by decide +kernel)) ggX4_passOneMinute_X4_judgeRegions
set_option maxRecDepth 20000 in
theorem ggX4_passOneMinute_X4_judgeChecks : GoodIn wsX4_passOneMinute wsX4_judgeChecks := goodIn_r _ [91, 7, 9, 11, 12, 13, 14, 15, 16, 17, 18, 19, 20, 21, 22, 23, 24, 25, 26, 27, 28, 29, 30, 31, 32, 33, 92, 93, 94, 5, 95, 8, 84, 10, 59, 79, 85, 86, 87, 96, 97, 98, 37, 99, 68, 100, 101, 62, 63, 102, 103, 104, 105, 106, 107, 108, 208, 209, 210, 211, 212, 213, 214, 215, 216, 217, 218, 219, 220, 221, 222, 223, 224, 225, 226, 227, 228, 229, 230, 231, 232, 233, 234] (by decide +kernel) (by decide +kernel)
set_option maxRecDepth 20000 in
theorem gX4_passOneMinute_X4_judgeChecks : GoodIn wsX4_passOneMinute (wsV RX4 186 RX4 yX4_judgeChecks wsX4_judgeChecks) := goodIn_app (goodIn_of _ (by decide +kernel)) ggX4_passOneMinute_X4_judgeChecks
set_option maxRecDepth 20000 in
theorem ggX4_passOneMinute_X4_raiseAndCloseAlarms : GoodIn wsX4_passOneMinute wsX4_raiseAndCloseAlarms := goodIn_r _ [112, 7, 9, 113, 114, 1, 115, 11, 12, 13, 14, 15, 16, 17, 18, 19, 20, 21, 22, 23, 24, 25, 26, 27, 28, 29, 30, 31, 32, 33, 116, 117, 118, 5, 119, 120, 121, 122, 123, 124, 125, 126, 127, 128, 129, 130, 131, 132, 133, 134, 135, 136, 137, 138, 139, 140, 141, 142, 143, 144, 145, 146, 147, 148, 149, 150, 151, 152, 153, 154, 155, 156, 157, 158, 159, 160, 161, 162, 163, 164, 165, 166, 167, 168, 169, 170, 171, 172, 173, 174, 175, 176, 177, 178, 179, 180, 181, 182, 183, 184, 185, 186, 187, 188, 189, 190, 191, 192, 193, 194, 195, 196, 197, 198, 199, 200, 201, 208, 209, 210, 211, 212, 213, 214, 218, 219, 220, 221, 222, 223, 224, 225, 226, 227, 228, 229, 230, 235, 236, 237, 215, 216, 217, 238, 239, 240] (by decide +kernel) (by decide +kernel)
set_option maxRecDepth 20000 in
theorem gX4_passOneMinute_X4_raiseAndCloseAlarms : GoodIn wsX4_passOneMinute (wsV RX4 189 RX4 yX4_raiseAndCloseAlarms wsX4_raiseAndCloseAlarms) := goodIn_app (goodIn_of _ (by decide +kernel)) ggX4_passOneMinute_X4_raiseAndCloseAlarms
set_option maxRecDepth 20000 in
theorem ggX4_passOneMinute_X4_countMinute : GoodIn wsX4_passOneMinute wsX4_countMinute := goodIn_r _ [205, 7, 9, 113, 206, 207, 11, 12, 13, 14, 15, 16, 17, 18, 19, 20, 21, 22, 23, 24, 25, 26, 27, 28, 29, 30, 31, 32, 33, 208, 209, 210, 211, 212, 213, 214, 218, 219, 220, 221, 222, 223, 224, 225, 226, 227, 228, 229, 230, 215, 216, 217] (by decide +kernel) (by decide +kernel)
set_option maxRecDepth 20000 in
theorem gX4_passOneMinute_X4_countMinute : GoodIn wsX4_passOneMinute (wsV RX4 192 RX4 yX4_countMinute wsX4_countMinute) := goodIn_app (goodIn_of _ (by decide +kernel)) ggX4_passOneMinute_X4_countMinute
theorem dX4_passOneMinute_0 : decode cX4_passOneMinute 0 = .ok (.aload_n 0, 1) := by decide +kernel
theorem dX4_passOneMinute_1 : decode cX4_passOneMinute 1 = .ok (.dup, 1) := by decide +kernel
theorem dX4_passOneMinute_2 : decode cX4_passOneMinute 2 = .ok (.getfield 32, 3) := by decide +kernel
theorem dX4_passOneMinute_5 : decode cX4_passOneMinute 5 = .ok (.iconst 1, 1) := by decide +kernel
theorem dX4_passOneMinute_6 : decode cX4_passOneMinute 6 = .ok (.iadd, 1) := by decide +kernel
theorem dX4_passOneMinute_7 : decode cX4_passOneMinute 7 = .ok (.putfield 32, 3) := by decide +kernel
theorem dX4_passOneMinute_10 : decode cX4_passOneMinute 10 = .ok (.aload_n 0, 1) := by decide +kernel
theorem dX4_passOneMinute_11 : decode cX4_passOneMinute 11 = .ok (.invokevirtual 180, 3) := by decide +kernel
theorem dX4_passOneMinute_14 : decode cX4_passOneMinute 14 = .ok (.aload_n 0, 1) := by decide +kernel
theorem dX4_passOneMinute_15 : decode cX4_passOneMinute 15 = .ok (.invokevirtual 183, 3) := by decide +kernel
theorem dX4_passOneMinute_18 : decode cX4_passOneMinute 18 = .ok (.aload_n 0, 1) := by decide +kernel
theorem dX4_passOneMinute_19 : decode cX4_passOneMinute 19 = .ok (.invokevirtual 186, 3) := by decide +kernel
theorem dX4_passOneMinute_22 : decode cX4_passOneMinute 22 = .ok (.aload_n 0, 1) := by decide +kernel
theorem dX4_passOneMinute_23 : decode cX4_passOneMinute 23 = .ok (.invokevirtual 189, 3) := by decide +kernel
theorem dX4_passOneMinute_26 : decode cX4_passOneMinute 26 = .ok (.aload_n 0, 1) := by decide +kernel
theorem dX4_passOneMinute_27 : decode cX4_passOneMinute 27 = .ok (.invokevirtual 192, 3) := by decide +kernel
theorem dX4_passOneMinute_30 : decode cX4_passOneMinute 30 = .ok (.return_, 1) := by decide +kernel
set_option maxRecDepth 20000 in
theorem ggX4_makeProbes_Jx4a65c_size_8abf5 : GoodIn wsX4_makeProbes wsJx4a65c_size_8abf5 := goodIn_r _ [10, 11, 78, 79, 80] (by decide +kernel) (by decide +kernel)
set_option maxRecDepth 20000 in
theorem gX4_makeProbes_Jx4a65c_size_8abf5 : GoodIn wsX4_makeProbes (wsV RX4 39 RJx4a65c yJx4a65c_size_8abf5 wsJx4a65c_size_8abf5) := goodIn_app (goodIn_of _ (by decide +kernel)) ggX4_makeProbes_Jx4a65c_size_8abf5
set_option maxRecDepth 20000 in
theorem ggX4_makeProbes_Jx4a65c_get_915e3 : GoodIn wsX4_makeProbes wsJx4a65c_get_915e3 := goodIn_r _ [15, 11, 16, 17, 18, 19, 20, 21, 22, 23, 24, 25, 26, 9, 27, 28, 78, 79, 80] (by decide +kernel) (by decide +kernel)
set_option maxRecDepth 20000 in
theorem gX4_makeProbes_Jx4a65c_get_915e3 : GoodIn wsX4_makeProbes (wsV RX4 50 RJx4a65c yJx4a65c_get_915e3 wsJx4a65c_get_915e3) := goodIn_app (goodIn_of _ (by decide +kernel)) ggX4_makeProbes_Jx4a65c_get_915e3
set_option maxRecDepth 20000 in
theorem ggX4_makeProbes_X1_isDue : GoodIn wsX4_makeProbes wsX1_isDue := goodIn_r _ [33, 34, 35, 36, 32, 37, 38, 39, 40, 41, 81, 82, 83, 84, 85, 86, 87, 88, 89, 90, 91, 92, 93] (by decide +kernel) (by decide +kernel)
set_option maxRecDepth 20000 in
theorem gX4_makeProbes_X1_isDue : GoodIn wsX4_makeProbes (wsV RX4 195 RX1 yX1_isDue wsX1_isDue) := goodIn_app (goodIn_of _ (by decide +kernel)) ggX4_makeProbes_X1_isDue
set_option maxRecDepth 20000 in
theorem ggX4_makeProbes_X4_makeProbe : GoodIn wsX4_makeProbes wsX4_makeProbe := goodIn_r _ [46, 47, 48, 49, 4, 50, 51, 52, 45, 53, 54, 55, 56, 57, 58, 59, 60, 61, 62, 32, 63, 38, 64, 65, 39, 66, 67, 68, 69, 70, 94, 95, 96, 97, 71, 72, 73, 74, 75, 76, 77, 81, 82, 83, 84, 85, 86, 87, 88, 89, 90, 91, 92, 93] (by decide +kernel) (by decide +kernel)
set_option maxRecDepth 20000 in
theorem gX4_makeProbes_X4_makeProbe : GoodIn wsX4_makeProbes (wsV RX4 198 RX4 yX4_makeProbe wsX4_makeProbe) := goodIn_app (goodIn_of _ (by decide +kernel)) ggX4_makeProbes_X4_makeProbe
theorem dX4_makeProbes_0 : decode cX4_makeProbes 0 = .ok (.iconst 0, 1) := by decide +kernel
theorem dX4_makeProbes_1 : decode cX4_makeProbes 1 = .ok (.istore_n 1, 1) := by decide +kernel
theorem dX4_makeProbes_2 : decode cX4_makeProbes 2 = .ok (.iload_n 1, 1) := by decide +kernel
theorem dX4_makeProbes_3 : decode cX4_makeProbes 3 = .ok (.aload_n 0, 1) := by decide +kernel
theorem dX4_makeProbes_4 : decode cX4_makeProbes 4 = .ok (.getfield 16, 3) := by decide +kernel
theorem dX4_makeProbes_7 : decode cX4_makeProbes 7 = .ok (.invokevirtual 39, 3) := by decide +kernel
theorem dX4_makeProbes_10 : decode cX4_makeProbes 10 = .ok (.if_icmp .ge 76, 3) := by decide +kernel
theorem dX4_makeProbes_13 : decode cX4_makeProbes 13 = .ok (.iconst 0, 1) := by decide +kernel
theorem dX4_makeProbes_14 : decode cX4_makeProbes 14 = .ok (.istore_n 2, 1) := by decide +kernel
theorem dX4_makeProbes_15 : decode cX4_makeProbes 15 = .ok (.iload_n 2, 1) := by decide +kernel
theorem dX4_makeProbes_16 : decode cX4_makeProbes 16 = .ok (.aload_n 0, 1) := by decide +kernel
theorem dX4_makeProbes_17 : decode cX4_makeProbes 17 = .ok (.getfield 10, 3) := by decide +kernel
theorem dX4_makeProbes_20 : decode cX4_makeProbes 20 = .ok (.invokevirtual 39, 3) := by decide +kernel
theorem dX4_makeProbes_23 : decode cX4_makeProbes 23 = .ok (.if_icmp .ge 57, 3) := by decide +kernel
theorem dX4_makeProbes_26 : decode cX4_makeProbes 26 = .ok (.aload_n 0, 1) := by decide +kernel
theorem dX4_makeProbes_27 : decode cX4_makeProbes 27 = .ok (.getfield 16, 3) := by decide +kernel
theorem dX4_makeProbes_30 : decode cX4_makeProbes 30 = .ok (.iload_n 1, 1) := by decide +kernel
theorem dX4_makeProbes_31 : decode cX4_makeProbes 31 = .ok (.invokevirtual 50, 3) := by decide +kernel
theorem dX4_makeProbes_34 : decode cX4_makeProbes 34 = .ok (.checkcast 72, 3) := by decide +kernel
theorem dX4_makeProbes_37 : decode cX4_makeProbes 37 = .ok (.iload_n 2, 1) := by decide +kernel
theorem dX4_makeProbes_38 : decode cX4_makeProbes 38 = .ok (.aload_n 0, 1) := by decide +kernel
theorem dX4_makeProbes_39 : decode cX4_makeProbes 39 = .ok (.getfield 32, 3) := by decide +kernel
theorem dX4_makeProbes_42 : decode cX4_makeProbes 42 = .ok (.invokevirtual 195, 3) := by decide +kernel
theorem dX4_makeProbes_45 : decode cX4_makeProbes 45 = .ok (.ifCond .eq 29, 3) := by decide +kernel
theorem dX4_makeProbes_48 : decode cX4_makeProbes 48 = .ok (.aload_n 0, 1) := by decide +kernel
theorem dX4_makeProbes_49 : decode cX4_makeProbes 49 = .ok (.aload_n 0, 1) := by decide +kernel
theorem dX4_makeProbes_50 : decode cX4_makeProbes 50 = .ok (.getfield 16, 3) := by decide +kernel
theorem dX4_makeProbes_53 : decode cX4_makeProbes 53 = .ok (.iload_n 1, 1) := by decide +kernel
theorem dX4_makeProbes_54 : decode cX4_makeProbes 54 = .ok (.invokevirtual 50, 3) := by decide +kernel
theorem dX4_makeProbes_57 : decode cX4_makeProbes 57 = .ok (.checkcast 72, 3) := by decide +kernel
theorem dX4_makeProbes_60 : decode cX4_makeProbes 60 = .ok (.aload_n 0, 1) := by decide +kernel
theorem dX4_makeProbes_61 : decode cX4_makeProbes 61 = .ok (.getfield 10, 3) := by decide +kernel
theorem dX4_makeProbes_64 : decode cX4_makeProbes 64 = .ok (.iload_n 2, 1) := by decide +kernel
theorem dX4_makeProbes_65 : decode cX4_makeProbes 65 = .ok (.invokevirtual 50, 3) := by decide +kernel
theorem dX4_makeProbes_68 : decode cX4_makeProbes 68 = .ok (.checkcast 54, 3) := by decide +kernel
theorem dX4_makeProbes_71 : decode cX4_makeProbes 71 = .ok (.invokevirtual 198, 3) := by decide +kernel
theorem dX4_makeProbes_74 : decode cX4_makeProbes 74 = .ok (.iinc 2 1, 3) := by decide +kernel
theorem dX4_makeProbes_77 : decode cX4_makeProbes 77 = .ok (.goto (-62), 3) := by decide +kernel
theorem dX4_makeProbes_80 : decode cX4_makeProbes 80 = .ok (.iinc 1 1, 3) := by decide +kernel
theorem dX4_makeProbes_83 : decode cX4_makeProbes 83 = .ok (.goto (-81), 3) := by decide +kernel
theorem dX4_makeProbes_86 : decode cX4_makeProbes 86 = .ok (.return_, 1) := by decide +kernel
set_option maxRecDepth 20000 in
theorem ggX4_makeProbe_X4_wouldFail : GoodIn wsX4_makeProbe wsX4_wouldFail := goodIn_r _ [9, 10, 3, 11, 12, 13, 14, 8, 15, 41, 42, 43, 44, 45, 46, 47, 48, 49, 50, 51, 52, 53, 30, 31, 32, 33, 34, 35, 36, 37, 38, 39, 40] (by decide +kernel) (by decide +kernel)
set_option maxRecDepth 20000 in
theorem gX4_makeProbe_X4_wouldFail : GoodIn wsX4_makeProbe (wsV RX4 115 RX4 yX4_wouldFail wsX4_wouldFail) := goodIn_app (goodIn_of _ (by decide +kernel)) ggX4_makeProbe_X4_wouldFail
set_option maxRecDepth 20000 in
theorem ggX4_makeProbe_X1_takeFailure : GoodIn wsX4_makeProbe wsX1_takeFailure := goodIn_r _ [20, 21, 22, 23, 24, 25, 41, 42, 43, 44, 45, 46, 47, 48, 49, 50, 51, 52, 53] (by decide +kernel) (by decide +kernel)
set_option maxRecDepth 20000 in
theorem gX4_makeProbe_X1_takeFailure : GoodIn wsX4_makeProbe (wsV RX4 205 RX1 yX1_takeFailure wsX1_takeFailure) := goodIn_app (goodIn_of _ (by decide +kernel)) ggX4_makeProbe_X1_takeFailure
set_option maxRecDepth 20000 in
theorem ggX4_makeProbe_X1_takeSuccess : GoodIn wsX4_makeProbe wsX1_takeSuccess := goodIn_r _ [29, 21, 22, 41, 42, 43, 44, 45, 46, 47, 48, 49, 50, 51, 52, 53] (by decide +kernel) (by decide +kernel)
set_option maxRecDepth 20000 in
theorem gX4_makeProbe_X1_takeSuccess : GoodIn wsX4_makeProbe (wsV RX4 208 RX1 yX1_takeSuccess wsX1_takeSuccess) := goodIn_app (goodIn_of _ (by decide +kernel)) ggX4_makeProbe_X1_takeSuccess
theorem dX4_makeProbe_0 : decode cX4_makeProbe 0 = .ok (.aload_n 2, 1) := by decide +kernel
theorem dX4_makeProbe_1 : decode cX4_makeProbe 1 = .ok (.dup, 1) := by decide +kernel
theorem dX4_makeProbe_2 : decode cX4_makeProbe 2 = .ok (.getfield 130, 3) := by decide +kernel
theorem dX4_makeProbe_5 : decode cX4_makeProbe 5 = .ok (.iconst 1, 1) := by decide +kernel
theorem dX4_makeProbe_6 : decode cX4_makeProbe 6 = .ok (.iadd, 1) := by decide +kernel
theorem dX4_makeProbe_7 : decode cX4_makeProbe 7 = .ok (.putfield 130, 3) := by decide +kernel
theorem dX4_makeProbe_10 : decode cX4_makeProbe 10 = .ok (.aload_n 0, 1) := by decide +kernel
theorem dX4_makeProbe_11 : decode cX4_makeProbe 11 = .ok (.aload_n 1, 1) := by decide +kernel
theorem dX4_makeProbe_12 : decode cX4_makeProbe 12 = .ok (.aload_n 2, 1) := by decide +kernel
theorem dX4_makeProbe_13 : decode cX4_makeProbe 13 = .ok (.invokevirtual 115, 3) := by decide +kernel
theorem dX4_makeProbe_16 : decode cX4_makeProbe 16 = .ok (.ifCond .eq 28, 3) := by decide +kernel
theorem dX4_makeProbe_19 : decode cX4_makeProbe 19 = .ok (.aload_n 2, 1) := by decide +kernel
theorem dX4_makeProbe_20 : decode cX4_makeProbe 20 = .ok (.dup, 1) := by decide +kernel
theorem dX4_makeProbe_21 : decode cX4_makeProbe 21 = .ok (.getfield 133, 3) := by decide +kernel
theorem dX4_makeProbe_24 : decode cX4_makeProbe 24 = .ok (.iconst 1, 1) := by decide +kernel
theorem dX4_makeProbe_25 : decode cX4_makeProbe 25 = .ok (.iadd, 1) := by decide +kernel
theorem dX4_makeProbe_26 : decode cX4_makeProbe 26 = .ok (.putfield 133, 3) := by decide +kernel
theorem dX4_makeProbe_29 : decode cX4_makeProbe 29 = .ok (.aload_n 1, 1) := by decide +kernel
theorem dX4_makeProbe_30 : decode cX4_makeProbe 30 = .ok (.aload_n 2, 1) := by decide +kernel
theorem dX4_makeProbe_31 : decode cX4_makeProbe 31 = .ok (.getfield 202, 3) := by decide +kernel
theorem dX4_makeProbe_34 : decode cX4_makeProbe 34 = .ok (.aload_n 0, 1) := by decide +kernel
theorem dX4_makeProbe_35 : decode cX4_makeProbe 35 = .ok (.getfield 32, 3) := by decide +kernel
theorem dX4_makeProbe_38 : decode cX4_makeProbe 38 = .ok (.invokevirtual 205, 3) := by decide +kernel
theorem dX4_makeProbe_41 : decode cX4_makeProbe 41 = .ok (.goto 11, 3) := by decide +kernel
theorem dX4_makeProbe_44 : decode cX4_makeProbe 44 = .ok (.aload_n 1, 1) := by decide +kernel
theorem dX4_makeProbe_45 : decode cX4_makeProbe 45 = .ok (.aload_n 2, 1) := by decide +kernel
theorem dX4_makeProbe_46 : decode cX4_makeProbe 46 = .ok (.getfield 202, 3) := by decide +kernel
theorem dX4_makeProbe_49 : decode cX4_makeProbe 49 = .ok (.invokevirtual 208, 3) := by decide +kernel
theorem dX4_makeProbe_52 : decode cX4_makeProbe 52 = .ok (.return_, 1) := by decide +kernel
set_option maxRecDepth 20000 in
theorem ggX4_wouldFail_X4_holds : GoodIn wsX4_wouldFail wsX4_holds := goodIn_r _ [8] (by decide +kernel) (by decide +kernel)
set_option maxRecDepth 20000 in
theorem gX4_wouldFail_X4_holds : GoodIn wsX4_wouldFail (va_wsS RX4 83 yX4_holds wsX4_holds) := goodIn_app (goodIn_of _ (by decide +kernel)) ggX4_wouldFail_X4_holds
theorem dX4_wouldFail_0 : decode cX4_wouldFail 0 = .ok (.aload_n 1, 1) := by decide +kernel
theorem dX4_wouldFail_1 : decode cX4_wouldFail 1 = .ok (.getfield 80, 3) := by decide +kernel
theorem dX4_wouldFail_4 : decode cX4_wouldFail 4 = .ok (.aload_n 2, 1) := by decide +kernel
theorem dX4_wouldFail_5 : decode cX4_wouldFail 5 = .ok (.getfield 202, 3) := by decide +kernel
theorem dX4_wouldFail_8 : decode cX4_wouldFail 8 = .ok (.invokestatic 83, 3) := by decide +kernel
theorem dX4_wouldFail_11 : decode cX4_wouldFail 11 = .ok (.ifCond .ne 15, 3) := by decide +kernel
theorem dX4_wouldFail_14 : decode cX4_wouldFail 14 = .ok (.aload_n 2, 1) := by decide +kernel
theorem dX4_wouldFail_15 : decode cX4_wouldFail 15 = .ok (.getfield 56, 3) := by decide +kernel
theorem dX4_wouldFail_18 : decode cX4_wouldFail 18 = .ok (.aload_n 0, 1) := by decide +kernel
theorem dX4_wouldFail_19 : decode cX4_wouldFail 19 = .ok (.getfield 25, 3) := by decide +kernel
theorem dX4_wouldFail_22 : decode cX4_wouldFail 22 = .ok (.iand, 1) := by decide +kernel
theorem dX4_wouldFail_23 : decode cX4_wouldFail 23 = .ok (.ifCond .eq 7, 3) := by decide +kernel
theorem dX4_wouldFail_26 : decode cX4_wouldFail 26 = .ok (.iconst 1, 1) := by decide +kernel
theorem dX4_wouldFail_27 : decode cX4_wouldFail 27 = .ok (.goto 4, 3) := by decide +kernel
theorem dX4_wouldFail_30 : decode cX4_wouldFail 30 = .ok (.iconst 0, 1) := by decide +kernel
theorem dX4_wouldFail_31 : decode cX4_wouldFail 31 = .ok (.ireturn, 1) := by decide +kernel
set_option maxRecDepth 20000 in
theorem ggX4_judgeRegions_Jx4a65c_size_8abf5 : GoodIn wsX4_judgeRegions wsJx4a65c_size_8abf5 := goodIn_r _ [7, 8, 44, 45, 46] (by decide +kernel) (by decide +kernel)
set_option maxRecDepth 20000 in
theorem gX4_judgeRegions_Jx4a65c_size_8abf5 : GoodIn wsX4_judgeRegions (wsV RX4 39 RJx4a65c yJx4a65c_size_8abf5 wsJx4a65c_size_8abf5) := goodIn_app (goodIn_of _ (by decide +kernel)) ggX4_judgeRegions_Jx4a65c_size_8abf5
set_option maxRecDepth 20000 in
theorem ggX4_judgeRegions_X4_votesAreBad : GoodIn wsX4_judgeRegions wsX4_votesAreBad := goodIn_r _ [13, 14, 15, 16, 3, 4, 5, 6, 7, 8, 17, 18, 19, 20, 21, 22, 23, 24, 25, 26, 27, 28, 29, 30, 31, 32, 33, 37, 38, 39, 40, 41, 42, 43, 47, 48, 49, 50, 51, 52, 53, 54, 55, 56, 57, 58, 59, 44, 45, 46] (by decide +kernel) (by decide +kernel)
set_option maxRecDepth 20000 in
theorem gX4_judgeRegions_X4_votesAreBad : GoodIn wsX4_judgeRegions (wsV RX4 211 RX4 yX4_votesAreBad wsX4_votesAreBad) := goodIn_app (goodIn_of _ (by decide +kernel)) ggX4_judgeRegions_X4_votesAreBad
set_option maxRecDepth 20000 in
theorem ggX4_judgeRegions_X4_withRegion : GoodIn wsX4_judgeRegions wsX4_withRegion := goodIn_r _ [36] (by decide +kernel) (by decide +kernel)
set_option maxRecDepth 20000 in
theorem gX4_judgeRegions_X4_withRegion : GoodIn wsX4_judgeRegions (va_wsS RX4 87 yX4_withRegion wsX4_withRegion) := goodIn_app (goodIn_of _ (by decide +kernel)) ggX4_judgeRegions_X4_withRegion
theorem dX4_judgeRegions_0 : decode cX4_judgeRegions 0 = .ok (.iconst 0, 1) := by decide +kernel
theorem dX4_judgeRegions_1 : decode cX4_judgeRegions 1 = .ok (.istore_n 1, 1) := by decide +kernel
theorem dX4_judgeRegions_2 : decode cX4_judgeRegions 2 = .ok (.iload_n 1, 1) := by decide +kernel
theorem dX4_judgeRegions_3 : decode cX4_judgeRegions 3 = .ok (.aload_n 0, 1) := by decide +kernel
theorem dX4_judgeRegions_4 : decode cX4_judgeRegions 4 = .ok (.getfield 10, 3) := by decide +kernel
theorem dX4_judgeRegions_7 : decode cX4_judgeRegions 7 = .ok (.invokevirtual 39, 3) := by decide +kernel
theorem dX4_judgeRegions_10 : decode cX4_judgeRegions 10 = .ok (.if_icmp .ge 26, 3) := by decide +kernel
theorem dX4_judgeRegions_13 : decode cX4_judgeRegions 13 = .ok (.aload_n 0, 1) := by decide +kernel
theorem dX4_judgeRegions_14 : decode cX4_judgeRegions 14 = .ok (.aload_n 0, 1) := by decide +kernel
theorem dX4_judgeRegions_15 : decode cX4_judgeRegions 15 = .ok (.getfield 29, 3) := by decide +kernel
theorem dX4_judgeRegions_18 : decode cX4_judgeRegions 18 = .ok (.iload_n 1, 1) := by decide +kernel
theorem dX4_judgeRegions_19 : decode cX4_judgeRegions 19 = .ok (.aload_n 0, 1) := by decide +kernel
theorem dX4_judgeRegions_20 : decode cX4_judgeRegions 20 = .ok (.iload_n 1, 1) := by decide +kernel
theorem dX4_judgeRegions_21 : decode cX4_judgeRegions 21 = .ok (.invokevirtual 211, 3) := by decide +kernel
theorem dX4_judgeRegions_24 : decode cX4_judgeRegions 24 = .ok (.invokestatic 87, 3) := by decide +kernel
theorem dX4_judgeRegions_27 : decode cX4_judgeRegions 27 = .ok (.putfield 29, 3) := by decide +kernel
theorem dX4_judgeRegions_30 : decode cX4_judgeRegions 30 = .ok (.iinc 1 1, 3) := by decide +kernel
theorem dX4_judgeRegions_33 : decode cX4_judgeRegions 33 = .ok (.goto (-31), 3) := by decide +kernel
theorem dX4_judgeRegions_36 : decode cX4_judgeRegions 36 = .ok (.return_, 1) := by decide +kernel
set_option maxRecDepth 20000 in
theorem ggX4_votesAreBad_Jx4a65c_size_8abf5 : GoodIn wsX4_votesAreBad wsJx4a65c_size_8abf5 := goodIn_r _ [8, 9, 47, 48, 49] (by decide +kernel) (by decide +kernel)
set_option maxRecDepth 20000 in
theorem gX4_votesAreBad_Jx4a65c_size_8abf5 : GoodIn wsX4_votesAreBad (wsV RX4 39 RJx4a65c yJx4a65c_size_8abf5 wsJx4a65c_size_8abf5) := goodIn_app (goodIn_of _ (by decide +kernel)) ggX4_votesAreBad_Jx4a65c_size_8abf5
set_option maxRecDepth 20000 in
theorem ggX4_votesAreBad_Jx4a65c_get_915e3 : GoodIn wsX4_votesAreBad wsJx4a65c_get_915e3 := goodIn_r _ [13, 9, 14, 15, 16, 17, 18, 19, 20, 21, 22, 23, 24, 7, 25, 26, 47, 48, 49] (by decide +kernel) (by decide +kernel)
set_option maxRecDepth 20000 in
theorem gX4_votesAreBad_Jx4a65c_get_915e3 : GoodIn wsX4_votesAreBad (wsV RX4 50 RJx4a65c yJx4a65c_get_915e3 wsJx4a65c_get_915e3) := goodIn_app (goodIn_of _ (by decide +kernel)) ggX4_votesAreBad_Jx4a65c_get_915e3
theorem dX4_votesAreBad_0 : decode cX4_votesAreBad 0 = .ok (.iconst 0, 1) := by decide +kernel
theorem dX4_votesAreBad_1 : decode cX4_votesAreBad 1 = .ok (.istore_n 2, 1) := by decide +kernel
theorem dX4_votesAreBad_2 : decode cX4_votesAreBad 2 = .ok (.iconst 0, 1) := by decide +kernel
theorem dX4_votesAreBad_3 : decode cX4_votesAreBad 3 = .ok (.istore_n 3, 1) := by decide +kernel
theorem dX4_votesAreBad_4 : decode cX4_votesAreBad 4 = .ok (.iconst 0, 1) := by decide +kernel
theorem dX4_votesAreBad_5 : decode cX4_votesAreBad 5 = .ok (.istore 4, 2) := by decide +kernel
theorem dX4_votesAreBad_7 : decode cX4_votesAreBad 7 = .ok (.iload 4, 2) := by decide +kernel
theorem dX4_votesAreBad_9 : decode cX4_votesAreBad 9 = .ok (.aload_n 0, 1) := by decide +kernel
theorem dX4_votesAreBad_10 : decode cX4_votesAreBad 10 = .ok (.getfield 16, 3) := by decide +kernel
theorem dX4_votesAreBad_13 : decode cX4_votesAreBad 13 = .ok (.invokevirtual 39, 3) := by decide +kernel
theorem dX4_votesAreBad_16 : decode cX4_votesAreBad 16 = .ok (.if_icmp .ge 45, 3) := by decide +kernel
theorem dX4_votesAreBad_19 : decode cX4_votesAreBad 19 = .ok (.aload_n 0, 1) := by decide +kernel
theorem dX4_votesAreBad_20 : decode cX4_votesAreBad 20 = .ok (.getfield 16, 3) := by decide +kernel
theorem dX4_votesAreBad_23 : decode cX4_votesAreBad 23 = .ok (.iload 4, 2) := by decide +kernel
theorem dX4_votesAreBad_25 : decode cX4_votesAreBad 25 = .ok (.invokevirtual 50, 3) := by decide +kernel
theorem dX4_votesAreBad_28 : decode cX4_votesAreBad 28 = .ok (.checkcast 72, 3) := by decide +kernel
theorem dX4_votesAreBad_31 : decode cX4_votesAreBad 31 = .ok (.getfield 127, 3) := by decide +kernel
theorem dX4_votesAreBad_34 : decode cX4_votesAreBad 34 = .ok (.iload_n 1, 1) := by decide +kernel
theorem dX4_votesAreBad_35 : decode cX4_votesAreBad 35 = .ok (.iaload, 1) := by decide +kernel
theorem dX4_votesAreBad_36 : decode cX4_votesAreBad 36 = .ok (.istore 5, 2) := by decide +kernel
theorem dX4_votesAreBad_38 : decode cX4_votesAreBad 38 = .ok (.iload 5, 2) := by decide +kernel
theorem dX4_votesAreBad_40 : decode cX4_votesAreBad 40 = .ok (.ifCond .eq 6, 3) := by decide +kernel
theorem dX4_votesAreBad_43 : decode cX4_votesAreBad 43 = .ok (.iinc 2 1, 3) := by decide +kernel
theorem dX4_votesAreBad_46 : decode cX4_votesAreBad 46 = .ok (.iload 5, 2) := by decide +kernel
theorem dX4_votesAreBad_48 : decode cX4_votesAreBad 48 = .ok (.iconst 2, 1) := by decide +kernel
theorem dX4_votesAreBad_49 : decode cX4_votesAreBad 49 = .ok (.if_icmp .ne 6, 3) := by decide +kernel
theorem dX4_votesAreBad_52 : decode cX4_votesAreBad 52 = .ok (.iinc 3 1, 3) := by decide +kernel
theorem dX4_votesAreBad_55 : decode cX4_votesAreBad 55 = .ok (.iinc 4 1, 3) := by decide +kernel
theorem dX4_votesAreBad_58 : decode cX4_votesAreBad 58 = .ok (.goto (-51), 3) := by decide +kernel
theorem dX4_votesAreBad_61 : decode cX4_votesAreBad 61 = .ok (.iload_n 2, 1) := by decide +kernel
theorem dX4_votesAreBad_62 : decode cX4_votesAreBad 62 = .ok (.iconst 2, 1) := by decide +kernel
theorem dX4_votesAreBad_63 : decode cX4_votesAreBad 63 = .ok (.if_icmp .lt 14, 3) := by decide +kernel
theorem dX4_votesAreBad_66 : decode cX4_votesAreBad 66 = .ok (.iconst 2, 1) := by decide +kernel
theorem dX4_votesAreBad_67 : decode cX4_votesAreBad 67 = .ok (.iload_n 3, 1) := by decide +kernel
theorem dX4_votesAreBad_68 : decode cX4_votesAreBad 68 = .ok (.imul, 1) := by decide +kernel
theorem dX4_votesAreBad_69 : decode cX4_votesAreBad 69 = .ok (.iload_n 2, 1) := by decide +kernel
theorem dX4_votesAreBad_70 : decode cX4_votesAreBad 70 = .ok (.if_icmp .le 7, 3) := by decide +kernel
theorem dX4_votesAreBad_73 : decode cX4_votesAreBad 73 = .ok (.iconst 1, 1) := by decide +kernel
theorem dX4_votesAreBad_74 : decode cX4_votesAreBad 74 = .ok (.goto 4, 3) := by decide +kernel
theorem dX4_votesAreBad_77 : decode cX4_votesAreBad 77 = .ok (.iconst 0, 1) := by decide +kernel
theorem dX4_votesAreBad_78 : decode cX4_votesAreBad 78 = .ok (.ireturn, 1) := by decide +kernel
set_option maxRecDepth 20000 in
theorem ggX4_judgeChecks_Jx4a65c_size_8abf5 : GoodIn wsX4_judgeChecks wsJx4a65c_size_8abf5 := goodIn_r _ [7, 8, 63, 64, 65] (by decide +kernel) (by decide +kernel)
set_option maxRecDepth 20000 in
theorem gX4_judgeChecks_Jx4a65c_size_8abf5 : GoodIn wsX4_judgeChecks (wsV RX4 39 RJx4a65c yJx4a65c_size_8abf5 wsJx4a65c_size_8abf5) := goodIn_app (goodIn_of _ (by decide +kernel)) ggX4_judgeChecks_Jx4a65c_size_8abf5
set_option maxRecDepth 20000 in
theorem ggX4_judgeChecks_Jx4a65c_get_915e3 : GoodIn wsX4_judgeChecks wsJx4a65c_get_915e3 := goodIn_r _ [12, 8, 13, 14, 15, 16, 17, 18, 19, 20, 21, 22, 23, 6, 24, 25, 63, 64, 65] (by decide +kernel) (by decide +kernel)
set_option maxRecDepth 20000 in
theorem gX4_judgeChecks_Jx4a65c_get_915e3 : GoodIn wsX4_judgeChecks (wsV RX4 50 RJx4a65c yJx4a65c_get_915e3 wsJx4a65c_get_915e3) := goodIn_app (goodIn_of _ (by decide +kernel)) ggX4_judgeChecks_Jx4a65c_get_915e3
set_option maxRecDepth 20000 in
theorem ggX4_judgeChecks_X4_trustedRegions : GoodIn wsX4_judgeChecks wsX4_trustedRegions := goodIn_r _ [30, 31, 32, 33, 34, 35, 3, 4, 5, 6, 7, 8, 9, 10, 11, 12, 13, 14, 15, 16, 17, 18, 19, 20, 21, 22, 23, 24, 25, 36, 37, 29, 38, 56, 57, 58, 59, 60, 61, 62, 66, 67, 68, 69, 70, 71, 72, 73, 74, 75, 76, 77, 78, 79, 80, 81, 82, 63, 64, 65] (by decide +kernel) (by decide +kernel)
set_option maxRecDepth 20000 in
theorem gX4_judgeChecks_X4_trustedRegions : GoodIn wsX4_judgeChecks (wsV RX4 139 RX4 yX4_trustedRegions wsX4_trustedRegions) := goodIn_app (goodIn_of _ (by decide +kernel)) ggX4_judgeChecks_X4_trustedRegions
set_option maxRecDepth 20000 in
theorem ggX4_judgeChecks_X1_judge : GoodIn wsX4_judgeChecks wsX1_judge := goodIn_r _ [43, 44, 45, 46, 47, 29, 48, 49, 50, 51, 52, 53, 54, 55, 66, 67, 68, 69, 70, 71, 72, 73, 74, 75, 76, 77, 78] (by decide +kernel) (by decide +kernel)
set_option maxRecDepth 20000 in
theorem gX4_judgeChecks_X1_judge : GoodIn wsX4_judgeChecks (wsV RX4 215 RX1 yX1_judge wsX1_judge) := goodIn_app (goodIn_of _ (by decide +kernel)) ggX4_judgeChecks_X1_judge
theorem dX4_judgeChecks_0 : decode cX4_judgeChecks 0 = .ok (.iconst 0, 1) := by decide +kernel
theorem dX4_judgeChecks_1 : decode cX4_judgeChecks 1 = .ok (.istore_n 1, 1) := by decide +kernel
theorem dX4_judgeChecks_2 : decode cX4_judgeChecks 2 = .ok (.iload_n 1, 1) := by decide +kernel
theorem dX4_judgeChecks_3 : decode cX4_judgeChecks 3 = .ok (.aload_n 0, 1) := by decide +kernel
theorem dX4_judgeChecks_4 : decode cX4_judgeChecks 4 = .ok (.getfield 16, 3) := by decide +kernel
theorem dX4_judgeChecks_7 : decode cX4_judgeChecks 7 = .ok (.invokevirtual 39, 3) := by decide +kernel
theorem dX4_judgeChecks_10 : decode cX4_judgeChecks 10 = .ok (.if_icmp .ge 30, 3) := by decide +kernel
theorem dX4_judgeChecks_13 : decode cX4_judgeChecks 13 = .ok (.aload_n 0, 1) := by decide +kernel
theorem dX4_judgeChecks_14 : decode cX4_judgeChecks 14 = .ok (.getfield 16, 3) := by decide +kernel
theorem dX4_judgeChecks_17 : decode cX4_judgeChecks 17 = .ok (.iload_n 1, 1) := by decide +kernel
theorem dX4_judgeChecks_18 : decode cX4_judgeChecks 18 = .ok (.invokevirtual 50, 3) := by decide +kernel
theorem dX4_judgeChecks_21 : decode cX4_judgeChecks 21 = .ok (.checkcast 72, 3) := by decide +kernel
theorem dX4_judgeChecks_24 : decode cX4_judgeChecks 24 = .ok (.astore_n 2, 1) := by decide +kernel
theorem dX4_judgeChecks_25 : decode cX4_judgeChecks 25 = .ok (.aload_n 2, 1) := by decide +kernel
theorem dX4_judgeChecks_26 : decode cX4_judgeChecks 26 = .ok (.aload_n 0, 1) := by decide +kernel
theorem dX4_judgeChecks_27 : decode cX4_judgeChecks 27 = .ok (.aload_n 2, 1) := by decide +kernel
theorem dX4_judgeChecks_28 : decode cX4_judgeChecks 28 = .ok (.invokevirtual 139, 3) := by decide +kernel
theorem dX4_judgeChecks_31 : decode cX4_judgeChecks 31 = .ok (.invokevirtual 215, 3) := by decide +kernel
theorem dX4_judgeChecks_34 : decode cX4_judgeChecks 34 = .ok (.iinc 1 1, 3) := by decide +kernel
theorem dX4_judgeChecks_37 : decode cX4_judgeChecks 37 = .ok (.goto (-35), 3) := by decide +kernel
theorem dX4_judgeChecks_40 : decode cX4_judgeChecks 40 = .ok (.return_, 1) := by decide +kernel
set_option maxRecDepth 20000 in
theorem ggX4_trustedRegions_Jx4a65c_size_8abf5 : GoodIn wsX4_trustedRegions wsJx4a65c_size_8abf5 := goodIn_r _ [10, 11, 57, 58, 59] (by decide +kernel) (by decide +kernel)
set_option maxRecDepth 20000 in
theorem gX4_trustedRegions_Jx4a65c_size_8abf5 : GoodIn wsX4_trustedRegions (wsV RX4 39 RJx4a65c yJx4a65c_size_8abf5 wsJx4a65c_size_8abf5) := goodIn_app (goodIn_of _ (by decide +kernel)) ggX4_trustedRegions_Jx4a65c_size_8abf5
set_option maxRecDepth 20000 in
theorem ggX4_trustedRegions_Jx4a65c_get_915e3 : GoodIn wsX4_trustedRegions wsJx4a65c_get_915e3 := goodIn_r _ [15, 11, 16, 17, 18, 19, 20, 21, 22, 23, 24, 25, 26, 9, 27, 28, 57, 58, 59] (by decide +kernel) (by decide +kernel)
set_option maxRecDepth 20000 in
theorem gX4_trustedRegions_Jx4a65c_get_915e3 : GoodIn wsX4_trustedRegions (wsV RX4 50 RJx4a65c yJx4a65c_get_915e3 wsJx4a65c_get_915e3) := goodIn_app (goodIn_of _ (by decide +kernel)) ggX4_trustedRegions_Jx4a65c_get_915e3
set_option maxRecDepth 20000 in
theorem ggX4_trustedRegions_X4_withRegion : GoodIn wsX4_trustedRegions wsX4_withRegion := goodIn_r _ [32] (by decide +kernel) (by decide +kernel)
set_option maxRecDepth 20000 in
theorem gX4_trustedRegions_X4_withRegion : GoodIn wsX4_trustedRegions (va_wsS RX4 87 yX4_withRegion wsX4_withRegion) := goodIn_app (goodIn_of _ (by decide +kernel)) ggX4_trustedRegions_X4_withRegion
theorem dX4_trustedRegions_0 : decode cX4_trustedRegions 0 = .ok (.iconst 0, 1) := by decide +kernel
theorem dX4_trustedRegions_1 : decode cX4_trustedRegions 1 = .ok (.istore_n 2, 1) := by decide +kernel
theorem dX4_trustedRegions_2 : decode cX4_trustedRegions 2 = .ok (.iconst 0, 1) := by decide +kernel
theorem dX4_trustedRegions_3 : decode cX4_trustedRegions 3 = .ok (.istore_n 3, 1) := by decide +kernel
theorem dX4_trustedRegions_4 : decode cX4_trustedRegions 4 = .ok (.iload_n 3, 1) := by decide +kernel
theorem dX4_trustedRegions_5 : decode cX4_trustedRegions 5 = .ok (.aload_n 0, 1) := by decide +kernel
theorem dX4_trustedRegions_6 : decode cX4_trustedRegions 6 = .ok (.getfield 10, 3) := by decide +kernel
theorem dX4_trustedRegions_9 : decode cX4_trustedRegions 9 = .ok (.invokevirtual 39, 3) := by decide +kernel
theorem dX4_trustedRegions_12 : decode cX4_trustedRegions 12 = .ok (.if_icmp .ge 55, 3) := by decide +kernel
theorem dX4_trustedRegions_15 : decode cX4_trustedRegions 15 = .ok (.aload_n 1, 1) := by decide +kernel
theorem dX4_trustedRegions_16 : decode cX4_trustedRegions 16 = .ok (.getfield 127, 3) := by decide +kernel
theorem dX4_trustedRegions_19 : decode cX4_trustedRegions 19 = .ok (.iload_n 3, 1) := by decide +kernel
theorem dX4_trustedRegions_20 : decode cX4_trustedRegions 20 = .ok (.iaload, 1) := by decide +kernel
theorem dX4_trustedRegions_21 : decode cX4_trustedRegions 21 = .ok (.ifCond .eq 29, 3) := by decide +kernel
theorem dX4_trustedRegions_24 : decode cX4_trustedRegions 24 = .ok (.aload_n 0, 1) := by decide +kernel
theorem dX4_trustedRegions_25 : decode cX4_trustedRegions 25 = .ok (.getfield 10, 3) := by decide +kernel
theorem dX4_trustedRegions_28 : decode cX4_trustedRegions 28 = .ok (.iload_n 3, 1) := by decide +kernel
theorem dX4_trustedRegions_29 : decode cX4_trustedRegions 29 = .ok (.invokevirtual 50, 3) := by decide +kernel
theorem dX4_trustedRegions_32 : decode cX4_trustedRegions 32 = .ok (.checkcast 54, 3) := by decide +kernel
theorem dX4_trustedRegions_35 : decode cX4_trustedRegions 35 = .ok (.getfield 56, 3) := by decide +kernel
theorem dX4_trustedRegions_38 : decode cX4_trustedRegions 38 = .ok (.aload_n 0, 1) := by decide +kernel
theorem dX4_trustedRegions_39 : decode cX4_trustedRegions 39 = .ok (.getfield 29, 3) := by decide +kernel
theorem dX4_trustedRegions_42 : decode cX4_trustedRegions 42 = .ok (.iand, 1) := by decide +kernel
theorem dX4_trustedRegions_43 : decode cX4_trustedRegions 43 = .ok (.ifCond .ne 7, 3) := by decide +kernel
theorem dX4_trustedRegions_46 : decode cX4_trustedRegions 46 = .ok (.iconst 1, 1) := by decide +kernel
theorem dX4_trustedRegions_47 : decode cX4_trustedRegions 47 = .ok (.goto 4, 3) := by decide +kernel
theorem dX4_trustedRegions_50 : decode cX4_trustedRegions 50 = .ok (.iconst 0, 1) := by decide +kernel
theorem dX4_trustedRegions_51 : decode cX4_trustedRegions 51 = .ok (.istore 4, 2) := by decide +kernel
theorem dX4_trustedRegions_53 : decode cX4_trustedRegions 53 = .ok (.iload_n 2, 1) := by decide +kernel
theorem dX4_trustedRegions_54 : decode cX4_trustedRegions 54 = .ok (.iload_n 3, 1) := by decide +kernel
theorem dX4_trustedRegions_55 : decode cX4_trustedRegions 55 = .ok (.iload 4, 2) := by decide +kernel
theorem dX4_trustedRegions_57 : decode cX4_trustedRegions 57 = .ok (.invokestatic 87, 3) := by decide +kernel
theorem dX4_trustedRegions_60 : decode cX4_trustedRegions 60 = .ok (.istore_n 2, 1) := by decide +kernel
theorem dX4_trustedRegions_61 : decode cX4_trustedRegions 61 = .ok (.iinc 3 1, 3) := by decide +kernel
theorem dX4_trustedRegions_64 : decode cX4_trustedRegions 64 = .ok (.goto (-60), 3) := by decide +kernel
theorem dX4_trustedRegions_67 : decode cX4_trustedRegions 67 = .ok (.iload_n 2, 1) := by decide +kernel
theorem dX4_trustedRegions_68 : decode cX4_trustedRegions 68 = .ok (.ireturn, 1) := by decide +kernel
set_option maxRecDepth 20000 in
theorem ggX4_raiseAndCloseAlarms_Jx4a65c_size_8abf5 : GoodIn wsX4_raiseAndCloseAlarms wsJx4a65c_size_8abf5 := goodIn_r _ [11, 12, 140, 141, 142] (by decide +kernel) (by decide +kernel)
set_option maxRecDepth 20000 in
theorem gX4_raiseAndCloseAlarms_Jx4a65c_size_8abf5 : GoodIn wsX4_raiseAndCloseAlarms (wsV RX4 39 RJx4a65c yJx4a65c_size_8abf5 wsJx4a65c_size_8abf5) := goodIn_app (goodIn_of _ (by decide +kernel)) ggX4_raiseAndCloseAlarms_Jx4a65c_size_8abf5
set_option maxRecDepth 20000 in
theorem ggX4_raiseAndCloseAlarms_Jx4a65c_get_915e3 : GoodIn wsX4_raiseAndCloseAlarms wsJx4a65c_get_915e3 := goodIn_r _ [16, 12, 17, 18, 19, 20, 21, 22, 23, 24, 25, 26, 27, 10, 28, 29, 140, 141, 142] (by decide +kernel) (by decide +kernel)
set_option maxRecDepth 20000 in
theorem gX4_raiseAndCloseAlarms_Jx4a65c_get_915e3 : GoodIn wsX4_raiseAndCloseAlarms (wsV RX4 50 RJx4a65c yJx4a65c_get_915e3 wsJx4a65c_get_915e3) := goodIn_app (goodIn_of _ (by decide +kernel)) ggX4_raiseAndCloseAlarms_Jx4a65c_get_915e3
set_option maxRecDepth 20000 in
theorem ggX4_raiseAndCloseAlarms_X4_isMaintained : GoodIn wsX4_raiseAndCloseAlarms wsX4_isMaintained := goodIn_r _ [34, 35, 36, 37, 38, 5, 7, 8, 9, 10, 11, 12, 13, 14, 15, 16, 17, 18, 19, 20, 21, 22, 23, 24, 25, 26, 27, 28, 29, 39, 40, 41, 42, 43, 44, 45, 117, 118, 119, 120, 121, 122, 123, 143, 144, 145, 124, 125, 126, 127, 128, 129, 130, 131, 132, 133, 134, 135, 136, 140, 141, 142] (by decide +kernel) (by decide +kernel)
set_option maxRecDepth 20000 in
theorem gX4_raiseAndCloseAlarms_X4_isMaintained : GoodIn wsX4_raiseAndCloseAlarms (wsV RX4 218 RX4 yX4_isMaintained wsX4_isMaintained) := goodIn_app (goodIn_of _ (by decide +kernel)) ggX4_raiseAndCloseAlarms_X4_isMaintained
set_option maxRecDepth 20000 in
theorem ggX4_raiseAndCloseAlarms_X4_raiseAlarm : GoodIn wsX4_raiseAndCloseAlarms wsX4_raiseAlarm := goodIn_r _ [49, 50, 51, 52, 53, 54, 38, 5, 4, 7, 8, 9, 10, 11, 12, 55, 56, 57, 58, 59, 60, 61, 62, 63, 64, 65, 66, 67, 68, 69, 29, 70, 71, 72, 73, 74, 75, 76, 77, 78, 79, 80, 81, 82, 83, 84, 85, 86, 87, 88, 89, 90, 91, 92, 93, 94, 95, 96, 97, 98, 99, 100, 101, 102, 103, 104, 105, 106, 107, 108, 109, 110, 111, 112, 113, 114, 115, 116, 117, 118, 119, 120, 121, 122, 123, 137, 138, 139, 124, 125, 126, 127, 128, 129, 130, 131, 132, 133, 134, 135, 136, 140, 141, 142] (by decide +kernel) (by decide +kernel)
set_option maxRecDepth 20000 in
theorem gX4_raiseAndCloseAlarms_X4_raiseAlarm : GoodIn wsX4_raiseAndCloseAlarms (wsV RX4 222 RX4 yX4_raiseAlarm wsX4_raiseAlarm) := goodIn_app (goodIn_of _ (by decide +kernel)) ggX4_raiseAndCloseAlarms_X4_raiseAlarm
theorem dX4_raiseAndCloseAlarms_0 : decode cX4_raiseAndCloseAlarms 0 = .ok (.iconst 0, 1) := by decide +kernel
theorem dX4_raiseAndCloseAlarms_1 : decode cX4_raiseAndCloseAlarms 1 = .ok (.istore_n 1, 1) := by decide +kernel
theorem dX4_raiseAndCloseAlarms_2 : decode cX4_raiseAndCloseAlarms 2 = .ok (.iload_n 1, 1) := by decide +kernel
theorem dX4_raiseAndCloseAlarms_3 : decode cX4_raiseAndCloseAlarms 3 = .ok (.aload_n 0, 1) := by decide +kernel
theorem dX4_raiseAndCloseAlarms_4 : decode cX4_raiseAndCloseAlarms 4 = .ok (.getfield 16, 3) := by decide +kernel
theorem dX4_raiseAndCloseAlarms_7 : decode cX4_raiseAndCloseAlarms 7 = .ok (.invokevirtual 39, 3) := by decide +kernel
theorem dX4_raiseAndCloseAlarms_10 : decode cX4_raiseAndCloseAlarms 10 = .ok (.if_icmp .ge 83, 3) := by decide +kernel
theorem dX4_raiseAndCloseAlarms_13 : decode cX4_raiseAndCloseAlarms 13 = .ok (.aload_n 0, 1) := by decide +kernel
theorem dX4_raiseAndCloseAlarms_14 : decode cX4_raiseAndCloseAlarms 14 = .ok (.getfield 16, 3) := by decide +kernel
theorem dX4_raiseAndCloseAlarms_17 : decode cX4_raiseAndCloseAlarms 17 = .ok (.iload_n 1, 1) := by decide +kernel
theorem dX4_raiseAndCloseAlarms_18 : decode cX4_raiseAndCloseAlarms 18 = .ok (.invokevirtual 50, 3) := by decide +kernel
theorem dX4_raiseAndCloseAlarms_21 : decode cX4_raiseAndCloseAlarms 21 = .ok (.checkcast 72, 3) := by decide +kernel
theorem dX4_raiseAndCloseAlarms_24 : decode cX4_raiseAndCloseAlarms 24 = .ok (.astore_n 2, 1) := by decide +kernel
theorem dX4_raiseAndCloseAlarms_25 : decode cX4_raiseAndCloseAlarms 25 = .ok (.aload_n 2, 1) := by decide +kernel
theorem dX4_raiseAndCloseAlarms_26 : decode cX4_raiseAndCloseAlarms 26 = .ok (.getfield 136, 3) := by decide +kernel
theorem dX4_raiseAndCloseAlarms_29 : decode cX4_raiseAndCloseAlarms 29 = .ok (.iconst 2, 1) := by decide +kernel
theorem dX4_raiseAndCloseAlarms_30 : decode cX4_raiseAndCloseAlarms 30 = .ok (.if_icmp .ne 26, 3) := by decide +kernel
theorem dX4_raiseAndCloseAlarms_33 : decode cX4_raiseAndCloseAlarms 33 = .ok (.aload_n 2, 1) := by decide +kernel
theorem dX4_raiseAndCloseAlarms_34 : decode cX4_raiseAndCloseAlarms 34 = .ok (.getfield 143, 3) := by decide +kernel
theorem dX4_raiseAndCloseAlarms_37 : decode cX4_raiseAndCloseAlarms 37 = .ok (.ifnonnull 19, 3) := by decide +kernel
theorem dX4_raiseAndCloseAlarms_40 : decode cX4_raiseAndCloseAlarms 40 = .ok (.aload_n 0, 1) := by decide +kernel
theorem dX4_raiseAndCloseAlarms_41 : decode cX4_raiseAndCloseAlarms 41 = .ok (.aload_n 2, 1) := by decide +kernel
theorem dX4_raiseAndCloseAlarms_42 : decode cX4_raiseAndCloseAlarms 42 = .ok (.invokevirtual 218, 3) := by decide +kernel
theorem dX4_raiseAndCloseAlarms_45 : decode cX4_raiseAndCloseAlarms 45 = .ok (.ifCond .ne 11, 3) := by decide +kernel
theorem dX4_raiseAndCloseAlarms_48 : decode cX4_raiseAndCloseAlarms 48 = .ok (.aload_n 0, 1) := by decide +kernel
theorem dX4_raiseAndCloseAlarms_49 : decode cX4_raiseAndCloseAlarms 49 = .ok (.aload_n 2, 1) := by decide +kernel
theorem dX4_raiseAndCloseAlarms_50 : decode cX4_raiseAndCloseAlarms 50 = .ok (.invokevirtual 222, 3) := by decide +kernel
theorem dX4_raiseAndCloseAlarms_53 : decode cX4_raiseAndCloseAlarms 53 = .ok (.goto 34, 3) := by decide +kernel
theorem dX4_raiseAndCloseAlarms_56 : decode cX4_raiseAndCloseAlarms 56 = .ok (.aload_n 2, 1) := by decide +kernel
theorem dX4_raiseAndCloseAlarms_57 : decode cX4_raiseAndCloseAlarms 57 = .ok (.getfield 136, 3) := by decide +kernel
theorem dX4_raiseAndCloseAlarms_60 : decode cX4_raiseAndCloseAlarms 60 = .ok (.iconst 1, 1) := by decide +kernel
theorem dX4_raiseAndCloseAlarms_61 : decode cX4_raiseAndCloseAlarms 61 = .ok (.if_icmp .ne 26, 3) := by decide +kernel
theorem dX4_raiseAndCloseAlarms_64 : decode cX4_raiseAndCloseAlarms 64 = .ok (.aload_n 2, 1) := by decide +kernel
theorem dX4_raiseAndCloseAlarms_65 : decode cX4_raiseAndCloseAlarms 65 = .ok (.getfield 143, 3) := by decide +kernel
theorem dX4_raiseAndCloseAlarms_68 : decode cX4_raiseAndCloseAlarms 68 = .ok (.ifnull 19, 3) := by decide +kernel
theorem dX4_raiseAndCloseAlarms_71 : decode cX4_raiseAndCloseAlarms 71 = .ok (.aload_n 2, 1) := by decide +kernel
theorem dX4_raiseAndCloseAlarms_72 : decode cX4_raiseAndCloseAlarms 72 = .ok (.getfield 143, 3) := by decide +kernel
theorem dX4_raiseAndCloseAlarms_75 : decode cX4_raiseAndCloseAlarms 75 = .ok (.aload_n 0, 1) := by decide +kernel
theorem dX4_raiseAndCloseAlarms_76 : decode cX4_raiseAndCloseAlarms 76 = .ok (.getfield 32, 3) := by decide +kernel
theorem dX4_raiseAndCloseAlarms_79 : decode cX4_raiseAndCloseAlarms 79 = .ok (.putfield 158, 3) := by decide +kernel
theorem dX4_raiseAndCloseAlarms_82 : decode cX4_raiseAndCloseAlarms 82 = .ok (.aload_n 2, 1) := by decide +kernel
theorem dX4_raiseAndCloseAlarms_83 : decode cX4_raiseAndCloseAlarms 83 = .ok (.aconst_null, 1) := by decide +kernel
theorem dX4_raiseAndCloseAlarms_84 : decode cX4_raiseAndCloseAlarms 84 = .ok (.putfield 143, 3) := by decide +kernel
theorem dX4_raiseAndCloseAlarms_87 : decode cX4_raiseAndCloseAlarms 87 = .ok (.iinc 1 1, 3) := by decide +kernel
theorem dX4_raiseAndCloseAlarms_90 : decode cX4_raiseAndCloseAlarms 90 = .ok (.goto (-88), 3) := by decide +kernel
theorem dX4_raiseAndCloseAlarms_93 : decode cX4_raiseAndCloseAlarms 93 = .ok (.return_, 1) := by decide +kernel
set_option maxRecDepth 20000 in
theorem ggX4_isMaintained_Jx4a65c_size_8abf5 : GoodIn wsX4_isMaintained wsJx4a65c_size_8abf5 := goodIn_r _ [10, 11, 59, 60, 61] (by decide +kernel) (by decide +kernel)
set_option maxRecDepth 20000 in
theorem gX4_isMaintained_Jx4a65c_size_8abf5 : GoodIn wsX4_isMaintained (wsV RX4 39 RJx4a65c yJx4a65c_size_8abf5 wsJx4a65c_size_8abf5) := goodIn_app (goodIn_of _ (by decide +kernel)) ggX4_isMaintained_Jx4a65c_size_8abf5
set_option maxRecDepth 20000 in
theorem ggX4_isMaintained_Jx4a65c_get_915e3 : GoodIn wsX4_isMaintained wsJx4a65c_get_915e3 := goodIn_r _ [15, 11, 16, 17, 18, 19, 20, 21, 22, 23, 24, 25, 26, 9, 27, 28, 59, 60, 61] (by decide +kernel) (by decide +kernel)
set_option maxRecDepth 20000 in
theorem gX4_isMaintained_Jx4a65c_get_915e3 : GoodIn wsX4_isMaintained (wsV RX4 50 RJx4a65c yJx4a65c_get_915e3 wsJx4a65c_get_915e3) := goodIn_app (goodIn_of _ (by decide +kernel)) ggX4_isMaintained_Jx4a65c_get_915e3
set_option maxRecDepth 20000 in
theorem ggX4_isMaintained_X3_contains : GoodIn wsX4_isMaintained wsX3_contains := goodIn_r _ [33, 34, 35, 43, 44, 45] (by decide +kernel) (by decide +kernel)
set_option maxRecDepth 20000 in
theorem gX4_isMaintained_X3_contains : GoodIn wsX4_isMaintained (wsV RX4 228 RX3 yX3_contains wsX3_contains) := goodIn_app (goodIn_of _ (by decide +kernel)) ggX4_isMaintained_X3_contains
theorem dX4_isMaintained_0 : decode cX4_isMaintained 0 = .ok (.iconst 0, 1) := by decide +kernel
theorem dX4_isMaintained_1 : decode cX4_isMaintained 1 = .ok (.istore_n 2, 1) := by decide +kernel
theorem dX4_isMaintained_2 : decode cX4_isMaintained 2 = .ok (.iload_n 2, 1) := by decide +kernel
theorem dX4_isMaintained_3 : decode cX4_isMaintained 3 = .ok (.aload_n 0, 1) := by decide +kernel
theorem dX4_isMaintained_4 : decode cX4_isMaintained 4 = .ok (.getfield 19, 3) := by decide +kernel
theorem dX4_isMaintained_7 : decode cX4_isMaintained 7 = .ok (.invokevirtual 39, 3) := by decide +kernel
theorem dX4_isMaintained_10 : decode cX4_isMaintained 10 = .ok (.if_icmp .ge 45, 3) := by decide +kernel
theorem dX4_isMaintained_13 : decode cX4_isMaintained 13 = .ok (.aload_n 0, 1) := by decide +kernel
theorem dX4_isMaintained_14 : decode cX4_isMaintained 14 = .ok (.getfield 19, 3) := by decide +kernel
theorem dX4_isMaintained_17 : decode cX4_isMaintained 17 = .ok (.iload_n 2, 1) := by decide +kernel
theorem dX4_isMaintained_18 : decode cX4_isMaintained 18 = .ok (.invokevirtual 50, 3) := by decide +kernel
theorem dX4_isMaintained_21 : decode cX4_isMaintained 21 = .ok (.checkcast 97, 3) := by decide +kernel
theorem dX4_isMaintained_24 : decode cX4_isMaintained 24 = .ok (.astore_n 3, 1) := by decide +kernel
theorem dX4_isMaintained_25 : decode cX4_isMaintained 25 = .ok (.aload_n 3, 1) := by decide +kernel
theorem dX4_isMaintained_26 : decode cX4_isMaintained 26 = .ok (.getfield 226, 3) := by decide +kernel
theorem dX4_isMaintained_29 : decode cX4_isMaintained 29 = .ok (.aload_n 1, 1) := by decide +kernel
theorem dX4_isMaintained_30 : decode cX4_isMaintained 30 = .ok (.getfield 227, 3) := by decide +kernel
theorem dX4_isMaintained_33 : decode cX4_isMaintained 33 = .ok (.if_icmp .ne 16, 3) := by decide +kernel
theorem dX4_isMaintained_36 : decode cX4_isMaintained 36 = .ok (.aload_n 3, 1) := by decide +kernel
theorem dX4_isMaintained_37 : decode cX4_isMaintained 37 = .ok (.aload_n 0, 1) := by decide +kernel
theorem dX4_isMaintained_38 : decode cX4_isMaintained 38 = .ok (.getfield 32, 3) := by decide +kernel
theorem dX4_isMaintained_41 : decode cX4_isMaintained 41 = .ok (.invokevirtual 228, 3) := by decide +kernel
theorem dX4_isMaintained_44 : decode cX4_isMaintained 44 = .ok (.ifCond .eq 5, 3) := by decide +kernel
theorem dX4_isMaintained_47 : decode cX4_isMaintained 47 = .ok (.iconst 1, 1) := by decide +kernel
theorem dX4_isMaintained_48 : decode cX4_isMaintained 48 = .ok (.ireturn, 1) := by decide +kernel
theorem dX4_isMaintained_49 : decode cX4_isMaintained 49 = .ok (.iinc 2 1, 3) := by decide +kernel
theorem dX4_isMaintained_52 : decode cX4_isMaintained 52 = .ok (.goto (-50), 3) := by decide +kernel
theorem dX4_isMaintained_55 : decode cX4_isMaintained 55 = .ok (.iconst 0, 1) := by decide +kernel
theorem dX4_isMaintained_56 : decode cX4_isMaintained 56 = .ok (.ireturn, 1) := by decide +kernel
set_option maxRecDepth 20000 in
theorem ggX4_raiseAlarm_Jx4a65c_size_8abf5 : GoodIn wsX4_raiseAlarm wsJx4a65c_size_8abf5 := goodIn_r _ [13, 14, 101, 102, 103] (by decide +kernel) (by decide +kernel)
set_option maxRecDepth 20000 in
theorem gX4_raiseAlarm_Jx4a65c_size_8abf5 : GoodIn wsX4_raiseAlarm (wsV RX4 39 RJx4a65c yJx4a65c_size_8abf5 wsJx4a65c_size_8abf5) := goodIn_app (goodIn_of _ (by decide +kernel)) ggX4_raiseAlarm_Jx4a65c_size_8abf5
set_option maxRecDepth 20000 in
theorem ggX4_raiseAlarm_X0_init : GoodIn wsX4_raiseAlarm wsX0_init := goodIn_r _ [17, 18, 19, 20, 21, 22, 23, 85, 86, 87] (by decide +kernel) (by decide +kernel)
set_option maxRecDepth 20000 in
theorem gX4_raiseAlarm_X0_init : GoodIn wsX4_raiseAlarm (wsX0_init) := ggX4_raiseAlarm_X0_init
set_option maxRecDepth 20000 in
theorem ggX4_raiseAlarm_Jx4a65c_add_9ea2d : GoodIn wsX4_raiseAlarm wsJx4a65c_add_9ea2d := goodIn_r _ [27, 28, 29, 30, 14, 31, 32, 33, 12, 34, 35, 36, 37, 38, 39, 40, 41, 42, 43, 44, 45, 46, 47, 48, 49, 50, 51, 52, 53, 54, 55, 56, 57, 58, 59, 60, 61, 62, 63, 64, 65, 66, 67, 68, 69, 70, 71, 72, 73, 74, 75, 76, 77, 101, 102, 103] (by decide +kernel) (by decide +kernel)
set_option maxRecDepth 20000 in
theorem gX4_raiseAlarm_Jx4a65c_add_9ea2d : GoodIn wsX4_raiseAlarm (wsV RX4 62 RJx4a65c yJx4a65c_add_9ea2d wsJx4a65c_add_9ea2d) := goodIn_app (goodIn_of _ (by decide +kernel)) ggX4_raiseAlarm_Jx4a65c_add_9ea2d
theorem dX4_raiseAlarm_0 : decode cX4_raiseAlarm 0 = .ok (.aload_n 0, 1) := by decide +kernel
theorem dX4_raiseAlarm_1 : decode cX4_raiseAlarm 1 = .ok (.getfield 22, 3) := by decide +kernel
theorem dX4_raiseAlarm_4 : decode cX4_raiseAlarm 4 = .ok (.invokevirtual 39, 3) := by decide +kernel
theorem dX4_raiseAlarm_7 : decode cX4_raiseAlarm 7 = .ok (.ldc 231, 2) := by decide +kernel
theorem dX4_raiseAlarm_9 : decode cX4_raiseAlarm 9 = .ok (.if_icmp .ge 34, 3) := by decide +kernel
theorem dX4_raiseAlarm_12 : decode cX4_raiseAlarm 12 = .ok (.aload_n 1, 1) := by decide +kernel
theorem dX4_raiseAlarm_13 : decode cX4_raiseAlarm 13 = .ok (.new 150, 3) := by decide +kernel
theorem dX4_raiseAlarm_16 : decode cX4_raiseAlarm 16 = .ok (.dup, 1) := by decide +kernel
theorem dX4_raiseAlarm_17 : decode cX4_raiseAlarm 17 = .ok (.aload_n 1, 1) := by decide +kernel
theorem dX4_raiseAlarm_18 : decode cX4_raiseAlarm 18 = .ok (.getfield 227, 3) := by decide +kernel
theorem dX4_raiseAlarm_21 : decode cX4_raiseAlarm 21 = .ok (.aload_n 0, 1) := by decide +kernel
theorem dX4_raiseAlarm_22 : decode cX4_raiseAlarm 22 = .ok (.getfield 32, 3) := by decide +kernel
theorem dX4_raiseAlarm_25 : decode cX4_raiseAlarm 25 = .ok (.invokespecial 232, 3) := by decide +kernel
theorem dX4_raiseAlarm_28 : decode cX4_raiseAlarm 28 = .ok (.putfield 143, 3) := by decide +kernel
theorem dX4_raiseAlarm_31 : decode cX4_raiseAlarm 31 = .ok (.aload_n 0, 1) := by decide +kernel
theorem dX4_raiseAlarm_32 : decode cX4_raiseAlarm 32 = .ok (.getfield 22, 3) := by decide +kernel
theorem dX4_raiseAlarm_35 : decode cX4_raiseAlarm 35 = .ok (.aload_n 1, 1) := by decide +kernel
theorem dX4_raiseAlarm_36 : decode cX4_raiseAlarm 36 = .ok (.getfield 143, 3) := by decide +kernel
theorem dX4_raiseAlarm_39 : decode cX4_raiseAlarm 39 = .ok (.invokevirtual 62, 3) := by decide +kernel
theorem dX4_raiseAlarm_42 : decode cX4_raiseAlarm 42 = .ok (.pop, 1) := by decide +kernel
theorem dX4_raiseAlarm_43 : decode cX4_raiseAlarm 43 = .ok (.return_, 1) := by decide +kernel
set_option maxRecDepth 20000 in
theorem ggX4_countMinute_Jx4a65c_size_8abf5 : GoodIn wsX4_countMinute wsJx4a65c_size_8abf5 := goodIn_r _ [10, 11, 49, 50, 51] (by decide +kernel) (by decide +kernel)
set_option maxRecDepth 20000 in
theorem gX4_countMinute_Jx4a65c_size_8abf5 : GoodIn wsX4_countMinute (wsV RX4 39 RJx4a65c yJx4a65c_size_8abf5 wsJx4a65c_size_8abf5) := goodIn_app (goodIn_of _ (by decide +kernel)) ggX4_countMinute_Jx4a65c_size_8abf5
set_option maxRecDepth 20000 in
theorem ggX4_countMinute_Jx4a65c_get_915e3 : GoodIn wsX4_countMinute wsJx4a65c_get_915e3 := goodIn_r _ [15, 11, 16, 17, 18, 19, 20, 21, 22, 23, 24, 25, 26, 9, 27, 28, 49, 50, 51] (by decide +kernel) (by decide +kernel)
set_option maxRecDepth 20000 in
theorem gX4_countMinute_Jx4a65c_get_915e3 : GoodIn wsX4_countMinute (wsV RX4 50 RJx4a65c yJx4a65c_get_915e3 wsJx4a65c_get_915e3) := goodIn_app (goodIn_of _ (by decide +kernel)) ggX4_countMinute_Jx4a65c_get_915e3
theorem dX4_countMinute_0 : decode cX4_countMinute 0 = .ok (.iconst 0, 1) := by decide +kernel
theorem dX4_countMinute_1 : decode cX4_countMinute 1 = .ok (.istore_n 1, 1) := by decide +kernel
theorem dX4_countMinute_2 : decode cX4_countMinute 2 = .ok (.iload_n 1, 1) := by decide +kernel
theorem dX4_countMinute_3 : decode cX4_countMinute 3 = .ok (.aload_n 0, 1) := by decide +kernel
theorem dX4_countMinute_4 : decode cX4_countMinute 4 = .ok (.getfield 16, 3) := by decide +kernel
theorem dX4_countMinute_7 : decode cX4_countMinute 7 = .ok (.invokevirtual 39, 3) := by decide +kernel
theorem dX4_countMinute_10 : decode cX4_countMinute 10 = .ok (.if_icmp .ge 56, 3) := by decide +kernel
theorem dX4_countMinute_13 : decode cX4_countMinute 13 = .ok (.aload_n 0, 1) := by decide +kernel
theorem dX4_countMinute_14 : decode cX4_countMinute 14 = .ok (.getfield 16, 3) := by decide +kernel
theorem dX4_countMinute_17 : decode cX4_countMinute 17 = .ok (.iload_n 1, 1) := by decide +kernel
theorem dX4_countMinute_18 : decode cX4_countMinute 18 = .ok (.invokevirtual 50, 3) := by decide +kernel
theorem dX4_countMinute_21 : decode cX4_countMinute 21 = .ok (.checkcast 72, 3) := by decide +kernel
theorem dX4_countMinute_24 : decode cX4_countMinute 24 = .ok (.astore_n 2, 1) := by decide +kernel
theorem dX4_countMinute_25 : decode cX4_countMinute 25 = .ok (.aload_n 2, 1) := by decide +kernel
theorem dX4_countMinute_26 : decode cX4_countMinute 26 = .ok (.getfield 136, 3) := by decide +kernel
theorem dX4_countMinute_29 : decode cX4_countMinute 29 = .ok (.ifCond .eq 13, 3) := by decide +kernel
theorem dX4_countMinute_32 : decode cX4_countMinute 32 = .ok (.aload_n 2, 1) := by decide +kernel
theorem dX4_countMinute_33 : decode cX4_countMinute 33 = .ok (.dup, 1) := by decide +kernel
theorem dX4_countMinute_34 : decode cX4_countMinute 34 = .ok (.getfield 161, 3) := by decide +kernel
theorem dX4_countMinute_37 : decode cX4_countMinute 37 = .ok (.iconst 1, 1) := by decide +kernel
theorem dX4_countMinute_38 : decode cX4_countMinute 38 = .ok (.iadd, 1) := by decide +kernel
theorem dX4_countMinute_39 : decode cX4_countMinute 39 = .ok (.putfield 161, 3) := by decide +kernel
theorem dX4_countMinute_42 : decode cX4_countMinute 42 = .ok (.aload_n 2, 1) := by decide +kernel
theorem dX4_countMinute_43 : decode cX4_countMinute 43 = .ok (.getfield 136, 3) := by decide +kernel
theorem dX4_countMinute_46 : decode cX4_countMinute 46 = .ok (.iconst 1, 1) := by decide +kernel
theorem dX4_countMinute_47 : decode cX4_countMinute 47 = .ok (.if_icmp .ne 13, 3) := by decide +kernel
theorem dX4_countMinute_50 : decode cX4_countMinute 50 = .ok (.aload_n 2, 1) := by decide +kernel
theorem dX4_countMinute_51 : decode cX4_countMinute 51 = .ok (.dup, 1) := by decide +kernel
theorem dX4_countMinute_52 : decode cX4_countMinute 52 = .ok (.getfield 166, 3) := by decide +kernel
theorem dX4_countMinute_55 : decode cX4_countMinute 55 = .ok (.iconst 1, 1) := by decide +kernel
theorem dX4_countMinute_56 : decode cX4_countMinute 56 = .ok (.iadd, 1) := by decide +kernel
theorem dX4_countMinute_57 : decode cX4_countMinute 57 = .ok (.putfield 166, 3) := by decide +kernel
theorem dX4_countMinute_60 : decode cX4_countMinute 60 = .ok (.iinc 1 1, 3) := by decide +kernel
theorem dX4_countMinute_63 : decode cX4_countMinute 63 = .ok (.goto (-61), 3) := by decide +kernel
theorem dX4_countMinute_66 : decode cX4_countMinute 66 = .ok (.return_, 1) := by decide +kernel
end
section
theorem dX5_init_0 : decode cX5_init 0 = .ok (.aload_n 0, 1) := by decide +kernel
theorem dX5_init_1 : decode cX5_init 1 = .ok (.invokespecial 1, 3) := by decide +kernel
theorem dX5_init_4 : decode cX5_init 4 = .ok (.aload_n 0, 1) := by decide +kernel
theorem dX5_init_5 : decode cX5_init 5 = .ok (.bipush 6, 2) := by decide +kernel
theorem dX5_init_7 : decode cX5_init 7 = .ok (.newarray .int, 2) := by decide +kernel
theorem dX5_init_9 : decode cX5_init 9 = .ok (.putfield 7, 3) := by decide +kernel
theorem dX5_init_12 : decode cX5_init 12 = .ok (.aload_n 0, 1) := by decide +kernel
theorem dX5_init_13 : decode cX5_init 13 = .ok (.bipush 6, 2) := by decide +kernel
theorem dX5_init_15 : decode cX5_init 15 = .ok (.newarray .boolean, 2) := by decide +kernel
theorem dX5_init_17 : decode cX5_init 17 = .ok (.putfield 13, 3) := by decide +kernel
theorem dX5_init_20 : decode cX5_init 20 = .ok (.aload_n 0, 1) := by decide +kernel
theorem dX5_init_21 : decode cX5_init 21 = .ok (.bipush 6, 2) := by decide +kernel
theorem dX5_init_23 : decode cX5_init 23 = .ok (.newarray .boolean, 2) := by decide +kernel
theorem dX5_init_25 : decode cX5_init 25 = .ok (.putfield 17, 3) := by decide +kernel
theorem dX5_init_28 : decode cX5_init 28 = .ok (.aload_n 0, 1) := by decide +kernel
theorem dX5_init_29 : decode cX5_init 29 = .ok (.bipush 6, 2) := by decide +kernel
theorem dX5_init_31 : decode cX5_init 31 = .ok (.newarray .int, 2) := by decide +kernel
theorem dX5_init_33 : decode cX5_init 33 = .ok (.putfield 20, 3) := by decide +kernel
theorem dX5_init_36 : decode cX5_init 36 = .ok (.aload_n 0, 1) := by decide +kernel
theorem dX5_init_37 : decode cX5_init 37 = .ok (.bipush 6, 2) := by decide +kernel
theorem dX5_init_39 : decode cX5_init 39 = .ok (.newarray .int, 2) := by decide +kernel
theorem dX5_init_41 : decode cX5_init 41 = .ok (.putfield 23, 3) := by decide +kernel
theorem dX5_init_44 : decode cX5_init 44 = .ok (.aload_n 0, 1) := by decide +kernel
theorem dX5_init_45 : decode cX5_init 45 = .ok (.bipush 8, 2) := by decide +kernel
theorem dX5_init_47 : decode cX5_init 47 = .ok (.newarray .int, 2) := by decide +kernel
theorem dX5_init_49 : decode cX5_init 49 = .ok (.putfield 26, 3) := by decide +kernel
theorem dX5_init_52 : decode cX5_init 52 = .ok (.aload_n 0, 1) := by decide +kernel
theorem dX5_init_53 : decode cX5_init 53 = .ok (.bipush 8, 2) := by decide +kernel
theorem dX5_init_55 : decode cX5_init 55 = .ok (.newarray .int, 2) := by decide +kernel
theorem dX5_init_57 : decode cX5_init 57 = .ok (.putfield 29, 3) := by decide +kernel
theorem dX5_init_60 : decode cX5_init 60 = .ok (.aload_n 0, 1) := by decide +kernel
theorem dX5_init_61 : decode cX5_init 61 = .ok (.bipush 8, 2) := by decide +kernel
theorem dX5_init_63 : decode cX5_init 63 = .ok (.newarray .int, 2) := by decide +kernel
theorem dX5_init_65 : decode cX5_init 65 = .ok (.putfield 32, 3) := by decide +kernel
theorem dX5_init_68 : decode cX5_init 68 = .ok (.aload_n 0, 1) := by decide +kernel
theorem dX5_init_69 : decode cX5_init 69 = .ok (.bipush 8, 2) := by decide +kernel
theorem dX5_init_71 : decode cX5_init 71 = .ok (.newarray .int, 2) := by decide +kernel
theorem dX5_init_73 : decode cX5_init 73 = .ok (.putfield 35, 3) := by decide +kernel
theorem dX5_init_76 : decode cX5_init 76 = .ok (.aload_n 0, 1) := by decide +kernel
theorem dX5_init_77 : decode cX5_init 77 = .ok (.bipush 8, 2) := by decide +kernel
theorem dX5_init_79 : decode cX5_init 79 = .ok (.newarray .int, 2) := by decide +kernel
theorem dX5_init_81 : decode cX5_init 81 = .ok (.putfield 38, 3) := by decide +kernel
theorem dX5_init_84 : decode cX5_init 84 = .ok (.aload_n 0, 1) := by decide +kernel
theorem dX5_init_85 : decode cX5_init 85 = .ok (.bipush 8, 2) := by decide +kernel
theorem dX5_init_87 : decode cX5_init 87 = .ok (.newarray .int, 2) := by decide +kernel
theorem dX5_init_89 : decode cX5_init 89 = .ok (.putfield 41, 3) := by decide +kernel
theorem dX5_init_92 : decode cX5_init 92 = .ok (.aload_n 0, 1) := by decide +kernel
theorem dX5_init_93 : decode cX5_init 93 = .ok (.bipush 8, 2) := by decide +kernel
theorem dX5_init_95 : decode cX5_init 95 = .ok (.newarray .int, 2) := by decide +kernel
theorem dX5_init_97 : decode cX5_init 97 = .ok (.putfield 44, 3) := by decide +kernel
theorem dX5_init_100 : decode cX5_init 100 = .ok (.aload_n 0, 1) := by decide +kernel
theorem dX5_init_101 : decode cX5_init 101 = .ok (.bipush 8, 2) := by decide +kernel
theorem dX5_init_103 : decode cX5_init 103 = .ok (.newarray .int, 2) := by decide +kernel
theorem dX5_init_105 : decode cX5_init 105 = .ok (.putfield 47, 3) := by decide +kernel
theorem dX5_init_108 : decode cX5_init 108 = .ok (.aload_n 0, 1) := by decide +kernel
theorem dX5_init_109 : decode cX5_init 109 = .ok (.bipush 48, 2) := by decide +kernel
theorem dX5_init_111 : decode cX5_init 111 = .ok (.newarray .boolean, 2) := by decide +kernel
theorem dX5_init_113 : decode cX5_init 113 = .ok (.putfield 50, 3) := by decide +kernel
theorem dX5_init_116 : decode cX5_init 116 = .ok (.aload_n 0, 1) := by decide +kernel
theorem dX5_init_117 : decode cX5_init 117 = .ok (.bipush 48, 2) := by decide +kernel
theorem dX5_init_119 : decode cX5_init 119 = .ok (.newarray .int, 2) := by decide +kernel
theorem dX5_init_121 : decode cX5_init 121 = .ok (.putfield 53, 3) := by decide +kernel
theorem dX5_init_124 : decode cX5_init 124 = .ok (.aload_n 0, 1) := by decide +kernel
theorem dX5_init_125 : decode cX5_init 125 = .ok (.bipush 48, 2) := by decide +kernel
theorem dX5_init_127 : decode cX5_init 127 = .ok (.newarray .int, 2) := by decide +kernel
theorem dX5_init_129 : decode cX5_init 129 = .ok (.putfield 56, 3) := by decide +kernel
theorem dX5_init_132 : decode cX5_init 132 = .ok (.aload_n 0, 1) := by decide +kernel
theorem dX5_init_133 : decode cX5_init 133 = .ok (.bipush 48, 2) := by decide +kernel
theorem dX5_init_135 : decode cX5_init 135 = .ok (.newarray .int, 2) := by decide +kernel
theorem dX5_init_137 : decode cX5_init 137 = .ok (.putfield 59, 3) := by decide +kernel
theorem dX5_init_140 : decode cX5_init 140 = .ok (.aload_n 0, 1) := by decide +kernel
theorem dX5_init_141 : decode cX5_init 141 = .ok (.bipush 12, 2) := by decide +kernel
theorem dX5_init_143 : decode cX5_init 143 = .ok (.newarray .int, 2) := by decide +kernel
theorem dX5_init_145 : decode cX5_init 145 = .ok (.putfield 62, 3) := by decide +kernel
theorem dX5_init_148 : decode cX5_init 148 = .ok (.aload_n 0, 1) := by decide +kernel
theorem dX5_init_149 : decode cX5_init 149 = .ok (.bipush 12, 2) := by decide +kernel
theorem dX5_init_151 : decode cX5_init 151 = .ok (.newarray .int, 2) := by decide +kernel
theorem dX5_init_153 : decode cX5_init 153 = .ok (.putfield 65, 3) := by decide +kernel
theorem dX5_init_156 : decode cX5_init 156 = .ok (.aload_n 0, 1) := by decide +kernel
theorem dX5_init_157 : decode cX5_init 157 = .ok (.bipush 12, 2) := by decide +kernel
theorem dX5_init_159 : decode cX5_init 159 = .ok (.newarray .int, 2) := by decide +kernel
theorem dX5_init_161 : decode cX5_init 161 = .ok (.putfield 68, 3) := by decide +kernel
theorem dX5_init_164 : decode cX5_init 164 = .ok (.aload_n 0, 1) := by decide +kernel
theorem dX5_init_165 : decode cX5_init 165 = .ok (.ldc 71, 2) := by decide +kernel
theorem dX5_init_167 : decode cX5_init 167 = .ok (.newarray .int, 2) := by decide +kernel
theorem dX5_init_169 : decode cX5_init 169 = .ok (.putfield 72, 3) := by decide +kernel
theorem dX5_init_172 : decode cX5_init 172 = .ok (.aload_n 0, 1) := by decide +kernel
theorem dX5_init_173 : decode cX5_init 173 = .ok (.ldc 71, 2) := by decide +kernel
theorem dX5_init_175 : decode cX5_init 175 = .ok (.newarray .int, 2) := by decide +kernel
theorem dX5_init_177 : decode cX5_init 177 = .ok (.putfield 75, 3) := by decide +kernel
theorem dX5_init_180 : decode cX5_init 180 = .ok (.return_, 1) := by decide +kernel
theorem dX5_thrown_0 : decode cX5_thrown 0 = .ok (.aload_n 0, 1) := by decide +kernel
theorem dX5_thrown_1 : decode cX5_thrown 1 = .ok (.getfield 78, 3) := by decide +kernel
theorem dX5_thrown_4 : decode cX5_thrown 4 = .ok (.ireturn, 1) := by decide +kernel
theorem dX5_isIn_0 : decode cX5_isIn 0 = .ok (.iload_n 0, 1) := by decide +kernel
theorem dX5_isIn_1 : decode cX5_isIn 1 = .ok (.iload_n 1, 1) := by decide +kernel
theorem dX5_isIn_2 : decode cX5_isIn 2 = .ok (.if_icmp .lt 12, 3) := by decide +kernel
theorem dX5_isIn_5 : decode cX5_isIn 5 = .ok (.iload_n 0, 1) := by decide +kernel
theorem dX5_isIn_6 : decode cX5_isIn 6 = .ok (.iload_n 2, 1) := by decide +kernel
theorem dX5_isIn_7 : decode cX5_isIn 7 = .ok (.if_icmp .gt 7, 3) := by decide +kernel
theorem dX5_isIn_10 : decode cX5_isIn 10 = .ok (.iconst 1, 1) := by decide +kernel
theorem dX5_isIn_11 : decode cX5_isIn 11 = .ok (.goto 4, 3) := by decide +kernel
theorem dX5_isIn_14 : decode cX5_isIn 14 = .ok (.iconst 0, 1) := by decide +kernel
theorem dX5_isIn_15 : decode cX5_isIn 15 = .ok (.ireturn, 1) := by decide +kernel
set_option maxRecDepth 20000 in
theorem ggX5_isRegion_X5_isIn : GoodIn wsX5_isRegion wsX5_isIn := goodIn_r _ [5] (by decide +kernel) (by decide +kernel)
set_option maxRecDepth 20000 in
theorem gX5_isRegion_X5_isIn : GoodIn wsX5_isRegion (va_wsS RX5 85 yX5_isIn wsX5_isIn) := goodIn_app (goodIn_of _ (by decide +kernel)) ggX5_isRegion_X5_isIn
theorem dX5_isRegion_0 : decode cX5_isRegion 0 = .ok (.iload_n 1, 1) := by decide +kernel
theorem dX5_isRegion_1 : decode cX5_isRegion 1 = .ok (.iconst 0, 1) := by decide +kernel
theorem dX5_isRegion_2 : decode cX5_isRegion 2 = .ok (.aload_n 0, 1) := by decide +kernel
theorem dX5_isRegion_3 : decode cX5_isRegion 3 = .ok (.getfield 82, 3) := by decide +kernel
theorem dX5_isRegion_6 : decode cX5_isRegion 6 = .ok (.iconst 1, 1) := by decide +kernel
theorem dX5_isRegion_7 : decode cX5_isRegion 7 = .ok (.isub, 1) := by decide +kernel
theorem dX5_isRegion_8 : decode cX5_isRegion 8 = .ok (.invokestatic 85, 3) := by decide +kernel
theorem dX5_isRegion_11 : decode cX5_isRegion 11 = .ok (.ireturn, 1) := by decide +kernel
set_option maxRecDepth 20000 in
theorem ggX5_isCheck_X5_isIn : GoodIn wsX5_isCheck wsX5_isIn := goodIn_r _ [5] (by decide +kernel) (by decide +kernel)
set_option maxRecDepth 20000 in
theorem gX5_isCheck_X5_isIn : GoodIn wsX5_isCheck (va_wsS RX5 85 yX5_isIn wsX5_isIn) := goodIn_app (goodIn_of _ (by decide +kernel)) ggX5_isCheck_X5_isIn
theorem dX5_isCheck_0 : decode cX5_isCheck 0 = .ok (.iload_n 1, 1) := by decide +kernel
theorem dX5_isCheck_1 : decode cX5_isCheck 1 = .ok (.iconst 0, 1) := by decide +kernel
theorem dX5_isCheck_2 : decode cX5_isCheck 2 = .ok (.aload_n 0, 1) := by decide +kernel
theorem dX5_isCheck_3 : decode cX5_isCheck 3 = .ok (.getfield 89, 3) := by decide +kernel
theorem dX5_isCheck_6 : decode cX5_isCheck 6 = .ok (.iconst 1, 1) := by decide +kernel
theorem dX5_isCheck_7 : decode cX5_isCheck 7 = .ok (.isub, 1) := by decide +kernel
theorem dX5_isCheck_8 : decode cX5_isCheck 8 = .ok (.invokestatic 85, 3) := by decide +kernel
theorem dX5_isCheck_11 : decode cX5_isCheck 11 = .ok (.ireturn, 1) := by decide +kernel
set_option maxRecDepth 20000 in
theorem ggX5_addRegion_X5_isRegion : GoodIn wsX5_addRegion wsX5_isRegion := goodIn_r _ [8, 1, 9, 10, 7, 11, 12, 13, 14, 15, 16, 17, 18, 19, 20, 21, 22, 23, 24, 25, 26, 27, 28, 29, 30, 31, 32, 33, 34, 35, 36, 37, 38, 39] (by decide +kernel) (by decide +kernel)
set_option maxRecDepth 20000 in
theorem gX5_addRegion_X5_isRegion : GoodIn wsX5_addRegion (wsV RX5 92 RX5 yX5_isRegion wsX5_isRegion) := goodIn_app (goodIn_of _ (by decide +kernel)) ggX5_addRegion_X5_isRegion
theorem dX5_addRegion_0 : decode cX5_addRegion 0 = .ok (.aload_n 0, 1) := by decide +kernel
theorem dX5_addRegion_1 : decode cX5_addRegion 1 = .ok (.iload_n 1, 1) := by decide +kernel
theorem dX5_addRegion_2 : decode cX5_addRegion 2 = .ok (.iconst (-1), 1) := by decide +kernel
theorem dX5_addRegion_3 : decode cX5_addRegion 3 = .ok (.if_icmp .eq 15, 3) := by decide +kernel
theorem dX5_addRegion_6 : decode cX5_addRegion 6 = .ok (.aload_n 0, 1) := by decide +kernel
theorem dX5_addRegion_7 : decode cX5_addRegion 7 = .ok (.iload_n 1, 1) := by decide +kernel
theorem dX5_addRegion_8 : decode cX5_addRegion 8 = .ok (.invokevirtual 92, 3) := by decide +kernel
theorem dX5_addRegion_11 : decode cX5_addRegion 11 = .ok (.ifCond .ne 7, 3) := by decide +kernel
theorem dX5_addRegion_14 : decode cX5_addRegion 14 = .ok (.iconst 1, 1) := by decide +kernel
theorem dX5_addRegion_15 : decode cX5_addRegion 15 = .ok (.goto 17, 3) := by decide +kernel
theorem dX5_addRegion_18 : decode cX5_addRegion 18 = .ok (.aload_n 0, 1) := by decide +kernel
theorem dX5_addRegion_19 : decode cX5_addRegion 19 = .ok (.getfield 82, 3) := by decide +kernel
theorem dX5_addRegion_22 : decode cX5_addRegion 22 = .ok (.bipush 6, 2) := by decide +kernel
theorem dX5_addRegion_24 : decode cX5_addRegion 24 = .ok (.if_icmp .ne 7, 3) := by decide +kernel
theorem dX5_addRegion_27 : decode cX5_addRegion 27 = .ok (.iconst 2, 1) := by decide +kernel
theorem dX5_addRegion_28 : decode cX5_addRegion 28 = .ok (.goto 4, 3) := by decide +kernel
theorem dX5_addRegion_31 : decode cX5_addRegion 31 = .ok (.iconst 0, 1) := by decide +kernel
theorem dX5_addRegion_32 : decode cX5_addRegion 32 = .ok (.putfield 78, 3) := by decide +kernel
theorem dX5_addRegion_35 : decode cX5_addRegion 35 = .ok (.aload_n 0, 1) := by decide +kernel
theorem dX5_addRegion_36 : decode cX5_addRegion 36 = .ok (.getfield 78, 3) := by decide +kernel
theorem dX5_addRegion_39 : decode cX5_addRegion 39 = .ok (.ifCond .le 5, 3) := by decide +kernel
theorem dX5_addRegion_42 : decode cX5_addRegion 42 = .ok (.iconst 0, 1) := by decide +kernel
theorem dX5_addRegion_43 : decode cX5_addRegion 43 = .ok (.ireturn, 1) := by decide +kernel
theorem dX5_addRegion_44 : decode cX5_addRegion 44 = .ok (.aload_n 0, 1) := by decide +kernel
theorem dX5_addRegion_45 : decode cX5_addRegion 45 = .ok (.getfield 7, 3) := by decide +kernel
theorem dX5_addRegion_48 : decode cX5_addRegion 48 = .ok (.aload_n 0, 1) := by decide +kernel
theorem dX5_addRegion_49 : decode cX5_addRegion 49 = .ok (.getfield 82, 3) := by decide +kernel
theorem dX5_addRegion_52 : decode cX5_addRegion 52 = .ok (.iload_n 1, 1) := by decide +kernel
theorem dX5_addRegion_53 : decode cX5_addRegion 53 = .ok (.iastore, 1) := by decide +kernel
theorem dX5_addRegion_54 : decode cX5_addRegion 54 = .ok (.aload_n 0, 1) := by decide +kernel
theorem dX5_addRegion_55 : decode cX5_addRegion 55 = .ok (.dup, 1) := by decide +kernel
theorem dX5_addRegion_56 : decode cX5_addRegion 56 = .ok (.getfield 82, 3) := by decide +kernel
theorem dX5_addRegion_59 : decode cX5_addRegion 59 = .ok (.iconst 1, 1) := by decide +kernel
theorem dX5_addRegion_60 : decode cX5_addRegion 60 = .ok (.iadd, 1) := by decide +kernel
theorem dX5_addRegion_61 : decode cX5_addRegion 61 = .ok (.putfield 82, 3) := by decide +kernel
theorem dX5_addRegion_64 : decode cX5_addRegion 64 = .ok (.aload_n 0, 1) := by decide +kernel
theorem dX5_addRegion_65 : decode cX5_addRegion 65 = .ok (.getfield 82, 3) := by decide +kernel
theorem dX5_addRegion_68 : decode cX5_addRegion 68 = .ok (.iconst 1, 1) := by decide +kernel
theorem dX5_addRegion_69 : decode cX5_addRegion 69 = .ok (.isub, 1) := by decide +kernel
theorem dX5_addRegion_70 : decode cX5_addRegion 70 = .ok (.ireturn, 1) := by decide +kernel
set_option maxRecDepth 20000 in
theorem ggX5_addCheck_X5_isIn : GoodIn wsX5_addCheck wsX5_isIn := goodIn_r _ [11] (by decide +kernel) (by decide +kernel)
set_option maxRecDepth 20000 in
theorem gX5_addCheck_X5_isIn : GoodIn wsX5_addCheck (va_wsS RX5 85 yX5_isIn wsX5_isIn) := goodIn_app (goodIn_of _ (by decide +kernel)) ggX5_addCheck_X5_isIn
theorem dX5_addCheck_0 : decode cX5_addCheck 0 = .ok (.iload_n 1, 1) := by decide +kernel
theorem dX5_addCheck_1 : decode cX5_addCheck 1 = .ok (.iconst 1, 1) := by decide +kernel
theorem dX5_addCheck_2 : decode cX5_addCheck 2 = .ok (.bipush 60, 2) := by decide +kernel
theorem dX5_addCheck_4 : decode cX5_addCheck 4 = .ok (.invokestatic 85, 3) := by decide +kernel
theorem dX5_addCheck_7 : decode cX5_addCheck 7 = .ok (.ifCond .eq 38, 3) := by decide +kernel
theorem dX5_addCheck_10 : decode cX5_addCheck 10 = .ok (.iload_n 2, 1) := by decide +kernel
theorem dX5_addCheck_11 : decode cX5_addCheck 11 = .ok (.iconst 0, 1) := by decide +kernel
theorem dX5_addCheck_12 : decode cX5_addCheck 12 = .ok (.sipush 1000, 3) := by decide +kernel
theorem dX5_addCheck_15 : decode cX5_addCheck 15 = .ok (.invokestatic 85, 3) := by decide +kernel
theorem dX5_addCheck_18 : decode cX5_addCheck 18 = .ok (.ifCond .eq 27, 3) := by decide +kernel
theorem dX5_addCheck_21 : decode cX5_addCheck 21 = .ok (.iload_n 3, 1) := by decide +kernel
theorem dX5_addCheck_22 : decode cX5_addCheck 22 = .ok (.iconst 0, 1) := by decide +kernel
theorem dX5_addCheck_23 : decode cX5_addCheck 23 = .ok (.iconst 3, 1) := by decide +kernel
theorem dX5_addCheck_24 : decode cX5_addCheck 24 = .ok (.invokestatic 85, 3) := by decide +kernel
theorem dX5_addCheck_27 : decode cX5_addCheck 27 = .ok (.ifCond .eq 18, 3) := by decide +kernel
theorem dX5_addCheck_30 : decode cX5_addCheck 30 = .ok (.iload 4, 2) := by decide +kernel
theorem dX5_addCheck_32 : decode cX5_addCheck 32 = .ok (.iconst 1, 1) := by decide +kernel
theorem dX5_addCheck_33 : decode cX5_addCheck 33 = .ok (.bipush 6, 2) := by decide +kernel
theorem dX5_addCheck_35 : decode cX5_addCheck 35 = .ok (.invokestatic 85, 3) := by decide +kernel
theorem dX5_addCheck_38 : decode cX5_addCheck 38 = .ok (.ifCond .eq 7, 3) := by decide +kernel
theorem dX5_addCheck_41 : decode cX5_addCheck 41 = .ok (.iconst 1, 1) := by decide +kernel
theorem dX5_addCheck_42 : decode cX5_addCheck 42 = .ok (.goto 4, 3) := by decide +kernel
theorem dX5_addCheck_45 : decode cX5_addCheck 45 = .ok (.iconst 0, 1) := by decide +kernel
theorem dX5_addCheck_46 : decode cX5_addCheck 46 = .ok (.istore 5, 2) := by decide +kernel
theorem dX5_addCheck_48 : decode cX5_addCheck 48 = .ok (.aload_n 0, 1) := by decide +kernel
theorem dX5_addCheck_49 : decode cX5_addCheck 49 = .ok (.iload 5, 2) := by decide +kernel
theorem dX5_addCheck_51 : decode cX5_addCheck 51 = .ok (.ifCond .ne 7, 3) := by decide +kernel
theorem dX5_addCheck_54 : decode cX5_addCheck 54 = .ok (.iconst 1, 1) := by decide +kernel
theorem dX5_addCheck_55 : decode cX5_addCheck 55 = .ok (.goto 17, 3) := by decide +kernel
theorem dX5_addCheck_58 : decode cX5_addCheck 58 = .ok (.aload_n 0, 1) := by decide +kernel
theorem dX5_addCheck_59 : decode cX5_addCheck 59 = .ok (.getfield 89, 3) := by decide +kernel
theorem dX5_addCheck_62 : decode cX5_addCheck 62 = .ok (.bipush 8, 2) := by decide +kernel
theorem dX5_addCheck_64 : decode cX5_addCheck 64 = .ok (.if_icmp .ne 7, 3) := by decide +kernel
theorem dX5_addCheck_67 : decode cX5_addCheck 67 = .ok (.iconst 2, 1) := by decide +kernel
theorem dX5_addCheck_68 : decode cX5_addCheck 68 = .ok (.goto 4, 3) := by decide +kernel
theorem dX5_addCheck_71 : decode cX5_addCheck 71 = .ok (.iconst 0, 1) := by decide +kernel
theorem dX5_addCheck_72 : decode cX5_addCheck 72 = .ok (.putfield 78, 3) := by decide +kernel
theorem dX5_addCheck_75 : decode cX5_addCheck 75 = .ok (.aload_n 0, 1) := by decide +kernel
theorem dX5_addCheck_76 : decode cX5_addCheck 76 = .ok (.getfield 78, 3) := by decide +kernel
theorem dX5_addCheck_79 : decode cX5_addCheck 79 = .ok (.ifCond .le 5, 3) := by decide +kernel
theorem dX5_addCheck_82 : decode cX5_addCheck 82 = .ok (.iconst 0, 1) := by decide +kernel
theorem dX5_addCheck_83 : decode cX5_addCheck 83 = .ok (.ireturn, 1) := by decide +kernel
theorem dX5_addCheck_84 : decode cX5_addCheck 84 = .ok (.aload_n 0, 1) := by decide +kernel
theorem dX5_addCheck_85 : decode cX5_addCheck 85 = .ok (.getfield 26, 3) := by decide +kernel
theorem dX5_addCheck_88 : decode cX5_addCheck 88 = .ok (.aload_n 0, 1) := by decide +kernel
theorem dX5_addCheck_89 : decode cX5_addCheck 89 = .ok (.getfield 89, 3) := by decide +kernel
theorem dX5_addCheck_92 : decode cX5_addCheck 92 = .ok (.iload_n 1, 1) := by decide +kernel
theorem dX5_addCheck_93 : decode cX5_addCheck 93 = .ok (.iastore, 1) := by decide +kernel
theorem dX5_addCheck_94 : decode cX5_addCheck 94 = .ok (.aload_n 0, 1) := by decide +kernel
theorem dX5_addCheck_95 : decode cX5_addCheck 95 = .ok (.getfield 29, 3) := by decide +kernel
theorem dX5_addCheck_98 : decode cX5_addCheck 98 = .ok (.aload_n 0, 1) := by decide +kernel
theorem dX5_addCheck_99 : decode cX5_addCheck 99 = .ok (.getfield 89, 3) := by decide +kernel
theorem dX5_addCheck_102 : decode cX5_addCheck 102 = .ok (.iload_n 2, 1) := by decide +kernel
theorem dX5_addCheck_103 : decode cX5_addCheck 103 = .ok (.iastore, 1) := by decide +kernel
theorem dX5_addCheck_104 : decode cX5_addCheck 104 = .ok (.aload_n 0, 1) := by decide +kernel
theorem dX5_addCheck_105 : decode cX5_addCheck 105 = .ok (.getfield 32, 3) := by decide +kernel
theorem dX5_addCheck_108 : decode cX5_addCheck 108 = .ok (.aload_n 0, 1) := by decide +kernel
theorem dX5_addCheck_109 : decode cX5_addCheck 109 = .ok (.getfield 89, 3) := by decide +kernel
theorem dX5_addCheck_112 : decode cX5_addCheck 112 = .ok (.iload_n 3, 1) := by decide +kernel
theorem dX5_addCheck_113 : decode cX5_addCheck 113 = .ok (.iastore, 1) := by decide +kernel
theorem dX5_addCheck_114 : decode cX5_addCheck 114 = .ok (.aload_n 0, 1) := by decide +kernel
theorem dX5_addCheck_115 : decode cX5_addCheck 115 = .ok (.getfield 35, 3) := by decide +kernel
theorem dX5_addCheck_118 : decode cX5_addCheck 118 = .ok (.aload_n 0, 1) := by decide +kernel
theorem dX5_addCheck_119 : decode cX5_addCheck 119 = .ok (.getfield 89, 3) := by decide +kernel
theorem dX5_addCheck_122 : decode cX5_addCheck 122 = .ok (.iload 4, 2) := by decide +kernel
theorem dX5_addCheck_124 : decode cX5_addCheck 124 = .ok (.iastore, 1) := by decide +kernel
theorem dX5_addCheck_125 : decode cX5_addCheck 125 = .ok (.aload_n 0, 1) := by decide +kernel
theorem dX5_addCheck_126 : decode cX5_addCheck 126 = .ok (.getfield 41, 3) := by decide +kernel
theorem dX5_addCheck_129 : decode cX5_addCheck 129 = .ok (.aload_n 0, 1) := by decide +kernel
theorem dX5_addCheck_130 : decode cX5_addCheck 130 = .ok (.getfield 89, 3) := by decide +kernel
theorem dX5_addCheck_133 : decode cX5_addCheck 133 = .ok (.iconst (-1), 1) := by decide +kernel
theorem dX5_addCheck_134 : decode cX5_addCheck 134 = .ok (.iastore, 1) := by decide +kernel
theorem dX5_addCheck_135 : decode cX5_addCheck 135 = .ok (.aload_n 0, 1) := by decide +kernel
theorem dX5_addCheck_136 : decode cX5_addCheck 136 = .ok (.dup, 1) := by decide +kernel
theorem dX5_addCheck_137 : decode cX5_addCheck 137 = .ok (.getfield 89, 3) := by decide +kernel
theorem dX5_addCheck_140 : decode cX5_addCheck 140 = .ok (.iconst 1, 1) := by decide +kernel
theorem dX5_addCheck_141 : decode cX5_addCheck 141 = .ok (.iadd, 1) := by decide +kernel
theorem dX5_addCheck_142 : decode cX5_addCheck 142 = .ok (.putfield 89, 3) := by decide +kernel
theorem dX5_addCheck_145 : decode cX5_addCheck 145 = .ok (.aload_n 0, 1) := by decide +kernel
theorem dX5_addCheck_146 : decode cX5_addCheck 146 = .ok (.getfield 89, 3) := by decide +kernel
theorem dX5_addCheck_149 : decode cX5_addCheck 149 = .ok (.iconst 1, 1) := by decide +kernel
theorem dX5_addCheck_150 : decode cX5_addCheck 150 = .ok (.isub, 1) := by decide +kernel
theorem dX5_addCheck_151 : decode cX5_addCheck 151 = .ok (.ireturn, 1) := by decide +kernel
set_option maxRecDepth 20000 in
theorem ggX5_setDown_X5_isCheck : GoodIn wsX5_setDown wsX5_isCheck := goodIn_r _ [7, 8, 9, 10, 6, 11, 17, 18, 19, 20, 21, 22, 23, 24, 25, 26, 27, 28, 29, 30, 31, 32, 33, 34, 35, 36, 37, 38, 39, 40, 41, 42, 43, 44] (by decide +kernel) (by decide +kernel)
set_option maxRecDepth 20000 in
theorem gX5_setDown_X5_isCheck : GoodIn wsX5_setDown (wsV RX5 96 RX5 yX5_isCheck wsX5_isCheck) := goodIn_app (goodIn_of _ (by decide +kernel)) ggX5_setDown_X5_isCheck
set_option maxRecDepth 20000 in
theorem ggX5_setDown_X5_isRegion : GoodIn wsX5_setDown wsX5_isRegion := goodIn_r _ [15, 16, 9, 10, 6, 11, 17, 18, 19, 20, 21, 22, 23, 24, 25, 26, 27, 28, 29, 30, 31, 32, 33, 34, 35, 36, 37, 38, 39, 40, 41, 42, 43, 44] (by decide +kernel) (by decide +kernel)
set_option maxRecDepth 20000 in
theorem gX5_setDown_X5_isRegion : GoodIn wsX5_setDown (wsV RX5 92 RX5 yX5_isRegion wsX5_isRegion) := goodIn_app (goodIn_of _ (by decide +kernel)) ggX5_setDown_X5_isRegion
theorem dX5_setDown_0 : decode cX5_setDown 0 = .ok (.aload_n 0, 1) := by decide +kernel
theorem dX5_setDown_1 : decode cX5_setDown 1 = .ok (.aload_n 0, 1) := by decide +kernel
theorem dX5_setDown_2 : decode cX5_setDown 2 = .ok (.iload_n 1, 1) := by decide +kernel
theorem dX5_setDown_3 : decode cX5_setDown 3 = .ok (.invokevirtual 96, 3) := by decide +kernel
theorem dX5_setDown_6 : decode cX5_setDown 6 = .ok (.ifCond .eq 15, 3) := by decide +kernel
theorem dX5_setDown_9 : decode cX5_setDown 9 = .ok (.aload_n 0, 1) := by decide +kernel
theorem dX5_setDown_10 : decode cX5_setDown 10 = .ok (.iload_n 2, 1) := by decide +kernel
theorem dX5_setDown_11 : decode cX5_setDown 11 = .ok (.invokevirtual 92, 3) := by decide +kernel
theorem dX5_setDown_14 : decode cX5_setDown 14 = .ok (.ifCond .eq 7, 3) := by decide +kernel
theorem dX5_setDown_17 : decode cX5_setDown 17 = .ok (.iconst 0, 1) := by decide +kernel
theorem dX5_setDown_18 : decode cX5_setDown 18 = .ok (.goto 4, 3) := by decide +kernel
theorem dX5_setDown_21 : decode cX5_setDown 21 = .ok (.iconst 1, 1) := by decide +kernel
theorem dX5_setDown_22 : decode cX5_setDown 22 = .ok (.putfield 78, 3) := by decide +kernel
theorem dX5_setDown_25 : decode cX5_setDown 25 = .ok (.aload_n 0, 1) := by decide +kernel
theorem dX5_setDown_26 : decode cX5_setDown 26 = .ok (.getfield 78, 3) := by decide +kernel
theorem dX5_setDown_29 : decode cX5_setDown 29 = .ok (.ifCond .le 5, 3) := by decide +kernel
theorem dX5_setDown_32 : decode cX5_setDown 32 = .ok (.iconst 0, 1) := by decide +kernel
theorem dX5_setDown_33 : decode cX5_setDown 33 = .ok (.ireturn, 1) := by decide +kernel
theorem dX5_setDown_34 : decode cX5_setDown 34 = .ok (.aload_n 0, 1) := by decide +kernel
theorem dX5_setDown_35 : decode cX5_setDown 35 = .ok (.getfield 50, 3) := by decide +kernel
theorem dX5_setDown_38 : decode cX5_setDown 38 = .ok (.bipush 6, 2) := by decide +kernel
theorem dX5_setDown_40 : decode cX5_setDown 40 = .ok (.iload_n 1, 1) := by decide +kernel
theorem dX5_setDown_41 : decode cX5_setDown 41 = .ok (.imul, 1) := by decide +kernel
theorem dX5_setDown_42 : decode cX5_setDown 42 = .ok (.iload_n 2, 1) := by decide +kernel
theorem dX5_setDown_43 : decode cX5_setDown 43 = .ok (.iadd, 1) := by decide +kernel
theorem dX5_setDown_44 : decode cX5_setDown 44 = .ok (.baload, 1) := by decide +kernel
theorem dX5_setDown_45 : decode cX5_setDown 45 = .ok (.istore 4, 2) := by decide +kernel
theorem dX5_setDown_47 : decode cX5_setDown 47 = .ok (.aload_n 0, 1) := by decide +kernel
theorem dX5_setDown_48 : decode cX5_setDown 48 = .ok (.getfield 50, 3) := by decide +kernel
theorem dX5_setDown_51 : decode cX5_setDown 51 = .ok (.bipush 6, 2) := by decide +kernel
theorem dX5_setDown_53 : decode cX5_setDown 53 = .ok (.iload_n 1, 1) := by decide +kernel
theorem dX5_setDown_54 : decode cX5_setDown 54 = .ok (.imul, 1) := by decide +kernel
theorem dX5_setDown_55 : decode cX5_setDown 55 = .ok (.iload_n 2, 1) := by decide +kernel
theorem dX5_setDown_56 : decode cX5_setDown 56 = .ok (.iadd, 1) := by decide +kernel
theorem dX5_setDown_57 : decode cX5_setDown 57 = .ok (.iload_n 3, 1) := by decide +kernel
theorem dX5_setDown_58 : decode cX5_setDown 58 = .ok (.bastore, 1) := by decide +kernel
theorem dX5_setDown_59 : decode cX5_setDown 59 = .ok (.iload 4, 2) := by decide +kernel
theorem dX5_setDown_61 : decode cX5_setDown 61 = .ok (.ireturn, 1) := by decide +kernel
set_option maxRecDepth 20000 in
theorem ggX5_setCut_X5_isRegion : GoodIn wsX5_setCut wsX5_isRegion := goodIn_r _ [7, 8, 9, 10, 6, 11, 12, 13, 14, 15, 16, 17, 18, 19, 20, 21, 22, 23, 24, 25, 26, 27, 28, 29, 30, 31, 32, 33, 34, 35, 36, 37, 38, 39] (by decide +kernel) (by decide +kernel)
set_option maxRecDepth 20000 in
theorem gX5_setCut_X5_isRegion : GoodIn wsX5_setCut (wsV RX5 92 RX5 yX5_isRegion wsX5_isRegion) := goodIn_app (goodIn_of _ (by decide +kernel)) ggX5_setCut_X5_isRegion
theorem dX5_setCut_0 : decode cX5_setCut 0 = .ok (.aload_n 0, 1) := by decide +kernel
theorem dX5_setCut_1 : decode cX5_setCut 1 = .ok (.aload_n 0, 1) := by decide +kernel
theorem dX5_setCut_2 : decode cX5_setCut 2 = .ok (.iload_n 1, 1) := by decide +kernel
theorem dX5_setCut_3 : decode cX5_setCut 3 = .ok (.invokevirtual 92, 3) := by decide +kernel
theorem dX5_setCut_6 : decode cX5_setCut 6 = .ok (.ifCond .eq 7, 3) := by decide +kernel
theorem dX5_setCut_9 : decode cX5_setCut 9 = .ok (.iconst 0, 1) := by decide +kernel
theorem dX5_setCut_10 : decode cX5_setCut 10 = .ok (.goto 4, 3) := by decide +kernel
theorem dX5_setCut_13 : decode cX5_setCut 13 = .ok (.iconst 1, 1) := by decide +kernel
theorem dX5_setCut_14 : decode cX5_setCut 14 = .ok (.putfield 78, 3) := by decide +kernel
theorem dX5_setCut_17 : decode cX5_setCut 17 = .ok (.aload_n 0, 1) := by decide +kernel
theorem dX5_setCut_18 : decode cX5_setCut 18 = .ok (.getfield 78, 3) := by decide +kernel
theorem dX5_setCut_21 : decode cX5_setCut 21 = .ok (.ifCond .le 5, 3) := by decide +kernel
theorem dX5_setCut_24 : decode cX5_setCut 24 = .ok (.iconst 0, 1) := by decide +kernel
theorem dX5_setCut_25 : decode cX5_setCut 25 = .ok (.ireturn, 1) := by decide +kernel
theorem dX5_setCut_26 : decode cX5_setCut 26 = .ok (.aload_n 0, 1) := by decide +kernel
theorem dX5_setCut_27 : decode cX5_setCut 27 = .ok (.getfield 13, 3) := by decide +kernel
theorem dX5_setCut_30 : decode cX5_setCut 30 = .ok (.iload_n 1, 1) := by decide +kernel
theorem dX5_setCut_31 : decode cX5_setCut 31 = .ok (.baload, 1) := by decide +kernel
theorem dX5_setCut_32 : decode cX5_setCut 32 = .ok (.istore_n 3, 1) := by decide +kernel
theorem dX5_setCut_33 : decode cX5_setCut 33 = .ok (.aload_n 0, 1) := by decide +kernel
theorem dX5_setCut_34 : decode cX5_setCut 34 = .ok (.getfield 13, 3) := by decide +kernel
theorem dX5_setCut_37 : decode cX5_setCut 37 = .ok (.iload_n 1, 1) := by decide +kernel
theorem dX5_setCut_38 : decode cX5_setCut 38 = .ok (.iload_n 2, 1) := by decide +kernel
theorem dX5_setCut_39 : decode cX5_setCut 39 = .ok (.bastore, 1) := by decide +kernel
theorem dX5_setCut_40 : decode cX5_setCut 40 = .ok (.iload_n 3, 1) := by decide +kernel
theorem dX5_setCut_41 : decode cX5_setCut 41 = .ok (.ireturn, 1) := by decide +kernel
set_option maxRecDepth 20000 in
theorem ggX5_setQuorum_X5_isCheck : GoodIn wsX5_setQuorum wsX5_isCheck := goodIn_r _ [7, 8, 9, 10, 6, 11, 12, 13, 14, 15, 16, 17, 18, 19, 20, 21, 22, 23, 24, 25, 26, 27, 28, 29, 30, 31, 32, 33, 34, 35, 36, 37, 38, 39] (by decide +kernel) (by decide +kernel)
set_option maxRecDepth 20000 in
theorem gX5_setQuorum_X5_isCheck : GoodIn wsX5_setQuorum (wsV RX5 96 RX5 yX5_isCheck wsX5_isCheck) := goodIn_app (goodIn_of _ (by decide +kernel)) ggX5_setQuorum_X5_isCheck
set_option maxRecDepth 20000 in
theorem ggX5_setQuorum_X5_isIn : GoodIn wsX5_setQuorum wsX5_isIn := goodIn_r _ [11] (by decide +kernel) (by decide +kernel)
set_option maxRecDepth 20000 in
theorem gX5_setQuorum_X5_isIn : GoodIn wsX5_setQuorum (va_wsS RX5 85 yX5_isIn wsX5_isIn) := goodIn_app (goodIn_of _ (by decide +kernel)) ggX5_setQuorum_X5_isIn
theorem dX5_setQuorum_0 : decode cX5_setQuorum 0 = .ok (.aload_n 0, 1) := by decide +kernel
theorem dX5_setQuorum_1 : decode cX5_setQuorum 1 = .ok (.aload_n 0, 1) := by decide +kernel
theorem dX5_setQuorum_2 : decode cX5_setQuorum 2 = .ok (.iload_n 1, 1) := by decide +kernel
theorem dX5_setQuorum_3 : decode cX5_setQuorum 3 = .ok (.invokevirtual 96, 3) := by decide +kernel
theorem dX5_setQuorum_6 : decode cX5_setQuorum 6 = .ok (.ifCond .ne 7, 3) := by decide +kernel
theorem dX5_setQuorum_9 : decode cX5_setQuorum 9 = .ok (.iconst 1, 1) := by decide +kernel
theorem dX5_setQuorum_10 : decode cX5_setQuorum 10 = .ok (.goto 18, 3) := by decide +kernel
theorem dX5_setQuorum_13 : decode cX5_setQuorum 13 = .ok (.iload_n 2, 1) := by decide +kernel
theorem dX5_setQuorum_14 : decode cX5_setQuorum 14 = .ok (.iconst 1, 1) := by decide +kernel
theorem dX5_setQuorum_15 : decode cX5_setQuorum 15 = .ok (.bipush 6, 2) := by decide +kernel
theorem dX5_setQuorum_17 : decode cX5_setQuorum 17 = .ok (.invokestatic 85, 3) := by decide +kernel
theorem dX5_setQuorum_20 : decode cX5_setQuorum 20 = .ok (.ifCond .eq 7, 3) := by decide +kernel
theorem dX5_setQuorum_23 : decode cX5_setQuorum 23 = .ok (.iconst 0, 1) := by decide +kernel
theorem dX5_setQuorum_24 : decode cX5_setQuorum 24 = .ok (.goto 4, 3) := by decide +kernel
theorem dX5_setQuorum_27 : decode cX5_setQuorum 27 = .ok (.iconst 2, 1) := by decide +kernel
theorem dX5_setQuorum_28 : decode cX5_setQuorum 28 = .ok (.putfield 78, 3) := by decide +kernel
theorem dX5_setQuorum_31 : decode cX5_setQuorum 31 = .ok (.aload_n 0, 1) := by decide +kernel
theorem dX5_setQuorum_32 : decode cX5_setQuorum 32 = .ok (.getfield 78, 3) := by decide +kernel
theorem dX5_setQuorum_35 : decode cX5_setQuorum 35 = .ok (.ifCond .le 5, 3) := by decide +kernel
theorem dX5_setQuorum_38 : decode cX5_setQuorum 38 = .ok (.iconst 0, 1) := by decide +kernel
theorem dX5_setQuorum_39 : decode cX5_setQuorum 39 = .ok (.ireturn, 1) := by decide +kernel
theorem dX5_setQuorum_40 : decode cX5_setQuorum 40 = .ok (.aload_n 0, 1) := by decide +kernel
theorem dX5_setQuorum_41 : decode cX5_setQuorum 41 = .ok (.getfield 35, 3) := by decide +kernel
theorem dX5_setQuorum_44 : decode cX5_setQuorum 44 = .ok (.iload_n 1, 1) := by decide +kernel
theorem dX5_setQuorum_45 : decode cX5_setQuorum 45 = .ok (.iaload, 1) := by decide +kernel
theorem dX5_setQuorum_46 : decode cX5_setQuorum 46 = .ok (.istore_n 3, 1) := by decide +kernel
theorem dX5_setQuorum_47 : decode cX5_setQuorum 47 = .ok (.aload_n 0, 1) := by decide +kernel
theorem dX5_setQuorum_48 : decode cX5_setQuorum 48 = .ok (.getfield 35, 3) := by decide +kernel
theorem dX5_setQuorum_51 : decode cX5_setQuorum 51 = .ok (.iload_n 1, 1) := by decide +kernel
theorem dX5_setQuorum_52 : decode cX5_setQuorum 52 = .ok (.iload_n 2, 1) := by decide +kernel
theorem dX5_setQuorum_53 : decode cX5_setQuorum 53 = .ok (.iastore, 1) := by decide +kernel
theorem dX5_setQuorum_54 : decode cX5_setQuorum 54 = .ok (.iload_n 3, 1) := by decide +kernel
theorem dX5_setQuorum_55 : decode cX5_setQuorum 55 = .ok (.ireturn, 1) := by decide +kernel
set_option maxRecDepth 20000 in
theorem ggX5_addWindow_X5_isCheck : GoodIn wsX5_addWindow wsX5_isCheck := goodIn_r _ [11, 12, 13, 14, 10, 15, 16, 17, 18, 19, 20, 21, 22, 23, 24, 25, 26, 27, 28, 29, 30, 31, 32, 33, 34, 35, 36, 37, 38, 39, 40, 41, 42, 43] (by decide +kernel) (by decide +kernel)
set_option maxRecDepth 20000 in
theorem gX5_addWindow_X5_isCheck : GoodIn wsX5_addWindow (wsV RX5 96 RX5 yX5_isCheck wsX5_isCheck) := goodIn_app (goodIn_of _ (by decide +kernel)) ggX5_addWindow_X5_isCheck
set_option maxRecDepth 20000 in
theorem ggX5_addWindow_X5_isIn : GoodIn wsX5_addWindow wsX5_isIn := goodIn_r _ [15] (by decide +kernel) (by decide +kernel)
set_option maxRecDepth 20000 in
theorem gX5_addWindow_X5_isIn : GoodIn wsX5_addWindow (va_wsS RX5 85 yX5_isIn wsX5_isIn) := goodIn_app (goodIn_of _ (by decide +kernel)) ggX5_addWindow_X5_isIn
theorem dX5_addWindow_0 : decode cX5_addWindow 0 = .ok (.aload_n 0, 1) := by decide +kernel
theorem dX5_addWindow_1 : decode cX5_addWindow 1 = .ok (.aload_n 0, 1) := by decide +kernel
theorem dX5_addWindow_2 : decode cX5_addWindow 2 = .ok (.iload_n 1, 1) := by decide +kernel
theorem dX5_addWindow_3 : decode cX5_addWindow 3 = .ok (.invokevirtual 96, 3) := by decide +kernel
theorem dX5_addWindow_6 : decode cX5_addWindow 6 = .ok (.ifCond .ne 7, 3) := by decide +kernel
theorem dX5_addWindow_9 : decode cX5_addWindow 9 = .ok (.iconst 1, 1) := by decide +kernel
theorem dX5_addWindow_10 : decode cX5_addWindow 10 = .ok (.goto 29, 3) := by decide +kernel
theorem dX5_addWindow_13 : decode cX5_addWindow 13 = .ok (.iload_n 2, 1) := by decide +kernel
theorem dX5_addWindow_14 : decode cX5_addWindow 14 = .ok (.iconst 0, 1) := by decide +kernel
theorem dX5_addWindow_15 : decode cX5_addWindow 15 = .ok (.ldc 99, 2) := by decide +kernel
theorem dX5_addWindow_17 : decode cX5_addWindow 17 = .ok (.invokestatic 85, 3) := by decide +kernel
theorem dX5_addWindow_20 : decode cX5_addWindow 20 = .ok (.ifCond .eq 14, 3) := by decide +kernel
theorem dX5_addWindow_23 : decode cX5_addWindow 23 = .ok (.iload_n 3, 1) := by decide +kernel
theorem dX5_addWindow_24 : decode cX5_addWindow 24 = .ok (.iconst 1, 1) := by decide +kernel
theorem dX5_addWindow_25 : decode cX5_addWindow 25 = .ok (.sipush 10000, 3) := by decide +kernel
theorem dX5_addWindow_28 : decode cX5_addWindow 28 = .ok (.invokestatic 85, 3) := by decide +kernel
theorem dX5_addWindow_31 : decode cX5_addWindow 31 = .ok (.ifCond .ne 7, 3) := by decide +kernel
theorem dX5_addWindow_34 : decode cX5_addWindow 34 = .ok (.iconst 2, 1) := by decide +kernel
theorem dX5_addWindow_35 : decode cX5_addWindow 35 = .ok (.goto 4, 3) := by decide +kernel
theorem dX5_addWindow_38 : decode cX5_addWindow 38 = .ok (.iconst 0, 1) := by decide +kernel
theorem dX5_addWindow_39 : decode cX5_addWindow 39 = .ok (.putfield 78, 3) := by decide +kernel
theorem dX5_addWindow_42 : decode cX5_addWindow 42 = .ok (.aload_n 0, 1) := by decide +kernel
theorem dX5_addWindow_43 : decode cX5_addWindow 43 = .ok (.getfield 78, 3) := by decide +kernel
theorem dX5_addWindow_46 : decode cX5_addWindow 46 = .ok (.ifCond .le 5, 3) := by decide +kernel
theorem dX5_addWindow_49 : decode cX5_addWindow 49 = .ok (.iconst 0, 1) := by decide +kernel
theorem dX5_addWindow_50 : decode cX5_addWindow 50 = .ok (.ireturn, 1) := by decide +kernel
theorem dX5_addWindow_51 : decode cX5_addWindow 51 = .ok (.aload_n 0, 1) := by decide +kernel
theorem dX5_addWindow_52 : decode cX5_addWindow 52 = .ok (.aload_n 0, 1) := by decide +kernel
theorem dX5_addWindow_53 : decode cX5_addWindow 53 = .ok (.getfield 100, 3) := by decide +kernel
theorem dX5_addWindow_56 : decode cX5_addWindow 56 = .ok (.bipush 12, 2) := by decide +kernel
theorem dX5_addWindow_58 : decode cX5_addWindow 58 = .ok (.if_icmp .ne 7, 3) := by decide +kernel
theorem dX5_addWindow_61 : decode cX5_addWindow 61 = .ok (.iconst 3, 1) := by decide +kernel
theorem dX5_addWindow_62 : decode cX5_addWindow 62 = .ok (.goto 4, 3) := by decide +kernel
theorem dX5_addWindow_65 : decode cX5_addWindow 65 = .ok (.iconst 0, 1) := by decide +kernel
theorem dX5_addWindow_66 : decode cX5_addWindow 66 = .ok (.putfield 78, 3) := by decide +kernel
theorem dX5_addWindow_69 : decode cX5_addWindow 69 = .ok (.aload_n 0, 1) := by decide +kernel
theorem dX5_addWindow_70 : decode cX5_addWindow 70 = .ok (.getfield 78, 3) := by decide +kernel
theorem dX5_addWindow_73 : decode cX5_addWindow 73 = .ok (.ifCond .le 5, 3) := by decide +kernel
theorem dX5_addWindow_76 : decode cX5_addWindow 76 = .ok (.iconst 0, 1) := by decide +kernel
theorem dX5_addWindow_77 : decode cX5_addWindow 77 = .ok (.ireturn, 1) := by decide +kernel
theorem dX5_addWindow_78 : decode cX5_addWindow 78 = .ok (.aload_n 0, 1) := by decide +kernel
theorem dX5_addWindow_79 : decode cX5_addWindow 79 = .ok (.getfield 62, 3) := by decide +kernel
theorem dX5_addWindow_82 : decode cX5_addWindow 82 = .ok (.aload_n 0, 1) := by decide +kernel
theorem dX5_addWindow_83 : decode cX5_addWindow 83 = .ok (.getfield 100, 3) := by decide +kernel
theorem dX5_addWindow_86 : decode cX5_addWindow 86 = .ok (.iload_n 1, 1) := by decide +kernel
theorem dX5_addWindow_87 : decode cX5_addWindow 87 = .ok (.iastore, 1) := by decide +kernel
theorem dX5_addWindow_88 : decode cX5_addWindow 88 = .ok (.aload_n 0, 1) := by decide +kernel
theorem dX5_addWindow_89 : decode cX5_addWindow 89 = .ok (.getfield 65, 3) := by decide +kernel
theorem dX5_addWindow_92 : decode cX5_addWindow 92 = .ok (.aload_n 0, 1) := by decide +kernel
theorem dX5_addWindow_93 : decode cX5_addWindow 93 = .ok (.getfield 100, 3) := by decide +kernel
theorem dX5_addWindow_96 : decode cX5_addWindow 96 = .ok (.iload_n 2, 1) := by decide +kernel
theorem dX5_addWindow_97 : decode cX5_addWindow 97 = .ok (.iastore, 1) := by decide +kernel
theorem dX5_addWindow_98 : decode cX5_addWindow 98 = .ok (.aload_n 0, 1) := by decide +kernel
theorem dX5_addWindow_99 : decode cX5_addWindow 99 = .ok (.getfield 68, 3) := by decide +kernel
theorem dX5_addWindow_102 : decode cX5_addWindow 102 = .ok (.aload_n 0, 1) := by decide +kernel
theorem dX5_addWindow_103 : decode cX5_addWindow 103 = .ok (.getfield 100, 3) := by decide +kernel
theorem dX5_addWindow_106 : decode cX5_addWindow 106 = .ok (.iload_n 2, 1) := by decide +kernel
theorem dX5_addWindow_107 : decode cX5_addWindow 107 = .ok (.iload_n 3, 1) := by decide +kernel
theorem dX5_addWindow_108 : decode cX5_addWindow 108 = .ok (.iadd, 1) := by decide +kernel
theorem dX5_addWindow_109 : decode cX5_addWindow 109 = .ok (.iastore, 1) := by decide +kernel
theorem dX5_addWindow_110 : decode cX5_addWindow 110 = .ok (.aload_n 0, 1) := by decide +kernel
theorem dX5_addWindow_111 : decode cX5_addWindow 111 = .ok (.dup, 1) := by decide +kernel
theorem dX5_addWindow_112 : decode cX5_addWindow 112 = .ok (.getfield 100, 3) := by decide +kernel
theorem dX5_addWindow_115 : decode cX5_addWindow 115 = .ok (.iconst 1, 1) := by decide +kernel
theorem dX5_addWindow_116 : decode cX5_addWindow 116 = .ok (.iadd, 1) := by decide +kernel
theorem dX5_addWindow_117 : decode cX5_addWindow 117 = .ok (.putfield 100, 3) := by decide +kernel
theorem dX5_addWindow_120 : decode cX5_addWindow 120 = .ok (.aload_n 0, 1) := by decide +kernel
theorem dX5_addWindow_121 : decode cX5_addWindow 121 = .ok (.getfield 100, 3) := by decide +kernel
theorem dX5_addWindow_124 : decode cX5_addWindow 124 = .ok (.iconst 1, 1) := by decide +kernel
theorem dX5_addWindow_125 : decode cX5_addWindow 125 = .ok (.isub, 1) := by decide +kernel
theorem dX5_addWindow_126 : decode cX5_addWindow 126 = .ok (.ireturn, 1) := by decide +kernel
set_option maxRecDepth 20000 in
theorem ggX5_endWindow_X5_isIn : GoodIn wsX5_endWindow wsX5_isIn := goodIn_r _ [9] (by decide +kernel) (by decide +kernel)
set_option maxRecDepth 20000 in
theorem gX5_endWindow_X5_isIn : GoodIn wsX5_endWindow (va_wsS RX5 85 yX5_isIn wsX5_isIn) := goodIn_app (goodIn_of _ (by decide +kernel)) ggX5_endWindow_X5_isIn
theorem dX5_endWindow_0 : decode cX5_endWindow 0 = .ok (.aload_n 0, 1) := by decide +kernel
theorem dX5_endWindow_1 : decode cX5_endWindow 1 = .ok (.iload_n 1, 1) := by decide +kernel
theorem dX5_endWindow_2 : decode cX5_endWindow 2 = .ok (.iconst 0, 1) := by decide +kernel
theorem dX5_endWindow_3 : decode cX5_endWindow 3 = .ok (.aload_n 0, 1) := by decide +kernel
theorem dX5_endWindow_4 : decode cX5_endWindow 4 = .ok (.getfield 100, 3) := by decide +kernel
theorem dX5_endWindow_7 : decode cX5_endWindow 7 = .ok (.iconst 1, 1) := by decide +kernel
theorem dX5_endWindow_8 : decode cX5_endWindow 8 = .ok (.isub, 1) := by decide +kernel
theorem dX5_endWindow_9 : decode cX5_endWindow 9 = .ok (.invokestatic 85, 3) := by decide +kernel
theorem dX5_endWindow_12 : decode cX5_endWindow 12 = .ok (.ifCond .eq 7, 3) := by decide +kernel
theorem dX5_endWindow_15 : decode cX5_endWindow 15 = .ok (.iconst 0, 1) := by decide +kernel
theorem dX5_endWindow_16 : decode cX5_endWindow 16 = .ok (.goto 4, 3) := by decide +kernel
theorem dX5_endWindow_19 : decode cX5_endWindow 19 = .ok (.iconst 1, 1) := by decide +kernel
theorem dX5_endWindow_20 : decode cX5_endWindow 20 = .ok (.putfield 78, 3) := by decide +kernel
theorem dX5_endWindow_23 : decode cX5_endWindow 23 = .ok (.aload_n 0, 1) := by decide +kernel
theorem dX5_endWindow_24 : decode cX5_endWindow 24 = .ok (.getfield 78, 3) := by decide +kernel
theorem dX5_endWindow_27 : decode cX5_endWindow 27 = .ok (.ifCond .le 5, 3) := by decide +kernel
theorem dX5_endWindow_30 : decode cX5_endWindow 30 = .ok (.iconst 0, 1) := by decide +kernel
theorem dX5_endWindow_31 : decode cX5_endWindow 31 = .ok (.ireturn, 1) := by decide +kernel
theorem dX5_endWindow_32 : decode cX5_endWindow 32 = .ok (.aload_n 0, 1) := by decide +kernel
theorem dX5_endWindow_33 : decode cX5_endWindow 33 = .ok (.getfield 68, 3) := by decide +kernel
theorem dX5_endWindow_36 : decode cX5_endWindow 36 = .ok (.iload_n 1, 1) := by decide +kernel
theorem dX5_endWindow_37 : decode cX5_endWindow 37 = .ok (.iaload, 1) := by decide +kernel
theorem dX5_endWindow_38 : decode cX5_endWindow 38 = .ok (.aload_n 0, 1) := by decide +kernel
theorem dX5_endWindow_39 : decode cX5_endWindow 39 = .ok (.getfield 103, 3) := by decide +kernel
theorem dX5_endWindow_42 : decode cX5_endWindow 42 = .ok (.iconst 1, 1) := by decide +kernel
theorem dX5_endWindow_43 : decode cX5_endWindow 43 = .ok (.iadd, 1) := by decide +kernel
theorem dX5_endWindow_44 : decode cX5_endWindow 44 = .ok (.if_icmp .le 12, 3) := by decide +kernel
theorem dX5_endWindow_47 : decode cX5_endWindow 47 = .ok (.aload_n 0, 1) := by decide +kernel
theorem dX5_endWindow_48 : decode cX5_endWindow 48 = .ok (.getfield 103, 3) := by decide +kernel
theorem dX5_endWindow_51 : decode cX5_endWindow 51 = .ok (.iconst 1, 1) := by decide +kernel
theorem dX5_endWindow_52 : decode cX5_endWindow 52 = .ok (.iadd, 1) := by decide +kernel
theorem dX5_endWindow_53 : decode cX5_endWindow 53 = .ok (.goto 9, 3) := by decide +kernel
theorem dX5_endWindow_56 : decode cX5_endWindow 56 = .ok (.aload_n 0, 1) := by decide +kernel
theorem dX5_endWindow_57 : decode cX5_endWindow 57 = .ok (.getfield 68, 3) := by decide +kernel
theorem dX5_endWindow_60 : decode cX5_endWindow 60 = .ok (.iload_n 1, 1) := by decide +kernel
theorem dX5_endWindow_61 : decode cX5_endWindow 61 = .ok (.iaload, 1) := by decide +kernel
theorem dX5_endWindow_62 : decode cX5_endWindow 62 = .ok (.istore_n 2, 1) := by decide +kernel
theorem dX5_endWindow_63 : decode cX5_endWindow 63 = .ok (.aload_n 0, 1) := by decide +kernel
theorem dX5_endWindow_64 : decode cX5_endWindow 64 = .ok (.getfield 68, 3) := by decide +kernel
theorem dX5_endWindow_67 : decode cX5_endWindow 67 = .ok (.iload_n 1, 1) := by decide +kernel
theorem dX5_endWindow_68 : decode cX5_endWindow 68 = .ok (.iload_n 2, 1) := by decide +kernel
theorem dX5_endWindow_69 : decode cX5_endWindow 69 = .ok (.aload_n 0, 1) := by decide +kernel
theorem dX5_endWindow_70 : decode cX5_endWindow 70 = .ok (.getfield 65, 3) := by decide +kernel
theorem dX5_endWindow_73 : decode cX5_endWindow 73 = .ok (.iload_n 1, 1) := by decide +kernel
theorem dX5_endWindow_74 : decode cX5_endWindow 74 = .ok (.iaload, 1) := by decide +kernel
theorem dX5_endWindow_75 : decode cX5_endWindow 75 = .ok (.if_icmp .le 7, 3) := by decide +kernel
theorem dX5_endWindow_78 : decode cX5_endWindow 78 = .ok (.iload_n 2, 1) := by decide +kernel
theorem dX5_endWindow_79 : decode cX5_endWindow 79 = .ok (.goto 9, 3) := by decide +kernel
theorem dX5_endWindow_82 : decode cX5_endWindow 82 = .ok (.aload_n 0, 1) := by decide +kernel
theorem dX5_endWindow_83 : decode cX5_endWindow 83 = .ok (.getfield 65, 3) := by decide +kernel
theorem dX5_endWindow_86 : decode cX5_endWindow 86 = .ok (.iload_n 1, 1) := by decide +kernel
theorem dX5_endWindow_87 : decode cX5_endWindow 87 = .ok (.iaload, 1) := by decide +kernel
theorem dX5_endWindow_88 : decode cX5_endWindow 88 = .ok (.iastore, 1) := by decide +kernel
theorem dX5_endWindow_89 : decode cX5_endWindow 89 = .ok (.aload_n 0, 1) := by decide +kernel
theorem dX5_endWindow_90 : decode cX5_endWindow 90 = .ok (.getfield 68, 3) := by decide +kernel
theorem dX5_endWindow_93 : decode cX5_endWindow 93 = .ok (.iload_n 1, 1) := by decide +kernel
theorem dX5_endWindow_94 : decode cX5_endWindow 94 = .ok (.iaload, 1) := by decide +kernel
theorem dX5_endWindow_95 : decode cX5_endWindow 95 = .ok (.aload_n 0, 1) := by decide +kernel
theorem dX5_endWindow_96 : decode cX5_endWindow 96 = .ok (.getfield 65, 3) := by decide +kernel
theorem dX5_endWindow_99 : decode cX5_endWindow 99 = .ok (.iload_n 1, 1) := by decide +kernel
theorem dX5_endWindow_100 : decode cX5_endWindow 100 = .ok (.iaload, 1) := by decide +kernel
theorem dX5_endWindow_101 : decode cX5_endWindow 101 = .ok (.isub, 1) := by decide +kernel
theorem dX5_endWindow_102 : decode cX5_endWindow 102 = .ok (.ireturn, 1) := by decide +kernel
theorem dX5_fails_0 : decode cX5_fails 0 = .ok (.aload_n 0, 1) := by decide +kernel
theorem dX5_fails_1 : decode cX5_fails 1 = .ok (.getfield 50, 3) := by decide +kernel
theorem dX5_fails_4 : decode cX5_fails 4 = .ok (.bipush 6, 2) := by decide +kernel
theorem dX5_fails_6 : decode cX5_fails 6 = .ok (.iload_n 1, 1) := by decide +kernel
theorem dX5_fails_7 : decode cX5_fails 7 = .ok (.imul, 1) := by decide +kernel
theorem dX5_fails_8 : decode cX5_fails 8 = .ok (.iload_n 2, 1) := by decide +kernel
theorem dX5_fails_9 : decode cX5_fails 9 = .ok (.iadd, 1) := by decide +kernel
theorem dX5_fails_10 : decode cX5_fails 10 = .ok (.baload, 1) := by decide +kernel
theorem dX5_fails_11 : decode cX5_fails 11 = .ok (.istore_n 3, 1) := by decide +kernel
theorem dX5_fails_12 : decode cX5_fails 12 = .ok (.iload_n 2, 1) := by decide +kernel
theorem dX5_fails_13 : decode cX5_fails 13 = .ok (.istore 4, 2) := by decide +kernel
theorem dX5_fails_15 : decode cX5_fails 15 = .ok (.iload 4, 2) := by decide +kernel
theorem dX5_fails_17 : decode cX5_fails 17 = .ok (.ifCond .lt 25, 3) := by decide +kernel
theorem dX5_fails_20 : decode cX5_fails 20 = .ok (.iload_n 3, 1) := by decide +kernel
theorem dX5_fails_21 : decode cX5_fails 21 = .ok (.aload_n 0, 1) := by decide +kernel
theorem dX5_fails_22 : decode cX5_fails 22 = .ok (.getfield 13, 3) := by decide +kernel
theorem dX5_fails_25 : decode cX5_fails 25 = .ok (.iload 4, 2) := by decide +kernel
theorem dX5_fails_27 : decode cX5_fails 27 = .ok (.baload, 1) := by decide +kernel
theorem dX5_fails_28 : decode cX5_fails 28 = .ok (.ior, 1) := by decide +kernel
theorem dX5_fails_29 : decode cX5_fails 29 = .ok (.istore_n 3, 1) := by decide +kernel
theorem dX5_fails_30 : decode cX5_fails 30 = .ok (.aload_n 0, 1) := by decide +kernel
theorem dX5_fails_31 : decode cX5_fails 31 = .ok (.getfield 7, 3) := by decide +kernel
theorem dX5_fails_34 : decode cX5_fails 34 = .ok (.iload 4, 2) := by decide +kernel
theorem dX5_fails_36 : decode cX5_fails 36 = .ok (.iaload, 1) := by decide +kernel
theorem dX5_fails_37 : decode cX5_fails 37 = .ok (.istore 4, 2) := by decide +kernel
theorem dX5_fails_39 : decode cX5_fails 39 = .ok (.goto (-24), 3) := by decide +kernel
theorem dX5_fails_42 : decode cX5_fails 42 = .ok (.iload_n 3, 1) := by decide +kernel
theorem dX5_fails_43 : decode cX5_fails 43 = .ok (.ireturn, 1) := by decide +kernel
theorem dX5_isScheduled_0 : decode cX5_isScheduled 0 = .ok (.iload_n 3, 1) := by decide +kernel
theorem dX5_isScheduled_1 : decode cX5_isScheduled 1 = .ok (.aload_n 0, 1) := by decide +kernel
theorem dX5_isScheduled_2 : decode cX5_isScheduled 2 = .ok (.getfield 29, 3) := by decide +kernel
theorem dX5_isScheduled_5 : decode cX5_isScheduled 5 = .ok (.iload_n 1, 1) := by decide +kernel
theorem dX5_isScheduled_6 : decode cX5_isScheduled 6 = .ok (.iaload, 1) := by decide +kernel
theorem dX5_isScheduled_7 : decode cX5_isScheduled 7 = .ok (.isub, 1) := by decide +kernel
theorem dX5_isScheduled_8 : decode cX5_isScheduled 8 = .ok (.iload_n 2, 1) := by decide +kernel
theorem dX5_isScheduled_9 : decode cX5_isScheduled 9 = .ok (.isub, 1) := by decide +kernel
theorem dX5_isScheduled_10 : decode cX5_isScheduled 10 = .ok (.istore 4, 2) := by decide +kernel
theorem dX5_isScheduled_12 : decode cX5_isScheduled 12 = .ok (.iload 4, 2) := by decide +kernel
theorem dX5_isScheduled_14 : decode cX5_isScheduled 14 = .ok (.ifCond .lt 19, 3) := by decide +kernel
theorem dX5_isScheduled_17 : decode cX5_isScheduled 17 = .ok (.iload 4, 2) := by decide +kernel
theorem dX5_isScheduled_19 : decode cX5_isScheduled 19 = .ok (.aload_n 0, 1) := by decide +kernel
theorem dX5_isScheduled_20 : decode cX5_isScheduled 20 = .ok (.getfield 26, 3) := by decide +kernel
theorem dX5_isScheduled_23 : decode cX5_isScheduled 23 = .ok (.iload_n 1, 1) := by decide +kernel
theorem dX5_isScheduled_24 : decode cX5_isScheduled 24 = .ok (.iaload, 1) := by decide +kernel
theorem dX5_isScheduled_25 : decode cX5_isScheduled 25 = .ok (.irem, 1) := by decide +kernel
theorem dX5_isScheduled_26 : decode cX5_isScheduled 26 = .ok (.ifCond .ne 7, 3) := by decide +kernel
theorem dX5_isScheduled_29 : decode cX5_isScheduled 29 = .ok (.iconst 1, 1) := by decide +kernel
theorem dX5_isScheduled_30 : decode cX5_isScheduled 30 = .ok (.goto 4, 3) := by decide +kernel
theorem dX5_isScheduled_33 : decode cX5_isScheduled 33 = .ok (.iconst 0, 1) := by decide +kernel
theorem dX5_isScheduled_34 : decode cX5_isScheduled 34 = .ok (.ireturn, 1) := by decide +kernel
set_option maxRecDepth 20000 in
theorem ggX5_probe_X5_isScheduled : GoodIn wsX5_probe wsX5_isScheduled := goodIn_r _ [12, 13, 14, 22, 23, 24, 25, 26, 27, 28, 29, 30, 31, 32, 33, 34, 35, 36, 37, 38, 39, 40, 41, 42, 43, 44, 45, 46, 47, 48, 49] (by decide +kernel) (by decide +kernel)
set_option maxRecDepth 20000 in
theorem gX5_probe_X5_isScheduled : GoodIn wsX5_probe (wsV RX5 106 RX5 yX5_isScheduled wsX5_isScheduled) := goodIn_app (goodIn_of _ (by decide +kernel)) ggX5_probe_X5_isScheduled
set_option maxRecDepth 20000 in
theorem ggX5_probe_X5_fails : GoodIn wsX5_probe wsX5_fails := goodIn_r _ [18, 19, 20, 21, 22, 23, 24, 25, 26, 27, 28, 29, 30, 31, 32, 33, 34, 35, 36, 37, 38, 39, 40, 41, 42, 43, 44, 45, 46, 47, 48, 49] (by decide +kernel) (by decide +kernel)
set_option maxRecDepth 20000 in
theorem gX5_probe_X5_fails : GoodIn wsX5_probe (wsV RX5 109 RX5 yX5_fails wsX5_fails) := goodIn_app (goodIn_of _ (by decide +kernel)) ggX5_probe_X5_fails
theorem dX5_probe_0 : decode cX5_probe 0 = .ok (.bipush 6, 2) := by decide +kernel
theorem dX5_probe_2 : decode cX5_probe 2 = .ok (.iload_n 1, 1) := by decide +kernel
theorem dX5_probe_3 : decode cX5_probe 3 = .ok (.imul, 1) := by decide +kernel
theorem dX5_probe_4 : decode cX5_probe 4 = .ok (.iload_n 2, 1) := by decide +kernel
theorem dX5_probe_5 : decode cX5_probe 5 = .ok (.iadd, 1) := by decide +kernel
theorem dX5_probe_6 : decode cX5_probe 6 = .ok (.istore_n 3, 1) := by decide +kernel
theorem dX5_probe_7 : decode cX5_probe 7 = .ok (.aload_n 0, 1) := by decide +kernel
theorem dX5_probe_8 : decode cX5_probe 8 = .ok (.getfield 56, 3) := by decide +kernel
theorem dX5_probe_11 : decode cX5_probe 11 = .ok (.iload_n 3, 1) := by decide +kernel
theorem dX5_probe_12 : decode cX5_probe 12 = .ok (.iaload, 1) := by decide +kernel
theorem dX5_probe_13 : decode cX5_probe 13 = .ok (.istore 4, 2) := by decide +kernel
theorem dX5_probe_15 : decode cX5_probe 15 = .ok (.iload 4, 2) := by decide +kernel
theorem dX5_probe_17 : decode cX5_probe 17 = .ok (.ifCond .le 19, 3) := by decide +kernel
theorem dX5_probe_20 : decode cX5_probe 20 = .ok (.aload_n 0, 1) := by decide +kernel
theorem dX5_probe_21 : decode cX5_probe 21 = .ok (.getfield 59, 3) := by decide +kernel
theorem dX5_probe_24 : decode cX5_probe 24 = .ok (.iload_n 3, 1) := by decide +kernel
theorem dX5_probe_25 : decode cX5_probe 25 = .ok (.iaload, 1) := by decide +kernel
theorem dX5_probe_26 : decode cX5_probe 26 = .ok (.aload_n 0, 1) := by decide +kernel
theorem dX5_probe_27 : decode cX5_probe 27 = .ok (.getfield 103, 3) := by decide +kernel
theorem dX5_probe_30 : decode cX5_probe 30 = .ok (.if_icmp .eq 20, 3) := by decide +kernel
theorem dX5_probe_33 : decode cX5_probe 33 = .ok (.goto 16, 3) := by decide +kernel
theorem dX5_probe_36 : decode cX5_probe 36 = .ok (.aload_n 0, 1) := by decide +kernel
theorem dX5_probe_37 : decode cX5_probe 37 = .ok (.iload_n 1, 1) := by decide +kernel
theorem dX5_probe_38 : decode cX5_probe 38 = .ok (.iload_n 2, 1) := by decide +kernel
theorem dX5_probe_39 : decode cX5_probe 39 = .ok (.aload_n 0, 1) := by decide +kernel
theorem dX5_probe_40 : decode cX5_probe 40 = .ok (.getfield 103, 3) := by decide +kernel
theorem dX5_probe_43 : decode cX5_probe 43 = .ok (.invokevirtual 106, 3) := by decide +kernel
theorem dX5_probe_46 : decode cX5_probe 46 = .ok (.ifCond .ne 4, 3) := by decide +kernel
theorem dX5_probe_49 : decode cX5_probe 49 = .ok (.return_, 1) := by decide +kernel
theorem dX5_probe_50 : decode cX5_probe 50 = .ok (.aload_n 0, 1) := by decide +kernel
theorem dX5_probe_51 : decode cX5_probe 51 = .ok (.getfield 56, 3) := by decide +kernel
theorem dX5_probe_54 : decode cX5_probe 54 = .ok (.iload_n 3, 1) := by decide +kernel
theorem dX5_probe_55 : decode cX5_probe 55 = .ok (.iconst 0, 1) := by decide +kernel
theorem dX5_probe_56 : decode cX5_probe 56 = .ok (.iastore, 1) := by decide +kernel
theorem dX5_probe_57 : decode cX5_probe 57 = .ok (.aload_n 0, 1) := by decide +kernel
theorem dX5_probe_58 : decode cX5_probe 58 = .ok (.getfield 20, 3) := by decide +kernel
theorem dX5_probe_61 : decode cX5_probe 61 = .ok (.iload_n 2, 1) := by decide +kernel
theorem dX5_probe_62 : decode cX5_probe 62 = .ok (.dup2, 1) := by decide +kernel
theorem dX5_probe_63 : decode cX5_probe 63 = .ok (.iaload, 1) := by decide +kernel
theorem dX5_probe_64 : decode cX5_probe 64 = .ok (.iconst 1, 1) := by decide +kernel
theorem dX5_probe_65 : decode cX5_probe 65 = .ok (.iadd, 1) := by decide +kernel
theorem dX5_probe_66 : decode cX5_probe 66 = .ok (.iastore, 1) := by decide +kernel
theorem dX5_probe_67 : decode cX5_probe 67 = .ok (.aload_n 0, 1) := by decide +kernel
theorem dX5_probe_68 : decode cX5_probe 68 = .ok (.iload_n 1, 1) := by decide +kernel
theorem dX5_probe_69 : decode cX5_probe 69 = .ok (.iload_n 2, 1) := by decide +kernel
theorem dX5_probe_70 : decode cX5_probe 70 = .ok (.invokevirtual 109, 3) := by decide +kernel
theorem dX5_probe_73 : decode cX5_probe 73 = .ok (.ifCond .ne 11, 3) := by decide +kernel
theorem dX5_probe_76 : decode cX5_probe 76 = .ok (.aload_n 0, 1) := by decide +kernel
theorem dX5_probe_77 : decode cX5_probe 77 = .ok (.getfield 53, 3) := by decide +kernel
theorem dX5_probe_80 : decode cX5_probe 80 = .ok (.iload_n 3, 1) := by decide +kernel
theorem dX5_probe_81 : decode cX5_probe 81 = .ok (.iconst 1, 1) := by decide +kernel
theorem dX5_probe_82 : decode cX5_probe 82 = .ok (.iastore, 1) := by decide +kernel
theorem dX5_probe_83 : decode cX5_probe 83 = .ok (.return_, 1) := by decide +kernel
theorem dX5_probe_84 : decode cX5_probe 84 = .ok (.aload_n 0, 1) := by decide +kernel
theorem dX5_probe_85 : decode cX5_probe 85 = .ok (.getfield 23, 3) := by decide +kernel
theorem dX5_probe_88 : decode cX5_probe 88 = .ok (.iload_n 2, 1) := by decide +kernel
theorem dX5_probe_89 : decode cX5_probe 89 = .ok (.dup2, 1) := by decide +kernel
theorem dX5_probe_90 : decode cX5_probe 90 = .ok (.iaload, 1) := by decide +kernel
theorem dX5_probe_91 : decode cX5_probe 91 = .ok (.iconst 1, 1) := by decide +kernel
theorem dX5_probe_92 : decode cX5_probe 92 = .ok (.iadd, 1) := by decide +kernel
theorem dX5_probe_93 : decode cX5_probe 93 = .ok (.iastore, 1) := by decide +kernel
theorem dX5_probe_94 : decode cX5_probe 94 = .ok (.aload_n 0, 1) := by decide +kernel
theorem dX5_probe_95 : decode cX5_probe 95 = .ok (.getfield 53, 3) := by decide +kernel
theorem dX5_probe_98 : decode cX5_probe 98 = .ok (.iload_n 3, 1) := by decide +kernel
theorem dX5_probe_99 : decode cX5_probe 99 = .ok (.iaload, 1) := by decide +kernel
theorem dX5_probe_100 : decode cX5_probe 100 = .ok (.iconst 2, 1) := by decide +kernel
theorem dX5_probe_101 : decode cX5_probe 101 = .ok (.if_icmp .ne 4, 3) := by decide +kernel
theorem dX5_probe_104 : decode cX5_probe 104 = .ok (.return_, 1) := by decide +kernel
theorem dX5_probe_105 : decode cX5_probe 105 = .ok (.iload 4, 2) := by decide +kernel
theorem dX5_probe_107 : decode cX5_probe 107 = .ok (.aload_n 0, 1) := by decide +kernel
theorem dX5_probe_108 : decode cX5_probe 108 = .ok (.getfield 32, 3) := by decide +kernel
theorem dX5_probe_111 : decode cX5_probe 111 = .ok (.iload_n 1, 1) := by decide +kernel
theorem dX5_probe_112 : decode cX5_probe 112 = .ok (.iaload, 1) := by decide +kernel
theorem dX5_probe_113 : decode cX5_probe 113 = .ok (.if_icmp .ge 46, 3) := by decide +kernel
theorem dX5_probe_116 : decode cX5_probe 116 = .ok (.aload_n 0, 1) := by decide +kernel
theorem dX5_probe_117 : decode cX5_probe 117 = .ok (.getfield 56, 3) := by decide +kernel
theorem dX5_probe_120 : decode cX5_probe 120 = .ok (.iload_n 3, 1) := by decide +kernel
theorem dX5_probe_121 : decode cX5_probe 121 = .ok (.iload 4, 2) := by decide +kernel
theorem dX5_probe_123 : decode cX5_probe 123 = .ok (.iconst 1, 1) := by decide +kernel
theorem dX5_probe_124 : decode cX5_probe 124 = .ok (.iadd, 1) := by decide +kernel
theorem dX5_probe_125 : decode cX5_probe 125 = .ok (.iastore, 1) := by decide +kernel
theorem dX5_probe_126 : decode cX5_probe 126 = .ok (.aload_n 0, 1) := by decide +kernel
theorem dX5_probe_127 : decode cX5_probe 127 = .ok (.getfield 59, 3) := by decide +kernel
theorem dX5_probe_130 : decode cX5_probe 130 = .ok (.iload_n 3, 1) := by decide +kernel
theorem dX5_probe_131 : decode cX5_probe 131 = .ok (.aload_n 0, 1) := by decide +kernel
theorem dX5_probe_132 : decode cX5_probe 132 = .ok (.getfield 103, 3) := by decide +kernel
theorem dX5_probe_135 : decode cX5_probe 135 = .ok (.iconst 1, 1) := by decide +kernel
theorem dX5_probe_136 : decode cX5_probe 136 = .ok (.iadd, 1) := by decide +kernel
theorem dX5_probe_137 : decode cX5_probe 137 = .ok (.iconst 3, 1) := by decide +kernel
theorem dX5_probe_138 : decode cX5_probe 138 = .ok (.iload_n 1, 1) := by decide +kernel
theorem dX5_probe_139 : decode cX5_probe 139 = .ok (.imul, 1) := by decide +kernel
theorem dX5_probe_140 : decode cX5_probe 140 = .ok (.iconst 5, 1) := by decide +kernel
theorem dX5_probe_141 : decode cX5_probe 141 = .ok (.iload_n 2, 1) := by decide +kernel
theorem dX5_probe_142 : decode cX5_probe 142 = .ok (.imul, 1) := by decide +kernel
theorem dX5_probe_143 : decode cX5_probe 143 = .ok (.iadd, 1) := by decide +kernel
theorem dX5_probe_144 : decode cX5_probe 144 = .ok (.bipush 7, 2) := by decide +kernel
theorem dX5_probe_146 : decode cX5_probe 146 = .ok (.iload 4, 2) := by decide +kernel
theorem dX5_probe_148 : decode cX5_probe 148 = .ok (.iconst 1, 1) := by decide +kernel
theorem dX5_probe_149 : decode cX5_probe 149 = .ok (.iadd, 1) := by decide +kernel
theorem dX5_probe_150 : decode cX5_probe 150 = .ok (.imul, 1) := by decide +kernel
theorem dX5_probe_151 : decode cX5_probe 151 = .ok (.iadd, 1) := by decide +kernel
theorem dX5_probe_152 : decode cX5_probe 152 = .ok (.iconst 4, 1) := by decide +kernel
theorem dX5_probe_153 : decode cX5_probe 153 = .ok (.irem, 1) := by decide +kernel
theorem dX5_probe_154 : decode cX5_probe 154 = .ok (.iadd, 1) := by decide +kernel
theorem dX5_probe_155 : decode cX5_probe 155 = .ok (.iastore, 1) := by decide +kernel
theorem dX5_probe_156 : decode cX5_probe 156 = .ok (.goto 10, 3) := by decide +kernel
theorem dX5_probe_159 : decode cX5_probe 159 = .ok (.aload_n 0, 1) := by decide +kernel
theorem dX5_probe_160 : decode cX5_probe 160 = .ok (.getfield 53, 3) := by decide +kernel
theorem dX5_probe_163 : decode cX5_probe 163 = .ok (.iload_n 3, 1) := by decide +kernel
theorem dX5_probe_164 : decode cX5_probe 164 = .ok (.iconst 2, 1) := by decide +kernel
theorem dX5_probe_165 : decode cX5_probe 165 = .ok (.iastore, 1) := by decide +kernel
theorem dX5_probe_166 : decode cX5_probe 166 = .ok (.return_, 1) := by decide +kernel
theorem dX5_votesOf_0 : decode cX5_votesOf 0 = .ok (.iconst 0, 1) := by decide +kernel
theorem dX5_votesOf_1 : decode cX5_votesOf 1 = .ok (.istore_n 3, 1) := by decide +kernel
theorem dX5_votesOf_2 : decode cX5_votesOf 2 = .ok (.iconst 0, 1) := by decide +kernel
theorem dX5_votesOf_3 : decode cX5_votesOf 3 = .ok (.istore 4, 2) := by decide +kernel
theorem dX5_votesOf_5 : decode cX5_votesOf 5 = .ok (.iload 4, 2) := by decide +kernel
theorem dX5_votesOf_7 : decode cX5_votesOf 7 = .ok (.aload_n 0, 1) := by decide +kernel
theorem dX5_votesOf_8 : decode cX5_votesOf 8 = .ok (.getfield 89, 3) := by decide +kernel
theorem dX5_votesOf_11 : decode cX5_votesOf 11 = .ok (.if_icmp .ge 33, 3) := by decide +kernel
theorem dX5_votesOf_14 : decode cX5_votesOf 14 = .ok (.iload_n 3, 1) := by decide +kernel
theorem dX5_votesOf_15 : decode cX5_votesOf 15 = .ok (.aload_n 0, 1) := by decide +kernel
theorem dX5_votesOf_16 : decode cX5_votesOf 16 = .ok (.getfield 53, 3) := by decide +kernel
theorem dX5_votesOf_19 : decode cX5_votesOf 19 = .ok (.bipush 6, 2) := by decide +kernel
theorem dX5_votesOf_21 : decode cX5_votesOf 21 = .ok (.iload 4, 2) := by decide +kernel
theorem dX5_votesOf_23 : decode cX5_votesOf 23 = .ok (.imul, 1) := by decide +kernel
theorem dX5_votesOf_24 : decode cX5_votesOf 24 = .ok (.iload_n 1, 1) := by decide +kernel
theorem dX5_votesOf_25 : decode cX5_votesOf 25 = .ok (.iadd, 1) := by decide +kernel
theorem dX5_votesOf_26 : decode cX5_votesOf 26 = .ok (.iaload, 1) := by decide +kernel
theorem dX5_votesOf_27 : decode cX5_votesOf 27 = .ok (.iload_n 2, 1) := by decide +kernel
theorem dX5_votesOf_28 : decode cX5_votesOf 28 = .ok (.if_icmp .ne 7, 3) := by decide +kernel
theorem dX5_votesOf_31 : decode cX5_votesOf 31 = .ok (.iconst 1, 1) := by decide +kernel
theorem dX5_votesOf_32 : decode cX5_votesOf 32 = .ok (.goto 4, 3) := by decide +kernel
theorem dX5_votesOf_35 : decode cX5_votesOf 35 = .ok (.iconst 0, 1) := by decide +kernel
theorem dX5_votesOf_36 : decode cX5_votesOf 36 = .ok (.iadd, 1) := by decide +kernel
theorem dX5_votesOf_37 : decode cX5_votesOf 37 = .ok (.istore_n 3, 1) := by decide +kernel
theorem dX5_votesOf_38 : decode cX5_votesOf 38 = .ok (.iinc 4 1, 3) := by decide +kernel
theorem dX5_votesOf_41 : decode cX5_votesOf 41 = .ok (.goto (-36), 3) := by decide +kernel
theorem dX5_votesOf_44 : decode cX5_votesOf 44 = .ok (.iload_n 3, 1) := by decide +kernel
theorem dX5_votesOf_45 : decode cX5_votesOf 45 = .ok (.ireturn, 1) := by decide +kernel
theorem dX5_isTrusted_0 : decode cX5_isTrusted 0 = .ok (.aload_n 0, 1) := by decide +kernel
theorem dX5_isTrusted_1 : decode cX5_isTrusted 1 = .ok (.getfield 53, 3) := by decide +kernel
theorem dX5_isTrusted_4 : decode cX5_isTrusted 4 = .ok (.bipush 6, 2) := by decide +kernel
theorem dX5_isTrusted_6 : decode cX5_isTrusted 6 = .ok (.iload_n 1, 1) := by decide +kernel
theorem dX5_isTrusted_7 : decode cX5_isTrusted 7 = .ok (.imul, 1) := by decide +kernel
theorem dX5_isTrusted_8 : decode cX5_isTrusted 8 = .ok (.iload_n 2, 1) := by decide +kernel
theorem dX5_isTrusted_9 : decode cX5_isTrusted 9 = .ok (.iadd, 1) := by decide +kernel
theorem dX5_isTrusted_10 : decode cX5_isTrusted 10 = .ok (.iaload, 1) := by decide +kernel
theorem dX5_isTrusted_11 : decode cX5_isTrusted 11 = .ok (.ifCond .le 7, 3) := by decide +kernel
theorem dX5_isTrusted_14 : decode cX5_isTrusted 14 = .ok (.iconst 1, 1) := by decide +kernel
theorem dX5_isTrusted_15 : decode cX5_isTrusted 15 = .ok (.goto 4, 3) := by decide +kernel
theorem dX5_isTrusted_18 : decode cX5_isTrusted 18 = .ok (.iconst 0, 1) := by decide +kernel
theorem dX5_isTrusted_19 : decode cX5_isTrusted 19 = .ok (.istore_n 3, 1) := by decide +kernel
theorem dX5_isTrusted_20 : decode cX5_isTrusted 20 = .ok (.iload_n 2, 1) := by decide +kernel
theorem dX5_isTrusted_21 : decode cX5_isTrusted 21 = .ok (.istore 4, 2) := by decide +kernel
theorem dX5_isTrusted_23 : decode cX5_isTrusted 23 = .ok (.iload 4, 2) := by decide +kernel
theorem dX5_isTrusted_25 : decode cX5_isTrusted 25 = .ok (.ifCond .lt 33, 3) := by decide +kernel
theorem dX5_isTrusted_28 : decode cX5_isTrusted 28 = .ok (.iload_n 3, 1) := by decide +kernel
theorem dX5_isTrusted_29 : decode cX5_isTrusted 29 = .ok (.aload_n 0, 1) := by decide +kernel
theorem dX5_isTrusted_30 : decode cX5_isTrusted 30 = .ok (.getfield 17, 3) := by decide +kernel
theorem dX5_isTrusted_33 : decode cX5_isTrusted 33 = .ok (.iload 4, 2) := by decide +kernel
theorem dX5_isTrusted_35 : decode cX5_isTrusted 35 = .ok (.baload, 1) := by decide +kernel
theorem dX5_isTrusted_36 : decode cX5_isTrusted 36 = .ok (.ifCond .ne 7, 3) := by decide +kernel
theorem dX5_isTrusted_39 : decode cX5_isTrusted 39 = .ok (.iconst 1, 1) := by decide +kernel
theorem dX5_isTrusted_40 : decode cX5_isTrusted 40 = .ok (.goto 4, 3) := by decide +kernel
theorem dX5_isTrusted_43 : decode cX5_isTrusted 43 = .ok (.iconst 0, 1) := by decide +kernel
theorem dX5_isTrusted_44 : decode cX5_isTrusted 44 = .ok (.iand, 1) := by decide +kernel
theorem dX5_isTrusted_45 : decode cX5_isTrusted 45 = .ok (.istore_n 3, 1) := by decide +kernel
theorem dX5_isTrusted_46 : decode cX5_isTrusted 46 = .ok (.aload_n 0, 1) := by decide +kernel
theorem dX5_isTrusted_47 : decode cX5_isTrusted 47 = .ok (.getfield 7, 3) := by decide +kernel
theorem dX5_isTrusted_50 : decode cX5_isTrusted 50 = .ok (.iload 4, 2) := by decide +kernel
theorem dX5_isTrusted_52 : decode cX5_isTrusted 52 = .ok (.iaload, 1) := by decide +kernel
theorem dX5_isTrusted_53 : decode cX5_isTrusted 53 = .ok (.istore 4, 2) := by decide +kernel
theorem dX5_isTrusted_55 : decode cX5_isTrusted 55 = .ok (.goto (-32), 3) := by decide +kernel
theorem dX5_isTrusted_58 : decode cX5_isTrusted 58 = .ok (.iload_n 3, 1) := by decide +kernel
theorem dX5_isTrusted_59 : decode cX5_isTrusted 59 = .ok (.ireturn, 1) := by decide +kernel
set_option maxRecDepth 20000 in
theorem ggX5_judged_X5_isTrusted : GoodIn wsX5_judged wsX5_isTrusted := goodIn_r _ [8, 2, 9, 10, 11, 12, 13, 14, 15, 16, 17, 18, 19, 20, 21, 22, 23, 24, 25, 26, 27, 28, 29, 30, 31, 32, 33, 34, 35, 36, 37, 38] (by decide +kernel) (by decide +kernel)
set_option maxRecDepth 20000 in
theorem gX5_judged_X5_isTrusted : GoodIn wsX5_judged (wsV RX5 113 RX5 yX5_isTrusted wsX5_isTrusted) := goodIn_app (goodIn_of _ (by decide +kernel)) ggX5_judged_X5_isTrusted
theorem dX5_judged_0 : decode cX5_judged 0 = .ok (.iconst 0, 1) := by decide +kernel
theorem dX5_judged_1 : decode cX5_judged 1 = .ok (.istore_n 2, 1) := by decide +kernel
theorem dX5_judged_2 : decode cX5_judged 2 = .ok (.iconst 0, 1) := by decide +kernel
theorem dX5_judged_3 : decode cX5_judged 3 = .ok (.istore_n 3, 1) := by decide +kernel
theorem dX5_judged_4 : decode cX5_judged 4 = .ok (.iconst 0, 1) := by decide +kernel
theorem dX5_judged_5 : decode cX5_judged 5 = .ok (.istore 4, 2) := by decide +kernel
theorem dX5_judged_7 : decode cX5_judged 7 = .ok (.iload 4, 2) := by decide +kernel
theorem dX5_judged_9 : decode cX5_judged 9 = .ok (.aload_n 0, 1) := by decide +kernel
theorem dX5_judged_10 : decode cX5_judged 10 = .ok (.getfield 82, 3) := by decide +kernel
theorem dX5_judged_13 : decode cX5_judged 13 = .ok (.if_icmp .ge 60, 3) := by decide +kernel
theorem dX5_judged_16 : decode cX5_judged 16 = .ok (.aload_n 0, 1) := by decide +kernel
theorem dX5_judged_17 : decode cX5_judged 17 = .ok (.iload_n 1, 1) := by decide +kernel
theorem dX5_judged_18 : decode cX5_judged 18 = .ok (.iload 4, 2) := by decide +kernel
theorem dX5_judged_20 : decode cX5_judged 20 = .ok (.invokevirtual 113, 3) := by decide +kernel
theorem dX5_judged_23 : decode cX5_judged 23 = .ok (.istore 5, 2) := by decide +kernel
theorem dX5_judged_25 : decode cX5_judged 25 = .ok (.iload_n 2, 1) := by decide +kernel
theorem dX5_judged_26 : decode cX5_judged 26 = .ok (.iload 5, 2) := by decide +kernel
theorem dX5_judged_28 : decode cX5_judged 28 = .ok (.ifCond .eq 7, 3) := by decide +kernel
theorem dX5_judged_31 : decode cX5_judged 31 = .ok (.iconst 1, 1) := by decide +kernel
theorem dX5_judged_32 : decode cX5_judged 32 = .ok (.goto 4, 3) := by decide +kernel
theorem dX5_judged_35 : decode cX5_judged 35 = .ok (.iconst 0, 1) := by decide +kernel
theorem dX5_judged_36 : decode cX5_judged 36 = .ok (.iadd, 1) := by decide +kernel
theorem dX5_judged_37 : decode cX5_judged 37 = .ok (.istore_n 2, 1) := by decide +kernel
theorem dX5_judged_38 : decode cX5_judged 38 = .ok (.iload_n 3, 1) := by decide +kernel
theorem dX5_judged_39 : decode cX5_judged 39 = .ok (.iload 5, 2) := by decide +kernel
theorem dX5_judged_41 : decode cX5_judged 41 = .ok (.ifCond .eq 23, 3) := by decide +kernel
theorem dX5_judged_44 : decode cX5_judged 44 = .ok (.aload_n 0, 1) := by decide +kernel
theorem dX5_judged_45 : decode cX5_judged 45 = .ok (.getfield 53, 3) := by decide +kernel
theorem dX5_judged_48 : decode cX5_judged 48 = .ok (.bipush 6, 2) := by decide +kernel
theorem dX5_judged_50 : decode cX5_judged 50 = .ok (.iload_n 1, 1) := by decide +kernel
theorem dX5_judged_51 : decode cX5_judged 51 = .ok (.imul, 1) := by decide +kernel
theorem dX5_judged_52 : decode cX5_judged 52 = .ok (.iload 4, 2) := by decide +kernel
theorem dX5_judged_54 : decode cX5_judged 54 = .ok (.iadd, 1) := by decide +kernel
theorem dX5_judged_55 : decode cX5_judged 55 = .ok (.iaload, 1) := by decide +kernel
theorem dX5_judged_56 : decode cX5_judged 56 = .ok (.iconst 2, 1) := by decide +kernel
theorem dX5_judged_57 : decode cX5_judged 57 = .ok (.if_icmp .ne 7, 3) := by decide +kernel
theorem dX5_judged_60 : decode cX5_judged 60 = .ok (.iconst 1, 1) := by decide +kernel
theorem dX5_judged_61 : decode cX5_judged 61 = .ok (.goto 4, 3) := by decide +kernel
theorem dX5_judged_64 : decode cX5_judged 64 = .ok (.iconst 0, 1) := by decide +kernel
theorem dX5_judged_65 : decode cX5_judged 65 = .ok (.iadd, 1) := by decide +kernel
theorem dX5_judged_66 : decode cX5_judged 66 = .ok (.istore_n 3, 1) := by decide +kernel
theorem dX5_judged_67 : decode cX5_judged 67 = .ok (.iinc 4 1, 3) := by decide +kernel
theorem dX5_judged_70 : decode cX5_judged 70 = .ok (.goto (-63), 3) := by decide +kernel
theorem dX5_judged_73 : decode cX5_judged 73 = .ok (.iload_n 2, 1) := by decide +kernel
theorem dX5_judged_74 : decode cX5_judged 74 = .ok (.aload_n 0, 1) := by decide +kernel
theorem dX5_judged_75 : decode cX5_judged 75 = .ok (.getfield 35, 3) := by decide +kernel
theorem dX5_judged_78 : decode cX5_judged 78 = .ok (.iload_n 1, 1) := by decide +kernel
theorem dX5_judged_79 : decode cX5_judged 79 = .ok (.iaload, 1) := by decide +kernel
theorem dX5_judged_80 : decode cX5_judged 80 = .ok (.if_icmp .ge 7, 3) := by decide +kernel
theorem dX5_judged_83 : decode cX5_judged 83 = .ok (.iconst 0, 1) := by decide +kernel
theorem dX5_judged_84 : decode cX5_judged 84 = .ok (.goto 18, 3) := by decide +kernel
theorem dX5_judged_87 : decode cX5_judged 87 = .ok (.iload_n 3, 1) := by decide +kernel
theorem dX5_judged_88 : decode cX5_judged 88 = .ok (.aload_n 0, 1) := by decide +kernel
theorem dX5_judged_89 : decode cX5_judged 89 = .ok (.getfield 35, 3) := by decide +kernel
theorem dX5_judged_92 : decode cX5_judged 92 = .ok (.iload_n 1, 1) := by decide +kernel
theorem dX5_judged_93 : decode cX5_judged 93 = .ok (.iaload, 1) := by decide +kernel
theorem dX5_judged_94 : decode cX5_judged 94 = .ok (.if_icmp .lt 7, 3) := by decide +kernel
theorem dX5_judged_97 : decode cX5_judged 97 = .ok (.iconst 2, 1) := by decide +kernel
theorem dX5_judged_98 : decode cX5_judged 98 = .ok (.goto 4, 3) := by decide +kernel
theorem dX5_judged_101 : decode cX5_judged 101 = .ok (.iconst 1, 1) := by decide +kernel
theorem dX5_judged_102 : decode cX5_judged 102 = .ok (.ireturn, 1) := by decide +kernel
theorem dX5_isMaintained_0 : decode cX5_isMaintained 0 = .ok (.iconst 0, 1) := by decide +kernel
theorem dX5_isMaintained_1 : decode cX5_isMaintained 1 = .ok (.istore_n 2, 1) := by decide +kernel
theorem dX5_isMaintained_2 : decode cX5_isMaintained 2 = .ok (.iconst 0, 1) := by decide +kernel
theorem dX5_isMaintained_3 : decode cX5_isMaintained 3 = .ok (.istore_n 3, 1) := by decide +kernel
theorem dX5_isMaintained_4 : decode cX5_isMaintained 4 = .ok (.iload_n 3, 1) := by decide +kernel
theorem dX5_isMaintained_5 : decode cX5_isMaintained 5 = .ok (.aload_n 0, 1) := by decide +kernel
theorem dX5_isMaintained_6 : decode cX5_isMaintained 6 = .ok (.getfield 100, 3) := by decide +kernel
theorem dX5_isMaintained_9 : decode cX5_isMaintained 9 = .ok (.if_icmp .ge 53, 3) := by decide +kernel
theorem dX5_isMaintained_12 : decode cX5_isMaintained 12 = .ok (.iload_n 2, 1) := by decide +kernel
theorem dX5_isMaintained_13 : decode cX5_isMaintained 13 = .ok (.aload_n 0, 1) := by decide +kernel
theorem dX5_isMaintained_14 : decode cX5_isMaintained 14 = .ok (.getfield 62, 3) := by decide +kernel
theorem dX5_isMaintained_17 : decode cX5_isMaintained 17 = .ok (.iload_n 3, 1) := by decide +kernel
theorem dX5_isMaintained_18 : decode cX5_isMaintained 18 = .ok (.iaload, 1) := by decide +kernel
theorem dX5_isMaintained_19 : decode cX5_isMaintained 19 = .ok (.iload_n 1, 1) := by decide +kernel
theorem dX5_isMaintained_20 : decode cX5_isMaintained 20 = .ok (.if_icmp .ne 33, 3) := by decide +kernel
theorem dX5_isMaintained_23 : decode cX5_isMaintained 23 = .ok (.aload_n 0, 1) := by decide +kernel
theorem dX5_isMaintained_24 : decode cX5_isMaintained 24 = .ok (.getfield 65, 3) := by decide +kernel
theorem dX5_isMaintained_27 : decode cX5_isMaintained 27 = .ok (.iload_n 3, 1) := by decide +kernel
theorem dX5_isMaintained_28 : decode cX5_isMaintained 28 = .ok (.iaload, 1) := by decide +kernel
theorem dX5_isMaintained_29 : decode cX5_isMaintained 29 = .ok (.aload_n 0, 1) := by decide +kernel
theorem dX5_isMaintained_30 : decode cX5_isMaintained 30 = .ok (.getfield 103, 3) := by decide +kernel
theorem dX5_isMaintained_33 : decode cX5_isMaintained 33 = .ok (.if_icmp .gt 20, 3) := by decide +kernel
theorem dX5_isMaintained_36 : decode cX5_isMaintained 36 = .ok (.aload_n 0, 1) := by decide +kernel
theorem dX5_isMaintained_37 : decode cX5_isMaintained 37 = .ok (.getfield 103, 3) := by decide +kernel
theorem dX5_isMaintained_40 : decode cX5_isMaintained 40 = .ok (.aload_n 0, 1) := by decide +kernel
theorem dX5_isMaintained_41 : decode cX5_isMaintained 41 = .ok (.getfield 68, 3) := by decide +kernel
theorem dX5_isMaintained_44 : decode cX5_isMaintained 44 = .ok (.iload_n 3, 1) := by decide +kernel
theorem dX5_isMaintained_45 : decode cX5_isMaintained 45 = .ok (.iaload, 1) := by decide +kernel
theorem dX5_isMaintained_46 : decode cX5_isMaintained 46 = .ok (.if_icmp .ge 7, 3) := by decide +kernel
theorem dX5_isMaintained_49 : decode cX5_isMaintained 49 = .ok (.iconst 1, 1) := by decide +kernel
theorem dX5_isMaintained_50 : decode cX5_isMaintained 50 = .ok (.goto 4, 3) := by decide +kernel
theorem dX5_isMaintained_53 : decode cX5_isMaintained 53 = .ok (.iconst 0, 1) := by decide +kernel
theorem dX5_isMaintained_54 : decode cX5_isMaintained 54 = .ok (.ior, 1) := by decide +kernel
theorem dX5_isMaintained_55 : decode cX5_isMaintained 55 = .ok (.istore_n 2, 1) := by decide +kernel
theorem dX5_isMaintained_56 : decode cX5_isMaintained 56 = .ok (.iinc 3 1, 3) := by decide +kernel
theorem dX5_isMaintained_59 : decode cX5_isMaintained 59 = .ok (.goto (-55), 3) := by decide +kernel
theorem dX5_isMaintained_62 : decode cX5_isMaintained 62 = .ok (.iload_n 2, 1) := by decide +kernel
theorem dX5_isMaintained_63 : decode cX5_isMaintained 63 = .ok (.ireturn, 1) := by decide +kernel
set_option maxRecDepth 20000 in
theorem ggX5_raises_X5_isMaintained : GoodIn wsX5_raises wsX5_isMaintained := goodIn_r _ [11, 12, 13, 14, 5, 15, 16, 17, 18, 19, 20, 21, 22, 23, 24, 25, 26, 27, 28, 29, 30, 31, 32, 33, 34, 35, 36, 37, 38, 39, 40, 41, 42, 43] (by decide +kernel) (by decide +kernel)
set_option maxRecDepth 20000 in
theorem gX5_raises_X5_isMaintained : GoodIn wsX5_raises (wsV RX5 116 RX5 yX5_isMaintained wsX5_isMaintained) := goodIn_app (goodIn_of _ (by decide +kernel)) ggX5_raises_X5_isMaintained
theorem dX5_raises_0 : decode cX5_raises 0 = .ok (.aload_n 0, 1) := by decide +kernel
theorem dX5_raises_1 : decode cX5_raises 1 = .ok (.getfield 38, 3) := by decide +kernel
theorem dX5_raises_4 : decode cX5_raises 4 = .ok (.iload_n 1, 1) := by decide +kernel
theorem dX5_raises_5 : decode cX5_raises 5 = .ok (.iaload, 1) := by decide +kernel
theorem dX5_raises_6 : decode cX5_raises 6 = .ok (.iconst 2, 1) := by decide +kernel
theorem dX5_raises_7 : decode cX5_raises 7 = .ok (.if_icmp .ne 68, 3) := by decide +kernel
theorem dX5_raises_10 : decode cX5_raises 10 = .ok (.aload_n 0, 1) := by decide +kernel
theorem dX5_raises_11 : decode cX5_raises 11 = .ok (.getfield 41, 3) := by decide +kernel
theorem dX5_raises_14 : decode cX5_raises 14 = .ok (.iload_n 1, 1) := by decide +kernel
theorem dX5_raises_15 : decode cX5_raises 15 = .ok (.iaload, 1) := by decide +kernel
theorem dX5_raises_16 : decode cX5_raises 16 = .ok (.ifCond .ge 59, 3) := by decide +kernel
theorem dX5_raises_19 : decode cX5_raises 19 = .ok (.aload_n 0, 1) := by decide +kernel
theorem dX5_raises_20 : decode cX5_raises 20 = .ok (.iload_n 1, 1) := by decide +kernel
theorem dX5_raises_21 : decode cX5_raises 21 = .ok (.invokevirtual 116, 3) := by decide +kernel
theorem dX5_raises_24 : decode cX5_raises 24 = .ok (.ifCond .ne 51, 3) := by decide +kernel
theorem dX5_raises_27 : decode cX5_raises 27 = .ok (.aload_n 0, 1) := by decide +kernel
theorem dX5_raises_28 : decode cX5_raises 28 = .ok (.getfield 72, 3) := by decide +kernel
theorem dX5_raises_31 : decode cX5_raises 31 = .ok (.aload_n 0, 1) := by decide +kernel
theorem dX5_raises_32 : decode cX5_raises 32 = .ok (.getfield 119, 3) := by decide +kernel
theorem dX5_raises_35 : decode cX5_raises 35 = .ok (.bipush 8, 2) := by decide +kernel
theorem dX5_raises_37 : decode cX5_raises 37 = .ok (.aload_n 0, 1) := by decide +kernel
theorem dX5_raises_38 : decode cX5_raises 38 = .ok (.getfield 103, 3) := by decide +kernel
theorem dX5_raises_41 : decode cX5_raises 41 = .ok (.imul, 1) := by decide +kernel
theorem dX5_raises_42 : decode cX5_raises 42 = .ok (.iload_n 1, 1) := by decide +kernel
theorem dX5_raises_43 : decode cX5_raises 43 = .ok (.iadd, 1) := by decide +kernel
theorem dX5_raises_44 : decode cX5_raises 44 = .ok (.iastore, 1) := by decide +kernel
theorem dX5_raises_45 : decode cX5_raises 45 = .ok (.aload_n 0, 1) := by decide +kernel
theorem dX5_raises_46 : decode cX5_raises 46 = .ok (.getfield 75, 3) := by decide +kernel
theorem dX5_raises_49 : decode cX5_raises 49 = .ok (.aload_n 0, 1) := by decide +kernel
theorem dX5_raises_50 : decode cX5_raises 50 = .ok (.getfield 119, 3) := by decide +kernel
theorem dX5_raises_53 : decode cX5_raises 53 = .ok (.iconst (-1), 1) := by decide +kernel
theorem dX5_raises_54 : decode cX5_raises 54 = .ok (.iastore, 1) := by decide +kernel
theorem dX5_raises_55 : decode cX5_raises 55 = .ok (.aload_n 0, 1) := by decide +kernel
theorem dX5_raises_56 : decode cX5_raises 56 = .ok (.getfield 41, 3) := by decide +kernel
theorem dX5_raises_59 : decode cX5_raises 59 = .ok (.iload_n 1, 1) := by decide +kernel
theorem dX5_raises_60 : decode cX5_raises 60 = .ok (.aload_n 0, 1) := by decide +kernel
theorem dX5_raises_61 : decode cX5_raises 61 = .ok (.getfield 119, 3) := by decide +kernel
theorem dX5_raises_64 : decode cX5_raises 64 = .ok (.iastore, 1) := by decide +kernel
theorem dX5_raises_65 : decode cX5_raises 65 = .ok (.aload_n 0, 1) := by decide +kernel
theorem dX5_raises_66 : decode cX5_raises 66 = .ok (.dup, 1) := by decide +kernel
theorem dX5_raises_67 : decode cX5_raises 67 = .ok (.getfield 119, 3) := by decide +kernel
theorem dX5_raises_70 : decode cX5_raises 70 = .ok (.iconst 1, 1) := by decide +kernel
theorem dX5_raises_71 : decode cX5_raises 71 = .ok (.iadd, 1) := by decide +kernel
theorem dX5_raises_72 : decode cX5_raises 72 = .ok (.putfield 119, 3) := by decide +kernel
theorem dX5_raises_75 : decode cX5_raises 75 = .ok (.aload_n 0, 1) := by decide +kernel
theorem dX5_raises_76 : decode cX5_raises 76 = .ok (.getfield 38, 3) := by decide +kernel
theorem dX5_raises_79 : decode cX5_raises 79 = .ok (.iload_n 1, 1) := by decide +kernel
theorem dX5_raises_80 : decode cX5_raises 80 = .ok (.iaload, 1) := by decide +kernel
theorem dX5_raises_81 : decode cX5_raises 81 = .ok (.iconst 1, 1) := by decide +kernel
theorem dX5_raises_82 : decode cX5_raises 82 = .ok (.if_icmp .ne 34, 3) := by decide +kernel
theorem dX5_raises_85 : decode cX5_raises 85 = .ok (.aload_n 0, 1) := by decide +kernel
theorem dX5_raises_86 : decode cX5_raises 86 = .ok (.getfield 41, 3) := by decide +kernel
theorem dX5_raises_89 : decode cX5_raises 89 = .ok (.iload_n 1, 1) := by decide +kernel
theorem dX5_raises_90 : decode cX5_raises 90 = .ok (.iaload, 1) := by decide +kernel
theorem dX5_raises_91 : decode cX5_raises 91 = .ok (.ifCond .lt 25, 3) := by decide +kernel
theorem dX5_raises_94 : decode cX5_raises 94 = .ok (.aload_n 0, 1) := by decide +kernel
theorem dX5_raises_95 : decode cX5_raises 95 = .ok (.getfield 75, 3) := by decide +kernel
theorem dX5_raises_98 : decode cX5_raises 98 = .ok (.aload_n 0, 1) := by decide +kernel
theorem dX5_raises_99 : decode cX5_raises 99 = .ok (.getfield 41, 3) := by decide +kernel
theorem dX5_raises_102 : decode cX5_raises 102 = .ok (.iload_n 1, 1) := by decide +kernel
theorem dX5_raises_103 : decode cX5_raises 103 = .ok (.iaload, 1) := by decide +kernel
theorem dX5_raises_104 : decode cX5_raises 104 = .ok (.aload_n 0, 1) := by decide +kernel
theorem dX5_raises_105 : decode cX5_raises 105 = .ok (.getfield 103, 3) := by decide +kernel
theorem dX5_raises_108 : decode cX5_raises 108 = .ok (.iastore, 1) := by decide +kernel
theorem dX5_raises_109 : decode cX5_raises 109 = .ok (.aload_n 0, 1) := by decide +kernel
theorem dX5_raises_110 : decode cX5_raises 110 = .ok (.getfield 41, 3) := by decide +kernel
theorem dX5_raises_113 : decode cX5_raises 113 = .ok (.iload_n 1, 1) := by decide +kernel
theorem dX5_raises_114 : decode cX5_raises 114 = .ok (.iconst (-1), 1) := by decide +kernel
theorem dX5_raises_115 : decode cX5_raises 115 = .ok (.iastore, 1) := by decide +kernel
theorem dX5_raises_116 : decode cX5_raises 116 = .ok (.return_, 1) := by decide +kernel
set_option maxRecDepth 20000 in
theorem ggX5_passes_X5_probe : GoodIn wsX5_passes wsX5_probe := goodIn_r _ [12, 13, 14, 1, 15, 16, 17, 18, 19, 20, 21, 11, 22, 23, 24, 25, 26, 27, 28, 29, 30, 31, 61, 62, 63, 64, 65, 66, 67, 68, 69, 70, 71, 72, 73, 74, 75, 76, 77, 78, 79, 80, 81, 82, 83, 84, 85, 86, 87, 88] (by decide +kernel) (by decide +kernel)
set_option maxRecDepth 20000 in
theorem gX5_passes_X5_probe : GoodIn wsX5_passes (wsV RX5 122 RX5 yX5_probe wsX5_probe) := goodIn_app (goodIn_of _ (by decide +kernel)) ggX5_passes_X5_probe
set_option maxRecDepth 20000 in
theorem ggX5_passes_X5_votesOf : GoodIn wsX5_passes wsX5_votesOf := goodIn_r _ [35, 2, 16, 61, 62, 63, 64, 65, 66, 67, 68, 69, 70, 71, 72, 73, 74, 75, 76, 77, 78, 79, 80, 81, 82, 83, 84, 85, 86, 87, 88] (by decide +kernel) (by decide +kernel)
set_option maxRecDepth 20000 in
theorem gX5_passes_X5_votesOf : GoodIn wsX5_passes (wsV RX5 126 RX5 yX5_votesOf wsX5_votesOf) := goodIn_app (goodIn_of _ (by decide +kernel)) ggX5_passes_X5_votesOf
set_option maxRecDepth 20000 in
theorem ggX5_passes_X5_judged : GoodIn wsX5_passes wsX5_judged := goodIn_r _ [39, 3, 16, 40, 41, 42, 43, 11, 44, 4, 31, 61, 62, 63, 64, 65, 66, 67, 68, 69, 70, 71, 72, 73, 74, 75, 76, 77, 78, 79, 80, 81, 82, 83, 84, 85, 86, 87, 88] (by decide +kernel) (by decide +kernel)
set_option maxRecDepth 20000 in
theorem gX5_passes_X5_judged : GoodIn wsX5_passes (wsV RX5 130 RX5 yX5_judged wsX5_judged) := goodIn_app (goodIn_of _ (by decide +kernel)) ggX5_passes_X5_judged
set_option maxRecDepth 20000 in
theorem ggX5_passes_X5_raises : GoodIn wsX5_passes wsX5_raises := goodIn_r _ [48, 5, 49, 50, 51, 1, 52, 53, 54, 55, 11, 56, 57, 58, 59, 60, 61, 62, 63, 64, 65, 66, 67, 68, 69, 70, 71, 72, 73, 74, 75, 76, 77, 78, 79, 80, 81, 82, 83, 84, 85, 86, 87, 88] (by decide +kernel) (by decide +kernel)
set_option maxRecDepth 20000 in
theorem gX5_passes_X5_raises : GoodIn wsX5_passes (wsV RX5 134 RX5 yX5_raises wsX5_raises) := goodIn_app (goodIn_of _ (by decide +kernel)) ggX5_passes_X5_raises
theorem dX5_passes_0 : decode cX5_passes 0 = .ok (.aload_n 0, 1) := by decide +kernel
theorem dX5_passes_1 : decode cX5_passes 1 = .ok (.dup, 1) := by decide +kernel
theorem dX5_passes_2 : decode cX5_passes 2 = .ok (.getfield 103, 3) := by decide +kernel
theorem dX5_passes_5 : decode cX5_passes 5 = .ok (.iconst 1, 1) := by decide +kernel
theorem dX5_passes_6 : decode cX5_passes 6 = .ok (.iadd, 1) := by decide +kernel
theorem dX5_passes_7 : decode cX5_passes 7 = .ok (.putfield 103, 3) := by decide +kernel
theorem dX5_passes_10 : decode cX5_passes 10 = .ok (.iconst 0, 1) := by decide +kernel
theorem dX5_passes_11 : decode cX5_passes 11 = .ok (.istore_n 1, 1) := by decide +kernel
theorem dX5_passes_12 : decode cX5_passes 12 = .ok (.iload_n 1, 1) := by decide +kernel
theorem dX5_passes_13 : decode cX5_passes 13 = .ok (.bipush 6, 2) := by decide +kernel
theorem dX5_passes_15 : decode cX5_passes 15 = .ok (.aload_n 0, 1) := by decide +kernel
theorem dX5_passes_16 : decode cX5_passes 16 = .ok (.getfield 89, 3) := by decide +kernel
theorem dX5_passes_19 : decode cX5_passes 19 = .ok (.imul, 1) := by decide +kernel
theorem dX5_passes_20 : decode cX5_passes 20 = .ok (.if_icmp .ge 32, 3) := by decide +kernel
theorem dX5_passes_23 : decode cX5_passes 23 = .ok (.iload_n 1, 1) := by decide +kernel
theorem dX5_passes_24 : decode cX5_passes 24 = .ok (.bipush 6, 2) := by decide +kernel
theorem dX5_passes_26 : decode cX5_passes 26 = .ok (.irem, 1) := by decide +kernel
theorem dX5_passes_27 : decode cX5_passes 27 = .ok (.aload_n 0, 1) := by decide +kernel
theorem dX5_passes_28 : decode cX5_passes 28 = .ok (.getfield 82, 3) := by decide +kernel
theorem dX5_passes_31 : decode cX5_passes 31 = .ok (.if_icmp .ge 15, 3) := by decide +kernel
theorem dX5_passes_34 : decode cX5_passes 34 = .ok (.aload_n 0, 1) := by decide +kernel
theorem dX5_passes_35 : decode cX5_passes 35 = .ok (.iload_n 1, 1) := by decide +kernel
theorem dX5_passes_36 : decode cX5_passes 36 = .ok (.bipush 6, 2) := by decide +kernel
theorem dX5_passes_38 : decode cX5_passes 38 = .ok (.idiv, 1) := by decide +kernel
theorem dX5_passes_39 : decode cX5_passes 39 = .ok (.iload_n 1, 1) := by decide +kernel
theorem dX5_passes_40 : decode cX5_passes 40 = .ok (.bipush 6, 2) := by decide +kernel
theorem dX5_passes_42 : decode cX5_passes 42 = .ok (.irem, 1) := by decide +kernel
theorem dX5_passes_43 : decode cX5_passes 43 = .ok (.invokevirtual 122, 3) := by decide +kernel
theorem dX5_passes_46 : decode cX5_passes 46 = .ok (.iinc 1 1, 3) := by decide +kernel
theorem dX5_passes_49 : decode cX5_passes 49 = .ok (.goto (-37), 3) := by decide +kernel
theorem dX5_passes_52 : decode cX5_passes 52 = .ok (.iconst 0, 1) := by decide +kernel
theorem dX5_passes_53 : decode cX5_passes 53 = .ok (.istore_n 1, 1) := by decide +kernel
theorem dX5_passes_54 : decode cX5_passes 54 = .ok (.iload_n 1, 1) := by decide +kernel
theorem dX5_passes_55 : decode cX5_passes 55 = .ok (.aload_n 0, 1) := by decide +kernel
theorem dX5_passes_56 : decode cX5_passes 56 = .ok (.getfield 82, 3) := by decide +kernel
theorem dX5_passes_59 : decode cX5_passes 59 = .ok (.if_icmp .ge 48, 3) := by decide +kernel
theorem dX5_passes_62 : decode cX5_passes 62 = .ok (.aload_n 0, 1) := by decide +kernel
theorem dX5_passes_63 : decode cX5_passes 63 = .ok (.iload_n 1, 1) := by decide +kernel
theorem dX5_passes_64 : decode cX5_passes 64 = .ok (.iconst 2, 1) := by decide +kernel
theorem dX5_passes_65 : decode cX5_passes 65 = .ok (.invokevirtual 126, 3) := by decide +kernel
theorem dX5_passes_68 : decode cX5_passes 68 = .ok (.istore_n 2, 1) := by decide +kernel
theorem dX5_passes_69 : decode cX5_passes 69 = .ok (.iload_n 2, 1) := by decide +kernel
theorem dX5_passes_70 : decode cX5_passes 70 = .ok (.aload_n 0, 1) := by decide +kernel
theorem dX5_passes_71 : decode cX5_passes 71 = .ok (.iload_n 1, 1) := by decide +kernel
theorem dX5_passes_72 : decode cX5_passes 72 = .ok (.iconst 1, 1) := by decide +kernel
theorem dX5_passes_73 : decode cX5_passes 73 = .ok (.invokevirtual 126, 3) := by decide +kernel
theorem dX5_passes_76 : decode cX5_passes 76 = .ok (.iadd, 1) := by decide +kernel
theorem dX5_passes_77 : decode cX5_passes 77 = .ok (.istore_n 3, 1) := by decide +kernel
theorem dX5_passes_78 : decode cX5_passes 78 = .ok (.aload_n 0, 1) := by decide +kernel
theorem dX5_passes_79 : decode cX5_passes 79 = .ok (.getfield 17, 3) := by decide +kernel
theorem dX5_passes_82 : decode cX5_passes 82 = .ok (.iload_n 1, 1) := by decide +kernel
theorem dX5_passes_83 : decode cX5_passes 83 = .ok (.iload_n 3, 1) := by decide +kernel
theorem dX5_passes_84 : decode cX5_passes 84 = .ok (.iconst 1, 1) := by decide +kernel
theorem dX5_passes_85 : decode cX5_passes 85 = .ok (.if_icmp .le 14, 3) := by decide +kernel
theorem dX5_passes_88 : decode cX5_passes 88 = .ok (.iconst 2, 1) := by decide +kernel
theorem dX5_passes_89 : decode cX5_passes 89 = .ok (.iload_n 2, 1) := by decide +kernel
theorem dX5_passes_90 : decode cX5_passes 90 = .ok (.imul, 1) := by decide +kernel
theorem dX5_passes_91 : decode cX5_passes 91 = .ok (.iload_n 3, 1) := by decide +kernel
theorem dX5_passes_92 : decode cX5_passes 92 = .ok (.if_icmp .le 7, 3) := by decide +kernel
theorem dX5_passes_95 : decode cX5_passes 95 = .ok (.iconst 1, 1) := by decide +kernel
theorem dX5_passes_96 : decode cX5_passes 96 = .ok (.goto 4, 3) := by decide +kernel
theorem dX5_passes_99 : decode cX5_passes 99 = .ok (.iconst 0, 1) := by decide +kernel
theorem dX5_passes_100 : decode cX5_passes 100 = .ok (.bastore, 1) := by decide +kernel
theorem dX5_passes_101 : decode cX5_passes 101 = .ok (.iinc 1 1, 3) := by decide +kernel
theorem dX5_passes_104 : decode cX5_passes 104 = .ok (.goto (-50), 3) := by decide +kernel
theorem dX5_passes_107 : decode cX5_passes 107 = .ok (.iconst 0, 1) := by decide +kernel
theorem dX5_passes_108 : decode cX5_passes 108 = .ok (.istore_n 1, 1) := by decide +kernel
theorem dX5_passes_109 : decode cX5_passes 109 = .ok (.iload_n 1, 1) := by decide +kernel
theorem dX5_passes_110 : decode cX5_passes 110 = .ok (.aload_n 0, 1) := by decide +kernel
theorem dX5_passes_111 : decode cX5_passes 111 = .ok (.getfield 89, 3) := by decide +kernel
theorem dX5_passes_114 : decode cX5_passes 114 = .ok (.if_icmp .ge 72, 3) := by decide +kernel
theorem dX5_passes_117 : decode cX5_passes 117 = .ok (.aload_n 0, 1) := by decide +kernel
theorem dX5_passes_118 : decode cX5_passes 118 = .ok (.getfield 38, 3) := by decide +kernel
theorem dX5_passes_121 : decode cX5_passes 121 = .ok (.iload_n 1, 1) := by decide +kernel
theorem dX5_passes_122 : decode cX5_passes 122 = .ok (.aload_n 0, 1) := by decide +kernel
theorem dX5_passes_123 : decode cX5_passes 123 = .ok (.iload_n 1, 1) := by decide +kernel
theorem dX5_passes_124 : decode cX5_passes 124 = .ok (.invokevirtual 130, 3) := by decide +kernel
theorem dX5_passes_127 : decode cX5_passes 127 = .ok (.iastore, 1) := by decide +kernel
theorem dX5_passes_128 : decode cX5_passes 128 = .ok (.aload_n 0, 1) := by decide +kernel
theorem dX5_passes_129 : decode cX5_passes 129 = .ok (.iload_n 1, 1) := by decide +kernel
theorem dX5_passes_130 : decode cX5_passes 130 = .ok (.invokevirtual 134, 3) := by decide +kernel
theorem dX5_passes_133 : decode cX5_passes 133 = .ok (.aload_n 0, 1) := by decide +kernel
theorem dX5_passes_134 : decode cX5_passes 134 = .ok (.getfield 44, 3) := by decide +kernel
theorem dX5_passes_137 : decode cX5_passes 137 = .ok (.iload_n 1, 1) := by decide +kernel
theorem dX5_passes_138 : decode cX5_passes 138 = .ok (.dup2, 1) := by decide +kernel
theorem dX5_passes_139 : decode cX5_passes 139 = .ok (.iaload, 1) := by decide +kernel
theorem dX5_passes_140 : decode cX5_passes 140 = .ok (.aload_n 0, 1) := by decide +kernel
theorem dX5_passes_141 : decode cX5_passes 141 = .ok (.getfield 38, 3) := by decide +kernel
theorem dX5_passes_144 : decode cX5_passes 144 = .ok (.iload_n 1, 1) := by decide +kernel
theorem dX5_passes_145 : decode cX5_passes 145 = .ok (.iaload, 1) := by decide +kernel
theorem dX5_passes_146 : decode cX5_passes 146 = .ok (.iconst 1, 1) := by decide +kernel
theorem dX5_passes_147 : decode cX5_passes 147 = .ok (.if_icmp .ne 7, 3) := by decide +kernel
theorem dX5_passes_150 : decode cX5_passes 150 = .ok (.iconst 1, 1) := by decide +kernel
theorem dX5_passes_151 : decode cX5_passes 151 = .ok (.goto 4, 3) := by decide +kernel
theorem dX5_passes_154 : decode cX5_passes 154 = .ok (.iconst 0, 1) := by decide +kernel
theorem dX5_passes_155 : decode cX5_passes 155 = .ok (.iadd, 1) := by decide +kernel
theorem dX5_passes_156 : decode cX5_passes 156 = .ok (.iastore, 1) := by decide +kernel
theorem dX5_passes_157 : decode cX5_passes 157 = .ok (.aload_n 0, 1) := by decide +kernel
theorem dX5_passes_158 : decode cX5_passes 158 = .ok (.getfield 47, 3) := by decide +kernel
theorem dX5_passes_161 : decode cX5_passes 161 = .ok (.iload_n 1, 1) := by decide +kernel
theorem dX5_passes_162 : decode cX5_passes 162 = .ok (.dup2, 1) := by decide +kernel
theorem dX5_passes_163 : decode cX5_passes 163 = .ok (.iaload, 1) := by decide +kernel
theorem dX5_passes_164 : decode cX5_passes 164 = .ok (.aload_n 0, 1) := by decide +kernel
theorem dX5_passes_165 : decode cX5_passes 165 = .ok (.getfield 38, 3) := by decide +kernel
theorem dX5_passes_168 : decode cX5_passes 168 = .ok (.iload_n 1, 1) := by decide +kernel
theorem dX5_passes_169 : decode cX5_passes 169 = .ok (.iaload, 1) := by decide +kernel
theorem dX5_passes_170 : decode cX5_passes 170 = .ok (.ifCond .le 7, 3) := by decide +kernel
theorem dX5_passes_173 : decode cX5_passes 173 = .ok (.iconst 1, 1) := by decide +kernel
theorem dX5_passes_174 : decode cX5_passes 174 = .ok (.goto 4, 3) := by decide +kernel
theorem dX5_passes_177 : decode cX5_passes 177 = .ok (.iconst 0, 1) := by decide +kernel
theorem dX5_passes_178 : decode cX5_passes 178 = .ok (.iadd, 1) := by decide +kernel
theorem dX5_passes_179 : decode cX5_passes 179 = .ok (.iastore, 1) := by decide +kernel
theorem dX5_passes_180 : decode cX5_passes 180 = .ok (.iinc 1 1, 3) := by decide +kernel
theorem dX5_passes_183 : decode cX5_passes 183 = .ok (.goto (-74), 3) := by decide +kernel
theorem dX5_passes_186 : decode cX5_passes 186 = .ok (.return_, 1) := by decide +kernel
set_option maxRecDepth 20000 in
theorem ggX5_pass_X5_isIn : GoodIn wsX5_pass wsX5_isIn := goodIn_r _ [6] (by decide +kernel) (by decide +kernel)
set_option maxRecDepth 20000 in
theorem gX5_pass_X5_isIn : GoodIn wsX5_pass (va_wsS RX5 85 yX5_isIn wsX5_isIn) := goodIn_app (goodIn_of _ (by decide +kernel)) ggX5_pass_X5_isIn
set_option maxRecDepth 20000 in
theorem ggX5_pass_X5_passes : GoodIn wsX5_pass wsX5_passes := goodIn_r _ [10, 11, 12, 13, 14, 15, 16, 17, 18, 19, 20, 5, 21, 22, 23, 24, 25, 26, 27, 28, 29, 30, 31, 32, 33, 34, 35, 36, 37, 38, 39, 40, 41, 42, 43, 44, 45, 46, 47, 48, 49, 50, 51, 52, 53, 54, 55, 56, 57, 58, 59, 2, 60, 61, 62, 63, 64, 65, 66, 67, 68, 69, 70, 71, 72, 73, 74, 75, 76, 77, 78, 79, 80, 81, 82, 83, 84, 85, 86, 87, 88, 89, 90, 91, 92, 93, 94, 95, 96] (by decide +kernel) (by decide +kernel)
set_option maxRecDepth 20000 in
theorem gX5_pass_X5_passes : GoodIn wsX5_pass (wsV RX5 138 RX5 yX5_passes wsX5_passes) := goodIn_app (goodIn_of _ (by decide +kernel)) ggX5_pass_X5_passes
theorem dX5_pass_0 : decode cX5_pass 0 = .ok (.aload_n 0, 1) := by decide +kernel
theorem dX5_pass_1 : decode cX5_pass 1 = .ok (.iload_n 1, 1) := by decide +kernel
theorem dX5_pass_2 : decode cX5_pass 2 = .ok (.iconst 1, 1) := by decide +kernel
theorem dX5_pass_3 : decode cX5_pass 3 = .ok (.sipush 200, 3) := by decide +kernel
theorem dX5_pass_6 : decode cX5_pass 6 = .ok (.invokestatic 85, 3) := by decide +kernel
theorem dX5_pass_9 : decode cX5_pass 9 = .ok (.ifCond .eq 7, 3) := by decide +kernel
theorem dX5_pass_12 : decode cX5_pass 12 = .ok (.iconst 0, 1) := by decide +kernel
theorem dX5_pass_13 : decode cX5_pass 13 = .ok (.goto 4, 3) := by decide +kernel
theorem dX5_pass_16 : decode cX5_pass 16 = .ok (.iconst 1, 1) := by decide +kernel
theorem dX5_pass_17 : decode cX5_pass 17 = .ok (.putfield 78, 3) := by decide +kernel
theorem dX5_pass_20 : decode cX5_pass 20 = .ok (.aload_n 0, 1) := by decide +kernel
theorem dX5_pass_21 : decode cX5_pass 21 = .ok (.getfield 119, 3) := by decide +kernel
theorem dX5_pass_24 : decode cX5_pass 24 = .ok (.istore_n 2, 1) := by decide +kernel
theorem dX5_pass_25 : decode cX5_pass 25 = .ok (.iconst 0, 1) := by decide +kernel
theorem dX5_pass_26 : decode cX5_pass 26 = .ok (.istore_n 3, 1) := by decide +kernel
theorem dX5_pass_27 : decode cX5_pass 27 = .ok (.iload_n 3, 1) := by decide +kernel
theorem dX5_pass_28 : decode cX5_pass 28 = .ok (.iload_n 1, 1) := by decide +kernel
theorem dX5_pass_29 : decode cX5_pass 29 = .ok (.if_icmp .ge 20, 3) := by decide +kernel
theorem dX5_pass_32 : decode cX5_pass 32 = .ok (.aload_n 0, 1) := by decide +kernel
theorem dX5_pass_33 : decode cX5_pass 33 = .ok (.getfield 78, 3) := by decide +kernel
theorem dX5_pass_36 : decode cX5_pass 36 = .ok (.ifCond .ne 13, 3) := by decide +kernel
theorem dX5_pass_39 : decode cX5_pass 39 = .ok (.aload_n 0, 1) := by decide +kernel
theorem dX5_pass_40 : decode cX5_pass 40 = .ok (.invokevirtual 138, 3) := by decide +kernel
theorem dX5_pass_43 : decode cX5_pass 43 = .ok (.iinc 3 1, 3) := by decide +kernel
theorem dX5_pass_46 : decode cX5_pass 46 = .ok (.goto (-19), 3) := by decide +kernel
theorem dX5_pass_49 : decode cX5_pass 49 = .ok (.aload_n 0, 1) := by decide +kernel
theorem dX5_pass_50 : decode cX5_pass 50 = .ok (.getfield 119, 3) := by decide +kernel
theorem dX5_pass_53 : decode cX5_pass 53 = .ok (.iload_n 2, 1) := by decide +kernel
theorem dX5_pass_54 : decode cX5_pass 54 = .ok (.isub, 1) := by decide +kernel
theorem dX5_pass_55 : decode cX5_pass 55 = .ok (.ireturn, 1) := by decide +kernel
theorem dX5_minute_0 : decode cX5_minute 0 = .ok (.aload_n 0, 1) := by decide +kernel
theorem dX5_minute_1 : decode cX5_minute 1 = .ok (.iconst 0, 1) := by decide +kernel
theorem dX5_minute_2 : decode cX5_minute 2 = .ok (.putfield 78, 3) := by decide +kernel
theorem dX5_minute_5 : decode cX5_minute 5 = .ok (.aload_n 0, 1) := by decide +kernel
theorem dX5_minute_6 : decode cX5_minute 6 = .ok (.getfield 103, 3) := by decide +kernel
theorem dX5_minute_9 : decode cX5_minute 9 = .ok (.ireturn, 1) := by decide +kernel
set_option maxRecDepth 20000 in
theorem ggX5_failing_X5_isCheck : GoodIn wsX5_failing wsX5_isCheck := goodIn_r _ [7, 8, 9, 10, 6, 11, 19, 20, 21, 22, 23, 24, 25, 26, 27, 28, 29, 30, 31, 32, 33, 34, 35, 36, 37, 38, 39, 40, 41, 42, 43, 44, 45, 46] (by decide +kernel) (by decide +kernel)
set_option maxRecDepth 20000 in
theorem gX5_failing_X5_isCheck : GoodIn wsX5_failing (wsV RX5 96 RX5 yX5_isCheck wsX5_isCheck) := goodIn_app (goodIn_of _ (by decide +kernel)) ggX5_failing_X5_isCheck
set_option maxRecDepth 20000 in
theorem ggX5_failing_X5_fails : GoodIn wsX5_failing wsX5_fails := goodIn_r _ [15, 16, 17, 18, 19, 20, 21, 22, 23, 24, 25, 26, 27, 28, 29, 30, 31, 32, 33, 34, 35, 36, 37, 38, 39, 40, 41, 42, 43, 44, 45, 46] (by decide +kernel) (by decide +kernel)
set_option maxRecDepth 20000 in
theorem gX5_failing_X5_fails : GoodIn wsX5_failing (wsV RX5 109 RX5 yX5_fails wsX5_fails) := goodIn_app (goodIn_of _ (by decide +kernel)) ggX5_failing_X5_fails
theorem dX5_failing_0 : decode cX5_failing 0 = .ok (.aload_n 0, 1) := by decide +kernel
theorem dX5_failing_1 : decode cX5_failing 1 = .ok (.aload_n 0, 1) := by decide +kernel
theorem dX5_failing_2 : decode cX5_failing 2 = .ok (.iload_n 1, 1) := by decide +kernel
theorem dX5_failing_3 : decode cX5_failing 3 = .ok (.invokevirtual 96, 3) := by decide +kernel
theorem dX5_failing_6 : decode cX5_failing 6 = .ok (.ifCond .eq 7, 3) := by decide +kernel
theorem dX5_failing_9 : decode cX5_failing 9 = .ok (.iconst 0, 1) := by decide +kernel
theorem dX5_failing_10 : decode cX5_failing 10 = .ok (.goto 4, 3) := by decide +kernel
theorem dX5_failing_13 : decode cX5_failing 13 = .ok (.iconst 1, 1) := by decide +kernel
theorem dX5_failing_14 : decode cX5_failing 14 = .ok (.putfield 78, 3) := by decide +kernel
theorem dX5_failing_17 : decode cX5_failing 17 = .ok (.iconst 0, 1) := by decide +kernel
theorem dX5_failing_18 : decode cX5_failing 18 = .ok (.istore_n 2, 1) := by decide +kernel
theorem dX5_failing_19 : decode cX5_failing 19 = .ok (.iconst 0, 1) := by decide +kernel
theorem dX5_failing_20 : decode cX5_failing 20 = .ok (.istore_n 3, 1) := by decide +kernel
theorem dX5_failing_21 : decode cX5_failing 21 = .ok (.iload_n 3, 1) := by decide +kernel
theorem dX5_failing_22 : decode cX5_failing 22 = .ok (.aload_n 0, 1) := by decide +kernel
theorem dX5_failing_23 : decode cX5_failing 23 = .ok (.getfield 82, 3) := by decide +kernel
theorem dX5_failing_26 : decode cX5_failing 26 = .ok (.if_icmp .ge 35, 3) := by decide +kernel
theorem dX5_failing_29 : decode cX5_failing 29 = .ok (.aload_n 0, 1) := by decide +kernel
theorem dX5_failing_30 : decode cX5_failing 30 = .ok (.getfield 78, 3) := by decide +kernel
theorem dX5_failing_33 : decode cX5_failing 33 = .ok (.ifCond .ne 28, 3) := by decide +kernel
theorem dX5_failing_36 : decode cX5_failing 36 = .ok (.iload_n 2, 1) := by decide +kernel
theorem dX5_failing_37 : decode cX5_failing 37 = .ok (.aload_n 0, 1) := by decide +kernel
theorem dX5_failing_38 : decode cX5_failing 38 = .ok (.iload_n 1, 1) := by decide +kernel
theorem dX5_failing_39 : decode cX5_failing 39 = .ok (.iload_n 3, 1) := by decide +kernel
theorem dX5_failing_40 : decode cX5_failing 40 = .ok (.invokevirtual 109, 3) := by decide +kernel
theorem dX5_failing_43 : decode cX5_failing 43 = .ok (.ifCond .eq 9, 3) := by decide +kernel
theorem dX5_failing_46 : decode cX5_failing 46 = .ok (.iconst 1, 1) := by decide +kernel
theorem dX5_failing_47 : decode cX5_failing 47 = .ok (.iload_n 3, 1) := by decide +kernel
theorem dX5_failing_48 : decode cX5_failing 48 = .ok (.ishl, 1) := by decide +kernel
theorem dX5_failing_49 : decode cX5_failing 49 = .ok (.goto 4, 3) := by decide +kernel
theorem dX5_failing_52 : decode cX5_failing 52 = .ok (.iconst 0, 1) := by decide +kernel
theorem dX5_failing_53 : decode cX5_failing 53 = .ok (.ior, 1) := by decide +kernel
theorem dX5_failing_54 : decode cX5_failing 54 = .ok (.istore_n 2, 1) := by decide +kernel
theorem dX5_failing_55 : decode cX5_failing 55 = .ok (.iinc 3 1, 3) := by decide +kernel
theorem dX5_failing_58 : decode cX5_failing 58 = .ok (.goto (-37), 3) := by decide +kernel
theorem dX5_failing_61 : decode cX5_failing 61 = .ok (.iload_n 2, 1) := by decide +kernel
theorem dX5_failing_62 : decode cX5_failing 62 = .ok (.ireturn, 1) := by decide +kernel
set_option maxRecDepth 20000 in
theorem ggX5_isPair_X5_isCheck : GoodIn wsX5_isPair wsX5_isCheck := goodIn_r _ [6, 7, 8, 9, 5, 10, 16, 17, 18, 19, 20, 21, 22, 23, 24, 25, 26, 27, 28, 29, 30, 31, 32, 33, 34, 35, 36, 37, 38, 39, 40, 41, 42, 43] (by decide +kernel) (by decide +kernel)
set_option maxRecDepth 20000 in
theorem gX5_isPair_X5_isCheck : GoodIn wsX5_isPair (wsV RX5 96 RX5 yX5_isCheck wsX5_isCheck) := goodIn_app (goodIn_of _ (by decide +kernel)) ggX5_isPair_X5_isCheck
set_option maxRecDepth 20000 in
theorem ggX5_isPair_X5_isRegion : GoodIn wsX5_isPair wsX5_isRegion := goodIn_r _ [14, 15, 8, 9, 5, 10, 16, 17, 18, 19, 20, 21, 22, 23, 24, 25, 26, 27, 28, 29, 30, 31, 32, 33, 34, 35, 36, 37, 38, 39, 40, 41, 42, 43] (by decide +kernel) (by decide +kernel)
set_option maxRecDepth 20000 in
theorem gX5_isPair_X5_isRegion : GoodIn wsX5_isPair (wsV RX5 92 RX5 yX5_isRegion wsX5_isRegion) := goodIn_app (goodIn_of _ (by decide +kernel)) ggX5_isPair_X5_isRegion
theorem dX5_isPair_0 : decode cX5_isPair 0 = .ok (.aload_n 0, 1) := by decide +kernel
theorem dX5_isPair_1 : decode cX5_isPair 1 = .ok (.aload_n 0, 1) := by decide +kernel
theorem dX5_isPair_2 : decode cX5_isPair 2 = .ok (.iload_n 1, 1) := by decide +kernel
theorem dX5_isPair_3 : decode cX5_isPair 3 = .ok (.invokevirtual 96, 3) := by decide +kernel
theorem dX5_isPair_6 : decode cX5_isPair 6 = .ok (.ifCond .eq 15, 3) := by decide +kernel
theorem dX5_isPair_9 : decode cX5_isPair 9 = .ok (.aload_n 0, 1) := by decide +kernel
theorem dX5_isPair_10 : decode cX5_isPair 10 = .ok (.iload_n 2, 1) := by decide +kernel
theorem dX5_isPair_11 : decode cX5_isPair 11 = .ok (.invokevirtual 92, 3) := by decide +kernel
theorem dX5_isPair_14 : decode cX5_isPair 14 = .ok (.ifCond .eq 7, 3) := by decide +kernel
theorem dX5_isPair_17 : decode cX5_isPair 17 = .ok (.iconst 0, 1) := by decide +kernel
theorem dX5_isPair_18 : decode cX5_isPair 18 = .ok (.goto 4, 3) := by decide +kernel
theorem dX5_isPair_21 : decode cX5_isPair 21 = .ok (.iconst 1, 1) := by decide +kernel
theorem dX5_isPair_22 : decode cX5_isPair 22 = .ok (.putfield 78, 3) := by decide +kernel
theorem dX5_isPair_25 : decode cX5_isPair 25 = .ok (.aload_n 0, 1) := by decide +kernel
theorem dX5_isPair_26 : decode cX5_isPair 26 = .ok (.getfield 78, 3) := by decide +kernel
theorem dX5_isPair_29 : decode cX5_isPair 29 = .ok (.ifCond .ne 7, 3) := by decide +kernel
theorem dX5_isPair_32 : decode cX5_isPair 32 = .ok (.iconst 1, 1) := by decide +kernel
theorem dX5_isPair_33 : decode cX5_isPair 33 = .ok (.goto 4, 3) := by decide +kernel
theorem dX5_isPair_36 : decode cX5_isPair 36 = .ok (.iconst 0, 1) := by decide +kernel
theorem dX5_isPair_37 : decode cX5_isPair 37 = .ok (.ireturn, 1) := by decide +kernel
set_option maxRecDepth 20000 in
theorem ggX5_nextProbe_X5_isPair : GoodIn wsX5_nextProbe wsX5_isPair := goodIn_r _ [8, 9, 10, 11, 12, 7, 13, 14, 15, 16, 17, 18, 19, 20, 21, 22, 29, 30, 31, 32, 33, 34, 35, 36, 37, 38, 39, 40, 41, 42, 43, 44, 45, 46, 47, 48, 49, 50, 51, 52, 53, 54, 55, 56] (by decide +kernel) (by decide +kernel)
set_option maxRecDepth 20000 in
theorem gX5_nextProbe_X5_isPair : GoodIn wsX5_nextProbe (wsV RX5 141 RX5 yX5_isPair wsX5_isPair) := goodIn_app (goodIn_of _ (by decide +kernel)) ggX5_nextProbe_X5_isPair
set_option maxRecDepth 20000 in
theorem ggX5_nextProbe_X5_isScheduled : GoodIn wsX5_nextProbe wsX5_isScheduled := goodIn_r _ [26, 27, 28, 29, 30, 31, 32, 33, 34, 35, 36, 37, 38, 39, 40, 41, 42, 43, 44, 45, 46, 47, 48, 49, 50, 51, 52, 53, 54, 55, 56] (by decide +kernel) (by decide +kernel)
set_option maxRecDepth 20000 in
theorem gX5_nextProbe_X5_isScheduled : GoodIn wsX5_nextProbe (wsV RX5 106 RX5 yX5_isScheduled wsX5_isScheduled) := goodIn_app (goodIn_of _ (by decide +kernel)) ggX5_nextProbe_X5_isScheduled
theorem dX5_nextProbe_0 : decode cX5_nextProbe 0 = .ok (.aload_n 0, 1) := by decide +kernel
theorem dX5_nextProbe_1 : decode cX5_nextProbe 1 = .ok (.iload_n 1, 1) := by decide +kernel
theorem dX5_nextProbe_2 : decode cX5_nextProbe 2 = .ok (.iload_n 2, 1) := by decide +kernel
theorem dX5_nextProbe_3 : decode cX5_nextProbe 3 = .ok (.invokevirtual 141, 3) := by decide +kernel
theorem dX5_nextProbe_6 : decode cX5_nextProbe 6 = .ok (.ifCond .ne 5, 3) := by decide +kernel
theorem dX5_nextProbe_9 : decode cX5_nextProbe 9 = .ok (.iconst 0, 1) := by decide +kernel
theorem dX5_nextProbe_10 : decode cX5_nextProbe 10 = .ok (.ireturn, 1) := by decide +kernel
theorem dX5_nextProbe_11 : decode cX5_nextProbe 11 = .ok (.bipush 6, 2) := by decide +kernel
theorem dX5_nextProbe_13 : decode cX5_nextProbe 13 = .ok (.iload_n 1, 1) := by decide +kernel
theorem dX5_nextProbe_14 : decode cX5_nextProbe 14 = .ok (.imul, 1) := by decide +kernel
theorem dX5_nextProbe_15 : decode cX5_nextProbe 15 = .ok (.iload_n 2, 1) := by decide +kernel
theorem dX5_nextProbe_16 : decode cX5_nextProbe 16 = .ok (.iadd, 1) := by decide +kernel
theorem dX5_nextProbe_17 : decode cX5_nextProbe 17 = .ok (.istore_n 3, 1) := by decide +kernel
theorem dX5_nextProbe_18 : decode cX5_nextProbe 18 = .ok (.aload_n 0, 1) := by decide +kernel
theorem dX5_nextProbe_19 : decode cX5_nextProbe 19 = .ok (.getfield 56, 3) := by decide +kernel
theorem dX5_nextProbe_22 : decode cX5_nextProbe 22 = .ok (.iload_n 3, 1) := by decide +kernel
theorem dX5_nextProbe_23 : decode cX5_nextProbe 23 = .ok (.iaload, 1) := by decide +kernel
theorem dX5_nextProbe_24 : decode cX5_nextProbe 24 = .ok (.ifCond .le 12, 3) := by decide +kernel
theorem dX5_nextProbe_27 : decode cX5_nextProbe 27 = .ok (.aload_n 0, 1) := by decide +kernel
theorem dX5_nextProbe_28 : decode cX5_nextProbe 28 = .ok (.getfield 59, 3) := by decide +kernel
theorem dX5_nextProbe_31 : decode cX5_nextProbe 31 = .ok (.iload_n 3, 1) := by decide +kernel
theorem dX5_nextProbe_32 : decode cX5_nextProbe 32 = .ok (.iaload, 1) := by decide +kernel
theorem dX5_nextProbe_33 : decode cX5_nextProbe 33 = .ok (.goto 9, 3) := by decide +kernel
theorem dX5_nextProbe_36 : decode cX5_nextProbe 36 = .ok (.aload_n 0, 1) := by decide +kernel
theorem dX5_nextProbe_37 : decode cX5_nextProbe 37 = .ok (.getfield 103, 3) := by decide +kernel
theorem dX5_nextProbe_40 : decode cX5_nextProbe 40 = .ok (.iconst 1, 1) := by decide +kernel
theorem dX5_nextProbe_41 : decode cX5_nextProbe 41 = .ok (.iadd, 1) := by decide +kernel
theorem dX5_nextProbe_42 : decode cX5_nextProbe 42 = .ok (.istore 4, 2) := by decide +kernel
theorem dX5_nextProbe_44 : decode cX5_nextProbe 44 = .ok (.aload_n 0, 1) := by decide +kernel
theorem dX5_nextProbe_45 : decode cX5_nextProbe 45 = .ok (.getfield 56, 3) := by decide +kernel
theorem dX5_nextProbe_48 : decode cX5_nextProbe 48 = .ok (.iload_n 3, 1) := by decide +kernel
theorem dX5_nextProbe_49 : decode cX5_nextProbe 49 = .ok (.iaload, 1) := by decide +kernel
theorem dX5_nextProbe_50 : decode cX5_nextProbe 50 = .ok (.ifCond .ne 20, 3) := by decide +kernel
theorem dX5_nextProbe_53 : decode cX5_nextProbe 53 = .ok (.aload_n 0, 1) := by decide +kernel
theorem dX5_nextProbe_54 : decode cX5_nextProbe 54 = .ok (.iload_n 1, 1) := by decide +kernel
theorem dX5_nextProbe_55 : decode cX5_nextProbe 55 = .ok (.iload_n 2, 1) := by decide +kernel
theorem dX5_nextProbe_56 : decode cX5_nextProbe 56 = .ok (.iload 4, 2) := by decide +kernel
theorem dX5_nextProbe_58 : decode cX5_nextProbe 58 = .ok (.invokevirtual 106, 3) := by decide +kernel
theorem dX5_nextProbe_61 : decode cX5_nextProbe 61 = .ok (.ifCond .ne 9, 3) := by decide +kernel
theorem dX5_nextProbe_64 : decode cX5_nextProbe 64 = .ok (.iinc 4 1, 3) := by decide +kernel
theorem dX5_nextProbe_67 : decode cX5_nextProbe 67 = .ok (.goto (-23), 3) := by decide +kernel
theorem dX5_nextProbe_70 : decode cX5_nextProbe 70 = .ok (.iload 4, 2) := by decide +kernel
theorem dX5_nextProbe_72 : decode cX5_nextProbe 72 = .ok (.ireturn, 1) := by decide +kernel
set_option maxRecDepth 20000 in
theorem ggX5_repetition_X5_isPair : GoodIn wsX5_repetition wsX5_isPair := goodIn_r _ [6, 7, 8, 9, 10, 5, 11, 12, 13, 14, 15, 16, 17, 18, 19, 20, 21, 22, 23, 24, 25, 26, 27, 28, 29, 30, 31, 32, 33, 34, 35, 36, 37, 38, 39, 40, 41, 42, 43, 44, 45, 46, 47, 48] (by decide +kernel) (by decide +kernel)
set_option maxRecDepth 20000 in
theorem gX5_repetition_X5_isPair : GoodIn wsX5_repetition (wsV RX5 141 RX5 yX5_isPair wsX5_isPair) := goodIn_app (goodIn_of _ (by decide +kernel)) ggX5_repetition_X5_isPair
theorem dX5_repetition_0 : decode cX5_repetition 0 = .ok (.aload_n 0, 1) := by decide +kernel
theorem dX5_repetition_1 : decode cX5_repetition 1 = .ok (.iload_n 1, 1) := by decide +kernel
theorem dX5_repetition_2 : decode cX5_repetition 2 = .ok (.iload_n 2, 1) := by decide +kernel
theorem dX5_repetition_3 : decode cX5_repetition 3 = .ok (.invokevirtual 141, 3) := by decide +kernel
theorem dX5_repetition_6 : decode cX5_repetition 6 = .ok (.ifCond .eq 17, 3) := by decide +kernel
theorem dX5_repetition_9 : decode cX5_repetition 9 = .ok (.aload_n 0, 1) := by decide +kernel
theorem dX5_repetition_10 : decode cX5_repetition 10 = .ok (.getfield 56, 3) := by decide +kernel
theorem dX5_repetition_13 : decode cX5_repetition 13 = .ok (.bipush 6, 2) := by decide +kernel
theorem dX5_repetition_15 : decode cX5_repetition 15 = .ok (.iload_n 1, 1) := by decide +kernel
theorem dX5_repetition_16 : decode cX5_repetition 16 = .ok (.imul, 1) := by decide +kernel
theorem dX5_repetition_17 : decode cX5_repetition 17 = .ok (.iload_n 2, 1) := by decide +kernel
theorem dX5_repetition_18 : decode cX5_repetition 18 = .ok (.iadd, 1) := by decide +kernel
theorem dX5_repetition_19 : decode cX5_repetition 19 = .ok (.iaload, 1) := by decide +kernel
theorem dX5_repetition_20 : decode cX5_repetition 20 = .ok (.goto 4, 3) := by decide +kernel
theorem dX5_repetition_23 : decode cX5_repetition 23 = .ok (.iconst 0, 1) := by decide +kernel
theorem dX5_repetition_24 : decode cX5_repetition 24 = .ok (.ireturn, 1) := by decide +kernel
set_option maxRecDepth 20000 in
theorem ggX5_vote_X5_isPair : GoodIn wsX5_vote wsX5_isPair := goodIn_r _ [6, 7, 8, 9, 10, 5, 11, 12, 13, 14, 15, 16, 17, 18, 19, 20, 21, 22, 23, 24, 25, 26, 27, 28, 29, 30, 31, 32, 33, 34, 35, 36, 37, 38, 39, 40, 41, 42, 43, 44, 45, 46, 47, 48] (by decide +kernel) (by decide +kernel)
set_option maxRecDepth 20000 in
theorem gX5_vote_X5_isPair : GoodIn wsX5_vote (wsV RX5 141 RX5 yX5_isPair wsX5_isPair) := goodIn_app (goodIn_of _ (by decide +kernel)) ggX5_vote_X5_isPair
theorem dX5_vote_0 : decode cX5_vote 0 = .ok (.aload_n 0, 1) := by decide +kernel
theorem dX5_vote_1 : decode cX5_vote 1 = .ok (.iload_n 1, 1) := by decide +kernel
theorem dX5_vote_2 : decode cX5_vote 2 = .ok (.iload_n 2, 1) := by decide +kernel
theorem dX5_vote_3 : decode cX5_vote 3 = .ok (.invokevirtual 141, 3) := by decide +kernel
theorem dX5_vote_6 : decode cX5_vote 6 = .ok (.ifCond .eq 17, 3) := by decide +kernel
theorem dX5_vote_9 : decode cX5_vote 9 = .ok (.aload_n 0, 1) := by decide +kernel
theorem dX5_vote_10 : decode cX5_vote 10 = .ok (.getfield 53, 3) := by decide +kernel
theorem dX5_vote_13 : decode cX5_vote 13 = .ok (.bipush 6, 2) := by decide +kernel
theorem dX5_vote_15 : decode cX5_vote 15 = .ok (.iload_n 1, 1) := by decide +kernel
theorem dX5_vote_16 : decode cX5_vote 16 = .ok (.imul, 1) := by decide +kernel
theorem dX5_vote_17 : decode cX5_vote 17 = .ok (.iload_n 2, 1) := by decide +kernel
theorem dX5_vote_18 : decode cX5_vote 18 = .ok (.iadd, 1) := by decide +kernel
theorem dX5_vote_19 : decode cX5_vote 19 = .ok (.iaload, 1) := by decide +kernel
theorem dX5_vote_20 : decode cX5_vote 20 = .ok (.goto 4, 3) := by decide +kernel
theorem dX5_vote_23 : decode cX5_vote 23 = .ok (.iconst 0, 1) := by decide +kernel
theorem dX5_vote_24 : decode cX5_vote 24 = .ok (.ireturn, 1) := by decide +kernel
set_option maxRecDepth 20000 in
theorem ggX5_probes_X5_isRegion : GoodIn wsX5_probes wsX5_isRegion := goodIn_r _ [7, 8, 9, 10, 6, 11, 12, 13, 14, 15, 16, 17, 18, 19, 20, 21, 22, 23, 24, 25, 26, 27, 28, 29, 30, 31, 32, 33, 34, 35, 36, 37, 38, 39] (by decide +kernel) (by decide +kernel)
set_option maxRecDepth 20000 in
theorem gX5_probes_X5_isRegion : GoodIn wsX5_probes (wsV RX5 92 RX5 yX5_isRegion wsX5_isRegion) := goodIn_app (goodIn_of _ (by decide +kernel)) ggX5_probes_X5_isRegion
theorem dX5_probes_0 : decode cX5_probes 0 = .ok (.aload_n 0, 1) := by decide +kernel
theorem dX5_probes_1 : decode cX5_probes 1 = .ok (.aload_n 0, 1) := by decide +kernel
theorem dX5_probes_2 : decode cX5_probes 2 = .ok (.iload_n 1, 1) := by decide +kernel
theorem dX5_probes_3 : decode cX5_probes 3 = .ok (.invokevirtual 92, 3) := by decide +kernel
theorem dX5_probes_6 : decode cX5_probes 6 = .ok (.ifCond .eq 7, 3) := by decide +kernel
theorem dX5_probes_9 : decode cX5_probes 9 = .ok (.iconst 0, 1) := by decide +kernel
theorem dX5_probes_10 : decode cX5_probes 10 = .ok (.goto 4, 3) := by decide +kernel
theorem dX5_probes_13 : decode cX5_probes 13 = .ok (.iconst 1, 1) := by decide +kernel
theorem dX5_probes_14 : decode cX5_probes 14 = .ok (.putfield 78, 3) := by decide +kernel
theorem dX5_probes_17 : decode cX5_probes 17 = .ok (.aload_n 0, 1) := by decide +kernel
theorem dX5_probes_18 : decode cX5_probes 18 = .ok (.getfield 78, 3) := by decide +kernel
theorem dX5_probes_21 : decode cX5_probes 21 = .ok (.ifCond .le 7, 3) := by decide +kernel
theorem dX5_probes_24 : decode cX5_probes 24 = .ok (.iconst 0, 1) := by decide +kernel
theorem dX5_probes_25 : decode cX5_probes 25 = .ok (.goto 9, 3) := by decide +kernel
theorem dX5_probes_28 : decode cX5_probes 28 = .ok (.aload_n 0, 1) := by decide +kernel
theorem dX5_probes_29 : decode cX5_probes 29 = .ok (.getfield 20, 3) := by decide +kernel
theorem dX5_probes_32 : decode cX5_probes 32 = .ok (.iload_n 1, 1) := by decide +kernel
theorem dX5_probes_33 : decode cX5_probes 33 = .ok (.iaload, 1) := by decide +kernel
theorem dX5_probes_34 : decode cX5_probes 34 = .ok (.ireturn, 1) := by decide +kernel
set_option maxRecDepth 20000 in
theorem ggX5_failures_X5_isRegion : GoodIn wsX5_failures wsX5_isRegion := goodIn_r _ [7, 8, 9, 10, 6, 11, 12, 13, 14, 15, 16, 17, 18, 19, 20, 21, 22, 23, 24, 25, 26, 27, 28, 29, 30, 31, 32, 33, 34, 35, 36, 37, 38, 39] (by decide +kernel) (by decide +kernel)
set_option maxRecDepth 20000 in
theorem gX5_failures_X5_isRegion : GoodIn wsX5_failures (wsV RX5 92 RX5 yX5_isRegion wsX5_isRegion) := goodIn_app (goodIn_of _ (by decide +kernel)) ggX5_failures_X5_isRegion
theorem dX5_failures_0 : decode cX5_failures 0 = .ok (.aload_n 0, 1) := by decide +kernel
theorem dX5_failures_1 : decode cX5_failures 1 = .ok (.aload_n 0, 1) := by decide +kernel
theorem dX5_failures_2 : decode cX5_failures 2 = .ok (.iload_n 1, 1) := by decide +kernel
theorem dX5_failures_3 : decode cX5_failures 3 = .ok (.invokevirtual 92, 3) := by decide +kernel
theorem dX5_failures_6 : decode cX5_failures 6 = .ok (.ifCond .eq 7, 3) := by decide +kernel
theorem dX5_failures_9 : decode cX5_failures 9 = .ok (.iconst 0, 1) := by decide +kernel
theorem dX5_failures_10 : decode cX5_failures 10 = .ok (.goto 4, 3) := by decide +kernel
theorem dX5_failures_13 : decode cX5_failures 13 = .ok (.iconst 1, 1) := by decide +kernel
theorem dX5_failures_14 : decode cX5_failures 14 = .ok (.putfield 78, 3) := by decide +kernel
theorem dX5_failures_17 : decode cX5_failures 17 = .ok (.aload_n 0, 1) := by decide +kernel
theorem dX5_failures_18 : decode cX5_failures 18 = .ok (.getfield 78, 3) := by decide +kernel
theorem dX5_failures_21 : decode cX5_failures 21 = .ok (.ifCond .le 7, 3) := by decide +kernel
theorem dX5_failures_24 : decode cX5_failures 24 = .ok (.iconst 0, 1) := by decide +kernel
theorem dX5_failures_25 : decode cX5_failures 25 = .ok (.goto 9, 3) := by decide +kernel
theorem dX5_failures_28 : decode cX5_failures 28 = .ok (.aload_n 0, 1) := by decide +kernel
theorem dX5_failures_29 : decode cX5_failures 29 = .ok (.getfield 23, 3) := by decide +kernel
theorem dX5_failures_32 : decode cX5_failures 32 = .ok (.iload_n 1, 1) := by decide +kernel
theorem dX5_failures_33 : decode cX5_failures 33 = .ok (.iaload, 1) := by decide +kernel
theorem dX5_failures_34 : decode cX5_failures 34 = .ok (.ireturn, 1) := by decide +kernel
set_option maxRecDepth 20000 in
theorem ggX5_isBad_X5_isRegion : GoodIn wsX5_isBad wsX5_isRegion := goodIn_r _ [7, 8, 9, 10, 6, 11, 12, 13, 14, 15, 16, 17, 18, 19, 20, 21, 22, 23, 24, 25, 26, 27, 28, 29, 30, 31, 32, 33, 34, 35, 36, 37, 38, 39] (by decide +kernel) (by decide +kernel)
set_option maxRecDepth 20000 in
theorem gX5_isBad_X5_isRegion : GoodIn wsX5_isBad (wsV RX5 92 RX5 yX5_isRegion wsX5_isRegion) := goodIn_app (goodIn_of _ (by decide +kernel)) ggX5_isBad_X5_isRegion
theorem dX5_isBad_0 : decode cX5_isBad 0 = .ok (.aload_n 0, 1) := by decide +kernel
theorem dX5_isBad_1 : decode cX5_isBad 1 = .ok (.aload_n 0, 1) := by decide +kernel
theorem dX5_isBad_2 : decode cX5_isBad 2 = .ok (.iload_n 1, 1) := by decide +kernel
theorem dX5_isBad_3 : decode cX5_isBad 3 = .ok (.invokevirtual 92, 3) := by decide +kernel
theorem dX5_isBad_6 : decode cX5_isBad 6 = .ok (.ifCond .eq 7, 3) := by decide +kernel
theorem dX5_isBad_9 : decode cX5_isBad 9 = .ok (.iconst 0, 1) := by decide +kernel
theorem dX5_isBad_10 : decode cX5_isBad 10 = .ok (.goto 4, 3) := by decide +kernel
theorem dX5_isBad_13 : decode cX5_isBad 13 = .ok (.iconst 1, 1) := by decide +kernel
theorem dX5_isBad_14 : decode cX5_isBad 14 = .ok (.putfield 78, 3) := by decide +kernel
theorem dX5_isBad_17 : decode cX5_isBad 17 = .ok (.aload_n 0, 1) := by decide +kernel
theorem dX5_isBad_18 : decode cX5_isBad 18 = .ok (.getfield 78, 3) := by decide +kernel
theorem dX5_isBad_21 : decode cX5_isBad 21 = .ok (.ifCond .ne 16, 3) := by decide +kernel
theorem dX5_isBad_24 : decode cX5_isBad 24 = .ok (.aload_n 0, 1) := by decide +kernel
theorem dX5_isBad_25 : decode cX5_isBad 25 = .ok (.getfield 17, 3) := by decide +kernel
theorem dX5_isBad_28 : decode cX5_isBad 28 = .ok (.iload_n 1, 1) := by decide +kernel
theorem dX5_isBad_29 : decode cX5_isBad 29 = .ok (.baload, 1) := by decide +kernel
theorem dX5_isBad_30 : decode cX5_isBad 30 = .ok (.ifCond .eq 7, 3) := by decide +kernel
theorem dX5_isBad_33 : decode cX5_isBad 33 = .ok (.iconst 1, 1) := by decide +kernel
theorem dX5_isBad_34 : decode cX5_isBad 34 = .ok (.goto 4, 3) := by decide +kernel
theorem dX5_isBad_37 : decode cX5_isBad 37 = .ok (.iconst 0, 1) := by decide +kernel
theorem dX5_isBad_38 : decode cX5_isBad 38 = .ok (.ireturn, 1) := by decide +kernel
set_option maxRecDepth 20000 in
theorem ggX5_verdict_X5_isCheck : GoodIn wsX5_verdict wsX5_isCheck := goodIn_r _ [7, 8, 9, 10, 6, 11, 12, 13, 14, 15, 16, 17, 18, 19, 20, 21, 22, 23, 24, 25, 26, 27, 28, 29, 30, 31, 32, 33, 34, 35, 36, 37, 38, 39] (by decide +kernel) (by decide +kernel)
set_option maxRecDepth 20000 in
theorem gX5_verdict_X5_isCheck : GoodIn wsX5_verdict (wsV RX5 96 RX5 yX5_isCheck wsX5_isCheck) := goodIn_app (goodIn_of _ (by decide +kernel)) ggX5_verdict_X5_isCheck
theorem dX5_verdict_0 : decode cX5_verdict 0 = .ok (.aload_n 0, 1) := by decide +kernel
theorem dX5_verdict_1 : decode cX5_verdict 1 = .ok (.aload_n 0, 1) := by decide +kernel
theorem dX5_verdict_2 : decode cX5_verdict 2 = .ok (.iload_n 1, 1) := by decide +kernel
theorem dX5_verdict_3 : decode cX5_verdict 3 = .ok (.invokevirtual 96, 3) := by decide +kernel
theorem dX5_verdict_6 : decode cX5_verdict 6 = .ok (.ifCond .eq 7, 3) := by decide +kernel
theorem dX5_verdict_9 : decode cX5_verdict 9 = .ok (.iconst 0, 1) := by decide +kernel
theorem dX5_verdict_10 : decode cX5_verdict 10 = .ok (.goto 4, 3) := by decide +kernel
theorem dX5_verdict_13 : decode cX5_verdict 13 = .ok (.iconst 1, 1) := by decide +kernel
theorem dX5_verdict_14 : decode cX5_verdict 14 = .ok (.putfield 78, 3) := by decide +kernel
theorem dX5_verdict_17 : decode cX5_verdict 17 = .ok (.aload_n 0, 1) := by decide +kernel
theorem dX5_verdict_18 : decode cX5_verdict 18 = .ok (.getfield 78, 3) := by decide +kernel
theorem dX5_verdict_21 : decode cX5_verdict 21 = .ok (.ifCond .le 7, 3) := by decide +kernel
theorem dX5_verdict_24 : decode cX5_verdict 24 = .ok (.iconst 0, 1) := by decide +kernel
theorem dX5_verdict_25 : decode cX5_verdict 25 = .ok (.goto 9, 3) := by decide +kernel
theorem dX5_verdict_28 : decode cX5_verdict 28 = .ok (.aload_n 0, 1) := by decide +kernel
theorem dX5_verdict_29 : decode cX5_verdict 29 = .ok (.getfield 38, 3) := by decide +kernel
theorem dX5_verdict_32 : decode cX5_verdict 32 = .ok (.iload_n 1, 1) := by decide +kernel
theorem dX5_verdict_33 : decode cX5_verdict 33 = .ok (.iaload, 1) := by decide +kernel
theorem dX5_verdict_34 : decode cX5_verdict 34 = .ok (.ireturn, 1) := by decide +kernel
set_option maxRecDepth 20000 in
theorem ggX5_trusted_X5_isCheck : GoodIn wsX5_trusted wsX5_isCheck := goodIn_r _ [7, 8, 9, 10, 6, 11, 19, 20, 21, 22, 23, 24, 25, 26, 27, 28, 29, 30, 31, 32, 33, 34, 35, 36, 37, 38, 39, 40, 41, 42, 43, 44, 45, 46] (by decide +kernel) (by decide +kernel)
set_option maxRecDepth 20000 in
theorem gX5_trusted_X5_isCheck : GoodIn wsX5_trusted (wsV RX5 96 RX5 yX5_isCheck wsX5_isCheck) := goodIn_app (goodIn_of _ (by decide +kernel)) ggX5_trusted_X5_isCheck
set_option maxRecDepth 20000 in
theorem ggX5_trusted_X5_isTrusted : GoodIn wsX5_trusted wsX5_isTrusted := goodIn_r _ [15, 16, 17, 18, 19, 20, 21, 22, 23, 24, 25, 26, 27, 28, 29, 30, 31, 32, 33, 34, 35, 36, 37, 38, 39, 40, 41, 42, 43, 44, 45, 46] (by decide +kernel) (by decide +kernel)
set_option maxRecDepth 20000 in
theorem gX5_trusted_X5_isTrusted : GoodIn wsX5_trusted (wsV RX5 113 RX5 yX5_isTrusted wsX5_isTrusted) := goodIn_app (goodIn_of _ (by decide +kernel)) ggX5_trusted_X5_isTrusted
theorem dX5_trusted_0 : decode cX5_trusted 0 = .ok (.aload_n 0, 1) := by decide +kernel
theorem dX5_trusted_1 : decode cX5_trusted 1 = .ok (.aload_n 0, 1) := by decide +kernel
theorem dX5_trusted_2 : decode cX5_trusted 2 = .ok (.iload_n 1, 1) := by decide +kernel
theorem dX5_trusted_3 : decode cX5_trusted 3 = .ok (.invokevirtual 96, 3) := by decide +kernel
theorem dX5_trusted_6 : decode cX5_trusted 6 = .ok (.ifCond .eq 7, 3) := by decide +kernel
theorem dX5_trusted_9 : decode cX5_trusted 9 = .ok (.iconst 0, 1) := by decide +kernel
theorem dX5_trusted_10 : decode cX5_trusted 10 = .ok (.goto 4, 3) := by decide +kernel
theorem dX5_trusted_13 : decode cX5_trusted 13 = .ok (.iconst 1, 1) := by decide +kernel
theorem dX5_trusted_14 : decode cX5_trusted 14 = .ok (.putfield 78, 3) := by decide +kernel
theorem dX5_trusted_17 : decode cX5_trusted 17 = .ok (.iconst 0, 1) := by decide +kernel
theorem dX5_trusted_18 : decode cX5_trusted 18 = .ok (.istore_n 2, 1) := by decide +kernel
theorem dX5_trusted_19 : decode cX5_trusted 19 = .ok (.iconst 0, 1) := by decide +kernel
theorem dX5_trusted_20 : decode cX5_trusted 20 = .ok (.istore_n 3, 1) := by decide +kernel
theorem dX5_trusted_21 : decode cX5_trusted 21 = .ok (.iload_n 3, 1) := by decide +kernel
theorem dX5_trusted_22 : decode cX5_trusted 22 = .ok (.aload_n 0, 1) := by decide +kernel
theorem dX5_trusted_23 : decode cX5_trusted 23 = .ok (.getfield 82, 3) := by decide +kernel
theorem dX5_trusted_26 : decode cX5_trusted 26 = .ok (.if_icmp .ge 35, 3) := by decide +kernel
theorem dX5_trusted_29 : decode cX5_trusted 29 = .ok (.aload_n 0, 1) := by decide +kernel
theorem dX5_trusted_30 : decode cX5_trusted 30 = .ok (.getfield 78, 3) := by decide +kernel
theorem dX5_trusted_33 : decode cX5_trusted 33 = .ok (.ifCond .ne 28, 3) := by decide +kernel
theorem dX5_trusted_36 : decode cX5_trusted 36 = .ok (.iload_n 2, 1) := by decide +kernel
theorem dX5_trusted_37 : decode cX5_trusted 37 = .ok (.aload_n 0, 1) := by decide +kernel
theorem dX5_trusted_38 : decode cX5_trusted 38 = .ok (.iload_n 1, 1) := by decide +kernel
theorem dX5_trusted_39 : decode cX5_trusted 39 = .ok (.iload_n 3, 1) := by decide +kernel
theorem dX5_trusted_40 : decode cX5_trusted 40 = .ok (.invokevirtual 113, 3) := by decide +kernel
theorem dX5_trusted_43 : decode cX5_trusted 43 = .ok (.ifCond .eq 9, 3) := by decide +kernel
theorem dX5_trusted_46 : decode cX5_trusted 46 = .ok (.iconst 1, 1) := by decide +kernel
theorem dX5_trusted_47 : decode cX5_trusted 47 = .ok (.iload_n 3, 1) := by decide +kernel
theorem dX5_trusted_48 : decode cX5_trusted 48 = .ok (.ishl, 1) := by decide +kernel
theorem dX5_trusted_49 : decode cX5_trusted 49 = .ok (.goto 4, 3) := by decide +kernel
theorem dX5_trusted_52 : decode cX5_trusted 52 = .ok (.iconst 0, 1) := by decide +kernel
theorem dX5_trusted_53 : decode cX5_trusted 53 = .ok (.ior, 1) := by decide +kernel
theorem dX5_trusted_54 : decode cX5_trusted 54 = .ok (.istore_n 2, 1) := by decide +kernel
theorem dX5_trusted_55 : decode cX5_trusted 55 = .ok (.iinc 3 1, 3) := by decide +kernel
theorem dX5_trusted_58 : decode cX5_trusted 58 = .ok (.goto (-37), 3) := by decide +kernel
theorem dX5_trusted_61 : decode cX5_trusted 61 = .ok (.iload_n 2, 1) := by decide +kernel
theorem dX5_trusted_62 : decode cX5_trusted 62 = .ok (.ireturn, 1) := by decide +kernel
theorem dX5_alarms_0 : decode cX5_alarms 0 = .ok (.aload_n 0, 1) := by decide +kernel
theorem dX5_alarms_1 : decode cX5_alarms 1 = .ok (.iconst 0, 1) := by decide +kernel
theorem dX5_alarms_2 : decode cX5_alarms 2 = .ok (.putfield 78, 3) := by decide +kernel
theorem dX5_alarms_5 : decode cX5_alarms 5 = .ok (.aload_n 0, 1) := by decide +kernel
theorem dX5_alarms_6 : decode cX5_alarms 6 = .ok (.getfield 119, 3) := by decide +kernel
theorem dX5_alarms_9 : decode cX5_alarms 9 = .ok (.ireturn, 1) := by decide +kernel
set_option maxRecDepth 20000 in
theorem ggX5_hasAlarm_X5_isCheck : GoodIn wsX5_hasAlarm wsX5_isCheck := goodIn_r _ [7, 8, 9, 10, 6, 11, 12, 13, 14, 15, 16, 17, 18, 19, 20, 21, 22, 23, 24, 25, 26, 27, 28, 29, 30, 31, 32, 33, 34, 35, 36, 37, 38, 39] (by decide +kernel) (by decide +kernel)
set_option maxRecDepth 20000 in
theorem gX5_hasAlarm_X5_isCheck : GoodIn wsX5_hasAlarm (wsV RX5 96 RX5 yX5_isCheck wsX5_isCheck) := goodIn_app (goodIn_of _ (by decide +kernel)) ggX5_hasAlarm_X5_isCheck
theorem dX5_hasAlarm_0 : decode cX5_hasAlarm 0 = .ok (.aload_n 0, 1) := by decide +kernel
theorem dX5_hasAlarm_1 : decode cX5_hasAlarm 1 = .ok (.aload_n 0, 1) := by decide +kernel
theorem dX5_hasAlarm_2 : decode cX5_hasAlarm 2 = .ok (.iload_n 1, 1) := by decide +kernel
theorem dX5_hasAlarm_3 : decode cX5_hasAlarm 3 = .ok (.invokevirtual 96, 3) := by decide +kernel
theorem dX5_hasAlarm_6 : decode cX5_hasAlarm 6 = .ok (.ifCond .eq 7, 3) := by decide +kernel
theorem dX5_hasAlarm_9 : decode cX5_hasAlarm 9 = .ok (.iconst 0, 1) := by decide +kernel
theorem dX5_hasAlarm_10 : decode cX5_hasAlarm 10 = .ok (.goto 4, 3) := by decide +kernel
theorem dX5_hasAlarm_13 : decode cX5_hasAlarm 13 = .ok (.iconst 1, 1) := by decide +kernel
theorem dX5_hasAlarm_14 : decode cX5_hasAlarm 14 = .ok (.putfield 78, 3) := by decide +kernel
theorem dX5_hasAlarm_17 : decode cX5_hasAlarm 17 = .ok (.aload_n 0, 1) := by decide +kernel
theorem dX5_hasAlarm_18 : decode cX5_hasAlarm 18 = .ok (.getfield 78, 3) := by decide +kernel
theorem dX5_hasAlarm_21 : decode cX5_hasAlarm 21 = .ok (.ifCond .ne 16, 3) := by decide +kernel
theorem dX5_hasAlarm_24 : decode cX5_hasAlarm 24 = .ok (.aload_n 0, 1) := by decide +kernel
theorem dX5_hasAlarm_25 : decode cX5_hasAlarm 25 = .ok (.getfield 41, 3) := by decide +kernel
theorem dX5_hasAlarm_28 : decode cX5_hasAlarm 28 = .ok (.iload_n 1, 1) := by decide +kernel
theorem dX5_hasAlarm_29 : decode cX5_hasAlarm 29 = .ok (.iaload, 1) := by decide +kernel
theorem dX5_hasAlarm_30 : decode cX5_hasAlarm 30 = .ok (.ifCond .lt 7, 3) := by decide +kernel
theorem dX5_hasAlarm_33 : decode cX5_hasAlarm 33 = .ok (.iconst 1, 1) := by decide +kernel
theorem dX5_hasAlarm_34 : decode cX5_hasAlarm 34 = .ok (.goto 4, 3) := by decide +kernel
theorem dX5_hasAlarm_37 : decode cX5_hasAlarm 37 = .ok (.iconst 0, 1) := by decide +kernel
theorem dX5_hasAlarm_38 : decode cX5_hasAlarm 38 = .ok (.ireturn, 1) := by decide +kernel
set_option maxRecDepth 20000 in
theorem ggX5_isAlarm_X5_isIn : GoodIn wsX5_isAlarm wsX5_isIn := goodIn_r _ [6] (by decide +kernel) (by decide +kernel)
set_option maxRecDepth 20000 in
theorem gX5_isAlarm_X5_isIn : GoodIn wsX5_isAlarm (va_wsS RX5 85 yX5_isIn wsX5_isIn) := goodIn_app (goodIn_of _ (by decide +kernel)) ggX5_isAlarm_X5_isIn
theorem dX5_isAlarm_0 : decode cX5_isAlarm 0 = .ok (.aload_n 0, 1) := by decide +kernel
theorem dX5_isAlarm_1 : decode cX5_isAlarm 1 = .ok (.iload_n 1, 1) := by decide +kernel
theorem dX5_isAlarm_2 : decode cX5_isAlarm 2 = .ok (.iconst 0, 1) := by decide +kernel
theorem dX5_isAlarm_3 : decode cX5_isAlarm 3 = .ok (.aload_n 0, 1) := by decide +kernel
theorem dX5_isAlarm_4 : decode cX5_isAlarm 4 = .ok (.getfield 119, 3) := by decide +kernel
theorem dX5_isAlarm_7 : decode cX5_isAlarm 7 = .ok (.iconst 1, 1) := by decide +kernel
theorem dX5_isAlarm_8 : decode cX5_isAlarm 8 = .ok (.isub, 1) := by decide +kernel
theorem dX5_isAlarm_9 : decode cX5_isAlarm 9 = .ok (.invokestatic 85, 3) := by decide +kernel
theorem dX5_isAlarm_12 : decode cX5_isAlarm 12 = .ok (.ifCond .eq 7, 3) := by decide +kernel
theorem dX5_isAlarm_15 : decode cX5_isAlarm 15 = .ok (.iconst 0, 1) := by decide +kernel
theorem dX5_isAlarm_16 : decode cX5_isAlarm 16 = .ok (.goto 4, 3) := by decide +kernel
theorem dX5_isAlarm_19 : decode cX5_isAlarm 19 = .ok (.iconst 1, 1) := by decide +kernel
theorem dX5_isAlarm_20 : decode cX5_isAlarm 20 = .ok (.putfield 78, 3) := by decide +kernel
theorem dX5_isAlarm_23 : decode cX5_isAlarm 23 = .ok (.aload_n 0, 1) := by decide +kernel
theorem dX5_isAlarm_24 : decode cX5_isAlarm 24 = .ok (.getfield 78, 3) := by decide +kernel
theorem dX5_isAlarm_27 : decode cX5_isAlarm 27 = .ok (.ifCond .ne 7, 3) := by decide +kernel
theorem dX5_isAlarm_30 : decode cX5_isAlarm 30 = .ok (.iconst 1, 1) := by decide +kernel
theorem dX5_isAlarm_31 : decode cX5_isAlarm 31 = .ok (.goto 4, 3) := by decide +kernel
theorem dX5_isAlarm_34 : decode cX5_isAlarm 34 = .ok (.iconst 0, 1) := by decide +kernel
theorem dX5_isAlarm_35 : decode cX5_isAlarm 35 = .ok (.ireturn, 1) := by decide +kernel
set_option maxRecDepth 20000 in
theorem ggX5_alarmCheck_X5_isAlarm : GoodIn wsX5_alarmCheck wsX5_isAlarm := goodIn_r _ [6, 7, 8, 9, 10, 5, 11, 12, 13, 14, 15, 16, 17, 18, 19, 20, 21, 22, 23, 24, 25, 26, 27, 28, 29, 30, 31, 32, 33, 34, 35, 36, 37, 38, 39] (by decide +kernel) (by decide +kernel)
set_option maxRecDepth 20000 in
theorem gX5_alarmCheck_X5_isAlarm : GoodIn wsX5_alarmCheck (wsV RX5 144 RX5 yX5_isAlarm wsX5_isAlarm) := goodIn_app (goodIn_of _ (by decide +kernel)) ggX5_alarmCheck_X5_isAlarm
theorem dX5_alarmCheck_0 : decode cX5_alarmCheck 0 = .ok (.aload_n 0, 1) := by decide +kernel
theorem dX5_alarmCheck_1 : decode cX5_alarmCheck 1 = .ok (.iload_n 1, 1) := by decide +kernel
theorem dX5_alarmCheck_2 : decode cX5_alarmCheck 2 = .ok (.invokevirtual 144, 3) := by decide +kernel
theorem dX5_alarmCheck_5 : decode cX5_alarmCheck 5 = .ok (.ifCond .eq 15, 3) := by decide +kernel
theorem dX5_alarmCheck_8 : decode cX5_alarmCheck 8 = .ok (.aload_n 0, 1) := by decide +kernel
theorem dX5_alarmCheck_9 : decode cX5_alarmCheck 9 = .ok (.getfield 72, 3) := by decide +kernel
theorem dX5_alarmCheck_12 : decode cX5_alarmCheck 12 = .ok (.iload_n 1, 1) := by decide +kernel
theorem dX5_alarmCheck_13 : decode cX5_alarmCheck 13 = .ok (.iaload, 1) := by decide +kernel
theorem dX5_alarmCheck_14 : decode cX5_alarmCheck 14 = .ok (.bipush 8, 2) := by decide +kernel
theorem dX5_alarmCheck_16 : decode cX5_alarmCheck 16 = .ok (.irem, 1) := by decide +kernel
theorem dX5_alarmCheck_17 : decode cX5_alarmCheck 17 = .ok (.goto 4, 3) := by decide +kernel
theorem dX5_alarmCheck_20 : decode cX5_alarmCheck 20 = .ok (.iconst 0, 1) := by decide +kernel
theorem dX5_alarmCheck_21 : decode cX5_alarmCheck 21 = .ok (.ireturn, 1) := by decide +kernel
set_option maxRecDepth 20000 in
theorem ggX5_alarmRaised_X5_isAlarm : GoodIn wsX5_alarmRaised wsX5_isAlarm := goodIn_r _ [6, 7, 8, 9, 10, 5, 11, 12, 13, 14, 15, 16, 17, 18, 19, 20, 21, 22, 23, 24, 25, 26, 27, 28, 29, 30, 31, 32, 33, 34, 35, 36, 37, 38, 39] (by decide +kernel) (by decide +kernel)
set_option maxRecDepth 20000 in
theorem gX5_alarmRaised_X5_isAlarm : GoodIn wsX5_alarmRaised (wsV RX5 144 RX5 yX5_isAlarm wsX5_isAlarm) := goodIn_app (goodIn_of _ (by decide +kernel)) ggX5_alarmRaised_X5_isAlarm
theorem dX5_alarmRaised_0 : decode cX5_alarmRaised 0 = .ok (.aload_n 0, 1) := by decide +kernel
theorem dX5_alarmRaised_1 : decode cX5_alarmRaised 1 = .ok (.iload_n 1, 1) := by decide +kernel
theorem dX5_alarmRaised_2 : decode cX5_alarmRaised 2 = .ok (.invokevirtual 144, 3) := by decide +kernel
theorem dX5_alarmRaised_5 : decode cX5_alarmRaised 5 = .ok (.ifCond .eq 15, 3) := by decide +kernel
theorem dX5_alarmRaised_8 : decode cX5_alarmRaised 8 = .ok (.aload_n 0, 1) := by decide +kernel
theorem dX5_alarmRaised_9 : decode cX5_alarmRaised 9 = .ok (.getfield 72, 3) := by decide +kernel
theorem dX5_alarmRaised_12 : decode cX5_alarmRaised 12 = .ok (.iload_n 1, 1) := by decide +kernel
theorem dX5_alarmRaised_13 : decode cX5_alarmRaised 13 = .ok (.iaload, 1) := by decide +kernel
theorem dX5_alarmRaised_14 : decode cX5_alarmRaised 14 = .ok (.bipush 8, 2) := by decide +kernel
theorem dX5_alarmRaised_16 : decode cX5_alarmRaised 16 = .ok (.idiv, 1) := by decide +kernel
theorem dX5_alarmRaised_17 : decode cX5_alarmRaised 17 = .ok (.goto 4, 3) := by decide +kernel
theorem dX5_alarmRaised_20 : decode cX5_alarmRaised 20 = .ok (.iconst 0, 1) := by decide +kernel
theorem dX5_alarmRaised_21 : decode cX5_alarmRaised 21 = .ok (.ireturn, 1) := by decide +kernel
set_option maxRecDepth 20000 in
theorem ggX5_alarmClosed_X5_isAlarm : GoodIn wsX5_alarmClosed wsX5_isAlarm := goodIn_r _ [6, 7, 8, 9, 10, 5, 11, 12, 13, 14, 15, 16, 17, 18, 19, 20, 21, 22, 23, 24, 25, 26, 27, 28, 29, 30, 31, 32, 33, 34, 35, 36, 37, 38, 39] (by decide +kernel) (by decide +kernel)
set_option maxRecDepth 20000 in
theorem gX5_alarmClosed_X5_isAlarm : GoodIn wsX5_alarmClosed (wsV RX5 144 RX5 yX5_isAlarm wsX5_isAlarm) := goodIn_app (goodIn_of _ (by decide +kernel)) ggX5_alarmClosed_X5_isAlarm
theorem dX5_alarmClosed_0 : decode cX5_alarmClosed 0 = .ok (.aload_n 0, 1) := by decide +kernel
theorem dX5_alarmClosed_1 : decode cX5_alarmClosed 1 = .ok (.iload_n 1, 1) := by decide +kernel
theorem dX5_alarmClosed_2 : decode cX5_alarmClosed 2 = .ok (.invokevirtual 144, 3) := by decide +kernel
theorem dX5_alarmClosed_5 : decode cX5_alarmClosed 5 = .ok (.ifCond .eq 12, 3) := by decide +kernel
theorem dX5_alarmClosed_8 : decode cX5_alarmClosed 8 = .ok (.aload_n 0, 1) := by decide +kernel
theorem dX5_alarmClosed_9 : decode cX5_alarmClosed 9 = .ok (.getfield 75, 3) := by decide +kernel
theorem dX5_alarmClosed_12 : decode cX5_alarmClosed 12 = .ok (.iload_n 1, 1) := by decide +kernel
theorem dX5_alarmClosed_13 : decode cX5_alarmClosed 13 = .ok (.iaload, 1) := by decide +kernel
theorem dX5_alarmClosed_14 : decode cX5_alarmClosed 14 = .ok (.goto 4, 3) := by decide +kernel
theorem dX5_alarmClosed_17 : decode cX5_alarmClosed 17 = .ok (.iconst 0, 1) := by decide +kernel
theorem dX5_alarmClosed_18 : decode cX5_alarmClosed 18 = .ok (.ireturn, 1) := by decide +kernel
set_option maxRecDepth 20000 in
theorem ggX5_availability_X5_isCheck : GoodIn wsX5_availability wsX5_isCheck := goodIn_r _ [8, 9, 10, 11, 7, 12, 13, 14, 15, 16, 17, 18, 19, 20, 21, 22, 23, 24, 25, 26, 27, 28, 29, 30, 31, 32, 33, 34, 35, 36, 37, 38, 39, 40] (by decide +kernel) (by decide +kernel)
set_option maxRecDepth 20000 in
theorem gX5_availability_X5_isCheck : GoodIn wsX5_availability (wsV RX5 96 RX5 yX5_isCheck wsX5_isCheck) := goodIn_app (goodIn_of _ (by decide +kernel)) ggX5_availability_X5_isCheck
theorem dX5_availability_0 : decode cX5_availability 0 = .ok (.aload_n 0, 1) := by decide +kernel
theorem dX5_availability_1 : decode cX5_availability 1 = .ok (.aload_n 0, 1) := by decide +kernel
theorem dX5_availability_2 : decode cX5_availability 2 = .ok (.iload_n 1, 1) := by decide +kernel
theorem dX5_availability_3 : decode cX5_availability 3 = .ok (.invokevirtual 96, 3) := by decide +kernel
theorem dX5_availability_6 : decode cX5_availability 6 = .ok (.ifCond .ne 7, 3) := by decide +kernel
theorem dX5_availability_9 : decode cX5_availability 9 = .ok (.iconst 1, 1) := by decide +kernel
theorem dX5_availability_10 : decode cX5_availability 10 = .ok (.goto 17, 3) := by decide +kernel
theorem dX5_availability_13 : decode cX5_availability 13 = .ok (.aload_n 0, 1) := by decide +kernel
theorem dX5_availability_14 : decode cX5_availability 14 = .ok (.getfield 47, 3) := by decide +kernel
theorem dX5_availability_17 : decode cX5_availability 17 = .ok (.iload_n 1, 1) := by decide +kernel
theorem dX5_availability_18 : decode cX5_availability 18 = .ok (.iaload, 1) := by decide +kernel
theorem dX5_availability_19 : decode cX5_availability 19 = .ok (.ifCond .ne 7, 3) := by decide +kernel
theorem dX5_availability_22 : decode cX5_availability 22 = .ok (.iconst 2, 1) := by decide +kernel
theorem dX5_availability_23 : decode cX5_availability 23 = .ok (.goto 4, 3) := by decide +kernel
theorem dX5_availability_26 : decode cX5_availability 26 = .ok (.iconst 0, 1) := by decide +kernel
theorem dX5_availability_27 : decode cX5_availability 27 = .ok (.putfield 78, 3) := by decide +kernel
theorem dX5_availability_30 : decode cX5_availability 30 = .ok (.aload_n 0, 1) := by decide +kernel
theorem dX5_availability_31 : decode cX5_availability 31 = .ok (.getfield 78, 3) := by decide +kernel
theorem dX5_availability_34 : decode cX5_availability 34 = .ok (.ifCond .le 5, 3) := by decide +kernel
theorem dX5_availability_37 : decode cX5_availability 37 = .ok (.fconst 0, 1) := by decide +kernel
theorem dX5_availability_38 : decode cX5_availability 38 = .ok (.freturn, 1) := by decide +kernel
theorem dX5_availability_39 : decode cX5_availability 39 = .ok (.aload_n 0, 1) := by decide +kernel
theorem dX5_availability_40 : decode cX5_availability 40 = .ok (.getfield 44, 3) := by decide +kernel
theorem dX5_availability_43 : decode cX5_availability 43 = .ok (.iload_n 1, 1) := by decide +kernel
theorem dX5_availability_44 : decode cX5_availability 44 = .ok (.iaload, 1) := by decide +kernel
theorem dX5_availability_45 : decode cX5_availability 45 = .ok (.i2f, 1) := by decide +kernel
theorem dX5_availability_46 : decode cX5_availability 46 = .ok (.fstore_n 2, 1) := by decide +kernel
theorem dX5_availability_47 : decode cX5_availability 47 = .ok (.aload_n 0, 1) := by decide +kernel
theorem dX5_availability_48 : decode cX5_availability 48 = .ok (.getfield 47, 3) := by decide +kernel
theorem dX5_availability_51 : decode cX5_availability 51 = .ok (.iload_n 1, 1) := by decide +kernel
theorem dX5_availability_52 : decode cX5_availability 52 = .ok (.iaload, 1) := by decide +kernel
theorem dX5_availability_53 : decode cX5_availability 53 = .ok (.i2f, 1) := by decide +kernel
theorem dX5_availability_54 : decode cX5_availability 54 = .ok (.fstore_n 3, 1) := by decide +kernel
theorem dX5_availability_55 : decode cX5_availability 55 = .ok (.fload_n 2, 1) := by decide +kernel
theorem dX5_availability_56 : decode cX5_availability 56 = .ok (.fload_n 3, 1) := by decide +kernel
theorem dX5_availability_57 : decode cX5_availability 57 = .ok (.fdiv, 1) := by decide +kernel
theorem dX5_availability_58 : decode cX5_availability 58 = .ok (.freturn, 1) := by decide +kernel
end
section
theorem dJ6_bitCount_0f7a4_0 : decode cJ6_bitCount_0f7a4 0 = .ok (.iload_n 0, 1) := by decide +kernel
theorem dJ6_bitCount_0f7a4_1 : decode cJ6_bitCount_0f7a4 1 = .ok (.iload_n 0, 1) := by decide +kernel
theorem dJ6_bitCount_0f7a4_2 : decode cJ6_bitCount_0f7a4 2 = .ok (.iconst 1, 1) := by decide +kernel
theorem dJ6_bitCount_0f7a4_3 : decode cJ6_bitCount_0f7a4 3 = .ok (.iushr, 1) := by decide +kernel
theorem dJ6_bitCount_0f7a4_4 : decode cJ6_bitCount_0f7a4 4 = .ok (.ldc_w 265, 3) := by decide +kernel
theorem dJ6_bitCount_0f7a4_7 : decode cJ6_bitCount_0f7a4 7 = .ok (.iand, 1) := by decide +kernel
theorem dJ6_bitCount_0f7a4_8 : decode cJ6_bitCount_0f7a4 8 = .ok (.isub, 1) := by decide +kernel
theorem dJ6_bitCount_0f7a4_9 : decode cJ6_bitCount_0f7a4 9 = .ok (.istore_n 0, 1) := by decide +kernel
theorem dJ6_bitCount_0f7a4_10 : decode cJ6_bitCount_0f7a4 10 = .ok (.iload_n 0, 1) := by decide +kernel
theorem dJ6_bitCount_0f7a4_11 : decode cJ6_bitCount_0f7a4 11 = .ok (.ldc_w 266, 3) := by decide +kernel
theorem dJ6_bitCount_0f7a4_14 : decode cJ6_bitCount_0f7a4 14 = .ok (.iand, 1) := by decide +kernel
theorem dJ6_bitCount_0f7a4_15 : decode cJ6_bitCount_0f7a4 15 = .ok (.iload_n 0, 1) := by decide +kernel
theorem dJ6_bitCount_0f7a4_16 : decode cJ6_bitCount_0f7a4 16 = .ok (.iconst 2, 1) := by decide +kernel
theorem dJ6_bitCount_0f7a4_17 : decode cJ6_bitCount_0f7a4 17 = .ok (.iushr, 1) := by decide +kernel
theorem dJ6_bitCount_0f7a4_18 : decode cJ6_bitCount_0f7a4 18 = .ok (.ldc_w 266, 3) := by decide +kernel
theorem dJ6_bitCount_0f7a4_21 : decode cJ6_bitCount_0f7a4 21 = .ok (.iand, 1) := by decide +kernel
theorem dJ6_bitCount_0f7a4_22 : decode cJ6_bitCount_0f7a4 22 = .ok (.iadd, 1) := by decide +kernel
theorem dJ6_bitCount_0f7a4_23 : decode cJ6_bitCount_0f7a4 23 = .ok (.istore_n 0, 1) := by decide +kernel
theorem dJ6_bitCount_0f7a4_24 : decode cJ6_bitCount_0f7a4 24 = .ok (.iload_n 0, 1) := by decide +kernel
theorem dJ6_bitCount_0f7a4_25 : decode cJ6_bitCount_0f7a4 25 = .ok (.iload_n 0, 1) := by decide +kernel
theorem dJ6_bitCount_0f7a4_26 : decode cJ6_bitCount_0f7a4 26 = .ok (.iconst 4, 1) := by decide +kernel
theorem dJ6_bitCount_0f7a4_27 : decode cJ6_bitCount_0f7a4 27 = .ok (.iushr, 1) := by decide +kernel
theorem dJ6_bitCount_0f7a4_28 : decode cJ6_bitCount_0f7a4 28 = .ok (.iadd, 1) := by decide +kernel
theorem dJ6_bitCount_0f7a4_29 : decode cJ6_bitCount_0f7a4 29 = .ok (.ldc_w 267, 3) := by decide +kernel
theorem dJ6_bitCount_0f7a4_32 : decode cJ6_bitCount_0f7a4 32 = .ok (.iand, 1) := by decide +kernel
theorem dJ6_bitCount_0f7a4_33 : decode cJ6_bitCount_0f7a4 33 = .ok (.istore_n 0, 1) := by decide +kernel
theorem dJ6_bitCount_0f7a4_34 : decode cJ6_bitCount_0f7a4 34 = .ok (.iload_n 0, 1) := by decide +kernel
theorem dJ6_bitCount_0f7a4_35 : decode cJ6_bitCount_0f7a4 35 = .ok (.iload_n 0, 1) := by decide +kernel
theorem dJ6_bitCount_0f7a4_36 : decode cJ6_bitCount_0f7a4 36 = .ok (.bipush 8, 2) := by decide +kernel
theorem dJ6_bitCount_0f7a4_38 : decode cJ6_bitCount_0f7a4 38 = .ok (.iushr, 1) := by decide +kernel
theorem dJ6_bitCount_0f7a4_39 : decode cJ6_bitCount_0f7a4 39 = .ok (.iadd, 1) := by decide +kernel
theorem dJ6_bitCount_0f7a4_40 : decode cJ6_bitCount_0f7a4 40 = .ok (.istore_n 0, 1) := by decide +kernel
theorem dJ6_bitCount_0f7a4_41 : decode cJ6_bitCount_0f7a4 41 = .ok (.iload_n 0, 1) := by decide +kernel
theorem dJ6_bitCount_0f7a4_42 : decode cJ6_bitCount_0f7a4 42 = .ok (.iload_n 0, 1) := by decide +kernel
theorem dJ6_bitCount_0f7a4_43 : decode cJ6_bitCount_0f7a4 43 = .ok (.bipush 16, 2) := by decide +kernel
theorem dJ6_bitCount_0f7a4_45 : decode cJ6_bitCount_0f7a4 45 = .ok (.iushr, 1) := by decide +kernel
theorem dJ6_bitCount_0f7a4_46 : decode cJ6_bitCount_0f7a4 46 = .ok (.iadd, 1) := by decide +kernel
theorem dJ6_bitCount_0f7a4_47 : decode cJ6_bitCount_0f7a4 47 = .ok (.istore_n 0, 1) := by decide +kernel
theorem dJ6_bitCount_0f7a4_48 : decode cJ6_bitCount_0f7a4 48 = .ok (.iload_n 0, 1) := by decide +kernel
theorem dJ6_bitCount_0f7a4_49 : decode cJ6_bitCount_0f7a4 49 = .ok (.bipush 63, 2) := by decide +kernel
theorem dJ6_bitCount_0f7a4_51 : decode cJ6_bitCount_0f7a4 51 = .ok (.iand, 1) := by decide +kernel
theorem dJ6_bitCount_0f7a4_52 : decode cJ6_bitCount_0f7a4 52 = .ok (.ireturn, 1) := by decide +kernel
theorem dJ9_max_7cf53_0 : decode cJ9_max_7cf53 0 = .ok (.iload_n 0, 1) := by decide +kernel
theorem dJ9_max_7cf53_1 : decode cJ9_max_7cf53 1 = .ok (.iload_n 1, 1) := by decide +kernel
theorem dJ9_max_7cf53_2 : decode cJ9_max_7cf53 2 = .ok (.if_icmp .lt 7, 3) := by decide +kernel
theorem dJ9_max_7cf53_5 : decode cJ9_max_7cf53 5 = .ok (.iload_n 0, 1) := by decide +kernel
theorem dJ9_max_7cf53_6 : decode cJ9_max_7cf53 6 = .ok (.goto 4, 3) := by decide +kernel
theorem dJ9_max_7cf53_9 : decode cJ9_max_7cf53 9 = .ok (.iload_n 1, 1) := by decide +kernel
theorem dJ9_max_7cf53_10 : decode cJ9_max_7cf53 10 = .ok (.ireturn, 1) := by decide +kernel
theorem dJ9_min_7cf53_0 : decode cJ9_min_7cf53 0 = .ok (.iload_n 0, 1) := by decide +kernel
theorem dJ9_min_7cf53_1 : decode cJ9_min_7cf53 1 = .ok (.iload_n 1, 1) := by decide +kernel
theorem dJ9_min_7cf53_2 : decode cJ9_min_7cf53 2 = .ok (.if_icmp .gt 7, 3) := by decide +kernel
theorem dJ9_min_7cf53_5 : decode cJ9_min_7cf53 5 = .ok (.iload_n 0, 1) := by decide +kernel
theorem dJ9_min_7cf53_6 : decode cJ9_min_7cf53 6 = .ok (.goto 4, 3) := by decide +kernel
theorem dJ9_min_7cf53_9 : decode cJ9_min_7cf53 9 = .ok (.iload_n 1, 1) := by decide +kernel
theorem dJ9_min_7cf53_10 : decode cJ9_min_7cf53 10 = .ok (.ireturn, 1) := by decide +kernel
theorem dJxa1e45_init_da8c8_0 : decode cJxa1e45_init_da8c8 0 = .ok (.aload_n 0, 1) := by decide +kernel
theorem dJxa1e45_init_da8c8_1 : decode cJxa1e45_init_da8c8 1 = .ok (.invokespecial 1, 3) := by decide +kernel
theorem dJxa1e45_init_da8c8_4 : decode cJxa1e45_init_da8c8 4 = .ok (.return_, 1) := by decide +kernel
set_option maxRecDepth 20000 in
theorem ggJxc12de_init_da8c8_Jxa1e45_init_da8c8 : GoodIn wsJxc12de_init_da8c8 wsJxa1e45_init_da8c8 := goodIn_r _ [5, 6, 7, 8] (by decide +kernel) (by decide +kernel)
set_option maxRecDepth 20000 in
theorem gJxc12de_init_da8c8_Jxa1e45_init_da8c8 : GoodIn wsJxc12de_init_da8c8 (wsJxa1e45_init_da8c8) := ggJxc12de_init_da8c8_Jxa1e45_init_da8c8
theorem dJxc12de_init_da8c8_0 : decode cJxc12de_init_da8c8 0 = .ok (.aload_n 0, 1) := by decide +kernel
theorem dJxc12de_init_da8c8_1 : decode cJxc12de_init_da8c8 1 = .ok (.invokespecial 1, 3) := by decide +kernel
theorem dJxc12de_init_da8c8_4 : decode cJxc12de_init_da8c8 4 = .ok (.aload_n 0, 1) := by decide +kernel
theorem dJxc12de_init_da8c8_5 : decode cJxc12de_init_da8c8 5 = .ok (.iconst 0, 1) := by decide +kernel
theorem dJxc12de_init_da8c8_6 : decode cJxc12de_init_da8c8 6 = .ok (.putfield 7, 3) := by decide +kernel
theorem dJxc12de_init_da8c8_9 : decode cJxc12de_init_da8c8 9 = .ok (.return_, 1) := by decide +kernel
set_option maxRecDepth 20000 in
theorem ggJx4a65c_init_da8c8_Jxc12de_init_da8c8 : GoodIn wsJx4a65c_init_da8c8 wsJxc12de_init_da8c8 := goodIn_r _ [6, 7, 8, 9, 10, 11, 12, 13, 14, 15, 16, 17] (by decide +kernel) (by decide +kernel)
set_option maxRecDepth 20000 in
theorem gJx4a65c_init_da8c8_Jxc12de_init_da8c8 : GoodIn wsJx4a65c_init_da8c8 (wsJxc12de_init_da8c8) := ggJx4a65c_init_da8c8_Jxc12de_init_da8c8
theorem dJx4a65c_init_da8c8_0 : decode cJx4a65c_init_da8c8 0 = .ok (.aload_n 0, 1) := by decide +kernel
theorem dJx4a65c_init_da8c8_1 : decode cJx4a65c_init_da8c8 1 = .ok (.invokespecial 1, 3) := by decide +kernel
theorem dJx4a65c_init_da8c8_4 : decode cJx4a65c_init_da8c8 4 = .ok (.aload_n 0, 1) := by decide +kernel
theorem dJx4a65c_init_da8c8_5 : decode cJx4a65c_init_da8c8 5 = .ok (.getstatic 39, 3) := by decide +kernel
theorem dJx4a65c_init_da8c8_8 : decode cJx4a65c_init_da8c8 8 = .ok (.putfield 9, 3) := by decide +kernel
theorem dJx4a65c_init_da8c8_11 : decode cJx4a65c_init_da8c8 11 = .ok (.return_, 1) := by decide +kernel
set_option maxRecDepth 20000 in
theorem ggJx4a65c_grow_92f84_J8_newLength_cabcc : GoodIn wsJx4a65c_grow_92f84 wsJ8_newLength_cabcc := goodIn_r _ [11, 12, 4, 5, 6, 13, 14, 15, 10, 16] (by decide +kernel) (by decide +kernel)
set_option maxRecDepth 20000 in
theorem gJx4a65c_grow_92f84_J8_newLength_cabcc : GoodIn wsJx4a65c_grow_92f84 (va_wsS RJx4a65c 73 yJ8_newLength_cabcc wsJ8_newLength_cabcc) := goodIn_app (goodIn_of _ (by decide +kernel)) ggJx4a65c_grow_92f84_J8_newLength_cabcc
set_option maxRecDepth 20000 in
theorem ggJx4a65c_grow_92f84_J7_copyOf_1904c : GoodIn wsJx4a65c_grow_92f84 wsJ7_copyOf_1904c := goodIn_r _ [20, 21, 22, 23, 24, 25, 26, 19, 27, 28, 29, 30, 31, 5, 32, 33, 34, 35, 36] (by decide +kernel) (by decide +kernel)
set_option maxRecDepth 20000 in
theorem gJx4a65c_grow_92f84_J7_copyOf_1904c : GoodIn wsJx4a65c_grow_92f84 (va_wsS RJx4a65c 66 yJ7_copyOf_1904c wsJ7_copyOf_1904c) := goodIn_app (goodIn_of _ (by decide +kernel)) ggJx4a65c_grow_92f84_J7_copyOf_1904c
theorem dJx4a65c_grow_92f84_0 : decode cJx4a65c_grow_92f84 0 = .ok (.aload_n 0, 1) := by decide +kernel
theorem dJx4a65c_grow_92f84_1 : decode cJx4a65c_grow_92f84 1 = .ok (.getfield 9, 3) := by decide +kernel
theorem dJx4a65c_grow_92f84_4 : decode cJx4a65c_grow_92f84 4 = .ok (.arraylength, 1) := by decide +kernel
theorem dJx4a65c_grow_92f84_5 : decode cJx4a65c_grow_92f84 5 = .ok (.istore_n 2, 1) := by decide +kernel
theorem dJx4a65c_grow_92f84_6 : decode cJx4a65c_grow_92f84 6 = .ok (.iload_n 2, 1) := by decide +kernel
theorem dJx4a65c_grow_92f84_7 : decode cJx4a65c_grow_92f84 7 = .ok (.ifCond .gt 13, 3) := by decide +kernel
theorem dJx4a65c_grow_92f84_10 : decode cJx4a65c_grow_92f84 10 = .ok (.aload_n 0, 1) := by decide +kernel
theorem dJx4a65c_grow_92f84_11 : decode cJx4a65c_grow_92f84 11 = .ok (.getfield 9, 3) := by decide +kernel
theorem dJx4a65c_grow_92f84_14 : decode cJx4a65c_grow_92f84 14 = .ok (.getstatic 39, 3) := by decide +kernel
theorem dJx4a65c_grow_92f84_17 : decode cJx4a65c_grow_92f84 17 = .ok (.if_acmp .eq 28, 3) := by decide +kernel
theorem dJx4a65c_grow_92f84_20 : decode cJx4a65c_grow_92f84 20 = .ok (.iload_n 2, 1) := by decide +kernel
theorem dJx4a65c_grow_92f84_21 : decode cJx4a65c_grow_92f84 21 = .ok (.iload_n 1, 1) := by decide +kernel
theorem dJx4a65c_grow_92f84_22 : decode cJx4a65c_grow_92f84 22 = .ok (.iload_n 2, 1) := by decide +kernel
theorem dJx4a65c_grow_92f84_23 : decode cJx4a65c_grow_92f84 23 = .ok (.isub, 1) := by decide +kernel
theorem dJx4a65c_grow_92f84_24 : decode cJx4a65c_grow_92f84 24 = .ok (.iload_n 2, 1) := by decide +kernel
theorem dJx4a65c_grow_92f84_25 : decode cJx4a65c_grow_92f84 25 = .ok (.iconst 1, 1) := by decide +kernel
theorem dJx4a65c_grow_92f84_26 : decode cJx4a65c_grow_92f84 26 = .ok (.ishr, 1) := by decide +kernel
theorem dJx4a65c_grow_92f84_27 : decode cJx4a65c_grow_92f84 27 = .ok (.invokestatic 73, 3) := by decide +kernel
theorem dJx4a65c_grow_92f84_30 : decode cJx4a65c_grow_92f84 30 = .ok (.istore_n 3, 1) := by decide +kernel
theorem dJx4a65c_grow_92f84_31 : decode cJx4a65c_grow_92f84 31 = .ok (.aload_n 0, 1) := by decide +kernel
theorem dJx4a65c_grow_92f84_32 : decode cJx4a65c_grow_92f84 32 = .ok (.aload_n 0, 1) := by decide +kernel
theorem dJx4a65c_grow_92f84_33 : decode cJx4a65c_grow_92f84 33 = .ok (.getfield 9, 3) := by decide +kernel
theorem dJx4a65c_grow_92f84_36 : decode cJx4a65c_grow_92f84 36 = .ok (.iload_n 3, 1) := by decide +kernel
theorem dJx4a65c_grow_92f84_37 : decode cJx4a65c_grow_92f84 37 = .ok (.invokestatic 66, 3) := by decide +kernel
theorem dJx4a65c_grow_92f84_40 : decode cJx4a65c_grow_92f84 40 = .ok (.dup_x1, 1) := by decide +kernel
theorem dJx4a65c_grow_92f84_41 : decode cJx4a65c_grow_92f84 41 = .ok (.putfield 9, 3) := by decide +kernel
theorem dJx4a65c_grow_92f84_44 : decode cJx4a65c_grow_92f84 44 = .ok (.areturn, 1) := by decide +kernel
theorem dJx4a65c_grow_92f84_45 : decode cJx4a65c_grow_92f84 45 = .ok (.aload_n 0, 1) := by decide +kernel
theorem dJx4a65c_grow_92f84_46 : decode cJx4a65c_grow_92f84 46 = .ok (.bipush 10, 2) := by decide +kernel
theorem dJx4a65c_grow_92f84_48 : decode cJx4a65c_grow_92f84 48 = .ok (.iload_n 1, 1) := by decide +kernel
theorem dJx4a65c_grow_92f84_49 : decode cJx4a65c_grow_92f84 49 = .ok (.invokestatic 79, 3) := by decide +kernel
theorem dJx4a65c_grow_92f84_52 : decode cJx4a65c_grow_92f84 52 = .ok (.anewarray 7, 3) := by decide +kernel
theorem dJx4a65c_grow_92f84_55 : decode cJx4a65c_grow_92f84 55 = .ok (.dup_x1, 1) := by decide +kernel
theorem dJx4a65c_grow_92f84_56 : decode cJx4a65c_grow_92f84 56 = .ok (.putfield 9, 3) := by decide +kernel
theorem dJx4a65c_grow_92f84_59 : decode cJx4a65c_grow_92f84 59 = .ok (.areturn, 1) := by decide +kernel
set_option maxRecDepth 20000 in
theorem ggJx4a65c_grow_d5877_Jx4a65c_grow_92f84 : GoodIn wsJx4a65c_grow_d5877 wsJx4a65c_grow_92f84 := goodIn_r _ [6, 7, 8, 9, 10, 11, 12, 13, 14, 15, 16, 17, 18, 19, 20, 21, 22, 23, 24, 25, 26, 27, 28, 29, 30, 31, 32, 33, 34, 35, 36, 37, 38, 39, 40, 41, 42, 43, 44, 45] (by decide +kernel) (by decide +kernel)
set_option maxRecDepth 20000 in
theorem gJx4a65c_grow_d5877_Jx4a65c_grow_92f84 : GoodIn wsJx4a65c_grow_d5877 (wsV RJx4a65c 69 RJx4a65c yJx4a65c_grow_92f84 wsJx4a65c_grow_92f84) := goodIn_app (goodIn_of _ (by decide +kernel)) ggJx4a65c_grow_d5877_Jx4a65c_grow_92f84
theorem dJx4a65c_grow_d5877_0 : decode cJx4a65c_grow_d5877 0 = .ok (.aload_n 0, 1) := by decide +kernel
theorem dJx4a65c_grow_d5877_1 : decode cJx4a65c_grow_d5877 1 = .ok (.aload_n 0, 1) := by decide +kernel
theorem dJx4a65c_grow_d5877_2 : decode cJx4a65c_grow_d5877 2 = .ok (.getfield 48, 3) := by decide +kernel
theorem dJx4a65c_grow_d5877_5 : decode cJx4a65c_grow_d5877 5 = .ok (.iconst 1, 1) := by decide +kernel
theorem dJx4a65c_grow_d5877_6 : decode cJx4a65c_grow_d5877 6 = .ok (.iadd, 1) := by decide +kernel
theorem dJx4a65c_grow_d5877_7 : decode cJx4a65c_grow_d5877 7 = .ok (.invokevirtual 69, 3) := by decide +kernel
theorem dJx4a65c_grow_d5877_10 : decode cJx4a65c_grow_d5877 10 = .ok (.areturn, 1) := by decide +kernel
theorem dJx4a65c_size_8abf5_0 : decode cJx4a65c_size_8abf5 0 = .ok (.aload_n 0, 1) := by decide +kernel
theorem dJx4a65c_size_8abf5_1 : decode cJx4a65c_size_8abf5 1 = .ok (.getfield 48, 3) := by decide +kernel
theorem dJx4a65c_size_8abf5_4 : decode cJx4a65c_size_8abf5 4 = .ok (.ireturn, 1) := by decide +kernel
theorem dJx4a65c_elementData_915e3_0 : decode cJx4a65c_elementData_915e3 0 = .ok (.aload_n 0, 1) := by decide +kernel
theorem dJx4a65c_elementData_915e3_1 : decode cJx4a65c_elementData_915e3 1 = .ok (.getfield 9, 3) := by decide +kernel
theorem dJx4a65c_elementData_915e3_4 : decode cJx4a65c_elementData_915e3 4 = .ok (.iload_n 1, 1) := by decide +kernel
theorem dJx4a65c_elementData_915e3_5 : decode cJx4a65c_elementData_915e3 5 = .ok (.aaload, 1) := by decide +kernel
theorem dJx4a65c_elementData_915e3_6 : decode cJx4a65c_elementData_915e3 6 = .ok (.areturn, 1) := by decide +kernel
set_option maxRecDepth 20000 in
theorem ggJx4a65c_get_915e3_J15_checkIndex_7cf53 : GoodIn wsJx4a65c_get_915e3 wsJ15_checkIndex_7cf53 := goodIn_r _ [5, 6, 7, 8, 9] (by decide +kernel) (by decide +kernel)
set_option maxRecDepth 20000 in
theorem gJx4a65c_get_915e3_J15_checkIndex_7cf53 : GoodIn wsJx4a65c_get_915e3 (va_wsS RJx4a65c 118 yJ15_checkIndex_7cf53 wsJ15_checkIndex_7cf53) := goodIn_app (goodIn_of _ (by decide +kernel)) ggJx4a65c_get_915e3_J15_checkIndex_7cf53
set_option maxRecDepth 20000 in
theorem ggJx4a65c_get_915e3_Jx4a65c_elementData_915e3 : GoodIn wsJx4a65c_get_915e3 wsJx4a65c_elementData_915e3 := goodIn_r _ [14, 15, 16, 17, 18] (by decide +kernel) (by decide +kernel)
set_option maxRecDepth 20000 in
theorem gJx4a65c_get_915e3_Jx4a65c_elementData_915e3 : GoodIn wsJx4a65c_get_915e3 (wsV RJx4a65c 123 RJx4a65c yJx4a65c_elementData_915e3 wsJx4a65c_elementData_915e3) := goodIn_app (goodIn_of _ (by decide +kernel)) ggJx4a65c_get_915e3_Jx4a65c_elementData_915e3
theorem dJx4a65c_get_915e3_0 : decode cJx4a65c_get_915e3 0 = .ok (.iload_n 1, 1) := by decide +kernel
theorem dJx4a65c_get_915e3_1 : decode cJx4a65c_get_915e3 1 = .ok (.aload_n 0, 1) := by decide +kernel
theorem dJx4a65c_get_915e3_2 : decode cJx4a65c_get_915e3 2 = .ok (.getfield 48, 3) := by decide +kernel
theorem dJx4a65c_get_915e3_5 : decode cJx4a65c_get_915e3 5 = .ok (.invokestatic 118, 3) := by decide +kernel
theorem dJx4a65c_get_915e3_8 : decode cJx4a65c_get_915e3 8 = .ok (.pop, 1) := by decide +kernel
theorem dJx4a65c_get_915e3_9 : decode cJx4a65c_get_915e3 9 = .ok (.aload_n 0, 1) := by decide +kernel
theorem dJx4a65c_get_915e3_10 : decode cJx4a65c_get_915e3 10 = .ok (.iload_n 1, 1) := by decide +kernel
theorem dJx4a65c_get_915e3_11 : decode cJx4a65c_get_915e3 11 = .ok (.invokevirtual 123, 3) := by decide +kernel
theorem dJx4a65c_get_915e3_14 : decode cJx4a65c_get_915e3 14 = .ok (.areturn, 1) := by decide +kernel
set_option maxRecDepth 20000 in
theorem ggJx4a65c_add_72be8_Jx4a65c_grow_d5877 : GoodIn wsJx4a65c_add_72be8 wsJx4a65c_grow_d5877 := goodIn_r _ [6, 1, 7, 8, 9, 5, 10, 11, 12, 13, 14, 15, 16, 17, 18, 19, 20, 21, 22, 23, 24, 25, 26, 27, 28, 29, 30, 31, 32, 33, 34, 35, 36, 37, 38, 39, 40, 41, 42, 43, 44, 45, 46, 47, 48, 49] (by decide +kernel) (by decide +kernel)
set_option maxRecDepth 20000 in
theorem gJx4a65c_add_72be8_Jx4a65c_grow_d5877 : GoodIn wsJx4a65c_add_72be8 (wsV RJx4a65c 129 RJx4a65c yJx4a65c_grow_d5877 wsJx4a65c_grow_d5877) := goodIn_app (goodIn_of _ (by decide +kernel)) ggJx4a65c_add_72be8_Jx4a65c_grow_d5877
theorem dJx4a65c_add_72be8_0 : decode cJx4a65c_add_72be8 0 = .ok (.iload_n 3, 1) := by decide +kernel
theorem dJx4a65c_add_72be8_1 : decode cJx4a65c_add_72be8 1 = .ok (.aload_n 2, 1) := by decide +kernel
theorem dJx4a65c_add_72be8_2 : decode cJx4a65c_add_72be8 2 = .ok (.arraylength, 1) := by decide +kernel
theorem dJx4a65c_add_72be8_3 : decode cJx4a65c_add_72be8 3 = .ok (.if_icmp .ne 8, 3) := by decide +kernel
theorem dJx4a65c_add_72be8_6 : decode cJx4a65c_add_72be8 6 = .ok (.aload_n 0, 1) := by decide +kernel
theorem dJx4a65c_add_72be8_7 : decode cJx4a65c_add_72be8 7 = .ok (.invokevirtual 129, 3) := by decide +kernel
theorem dJx4a65c_add_72be8_10 : decode cJx4a65c_add_72be8 10 = .ok (.astore_n 2, 1) := by decide +kernel
theorem dJx4a65c_add_72be8_11 : decode cJx4a65c_add_72be8 11 = .ok (.aload_n 2, 1) := by decide +kernel
theorem dJx4a65c_add_72be8_12 : decode cJx4a65c_add_72be8 12 = .ok (.iload_n 3, 1) := by decide +kernel
theorem dJx4a65c_add_72be8_13 : decode cJx4a65c_add_72be8 13 = .ok (.aload_n 1, 1) := by decide +kernel
theorem dJx4a65c_add_72be8_14 : decode cJx4a65c_add_72be8 14 = .ok (.aastore, 1) := by decide +kernel
theorem dJx4a65c_add_72be8_15 : decode cJx4a65c_add_72be8 15 = .ok (.aload_n 0, 1) := by decide +kernel
theorem dJx4a65c_add_72be8_16 : decode cJx4a65c_add_72be8 16 = .ok (.iload_n 3, 1) := by decide +kernel
theorem dJx4a65c_add_72be8_17 : decode cJx4a65c_add_72be8 17 = .ok (.iconst 1, 1) := by decide +kernel
theorem dJx4a65c_add_72be8_18 : decode cJx4a65c_add_72be8 18 = .ok (.iadd, 1) := by decide +kernel
theorem dJx4a65c_add_72be8_19 : decode cJx4a65c_add_72be8 19 = .ok (.putfield 48, 3) := by decide +kernel
theorem dJx4a65c_add_72be8_22 : decode cJx4a65c_add_72be8 22 = .ok (.return_, 1) := by decide +kernel
set_option maxRecDepth 20000 in
theorem ggJx4a65c_add_9ea2d_Jx4a65c_add_72be8 : GoodIn wsJx4a65c_add_9ea2d wsJx4a65c_add_72be8 := goodIn_r _ [9, 4, 10, 11, 12, 8, 13, 14, 15, 16, 17, 3, 18, 19, 20, 21, 22, 23, 24, 25, 26, 27, 28, 29, 30, 31, 32, 33, 34, 35, 36, 37, 38, 39, 40, 41, 42, 43, 44, 45, 46, 47, 48, 49, 50, 51, 52, 53, 54, 55] (by decide +kernel) (by decide +kernel)
set_option maxRecDepth 20000 in
theorem gJx4a65c_add_9ea2d_Jx4a65c_add_72be8 : GoodIn wsJx4a65c_add_9ea2d (wsV RJx4a65c 131 RJx4a65c yJx4a65c_add_72be8 wsJx4a65c_add_72be8) := goodIn_app (goodIn_of _ (by decide +kernel)) ggJx4a65c_add_9ea2d_Jx4a65c_add_72be8
theorem dJx4a65c_add_9ea2d_0 : decode cJx4a65c_add_9ea2d 0 = .ok (.aload_n 0, 1) := by decide +kernel
theorem dJx4a65c_add_9ea2d_1 : decode cJx4a65c_add_9ea2d 1 = .ok (.dup, 1) := by decide +kernel
theorem dJx4a65c_add_9ea2d_2 : decode cJx4a65c_add_9ea2d 2 = .ok (.getfield 63, 3) := by decide +kernel
theorem dJx4a65c_add_9ea2d_5 : decode cJx4a65c_add_9ea2d 5 = .ok (.iconst 1, 1) := by decide +kernel
theorem dJx4a65c_add_9ea2d_6 : decode cJx4a65c_add_9ea2d 6 = .ok (.iadd, 1) := by decide +kernel
theorem dJx4a65c_add_9ea2d_7 : decode cJx4a65c_add_9ea2d 7 = .ok (.putfield 63, 3) := by decide +kernel
theorem dJx4a65c_add_9ea2d_10 : decode cJx4a65c_add_9ea2d 10 = .ok (.aload_n 0, 1) := by decide +kernel
theorem dJx4a65c_add_9ea2d_11 : decode cJx4a65c_add_9ea2d 11 = .ok (.aload_n 1, 1) := by decide +kernel
theorem dJx4a65c_add_9ea2d_12 : decode cJx4a65c_add_9ea2d 12 = .ok (.aload_n 0, 1) := by decide +kernel
theorem dJx4a65c_add_9ea2d_13 : decode cJx4a65c_add_9ea2d 13 = .ok (.getfield 9, 3) := by decide +kernel
theorem dJx4a65c_add_9ea2d_16 : decode cJx4a65c_add_9ea2d 16 = .ok (.aload_n 0, 1) := by decide +kernel
theorem dJx4a65c_add_9ea2d_17 : decode cJx4a65c_add_9ea2d 17 = .ok (.getfield 48, 3) := by decide +kernel
theorem dJx4a65c_add_9ea2d_20 : decode cJx4a65c_add_9ea2d 20 = .ok (.invokevirtual 131, 3) := by decide +kernel
theorem dJx4a65c_add_9ea2d_23 : decode cJx4a65c_add_9ea2d 23 = .ok (.iconst 1, 1) := by decide +kernel
theorem dJx4a65c_add_9ea2d_24 : decode cJx4a65c_add_9ea2d 24 = .ok (.ireturn, 1) := by decide +kernel
set_option maxRecDepth 20000 in
theorem ggJ7_copyOf_1904c_J7_copyOf_6403c : GoodIn wsJ7_copyOf_1904c wsJ7_copyOf_6403c := goodIn_r _ [8, 9, 10, 11, 12, 13, 14, 15, 16, 17, 18] (by decide +kernel) (by decide +kernel)
set_option maxRecDepth 20000 in
theorem gJ7_copyOf_1904c_J7_copyOf_6403c : GoodIn wsJ7_copyOf_1904c (va_wsS RJ7 300 yJ7_copyOf_6403c wsJ7_copyOf_6403c) := goodIn_app (goodIn_of _ (by decide +kernel)) ggJ7_copyOf_1904c_J7_copyOf_6403c
theorem dJ7_copyOf_1904c_0 : decode cJ7_copyOf_1904c 0 = .ok (.aload_n 0, 1) := by decide +kernel
theorem dJ7_copyOf_1904c_1 : decode cJ7_copyOf_1904c 1 = .ok (.iload_n 1, 1) := by decide +kernel
theorem dJ7_copyOf_1904c_2 : decode cJ7_copyOf_1904c 2 = .ok (.aload_n 0, 1) := by decide +kernel
theorem dJ7_copyOf_1904c_3 : decode cJ7_copyOf_1904c 3 = .ok (.invokevirtual 86, 3) := by decide +kernel
theorem dJ7_copyOf_1904c_6 : decode cJ7_copyOf_1904c 6 = .ok (.invokestatic 300, 3) := by decide +kernel
theorem dJ7_copyOf_1904c_9 : decode cJ7_copyOf_1904c 9 = .ok (.areturn, 1) := by decide +kernel
theorem dJ7_copyOf_6403c_0 : decode cJ7_copyOf_6403c 0 = .ok (.aload_n 2, 1) := by decide +kernel
theorem dJ7_copyOf_6403c_1 : decode cJ7_copyOf_6403c 1 = .ok (.ldc 110, 2) := by decide +kernel
theorem dJ7_copyOf_6403c_3 : decode cJ7_copyOf_6403c 3 = .ok (.if_acmp .ne 10, 3) := by decide +kernel
theorem dJ7_copyOf_6403c_6 : decode cJ7_copyOf_6403c 6 = .ok (.iload_n 1, 1) := by decide +kernel
theorem dJ7_copyOf_6403c_7 : decode cJ7_copyOf_6403c 7 = .ok (.anewarray 2, 3) := by decide +kernel
theorem dJ7_copyOf_6403c_10 : decode cJ7_copyOf_6403c 10 = .ok (.goto 14, 3) := by decide +kernel
theorem dJ7_copyOf_6403c_13 : decode cJ7_copyOf_6403c 13 = .ok (.aload_n 2, 1) := by decide +kernel
theorem dJ7_copyOf_6403c_14 : decode cJ7_copyOf_6403c 14 = .ok (.invokevirtual 90, 3) := by decide +kernel
theorem dJ7_copyOf_6403c_17 : decode cJ7_copyOf_6403c 17 = .ok (.iload_n 1, 1) := by decide +kernel
theorem dJ7_copyOf_6403c_18 : decode cJ7_copyOf_6403c 18 = .ok (.invokestatic 95, 3) := by decide +kernel
theorem dJ7_copyOf_6403c_21 : decode cJ7_copyOf_6403c 21 = .ok (.checkcast 110, 3) := by decide +kernel
theorem dJ7_copyOf_6403c_24 : decode cJ7_copyOf_6403c 24 = .ok (.astore_n 3, 1) := by decide +kernel
theorem dJ7_copyOf_6403c_25 : decode cJ7_copyOf_6403c 25 = .ok (.aload_n 0, 1) := by decide +kernel
theorem dJ7_copyOf_6403c_26 : decode cJ7_copyOf_6403c 26 = .ok (.iconst 0, 1) := by decide +kernel
theorem dJ7_copyOf_6403c_27 : decode cJ7_copyOf_6403c 27 = .ok (.aload_n 3, 1) := by decide +kernel
theorem dJ7_copyOf_6403c_28 : decode cJ7_copyOf_6403c 28 = .ok (.iconst 0, 1) := by decide +kernel
theorem dJ7_copyOf_6403c_29 : decode cJ7_copyOf_6403c 29 = .ok (.aload_n 0, 1) := by decide +kernel
theorem dJ7_copyOf_6403c_30 : decode cJ7_copyOf_6403c 30 = .ok (.arraylength, 1) := by decide +kernel
theorem dJ7_copyOf_6403c_31 : decode cJ7_copyOf_6403c 31 = .ok (.iload_n 1, 1) := by decide +kernel
theorem dJ7_copyOf_6403c_32 : decode cJ7_copyOf_6403c 32 = .ok (.invokestatic 304, 3) := by decide +kernel
theorem dJ7_copyOf_6403c_35 : decode cJ7_copyOf_6403c 35 = .ok (.invokestatic 150, 3) := by decide +kernel
theorem dJ7_copyOf_6403c_38 : decode cJ7_copyOf_6403c 38 = .ok (.aload_n 3, 1) := by decide +kernel
theorem dJ7_copyOf_6403c_39 : decode cJ7_copyOf_6403c 39 = .ok (.areturn, 1) := by decide +kernel
set_option maxRecDepth 20000 in
theorem ggJ15_checkIndex_7cf53_J3_checkIndex_8e157 : GoodIn wsJ15_checkIndex_7cf53 wsJ3_checkIndex_8e157 := goodIn_r _ [4] (by decide +kernel) (by decide +kernel)
set_option maxRecDepth 20000 in
theorem gJ15_checkIndex_7cf53_J3_checkIndex_8e157 : GoodIn wsJ15_checkIndex_7cf53 (va_wsS RJ15 105 yJ3_checkIndex_8e157 wsJ3_checkIndex_8e157) := goodIn_app (goodIn_of _ (by decide +kernel)) ggJ15_checkIndex_7cf53_J3_checkIndex_8e157
theorem dJ15_checkIndex_7cf53_0 : decode cJ15_checkIndex_7cf53 0 = .ok (.iload_n 0, 1) := by decide +kernel
theorem dJ15_checkIndex_7cf53_1 : decode cJ15_checkIndex_7cf53 1 = .ok (.iload_n 1, 1) := by decide +kernel
theorem dJ15_checkIndex_7cf53_2 : decode cJ15_checkIndex_7cf53 2 = .ok (.aconst_null, 1) := by decide +kernel
theorem dJ15_checkIndex_7cf53_3 : decode cJ15_checkIndex_7cf53 3 = .ok (.invokestatic 105, 3) := by decide +kernel
theorem dJ15_checkIndex_7cf53_6 : decode cJ15_checkIndex_7cf53 6 = .ok (.ireturn, 1) := by decide +kernel
set_option maxRecDepth 20000 in
theorem ggJ8_newLength_cabcc_J8_hugeLength_7cf53 : GoodIn wsJ8_newLength_cabcc wsJ8_hugeLength_7cf53 := goodIn_r _ [9, 5] (by decide +kernel) (by decide +kernel)
set_option maxRecDepth 20000 in
theorem gJ8_newLength_cabcc_J8_hugeLength_7cf53 : GoodIn wsJ8_newLength_cabcc (va_wsS RJ8 201 yJ8_hugeLength_7cf53 wsJ8_hugeLength_7cf53) := goodIn_app (goodIn_of _ (by decide +kernel)) ggJ8_newLength_cabcc_J8_hugeLength_7cf53
theorem dJ8_newLength_cabcc_0 : decode cJ8_newLength_cabcc 0 = .ok (.iload_n 0, 1) := by decide +kernel
theorem dJ8_newLength_cabcc_1 : decode cJ8_newLength_cabcc 1 = .ok (.iload_n 1, 1) := by decide +kernel
theorem dJ8_newLength_cabcc_2 : decode cJ8_newLength_cabcc 2 = .ok (.iload_n 2, 1) := by decide +kernel
theorem dJ8_newLength_cabcc_3 : decode cJ8_newLength_cabcc 3 = .ok (.invokestatic 194, 3) := by decide +kernel
theorem dJ8_newLength_cabcc_6 : decode cJ8_newLength_cabcc 6 = .ok (.iadd, 1) := by decide +kernel
theorem dJ8_newLength_cabcc_7 : decode cJ8_newLength_cabcc 7 = .ok (.istore_n 3, 1) := by decide +kernel
theorem dJ8_newLength_cabcc_8 : decode cJ8_newLength_cabcc 8 = .ok (.iconst 0, 1) := by decide +kernel
theorem dJ8_newLength_cabcc_9 : decode cJ8_newLength_cabcc 9 = .ok (.iload_n 3, 1) := by decide +kernel
theorem dJ8_newLength_cabcc_10 : decode cJ8_newLength_cabcc 10 = .ok (.if_icmp .ge 11, 3) := by decide +kernel
theorem dJ8_newLength_cabcc_13 : decode cJ8_newLength_cabcc 13 = .ok (.iload_n 3, 1) := by decide +kernel
theorem dJ8_newLength_cabcc_14 : decode cJ8_newLength_cabcc 14 = .ok (.ldc 200, 2) := by decide +kernel
theorem dJ8_newLength_cabcc_16 : decode cJ8_newLength_cabcc 16 = .ok (.if_icmp .gt 5, 3) := by decide +kernel
theorem dJ8_newLength_cabcc_19 : decode cJ8_newLength_cabcc 19 = .ok (.iload_n 3, 1) := by decide +kernel
theorem dJ8_newLength_cabcc_20 : decode cJ8_newLength_cabcc 20 = .ok (.ireturn, 1) := by decide +kernel
theorem dJ8_newLength_cabcc_21 : decode cJ8_newLength_cabcc 21 = .ok (.iload_n 0, 1) := by decide +kernel
theorem dJ8_newLength_cabcc_22 : decode cJ8_newLength_cabcc 22 = .ok (.iload_n 1, 1) := by decide +kernel
theorem dJ8_newLength_cabcc_23 : decode cJ8_newLength_cabcc 23 = .ok (.invokestatic 201, 3) := by decide +kernel
theorem dJ8_newLength_cabcc_26 : decode cJ8_newLength_cabcc 26 = .ok (.ireturn, 1) := by decide +kernel
theorem dJ8_hugeLength_7cf53_0 : decode cJ8_hugeLength_7cf53 0 = .ok (.iload_n 0, 1) := by decide +kernel
theorem dJ8_hugeLength_7cf53_1 : decode cJ8_hugeLength_7cf53 1 = .ok (.iload_n 1, 1) := by decide +kernel
theorem dJ8_hugeLength_7cf53_2 : decode cJ8_hugeLength_7cf53 2 = .ok (.iadd, 1) := by decide +kernel
theorem dJ8_hugeLength_7cf53_3 : decode cJ8_hugeLength_7cf53 3 = .ok (.istore_n 2, 1) := by decide +kernel
theorem dJ8_hugeLength_7cf53_4 : decode cJ8_hugeLength_7cf53 4 = .ok (.iload_n 2, 1) := by decide +kernel
theorem dJ8_hugeLength_7cf53_5 : decode cJ8_hugeLength_7cf53 5 = .ok (.ifCond .ge 44, 3) := by decide +kernel
theorem dJ8_hugeLength_7cf53_8 : decode cJ8_hugeLength_7cf53 8 = .ok (.new 204, 3) := by decide +kernel
theorem dJ8_hugeLength_7cf53_11 : decode cJ8_hugeLength_7cf53 11 = .ok (.dup, 1) := by decide +kernel
theorem dJ8_hugeLength_7cf53_12 : decode cJ8_hugeLength_7cf53 12 = .ok (.new 89, 3) := by decide +kernel
theorem dJ8_hugeLength_7cf53_15 : decode cJ8_hugeLength_7cf53 15 = .ok (.dup, 1) := by decide +kernel
theorem dJ8_hugeLength_7cf53_16 : decode cJ8_hugeLength_7cf53 16 = .ok (.invokespecial 91, 3) := by decide +kernel
theorem dJ8_hugeLength_7cf53_19 : decode cJ8_hugeLength_7cf53 19 = .ok (.ldc 206, 2) := by decide +kernel
theorem dJ8_hugeLength_7cf53_21 : decode cJ8_hugeLength_7cf53 21 = .ok (.invokevirtual 94, 3) := by decide +kernel
theorem dJ8_hugeLength_7cf53_24 : decode cJ8_hugeLength_7cf53 24 = .ok (.iload_n 0, 1) := by decide +kernel
theorem dJ8_hugeLength_7cf53_25 : decode cJ8_hugeLength_7cf53 25 = .ok (.invokevirtual 98, 3) := by decide +kernel
theorem dJ8_hugeLength_7cf53_28 : decode cJ8_hugeLength_7cf53 28 = .ok (.ldc 208, 2) := by decide +kernel
theorem dJ8_hugeLength_7cf53_30 : decode cJ8_hugeLength_7cf53 30 = .ok (.invokevirtual 94, 3) := by decide +kernel
theorem dJ8_hugeLength_7cf53_33 : decode cJ8_hugeLength_7cf53 33 = .ok (.iload_n 1, 1) := by decide +kernel
theorem dJ8_hugeLength_7cf53_34 : decode cJ8_hugeLength_7cf53 34 = .ok (.invokevirtual 98, 3) := by decide +kernel
theorem dJ8_hugeLength_7cf53_37 : decode cJ8_hugeLength_7cf53 37 = .ok (.ldc 210, 2) := by decide +kernel
theorem dJ8_hugeLength_7cf53_39 : decode cJ8_hugeLength_7cf53 39 = .ok (.invokevirtual 94, 3) := by decide +kernel
theorem dJ8_hugeLength_7cf53_42 : decode cJ8_hugeLength_7cf53 42 = .ok (.invokevirtual 101, 3) := by decide +kernel
theorem dJ8_hugeLength_7cf53_45 : decode cJ8_hugeLength_7cf53 45 = .ok (.invokespecial 212, 3) := by decide +kernel
theorem dJ8_hugeLength_7cf53_48 : decode cJ8_hugeLength_7cf53 48 = .ok (.athrow, 1) := by decide +kernel
theorem dJ8_hugeLength_7cf53_49 : decode cJ8_hugeLength_7cf53 49 = .ok (.iload_n 2, 1) := by decide +kernel
theorem dJ8_hugeLength_7cf53_50 : decode cJ8_hugeLength_7cf53 50 = .ok (.ldc 200, 2) := by decide +kernel
theorem dJ8_hugeLength_7cf53_52 : decode cJ8_hugeLength_7cf53 52 = .ok (.if_icmp .gt 6, 3) := by decide +kernel
theorem dJ8_hugeLength_7cf53_55 : decode cJ8_hugeLength_7cf53 55 = .ok (.ldc 200, 2) := by decide +kernel
theorem dJ8_hugeLength_7cf53_57 : decode cJ8_hugeLength_7cf53 57 = .ok (.ireturn, 1) := by decide +kernel
theorem dJ8_hugeLength_7cf53_58 : decode cJ8_hugeLength_7cf53 58 = .ok (.iload_n 2, 1) := by decide +kernel
theorem dJ8_hugeLength_7cf53_59 : decode cJ8_hugeLength_7cf53 59 = .ok (.ireturn, 1) := by decide +kernel
theorem dJ3_checkIndex_8e157_0 : decode cJ3_checkIndex_8e157 0 = .ok (.iload_n 0, 1) := by decide +kernel
theorem dJ3_checkIndex_8e157_1 : decode cJ3_checkIndex_8e157 1 = .ok (.ifCond .lt 8, 3) := by decide +kernel
theorem dJ3_checkIndex_8e157_4 : decode cJ3_checkIndex_8e157 4 = .ok (.iload_n 0, 1) := by decide +kernel
theorem dJ3_checkIndex_8e157_5 : decode cJ3_checkIndex_8e157 5 = .ok (.iload_n 1, 1) := by decide +kernel
theorem dJ3_checkIndex_8e157_6 : decode cJ3_checkIndex_8e157 6 = .ok (.if_icmp .lt 10, 3) := by decide +kernel
theorem dJ3_checkIndex_8e157_9 : decode cJ3_checkIndex_8e157 9 = .ok (.aload_n 2, 1) := by decide +kernel
theorem dJ3_checkIndex_8e157_10 : decode cJ3_checkIndex_8e157 10 = .ok (.iload_n 0, 1) := by decide +kernel
theorem dJ3_checkIndex_8e157_11 : decode cJ3_checkIndex_8e157 11 = .ok (.iload_n 1, 1) := by decide +kernel
theorem dJ3_checkIndex_8e157_12 : decode cJ3_checkIndex_8e157 12 = .ok (.invokestatic 95, 3) := by decide +kernel
theorem dJ3_checkIndex_8e157_15 : decode cJ3_checkIndex_8e157 15 = .ok (.athrow, 1) := by decide +kernel
theorem dJ3_checkIndex_8e157_16 : decode cJ3_checkIndex_8e157 16 = .ok (.iload_n 0, 1) := by decide +kernel
theorem dJ3_checkIndex_8e157_17 : decode cJ3_checkIndex_8e157 17 = .ok (.ireturn, 1) := by decide +kernel
end
section
set_option maxRecDepth 20000 in
theorem ggL_addRegion_X4_addRegion : GoodIn wsL_addRegion wsX4_addRegion := goodIn_ca (goodIn_ca (goodIn_r _ [7, 8, 9, 10, 11, 12, 13, 14, 15, 16, 17, 18, 6, 19, 20, 21, 22, 23, 24, 25, 26, 27, 28, 29, 30, 31, 32, 33, 34, 35, 36, 37, 38, 39, 40, 41, 42, 43, 44, 45, 46, 47, 48, 49, 50, 51, 52, 53, 54, 55, 56, 57, 58, 59, 60, 61, 62, 63, 64, 65, 66, 67, 68, 69, 70, 71, 72, 73, 74, 75, 76, 77, 78, 79, 80, 81, 82, 83, 84, 85, 86, 87, 88, 89, 90, 91, 92, 93, 94, 95, 96, 97, 98, 99, 100, 101, 102, 103, 104, 105, 106, 107, 108, 109, 110, 111, 112, 113, 114, 115, 116, 117, 118, 119, 120, 121] (by decide +kernel) (by decide +kernel)) (goodIn_sub (fun _ h => List.mem_cons_of_mem _ (List.mem_append_left _ (List.mem_append_right _ h))) (by decide +kernel))) (goodIn_sub (fun _ h => List.mem_cons_of_mem _ (List.mem_append_right _ h)) (by decide +kernel))
set_option maxRecDepth 20000 in
theorem gL_addRegion_X4_addRegion : GoodIn wsL_addRegion (wsV RL 7 RX4 yX4_addRegion wsX4_addRegion) := goodIn_app (goodIn_of _ (by decide +kernel)) ggL_addRegion_X4_addRegion
theorem dL_addRegion_0 : decode cL_addRegion 0 = .ok (.aload_n 2, 1) := by decide +kernel
theorem dL_addRegion_1 : decode cL_addRegion 1 = .ok (.iconst 0, 1) := by decide +kernel
theorem dL_addRegion_2 : decode cL_addRegion 2 = .ok (.aload_n 0, 1) := by decide +kernel
theorem dL_addRegion_3 : decode cL_addRegion 3 = .ok (.iload_n 1, 1) := by decide +kernel
theorem dL_addRegion_4 : decode cL_addRegion 4 = .ok (.invokevirtual 7, 3) := by decide +kernel
theorem dL_addRegion_7 : decode cL_addRegion 7 = .ok (.i2l, 1) := by decide +kernel
theorem dL_addRegion_8 : decode cL_addRegion 8 = .ok (.lastore, 1) := by decide +kernel
theorem dL_addRegion_9 : decode cL_addRegion 9 = .ok (.goto 9, 3) := by decide +kernel
theorem dL_addRegion_12 : decode cL_addRegion 12 = .ok (.astore_n 3, 1) := by decide +kernel
theorem dL_addRegion_13 : decode cL_addRegion 13 = .ok (.iconst 1, 1) := by decide +kernel
theorem dL_addRegion_14 : decode cL_addRegion 14 = .ok (.ireturn, 1) := by decide +kernel
theorem dL_addRegion_15 : decode cL_addRegion 15 = .ok (.astore_n 3, 1) := by decide +kernel
theorem dL_addRegion_16 : decode cL_addRegion 16 = .ok (.iconst 2, 1) := by decide +kernel
theorem dL_addRegion_17 : decode cL_addRegion 17 = .ok (.ireturn, 1) := by decide +kernel
theorem dL_addRegion_18 : decode cL_addRegion 18 = .ok (.iconst 0, 1) := by decide +kernel
theorem dL_addRegion_19 : decode cL_addRegion 19 = .ok (.ireturn, 1) := by decide +kernel
set_option maxRecDepth 20000 in
theorem ggL_addCheck_X4_addCheck : GoodIn wsL_addCheck wsX4_addCheck := goodIn_ca (goodIn_ca (goodIn_r _ [7, 8, 9, 10, 11, 12, 13, 14, 15, 6, 16, 17, 18, 19, 20, 21, 22, 23, 24, 25, 26, 27, 28, 29, 30, 31, 32, 33, 34, 35, 36, 37, 38, 39, 40, 41, 42, 43, 44, 45, 46, 47, 48, 49, 50, 51, 52, 53, 54, 55, 56, 57, 58, 59, 60, 61, 62, 63, 64, 65, 66, 67, 68, 69, 70, 71, 72, 73, 74, 75, 76, 77, 78, 79, 80, 81, 82, 83, 84, 85, 86, 87, 88, 89, 90, 91, 92, 93, 94, 95, 96, 97, 98, 99, 100, 101, 102, 103, 104, 105, 106, 107, 108, 109, 110, 111, 112, 113, 114, 115, 116] (by decide +kernel) (by decide +kernel)) (goodIn_sub (fun _ h => List.mem_cons_of_mem _ (List.mem_append_left _ (List.mem_append_right _ h))) (by decide +kernel))) (goodIn_sub (fun _ h => List.mem_cons_of_mem _ (List.mem_append_right _ h)) (by decide +kernel))
set_option maxRecDepth 20000 in
theorem gL_addCheck_X4_addCheck : GoodIn wsL_addCheck (wsV RL 17 RX4 yX4_addCheck wsX4_addCheck) := goodIn_app (goodIn_of _ (by decide +kernel)) ggL_addCheck_X4_addCheck
theorem dL_addCheck_0 : decode cL_addCheck 0 = .ok (.aload 5, 2) := by decide +kernel
theorem dL_addCheck_2 : decode cL_addCheck 2 = .ok (.iconst 0, 1) := by decide +kernel
theorem dL_addCheck_3 : decode cL_addCheck 3 = .ok (.aload_n 0, 1) := by decide +kernel
theorem dL_addCheck_4 : decode cL_addCheck 4 = .ok (.iload_n 1, 1) := by decide +kernel
theorem dL_addCheck_5 : decode cL_addCheck 5 = .ok (.iload_n 2, 1) := by decide +kernel
theorem dL_addCheck_6 : decode cL_addCheck 6 = .ok (.iload_n 3, 1) := by decide +kernel
theorem dL_addCheck_7 : decode cL_addCheck 7 = .ok (.iload 4, 2) := by decide +kernel
theorem dL_addCheck_9 : decode cL_addCheck 9 = .ok (.invokevirtual 17, 3) := by decide +kernel
theorem dL_addCheck_12 : decode cL_addCheck 12 = .ok (.i2l, 1) := by decide +kernel
theorem dL_addCheck_13 : decode cL_addCheck 13 = .ok (.lastore, 1) := by decide +kernel
theorem dL_addCheck_14 : decode cL_addCheck 14 = .ok (.goto 11, 3) := by decide +kernel
theorem dL_addCheck_17 : decode cL_addCheck 17 = .ok (.astore 6, 2) := by decide +kernel
theorem dL_addCheck_19 : decode cL_addCheck 19 = .ok (.iconst 1, 1) := by decide +kernel
theorem dL_addCheck_20 : decode cL_addCheck 20 = .ok (.ireturn, 1) := by decide +kernel
theorem dL_addCheck_21 : decode cL_addCheck 21 = .ok (.astore 6, 2) := by decide +kernel
theorem dL_addCheck_23 : decode cL_addCheck 23 = .ok (.iconst 2, 1) := by decide +kernel
theorem dL_addCheck_24 : decode cL_addCheck 24 = .ok (.ireturn, 1) := by decide +kernel
theorem dL_addCheck_25 : decode cL_addCheck 25 = .ok (.iconst 0, 1) := by decide +kernel
theorem dL_addCheck_26 : decode cL_addCheck 26 = .ok (.ireturn, 1) := by decide +kernel
set_option maxRecDepth 20000 in
theorem ggL_setDown_X4_setDown : GoodIn wsL_setDown wsX4_setDown := goodIn_ca (goodIn_r _ [6, 7, 8, 9, 10, 11, 12, 5, 13, 14, 15, 16, 17, 18, 19, 20, 21, 22, 23, 24, 25, 26, 27, 28, 29, 30, 31, 32, 33, 34, 35, 36, 37, 38, 39, 40, 41, 42, 43, 44, 45, 46, 47, 48, 49, 50, 51, 52, 53, 54, 55, 56, 57, 58, 59, 60, 61, 62, 63, 64, 65, 66, 67, 68, 69, 70, 71, 72] (by decide +kernel) (by decide +kernel)) (goodIn_sub (fun _ h => List.mem_cons_of_mem _ (List.mem_append_right _ h)) (by decide +kernel))
set_option maxRecDepth 20000 in
theorem gL_setDown_X4_setDown : GoodIn wsL_setDown (wsV RL 23 RX4 yX4_setDown wsX4_setDown) := goodIn_app (goodIn_of _ (by decide +kernel)) ggL_setDown_X4_setDown
theorem dL_setDown_0 : decode cL_setDown 0 = .ok (.aload 4, 2) := by decide +kernel
theorem dL_setDown_2 : decode cL_setDown 2 = .ok (.iconst 0, 1) := by decide +kernel
theorem dL_setDown_3 : decode cL_setDown 3 = .ok (.aload_n 0, 1) := by decide +kernel
theorem dL_setDown_4 : decode cL_setDown 4 = .ok (.iload_n 1, 1) := by decide +kernel
theorem dL_setDown_5 : decode cL_setDown 5 = .ok (.iload_n 2, 1) := by decide +kernel
theorem dL_setDown_6 : decode cL_setDown 6 = .ok (.iload_n 3, 1) := by decide +kernel
theorem dL_setDown_7 : decode cL_setDown 7 = .ok (.invokevirtual 23, 3) := by decide +kernel
theorem dL_setDown_10 : decode cL_setDown 10 = .ok (.ifCond .eq 7, 3) := by decide +kernel
theorem dL_setDown_13 : decode cL_setDown 13 = .ok (.lconst 1, 1) := by decide +kernel
theorem dL_setDown_14 : decode cL_setDown 14 = .ok (.goto 4, 3) := by decide +kernel
theorem dL_setDown_17 : decode cL_setDown 17 = .ok (.lconst 0, 1) := by decide +kernel
theorem dL_setDown_18 : decode cL_setDown 18 = .ok (.lastore, 1) := by decide +kernel
theorem dL_setDown_19 : decode cL_setDown 19 = .ok (.goto 7, 3) := by decide +kernel
theorem dL_setDown_22 : decode cL_setDown 22 = .ok (.astore 5, 2) := by decide +kernel
theorem dL_setDown_24 : decode cL_setDown 24 = .ok (.iconst 1, 1) := by decide +kernel
theorem dL_setDown_25 : decode cL_setDown 25 = .ok (.ireturn, 1) := by decide +kernel
theorem dL_setDown_26 : decode cL_setDown 26 = .ok (.iconst 0, 1) := by decide +kernel
theorem dL_setDown_27 : decode cL_setDown 27 = .ok (.ireturn, 1) := by decide +kernel
set_option maxRecDepth 20000 in
theorem ggL_setCut_X4_setCut : GoodIn wsL_setCut wsX4_setCut := goodIn_ca (goodIn_r _ [6, 7, 8, 9, 10, 5, 11, 12, 13, 14, 15, 16, 17, 18, 19, 20, 21, 22, 23, 24, 25, 26, 27, 28, 29, 30, 31, 32, 33, 34, 35, 36] (by decide +kernel) (by decide +kernel)) (goodIn_sub (fun _ h => List.mem_cons_of_mem _ (List.mem_append_right _ h)) (by decide +kernel))
set_option maxRecDepth 20000 in
theorem gL_setCut_X4_setCut : GoodIn wsL_setCut (wsV RL 27 RX4 yX4_setCut wsX4_setCut) := goodIn_app (goodIn_of _ (by decide +kernel)) ggL_setCut_X4_setCut
theorem dL_setCut_0 : decode cL_setCut 0 = .ok (.aload_n 3, 1) := by decide +kernel
theorem dL_setCut_1 : decode cL_setCut 1 = .ok (.iconst 0, 1) := by decide +kernel
theorem dL_setCut_2 : decode cL_setCut 2 = .ok (.aload_n 0, 1) := by decide +kernel
theorem dL_setCut_3 : decode cL_setCut 3 = .ok (.iload_n 1, 1) := by decide +kernel
theorem dL_setCut_4 : decode cL_setCut 4 = .ok (.iload_n 2, 1) := by decide +kernel
theorem dL_setCut_5 : decode cL_setCut 5 = .ok (.invokevirtual 27, 3) := by decide +kernel
theorem dL_setCut_8 : decode cL_setCut 8 = .ok (.ifCond .eq 7, 3) := by decide +kernel
theorem dL_setCut_11 : decode cL_setCut 11 = .ok (.lconst 1, 1) := by decide +kernel
theorem dL_setCut_12 : decode cL_setCut 12 = .ok (.goto 4, 3) := by decide +kernel
theorem dL_setCut_15 : decode cL_setCut 15 = .ok (.lconst 0, 1) := by decide +kernel
theorem dL_setCut_16 : decode cL_setCut 16 = .ok (.lastore, 1) := by decide +kernel
theorem dL_setCut_17 : decode cL_setCut 17 = .ok (.goto 7, 3) := by decide +kernel
theorem dL_setCut_20 : decode cL_setCut 20 = .ok (.astore 4, 2) := by decide +kernel
theorem dL_setCut_22 : decode cL_setCut 22 = .ok (.iconst 1, 1) := by decide +kernel
theorem dL_setCut_23 : decode cL_setCut 23 = .ok (.ireturn, 1) := by decide +kernel
theorem dL_setCut_24 : decode cL_setCut 24 = .ok (.iconst 0, 1) := by decide +kernel
theorem dL_setCut_25 : decode cL_setCut 25 = .ok (.ireturn, 1) := by decide +kernel
set_option maxRecDepth 20000 in
theorem ggL_setQuorum_X4_setQuorum : GoodIn wsL_setQuorum wsX4_setQuorum := goodIn_ca (goodIn_ca (goodIn_r _ [7, 8, 9, 10, 11, 12, 13, 6, 14, 15, 16, 17, 18, 19, 20, 21, 22, 23, 24, 25, 26, 27, 28, 29, 30, 31, 32, 33, 34, 35, 36, 37, 38, 39, 40, 41, 42, 43, 44, 45, 46, 47, 48, 49, 50, 51, 52, 53, 54, 55, 56, 57, 58, 59, 60, 61, 62, 63, 64, 65, 66, 67] (by decide +kernel) (by decide +kernel)) (goodIn_sub (fun _ h => List.mem_cons_of_mem _ (List.mem_append_left _ (List.mem_append_right _ h))) (by decide +kernel))) (goodIn_sub (fun _ h => List.mem_cons_of_mem _ (List.mem_append_right _ h)) (by decide +kernel))
set_option maxRecDepth 20000 in
theorem gL_setQuorum_X4_setQuorum : GoodIn wsL_setQuorum (wsV RL 31 RX4 yX4_setQuorum wsX4_setQuorum) := goodIn_app (goodIn_of _ (by decide +kernel)) ggL_setQuorum_X4_setQuorum
theorem dL_setQuorum_0 : decode cL_setQuorum 0 = .ok (.aload_n 3, 1) := by decide +kernel
theorem dL_setQuorum_1 : decode cL_setQuorum 1 = .ok (.iconst 0, 1) := by decide +kernel
theorem dL_setQuorum_2 : decode cL_setQuorum 2 = .ok (.aload_n 0, 1) := by decide +kernel
theorem dL_setQuorum_3 : decode cL_setQuorum 3 = .ok (.iload_n 1, 1) := by decide +kernel
theorem dL_setQuorum_4 : decode cL_setQuorum 4 = .ok (.iload_n 2, 1) := by decide +kernel
theorem dL_setQuorum_5 : decode cL_setQuorum 5 = .ok (.invokevirtual 31, 3) := by decide +kernel
theorem dL_setQuorum_8 : decode cL_setQuorum 8 = .ok (.i2l, 1) := by decide +kernel
theorem dL_setQuorum_9 : decode cL_setQuorum 9 = .ok (.lastore, 1) := by decide +kernel
theorem dL_setQuorum_10 : decode cL_setQuorum 10 = .ok (.goto 11, 3) := by decide +kernel
theorem dL_setQuorum_13 : decode cL_setQuorum 13 = .ok (.astore 4, 2) := by decide +kernel
theorem dL_setQuorum_15 : decode cL_setQuorum 15 = .ok (.iconst 1, 1) := by decide +kernel
theorem dL_setQuorum_16 : decode cL_setQuorum 16 = .ok (.ireturn, 1) := by decide +kernel
theorem dL_setQuorum_17 : decode cL_setQuorum 17 = .ok (.astore 4, 2) := by decide +kernel
theorem dL_setQuorum_19 : decode cL_setQuorum 19 = .ok (.iconst 2, 1) := by decide +kernel
theorem dL_setQuorum_20 : decode cL_setQuorum 20 = .ok (.ireturn, 1) := by decide +kernel
theorem dL_setQuorum_21 : decode cL_setQuorum 21 = .ok (.iconst 0, 1) := by decide +kernel
theorem dL_setQuorum_22 : decode cL_setQuorum 22 = .ok (.ireturn, 1) := by decide +kernel
set_option maxRecDepth 20000 in
theorem ggL_addWindow_X4_addWindow : GoodIn wsL_addWindow wsX4_addWindow := goodIn_ca (goodIn_ca (goodIn_ca (goodIn_r _ [8, 9, 10, 11, 12, 13, 14, 15, 16, 17, 18, 7, 19, 20, 21, 22, 23, 24, 25, 26, 27, 28, 29, 30, 31, 32, 33, 34, 35, 36, 37, 38, 39, 40, 41, 42, 43, 44, 45, 46, 47, 48, 49, 50, 51, 52, 53, 54, 55, 56, 57, 58, 59, 60, 61, 62, 63, 64, 65, 66, 67, 68, 69, 70, 71, 72, 73, 74, 75, 76, 77, 78, 79, 80, 81, 82, 83, 84, 85, 86, 87, 88, 89, 90, 91, 92, 93, 94, 95, 96, 97, 98, 99, 100, 101, 102, 103, 104, 105, 106, 107, 108, 109] (by decide +kernel) (by decide +kernel)) (goodIn_sub (fun _ h => List.mem_cons_of_mem _ (List.mem_append_left _ (List.mem_append_left _ (List.mem_append_right _ h)))) (by decide +kernel))) (goodIn_sub (fun _ h => List.mem_cons_of_mem _ (List.mem_append_left _ (List.mem_append_right _ h))) (by decide +kernel))) (goodIn_sub (fun _ h => List.mem_cons_of_mem _ (List.mem_append_right _ h)) (by decide +kernel))
set_option maxRecDepth 20000 in
theorem gL_addWindow_X4_addWindow : GoodIn wsL_addWindow (wsV RL 35 RX4 yX4_addWindow wsX4_addWindow) := goodIn_app (goodIn_of _ (by decide +kernel)) ggL_addWindow_X4_addWindow
theorem dL_addWindow_0 : decode cL_addWindow 0 = .ok (.aload 4, 2) := by decide +kernel
theorem dL_addWindow_2 : decode cL_addWindow 2 = .ok (.iconst 0, 1) := by decide +kernel
theorem dL_addWindow_3 : decode cL_addWindow 3 = .ok (.aload_n 0, 1) := by decide +kernel
theorem dL_addWindow_4 : decode cL_addWindow 4 = .ok (.iload_n 1, 1) := by decide +kernel
theorem dL_addWindow_5 : decode cL_addWindow 5 = .ok (.iload_n 2, 1) := by decide +kernel
theorem dL_addWindow_6 : decode cL_addWindow 6 = .ok (.iload_n 3, 1) := by decide +kernel
theorem dL_addWindow_7 : decode cL_addWindow 7 = .ok (.invokevirtual 35, 3) := by decide +kernel
theorem dL_addWindow_10 : decode cL_addWindow 10 = .ok (.i2l, 1) := by decide +kernel
theorem dL_addWindow_11 : decode cL_addWindow 11 = .ok (.lastore, 1) := by decide +kernel
theorem dL_addWindow_12 : decode cL_addWindow 12 = .ok (.goto 15, 3) := by decide +kernel
theorem dL_addWindow_15 : decode cL_addWindow 15 = .ok (.astore 5, 2) := by decide +kernel
theorem dL_addWindow_17 : decode cL_addWindow 17 = .ok (.iconst 1, 1) := by decide +kernel
theorem dL_addWindow_18 : decode cL_addWindow 18 = .ok (.ireturn, 1) := by decide +kernel
theorem dL_addWindow_19 : decode cL_addWindow 19 = .ok (.astore 5, 2) := by decide +kernel
theorem dL_addWindow_21 : decode cL_addWindow 21 = .ok (.iconst 2, 1) := by decide +kernel
theorem dL_addWindow_22 : decode cL_addWindow 22 = .ok (.ireturn, 1) := by decide +kernel
theorem dL_addWindow_23 : decode cL_addWindow 23 = .ok (.astore 5, 2) := by decide +kernel
theorem dL_addWindow_25 : decode cL_addWindow 25 = .ok (.iconst 3, 1) := by decide +kernel
theorem dL_addWindow_26 : decode cL_addWindow 26 = .ok (.ireturn, 1) := by decide +kernel
theorem dL_addWindow_27 : decode cL_addWindow 27 = .ok (.iconst 0, 1) := by decide +kernel
theorem dL_addWindow_28 : decode cL_addWindow 28 = .ok (.ireturn, 1) := by decide +kernel
set_option maxRecDepth 20000 in
theorem ggL_endWindow_X4_endWindow : GoodIn wsL_endWindow wsX4_endWindow := goodIn_ca (goodIn_r _ [6, 7, 8, 9, 10, 11, 12, 13, 14, 15, 16, 17, 18, 19, 20, 21, 22, 23, 24, 25, 26, 27, 28, 29, 30, 31, 32, 33, 34, 35, 36, 37, 38, 39, 40, 41, 42, 43, 44, 45, 46, 47, 48, 49, 50, 51, 52, 53, 54, 55, 56, 57, 58, 59, 60, 61, 62, 63, 64, 65] (by decide +kernel) (by decide +kernel)) (goodIn_sub (fun _ h => List.mem_cons_of_mem _ (List.mem_append_right _ h)) (by decide +kernel))
set_option maxRecDepth 20000 in
theorem gL_endWindow_X4_endWindow : GoodIn wsL_endWindow (wsV RL 39 RX4 yX4_endWindow wsX4_endWindow) := goodIn_app (goodIn_of _ (by decide +kernel)) ggL_endWindow_X4_endWindow
theorem dL_endWindow_0 : decode cL_endWindow 0 = .ok (.aload_n 2, 1) := by decide +kernel
theorem dL_endWindow_1 : decode cL_endWindow 1 = .ok (.iconst 0, 1) := by decide +kernel
theorem dL_endWindow_2 : decode cL_endWindow 2 = .ok (.aload_n 0, 1) := by decide +kernel
theorem dL_endWindow_3 : decode cL_endWindow 3 = .ok (.iload_n 1, 1) := by decide +kernel
theorem dL_endWindow_4 : decode cL_endWindow 4 = .ok (.invokevirtual 39, 3) := by decide +kernel
theorem dL_endWindow_7 : decode cL_endWindow 7 = .ok (.i2l, 1) := by decide +kernel
theorem dL_endWindow_8 : decode cL_endWindow 8 = .ok (.lastore, 1) := by decide +kernel
theorem dL_endWindow_9 : decode cL_endWindow 9 = .ok (.goto 6, 3) := by decide +kernel
theorem dL_endWindow_12 : decode cL_endWindow 12 = .ok (.astore_n 3, 1) := by decide +kernel
theorem dL_endWindow_13 : decode cL_endWindow 13 = .ok (.iconst 1, 1) := by decide +kernel
theorem dL_endWindow_14 : decode cL_endWindow 14 = .ok (.ireturn, 1) := by decide +kernel
theorem dL_endWindow_15 : decode cL_endWindow 15 = .ok (.iconst 0, 1) := by decide +kernel
theorem dL_endWindow_16 : decode cL_endWindow 16 = .ok (.ireturn, 1) := by decide +kernel
set_option maxRecDepth 20000 in
theorem ggL_pass_X4_pass : GoodIn wsL_pass wsX4_pass := goodIn_ca (goodIn_r _ [6, 7, 8, 9, 5, 10, 11, 12, 13, 14, 15, 16, 17, 18, 19, 20, 21, 22, 23, 24, 25, 26, 27, 28, 29, 30, 31, 32, 33, 34, 35, 36, 37, 38, 39, 40, 41, 42, 43, 44, 45, 46, 47, 48, 49, 50, 51, 52, 53, 54, 55, 56, 57, 58, 59, 60, 61, 62, 63, 64, 65, 66, 67, 68, 69, 70, 71, 72, 73, 74, 75, 76, 77, 78, 79, 80, 81, 82, 83, 84, 85, 86, 87, 88, 89, 90, 91, 92, 93, 94, 95, 96, 97, 98, 99, 100, 101, 102, 103, 104, 105, 106, 107, 108, 109, 110, 111, 112, 113, 114, 115, 116, 117, 118, 119, 120, 121, 122, 123, 124, 125, 126, 127, 128, 129, 130, 131, 132, 133, 134, 135, 136, 137, 138, 139, 140, 141, 142, 143, 144, 145, 146, 147, 148, 149, 150, 151, 152, 153, 154, 155, 156, 157, 158, 159, 160, 161, 162, 163, 164, 165, 166, 167, 168, 169, 170, 171, 172, 173, 174, 175, 176, 177, 178, 179, 180, 181, 182, 183, 184, 185, 186, 187, 188, 189, 190, 191, 192, 193, 194, 195, 196, 197, 198, 199, 200, 201, 202, 203, 204, 205, 206, 207, 208, 209, 210, 211, 212, 213, 214, 215, 216, 217, 218, 219, 220, 221, 222, 223, 224, 225, 226, 227, 228, 229, 230, 231, 232, 233, 234, 235, 236, 237, 238, 239, 240, 241, 242, 243, 244, 245, 246, 247, 248, 249, 250, 251, 252, 253, 254] (by decide +kernel) (by decide +kernel)) (goodIn_sub (fun _ h => List.mem_cons_of_mem _ (List.mem_append_right _ h)) (by decide +kernel))
set_option maxRecDepth 20000 in
theorem gL_pass_X4_pass : GoodIn wsL_pass (wsV RL 42 RX4 yX4_pass wsX4_pass) := goodIn_app (goodIn_of _ (by decide +kernel)) ggL_pass_X4_pass
theorem dL_pass_0 : decode cL_pass 0 = .ok (.aload_n 2, 1) := by decide +kernel
theorem dL_pass_1 : decode cL_pass 1 = .ok (.iconst 0, 1) := by decide +kernel
theorem dL_pass_2 : decode cL_pass 2 = .ok (.aload_n 0, 1) := by decide +kernel
theorem dL_pass_3 : decode cL_pass 3 = .ok (.iload_n 1, 1) := by decide +kernel
theorem dL_pass_4 : decode cL_pass 4 = .ok (.invokevirtual 42, 3) := by decide +kernel
theorem dL_pass_7 : decode cL_pass 7 = .ok (.i2l, 1) := by decide +kernel
theorem dL_pass_8 : decode cL_pass 8 = .ok (.lastore, 1) := by decide +kernel
theorem dL_pass_9 : decode cL_pass 9 = .ok (.goto 6, 3) := by decide +kernel
theorem dL_pass_12 : decode cL_pass 12 = .ok (.astore_n 3, 1) := by decide +kernel
theorem dL_pass_13 : decode cL_pass 13 = .ok (.iconst 1, 1) := by decide +kernel
theorem dL_pass_14 : decode cL_pass 14 = .ok (.ireturn, 1) := by decide +kernel
theorem dL_pass_15 : decode cL_pass 15 = .ok (.iconst 0, 1) := by decide +kernel
theorem dL_pass_16 : decode cL_pass 16 = .ok (.ireturn, 1) := by decide +kernel
set_option maxRecDepth 20000 in
theorem ggL_failing_X4_failing : GoodIn wsL_failing wsX4_failing := goodIn_ca (goodIn_r _ [6, 7, 8, 9, 10, 11, 12, 13, 5, 14, 15, 16, 17, 18, 19, 20, 21, 22, 23, 24, 25, 26, 27, 28, 29, 30, 31, 32, 33, 34, 35, 36, 37, 38, 39, 40, 41, 42, 43, 44, 45, 46, 47, 48, 49, 50, 51, 52, 53, 54, 55, 56, 57, 58, 59, 60, 61, 62, 63, 64, 65, 66, 67, 68, 69, 70, 71, 72, 73, 74, 75, 76, 77, 78, 79, 80] (by decide +kernel) (by decide +kernel)) (goodIn_sub (fun _ h => List.mem_cons_of_mem _ (List.mem_append_right _ h)) (by decide +kernel))
set_option maxRecDepth 20000 in
theorem gL_failing_X4_failing : GoodIn wsL_failing (wsV RL 45 RX4 yX4_failing wsX4_failing) := goodIn_app (goodIn_of _ (by decide +kernel)) ggL_failing_X4_failing
theorem dL_failing_0 : decode cL_failing 0 = .ok (.aload_n 2, 1) := by decide +kernel
theorem dL_failing_1 : decode cL_failing 1 = .ok (.iconst 0, 1) := by decide +kernel
theorem dL_failing_2 : decode cL_failing 2 = .ok (.aload_n 0, 1) := by decide +kernel
theorem dL_failing_3 : decode cL_failing 3 = .ok (.iload_n 1, 1) := by decide +kernel
theorem dL_failing_4 : decode cL_failing 4 = .ok (.invokevirtual 45, 3) := by decide +kernel
theorem dL_failing_7 : decode cL_failing 7 = .ok (.i2l, 1) := by decide +kernel
theorem dL_failing_8 : decode cL_failing 8 = .ok (.lastore, 1) := by decide +kernel
theorem dL_failing_9 : decode cL_failing 9 = .ok (.goto 6, 3) := by decide +kernel
theorem dL_failing_12 : decode cL_failing 12 = .ok (.astore_n 3, 1) := by decide +kernel
theorem dL_failing_13 : decode cL_failing 13 = .ok (.iconst 1, 1) := by decide +kernel
theorem dL_failing_14 : decode cL_failing 14 = .ok (.ireturn, 1) := by decide +kernel
theorem dL_failing_15 : decode cL_failing 15 = .ok (.iconst 0, 1) := by decide +kernel
theorem dL_failing_16 : decode cL_failing 16 = .ok (.ireturn, 1) := by decide +kernel
set_option maxRecDepth 20000 in
theorem ggL_nextProbe_X4_nextProbe : GoodIn wsL_nextProbe wsX4_nextProbe := goodIn_ca (goodIn_r _ [6, 7, 8, 9, 10, 11, 12, 5, 13, 14, 15, 16, 17, 18, 19, 20, 21, 22, 23, 24, 25, 26, 27, 28, 29, 30, 31, 32, 33, 34, 35, 36, 37, 38, 39, 40, 41, 42, 43, 44, 45, 46, 47, 48, 49, 50, 51, 52, 53, 54, 55, 56, 57, 58, 59, 60, 61, 62, 63, 64, 65, 66, 67, 68, 69, 70, 71, 72, 73, 74, 75] (by decide +kernel) (by decide +kernel)) (goodIn_sub (fun _ h => List.mem_cons_of_mem _ (List.mem_append_right _ h)) (by decide +kernel))
set_option maxRecDepth 20000 in
theorem gL_nextProbe_X4_nextProbe : GoodIn wsL_nextProbe (wsV RL 48 RX4 yX4_nextProbe wsX4_nextProbe) := goodIn_app (goodIn_of _ (by decide +kernel)) ggL_nextProbe_X4_nextProbe
theorem dL_nextProbe_0 : decode cL_nextProbe 0 = .ok (.aload_n 3, 1) := by decide +kernel
theorem dL_nextProbe_1 : decode cL_nextProbe 1 = .ok (.iconst 0, 1) := by decide +kernel
theorem dL_nextProbe_2 : decode cL_nextProbe 2 = .ok (.aload_n 0, 1) := by decide +kernel
theorem dL_nextProbe_3 : decode cL_nextProbe 3 = .ok (.iload_n 1, 1) := by decide +kernel
theorem dL_nextProbe_4 : decode cL_nextProbe 4 = .ok (.iload_n 2, 1) := by decide +kernel
theorem dL_nextProbe_5 : decode cL_nextProbe 5 = .ok (.invokevirtual 48, 3) := by decide +kernel
theorem dL_nextProbe_8 : decode cL_nextProbe 8 = .ok (.i2l, 1) := by decide +kernel
theorem dL_nextProbe_9 : decode cL_nextProbe 9 = .ok (.lastore, 1) := by decide +kernel
theorem dL_nextProbe_10 : decode cL_nextProbe 10 = .ok (.goto 7, 3) := by decide +kernel
theorem dL_nextProbe_13 : decode cL_nextProbe 13 = .ok (.astore 4, 2) := by decide +kernel
theorem dL_nextProbe_15 : decode cL_nextProbe 15 = .ok (.iconst 1, 1) := by decide +kernel
theorem dL_nextProbe_16 : decode cL_nextProbe 16 = .ok (.ireturn, 1) := by decide +kernel
theorem dL_nextProbe_17 : decode cL_nextProbe 17 = .ok (.iconst 0, 1) := by decide +kernel
theorem dL_nextProbe_18 : decode cL_nextProbe 18 = .ok (.ireturn, 1) := by decide +kernel
set_option maxRecDepth 20000 in
theorem ggL_repetition_X4_repetition : GoodIn wsL_repetition wsX4_repetition := goodIn_ca (goodIn_r _ [6, 7, 8, 9, 10, 11, 12, 5, 13, 14, 15, 16, 17, 18, 19, 20, 21, 22, 23, 24, 25, 26, 27, 28, 29, 30, 31, 32, 33, 34, 35, 36, 37, 38, 39, 40, 41, 42, 43, 44, 45, 46, 47, 48, 49, 50, 51, 52, 53, 54, 55, 56, 57, 58, 59, 60, 61, 62, 63, 64, 65, 66] (by decide +kernel) (by decide +kernel)) (goodIn_sub (fun _ h => List.mem_cons_of_mem _ (List.mem_append_right _ h)) (by decide +kernel))
set_option maxRecDepth 20000 in
theorem gL_repetition_X4_repetition : GoodIn wsL_repetition (wsV RL 51 RX4 yX4_repetition wsX4_repetition) := goodIn_app (goodIn_of _ (by decide +kernel)) ggL_repetition_X4_repetition
theorem dL_repetition_0 : decode cL_repetition 0 = .ok (.aload_n 3, 1) := by decide +kernel
theorem dL_repetition_1 : decode cL_repetition 1 = .ok (.iconst 0, 1) := by decide +kernel
theorem dL_repetition_2 : decode cL_repetition 2 = .ok (.aload_n 0, 1) := by decide +kernel
theorem dL_repetition_3 : decode cL_repetition 3 = .ok (.iload_n 1, 1) := by decide +kernel
theorem dL_repetition_4 : decode cL_repetition 4 = .ok (.iload_n 2, 1) := by decide +kernel
theorem dL_repetition_5 : decode cL_repetition 5 = .ok (.invokevirtual 51, 3) := by decide +kernel
theorem dL_repetition_8 : decode cL_repetition 8 = .ok (.i2l, 1) := by decide +kernel
theorem dL_repetition_9 : decode cL_repetition 9 = .ok (.lastore, 1) := by decide +kernel
theorem dL_repetition_10 : decode cL_repetition 10 = .ok (.goto 7, 3) := by decide +kernel
theorem dL_repetition_13 : decode cL_repetition 13 = .ok (.astore 4, 2) := by decide +kernel
theorem dL_repetition_15 : decode cL_repetition 15 = .ok (.iconst 1, 1) := by decide +kernel
theorem dL_repetition_16 : decode cL_repetition 16 = .ok (.ireturn, 1) := by decide +kernel
theorem dL_repetition_17 : decode cL_repetition 17 = .ok (.iconst 0, 1) := by decide +kernel
theorem dL_repetition_18 : decode cL_repetition 18 = .ok (.ireturn, 1) := by decide +kernel
set_option maxRecDepth 20000 in
theorem ggL_vote_X4_vote : GoodIn wsL_vote wsX4_vote := goodIn_ca (goodIn_r _ [6, 7, 8, 9, 10, 11, 12, 5, 13, 14, 15, 16, 17, 18, 19, 20, 21, 22, 23, 24, 25, 26, 27, 28, 29, 30, 31, 32, 33, 34, 35, 36, 37, 38, 39, 40, 41, 42, 43, 44, 45, 46, 47, 48, 49, 50, 51, 52, 53, 54, 55, 56, 57, 58, 59, 60, 61, 62, 63, 64, 65, 66] (by decide +kernel) (by decide +kernel)) (goodIn_sub (fun _ h => List.mem_cons_of_mem _ (List.mem_append_right _ h)) (by decide +kernel))
set_option maxRecDepth 20000 in
theorem gL_vote_X4_vote : GoodIn wsL_vote (wsV RL 54 RX4 yX4_vote wsX4_vote) := goodIn_app (goodIn_of _ (by decide +kernel)) ggL_vote_X4_vote
theorem dL_vote_0 : decode cL_vote 0 = .ok (.aload_n 3, 1) := by decide +kernel
theorem dL_vote_1 : decode cL_vote 1 = .ok (.iconst 0, 1) := by decide +kernel
theorem dL_vote_2 : decode cL_vote 2 = .ok (.aload_n 0, 1) := by decide +kernel
theorem dL_vote_3 : decode cL_vote 3 = .ok (.iload_n 1, 1) := by decide +kernel
theorem dL_vote_4 : decode cL_vote 4 = .ok (.iload_n 2, 1) := by decide +kernel
theorem dL_vote_5 : decode cL_vote 5 = .ok (.invokevirtual 54, 3) := by decide +kernel
theorem dL_vote_8 : decode cL_vote 8 = .ok (.i2l, 1) := by decide +kernel
theorem dL_vote_9 : decode cL_vote 9 = .ok (.lastore, 1) := by decide +kernel
theorem dL_vote_10 : decode cL_vote 10 = .ok (.goto 7, 3) := by decide +kernel
theorem dL_vote_13 : decode cL_vote 13 = .ok (.astore 4, 2) := by decide +kernel
theorem dL_vote_15 : decode cL_vote 15 = .ok (.iconst 1, 1) := by decide +kernel
theorem dL_vote_16 : decode cL_vote 16 = .ok (.ireturn, 1) := by decide +kernel
theorem dL_vote_17 : decode cL_vote 17 = .ok (.iconst 0, 1) := by decide +kernel
theorem dL_vote_18 : decode cL_vote 18 = .ok (.ireturn, 1) := by decide +kernel
set_option maxRecDepth 20000 in
theorem ggL_probes_X4_probes : GoodIn wsL_probes wsX4_probes := goodIn_ca (goodIn_r _ [6, 7, 8, 9, 10, 11, 12, 5, 13, 14, 15, 16, 17, 18, 19, 20, 21, 22, 23, 24, 25, 26, 27, 28, 29, 30, 31, 32, 33, 34, 35, 36, 37, 38, 39, 40, 41, 42, 43, 44, 45, 46, 47, 48, 49, 50, 51, 52] (by decide +kernel) (by decide +kernel)) (goodIn_sub (fun _ h => List.mem_cons_of_mem _ (List.mem_append_right _ h)) (by decide +kernel))
set_option maxRecDepth 20000 in
theorem gL_probes_X4_probes : GoodIn wsL_probes (wsV RL 57 RX4 yX4_probes wsX4_probes) := goodIn_app (goodIn_of _ (by decide +kernel)) ggL_probes_X4_probes
theorem dL_probes_0 : decode cL_probes 0 = .ok (.aload_n 2, 1) := by decide +kernel
theorem dL_probes_1 : decode cL_probes 1 = .ok (.iconst 0, 1) := by decide +kernel
theorem dL_probes_2 : decode cL_probes 2 = .ok (.aload_n 0, 1) := by decide +kernel
theorem dL_probes_3 : decode cL_probes 3 = .ok (.iload_n 1, 1) := by decide +kernel
theorem dL_probes_4 : decode cL_probes 4 = .ok (.invokevirtual 57, 3) := by decide +kernel
theorem dL_probes_7 : decode cL_probes 7 = .ok (.i2l, 1) := by decide +kernel
theorem dL_probes_8 : decode cL_probes 8 = .ok (.lastore, 1) := by decide +kernel
theorem dL_probes_9 : decode cL_probes 9 = .ok (.goto 6, 3) := by decide +kernel
theorem dL_probes_12 : decode cL_probes 12 = .ok (.astore_n 3, 1) := by decide +kernel
theorem dL_probes_13 : decode cL_probes 13 = .ok (.iconst 1, 1) := by decide +kernel
theorem dL_probes_14 : decode cL_probes 14 = .ok (.ireturn, 1) := by decide +kernel
theorem dL_probes_15 : decode cL_probes 15 = .ok (.iconst 0, 1) := by decide +kernel
theorem dL_probes_16 : decode cL_probes 16 = .ok (.ireturn, 1) := by decide +kernel
set_option maxRecDepth 20000 in
theorem ggL_failures_X4_failures : GoodIn wsL_failures wsX4_failures := goodIn_ca (goodIn_r _ [6, 7, 8, 9, 10, 11, 12, 5, 13, 14, 15, 16, 17, 18, 19, 20, 21, 22, 23, 24, 25, 26, 27, 28, 29, 30, 31, 32, 33, 34, 35, 36, 37, 38, 39, 40, 41, 42, 43, 44, 45, 46, 47, 48, 49, 50, 51, 52] (by decide +kernel) (by decide +kernel)) (goodIn_sub (fun _ h => List.mem_cons_of_mem _ (List.mem_append_right _ h)) (by decide +kernel))
set_option maxRecDepth 20000 in
theorem gL_failures_X4_failures : GoodIn wsL_failures (wsV RL 60 RX4 yX4_failures wsX4_failures) := goodIn_app (goodIn_of _ (by decide +kernel)) ggL_failures_X4_failures
theorem dL_failures_0 : decode cL_failures 0 = .ok (.aload_n 2, 1) := by decide +kernel
theorem dL_failures_1 : decode cL_failures 1 = .ok (.iconst 0, 1) := by decide +kernel
theorem dL_failures_2 : decode cL_failures 2 = .ok (.aload_n 0, 1) := by decide +kernel
theorem dL_failures_3 : decode cL_failures 3 = .ok (.iload_n 1, 1) := by decide +kernel
theorem dL_failures_4 : decode cL_failures 4 = .ok (.invokevirtual 60, 3) := by decide +kernel
theorem dL_failures_7 : decode cL_failures 7 = .ok (.i2l, 1) := by decide +kernel
theorem dL_failures_8 : decode cL_failures 8 = .ok (.lastore, 1) := by decide +kernel
theorem dL_failures_9 : decode cL_failures 9 = .ok (.goto 6, 3) := by decide +kernel
theorem dL_failures_12 : decode cL_failures 12 = .ok (.astore_n 3, 1) := by decide +kernel
theorem dL_failures_13 : decode cL_failures 13 = .ok (.iconst 1, 1) := by decide +kernel
theorem dL_failures_14 : decode cL_failures 14 = .ok (.ireturn, 1) := by decide +kernel
theorem dL_failures_15 : decode cL_failures 15 = .ok (.iconst 0, 1) := by decide +kernel
theorem dL_failures_16 : decode cL_failures 16 = .ok (.ireturn, 1) := by decide +kernel
set_option maxRecDepth 20000 in
theorem ggL_isBad_X4_isBad : GoodIn wsL_isBad wsX4_isBad := goodIn_ca (goodIn_r _ [6, 7, 8, 9, 10, 5, 11, 12, 13, 14, 15, 16, 17, 18, 19, 20, 21, 22, 23, 24, 25, 26, 27, 28, 29, 30, 31, 32, 33] (by decide +kernel) (by decide +kernel)) (goodIn_sub (fun _ h => List.mem_cons_of_mem _ (List.mem_append_right _ h)) (by decide +kernel))
set_option maxRecDepth 20000 in
theorem gL_isBad_X4_isBad : GoodIn wsL_isBad (wsV RL 63 RX4 yX4_isBad wsX4_isBad) := goodIn_app (goodIn_of _ (by decide +kernel)) ggL_isBad_X4_isBad
theorem dL_isBad_0 : decode cL_isBad 0 = .ok (.aload_n 2, 1) := by decide +kernel
theorem dL_isBad_1 : decode cL_isBad 1 = .ok (.iconst 0, 1) := by decide +kernel
theorem dL_isBad_2 : decode cL_isBad 2 = .ok (.aload_n 0, 1) := by decide +kernel
theorem dL_isBad_3 : decode cL_isBad 3 = .ok (.iload_n 1, 1) := by decide +kernel
theorem dL_isBad_4 : decode cL_isBad 4 = .ok (.invokevirtual 63, 3) := by decide +kernel
theorem dL_isBad_7 : decode cL_isBad 7 = .ok (.ifCond .eq 7, 3) := by decide +kernel
theorem dL_isBad_10 : decode cL_isBad 10 = .ok (.lconst 1, 1) := by decide +kernel
theorem dL_isBad_11 : decode cL_isBad 11 = .ok (.goto 4, 3) := by decide +kernel
theorem dL_isBad_14 : decode cL_isBad 14 = .ok (.lconst 0, 1) := by decide +kernel
theorem dL_isBad_15 : decode cL_isBad 15 = .ok (.lastore, 1) := by decide +kernel
theorem dL_isBad_16 : decode cL_isBad 16 = .ok (.goto 6, 3) := by decide +kernel
theorem dL_isBad_19 : decode cL_isBad 19 = .ok (.astore_n 3, 1) := by decide +kernel
theorem dL_isBad_20 : decode cL_isBad 20 = .ok (.iconst 1, 1) := by decide +kernel
theorem dL_isBad_21 : decode cL_isBad 21 = .ok (.ireturn, 1) := by decide +kernel
theorem dL_isBad_22 : decode cL_isBad 22 = .ok (.iconst 0, 1) := by decide +kernel
theorem dL_isBad_23 : decode cL_isBad 23 = .ok (.ireturn, 1) := by decide +kernel
set_option maxRecDepth 20000 in
theorem ggL_verdict_X4_verdict : GoodIn wsL_verdict wsX4_verdict := goodIn_ca (goodIn_r _ [6, 7, 8, 9, 10, 11, 12, 5, 13, 14, 15, 16, 17, 18, 19, 20, 21, 22, 23, 24, 25, 26, 27, 28, 29, 30, 31, 32, 33, 34, 35, 36, 37, 38, 39, 40, 41, 42, 43, 44, 45, 46, 47, 48, 49, 50, 51, 52, 53, 54, 55, 56, 57, 58, 59, 60, 61] (by decide +kernel) (by decide +kernel)) (goodIn_sub (fun _ h => List.mem_cons_of_mem _ (List.mem_append_right _ h)) (by decide +kernel))
set_option maxRecDepth 20000 in
theorem gL_verdict_X4_verdict : GoodIn wsL_verdict (wsV RL 67 RX4 yX4_verdict wsX4_verdict) := goodIn_app (goodIn_of _ (by decide +kernel)) ggL_verdict_X4_verdict
theorem dL_verdict_0 : decode cL_verdict 0 = .ok (.aload_n 2, 1) := by decide +kernel
theorem dL_verdict_1 : decode cL_verdict 1 = .ok (.iconst 0, 1) := by decide +kernel
theorem dL_verdict_2 : decode cL_verdict 2 = .ok (.aload_n 0, 1) := by decide +kernel
theorem dL_verdict_3 : decode cL_verdict 3 = .ok (.iload_n 1, 1) := by decide +kernel
theorem dL_verdict_4 : decode cL_verdict 4 = .ok (.invokevirtual 67, 3) := by decide +kernel
theorem dL_verdict_7 : decode cL_verdict 7 = .ok (.i2l, 1) := by decide +kernel
theorem dL_verdict_8 : decode cL_verdict 8 = .ok (.lastore, 1) := by decide +kernel
theorem dL_verdict_9 : decode cL_verdict 9 = .ok (.goto 6, 3) := by decide +kernel
theorem dL_verdict_12 : decode cL_verdict 12 = .ok (.astore_n 3, 1) := by decide +kernel
theorem dL_verdict_13 : decode cL_verdict 13 = .ok (.iconst 1, 1) := by decide +kernel
theorem dL_verdict_14 : decode cL_verdict 14 = .ok (.ireturn, 1) := by decide +kernel
theorem dL_verdict_15 : decode cL_verdict 15 = .ok (.iconst 0, 1) := by decide +kernel
theorem dL_verdict_16 : decode cL_verdict 16 = .ok (.ireturn, 1) := by decide +kernel
set_option maxRecDepth 20000 in
theorem ggL_trusted_X4_trusted : GoodIn wsL_trusted wsX4_trusted := goodIn_ca (goodIn_r _ [6, 7, 8, 9, 10, 11, 5, 12, 13, 14, 15, 16, 17, 18, 19, 20, 21, 22, 23, 24, 25, 26, 27, 28, 29, 30, 31, 32, 33, 34, 35, 36, 37, 38, 39, 40, 41, 42, 43, 44, 45, 46, 47, 48, 49, 50, 51, 52, 53, 54, 55, 56, 57, 58, 59, 60, 61, 62, 63, 64, 65, 66, 67, 68, 69, 70, 71, 72, 73, 74, 75, 76] (by decide +kernel) (by decide +kernel)) (goodIn_sub (fun _ h => List.mem_cons_of_mem _ (List.mem_append_right _ h)) (by decide +kernel))
set_option maxRecDepth 20000 in
theorem gL_trusted_X4_trusted : GoodIn wsL_trusted (wsV RL 70 RX4 yX4_trusted wsX4_trusted) := goodIn_app (goodIn_of _ (by decide +kernel)) ggL_trusted_X4_trusted
theorem dL_trusted_0 : decode cL_trusted 0 = .ok (.aload_n 2, 1) := by decide +kernel
theorem dL_trusted_1 : decode cL_trusted 1 = .ok (.iconst 0, 1) := by decide +kernel
theorem dL_trusted_2 : decode cL_trusted 2 = .ok (.aload_n 0, 1) := by decide +kernel
theorem dL_trusted_3 : decode cL_trusted 3 = .ok (.iload_n 1, 1) := by decide +kernel
theorem dL_trusted_4 : decode cL_trusted 4 = .ok (.invokevirtual 70, 3) := by decide +kernel
theorem dL_trusted_7 : decode cL_trusted 7 = .ok (.i2l, 1) := by decide +kernel
theorem dL_trusted_8 : decode cL_trusted 8 = .ok (.lastore, 1) := by decide +kernel
theorem dL_trusted_9 : decode cL_trusted 9 = .ok (.goto 6, 3) := by decide +kernel
theorem dL_trusted_12 : decode cL_trusted 12 = .ok (.astore_n 3, 1) := by decide +kernel
theorem dL_trusted_13 : decode cL_trusted 13 = .ok (.iconst 1, 1) := by decide +kernel
theorem dL_trusted_14 : decode cL_trusted 14 = .ok (.ireturn, 1) := by decide +kernel
theorem dL_trusted_15 : decode cL_trusted 15 = .ok (.iconst 0, 1) := by decide +kernel
theorem dL_trusted_16 : decode cL_trusted 16 = .ok (.ireturn, 1) := by decide +kernel
set_option maxRecDepth 20000 in
theorem ggL_hasAlarm_X4_hasAlarm : GoodIn wsL_hasAlarm wsX4_hasAlarm := goodIn_ca (goodIn_r _ [6, 7, 8, 9, 10, 11, 12, 5, 13, 14, 15, 16, 17, 18, 19, 20, 21, 22, 23, 24, 25, 26, 27, 28, 29, 30, 31, 32, 33, 34, 35, 36, 37, 38, 39, 40, 41, 42, 43, 44, 45, 46, 47, 48, 49, 50, 51, 52, 53, 54, 55, 56, 57, 58, 59, 60, 61] (by decide +kernel) (by decide +kernel)) (goodIn_sub (fun _ h => List.mem_cons_of_mem _ (List.mem_append_right _ h)) (by decide +kernel))
set_option maxRecDepth 20000 in
theorem gL_hasAlarm_X4_hasAlarm : GoodIn wsL_hasAlarm (wsV RL 73 RX4 yX4_hasAlarm wsX4_hasAlarm) := goodIn_app (goodIn_of _ (by decide +kernel)) ggL_hasAlarm_X4_hasAlarm
theorem dL_hasAlarm_0 : decode cL_hasAlarm 0 = .ok (.aload_n 2, 1) := by decide +kernel
theorem dL_hasAlarm_1 : decode cL_hasAlarm 1 = .ok (.iconst 0, 1) := by decide +kernel
theorem dL_hasAlarm_2 : decode cL_hasAlarm 2 = .ok (.aload_n 0, 1) := by decide +kernel
theorem dL_hasAlarm_3 : decode cL_hasAlarm 3 = .ok (.iload_n 1, 1) := by decide +kernel
theorem dL_hasAlarm_4 : decode cL_hasAlarm 4 = .ok (.invokevirtual 73, 3) := by decide +kernel
theorem dL_hasAlarm_7 : decode cL_hasAlarm 7 = .ok (.ifCond .eq 7, 3) := by decide +kernel
theorem dL_hasAlarm_10 : decode cL_hasAlarm 10 = .ok (.lconst 1, 1) := by decide +kernel
theorem dL_hasAlarm_11 : decode cL_hasAlarm 11 = .ok (.goto 4, 3) := by decide +kernel
theorem dL_hasAlarm_14 : decode cL_hasAlarm 14 = .ok (.lconst 0, 1) := by decide +kernel
theorem dL_hasAlarm_15 : decode cL_hasAlarm 15 = .ok (.lastore, 1) := by decide +kernel
theorem dL_hasAlarm_16 : decode cL_hasAlarm 16 = .ok (.goto 6, 3) := by decide +kernel
theorem dL_hasAlarm_19 : decode cL_hasAlarm 19 = .ok (.astore_n 3, 1) := by decide +kernel
theorem dL_hasAlarm_20 : decode cL_hasAlarm 20 = .ok (.iconst 1, 1) := by decide +kernel
theorem dL_hasAlarm_21 : decode cL_hasAlarm 21 = .ok (.ireturn, 1) := by decide +kernel
theorem dL_hasAlarm_22 : decode cL_hasAlarm 22 = .ok (.iconst 0, 1) := by decide +kernel
theorem dL_hasAlarm_23 : decode cL_hasAlarm 23 = .ok (.ireturn, 1) := by decide +kernel
set_option maxRecDepth 20000 in
theorem ggL_alarmCheck_X4_alarmCheck : GoodIn wsL_alarmCheck wsX4_alarmCheck := goodIn_ca (goodIn_r _ [6, 7, 8, 9, 10, 11, 12, 5, 13, 14, 15, 16, 17, 18, 19, 20, 21, 22, 23, 24, 25, 26, 27, 28, 29, 30, 31, 32, 33, 34, 35, 36, 37, 38, 39, 40, 41, 42, 43, 44, 45, 46, 47, 48, 49, 50, 51] (by decide +kernel) (by decide +kernel)) (goodIn_sub (fun _ h => List.mem_cons_of_mem _ (List.mem_append_right _ h)) (by decide +kernel))
set_option maxRecDepth 20000 in
theorem gL_alarmCheck_X4_alarmCheck : GoodIn wsL_alarmCheck (wsV RL 76 RX4 yX4_alarmCheck wsX4_alarmCheck) := goodIn_app (goodIn_of _ (by decide +kernel)) ggL_alarmCheck_X4_alarmCheck
theorem dL_alarmCheck_0 : decode cL_alarmCheck 0 = .ok (.aload_n 2, 1) := by decide +kernel
theorem dL_alarmCheck_1 : decode cL_alarmCheck 1 = .ok (.iconst 0, 1) := by decide +kernel
theorem dL_alarmCheck_2 : decode cL_alarmCheck 2 = .ok (.aload_n 0, 1) := by decide +kernel
theorem dL_alarmCheck_3 : decode cL_alarmCheck 3 = .ok (.iload_n 1, 1) := by decide +kernel
theorem dL_alarmCheck_4 : decode cL_alarmCheck 4 = .ok (.invokevirtual 76, 3) := by decide +kernel
theorem dL_alarmCheck_7 : decode cL_alarmCheck 7 = .ok (.i2l, 1) := by decide +kernel
theorem dL_alarmCheck_8 : decode cL_alarmCheck 8 = .ok (.lastore, 1) := by decide +kernel
theorem dL_alarmCheck_9 : decode cL_alarmCheck 9 = .ok (.goto 6, 3) := by decide +kernel
theorem dL_alarmCheck_12 : decode cL_alarmCheck 12 = .ok (.astore_n 3, 1) := by decide +kernel
theorem dL_alarmCheck_13 : decode cL_alarmCheck 13 = .ok (.iconst 1, 1) := by decide +kernel
theorem dL_alarmCheck_14 : decode cL_alarmCheck 14 = .ok (.ireturn, 1) := by decide +kernel
theorem dL_alarmCheck_15 : decode cL_alarmCheck 15 = .ok (.iconst 0, 1) := by decide +kernel
theorem dL_alarmCheck_16 : decode cL_alarmCheck 16 = .ok (.ireturn, 1) := by decide +kernel
set_option maxRecDepth 20000 in
theorem ggL_alarmRaised_X4_alarmRaised : GoodIn wsL_alarmRaised wsX4_alarmRaised := goodIn_ca (goodIn_r _ [6, 7, 8, 9, 10, 11, 12, 5, 13, 14, 15, 16, 17, 18, 19, 20, 21, 22, 23, 24, 25, 26, 27, 28, 29, 30, 31, 32, 33, 34, 35, 36, 37, 38, 39, 40, 41, 42, 43, 44, 45, 46, 47, 48, 49, 50, 51] (by decide +kernel) (by decide +kernel)) (goodIn_sub (fun _ h => List.mem_cons_of_mem _ (List.mem_append_right _ h)) (by decide +kernel))
set_option maxRecDepth 20000 in
theorem gL_alarmRaised_X4_alarmRaised : GoodIn wsL_alarmRaised (wsV RL 79 RX4 yX4_alarmRaised wsX4_alarmRaised) := goodIn_app (goodIn_of _ (by decide +kernel)) ggL_alarmRaised_X4_alarmRaised
theorem dL_alarmRaised_0 : decode cL_alarmRaised 0 = .ok (.aload_n 2, 1) := by decide +kernel
theorem dL_alarmRaised_1 : decode cL_alarmRaised 1 = .ok (.iconst 0, 1) := by decide +kernel
theorem dL_alarmRaised_2 : decode cL_alarmRaised 2 = .ok (.aload_n 0, 1) := by decide +kernel
theorem dL_alarmRaised_3 : decode cL_alarmRaised 3 = .ok (.iload_n 1, 1) := by decide +kernel
theorem dL_alarmRaised_4 : decode cL_alarmRaised 4 = .ok (.invokevirtual 79, 3) := by decide +kernel
theorem dL_alarmRaised_7 : decode cL_alarmRaised 7 = .ok (.i2l, 1) := by decide +kernel
theorem dL_alarmRaised_8 : decode cL_alarmRaised 8 = .ok (.lastore, 1) := by decide +kernel
theorem dL_alarmRaised_9 : decode cL_alarmRaised 9 = .ok (.goto 6, 3) := by decide +kernel
theorem dL_alarmRaised_12 : decode cL_alarmRaised 12 = .ok (.astore_n 3, 1) := by decide +kernel
theorem dL_alarmRaised_13 : decode cL_alarmRaised 13 = .ok (.iconst 1, 1) := by decide +kernel
theorem dL_alarmRaised_14 : decode cL_alarmRaised 14 = .ok (.ireturn, 1) := by decide +kernel
theorem dL_alarmRaised_15 : decode cL_alarmRaised 15 = .ok (.iconst 0, 1) := by decide +kernel
theorem dL_alarmRaised_16 : decode cL_alarmRaised 16 = .ok (.ireturn, 1) := by decide +kernel
set_option maxRecDepth 20000 in
theorem ggL_alarmClosed_X4_alarmClosed : GoodIn wsL_alarmClosed wsX4_alarmClosed := goodIn_ca (goodIn_r _ [6, 7, 8, 9, 10, 11, 12, 5, 13, 14, 15, 16, 17, 18, 19, 20, 21, 22, 23, 24, 25, 26, 27, 28, 29, 30, 31, 32, 33, 34, 35, 36, 37, 38, 39, 40, 41, 42, 43, 44, 45, 46, 47, 48, 49, 50, 51] (by decide +kernel) (by decide +kernel)) (goodIn_sub (fun _ h => List.mem_cons_of_mem _ (List.mem_append_right _ h)) (by decide +kernel))
set_option maxRecDepth 20000 in
theorem gL_alarmClosed_X4_alarmClosed : GoodIn wsL_alarmClosed (wsV RL 82 RX4 yX4_alarmClosed wsX4_alarmClosed) := goodIn_app (goodIn_of _ (by decide +kernel)) ggL_alarmClosed_X4_alarmClosed
theorem dL_alarmClosed_0 : decode cL_alarmClosed 0 = .ok (.aload_n 2, 1) := by decide +kernel
theorem dL_alarmClosed_1 : decode cL_alarmClosed 1 = .ok (.iconst 0, 1) := by decide +kernel
theorem dL_alarmClosed_2 : decode cL_alarmClosed 2 = .ok (.aload_n 0, 1) := by decide +kernel
theorem dL_alarmClosed_3 : decode cL_alarmClosed 3 = .ok (.iload_n 1, 1) := by decide +kernel
theorem dL_alarmClosed_4 : decode cL_alarmClosed 4 = .ok (.invokevirtual 82, 3) := by decide +kernel
theorem dL_alarmClosed_7 : decode cL_alarmClosed 7 = .ok (.i2l, 1) := by decide +kernel
theorem dL_alarmClosed_8 : decode cL_alarmClosed 8 = .ok (.lastore, 1) := by decide +kernel
theorem dL_alarmClosed_9 : decode cL_alarmClosed 9 = .ok (.goto 6, 3) := by decide +kernel
theorem dL_alarmClosed_12 : decode cL_alarmClosed 12 = .ok (.astore_n 3, 1) := by decide +kernel
theorem dL_alarmClosed_13 : decode cL_alarmClosed 13 = .ok (.iconst 1, 1) := by decide +kernel
theorem dL_alarmClosed_14 : decode cL_alarmClosed 14 = .ok (.ireturn, 1) := by decide +kernel
theorem dL_alarmClosed_15 : decode cL_alarmClosed 15 = .ok (.iconst 0, 1) := by decide +kernel
theorem dL_alarmClosed_16 : decode cL_alarmClosed 16 = .ok (.ireturn, 1) := by decide +kernel
set_option maxRecDepth 20000 in
theorem ggL_availability_X4_availability : GoodIn wsL_availability wsX4_availability := goodIn_ca (goodIn_ca (goodIn_r _ [7, 8, 9, 10, 11, 12, 13, 14, 15, 16, 6, 17, 18, 19, 20, 21, 22, 23, 24, 25, 26, 27, 28, 29, 30, 31, 32, 33, 34, 35, 36, 37, 38, 39, 40, 41, 42, 43, 44, 45, 46, 47, 48, 49, 50, 51, 52, 53, 54, 55, 56, 57, 58, 59, 60, 61, 62, 63, 64, 65] (by decide +kernel) (by decide +kernel)) (goodIn_sub (fun _ h => List.mem_cons_of_mem _ (List.mem_append_left _ (List.mem_append_right _ h))) (by decide +kernel))) (goodIn_sub (fun _ h => List.mem_cons_of_mem _ (List.mem_append_right _ h)) (by decide +kernel))
set_option maxRecDepth 20000 in
theorem gL_availability_X4_availability : GoodIn wsL_availability (wsV RL 85 RX4 yX4_availability wsX4_availability) := goodIn_app (goodIn_of _ (by decide +kernel)) ggL_availability_X4_availability
theorem dL_availability_0 : decode cL_availability 0 = .ok (.aload_n 2, 1) := by decide +kernel
theorem dL_availability_1 : decode cL_availability 1 = .ok (.iconst 0, 1) := by decide +kernel
theorem dL_availability_2 : decode cL_availability 2 = .ok (.aload_n 0, 1) := by decide +kernel
theorem dL_availability_3 : decode cL_availability 3 = .ok (.iload_n 1, 1) := by decide +kernel
theorem dL_availability_4 : decode cL_availability 4 = .ok (.invokevirtual 85, 3) := by decide +kernel
theorem dL_availability_7 : decode cL_availability 7 = .ok (.f2d, 1) := by decide +kernel
theorem dL_availability_8 : decode cL_availability 8 = .ok (.dastore, 1) := by decide +kernel
theorem dL_availability_9 : decode cL_availability 9 = .ok (.goto 9, 3) := by decide +kernel
theorem dL_availability_12 : decode cL_availability 12 = .ok (.astore_n 3, 1) := by decide +kernel
theorem dL_availability_13 : decode cL_availability 13 = .ok (.iconst 1, 1) := by decide +kernel
theorem dL_availability_14 : decode cL_availability 14 = .ok (.ireturn, 1) := by decide +kernel
theorem dL_availability_15 : decode cL_availability 15 = .ok (.astore_n 3, 1) := by decide +kernel
theorem dL_availability_16 : decode cL_availability 16 = .ok (.iconst 2, 1) := by decide +kernel
theorem dL_availability_17 : decode cL_availability 17 = .ok (.ireturn, 1) := by decide +kernel
theorem dL_availability_18 : decode cL_availability 18 = .ok (.iconst 0, 1) := by decide +kernel
theorem dL_availability_19 : decode cL_availability 19 = .ok (.ireturn, 1) := by decide +kernel
end
section
/-! ===== the world of this claim: cells at addresses, a row for each instruction that touches one; the environment that every method stands in ===== -/
/-- the environment: the kit's class numbers, the array classes (int, boolean, Object, long, double), the first address that the law may write, the shared empty row, the message texts -/
abbrev kEnv : Type := va_G × (Nat → ClassId) × Nat × Nat × (Nat → Nat)
abbrev kTy (Y : Nat → ClassId) : List (ClassId × FieldType) := [(Y 0, .int), (Y 1, .boolean), (Y 2, .object "java/lang/Object"), (Y 3, .long), (Y 4, .double)]
abbrev kat (ε : kEnv) (a : Nat) (e : va_E) (H : Heap) : Prop := va_at ε.1 vwCl (a, e) H
abbrev kI (ε : kEnv) (n : Nat) (f : Nat → Int32) : va_E := .inl (ε.2.1 0, n, .inl f)
abbrev kZ (ε : kEnv) (n : Nat) (f : Nat → Int32) : va_E := .inl (ε.2.1 1, n, .inl f)
abbrev kO (ε : kEnv) (n : Nat) (f : Nat → Option Nat) : va_E := .inl (ε.2.1 2, n, .inr (.inr (.inr (.inr f))))
abbrev kJ (ε : kEnv) (n : Nat) (f : Nat → Int64) : va_E := .inl (ε.2.1 3, n, .inr (.inl f))
abbrev kD (ε : kEnv) (n : Nat) (f : Nat → UInt64) : va_E := .inl (ε.2.1 4, n, .inr (.inr (.inr (.inl f))))
/-- one cell was written -/
def kU (a : Nat) (H H1 : Heap) : Prop := H1.size = H.size ∧ ∀ q : Nat, q ≠ a → H1[q]? = H[q]?
/-- one cell came -/
def kN (H H1 : Heap) : Prop := H1.size = H.size + 1 ∧ ∀ q : Nat, q < H.size → H1[q]? = H[q]?
theorem kU.at {ε : kEnv} {a q : Nat} {e : va_E} {H H1 : Heap} (h : kU a H H1) (hq : kat ε q e H) (hne : q ≠ a) : kat ε q e H1 := va_at.kept hq (h.2 q hne)
theorem kN.at {ε : kEnv} {q : Nat} {e : va_E} {H H1 : Heap} (h : kN H H1) (hq : kat ε q e H) : kat ε q e H1 := va_at.kept hq (h.2 q (va_at.lt hq))
theorem kP1 {ε : kEnv} {a : Nat} {e : va_E} {H : Heap} (h : kat ε a e H) : va_P ε.1 vwCl [(a, e)] H := by
  intro k q hk
  match k, hk with
  | 0, hk => cases hk; exact h
  | k + 1, hk => simp at hk
section KROWS
variable {p : Program} {l : Launch} {e : Env} {R : Room} {s : State} {m : MethodId} {args : Array Value} {below : List Frame} {meth : Method} {c : Code} {H : Heap} {locs : List Loc} {cells slots : Nat} {Q : State → Prop}
variable {cc : ByteArray} {pc : Nat} {ls : Array Slot} {rest : List Value} {ε : kEnv} {A : Nat → Prop} {a : Nat} {H0 : Heap}
variable {own C : String} {T : u_T} {N ci index : Nat} {Ts : List Cond} {fs : List Value} {v : Value}
theorem kr_get (hx : p.tables.exec = Jvm.exec) (hb : c.code = cc) (hts : ∀ w ∈ Ts, w.before args s = true) (hown : s.vm.findClass own = some m.cls) (hK : va_K ε.1 vwCl (kTy ε.2.1) s) (ho : kat ε a (.inr (ci, fs)) H) (hc : vwCl[ci]? = some (C, T, N)) (hin : ∀ w ∈ u_ws C T N, w ∈ Ts) (k : Nat) (hk : k < N) (hlink : Cond.fieldLink own index (T k).1 (T k).2.1 (T k).2.2.1 ∈ Ts) (hv : fs[k]? = some v) (hdg : decode cc pc = .ok (.getfield index, 3))
    (kk : W p l e R s m args below meth c H locs cells slots Q (F0 m (pc + 3) ls (v :: rest))) : W p l e R s m args below meth c H locs cells slots Q (F0 m pc ls (.ref a :: rest)) :=
  va_get hx hb hts hin hown hK (kP1 ho) 0 rfl hc k hk (hts _ hlink) (fun _ h => h) hv hdg kk
theorem kr_put (hx : p.tables.exec = Jvm.exec) (hb : c.code = cc) (hts : ∀ w ∈ Ts, w.before args s = true) (hown : s.vm.findClass own = some m.cls) (hK : va_K ε.1 vwCl (kTy ε.2.1) s) (hS0 : va_S A H0 H locs) (ho : kat ε a (.inr (ci, fs)) H) (hA : A a) (hc : vwCl[ci]? = some (C, T, N)) (hin : ∀ w ∈ u_ws C T N, w ∈ Ts) (ty0 : Nat → FieldType) (hty : ∀ k, k < N → parseFieldDescriptor (T k).2.2.1 = some (ty0 k)) (hnm : ∀ a, a < N → ∀ b, b < N → a ≠ b → (T a).2.1 ≠ (T b).2.1) (k : Nat) (hk : k < N) (ref : String) (hlink : (Cond.fieldLink own index ref (T k).2.1 (T k).2.2.1).before args s = true) (hsame : ∀ x, s.fieldFound? (T k).1 (T k).2.1 (T k).2.2.1 = some x → s.fieldFound? ref (T k).2.1 (T k).2.2.1 = some x) (hfin : (T k).2.2.2 = false) {ty : FieldType} (hd : parseFieldDescriptor (T k).2.2.1 = some ty) (hn : narrow ty v = v) (hfit : fits ty v = true) (hl : k < fs.length) (hdg : decode cc pc = .ok (.putfield index, 3))
    (kk : ∀ (H1 : Heap) (locs1 : List Loc), kU a H H1 → kat ε a (.inr (ci, fs.set k v)) H1 → va_S A H0 H1 locs1 → W p l e R s m args below meth c H1 locs1 cells slots Q (F0 m (pc + 3) ls rest)) : W p l e R s m args below meth c H locs cells slots Q (F0 m pc ls (v :: .ref a :: rest)) := by
  have hap := va_apart (own := own) hts hin ty0 hty hnm hK hc
  obtain ⟨r, h1, cell, q1, q2, q3, q4⟩ := ho
  have hr : r = (C, T, N) := Option.some.inj (h1.symm.trans hc)
  subst hr
  obtain ⟨hS, hfc, kC, hkC, hkind⟩ := hK.1 ci _ hc
  obtain ⟨cf, kf, fi, f, hi, hsl⟩ := hS k hk
  have hlay := hts _ (hin _ (u_in_lay hk))
  unfold u_lay at hlay
  rw [if_neg (by rw [hfin]; decide)] at hlay
  have hst := (u_facts hfc hkC (u_lays hts hin hk) hi).1
  have h6 := u_store hfc hkC hkind hlay hi hd hn hfit
  refine W.putK hx hb (f := f) ⟨hown, hlink, ⟨_, _, _, hsame _ hi⟩, hst⟩ (by rw [q2]; exact h6) q1 q3 (by rw [hsl]; exact k2_hasslot (q4 k hk)) rfl rfl hdg fun H' e1 e2 e3 => ?_
  rw [hsl] at e1 ⊢
  exact kk H' _ ⟨e2, e3⟩ ⟨_, hc, t_OB.to (V := updV (vp_V fs) k v) ⟨_, e1, q2, q3, t_set q4 hap hk v⟩ (fun j _ => vp_updV_set hl v j)⟩ (hS0.put e2 e3 hA)
theorem kr_putF (hx : p.tables.exec = Jvm.exec) (hb : c.code = cc) (hts : ∀ w ∈ Ts, w.before args s = true) (hown : s.vm.findClass own = some m.cls) (hK : va_K ε.1 vwCl (kTy ε.2.1) s) (hS0 : va_S A H0 H locs) (ho : kat ε a (.inr (ci, fs)) H) (hA : A a) (hc : vwCl[ci]? = some (C, T, N)) (hin : ∀ w ∈ u_ws C T N, w ∈ Ts) (ty0 : Nat → FieldType) (hty : ∀ k, k < N → parseFieldDescriptor (T k).2.2.1 = some (ty0 k)) (hnm : ∀ a, a < N → ∀ b, b < N → a ≠ b → (T a).2.1 ≠ (T b).2.1) (k : Nat) (hk : k < N) (hlink : Cond.fieldLink own index (T k).1 (T k).2.1 (T k).2.2.1 ∈ Ts) (hfin : (T k).2.2.2 = true) (hin2 : meth.name = "<init>") (hdecl : (T k).1 = own) {ty : FieldType} (hd : parseFieldDescriptor (T k).2.2.1 = some ty) (hn : narrow ty v = v) (hfit : fits ty v = true) (hl : k < fs.length) (hdg : decode cc pc = .ok (.putfield index, 3))
    (kk : ∀ (H1 : Heap) (locs1 : List Loc), kU a H H1 → kat ε a (.inr (ci, fs.set k v)) H1 → va_S A H0 H1 locs1 → W p l e R s m args below meth c H1 locs1 cells slots Q (F0 m (pc + 3) ls rest)) : W p l e R s m args below meth c H locs cells slots Q (F0 m pc ls (v :: .ref a :: rest)) := by
  have hap := va_apart (own := own) hts hin ty0 hty hnm hK hc
  obtain ⟨r, h1, cell, q1, q2, q3, q4⟩ := ho
  have hr : r = (C, T, N) := Option.some.inj (h1.symm.trans hc)
  subst hr
  obtain ⟨hS, hfc, kC, hkC, hkind⟩ := hK.1 ci _ hc
  obtain ⟨cf, kf, fi, f, hi, hsl⟩ := hS k hk
  have hlay := hts _ (hin _ (u_in_lay hk))
  unfold u_lay at hlay
  rw [if_pos hfin] at hlay
  have hst := (u_facts hfc hkC (u_lays hts hin hk) hi).1
  have hcf : m.cls = cf := by
    obtain ⟨_, _, c', _, _, _, -, -, hf', -, -, -, hown2, -⟩ := Cond.laysFinal_spec hlay
    have e1 : c' = cf := by have := hi.symm.trans hf'; simp at this; exact this.1.symm
    rw [hdecl] at hown2
    rw [← e1]; exact Option.some.inj (hown.symm.trans hown2)
  have h6 := u_fits hfc hkC hkind (Or.inr hlay) hi hd hn hfit
  refine W.putFinK hx hb hown (hts _ hlink) hi hst hcf hin2 (by rw [q2]; exact h6) q1 q3 (by rw [hsl]; exact k2_hasslot (q4 k hk)) rfl rfl hdg fun H' e1 e2 e3 => ?_
  rw [hsl] at e1 ⊢
  exact kk H' _ ⟨e2, e3⟩ ⟨_, hc, t_OB.to (V := updV (vp_V fs) k v) ⟨_, e1, q2, q3, t_set q4 hap hk v⟩ (fun j _ => vp_updV_set hl v j)⟩ (hS0.put e2 e3 hA)
theorem kr_ild (hx : p.tables.exec = Jvm.exec) (hb : c.code = cc) (hK : va_K ε.1 vwCl (kTy ε.2.1) s) {n : Nat} {f : Nat → Int32} (ha : kat ε a (kI ε n f) H) {i : Int32} {j : Nat} (hj : j < n) (hi : i.toNatClampNeg = j) (h0 : ¬ i < 0) {x : Int32} (hv : f j = x) (hdg : decode cc pc = .ok (.iaload, 1))
    (kk : W p l e R s m args below meth c H locs cells slots Q (F0 m (pc + 1) ls (.int x :: rest))) : W p l e R s m args below meth c H locs cells slots Q (F0 m pc ls (.int i :: .ref a :: rest)) := by
  subst hv
  subst hi
  exact va_iald hx hb hK (kP1 ha) 0 0 rfl rfl (fun h => h.elim h0 (fun h => absurd hj (Nat.not_lt.mpr h))) hdg kk
theorem kr_zld (hx : p.tables.exec = Jvm.exec) (hb : c.code = cc) (hK : va_K ε.1 vwCl (kTy ε.2.1) s) {n : Nat} {f : Nat → Int32} (ha : kat ε a (kZ ε n f) H) {i : Int32} {j : Nat} (hj : j < n) (hi : i.toNatClampNeg = j) (h0 : ¬ i < 0) {x : Int32} (hv : f j = x) (hdg : decode cc pc = .ok (.baload, 1))
    (kk : W p l e R s m args below meth c H locs cells slots Q (F0 m (pc + 1) ls (.int x :: rest))) : W p l e R s m args below meth c H locs cells slots Q (F0 m pc ls (.int i :: .ref a :: rest)) := by
  subst hv
  subst hi
  exact va_zald hx hb hK (kP1 ha) 0 1 rfl rfl (fun h => h.elim h0 (fun h => absurd hj (Nat.not_lt.mpr h))) hdg kk
theorem kr_ist (hx : p.tables.exec = Jvm.exec) (hb : c.code = cc) (hK : va_K ε.1 vwCl (kTy ε.2.1) s) (hS : va_S A H0 H locs) {n : Nat} {f : Nat → Int32} (ha : kat ε a (kI ε n f) H) (hA : A a) {i x : Int32} {j : Nat} (hj : j < n) (hi : i.toNatClampNeg = j) (h0 : ¬ i < 0) (hdg : decode cc pc = .ok (.iastore, 1))
    (kk : ∀ (H1 : Heap) (locs1 : List Loc), kU a H H1 → kat ε a (kI ε n (upd f j x)) H1 → va_S A H0 H1 locs1 → W p l e R s m args below meth c H1 locs1 cells slots Q (F0 m (pc + 1) ls rest)) : W p l e R s m args below meth c H locs cells slots Q (F0 m pc ls (.int x :: .int i :: .ref a :: rest)) := by
  subst hi
  have hin : vp_in i n := fun h => h.elim h0 (fun h => absurd hj (Nat.not_lt.mpr h))
  refine W.iast hx hb (show H[a]? = some (vp_cell _ _) from ha) ((hK.2 0 _ rfl).1 n (fun j => .int (f j))) (fun q => by cases q) (by show ¬ (i < 0 ∨ (arrV _ _ _).slots.size ≤ _); rw [arrV_size]; exact hin) rfl rfl hdg fun H1 e z oq => ?_
  refine kk H1 _ ⟨z, oq⟩ ?_ (hS.put z oq hA)
  show H1[a]? = some (vp_cell _ _)
  rw [e]
  rw [vp_cell_i, vp_cell_i, arrV_store]
  congr 2
  funext q
  by_cases hq : q = i.toNatClampNeg
  · subst hq
    simp [updV, upd]
  · simp [updV, upd, hq]
theorem kr_zst (hx : p.tables.exec = Jvm.exec) (hb : c.code = cc) (hK : va_K ε.1 vwCl (kTy ε.2.1) s) (hS : va_S A H0 H locs) {n : Nat} {f : Nat → Int32} (ha : kat ε a (kZ ε n f) H) (hA : A a) {i x : Int32} {j : Nat} (hj : j < n) (hi : i.toNatClampNeg = j) (h0 : ¬ i < 0) (hx1 : vp_nar .boolean x = x) (hdg : decode cc pc = .ok (.bastore, 1))
    (kk : ∀ (H1 : Heap) (locs1 : List Loc), kU a H H1 → kat ε a (kZ ε n (upd f j x)) H1 → va_S A H0 H1 locs1 → W p l e R s m args below meth c H1 locs1 cells slots Q (F0 m (pc + 1) ls rest)) : W p l e R s m args below meth c H locs cells slots Q (F0 m pc ls (.int x :: .int i :: .ref a :: rest)) := by
  subst hi
  have hin : vp_in i n := fun h => h.elim h0 (fun h => absurd hj (Nat.not_lt.mpr h))
  refine W.zast hx hb (show H[a]? = some (vp_cell _ _) from ha) ((hK.2 1 _ rfl).1 n (fun j => .int (f j))) (fun q => by cases q) (by show ¬ (i < 0 ∨ (arrV _ _ _).slots.size ≤ _); rw [arrV_size]; exact hin) rfl rfl hdg fun H1 e z oq => ?_
  refine kk H1 _ ⟨z, oq⟩ ?_ (hS.put z oq hA)
  show H1[a]? = some (vp_cell _ _)
  rw [e]
  rw [vp_cell_i, vp_cell_i, arrV_store]
  congr 2
  funext q
  by_cases hq : q = i.toNatClampNeg
  · subst hq
    have h2 : narrow .boolean (.int x) = .int (vp_nar .boolean x) := rfl
    simp only [updV, upd, if_pos]
    rw [h2, hx1]
  · simp [updV, upd, hq]
theorem kr_lld (hx : p.tables.exec = Jvm.exec) (hb : c.code = cc) (hK : va_K ε.1 vwCl (kTy ε.2.1) s) {n : Nat} {f : Nat → Int64} (ha : kat ε a (kJ ε n f) H) {i : Int32} {j : Nat} (hj : j < n) (hi : i.toNatClampNeg = j) (h0 : ¬ i < 0) {x : Int64} (hv : f j = x) (hdg : decode cc pc = .ok (.laload, 1))
    (kk : W p l e R s m args below meth c H locs cells slots Q (F0 m (pc + 1) ls (.long x :: rest))) : W p l e R s m args below meth c H locs cells slots Q (F0 m pc ls (.int i :: .ref a :: rest)) := by
  subst hv
  subst hi
  exact va_lald hx hb hK (kP1 ha) 0 3 rfl rfl (fun h => h.elim h0 (fun h => absurd hj (Nat.not_lt.mpr h))) hdg kk
theorem kr_lst (hx : p.tables.exec = Jvm.exec) (hb : c.code = cc) (hK : va_K ε.1 vwCl (kTy ε.2.1) s) (hS : va_S A H0 H locs) {n : Nat} {f : Nat → Int64} (ha : kat ε a (kJ ε n f) H) (hA : A a) {i : Int32} {x : Int64} {j : Nat} (hj : j < n) (hi : i.toNatClampNeg = j) (h0 : ¬ i < 0) (hdg : decode cc pc = .ok (.lastore, 1))
    (kk : ∀ (H1 : Heap) (locs1 : List Loc), kU a H H1 → kat ε a (kJ ε n (vp_updL f j x)) H1 → va_S A H0 H1 locs1 → W p l e R s m args below meth c H1 locs1 cells slots Q (F0 m (pc + 1) ls rest)) : W p l e R s m args below meth c H locs cells slots Q (F0 m pc ls (.long x :: .int i :: .ref a :: rest)) := by
  subst hi
  have hin : vp_in i n := fun h => h.elim h0 (fun h => absurd hj (Nat.not_lt.mpr h))
  refine W.last hx hb (show H[a]? = some (vp_cell _ _) from ha) ((hK.2 3 _ rfl).1 n (fun j => .long (f j))) (fun q => by cases q) (by show ¬ (i < 0 ∨ (arrV _ _ _).slots.size ≤ _); rw [arrV_size]; exact hin) rfl rfl hdg fun H1 e z oq => ?_
  refine kk H1 _ ⟨z, oq⟩ ?_ (hS.put z oq hA)
  show H1[a]? = some (vp_cell _ _)
  rw [e]
  rw [vp_cell_l, vp_cell_l, arrV_store]
  congr 2
  funext q
  by_cases hq : q = i.toNatClampNeg
  · subst hq
    simp [updV, vp_updL]
  · simp [updV, vp_updL, hq]
theorem kr_dld (hx : p.tables.exec = Jvm.exec) (hb : c.code = cc) (hK : va_K ε.1 vwCl (kTy ε.2.1) s) {n : Nat} {f : Nat → UInt64} (ha : kat ε a (kD ε n f) H) {i : Int32} {j : Nat} (hj : j < n) (hi : i.toNatClampNeg = j) (h0 : ¬ i < 0) {x : UInt64} (hv : f j = x) (hdg : decode cc pc = .ok (.daload, 1))
    (kk : W p l e R s m args below meth c H locs cells slots Q (F0 m (pc + 1) ls (.double x :: rest))) : W p l e R s m args below meth c H locs cells slots Q (F0 m pc ls (.int i :: .ref a :: rest)) := by
  subst hv
  subst hi
  exact va_dald hx hb hK (kP1 ha) 0 4 rfl rfl (fun h => h.elim h0 (fun h => absurd hj (Nat.not_lt.mpr h))) hdg kk
theorem kr_dst (hx : p.tables.exec = Jvm.exec) (hb : c.code = cc) (hK : va_K ε.1 vwCl (kTy ε.2.1) s) (hS : va_S A H0 H locs) {n : Nat} {f : Nat → UInt64} (ha : kat ε a (kD ε n f) H) (hA : A a) {i : Int32} {x : UInt64} {j : Nat} (hj : j < n) (hi : i.toNatClampNeg = j) (h0 : ¬ i < 0) (hdg : decode cc pc = .ok (.dastore, 1))
    (kk : ∀ (H1 : Heap) (locs1 : List Loc), kU a H H1 → kat ε a (kD ε n (vf_upd f j x)) H1 → va_S A H0 H1 locs1 → W p l e R s m args below meth c H1 locs1 cells slots Q (F0 m (pc + 1) ls rest)) : W p l e R s m args below meth c H locs cells slots Q (F0 m pc ls (.double x :: .int i :: .ref a :: rest)) := by
  subst hi
  have hin : vp_in i n := fun h => h.elim h0 (fun h => absurd hj (Nat.not_lt.mpr h))
  refine W.dast hx hb (show H[a]? = some (vp_cell _ _) from ha) ((hK.2 4 _ rfl).1 n (fun j => .double (f j))) (fun q => by cases q) (by show ¬ (i < 0 ∨ (arrV _ _ _).slots.size ≤ _); rw [arrV_size]; exact hin) rfl rfl hdg fun H1 e z oq => ?_
  refine kk H1 _ ⟨z, oq⟩ ?_ (hS.put z oq hA)
  show H1[a]? = some (vp_cell _ _)
  rw [e]
  rw [vp_cell_d, vp_cell_d, arrV_store]
  congr 2
  funext q
  by_cases hq : q = i.toNatClampNeg
  · subst hq
    simp [updV, vf_upd]
  · simp [updV, vf_upd, hq]
theorem kr_qld (hx : p.tables.exec = Jvm.exec) (hb : c.code = cc) (hK : va_K ε.1 vwCl (kTy ε.2.1) s) {n : Nat} {f : Nat → Option Nat} (ha : kat ε a (kO ε n f) H) {i : Int32} {j : Nat} (hj : j < n) (hi : i.toNatClampNeg = j) (h0 : ¬ i < 0) {x : Value} (hv : va_rf (f j) = x) (hdg : decode cc pc = .ok (.aaload, 1))
    (kk : W p l e R s m args below meth c H locs cells slots Q (F0 m (pc + 1) ls (x :: rest))) : W p l e R s m args below meth c H locs cells slots Q (F0 m pc ls (.int i :: .ref a :: rest)) := by
  subst hv
  subst hi
  exact va_aldq hx hb hK (kP1 ha) 0 2 rfl rfl (fun h => h.elim h0 (fun h => absurd hj (Nat.not_lt.mpr h))) hdg kk
theorem kr_alen (hx : p.tables.exec = Jvm.exec) (hb : c.code = cc) (hK : va_K ε.1 vwCl (kTy ε.2.1) s) {n : Nat} {f : Nat → Option Nat} (ha : kat ε a (kO ε n f) H) (hdg : decode cc pc = .ok (.arraylength, 1))
    (kk : W p l e R s m args below meth c H locs cells slots Q (F0 m (pc + 1) ls (.int (nI n) :: rest))) : W p l e R s m args below meth c H locs cells slots Q (F0 m pc ls (.ref a :: rest)) :=
  va_alen hx hb hK (kP1 ha) 0 2 rfl rfl rfl hdg kk
theorem kr_new (hx : p.tables.exec = Jvm.exec) (hb : c.code = cc) (hts : ∀ w ∈ Ts, w.before args s = true) (hown : s.vm.findClass own = some m.cls) (hK : va_K ε.1 vwCl (kTy ε.2.1) s) (hS : va_S A H0 H locs) (hc : vwCl[ci]? = some (C, T, N)) (hin : ∀ w ∈ u_ws C T N, w ∈ Ts) (ty : Nat → FieldType) (hty : ∀ k, k < N → parseFieldDescriptor (T k).2.2.1 = some (ty k)) (hcl : Cond.classLink own index C ∈ Ts) (hinst : Cond.instantiable C N ∈ Ts) (hini : Cond.initialized C ∈ Ts) (hfs : ∀ j, j < N → defaultValue (ty j) = vp_V fs j) (hcells : cells + 1 ≤ R.cells) (hslots : slots + N ≤ R.slots) (hdg : decode cc pc = .ok (.new index, 3))
    (kk : ∀ H1 : Heap, kN H H1 → kat ε H.size (.inr (ci, fs)) H1 → va_S A H0 H1 locs → W p l e R s m args below meth c H1 locs (cells + 1) (slots + N) Q (F0 m (pc + 3) ls (.ref H.size :: rest))) : W p l e R s m args below meth c H locs cells slots Q (F0 m pc ls rest) := by
  have hKn := hK.1 ci _ hc
  refine W.newcK hx hb hown (hts _ hcl) (hts _ hinst) (hts _ hini) rfl hdg hcells hslots hKn.2.1 rfl fun H1 kC hkC e1 z1 o1 => ?_
  exact kk H1 ⟨z1, o1⟩ ⟨_, hc, (u_born ty hts hin hKn hkC e1 hty).to hfs⟩ ⟨Nat.le_trans hS.1 (by omega), fun x h1 h2 => (o1 x (Nat.lt_of_lt_of_le h1 hS.1)).trans (hS.2.1 x h1 h2), hS.2.2⟩
theorem kr_newI (hx : p.tables.exec = Jvm.exec) (hb : c.code = cc) (hK : va_K ε.1 vwCl (kTy ε.2.1) s) (hS : va_S A H0 H locs) (harr : (Cond.arrayClass .int).before args s = true) {n : Int32} {N' : Nat} (hn : ¬ n < 0) (hN : n.toNatClampNeg = N') (hbytes : N' * 4 ≤ 536870912) (hcells : cells + 1 ≤ R.cells) (hslots : slots + N' ≤ R.slots) (hdg : decode cc pc = .ok (.newarray .int, 2))
    (kk : ∀ H1 : Heap, kN H H1 → kat ε H.size (kI ε N' (fun _ => 0)) H1 → va_S A H0 H1 locs → W p l e R s m args below meth c H1 locs (cells + 1) (slots + N') Q (F0 m (pc + 2) ls (.ref H.size :: rest))) : W p l e R s m args below meth c H locs cells slots Q (F0 m pc ls (.int n :: rest)) := by
  refine va_newaK (atype := .int) hx hb harr rfl hdg rfl hn hN hbytes hcells hslots rfl fun H1 cA e1 z1 o1 hAr hNm => ?_
  have hcA : cA = ε.2.1 0 := Option.some.inj (hNm.symm.trans (hK.2 0 _ rfl).2)
  subst hcA
  exact kk H1 ⟨z1, o1⟩ e1 ⟨Nat.le_trans hS.1 (by omega), fun x h1 h2 => (o1 x (Nat.lt_of_lt_of_le h1 hS.1)).trans (hS.2.1 x h1 h2), hS.2.2⟩
theorem kr_newZ (hx : p.tables.exec = Jvm.exec) (hb : c.code = cc) (hK : va_K ε.1 vwCl (kTy ε.2.1) s) (hS : va_S A H0 H locs) (harr : (Cond.arrayClass .boolean).before args s = true) {n : Int32} {N' : Nat} (hn : ¬ n < 0) (hN : n.toNatClampNeg = N') (hbytes : N' * 1 ≤ 536870912) (hcells : cells + 1 ≤ R.cells) (hslots : slots + N' ≤ R.slots) (hdg : decode cc pc = .ok (.newarray .boolean, 2))
    (kk : ∀ H1 : Heap, kN H H1 → kat ε H.size (kZ ε N' (fun _ => 0)) H1 → va_S A H0 H1 locs → W p l e R s m args below meth c H1 locs (cells + 1) (slots + N') Q (F0 m (pc + 2) ls (.ref H.size :: rest))) : W p l e R s m args below meth c H locs cells slots Q (F0 m pc ls (.int n :: rest)) := by
  refine va_newaK (atype := .boolean) hx hb harr rfl hdg rfl hn hN hbytes hcells hslots rfl fun H1 cA e1 z1 o1 hAr hNm => ?_
  have hcA : cA = ε.2.1 1 := Option.some.inj (hNm.symm.trans (hK.2 1 _ rfl).2)
  subst hcA
  exact kk H1 ⟨z1, o1⟩ e1 ⟨Nat.le_trans hS.1 (by omega), fun x h1 h2 => (o1 x (Nat.lt_of_lt_of_le h1 hS.1)).trans (hS.2.1 x h1 h2), hS.2.2⟩
theorem kr_newJ (hx : p.tables.exec = Jvm.exec) (hb : c.code = cc) (hK : va_K ε.1 vwCl (kTy ε.2.1) s) (hS : va_S A H0 H locs) (harr : (Cond.arrayClass .long).before args s = true) {n : Int32} {N' : Nat} (hn : ¬ n < 0) (hN : n.toNatClampNeg = N') (hbytes : N' * 8 ≤ 536870912) (hcells : cells + 1 ≤ R.cells) (hslots : slots + N' ≤ R.slots) (hdg : decode cc pc = .ok (.newarray .long, 2))
    (kk : ∀ H1 : Heap, kN H H1 → kat ε H.size (kJ ε N' (fun _ => 0)) H1 → va_S A H0 H1 locs → W p l e R s m args below meth c H1 locs (cells + 1) (slots + N') Q (F0 m (pc + 2) ls (.ref H.size :: rest))) : W p l e R s m args below meth c H locs cells slots Q (F0 m pc ls (.int n :: rest)) := by
  refine va_newaK (atype := .long) hx hb harr rfl hdg rfl hn hN hbytes hcells hslots rfl fun H1 cA e1 z1 o1 hAr hNm => ?_
  have hcA : cA = ε.2.1 3 := Option.some.inj (hNm.symm.trans (hK.2 3 _ rfl).2)
  subst hcA
  exact kk H1 ⟨z1, o1⟩ e1 ⟨Nat.le_trans hS.1 (by omega), fun x h1 h2 => (o1 x (Nat.lt_of_lt_of_le h1 hS.1)).trans (hS.2.1 x h1 h2), hS.2.2⟩
theorem kr_newD (hx : p.tables.exec = Jvm.exec) (hb : c.code = cc) (hK : va_K ε.1 vwCl (kTy ε.2.1) s) (hS : va_S A H0 H locs) (harr : (Cond.arrayClass .double).before args s = true) {n : Int32} {N' : Nat} (hn : ¬ n < 0) (hN : n.toNatClampNeg = N') (hbytes : N' * 8 ≤ 536870912) (hcells : cells + 1 ≤ R.cells) (hslots : slots + N' ≤ R.slots) (hdg : decode cc pc = .ok (.newarray .double, 2))
    (kk : ∀ H1 : Heap, kN H H1 → kat ε H.size (kD ε N' (fun _ => 0)) H1 → va_S A H0 H1 locs → W p l e R s m args below meth c H1 locs (cells + 1) (slots + N') Q (F0 m (pc + 2) ls (.ref H.size :: rest))) : W p l e R s m args below meth c H locs cells slots Q (F0 m pc ls (.int n :: rest)) := by
  refine va_newaK (atype := .double) hx hb harr rfl hdg rfl hn hN hbytes hcells hslots rfl fun H1 cA e1 z1 o1 hAr hNm => ?_
  have hcA : cA = ε.2.1 4 := Option.some.inj (hNm.symm.trans (hK.2 4 _ rfl).2)
  subst hcA
  exact kk H1 ⟨z1, o1⟩ e1 ⟨Nat.le_trans hS.1 (by omega), fun x h1 h2 => (o1 x (Nat.lt_of_lt_of_le h1 hS.1)).trans (hS.2.1 x h1 h2), hS.2.2⟩
/-- checkcast of an object of just that class -/
theorem kr_cast (hx : p.tables.exec = Jvm.exec) (hb : c.code = cc) (hts : ∀ w ∈ Ts, w.before args s = true) (hown : s.vm.findClass own = some m.cls) (hK : va_K ε.1 vwCl (kTy ε.2.1) s) (ho : kat ε a (.inr (ci, fs)) H) (hc : vwCl[ci]? = some (C, T, N)) (hlink : Cond.classLink own index C ∈ Ts) (hdg : decode cc pc = .ok (.checkcast index, 3))
    (kk : W p l e R s m args below meth c H locs cells slots Q (F0 m (pc + 3) ls (.ref a :: rest))) : W p l e R s m args below meth c H locs cells slots Q (F0 m pc ls (.ref a :: rest)) :=
  va_castS hx hb hown (hts _ hlink) (hK.1 ci _ hc).2 (va_recv hK (kP1 ho) hc (q0 := 0) rfl) hdg kk
end KROWS
end
section
/-! ===== what every method of this claim stands in, contracts over a heap that has a name, calls, throws ===== -/
def kNC : List (String × String) := [("java/lang/IllegalArgumentException", "java/lang/IllegalArgumentException"), ("java/lang/IllegalStateException", "java/lang/IllegalStateException"), ("java/lang/IndexOutOfBoundsException", "java/lang/IndexOutOfBoundsException"), (RX0, "java/lang/Object"), (RX1, "java/lang/Object"), (RX2, "java/lang/Object"), (RX3, "java/lang/Object")]
def kNN : List (String × String) := [("java/lang/IllegalArgumentException", "java/lang/IllegalStateException"), ("java/lang/IllegalArgumentException", "java/lang/IndexOutOfBoundsException"), ("java/lang/IllegalStateException", "java/lang/IllegalArgumentException"), ("java/lang/IllegalStateException", "java/lang/IndexOutOfBoundsException"), ("java/lang/IndexOutOfBoundsException", "java/lang/IllegalArgumentException"), ("java/lang/IndexOutOfBoundsException", "java/lang/IllegalStateException")]
def kND : List MethodName := [Bundle.initS "java/lang/Exception", Bundle.initS "java/lang/RuntimeException", Bundle.initS "java/lang/Throwable", ⟨"java/lang/Object", "getClass", "()Ljava/lang/Class;"⟩]
def kNM : List (String × Nat × MethodName × String) := [(RX1, 41, yX4_holds, RX4), (RX2, 13, yX4_withRegion, RX4)]
def kSt : List (Nat × String) := [(45, "there are 6 regions"), (70, "there are 8 checks"), (95, "there have been 12 windows"), (103, "no such window"), (164, "the check has not been counted yet"), (169, "no such region"), (171, "no such check"), (173, "no such alarm"), (177, "an argument is out of range")]
abbrev kHi (ε : kEnv) : Nat → Prop := fun q => ε.2.2.1 ≤ q
abbrev kz (ε : kEnv) : Nat := ε.2.2.2.1
abbrev ks (ε : kEnv) : Nat → Nat := ε.2.2.2.2
def kE (ε : kEnv) (U : State) : Prop :=
  va_K ε.1 vwCl (kTy ε.2.1) U ∧ (∀ q ∈ kNC, va_Nw (.castable q.1 q.2) U) ∧ (∀ q ∈ kNN, va_Nc q.1 q.2 U) ∧ (∀ q ∈ kND, va_Nw (.declares q) U) ∧ (∀ q ∈ kNM, va_Nw (.methodLinkNest q.1 q.2.1 q.2.2.1 q.2.2.2) U) ∧
  vx_Zq Bundle.tN "UNASSIGNED_STACK" Bundle.steD (kHi ε) U U.heap ∧ vx_Zq Bundle.tN "SUPPRESSED_SENTINEL" Bundle.listD (kHi ε) U U.heap ∧
  va_Z "java/util/ArrayList" "DEFAULTCAPACITY_EMPTY_ELEMENTDATA" "[Ljava/lang/Object;" (.ref (kz ε)) (kHi ε) U U.heap ∧ va_T (.object "java/lang/Object") (kz ε) 0 (fun _ => .null) (kHi ε) U U.heap ∧
  (∀ (k : Nat) (q : Nat × String), kSt[k]? = some q → vk_R RX4 q.1 q.2 (ks ε k) U) ∧ va_Mi "[Ljava/lang/Object;" (ks ε 9) U ∧ va_AO "java/lang/Object" U
theorem kE.go {ε : kEnv} {s U : State} (hW : s.WarmedH U.vm) (hq : ∀ a : Nat, a < s.heap.size → ¬ kHi ε a → U.heap[a]? = s.heap[a]?) (h : kE ε s) : kE ε U := by
  obtain ⟨h1, h2, h3, h4, h5, h6, h7, h8, h9, h10, h11, h12⟩ := h
  exact ⟨va_K.moved hW.alike h1, fun q hq => va_Nw.warmC hW (h2 q hq), fun q hq => va_Nc.moved hW.alike (h3 q hq), fun q hq => va_Nw.warmD hW (h4 q hq), fun q hq => va_Nw.warmM hW (h5 q hq),
    vx_Zq.moved hW.alike (h6.kept hq), vx_Zq.moved hW.alike (h7.kept hq), va_Z.moved hW.alike (h8.kept hq), va_T.moved hW.alike (h9.kept hq), fun k q hk => vk_R.warm hW (h10 k q hk), va_Mi.moved hW.alike h11, va_AO.moved hW.alike h12⟩
/-- a method's start: the heap has a name, the environment stands -/
abbrev kPre (ε : kEnv) (H : Heap) : State → Prop := fun U => U.heap = H ∧ kE ε U
theorem kBl {ε : kEnv} {H : Heap} {av : List Value} : FrameBlind (va_Pc av (kPre ε H)) := fun _ U _ _ q => ⟨q.1, q.2.1, kE.go (s := U) (State.WarmedH.refl U) (fun _ _ _ => rfl) q.2.2⟩
abbrev kQi (post : Int32 → Heap → Prop) (A : Nat → Prop) := va_Qi post (fun (H' : Heap) (t : State) => t.heap = H') A
abbrev kQv (post : Heap → Prop) (A : Nat → Prop) := va_Qv post (fun (H' : Heap) (t : State) => t.heap = H') A
abbrev kQr (post : Nat → Heap → Prop) (A : Nat → Prop) := va_Qr (fun u : Nat × Heap => post u.1 u.2) (fun (u : Nat × Heap) (a : Nat) (t : State) => a = u.1 ∧ t.heap = u.2) A
abbrev kNo : Nat → Prop := fun _ => False
/-- what only reads: an int, nothing, a reference -/
abbrev kPi (ε : kEnv) (l : Launch) (y : MethodName) (ws : List Cond) (rm : Room) (av : List Value) (H : Heap) (v : Int32) : Prop := Met l y ws rm (va_Pc av (kPre ε H)) (kQi (fun r H' => r = v ∧ H' = H) kNo) 0 0 kNo
abbrev kPv (ε : kEnv) (l : Launch) (y : MethodName) (ws : List Cond) (rm : Room) (av : List Value) (H : Heap) : Prop := Met l y ws rm (va_Pc av (kPre ε H)) (kQv (fun H' => H' = H) kNo) 0 0 kNo
abbrev kPr (ε : kEnv) (l : Launch) (y : MethodName) (ws : List Cond) (rm : Room) (av : List Value) (H : Heap) (v : Nat) : Prop := Met l y ws rm (va_Pc av (kPre ε H)) (kQr (fun r H' => r = v ∧ H' = H) kNo) 0 0 kNo
/-- what writes, and may make mc cells of ms slots -/
abbrev kMi (ε : kEnv) (l : Launch) (y : MethodName) (ws : List Cond) (rm : Room) (av : List Value) (H : Heap) (A : Nat → Prop) (mc ms : Nat) (post : Int32 → Heap → Prop) : Prop := Met l y ws rm (va_Pc av (kPre ε H)) (kQi post A) mc ms A
abbrev kMv (ε : kEnv) (l : Launch) (y : MethodName) (ws : List Cond) (rm : Room) (av : List Value) (H : Heap) (A : Nat → Prop) (mc ms : Nat) (post : Heap → Prop) : Prop := Met l y ws rm (va_Pc av (kPre ε H)) (kQv post A) mc ms A
abbrev kMr (ε : kEnv) (l : Launch) (y : MethodName) (ws : List Cond) (rm : Room) (av : List Value) (H : Heap) (A : Nat → Prop) (mc ms : Nat) (post : Nat → Heap → Prop) : Prop := Met l y ws rm (va_Pc av (kPre ε H)) (kQr post A) mc ms A
/-- what throws, whatever else: the old cells stay -/
def kXC (E : String) (H : Heap) : String → State → State → Prop := fun E' _ t => E' = E ∧ H.size ≤ t.heap.size ∧ ∀ q : Nat, q < H.size → t.heap[q]? = H[q]?
abbrev kQno : Array Value → State → Outcome → State → Prop := fun _ _ _ _ => False
abbrev kX (ε : kEnv) (l : Launch) (y : MethodName) (ws : List Cond) (rm : Room) (av : List Value) (H : Heap) (E : String) : Prop := vx_Met l y ws rm (va_Pc av (kPre ε H)) kQno (kXC E H) 1 6 kNo
section KOF
variable {l : Launch} {ε : kEnv}
theorem kof {y : MethodName} {ws ws' : List Cond} {rm : Room} {av : List Value} {H : Heap} {Qc : Array Value → State → Outcome → State → Prop} {mc ms : Nat} {free : Addr → Prop} {cc : ByteArray} {maxL : Nat} {ret : Option FieldType}
    (hy : plainName y.cls = true) (hw : ws = Cond.code y cc maxL ret :: ws') (hlen : (lg_sl av).length ≤ maxL)
    (body : ∀ p e s m below meth c ls, CallFix p m c cc maxL s av.toArray ws y.cls → meth.sig.returnType = ret → meth.locks = false → meth.name = y.name → s.heap = H → kE ε s → lv_has ls maxL (lv_args 0 av) →
      W p l e rm s m av.toArray below meth c H [] 0 0 (MQ below Qc av.toArray s mc ms free) (F0 m 0 ls [])) : Met l y ws rm (va_Pc av (kPre ε H)) Qc mc ms free := by
  refine Met.ofW hy hw ?_
  intro p e s m args below meth c s₁ B hml hv
  obtain ⟨rfl, hH, hE⟩ := hv
  have hl := lv_entry av (n := maxL) hlen
  rw [lg_entry_eq]
  rw [hH]
  exact body p e s m below meth c _ ⟨B.exec, B.bytes, hml, findClass_of_methodNamed B.named, atoms_spec (ws := ws) B.pre⟩ B.returns B.notSynchronized (name_of_methodNamed B.named B.method).1 hH hE hl
theorem kofX {y : MethodName} {ws ws' : List Cond} {rm : Room} {av : List Value} {H : Heap} {Qc : Array Value → State → Outcome → State → Prop} {XC : String → State → State → Prop} {mc ms : Nat} {free : Addr → Prop} {cc : ByteArray} {maxL : Nat} {ret : Option FieldType}
    (hy : plainName y.cls = true) (hw : ws = Cond.code y cc maxL ret :: ws') (hlen : (lg_sl av).length ≤ maxL)
    (body : ∀ p e s m below meth c ls, CallFix p m c cc maxL s av.toArray ws y.cls → meth.sig.returnType = ret → meth.locks = false → (∀ x ∈ c.exceptionTable.toList, False) → s.heap = H → kE ε s → lv_has ls maxL (lv_args 0 av) →
      W p l e rm s m av.toArray below meth c H [] 0 0 (vx_MQ below Qc XC av.toArray s mc ms free) (F0 m 0 ls [])) : vx_Met l y ws rm (va_Pc av (kPre ε H)) Qc XC mc ms free := by
  refine vx_ofW hy hw ?_
  intro p e s m args below meth c s₁ B hml hT hv
  obtain ⟨rfl, hH, hE⟩ := hv
  have hl := lv_entry av (n := maxL) hlen
  rw [lg_entry_eq]
  rw [hH]
  exact body p e s m below meth c _ ⟨B.exec, B.bytes, hml, findClass_of_methodNamed B.named, atoms_spec (ws := ws) B.pre⟩ B.returns B.notSynchronized hT hH hE hl
end KOF
section KCALL
variable {p : Program} {l : Launch} {e : Env} {R : Room} {s : State} {m : MethodId} {args : Array Value} {below : List Frame} {meth : Method} {c : Code} {H : Heap} {locs : List Loc} {cells slots : Nat} {Q : State → Prop}
variable {cc : ByteArray} {pc : Nat} {ls : Array Slot} {rest st0 : List Value} {ε : kEnv} {A A1 : Nat → Prop} {b : Nat} {H0 : Heap}
variable {own C C2 : String} {T : u_T} {N ci index : Nat} {Ts : List Cond} {fs : List Value}
variable {y : MethodName} {bytes : ByteArray} {maxL nL mc ms n : Nat} {ret : Option FieldType} {ws : List Cond} {rm : Room} {Qc : Array Value → State → Outcome → State → Prop} {XC : String → State → State → Prop} {free : Addr → Prop} {As : List Value} {a : Array Value}
theorem kpre_at {av : List Value} (hE : kE ε s) (hS : va_S A s.heap H locs) (hAb : ∀ q, A q → kHi ε q) : ∀ U : State, U.heap = H → s.WarmedH U.vm → va_Pc av (kPre ε H) av.toArray U :=
  fun U hU hW => ⟨rfl, hU, hE.go hW (fun a h1 h2 => by rw [hU]; exact hS.2.1 a h1 (fun h => h2 (hAb a h)))⟩
theorem kc_V (S : CallFix p m c cc nL s args Ts own) (hE : kE ε s) (hS : va_S A s.heap H locs) (hAb : ∀ q, A q → kHi ε q) (hM : Met l y ws rm (va_Pc (.ref b :: As) (kPre ε H)) Qc mc ms free) (cw : CallW R s args own C index y bytes maxL ret ws rm mc ms n) (ho : kat ε b (.inr (ci, fs)) H) (hc : vwCl[ci]? = some (C, T, N)) (hn : As.length = n) (hsz : ls.size = nL) (hst : st0 = As.reverse ++ .ref b :: rest) (hcat : (rest.map fun v => v.category).sum ≤ 8) (hdg : decode cc pc = .ok (.invokevirtual index, 3)) (hf : cells + mc ≤ R.cells ∧ slots + ms ≤ R.slots) :
    va_Run p l e R s m args below meth c H locs cells slots mc ms (F0 m pc ls st0) rest (Qc (Value.ref b :: As).toArray) free :=
  va_runV S hM cw ⟨kBl, va_recv hE.1 (kP1 ho) hc (q0 := 0) rfl, kpre_at (av := .ref b :: As) hE hS hAb⟩ rfl hn hsz hst (lv_room hcat) hdg hf
theorem kc_S (S : CallFix p m c cc nL s args Ts own) (hE : kE ε s) (hS : va_S A s.heap H locs) (hAb : ∀ q, A q → kHi ε q) (hM : Met l y ws rm (va_Pc As (kPre ε H)) Qc mc ms free) (cw : CallB R s args own index y bytes maxL ret ws rm mc ms n ∧ (Cond.static y).before args s = true) (hn : As.length = n) (hsz : ls.size = nL) (hst : st0 = As.reverse ++ rest) (hcat : (rest.map fun v => v.category).sum ≤ 8) (hdg : decode cc pc = .ok (.invokestatic index, 3)) (hf : cells + mc ≤ R.cells ∧ slots + ms ≤ R.slots) :
    va_Run p l e R s m args below meth c H locs cells slots mc ms (F0 m pc ls st0) rest (Qc As.toArray) free :=
  va_runS S hM cw ⟨kBl, kpre_at hE hS hAb⟩ rfl hn hsz hst (lv_room hcat) hdg hf
theorem kc_SN {host : String} (S : CallFix p m c cc nL s args Ts own) (hE : kE ε s) (hS : va_S A s.heap H locs) (hAb : ∀ q, A q → kHi ε q) (hM : Met l y ws rm (va_Pc As (kPre ε H)) Qc mc ms free) (cw : va_CN R s args own index y host bytes maxL ret ws rm mc ms n ∧ (Cond.static y).before args s = true ∧ True) (hn : As.length = n) (hsz : ls.size = nL) (hst : st0 = As.reverse ++ rest) (hcat : (rest.map fun v => v.category).sum ≤ 8) (hdg : decode cc pc = .ok (.invokestatic index, 3)) (hf : cells + mc ≤ R.cells ∧ slots + ms ≤ R.slots) :
    va_Run p l e R s m args below meth c H locs cells slots mc ms (F0 m pc ls st0) rest (Qc As.toArray) free :=
  va_runSN S hM cw ⟨kBl, kpre_at hE hS hAb⟩ rfl hn hsz hst (lv_room hcat) hdg hf
theorem kc_I (S : CallFix p m c cc nL s args Ts own) (hE : kE ε s) (hS : va_S A s.heap H locs) (hAb : ∀ q, A q → kHi ε q) (hM : Met l y ws rm (va_Pc (.ref b :: As) (kPre ε H)) Qc mc ms free) (cw : CallB R s args own index y bytes maxL none ws rm mc ms n ∧ y.name = "<init>" ∧ (Cond.instanceMethod y).before args s = true) (hn : As.length = n) (hsz : ls.size = nL) (hst : st0 = As.reverse ++ .ref b :: rest) (hcat : (rest.map fun v => v.category).sum ≤ 8) (hdg : decode cc pc = .ok (.invokespecial index, 3)) (hf : cells + mc ≤ R.cells ∧ slots + ms ≤ R.slots) :
    va_Run p l e R s m args below meth c H locs cells slots mc ms (F0 m pc ls st0) rest (Qc (Value.ref b :: As).toArray) free :=
  va_runI S hM cw ⟨kBl, kpre_at (av := .ref b :: As) hE hS hAb⟩ rfl hn hsz hst (lv_room hcat) hdg hf
theorem kx_V (S : CallFix p m c cc nL s args Ts own) (hE : kE ε s) (hS : va_S A s.heap H locs) (hAb : ∀ q, A q → kHi ε q) (hM : vx_Met l y ws rm (va_Pc (.ref b :: As) (kPre ε H)) Qc XC mc ms free) (cw : CallW R s args own C index y bytes maxL ret ws rm mc ms n) (ho : kat ε b (.inr (ci, fs)) H) (hc : vwCl[ci]? = some (C, T, N)) (hn : As.length = n) (hsz : ls.size = nL) (hst : st0 = As.reverse ++ .ref b :: rest) (hcat : (rest.map fun v => v.category).sum ≤ 8) (hdg : decode cc pc = .ok (.invokevirtual index, 3)) (hf : cells + mc ≤ R.cells ∧ slots + ms ≤ R.slots) :
    vx_Run p l e R s m args below meth c H locs cells slots mc ms (F0 m pc ls st0) rest (Qc (Value.ref b :: As).toArray) XC free :=
  vx_runV S hM cw ⟨kBl, va_recv hE.1 (kP1 ho) hc (q0 := 0) rfl, kpre_at (av := .ref b :: As) hE hS hAb⟩ rfl hn hsz hst (lv_room hcat) hdg hf
theorem kx_S (S : CallFix p m c cc nL s args Ts own) (hE : kE ε s) (hS : va_S A s.heap H locs) (hAb : ∀ q, A q → kHi ε q) (hM : vx_Met l y ws rm (va_Pc As (kPre ε H)) Qc XC mc ms free) (cw : CallB R s args own index y bytes maxL ret ws rm mc ms n ∧ (Cond.static y).before args s = true) (hn : As.length = n) (hsz : ls.size = nL) (hst : st0 = As.reverse ++ rest) (hcat : (rest.map fun v => v.category).sum ≤ 8) (hdg : decode cc pc = .ok (.invokestatic index, 3)) (hf : cells + mc ≤ R.cells ∧ slots + ms ≤ R.slots) :
    vx_Run p l e R s m args below meth c H locs cells slots mc ms (F0 m pc ls st0) rest (Qc As.toArray) XC free :=
  vx_runS S hM cw ⟨kBl, kpre_at hE hS hAb⟩ rfl hn hsz hst (lv_room hcat) hdg hf
/-- behind a call -/
theorem kgo_i {post : Int32 → Heap → Prop} (hr : va_Run p l e R s m args below meth c H locs cells slots mc ms (F0 m pc ls st0) rest (kQi post A1 a) A1) (hS : va_S A H0 H locs) (hA : ∀ q, A1 q → A q)
    (kk : ∀ (r : Int32) (H1 : Heap) (locs1 : List Loc), post r H1 → H.size ≤ H1.size → (∀ q : Nat, q < H.size → ¬ A1 q → H1[q]? = H[q]?) → va_S A H0 H1 locs1 → W p l e R s m args below meth c H1 locs1 (cells + mc) (slots + ms) Q (F0 m (pc + 3) ls (.int r :: rest))) : W p l e R s m args below meth c H locs cells slots Q (F0 m pc ls st0) :=
  va_calli hr hS (fun q _ h => hA q h) hA (fun r u t H1 locs1 ht _ hp hB h1 h2 h3 => by
    have hu : u = H1 := hB.symm.trans ht
    subst hu
    exact kk r u locs1 hp h1 h2 h3)
theorem kgo_v {post : Heap → Prop} (hr : va_Run p l e R s m args below meth c H locs cells slots mc ms (F0 m pc ls st0) rest (kQv post A1 a) A1) (hS : va_S A H0 H locs) (hA : ∀ q, A1 q → A q)
    (kk : ∀ (H1 : Heap) (locs1 : List Loc), post H1 → H.size ≤ H1.size → (∀ q : Nat, q < H.size → ¬ A1 q → H1[q]? = H[q]?) → va_S A H0 H1 locs1 → W p l e R s m args below meth c H1 locs1 (cells + mc) (slots + ms) Q (F0 m (pc + 3) ls rest)) : W p l e R s m args below meth c H locs cells slots Q (F0 m pc ls st0) :=
  va_callv hr hS (fun q _ h => hA q h) hA (fun u t H1 locs1 ht _ hp hB h1 h2 h3 => by
    have hu : u = H1 := hB.symm.trans ht
    subst hu
    exact kk u locs1 hp h1 h2 h3)
theorem kgo_r {post : Nat → Heap → Prop} (hr : va_Run p l e R s m args below meth c H locs cells slots mc ms (F0 m pc ls st0) rest (kQr post A1 a) A1) (hS : va_S A H0 H locs) (hA : ∀ q, A1 q → A q)
    (kk : ∀ (r : Nat) (H1 : Heap) (locs1 : List Loc), post r H1 → H.size ≤ H1.size → (∀ q : Nat, q < H.size → ¬ A1 q → H1[q]? = H[q]?) → va_S A H0 H1 locs1 → W p l e R s m args below meth c H1 locs1 (cells + mc) (slots + ms) Q (F0 m (pc + 3) ls (.ref r :: rest))) : W p l e R s m args below meth c H locs cells slots Q (F0 m pc ls st0) :=
  va_callr hr hS (fun q _ h => hA q h) hA (fun u ra t H1 locs1 ht _ hp hB h1 h2 h3 => by
    obtain ⟨hB1, hB2⟩ := hB
    have hu : u.2 = H1 := hB2.symm.trans ht
    subst hu
    subst hB1
    exact kk u.1 u.2 locs1 hp h1 h2 h3)
/-- .. that only read -/
theorem kgo_pi {v : Int32} (hr : va_Run p l e R s m args below meth c H locs cells slots 0 0 (F0 m pc ls st0) rest (kQi (fun r H' => r = v ∧ H' = H) kNo a) kNo) (hS : va_S A H0 H locs)
    (kk : ∀ locs1 : List Loc, va_S A H0 H locs1 → W p l e R s m args below meth c H locs1 cells slots Q (F0 m (pc + 3) ls (.int v :: rest))) : W p l e R s m args below meth c H locs cells slots Q (F0 m pc ls st0) :=
  kgo_i hr hS (fun _ h => h.elim) (fun r H1 locs1 hp _ _ h3 => by
    obtain ⟨hp1, hp2⟩ := hp
    subst hp1
    subst hp2
    exact kk locs1 h3)
theorem kgo_pv (hr : va_Run p l e R s m args below meth c H locs cells slots 0 0 (F0 m pc ls st0) rest (kQv (fun H' => H' = H) kNo a) kNo) (hS : va_S A H0 H locs)
    (kk : ∀ locs1 : List Loc, va_S A H0 H locs1 → W p l e R s m args below meth c H locs1 cells slots Q (F0 m (pc + 3) ls rest)) : W p l e R s m args below meth c H locs cells slots Q (F0 m pc ls st0) :=
  kgo_v hr hS (fun _ h => h.elim) (fun H1 locs1 hp _ _ h3 => by
    have hp2 : H1 = H := hp
    subst hp2
    exact kk locs1 h3)
theorem kgo_pr {v : Nat} (hr : va_Run p l e R s m args below meth c H locs cells slots 0 0 (F0 m pc ls st0) rest (kQr (fun r H' => r = v ∧ H' = H) kNo a) kNo) (hS : va_S A H0 H locs)
    (kk : ∀ locs1 : List Loc, va_S A H0 H locs1 → W p l e R s m args below meth c H locs1 cells slots Q (F0 m (pc + 3) ls (.ref v :: rest))) : W p l e R s m args below meth c H locs cells slots Q (F0 m pc ls st0) :=
  kgo_r hr hS (fun _ h => h.elim) (fun r H1 locs1 hp _ _ h3 => by
    obtain ⟨hp1, hp2⟩ := hp
    subst hp1
    subst hp2
    exact kk locs1 h3)
/-- .. that throws -/
theorem kgo_x {E : String} (hr : vx_Run p l e R s m args below meth c H locs cells slots 1 6 (F0 m pc ls st0) rest (fun _ _ _ => False) (kXC E H) kNo) (hS : va_S A H0 H locs)
    (kx : ∀ (ce : Cell) (q9 : Addr) (H1 : Heap) (locs1 : List Loc), H.size ≤ H1.size → (∀ q : Nat, q < H.size → H1[q]? = H[q]?) → va_S A H0 H1 locs1 → H1[q9]? = some ce → ce.vm = .none → s.vm.findClass E = some ce.cls → vx_W p l e R s m args below meth c H1 locs1 (cells + 1) (slots + 6) Q (F0 m pc ls rest) q9) : W p l e R s m args below meth c H locs cells slots Q (F0 m pc ls st0) := by
  intro T hT X
  rcases hr T hT X with ⟨v, st₀, t, T', L, h0, X', hL, e1, e2, hq, st⟩ | ⟨q, st₀, t, T', L, E', ce, h0, X', hL, e1, e2, hx, hce, hcv, hcl, st⟩
  · exact hq.elim
  · obtain ⟨rfl, k1, k2⟩ := hx
    rw [← e1] at k1 k2 hce
    obtain ⟨t2, a1, b1⟩ := kx ce q T'.heap (locs ++ L) k1 k2 ⟨Nat.le_trans hS.1 k1, fun q h1 h2 => (k2 q (Nat.lt_of_lt_of_le h1 hS.1)).trans (hS.2.1 q h1 h2), fun q hq => by
      rcases List.mem_append.mp hq with h | h
      · exact hS.2.2 q h
      · exact (hL q h).elim⟩ hce hcv hcl T' rfl X'
    exact ⟨t2, st.trans a1, b1⟩
/-- a method that has just read goes the way of a callee that throws -/
theorem kthru {E : String} (hT : ∀ x ∈ c.exceptionTable.toList, False) (hlocks : meth.locks = false) (hH : s.heap = H) (hr : vx_Run p l e R s m args below meth c H locs 0 0 1 6 (F0 m pc ls st0) rest (fun _ _ _ => False) (kXC E H) kNo) (hS : va_S kNo s.heap H locs) :
    W p l e R s m args below meth c H locs 0 0 (vx_MQ below kQno (kXC E H) args s 1 6 kNo) (F0 m pc ls st0) :=
  kgo_x hr hS (fun ce q9 H1 locs1 h1 h2 h3 h4 h5 h6 => vx_out (fun x hx => (hT x hx).elim) hlocks h4 h5 h6 (fun t ht _ => ⟨rfl, by rw [ht]; exact h1, fun q hq => by rw [ht]; exact h2 q hq⟩) h3.2.2 (Nat.le_refl _) (Nat.le_refl _))
/-- 'throw new E("text")' at the end of a method that has just read -/
theorem kthrow {E : String} {names : List String} {ik is ic k : Nat} {text : String} (hl : l.stackTraces = false) (S : CallFix p m c cc nL s args Ts RX4) (hE : kE ε s) (hT : ∀ x ∈ c.exceptionTable.toList, False) (hlocks : meth.locks = false) (hS : va_S kNo s.heap H locs) (hsz : ls.size = nL)
    (hfit : Bundle.fit E = true ∧ ∀ n ∈ names, Bundle.fit n = true) (hk : Cond.classLink RX4 ik E ∈ Ts) (hini : Cond.initialized E ∈ Ts) (hstr : kSt[k]? = some (is, text))
    (hgw : ∀ w ∈ (vx_atS RX4 ic E names).filter goodWord, w ∈ Ts) (hbw : ∀ w ∈ (vx_atS RX4 ic E names).filter (fun w => !goodWord w), w ∈ kNC.map (fun q => Cond.castable q.1 q.2) ++ kND.map (fun q => Cond.declares q)) (hgood : (Cond.classLink RX4 ik E :: Cond.initialized E :: vx_atS RX4 ic E names).all vx_ot = true)
    (d0 : decode cc pc = .ok (.new ik, 3)) (d3 : decode cc (pc + 3) = .ok (.dup, 1)) (d4 : decode cc (pc + 4) = .ok (.ldc is, 2)) (d6 : decode cc (pc + 6) = .ok (.invokespecial ic, 3)) (d9 : decode cc (pc + 9) = .ok (.athrow, 1))
    (hR : names.length + 3 < R.frames ∧ (rest.map fun v => v.category).sum + (13 * (names.length + 1) + 43) ≤ R.locals ∧ 1 ≤ R.cells ∧ 6 ≤ R.slots) :
    W p l e R s m args below meth c H locs 0 0 (vx_MQ below kQno (kXC E H) args s 1 6 kNo) (F0 m pc ls rest) := by
  obtain ⟨hx, hb, hml, hown, hts⟩ := S
  obtain ⟨h1, h2, h3, h4, h5, h6, h7, h8, h9, h10, h11, h12⟩ := hE
  have hB : ∀ w ∈ kNC.map (fun q => Cond.castable q.1 q.2) ++ kND.map (fun q => Cond.declares q), w.before args s = true := by
    intro w hw
    rcases List.mem_append.mp hw with hw | hw
    · obtain ⟨q, hq, rfl⟩ := List.mem_map.mp hw
      exact va_Nw.use (A := args) rfl (h2 q hq)
    · obtain ⟨q, hq, rfl⟩ := List.mem_map.mp hw
      exact va_Nw.use (A := args) rfl (h4 q hq)
  exact vx_throwS hx hb hl hown hfit.1 hfit.2 (hts _ hk) (hts _ hini) (h10 k _ hstr) (vx_hat (fun w hw => hts w (hgw w hw)) hbw hB) (fun w hw => List.all_eq_true.mp hgood w hw)
    (h6.narrow (fun _ h => h.elim)) (h7.narrow (fun _ h => h.elim)) hS (hsz.trans hml.symm) d0 d3 d4 d6 d9 (fun x hx => (hT x hx).elim) hR.1 hR.2.1 (by omega) (by omega) hlocks
    (fun t _ h1 h2 => ⟨rfl, h1, h2⟩) hS.2.2 (Nat.le_refl _) (Nat.le_refl _)
/-- ends -/
theorem kend_i {post : Int32 → Heap → Prop} {v : Int32} (S : CallFix p m c cc nL s args Ts own) (hr : meth.sig.returnType = some .int) (hlocks : meth.locks = false) (hS : va_S A s.heap H locs) (hp : post v H) (hdg : decode cc pc = .ok (.ireturn, 1)) : W p l e R s m args below meth c H locs cells slots (MQ below (kQi post A) args s cells slots A) (F0 m pc ls [.int v]) :=
  W.iret S.1 S.2.1 hr (fun t ht _ => ⟨⟨v, H, rfl, hp, ht⟩, hS.F ht⟩) hS.2.2 hdg hlocks
theorem kend_z {post : Int32 → Heap → Prop} {v : Int32} (S : CallFix p m c cc nL s args Ts own) (hr : meth.sig.returnType = some .boolean) (hlocks : meth.locks = false) (hS : va_S A s.heap H locs) (hp : post v H) (hv : v = 0 ∨ v = 1) (hdg : decode cc pc = .ok (.ireturn, 1)) : W p l e R s m args below meth c H locs cells slots (MQ below (kQi post A) args s cells slots A) (F0 m pc ls [.int v]) :=
  W.zret S.1 S.2.1 hr (by rcases hv with rfl | rfl <;> rfl) (fun t ht _ => ⟨⟨v, H, rfl, hp, ht⟩, hS.F ht⟩) hS.2.2 hdg hlocks
theorem kend_v {post : Heap → Prop} (S : CallFix p m c cc nL s args Ts own) (hr : meth.sig.returnType = none) (hlocks : meth.locks = false) (hS : va_S A s.heap H locs) (hp : post H) (hdg : decode cc pc = .ok (.return_, 1)) : W p l e R s m args below meth c H locs cells slots (MQ below (kQv post A) args s cells slots A) (F0 m pc ls []) :=
  W.vret S.1 S.2.1 hr (fun t ht _ => ⟨⟨H, rfl, hp, ht⟩, hS.F ht⟩) hS.2.2 hdg hlocks
theorem kend_r {post : Nat → Heap → Prop} {v : Nat} {rt : FieldType} (S : CallFix p m c cc nL s args Ts own) (hr : meth.sig.returnType = some rt) (hrt : (∃ n, rt = .object n) ∨ ∃ t, rt = .array t) (hlocks : meth.locks = false) (hS : va_S A s.heap H locs) (hp : post v H) (hdg : decode cc pc = .ok (.areturn, 1)) : W p l e R s m args below meth c H locs cells slots (MQ below (kQr post A) args s cells slots A) (F0 m pc ls [.ref v]) :=
  W.aret (v := .ref v) S.1 S.2.1 hr hrt (Or.inr ⟨v, rfl⟩) (fun t ht _ => ⟨⟨(v, H), v, rfl, hp, rfl, ht⟩, hS.F ht⟩) hS.2.2 hdg hlocks
end KCALL
section KTOP
variable {p : Program} {l : Launch} {e : Env} {R : Room} {s : State} {m : MethodId} {args : Array Value} {below : List Frame} {meth : Method} {c : Code} {H : Heap} {locs : List Loc} {cells slots : Nat} {Q : State → Prop} {pc : Nat} {ls : Array Slot} {rest : List Value}
theorem kr_top {x y : Int32} (h : x = y) (k : W p l e R s m args below meth c H locs cells slots Q (F0 m pc ls (.int y :: rest))) : W p l e R s m args below meth c H locs cells slots Q (F0 m pc ls (.int x :: rest)) := by
  subst h
  exact k
end KTOP
end
section
/-! ===== the state as one function: field, number, value; and what a call does to it ===== -/
/- fields: 0 minute, 1 regions, 2 checks, 3 windows, 4 alarms (at 0); of a region: 10 parent + 1, 11 path, 12 probes, 13 failures; 14 cut, 15 bad (sets, at 0); of a check: 20 interval, 21 offset, 22 repetitions, 23 quorum, 24 verdict, 25 open alarm + 1, 26 minutes up, 27 minutes counted, 30 down (a set); of a pair, at 6 c + r: 31 vote, 32 planned, 33 planned for; of a window: 40 check, 41 first, 42 last; of an alarm: 50 check, 51 raised, 52 closed + 1 -/
abbrev kS : Type := Nat → Nat → Nat
def ku (σ : kS) (f i v : Nat) : kS := fun g j => if g = f ∧ j = i then v else σ g j
theorem ku_s (σ : kS) (f i v : Nat) : ku σ f i v f i = v := by simp [ku]
theorem ku_f (σ : kS) {f g : Nat} (i j v : Nat) (h : g ≠ f) : ku σ f i v g j = σ g j := by simp [ku, h]
theorem ku_i (σ : kS) (f g : Nat) {i j : Nat} (v : Nat) (h : j ≠ i) : ku σ f i v g j = σ g j := by simp [ku, h]
theorem ku_e (σ : kS) (f i v j : Nat) : ku σ f i v f j = if j = i then v else σ f j := by simp [ku]
/-- -1 for none -/
def mI : Nat → Int32
  | 0 => -1
  | n + 1 => nI n
def bI (b : Bool) : Int32 := if b then 1 else 0
theorem bI_01 (b : Bool) : bI b = 0 ∨ bI b = 1 := by cases b <;> simp [bI]
theorem bI_nar (b : Bool) : vp_nar .boolean (bI b) = bI b := by cases b <;> rfl
theorem bI_eq0 {b : Bool} : bI b = 0 ↔ b = false := by cases b <;> simp [bI]
theorem bI_ne0 {b : Bool} : ¬ bI b = 0 ↔ b = true := by cases b <;> simp [bI]
/-- sets of regions -/
def kwr (m r : Nat) (b : Bool) : Nat := if b then m ||| 2 ^ r else m &&& (63 ^^^ 2 ^ r)
theorem kwr_lt : ∀ r, r < 6 → ∀ m, m < 64 → ∀ b : Bool, kwr m r b < 64 := by decide +kernel
theorem kwr_bit : ∀ r, r < 6 → ∀ m, m < 64 → ∀ b : Bool, ∀ j, j < 6 → (kwr m r b).testBit j = if j = r then b else m.testBit j := by decide +kernel
theorem kb_or : ∀ r, r < 6 → ∀ m, m < 64 → nI m ||| ((1 : Int32) <<< (nI r &&& 31)) = nI (m ||| 2 ^ r) := by decide +kernel
theorem kb_and : ∀ r, r < 6 → ∀ m, m < 64 → nI m &&& (((1 : Int32) <<< (nI r &&& 31)) ^^^ (-1)) = nI (m &&& (63 ^^^ 2 ^ r)) := by decide +kernel
theorem kb_has : ∀ r, r < 6 → ∀ m, m < 64 → (nI m &&& ((1 : Int32) <<< (nI r &&& 31)) = 0 ↔ m.testBit r = false) := by decide +kernel
theorem kb_meet : ∀ m, m < 64 → ∀ n, n < 64 → (nI m &&& nI n = 0 ↔ (m &&& n) = 0) := by decide +kernel
def kcnt (p : Nat → Bool) : Nat → Nat
  | 0 => 0
  | n + 1 => kcnt p n + (if p n then 1 else 0)
theorem kcnt_le (p : Nat → Bool) (n : Nat) : kcnt p n ≤ n := by
  induction n with
  | zero => exact Nat.le_refl _
  | succ n ih => simp only [kcnt]; split <;> omega
theorem kcnt_congr {p q : Nat → Bool} {n : Nat} (h : ∀ i, i < n → p i = q i) : kcnt p n = kcnt q n := by
  induction n with
  | zero => rfl
  | succ n ih => simp only [kcnt, ih (fun i hi => h i (by omega)), h n (by omega)]
/-- an ArrayList's row: how long it is when n elements lie in it -/
def kcap : Nat → Nat
  | 0 => 0
  | n + 1 => if n < kcap n then kcap n else if n = 0 then 10 else n + n / 2
def kgc (n : Nat) : Nat := if n < kcap n then 0 else 1
def kgs (n : Nat) : Nat := if n < kcap n then 0 else kcap (n + 1)
theorem kcap_ge (n : Nat) : n ≤ kcap n := by
  induction n with
  | zero => exact Nat.le_refl _
  | succ n ih =>
    simp only [kcap]
    split
    · omega
    · split
      · omega
      · have h1 : kcap n = n := by omega
        have h10 : 10 ≤ n := by
          rcases Nat.lt_or_ge n 10 with h | h
          · have h2 : ∀ n, n < 10 → n ≠ 0 → kcap n = 10 := by decide +kernel
            have := h2 n h (by assumption)
            omega
          · exact h
        omega
theorem kcap_full {n : Nat} (h : ¬ n < kcap n) (h0 : n ≠ 0) : kcap n = n ∧ 10 ≤ n := by
  have h1 := kcap_ge n
  refine ⟨by omega, ?_⟩
  rcases Nat.lt_or_ge n 10 with h3 | h3
  · have h2 : ∀ n, n < 10 → n ≠ 0 → kcap n = 10 := by decide +kernel
    have := h2 n h3 h0
    omega
  · exact h3
theorem kcap_up (n : Nat) : kcap n ≤ n + n / 2 + 10 := by
  induction n with
  | zero => decide
  | succ n ih =>
    simp only [kcap]
    split
    · omega
    · split <;> omega
/-- where the elements of the four lists lie: regions, checks, windows, alarms -/
def kel (i : Nat) : Nat := match i with
  | 0 => 3
  | 1 => 4
  | 2 => 8
  | _ => 9
def kop (ad : Nat → Nat → Nat) : Nat → Option Nat
  | 0 => none
  | j + 1 => some (ad 9 j)
/-- what the cell of a kind and a number holds: 0 the mesh, 1 the lists, 2 their rows, 3 regions, 4 checks, 5 6 7 their rows, 8 windows, 9 alarms -/
def kC (ε : kEnv) (ad : Nat → Nat → Nat) (σ : kS) (k i : Nat) : va_E := match k with
  | 0 => .inr (5, [.ref (ad 1 0), .ref (ad 1 1), .ref (ad 1 2), .ref (ad 1 3), .int (nI (σ 14 0)), .int (nI (σ 15 0)), .int (nI (σ 0 0))])
  | 1 => .inr (0, [.int (nI (σ (i + 1) 0)), .ref (ad 2 i), .int (nI (σ (i + 1) 0))])
  | 2 => kO ε (kcap (σ (i + 1) 0)) (fun j => if j < σ (i + 1) 0 then some (ad (kel i) j) else none)
  | 3 => .inr (3, [.int (nI i), .int (nI (σ 11 i)), .int (nI (σ 12 i)), .int (nI (σ 13 i))])
  | 4 => .inr (2, [.int (nI i), .int (nI (σ 20 i)), .int (nI (σ 21 i)), .int (nI (σ 22 i)), .int (nI (σ 23 i)), .int (nI (σ 30 i)), .ref (ad 5 i), .ref (ad 6 i), .ref (ad 7 i), .int (nI (σ 24 i)), va_rf (kop ad (σ 25 i)), .int (nI (σ 26 i)), .int (nI (σ 27 i))])
  | 5 => kI ε 6 (fun r => nI (σ 31 (6 * i + r)))
  | 6 => kI ε 6 (fun r => nI (σ 32 (6 * i + r)))
  | 7 => kI ε 6 (fun r => nI (σ 33 (6 * i + r)))
  | 8 => .inr (4, [.int (nI (σ 40 i)), .int (nI (σ 41 i)), .int (nI (σ 42 i))])
  | _ => .inr (1, [.int (nI (σ 50 i)), .int (nI (σ 51 i)), .int (mI (σ 52 i))])
def kLv (σ : kS) (k i : Nat) : Prop := match k with
  | 0 => i = 0
  | 1 => i < 4
  | 2 => i < 4 ∧ 0 < σ (i + 1) 0
  | 3 => i < σ 1 0
  | 4 => i < σ 2 0
  | 5 => i < σ 2 0
  | 6 => i < σ 2 0
  | 7 => i < σ 2 0
  | 8 => i < σ 3 0
  | 9 => i < σ 4 0
  | _ => False
/-- the class's world in the heap -/
def kW (ε : kEnv) (A : Nat → Prop) (ad : Nat → Nat → Nat) (σ : kS) (H : Heap) : Prop :=
  (∀ k i, kLv σ k i → kat ε (ad k i) (kC ε ad σ k i) H ∧ A (ad k i)) ∧ (∀ k i k' i', kLv σ k i → kLv σ k' i' → ad k i = ad k' i' → k = k' ∧ i = i') ∧ ∀ i, i < 4 → σ (i + 1) 0 = 0 → ad 2 i = kz ε
theorem kW.lv {ε : kEnv} {A : Nat → Prop} {ad : Nat → Nat → Nat} {σ : kS} {H : Heap} (h : kW ε A ad σ H) (k i : Nat) (hi : kLv σ k i) : kat ε (ad k i) (kC ε ad σ k i) H := (h.1 k i hi).1
theorem kW.keep {ε : kEnv} {A : Nat → Prop} {ad : Nat → Nat → Nat} {σ : kS} {H H1 : Heap} (h : kW ε A ad σ H) (hq : ∀ k i, kLv σ k i → H1[ad k i]? = H[ad k i]?) : kW ε A ad σ H1 :=
  ⟨fun k i hi => ⟨va_at.kept (h.1 k i hi).1 (hq k i hi), (h.1 k i hi).2⟩, h.2.1, h.2.2⟩
theorem kW.new {ε : kEnv} {A : Nat → Prop} {ad : Nat → Nat → Nat} {σ : kS} {H H1 : Heap} (h : kW ε A ad σ H) (hN : kN H H1) : kW ε A ad σ H1 :=
  h.keep fun k i hi => hN.2 _ (va_at.lt (h.1 k i hi).1)
/-- the bounds -/
def kB (σ : kS) : Prop :=
  σ 0 0 ≤ 102400 ∧ σ 1 0 ≤ 6 ∧ σ 2 0 ≤ 8 ∧ σ 3 0 ≤ 12 ∧ σ 4 0 ≤ 51000 ∧ σ 14 0 < 64 ∧ σ 15 0 < 64 ∧
  (∀ r, r < σ 1 0 → σ 11 r < 64 ∧ σ 10 r ≤ r) ∧
  (∀ c, c < σ 2 0 → (1 ≤ σ 20 c ∧ σ 20 c ≤ 60) ∧ σ 21 c ≤ 1000 ∧ σ 22 c ≤ 3 ∧ (1 ≤ σ 23 c ∧ σ 23 c ≤ 6) ∧ σ 24 c ≤ 2 ∧ σ 30 c < 64 ∧ σ 25 c ≤ σ 4 0) ∧
  (∀ c r, c < σ 2 0 → r < 6 → σ 31 (6 * c + r) ≤ 2 ∧ σ 32 (6 * c + r) ≤ 3 ∧ σ 33 (6 * c + r) ≤ 200000) ∧
  (∀ w, w < σ 3 0 → σ 40 w < 8 ∧ σ 41 w ≤ 100000 ∧ σ 42 w ≤ 120000) ∧
  (∀ j, j < σ 4 0 → σ 50 j < 8 ∧ σ 51 j ≤ 102400 ∧ σ 52 j ≤ 102401)
/-- what a call does -/
def kfail (σ : kS) (c r : Nat) : Bool := (σ 30 c).testBit r || (σ 11 r &&& σ 14 0) != 0
def kNext (σ : kS) (c r m : Nat) : Nat :=
  if σ 32 (6 * c + r) ≠ 0 then σ 33 (6 * c + r) else
  if m ≤ σ 21 c + r then σ 21 c + r else
  if (m - (σ 21 c + r)) % σ 20 c = 0 then m else m + σ 20 c - (m - (σ 21 c + r)) % σ 20 c
def kTakeS (σ : kS) (c r : Nat) : kS := ku (ku σ 32 (6 * c + r) 0) 31 (6 * c + r) 1
def kTakeF (σ : kS) (c r m : Nat) : kS :=
  if σ 31 (6 * c + r) = 2 then ku σ 32 (6 * c + r) 0 else
  if σ 22 c < σ 32 (6 * c + r) + 1 then ku (ku σ 32 (6 * c + r) 0) 31 (6 * c + r) 2 else
  ku (ku (ku σ 32 (6 * c + r) 0) 32 (6 * c + r) (σ 32 (6 * c + r) + 1)) 33 (6 * c + r) (m + 1 + (3 * c + 5 * r + 7 * (σ 32 (6 * c + r) + 1)) % 4)
def kMake (σ : kS) (c r : Nat) : kS :=
  if kfail σ c r then kTakeF (ku (ku σ 12 r (σ 12 r + 1)) 13 r (σ 13 r + 1)) c r (σ 0 0) else kTakeS (ku σ 12 r (σ 12 r + 1)) c r
def kPrb (σ : kS) (c r : Nat) : kS := if kNext σ c r (σ 0 0) = σ 0 0 then kMake σ c r else σ
def kFor (f : Nat → kS → kS) : Nat → kS → kS
  | 0, σ => σ
  | n + 1, σ => f n (kFor f n σ)
def kPrbs (σ : kS) : kS := kFor (fun c τ => kFor (fun r ρ => kPrb ρ c r) (σ 1 0) τ) (σ 2 0) σ
def kBadv (σ : kS) (r : Nat) : Bool := decide (2 ≤ kcnt (fun c => σ 31 (6 * c + r) != 0) (σ 2 0)) && decide (kcnt (fun c => σ 31 (6 * c + r) != 0) (σ 2 0) < 2 * kcnt (fun c => σ 31 (6 * c + r) == 2) (σ 2 0))
def kJR (σ : kS) : kS := kFor (fun r τ => ku τ 15 0 (kwr (τ 15 0) r (kBadv τ r))) (σ 1 0) σ
def kTrb (σ : kS) (c r : Nat) : Bool := σ 31 (6 * c + r) != 0 && (σ 11 r &&& σ 15 0) == 0
def kTrm (σ : kS) (c : Nat) : Nat → Nat
  | 0 => 0
  | n + 1 => kwr (kTrm σ c n) n (kTrb σ c n)
def kVd (q t : Nat) (v : Nat → Nat) : Nat :=
  if kcnt (fun r => t.testBit r) 6 < q then 0 else if q ≤ kcnt (fun r => t.testBit r && v r == 2) 6 then 2 else 1
def kVerd (σ : kS) (c : Nat) : Nat := kVd (σ 23 c) (kTrm σ c (σ 1 0)) (fun r => σ 31 (6 * c + r))
def kJC (σ : kS) : kS := kFor (fun c τ => ku τ 24 c (kVerd τ c)) (σ 2 0) σ
def kMnt (σ : kS) (c : Nat) : Nat → Bool
  | 0 => false
  | n + 1 => kMnt σ c n || (σ 40 n == c && decide (σ 41 n ≤ σ 0 0) && decide (σ 0 0 ≤ σ 42 n))
def kRaise (σ : kS) (c : Nat) : kS := ku (ku (ku (ku (ku σ 50 (σ 4 0) c) 51 (σ 4 0) (σ 0 0)) 52 (σ 4 0) 0) 25 c (σ 4 0 + 1)) 4 0 (σ 4 0 + 1)
def kClose (σ : kS) (c : Nat) : kS := ku (ku σ 52 (σ 25 c - 1) (σ 0 0 + 1)) 25 c 0
def kAl (σ : kS) (c : Nat) : kS :=
  if σ 24 c = 2 ∧ σ 25 c = 0 ∧ kMnt σ c (σ 3 0) = false then kRaise σ c else if σ 24 c = 1 ∧ σ 25 c ≠ 0 then kClose σ c else σ
def kAls (σ : kS) : kS := kFor (fun c τ => kAl τ c) (σ 2 0) σ
def kCt1 (σ : kS) (c : Nat) : kS := if σ 24 c ≠ 0 then ku σ 27 c (σ 27 c + 1) else σ
def kCt2 (σ : kS) (c : Nat) : kS := if σ 24 c = 1 then ku σ 26 c (σ 26 c + 1) else σ
def kCts (σ : kS) : kS := kFor (fun c τ => kCt2 (kCt1 τ c) c) (σ 2 0) σ
def kMin (σ : kS) : kS := ku σ 0 0 (σ 0 0 + 1)
def kPass1 (σ : kS) : kS := kCts (kAls (kJC (kJR (kPrbs (kMin σ)))))
def kPass : Nat → kS → kS
  | 0, σ => σ
  | n + 1, σ => kPass1 (kPass n σ)
/-- cells and slots that the first n alarms of a mesh have cost -/
def kTc : Nat → Nat
  | 0 => 0
  | n + 1 => kTc n + (1 + kgc n)
def kTs : Nat → Nat
  | 0 => 0
  | n + 1 => kTs n + (3 + kgs n)
end
section
set_option maxHeartbeats 4000000 in
set_option maxRecDepth 100000 in
theorem cc_bitCount (ε : kEnv) (l : Launch) {H : Heap} {t : Nat} (ht : t < 64) : kPi ε l yJ6_bitCount_0f7a4 wsJ6_bitCount_0f7a4 ({ frames := 0, cells := 0, slots := 0, locals := 0 }) [.int (nI t)] H (nI (kcnt (fun r => t.testBit r) 6)) := by
  refine kof (cc := cJ6_bitCount_0f7a4) (maxL := 1) (ret := (some .int)) (by decide) rfl (Nat.le_of_ble_eq_true rfl) ?_
  intro p e s m below meth c ls S hr hlocks hin hH hE hl
  have S : CallFix p m c cJ6_bitCount_0f7a4 1 s _ wsJ6_bitCount_0f7a4 RJ6 := S
  have hx := S.1
  have hb := S.2.1
  have hown : s.vm.findClass RJ6 = some m.cls := S.2.2.2.1
  have hts := S.2.2.2.2
  have hK := hE.1
  have hS : va_S kNo s.heap H [] := by rw [hH]; exact va_S.rf
  have hAb : ∀ q, kNo q → kHi ε q := fun _ h => h.elim
  have hl : lv_has ls 1 [(0, .int (nI t))] := hl
  refine lv_iload_n hx hb dJ6_bitCount_0f7a4_0 rfl (lv_at hl 0 rfl) ?_
  refine lv_iload_n hx hb dJ6_bitCount_0f7a4_1 rfl (lv_at hl 0 rfl) ?_
  refine lv_iconst (v := 1) hx hb dJ6_bitCount_0f7a4_2 (by decide) ?_
  refine lv_iushr (v := ((nI t).toUInt32 >>> ((1 : Int32).toUInt32 &&& Int32.toUInt32 31)).toInt32) hx hb dJ6_bitCount_0f7a4_3 rfl ?_
  refine lv_ldcw (own := RJ6) (v := 1431655765) hx hb hown (hts (.constant RJ6 265 (1431655765)) (by decide +kernel)) dJ6_bitCount_0f7a4_4 ?_
  refine lv_iand hx hb dJ6_bitCount_0f7a4_7 ?_
  refine lv_isub hx hb dJ6_bitCount_0f7a4_8 ?_
  refine lv_topi (fun x1 ex1 => ?_)
  refine lv_istore_n (lv' := [(0, .int x1)]) hx hb dJ6_bitCount_0f7a4_9 rfl hl (by decide) rfl (fun ls hl => ?_)
  refine lv_iload_n hx hb dJ6_bitCount_0f7a4_10 rfl (lv_at hl 0 rfl) ?_
  refine lv_ldcw (own := RJ6) (v := 858993459) hx hb hown (hts (.constant RJ6 266 (858993459)) (by decide +kernel)) dJ6_bitCount_0f7a4_11 ?_
  refine lv_iand hx hb dJ6_bitCount_0f7a4_14 ?_
  refine lv_iload_n hx hb dJ6_bitCount_0f7a4_15 rfl (lv_at hl 0 rfl) ?_
  refine lv_iconst (v := 2) hx hb dJ6_bitCount_0f7a4_16 (by decide) ?_
  refine lv_iushr (v := (x1.toUInt32 >>> ((2 : Int32).toUInt32 &&& Int32.toUInt32 31)).toInt32) hx hb dJ6_bitCount_0f7a4_17 rfl ?_
  refine lv_ldcw (own := RJ6) (v := 858993459) hx hb hown (hts (.constant RJ6 266 (858993459)) (by decide +kernel)) dJ6_bitCount_0f7a4_18 ?_
  refine lv_iand hx hb dJ6_bitCount_0f7a4_21 ?_
  refine lv_iadd hx hb dJ6_bitCount_0f7a4_22 ?_
  refine lv_topi (fun x2 ex2 => ?_)
  refine lv_istore_n (lv' := [(0, .int x2)]) hx hb dJ6_bitCount_0f7a4_23 rfl hl (by decide) rfl (fun ls hl => ?_)
  refine lv_iload_n hx hb dJ6_bitCount_0f7a4_24 rfl (lv_at hl 0 rfl) ?_
  refine lv_iload_n hx hb dJ6_bitCount_0f7a4_25 rfl (lv_at hl 0 rfl) ?_
  refine lv_iconst (v := 4) hx hb dJ6_bitCount_0f7a4_26 (by decide) ?_
  refine lv_iushr (v := (x2.toUInt32 >>> ((4 : Int32).toUInt32 &&& Int32.toUInt32 31)).toInt32) hx hb dJ6_bitCount_0f7a4_27 rfl ?_
  refine lv_iadd hx hb dJ6_bitCount_0f7a4_28 ?_
  refine lv_ldcw (own := RJ6) (v := 252645135) hx hb hown (hts (.constant RJ6 267 (252645135)) (by decide +kernel)) dJ6_bitCount_0f7a4_29 ?_
  refine lv_iand hx hb dJ6_bitCount_0f7a4_32 ?_
  refine lv_topi (fun x3 ex3 => ?_)
  refine lv_istore_n (lv' := [(0, .int x3)]) hx hb dJ6_bitCount_0f7a4_33 rfl hl (by decide) rfl (fun ls hl => ?_)
  refine lv_iload_n hx hb dJ6_bitCount_0f7a4_34 rfl (lv_at hl 0 rfl) ?_
  refine lv_iload_n hx hb dJ6_bitCount_0f7a4_35 rfl (lv_at hl 0 rfl) ?_
  refine lv_bipush (v := 8) hx hb dJ6_bitCount_0f7a4_36 (by decide) ?_
  refine lv_iushr (v := (x3.toUInt32 >>> ((8 : Int32).toUInt32 &&& Int32.toUInt32 31)).toInt32) hx hb dJ6_bitCount_0f7a4_38 rfl ?_
  refine lv_iadd hx hb dJ6_bitCount_0f7a4_39 ?_
  refine lv_topi (fun x4 ex4 => ?_)
  refine lv_istore_n (lv' := [(0, .int x4)]) hx hb dJ6_bitCount_0f7a4_40 rfl hl (by decide) rfl (fun ls hl => ?_)
  refine lv_iload_n hx hb dJ6_bitCount_0f7a4_41 rfl (lv_at hl 0 rfl) ?_
  refine lv_iload_n hx hb dJ6_bitCount_0f7a4_42 rfl (lv_at hl 0 rfl) ?_
  refine lv_bipush (v := 16) hx hb dJ6_bitCount_0f7a4_43 (by decide) ?_
  refine lv_iushr (v := (x4.toUInt32 >>> ((16 : Int32).toUInt32 &&& Int32.toUInt32 31)).toInt32) hx hb dJ6_bitCount_0f7a4_45 rfl ?_
  refine lv_iadd hx hb dJ6_bitCount_0f7a4_46 ?_
  refine lv_topi (fun x5 ex5 => ?_)
  refine lv_istore_n (lv' := [(0, .int x5)]) hx hb dJ6_bitCount_0f7a4_47 rfl hl (by decide) rfl (fun ls hl => ?_)
  refine lv_iload_n hx hb dJ6_bitCount_0f7a4_48 rfl (lv_at hl 0 rfl) ?_
  refine lv_bipush (v := 63) hx hb dJ6_bitCount_0f7a4_49 (by decide) ?_
  refine lv_iand hx hb dJ6_bitCount_0f7a4_51 ?_
  refine kend_i S hr hlocks hS ⟨?_, rfl⟩ dJ6_bitCount_0f7a4_52
  subst ex5
  subst ex4
  subst ex3
  subst ex2
  subst ex1
  exact (show ∀ t, t < 64 → (((((((((((((nI t - (((nI t).toUInt32 >>> ((1 : Int32).toUInt32 &&& Int32.toUInt32 31)).toInt32 &&& 1431655765))) &&& 858993459) + ((((nI t - (((nI t).toUInt32 >>> ((1 : Int32).toUInt32 &&& Int32.toUInt32 31)).toInt32 &&& 1431655765))).toUInt32 >>> ((2 : Int32).toUInt32 &&& Int32.toUInt32 31)).toInt32 &&& 858993459))) + ((((((nI t - (((nI t).toUInt32 >>> ((1 : Int32).toUInt32 &&& Int32.toUInt32 31)).toInt32 &&& 1431655765))) &&& 858993459) + ((((nI t - (((nI t).toUInt32 >>> ((1 : Int32).toUInt32 &&& Int32.toUInt32 31)).toInt32 &&& 1431655765))).toUInt32 >>> ((2 : Int32).toUInt32 &&& Int32.toUInt32 31)).toInt32 &&& 858993459))).toUInt32 >>> ((4 : Int32).toUInt32 &&& Int32.toUInt32 31)).toInt32) &&& 252645135)) + (((((((((nI t - (((nI t).toUInt32 >>> ((1 : Int32).toUInt32 &&& Int32.toUInt32 31)).toInt32 &&& 1431655765))) &&& 858993459) + ((((nI t - (((nI t).toUInt32 >>> ((1 : Int32).toUInt32 &&& Int32.toUInt32 31)).toInt32 &&& 1431655765))).toUInt32 >>> ((2 : Int32).toUInt32 &&& Int32.toUInt32 31)).toInt32 &&& 858993459))) + ((((((nI t - (((nI t).toUInt32 >>> ((1 : Int32).toUInt32 &&& Int32.toUInt32 31)).toInt32 &&& 1431655765))) &&& 858993459) + ((((nI t - (((nI t).toUInt32 >>> ((1 : Int32).toUInt32 &&& Int32.toUInt32 31)).toInt32 &&& 1431655765))).toUInt32 >>> ((2 : Int32).toUInt32 &&& Int32.toUInt32 31)).toInt32 &&& 858993459))).toUInt32 >>> ((4 : Int32).toUInt32 &&& Int32.toUInt32 31)).toInt32) &&& 252645135)).toUInt32 >>> ((8 : Int32).toUInt32 &&& Int32.toUInt32 31)).toInt32)) + (((((((((((nI t - (((nI t).toUInt32 >>> ((1 : Int32).toUInt32 &&& Int32.toUInt32 31)).toInt32 &&& 1431655765))) &&& 858993459) + ((((nI t - (((nI t).toUInt32 >>> ((1 : Int32).toUInt32 &&& Int32.toUInt32 31)).toInt32 &&& 1431655765))).toUInt32 >>> ((2 : Int32).toUInt32 &&& Int32.toUInt32 31)).toInt32 &&& 858993459))) + ((((((nI t - (((nI t).toUInt32 >>> ((1 : Int32).toUInt32 &&& Int32.toUInt32 31)).toInt32 &&& 1431655765))) &&& 858993459) + ((((nI t - (((nI t).toUInt32 >>> ((1 : Int32).toUInt32 &&& Int32.toUInt32 31)).toInt32 &&& 1431655765))).toUInt32 >>> ((2 : Int32).toUInt32 &&& Int32.toUInt32 31)).toInt32 &&& 858993459))).toUInt32 >>> ((4 : Int32).toUInt32 &&& Int32.toUInt32 31)).toInt32) &&& 252645135)) + (((((((((nI t - (((nI t).toUInt32 >>> ((1 : Int32).toUInt32 &&& Int32.toUInt32 31)).toInt32 &&& 1431655765))) &&& 858993459) + ((((nI t - (((nI t).toUInt32 >>> ((1 : Int32).toUInt32 &&& Int32.toUInt32 31)).toInt32 &&& 1431655765))).toUInt32 >>> ((2 : Int32).toUInt32 &&& Int32.toUInt32 31)).toInt32 &&& 858993459))) + ((((((nI t - (((nI t).toUInt32 >>> ((1 : Int32).toUInt32 &&& Int32.toUInt32 31)).toInt32 &&& 1431655765))) &&& 858993459) + ((((nI t - (((nI t).toUInt32 >>> ((1 : Int32).toUInt32 &&& Int32.toUInt32 31)).toInt32 &&& 1431655765))).toUInt32 >>> ((2 : Int32).toUInt32 &&& Int32.toUInt32 31)).toInt32 &&& 858993459))).toUInt32 >>> ((4 : Int32).toUInt32 &&& Int32.toUInt32 31)).toInt32) &&& 252645135)).toUInt32 >>> ((8 : Int32).toUInt32 &&& Int32.toUInt32 31)).toInt32)).toUInt32 >>> ((16 : Int32).toUInt32 &&& Int32.toUInt32 31)).toInt32)) &&& 63) = nI (kcnt (fun r => t.testBit r) 6) by decide +kernel) t ht
set_option maxHeartbeats 4000000 in
set_option maxRecDepth 100000 in
theorem cc_chk3 (ε : kEnv) (l : Launch) {H : Heap} {j n : Nat} (hj : j < n) (hn : n < 2 ^ 31) : kPi ε l yJ3_checkIndex_8e157 wsJ3_checkIndex_8e157 ({ frames := 0, cells := 0, slots := 0, locals := 0 }) [.int (nI j), .int (nI n), .null] H (nI j) := by
  refine kof (cc := cJ3_checkIndex_8e157) (maxL := 3) (ret := (some .int)) (by decide) rfl (Nat.le_of_ble_eq_true rfl) ?_
  intro p e s m below meth c ls S hr hlocks hin hH hE hl
  have S : CallFix p m c cJ3_checkIndex_8e157 3 s _ wsJ3_checkIndex_8e157 RJ3 := S
  have hx := S.1
  have hb := S.2.1
  have hown : s.vm.findClass RJ3 = some m.cls := S.2.2.2.1
  have hts := S.2.2.2.2
  have hK := hE.1
  have hS : va_S kNo s.heap H [] := by rw [hH]; exact va_S.rf
  have hAb : ∀ q, kNo q → kHi ε q := fun _ h => h.elim
  have hl : lv_has ls 3 [(0, .int (nI j)), (1, .int (nI n)), (2, .null)] := hl
  refine lv_iload_n hx hb dJ3_checkIndex_8e157_0 rfl (lv_at hl 0 rfl) ?_
  refine lv_if_lt (tgt := 9) hx hb dJ3_checkIndex_8e157_1 (by decide) (fun hc => absurd hc (nI_pos (Nat.lt_trans hj hn))) (fun _ => ?_)
  refine lv_iload_n hx hb dJ3_checkIndex_8e157_4 rfl (lv_at hl 0 rfl) ?_
  refine lv_iload_n hx hb dJ3_checkIndex_8e157_5 rfl (lv_at hl 1 rfl) ?_
  refine lv_icmp_lt (tgt := 16) hx hb dJ3_checkIndex_8e157_6 (by decide) (fun _ => ?_) (fun hc => absurd (nI_lt hj hn) hc)
  refine lv_iload_n hx hb dJ3_checkIndex_8e157_16 rfl (lv_at hl 0 rfl) ?_
  exact kend_i S hr hlocks hS ⟨rfl, rfl⟩ dJ3_checkIndex_8e157_17
set_option maxHeartbeats 4000000 in
set_option maxRecDepth 100000 in
theorem cc_chk (ε : kEnv) (l : Launch) {H : Heap} {j n : Nat} (hj : j < n) (hn : n < 2 ^ 31) : kPi ε l yJ15_checkIndex_7cf53 wsJ15_checkIndex_7cf53 ({ frames := 1, cells := 0, slots := 0, locals := 22 }) [.int (nI j), .int (nI n)] H (nI j) := by
  refine kof (cc := cJ15_checkIndex_7cf53) (maxL := 2) (ret := (some .int)) (by decide) rfl (Nat.le_of_ble_eq_true rfl) ?_
  intro p e s m below meth c ls S hr hlocks hin hH hE hl
  have S : CallFix p m c cJ15_checkIndex_7cf53 2 s _ wsJ15_checkIndex_7cf53 RJ15 := S
  have hx := S.1
  have hb := S.2.1
  have hown : s.vm.findClass RJ15 = some m.cls := S.2.2.2.1
  have hts := S.2.2.2.2
  have hK := hE.1
  have hS : va_S kNo s.heap H [] := by rw [hH]; exact va_S.rf
  have hAb : ∀ q, kNo q → kHi ε q := fun _ h => h.elim
  have hl : lv_has ls 2 [(0, .int (nI j)), (1, .int (nI n))] := hl
  refine lv_iload_n hx hb dJ15_checkIndex_7cf53_0 rfl (lv_at hl 0 rfl) ?_
  refine lv_iload_n hx hb dJ15_checkIndex_7cf53_1 rfl (lv_at hl 1 rfl) ?_
  refine lv_null hx hb dJ15_checkIndex_7cf53_2 ?_
  refine kgo_pi (kc_S (As := [.int (nI j), .int (nI n), .null]) (rest := []) S hE hS hAb (cc_chk3 ε l hj hn) (va_cwS 3 hts gJ15_checkIndex_7cf53_J3_checkIndex_8e157 rfl rfl rfl (by decide +kernel) ⟨Nat.le_of_ble_eq_true rfl, Nat.le_of_ble_eq_true rfl⟩) rfl hl.1 rfl (Nat.le_of_ble_eq_true rfl) dJ15_checkIndex_7cf53_3 ⟨Nat.le_refl _, Nat.le_refl _⟩) hS (fun locs hS => ?_)
  exact kend_i S hr hlocks hS ⟨rfl, rfl⟩ dJ15_checkIndex_7cf53_6
theorem kin_Jx4a65c_size_8abf5_Jx4a65c : ∀ w ∈ wsJx4a65c0, w ∈ wsJx4a65c_size_8abf5 := by decide +kernel
theorem kin_Jx4a65c_elementData_915e3_Jx4a65c : ∀ w ∈ wsJx4a65c0, w ∈ wsJx4a65c_elementData_915e3 := by decide +kernel
theorem kin_Jx4a65c_get_915e3_Jx4a65c : ∀ w ∈ wsJx4a65c0, w ∈ wsJx4a65c_get_915e3 := by decide +kernel
set_option maxHeartbeats 4000000 in
set_option maxRecDepth 100000 in
theorem cc_size (ε : kEnv) (l : Launch) {H : Heap} {a : Nat} {md n : Int32} {e : Nat} (ha : kat ε a (.inr (0, [.int md, .ref e, .int n])) H) : kPi ε l yJx4a65c_size_8abf5 wsJx4a65c_size_8abf5 ({ frames := 0, cells := 0, slots := 0, locals := 0 }) [.ref a] H n := by
  refine kof (cc := cJx4a65c_size_8abf5) (maxL := 1) (ret := (some .int)) (by decide) rfl (Nat.le_of_ble_eq_true rfl) ?_
  intro p e s m below meth c ls S hr hlocks hin hH hE hl
  have S : CallFix p m c cJx4a65c_size_8abf5 1 s _ wsJx4a65c_size_8abf5 RJx4a65c := S
  have hx := S.1
  have hb := S.2.1
  have hown : s.vm.findClass RJx4a65c = some m.cls := S.2.2.2.1
  have hts := S.2.2.2.2
  have hK := hE.1
  have hS : va_S kNo s.heap H [] := by rw [hH]; exact va_S.rf
  have hAb : ∀ q, kNo q → kHi ε q := fun _ h => h.elim
  have hl : lv_has ls 1 [(0, .ref a)] := hl
  refine lv_aload_n hx hb dJx4a65c_size_8abf5_0 rfl (lv_at hl 0 rfl) ?_
  refine kr_get (T := TJx4a65c) (N := 3) hx hb hts hown hK ha rfl kin_Jx4a65c_size_8abf5_Jx4a65c 2 (by decide) (by decide +kernel) rfl dJx4a65c_size_8abf5_1 ?_
  exact kend_i S hr hlocks hS ⟨rfl, rfl⟩ dJx4a65c_size_8abf5_4
set_option maxHeartbeats 4000000 in
set_option maxRecDepth 100000 in
theorem cc_elem (ε : kEnv) (l : Launch) {H : Heap} {a e j N x : Nat} {md sz : Int32} {f : Nat → Option Nat} (ha : kat ε a (.inr (0, [.int md, .ref e, .int sz])) H) (he : kat ε e (kO ε N f) H) (hj : j < N) (hj2 : j < 2 ^ 31) (hf : f j = some x) : kPr ε l yJx4a65c_elementData_915e3 wsJx4a65c_elementData_915e3 ({ frames := 0, cells := 0, slots := 0, locals := 0 }) [.ref a, .int (nI j)] H x := by
  refine kof (cc := cJx4a65c_elementData_915e3) (maxL := 2) (ret := (some (.object "java/lang/Object"))) (by decide) rfl (Nat.le_of_ble_eq_true rfl) ?_
  intro p e s m below meth c ls S hr hlocks hin hH hE hl
  have S : CallFix p m c cJx4a65c_elementData_915e3 2 s _ wsJx4a65c_elementData_915e3 RJx4a65c := S
  have hx := S.1
  have hb := S.2.1
  have hown : s.vm.findClass RJx4a65c = some m.cls := S.2.2.2.1
  have hts := S.2.2.2.2
  have hK := hE.1
  have hS : va_S kNo s.heap H [] := by rw [hH]; exact va_S.rf
  have hAb : ∀ q, kNo q → kHi ε q := fun _ h => h.elim
  have hl : lv_has ls 2 [(0, .ref a), (1, .int (nI j))] := hl
  refine lv_aload_n hx hb dJx4a65c_elementData_915e3_0 rfl (lv_at hl 0 rfl) ?_
  refine kr_get (T := TJx4a65c) (N := 3) hx hb hts hown hK ha rfl kin_Jx4a65c_elementData_915e3_Jx4a65c 1 (by decide) (by decide +kernel) rfl dJx4a65c_elementData_915e3_1 ?_
  refine lv_iload_n hx hb dJx4a65c_elementData_915e3_4 rfl (lv_at hl 1 rfl) ?_
  refine kr_qld hx hb hK he hj (nI_clamp hj2) (nI_pos hj2) (x := .ref x) (by rw [hf]; rfl) dJx4a65c_elementData_915e3_5 ?_
  exact kend_r S hr (Or.inl ⟨_, rfl⟩) hlocks hS ⟨rfl, rfl⟩ dJx4a65c_elementData_915e3_6
set_option maxHeartbeats 4000000 in
set_option maxRecDepth 100000 in
theorem cc_get (ε : kEnv) (l : Launch) {H : Heap} {a e j n N x : Nat} {md : Int32} {f : Nat → Option Nat} (ha : kat ε a (.inr (0, [.int md, .ref e, .int (nI n)])) H) (he : kat ε e (kO ε N f) H) (hj : j < n) (hn : n < 2 ^ 31) (hN : n ≤ N) (hf : f j = some x) : kPr ε l yJx4a65c_get_915e3 wsJx4a65c_get_915e3 ({ frames := 2, cells := 0, slots := 0, locals := 43 }) [.ref a, .int (nI j)] H x := by
  refine kof (cc := cJx4a65c_get_915e3) (maxL := 2) (ret := (some (.object "java/lang/Object"))) (by decide) rfl (Nat.le_of_ble_eq_true rfl) ?_
  intro p e s m below meth c ls S hr hlocks hin hH hE hl
  have S : CallFix p m c cJx4a65c_get_915e3 2 s _ wsJx4a65c_get_915e3 RJx4a65c := S
  have hx := S.1
  have hb := S.2.1
  have hown : s.vm.findClass RJx4a65c = some m.cls := S.2.2.2.1
  have hts := S.2.2.2.2
  have hK := hE.1
  have hS : va_S kNo s.heap H [] := by rw [hH]; exact va_S.rf
  have hAb : ∀ q, kNo q → kHi ε q := fun _ h => h.elim
  have hl : lv_has ls 2 [(0, .ref a), (1, .int (nI j))] := hl
  refine lv_iload_n hx hb dJx4a65c_get_915e3_0 rfl (lv_at hl 1 rfl) ?_
  refine lv_aload_n hx hb dJx4a65c_get_915e3_1 rfl (lv_at hl 0 rfl) ?_
  refine kr_get (T := TJx4a65c) (N := 3) hx hb hts hown hK ha rfl kin_Jx4a65c_get_915e3_Jx4a65c 2 (by decide) (by decide +kernel) rfl dJx4a65c_get_915e3_2 ?_
  refine kgo_pi (kc_S (As := [.int (nI j), .int (nI n)]) (rest := []) S hE hS hAb (cc_chk ε l hj hn) (va_cwS 2 hts gJx4a65c_get_915e3_J15_checkIndex_7cf53 rfl rfl rfl (by decide +kernel) ⟨Nat.le_of_ble_eq_true rfl, Nat.le_of_ble_eq_true rfl⟩) rfl hl.1 rfl (Nat.le_of_ble_eq_true rfl) dJx4a65c_get_915e3_5 ⟨Nat.le_refl _, Nat.le_refl _⟩) hS (fun locs hS => ?_)
  refine lv_pop hx hb dJx4a65c_get_915e3_8 rfl ?_
  refine lv_aload_n hx hb dJx4a65c_get_915e3_9 rfl (lv_at hl 0 rfl) ?_
  refine lv_iload_n hx hb dJx4a65c_get_915e3_10 rfl (lv_at hl 1 rfl) ?_
  refine kgo_pr (kc_V (As := [.int (nI j)]) (rest := []) S hE hS hAb (cc_elem ε l ha he (Nat.lt_of_lt_of_le hj hN) (Nat.lt_trans hj hn) hf) (cwV 1 hts gJx4a65c_get_915e3_Jx4a65c_elementData_915e3 rfl rfl rfl (by decide +kernel) ⟨Nat.le_of_ble_eq_true rfl, Nat.le_of_ble_eq_true rfl⟩) ha rfl rfl hl.1 rfl (Nat.le_of_ble_eq_true rfl) dJx4a65c_get_915e3_11 ⟨Nat.le_refl _, Nat.le_refl _⟩) hS (fun locs hS => ?_)
  exact kend_r S hr (Or.inl ⟨_, rfl⟩) hlocks hS ⟨rfl, rfl⟩ dJx4a65c_get_915e3_14
set_option maxHeartbeats 4000000 in
set_option maxRecDepth 100000 in
theorem cc_holds (ε : kEnv) (l : Launch) {H : Heap} {t r : Nat} (ht : t < 64) (hr6 : r < 6) : kPi ε l yX4_holds wsX4_holds ({ frames := 0, cells := 0, slots := 0, locals := 0 }) [.int (nI t), .int (nI r)] H (bI (t.testBit r)) := by
  refine kof (cc := cX4_holds) (maxL := 2) (ret := (some .boolean)) (by decide) rfl (Nat.le_of_ble_eq_true rfl) ?_
  intro p e s m below meth c ls S hr hlocks hin hH hE hl
  have S : CallFix p m c cX4_holds 2 s _ wsX4_holds RX4 := S
  have hx := S.1
  have hb := S.2.1
  have hown : s.vm.findClass RX4 = some m.cls := S.2.2.2.1
  have hts := S.2.2.2.2
  have hK := hE.1
  have hS : va_S kNo s.heap H [] := by rw [hH]; exact va_S.rf
  have hAb : ∀ q, kNo q → kHi ε q := fun _ h => h.elim
  have hl : lv_has ls 2 [(0, .int (nI t)), (1, .int (nI r))] := hl
  refine lv_iload_n hx hb dX4_holds_0 rfl (lv_at hl 0 rfl) ?_
  refine lv_iconst (v := 1) hx hb dX4_holds_1 (by decide) ?_
  refine lv_iload_n hx hb dX4_holds_2 rfl (lv_at hl 1 rfl) ?_
  refine lv_ishl hx hb dX4_holds_3 ?_
  refine lv_iand hx hb dX4_holds_4 ?_
  refine lv_if_eq (tgt := 12) hx hb dX4_holds_5 (by decide) (fun hc => ?_) (fun hc => ?_)
  · refine lv_iconst (v := 0) hx hb dX4_holds_12 (by decide) ?_
    refine kend_z S hr hlocks hS ⟨?_, rfl⟩ (Or.inl rfl) dX4_holds_13
    rw [(kb_has r hr6 t ht).mp hc]; rfl
  · refine lv_iconst (v := 1) hx hb dX4_holds_8 (by decide) ?_
    refine lv_goto (tgt := 13) hx hb dX4_holds_9 (by decide) ?_
    refine kend_z S hr hlocks hS ⟨?_, rfl⟩ (Or.inr rfl) dX4_holds_13
    cases hb9 : t.testBit r
    · exact absurd ((kb_has r hr6 t ht).mpr hb9) hc
    · rfl
set_option maxHeartbeats 4000000 in
set_option maxRecDepth 100000 in
theorem cc_with (ε : kEnv) (l : Launch) {H : Heap} {t r : Nat} {b : Bool} (ht : t < 64) (hr6 : r < 6) : kPi ε l yX4_withRegion wsX4_withRegion ({ frames := 0, cells := 0, slots := 0, locals := 0 }) [.int (nI t), .int (nI r), .int (bI b)] H (nI (kwr t r b)) := by
  refine kof (cc := cX4_withRegion) (maxL := 3) (ret := (some .int)) (by decide) rfl (Nat.le_of_ble_eq_true rfl) ?_
  intro p e s m below meth c ls S hr hlocks hin hH hE hl
  have S : CallFix p m c cX4_withRegion 3 s _ wsX4_withRegion RX4 := S
  have hx := S.1
  have hb := S.2.1
  have hown : s.vm.findClass RX4 = some m.cls := S.2.2.2.1
  have hts := S.2.2.2.2
  have hK := hE.1
  have hS : va_S kNo s.heap H [] := by rw [hH]; exact va_S.rf
  have hAb : ∀ q, kNo q → kHi ε q := fun _ h => h.elim
  have hl : lv_has ls 3 [(0, .int (nI t)), (1, .int (nI r)), (2, .int (bI b))] := hl
  refine lv_iload_n hx hb dX4_withRegion_0 rfl (lv_at hl 2 rfl) ?_
  refine lv_if_eq (tgt := 12) hx hb dX4_withRegion_1 (by decide) (fun hc => ?_) (fun hc => ?_)
  · refine lv_iload_n hx hb dX4_withRegion_12 rfl (lv_at hl 0 rfl) ?_
    refine lv_iconst (v := 1) hx hb dX4_withRegion_13 (by decide) ?_
    refine lv_iload_n hx hb dX4_withRegion_14 rfl (lv_at hl 1 rfl) ?_
    refine lv_ishl hx hb dX4_withRegion_15 ?_
    refine lv_iconst (v := -1) hx hb dX4_withRegion_16 (by decide) ?_
    refine lv_ixor hx hb dX4_withRegion_17 ?_
    refine lv_iand hx hb dX4_withRegion_18 ?_
    refine kend_i S hr hlocks hS ⟨?_, rfl⟩ dX4_withRegion_19
    rw [bI_eq0.mp hc]
    exact kb_and r hr6 t ht
  · refine lv_iload_n hx hb dX4_withRegion_4 rfl (lv_at hl 0 rfl) ?_
    refine lv_iconst (v := 1) hx hb dX4_withRegion_5 (by decide) ?_
    refine lv_iload_n hx hb dX4_withRegion_6 rfl (lv_at hl 1 rfl) ?_
    refine lv_ishl hx hb dX4_withRegion_7 ?_
    refine lv_ior hx hb dX4_withRegion_8 ?_
    refine lv_goto (tgt := 19) hx hb dX4_withRegion_9 (by decide) ?_
    refine kend_i S hr hlocks hS ⟨?_, rfl⟩ dX4_withRegion_19
    cases b
    · exact absurd rfl hc
    · exact kb_or r hr6 t ht
set_option maxHeartbeats 4000000 in
set_option maxRecDepth 100000 in
theorem cc_rng (ε : kEnv) (l : Launch) {H : Heap} {x lo hi : Int32} (h1 : ¬ x < lo) (h2 : x ≤ hi) : kPv ε l yX4_requireRange wsX4_requireRange ({ frames := 0, cells := 0, slots := 0, locals := 0 }) [.int x, .int lo, .int hi] H := by
  refine kof (cc := cX4_requireRange) (maxL := 3) (ret := none) (by decide) rfl (Nat.le_of_ble_eq_true rfl) ?_
  intro p e s m below meth c ls S hr hlocks hin hH hE hl
  have S : CallFix p m c cX4_requireRange 3 s _ wsX4_requireRange RX4 := S
  have hx := S.1
  have hb := S.2.1
  have hown : s.vm.findClass RX4 = some m.cls := S.2.2.2.1
  have hts := S.2.2.2.2
  have hK := hE.1
  have hS : va_S kNo s.heap H [] := by rw [hH]; exact va_S.rf
  have hAb : ∀ q, kNo q → kHi ε q := fun _ h => h.elim
  have hl : lv_has ls 3 [(0, .int x), (1, .int lo), (2, .int hi)] := hl
  refine lv_iload_n hx hb dX4_requireRange_0 rfl (lv_at hl 0 rfl) ?_
  refine lv_iload_n hx hb dX4_requireRange_1 rfl (lv_at hl 1 rfl) ?_
  refine lv_icmp_lt (tgt := 10) hx hb dX4_requireRange_2 (by decide) (fun hc => absurd hc (h1)) (fun _ => ?_)
  refine lv_iload_n hx hb dX4_requireRange_5 rfl (lv_at hl 0 rfl) ?_
  refine lv_iload_n hx hb dX4_requireRange_6 rfl (lv_at hl 2 rfl) ?_
  refine lv_icmp_le (tgt := 20) hx hb dX4_requireRange_7 (by decide) (fun _ => ?_) (fun hc => absurd (h2) hc)
  exact kend_v S hr hlocks hS rfl dX4_requireRange_20
set_option maxHeartbeats 4000000 in
set_option maxRecDepth 100000 in
theorem cx_rng (ε : kEnv) (l : Launch) {H : Heap} {x lo hi : Int32} (hst : l.stackTraces = false) (h : x < lo ∨ ¬ x ≤ hi) : kX ε l yX4_requireRange wsX4_requireRange ({ frames := 6, cells := 1, slots := 6, locals := 90 }) [.int x, .int lo, .int hi] H "java/lang/IllegalArgumentException" := by
  refine kofX (cc := cX4_requireRange) (maxL := 3) (ret := none) (by decide) rfl (Nat.le_of_ble_eq_true rfl) ?_
  intro p e s m below meth c ls S hr hlocks hT hH hE hl
  have S : CallFix p m c cX4_requireRange 3 s _ wsX4_requireRange RX4 := S
  have hx := S.1
  have hb := S.2.1
  have hown : s.vm.findClass RX4 = some m.cls := S.2.2.2.1
  have hts := S.2.2.2.2
  have hK := hE.1
  have hS : va_S kNo s.heap H [] := by rw [hH]; exact va_S.rf
  have hAb : ∀ q, kNo q → kHi ε q := fun _ h => h.elim
  have hl : lv_has ls 3 [(0, .int x), (1, .int lo), (2, .int hi)] := hl
  refine lv_iload_n hx hb dX4_requireRange_0 rfl (lv_at hl 0 rfl) ?_
  refine lv_iload_n hx hb dX4_requireRange_1 rfl (lv_at hl 1 rfl) ?_
  refine lv_icmp_lt (tgt := 10) hx hb dX4_requireRange_2 (by decide) (fun hc1 => ?_) (fun hc1 => ?_)
  · exact kthrow (E := "java/lang/IllegalArgumentException") (names := ["java/lang/RuntimeException", "java/lang/Exception"]) (ik := 175) (is := 177) (ic := 179) (k := 8) hst S hE hT hlocks hS hl.1 (by decide +kernel) (by decide +kernel) (by decide +kernel) rfl (by decide +kernel) (by decide +kernel) (by decide +kernel) dX4_requireRange_10 dX4_requireRange_13 dX4_requireRange_14 dX4_requireRange_16 dX4_requireRange_19 (by decide)
  · refine lv_iload_n hx hb dX4_requireRange_5 rfl (lv_at hl 0 rfl) ?_
    refine lv_iload_n hx hb dX4_requireRange_6 rfl (lv_at hl 2 rfl) ?_
    refine lv_icmp_le (tgt := 20) hx hb dX4_requireRange_7 (by decide) (fun hc => absurd hc (h.elim (fun q => absurd q hc1) id)) (fun _ => ?_)
    exact kthrow (E := "java/lang/IllegalArgumentException") (names := ["java/lang/RuntimeException", "java/lang/Exception"]) (ik := 175) (is := 177) (ic := 179) (k := 8) hst S hE hT hlocks hS hl.1 (by decide +kernel) (by decide +kernel) (by decide +kernel) rfl (by decide +kernel) (by decide +kernel) (by decide +kernel) dX4_requireRange_10 dX4_requireRange_13 dX4_requireRange_14 dX4_requireRange_16 dX4_requireRange_19 (by decide)
end
section
/-! ===== the bounds by name; the lists of the world ===== -/
theorem kB.min {σ : kS} (h : kB σ) : σ 0 0 ≤ 102400 := h.1
theorem kB.nR {σ : kS} (h : kB σ) : σ 1 0 ≤ 6 := h.2.1
theorem kB.nC {σ : kS} (h : kB σ) : σ 2 0 ≤ 8 := h.2.2.1
theorem kB.nW {σ : kS} (h : kB σ) : σ 3 0 ≤ 12 := h.2.2.2.1
theorem kB.nA {σ : kS} (h : kB σ) : σ 4 0 ≤ 51000 := h.2.2.2.2.1
theorem kB.cut {σ : kS} (h : kB σ) : σ 14 0 < 64 := h.2.2.2.2.2.1
theorem kB.bad {σ : kS} (h : kB σ) : σ 15 0 < 64 := h.2.2.2.2.2.2.1
theorem kB.rg {σ : kS} (h : kB σ) : ∀ r, r < σ 1 0 → σ 11 r < 64 ∧ σ 10 r ≤ r := h.2.2.2.2.2.2.2.1
theorem kB.ck {σ : kS} (h : kB σ) : ∀ c, c < σ 2 0 → (1 ≤ σ 20 c ∧ σ 20 c ≤ 60) ∧ σ 21 c ≤ 1000 ∧ σ 22 c ≤ 3 ∧ (1 ≤ σ 23 c ∧ σ 23 c ≤ 6) ∧ σ 24 c ≤ 2 ∧ σ 30 c < 64 ∧ σ 25 c ≤ σ 4 0 := h.2.2.2.2.2.2.2.2.1
theorem kB.pr {σ : kS} (h : kB σ) : ∀ c r, c < σ 2 0 → r < 6 → σ 31 (6 * c + r) ≤ 2 ∧ σ 32 (6 * c + r) ≤ 3 ∧ σ 33 (6 * c + r) ≤ 200000 := h.2.2.2.2.2.2.2.2.2.1
theorem kB.wn {σ : kS} (h : kB σ) : ∀ w, w < σ 3 0 → σ 40 w < 8 ∧ σ 41 w ≤ 100000 ∧ σ 42 w ≤ 120000 := h.2.2.2.2.2.2.2.2.2.2.1
theorem kB.al {σ : kS} (h : kB σ) : ∀ j, j < σ 4 0 → σ 50 j < 8 ∧ σ 51 j ≤ 102400 ∧ σ 52 j ≤ 102401 := h.2.2.2.2.2.2.2.2.2.2.2
theorem kB.cnt {σ : kS} (h : kB σ) (i : Nat) (hi : i < 4) : σ (i + 1) 0 < 2 ^ 31 := by
  have h1 := h.nR
  have h2 := h.nC
  have h3 := h.nW
  have h4 := h.nA
  match i, hi with
  | 0, _ => show σ 1 0 < _; omega
  | 1, _ => show σ 2 0 < _; omega
  | 2, _ => show σ 3 0 < _; omega
  | 3, _ => show σ 4 0 < _; omega
theorem kB.r6 {σ : kS} (h : kB σ) {r : Nat} (hr : r < σ 1 0) : r < 6 := Nat.lt_of_lt_of_le hr h.nR
theorem kB.c8 {σ : kS} (h : kB σ) {c : Nat} (hc : c < σ 2 0) : c < 8 := Nat.lt_of_lt_of_le hc h.nC
theorem ks31 {a b : Nat} (h : a < b) (hb : b ≤ 2147483647 := by omega) : a < 2 ^ 31 := by omega
theorem kw_size {ε : kEnv} {A : Nat → Prop} {ad : Nat → Nat → Nat} {σ : kS} {H : Heap} (l : Launch) (hw : kW ε A ad σ H) (i : Nat) (hi : i < 4) : kPi ε l yJx4a65c_size_8abf5 wsJx4a65c_size_8abf5 ({ frames := 0, cells := 0, slots := 0, locals := 0 }) [.ref (ad 1 i)] H (nI (σ (i + 1) 0)) :=
  cc_size ε l (hw.lv 1 i hi)
theorem kw_get {ε : kEnv} {A : Nat → Prop} {ad : Nat → Nat → Nat} {σ : kS} {H : Heap} (l : Launch) (hw : kW ε A ad σ H) (hB : kB σ) (i : Nat) (hi : i < 4) {j x : Nat} (hj : j < σ (i + 1) 0) (hx : ad (kel i) j = x) : kPr ε l yJx4a65c_get_915e3 wsJx4a65c_get_915e3 ({ frames := 2, cells := 0, slots := 0, locals := 43 }) [.ref (ad 1 i), .int (nI j)] H x := by
  subst hx
  exact cc_get ε l (hw.lv 1 i hi) (hw.lv 2 i ⟨hi, Nat.lt_of_le_of_lt (Nat.zero_le _) hj⟩) hj (hB.cnt i hi) (kcap_ge _) (if_pos hj)
theorem kNext_lt {σ : kS} (hB : kB σ) {i r t : Nat} (hi : i < σ 2 0) (hr6 : r < 6) (ht : t ≤ 200000) : kNext σ i r t < 2 ^ 31 := by
  have hk := hB.ck i hi
  have hp := hB.pr i r hi hr6
  unfold kNext
  split
  · omega
  · split
    · omega
    · split <;> omega
end
section
theorem kin_X4_requireRegion_X4 : ∀ w ∈ wsX40, w ∈ wsX4_requireRegion := by decide +kernel
set_option maxHeartbeats 4000000 in
set_option maxRecDepth 100000 in
theorem cc_requireRegion (ε : kEnv) (l : Launch) {A : Nat → Prop} {ad : Nat → Nat → Nat} {σ : kS} {H : Heap} {r : Nat} (hw : kW ε A ad σ H) (hB : kB σ) (h : r < σ 1 0) : kPv ε l yX4_requireRegion wsX4_requireRegion ({ frames := 1, cells := 0, slots := 0, locals := 20 }) [.ref (ad 0 0), .int (nI r)] H := by
  refine kof (cc := cX4_requireRegion) (maxL := 2) (ret := none) (by decide) rfl (Nat.le_of_ble_eq_true rfl) ?_
  intro p e s m below meth c ls S hr hlocks hin hH hE hl
  have S : CallFix p m c cX4_requireRegion 2 s _ wsX4_requireRegion RX4 := S
  have hx := S.1
  have hb := S.2.1
  have hown : s.vm.findClass RX4 = some m.cls := S.2.2.2.1
  have hts := S.2.2.2.2
  have hK := hE.1
  have hS : va_S kNo s.heap H [] := by rw [hH]; exact va_S.rf
  have hAb : ∀ q, kNo q → kHi ε q := fun _ h => h.elim
  have hl : lv_has ls 2 [(0, .ref (ad 0 0)), (1, .int (nI r))] := hl
  refine lv_iload_n hx hb dX4_requireRegion_0 rfl (lv_at hl 1 rfl) ?_
  refine lv_if_lt (tgt := 15) hx hb dX4_requireRegion_1 (by decide) (fun hc => absurd hc (nI_pos (Nat.lt_trans h (hB.cnt 0 (by decide))))) (fun _ => ?_)
  refine lv_iload_n hx hb dX4_requireRegion_4 rfl (lv_at hl 1 rfl) ?_
  refine lv_aload_n hx hb dX4_requireRegion_5 rfl (lv_at hl 0 rfl) ?_
  refine kr_get (T := TX4) (N := 7) hx hb hts hown hK (hw.lv 0 0 (rfl : (0 : Nat) = 0)) rfl kin_X4_requireRegion_X4 0 (by decide) (by decide +kernel) rfl dX4_requireRegion_6 ?_
  refine kgo_pi (kc_V (As := []) (rest := [.int (nI r)]) S hE hS hAb (kw_size l hw 0 (by decide)) (cwV 0 hts gX4_requireRegion_Jx4a65c_size_8abf5 rfl rfl rfl (by decide +kernel) ⟨Nat.le_of_ble_eq_true rfl, Nat.le_of_ble_eq_true rfl⟩) (hw.lv 1 0 (by decide : (0 : Nat) < 4)) rfl rfl hl.1 rfl (Nat.le_of_ble_eq_true rfl) dX4_requireRegion_9 ⟨Nat.zero_le _, Nat.zero_le _⟩) hS (fun locs hS => ?_)
  refine lv_icmp_lt (tgt := 25) hx hb dX4_requireRegion_12 (by decide) (fun _ => ?_) (fun hc => absurd (nI_lt h (hB.cnt 0 (by decide))) hc)
  exact kend_v S hr hlocks hS rfl dX4_requireRegion_25
set_option maxHeartbeats 4000000 in
set_option maxRecDepth 100000 in
theorem cx_requireRegion (ε : kEnv) (l : Launch) {A : Nat → Prop} {ad : Nat → Nat → Nat} {σ : kS} {H : Heap} {x : Int32} (hw : kW ε A ad σ H) (hB : kB σ) (hst : l.stackTraces = false) (h : x < 0 ∨ nI (σ 1 0) ≤ x) : kX ε l yX4_requireRegion wsX4_requireRegion ({ frames := 6, cells := 1, slots := 6, locals := 90 }) [.ref (ad 0 0), .int x] H "java/lang/IndexOutOfBoundsException" := by
  refine kofX (cc := cX4_requireRegion) (maxL := 2) (ret := none) (by decide) rfl (Nat.le_of_ble_eq_true rfl) ?_
  intro p e s m below meth c ls S hr hlocks hT hH hE hl
  have S : CallFix p m c cX4_requireRegion 2 s _ wsX4_requireRegion RX4 := S
  have hx := S.1
  have hb := S.2.1
  have hown : s.vm.findClass RX4 = some m.cls := S.2.2.2.1
  have hts := S.2.2.2.2
  have hK := hE.1
  have hS : va_S kNo s.heap H [] := by rw [hH]; exact va_S.rf
  have hAb : ∀ q, kNo q → kHi ε q := fun _ h => h.elim
  have hl : lv_has ls 2 [(0, .ref (ad 0 0)), (1, .int x)] := hl
  refine lv_iload_n hx hb dX4_requireRegion_0 rfl (lv_at hl 1 rfl) ?_
  refine lv_if_lt (tgt := 15) hx hb dX4_requireRegion_1 (by decide) (fun hc1 => ?_) (fun hc1 => ?_)
  · exact kthrow (E := "java/lang/IndexOutOfBoundsException") (names := ["java/lang/RuntimeException", "java/lang/Exception"]) (ik := 101) (is := 169) (ic := 105) (k := 5) hst S hE hT hlocks hS hl.1 (by decide +kernel) (by decide +kernel) (by decide +kernel) rfl (by decide +kernel) (by decide +kernel) (by decide +kernel) dX4_requireRegion_15 dX4_requireRegion_18 dX4_requireRegion_19 dX4_requireRegion_21 dX4_requireRegion_24 (by decide)
  · refine lv_iload_n hx hb dX4_requireRegion_4 rfl (lv_at hl 1 rfl) ?_
    refine lv_aload_n hx hb dX4_requireRegion_5 rfl (lv_at hl 0 rfl) ?_
    refine kr_get (T := TX4) (N := 7) hx hb hts hown hK (hw.lv 0 0 (rfl : (0 : Nat) = 0)) rfl kin_X4_requireRegion_X4 0 (by decide) (by decide +kernel) rfl dX4_requireRegion_6 ?_
    refine kgo_pi (kc_V (As := []) (rest := [.int x]) S hE hS hAb (kw_size l hw 0 (by decide)) (cwV 0 hts gX4_requireRegion_Jx4a65c_size_8abf5 rfl rfl rfl (by decide +kernel) ⟨Nat.le_of_ble_eq_true rfl, Nat.le_of_ble_eq_true rfl⟩) (hw.lv 1 0 (by decide : (0 : Nat) < 4)) rfl rfl hl.1 rfl (Nat.le_of_ble_eq_true rfl) dX4_requireRegion_9 ⟨Nat.zero_le _, Nat.zero_le _⟩) hS (fun locs hS => ?_)
    refine lv_icmp_lt (tgt := 25) hx hb dX4_requireRegion_12 (by decide) (fun hc => absurd hc (Int32.not_lt.mpr (h.resolve_left hc1))) (fun _ => ?_)
    exact kthrow (E := "java/lang/IndexOutOfBoundsException") (names := ["java/lang/RuntimeException", "java/lang/Exception"]) (ik := 101) (is := 169) (ic := 105) (k := 5) hst S hE hT hlocks hS hl.1 (by decide +kernel) (by decide +kernel) (by decide +kernel) rfl (by decide +kernel) (by decide +kernel) (by decide +kernel) dX4_requireRegion_15 dX4_requireRegion_18 dX4_requireRegion_19 dX4_requireRegion_21 dX4_requireRegion_24 (by decide)
theorem kin_X4_requireCheck_X4 : ∀ w ∈ wsX40, w ∈ wsX4_requireCheck := by decide +kernel
set_option maxHeartbeats 4000000 in
set_option maxRecDepth 100000 in
theorem cc_requireCheck (ε : kEnv) (l : Launch) {A : Nat → Prop} {ad : Nat → Nat → Nat} {σ : kS} {H : Heap} {r : Nat} (hw : kW ε A ad σ H) (hB : kB σ) (h : r < σ 2 0) : kPv ε l yX4_requireCheck wsX4_requireCheck ({ frames := 1, cells := 0, slots := 0, locals := 20 }) [.ref (ad 0 0), .int (nI r)] H := by
  refine kof (cc := cX4_requireCheck) (maxL := 2) (ret := none) (by decide) rfl (Nat.le_of_ble_eq_true rfl) ?_
  intro p e s m below meth c ls S hr hlocks hin hH hE hl
  have S : CallFix p m c cX4_requireCheck 2 s _ wsX4_requireCheck RX4 := S
  have hx := S.1
  have hb := S.2.1
  have hown : s.vm.findClass RX4 = some m.cls := S.2.2.2.1
  have hts := S.2.2.2.2
  have hK := hE.1
  have hS : va_S kNo s.heap H [] := by rw [hH]; exact va_S.rf
  have hAb : ∀ q, kNo q → kHi ε q := fun _ h => h.elim
  have hl : lv_has ls 2 [(0, .ref (ad 0 0)), (1, .int (nI r))] := hl
  refine lv_iload_n hx hb dX4_requireCheck_0 rfl (lv_at hl 1 rfl) ?_
  refine lv_if_lt (tgt := 15) hx hb dX4_requireCheck_1 (by decide) (fun hc => absurd hc (nI_pos (Nat.lt_trans h (hB.cnt 1 (by decide))))) (fun _ => ?_)
  refine lv_iload_n hx hb dX4_requireCheck_4 rfl (lv_at hl 1 rfl) ?_
  refine lv_aload_n hx hb dX4_requireCheck_5 rfl (lv_at hl 0 rfl) ?_
  refine kr_get (T := TX4) (N := 7) hx hb hts hown hK (hw.lv 0 0 (rfl : (0 : Nat) = 0)) rfl kin_X4_requireCheck_X4 1 (by decide) (by decide +kernel) rfl dX4_requireCheck_6 ?_
  refine kgo_pi (kc_V (As := []) (rest := [.int (nI r)]) S hE hS hAb (kw_size l hw 1 (by decide)) (cwV 0 hts gX4_requireCheck_Jx4a65c_size_8abf5 rfl rfl rfl (by decide +kernel) ⟨Nat.le_of_ble_eq_true rfl, Nat.le_of_ble_eq_true rfl⟩) (hw.lv 1 1 (by decide : (1 : Nat) < 4)) rfl rfl hl.1 rfl (Nat.le_of_ble_eq_true rfl) dX4_requireCheck_9 ⟨Nat.zero_le _, Nat.zero_le _⟩) hS (fun locs hS => ?_)
  refine lv_icmp_lt (tgt := 25) hx hb dX4_requireCheck_12 (by decide) (fun _ => ?_) (fun hc => absurd (nI_lt h (hB.cnt 1 (by decide))) hc)
  exact kend_v S hr hlocks hS rfl dX4_requireCheck_25
set_option maxHeartbeats 4000000 in
set_option maxRecDepth 100000 in
theorem cx_requireCheck (ε : kEnv) (l : Launch) {A : Nat → Prop} {ad : Nat → Nat → Nat} {σ : kS} {H : Heap} {x : Int32} (hw : kW ε A ad σ H) (hB : kB σ) (hst : l.stackTraces = false) (h : x < 0 ∨ nI (σ 2 0) ≤ x) : kX ε l yX4_requireCheck wsX4_requireCheck ({ frames := 6, cells := 1, slots := 6, locals := 90 }) [.ref (ad 0 0), .int x] H "java/lang/IndexOutOfBoundsException" := by
  refine kofX (cc := cX4_requireCheck) (maxL := 2) (ret := none) (by decide) rfl (Nat.le_of_ble_eq_true rfl) ?_
  intro p e s m below meth c ls S hr hlocks hT hH hE hl
  have S : CallFix p m c cX4_requireCheck 2 s _ wsX4_requireCheck RX4 := S
  have hx := S.1
  have hb := S.2.1
  have hown : s.vm.findClass RX4 = some m.cls := S.2.2.2.1
  have hts := S.2.2.2.2
  have hK := hE.1
  have hS : va_S kNo s.heap H [] := by rw [hH]; exact va_S.rf
  have hAb : ∀ q, kNo q → kHi ε q := fun _ h => h.elim
  have hl : lv_has ls 2 [(0, .ref (ad 0 0)), (1, .int x)] := hl
  refine lv_iload_n hx hb dX4_requireCheck_0 rfl (lv_at hl 1 rfl) ?_
  refine lv_if_lt (tgt := 15) hx hb dX4_requireCheck_1 (by decide) (fun hc1 => ?_) (fun hc1 => ?_)
  · exact kthrow (E := "java/lang/IndexOutOfBoundsException") (names := ["java/lang/RuntimeException", "java/lang/Exception"]) (ik := 101) (is := 171) (ic := 105) (k := 6) hst S hE hT hlocks hS hl.1 (by decide +kernel) (by decide +kernel) (by decide +kernel) rfl (by decide +kernel) (by decide +kernel) (by decide +kernel) dX4_requireCheck_15 dX4_requireCheck_18 dX4_requireCheck_19 dX4_requireCheck_21 dX4_requireCheck_24 (by decide)
  · refine lv_iload_n hx hb dX4_requireCheck_4 rfl (lv_at hl 1 rfl) ?_
    refine lv_aload_n hx hb dX4_requireCheck_5 rfl (lv_at hl 0 rfl) ?_
    refine kr_get (T := TX4) (N := 7) hx hb hts hown hK (hw.lv 0 0 (rfl : (0 : Nat) = 0)) rfl kin_X4_requireCheck_X4 1 (by decide) (by decide +kernel) rfl dX4_requireCheck_6 ?_
    refine kgo_pi (kc_V (As := []) (rest := [.int x]) S hE hS hAb (kw_size l hw 1 (by decide)) (cwV 0 hts gX4_requireCheck_Jx4a65c_size_8abf5 rfl rfl rfl (by decide +kernel) ⟨Nat.le_of_ble_eq_true rfl, Nat.le_of_ble_eq_true rfl⟩) (hw.lv 1 1 (by decide : (1 : Nat) < 4)) rfl rfl hl.1 rfl (Nat.le_of_ble_eq_true rfl) dX4_requireCheck_9 ⟨Nat.zero_le _, Nat.zero_le _⟩) hS (fun locs hS => ?_)
    refine lv_icmp_lt (tgt := 25) hx hb dX4_requireCheck_12 (by decide) (fun hc => absurd hc (Int32.not_lt.mpr (h.resolve_left hc1))) (fun _ => ?_)
    exact kthrow (E := "java/lang/IndexOutOfBoundsException") (names := ["java/lang/RuntimeException", "java/lang/Exception"]) (ik := 101) (is := 171) (ic := 105) (k := 6) hst S hE hT hlocks hS hl.1 (by decide +kernel) (by decide +kernel) (by decide +kernel) rfl (by decide +kernel) (by decide +kernel) (by decide +kernel) dX4_requireCheck_15 dX4_requireCheck_18 dX4_requireCheck_19 dX4_requireCheck_21 dX4_requireCheck_24 (by decide)
theorem kin_X4_requireAlarm_X4 : ∀ w ∈ wsX40, w ∈ wsX4_requireAlarm := by decide +kernel
set_option maxHeartbeats 4000000 in
set_option maxRecDepth 100000 in
theorem cc_requireAlarm (ε : kEnv) (l : Launch) {A : Nat → Prop} {ad : Nat → Nat → Nat} {σ : kS} {H : Heap} {r : Nat} (hw : kW ε A ad σ H) (hB : kB σ) (h : r < σ 4 0) : kPv ε l yX4_requireAlarm wsX4_requireAlarm ({ frames := 1, cells := 0, slots := 0, locals := 20 }) [.ref (ad 0 0), .int (nI r)] H := by
  refine kof (cc := cX4_requireAlarm) (maxL := 2) (ret := none) (by decide) rfl (Nat.le_of_ble_eq_true rfl) ?_
  intro p e s m below meth c ls S hr hlocks hin hH hE hl
  have S : CallFix p m c cX4_requireAlarm 2 s _ wsX4_requireAlarm RX4 := S
  have hx := S.1
  have hb := S.2.1
  have hown : s.vm.findClass RX4 = some m.cls := S.2.2.2.1
  have hts := S.2.2.2.2
  have hK := hE.1
  have hS : va_S kNo s.heap H [] := by rw [hH]; exact va_S.rf
  have hAb : ∀ q, kNo q → kHi ε q := fun _ h => h.elim
  have hl : lv_has ls 2 [(0, .ref (ad 0 0)), (1, .int (nI r))] := hl
  refine lv_iload_n hx hb dX4_requireAlarm_0 rfl (lv_at hl 1 rfl) ?_
  refine lv_if_lt (tgt := 15) hx hb dX4_requireAlarm_1 (by decide) (fun hc => absurd hc (nI_pos (Nat.lt_trans h (hB.cnt 3 (by decide))))) (fun _ => ?_)
  refine lv_iload_n hx hb dX4_requireAlarm_4 rfl (lv_at hl 1 rfl) ?_
  refine lv_aload_n hx hb dX4_requireAlarm_5 rfl (lv_at hl 0 rfl) ?_
  refine kr_get (T := TX4) (N := 7) hx hb hts hown hK (hw.lv 0 0 (rfl : (0 : Nat) = 0)) rfl kin_X4_requireAlarm_X4 3 (by decide) (by decide +kernel) rfl dX4_requireAlarm_6 ?_
  refine kgo_pi (kc_V (As := []) (rest := [.int (nI r)]) S hE hS hAb (kw_size l hw 3 (by decide)) (cwV 0 hts gX4_requireAlarm_Jx4a65c_size_8abf5 rfl rfl rfl (by decide +kernel) ⟨Nat.le_of_ble_eq_true rfl, Nat.le_of_ble_eq_true rfl⟩) (hw.lv 1 3 (by decide : (3 : Nat) < 4)) rfl rfl hl.1 rfl (Nat.le_of_ble_eq_true rfl) dX4_requireAlarm_9 ⟨Nat.zero_le _, Nat.zero_le _⟩) hS (fun locs hS => ?_)
  refine lv_icmp_lt (tgt := 25) hx hb dX4_requireAlarm_12 (by decide) (fun _ => ?_) (fun hc => absurd (nI_lt h (hB.cnt 3 (by decide))) hc)
  exact kend_v S hr hlocks hS rfl dX4_requireAlarm_25
set_option maxHeartbeats 4000000 in
set_option maxRecDepth 100000 in
theorem cx_requireAlarm (ε : kEnv) (l : Launch) {A : Nat → Prop} {ad : Nat → Nat → Nat} {σ : kS} {H : Heap} {x : Int32} (hw : kW ε A ad σ H) (hB : kB σ) (hst : l.stackTraces = false) (h : x < 0 ∨ nI (σ 4 0) ≤ x) : kX ε l yX4_requireAlarm wsX4_requireAlarm ({ frames := 6, cells := 1, slots := 6, locals := 90 }) [.ref (ad 0 0), .int x] H "java/lang/IndexOutOfBoundsException" := by
  refine kofX (cc := cX4_requireAlarm) (maxL := 2) (ret := none) (by decide) rfl (Nat.le_of_ble_eq_true rfl) ?_
  intro p e s m below meth c ls S hr hlocks hT hH hE hl
  have S : CallFix p m c cX4_requireAlarm 2 s _ wsX4_requireAlarm RX4 := S
  have hx := S.1
  have hb := S.2.1
  have hown : s.vm.findClass RX4 = some m.cls := S.2.2.2.1
  have hts := S.2.2.2.2
  have hK := hE.1
  have hS : va_S kNo s.heap H [] := by rw [hH]; exact va_S.rf
  have hAb : ∀ q, kNo q → kHi ε q := fun _ h => h.elim
  have hl : lv_has ls 2 [(0, .ref (ad 0 0)), (1, .int x)] := hl
  refine lv_iload_n hx hb dX4_requireAlarm_0 rfl (lv_at hl 1 rfl) ?_
  refine lv_if_lt (tgt := 15) hx hb dX4_requireAlarm_1 (by decide) (fun hc1 => ?_) (fun hc1 => ?_)
  · exact kthrow (E := "java/lang/IndexOutOfBoundsException") (names := ["java/lang/RuntimeException", "java/lang/Exception"]) (ik := 101) (is := 173) (ic := 105) (k := 7) hst S hE hT hlocks hS hl.1 (by decide +kernel) (by decide +kernel) (by decide +kernel) rfl (by decide +kernel) (by decide +kernel) (by decide +kernel) dX4_requireAlarm_15 dX4_requireAlarm_18 dX4_requireAlarm_19 dX4_requireAlarm_21 dX4_requireAlarm_24 (by decide)
  · refine lv_iload_n hx hb dX4_requireAlarm_4 rfl (lv_at hl 1 rfl) ?_
    refine lv_aload_n hx hb dX4_requireAlarm_5 rfl (lv_at hl 0 rfl) ?_
    refine kr_get (T := TX4) (N := 7) hx hb hts hown hK (hw.lv 0 0 (rfl : (0 : Nat) = 0)) rfl kin_X4_requireAlarm_X4 3 (by decide) (by decide +kernel) rfl dX4_requireAlarm_6 ?_
    refine kgo_pi (kc_V (As := []) (rest := [.int x]) S hE hS hAb (kw_size l hw 3 (by decide)) (cwV 0 hts gX4_requireAlarm_Jx4a65c_size_8abf5 rfl rfl rfl (by decide +kernel) ⟨Nat.le_of_ble_eq_true rfl, Nat.le_of_ble_eq_true rfl⟩) (hw.lv 1 3 (by decide : (3 : Nat) < 4)) rfl rfl hl.1 rfl (Nat.le_of_ble_eq_true rfl) dX4_requireAlarm_9 ⟨Nat.zero_le _, Nat.zero_le _⟩) hS (fun locs hS => ?_)
    refine lv_icmp_lt (tgt := 25) hx hb dX4_requireAlarm_12 (by decide) (fun hc => absurd hc (Int32.not_lt.mpr (h.resolve_left hc1))) (fun _ => ?_)
    exact kthrow (E := "java/lang/IndexOutOfBoundsException") (names := ["java/lang/RuntimeException", "java/lang/Exception"]) (ik := 101) (is := 173) (ic := 105) (k := 7) hst S hE hT hlocks hS hl.1 (by decide +kernel) (by decide +kernel) (by decide +kernel) rfl (by decide +kernel) (by decide +kernel) (by decide +kernel) dX4_requireAlarm_15 dX4_requireAlarm_18 dX4_requireAlarm_19 dX4_requireAlarm_21 dX4_requireAlarm_24 (by decide)
theorem kin_X4_wouldFail_X4 : ∀ w ∈ wsX40, w ∈ wsX4_wouldFail := by decide +kernel
theorem kin_X4_wouldFail_X1 : ∀ w ∈ wsX10, w ∈ wsX4_wouldFail := by decide +kernel
theorem kin_X4_wouldFail_X2 : ∀ w ∈ wsX20, w ∈ wsX4_wouldFail := by decide +kernel
set_option maxHeartbeats 4000000 in
set_option maxRecDepth 100000 in
theorem cc_wouldFail (ε : kEnv) (l : Launch) {A : Nat → Prop} {ad : Nat → Nat → Nat} {σ : kS} {H : Heap} {i r : Nat} (hw : kW ε A ad σ H) (hB : kB σ) (hi : i < σ 2 0) (hr0 : r < σ 1 0) : kPi ε l yX4_wouldFail wsX4_wouldFail ({ frames := 1, cells := 0, slots := 0, locals := 21 }) [.ref (ad 0 0), .ref (ad 4 i), .ref (ad 3 r)] H (bI (kfail σ i r)) := by
  refine kof (cc := cX4_wouldFail) (maxL := 3) (ret := (some .boolean)) (by decide) rfl (Nat.le_of_ble_eq_true rfl) ?_
  intro p e s m below meth c ls S hr hlocks hin hH hE hl
  have S : CallFix p m c cX4_wouldFail 3 s _ wsX4_wouldFail RX4 := S
  have hx := S.1
  have hb := S.2.1
  have hown : s.vm.findClass RX4 = some m.cls := S.2.2.2.1
  have hts := S.2.2.2.2
  have hK := hE.1
  have hS : va_S kNo s.heap H [] := by rw [hH]; exact va_S.rf
  have hAb : ∀ q, kNo q → kHi ε q := fun _ h => h.elim
  have hl : lv_has ls 3 [(0, .ref (ad 0 0)), (1, .ref (ad 4 i)), (2, .ref (ad 3 r))] := hl
  refine lv_aload_n hx hb dX4_wouldFail_0 rfl (lv_at hl 1 rfl) ?_
  refine kr_get (T := TX1) (N := 13) hx hb hts hown hK (hw.lv 4 i hi) rfl kin_X4_wouldFail_X1 5 (by decide) (by decide +kernel) rfl dX4_wouldFail_1 ?_
  refine lv_aload_n hx hb dX4_wouldFail_4 rfl (lv_at hl 2 rfl) ?_
  refine kr_get (T := TX2) (N := 4) hx hb hts hown hK (hw.lv 3 r hr0) rfl kin_X4_wouldFail_X2 0 (by decide) (by decide +kernel) rfl dX4_wouldFail_5 ?_
  refine kgo_pi (kc_S (As := [.int (nI (σ 30 i)), .int (nI r)]) (rest := []) S hE hS hAb (cc_holds ε l (hB.ck i hi).2.2.2.2.2.1 (hB.r6 hr0)) (va_cwS 2 hts gX4_wouldFail_X4_holds rfl rfl rfl (by decide +kernel) ⟨Nat.le_of_ble_eq_true rfl, Nat.le_of_ble_eq_true rfl⟩) rfl hl.1 rfl (Nat.le_of_ble_eq_true rfl) dX4_wouldFail_8 ⟨Nat.zero_le _, Nat.zero_le _⟩) hS (fun locs hS => ?_)
  refine lv_if_ne (tgt := 26) hx hb dX4_wouldFail_11 (by decide) (fun hc => ?_) (fun hc => ?_)
  · refine lv_iconst (v := 1) hx hb dX4_wouldFail_26 (by decide) ?_
    refine lv_goto (tgt := 31) hx hb dX4_wouldFail_27 (by decide) ?_
    refine kend_z S hr hlocks hS ⟨?_, rfl⟩ (Or.inr rfl) dX4_wouldFail_31
    unfold kfail
    rw [bI_ne0.mp hc]
    rfl
  · refine lv_aload_n hx hb dX4_wouldFail_14 rfl (lv_at hl 2 rfl) ?_
    refine kr_get (T := TX2) (N := 4) hx hb hts hown hK (hw.lv 3 r hr0) rfl kin_X4_wouldFail_X2 1 (by decide) (by decide +kernel) rfl dX4_wouldFail_15 ?_
    refine lv_aload_n hx hb dX4_wouldFail_18 rfl (lv_at hl 0 rfl) ?_
    refine kr_get (T := TX4) (N := 7) hx hb hts hown hK (hw.lv 0 0 (rfl : (0 : Nat) = 0)) rfl kin_X4_wouldFail_X4 4 (by decide) (by decide +kernel) rfl dX4_wouldFail_19 ?_
    refine lv_iand hx hb dX4_wouldFail_22 ?_
    refine lv_if_eq (tgt := 30) hx hb dX4_wouldFail_23 (by decide) (fun hc2 => ?_) (fun hc2 => ?_)
    · refine lv_iconst (v := 0) hx hb dX4_wouldFail_30 (by decide) ?_
      refine kend_z S hr hlocks hS ⟨?_, rfl⟩ (Or.inl rfl) dX4_wouldFail_31
      have h1 := (kb_meet _ (hB.rg r hr0).1 _ hB.cut).mp hc2
      unfold kfail
      rw [bI_eq0.mp hc, h1]
      rfl
    · refine lv_iconst (v := 1) hx hb dX4_wouldFail_26 (by decide) ?_
      refine lv_goto (tgt := 31) hx hb dX4_wouldFail_27 (by decide) ?_
      refine kend_z S hr hlocks hS ⟨?_, rfl⟩ (Or.inr rfl) dX4_wouldFail_31
      have h1 : (σ 11 r &&& σ 14 0) ≠ 0 := fun h => hc2 ((kb_meet _ (hB.rg r hr0).1 _ hB.cut).mpr h)
      unfold kfail
      rw [bI_eq0.mp hc, show ((σ 11 r &&& σ 14 0) != 0) = true by simpa using h1]
      rfl
theorem kin_X1_nextMinuteFrom_X1 : ∀ w ∈ wsX10, w ∈ wsX1_nextMinuteFrom := by decide +kernel
theorem kin_X1_isDue_X1 : ∀ w ∈ wsX10, w ∈ wsX1_isDue := by decide +kernel
set_option maxHeartbeats 4000000 in
set_option maxRecDepth 100000 in
theorem cc_next (ε : kEnv) (l : Launch) {A : Nat → Prop} {ad : Nat → Nat → Nat} {σ : kS} {H : Heap} {i r t : Nat} (hw : kW ε A ad σ H) (hB : kB σ) (hi : i < σ 2 0) (hr6 : r < 6) (ht : t ≤ 200000) : kPi ε l yX1_nextMinuteFrom wsX1_nextMinuteFrom ({ frames := 0, cells := 0, slots := 0, locals := 0 }) [.ref (ad 4 i), .int (nI r), .int (nI t)] H (nI (kNext σ i r t)) := by
  refine kof (cc := cX1_nextMinuteFrom) (maxL := 5) (ret := (some .int)) (by decide) rfl (Nat.le_of_ble_eq_true rfl) ?_
  intro p e s m below meth c ls S hr hlocks hin hH hE hl
  have S : CallFix p m c cX1_nextMinuteFrom 5 s _ wsX1_nextMinuteFrom RX1 := S
  have hx := S.1
  have hb := S.2.1
  have hown : s.vm.findClass RX1 = some m.cls := S.2.2.2.1
  have hts := S.2.2.2.2
  have hK := hE.1
  have hS : va_S kNo s.heap H [] := by rw [hH]; exact va_S.rf
  have hAb : ∀ q, kNo q → kHi ε q := fun _ h => h.elim
  have hl : lv_has ls 5 [(0, .ref (ad 4 i)), (1, .int (nI r)), (2, .int (nI t))] := hl
  have hk := hB.ck i hi
  have hp := hB.pr i r hi hr6
  refine lv_aload_n hx hb dX1_nextMinuteFrom_0 rfl (lv_at hl 0 rfl) ?_
  refine kr_get (T := TX1) (N := 13) hx hb hts hown hK (hw.lv 4 i hi) rfl kin_X1_nextMinuteFrom_X1 7 (by decide) (by decide +kernel) rfl dX1_nextMinuteFrom_1 ?_
  refine lv_iload_n hx hb dX1_nextMinuteFrom_4 rfl (lv_at hl 1 rfl) ?_
  refine kr_ild hx hb hK (hw.lv 6 i hi) (j := r) hr6 (nI_clamp (ks31 hr6)) (nI_pos (ks31 hr6)) (x := nI (σ 32 (6 * i + r))) rfl dX1_nextMinuteFrom_5 ?_
  refine lv_if_eq (tgt := 16) hx hb dX1_nextMinuteFrom_6 (by decide) (fun hc => ?_) (fun hc => ?_)
  · have hz : σ 32 (6 * i + r) = 0 := (nI_eq (by omega) (by decide)).mp hc
    refine lv_aload_n hx hb dX1_nextMinuteFrom_16 rfl (lv_at hl 0 rfl) ?_
    refine kr_get (T := TX1) (N := 13) hx hb hts hown hK (hw.lv 4 i hi) rfl kin_X1_nextMinuteFrom_X1 2 (by decide) (by decide +kernel) rfl dX1_nextMinuteFrom_17 ?_
    refine lv_iload_n hx hb dX1_nextMinuteFrom_20 rfl (lv_at hl 1 rfl) ?_
    refine lv_iadd hx hb dX1_nextMinuteFrom_21 ?_
    refine kr_top (y := nI (σ 21 i + r)) (nI_add _ _) ?_
    refine lv_istore_n (lv' := [(3, .int (nI (σ 21 i + r))), (0, .ref (ad 4 i)), (1, .int (nI r)), (2, .int (nI t))]) hx hb dX1_nextMinuteFrom_22 rfl hl (by decide) rfl (fun ls hl => ?_)
    refine lv_iload_n hx hb dX1_nextMinuteFrom_23 rfl (lv_at hl 3 rfl) ?_
    refine lv_iload_n hx hb dX1_nextMinuteFrom_24 rfl (lv_at hl 0 rfl) ?_
    refine lv_icmp_gt (tgt := 30) hx hb dX1_nextMinuteFrom_25 (by decide) (fun hc2 => ?_) (fun hc2 => ?_)
    · have hle : ¬ t ≤ σ 21 i + r := fun h => absurd hc2 (nI_nlt h (by omega))
      refine lv_iload_n hx hb dX1_nextMinuteFrom_30 rfl (lv_at hl 3 rfl) ?_
      refine lv_iload_n hx hb dX1_nextMinuteFrom_31 rfl (lv_at hl 0 rfl) ?_
      refine lv_isub hx hb dX1_nextMinuteFrom_32 ?_
      refine kr_top (y := nI (t - (σ 21 i + r))) (pk_sub (by omega)) ?_
      refine lv_aload_n hx hb dX1_nextMinuteFrom_33 rfl (lv_at hl 1 rfl) ?_
      refine kr_get (T := TX1) (N := 13) hx hb hts hown hK (hw.lv 4 i hi) rfl kin_X1_nextMinuteFrom_X1 1 (by decide) (by decide +kernel) rfl dX1_nextMinuteFrom_34 ?_
      refine lv_irem hx hb dX1_nextMinuteFrom_37 (nI_ne0 (by omega) (by omega)) ?_
      refine kr_top (y := nI ((t - (σ 21 i + r)) % σ 20 i)) (pk_rem (by omega) (by omega) (by omega)) ?_
      have hlt := Nat.mod_lt (t - (σ 21 i + r)) (show 0 < σ 20 i by omega)
      refine lv_istore (lv' := [(4, .int (nI ((t - (σ 21 i + r)) % σ 20 i))), (3, .int (nI (σ 21 i + r))), (0, .ref (ad 4 i)), (1, .int (nI r)), (2, .int (nI t))]) hx hb dX1_nextMinuteFrom_38 hl (by decide) rfl (fun ls hl => ?_)
      refine lv_iload hx hb dX1_nextMinuteFrom_40 (lv_at hl 0 rfl) ?_
      refine lv_if_ne (tgt := 49) hx hb dX1_nextMinuteFrom_42 (by decide) (fun hc3 => ?_) (fun hc3 => ?_)
      · refine lv_iload_n hx hb dX1_nextMinuteFrom_49 rfl (lv_at hl 4 rfl) ?_
        refine lv_aload_n hx hb dX1_nextMinuteFrom_50 rfl (lv_at hl 2 rfl) ?_
        refine kr_get (T := TX1) (N := 13) hx hb hts hown hK (hw.lv 4 i hi) rfl kin_X1_nextMinuteFrom_X1 1 (by decide) (by decide +kernel) rfl dX1_nextMinuteFrom_51 ?_
        refine lv_iadd hx hb dX1_nextMinuteFrom_54 ?_
        refine lv_iload hx hb dX1_nextMinuteFrom_55 (lv_at hl 0 rfl) ?_
        refine lv_isub hx hb dX1_nextMinuteFrom_57 ?_
        have hne : ¬ (t - (σ 21 i + r)) % σ 20 i = 0 := fun h => hc3 ((nI_eq (by omega) (by decide)).mpr h)
        refine kend_i S hr hlocks hS ⟨?_, rfl⟩ dX1_nextMinuteFrom_58
        unfold kNext
        rw [if_neg (fun h => h hz), if_neg hle, if_neg hne, nI_add, pk_sub (by omega)]
      · refine lv_iload_n hx hb dX1_nextMinuteFrom_45 rfl (lv_at hl 4 rfl) ?_
        refine lv_goto (tgt := 58) hx hb dX1_nextMinuteFrom_46 (by decide) ?_
        have heq : (t - (σ 21 i + r)) % σ 20 i = 0 := (nI_eq (by omega) (by decide)).mp hc3
        refine kend_i S hr hlocks hS ⟨?_, rfl⟩ dX1_nextMinuteFrom_58
        unfold kNext
        rw [if_neg (fun h => h hz), if_neg hle, if_pos heq]
    · have hle : t ≤ σ 21 i + r := by
        rcases Nat.lt_or_ge (σ 21 i + r) t with h | h
        · exact absurd (nI_lt h (by omega)) hc2
        · exact h
      refine lv_iload_n hx hb dX1_nextMinuteFrom_28 rfl (lv_at hl 0 rfl) ?_
      refine kend_i S hr hlocks hS ⟨?_, rfl⟩ dX1_nextMinuteFrom_29
      unfold kNext
      rw [if_neg (fun h => h hz), if_pos hle]
  · have hz : ¬ σ 32 (6 * i + r) = 0 := fun h => hc ((nI_eq (by omega) (by decide)).mpr h)
    refine lv_aload_n hx hb dX1_nextMinuteFrom_9 rfl (lv_at hl 0 rfl) ?_
    refine kr_get (T := TX1) (N := 13) hx hb hts hown hK (hw.lv 4 i hi) rfl kin_X1_nextMinuteFrom_X1 8 (by decide) (by decide +kernel) rfl dX1_nextMinuteFrom_10 ?_
    refine lv_iload_n hx hb dX1_nextMinuteFrom_13 rfl (lv_at hl 1 rfl) ?_
    refine kr_ild hx hb hK (hw.lv 7 i hi) (j := r) hr6 (nI_clamp (ks31 hr6)) (nI_pos (ks31 hr6)) (x := nI (σ 33 (6 * i + r))) rfl dX1_nextMinuteFrom_14 ?_
    refine kend_i S hr hlocks hS ⟨?_, rfl⟩ dX1_nextMinuteFrom_15
    unfold kNext
    rw [if_pos hz]
set_option maxHeartbeats 4000000 in
set_option maxRecDepth 100000 in
theorem cc_isDue (ε : kEnv) (l : Launch) {A : Nat → Prop} {ad : Nat → Nat → Nat} {σ : kS} {H : Heap} {i r t : Nat} (hw : kW ε A ad σ H) (hB : kB σ) (hi : i < σ 2 0) (hr6 : r < 6) (ht : t ≤ 200000) : kPi ε l yX1_isDue wsX1_isDue ({ frames := 1, cells := 0, slots := 0, locals := 24 }) [.ref (ad 4 i), .int (nI r), .int (nI t)] H (bI (kNext σ i r t == t)) := by
  refine kof (cc := cX1_isDue) (maxL := 3) (ret := (some .boolean)) (by decide) rfl (Nat.le_of_ble_eq_true rfl) ?_
  intro p e s m below meth c ls S hr hlocks hin hH hE hl
  have S : CallFix p m c cX1_isDue 3 s _ wsX1_isDue RX1 := S
  have hx := S.1
  have hb := S.2.1
  have hown : s.vm.findClass RX1 = some m.cls := S.2.2.2.1
  have hts := S.2.2.2.2
  have hK := hE.1
  have hS : va_S kNo s.heap H [] := by rw [hH]; exact va_S.rf
  have hAb : ∀ q, kNo q → kHi ε q := fun _ h => h.elim
  have hl : lv_has ls 3 [(0, .ref (ad 4 i)), (1, .int (nI r)), (2, .int (nI t))] := hl
  refine lv_aload_n hx hb dX1_isDue_0 rfl (lv_at hl 0 rfl) ?_
  refine lv_iload_n hx hb dX1_isDue_1 rfl (lv_at hl 1 rfl) ?_
  refine lv_iload_n hx hb dX1_isDue_2 rfl (lv_at hl 2 rfl) ?_
  refine kgo_pi (kc_V (As := [.int (nI r), .int (nI t)]) (rest := []) S hE hS hAb (cc_next ε l hw hB hi hr6 ht) (cwV 2 hts gX1_isDue_X1_nextMinuteFrom rfl rfl rfl (by decide +kernel) ⟨Nat.le_of_ble_eq_true rfl, Nat.le_of_ble_eq_true rfl⟩) (hw.lv 4 i hi) rfl rfl hl.1 rfl (Nat.le_of_ble_eq_true rfl) dX1_isDue_3 ⟨Nat.zero_le _, Nat.zero_le _⟩) hS (fun locs hS => ?_)
  refine lv_iload_n hx hb dX1_isDue_6 rfl (lv_at hl 2 rfl) ?_
  have h31 : kNext σ i r t < 2 ^ 31 := kNext_lt hB hi hr6 ht
  refine lv_icmp_ne (tgt := 14) hx hb dX1_isDue_7 (by decide) (fun hc => ?_) (fun hc => ?_)
  · refine lv_iconst (v := 0) hx hb dX1_isDue_14 (by decide) ?_
    refine kend_z S hr hlocks hS ⟨?_, rfl⟩ (Or.inl rfl) dX1_isDue_15
    have h1 : ¬ kNext σ i r t = t := fun h => hc ((nI_eq h31 (by omega)).mpr h)
    rw [show (kNext σ i r t == t) = false by simpa using h1]
    rfl
  · refine lv_iconst (v := 1) hx hb dX1_isDue_10 (by decide) ?_
    refine lv_goto (tgt := 15) hx hb dX1_isDue_11 (by decide) ?_
    refine kend_z S hr hlocks hS ⟨?_, rfl⟩ (Or.inr rfl) dX1_isDue_15
    have h1 : kNext σ i r t = t := (nI_eq h31 (by omega)).mp hc
    rw [show (kNext σ i r t == t) = true by simpa using h1]
    rfl
end
section
/-! ===== writing one cell of the class's world ===== -/
theorem kV_ext {cI : ClassId} {n : Nat} {f g : Nat → Value} (h : ∀ j, j < n → f j = g j) : arrV cI n f = arrV cI n g := by
  have h1 : (fun j : Fin n => f j.val) = fun j => g j.val := funext fun j => h j.val j.isLt
  unfold arrV
  rw [h1]
theorem kI_ext {ε : kEnv} {a n : Nat} {f g : Nat → Int32} {H : Heap} (h : ∀ j, j < n → f j = g j) (ha : kat ε a (kI ε n f) H) : kat ε a (kI ε n g) H := by
  show H[a]? = some (vp_cell _ _)
  rw [show H[a]? = some (vp_cell (ε.2.1 0) (n, .inl f)) from ha, vp_cell_i, vp_cell_i]
  exact congrArg some (kV_ext (fun j hj => by rw [h j hj]))
theorem kZ_ext {ε : kEnv} {a n : Nat} {f g : Nat → Int32} {H : Heap} (h : ∀ j, j < n → f j = g j) (ha : kat ε a (kZ ε n f) H) : kat ε a (kZ ε n g) H := by
  show H[a]? = some (vp_cell _ _)
  rw [show H[a]? = some (vp_cell (ε.2.1 1) (n, .inl f)) from ha, vp_cell_i, vp_cell_i]
  exact congrArg some (kV_ext (fun j hj => by rw [h j hj]))
theorem kO_ext {ε : kEnv} {a n : Nat} {f g : Nat → Option Nat} {H : Heap} (h : ∀ j, j < n → f j = g j) (ha : kat ε a (kO ε n f) H) : kat ε a (kO ε n g) H := by
  show H[a]? = some (vp_cell _ _)
  rw [show H[a]? = some (vp_cell (ε.2.1 2) (n, .inr (.inr (.inr (.inr f))))) from ha, vp_cell_q, vp_cell_q]
  exact congrArg some (kV_ext (fun j hj => by rw [h j hj]))
/-- the fields that a cell shows -/
def kAg (σ σ' : kS) (k i : Nat) : Prop := match k with
  | 0 => σ' 14 0 = σ 14 0 ∧ σ' 15 0 = σ 15 0 ∧ σ' 0 0 = σ 0 0
  | 1 => σ' (i + 1) 0 = σ (i + 1) 0
  | 2 => σ' (i + 1) 0 = σ (i + 1) 0
  | 3 => σ' 11 i = σ 11 i ∧ σ' 12 i = σ 12 i ∧ σ' 13 i = σ 13 i
  | 4 => (σ' 20 i = σ 20 i ∧ σ' 21 i = σ 21 i ∧ σ' 22 i = σ 22 i ∧ σ' 23 i = σ 23 i) ∧ σ' 30 i = σ 30 i ∧ σ' 24 i = σ 24 i ∧ σ' 25 i = σ 25 i ∧ σ' 26 i = σ 26 i ∧ σ' 27 i = σ 27 i
  | 5 => ∀ r, r < 6 → σ' 31 (6 * i + r) = σ 31 (6 * i + r)
  | 6 => ∀ r, r < 6 → σ' 32 (6 * i + r) = σ 32 (6 * i + r)
  | 7 => ∀ r, r < 6 → σ' 33 (6 * i + r) = σ 33 (6 * i + r)
  | 8 => σ' 40 i = σ 40 i ∧ σ' 41 i = σ 41 i ∧ σ' 42 i = σ 42 i
  | _ => σ' 50 i = σ 50 i ∧ σ' 51 i = σ 51 i ∧ σ' 52 i = σ 52 i
theorem kAg.at {ε : kEnv} {ad : Nat → Nat → Nat} {σ σ' : kS} {H : Heap} {a : Nat} {k i : Nat} (h : kAg σ σ' k i) (ha : kat ε a (kC ε ad σ k i) H) : kat ε a (kC ε ad σ' k i) H := by
  match k, h, ha with
  | 0, h, ha => obtain ⟨h1, h2, h3⟩ := h; simp only [kC, h1, h2, h3]; exact ha
  | 1, h, ha => have h1 : σ' (i + 1) 0 = σ (i + 1) 0 := h; simp only [kC, h1]; exact ha
  | 2, h, ha => have h1 : σ' (i + 1) 0 = σ (i + 1) 0 := h; simp only [kC, h1]; exact ha
  | 3, h, ha => obtain ⟨h1, h2, h3⟩ := h; simp only [kC, h1, h2, h3]; exact ha
  | 4, h, ha => obtain ⟨⟨h1, h2, h3, h4⟩, h5, h6, h7, h8, h9⟩ := h; simp only [kC, h1, h2, h3, h4, h5, h6, h7, h8, h9]; exact ha
  | 5, h, ha => exact kI_ext (fun j hj => by rw [h j hj]) ha
  | 6, h, ha => exact kI_ext (fun j hj => by rw [h j hj]) ha
  | 7, h, ha => exact kI_ext (fun j hj => by rw [h j hj]) ha
  | 8, h, ha => obtain ⟨h1, h2, h3⟩ := h; simp only [kC, h1, h2, h3]; exact ha
  | k + 9, h, ha => obtain ⟨h1, h2, h3⟩ := h; simp only [kC, h1, h2, h3]; exact ha
theorem kLv_ag {σ σ' : kS} (h : ∀ i, i < 4 → σ' (i + 1) 0 = σ (i + 1) 0) (k i : Nat) : kLv σ' k i ↔ kLv σ k i := by
  have h0 := h 0 (by decide)
  have h1 := h 1 (by decide)
  have h2 := h 2 (by decide)
  have h3 := h 3 (by decide)
  match k with
  | 0 => exact Iff.rfl
  | 1 => exact Iff.rfl
  | 2 => exact and_congr_right fun hi => by rw [h i hi]
  | 3 => show i < σ' 1 0 ↔ i < σ 1 0; rw [show σ' 1 0 = σ 1 0 from h0]
  | 4 => show i < σ' 2 0 ↔ i < σ 2 0; rw [show σ' 2 0 = σ 2 0 from h1]
  | 5 => show i < σ' 2 0 ↔ i < σ 2 0; rw [show σ' 2 0 = σ 2 0 from h1]
  | 6 => show i < σ' 2 0 ↔ i < σ 2 0; rw [show σ' 2 0 = σ 2 0 from h1]
  | 7 => show i < σ' 2 0 ↔ i < σ 2 0; rw [show σ' 2 0 = σ 2 0 from h1]
  | 8 => show i < σ' 3 0 ↔ i < σ 3 0; rw [show σ' 3 0 = σ 3 0 from h2]
  | 9 => show i < σ' 4 0 ↔ i < σ 4 0; rw [show σ' 4 0 = σ 4 0 from h3]
  | k + 10 => exact Iff.rfl
theorem kW.put {ε : kEnv} {A : Nat → Prop} {ad : Nat → Nat → Nat} {σ σ' : kS} {H H1 : Heap} (h : kW ε A ad σ H) (k0 i0 : Nat) (h0 : kLv σ k0 i0) (hU : kU (ad k0 i0) H H1) (hz : ∀ i, i < 4 → σ' (i + 1) 0 = σ (i + 1) 0)
    (h1 : kat ε (ad k0 i0) (kC ε ad σ' k0 i0) H1) (hc : ∀ k i, kLv σ k i → (k ≠ k0 ∨ i ≠ i0) → kAg σ σ' k i) : kW ε A ad σ' H1 := by
  have hl := kLv_ag hz
  refine ⟨fun k i hi => ?_, fun k i k' i' hi hi' => h.2.1 k i k' i' ((hl k i).mp hi) ((hl k' i').mp hi'), fun i hi he => h.2.2 i hi (by rw [← hz i hi]; exact he)⟩
  have hi := (hl k i).mp hi
  refine ⟨?_, (h.1 k i hi).2⟩
  by_cases hk : k = k0 ∧ i = i0
  · obtain ⟨rfl, rfl⟩ := hk
    exact h1
  · have hk' : k ≠ k0 ∨ i ≠ i0 := by
      by_cases h : k = k0
      · exact Or.inr (fun hi => hk ⟨h, hi⟩)
      · exact Or.inl h
    refine (hc k i hi hk').at (va_at.kept (h.1 k i hi).1 (hU.2 _ (fun he => ?_)))
    exact hk (h.2.1 k i k0 i0 hi h0 he)
theorem kw_p0 {ε : kEnv} {A : Nat → Prop} {ad : Nat → Nat → Nat} {σ : kS} {H H1 : Heap} {v : Nat} (hw : kW ε A ad σ H) (hU : kU (ad 0 0) H H1) (ho : kat ε (ad 0 0) (.inr (5, [.ref (ad 1 0), .ref (ad 1 1), .ref (ad 1 2), .ref (ad 1 3), .int (nI (σ 14 0)), .int (nI (σ 15 0)), .int (nI v)])) H1) : kW ε A ad (ku σ 0 0 v) H1 := by
  refine hw.put 0 0 (rfl : (0 : Nat) = 0) hU (fun j hj => ku_f _ _ _ _ (by omega)) (by rw [show kC ε ad (ku σ 0 0 v) 0 0 = .inr (5, [.ref (ad 1 0), .ref (ad 1 1), .ref (ad 1 2), .ref (ad 1 3), .int (nI (σ 14 0)), .int (nI (σ 15 0)), .int (nI v)]) from by simp [kC, ku]]; exact ho) ?_
  intro k j hl hne
  match k, hl, hne with
  | 0, hl, hne => exact absurd hl (fun h => hne.elim (fun z => z rfl) (fun z => z h))
  | 1, hl, hne => exact ku_f _ _ _ _ (by have : j < 4 := hl; omega)
  | 2, hl, hne => exact ku_f _ _ _ _ (by have : j < 4 := hl.1; omega)
  | 3, hl, hne => simp [kAg, ku]
  | 4, hl, hne => simp [kAg, ku]
  | 5, hl, hne => simp [kAg, ku]
  | 6, hl, hne => simp [kAg, ku]
  | 7, hl, hne => simp [kAg, ku]
  | 8, hl, hne => simp [kAg, ku]
  | 9, hl, hne => simp [kAg, ku]
  | k + 10, hl, hne => exact hl.elim
theorem kw_p14 {ε : kEnv} {A : Nat → Prop} {ad : Nat → Nat → Nat} {σ : kS} {H H1 : Heap} {v : Nat} (hw : kW ε A ad σ H) (hU : kU (ad 0 0) H H1) (ho : kat ε (ad 0 0) (.inr (5, [.ref (ad 1 0), .ref (ad 1 1), .ref (ad 1 2), .ref (ad 1 3), .int (nI v), .int (nI (σ 15 0)), .int (nI (σ 0 0))])) H1) : kW ε A ad (ku σ 14 0 v) H1 := by
  refine hw.put 0 0 (rfl : (0 : Nat) = 0) hU (fun j hj => ku_f _ _ _ _ (by omega)) (by rw [show kC ε ad (ku σ 14 0 v) 0 0 = .inr (5, [.ref (ad 1 0), .ref (ad 1 1), .ref (ad 1 2), .ref (ad 1 3), .int (nI v), .int (nI (σ 15 0)), .int (nI (σ 0 0))]) from by simp [kC, ku]]; exact ho) ?_
  intro k j hl hne
  match k, hl, hne with
  | 0, hl, hne => exact absurd hl (fun h => hne.elim (fun z => z rfl) (fun z => z h))
  | 1, hl, hne => exact ku_f _ _ _ _ (by have : j < 4 := hl; omega)
  | 2, hl, hne => exact ku_f _ _ _ _ (by have : j < 4 := hl.1; omega)
  | 3, hl, hne => simp [kAg, ku]
  | 4, hl, hne => simp [kAg, ku]
  | 5, hl, hne => simp [kAg, ku]
  | 6, hl, hne => simp [kAg, ku]
  | 7, hl, hne => simp [kAg, ku]
  | 8, hl, hne => simp [kAg, ku]
  | 9, hl, hne => simp [kAg, ku]
  | k + 10, hl, hne => exact hl.elim
theorem kw_p15 {ε : kEnv} {A : Nat → Prop} {ad : Nat → Nat → Nat} {σ : kS} {H H1 : Heap} {v : Nat} (hw : kW ε A ad σ H) (hU : kU (ad 0 0) H H1) (ho : kat ε (ad 0 0) (.inr (5, [.ref (ad 1 0), .ref (ad 1 1), .ref (ad 1 2), .ref (ad 1 3), .int (nI (σ 14 0)), .int (nI v), .int (nI (σ 0 0))])) H1) : kW ε A ad (ku σ 15 0 v) H1 := by
  refine hw.put 0 0 (rfl : (0 : Nat) = 0) hU (fun j hj => ku_f _ _ _ _ (by omega)) (by rw [show kC ε ad (ku σ 15 0 v) 0 0 = .inr (5, [.ref (ad 1 0), .ref (ad 1 1), .ref (ad 1 2), .ref (ad 1 3), .int (nI (σ 14 0)), .int (nI v), .int (nI (σ 0 0))]) from by simp [kC, ku]]; exact ho) ?_
  intro k j hl hne
  match k, hl, hne with
  | 0, hl, hne => exact absurd hl (fun h => hne.elim (fun z => z rfl) (fun z => z h))
  | 1, hl, hne => exact ku_f _ _ _ _ (by have : j < 4 := hl; omega)
  | 2, hl, hne => exact ku_f _ _ _ _ (by have : j < 4 := hl.1; omega)
  | 3, hl, hne => simp [kAg, ku]
  | 4, hl, hne => simp [kAg, ku]
  | 5, hl, hne => simp [kAg, ku]
  | 6, hl, hne => simp [kAg, ku]
  | 7, hl, hne => simp [kAg, ku]
  | 8, hl, hne => simp [kAg, ku]
  | 9, hl, hne => simp [kAg, ku]
  | k + 10, hl, hne => exact hl.elim
theorem kw_p12 {ε : kEnv} {A : Nat → Prop} {ad : Nat → Nat → Nat} {σ : kS} {H H1 : Heap} {i : Nat} {v : Nat} (hw : kW ε A ad σ H) (hi : i < σ 1 0) (hU : kU (ad 3 i) H H1) (ho : kat ε (ad 3 i) (.inr (3, [.int (nI i), .int (nI (σ 11 i)), .int (nI v), .int (nI (σ 13 i))])) H1) : kW ε A ad (ku σ 12 i v) H1 := by
  refine hw.put 3 i hi hU (fun j hj => ku_f _ _ _ _ (by omega)) (by rw [show kC ε ad (ku σ 12 i v) 3 i = .inr (3, [.int (nI i), .int (nI (σ 11 i)), .int (nI v), .int (nI (σ 13 i))]) from by simp [kC, ku]]; exact ho) ?_
  intro k j hl hne
  match k, hl, hne with
  | 0, hl, hne => simp [kAg, ku]
  | 1, hl, hne => exact ku_f _ _ _ _ (by have : j < 4 := hl; omega)
  | 2, hl, hne => exact ku_f _ _ _ _ (by have : j < 4 := hl.1; omega)
  | 3, hl, hne => have hj : j ≠ i := hne.resolve_left (fun z => z rfl); simp [kAg, ku, hj]
  | 4, hl, hne => simp [kAg, ku]
  | 5, hl, hne => simp [kAg, ku]
  | 6, hl, hne => simp [kAg, ku]
  | 7, hl, hne => simp [kAg, ku]
  | 8, hl, hne => simp [kAg, ku]
  | 9, hl, hne => simp [kAg, ku]
  | k + 10, hl, hne => exact hl.elim
theorem kw_p13 {ε : kEnv} {A : Nat → Prop} {ad : Nat → Nat → Nat} {σ : kS} {H H1 : Heap} {i : Nat} {v : Nat} (hw : kW ε A ad σ H) (hi : i < σ 1 0) (hU : kU (ad 3 i) H H1) (ho : kat ε (ad 3 i) (.inr (3, [.int (nI i), .int (nI (σ 11 i)), .int (nI (σ 12 i)), .int (nI v)])) H1) : kW ε A ad (ku σ 13 i v) H1 := by
  refine hw.put 3 i hi hU (fun j hj => ku_f _ _ _ _ (by omega)) (by rw [show kC ε ad (ku σ 13 i v) 3 i = .inr (3, [.int (nI i), .int (nI (σ 11 i)), .int (nI (σ 12 i)), .int (nI v)]) from by simp [kC, ku]]; exact ho) ?_
  intro k j hl hne
  match k, hl, hne with
  | 0, hl, hne => simp [kAg, ku]
  | 1, hl, hne => exact ku_f _ _ _ _ (by have : j < 4 := hl; omega)
  | 2, hl, hne => exact ku_f _ _ _ _ (by have : j < 4 := hl.1; omega)
  | 3, hl, hne => have hj : j ≠ i := hne.resolve_left (fun z => z rfl); simp [kAg, ku, hj]
  | 4, hl, hne => simp [kAg, ku]
  | 5, hl, hne => simp [kAg, ku]
  | 6, hl, hne => simp [kAg, ku]
  | 7, hl, hne => simp [kAg, ku]
  | 8, hl, hne => simp [kAg, ku]
  | 9, hl, hne => simp [kAg, ku]
  | k + 10, hl, hne => exact hl.elim
theorem kw_p23 {ε : kEnv} {A : Nat → Prop} {ad : Nat → Nat → Nat} {σ : kS} {H H1 : Heap} {i : Nat} {v : Nat} (hw : kW ε A ad σ H) (hi : i < σ 2 0) (hU : kU (ad 4 i) H H1) (ho : kat ε (ad 4 i) (.inr (2, [.int (nI i), .int (nI (σ 20 i)), .int (nI (σ 21 i)), .int (nI (σ 22 i)), .int (nI v), .int (nI (σ 30 i)), .ref (ad 5 i), .ref (ad 6 i), .ref (ad 7 i), .int (nI (σ 24 i)), va_rf (kop ad (σ 25 i)), .int (nI (σ 26 i)), .int (nI (σ 27 i))])) H1) : kW ε A ad (ku σ 23 i v) H1 := by
  refine hw.put 4 i hi hU (fun j hj => ku_f _ _ _ _ (by omega)) (by rw [show kC ε ad (ku σ 23 i v) 4 i = .inr (2, [.int (nI i), .int (nI (σ 20 i)), .int (nI (σ 21 i)), .int (nI (σ 22 i)), .int (nI v), .int (nI (σ 30 i)), .ref (ad 5 i), .ref (ad 6 i), .ref (ad 7 i), .int (nI (σ 24 i)), va_rf (kop ad (σ 25 i)), .int (nI (σ 26 i)), .int (nI (σ 27 i))]) from by simp [kC, ku]]; exact ho) ?_
  intro k j hl hne
  match k, hl, hne with
  | 0, hl, hne => simp [kAg, ku]
  | 1, hl, hne => exact ku_f _ _ _ _ (by have : j < 4 := hl; omega)
  | 2, hl, hne => exact ku_f _ _ _ _ (by have : j < 4 := hl.1; omega)
  | 3, hl, hne => simp [kAg, ku]
  | 4, hl, hne => have hj : j ≠ i := hne.resolve_left (fun z => z rfl); simp [kAg, ku, hj]
  | 5, hl, hne => simp [kAg, ku]
  | 6, hl, hne => simp [kAg, ku]
  | 7, hl, hne => simp [kAg, ku]
  | 8, hl, hne => simp [kAg, ku]
  | 9, hl, hne => simp [kAg, ku]
  | k + 10, hl, hne => exact hl.elim
theorem kw_p24 {ε : kEnv} {A : Nat → Prop} {ad : Nat → Nat → Nat} {σ : kS} {H H1 : Heap} {i : Nat} {v : Nat} (hw : kW ε A ad σ H) (hi : i < σ 2 0) (hU : kU (ad 4 i) H H1) (ho : kat ε (ad 4 i) (.inr (2, [.int (nI i), .int (nI (σ 20 i)), .int (nI (σ 21 i)), .int (nI (σ 22 i)), .int (nI (σ 23 i)), .int (nI (σ 30 i)), .ref (ad 5 i), .ref (ad 6 i), .ref (ad 7 i), .int (nI v), va_rf (kop ad (σ 25 i)), .int (nI (σ 26 i)), .int (nI (σ 27 i))])) H1) : kW ε A ad (ku σ 24 i v) H1 := by
  refine hw.put 4 i hi hU (fun j hj => ku_f _ _ _ _ (by omega)) (by rw [show kC ε ad (ku σ 24 i v) 4 i = .inr (2, [.int (nI i), .int (nI (σ 20 i)), .int (nI (σ 21 i)), .int (nI (σ 22 i)), .int (nI (σ 23 i)), .int (nI (σ 30 i)), .ref (ad 5 i), .ref (ad 6 i), .ref (ad 7 i), .int (nI v), va_rf (kop ad (σ 25 i)), .int (nI (σ 26 i)), .int (nI (σ 27 i))]) from by simp [kC, ku]]; exact ho) ?_
  intro k j hl hne
  match k, hl, hne with
  | 0, hl, hne => simp [kAg, ku]
  | 1, hl, hne => exact ku_f _ _ _ _ (by have : j < 4 := hl; omega)
  | 2, hl, hne => exact ku_f _ _ _ _ (by have : j < 4 := hl.1; omega)
  | 3, hl, hne => simp [kAg, ku]
  | 4, hl, hne => have hj : j ≠ i := hne.resolve_left (fun z => z rfl); simp [kAg, ku, hj]
  | 5, hl, hne => simp [kAg, ku]
  | 6, hl, hne => simp [kAg, ku]
  | 7, hl, hne => simp [kAg, ku]
  | 8, hl, hne => simp [kAg, ku]
  | 9, hl, hne => simp [kAg, ku]
  | k + 10, hl, hne => exact hl.elim
theorem kw_p25 {ε : kEnv} {A : Nat → Prop} {ad : Nat → Nat → Nat} {σ : kS} {H H1 : Heap} {i : Nat} {v : Nat} (hw : kW ε A ad σ H) (hi : i < σ 2 0) (hU : kU (ad 4 i) H H1) (ho : kat ε (ad 4 i) (.inr (2, [.int (nI i), .int (nI (σ 20 i)), .int (nI (σ 21 i)), .int (nI (σ 22 i)), .int (nI (σ 23 i)), .int (nI (σ 30 i)), .ref (ad 5 i), .ref (ad 6 i), .ref (ad 7 i), .int (nI (σ 24 i)), va_rf (kop ad v), .int (nI (σ 26 i)), .int (nI (σ 27 i))])) H1) : kW ε A ad (ku σ 25 i v) H1 := by
  refine hw.put 4 i hi hU (fun j hj => ku_f _ _ _ _ (by omega)) (by rw [show kC ε ad (ku σ 25 i v) 4 i = .inr (2, [.int (nI i), .int (nI (σ 20 i)), .int (nI (σ 21 i)), .int (nI (σ 22 i)), .int (nI (σ 23 i)), .int (nI (σ 30 i)), .ref (ad 5 i), .ref (ad 6 i), .ref (ad 7 i), .int (nI (σ 24 i)), va_rf (kop ad v), .int (nI (σ 26 i)), .int (nI (σ 27 i))]) from by simp [kC, ku]]; exact ho) ?_
  intro k j hl hne
  match k, hl, hne with
  | 0, hl, hne => simp [kAg, ku]
  | 1, hl, hne => exact ku_f _ _ _ _ (by have : j < 4 := hl; omega)
  | 2, hl, hne => exact ku_f _ _ _ _ (by have : j < 4 := hl.1; omega)
  | 3, hl, hne => simp [kAg, ku]
  | 4, hl, hne => have hj : j ≠ i := hne.resolve_left (fun z => z rfl); simp [kAg, ku, hj]
  | 5, hl, hne => simp [kAg, ku]
  | 6, hl, hne => simp [kAg, ku]
  | 7, hl, hne => simp [kAg, ku]
  | 8, hl, hne => simp [kAg, ku]
  | 9, hl, hne => simp [kAg, ku]
  | k + 10, hl, hne => exact hl.elim
theorem kw_p26 {ε : kEnv} {A : Nat → Prop} {ad : Nat → Nat → Nat} {σ : kS} {H H1 : Heap} {i : Nat} {v : Nat} (hw : kW ε A ad σ H) (hi : i < σ 2 0) (hU : kU (ad 4 i) H H1) (ho : kat ε (ad 4 i) (.inr (2, [.int (nI i), .int (nI (σ 20 i)), .int (nI (σ 21 i)), .int (nI (σ 22 i)), .int (nI (σ 23 i)), .int (nI (σ 30 i)), .ref (ad 5 i), .ref (ad 6 i), .ref (ad 7 i), .int (nI (σ 24 i)), va_rf (kop ad (σ 25 i)), .int (nI v), .int (nI (σ 27 i))])) H1) : kW ε A ad (ku σ 26 i v) H1 := by
  refine hw.put 4 i hi hU (fun j hj => ku_f _ _ _ _ (by omega)) (by rw [show kC ε ad (ku σ 26 i v) 4 i = .inr (2, [.int (nI i), .int (nI (σ 20 i)), .int (nI (σ 21 i)), .int (nI (σ 22 i)), .int (nI (σ 23 i)), .int (nI (σ 30 i)), .ref (ad 5 i), .ref (ad 6 i), .ref (ad 7 i), .int (nI (σ 24 i)), va_rf (kop ad (σ 25 i)), .int (nI v), .int (nI (σ 27 i))]) from by simp [kC, ku]]; exact ho) ?_
  intro k j hl hne
  match k, hl, hne with
  | 0, hl, hne => simp [kAg, ku]
  | 1, hl, hne => exact ku_f _ _ _ _ (by have : j < 4 := hl; omega)
  | 2, hl, hne => exact ku_f _ _ _ _ (by have : j < 4 := hl.1; omega)
  | 3, hl, hne => simp [kAg, ku]
  | 4, hl, hne => have hj : j ≠ i := hne.resolve_left (fun z => z rfl); simp [kAg, ku, hj]
  | 5, hl, hne => simp [kAg, ku]
  | 6, hl, hne => simp [kAg, ku]
  | 7, hl, hne => simp [kAg, ku]
  | 8, hl, hne => simp [kAg, ku]
  | 9, hl, hne => simp [kAg, ku]
  | k + 10, hl, hne => exact hl.elim
theorem kw_p27 {ε : kEnv} {A : Nat → Prop} {ad : Nat → Nat → Nat} {σ : kS} {H H1 : Heap} {i : Nat} {v : Nat} (hw : kW ε A ad σ H) (hi : i < σ 2 0) (hU : kU (ad 4 i) H H1) (ho : kat ε (ad 4 i) (.inr (2, [.int (nI i), .int (nI (σ 20 i)), .int (nI (σ 21 i)), .int (nI (σ 22 i)), .int (nI (σ 23 i)), .int (nI (σ 30 i)), .ref (ad 5 i), .ref (ad 6 i), .ref (ad 7 i), .int (nI (σ 24 i)), va_rf (kop ad (σ 25 i)), .int (nI (σ 26 i)), .int (nI v)])) H1) : kW ε A ad (ku σ 27 i v) H1 := by
  refine hw.put 4 i hi hU (fun j hj => ku_f _ _ _ _ (by omega)) (by rw [show kC ε ad (ku σ 27 i v) 4 i = .inr (2, [.int (nI i), .int (nI (σ 20 i)), .int (nI (σ 21 i)), .int (nI (σ 22 i)), .int (nI (σ 23 i)), .int (nI (σ 30 i)), .ref (ad 5 i), .ref (ad 6 i), .ref (ad 7 i), .int (nI (σ 24 i)), va_rf (kop ad (σ 25 i)), .int (nI (σ 26 i)), .int (nI v)]) from by simp [kC, ku]]; exact ho) ?_
  intro k j hl hne
  match k, hl, hne with
  | 0, hl, hne => simp [kAg, ku]
  | 1, hl, hne => exact ku_f _ _ _ _ (by have : j < 4 := hl; omega)
  | 2, hl, hne => exact ku_f _ _ _ _ (by have : j < 4 := hl.1; omega)
  | 3, hl, hne => simp [kAg, ku]
  | 4, hl, hne => have hj : j ≠ i := hne.resolve_left (fun z => z rfl); simp [kAg, ku, hj]
  | 5, hl, hne => simp [kAg, ku]
  | 6, hl, hne => simp [kAg, ku]
  | 7, hl, hne => simp [kAg, ku]
  | 8, hl, hne => simp [kAg, ku]
  | 9, hl, hne => simp [kAg, ku]
  | k + 10, hl, hne => exact hl.elim
theorem kw_p30 {ε : kEnv} {A : Nat → Prop} {ad : Nat → Nat → Nat} {σ : kS} {H H1 : Heap} {i : Nat} {v : Nat} (hw : kW ε A ad σ H) (hi : i < σ 2 0) (hU : kU (ad 4 i) H H1) (ho : kat ε (ad 4 i) (.inr (2, [.int (nI i), .int (nI (σ 20 i)), .int (nI (σ 21 i)), .int (nI (σ 22 i)), .int (nI (σ 23 i)), .int (nI v), .ref (ad 5 i), .ref (ad 6 i), .ref (ad 7 i), .int (nI (σ 24 i)), va_rf (kop ad (σ 25 i)), .int (nI (σ 26 i)), .int (nI (σ 27 i))])) H1) : kW ε A ad (ku σ 30 i v) H1 := by
  refine hw.put 4 i hi hU (fun j hj => ku_f _ _ _ _ (by omega)) (by rw [show kC ε ad (ku σ 30 i v) 4 i = .inr (2, [.int (nI i), .int (nI (σ 20 i)), .int (nI (σ 21 i)), .int (nI (σ 22 i)), .int (nI (σ 23 i)), .int (nI v), .ref (ad 5 i), .ref (ad 6 i), .ref (ad 7 i), .int (nI (σ 24 i)), va_rf (kop ad (σ 25 i)), .int (nI (σ 26 i)), .int (nI (σ 27 i))]) from by simp [kC, ku]]; exact ho) ?_
  intro k j hl hne
  match k, hl, hne with
  | 0, hl, hne => simp [kAg, ku]
  | 1, hl, hne => exact ku_f _ _ _ _ (by have : j < 4 := hl; omega)
  | 2, hl, hne => exact ku_f _ _ _ _ (by have : j < 4 := hl.1; omega)
  | 3, hl, hne => simp [kAg, ku]
  | 4, hl, hne => have hj : j ≠ i := hne.resolve_left (fun z => z rfl); simp [kAg, ku, hj]
  | 5, hl, hne => simp [kAg, ku]
  | 6, hl, hne => simp [kAg, ku]
  | 7, hl, hne => simp [kAg, ku]
  | 8, hl, hne => simp [kAg, ku]
  | 9, hl, hne => simp [kAg, ku]
  | k + 10, hl, hne => exact hl.elim
theorem kw_p42 {ε : kEnv} {A : Nat → Prop} {ad : Nat → Nat → Nat} {σ : kS} {H H1 : Heap} {i : Nat} {v : Nat} (hw : kW ε A ad σ H) (hi : i < σ 3 0) (hU : kU (ad 8 i) H H1) (ho : kat ε (ad 8 i) (.inr (4, [.int (nI (σ 40 i)), .int (nI (σ 41 i)), .int (nI v)])) H1) : kW ε A ad (ku σ 42 i v) H1 := by
  refine hw.put 8 i hi hU (fun j hj => ku_f _ _ _ _ (by omega)) (by rw [show kC ε ad (ku σ 42 i v) 8 i = .inr (4, [.int (nI (σ 40 i)), .int (nI (σ 41 i)), .int (nI v)]) from by simp [kC, ku]]; exact ho) ?_
  intro k j hl hne
  match k, hl, hne with
  | 0, hl, hne => simp [kAg, ku]
  | 1, hl, hne => exact ku_f _ _ _ _ (by have : j < 4 := hl; omega)
  | 2, hl, hne => exact ku_f _ _ _ _ (by have : j < 4 := hl.1; omega)
  | 3, hl, hne => simp [kAg, ku]
  | 4, hl, hne => simp [kAg, ku]
  | 5, hl, hne => simp [kAg, ku]
  | 6, hl, hne => simp [kAg, ku]
  | 7, hl, hne => simp [kAg, ku]
  | 8, hl, hne => have hj : j ≠ i := hne.resolve_left (fun z => z rfl); simp [kAg, ku, hj]
  | 9, hl, hne => simp [kAg, ku]
  | k + 10, hl, hne => exact hl.elim
theorem kw_p52 {ε : kEnv} {A : Nat → Prop} {ad : Nat → Nat → Nat} {σ : kS} {H H1 : Heap} {i : Nat} {v : Nat} (hw : kW ε A ad σ H) (hi : i < σ 4 0) (hU : kU (ad 9 i) H H1) (ho : kat ε (ad 9 i) (.inr (1, [.int (nI (σ 50 i)), .int (nI (σ 51 i)), .int (mI v)])) H1) : kW ε A ad (ku σ 52 i v) H1 := by
  refine hw.put 9 i hi hU (fun j hj => ku_f _ _ _ _ (by omega)) (by rw [show kC ε ad (ku σ 52 i v) 9 i = .inr (1, [.int (nI (σ 50 i)), .int (nI (σ 51 i)), .int (mI v)]) from by simp [kC, ku]]; exact ho) ?_
  intro k j hl hne
  match k, hl, hne with
  | 0, hl, hne => simp [kAg, ku]
  | 1, hl, hne => exact ku_f _ _ _ _ (by have : j < 4 := hl; omega)
  | 2, hl, hne => exact ku_f _ _ _ _ (by have : j < 4 := hl.1; omega)
  | 3, hl, hne => simp [kAg, ku]
  | 4, hl, hne => simp [kAg, ku]
  | 5, hl, hne => simp [kAg, ku]
  | 6, hl, hne => simp [kAg, ku]
  | 7, hl, hne => simp [kAg, ku]
  | 8, hl, hne => simp [kAg, ku]
  | 9, hl, hne => have hj : j ≠ i := hne.resolve_left (fun z => z rfl); simp [kAg, ku, hj]
  | k + 10, hl, hne => exact hl.elim
theorem kw_p31 {ε : kEnv} {A : Nat → Prop} {ad : Nat → Nat → Nat} {σ : kS} {H H1 : Heap} {i r v : Nat} (hw : kW ε A ad σ H) (hi : i < σ 2 0) (hr : r < 6) (hU : kU (ad 5 i) H H1) (ho : kat ε (ad 5 i) (kI ε 6 (upd (fun r => nI (σ 31 (6 * i + r))) r (nI v))) H1) : kW ε A ad (ku σ 31 (6 * i + r) v) H1 := by
  refine hw.put 5 i hi hU (fun j hj => ku_f _ _ _ _ (by omega)) (kI_ext (fun j hj => ?_) ho) ?_
  · by_cases hjr : j = r
    · subst hjr; simp [upd, ku]
    · have h2 : ¬ 6 * i + j = 6 * i + r := by omega
      simp [upd, ku, hjr]
  intro k j hl hne
  match k, hl, hne with
  | 0, hl, hne => simp [kAg, ku]
  | 1, hl, hne => exact ku_f _ _ _ _ (by have : j < 4 := hl; omega)
  | 2, hl, hne => exact ku_f _ _ _ _ (by have : j < 4 := hl.1; omega)
  | 3, hl, hne => simp [kAg, ku]
  | 4, hl, hne => simp [kAg, ku]
  | 5, hl, hne => have hj : j ≠ i := hne.resolve_left (fun z => z rfl); intro r2 hr2; exact ku_i _ _ _ _ (by omega)
  | 6, hl, hne => simp [kAg, ku]
  | 7, hl, hne => simp [kAg, ku]
  | 8, hl, hne => simp [kAg, ku]
  | 9, hl, hne => simp [kAg, ku]
  | k + 10, hl, hne => exact hl.elim
theorem kw_p32 {ε : kEnv} {A : Nat → Prop} {ad : Nat → Nat → Nat} {σ : kS} {H H1 : Heap} {i r v : Nat} (hw : kW ε A ad σ H) (hi : i < σ 2 0) (hr : r < 6) (hU : kU (ad 6 i) H H1) (ho : kat ε (ad 6 i) (kI ε 6 (upd (fun r => nI (σ 32 (6 * i + r))) r (nI v))) H1) : kW ε A ad (ku σ 32 (6 * i + r) v) H1 := by
  refine hw.put 6 i hi hU (fun j hj => ku_f _ _ _ _ (by omega)) (kI_ext (fun j hj => ?_) ho) ?_
  · by_cases hjr : j = r
    · subst hjr; simp [upd, ku]
    · have h2 : ¬ 6 * i + j = 6 * i + r := by omega
      simp [upd, ku, hjr]
  intro k j hl hne
  match k, hl, hne with
  | 0, hl, hne => simp [kAg, ku]
  | 1, hl, hne => exact ku_f _ _ _ _ (by have : j < 4 := hl; omega)
  | 2, hl, hne => exact ku_f _ _ _ _ (by have : j < 4 := hl.1; omega)
  | 3, hl, hne => simp [kAg, ku]
  | 4, hl, hne => simp [kAg, ku]
  | 5, hl, hne => simp [kAg, ku]
  | 6, hl, hne => have hj : j ≠ i := hne.resolve_left (fun z => z rfl); intro r2 hr2; exact ku_i _ _ _ _ (by omega)
  | 7, hl, hne => simp [kAg, ku]
  | 8, hl, hne => simp [kAg, ku]
  | 9, hl, hne => simp [kAg, ku]
  | k + 10, hl, hne => exact hl.elim
theorem kw_p33 {ε : kEnv} {A : Nat → Prop} {ad : Nat → Nat → Nat} {σ : kS} {H H1 : Heap} {i r v : Nat} (hw : kW ε A ad σ H) (hi : i < σ 2 0) (hr : r < 6) (hU : kU (ad 7 i) H H1) (ho : kat ε (ad 7 i) (kI ε 6 (upd (fun r => nI (σ 33 (6 * i + r))) r (nI v))) H1) : kW ε A ad (ku σ 33 (6 * i + r) v) H1 := by
  refine hw.put 7 i hi hU (fun j hj => ku_f _ _ _ _ (by omega)) (kI_ext (fun j hj => ?_) ho) ?_
  · by_cases hjr : j = r
    · subst hjr; simp [upd, ku]
    · have h2 : ¬ 6 * i + j = 6 * i + r := by omega
      simp [upd, ku, hjr]
  intro k j hl hne
  match k, hl, hne with
  | 0, hl, hne => simp [kAg, ku]
  | 1, hl, hne => exact ku_f _ _ _ _ (by have : j < 4 := hl; omega)
  | 2, hl, hne => exact ku_f _ _ _ _ (by have : j < 4 := hl.1; omega)
  | 3, hl, hne => simp [kAg, ku]
  | 4, hl, hne => simp [kAg, ku]
  | 5, hl, hne => simp [kAg, ku]
  | 6, hl, hne => simp [kAg, ku]
  | 7, hl, hne => have hj : j ≠ i := hne.resolve_left (fun z => z rfl); intro r2 hr2; exact ku_i _ _ _ _ (by omega)
  | 8, hl, hne => simp [kAg, ku]
  | 9, hl, hne => simp [kAg, ku]
  | k + 10, hl, hne => exact hl.elim
end
section
/-! ===== the bounds under a write ===== -/
theorem kB_p0 {σ : kS} {j v : Nat} (h : kB σ) (hv : v ≤ 102400) : kB (ku σ 0 0 v) := by
  obtain ⟨h0, h1, h2, h3, h4, h5, h6, h7, h8, h9, h10, h11⟩ := h
  exact ⟨(by rw [ku_s]; exact hv),
    (by rw [ku_f _ _ _ _ (by decide)]; exact h1),
    (by rw [ku_f _ _ _ _ (by decide)]; exact h2),
    (by rw [ku_f _ _ _ _ (by decide)]; exact h3),
    (by rw [ku_f _ _ _ _ (by decide)]; exact h4),
    (by rw [ku_f _ _ _ _ (by decide)]; exact h5),
    (by rw [ku_f _ _ _ _ (by decide)]; exact h6),
    (fun c hc => by
      have hc2 : c < σ 1 0 := by rw [ku_f _ _ _ _ (by decide)] at hc; exact hc
      have h := h7 c hc2
      have e11 : ku σ 0 0 v 11 c = σ 11 c := ku_f _ _ _ _ (by decide)
      have e10 : ku σ 0 0 v 10 c = σ 10 c := ku_f _ _ _ _ (by decide)
      omega),
    (fun c hc => by
      have hc2 : c < σ 2 0 := by rw [ku_f _ _ _ _ (by decide)] at hc; exact hc
      have h := h8 c hc2
      have e20 : ku σ 0 0 v 20 c = σ 20 c := ku_f _ _ _ _ (by decide)
      have e21 : ku σ 0 0 v 21 c = σ 21 c := ku_f _ _ _ _ (by decide)
      have e22 : ku σ 0 0 v 22 c = σ 22 c := ku_f _ _ _ _ (by decide)
      have e23 : ku σ 0 0 v 23 c = σ 23 c := ku_f _ _ _ _ (by decide)
      have e24 : ku σ 0 0 v 24 c = σ 24 c := ku_f _ _ _ _ (by decide)
      have e30 : ku σ 0 0 v 30 c = σ 30 c := ku_f _ _ _ _ (by decide)
      have e25 : ku σ 0 0 v 25 c = σ 25 c := ku_f _ _ _ _ (by decide)
      have e4 : ku σ 0 0 v 4 0 = σ 4 0 := ku_f _ _ _ _ (by decide)
      omega),
    (fun c r hc hr => by
      have hc2 : c < σ 2 0 := by rw [ku_f _ _ _ _ (by decide)] at hc; exact hc
      have h := h9 c r hc2 hr
      have e31 : ku σ 0 0 v 31 (6 * c + r) = σ 31 (6 * c + r) := ku_f _ _ _ _ (by decide)
      have e32 : ku σ 0 0 v 32 (6 * c + r) = σ 32 (6 * c + r) := ku_f _ _ _ _ (by decide)
      have e33 : ku σ 0 0 v 33 (6 * c + r) = σ 33 (6 * c + r) := ku_f _ _ _ _ (by decide)
      omega),
    (fun c hc => by
      have hc2 : c < σ 3 0 := by rw [ku_f _ _ _ _ (by decide)] at hc; exact hc
      have h := h10 c hc2
      have e40 : ku σ 0 0 v 40 c = σ 40 c := ku_f _ _ _ _ (by decide)
      have e41 : ku σ 0 0 v 41 c = σ 41 c := ku_f _ _ _ _ (by decide)
      have e42 : ku σ 0 0 v 42 c = σ 42 c := ku_f _ _ _ _ (by decide)
      omega),
    (fun c hc => by
      have hc2 : c < σ 4 0 := by rw [ku_f _ _ _ _ (by decide)] at hc; exact hc
      have h := h11 c hc2
      have e50 : ku σ 0 0 v 50 c = σ 50 c := ku_f _ _ _ _ (by decide)
      have e51 : ku σ 0 0 v 51 c = σ 51 c := ku_f _ _ _ _ (by decide)
      have e52 : ku σ 0 0 v 52 c = σ 52 c := ku_f _ _ _ _ (by decide)
      omega)⟩
theorem kB_p14 {σ : kS} {j v : Nat} (h : kB σ) (hv : v < 64) : kB (ku σ 14 0 v) := by
  obtain ⟨h0, h1, h2, h3, h4, h5, h6, h7, h8, h9, h10, h11⟩ := h
  exact ⟨(by rw [ku_f _ _ _ _ (by decide)]; exact h0),
    (by rw [ku_f _ _ _ _ (by decide)]; exact h1),
    (by rw [ku_f _ _ _ _ (by decide)]; exact h2),
    (by rw [ku_f _ _ _ _ (by decide)]; exact h3),
    (by rw [ku_f _ _ _ _ (by decide)]; exact h4),
    (by rw [ku_s]; exact hv),
    (by rw [ku_f _ _ _ _ (by decide)]; exact h6),
    (fun c hc => by
      have hc2 : c < σ 1 0 := by rw [ku_f _ _ _ _ (by decide)] at hc; exact hc
      have h := h7 c hc2
      have e11 : ku σ 14 0 v 11 c = σ 11 c := ku_f _ _ _ _ (by decide)
      have e10 : ku σ 14 0 v 10 c = σ 10 c := ku_f _ _ _ _ (by decide)
      omega),
    (fun c hc => by
      have hc2 : c < σ 2 0 := by rw [ku_f _ _ _ _ (by decide)] at hc; exact hc
      have h := h8 c hc2
      have e20 : ku σ 14 0 v 20 c = σ 20 c := ku_f _ _ _ _ (by decide)
      have e21 : ku σ 14 0 v 21 c = σ 21 c := ku_f _ _ _ _ (by decide)
      have e22 : ku σ 14 0 v 22 c = σ 22 c := ku_f _ _ _ _ (by decide)
      have e23 : ku σ 14 0 v 23 c = σ 23 c := ku_f _ _ _ _ (by decide)
      have e24 : ku σ 14 0 v 24 c = σ 24 c := ku_f _ _ _ _ (by decide)
      have e30 : ku σ 14 0 v 30 c = σ 30 c := ku_f _ _ _ _ (by decide)
      have e25 : ku σ 14 0 v 25 c = σ 25 c := ku_f _ _ _ _ (by decide)
      have e4 : ku σ 14 0 v 4 0 = σ 4 0 := ku_f _ _ _ _ (by decide)
      omega),
    (fun c r hc hr => by
      have hc2 : c < σ 2 0 := by rw [ku_f _ _ _ _ (by decide)] at hc; exact hc
      have h := h9 c r hc2 hr
      have e31 : ku σ 14 0 v 31 (6 * c + r) = σ 31 (6 * c + r) := ku_f _ _ _ _ (by decide)
      have e32 : ku σ 14 0 v 32 (6 * c + r) = σ 32 (6 * c + r) := ku_f _ _ _ _ (by decide)
      have e33 : ku σ 14 0 v 33 (6 * c + r) = σ 33 (6 * c + r) := ku_f _ _ _ _ (by decide)
      omega),
    (fun c hc => by
      have hc2 : c < σ 3 0 := by rw [ku_f _ _ _ _ (by decide)] at hc; exact hc
      have h := h10 c hc2
      have e40 : ku σ 14 0 v 40 c = σ 40 c := ku_f _ _ _ _ (by decide)
      have e41 : ku σ 14 0 v 41 c = σ 41 c := ku_f _ _ _ _ (by decide)
      have e42 : ku σ 14 0 v 42 c = σ 42 c := ku_f _ _ _ _ (by decide)
      omega),
    (fun c hc => by
      have hc2 : c < σ 4 0 := by rw [ku_f _ _ _ _ (by decide)] at hc; exact hc
      have h := h11 c hc2
      have e50 : ku σ 14 0 v 50 c = σ 50 c := ku_f _ _ _ _ (by decide)
      have e51 : ku σ 14 0 v 51 c = σ 51 c := ku_f _ _ _ _ (by decide)
      have e52 : ku σ 14 0 v 52 c = σ 52 c := ku_f _ _ _ _ (by decide)
      omega)⟩
theorem kB_p15 {σ : kS} {j v : Nat} (h : kB σ) (hv : v < 64) : kB (ku σ 15 0 v) := by
  obtain ⟨h0, h1, h2, h3, h4, h5, h6, h7, h8, h9, h10, h11⟩ := h
  exact ⟨(by rw [ku_f _ _ _ _ (by decide)]; exact h0),
    (by rw [ku_f _ _ _ _ (by decide)]; exact h1),
    (by rw [ku_f _ _ _ _ (by decide)]; exact h2),
    (by rw [ku_f _ _ _ _ (by decide)]; exact h3),
    (by rw [ku_f _ _ _ _ (by decide)]; exact h4),
    (by rw [ku_f _ _ _ _ (by decide)]; exact h5),
    (by rw [ku_s]; exact hv),
    (fun c hc => by
      have hc2 : c < σ 1 0 := by rw [ku_f _ _ _ _ (by decide)] at hc; exact hc
      have h := h7 c hc2
      have e11 : ku σ 15 0 v 11 c = σ 11 c := ku_f _ _ _ _ (by decide)
      have e10 : ku σ 15 0 v 10 c = σ 10 c := ku_f _ _ _ _ (by decide)
      omega),
    (fun c hc => by
      have hc2 : c < σ 2 0 := by rw [ku_f _ _ _ _ (by decide)] at hc; exact hc
      have h := h8 c hc2
      have e20 : ku σ 15 0 v 20 c = σ 20 c := ku_f _ _ _ _ (by decide)
      have e21 : ku σ 15 0 v 21 c = σ 21 c := ku_f _ _ _ _ (by decide)
      have e22 : ku σ 15 0 v 22 c = σ 22 c := ku_f _ _ _ _ (by decide)
      have e23 : ku σ 15 0 v 23 c = σ 23 c := ku_f _ _ _ _ (by decide)
      have e24 : ku σ 15 0 v 24 c = σ 24 c := ku_f _ _ _ _ (by decide)
      have e30 : ku σ 15 0 v 30 c = σ 30 c := ku_f _ _ _ _ (by decide)
      have e25 : ku σ 15 0 v 25 c = σ 25 c := ku_f _ _ _ _ (by decide)
      have e4 : ku σ 15 0 v 4 0 = σ 4 0 := ku_f _ _ _ _ (by decide)
      omega),
    (fun c r hc hr => by
      have hc2 : c < σ 2 0 := by rw [ku_f _ _ _ _ (by decide)] at hc; exact hc
      have h := h9 c r hc2 hr
      have e31 : ku σ 15 0 v 31 (6 * c + r) = σ 31 (6 * c + r) := ku_f _ _ _ _ (by decide)
      have e32 : ku σ 15 0 v 32 (6 * c + r) = σ 32 (6 * c + r) := ku_f _ _ _ _ (by decide)
      have e33 : ku σ 15 0 v 33 (6 * c + r) = σ 33 (6 * c + r) := ku_f _ _ _ _ (by decide)
      omega),
    (fun c hc => by
      have hc2 : c < σ 3 0 := by rw [ku_f _ _ _ _ (by decide)] at hc; exact hc
      have h := h10 c hc2
      have e40 : ku σ 15 0 v 40 c = σ 40 c := ku_f _ _ _ _ (by decide)
      have e41 : ku σ 15 0 v 41 c = σ 41 c := ku_f _ _ _ _ (by decide)
      have e42 : ku σ 15 0 v 42 c = σ 42 c := ku_f _ _ _ _ (by decide)
      omega),
    (fun c hc => by
      have hc2 : c < σ 4 0 := by rw [ku_f _ _ _ _ (by decide)] at hc; exact hc
      have h := h11 c hc2
      have e50 : ku σ 15 0 v 50 c = σ 50 c := ku_f _ _ _ _ (by decide)
      have e51 : ku σ 15 0 v 51 c = σ 51 c := ku_f _ _ _ _ (by decide)
      have e52 : ku σ 15 0 v 52 c = σ 52 c := ku_f _ _ _ _ (by decide)
      omega)⟩
theorem kB_p12 {σ : kS} {j v : Nat} (h : kB σ) : kB (ku σ 12 j v) := by
  obtain ⟨h0, h1, h2, h3, h4, h5, h6, h7, h8, h9, h10, h11⟩ := h
  exact ⟨(by rw [ku_f _ _ _ _ (by decide)]; exact h0),
    (by rw [ku_f _ _ _ _ (by decide)]; exact h1),
    (by rw [ku_f _ _ _ _ (by decide)]; exact h2),
    (by rw [ku_f _ _ _ _ (by decide)]; exact h3),
    (by rw [ku_f _ _ _ _ (by decide)]; exact h4),
    (by rw [ku_f _ _ _ _ (by decide)]; exact h5),
    (by rw [ku_f _ _ _ _ (by decide)]; exact h6),
    (fun c hc => by
      have hc2 : c < σ 1 0 := by rw [ku_f _ _ _ _ (by decide)] at hc; exact hc
      have h := h7 c hc2
      have e11 : ku σ 12 j v 11 c = σ 11 c := ku_f _ _ _ _ (by decide)
      have e10 : ku σ 12 j v 10 c = σ 10 c := ku_f _ _ _ _ (by decide)
      omega),
    (fun c hc => by
      have hc2 : c < σ 2 0 := by rw [ku_f _ _ _ _ (by decide)] at hc; exact hc
      have h := h8 c hc2
      have e20 : ku σ 12 j v 20 c = σ 20 c := ku_f _ _ _ _ (by decide)
      have e21 : ku σ 12 j v 21 c = σ 21 c := ku_f _ _ _ _ (by decide)
      have e22 : ku σ 12 j v 22 c = σ 22 c := ku_f _ _ _ _ (by decide)
      have e23 : ku σ 12 j v 23 c = σ 23 c := ku_f _ _ _ _ (by decide)
      have e24 : ku σ 12 j v 24 c = σ 24 c := ku_f _ _ _ _ (by decide)
      have e30 : ku σ 12 j v 30 c = σ 30 c := ku_f _ _ _ _ (by decide)
      have e25 : ku σ 12 j v 25 c = σ 25 c := ku_f _ _ _ _ (by decide)
      have e4 : ku σ 12 j v 4 0 = σ 4 0 := ku_f _ _ _ _ (by decide)
      omega),
    (fun c r hc hr => by
      have hc2 : c < σ 2 0 := by rw [ku_f _ _ _ _ (by decide)] at hc; exact hc
      have h := h9 c r hc2 hr
      have e31 : ku σ 12 j v 31 (6 * c + r) = σ 31 (6 * c + r) := ku_f _ _ _ _ (by decide)
      have e32 : ku σ 12 j v 32 (6 * c + r) = σ 32 (6 * c + r) := ku_f _ _ _ _ (by decide)
      have e33 : ku σ 12 j v 33 (6 * c + r) = σ 33 (6 * c + r) := ku_f _ _ _ _ (by decide)
      omega),
    (fun c hc => by
      have hc2 : c < σ 3 0 := by rw [ku_f _ _ _ _ (by decide)] at hc; exact hc
      have h := h10 c hc2
      have e40 : ku σ 12 j v 40 c = σ 40 c := ku_f _ _ _ _ (by decide)
      have e41 : ku σ 12 j v 41 c = σ 41 c := ku_f _ _ _ _ (by decide)
      have e42 : ku σ 12 j v 42 c = σ 42 c := ku_f _ _ _ _ (by decide)
      omega),
    (fun c hc => by
      have hc2 : c < σ 4 0 := by rw [ku_f _ _ _ _ (by decide)] at hc; exact hc
      have h := h11 c hc2
      have e50 : ku σ 12 j v 50 c = σ 50 c := ku_f _ _ _ _ (by decide)
      have e51 : ku σ 12 j v 51 c = σ 51 c := ku_f _ _ _ _ (by decide)
      have e52 : ku σ 12 j v 52 c = σ 52 c := ku_f _ _ _ _ (by decide)
      omega)⟩
theorem kB_p13 {σ : kS} {j v : Nat} (h : kB σ) : kB (ku σ 13 j v) := by
  obtain ⟨h0, h1, h2, h3, h4, h5, h6, h7, h8, h9, h10, h11⟩ := h
  exact ⟨(by rw [ku_f _ _ _ _ (by decide)]; exact h0),
    (by rw [ku_f _ _ _ _ (by decide)]; exact h1),
    (by rw [ku_f _ _ _ _ (by decide)]; exact h2),
    (by rw [ku_f _ _ _ _ (by decide)]; exact h3),
    (by rw [ku_f _ _ _ _ (by decide)]; exact h4),
    (by rw [ku_f _ _ _ _ (by decide)]; exact h5),
    (by rw [ku_f _ _ _ _ (by decide)]; exact h6),
    (fun c hc => by
      have hc2 : c < σ 1 0 := by rw [ku_f _ _ _ _ (by decide)] at hc; exact hc
      have h := h7 c hc2
      have e11 : ku σ 13 j v 11 c = σ 11 c := ku_f _ _ _ _ (by decide)
      have e10 : ku σ 13 j v 10 c = σ 10 c := ku_f _ _ _ _ (by decide)
      omega),
    (fun c hc => by
      have hc2 : c < σ 2 0 := by rw [ku_f _ _ _ _ (by decide)] at hc; exact hc
      have h := h8 c hc2
      have e20 : ku σ 13 j v 20 c = σ 20 c := ku_f _ _ _ _ (by decide)
      have e21 : ku σ 13 j v 21 c = σ 21 c := ku_f _ _ _ _ (by decide)
      have e22 : ku σ 13 j v 22 c = σ 22 c := ku_f _ _ _ _ (by decide)
      have e23 : ku σ 13 j v 23 c = σ 23 c := ku_f _ _ _ _ (by decide)
      have e24 : ku σ 13 j v 24 c = σ 24 c := ku_f _ _ _ _ (by decide)
      have e30 : ku σ 13 j v 30 c = σ 30 c := ku_f _ _ _ _ (by decide)
      have e25 : ku σ 13 j v 25 c = σ 25 c := ku_f _ _ _ _ (by decide)
      have e4 : ku σ 13 j v 4 0 = σ 4 0 := ku_f _ _ _ _ (by decide)
      omega),
    (fun c r hc hr => by
      have hc2 : c < σ 2 0 := by rw [ku_f _ _ _ _ (by decide)] at hc; exact hc
      have h := h9 c r hc2 hr
      have e31 : ku σ 13 j v 31 (6 * c + r) = σ 31 (6 * c + r) := ku_f _ _ _ _ (by decide)
      have e32 : ku σ 13 j v 32 (6 * c + r) = σ 32 (6 * c + r) := ku_f _ _ _ _ (by decide)
      have e33 : ku σ 13 j v 33 (6 * c + r) = σ 33 (6 * c + r) := ku_f _ _ _ _ (by decide)
      omega),
    (fun c hc => by
      have hc2 : c < σ 3 0 := by rw [ku_f _ _ _ _ (by decide)] at hc; exact hc
      have h := h10 c hc2
      have e40 : ku σ 13 j v 40 c = σ 40 c := ku_f _ _ _ _ (by decide)
      have e41 : ku σ 13 j v 41 c = σ 41 c := ku_f _ _ _ _ (by decide)
      have e42 : ku σ 13 j v 42 c = σ 42 c := ku_f _ _ _ _ (by decide)
      omega),
    (fun c hc => by
      have hc2 : c < σ 4 0 := by rw [ku_f _ _ _ _ (by decide)] at hc; exact hc
      have h := h11 c hc2
      have e50 : ku σ 13 j v 50 c = σ 50 c := ku_f _ _ _ _ (by decide)
      have e51 : ku σ 13 j v 51 c = σ 51 c := ku_f _ _ _ _ (by decide)
      have e52 : ku σ 13 j v 52 c = σ 52 c := ku_f _ _ _ _ (by decide)
      omega)⟩
theorem kB_p23 {σ : kS} {j v : Nat} (h : kB σ) (hv : 1 ≤ v ∧ v ≤ 6) : kB (ku σ 23 j v) := by
  obtain ⟨h0, h1, h2, h3, h4, h5, h6, h7, h8, h9, h10, h11⟩ := h
  exact ⟨(by rw [ku_f _ _ _ _ (by decide)]; exact h0),
    (by rw [ku_f _ _ _ _ (by decide)]; exact h1),
    (by rw [ku_f _ _ _ _ (by decide)]; exact h2),
    (by rw [ku_f _ _ _ _ (by decide)]; exact h3),
    (by rw [ku_f _ _ _ _ (by decide)]; exact h4),
    (by rw [ku_f _ _ _ _ (by decide)]; exact h5),
    (by rw [ku_f _ _ _ _ (by decide)]; exact h6),
    (fun c hc => by
      have hc2 : c < σ 1 0 := by rw [ku_f _ _ _ _ (by decide)] at hc; exact hc
      have h := h7 c hc2
      have e11 : ku σ 23 j v 11 c = σ 11 c := ku_f _ _ _ _ (by decide)
      have e10 : ku σ 23 j v 10 c = σ 10 c := ku_f _ _ _ _ (by decide)
      omega),
    (fun c hc => by
      have hc2 : c < σ 2 0 := by rw [ku_f _ _ _ _ (by decide)] at hc; exact hc
      have h := h8 c hc2
      have e20 : ku σ 23 j v 20 c = σ 20 c := ku_f _ _ _ _ (by decide)
      have e21 : ku σ 23 j v 21 c = σ 21 c := ku_f _ _ _ _ (by decide)
      have e22 : ku σ 23 j v 22 c = σ 22 c := ku_f _ _ _ _ (by decide)
      have e23 : ku σ 23 j v 23 c = if c = j then v else σ 23 c := ku_e _ _ _ _ _
      have e24 : ku σ 23 j v 24 c = σ 24 c := ku_f _ _ _ _ (by decide)
      have e30 : ku σ 23 j v 30 c = σ 30 c := ku_f _ _ _ _ (by decide)
      have e25 : ku σ 23 j v 25 c = σ 25 c := ku_f _ _ _ _ (by decide)
      have e4 : ku σ 23 j v 4 0 = σ 4 0 := ku_f _ _ _ _ (by decide)
      split at e23 <;> omega),
    (fun c r hc hr => by
      have hc2 : c < σ 2 0 := by rw [ku_f _ _ _ _ (by decide)] at hc; exact hc
      have h := h9 c r hc2 hr
      have e31 : ku σ 23 j v 31 (6 * c + r) = σ 31 (6 * c + r) := ku_f _ _ _ _ (by decide)
      have e32 : ku σ 23 j v 32 (6 * c + r) = σ 32 (6 * c + r) := ku_f _ _ _ _ (by decide)
      have e33 : ku σ 23 j v 33 (6 * c + r) = σ 33 (6 * c + r) := ku_f _ _ _ _ (by decide)
      omega),
    (fun c hc => by
      have hc2 : c < σ 3 0 := by rw [ku_f _ _ _ _ (by decide)] at hc; exact hc
      have h := h10 c hc2
      have e40 : ku σ 23 j v 40 c = σ 40 c := ku_f _ _ _ _ (by decide)
      have e41 : ku σ 23 j v 41 c = σ 41 c := ku_f _ _ _ _ (by decide)
      have e42 : ku σ 23 j v 42 c = σ 42 c := ku_f _ _ _ _ (by decide)
      omega),
    (fun c hc => by
      have hc2 : c < σ 4 0 := by rw [ku_f _ _ _ _ (by decide)] at hc; exact hc
      have h := h11 c hc2
      have e50 : ku σ 23 j v 50 c = σ 50 c := ku_f _ _ _ _ (by decide)
      have e51 : ku σ 23 j v 51 c = σ 51 c := ku_f _ _ _ _ (by decide)
      have e52 : ku σ 23 j v 52 c = σ 52 c := ku_f _ _ _ _ (by decide)
      omega)⟩
theorem kB_p24 {σ : kS} {j v : Nat} (h : kB σ) (hv : v ≤ 2) : kB (ku σ 24 j v) := by
  obtain ⟨h0, h1, h2, h3, h4, h5, h6, h7, h8, h9, h10, h11⟩ := h
  exact ⟨(by rw [ku_f _ _ _ _ (by decide)]; exact h0),
    (by rw [ku_f _ _ _ _ (by decide)]; exact h1),
    (by rw [ku_f _ _ _ _ (by decide)]; exact h2),
    (by rw [ku_f _ _ _ _ (by decide)]; exact h3),
    (by rw [ku_f _ _ _ _ (by decide)]; exact h4),
    (by rw [ku_f _ _ _ _ (by decide)]; exact h5),
    (by rw [ku_f _ _ _ _ (by decide)]; exact h6),
    (fun c hc => by
      have hc2 : c < σ 1 0 := by rw [ku_f _ _ _ _ (by decide)] at hc; exact hc
      have h := h7 c hc2
      have e11 : ku σ 24 j v 11 c = σ 11 c := ku_f _ _ _ _ (by decide)
      have e10 : ku σ 24 j v 10 c = σ 10 c := ku_f _ _ _ _ (by decide)
      omega),
    (fun c hc => by
      have hc2 : c < σ 2 0 := by rw [ku_f _ _ _ _ (by decide)] at hc; exact hc
      have h := h8 c hc2
      have e20 : ku σ 24 j v 20 c = σ 20 c := ku_f _ _ _ _ (by decide)
      have e21 : ku σ 24 j v 21 c = σ 21 c := ku_f _ _ _ _ (by decide)
      have e22 : ku σ 24 j v 22 c = σ 22 c := ku_f _ _ _ _ (by decide)
      have e23 : ku σ 24 j v 23 c = σ 23 c := ku_f _ _ _ _ (by decide)
      have e24 : ku σ 24 j v 24 c = if c = j then v else σ 24 c := ku_e _ _ _ _ _
      have e30 : ku σ 24 j v 30 c = σ 30 c := ku_f _ _ _ _ (by decide)
      have e25 : ku σ 24 j v 25 c = σ 25 c := ku_f _ _ _ _ (by decide)
      have e4 : ku σ 24 j v 4 0 = σ 4 0 := ku_f _ _ _ _ (by decide)
      split at e24 <;> omega),
    (fun c r hc hr => by
      have hc2 : c < σ 2 0 := by rw [ku_f _ _ _ _ (by decide)] at hc; exact hc
      have h := h9 c r hc2 hr
      have e31 : ku σ 24 j v 31 (6 * c + r) = σ 31 (6 * c + r) := ku_f _ _ _ _ (by decide)
      have e32 : ku σ 24 j v 32 (6 * c + r) = σ 32 (6 * c + r) := ku_f _ _ _ _ (by decide)
      have e33 : ku σ 24 j v 33 (6 * c + r) = σ 33 (6 * c + r) := ku_f _ _ _ _ (by decide)
      omega),
    (fun c hc => by
      have hc2 : c < σ 3 0 := by rw [ku_f _ _ _ _ (by decide)] at hc; exact hc
      have h := h10 c hc2
      have e40 : ku σ 24 j v 40 c = σ 40 c := ku_f _ _ _ _ (by decide)
      have e41 : ku σ 24 j v 41 c = σ 41 c := ku_f _ _ _ _ (by decide)
      have e42 : ku σ 24 j v 42 c = σ 42 c := ku_f _ _ _ _ (by decide)
      omega),
    (fun c hc => by
      have hc2 : c < σ 4 0 := by rw [ku_f _ _ _ _ (by decide)] at hc; exact hc
      have h := h11 c hc2
      have e50 : ku σ 24 j v 50 c = σ 50 c := ku_f _ _ _ _ (by decide)
      have e51 : ku σ 24 j v 51 c = σ 51 c := ku_f _ _ _ _ (by decide)
      have e52 : ku σ 24 j v 52 c = σ 52 c := ku_f _ _ _ _ (by decide)
      omega)⟩
theorem kB_p25 {σ : kS} {j v : Nat} (h : kB σ) (hv : v ≤ σ 4 0) : kB (ku σ 25 j v) := by
  obtain ⟨h0, h1, h2, h3, h4, h5, h6, h7, h8, h9, h10, h11⟩ := h
  exact ⟨(by rw [ku_f _ _ _ _ (by decide)]; exact h0),
    (by rw [ku_f _ _ _ _ (by decide)]; exact h1),
    (by rw [ku_f _ _ _ _ (by decide)]; exact h2),
    (by rw [ku_f _ _ _ _ (by decide)]; exact h3),
    (by rw [ku_f _ _ _ _ (by decide)]; exact h4),
    (by rw [ku_f _ _ _ _ (by decide)]; exact h5),
    (by rw [ku_f _ _ _ _ (by decide)]; exact h6),
    (fun c hc => by
      have hc2 : c < σ 1 0 := by rw [ku_f _ _ _ _ (by decide)] at hc; exact hc
      have h := h7 c hc2
      have e11 : ku σ 25 j v 11 c = σ 11 c := ku_f _ _ _ _ (by decide)
      have e10 : ku σ 25 j v 10 c = σ 10 c := ku_f _ _ _ _ (by decide)
      omega),
    (fun c hc => by
      have hc2 : c < σ 2 0 := by rw [ku_f _ _ _ _ (by decide)] at hc; exact hc
      have h := h8 c hc2
      have e20 : ku σ 25 j v 20 c = σ 20 c := ku_f _ _ _ _ (by decide)
      have e21 : ku σ 25 j v 21 c = σ 21 c := ku_f _ _ _ _ (by decide)
      have e22 : ku σ 25 j v 22 c = σ 22 c := ku_f _ _ _ _ (by decide)
      have e23 : ku σ 25 j v 23 c = σ 23 c := ku_f _ _ _ _ (by decide)
      have e24 : ku σ 25 j v 24 c = σ 24 c := ku_f _ _ _ _ (by decide)
      have e30 : ku σ 25 j v 30 c = σ 30 c := ku_f _ _ _ _ (by decide)
      have e25 : ku σ 25 j v 25 c = if c = j then v else σ 25 c := ku_e _ _ _ _ _
      have e4 : ku σ 25 j v 4 0 = σ 4 0 := ku_f _ _ _ _ (by decide)
      split at e25 <;> omega),
    (fun c r hc hr => by
      have hc2 : c < σ 2 0 := by rw [ku_f _ _ _ _ (by decide)] at hc; exact hc
      have h := h9 c r hc2 hr
      have e31 : ku σ 25 j v 31 (6 * c + r) = σ 31 (6 * c + r) := ku_f _ _ _ _ (by decide)
      have e32 : ku σ 25 j v 32 (6 * c + r) = σ 32 (6 * c + r) := ku_f _ _ _ _ (by decide)
      have e33 : ku σ 25 j v 33 (6 * c + r) = σ 33 (6 * c + r) := ku_f _ _ _ _ (by decide)
      omega),
    (fun c hc => by
      have hc2 : c < σ 3 0 := by rw [ku_f _ _ _ _ (by decide)] at hc; exact hc
      have h := h10 c hc2
      have e40 : ku σ 25 j v 40 c = σ 40 c := ku_f _ _ _ _ (by decide)
      have e41 : ku σ 25 j v 41 c = σ 41 c := ku_f _ _ _ _ (by decide)
      have e42 : ku σ 25 j v 42 c = σ 42 c := ku_f _ _ _ _ (by decide)
      omega),
    (fun c hc => by
      have hc2 : c < σ 4 0 := by rw [ku_f _ _ _ _ (by decide)] at hc; exact hc
      have h := h11 c hc2
      have e50 : ku σ 25 j v 50 c = σ 50 c := ku_f _ _ _ _ (by decide)
      have e51 : ku σ 25 j v 51 c = σ 51 c := ku_f _ _ _ _ (by decide)
      have e52 : ku σ 25 j v 52 c = σ 52 c := ku_f _ _ _ _ (by decide)
      omega)⟩
theorem kB_p26 {σ : kS} {j v : Nat} (h : kB σ) : kB (ku σ 26 j v) := by
  obtain ⟨h0, h1, h2, h3, h4, h5, h6, h7, h8, h9, h10, h11⟩ := h
  exact ⟨(by rw [ku_f _ _ _ _ (by decide)]; exact h0),
    (by rw [ku_f _ _ _ _ (by decide)]; exact h1),
    (by rw [ku_f _ _ _ _ (by decide)]; exact h2),
    (by rw [ku_f _ _ _ _ (by decide)]; exact h3),
    (by rw [ku_f _ _ _ _ (by decide)]; exact h4),
    (by rw [ku_f _ _ _ _ (by decide)]; exact h5),
    (by rw [ku_f _ _ _ _ (by decide)]; exact h6),
    (fun c hc => by
      have hc2 : c < σ 1 0 := by rw [ku_f _ _ _ _ (by decide)] at hc; exact hc
      have h := h7 c hc2
      have e11 : ku σ 26 j v 11 c = σ 11 c := ku_f _ _ _ _ (by decide)
      have e10 : ku σ 26 j v 10 c = σ 10 c := ku_f _ _ _ _ (by decide)
      omega),
    (fun c hc => by
      have hc2 : c < σ 2 0 := by rw [ku_f _ _ _ _ (by decide)] at hc; exact hc
      have h := h8 c hc2
      have e20 : ku σ 26 j v 20 c = σ 20 c := ku_f _ _ _ _ (by decide)
      have e21 : ku σ 26 j v 21 c = σ 21 c := ku_f _ _ _ _ (by decide)
      have e22 : ku σ 26 j v 22 c = σ 22 c := ku_f _ _ _ _ (by decide)
      have e23 : ku σ 26 j v 23 c = σ 23 c := ku_f _ _ _ _ (by decide)
      have e24 : ku σ 26 j v 24 c = σ 24 c := ku_f _ _ _ _ (by decide)
      have e30 : ku σ 26 j v 30 c = σ 30 c := ku_f _ _ _ _ (by decide)
      have e25 : ku σ 26 j v 25 c = σ 25 c := ku_f _ _ _ _ (by decide)
      have e4 : ku σ 26 j v 4 0 = σ 4 0 := ku_f _ _ _ _ (by decide)
      omega),
    (fun c r hc hr => by
      have hc2 : c < σ 2 0 := by rw [ku_f _ _ _ _ (by decide)] at hc; exact hc
      have h := h9 c r hc2 hr
      have e31 : ku σ 26 j v 31 (6 * c + r) = σ 31 (6 * c + r) := ku_f _ _ _ _ (by decide)
      have e32 : ku σ 26 j v 32 (6 * c + r) = σ 32 (6 * c + r) := ku_f _ _ _ _ (by decide)
      have e33 : ku σ 26 j v 33 (6 * c + r) = σ 33 (6 * c + r) := ku_f _ _ _ _ (by decide)
      omega),
    (fun c hc => by
      have hc2 : c < σ 3 0 := by rw [ku_f _ _ _ _ (by decide)] at hc; exact hc
      have h := h10 c hc2
      have e40 : ku σ 26 j v 40 c = σ 40 c := ku_f _ _ _ _ (by decide)
      have e41 : ku σ 26 j v 41 c = σ 41 c := ku_f _ _ _ _ (by decide)
      have e42 : ku σ 26 j v 42 c = σ 42 c := ku_f _ _ _ _ (by decide)
      omega),
    (fun c hc => by
      have hc2 : c < σ 4 0 := by rw [ku_f _ _ _ _ (by decide)] at hc; exact hc
      have h := h11 c hc2
      have e50 : ku σ 26 j v 50 c = σ 50 c := ku_f _ _ _ _ (by decide)
      have e51 : ku σ 26 j v 51 c = σ 51 c := ku_f _ _ _ _ (by decide)
      have e52 : ku σ 26 j v 52 c = σ 52 c := ku_f _ _ _ _ (by decide)
      omega)⟩
theorem kB_p27 {σ : kS} {j v : Nat} (h : kB σ) : kB (ku σ 27 j v) := by
  obtain ⟨h0, h1, h2, h3, h4, h5, h6, h7, h8, h9, h10, h11⟩ := h
  exact ⟨(by rw [ku_f _ _ _ _ (by decide)]; exact h0),
    (by rw [ku_f _ _ _ _ (by decide)]; exact h1),
    (by rw [ku_f _ _ _ _ (by decide)]; exact h2),
    (by rw [ku_f _ _ _ _ (by decide)]; exact h3),
    (by rw [ku_f _ _ _ _ (by decide)]; exact h4),
    (by rw [ku_f _ _ _ _ (by decide)]; exact h5),
    (by rw [ku_f _ _ _ _ (by decide)]; exact h6),
    (fun c hc => by
      have hc2 : c < σ 1 0 := by rw [ku_f _ _ _ _ (by decide)] at hc; exact hc
      have h := h7 c hc2
      have e11 : ku σ 27 j v 11 c = σ 11 c := ku_f _ _ _ _ (by decide)
      have e10 : ku σ 27 j v 10 c = σ 10 c := ku_f _ _ _ _ (by decide)
      omega),
    (fun c hc => by
      have hc2 : c < σ 2 0 := by rw [ku_f _ _ _ _ (by decide)] at hc; exact hc
      have h := h8 c hc2
      have e20 : ku σ 27 j v 20 c = σ 20 c := ku_f _ _ _ _ (by decide)
      have e21 : ku σ 27 j v 21 c = σ 21 c := ku_f _ _ _ _ (by decide)
      have e22 : ku σ 27 j v 22 c = σ 22 c := ku_f _ _ _ _ (by decide)
      have e23 : ku σ 27 j v 23 c = σ 23 c := ku_f _ _ _ _ (by decide)
      have e24 : ku σ 27 j v 24 c = σ 24 c := ku_f _ _ _ _ (by decide)
      have e30 : ku σ 27 j v 30 c = σ 30 c := ku_f _ _ _ _ (by decide)
      have e25 : ku σ 27 j v 25 c = σ 25 c := ku_f _ _ _ _ (by decide)
      have e4 : ku σ 27 j v 4 0 = σ 4 0 := ku_f _ _ _ _ (by decide)
      omega),
    (fun c r hc hr => by
      have hc2 : c < σ 2 0 := by rw [ku_f _ _ _ _ (by decide)] at hc; exact hc
      have h := h9 c r hc2 hr
      have e31 : ku σ 27 j v 31 (6 * c + r) = σ 31 (6 * c + r) := ku_f _ _ _ _ (by decide)
      have e32 : ku σ 27 j v 32 (6 * c + r) = σ 32 (6 * c + r) := ku_f _ _ _ _ (by decide)
      have e33 : ku σ 27 j v 33 (6 * c + r) = σ 33 (6 * c + r) := ku_f _ _ _ _ (by decide)
      omega),
    (fun c hc => by
      have hc2 : c < σ 3 0 := by rw [ku_f _ _ _ _ (by decide)] at hc; exact hc
      have h := h10 c hc2
      have e40 : ku σ 27 j v 40 c = σ 40 c := ku_f _ _ _ _ (by decide)
      have e41 : ku σ 27 j v 41 c = σ 41 c := ku_f _ _ _ _ (by decide)
      have e42 : ku σ 27 j v 42 c = σ 42 c := ku_f _ _ _ _ (by decide)
      omega),
    (fun c hc => by
      have hc2 : c < σ 4 0 := by rw [ku_f _ _ _ _ (by decide)] at hc; exact hc
      have h := h11 c hc2
      have e50 : ku σ 27 j v 50 c = σ 50 c := ku_f _ _ _ _ (by decide)
      have e51 : ku σ 27 j v 51 c = σ 51 c := ku_f _ _ _ _ (by decide)
      have e52 : ku σ 27 j v 52 c = σ 52 c := ku_f _ _ _ _ (by decide)
      omega)⟩
theorem kB_p30 {σ : kS} {j v : Nat} (h : kB σ) (hv : v < 64) : kB (ku σ 30 j v) := by
  obtain ⟨h0, h1, h2, h3, h4, h5, h6, h7, h8, h9, h10, h11⟩ := h
  exact ⟨(by rw [ku_f _ _ _ _ (by decide)]; exact h0),
    (by rw [ku_f _ _ _ _ (by decide)]; exact h1),
    (by rw [ku_f _ _ _ _ (by decide)]; exact h2),
    (by rw [ku_f _ _ _ _ (by decide)]; exact h3),
    (by rw [ku_f _ _ _ _ (by decide)]; exact h4),
    (by rw [ku_f _ _ _ _ (by decide)]; exact h5),
    (by rw [ku_f _ _ _ _ (by decide)]; exact h6),
    (fun c hc => by
      have hc2 : c < σ 1 0 := by rw [ku_f _ _ _ _ (by decide)] at hc; exact hc
      have h := h7 c hc2
      have e11 : ku σ 30 j v 11 c = σ 11 c := ku_f _ _ _ _ (by decide)
      have e10 : ku σ 30 j v 10 c = σ 10 c := ku_f _ _ _ _ (by decide)
      omega),
    (fun c hc => by
      have hc2 : c < σ 2 0 := by rw [ku_f _ _ _ _ (by decide)] at hc; exact hc
      have h := h8 c hc2
      have e20 : ku σ 30 j v 20 c = σ 20 c := ku_f _ _ _ _ (by decide)
      have e21 : ku σ 30 j v 21 c = σ 21 c := ku_f _ _ _ _ (by decide)
      have e22 : ku σ 30 j v 22 c = σ 22 c := ku_f _ _ _ _ (by decide)
      have e23 : ku σ 30 j v 23 c = σ 23 c := ku_f _ _ _ _ (by decide)
      have e24 : ku σ 30 j v 24 c = σ 24 c := ku_f _ _ _ _ (by decide)
      have e30 : ku σ 30 j v 30 c = if c = j then v else σ 30 c := ku_e _ _ _ _ _
      have e25 : ku σ 30 j v 25 c = σ 25 c := ku_f _ _ _ _ (by decide)
      have e4 : ku σ 30 j v 4 0 = σ 4 0 := ku_f _ _ _ _ (by decide)
      split at e30 <;> omega),
    (fun c r hc hr => by
      have hc2 : c < σ 2 0 := by rw [ku_f _ _ _ _ (by decide)] at hc; exact hc
      have h := h9 c r hc2 hr
      have e31 : ku σ 30 j v 31 (6 * c + r) = σ 31 (6 * c + r) := ku_f _ _ _ _ (by decide)
      have e32 : ku σ 30 j v 32 (6 * c + r) = σ 32 (6 * c + r) := ku_f _ _ _ _ (by decide)
      have e33 : ku σ 30 j v 33 (6 * c + r) = σ 33 (6 * c + r) := ku_f _ _ _ _ (by decide)
      omega),
    (fun c hc => by
      have hc2 : c < σ 3 0 := by rw [ku_f _ _ _ _ (by decide)] at hc; exact hc
      have h := h10 c hc2
      have e40 : ku σ 30 j v 40 c = σ 40 c := ku_f _ _ _ _ (by decide)
      have e41 : ku σ 30 j v 41 c = σ 41 c := ku_f _ _ _ _ (by decide)
      have e42 : ku σ 30 j v 42 c = σ 42 c := ku_f _ _ _ _ (by decide)
      omega),
    (fun c hc => by
      have hc2 : c < σ 4 0 := by rw [ku_f _ _ _ _ (by decide)] at hc; exact hc
      have h := h11 c hc2
      have e50 : ku σ 30 j v 50 c = σ 50 c := ku_f _ _ _ _ (by decide)
      have e51 : ku σ 30 j v 51 c = σ 51 c := ku_f _ _ _ _ (by decide)
      have e52 : ku σ 30 j v 52 c = σ 52 c := ku_f _ _ _ _ (by decide)
      omega)⟩
theorem kB_p31 {σ : kS} {j v : Nat} (h : kB σ) (hv : v ≤ 2) : kB (ku σ 31 j v) := by
  obtain ⟨h0, h1, h2, h3, h4, h5, h6, h7, h8, h9, h10, h11⟩ := h
  exact ⟨(by rw [ku_f _ _ _ _ (by decide)]; exact h0),
    (by rw [ku_f _ _ _ _ (by decide)]; exact h1),
    (by rw [ku_f _ _ _ _ (by decide)]; exact h2),
    (by rw [ku_f _ _ _ _ (by decide)]; exact h3),
    (by rw [ku_f _ _ _ _ (by decide)]; exact h4),
    (by rw [ku_f _ _ _ _ (by decide)]; exact h5),
    (by rw [ku_f _ _ _ _ (by decide)]; exact h6),
    (fun c hc => by
      have hc2 : c < σ 1 0 := by rw [ku_f _ _ _ _ (by decide)] at hc; exact hc
      have h := h7 c hc2
      have e11 : ku σ 31 j v 11 c = σ 11 c := ku_f _ _ _ _ (by decide)
      have e10 : ku σ 31 j v 10 c = σ 10 c := ku_f _ _ _ _ (by decide)
      omega),
    (fun c hc => by
      have hc2 : c < σ 2 0 := by rw [ku_f _ _ _ _ (by decide)] at hc; exact hc
      have h := h8 c hc2
      have e20 : ku σ 31 j v 20 c = σ 20 c := ku_f _ _ _ _ (by decide)
      have e21 : ku σ 31 j v 21 c = σ 21 c := ku_f _ _ _ _ (by decide)
      have e22 : ku σ 31 j v 22 c = σ 22 c := ku_f _ _ _ _ (by decide)
      have e23 : ku σ 31 j v 23 c = σ 23 c := ku_f _ _ _ _ (by decide)
      have e24 : ku σ 31 j v 24 c = σ 24 c := ku_f _ _ _ _ (by decide)
      have e30 : ku σ 31 j v 30 c = σ 30 c := ku_f _ _ _ _ (by decide)
      have e25 : ku σ 31 j v 25 c = σ 25 c := ku_f _ _ _ _ (by decide)
      have e4 : ku σ 31 j v 4 0 = σ 4 0 := ku_f _ _ _ _ (by decide)
      omega),
    (fun c r hc hr => by
      have hc2 : c < σ 2 0 := by rw [ku_f _ _ _ _ (by decide)] at hc; exact hc
      have h := h9 c r hc2 hr
      have e31 : ku σ 31 j v 31 (6 * c + r) = if (6 * c + r) = j then v else σ 31 (6 * c + r) := ku_e _ _ _ _ _
      have e32 : ku σ 31 j v 32 (6 * c + r) = σ 32 (6 * c + r) := ku_f _ _ _ _ (by decide)
      have e33 : ku σ 31 j v 33 (6 * c + r) = σ 33 (6 * c + r) := ku_f _ _ _ _ (by decide)
      split at e31 <;> omega),
    (fun c hc => by
      have hc2 : c < σ 3 0 := by rw [ku_f _ _ _ _ (by decide)] at hc; exact hc
      have h := h10 c hc2
      have e40 : ku σ 31 j v 40 c = σ 40 c := ku_f _ _ _ _ (by decide)
      have e41 : ku σ 31 j v 41 c = σ 41 c := ku_f _ _ _ _ (by decide)
      have e42 : ku σ 31 j v 42 c = σ 42 c := ku_f _ _ _ _ (by decide)
      omega),
    (fun c hc => by
      have hc2 : c < σ 4 0 := by rw [ku_f _ _ _ _ (by decide)] at hc; exact hc
      have h := h11 c hc2
      have e50 : ku σ 31 j v 50 c = σ 50 c := ku_f _ _ _ _ (by decide)
      have e51 : ku σ 31 j v 51 c = σ 51 c := ku_f _ _ _ _ (by decide)
      have e52 : ku σ 31 j v 52 c = σ 52 c := ku_f _ _ _ _ (by decide)
      omega)⟩
theorem kB_p32 {σ : kS} {j v : Nat} (h : kB σ) (hv : v ≤ 3) : kB (ku σ 32 j v) := by
  obtain ⟨h0, h1, h2, h3, h4, h5, h6, h7, h8, h9, h10, h11⟩ := h
  exact ⟨(by rw [ku_f _ _ _ _ (by decide)]; exact h0),
    (by rw [ku_f _ _ _ _ (by decide)]; exact h1),
    (by rw [ku_f _ _ _ _ (by decide)]; exact h2),
    (by rw [ku_f _ _ _ _ (by decide)]; exact h3),
    (by rw [ku_f _ _ _ _ (by decide)]; exact h4),
    (by rw [ku_f _ _ _ _ (by decide)]; exact h5),
    (by rw [ku_f _ _ _ _ (by decide)]; exact h6),
    (fun c hc => by
      have hc2 : c < σ 1 0 := by rw [ku_f _ _ _ _ (by decide)] at hc; exact hc
      have h := h7 c hc2
      have e11 : ku σ 32 j v 11 c = σ 11 c := ku_f _ _ _ _ (by decide)
      have e10 : ku σ 32 j v 10 c = σ 10 c := ku_f _ _ _ _ (by decide)
      omega),
    (fun c hc => by
      have hc2 : c < σ 2 0 := by rw [ku_f _ _ _ _ (by decide)] at hc; exact hc
      have h := h8 c hc2
      have e20 : ku σ 32 j v 20 c = σ 20 c := ku_f _ _ _ _ (by decide)
      have e21 : ku σ 32 j v 21 c = σ 21 c := ku_f _ _ _ _ (by decide)
      have e22 : ku σ 32 j v 22 c = σ 22 c := ku_f _ _ _ _ (by decide)
      have e23 : ku σ 32 j v 23 c = σ 23 c := ku_f _ _ _ _ (by decide)
      have e24 : ku σ 32 j v 24 c = σ 24 c := ku_f _ _ _ _ (by decide)
      have e30 : ku σ 32 j v 30 c = σ 30 c := ku_f _ _ _ _ (by decide)
      have e25 : ku σ 32 j v 25 c = σ 25 c := ku_f _ _ _ _ (by decide)
      have e4 : ku σ 32 j v 4 0 = σ 4 0 := ku_f _ _ _ _ (by decide)
      omega),
    (fun c r hc hr => by
      have hc2 : c < σ 2 0 := by rw [ku_f _ _ _ _ (by decide)] at hc; exact hc
      have h := h9 c r hc2 hr
      have e31 : ku σ 32 j v 31 (6 * c + r) = σ 31 (6 * c + r) := ku_f _ _ _ _ (by decide)
      have e32 : ku σ 32 j v 32 (6 * c + r) = if (6 * c + r) = j then v else σ 32 (6 * c + r) := ku_e _ _ _ _ _
      have e33 : ku σ 32 j v 33 (6 * c + r) = σ 33 (6 * c + r) := ku_f _ _ _ _ (by decide)
      split at e32 <;> omega),
    (fun c hc => by
      have hc2 : c < σ 3 0 := by rw [ku_f _ _ _ _ (by decide)] at hc; exact hc
      have h := h10 c hc2
      have e40 : ku σ 32 j v 40 c = σ 40 c := ku_f _ _ _ _ (by decide)
      have e41 : ku σ 32 j v 41 c = σ 41 c := ku_f _ _ _ _ (by decide)
      have e42 : ku σ 32 j v 42 c = σ 42 c := ku_f _ _ _ _ (by decide)
      omega),
    (fun c hc => by
      have hc2 : c < σ 4 0 := by rw [ku_f _ _ _ _ (by decide)] at hc; exact hc
      have h := h11 c hc2
      have e50 : ku σ 32 j v 50 c = σ 50 c := ku_f _ _ _ _ (by decide)
      have e51 : ku σ 32 j v 51 c = σ 51 c := ku_f _ _ _ _ (by decide)
      have e52 : ku σ 32 j v 52 c = σ 52 c := ku_f _ _ _ _ (by decide)
      omega)⟩
theorem kB_p33 {σ : kS} {j v : Nat} (h : kB σ) (hv : v ≤ 200000) : kB (ku σ 33 j v) := by
  obtain ⟨h0, h1, h2, h3, h4, h5, h6, h7, h8, h9, h10, h11⟩ := h
  exact ⟨(by rw [ku_f _ _ _ _ (by decide)]; exact h0),
    (by rw [ku_f _ _ _ _ (by decide)]; exact h1),
    (by rw [ku_f _ _ _ _ (by decide)]; exact h2),
    (by rw [ku_f _ _ _ _ (by decide)]; exact h3),
    (by rw [ku_f _ _ _ _ (by decide)]; exact h4),
    (by rw [ku_f _ _ _ _ (by decide)]; exact h5),
    (by rw [ku_f _ _ _ _ (by decide)]; exact h6),
    (fun c hc => by
      have hc2 : c < σ 1 0 := by rw [ku_f _ _ _ _ (by decide)] at hc; exact hc
      have h := h7 c hc2
      have e11 : ku σ 33 j v 11 c = σ 11 c := ku_f _ _ _ _ (by decide)
      have e10 : ku σ 33 j v 10 c = σ 10 c := ku_f _ _ _ _ (by decide)
      omega),
    (fun c hc => by
      have hc2 : c < σ 2 0 := by rw [ku_f _ _ _ _ (by decide)] at hc; exact hc
      have h := h8 c hc2
      have e20 : ku σ 33 j v 20 c = σ 20 c := ku_f _ _ _ _ (by decide)
      have e21 : ku σ 33 j v 21 c = σ 21 c := ku_f _ _ _ _ (by decide)
      have e22 : ku σ 33 j v 22 c = σ 22 c := ku_f _ _ _ _ (by decide)
      have e23 : ku σ 33 j v 23 c = σ 23 c := ku_f _ _ _ _ (by decide)
      have e24 : ku σ 33 j v 24 c = σ 24 c := ku_f _ _ _ _ (by decide)
      have e30 : ku σ 33 j v 30 c = σ 30 c := ku_f _ _ _ _ (by decide)
      have e25 : ku σ 33 j v 25 c = σ 25 c := ku_f _ _ _ _ (by decide)
      have e4 : ku σ 33 j v 4 0 = σ 4 0 := ku_f _ _ _ _ (by decide)
      omega),
    (fun c r hc hr => by
      have hc2 : c < σ 2 0 := by rw [ku_f _ _ _ _ (by decide)] at hc; exact hc
      have h := h9 c r hc2 hr
      have e31 : ku σ 33 j v 31 (6 * c + r) = σ 31 (6 * c + r) := ku_f _ _ _ _ (by decide)
      have e32 : ku σ 33 j v 32 (6 * c + r) = σ 32 (6 * c + r) := ku_f _ _ _ _ (by decide)
      have e33 : ku σ 33 j v 33 (6 * c + r) = if (6 * c + r) = j then v else σ 33 (6 * c + r) := ku_e _ _ _ _ _
      split at e33 <;> omega),
    (fun c hc => by
      have hc2 : c < σ 3 0 := by rw [ku_f _ _ _ _ (by decide)] at hc; exact hc
      have h := h10 c hc2
      have e40 : ku σ 33 j v 40 c = σ 40 c := ku_f _ _ _ _ (by decide)
      have e41 : ku σ 33 j v 41 c = σ 41 c := ku_f _ _ _ _ (by decide)
      have e42 : ku σ 33 j v 42 c = σ 42 c := ku_f _ _ _ _ (by decide)
      omega),
    (fun c hc => by
      have hc2 : c < σ 4 0 := by rw [ku_f _ _ _ _ (by decide)] at hc; exact hc
      have h := h11 c hc2
      have e50 : ku σ 33 j v 50 c = σ 50 c := ku_f _ _ _ _ (by decide)
      have e51 : ku σ 33 j v 51 c = σ 51 c := ku_f _ _ _ _ (by decide)
      have e52 : ku σ 33 j v 52 c = σ 52 c := ku_f _ _ _ _ (by decide)
      omega)⟩
theorem kB_p42 {σ : kS} {j v : Nat} (h : kB σ) (hv : v ≤ 120000) : kB (ku σ 42 j v) := by
  obtain ⟨h0, h1, h2, h3, h4, h5, h6, h7, h8, h9, h10, h11⟩ := h
  exact ⟨(by rw [ku_f _ _ _ _ (by decide)]; exact h0),
    (by rw [ku_f _ _ _ _ (by decide)]; exact h1),
    (by rw [ku_f _ _ _ _ (by decide)]; exact h2),
    (by rw [ku_f _ _ _ _ (by decide)]; exact h3),
    (by rw [ku_f _ _ _ _ (by decide)]; exact h4),
    (by rw [ku_f _ _ _ _ (by decide)]; exact h5),
    (by rw [ku_f _ _ _ _ (by decide)]; exact h6),
    (fun c hc => by
      have hc2 : c < σ 1 0 := by rw [ku_f _ _ _ _ (by decide)] at hc; exact hc
      have h := h7 c hc2
      have e11 : ku σ 42 j v 11 c = σ 11 c := ku_f _ _ _ _ (by decide)
      have e10 : ku σ 42 j v 10 c = σ 10 c := ku_f _ _ _ _ (by decide)
      omega),
    (fun c hc => by
      have hc2 : c < σ 2 0 := by rw [ku_f _ _ _ _ (by decide)] at hc; exact hc
      have h := h8 c hc2
      have e20 : ku σ 42 j v 20 c = σ 20 c := ku_f _ _ _ _ (by decide)
      have e21 : ku σ 42 j v 21 c = σ 21 c := ku_f _ _ _ _ (by decide)
      have e22 : ku σ 42 j v 22 c = σ 22 c := ku_f _ _ _ _ (by decide)
      have e23 : ku σ 42 j v 23 c = σ 23 c := ku_f _ _ _ _ (by decide)
      have e24 : ku σ 42 j v 24 c = σ 24 c := ku_f _ _ _ _ (by decide)
      have e30 : ku σ 42 j v 30 c = σ 30 c := ku_f _ _ _ _ (by decide)
      have e25 : ku σ 42 j v 25 c = σ 25 c := ku_f _ _ _ _ (by decide)
      have e4 : ku σ 42 j v 4 0 = σ 4 0 := ku_f _ _ _ _ (by decide)
      omega),
    (fun c r hc hr => by
      have hc2 : c < σ 2 0 := by rw [ku_f _ _ _ _ (by decide)] at hc; exact hc
      have h := h9 c r hc2 hr
      have e31 : ku σ 42 j v 31 (6 * c + r) = σ 31 (6 * c + r) := ku_f _ _ _ _ (by decide)
      have e32 : ku σ 42 j v 32 (6 * c + r) = σ 32 (6 * c + r) := ku_f _ _ _ _ (by decide)
      have e33 : ku σ 42 j v 33 (6 * c + r) = σ 33 (6 * c + r) := ku_f _ _ _ _ (by decide)
      omega),
    (fun c hc => by
      have hc2 : c < σ 3 0 := by rw [ku_f _ _ _ _ (by decide)] at hc; exact hc
      have h := h10 c hc2
      have e40 : ku σ 42 j v 40 c = σ 40 c := ku_f _ _ _ _ (by decide)
      have e41 : ku σ 42 j v 41 c = σ 41 c := ku_f _ _ _ _ (by decide)
      have e42 : ku σ 42 j v 42 c = if c = j then v else σ 42 c := ku_e _ _ _ _ _
      split at e42 <;> omega),
    (fun c hc => by
      have hc2 : c < σ 4 0 := by rw [ku_f _ _ _ _ (by decide)] at hc; exact hc
      have h := h11 c hc2
      have e50 : ku σ 42 j v 50 c = σ 50 c := ku_f _ _ _ _ (by decide)
      have e51 : ku σ 42 j v 51 c = σ 51 c := ku_f _ _ _ _ (by decide)
      have e52 : ku σ 42 j v 52 c = σ 52 c := ku_f _ _ _ _ (by decide)
      omega)⟩
theorem kB_p52 {σ : kS} {j v : Nat} (h : kB σ) (hv : v ≤ 102401) : kB (ku σ 52 j v) := by
  obtain ⟨h0, h1, h2, h3, h4, h5, h6, h7, h8, h9, h10, h11⟩ := h
  exact ⟨(by rw [ku_f _ _ _ _ (by decide)]; exact h0),
    (by rw [ku_f _ _ _ _ (by decide)]; exact h1),
    (by rw [ku_f _ _ _ _ (by decide)]; exact h2),
    (by rw [ku_f _ _ _ _ (by decide)]; exact h3),
    (by rw [ku_f _ _ _ _ (by decide)]; exact h4),
    (by rw [ku_f _ _ _ _ (by decide)]; exact h5),
    (by rw [ku_f _ _ _ _ (by decide)]; exact h6),
    (fun c hc => by
      have hc2 : c < σ 1 0 := by rw [ku_f _ _ _ _ (by decide)] at hc; exact hc
      have h := h7 c hc2
      have e11 : ku σ 52 j v 11 c = σ 11 c := ku_f _ _ _ _ (by decide)
      have e10 : ku σ 52 j v 10 c = σ 10 c := ku_f _ _ _ _ (by decide)
      omega),
    (fun c hc => by
      have hc2 : c < σ 2 0 := by rw [ku_f _ _ _ _ (by decide)] at hc; exact hc
      have h := h8 c hc2
      have e20 : ku σ 52 j v 20 c = σ 20 c := ku_f _ _ _ _ (by decide)
      have e21 : ku σ 52 j v 21 c = σ 21 c := ku_f _ _ _ _ (by decide)
      have e22 : ku σ 52 j v 22 c = σ 22 c := ku_f _ _ _ _ (by decide)
      have e23 : ku σ 52 j v 23 c = σ 23 c := ku_f _ _ _ _ (by decide)
      have e24 : ku σ 52 j v 24 c = σ 24 c := ku_f _ _ _ _ (by decide)
      have e30 : ku σ 52 j v 30 c = σ 30 c := ku_f _ _ _ _ (by decide)
      have e25 : ku σ 52 j v 25 c = σ 25 c := ku_f _ _ _ _ (by decide)
      have e4 : ku σ 52 j v 4 0 = σ 4 0 := ku_f _ _ _ _ (by decide)
      omega),
    (fun c r hc hr => by
      have hc2 : c < σ 2 0 := by rw [ku_f _ _ _ _ (by decide)] at hc; exact hc
      have h := h9 c r hc2 hr
      have e31 : ku σ 52 j v 31 (6 * c + r) = σ 31 (6 * c + r) := ku_f _ _ _ _ (by decide)
      have e32 : ku σ 52 j v 32 (6 * c + r) = σ 32 (6 * c + r) := ku_f _ _ _ _ (by decide)
      have e33 : ku σ 52 j v 33 (6 * c + r) = σ 33 (6 * c + r) := ku_f _ _ _ _ (by decide)
      omega),
    (fun c hc => by
      have hc2 : c < σ 3 0 := by rw [ku_f _ _ _ _ (by decide)] at hc; exact hc
      have h := h10 c hc2
      have e40 : ku σ 52 j v 40 c = σ 40 c := ku_f _ _ _ _ (by decide)
      have e41 : ku σ 52 j v 41 c = σ 41 c := ku_f _ _ _ _ (by decide)
      have e42 : ku σ 52 j v 42 c = σ 42 c := ku_f _ _ _ _ (by decide)
      omega),
    (fun c hc => by
      have hc2 : c < σ 4 0 := by rw [ku_f _ _ _ _ (by decide)] at hc; exact hc
      have h := h11 c hc2
      have e50 : ku σ 52 j v 50 c = σ 50 c := ku_f _ _ _ _ (by decide)
      have e51 : ku σ 52 j v 51 c = σ 51 c := ku_f _ _ _ _ (by decide)
      have e52 : ku σ 52 j v 52 c = if c = j then v else σ 52 c := ku_e _ _ _ _ _
      split at e52 <;> omega)⟩
theorem kcnt_t {p : Nat → Bool} {n : Nat} (h : p n = true) : kcnt p (n + 1) = kcnt p n + 1 := by
  show kcnt p n + (if p n then 1 else 0) = _
  rw [if_pos h]
theorem kcnt_f {p : Nat → Bool} {n : Nat} (h : p n = false) : kcnt p (n + 1) = kcnt p n := by
  show kcnt p n + (if p n then 1 else 0) = _
  rw [h]
  rfl
end
section
theorem kin_X1_takeSuccess_X1 : ∀ w ∈ wsX10, w ∈ wsX1_takeSuccess := by decide +kernel
theorem kin_X1_takeFailure_X1 : ∀ w ∈ wsX10, w ∈ wsX1_takeFailure := by decide +kernel
theorem kin_X1_judge_X1 : ∀ w ∈ wsX10, w ∈ wsX1_judge := by decide +kernel
set_option maxHeartbeats 4000000 in
set_option maxRecDepth 100000 in
theorem cc_takeS (ε : kEnv) (l : Launch) {A : Nat → Prop} {ad : Nat → Nat → Nat} {σ : kS} {H : Heap} {i r : Nat} (hAb : ∀ q, A q → kHi ε q) (hw : kW ε A ad σ H) (hB : kB σ) (hi : i < σ 2 0) (hr6 : r < 6) : kMv ε l yX1_takeSuccess wsX1_takeSuccess ({ frames := 0, cells := 0, slots := 0, locals := 0 }) [.ref (ad 4 i), .int (nI r)] H A (0) (0) (fun H' => kW ε A ad (kTakeS σ i r) H') := by
  refine kof (cc := cX1_takeSuccess) (maxL := 2) (ret := none) (by decide) rfl (Nat.le_of_ble_eq_true rfl) ?_
  intro p e s m below meth c ls S hr hlocks hin hH hE hl
  have S : CallFix p m c cX1_takeSuccess 2 s _ wsX1_takeSuccess RX1 := S
  have hx := S.1
  have hb := S.2.1
  have hown : s.vm.findClass RX1 = some m.cls := S.2.2.2.1
  have hts := S.2.2.2.2
  have hK := hE.1
  have hS : va_S A s.heap H [] := by rw [hH]; exact va_S.rf
  have hl : lv_has ls 2 [(0, .ref (ad 4 i)), (1, .int (nI r))] := hl
  refine lv_aload_n hx hb dX1_takeSuccess_0 rfl (lv_at hl 0 rfl) ?_
  refine kr_get (T := TX1) (N := 13) hx hb hts hown hK (hw.lv 4 i hi) rfl kin_X1_takeSuccess_X1 7 (by decide) (by decide +kernel) rfl dX1_takeSuccess_1 ?_
  refine lv_iload_n hx hb dX1_takeSuccess_4 rfl (lv_at hl 1 rfl) ?_
  refine lv_iconst (v := 0) hx hb dX1_takeSuccess_5 (by decide) ?_
  refine kr_ist hx hb hK hS (hw.lv 6 i hi) (hw.1 6 i hi).2 (j := r) (x := nI 0) hr6 (nI_clamp (ks31 hr6)) (nI_pos (ks31 hr6)) dX1_takeSuccess_6 (fun H1 locs hU ho hS => ?_)
  have hw := kw_p32 (v := 0) hw hi hr6 hU ho
  clear hU ho
  refine lv_aload_n hx hb dX1_takeSuccess_7 rfl (lv_at hl 0 rfl) ?_
  refine kr_get (T := TX1) (N := 13) hx hb hts hown hK (hw.lv 4 i hi) rfl kin_X1_takeSuccess_X1 6 (by decide) (by decide +kernel) rfl dX1_takeSuccess_8 ?_
  refine lv_iload_n hx hb dX1_takeSuccess_11 rfl (lv_at hl 1 rfl) ?_
  refine lv_iconst (v := 1) hx hb dX1_takeSuccess_12 (by decide) ?_
  refine kr_ist hx hb hK hS (hw.lv 5 i hi) (hw.1 5 i hi).2 (j := r) (x := nI 1) hr6 (nI_clamp (ks31 hr6)) (nI_pos (ks31 hr6)) dX1_takeSuccess_13 (fun H1 locs hU ho hS => ?_)
  have hw := kw_p31 (v := 1) hw hi hr6 hU ho
  clear hU ho
  refine kend_v S hr hlocks hS hw dX1_takeSuccess_14
end
section
set_option maxHeartbeats 4000000 in
set_option maxRecDepth 100000 in
theorem cc_takeF (ε : kEnv) (l : Launch) {A : Nat → Prop} {ad : Nat → Nat → Nat} {σ : kS} {H : Heap} {i r t : Nat} (hAb : ∀ q, A q → kHi ε q) (hw : kW ε A ad σ H) (hB : kB σ) (hi : i < σ 2 0) (hr6 : r < 6) (ht : t ≤ 102400) : kMv ε l yX1_takeFailure wsX1_takeFailure ({ frames := 0, cells := 0, slots := 0, locals := 0 }) [.ref (ad 4 i), .int (nI r), .int (nI t)] H A (0) (0) (fun H' => kW ε A ad (kTakeF σ i r t) H') := by
  refine kof (cc := cX1_takeFailure) (maxL := 4) (ret := none) (by decide) rfl (Nat.le_of_ble_eq_true rfl) ?_
  intro p e s m below meth c ls S hr hlocks hin hH hE hl
  have S : CallFix p m c cX1_takeFailure 4 s _ wsX1_takeFailure RX1 := S
  have hx := S.1
  have hb := S.2.1
  have hown : s.vm.findClass RX1 = some m.cls := S.2.2.2.1
  have hts := S.2.2.2.2
  have hK := hE.1
  have hS : va_S A s.heap H [] := by rw [hH]; exact va_S.rf
  have hl : lv_has ls 4 [(0, .ref (ad 4 i)), (1, .int (nI r)), (2, .int (nI t))] := hl
  have hk := hB.ck i hi
  have hp := hB.pr i r hi hr6
  refine lv_aload_n hx hb dX1_takeFailure_0 rfl (lv_at hl 0 rfl) ?_
  refine kr_get (T := TX1) (N := 13) hx hb hts hown hK (hw.lv 4 i hi) rfl kin_X1_takeFailure_X1 7 (by decide) (by decide +kernel) rfl dX1_takeFailure_1 ?_
  refine lv_iload_n hx hb dX1_takeFailure_4 rfl (lv_at hl 1 rfl) ?_
  refine kr_ild hx hb hK (hw.lv 6 i hi) (j := r) hr6 (nI_clamp (ks31 hr6)) (nI_pos (ks31 hr6)) (x := nI (σ 32 (6 * i + r))) rfl dX1_takeFailure_5 ?_
  refine lv_iconst (v := 1) hx hb dX1_takeFailure_6 (by decide) ?_
  refine lv_iadd hx hb dX1_takeFailure_7 ?_
  refine kr_top (y := nI (σ 32 (6 * i + r) + 1)) (nI_1 _) ?_
  refine lv_istore_n (lv' := [(3, .int (nI (σ 32 (6 * i + r) + 1))), (0, .ref (ad 4 i)), (1, .int (nI r)), (2, .int (nI t))]) hx hb dX1_takeFailure_8 rfl hl (by decide) rfl (fun ls hl => ?_)
  refine lv_aload_n hx hb dX1_takeFailure_9 rfl (lv_at hl 1 rfl) ?_
  refine kr_get (T := TX1) (N := 13) hx hb hts hown hK (hw.lv 4 i hi) rfl kin_X1_takeFailure_X1 7 (by decide) (by decide +kernel) rfl dX1_takeFailure_10 ?_
  refine lv_iload_n hx hb dX1_takeFailure_13 rfl (lv_at hl 2 rfl) ?_
  refine lv_iconst (v := 0) hx hb dX1_takeFailure_14 (by decide) ?_
  refine kr_ist hx hb hK hS (hw.lv 6 i hi) (hw.1 6 i hi).2 (j := r) (x := nI 0) hr6 (nI_clamp (ks31 hr6)) (nI_pos (ks31 hr6)) dX1_takeFailure_15 (fun H1 locs hU ho hS => ?_)
  have hw := kw_p32 (v := 0) hw hi hr6 hU ho
  clear hU ho
  refine lv_aload_n hx hb dX1_takeFailure_16 rfl (lv_at hl 1 rfl) ?_
  refine kr_get (T := TX1) (N := 13) hx hb hts hown hK (hw.lv 4 i hi) rfl kin_X1_takeFailure_X1 6 (by decide) (by decide +kernel) rfl dX1_takeFailure_17 ?_
  refine lv_iload_n hx hb dX1_takeFailure_20 rfl (lv_at hl 2 rfl) ?_
  refine kr_ild hx hb hK (hw.lv 5 i hi) (j := r) hr6 (nI_clamp (ks31 hr6)) (nI_pos (ks31 hr6)) (x := nI (ku σ 32 (6 * i + r) 0 31 (6 * i + r))) rfl dX1_takeFailure_21 ?_
  refine kr_top (y := nI (σ 31 (6 * i + r))) (by rw [ku_f _ _ _ _ (by decide)]) ?_
  refine lv_iconst (v := 2) hx hb dX1_takeFailure_22 (by decide) ?_
  refine lv_icmp_ne (tgt := 27) hx hb dX1_takeFailure_23 (by decide) (fun hc => ?_) (fun hc => ?_)
  · have hd : ¬ σ 31 (6 * i + r) = 2 := fun h => hc (by rw [h]; rfl)
    refine lv_iload_n hx hb dX1_takeFailure_27 rfl (lv_at hl 0 rfl) ?_
    refine lv_aload_n hx hb dX1_takeFailure_28 rfl (lv_at hl 1 rfl) ?_
    refine kr_get (T := TX1) (N := 13) hx hb hts hown hK (hw.lv 4 i hi) rfl kin_X1_takeFailure_X1 3 (by decide) (by decide +kernel) rfl dX1_takeFailure_29 ?_
    refine kr_top (y := nI (σ 22 i)) (by rw [ku_f _ _ _ _ (by decide)]) ?_
    refine lv_icmp_le (tgt := 43) hx hb dX1_takeFailure_32 (by decide) (fun hc2 => ?_) (fun hc2 => ?_)
    · have hm : ¬ σ 22 i < σ 32 (6 * i + r) + 1 := fun h => absurd hc2 (Int32.not_le.mpr (nI_lt h (by omega)))
      refine lv_aload_n hx hb dX1_takeFailure_43 rfl (lv_at hl 1 rfl) ?_
      refine kr_get (T := TX1) (N := 13) hx hb hts hown hK (hw.lv 4 i hi) rfl kin_X1_takeFailure_X1 7 (by decide) (by decide +kernel) rfl dX1_takeFailure_44 ?_
      refine lv_iload_n hx hb dX1_takeFailure_47 rfl (lv_at hl 2 rfl) ?_
      refine lv_iload_n hx hb dX1_takeFailure_48 rfl (lv_at hl 0 rfl) ?_
      refine kr_ist hx hb hK hS (hw.lv 6 i hi) (hw.1 6 i hi).2 (j := r) (x := nI (σ 32 (6 * i + r) + 1)) hr6 (nI_clamp (ks31 hr6)) (nI_pos (ks31 hr6)) dX1_takeFailure_49 (fun H1 locs hU ho hS => ?_)
      have hw := kw_p32 (v := σ 32 (6 * i + r) + 1) hw hi hr6 hU ho
      clear hU ho
      refine lv_aload_n hx hb dX1_takeFailure_50 rfl (lv_at hl 1 rfl) ?_
      refine kr_get (T := TX1) (N := 13) hx hb hts hown hK (hw.lv 4 i hi) rfl kin_X1_takeFailure_X1 8 (by decide) (by decide +kernel) rfl dX1_takeFailure_51 ?_
      refine lv_iload_n hx hb dX1_takeFailure_54 rfl (lv_at hl 2 rfl) ?_
      refine lv_iload_n hx hb dX1_takeFailure_55 rfl (lv_at hl 3 rfl) ?_
      refine lv_iconst (v := 1) hx hb dX1_takeFailure_56 (by decide) ?_
      refine lv_iadd hx hb dX1_takeFailure_57 ?_
      refine kr_top (y := nI (t + 1)) (nI_1 _) ?_
      refine lv_iconst (v := 3) hx hb dX1_takeFailure_58 (by decide) ?_
      refine lv_aload_n hx hb dX1_takeFailure_59 rfl (lv_at hl 1 rfl) ?_
      refine kr_get (T := TX1) (N := 13) hx hb hts hown hK (hw.lv 4 i hi) rfl kin_X1_takeFailure_X1 0 (by decide) (by decide +kernel) rfl dX1_takeFailure_60 ?_
      refine lv_imul hx hb dX1_takeFailure_63 ?_
      refine kr_top (y := nI (3 * i)) (pk_mul 3 i) ?_
      refine lv_iconst (v := 5) hx hb dX1_takeFailure_64 (by decide) ?_
      refine lv_iload_n hx hb dX1_takeFailure_65 rfl (lv_at hl 2 rfl) ?_
      refine lv_imul hx hb dX1_takeFailure_66 ?_
      refine kr_top (y := nI (5 * r)) (pk_mul 5 r) ?_
      refine lv_iadd hx hb dX1_takeFailure_67 ?_
      refine kr_top (y := nI (3 * i + 5 * r)) (nI_add _ _) ?_
      refine lv_bipush (v := 7) hx hb dX1_takeFailure_68 (by decide) ?_
      refine lv_iload_n hx hb dX1_takeFailure_70 rfl (lv_at hl 0 rfl) ?_
      refine lv_imul hx hb dX1_takeFailure_71 ?_
      refine kr_top (y := nI (7 * (σ 32 (6 * i + r) + 1))) (pk_mul 7 _) ?_
      refine lv_iadd hx hb dX1_takeFailure_72 ?_
      refine kr_top (y := nI (3 * i + 5 * r + 7 * (σ 32 (6 * i + r) + 1))) (nI_add _ _) ?_
      refine lv_iconst (v := 4) hx hb dX1_takeFailure_73 (by decide) ?_
      have hi8 := hB.c8 hi
      refine lv_irem hx hb dX1_takeFailure_74 (by decide) ?_
      refine kr_top (y := nI ((3 * i + 5 * r + 7 * (σ 32 (6 * i + r) + 1)) % 4)) (pk_rem (d := 4) (by omega) (by decide) (by decide)) ?_
      refine lv_iadd hx hb dX1_takeFailure_75 ?_
      refine kr_top (y := nI (t + 1 + (3 * i + 5 * r + 7 * (σ 32 (6 * i + r) + 1)) % 4)) (nI_add _ _) ?_
      refine kr_ist hx hb hK hS (hw.lv 7 i hi) (hw.1 7 i hi).2 (j := r) (x := nI (t + 1 + (3 * i + 5 * r + 7 * (σ 32 (6 * i + r) + 1)) % 4)) hr6 (nI_clamp (ks31 hr6)) (nI_pos (ks31 hr6)) dX1_takeFailure_76 (fun H1 locs hU ho hS => ?_)
      have hw := kw_p33 (v := t + 1 + (3 * i + 5 * r + 7 * (σ 32 (6 * i + r) + 1)) % 4) hw hi hr6 hU ho
      clear hU ho
      have he : kTakeF σ i r t = (ku (ku (ku σ 32 (6 * i + r) 0) 32 (6 * i + r) (σ 32 (6 * i + r) + 1)) 33 (6 * i + r) (t + 1 + (3 * i + 5 * r + 7 * (σ 32 (6 * i + r) + 1)) % 4)) := by unfold kTakeF; rw [if_neg hd, if_neg hm]
      rw [← he] at hw
      refine kend_v S hr hlocks hS hw dX1_takeFailure_77
    · have hm : σ 22 i < σ 32 (6 * i + r) + 1 := by
        rcases Nat.lt_or_ge (σ 22 i) (σ 32 (6 * i + r) + 1) with h | h
        · exact h
        · exact absurd (nI_le h (by omega)) hc2
      refine lv_aload_n hx hb dX1_takeFailure_35 rfl (lv_at hl 1 rfl) ?_
      refine kr_get (T := TX1) (N := 13) hx hb hts hown hK (hw.lv 4 i hi) rfl kin_X1_takeFailure_X1 6 (by decide) (by decide +kernel) rfl dX1_takeFailure_36 ?_
      refine lv_iload_n hx hb dX1_takeFailure_39 rfl (lv_at hl 2 rfl) ?_
      refine lv_iconst (v := 2) hx hb dX1_takeFailure_40 (by decide) ?_
      refine kr_ist hx hb hK hS (hw.lv 5 i hi) (hw.1 5 i hi).2 (j := r) (x := nI 2) hr6 (nI_clamp (ks31 hr6)) (nI_pos (ks31 hr6)) dX1_takeFailure_41 (fun H1 locs hU ho hS => ?_)
      have hw := kw_p31 (v := 2) hw hi hr6 hU ho
      clear hU ho
      have he : kTakeF σ i r t = (ku (ku σ 32 (6 * i + r) 0) 31 (6 * i + r) 2) := by unfold kTakeF; rw [if_neg hd, if_pos hm]
      rw [← he] at hw
      refine kend_v S hr hlocks hS hw dX1_takeFailure_42
  · have hd : σ 31 (6 * i + r) = 2 := (nI_eq (by omega) (by decide)).mp hc
    have he : kTakeF σ i r t = (ku σ 32 (6 * i + r) 0) := by unfold kTakeF; rw [if_pos hd]
    rw [← he] at hw
    refine kend_v S hr hlocks hS hw dX1_takeFailure_26
end
section
set_option maxHeartbeats 4000000 in
set_option maxRecDepth 100000 in
theorem cc_judge (ε : kEnv) (l : Launch) {A : Nat → Prop} {ad : Nat → Nat → Nat} {σ : kS} {H : Heap} {i t : Nat} (hAb : ∀ q, A q → kHi ε q) (hw : kW ε A ad σ H) (hB : kB σ) (hi : i < σ 2 0) (ht : t < 64) : kMv ε l yX1_judge wsX1_judge ({ frames := 1, cells := 0, slots := 0, locals := 21 }) [.ref (ad 4 i), .int (nI t)] H A (0) (0) (fun H' => kW ε A ad (ku σ 24 i (kVd (σ 23 i) t (fun r => σ 31 (6 * i + r)))) H') := by
  refine kof (cc := cX1_judge) (maxL := 4) (ret := none) (by decide) rfl (Nat.le_of_ble_eq_true rfl) ?_
  intro p e s m below meth c ls S hr hlocks hin hH hE hl
  have S : CallFix p m c cX1_judge 4 s _ wsX1_judge RX1 := S
  have hx := S.1
  have hb := S.2.1
  have hown : s.vm.findClass RX1 = some m.cls := S.2.2.2.1
  have hts := S.2.2.2.2
  have hK := hE.1
  have hS : va_S A s.heap H [] := by rw [hH]; exact va_S.rf
  have hl : lv_has ls 4 [(0, .ref (ad 4 i)), (1, .int (nI t))] := hl
  refine lv_iconst (v := 0) hx hb dX1_judge_0 (by decide) ?_
  refine lv_istore_n (lv' := [(2, .int 0), (0, .ref (ad 4 i)), (1, .int (nI t))]) hx hb dX1_judge_1 rfl hl (by decide) rfl (fun ls hl => ?_)
  refine lv_iconst (v := 0) hx hb dX1_judge_2 (by decide) ?_
  refine lv_istore_n (lv' := [(3, .int 0), (2, .int 0), (0, .ref (ad 4 i)), (1, .int (nI t))]) hx hb dX1_judge_3 rfl hl (by decide) rfl (fun ls hl => ?_)
  suffices K : ∀ (n k : Nat) (locs : List Loc) (ls : Array Slot), k + n = 6 → va_S A s.heap H locs → lv_has ls 4 [(3, .int (nI k)), (2, .int (nI (kcnt (fun r => t.testBit r && σ 31 (6 * i + r) == 2) k))), (0, .ref (ad 4 i)), (1, .int (nI t))] → W p l e ({ frames := 1, cells := 0, slots := 0, locals := 21 }) s m [.ref (ad 4 i), .int (nI t)].toArray below meth c H locs 0 0 (MQ below (kQv (fun H' => kW ε A ad (ku σ 24 i (kVd (σ 23 i) t (fun r => σ 31 (6 * i + r)))) H') A) [.ref (ad 4 i), .int (nI t)].toArray s (0) (0) A) (F0 m 4 ls []) from K 6 0 _ _ (Nat.zero_add _) hS (lv_sub hl [0, 1, 2, 3] rfl)
  clear hl hS
  intro n
  induction n with
  | zero =>
    intro k locs ls hkn  hS hl
    have hkN : k = 6 := hkn
    clear hkn
    subst hkN
    have hk := hB.ck i hi
    refine lv_iload_n hx hb dX1_judge_4 rfl (lv_at hl 0 rfl) ?_
    refine lv_bipush (v := 6) hx hb dX1_judge_5 (by decide) ?_
    refine lv_icmp_ge (tgt := 37) hx hb dX1_judge_7 (by decide) (fun _ => ?_) (fun hc => absurd (by decide) hc)
    refine lv_iload_n hx hb dX1_judge_37 rfl (lv_at hl 3 rfl) ?_
    refine kgo_pi (kc_S (As := [.int (nI t)]) (rest := []) S hE hS hAb (cc_bitCount ε l ht) (va_cwS 1 hts gX1_judge_J6_bitCount_0f7a4 rfl rfl rfl (by decide +kernel) ⟨Nat.le_of_ble_eq_true rfl, Nat.le_of_ble_eq_true rfl⟩) rfl hl.1 rfl (Nat.le_of_ble_eq_true rfl) dX1_judge_38 ⟨Nat.zero_le _, Nat.zero_le _⟩) hS (fun locs hS => ?_)
    refine lv_aload_n hx hb dX1_judge_41 rfl (lv_at hl 2 rfl) ?_
    refine kr_get (T := TX1) (N := 13) hx hb hts hown hK (hw.lv 4 i hi) rfl kin_X1_judge_X1 4 (by decide) (by decide +kernel) rfl dX1_judge_42 ?_
    have h6 := kcnt_le (fun r => t.testBit r) 6
    refine lv_icmp_ge (tgt := 56) hx hb dX1_judge_45 (by decide) (fun hc => ?_) (fun hc => ?_)
    · have hq : ¬ kcnt (fun r => t.testBit r) 6 < σ 23 i := fun h => absurd hc (nI_ge h (by omega))
      refine lv_aload_n hx hb dX1_judge_56 rfl (lv_at hl 2 rfl) ?_
      refine lv_iload_n hx hb dX1_judge_57 rfl (lv_at hl 1 rfl) ?_
      refine lv_aload_n hx hb dX1_judge_58 rfl (lv_at hl 2 rfl) ?_
      refine kr_get (T := TX1) (N := 13) hx hb hts hown hK (hw.lv 4 i hi) rfl kin_X1_judge_X1 4 (by decide) (by decide +kernel) rfl dX1_judge_59 ?_
      have h62 := kcnt_le (fun r => t.testBit r && σ 31 (6 * i + r) == 2) 6
      refine lv_icmp_lt (tgt := 69) hx hb dX1_judge_62 (by decide) (fun hc2 => ?_) (fun hc2 => ?_)
      · have hd : ¬ σ 23 i ≤ kcnt (fun r => t.testBit r && σ 31 (6 * i + r) == 2) 6 := fun h => absurd hc2 (nI_nlt h (by omega))
        refine lv_iconst (v := 1) hx hb dX1_judge_69 (by decide) ?_
        refine kr_put (T := TX1) (N := 13) (v := .int (nI 1)) (ty := .int) hx hb hts hown hK hS (hw.lv 4 i hi) (hw.1 4 i hi).2 rfl kin_X1_judge_X1 tyX1 tyX1_ok nmX1 9 (by decide) "Probeweb$Check" (hts (.fieldLink RX1 51 "Probeweb$Check" "lastVerdict" "I") (by decide +kernel)) (fun _ h => h) rfl (by decide +kernel) rfl rfl (Nat.le_of_ble_eq_true rfl) dX1_judge_70 (fun H1 locs hU ho hS => ?_)
        have hw := kw_p24 (v := 1) hw hi hU ho
        clear hU ho
        have he : kVd (σ 23 i) t (fun r => σ 31 (6 * i + r)) = 1 := by unfold kVd; rw [if_neg hq, if_neg hd]
        rw [← he] at hw
        refine kend_v S hr hlocks hS hw dX1_judge_73
      · have hd : σ 23 i ≤ kcnt (fun r => t.testBit r && σ 31 (6 * i + r) == 2) 6 := by
          rcases Nat.lt_or_ge (kcnt (fun r => t.testBit r && σ 31 (6 * i + r) == 2) 6) (σ 23 i) with h | h
          · exact absurd (nI_lt h (by omega)) hc2
          · exact h
        refine lv_iconst (v := 2) hx hb dX1_judge_65 (by decide) ?_
        refine lv_goto (tgt := 70) hx hb dX1_judge_66 (by decide) ?_
        refine kr_put (T := TX1) (N := 13) (v := .int (nI 2)) (ty := .int) hx hb hts hown hK hS (hw.lv 4 i hi) (hw.1 4 i hi).2 rfl kin_X1_judge_X1 tyX1 tyX1_ok nmX1 9 (by decide) "Probeweb$Check" (hts (.fieldLink RX1 51 "Probeweb$Check" "lastVerdict" "I") (by decide +kernel)) (fun _ h => h) rfl (by decide +kernel) rfl rfl (Nat.le_of_ble_eq_true rfl) dX1_judge_70 (fun H1 locs hU ho hS => ?_)
        have hw := kw_p24 (v := 2) hw hi hU ho
        clear hU ho
        have he : kVd (σ 23 i) t (fun r => σ 31 (6 * i + r)) = 2 := by unfold kVd; rw [if_neg hq, if_pos hd]
        rw [← he] at hw
        refine kend_v S hr hlocks hS hw dX1_judge_73
    · have hq : kcnt (fun r => t.testBit r) 6 < σ 23 i := by
        rcases Nat.lt_or_ge (kcnt (fun r => t.testBit r) 6) (σ 23 i) with h | h
        · exact h
        · exact absurd (nI_le h (by omega)) hc
      refine lv_aload_n hx hb dX1_judge_48 rfl (lv_at hl 2 rfl) ?_
      refine lv_iconst (v := 0) hx hb dX1_judge_49 (by decide) ?_
      refine kr_put (T := TX1) (N := 13) (v := .int (nI 0)) (ty := .int) hx hb hts hown hK hS (hw.lv 4 i hi) (hw.1 4 i hi).2 rfl kin_X1_judge_X1 tyX1 tyX1_ok nmX1 9 (by decide) "Probeweb$Check" (hts (.fieldLink RX1 51 "Probeweb$Check" "lastVerdict" "I") (by decide +kernel)) (fun _ h => h) rfl (by decide +kernel) rfl rfl (Nat.le_of_ble_eq_true rfl) dX1_judge_50 (fun H1 locs hU ho hS => ?_)
      have hw := kw_p24 (v := 0) hw hi hU ho
      clear hU ho
      refine lv_goto (tgt := 73) hx hb dX1_judge_53 (by decide) ?_
      have he : kVd (σ 23 i) t (fun r => σ 31 (6 * i + r)) = 0 := by unfold kVd; rw [if_pos hq]
      rw [← he] at hw
      refine kend_v S hr hlocks hS hw dX1_judge_73
  | succ n ih =>
    intro k locs ls hkn  hS hl
    have hlt : k < 6 := by omega
    refine lv_iload_n hx hb dX1_judge_4 rfl (lv_at hl 0 rfl) ?_
    refine lv_bipush (v := 6) hx hb dX1_judge_5 (by decide) ?_
    refine lv_icmp_ge (tgt := 37) hx hb dX1_judge_7 (by decide) (fun hc => absurd hc (nI_ge (b := 6) hlt (by decide))) (fun _ => ?_)
    refine lv_iload_n hx hb dX1_judge_10 rfl (lv_at hl 3 rfl) ?_
    refine lv_iload_n hx hb dX1_judge_11 rfl (lv_at hl 0 rfl) ?_
    refine kgo_pi (kc_SN (As := [.int (nI t), .int (nI k)]) (rest := []) S hE hS hAb (cc_holds ε l ht hlt) ⟨va_cnB 2 hts gX1_judge_X4_holds_n41 rfl rfl rfl (hE.2.2.2.2.1 (RX1, 41, yX4_holds, RX4) (by decide +kernel)) (hts (.initialized RX4) (by decide +kernel)) (by decide +kernel) ⟨Nat.le_of_ble_eq_true rfl, Nat.le_of_ble_eq_true rfl⟩, hts (.static yX4_holds) (by decide +kernel), trivial⟩ rfl hl.1 rfl (Nat.le_of_ble_eq_true rfl) dX1_judge_12 ⟨Nat.zero_le _, Nat.zero_le _⟩) hS (fun locs hS => ?_)
    refine lv_if_eq (tgt := 31) hx hb dX1_judge_15 (by decide) (fun hc => ?_) (fun hc => ?_)
    · have hs : kcnt (fun r => t.testBit r && σ 31 (6 * i + r) == 2) (k + 1) = kcnt (fun r => t.testBit r && σ 31 (6 * i + r) == 2) k := kcnt_f (by show (t.testBit k && σ 31 (6 * i + k) == 2) = false; rw [bI_eq0.mp hc]; rfl)
      rw [← hs] at hl
      refine lv_iinc (v := nI (k + 1)) (lv' := [(3, .int (nI (k + 1))), (2, .int (nI (kcnt (fun r => t.testBit r && σ 31 (6 * i + r) == 2) (k + 1)))), (0, .ref (ad 4 i)), (1, .int (nI t))]) hx hb dX1_judge_31 hl (k := 0) rfl (nI_1 k) (by decide) rfl (fun ls hl => ?_)
      refine lv_goto (tgt := 4) hx hb dX1_judge_34 (by decide) ?_
      exact ih (k + 1) _ _ (by omega) hS (lv_sub hl [0, 1, 2, 3] rfl)
    · have hp := hB.pr i k hi hlt
      refine lv_aload_n hx hb dX1_judge_18 rfl (lv_at hl 2 rfl) ?_
      refine kr_get (T := TX1) (N := 13) hx hb hts hown hK (hw.lv 4 i hi) rfl kin_X1_judge_X1 6 (by decide) (by decide +kernel) rfl dX1_judge_19 ?_
      refine lv_iload_n hx hb dX1_judge_22 rfl (lv_at hl 0 rfl) ?_
      refine kr_ild hx hb hK (hw.lv 5 i hi) (j := k) hlt (nI_clamp (ks31 hlt)) (nI_pos (ks31 hlt)) (x := nI (σ 31 (6 * i + k))) rfl dX1_judge_23 ?_
      refine lv_iconst (v := 2) hx hb dX1_judge_24 (by decide) ?_
      refine lv_icmp_ne (tgt := 31) hx hb dX1_judge_25 (by decide) (fun hc2 => ?_) (fun hc2 => ?_)
      · have hs : kcnt (fun r => t.testBit r && σ 31 (6 * i + r) == 2) (k + 1) = kcnt (fun r => t.testBit r && σ 31 (6 * i + r) == 2) k := kcnt_f (by show (t.testBit k && σ 31 (6 * i + k) == 2) = false; rw [show (σ 31 (6 * i + k) == 2) = false by simpa using fun h => hc2 (by rw [h]; rfl), Bool.and_false])
        rw [← hs] at hl
        refine lv_iinc (v := nI (k + 1)) (lv' := [(3, .int (nI (k + 1))), (2, .int (nI (kcnt (fun r => t.testBit r && σ 31 (6 * i + r) == 2) (k + 1)))), (0, .ref (ad 4 i)), (1, .int (nI t))]) hx hb dX1_judge_31 hl (k := 0) rfl (nI_1 k) (by decide) rfl (fun ls hl => ?_)
        refine lv_goto (tgt := 4) hx hb dX1_judge_34 (by decide) ?_
        exact ih (k + 1) _ _ (by omega) hS (lv_sub hl [0, 1, 2, 3] rfl)
      · have hs : kcnt (fun r => t.testBit r && σ 31 (6 * i + r) == 2) (k + 1) = kcnt (fun r => t.testBit r && σ 31 (6 * i + r) == 2) k + 1 := kcnt_t (by show (t.testBit k && σ 31 (6 * i + k) == 2) = true; rw [bI_ne0.mp hc, show (σ 31 (6 * i + k) == 2) = true by simpa using (nI_eq (by omega) (by decide)).mp hc2]; rfl)
        refine lv_iinc (v := nI (kcnt (fun r => t.testBit r && σ 31 (6 * i + r) == 2) (k + 1))) (lv' := [(2, .int (nI (kcnt (fun r => t.testBit r && σ 31 (6 * i + r) == 2) (k + 1)))), (3, .int (nI k)), (0, .ref (ad 4 i)), (1, .int (nI t))]) hx hb dX1_judge_28 hl (k := 1) rfl (by rw [hs]; exact nI_1 _) (by decide) rfl (fun ls hl => ?_)
        refine lv_iinc (v := nI (k + 1)) (lv' := [(3, .int (nI (k + 1))), (2, .int (nI (kcnt (fun r => t.testBit r && σ 31 (6 * i + r) == 2) (k + 1)))), (0, .ref (ad 4 i)), (1, .int (nI t))]) hx hb dX1_judge_31 hl (k := 1) rfl (nI_1 k) (by decide) rfl (fun ls hl => ?_)
        refine lv_goto (tgt := 4) hx hb dX1_judge_34 (by decide) ?_
        exact ih (k + 1) _ _ (by omega) hS (lv_sub hl [0, 1, 2, 3] rfl)
end
