section
-- ===== PART A: goes FIRST, ahead of the names: the tables' words, and 'selects' of the private methods out of them =====
/-- a private method of a class that the tables say can be made, by its rows of tables_1 -/
def lw_okq (q : MethodName × Nat) : Prop := (q.1.cls ≠ "java/lang/invoke/MethodHandle" ∧ q.1.cls ≠ "java/lang/invoke/VarHandle") ∧ Cond.instantiable q.1.cls q.2 ∈ tables_1 ∧ Cond.privateMethod q.1 ∈ tables_1 ∧ Cond.instanceMethod q.1 ∈ tables_1
theorem lw_p0 : lw_okq (⟨"ShellWatch$Formula", "put", "(I)V"⟩, 3) := ⟨⟨by decide +kernel, by decide +kernel⟩, List.mem_of_getElem? (i := 215) (by decide +kernel), List.mem_of_getElem? (i := 262) (by decide +kernel), List.mem_of_getElem? (i := 263) (by decide +kernel)⟩
theorem lw_p1 : lw_okq (⟨"ShellWatch", "requireWhat", "(II)V"⟩, 7) := ⟨⟨by decide +kernel, by decide +kernel⟩, List.mem_of_getElem? (i := 38) (by decide +kernel), List.mem_of_getElem? (i := 329) (by decide +kernel), List.mem_of_getElem? (i := 330) (by decide +kernel)⟩
theorem lw_p2 : lw_okq (⟨"java/lang/Throwable", "fillInStackTrace", "(I)Ljava/lang/Throwable;"⟩, 6) := ⟨⟨by decide +kernel, by decide +kernel⟩, List.mem_of_getElem? (i := 371) (by decide +kernel), List.mem_of_getElem? (i := 369) (by decide +kernel), List.mem_of_getElem? (i := 370) (by decide +kernel)⟩
theorem lw_p3 : lw_okq (⟨"ShellWatch", "game", "()LShellWatch$Game;"⟩, 7) := ⟨⟨by decide +kernel, by decide +kernel⟩, List.mem_of_getElem? (i := 38) (by decide +kernel), List.mem_of_getElem? (i := 400) (by decide +kernel), List.mem_of_getElem? (i := 401) (by decide +kernel)⟩
theorem lw_p4 : lw_okq (⟨"ShellWatch", "requirePlaceOrHand", "(I)V"⟩, 7) := ⟨⟨by decide +kernel, by decide +kernel⟩, List.mem_of_getElem? (i := 38) (by decide +kernel), List.mem_of_getElem? (i := 420) (by decide +kernel), List.mem_of_getElem? (i := 421) (by decide +kernel)⟩
theorem lw_p5 : lw_okq (⟨"ShellWatch", "requireTwoPlaces", "(II)V"⟩, 7) := ⟨⟨by decide +kernel, by decide +kernel⟩, List.mem_of_getElem? (i := 38) (by decide +kernel), List.mem_of_getElem? (i := 438) (by decide +kernel), List.mem_of_getElem? (i := 439) (by decide +kernel)⟩
theorem lw_p6 : lw_okq (⟨"ShellWatch", "requirePlace", "(I)V"⟩, 7) := ⟨⟨by decide +kernel, by decide +kernel⟩, List.mem_of_getElem? (i := 38) (by decide +kernel), List.mem_of_getElem? (i := 442) (by decide +kernel), List.mem_of_getElem? (i := 443) (by decide +kernel)⟩
theorem lw_p7 : lw_okq (⟨"ShellWatch", "change", "()LShellWatch$Game;"⟩, 7) := ⟨⟨by decide +kernel, by decide +kernel⟩, List.mem_of_getElem? (i := 38) (by decide +kernel), List.mem_of_getElem? (i := 467) (by decide +kernel), List.mem_of_getElem? (i := 468) (by decide +kernel)⟩
theorem lw_p8 : lw_okq (⟨"ShellWatch$Mind", "exchange", "(II)V"⟩, 5) := ⟨⟨by decide +kernel, by decide +kernel⟩, List.mem_of_getElem? (i := 119) (by decide +kernel), List.mem_of_getElem? (i := 518) (by decide +kernel), List.mem_of_getElem? (i := 519) (by decide +kernel)⟩
theorem lw_p9 : lw_okq (⟨"ShellWatch$Mind", "wonder", "(LShellWatch$Row;)V"⟩, 5) := ⟨⟨by decide +kernel, by decide +kernel⟩, List.mem_of_getElem? (i := 119) (by decide +kernel), List.mem_of_getElem? (i := 522) (by decide +kernel), List.mem_of_getElem? (i := 523) (by decide +kernel)⟩
theorem lw_p10 : lw_okq (⟨"ShellWatch$Mind", "mix", "(II)V"⟩, 5) := ⟨⟨by decide +kernel, by decide +kernel⟩, List.mem_of_getElem? (i := 119) (by decide +kernel), List.mem_of_getElem? (i := 529) (by decide +kernel), List.mem_of_getElem? (i := 530) (by decide +kernel)⟩
theorem lw_p11 : lw_okq (⟨"ShellWatch$Mind", "settle", "()V"⟩, 5) := ⟨⟨by decide +kernel, by decide +kernel⟩, List.mem_of_getElem? (i := 119) (by decide +kernel), List.mem_of_getElem? (i := 533) (by decide +kernel), List.mem_of_getElem? (i := 534) (by decide +kernel)⟩
theorem lw_p12 : lw_okq (⟨"ShellWatch$Mind", "divideByCommonDivisor", "()V"⟩, 5) := ⟨⟨by decide +kernel, by decide +kernel⟩, List.mem_of_getElem? (i := 119) (by decide +kernel), List.mem_of_getElem? (i := 537) (by decide +kernel), List.mem_of_getElem? (i := 538) (by decide +kernel)⟩
theorem lw_p13 : lw_okq (⟨"ShellWatch$Mind", "halve", "()V"⟩, 5) := ⟨⟨by decide +kernel, by decide +kernel⟩, List.mem_of_getElem? (i := 119) (by decide +kernel), List.mem_of_getElem? (i := 552) (by decide +kernel), List.mem_of_getElem? (i := 553) (by decide +kernel)⟩
theorem lw_p14 : lw_okq (⟨"ShellWatch$Game", "countStep", "(Z)V"⟩, 9) := ⟨⟨by decide +kernel, by decide +kernel⟩, List.mem_of_getElem? (i := 162) (by decide +kernel), List.mem_of_getElem? (i := 568) (by decide +kernel), List.mem_of_getElem? (i := 569) (by decide +kernel)⟩
theorem lw_p15 : lw_okq (⟨"ShellWatchLaw$Story", "blind", "(LShellWatchLaw$Sight;II)J"⟩, 6) := ⟨⟨by decide +kernel, by decide +kernel⟩, List.mem_of_getElem? (i := 632) (by decide +kernel), List.mem_of_getElem? (i := 718) (by decide +kernel), List.mem_of_getElem? (i := 719) (by decide +kernel)⟩
def lw_privs_1 : List (MethodName × Nat) := [(⟨"ShellWatch$Formula", "put", "(I)V"⟩, 3), (⟨"ShellWatch", "requireWhat", "(II)V"⟩, 7), (⟨"java/lang/Throwable", "fillInStackTrace", "(I)Ljava/lang/Throwable;"⟩, 6), (⟨"ShellWatch", "game", "()LShellWatch$Game;"⟩, 7), (⟨"ShellWatch", "requirePlaceOrHand", "(I)V"⟩, 7), (⟨"ShellWatch", "requireTwoPlaces", "(II)V"⟩, 7), (⟨"ShellWatch", "requirePlace", "(I)V"⟩, 7), (⟨"ShellWatch", "change", "()LShellWatch$Game;"⟩, 7), (⟨"ShellWatch$Mind", "exchange", "(II)V"⟩, 5), (⟨"ShellWatch$Mind", "wonder", "(LShellWatch$Row;)V"⟩, 5), (⟨"ShellWatch$Mind", "mix", "(II)V"⟩, 5), (⟨"ShellWatch$Mind", "settle", "()V"⟩, 5), (⟨"ShellWatch$Mind", "divideByCommonDivisor", "()V"⟩, 5), (⟨"ShellWatch$Mind", "halve", "()V"⟩, 5), (⟨"ShellWatch$Game", "countStep", "(Z)V"⟩, 9), (⟨"ShellWatchLaw$Story", "blind", "(LShellWatchLaw$Sight;II)J"⟩, 6)]
theorem lw_r1 : ∀ q ∈ lw_privs_1, lw_okq q := List.forall_mem_cons.mpr ⟨lw_p0, List.forall_mem_cons.mpr ⟨lw_p1, List.forall_mem_cons.mpr ⟨lw_p2, List.forall_mem_cons.mpr ⟨lw_p3, List.forall_mem_cons.mpr ⟨lw_p4, List.forall_mem_cons.mpr ⟨lw_p5, List.forall_mem_cons.mpr ⟨lw_p6, List.forall_mem_cons.mpr ⟨lw_p7, List.forall_mem_cons.mpr ⟨lw_p8, List.forall_mem_cons.mpr ⟨lw_p9, List.forall_mem_cons.mpr ⟨lw_p10, List.forall_mem_cons.mpr ⟨lw_p11, List.forall_mem_cons.mpr ⟨lw_p12, List.forall_mem_cons.mpr ⟨lw_p13, List.forall_mem_cons.mpr ⟨lw_p14, List.forall_mem_cons.mpr ⟨lw_p15, fun _ h => absurd h List.not_mem_nil⟩⟩⟩⟩⟩⟩⟩⟩⟩⟩⟩⟩⟩⟩⟩⟩
theorem lw_p16 : lw_okq (⟨"ShellWatchLaw$Story", "open", "(LShellWatchLaw$Sight;II)J"⟩, 6) := ⟨⟨by decide +kernel, by decide +kernel⟩, List.mem_of_getElem? (i := 632) (by decide +kernel), List.mem_of_getElem? (i := 724) (by decide +kernel), List.mem_of_getElem? (i := 725) (by decide +kernel)⟩
theorem lw_p17 : lw_okq (⟨"ShellWatch", "requireLength", "(I)V"⟩, 7) := ⟨⟨by decide +kernel, by decide +kernel⟩, List.mem_of_getElem? (i := 38) (by decide +kernel), List.mem_of_getElem? (i := 815) (by decide +kernel), List.mem_of_getElem? (i := 816) (by decide +kernel)⟩
theorem lw_p18 : lw_okq (⟨"ShellWatch$Input", "kindAt", "(I)I"⟩, 10) := ⟨⟨by decide +kernel, by decide +kernel⟩, List.mem_of_getElem? (i := 46) (by decide +kernel), List.mem_of_getElem? (i := 826) (by decide +kernel), List.mem_of_getElem? (i := 827) (by decide +kernel)⟩
theorem lw_p19 : lw_okq (⟨"ShellWatch$Input", "addToken", "(II)V"⟩, 10) := ⟨⟨by decide +kernel, by decide +kernel⟩, List.mem_of_getElem? (i := 46) (by decide +kernel), List.mem_of_getElem? (i := 830) (by decide +kernel), List.mem_of_getElem? (i := 831) (by decide +kernel)⟩
theorem lw_p20 : lw_okq (⟨"ShellWatch$Input", "numberIn", "(II)I"⟩, 10) := ⟨⟨by decide +kernel, by decide +kernel⟩, List.mem_of_getElem? (i := 46) (by decide +kernel), List.mem_of_getElem? (i := 836) (by decide +kernel), List.mem_of_getElem? (i := 837) (by decide +kernel)⟩
theorem lw_p21 : lw_okq (⟨"ShellWatch$Input", "put", "(LShellWatch$Token;II)V"⟩, 10) := ⟨⟨by decide +kernel, by decide +kernel⟩, List.mem_of_getElem? (i := 46) (by decide +kernel), List.mem_of_getElem? (i := 840) (by decide +kernel), List.mem_of_getElem? (i := 841) (by decide +kernel)⟩
theorem lw_p22 : lw_okq (⟨"ShellWatch$Input", "tokenIn", "(II)LShellWatch$Token;"⟩, 10) := ⟨⟨by decide +kernel, by decide +kernel⟩, List.mem_of_getElem? (i := 46) (by decide +kernel), List.mem_of_getElem? (i := 844) (by decide +kernel), List.mem_of_getElem? (i := 845) (by decide +kernel)⟩
theorem lw_p23 : lw_okq (⟨"ShellWatch$Input", "isSpelled", "(Ljava/lang/String;II)Z"⟩, 10) := ⟨⟨by decide +kernel, by decide +kernel⟩, List.mem_of_getElem? (i := 46) (by decide +kernel), List.mem_of_getElem? (i := 850) (by decide +kernel), List.mem_of_getElem? (i := 851) (by decide +kernel)⟩
theorem lw_p24 : lw_okq (⟨"ShellWatch$Formula", "readSum", "(LShellWatch$Input;I)Z"⟩, 3) := ⟨⟨by decide +kernel, by decide +kernel⟩, List.mem_of_getElem? (i := 215) (by decide +kernel), List.mem_of_getElem? (i := 942) (by decide +kernel), List.mem_of_getElem? (i := 943) (by decide +kernel)⟩
theorem lw_p25 : lw_okq (⟨"ShellWatch$Formula", "readTerm", "(LShellWatch$Input;I)Z"⟩, 3) := ⟨⟨by decide +kernel, by decide +kernel⟩, List.mem_of_getElem? (i := 215) (by decide +kernel), List.mem_of_getElem? (i := 946) (by decide +kernel), List.mem_of_getElem? (i := 947) (by decide +kernel)⟩
theorem lw_p26 : lw_okq (⟨"ShellWatch$Formula", "readFactor", "(LShellWatch$Input;I)Z"⟩, 3) := ⟨⟨by decide +kernel, by decide +kernel⟩, List.mem_of_getElem? (i := 215) (by decide +kernel), List.mem_of_getElem? (i := 950) (by decide +kernel), List.mem_of_getElem? (i := 951) (by decide +kernel)⟩
theorem lw_p27 : lw_okq (⟨"ShellWatch", "moveBall", "(I)I"⟩, 7) := ⟨⟨by decide +kernel, by decide +kernel⟩, List.mem_of_getElem? (i := 38) (by decide +kernel), List.mem_of_getElem? (i := 1021) (by decide +kernel), List.mem_of_getElem? (i := 1022) (by decide +kernel)⟩
theorem lw_p28 : lw_okq (⟨"java/util/ArrayList", "add", "(Ljava/lang/Object;[Ljava/lang/Object;I)V"⟩, 3) := ⟨⟨by decide +kernel, by decide +kernel⟩, List.mem_of_getElem? (i := 638) (by decide +kernel), List.mem_of_getElem? (i := 1275) (by decide +kernel), List.mem_of_getElem? (i := 1276) (by decide +kernel)⟩
theorem lw_p29 : lw_okq (⟨"java/util/ArrayList", "grow", "()[Ljava/lang/Object;"⟩, 3) := ⟨⟨by decide +kernel, by decide +kernel⟩, List.mem_of_getElem? (i := 638) (by decide +kernel), List.mem_of_getElem? (i := 1279) (by decide +kernel), List.mem_of_getElem? (i := 1280) (by decide +kernel)⟩
theorem lw_p30 : lw_okq (⟨"java/util/ArrayList", "grow", "(I)[Ljava/lang/Object;"⟩, 3) := ⟨⟨by decide +kernel, by decide +kernel⟩, List.mem_of_getElem? (i := 638) (by decide +kernel), List.mem_of_getElem? (i := 1283) (by decide +kernel), List.mem_of_getElem? (i := 1284) (by decide +kernel)⟩
def lw_privs_2 : List (MethodName × Nat) := [(⟨"ShellWatchLaw$Story", "open", "(LShellWatchLaw$Sight;II)J"⟩, 6), (⟨"ShellWatch", "requireLength", "(I)V"⟩, 7), (⟨"ShellWatch$Input", "kindAt", "(I)I"⟩, 10), (⟨"ShellWatch$Input", "addToken", "(II)V"⟩, 10), (⟨"ShellWatch$Input", "numberIn", "(II)I"⟩, 10), (⟨"ShellWatch$Input", "put", "(LShellWatch$Token;II)V"⟩, 10), (⟨"ShellWatch$Input", "tokenIn", "(II)LShellWatch$Token;"⟩, 10), (⟨"ShellWatch$Input", "isSpelled", "(Ljava/lang/String;II)Z"⟩, 10), (⟨"ShellWatch$Formula", "readSum", "(LShellWatch$Input;I)Z"⟩, 3), (⟨"ShellWatch$Formula", "readTerm", "(LShellWatch$Input;I)Z"⟩, 3), (⟨"ShellWatch$Formula", "readFactor", "(LShellWatch$Input;I)Z"⟩, 3), (⟨"ShellWatch", "moveBall", "(I)I"⟩, 7), (⟨"java/util/ArrayList", "add", "(Ljava/lang/Object;[Ljava/lang/Object;I)V"⟩, 3), (⟨"java/util/ArrayList", "grow", "()[Ljava/lang/Object;"⟩, 3), (⟨"java/util/ArrayList", "grow", "(I)[Ljava/lang/Object;"⟩, 3)]
theorem lw_r2 : ∀ q ∈ lw_privs_2, lw_okq q := List.forall_mem_cons.mpr ⟨lw_p16, List.forall_mem_cons.mpr ⟨lw_p17, List.forall_mem_cons.mpr ⟨lw_p18, List.forall_mem_cons.mpr ⟨lw_p19, List.forall_mem_cons.mpr ⟨lw_p20, List.forall_mem_cons.mpr ⟨lw_p21, List.forall_mem_cons.mpr ⟨lw_p22, List.forall_mem_cons.mpr ⟨lw_p23, List.forall_mem_cons.mpr ⟨lw_p24, List.forall_mem_cons.mpr ⟨lw_p25, List.forall_mem_cons.mpr ⟨lw_p26, List.forall_mem_cons.mpr ⟨lw_p27, List.forall_mem_cons.mpr ⟨lw_p28, List.forall_mem_cons.mpr ⟨lw_p29, List.forall_mem_cons.mpr ⟨lw_p30, fun _ h => absurd h List.not_mem_nil⟩⟩⟩⟩⟩⟩⟩⟩⟩⟩⟩⟩⟩⟩⟩
def lw_privs : List (MethodName × Nat) := lw_privs_1 ++ (lw_privs_2)
def lw_tbl : List Cond := k2_sels lw_privs ++ tables_1
theorem lw_privs_ok : ∀ q ∈ lw_privs, lw_okq q := by
  show ∀ q ∈ lw_privs_1 ++ (lw_privs_2), lw_okq q
  exact List.forall_mem_append.mpr ⟨lw_r1, lw_r2⟩
/-! ===== BEGIN words of one list among another's, by their places ===== -/
theorem goodIn_r {big : List Cond} (ws : List Cond) (ps : List Nat) (hp : ws = ps.filterMap (fun i => big[i]?)) (h : ws.all goodWord = true) : GoodIn big ws := by
  intro w hw
  have h1 := List.all_eq_true.mp h w hw
  rw [hp] at hw
  obtain ⟨i, -, hi⟩ := List.mem_filterMap.mp hw
  have hm : w ∈ big := by first | exact List.mem_of_getElem? hi | exact List.getElem?_mem hi
  exact ⟨hm, good_of_word h1⟩
theorem goodIn_app {big a b : List Cond} (ha : GoodIn big a) (hb : GoodIn big b) : GoodIn big (a ++ b) := fun w h => (List.mem_append.mp h).elim (ha w) (hb w)
theorem goodIn_ca {big a b : List Cond} {c : Cond} (ha : GoodIn big (c :: a)) (hb : GoodIn big b) : GoodIn big (c :: (a ++ b)) := fun w h => (List.mem_cons.mp h).elim (fun e => ha w (List.mem_cons.mpr (Or.inl e))) (fun h => (List.mem_append.mp h).elim (fun h => ha w (List.mem_cons.mpr (Or.inr h))) (hb w))
theorem goodIn_sub {big ws : List Cond} (hm : ∀ w ∈ ws, w ∈ big) (h : ws.all goodWord = true) : GoodIn big ws := fun w hw => ⟨hm w hw, good_of_word (List.all_eq_true.mp h w hw)⟩
/-! ===== END ===== -/

/-! ===== BEGIN exceptions that leave a method, and their catching by the caller (launches without stack traces) ===== -/
section VXA
/-! The laws vx_back, vx_callV, vx_callS, vx_callSW, vx_throw0, vx_throwS follow proofs of the library, with one case more: JvmDerived/Free/Laws.lean (Back.of_free), Shelf42/LK1.lean (callV, callS), Shelf/KitTraced.lean (throwNew0V, throwNewS). -/
/-- where a method has thrown q: the class by its name, the cell, what was written, the world -/
def vx_T (XC : String → State → State → Prop) (st : State) (q : Addr) (t : State) (mc ms : Nat) (free : Addr → Prop) : Prop :=
  ∃ (E : String) (ce : Cell) (L : List Loc), XC E st t ∧ t.heap[q]? = some ce ∧ ce.vm = .none ∧ st.vm.findClass E = some ce.cls ∧ st.WarmedH t.vm ∧ st.sameButNew ({ t with vm := st.vm } : State) L mc ms ∧ ∀ z ∈ L, free z.base
def vx_Q (Qc : Array Value → State → Outcome → State → Prop) (XC : String → State → State → Prop) (mc ms : Nat) (free : Addr → Prop) : Array Value → State → Outcome → State → Prop := fun a st o t =>
  (Qc a st o t ∧ ∃ L, FrameEnd st o t L mc ms ∧ ∀ q ∈ L, free q.base) ∨ ∃ q, o = .threw q ∧ vx_T XC st q t mc ms free
/-- a callee that returns or throws -/
def vx_Met (l : Launch) (y : MethodName) (ws : List Cond) (rm : Room) (Pc : Array Value → State → Prop) (Qc : Array Value → State → Outcome → State → Prop) (XC : String → State → State → Prop) (mc ms : Nat) (free : Addr → Prop) : Prop :=
  MetFree l y (headSpec ws rm) Pc (fun _ _ _ _ _ => True) (vx_Q Qc XC mc ms free)
def vx_Post (XC : String → State → State → Prop) (mc ms : Nat) (free : Addr → Prop) : Pt → Array Value → Addr → Pt → Prop := fun A a q B =>
  ∃ (g : JFrame) (mk : MethodId) (t : State) (L : List Loc) (E : String) (ce : Cell), B.U.heap = t.heap ∧ B.U.vm = t.vm ∧ XC E (A.U.calling g mk a) t ∧ t.heap[q]? = some ce ∧ ce.vm = .none ∧ A.U.vm.findClass E = some ce.cls ∧ B.locs = A.locs ++ L ∧ (∀ z ∈ L, free z.base) ∧ B.cells = A.cells + mc ∧ B.slots = A.slots + ms
def vx_Back (l : Launch) (R : Room) (p : Program) (e : Env) (below : List Frame) (s : State) (sargs : Array Value) (y : MethodName) (len W9 : Nat)
    (Pre : Pt → Array Value → Prop) (Post : Pt → Array Value → Option Value → Pt → Prop) (PostX : Pt → Array Value → Addr → Pt → Prop) : Prop :=
  ∀ (m : MethodId) (meth : Method) (c : Code) (A : Pt) (g : JFrame) (ig : Instr) (mk : MethodId) (a : Array Value),
    Stand p l e R s m sargs below meth c A.U A.locs A.cells A.slots → g.method = m → g.locals.size = c.maxLocals → decode c.code g.pc = .ok (ig, len) →
    2 * g.monitorRoom + (g.stack.map fun v => v.category).sum ≤ W9 → A.U.methodNamed? y = some mk → Pre A a →
    (∃ (v : Option Value) (B : Pt), Stand p l e R s m sargs below meth c B.U B.locs B.cells B.slots ∧ Post A a v B ∧
      Steps p.tables e below (doInvoke e (A.U.setTop g) [] mk a).1 (B.U.setTop { g with pc := g.pc + len, stack := v.toList ++ g.stack })) ∨
    (∃ (q : Addr) (B : Pt), Stand p l e R s m sargs below meth c B.U B.locs B.cells B.slots ∧ PostX A a q B ∧
      Steps p.tables e below (doInvoke e (A.U.setTop g) [] mk a).1 ((B.U.setTop g).pushFrame (.throwing q)))
section Payer
variable {l : Launch} {R : Room} {p : Program} {e : Env} {below : List Frame} {s : State} {sargs : Array Value} {y : MethodName} {len W9 : Nat}
theorem vx_back {ws : List Cond} {rm : Room} {Pc : Array Value → State → Prop} {Qc : Array Value → State → Outcome → State → Prop} {XC : String → State → State → Prop} {mc ms : Nat} {free : Addr → Prop} {bytes : ByteArray} {maxL : Nat} {ret : Option FieldType}
    (hM : vx_Met l y ws rm Pc Qc XC mc ms free) (hblind : FrameBlind Pc) (hrc : rm.cells = mc) (hrs : rm.slots = ms)
    (hframes : rm.frames + 1 ≤ R.frames) (hlocals : W9 + (maxL + 11) + rm.locals ≤ R.locals)
    (hws : ∀ w ∈ ws, ∀ a' U, s.WarmedH U.vm → w.before a' U = true) (hcode : Cond.code y bytes maxL ret ∈ ws) (hinit : ∀ a' U, s.WarmedH U.vm → (Cond.initialized y.cls).before a' U = true) :
    vx_Back l R p e below s sargs y len W9 (PreOf R mc ms Pc) (PostOf Qc mc ms free) (vx_Post XC mc ms free) := by
  intro m meth c A g ig mk a X hg hsize hdg hW hn hp
  have h1 : (headSpec ws rm).pre.before a A.U = true := atoms_intro fun w hw => hws w hw _ _ X.warmed
  have h2 : (Cond.code y bytes maxL ret).before a A.U = true := hws _ hcode _ _ X.warmed
  have h3 : (Cond.initialized y.cls).before a A.U = true := hinit _ _ X.warmed
  have h4 : A.cells + (headSpec ws rm).room.cells ≤ R.cells := by rw [show (headSpec ws rm).room.cells = mc from hrc]; exact hp.1
  have h5 : A.slots + (headSpec ws rm).room.slots ≤ R.slots := by rw [show (headSpec ws rm).room.slots = ms from hrs]; exact hp.2.1
  have hPc : Pc a (A.U.calling g mk a) := hblind _ _ _ _ hp.2.2
  obtain ⟨U, Ls, c0, s0⟩ := A
  dsimp only [Pt.U, Pt.locs, Pt.cells, Pt.slots] at h1 h2 h3 h4 h5 X hn hPc ⊢
  obtain ⟨methY, cY, hmY, hcY, -, hlY, -, -, -, -⟩ := Cond.code_spec hn h2
  obtain ⟨kY, hkY, -⟩ := className_of_methodNamed hn
  have hinitY : kY.init = .initialized := Cond.initialized_spec (findClass_of_methodNamed hn) hkY h3
  have h : At U g.method c below := by rw [hg]; exact X.here
  have hlocals9 : W9 + (maxL + 11) + (headSpec ws rm).room.locals ≤ R.locals := hlocals
  have happ : (headSpec ws rm).appliesLoose y e.platform (U.calling g mk a) = true :=
    Spec.appliesLoose_calling (g := g) h hdg hn hkY hinitY
      (X.room_calling (g := g) (R' := (headSpec ws rm).room) hsize hmY hcY hframes (by rw [hlY]; omega) h4 h5) h1
  obtain ⟨mid, hmid⟩ := h.above
  have hfr : (U.setTop g).frames = (.java g :: mid) ++ below := by rw [State.frames_setTop' g h.top, hmid]; rfl
  obtain ⟨o, s₂, hsteps, -, hend, hq⟩ := Steps.callFree hM p X.admits X.cas X.clock (acts := []) hfr happ hPc trivial
  have hq' : vx_Q Qc XC mc ms free a (U.calling g mk a) o s₂ := hq
  rw [State.frames_setTop' g h.top] at hend
  obtain ⟨g₀, hg0⟩ := Option.isSome_iff_exists.mp h.top
  obtain ⟨r, hr⟩ := State.topJava?_eq_some.mp hg0
  have hr' : (({ U with heap := s₂.heap, slotsUsed := s₂.slotsUsed } : State).setVm s₂.vm).frames = .java g₀ :: r := hr
  rcases hq' with ⟨hqc, L, hfe, hL⟩ | ⟨q, rfl, E, ce, L, hx, hce, hcv, hcl, hW₂, hsm, hL⟩
  · obtain ⟨⟨v, rfl⟩, hW₂, e2, q2, q3, q4, q5, q6⟩ := id hfe
    have e3 : s₂ = ({ (U.calling g mk a).setFrames s₂.frames with heap := s₂.heap, slotsUsed := s₂.slotsUsed } : State).setVm s₂.vm := by
      have : s₂ = ({ s₂ with vm := (U.calling g mk a).vm } : State).setVm s₂.vm := rfl
      rw [e2] at this
      exact this
    obtain ⟨c₂, i₂, len₂, hc₂, hd₂, hf₂⟩ := hend
    have hW' : U.WarmedH s₂.vm := hW₂
    have hcc : c₂ = c := by
      have h1 : s₂.code? g.method = U.code? g.method := by
        rw [State.code?_eq, State.code?_eq, hW'.alike.method?]
      exact Option.some.inj (hc₂.symm.trans (h1.trans h.code))
    subst hcc
    have hlen : len₂ = len := by rw [hdg] at hd₂; cases hd₂; rfl
    subst hlen
    have hs₂ : s₂ = (({ U with heap := s₂.heap, slotsUsed := s₂.slotsUsed } : State).setVm s₂.vm).setTop { g with pc := g.pc + len₂, stack := v.toList ++ g.stack } := by
      refine e3.trans ?_
      rw [hf₂, State.calling_eq h.top, State.setFrames_setFrames, State.setTop_of_frames _ hr', hr]
      rfl
    have hsame : U.sameButNew ({ U with heap := s₂.heap, slotsUsed := s₂.slotsUsed } : State) L mc ms := by
      refine ⟨?_, q2, q3, q4, q5, q6⟩
      obtain ⟨t, ht, -⟩ := State.frames_cons hr
      show ({ U with heap := s₂.heap, slotsUsed := s₂.slotsUsed } : State) = { U.setFrames U.frames with heap := s₂.heap, slotsUsed := s₂.slotsUsed }
      rw [State.setFrames_self ht]
    subst hg
    refine Or.inl ⟨v, ⟨(({ U with heap := s₂.heap, slotsUsed := s₂.slotsUsed } : State).setVm s₂.vm), Ls ++ L, c0 + mc, s0 + ms⟩,
      ⟨X.admits, X.cas, X.clock, X.frames, X.room, X.hears, X.method, X.code, (X.here.setHeapUsed s₂.heap s₂.slotsUsed).setVm hW'.alike, X.tail, State.WarmedH.trans X.warmed hW', X.limits, X.bytes, X.same.trans (hsame.setVm s.vm)⟩,
      ⟨g, mk, s₂, L, rfl, rfl, hqc, rfl, hL, rfl, rfl⟩, ?_⟩
    show Steps p.tables e below _ ((({ U with heap := s₂.heap, slotsUsed := s₂.slotsUsed } : State).setVm s₂.vm).setTop { g with pc := g.pc + len₂, stack := v.toList ++ g.stack })
    rw [← hs₂]
    exact hsteps
  · obtain ⟨e2, q2, q3, q4, q5, q6⟩ := id hsm
    have e3 : s₂ = ({ (U.calling g mk a).setFrames s₂.frames with heap := s₂.heap, slotsUsed := s₂.slotsUsed } : State).setVm s₂.vm := by
      have : s₂ = ({ s₂ with vm := (U.calling g mk a).vm } : State).setVm s₂.vm := rfl
      rw [e2] at this
      exact this
    have hf₂ : s₂.frames = .throwing q :: .java g :: U.frames.tail := hend
    have hW' : U.WarmedH s₂.vm := hW₂
    have hs₂ : s₂ = ((({ U with heap := s₂.heap, slotsUsed := s₂.slotsUsed } : State).setVm s₂.vm).setTop g).pushFrame (.throwing q) := by
      refine e3.trans ?_
      rw [hf₂, State.calling_eq h.top, State.setFrames_setFrames, State.pushFrame, State.frames_setTop _ hr', State.setTop_of_frames _ hr', State.setFrames_setFrames, hr]
      rfl
    have hsame : U.sameButNew ({ U with heap := s₂.heap, slotsUsed := s₂.slotsUsed } : State) L mc ms := by
      refine ⟨?_, q2, q3, q4, q5, q6⟩
      obtain ⟨t, ht, -⟩ := State.frames_cons hr
      show ({ U with heap := s₂.heap, slotsUsed := s₂.slotsUsed } : State) = { U.setFrames U.frames with heap := s₂.heap, slotsUsed := s₂.slotsUsed }
      rw [State.setFrames_self ht]
    subst hg
    refine Or.inr ⟨q, ⟨(({ U with heap := s₂.heap, slotsUsed := s₂.slotsUsed } : State).setVm s₂.vm), Ls ++ L, c0 + mc, s0 + ms⟩,
      ⟨X.admits, X.cas, X.clock, X.frames, X.room, X.hears, X.method, X.code, (X.here.setHeapUsed s₂.heap s₂.slotsUsed).setVm hW'.alike, X.tail, State.WarmedH.trans X.warmed hW', X.limits, X.bytes, X.same.trans (hsame.setVm s.vm)⟩,
      ⟨g, mk, s₂, L, E, ce, rfl, rfl, hx, hce, hcv, hcl, rfl, hL, rfl, rfl⟩, ?_⟩
    show Steps p.tables e below _ (((({ U with heap := s₂.heap, slotsUsed := s₂.slotsUsed } : State).setVm s₂.vm).setTop g).pushFrame (.throwing q))
    rw [← hs₂]
    exact hsteps
end Payer
section Calls
variable {p : Program} {l : Launch} {e : Env} {R : Room} {s : State} {m : MethodId} {args : Array Value} {below : List Frame} {meth : Method} {c : Code} {T : State} {locs : List Loc} {cells slots : Nat}
theorem vx_callV (X : Stand p l e R s m args below meth c T locs cells slots) (hexec : p.tables.exec = Jvm.exec) {own C : String} {index : Nat} {y : MethodName} {bytes : ByteArray} {maxL : Nat} {ret : Option FieldType}
    (hown : s.vm.findClass own = some m.cls) (hlink : (Cond.methodLink own index y).before args s = true) (hinst : (Cond.instanceMethod y).before args s = true) (hsel : (Cond.selects C y y).before args s = true)
    (hcode : (Cond.code y bytes maxL ret).before args s = true) (hy : y.cls ≠ "java/lang/invoke/MethodHandle" ∧ y.cls ≠ "java/lang/invoke/VarHandle")
    {W9 : Nat} {Pre : Pt → Array Value → Prop} {Post : Pt → Array Value → Option Value → Pt → Prop} {PostX : Pt → Array Value → Addr → Pt → Prop} (hK : vx_Back l R p e below s args y 3 W9 Pre Post PostX)
    {b : Addr} {cellB : Cell} (hcell : T.heap[b]? = some cellB) (hobj : cellB.vm.isStatics = false) (hcls : s.vm.findClass C = some cellB.cls)
    {g : JFrame} (hg : g.method = m) (hsize : g.locals.size = c.maxLocals) {argsL rest : List Value} (hlen : ∀ sig, parseMethodDescriptor y.desc = some sig → argsL.length = sig.parameters.length)
    (hstack : g.stack = argsL.reverse ++ .ref b :: rest) (hW : 2 * g.monitorRoom + (rest.map fun v => v.category).sum ≤ W9) (hdg : decode c.code g.pc = .ok (.invokevirtual index, 3))
    (hpre : ∀ vm₁, s.WarmedH vm₁ → Pre ⟨T.setVm vm₁, locs, cells, slots⟩ (Value.ref b :: argsL).toArray) :
    (∃ (v : Option Value) (vm₁ : Vm) (B : Pt), s.WarmedH vm₁ ∧ Stand p l e R s m args below meth c B.U B.locs B.cells B.slots ∧ Post ⟨T.setVm vm₁, locs, cells, slots⟩ (Value.ref b :: argsL).toArray v B ∧
      ∀ target, Steps p.tables e below (B.U.setTop { g with pc := g.pc + 3, stack := v.toList ++ rest }) target → Steps p.tables e below (T.setTop g) target) ∨
    (∃ (q : Addr) (vm₁ : Vm) (B : Pt), s.WarmedH vm₁ ∧ Stand p l e R s m args below meth c B.U B.locs B.cells B.slots ∧ PostX ⟨T.setVm vm₁, locs, cells, slots⟩ (Value.ref b :: argsL).toArray q B ∧
      Steps p.tables e below (T.setTop g) ((B.U.setTop { g with stack := rest }).pushFrame (.throwing q))) := by
  obtain ⟨mk, methM, hnamed, hmethM, hstM, habM⟩ := Cond.instanceMethod_spec hinst
  obtain ⟨methM', cM, hmethM', -, -, -, -, -, -, hsigM⟩ := Cond.code_spec hnamed hcode
  cases hmethM.symm.trans hmethM'
  obtain ⟨c2, r2, m2, q1, q2, q3, q4, kP, hkP, hkPi⟩ := Cond.selects_spec hsel
  cases hcls.symm.trans q1
  cases (State.methodFound?_of_named hnamed hy).symm.trans q2
  cases hnamed.symm.trans q3
  have hselP : selectMethod e.platform s.vm cellB.cls mk = .method mk := by rw [Launch.admits_selectMethod X.admits]; exact q4
  obtain ⟨vm₁, X₁, hstep₁⟩ := X.invokevirtual hexec hown hlink hnamed hmethM hstM hkP hkPi hy (a := b) (cell := cellB) hcell
    (fun z h => by rw [h] at hobj; cases hobj) hselP hmethM habM hkP hkPi (g := g) hg (argsL := argsL) (rest := rest) (hlen _ hsigM) hstack hdg
  rcases hK m meth c ⟨T.setVm vm₁, locs, cells, slots⟩ { g with stack := rest } (.invokevirtual index) mk (Value.ref b :: argsL).toArray X₁ hg hsize hdg hW (X₁.named hnamed) (hpre vm₁ X₁.warmed) with ⟨v, B, X', hpost, hsteps⟩ | ⟨q, B, X', hpost, hsteps⟩
  · exact Or.inl ⟨v, vm₁, B, X₁.warmed, X', hpost, fun target h => hstep₁ _ fun acts => by rw [doInvoke_state]; exact hsteps.trans h⟩
  · exact Or.inr ⟨q, vm₁, B, X₁.warmed, X', hpost, hstep₁ _ fun acts => by rw [doInvoke_state]; exact hsteps⟩
theorem vx_callS (X : Stand p l e R s m args below meth c T locs cells slots) (hexec : p.tables.exec = Jvm.exec) {own : String} {index : Nat} {y : MethodName} {bytes : ByteArray} {maxL : Nat} {ret : Option FieldType}
    (hown : s.vm.findClass own = some m.cls) (hlink : (Cond.methodLink own index y).before args s = true) (hstat : (Cond.static y).before args s = true) (hinit : (Cond.initialized y.cls).before args s = true)
    (hcode : (Cond.code y bytes maxL ret).before args s = true) (hy : y.cls ≠ "java/lang/invoke/MethodHandle" ∧ y.cls ≠ "java/lang/invoke/VarHandle")
    {W9 : Nat} {Pre : Pt → Array Value → Prop} {Post : Pt → Array Value → Option Value → Pt → Prop} {PostX : Pt → Array Value → Addr → Pt → Prop} (hK : vx_Back l R p e below s args y 3 W9 Pre Post PostX)
    {g : JFrame} (hg : g.method = m) (hsize : g.locals.size = c.maxLocals) {argsL rest : List Value} (hlen : ∀ sig, parseMethodDescriptor y.desc = some sig → argsL.length = sig.parameters.length)
    (hstack : g.stack = argsL.reverse ++ rest) (hW : 2 * g.monitorRoom + (rest.map fun v => v.category).sum ≤ W9) (hdg : decode c.code g.pc = .ok (.invokestatic index, 3))
    (hpre : ∀ vm₁, s.WarmedH vm₁ → Pre ⟨T.setVm vm₁, locs, cells, slots⟩ argsL.toArray) :
    (∃ (v : Option Value) (vm₁ : Vm) (B : Pt), s.WarmedH vm₁ ∧ Stand p l e R s m args below meth c B.U B.locs B.cells B.slots ∧ Post ⟨T.setVm vm₁, locs, cells, slots⟩ argsL.toArray v B ∧
      ∀ target, Steps p.tables e below (B.U.setTop { g with pc := g.pc + 3, stack := v.toList ++ rest }) target → Steps p.tables e below (T.setTop g) target) ∨
    (∃ (q : Addr) (vm₁ : Vm) (B : Pt), s.WarmedH vm₁ ∧ Stand p l e R s m args below meth c B.U B.locs B.cells B.slots ∧ PostX ⟨T.setVm vm₁, locs, cells, slots⟩ argsL.toArray q B ∧
      Steps p.tables e below (T.setTop g) ((B.U.setTop { g with stack := rest }).pushFrame (.throwing q))) := by
  obtain ⟨mk, hnamed⟩ := Cond.code_named hcode
  obtain ⟨methM, cM, hmethM, -, -, -, -, -, -, hsigM⟩ := Cond.code_spec hnamed hcode
  have hstatic : methM.isStatic = true := Cond.static_spec hnamed hmethM hstat
  obtain ⟨kP, hkP, -⟩ := className_of_methodNamed hnamed
  have hinitP : kP.init = .initialized := Cond.initialized_spec (findClass_of_methodNamed hnamed) hkP hinit
  obtain ⟨vm₁, X₁, hstep₁⟩ := X.invokestatic hexec hown hlink hnamed hmethM hstatic hkP hinitP hy (g := g) hg (argsL := argsL) (rest := rest) (hlen _ hsigM) hstack hdg
  rcases hK m meth c ⟨T.setVm vm₁, locs, cells, slots⟩ { g with stack := rest } (.invokestatic index) mk argsL.toArray X₁ hg hsize hdg hW (X₁.named hnamed) (hpre vm₁ X₁.warmed) with ⟨v, B, X', hpost, hsteps⟩ | ⟨q, B, X', hpost, hsteps⟩
  · exact Or.inl ⟨v, vm₁, B, X₁.warmed, X', hpost, fun target h => hstep₁ _ fun acts => by rw [doInvoke_state]; exact hsteps.trans h⟩
  · exact Or.inr ⟨q, vm₁, B, X₁.warmed, X', hpost, hstep₁ _ fun acts => by rw [doInvoke_state]; exact hsteps⟩
end Calls
theorem vx_cls {s : State} {T : State} {vm₁ : Vm} {E : String} {k : ClassId} (hW : s.WarmedH vm₁) (h : (T.setVm vm₁).vm.findClass E = some k) : s.vm.findClass E = some k := by
  have h1 : vm₁.findClass E = some k := h
  rw [hW.alike.findClass] at h1
  exact h1
/-- the method's frame g, with q thrown over it -/
def vx_W (p : Program) (l : Launch) (e : Env) (R : Room) (s : State) (m : MethodId) (args : Array Value) (below : List Frame) (meth : Method) (c : Code) (H : Heap) (locs : List Loc) (cells slots : Nat) (Q : State → Prop) (g : JFrame) (q : Addr) : Prop :=
  ∀ T : State, T.heap = H → Stand p l e R s m args below meth c T locs cells slots → ∃ t, Steps p.tables e below ((T.setTop g).pushFrame (.throwing q)) t ∧ Q t
def vx_Run (p : Program) (l : Launch) (e : Env) (R : Room) (s : State) (m : MethodId) (args : Array Value) (below : List Frame) (meth : Method) (c : Code) (H : Heap) (locs : List Loc) (cells slots mc ms : Nat) (g : JFrame) (rest : List Value) (Qa : State → Outcome → State → Prop) (XC : String → State → State → Prop) (free : Addr → Prop) : Prop :=
  ∀ T : State, T.heap = H → Stand p l e R s m args below meth c T locs cells slots →
    (∃ (v : Option Value) (st₀ t T' : State) (L : List Loc), st₀.heap = H ∧ Stand p l e R s m args below meth c T' (locs ++ L) (cells + mc) (slots + ms) ∧ (∀ q ∈ L, free q.base) ∧ T'.heap = t.heap ∧ T'.vm = t.vm ∧ Qa st₀ (.returned v) t ∧
      Goes p e below T g T' { g with pc := g.pc + 3, stack := v.toList ++ rest }) ∨
    (∃ (q : Addr) (st₀ t T' : State) (L : List Loc) (E : String) (ce : Cell), st₀.heap = H ∧ Stand p l e R s m args below meth c T' (locs ++ L) (cells + mc) (slots + ms) ∧ (∀ z ∈ L, free z.base) ∧ T'.heap = t.heap ∧ T'.vm = t.vm ∧ XC E st₀ t ∧ t.heap[q]? = some ce ∧ ce.vm = .none ∧ s.vm.findClass E = some ce.cls ∧
      Steps p.tables e below (T.setTop g) ((T'.setTop { g with stack := rest }).pushFrame (.throwing q)))
def vx_X {S : Type} (px : S → Prop) (B : String → S → State → Prop) (A : Nat → Prop) : String → State → State → Prop := fun E st t => ∃ u : S, px u ∧ B E u t ∧ va_F A st t
section Runs
variable {p : Program} {l : Launch} {e : Env} {R : Room} {s : State} {m : MethodId} {args : Array Value} {below : List Frame} {meth : Method} {c : Code} {H : Heap} {locs : List Loc} {cells slots : Nat}
variable {y : MethodName} {bytes cc : ByteArray} {maxL nL mc ms n index : Nat} {ret : Option FieldType} {ws : List Cond} {rm : Room} {Pc : Array Value → State → Prop} {Qc : Array Value → State → Outcome → State → Prop} {XC : String → State → State → Prop} {free : Addr → Prop} {Ts : List Cond} {own C : String} {b : Addr} {As rest : List Value} {g : JFrame}
theorem vx_callBack (cb : CallB R s args own index y bytes maxL ret ws rm mc ms n) (hM : vx_Met l y ws rm Pc Qc XC mc ms free) (hbl : FrameBlind Pc) : vx_Back l R p e below s args y 3 8 (PreOf R mc ms Pc) (PostOf Qc mc ms free) (vx_Post XC mc ms free) := by
  obtain ⟨hrc, hrs, hfr, hlo, hws, hcw, -, hini, -⟩ := cb
  exact vx_back (bytes := bytes) (maxL := maxL) (ret := ret) hM hbl hrc hrs hfr hlo hws hcw (fun a' U hW => word_at hW (Or.inl (by first | rfl | simp [Cond.onTables, Cond.keeps, Cond.steady])) hini)
theorem vx_runV (S : CallFix p m c cc nL s args Ts own) (hM : vx_Met l y ws rm Pc Qc XC mc ms free) (cw : CallW R s args own C index y bytes maxL ret ws rm mc ms n) (hp : PreV s H C b Pc As)
    (hg : g.method = m) (hn : As.length = n) (hsize : g.locals.size = nL) (hstack : g.stack = As.reverse ++ .ref b :: rest) (hW : 2 * g.monitorRoom + (rest.map fun v => v.category).sum ≤ 8) (hdg : decode cc g.pc = .ok (.invokevirtual index, 3)) (hf : cells + mc ≤ R.cells ∧ slots + ms ≤ R.slots) :
    vx_Run p l e R s m args below meth c H locs cells slots mc ms g rest (Qc (Value.ref b :: As).toArray) XC free := by
  have hK : vx_Back l R p e below s args y 3 8 (PreOf R mc ms Pc) (PostOf Qc mc ms free) (vx_Post XC mc ms free) := vx_callBack cw.1 hM hp.1
  obtain ⟨⟨-, -, -, -, -, -, hcode, -, hy, hlen, hl⟩, hin, hse⟩ := cw
  obtain ⟨hx, hb, hml, ho, -⟩ := S
  obtain ⟨-, ⟨cellB, hcB, hoB, hclB⟩, hPc⟩ := hp
  intro T hT X
  rcases vx_callV X hx (C := C) (bytes := bytes) (maxL := maxL) (ret := ret) ho hl hin hse hcode hy hK (by rw [hT]; exact hcB) hoB hclB hg (hsize.trans hml.symm) (argsL := As) (rest := rest) (fun sig h => hn.trans (hlen sig h)) hstack hW (by rw [hb]; exact hdg)
    (fun vm₁ hW₁ => ⟨hf.1, hf.2, hPc (T.setVm vm₁) hT hW₁⟩) with ⟨v, vm₁, ⟨U', l2, c2, s2⟩, hW₁, X', ⟨g', mk, t, L, e1, e2, hq, h1, hL, h2, h3⟩, st⟩ | ⟨q, vm₁, ⟨U', l2, c2, s2⟩, hW₁, X', ⟨g', mk, t, L, E, ce, e1, e2, hq, hce, hcv, hcl, h1, hL, h2, h3⟩, st⟩
  · dsimp only [Pt.U, Pt.locs, Pt.cells, Pt.slots] at X' e1 e2 h1 h2 h3 st
    subst h1; subst h2; subst h3
    exact Or.inl ⟨v, (T.setVm vm₁).calling g' mk (Value.ref b :: As).toArray, t, U', L, hT, X', hL, e1, e2, hq, st⟩
  · dsimp only [Pt.U, Pt.locs, Pt.cells, Pt.slots] at X' e1 e2 h1 h2 h3 st hcl
    subst h1; subst h2; subst h3
    exact Or.inr ⟨q, (T.setVm vm₁).calling g' mk (Value.ref b :: As).toArray, t, U', L, E, ce, hT, X', hL, e1, e2, hq, hce, hcv, vx_cls hW₁ hcl, st⟩
theorem vx_runS (S : CallFix p m c cc nL s args Ts own) (hM : vx_Met l y ws rm Pc Qc XC mc ms free) (cw : CallB R s args own index y bytes maxL ret ws rm mc ms n ∧ (Cond.static y).before args s = true) (hp : PreS s H Pc As)
    (hg : g.method = m) (hn : As.length = n) (hsize : g.locals.size = nL) (hstack : g.stack = As.reverse ++ rest) (hW : 2 * g.monitorRoom + (rest.map fun v => v.category).sum ≤ 8) (hdg : decode cc g.pc = .ok (.invokestatic index, 3)) (hf : cells + mc ≤ R.cells ∧ slots + ms ≤ R.slots) :
    vx_Run p l e R s m args below meth c H locs cells slots mc ms g rest (Qc As.toArray) XC free := by
  have hK : vx_Back l R p e below s args y 3 8 (PreOf R mc ms Pc) (PostOf Qc mc ms free) (vx_Post XC mc ms free) := vx_callBack cw.1 hM hp.1
  obtain ⟨⟨-, -, -, -, -, -, hcode, hini, hy, hlen, hl⟩, hstt⟩ := cw
  obtain ⟨hx, hb, hml, ho, -⟩ := S
  intro T hT X
  rcases vx_callS X hx (bytes := bytes) (maxL := maxL) (ret := ret) ho hl hstt hini hcode hy hK hg (hsize.trans hml.symm) (argsL := As) (rest := rest) (fun sig h => hn.trans (hlen sig h)) hstack hW (by rw [hb]; exact hdg)
    (fun vm₁ hW₁ => ⟨hf.1, hf.2, hp.2 (T.setVm vm₁) hT hW₁⟩) with ⟨v, vm₁, ⟨U', l2, c2, s2⟩, hW₁, X', ⟨g', mk, t, L, e1, e2, hq, h1, hL, h2, h3⟩, st⟩ | ⟨q, vm₁, ⟨U', l2, c2, s2⟩, hW₁, X', ⟨g', mk, t, L, E, ce, e1, e2, hq, hce, hcv, hcl, h1, hL, h2, h3⟩, st⟩
  · dsimp only [Pt.U, Pt.locs, Pt.cells, Pt.slots] at X' e1 e2 h1 h2 h3 st
    subst h1; subst h2; subst h3
    exact Or.inl ⟨v, (T.setVm vm₁).calling g' mk As.toArray, t, U', L, hT, X', hL, e1, e2, hq, st⟩
  · dsimp only [Pt.U, Pt.locs, Pt.cells, Pt.slots] at X' e1 e2 h1 h2 h3 st hcl
    subst h1; subst h2; subst h3
    exact Or.inr ⟨q, (T.setVm vm₁).calling g' mk As.toArray, t, U', L, E, ce, hT, X', hL, e1, e2, hq, hce, hcv, vx_cls hW₁ hcl, st⟩
end Runs
section Rows
variable {p : Program} {l : Launch} {e : Env} {R : Room} {s : State} {m : MethodId} {args : Array Value} {below : List Frame} {meth : Method} {c : Code} {H : Heap} {locs : List Loc} {cells slots : Nat} {Q : State → Prop}
variable {mc ms : Nat} {free : Addr → Prop} {A0 A1 : Nat → Prop} {H0 : Heap} {a : Array Value} {pc : Nat} {ls : Array Slot} {st0 rest : List Value}
theorem vx_keep {st₀ t T' : State} {L : List Loc} (h0 : st₀.heap = H) (e1 : T'.heap = t.heap) (hS : va_S A0 H0 H locs) (hA : ∀ q, q < H.size → A1 q → A0 q) (hf : ∀ q, free q → A0 q) (hL : ∀ q ∈ L, free q.base) (hF : va_F A1 st₀ t) :
    H.size ≤ T'.heap.size ∧ (∀ q : Nat, q < H.size → ¬ A1 q → T'.heap[q]? = H[q]?) ∧ va_S A0 H0 T'.heap (locs ++ L) := by
  obtain ⟨hz, hk⟩ := hF
  rw [h0] at hz hk
  exact ⟨by rw [e1]; exact hz, fun q h1 h2 => by rw [e1]; exact hk q h1 h2,
    ⟨Nat.le_trans hS.1 (by rw [e1]; exact hz), fun q h1 h2 => by rw [e1, hk q (Nat.lt_of_lt_of_le h1 hS.1) (fun z => h2 (hA q (Nat.lt_of_lt_of_le h1 hS.1) z))]; exact hS.2.1 q h1 h2, fun q hq => by
      rcases List.mem_append.mp hq with h | h
      · exact hS.2.2 q h
      · exact hf _ (hL q h)⟩⟩
theorem vx_calli {S SX : Type} {post : Int32 → S → Prop} {px : SX → Prop} {B : S → State → Prop} {BX : String → SX → State → Prop} {AX : Nat → Prop} (hr : vx_Run p l e R s m args below meth c H locs cells slots mc ms (F0 m pc ls st0) rest (va_Qi post B A1 a) (vx_X px BX AX) free) (hS : va_S A0 H0 H locs) (hA : ∀ q, q < H.size → A1 q → A0 q) (hf : ∀ q, free q → A0 q) (hAX : ∀ q, q < H.size → AX q → A0 q)
    (kx : ∀ (E : String) (ce : Cell) (q9 : Addr) (u : SX) (t : State) (H1 : Heap) (locs1 : List Loc), t.heap = H1 → s.vm.Alike t.vm → px u → BX E u t → H.size ≤ H1.size → (∀ q : Nat, q < H.size → ¬ AX q → H1[q]? = H[q]?) → va_S A0 H0 H1 locs1 → H1[q9]? = some ce → ce.vm = .none → s.vm.findClass E = some ce.cls → vx_W p l e R s m args below meth c H1 locs1 (cells + mc) (slots + ms) Q (F0 m pc ls rest) q9)
    (kk : ∀ (r : Int32) (u : S) (t : State) (H1 : Heap) (locs1 : List Loc), t.heap = H1 → s.vm.Alike t.vm → post r u → B u t → H.size ≤ H1.size → (∀ q : Nat, q < H.size → ¬ A1 q → H1[q]? = H[q]?) → va_S A0 H0 H1 locs1 → W p l e R s m args below meth c H1 locs1 (cells + mc) (slots + ms) Q (F0 m (pc + 3) ls (.int r :: rest))) : W p l e R s m args below meth c H locs cells slots Q (F0 m pc ls st0) := by
  intro T hT X
  rcases hr T hT X with ⟨v, st₀, t, T', L, h0, X', hL, e1, e2, ⟨⟨r, u, hv, hp, hb⟩, hF⟩, st⟩ | ⟨q, st₀, t, T', L, E, ce, h0, X', hL, e1, e2, ⟨u, hp, hb, hF⟩, hce, hcv, hcl, st⟩
  · cases hv
    obtain ⟨k1, k2, k3⟩ := vx_keep h0 e1 hS hA hf hL hF
    obtain ⟨t2, a1, b1⟩ := kk r u t T'.heap (locs ++ L) e1.symm (by rw [← e2]; exact X'.warmed.alike) hp hb k1 k2 k3 T' rfl X'
    exact ⟨t2, st t2 a1, b1⟩
  · obtain ⟨k1, k2, k3⟩ := vx_keep h0 e1 hS hAX hf hL hF
    obtain ⟨t2, a1, b1⟩ := kx E ce q u t T'.heap (locs ++ L) e1.symm (by rw [← e2]; exact X'.warmed.alike) hp hb k1 k2 k3 (by rw [e1]; exact hce) hcv hcl T' rfl X'
    exact ⟨t2, st.trans a1, b1⟩
theorem vx_calll {S SX : Type} {post : Int64 → S → Prop} {px : SX → Prop} {B : S → State → Prop} {BX : String → SX → State → Prop} {AX : Nat → Prop} (hr : vx_Run p l e R s m args below meth c H locs cells slots mc ms (F0 m pc ls st0) rest (va_Ql post B A1 a) (vx_X px BX AX) free) (hS : va_S A0 H0 H locs) (hA : ∀ q, q < H.size → A1 q → A0 q) (hf : ∀ q, free q → A0 q) (hAX : ∀ q, q < H.size → AX q → A0 q)
    (kx : ∀ (E : String) (ce : Cell) (q9 : Addr) (u : SX) (t : State) (H1 : Heap) (locs1 : List Loc), t.heap = H1 → s.vm.Alike t.vm → px u → BX E u t → H.size ≤ H1.size → (∀ q : Nat, q < H.size → ¬ AX q → H1[q]? = H[q]?) → va_S A0 H0 H1 locs1 → H1[q9]? = some ce → ce.vm = .none → s.vm.findClass E = some ce.cls → vx_W p l e R s m args below meth c H1 locs1 (cells + mc) (slots + ms) Q (F0 m pc ls rest) q9)
    (kk : ∀ (r : Int64) (u : S) (t : State) (H1 : Heap) (locs1 : List Loc), t.heap = H1 → s.vm.Alike t.vm → post r u → B u t → H.size ≤ H1.size → (∀ q : Nat, q < H.size → ¬ A1 q → H1[q]? = H[q]?) → va_S A0 H0 H1 locs1 → W p l e R s m args below meth c H1 locs1 (cells + mc) (slots + ms) Q (F0 m (pc + 3) ls (.long r :: rest))) : W p l e R s m args below meth c H locs cells slots Q (F0 m pc ls st0) := by
  intro T hT X
  rcases hr T hT X with ⟨v, st₀, t, T', L, h0, X', hL, e1, e2, ⟨⟨r, u, hv, hp, hb⟩, hF⟩, st⟩ | ⟨q, st₀, t, T', L, E, ce, h0, X', hL, e1, e2, ⟨u, hp, hb, hF⟩, hce, hcv, hcl, st⟩
  · cases hv
    obtain ⟨k1, k2, k3⟩ := vx_keep h0 e1 hS hA hf hL hF
    obtain ⟨t2, a1, b1⟩ := kk r u t T'.heap (locs ++ L) e1.symm (by rw [← e2]; exact X'.warmed.alike) hp hb k1 k2 k3 T' rfl X'
    exact ⟨t2, st t2 a1, b1⟩
  · obtain ⟨k1, k2, k3⟩ := vx_keep h0 e1 hS hAX hf hL hF
    obtain ⟨t2, a1, b1⟩ := kx E ce q u t T'.heap (locs ++ L) e1.symm (by rw [← e2]; exact X'.warmed.alike) hp hb k1 k2 k3 (by rw [e1]; exact hce) hcv hcl T' rfl X'
    exact ⟨t2, st.trans a1, b1⟩
theorem vx_callf {S SX : Type} {post : UInt32 → S → Prop} {px : SX → Prop} {B : S → State → Prop} {BX : String → SX → State → Prop} {AX : Nat → Prop} (hr : vx_Run p l e R s m args below meth c H locs cells slots mc ms (F0 m pc ls st0) rest (va_Qf post B A1 a) (vx_X px BX AX) free) (hS : va_S A0 H0 H locs) (hA : ∀ q, q < H.size → A1 q → A0 q) (hf : ∀ q, free q → A0 q) (hAX : ∀ q, q < H.size → AX q → A0 q)
    (kx : ∀ (E : String) (ce : Cell) (q9 : Addr) (u : SX) (t : State) (H1 : Heap) (locs1 : List Loc), t.heap = H1 → s.vm.Alike t.vm → px u → BX E u t → H.size ≤ H1.size → (∀ q : Nat, q < H.size → ¬ AX q → H1[q]? = H[q]?) → va_S A0 H0 H1 locs1 → H1[q9]? = some ce → ce.vm = .none → s.vm.findClass E = some ce.cls → vx_W p l e R s m args below meth c H1 locs1 (cells + mc) (slots + ms) Q (F0 m pc ls rest) q9)
    (kk : ∀ (r : UInt32) (u : S) (t : State) (H1 : Heap) (locs1 : List Loc), t.heap = H1 → s.vm.Alike t.vm → post r u → B u t → H.size ≤ H1.size → (∀ q : Nat, q < H.size → ¬ A1 q → H1[q]? = H[q]?) → va_S A0 H0 H1 locs1 → W p l e R s m args below meth c H1 locs1 (cells + mc) (slots + ms) Q (F0 m (pc + 3) ls (.float r :: rest))) : W p l e R s m args below meth c H locs cells slots Q (F0 m pc ls st0) := by
  intro T hT X
  rcases hr T hT X with ⟨v, st₀, t, T', L, h0, X', hL, e1, e2, ⟨⟨r, u, hv, hp, hb⟩, hF⟩, st⟩ | ⟨q, st₀, t, T', L, E, ce, h0, X', hL, e1, e2, ⟨u, hp, hb, hF⟩, hce, hcv, hcl, st⟩
  · cases hv
    obtain ⟨k1, k2, k3⟩ := vx_keep h0 e1 hS hA hf hL hF
    obtain ⟨t2, a1, b1⟩ := kk r u t T'.heap (locs ++ L) e1.symm (by rw [← e2]; exact X'.warmed.alike) hp hb k1 k2 k3 T' rfl X'
    exact ⟨t2, st t2 a1, b1⟩
  · obtain ⟨k1, k2, k3⟩ := vx_keep h0 e1 hS hAX hf hL hF
    obtain ⟨t2, a1, b1⟩ := kx E ce q u t T'.heap (locs ++ L) e1.symm (by rw [← e2]; exact X'.warmed.alike) hp hb k1 k2 k3 (by rw [e1]; exact hce) hcv hcl T' rfl X'
    exact ⟨t2, st.trans a1, b1⟩
theorem vx_calld {S SX : Type} {post : UInt64 → S → Prop} {px : SX → Prop} {B : S → State → Prop} {BX : String → SX → State → Prop} {AX : Nat → Prop} (hr : vx_Run p l e R s m args below meth c H locs cells slots mc ms (F0 m pc ls st0) rest (va_Qd post B A1 a) (vx_X px BX AX) free) (hS : va_S A0 H0 H locs) (hA : ∀ q, q < H.size → A1 q → A0 q) (hf : ∀ q, free q → A0 q) (hAX : ∀ q, q < H.size → AX q → A0 q)
    (kx : ∀ (E : String) (ce : Cell) (q9 : Addr) (u : SX) (t : State) (H1 : Heap) (locs1 : List Loc), t.heap = H1 → s.vm.Alike t.vm → px u → BX E u t → H.size ≤ H1.size → (∀ q : Nat, q < H.size → ¬ AX q → H1[q]? = H[q]?) → va_S A0 H0 H1 locs1 → H1[q9]? = some ce → ce.vm = .none → s.vm.findClass E = some ce.cls → vx_W p l e R s m args below meth c H1 locs1 (cells + mc) (slots + ms) Q (F0 m pc ls rest) q9)
    (kk : ∀ (r : UInt64) (u : S) (t : State) (H1 : Heap) (locs1 : List Loc), t.heap = H1 → s.vm.Alike t.vm → post r u → B u t → H.size ≤ H1.size → (∀ q : Nat, q < H.size → ¬ A1 q → H1[q]? = H[q]?) → va_S A0 H0 H1 locs1 → W p l e R s m args below meth c H1 locs1 (cells + mc) (slots + ms) Q (F0 m (pc + 3) ls (.double r :: rest))) : W p l e R s m args below meth c H locs cells slots Q (F0 m pc ls st0) := by
  intro T hT X
  rcases hr T hT X with ⟨v, st₀, t, T', L, h0, X', hL, e1, e2, ⟨⟨r, u, hv, hp, hb⟩, hF⟩, st⟩ | ⟨q, st₀, t, T', L, E, ce, h0, X', hL, e1, e2, ⟨u, hp, hb, hF⟩, hce, hcv, hcl, st⟩
  · cases hv
    obtain ⟨k1, k2, k3⟩ := vx_keep h0 e1 hS hA hf hL hF
    obtain ⟨t2, a1, b1⟩ := kk r u t T'.heap (locs ++ L) e1.symm (by rw [← e2]; exact X'.warmed.alike) hp hb k1 k2 k3 T' rfl X'
    exact ⟨t2, st t2 a1, b1⟩
  · obtain ⟨k1, k2, k3⟩ := vx_keep h0 e1 hS hAX hf hL hF
    obtain ⟨t2, a1, b1⟩ := kx E ce q u t T'.heap (locs ++ L) e1.symm (by rw [← e2]; exact X'.warmed.alike) hp hb k1 k2 k3 (by rw [e1]; exact hce) hcv hcl T' rfl X'
    exact ⟨t2, st.trans a1, b1⟩
theorem vx_callv {S SX : Type} {post : S → Prop} {px : SX → Prop} {B : S → State → Prop} {BX : String → SX → State → Prop} {AX : Nat → Prop} (hr : vx_Run p l e R s m args below meth c H locs cells slots mc ms (F0 m pc ls st0) rest (va_Qv post B A1 a) (vx_X px BX AX) free) (hS : va_S A0 H0 H locs) (hA : ∀ q, q < H.size → A1 q → A0 q) (hf : ∀ q, free q → A0 q) (hAX : ∀ q, q < H.size → AX q → A0 q)
    (kx : ∀ (E : String) (ce : Cell) (q9 : Addr) (u : SX) (t : State) (H1 : Heap) (locs1 : List Loc), t.heap = H1 → s.vm.Alike t.vm → px u → BX E u t → H.size ≤ H1.size → (∀ q : Nat, q < H.size → ¬ AX q → H1[q]? = H[q]?) → va_S A0 H0 H1 locs1 → H1[q9]? = some ce → ce.vm = .none → s.vm.findClass E = some ce.cls → vx_W p l e R s m args below meth c H1 locs1 (cells + mc) (slots + ms) Q (F0 m pc ls rest) q9)
    (kk : ∀ (u : S) (t : State) (H1 : Heap) (locs1 : List Loc), t.heap = H1 → s.vm.Alike t.vm → post u → B u t → H.size ≤ H1.size → (∀ q : Nat, q < H.size → ¬ A1 q → H1[q]? = H[q]?) → va_S A0 H0 H1 locs1 → W p l e R s m args below meth c H1 locs1 (cells + mc) (slots + ms) Q (F0 m (pc + 3) ls (rest))) : W p l e R s m args below meth c H locs cells slots Q (F0 m pc ls st0) := by
  intro T hT X
  rcases hr T hT X with ⟨v, st₀, t, T', L, h0, X', hL, e1, e2, ⟨⟨u, hv, hp, hb⟩, hF⟩, st⟩ | ⟨q, st₀, t, T', L, E, ce, h0, X', hL, e1, e2, ⟨u, hp, hb, hF⟩, hce, hcv, hcl, st⟩
  · cases hv
    obtain ⟨k1, k2, k3⟩ := vx_keep h0 e1 hS hA hf hL hF
    obtain ⟨t2, a1, b1⟩ := kk u t T'.heap (locs ++ L) e1.symm (by rw [← e2]; exact X'.warmed.alike) hp hb k1 k2 k3 T' rfl X'
    exact ⟨t2, st t2 a1, b1⟩
  · obtain ⟨k1, k2, k3⟩ := vx_keep h0 e1 hS hAX hf hL hF
    obtain ⟨t2, a1, b1⟩ := kx E ce q u t T'.heap (locs ++ L) e1.symm (by rw [← e2]; exact X'.warmed.alike) hp hb k1 k2 k3 (by rw [e1]; exact hce) hcv hcl T' rfl X'
    exact ⟨t2, st.trans a1, b1⟩
/-- caught by the row x of this method's table; the rows ahead don't take it -/
theorem vx_catch {own name : String} {E : String} {ce : Cell} {q : Addr} (hown : s.vm.findClass own = some m.cls) (pre : List ExceptionTableEntry) (x : ExceptionTableEntry) (suf : List ExceptionTableEntry) (hsplit : c.exceptionTable.toList = pre ++ x :: suf)
    (hpass : ∀ z ∈ pre, covers z pc = false ∨ (z.catchType ≠ 0 ∧ ∃ nm : String, (Cond.classLink own z.catchType nm).before args s = true ∧ va_Nc E nm s)) (hx : covers x pc = true) (h0 : x.catchType ≠ 0)
    (hlink : (Cond.classLink own x.catchType name).before args s = true) (hcast : (Cond.castable E name).before args s = true) (hcell : H[q]? = some ce) (hv : ce.vm = .none) (hcl : s.vm.findClass E = some ce.cls)
    (kk : W p l e R s m args below meth c H locs cells slots Q (F0 m x.handlerPc ls [.ref q])) : vx_W p l e R s m args below meth c H locs cells slots Q (F0 m pc ls rest) q := by
  intro T hT X
  have hpl : e.platform.magicAccessors = ({} : Platform).magicAccessors := by rw [X.admits.platform]
  obtain ⟨c3, c4, hc3, hc4, hasg⟩ := Cond.castable_spec hcast
  cases Option.some.inj (hc3.symm.trans hcl)
  obtain ⟨c5, hc5, hcl5⟩ := Cond.classLink_spec hown hlink e.platform hpl
  cases Option.some.inj (hc4.symm.trans hc5)
  obtain ⟨vm', X', st⟩ := X.thenCaughtThrough q (g := F0 m pc ls rest) rfl (Steps.refl _) (by rw [hT]; exact hcell) (by rw [hv]; rfl) (by obtain ⟨k9, h9, -⟩ := Vm.findClass_spec hcl; exact ⟨k9, h9⟩) pre x suf hsplit
    (fun z hz => by
      rcases hpass z hz with h | ⟨hz0, nm, hl1, hn1⟩
      · exact Or.inl h
      · obtain ⟨c6, hc6, hcl6⟩ := Cond.classLink_spec hown hl1 e.platform hpl
        obtain ⟨a8, b8, h1, h2, h3⟩ := hn1
        cases Option.some.inj (h1.symm.trans hcl)
        cases Option.some.inj (h2.symm.trans hc6)
        exact Or.inr ⟨hz0, _, hcl6, h3⟩) hx (Or.inr ⟨h0, c4, hcl5, hasg⟩)
  obtain ⟨t, a1, b1⟩ := kk (T.setVm vm') hT X'
  exact ⟨t, st.trans a1, b1⟩
end Rows
section Ends
variable {p : Program} {l : Launch} {e : Env} {R : Room} {s : State} {m : MethodId} {args : Array Value} {below : List Frame} {meth : Method} {c : Code} {H : Heap} {locs : List Loc} {cells slots : Nat} {Q : State → Prop}
variable {mc ms : Nat} {free : Addr → Prop} {A0 A1 : Nat → Prop} {H0 : Heap} {a : Array Value} {ls : Array Slot} {st0 rest : List Value}
variable {Qc : Array Value → State → Outcome → State → Prop} {XC : String → State → State → Prop}
/-- what a body that may throw owes at its end -/
def vx_MQ (below : List Frame) (Qc : Array Value → State → Outcome → State → Prop) (XC : String → State → State → Prop) (a : Array Value) (s : State) (mc ms : Nat) (free : Addr → Prop) : State → Prop := fun t =>
  ∃ o, t.status = .running ∧ Ended t below o ∧ vx_Q Qc XC mc ms free a s o t
theorem vx_ret {g : JFrame} {mc ms : Nat} (k : W p l e R s m args below meth c H locs cells slots (MQ below Qc args s mc ms free) g) : W p l e R s m args below meth c H locs cells slots (vx_MQ below Qc XC args s mc ms free) g := by
  intro T hT X
  obtain ⟨t, a1, o, b1, b2, b3, b4⟩ := k T hT X
  exact ⟨t, a1, o, b1, b2, Or.inl ⟨b3, b4⟩⟩
/-- not caught here: it goes on to the caller -/
theorem vx_widen {g : JFrame} {q : Addr} {k n : Nat} (h1 : cells ≤ k) (h2 : slots ≤ n) (kk : vx_W p l e R s m args below meth c H locs k n Q g q) : vx_W p l e R s m args below meth c H locs cells slots Q g q := fun T hT X => kk T hT (stand_widen X h1 h2)
theorem vx_out {pc : Nat} {E : String} {ce : Cell} {q : Addr} {mc ms : Nat} (hout : ∀ x ∈ c.exceptionTable.toList, covers x pc = false) (hlocks : meth.locks = false) (hcell : H[q]? = some ce) (hv : ce.vm = .none) (hcl : s.vm.findClass E = some ce.cls)
    (hx : ∀ t : State, t.heap = H → s.vm.Alike t.vm → XC E s t) (hf : ∀ z ∈ locs, free z.base) (hc : cells ≤ mc) (hs : slots ≤ ms) :
    vx_W p l e R s m args below meth c H locs cells slots (vx_MQ below Qc XC args s mc ms free) (F0 m pc ls rest) q := by
  intro T hT X
  obtain ⟨st1, hrun, hend, hW, hsm⟩ := X.leaveThrown q (g := F0 m pc ls rest) rfl rfl rfl hout hlocks
  have hcell9 : (T.setFrames (.throwing q :: below)).heap[q]? = some ce := by
    show T.heap[q]? = some ce
    rw [hT]; exact hcell
  exact ⟨_, st1, .threw q, hrun, hend, Or.inr ⟨q, rfl, E, ce, locs, hx _ hT hW.alike, hcell9, hv, hcl, hW, hsm.mono hc hs, hf⟩⟩
theorem vx_frame {U : State} {k n : Nat} (h : s.sameButNew ({ U with vm := s.vm } : State) locs k n) : s.heap.size ≤ U.heap.size ∧ ∀ q : Nat, q < s.heap.size → (∀ z ∈ locs, z.base ≠ q) → U.heap[q]? = s.heap[q]? := by
  obtain ⟨-, h2, -, -, -, h6⟩ := h
  refine ⟨h2, fun q hq hz => ?_⟩
  obtain ⟨c9, e1, e2, e3, e4⟩ := h6 q _ (Array.getElem?_eq_getElem hq)
  have hs : c9.slots = (s.heap[q]).slots := Array.ext_getElem? fun i => e4 i fun hm => hz _ hm rfl
  have h9 : c9 = s.heap[q] := by
    rw [hs] at e2
    exact e2
  have e5 : U.heap[q]? = some c9 := e1
  rw [e5, h9, Array.getElem?_eq_getElem hq]
/-- the words of a throw but the four that speak of the heap -/
def vx_no (w : Cond) : Bool := decide (w ≠ .isRef (.static Bundle.tN "UNASSIGNED_STACK" Bundle.steD)) && decide (w ≠ .isRef (.static Bundle.tN "SUPPRESSED_SENTINEL" Bundle.listD)) && decide (w ≠ .laysStatic Bundle.tN "UNASSIGNED_STACK" Bundle.steD) && decide (w ≠ .laysStatic Bundle.tN "SUPPRESSED_SENTINEL" Bundle.listD)
def vx_at0 (own : String) (ic : Nat) (X : String) (names : List String) : List Cond := (Bundle.ownAtoms0 own ic X names).filter vx_no
def vx_atS (own : String) (ic : Nat) (X : String) (names : List String) : List Cond := (Bundle.ownAtoms own ic X names).filter vx_no
/-- a word that the tables alone decide, or a good one -/
def vx_ot (w : Cond) : Bool := w.onTables || goodWord w
theorem vx_ot_at {args a' : Array Value} {s U : State} {w : Cond} (hW : s.WarmedH U.vm) (hvm : s.vm = U.vm) (hg : vx_ot w = true) (h : w.before args s = true) : w.before a' U = true := by
  simp only [vx_ot, Bool.or_eq_true] at hg
  rcases hg with hg | hg
  · exact va_tabs hg hvm h
  · exact word_at hW (good_of_word hg) h
/-- a list's words: the good ones out of the method's own list, the others by premises of their own -/
theorem vx_hat {args : Array Value} {s : State} {L B : List Cond} (h1 : ∀ w ∈ L.filter goodWord, w.before args s = true) (h2 : ∀ w ∈ L.filter (fun w => !goodWord w), w ∈ B) (h3 : ∀ w ∈ B, w.before args s = true) : ∀ w ∈ L, w.before args s = true := by
  intro w hw
  by_cases g : goodWord w = true
  · exact h1 w (List.mem_filter.mpr ⟨hw, g⟩)
  · refine h3 w (h2 w (List.mem_filter.mpr ⟨hw, ?_⟩))
    show (!goodWord w) = true
    cases hgw : goodWord w
    · rfl
    · exact absurd hgw g
theorem vx_c {args : Array Value} {s : State} {w : Cond} {B : List Cond} (h : w.before args s = true) (t : ∀ w ∈ B, w.before args s = true) : ∀ w' ∈ w :: B, w'.before args s = true := fun w' h' => (List.mem_cons.mp h').elim (fun e => by rw [e]; exact h) (t w')
theorem vx_n {args : Array Value} {s : State} : ∀ w ∈ ([] : List Cond), w.before args s = true := fun _ h => nomatch h
theorem vx_own {args : Array Value} {s : State} {L : List Cond} (h1 : ∀ w ∈ L.filter vx_no, w.before args s = true)
    (hU : (Cond.isRef (.static Bundle.tN "UNASSIGNED_STACK" Bundle.steD)).before args s = true) (hN : (Cond.isRef (.static Bundle.tN "SUPPRESSED_SENTINEL" Bundle.listD)).before args s = true)
    (lU : (Cond.laysStatic Bundle.tN "UNASSIGNED_STACK" Bundle.steD).before args s = true) (lN : (Cond.laysStatic Bundle.tN "SUPPRESSED_SENTINEL" Bundle.listD).before args s = true) : ∀ w ∈ L, w.before args s = true := by
  intro w hw
  by_cases e1 : w = .isRef (.static Bundle.tN "UNASSIGNED_STACK" Bundle.steD)
  · rw [e1]; exact hU
  · by_cases e2 : w = .isRef (.static Bundle.tN "SUPPRESSED_SENTINEL" Bundle.listD)
    · rw [e2]; exact hN
    · by_cases e3 : w = .laysStatic Bundle.tN "UNASSIGNED_STACK" Bundle.steD
      · rw [e3]; exact lU
      · by_cases e4 : w = .laysStatic Bundle.tN "SUPPRESSED_SENTINEL" Bundle.listD
        · rw [e4]; exact lN
        · exact h1 w (List.mem_filter.mpr ⟨hw, by unfold vx_no; rw [decide_eq_true e1, decide_eq_true e2, decide_eq_true e3, decide_eq_true e4]; rfl⟩)
/-- where a static field lies, its class's statics cell in H -/
def vx_L (C n d : String) (A : Nat → Prop) (U : State) (H : Heap) : Prop := ∃ (c : ClassId) (k : Class) (i : Nat) (f : Field) (a : Nat) (cell : Cell), U.vm.findClass C = some c ∧ U.fieldFound? C n d = some (c, k, i, f) ∧ f.isStatic = true ∧ k.statics = some a ∧ H[a]? = some cell ∧ cell.vm.isStatics = true ∧ cell.cls = c ∧ f.slot < cell.slots.size ∧ k.staticTypes[f.slot]? = some f.type ∧ ¬ A a
theorem vx_L.moved {C n d : String} {A : Nat → Prop} {u U : State} {H : Heap} (hvm : u.vm.Alike U.vm) (h : vx_L C n d A u H) : vx_L C n d A U H := by
  obtain ⟨c, k, i, f, a, cell, h1, h2, h3, h4, h5, h6, h7, h8, h9, h10⟩ := h
  obtain ⟨k', hi', he⟩ := State.fieldFound?_setVm hvm h2
  exact ⟨c, k', i, f, a, cell, by rw [hvm.findClass]; exact h1, hi', h3, by rw [he]; exact h4, h5, h6, h7, h8, by rw [he]; exact h9, h10⟩
theorem vx_L.kept {C n d : String} {A : Nat → Prop} {U : State} {H H1 : Heap} (h : vx_L C n d A U H) (hq : ∀ a : Nat, a < H.size → ¬ A a → H1[a]? = H[a]?) : vx_L C n d A U H1 := by
  obtain ⟨c, k, i, f, a, cell, h1, h2, h3, h4, h5, h6, h7, h8, h9, h10⟩ := h
  exact ⟨c, k, i, f, a, cell, h1, h2, h3, h4, by rw [hq a (Array.getElem?_eq_some_iff.mp h5).1 h10]; exact h5, h6, h7, h8, h9, h10⟩
theorem vx_L.narrow {C n d : String} {A B : Nat → Prop} {U : State} {H : Heap} (h : vx_L C n d A U H) (hAB : ∀ q, B q → A q) : vx_L C n d B U H := by
  obtain ⟨c, k, i, f, a, cell, h1, h2, h3, h4, h5, h6, h7, h8, h9, h10⟩ := h
  exact ⟨c, k, i, f, a, cell, h1, h2, h3, h4, h5, h6, h7, h8, h9, fun z => h10 (hAB _ z)⟩
theorem vx_L.word {C n d : String} {A : Nat → Prop} {s : State} {args : Array Value} (h : vx_L C n d A s s.heap) : (Cond.laysStatic C n d).before args s = true := by
  obtain ⟨c, k, i, f, a, cell, h1, h2, h3, h4, h5, h6, h7, h8, h9, -⟩ := h
  show (Cond.laysStatic C n d).holds args s none s [] = true
  exact Cond.laysStatic_of h1 h2 h3 h4 h5 h6 h7 h8 h9
/-- .. and what it holds: null or some reference -/
def vx_Zq (C n d : String) (A : Nat → Prop) (U : State) (H : Heap) : Prop := va_Zq C n d A U H ∧ vx_L C n d A U H
theorem vx_Zq.moved {C n d : String} {A : Nat → Prop} {u U : State} {H : Heap} (hvm : u.vm.Alike U.vm) (h : vx_Zq C n d A u H) : vx_Zq C n d A U H := ⟨va_Zq.moved hvm h.1, vx_L.moved hvm h.2⟩
theorem vx_Zq.kept {C n d : String} {A : Nat → Prop} {U : State} {H H1 : Heap} (h : vx_Zq C n d A U H) (hq : ∀ a : Nat, a < H.size → ¬ A a → H1[a]? = H[a]?) : vx_Zq C n d A U H1 := ⟨va_Zq.kept h.1 hq, vx_L.kept h.2 hq⟩
theorem vx_Zq.narrow {C n d : String} {A B : Nat → Prop} {U : State} {H : Heap} (h : vx_Zq C n d A U H) (hAB : ∀ q, B q → A q) : vx_Zq C n d B U H := ⟨va_Zq.narrow h.1 hAB, vx_L.narrow h.2 hAB⟩
theorem vx_Zqof {args : Array Value} {s : State} {C n d : String} {A : Nat → Prop} (hl : (Cond.laysStatic C n d).before args s = true) (hini : (Cond.initialized C).before args s = true) (h : (Cond.isRef (.static C n d)).before args s = true) (hA : ∀ a : Nat, a < s.heap.size → ¬ A a) : vx_Zq C n d A s s.heap := by
  refine ⟨va_Zqof hl hini h hA, ?_⟩
  obtain ⟨c, k, i, f, a, cell, h1, h2, h3, h4, h5, h6, h7, h8, h9⟩ := Cond.laysStatic_spec hl
  exact ⟨c, k, i, f, a, cell, h1, h2, h3, h4, h5, h6, h7, h8, h9, hA a (Array.getElem?_eq_some_iff.mp h5).1⟩
theorem vx_isRef {C n d : String} {v : Value} {A : Nat → Prop} {s : State} {args : Array Value} (h : va_Z C n d v A s s.heap) (hv : v.isRef = true) : (Cond.isRef (.static C n d)).before args s = true := by
  obtain ⟨cf, kf, fi, f, a, cell, h1, h2, h3, h4, h5, h6, h7, -⟩ := h
  have he : (Term.static C n d).eval args s none [] s = some v := by
    simp [Term.eval, State.fieldNamed?, h1, h2, h4, h5, h6, h7]
  simp only [Cond.before, Cond.holds, Cond.value, he]
  cases v <;> simp_all [Value.isRef]
theorem vx_isRefq {C n d : String} {A : Nat → Prop} {s : State} {args : Array Value} (h : va_Zq C n d A s s.heap) : (Cond.isRef (.static C n d)).before args s = true := by
  rcases h with h | ⟨t, h⟩
  · exact vx_isRef h rfl
  · exact vx_isRef h rfl
/-- the same frame, seen from here: as if the method were called anew in this heap -/
theorem vx_rebase {T : State} (X : Stand p l e R s m args below meth c T locs cells slots) {R' : Room} (hf : R'.frames ≤ R.frames) (hl : R'.locals ≤ R.locals) (hc : cells + R'.cells ≤ R.cells) (hs : slots + R'.slots ≤ R.slots) :
    Stand p l e R' ((T.setVm s.vm).setFrames (.invoking m args :: below)) m args below meth c T [] 0 0 := by
  have htop : (T.setVm s.vm).topJava?.isSome := X.here.top
  have hF : ((T.setVm s.vm).setFrames (.invoking m args :: below)).frames = .invoking m args :: below := State.frames_setFrames _ (State.cur_lt_of_top htop)
  obtain ⟨g₀, hg0⟩ := Option.isSome_iff_exists.mp htop
  obtain ⟨r, hr⟩ := State.topJava?_eq_some.mp hg0
  have hl9 : e.platform.stackLimits (T.setVm s.vm).me = e.platform.stackLimits s.me := X.limits
  have hb9 : (T.setVm s.vm).me.stackBytes = s.me.stackBytes := X.bytes
  refine ⟨X.admits, X.cas, X.clock, hF, ?_, X.hears, X.method, X.code, X.here, X.tail, X.warmed, ?_, ?_, ?_⟩
  · have h := X.room
    have hU : ((T.setVm s.vm).setFrames (.invoking m args :: below)).localsInUse = s.localsInUse := by
      rw [State.localsInUse_invoking hF (meth := meth) (c := c) X.method X.code, State.localsInUse_invoking X.frames X.method X.code]
    simp only [State.hasRoom, Bool.and_eq_true, decide_eq_true_eq] at h ⊢
    obtain ⟨⟨⟨⟨h1, h2, h3, h4, h5, h6⟩, h7⟩, h8⟩, h9⟩ := h
    rw [X.frames, List.length_cons] at h2 h3
    have q1 := X.heapSize
    have q2 := X.used
    simp only [hF, hU, List.length_cons, State.stackLimits_setFrames, State.stackBytes_setFrames, hl9, hb9]
    refine ⟨⟨⟨⟨by omega, by omega, by omega, by omega, by omega, h6⟩, ?_⟩, ?_⟩, X.book⟩
    · show T.heap.size + R'.cells ≤ e.platform.maxCells
      omega
    · show T.slotsUsed + R'.slots ≤ e.platform.maxSlots
      omega
  · rw [State.stackLimits_setFrames]; rfl
  · rw [State.stackBytes_setFrames]; rfl
  · refine ⟨?_, Nat.le_refl _, Nat.le_refl _, ?_, ?_, fun a c9 h9 => ⟨c9, h9, rfl, rfl, fun _ _ => rfl⟩⟩
    · obtain ⟨t, ht, -⟩ := State.frames_cons hr
      show T.setVm s.vm = { ((T.setVm s.vm).setFrames (.invoking m args :: below)).setFrames (T.setVm s.vm).frames with heap := T.heap, slotsUsed := T.slotsUsed }
      rw [State.setFrames_setFrames, State.setFrames_self ht]
      rfl
    · show T.slotsUsed = T.slotsUsed + ((T.heap.toList.drop T.heap.size).map (·.slots.size)).sum
      rw [List.drop_eq_nil_of_le (Nat.le_of_eq Array.length_toList)]
      rfl
    · show ((T.heap.toList.drop T.heap.size).map (·.slots.size)).sum ≤ 0
      rw [List.drop_eq_nil_of_le (Nat.le_of_eq Array.length_toList)]
      exact Nat.le_refl _
/-- 'throw new E()': new; dup; invokespecial; athrow -/
theorem vx_throw0 {cc : ByteArray} {pc : Nat} (hexec : p.tables.exec = Jvm.exec) (hb : c.code = cc) (hl : l.stackTraces = false) {own cls : String} {names : List String} {ik ic mc ms : Nat} {A : Nat → Prop}
    (hown : s.vm.findClass own = some m.cls) (hcls : Bundle.fit cls = true) (hnames : ∀ n ∈ names, Bundle.fit n = true)
    (hk : (Cond.classLink own ik cls).before args s = true) (hini : (Cond.initialized cls).before args s = true) (hat : ∀ w ∈ vx_at0 own ic cls names, w.before args s = true)
    (hgood : ∀ w ∈ Cond.classLink own ik cls :: Cond.initialized cls :: vx_at0 own ic cls names, vx_ot w = true)
    (hU : vx_Zq Bundle.tN "UNASSIGNED_STACK" Bundle.steD A s s.heap) (hN : vx_Zq Bundle.tN "SUPPRESSED_SENTINEL" Bundle.listD A s s.heap) (hS : va_S A s.heap H locs) (hsize : ls.size = c.maxLocals)
    (d0 : decode cc pc = .ok (.new ik, 3)) (d3 : decode cc (pc + 3) = .ok (.dup, 1)) (d4 : decode cc (pc + 4) = .ok (.invokespecial ic, 3)) (d7 : decode cc (pc + 7) = .ok (.athrow, 1))
    (hout : ∀ x ∈ c.exceptionTable.toList, covers x (pc + 7) = false)
    (hRframes : names.length + 3 < R.frames) (hRlocals : (rest.map fun v => v.category).sum + (13 * (names.length + 1) + 42) ≤ R.locals) (hRcells : cells + 1 ≤ R.cells) (hRslots : slots + 6 ≤ R.slots) (hlocks : meth.locks = false)
    (hx : ∀ t : State, s.vm.Alike t.vm → H.size ≤ t.heap.size → (∀ q : Nat, q < H.size → t.heap[q]? = H[q]?) → XC cls s t)
    (hf : ∀ z ∈ locs, free z.base) (hc : cells + 1 ≤ mc) (hs : slots + 6 ≤ ms) :
    W p l e R s m args below meth c H locs cells slots (vx_MQ below Qc XC args s mc ms free) (F0 m pc ls rest) := by
  intro T hT X
  have htr : e.platform.stackTraces = false := (show e.platform.stackTraces = l.stackTraces by rw [X.admits.platform]).trans hl
  have Y := vx_rebase X (R' := { frames := R.frames, locals := R.locals, cells := 1, slots := 6 }) (Nat.le_refl _) (Nat.le_refl _) hRcells hRslots
  obtain ⟨s', hA⟩ : ∃ z, z = (T.setVm s.vm).setFrames (.invoking m args :: below) := ⟨_, rfl⟩
  rw [← hA] at Y
  have hvm : s'.vm = s.vm := by rw [hA]; rfl
  have hhp : s'.heap = H := by rw [hA]; exact hT
  have hW0 : s.WarmedH s'.vm := by rw [hvm]; exact State.WarmedH.refl s
  have hat' : ∀ w ∈ vx_at0 own ic cls names, w.before args s' = true := fun w hw => vx_ot_at hW0 hvm.symm (hgood w (List.mem_cons_of_mem _ (List.mem_cons_of_mem _ hw))) (hat w hw)
  have hk' : (Cond.classLink own ik cls).before args s' = true := vx_ot_at hW0 hvm.symm (hgood _ List.mem_cons_self) hk
  have hini' : (Cond.initialized cls).before args s' = true := vx_ot_at hW0 hvm.symm (hgood _ (List.mem_cons_of_mem _ List.mem_cons_self)) hini
  have hU' : vx_Zq Bundle.tN "UNASSIGNED_STACK" Bundle.steD A s' s'.heap := by rw [hhp]; exact vx_Zq.moved hW0.alike (hU.kept hS.2.1)
  have hN' : vx_Zq Bundle.tN "SUPPRESSED_SENTINEL" Bundle.listD A s' s'.heap := by rw [hhp]; exact vx_Zq.moved hW0.alike (hN.kept hS.2.1)
  have h : ∀ w ∈ Bundle.ownAtoms0 own ic cls names, w.before args s' = true := vx_own hat' (vx_isRefq hU'.1) (vx_isRefq hN'.1) hU'.2.word hN'.2.word
  have hown' : s'.vm.findClass own = some m.cls := by rw [hvm]; exact hown
  have hins : (Cond.instantiable cls 6).before args s' = true := h _ (by simp [Bundle.ownAtoms0])
  obtain ⟨vm₁, cX, kX, hfX, hkX, -, -, X₁, st1⟩ := Y.newCold hexec (own := own) (C := cls) (index := ik) (n := 6) hown' hk' hins hini'
    (g := F0 m pc ls rest) rfl (by rw [hb]; exact d0) (Nat.le_refl _) (Nat.le_refl _)
  generalize hT1 : (T.setVm vm₁).pushCell { cls := cX, slots := kX.instanceTypes.map defaultValue, vm := .none } = T1 at X₁ st1
  have hcat : (Value.ref T.heap.size).category = 1 := rfl
  have hcellA : T1.heap[T.heap.size]? = some (freshCell cX kX) := by rw [← hT1]; exact State.heap_pushCell_size _ _
  have d3' : decode c.code (pc + 3) = .ok (.dup, 1) := by rw [hb]; exact d3
  obtain ⟨U, hsteps, hrun, hend, hW, hsame, ce, hce, hO⟩ := X₁.ctorThrow0 hexec htr (own := own) (cls := cls) (names := names) (ic := ic) hown' hcls hnames h (fun x hx => nomatch hx) hfX hkX hcellA (by rw [hhp, hT]; exact Nat.le_refl _)
    (g := { method := m, pc := pc + 4, locals := ls, stack := .ref T.heap.size :: .ref T.heap.size :: rest, locked := none }) rfl hsize rfl rfl (rest := rest) rfl
    (by rw [hb]; exact d4) (by rw [hb]; exact d7) hout hRframes (by simp only [List.map_cons, List.sum_cons, hcat]; omega) hlocks
  obtain ⟨f1, f2⟩ := vx_frame hsame
  rw [hhp] at f1 f2
  have hWs : s.WarmedH U.vm := State.WarmedH.trans hW0 hW
  have hcl : s.vm.findClass cls = some ce.cls := by
    have h9 := hO.cls
    rw [hvm] at h9
    exact h9
  have hall : s.sameButNew ({ U with vm := s.vm } : State) locs mc ms := by
    subst hA
    obtain ⟨e1, e2⟩ := hsame
    rw [State.setFrames_setFrames] at e1
    have h2 : (T.setVm s.vm).sameButNew ({ U with vm := s.vm } : State) [] (0 + 1) (0 + 6) := ⟨e1, e2⟩
    have h3 := X.same.trans h2
    rw [List.append_nil] at h3
    exact h3.mono hc hs
  refine ⟨U, ?_, .threw T.heap.size, hrun, hend, Or.inr ⟨T.heap.size, rfl, cls, ce, locs, hx U hWs.alike f1 (fun q hq => f2 q hq (fun z hz => nomatch hz)), hce, hO.vm, hcl, hWs, hall, hf⟩⟩
  refine st1 _ ?_
  show Steps p.tables e below (T1.setTop { method := m, pc := pc + 3, locals := ls, stack := .ref T.heap.size :: rest, locked := none }) _
  jvm_step X₁.here [X₁.here.top, hexec, d3', Value.category]
  exact hsteps
/-- 'throw new E("text")': new; dup; ldc; invokespecial; athrow -/
theorem vx_throwS {cc : ByteArray} {pc : Nat} (hexec : p.tables.exec = Jvm.exec) (hb : c.code = cc) (hl : l.stackTraces = false) {own cls text : String} {names : List String} {ik is ic mc ms sa : Nat} {A : Nat → Prop}
    (hown : s.vm.findClass own = some m.cls) (hcls : Bundle.fit cls = true) (hnames : ∀ n ∈ names, Bundle.fit n = true)
    (hk : (Cond.classLink own ik cls).before args s = true) (hini : (Cond.initialized cls).before args s = true) (hstr : vk_R own is text sa s) (hat : ∀ w ∈ vx_atS own ic cls names, w.before args s = true)
    (hgood : ∀ w ∈ Cond.classLink own ik cls :: Cond.initialized cls :: vx_atS own ic cls names, vx_ot w = true)
    (hU : vx_Zq Bundle.tN "UNASSIGNED_STACK" Bundle.steD A s s.heap) (hN : vx_Zq Bundle.tN "SUPPRESSED_SENTINEL" Bundle.listD A s s.heap) (hS : va_S A s.heap H locs) (hsize : ls.size = c.maxLocals)
    (d0 : decode cc pc = .ok (.new ik, 3)) (d3 : decode cc (pc + 3) = .ok (.dup, 1)) (d4 : decode cc (pc + 4) = .ok (.ldc is, 2)) (d6 : decode cc (pc + 6) = .ok (.invokespecial ic, 3)) (d9 : decode cc (pc + 9) = .ok (.athrow, 1))
    (hout : ∀ x ∈ c.exceptionTable.toList, covers x (pc + 9) = false)
    (hRframes : names.length + 3 < R.frames) (hRlocals : (rest.map fun v => v.category).sum + (13 * (names.length + 1) + 43) ≤ R.locals) (hRcells : cells + 1 ≤ R.cells) (hRslots : slots + 6 ≤ R.slots) (hlocks : meth.locks = false)
    (hx : ∀ t : State, s.vm.Alike t.vm → H.size ≤ t.heap.size → (∀ q : Nat, q < H.size → t.heap[q]? = H[q]?) → XC cls s t)
    (hf : ∀ z ∈ locs, free z.base) (hc : cells + 1 ≤ mc) (hs : slots + 6 ≤ ms) :
    W p l e R s m args below meth c H locs cells slots (vx_MQ below Qc XC args s mc ms free) (F0 m pc ls rest) := by
  intro T hT X
  have htr : e.platform.stackTraces = false := (show e.platform.stackTraces = l.stackTraces by rw [X.admits.platform]).trans hl
  have Y := vx_rebase X (R' := { frames := R.frames, locals := R.locals, cells := 1, slots := 6 }) (Nat.le_refl _) (Nat.le_refl _) hRcells hRslots
  obtain ⟨s', hA⟩ : ∃ z, z = (T.setVm s.vm).setFrames (.invoking m args :: below) := ⟨_, rfl⟩
  rw [← hA] at Y
  have hvm : s'.vm = s.vm := by rw [hA]; rfl
  have hhp : s'.heap = H := by rw [hA]; exact hT
  have hW0 : s.WarmedH s'.vm := by rw [hvm]; exact State.WarmedH.refl s
  have hat' : ∀ w ∈ vx_atS own ic cls names, w.before args s' = true := fun w hw => vx_ot_at hW0 hvm.symm (hgood w (List.mem_cons_of_mem _ (List.mem_cons_of_mem _ hw))) (hat w hw)
  have hk' : (Cond.classLink own ik cls).before args s' = true := vx_ot_at hW0 hvm.symm (hgood _ List.mem_cons_self) hk
  have hini' : (Cond.initialized cls).before args s' = true := vx_ot_at hW0 hvm.symm (hgood _ (List.mem_cons_of_mem _ List.mem_cons_self)) hini
  have hU' : vx_Zq Bundle.tN "UNASSIGNED_STACK" Bundle.steD A s' s'.heap := by rw [hhp]; exact vx_Zq.moved hW0.alike (hU.kept hS.2.1)
  have hN' : vx_Zq Bundle.tN "SUPPRESSED_SENTINEL" Bundle.listD A s' s'.heap := by rw [hhp]; exact vx_Zq.moved hW0.alike (hN.kept hS.2.1)
  have h : ∀ w ∈ Bundle.ownAtoms own ic cls names, w.before args s' = true := vx_own hat' (vx_isRefq hU'.1) (vx_isRefq hN'.1) hU'.2.word hN'.2.word
  have hown' : s'.vm.findClass own = some m.cls := by rw [hvm]; exact hown
  have hins : (Cond.instantiable cls 6).before args s' = true := h _ (by simp [Bundle.ownAtoms])
  obtain ⟨vm₁, cX, kX, hfX, hkX, -, -, X₁, st1⟩ := Y.newCold hexec (own := own) (C := cls) (index := ik) (n := 6) hown' hk' hins hini'
    (g := F0 m pc ls rest) rfl (by rw [hb]; exact d0) (Nat.le_refl _) (Nat.le_refl _)
  generalize hT1 : (T.setVm vm₁).pushCell { cls := cX, slots := kX.instanceTypes.map defaultValue, vm := .none } = T1 at X₁ st1
  have hcat : (Value.ref T.heap.size).category = 1 := rfl
  have hcellA : T1.heap[T.heap.size]? = some (freshCell cX kX) := by rw [← hT1]; exact State.heap_pushCell_size _ _
  have d3' : decode c.code (pc + 3) = .ok (.dup, 1) := by rw [hb]; exact d3
  have d4' : decode c.code (pc + 4) = .ok (.ldc is, 2) := by rw [hb]; exact d4
  have hstr' : vk_R own is text sa s' := vk_R.warm hW0 hstr
  obtain ⟨U, hsteps, hrun, hend, hW, hsame, ce, hce, hO⟩ := X₁.ctorThrowS hexec htr (own := own) (cls := cls) (names := names) (ic := ic) hown' hcls hnames h (fun x hx => nomatch hx) hfX hkX hcellA (by rw [hhp, hT]; exact Nat.le_refl _) (msg := .ref sa) rfl
    (g := { method := m, pc := pc + 6, locals := ls, stack := .ref sa :: .ref T.heap.size :: .ref T.heap.size :: rest, locked := none }) rfl hsize rfl rfl (rest := rest) rfl
    (by rw [hb]; exact d6) (by rw [hb]; exact d9) hout hRframes (by simp only [List.map_cons, List.sum_cons, hcat]; omega) hlocks
  obtain ⟨f1, f2⟩ := vx_frame hsame
  rw [hhp] at f1 f2
  have hWs : s.WarmedH U.vm := State.WarmedH.trans hW0 hW
  have hcl : s.vm.findClass cls = some ce.cls := by
    have h9 := hO.cls
    rw [hvm] at h9
    exact h9
  have hall : s.sameButNew ({ U with vm := s.vm } : State) locs mc ms := by
    subst hA
    obtain ⟨e1, e2⟩ := hsame
    rw [State.setFrames_setFrames] at e1
    have h2 : (T.setVm s.vm).sameButNew ({ U with vm := s.vm } : State) [] (0 + 1) (0 + 6) := ⟨e1, e2⟩
    have h3 := X.same.trans h2
    rw [List.append_nil] at h3
    exact h3.mono hc hs
  refine ⟨U, ?_, .threw T.heap.size, hrun, hend, Or.inr ⟨T.heap.size, rfl, cls, ce, locs, hx U hWs.alike f1 (fun q hq => f2 q hq (fun z hz => nomatch hz)), hce, hO.vm, hcl, hWs, hall, hf⟩⟩
  refine st1 _ ?_
  show Steps p.tables e below (T1.setTop { method := m, pc := pc + 3, locals := ls, stack := .ref T.heap.size :: rest, locked := none }) _
  jvm_step X₁.here [X₁.here.top, hexec, d3', Value.category]
  exact X₁.ldcString hexec (own := own) (text := text) (index := is) (a := sa) hown' hstr'.1 hstr'.2
    (g := { method := m, pc := pc + 4, locals := ls, stack := .ref T.heap.size :: .ref T.heap.size :: rest, locked := none }) rfl d4' _ hsteps
/-- 'throw new E("text")', the text by a wide index -/
theorem vx_throwSW {cc : ByteArray} {pc : Nat} (hexec : p.tables.exec = Jvm.exec) (hb : c.code = cc) (hl : l.stackTraces = false) {own cls text : String} {names : List String} {ik is ic mc ms sa : Nat} {A : Nat → Prop}
    (hown : s.vm.findClass own = some m.cls) (hcls : Bundle.fit cls = true) (hnames : ∀ n ∈ names, Bundle.fit n = true)
    (hk : (Cond.classLink own ik cls).before args s = true) (hini : (Cond.initialized cls).before args s = true) (hstr : vk_R own is text sa s) (hat : ∀ w ∈ vx_atS own ic cls names, w.before args s = true)
    (hgood : ∀ w ∈ Cond.classLink own ik cls :: Cond.initialized cls :: vx_atS own ic cls names, vx_ot w = true)
    (hU : vx_Zq Bundle.tN "UNASSIGNED_STACK" Bundle.steD A s s.heap) (hN : vx_Zq Bundle.tN "SUPPRESSED_SENTINEL" Bundle.listD A s s.heap) (hS : va_S A s.heap H locs) (hsize : ls.size = c.maxLocals)
    (d0 : decode cc pc = .ok (.new ik, 3)) (d3 : decode cc (pc + 3) = .ok (.dup, 1)) (d4 : decode cc (pc + 4) = .ok (.ldc_w is, 3)) (d7 : decode cc (pc + 7) = .ok (.invokespecial ic, 3)) (d10 : decode cc (pc + 10) = .ok (.athrow, 1))
    (hout : ∀ x ∈ c.exceptionTable.toList, covers x (pc + 10) = false)
    (hRframes : names.length + 3 < R.frames) (hRlocals : (rest.map fun v => v.category).sum + (13 * (names.length + 1) + 43) ≤ R.locals) (hRcells : cells + 1 ≤ R.cells) (hRslots : slots + 6 ≤ R.slots) (hlocks : meth.locks = false)
    (hx : ∀ t : State, s.vm.Alike t.vm → H.size ≤ t.heap.size → (∀ q : Nat, q < H.size → t.heap[q]? = H[q]?) → XC cls s t)
    (hf : ∀ z ∈ locs, free z.base) (hc : cells + 1 ≤ mc) (hs : slots + 6 ≤ ms) :
    W p l e R s m args below meth c H locs cells slots (vx_MQ below Qc XC args s mc ms free) (F0 m pc ls rest) := by
  intro T hT X
  have htr : e.platform.stackTraces = false := (show e.platform.stackTraces = l.stackTraces by rw [X.admits.platform]).trans hl
  have Y := vx_rebase X (R' := { frames := R.frames, locals := R.locals, cells := 1, slots := 6 }) (Nat.le_refl _) (Nat.le_refl _) hRcells hRslots
  obtain ⟨s', hA⟩ : ∃ z, z = (T.setVm s.vm).setFrames (.invoking m args :: below) := ⟨_, rfl⟩
  rw [← hA] at Y
  have hvm : s'.vm = s.vm := by rw [hA]; rfl
  have hhp : s'.heap = H := by rw [hA]; exact hT
  have hW0 : s.WarmedH s'.vm := by rw [hvm]; exact State.WarmedH.refl s
  have hat' : ∀ w ∈ vx_atS own ic cls names, w.before args s' = true := fun w hw => vx_ot_at hW0 hvm.symm (hgood w (List.mem_cons_of_mem _ (List.mem_cons_of_mem _ hw))) (hat w hw)
  have hk' : (Cond.classLink own ik cls).before args s' = true := vx_ot_at hW0 hvm.symm (hgood _ List.mem_cons_self) hk
  have hini' : (Cond.initialized cls).before args s' = true := vx_ot_at hW0 hvm.symm (hgood _ (List.mem_cons_of_mem _ List.mem_cons_self)) hini
  have hU' : vx_Zq Bundle.tN "UNASSIGNED_STACK" Bundle.steD A s' s'.heap := by rw [hhp]; exact vx_Zq.moved hW0.alike (hU.kept hS.2.1)
  have hN' : vx_Zq Bundle.tN "SUPPRESSED_SENTINEL" Bundle.listD A s' s'.heap := by rw [hhp]; exact vx_Zq.moved hW0.alike (hN.kept hS.2.1)
  have h : ∀ w ∈ Bundle.ownAtoms own ic cls names, w.before args s' = true := vx_own hat' (vx_isRefq hU'.1) (vx_isRefq hN'.1) hU'.2.word hN'.2.word
  have hown' : s'.vm.findClass own = some m.cls := by rw [hvm]; exact hown
  have hins : (Cond.instantiable cls 6).before args s' = true := h _ (by simp [Bundle.ownAtoms])
  obtain ⟨vm₁, cX, kX, hfX, hkX, -, -, X₁, st1⟩ := Y.newCold hexec (own := own) (C := cls) (index := ik) (n := 6) hown' hk' hins hini'
    (g := F0 m pc ls rest) rfl (by rw [hb]; exact d0) (Nat.le_refl _) (Nat.le_refl _)
  generalize hT1 : (T.setVm vm₁).pushCell { cls := cX, slots := kX.instanceTypes.map defaultValue, vm := .none } = T1 at X₁ st1
  have hcat : (Value.ref T.heap.size).category = 1 := rfl
  have hcellA : T1.heap[T.heap.size]? = some (freshCell cX kX) := by rw [← hT1]; exact State.heap_pushCell_size _ _
  have d3' : decode c.code (pc + 3) = .ok (.dup, 1) := by rw [hb]; exact d3
  have d4' : decode c.code (pc + 4) = .ok (.ldc_w is, 3) := by rw [hb]; exact d4
  have hstr' : vk_R own is text sa s' := vk_R.warm hW0 hstr
  obtain ⟨U, hsteps, hrun, hend, hW, hsame, ce, hce, hO⟩ := X₁.ctorThrowS hexec htr (own := own) (cls := cls) (names := names) (ic := ic) hown' hcls hnames h (fun x hx => nomatch hx) hfX hkX hcellA (by rw [hhp, hT]; exact Nat.le_refl _) (msg := .ref sa) rfl
    (g := { method := m, pc := pc + 7, locals := ls, stack := .ref sa :: .ref T.heap.size :: .ref T.heap.size :: rest, locked := none }) rfl hsize rfl rfl (rest := rest) rfl
    (by rw [hb]; exact d7) (by rw [hb]; exact d10) hout hRframes (by simp only [List.map_cons, List.sum_cons, hcat]; omega) hlocks
  obtain ⟨f1, f2⟩ := vx_frame hsame
  rw [hhp] at f1 f2
  have hWs : s.WarmedH U.vm := State.WarmedH.trans hW0 hW
  have hcl : s.vm.findClass cls = some ce.cls := by
    have h9 := hO.cls
    rw [hvm] at h9
    exact h9
  have hall : s.sameButNew ({ U with vm := s.vm } : State) locs mc ms := by
    subst hA
    obtain ⟨e1, e2⟩ := hsame
    rw [State.setFrames_setFrames] at e1
    have h2 : (T.setVm s.vm).sameButNew ({ U with vm := s.vm } : State) [] (0 + 1) (0 + 6) := ⟨e1, e2⟩
    have h3 := X.same.trans h2
    rw [List.append_nil] at h3
    exact h3.mono hc hs
  refine ⟨U, ?_, .threw T.heap.size, hrun, hend, Or.inr ⟨T.heap.size, rfl, cls, ce, locs, hx U hWs.alike f1 (fun q hq => f2 q hq (fun z hz => nomatch hz)), hce, hO.vm, hcl, hWs, hall, hf⟩⟩
  refine st1 _ ?_
  show Steps p.tables e below (T1.setTop { method := m, pc := pc + 3, locals := ls, stack := .ref T.heap.size :: rest, locked := none }) _
  jvm_step X₁.here [X₁.here.top, hexec, d3', Value.category]
  exact X₁.ldcStringW hexec (own := own) (text := text) (index := is) (a := sa) hown' hstr'.1 hstr'.2
    (g := { method := m, pc := pc + 4, locals := ls, stack := .ref T.heap.size :: .ref T.heap.size :: rest, locked := none }) rfl d4' _ hsteps
end Ends
section Bodies
variable {l : Launch}
theorem vx_ofW {y : MethodName} {ws ws' : List Cond} {rm : Room} {Pc : Array Value → State → Prop} {Qc : Array Value → State → Outcome → State → Prop} {XC : String → State → State → Prop} {mc ms : Nat} {free : Addr → Prop} {cc : ByteArray} {maxL : Nat} {ret : Option FieldType}
    (hy : plainName y.cls = true) (hw : ws = Cond.code y cc maxL ret :: ws')
    (body : ∀ p e s m args below meth c s₁, BodyLoose p l y (headSpec ws rm) cc maxL ret e s m args below meth c s₁ → c.maxLocals = maxL → (∀ x ∈ c.exceptionTable.toList, False) → Pc args s →
      W p l e (headSpec ws rm).room s m args below meth c s.heap [] 0 0 (vx_MQ below Qc XC args s mc ms free) (entryFrame m args maxL)) : vx_Met l y ws rm Pc Qc XC mc ms free := by
  refine MetFree.of_bodyS (code := cc) (maxLocals := maxL) (ret := ret) hy ?_ ?_
  · intro args s m h hn
    obtain ⟨meth, c, h1, h2, h3, h4, h5, h6, -, -⟩ := Cond.code_spec hn (atoms_spec (ws := ws) h _ (by rw [hw]; exact List.mem_cons_self))
    exact ⟨meth, c, h1, h2, h3, h4, h5, h6⟩
  · intro p e s m args below meth c s₁ B hml hP _
    have hh0 : s₁.heap = s.heap := by rw [B.state]; rfl
    have ht : ∀ x ∈ c.exceptionTable.toList, False := by
      obtain ⟨meth9, c9, h1, h2, -, -, -, -, h7, -⟩ := Cond.code_spec B.named (atoms_spec (ws := ws) B.pre _ (by rw [hw]; exact List.mem_cons_self))
      cases Option.some.inj (h1.symm.trans B.method)
      cases Option.some.inj (h2.symm.trans (Stand.of_body B).code)
      intro x hx
      rw [Array.isEmpty_iff.mp h7] at hx
      cases hx
    obtain ⟨t, a1, o, b1, b2, b3⟩ := body p e s m args below meth c s₁ B hml ht hP s₁ hh0 (Stand.of_body B)
    exact ⟨t, o, a1, b1, b2, b3⟩
/-- the table of a body with handlers -/
theorem vx_table {p : Program} {x y : MethodName} {S : Spec} {cc bytes : ByteArray} {maxL maxL' : Nat} {ret ret' : Option FieldType} {e : Env} {s s₁ : State} {m : MethodId} {args : Array Value} {below : List Frame} {meth : Method} {c : Code} {hh : List (Nat × Nat × Nat × Nat)}
    (B : BodyLoose p l y S cc maxL ret e s m args below meth c s₁) (h : (Cond.codeWith y bytes maxL' ret' hh).before args s = true) : c.exceptionTable.toList = tableOf hh := by
  obtain ⟨m9, meth9, c9, hn9, h1, h2, -, -, h6, -⟩ := Cond.codeWith_spec h
  cases Option.some.inj (hn9.symm.trans B.named)
  cases Option.some.inj (h1.symm.trans B.method)
  cases Option.some.inj (h2.symm.trans (Stand.of_body B).code)
  rw [← h6, table_eq]
end Bodies
end VXA
/-! ===== END ===== -/
/-! ===== BEGIN a static call of a method with an exception table ===== -/
section VXS
variable {p : Program} {l : Launch} {e : Env} {R : Room} {s : State} {m : MethodId} {args : Array Value} {below : List Frame} {meth : Method} {c : Code} {T : State} {H : Heap} {locs : List Loc} {cells slots : Nat}
abbrev vx_CSW (R : Room) (s : State) (args : Array Value) (own : String) (index : Nat) (y : MethodName) (bytes : ByteArray) (maxL : Nat) (ret : Option FieldType) (hh : List (Nat × Nat × Nat × Nat)) (ws : List Cond) (rm : Room) (mc ms n : Nat) : Prop :=
  (rm.cells = mc ∧ rm.slots = ms ∧ rm.frames + 1 ≤ R.frames ∧ 8 + (maxL + 11) + rm.locals ≤ R.locals ∧ (∀ w ∈ ws, ∀ (a' : Array Value) (U : State), s.WarmedH U.vm → w.before a' U = true) ∧ Cond.codeWith y bytes maxL ret hh ∈ ws) ∧
  (Cond.codeWith y bytes maxL ret hh).before args s = true ∧ (Cond.initialized y.cls).before args s = true ∧ (y.cls ≠ "java/lang/invoke/MethodHandle" ∧ y.cls ≠ "java/lang/invoke/VarHandle") ∧
  (∀ sig, parseMethodDescriptor y.desc = some sig → n = sig.parameters.length) ∧ (Cond.methodLink own index y).before args s = true ∧ (Cond.static y).before args s = true
theorem vx_cwSW {own : String} {index maxL mc ms : Nat} {y : MethodName} {bytes : ByteArray} {ret : Option FieldType} {hh : List (Nat × Nat × Nat × Nat)} {Ts ws ws' : List Cond} {rm : Room} (n : Nat) (ht : ∀ w ∈ Ts, w.before args s = true) (hT : GoodIn Ts (va_wsS own index y ws)) (hw : ws = Cond.codeWith y bytes maxL ret hh :: ws') (hrc : rm.cells = mc) (hrs : rm.slots = ms)
    (hd : y.cls ≠ "java/lang/invoke/MethodHandle" ∧ y.cls ≠ "java/lang/invoke/VarHandle" ∧ (parseMethodDescriptor y.desc).map (fun d => d.parameters.length) = some n) (hR : rm.frames + 1 ≤ R.frames ∧ 8 + (maxL + 11) + rm.locals ≤ R.locals) :
    vx_CSW R s args own index y bytes maxL ret hh ws rm mc ms n := by
  have ok : ∀ w ∈ va_wsS own index y ws, w.before args s = true := fun w h => ht w (hT w h).1
  have hG : GoodIn Ts ws := fun w h => hT w (by unfold va_wsS; exact List.mem_append_right _ h)
  have hc : Cond.codeWith y bytes maxL ret hh ∈ ws := by rw [hw]; exact List.mem_cons_self
  refine ⟨⟨hrc, hrs, hR.1, hR.2, pay_in ht hG, hc⟩, ht _ (hG _ hc).1, ok _ (by simp [va_wsS]), ⟨hd.1, hd.2.1⟩, fun sig h => ?_, ok _ (by simp [va_wsS]), ok _ (by simp [va_wsS])⟩
  have h2 := hd.2.2
  rw [h] at h2
  exact (Option.some.inj h2).symm
theorem vx_callSW (X : Stand p l e R s m args below meth c T locs cells slots) (hexec : p.tables.exec = Jvm.exec) {own : String} {index : Nat} {y : MethodName} {bytes : ByteArray} {maxL : Nat} {ret : Option FieldType} {hh : List (Nat × Nat × Nat × Nat)}
    (hown : s.vm.findClass own = some m.cls) (hlink : (Cond.methodLink own index y).before args s = true) (hstat : (Cond.static y).before args s = true) (hinit : (Cond.initialized y.cls).before args s = true)
    (hcode : (Cond.codeWith y bytes maxL ret hh).before args s = true) (hy : y.cls ≠ "java/lang/invoke/MethodHandle" ∧ y.cls ≠ "java/lang/invoke/VarHandle")
    {W9 : Nat} {Pre : Pt → Array Value → Prop} {Post : Pt → Array Value → Option Value → Pt → Prop} (hK : Back l R p e below s args y 3 W9 Pre Post)
    {g : JFrame} (hg : g.method = m) (hsize : g.locals.size = c.maxLocals) {argsL rest : List Value} (hlen : ∀ sig, parseMethodDescriptor y.desc = some sig → argsL.length = sig.parameters.length)
    (hstack : g.stack = argsL.reverse ++ rest) (hW : 2 * g.monitorRoom + (rest.map fun v => v.category).sum ≤ W9) (hdg : decode c.code g.pc = .ok (.invokestatic index, 3))
    (hpre : ∀ vm₁, s.WarmedH vm₁ → Pre ⟨T.setVm vm₁, locs, cells, slots⟩ argsL.toArray) :
    ∃ (v : Option Value) (vm₁ : Vm) (B : Pt), s.WarmedH vm₁ ∧ Stand p l e R s m args below meth c B.U B.locs B.cells B.slots ∧ Post ⟨T.setVm vm₁, locs, cells, slots⟩ argsL.toArray v B ∧
      ∀ target, Steps p.tables e below (B.U.setTop { g with pc := g.pc + 3, stack := v.toList ++ rest }) target → Steps p.tables e below (T.setTop g) target := by
  obtain ⟨mk, methM, cM, hnamed, hmethM, -, -, -, -, -, -, hsigM⟩ := Cond.codeWith_spec hcode
  have hstatic : methM.isStatic = true := Cond.static_spec hnamed hmethM hstat
  obtain ⟨kP, hkP, -⟩ := className_of_methodNamed hnamed
  have hinitP : kP.init = .initialized := Cond.initialized_spec (findClass_of_methodNamed hnamed) hkP hinit
  obtain ⟨vm₁, X₁, hstep₁⟩ := X.invokestatic hexec hown hlink hnamed hmethM hstatic hkP hinitP hy (g := g) hg (argsL := argsL) (rest := rest) (hlen _ hsigM) hstack hdg
  obtain ⟨v, B, X', hpost, hsteps⟩ := hK m meth c ⟨T.setVm vm₁, locs, cells, slots⟩ { g with stack := rest } (.invokestatic index) mk argsL.toArray X₁ hg hsize hdg hW (X₁.named hnamed) (hpre vm₁ X₁.warmed)
  exact ⟨v, vm₁, B, X₁.warmed, X', hpost, fun target h => hstep₁ _ fun acts => by rw [doInvoke_state]; exact hsteps.trans h⟩
theorem vx_runSW {y : MethodName} {bytes cc : ByteArray} {maxL nL mc ms n index : Nat} {ret : Option FieldType} {hh : List (Nat × Nat × Nat × Nat)} {ws : List Cond} {rm : Room} {Pc : Array Value → State → Prop} {Qc : Array Value → State → Outcome → State → Prop} {free : Addr → Prop} {Ts : List Cond} {own : String} {As rest : List Value} {g : JFrame}
    (S : CallFix p m c cc nL s args Ts own) (hM : Met l y ws rm Pc Qc mc ms free) (cw : vx_CSW R s args own index y bytes maxL ret hh ws rm mc ms n) (hp : PreS s H Pc As)
    (hg : g.method = m) (hn : As.length = n) (hsize : g.locals.size = nL) (hstack : g.stack = As.reverse ++ rest) (hW : 2 * g.monitorRoom + (rest.map fun v => v.category).sum ≤ 8) (hdg : decode cc g.pc = .ok (.invokestatic index, 3)) (hf : cells + mc ≤ R.cells ∧ slots + ms ≤ R.slots) :
    va_Run p l e R s m args below meth c H locs cells slots mc ms g rest (Qc As.toArray) (free) := by
  obtain ⟨⟨hrc, hrs, hfr, hlo, hws, hcw⟩, hcode, hini, hy, hlen, hl, hstt⟩ := cw
  have hK : Back l R p e below s args y 3 8 (PreOf R mc ms Pc) (PostOf Qc mc ms free) := va_backW (hh := hh) (bytes := bytes) (maxL := maxL) (ret := ret) hM hp.1 hrc hrs hfr hlo hws hcw (fun a' U hW => word_at hW (Or.inl (by first | rfl | simp [Cond.onTables, Cond.keeps, Cond.steady])) hini)
  obtain ⟨hx, hb, hml, ho, -⟩ := S
  intro T hT X
  obtain ⟨v, vm₁, ⟨U', l2, c2, s2⟩, hW₁, X', ⟨g', mk, t, L, e1, e2, hq, h1, hL, h2, h3⟩, st⟩ := vx_callSW X hx (hh := hh) (bytes := bytes) (maxL := maxL) (ret := ret) ho hl hstt hini hcode hy hK hg (hsize.trans hml.symm) (argsL := As) (rest := rest) (fun sig h => hn.trans (hlen sig h)) hstack hW (by rw [hb]; exact hdg)
    (fun vm₁ hW₁ => ⟨hf.1, hf.2, hp.2 (T.setVm vm₁) hT hW₁⟩)
  dsimp only [Pt.U, Pt.locs, Pt.cells, Pt.slots] at X' e1 e2 h1 h2 h3 st
  subst h1; subst h2; subst h3
  exact ⟨v, (T.setVm vm₁).calling g' mk As.toArray, t, U', L, hT, X', hL, e1, e2, hq, st⟩
/-- not caught here, past rows that name other classes: it goes on to the caller -/
theorem vx_outP {p : Program} {l : Launch} {e : Env} {R : Room} {s : State} {m : MethodId} {args : Array Value} {below : List Frame} {meth : Method} {c : Code} {H : Heap} {locs : List Loc} {cells slots : Nat} {free : Addr → Prop} {ls : Array Slot} {rest : List Value} {Qc : Array Value → State → Outcome → State → Prop} {XC : String → State → State → Prop}
    {pc : Nat} {own E : String} {ce : Cell} {q : Addr} {mc ms : Nat} (hown : s.vm.findClass own = some m.cls) (hlocks : meth.locks = false)
    (hpass : ∀ z ∈ c.exceptionTable.toList, covers z pc = false ∨ (z.catchType ≠ 0 ∧ ∃ nm : String, (Cond.classLink own z.catchType nm).before args s = true ∧ va_Nc E nm s)) (hcell : H[q]? = some ce) (hv : ce.vm = .none) (hcl : s.vm.findClass E = some ce.cls)
    (hx : ∀ t : State, t.heap = H → s.vm.Alike t.vm → XC E s t) (hf : ∀ z ∈ locs, free z.base) (hc : cells ≤ mc) (hs : slots ≤ ms) :
    vx_W p l e R s m args below meth c H locs cells slots (vx_MQ below Qc XC args s mc ms free) (F0 m pc ls rest) q := by
  intro T hT X
  have hpl : e.platform.magicAccessors = ({} : Platform).magicAccessors := by rw [X.admits.platform]
  obtain ⟨vm', hW', X', st⟩ := X.outThrough hlocks q (g := F0 m pc ls rest) rfl rfl rfl (cell := ce) (by rw [hT]; exact hcell) (by rw [hv]; rfl)
    (by obtain ⟨k9, h9, -⟩ := Vm.findClass_spec hcl; exact ⟨k9, h9⟩) (fun z hz => by
      rcases hpass z hz with h | ⟨hz0, nm, hl1, hn1⟩
      · exact Or.inl h
      · obtain ⟨c6, hc6, hcl6⟩ := Cond.classLink_spec hown hl1 e.platform hpl
        obtain ⟨a8, b8, h1, h2, h3⟩ := hn1
        cases Option.some.inj (h1.symm.trans hcl)
        cases Option.some.inj (h2.symm.trans hc6)
        exact Or.inr ⟨hz0, _, hcl6, h3⟩)
  obtain ⟨g₀, hfr⟩ := X'.frames_eq
  have hcell9 : ((T.setVm vm').setFrames (.throwing q :: below)).heap[q]? = some ce := by
    show T.heap[q]? = some ce
    rw [hT]; exact hcell
  have hend : Ended ((T.setVm vm').setFrames (.throwing q :: below)) below (.threw q) := State.frames_setFrames _ (State.cur_lt_of_frames hfr)
  refine ⟨(T.setVm vm').setFrames (.throwing q :: below), ?_, .threw q, X'.here.running, hend, Or.inr ⟨q, rfl, E, ce, locs, hx _ hT (X'.ends _).1.alike, hcell9, hv, hcl, (X'.ends _).1, (X'.ends _).2.mono hc hs, hf⟩⟩
  rw [X.pushThrowing_eq]
  exact st
/-- a thing of a world lies in the heap -/
theorem vx_lt {D : va_G} {cl : List vw_C} {ws : va_W} {H1 : Heap} (h : va_P D cl ws H1) {k : Nat} {q : Nat × va_E} (hk : ws[k]? = some q) : q.1 < H1.size := (h k q hk).lt
end VXS
/-! ===== END ===== -/
/-! ===== BEGIN methods with a table of their own: called by a name, returning or throwing ===== -/
section VXH
/-! vx_backW, vx_callVX, vx_callSX, vx_callVW, vx_runVW, vx_runVX, vx_runSX, vx_ofWH follow the same proofs as their sisters above (Free/Laws.lean, Shelf42/LK1.lean); vx_outP calls Shelf42/NT130.lean (outThrough). -/
section
variable {l : Launch} {R : Room} {p : Program} {e : Env} {below : List Frame} {s : State} {sargs : Array Value} {y : MethodName} {len W9 : Nat}
theorem vx_backW {ws : List Cond} {rm : Room} {Pc : Array Value → State → Prop} {Qc : Array Value → State → Outcome → State → Prop} {XC : String → State → State → Prop} {mc ms : Nat} {free : Addr → Prop} {bytes : ByteArray} {maxL : Nat} {ret : Option FieldType} {hh : List (Nat × Nat × Nat × Nat)}
    (hM : vx_Met l y ws rm Pc Qc XC mc ms free) (hblind : FrameBlind Pc) (hrc : rm.cells = mc) (hrs : rm.slots = ms)
    (hframes : rm.frames + 1 ≤ R.frames) (hlocals : W9 + (maxL + 11) + rm.locals ≤ R.locals)
    (hws : ∀ w ∈ ws, ∀ a' U, s.WarmedH U.vm → w.before a' U = true) (hcode : Cond.codeWith y bytes maxL ret hh ∈ ws) (hinit : ∀ a' U, s.WarmedH U.vm → (Cond.initialized y.cls).before a' U = true) :
    vx_Back l R p e below s sargs y len W9 (PreOf R mc ms Pc) (PostOf Qc mc ms free) (vx_Post XC mc ms free) := by
  intro m meth c A g ig mk a X hg hsize hdg hW hn hp
  have h1 : (headSpec ws rm).pre.before a A.U = true := atoms_intro fun w hw => hws w hw _ _ X.warmed
  have h2 : (Cond.codeWith y bytes maxL ret hh).before a A.U = true := hws _ hcode _ _ X.warmed
  have h3 : (Cond.initialized y.cls).before a A.U = true := hinit _ _ X.warmed
  have h4 : A.cells + (headSpec ws rm).room.cells ≤ R.cells := by rw [show (headSpec ws rm).room.cells = mc from hrc]; exact hp.1
  have h5 : A.slots + (headSpec ws rm).room.slots ≤ R.slots := by rw [show (headSpec ws rm).room.slots = ms from hrs]; exact hp.2.1
  have hPc : Pc a (A.U.calling g mk a) := hblind _ _ _ _ hp.2.2
  obtain ⟨U, Ls, c0, s0⟩ := A
  dsimp only [Pt.U, Pt.locs, Pt.cells, Pt.slots] at h1 h2 h3 h4 h5 X hn hPc ⊢
  obtain ⟨m9, methY, cY, hn9, hmY, hcY, -, hlY, -⟩ := Cond.codeWith_spec h2
  cases Option.some.inj (hn9.symm.trans hn)
  obtain ⟨kY, hkY, -⟩ := className_of_methodNamed hn
  have hinitY : kY.init = .initialized := Cond.initialized_spec (findClass_of_methodNamed hn) hkY h3
  have h : At U g.method c below := by rw [hg]; exact X.here
  have hlocals9 : W9 + (maxL + 11) + (headSpec ws rm).room.locals ≤ R.locals := hlocals
  have happ : (headSpec ws rm).appliesLoose y e.platform (U.calling g mk a) = true :=
    Spec.appliesLoose_calling (g := g) h hdg hn hkY hinitY
      (X.room_calling (g := g) (R' := (headSpec ws rm).room) hsize hmY hcY hframes (by rw [hlY]; omega) h4 h5) h1
  obtain ⟨mid, hmid⟩ := h.above
  have hfr : (U.setTop g).frames = (.java g :: mid) ++ below := by rw [State.frames_setTop' g h.top, hmid]; rfl
  obtain ⟨o, s₂, hsteps, -, hend, hq⟩ := Steps.callFree hM p X.admits X.cas X.clock (acts := []) hfr happ hPc trivial
  have hq' : vx_Q Qc XC mc ms free a (U.calling g mk a) o s₂ := hq
  rw [State.frames_setTop' g h.top] at hend
  obtain ⟨g₀, hg0⟩ := Option.isSome_iff_exists.mp h.top
  obtain ⟨r, hr⟩ := State.topJava?_eq_some.mp hg0
  have hr' : (({ U with heap := s₂.heap, slotsUsed := s₂.slotsUsed } : State).setVm s₂.vm).frames = .java g₀ :: r := hr
  rcases hq' with ⟨hqc, L, hfe, hL⟩ | ⟨q, rfl, E, ce, L, hx, hce, hcv, hcl, hW₂, hsm, hL⟩
  · obtain ⟨⟨v, rfl⟩, hW₂, e2, q2, q3, q4, q5, q6⟩ := id hfe
    have e3 : s₂ = ({ (U.calling g mk a).setFrames s₂.frames with heap := s₂.heap, slotsUsed := s₂.slotsUsed } : State).setVm s₂.vm := by
      have : s₂ = ({ s₂ with vm := (U.calling g mk a).vm } : State).setVm s₂.vm := rfl
      rw [e2] at this
      exact this
    obtain ⟨c₂, i₂, len₂, hc₂, hd₂, hf₂⟩ := hend
    have hW' : U.WarmedH s₂.vm := hW₂
    have hcc : c₂ = c := by
      have h1 : s₂.code? g.method = U.code? g.method := by
        rw [State.code?_eq, State.code?_eq, hW'.alike.method?]
      exact Option.some.inj (hc₂.symm.trans (h1.trans h.code))
    subst hcc
    have hlen : len₂ = len := by rw [hdg] at hd₂; cases hd₂; rfl
    subst hlen
    have hs₂ : s₂ = (({ U with heap := s₂.heap, slotsUsed := s₂.slotsUsed } : State).setVm s₂.vm).setTop { g with pc := g.pc + len₂, stack := v.toList ++ g.stack } := by
      refine e3.trans ?_
      rw [hf₂, State.calling_eq h.top, State.setFrames_setFrames, State.setTop_of_frames _ hr', hr]
      rfl
    have hsame : U.sameButNew ({ U with heap := s₂.heap, slotsUsed := s₂.slotsUsed } : State) L mc ms := by
      refine ⟨?_, q2, q3, q4, q5, q6⟩
      obtain ⟨t, ht, -⟩ := State.frames_cons hr
      show ({ U with heap := s₂.heap, slotsUsed := s₂.slotsUsed } : State) = { U.setFrames U.frames with heap := s₂.heap, slotsUsed := s₂.slotsUsed }
      rw [State.setFrames_self ht]
    subst hg
    refine Or.inl ⟨v, ⟨(({ U with heap := s₂.heap, slotsUsed := s₂.slotsUsed } : State).setVm s₂.vm), Ls ++ L, c0 + mc, s0 + ms⟩,
      ⟨X.admits, X.cas, X.clock, X.frames, X.room, X.hears, X.method, X.code, (X.here.setHeapUsed s₂.heap s₂.slotsUsed).setVm hW'.alike, X.tail, State.WarmedH.trans X.warmed hW', X.limits, X.bytes, X.same.trans (hsame.setVm s.vm)⟩,
      ⟨g, mk, s₂, L, rfl, rfl, hqc, rfl, hL, rfl, rfl⟩, ?_⟩
    show Steps p.tables e below _ ((({ U with heap := s₂.heap, slotsUsed := s₂.slotsUsed } : State).setVm s₂.vm).setTop { g with pc := g.pc + len₂, stack := v.toList ++ g.stack })
    rw [← hs₂]
    exact hsteps
  · obtain ⟨e2, q2, q3, q4, q5, q6⟩ := id hsm
    have e3 : s₂ = ({ (U.calling g mk a).setFrames s₂.frames with heap := s₂.heap, slotsUsed := s₂.slotsUsed } : State).setVm s₂.vm := by
      have : s₂ = ({ s₂ with vm := (U.calling g mk a).vm } : State).setVm s₂.vm := rfl
      rw [e2] at this
      exact this
    have hf₂ : s₂.frames = .throwing q :: .java g :: U.frames.tail := hend
    have hW' : U.WarmedH s₂.vm := hW₂
    have hs₂ : s₂ = ((({ U with heap := s₂.heap, slotsUsed := s₂.slotsUsed } : State).setVm s₂.vm).setTop g).pushFrame (.throwing q) := by
      refine e3.trans ?_
      rw [hf₂, State.calling_eq h.top, State.setFrames_setFrames, State.pushFrame, State.frames_setTop _ hr', State.setTop_of_frames _ hr', State.setFrames_setFrames, hr]
      rfl
    have hsame : U.sameButNew ({ U with heap := s₂.heap, slotsUsed := s₂.slotsUsed } : State) L mc ms := by
      refine ⟨?_, q2, q3, q4, q5, q6⟩
      obtain ⟨t, ht, -⟩ := State.frames_cons hr
      show ({ U with heap := s₂.heap, slotsUsed := s₂.slotsUsed } : State) = { U.setFrames U.frames with heap := s₂.heap, slotsUsed := s₂.slotsUsed }
      rw [State.setFrames_self ht]
    subst hg
    refine Or.inr ⟨q, ⟨(({ U with heap := s₂.heap, slotsUsed := s₂.slotsUsed } : State).setVm s₂.vm), Ls ++ L, c0 + mc, s0 + ms⟩,
      ⟨X.admits, X.cas, X.clock, X.frames, X.room, X.hears, X.method, X.code, (X.here.setHeapUsed s₂.heap s₂.slotsUsed).setVm hW'.alike, X.tail, State.WarmedH.trans X.warmed hW', X.limits, X.bytes, X.same.trans (hsame.setVm s.vm)⟩,
      ⟨g, mk, s₂, L, E, ce, rfl, rfl, hx, hce, hcv, hcl, rfl, hL, rfl, rfl⟩, ?_⟩
    show Steps p.tables e below _ (((({ U with heap := s₂.heap, slotsUsed := s₂.slotsUsed } : State).setVm s₂.vm).setTop g).pushFrame (.throwing q))
    rw [← hs₂]
    exact hsteps
end
variable {p : Program} {l : Launch} {e : Env} {R : Room} {s : State} {m : MethodId} {args : Array Value} {below : List Frame} {meth : Method} {c : Code} {T : State} {H : Heap} {locs : List Loc} {cells slots : Nat}
theorem vx_callVX (X : Stand p l e R s m args below meth c T locs cells slots) (hexec : p.tables.exec = Jvm.exec) {own C : String} {index : Nat} {y : MethodName} {bytes : ByteArray} {maxL : Nat} {ret : Option FieldType} {hh : List (Nat × Nat × Nat × Nat)}
    (hown : s.vm.findClass own = some m.cls) (hlink : (Cond.methodLink own index y).before args s = true) (hinst : (Cond.instanceMethod y).before args s = true) (hsel : (Cond.selects C y y).before args s = true)
    (hcode : (Cond.codeWith y bytes maxL ret hh).before args s = true) (hy : y.cls ≠ "java/lang/invoke/MethodHandle" ∧ y.cls ≠ "java/lang/invoke/VarHandle")
    {W9 : Nat} {Pre : Pt → Array Value → Prop} {Post : Pt → Array Value → Option Value → Pt → Prop} {PostX : Pt → Array Value → Addr → Pt → Prop} (hK : vx_Back l R p e below s args y 3 W9 Pre Post PostX)
    {b : Addr} {cellB : Cell} (hcell : T.heap[b]? = some cellB) (hobj : cellB.vm.isStatics = false) (hcls : s.vm.findClass C = some cellB.cls)
    {g : JFrame} (hg : g.method = m) (hsize : g.locals.size = c.maxLocals) {argsL rest : List Value} (hlen : ∀ sig, parseMethodDescriptor y.desc = some sig → argsL.length = sig.parameters.length)
    (hstack : g.stack = argsL.reverse ++ .ref b :: rest) (hW : 2 * g.monitorRoom + (rest.map fun v => v.category).sum ≤ W9) (hdg : decode c.code g.pc = .ok (.invokevirtual index, 3))
    (hpre : ∀ vm₁, s.WarmedH vm₁ → Pre ⟨T.setVm vm₁, locs, cells, slots⟩ (Value.ref b :: argsL).toArray) :
    (∃ (v : Option Value) (vm₁ : Vm) (B : Pt), s.WarmedH vm₁ ∧ Stand p l e R s m args below meth c B.U B.locs B.cells B.slots ∧ Post ⟨T.setVm vm₁, locs, cells, slots⟩ (Value.ref b :: argsL).toArray v B ∧
      ∀ target, Steps p.tables e below (B.U.setTop { g with pc := g.pc + 3, stack := v.toList ++ rest }) target → Steps p.tables e below (T.setTop g) target) ∨
    (∃ (q : Addr) (vm₁ : Vm) (B : Pt), s.WarmedH vm₁ ∧ Stand p l e R s m args below meth c B.U B.locs B.cells B.slots ∧ PostX ⟨T.setVm vm₁, locs, cells, slots⟩ (Value.ref b :: argsL).toArray q B ∧
      Steps p.tables e below (T.setTop g) ((B.U.setTop { g with stack := rest }).pushFrame (.throwing q))) := by
  obtain ⟨mk, methM, hnamed, hmethM, hstM, habM⟩ := Cond.instanceMethod_spec hinst
  obtain ⟨m8, methM', cM, hn8, hmethM', -, -, -, -, -, -, hsigM⟩ := Cond.codeWith_spec hcode
  cases Option.some.inj (hn8.symm.trans hnamed)
  cases hmethM.symm.trans hmethM'
  obtain ⟨c2, r2, m2, q1, q2, q3, q4, kP, hkP, hkPi⟩ := Cond.selects_spec hsel
  cases hcls.symm.trans q1
  cases (State.methodFound?_of_named hnamed hy).symm.trans q2
  cases hnamed.symm.trans q3
  have hselP : selectMethod e.platform s.vm cellB.cls mk = .method mk := by rw [Launch.admits_selectMethod X.admits]; exact q4
  obtain ⟨vm₁, X₁, hstep₁⟩ := X.invokevirtual hexec hown hlink hnamed hmethM hstM hkP hkPi hy (a := b) (cell := cellB) hcell
    (fun z h => by rw [h] at hobj; cases hobj) hselP hmethM habM hkP hkPi (g := g) hg (argsL := argsL) (rest := rest) (hlen _ hsigM) hstack hdg
  rcases hK m meth c ⟨T.setVm vm₁, locs, cells, slots⟩ { g with stack := rest } (.invokevirtual index) mk (Value.ref b :: argsL).toArray X₁ hg hsize hdg hW (X₁.named hnamed) (hpre vm₁ X₁.warmed) with ⟨v, B, X', hpost, hsteps⟩ | ⟨q, B, X', hpost, hsteps⟩
  · exact Or.inl ⟨v, vm₁, B, X₁.warmed, X', hpost, fun target h => hstep₁ _ fun acts => by rw [doInvoke_state]; exact hsteps.trans h⟩
  · exact Or.inr ⟨q, vm₁, B, X₁.warmed, X', hpost, hstep₁ _ fun acts => by rw [doInvoke_state]; exact hsteps⟩
theorem vx_callSX (X : Stand p l e R s m args below meth c T locs cells slots) (hexec : p.tables.exec = Jvm.exec) {own : String} {index : Nat} {y : MethodName} {bytes : ByteArray} {maxL : Nat} {ret : Option FieldType} {hh : List (Nat × Nat × Nat × Nat)}
    (hown : s.vm.findClass own = some m.cls) (hlink : (Cond.methodLink own index y).before args s = true) (hstat : (Cond.static y).before args s = true) (hinit : (Cond.initialized y.cls).before args s = true)
    (hcode : (Cond.codeWith y bytes maxL ret hh).before args s = true) (hy : y.cls ≠ "java/lang/invoke/MethodHandle" ∧ y.cls ≠ "java/lang/invoke/VarHandle")
    {W9 : Nat} {Pre : Pt → Array Value → Prop} {Post : Pt → Array Value → Option Value → Pt → Prop} {PostX : Pt → Array Value → Addr → Pt → Prop} (hK : vx_Back l R p e below s args y 3 W9 Pre Post PostX)
    {g : JFrame} (hg : g.method = m) (hsize : g.locals.size = c.maxLocals) {argsL rest : List Value} (hlen : ∀ sig, parseMethodDescriptor y.desc = some sig → argsL.length = sig.parameters.length)
    (hstack : g.stack = argsL.reverse ++ rest) (hW : 2 * g.monitorRoom + (rest.map fun v => v.category).sum ≤ W9) (hdg : decode c.code g.pc = .ok (.invokestatic index, 3))
    (hpre : ∀ vm₁, s.WarmedH vm₁ → Pre ⟨T.setVm vm₁, locs, cells, slots⟩ argsL.toArray) :
    (∃ (v : Option Value) (vm₁ : Vm) (B : Pt), s.WarmedH vm₁ ∧ Stand p l e R s m args below meth c B.U B.locs B.cells B.slots ∧ Post ⟨T.setVm vm₁, locs, cells, slots⟩ argsL.toArray v B ∧
      ∀ target, Steps p.tables e below (B.U.setTop { g with pc := g.pc + 3, stack := v.toList ++ rest }) target → Steps p.tables e below (T.setTop g) target) ∨
    (∃ (q : Addr) (vm₁ : Vm) (B : Pt), s.WarmedH vm₁ ∧ Stand p l e R s m args below meth c B.U B.locs B.cells B.slots ∧ PostX ⟨T.setVm vm₁, locs, cells, slots⟩ argsL.toArray q B ∧
      Steps p.tables e below (T.setTop g) ((B.U.setTop { g with stack := rest }).pushFrame (.throwing q))) := by
  obtain ⟨mk, methM, cM, hnamed, hmethM, -, -, -, -, -, -, hsigM⟩ := Cond.codeWith_spec hcode
  have hstatic : methM.isStatic = true := Cond.static_spec hnamed hmethM hstat
  obtain ⟨kP, hkP, -⟩ := className_of_methodNamed hnamed
  have hinitP : kP.init = .initialized := Cond.initialized_spec (findClass_of_methodNamed hnamed) hkP hinit
  obtain ⟨vm₁, X₁, hstep₁⟩ := X.invokestatic hexec hown hlink hnamed hmethM hstatic hkP hinitP hy (g := g) hg (argsL := argsL) (rest := rest) (hlen _ hsigM) hstack hdg
  rcases hK m meth c ⟨T.setVm vm₁, locs, cells, slots⟩ { g with stack := rest } (.invokestatic index) mk argsL.toArray X₁ hg hsize hdg hW (X₁.named hnamed) (hpre vm₁ X₁.warmed) with ⟨v, B, X', hpost, hsteps⟩ | ⟨q, B, X', hpost, hsteps⟩
  · exact Or.inl ⟨v, vm₁, B, X₁.warmed, X', hpost, fun target h => hstep₁ _ fun acts => by rw [doInvoke_state]; exact hsteps.trans h⟩
  · exact Or.inr ⟨q, vm₁, B, X₁.warmed, X', hpost, hstep₁ _ fun acts => by rw [doInvoke_state]; exact hsteps⟩
theorem vx_callVW (X : Stand p l e R s m args below meth c T locs cells slots) (hexec : p.tables.exec = Jvm.exec) {own C : String} {index : Nat} {y : MethodName} {bytes : ByteArray} {maxL : Nat} {ret : Option FieldType} {hh : List (Nat × Nat × Nat × Nat)}
    (hown : s.vm.findClass own = some m.cls) (hlink : (Cond.methodLink own index y).before args s = true) (hinst : (Cond.instanceMethod y).before args s = true) (hsel : (Cond.selects C y y).before args s = true)
    (hcode : (Cond.codeWith y bytes maxL ret hh).before args s = true) (hy : y.cls ≠ "java/lang/invoke/MethodHandle" ∧ y.cls ≠ "java/lang/invoke/VarHandle")
    {W9 : Nat} {Pre : Pt → Array Value → Prop} {Post : Pt → Array Value → Option Value → Pt → Prop} (hK : Back l R p e below s args y 3 W9 Pre Post)
    {b : Addr} {cellB : Cell} (hcell : T.heap[b]? = some cellB) (hobj : cellB.vm.isStatics = false) (hcls : s.vm.findClass C = some cellB.cls)
    {g : JFrame} (hg : g.method = m) (hsize : g.locals.size = c.maxLocals) {argsL rest : List Value} (hlen : ∀ sig, parseMethodDescriptor y.desc = some sig → argsL.length = sig.parameters.length)
    (hstack : g.stack = argsL.reverse ++ .ref b :: rest) (hW : 2 * g.monitorRoom + (rest.map fun v => v.category).sum ≤ W9) (hdg : decode c.code g.pc = .ok (.invokevirtual index, 3))
    (hpre : ∀ vm₁, s.WarmedH vm₁ → Pre ⟨T.setVm vm₁, locs, cells, slots⟩ (Value.ref b :: argsL).toArray) :
    ∃ (v : Option Value) (vm₁ : Vm) (B : Pt), s.WarmedH vm₁ ∧ Stand p l e R s m args below meth c B.U B.locs B.cells B.slots ∧ Post ⟨T.setVm vm₁, locs, cells, slots⟩ (Value.ref b :: argsL).toArray v B ∧
      ∀ target, Steps p.tables e below (B.U.setTop { g with pc := g.pc + 3, stack := v.toList ++ rest }) target → Steps p.tables e below (T.setTop g) target := by
  obtain ⟨mk, methM, hnamed, hmethM, hstM, habM⟩ := Cond.instanceMethod_spec hinst
  obtain ⟨m8, methM', cM, hn8, hmethM', -, -, -, -, -, -, hsigM⟩ := Cond.codeWith_spec hcode
  cases Option.some.inj (hn8.symm.trans hnamed)
  cases hmethM.symm.trans hmethM'
  obtain ⟨c2, r2, m2, q1, q2, q3, q4, kP, hkP, hkPi⟩ := Cond.selects_spec hsel
  cases hcls.symm.trans q1
  cases (State.methodFound?_of_named hnamed hy).symm.trans q2
  cases hnamed.symm.trans q3
  have hselP : selectMethod e.platform s.vm cellB.cls mk = .method mk := by rw [Launch.admits_selectMethod X.admits]; exact q4
  obtain ⟨vm₁, X₁, hstep₁⟩ := X.invokevirtual hexec hown hlink hnamed hmethM hstM hkP hkPi hy (a := b) (cell := cellB) hcell
    (fun z h => by rw [h] at hobj; cases hobj) hselP hmethM habM hkP hkPi (g := g) hg (argsL := argsL) (rest := rest) (hlen _ hsigM) hstack hdg
  obtain ⟨v, B, X', hpost, hsteps⟩ := hK m meth c ⟨T.setVm vm₁, locs, cells, slots⟩ { g with stack := rest } (.invokevirtual index) mk (Value.ref b :: argsL).toArray X₁ hg hsize hdg hW (X₁.named hnamed) (hpre vm₁ X₁.warmed)
  exact ⟨v, vm₁, B, X₁.warmed, X', hpost, fun target h => hstep₁ _ fun acts => by rw [doInvoke_state]; exact hsteps.trans h⟩
abbrev vx_CVW (R : Room) (s : State) (args : Array Value) (own C : String) (index : Nat) (y : MethodName) (bytes : ByteArray) (maxL : Nat) (ret : Option FieldType) (hh : List (Nat × Nat × Nat × Nat)) (ws : List Cond) (rm : Room) (mc ms n : Nat) : Prop :=
  (rm.cells = mc ∧ rm.slots = ms ∧ rm.frames + 1 ≤ R.frames ∧ 8 + (maxL + 11) + rm.locals ≤ R.locals ∧ (∀ w ∈ ws, ∀ (a' : Array Value) (U : State), s.WarmedH U.vm → w.before a' U = true) ∧ Cond.codeWith y bytes maxL ret hh ∈ ws) ∧
  (Cond.codeWith y bytes maxL ret hh).before args s = true ∧ (Cond.initialized y.cls).before args s = true ∧ (y.cls ≠ "java/lang/invoke/MethodHandle" ∧ y.cls ≠ "java/lang/invoke/VarHandle") ∧
  (∀ sig, parseMethodDescriptor y.desc = some sig → n = sig.parameters.length) ∧ (Cond.methodLink own index y).before args s = true ∧ (Cond.instanceMethod y).before args s = true ∧ (Cond.selects C y y).before args s = true
theorem vx_cwVW {own C : String} {index maxL mc ms : Nat} {y : MethodName} {bytes : ByteArray} {ret : Option FieldType} {hh : List (Nat × Nat × Nat × Nat)} {Ts ws ws' : List Cond} {rm : Room} (n : Nat) (ht : ∀ w ∈ Ts, w.before args s = true) (hT : GoodIn Ts (wsV own index C y ws)) (hw : ws = Cond.codeWith y bytes maxL ret hh :: ws') (hrc : rm.cells = mc) (hrs : rm.slots = ms)
    (hd : y.cls = C ∧ y.cls ≠ "java/lang/invoke/MethodHandle" ∧ y.cls ≠ "java/lang/invoke/VarHandle" ∧ (parseMethodDescriptor y.desc).map (fun d => d.parameters.length) = some n) (hR : rm.frames + 1 ≤ R.frames ∧ 8 + (maxL + 11) + rm.locals ≤ R.locals) :
    vx_CVW R s args own C index y bytes maxL ret hh ws rm mc ms n := by
  obtain ⟨hC, hd⟩ := hd
  subst hC
  have ok : ∀ w ∈ wsV own index y.cls y ws, w.before args s = true := fun w h => ht w (hT w h).1
  have hG : GoodIn Ts ws := fun w h => hT w (by unfold wsV; exact List.mem_append_right _ h)
  have hc : Cond.codeWith y bytes maxL ret hh ∈ ws := by rw [hw]; exact List.mem_cons_self
  refine ⟨⟨hrc, hrs, hR.1, hR.2, pay_in ht hG, hc⟩, ht _ (hG _ hc).1, ok _ (by simp [wsV]), ⟨hd.1, hd.2.1⟩, fun sig h => ?_, ok _ (by simp [wsV]), ok _ (by simp [wsV]), ok _ (by simp [wsV])⟩
  have h2 := hd.2.2
  rw [h] at h2
  exact (Option.some.inj h2).symm
theorem vx_runVW {y : MethodName} {bytes cc : ByteArray} {maxL nL mc ms n index : Nat} {ret : Option FieldType} {hh : List (Nat × Nat × Nat × Nat)} {ws : List Cond} {rm : Room} {Pc : Array Value → State → Prop} {Qc : Array Value → State → Outcome → State → Prop} {free : Addr → Prop} {Ts : List Cond} {own C : String} {b : Addr} {As rest : List Value} {g : JFrame}
    (S : CallFix p m c cc nL s args Ts own) (hM : Met l y ws rm Pc Qc mc ms free) (cw : vx_CVW R s args own C index y bytes maxL ret hh ws rm mc ms n) (hp : PreV s H C b Pc As)
    (hg : g.method = m) (hn : As.length = n) (hsize : g.locals.size = nL) (hstack : g.stack = As.reverse ++ .ref b :: rest) (hW : 2 * g.monitorRoom + (rest.map fun v => v.category).sum ≤ 8) (hdg : decode cc g.pc = .ok (.invokevirtual index, 3)) (hf : cells + mc ≤ R.cells ∧ slots + ms ≤ R.slots) :
    va_Run p l e R s m args below meth c H locs cells slots mc ms g rest (Qc (Value.ref b :: As).toArray) free := by
  obtain ⟨⟨hrc, hrs, hfr, hlo, hws, hcw⟩, hcode, hini, hy, hlen, hl, hin, hse⟩ := cw
  have hK : Back l R p e below s args y 3 8 (PreOf R mc ms Pc) (PostOf Qc mc ms free) := va_backW (hh := hh) (bytes := bytes) (maxL := maxL) (ret := ret) hM hp.1 hrc hrs hfr hlo hws hcw (fun a' U hW => word_at hW (Or.inl (by first | rfl | simp [Cond.onTables, Cond.keeps, Cond.steady])) hini)
  obtain ⟨hx, hb, hml, ho, -⟩ := S
  obtain ⟨-, ⟨cellB, hcB, hoB, hclB⟩, hPc⟩ := hp
  intro T hT X
  obtain ⟨v, vm₁, ⟨U', l2, c2, s2⟩, hW₁, X', ⟨g', mk, t, L, e1, e2, hq, h1, hL, h2, h3⟩, st⟩ := vx_callVW X hx (C := C) (hh := hh) (bytes := bytes) (maxL := maxL) (ret := ret) ho hl hin hse hcode hy hK (by rw [hT]; exact hcB) hoB hclB hg (hsize.trans hml.symm) (argsL := As) (rest := rest) (fun sig h => hn.trans (hlen sig h)) hstack hW (by rw [hb]; exact hdg)
    (fun vm₁ hW₁ => ⟨hf.1, hf.2, hPc (T.setVm vm₁) hT hW₁⟩)
  dsimp only [Pt.U, Pt.locs, Pt.cells, Pt.slots] at X' e1 e2 h1 h2 h3 st
  subst h1; subst h2; subst h3
  exact ⟨v, (T.setVm vm₁).calling g' mk (Value.ref b :: As).toArray, t, U', L, hT, X', hL, e1, e2, hq, st⟩
section
variable {y : MethodName} {bytes cc : ByteArray} {maxL nL mc ms n index : Nat} {ret : Option FieldType} {ws : List Cond} {rm : Room} {Pc : Array Value → State → Prop} {Qc : Array Value → State → Outcome → State → Prop} {XC : String → State → State → Prop} {free : Addr → Prop} {Ts : List Cond} {own C : String} {b : Addr} {As rest : List Value} {g : JFrame}
theorem vx_runVX {hh : List (Nat × Nat × Nat × Nat)} (S : CallFix p m c cc nL s args Ts own) (hM : vx_Met l y ws rm Pc Qc XC mc ms free) (cw : vx_CVW R s args own C index y bytes maxL ret hh ws rm mc ms n) (hp : PreV s H C b Pc As)
    (hg : g.method = m) (hn : As.length = n) (hsize : g.locals.size = nL) (hstack : g.stack = As.reverse ++ .ref b :: rest) (hW : 2 * g.monitorRoom + (rest.map fun v => v.category).sum ≤ 8) (hdg : decode cc g.pc = .ok (.invokevirtual index, 3)) (hf : cells + mc ≤ R.cells ∧ slots + ms ≤ R.slots) :
    vx_Run p l e R s m args below meth c H locs cells slots mc ms g rest (Qc (Value.ref b :: As).toArray) XC free := by
  obtain ⟨⟨hrc, hrs, hfr, hlo, hws, hcw⟩, hcode, hini, hy, hlen, hl, hin, hse⟩ := cw
  have hK : vx_Back l R p e below s args y 3 8 (PreOf R mc ms Pc) (PostOf Qc mc ms free) (vx_Post XC mc ms free) := vx_backW (hh := hh) (bytes := bytes) (maxL := maxL) (ret := ret) hM hp.1 hrc hrs hfr hlo hws hcw (fun a' U hW => word_at hW (Or.inl (by first | rfl | simp [Cond.onTables, Cond.keeps, Cond.steady])) hini)
  obtain ⟨hx, hb, hml, ho, -⟩ := S
  obtain ⟨-, ⟨cellB, hcB, hoB, hclB⟩, hPc⟩ := hp
  intro T hT X
  rcases vx_callVX X hx (C := C) (hh := hh) (bytes := bytes) (maxL := maxL) (ret := ret) ho hl hin hse hcode hy hK (by rw [hT]; exact hcB) hoB hclB hg (hsize.trans hml.symm) (argsL := As) (rest := rest) (fun sig h => hn.trans (hlen sig h)) hstack hW (by rw [hb]; exact hdg)
    (fun vm₁ hW₁ => ⟨hf.1, hf.2, hPc (T.setVm vm₁) hT hW₁⟩) with ⟨v, vm₁, ⟨U', l2, c2, s2⟩, hW₁, X', ⟨g', mk, t, L, e1, e2, hq, h1, hL, h2, h3⟩, st⟩ | ⟨q, vm₁, ⟨U', l2, c2, s2⟩, hW₁, X', ⟨g', mk, t, L, E, ce, e1, e2, hq, hce, hcv, hcl, h1, hL, h2, h3⟩, st⟩
  · dsimp only [Pt.U, Pt.locs, Pt.cells, Pt.slots] at X' e1 e2 h1 h2 h3 st
    subst h1; subst h2; subst h3
    exact Or.inl ⟨v, (T.setVm vm₁).calling g' mk (Value.ref b :: As).toArray, t, U', L, hT, X', hL, e1, e2, hq, st⟩
  · dsimp only [Pt.U, Pt.locs, Pt.cells, Pt.slots] at X' e1 e2 h1 h2 h3 st hcl
    subst h1; subst h2; subst h3
    exact Or.inr ⟨q, (T.setVm vm₁).calling g' mk (Value.ref b :: As).toArray, t, U', L, E, ce, hT, X', hL, e1, e2, hq, hce, hcv, vx_cls hW₁ hcl, st⟩
theorem vx_runSX {hh : List (Nat × Nat × Nat × Nat)} (S : CallFix p m c cc nL s args Ts own) (hM : vx_Met l y ws rm Pc Qc XC mc ms free) (cw : vx_CSW R s args own index y bytes maxL ret hh ws rm mc ms n) (hp : PreS s H Pc As)
    (hg : g.method = m) (hn : As.length = n) (hsize : g.locals.size = nL) (hstack : g.stack = As.reverse ++ rest) (hW : 2 * g.monitorRoom + (rest.map fun v => v.category).sum ≤ 8) (hdg : decode cc g.pc = .ok (.invokestatic index, 3)) (hf : cells + mc ≤ R.cells ∧ slots + ms ≤ R.slots) :
    vx_Run p l e R s m args below meth c H locs cells slots mc ms g rest (Qc As.toArray) XC free := by
  obtain ⟨⟨hrc, hrs, hfr, hlo, hws, hcw⟩, hcode, hini, hy, hlen, hl, hstt⟩ := cw
  have hK : vx_Back l R p e below s args y 3 8 (PreOf R mc ms Pc) (PostOf Qc mc ms free) (vx_Post XC mc ms free) := vx_backW (hh := hh) (bytes := bytes) (maxL := maxL) (ret := ret) hM hp.1 hrc hrs hfr hlo hws hcw (fun a' U hW => word_at hW (Or.inl (by first | rfl | simp [Cond.onTables, Cond.keeps, Cond.steady])) hini)
  obtain ⟨hx, hb, hml, ho, -⟩ := S
  intro T hT X
  rcases vx_callSX X hx (hh := hh) (bytes := bytes) (maxL := maxL) (ret := ret) ho hl hstt hini hcode hy hK hg (hsize.trans hml.symm) (argsL := As) (rest := rest) (fun sig h => hn.trans (hlen sig h)) hstack hW (by rw [hb]; exact hdg)
    (fun vm₁ hW₁ => ⟨hf.1, hf.2, hp.2 (T.setVm vm₁) hT hW₁⟩) with ⟨v, vm₁, ⟨U', l2, c2, s2⟩, hW₁, X', ⟨g', mk, t, L, e1, e2, hq, h1, hL, h2, h3⟩, st⟩ | ⟨q, vm₁, ⟨U', l2, c2, s2⟩, hW₁, X', ⟨g', mk, t, L, E, ce, e1, e2, hq, hce, hcv, hcl, h1, hL, h2, h3⟩, st⟩
  · dsimp only [Pt.U, Pt.locs, Pt.cells, Pt.slots] at X' e1 e2 h1 h2 h3 st
    subst h1; subst h2; subst h3
    exact Or.inl ⟨v, (T.setVm vm₁).calling g' mk As.toArray, t, U', L, hT, X', hL, e1, e2, hq, st⟩
  · dsimp only [Pt.U, Pt.locs, Pt.cells, Pt.slots] at X' e1 e2 h1 h2 h3 st hcl
    subst h1; subst h2; subst h3
    exact Or.inr ⟨q, (T.setVm vm₁).calling g' mk As.toArray, t, U', L, E, ce, hT, X', hL, e1, e2, hq, hce, hcv, vx_cls hW₁ hcl, st⟩
end
end VXH
theorem vx_ofWH {l : Launch} {y : MethodName} {ws ws' : List Cond} {rm : Room} {Pc : Array Value → State → Prop} {Qc : Array Value → State → Outcome → State → Prop} {XC : String → State → State → Prop} {mc ms : Nat} {free : Addr → Prop} {cc : ByteArray} {maxL : Nat} {ret : Option FieldType} {hh : List (Nat × Nat × Nat × Nat)}
    (hy : plainName y.cls = true) (hw : ws = Cond.codeWith y cc maxL ret hh :: ws')
    (body : ∀ p e s m args below meth c s₁, BodyLoose p l y (headSpec ws rm) cc maxL ret e s m args below meth c s₁ → c.maxLocals = maxL → Pc args s →
      W p l e (headSpec ws rm).room s m args below meth c s.heap [] 0 0 (vx_MQ below Qc XC args s mc ms free) (entryFrame m args maxL)) : vx_Met l y ws rm Pc Qc XC mc ms free := by
  refine MetFree.of_bodyS (code := cc) (maxLocals := maxL) (ret := ret) hy ?_ ?_
  · intro args s m h hn
    obtain ⟨m9, meth, c, hn9, h1, h2, h3, h4, -, h5, h6, -⟩ := Cond.codeWith_spec (atoms_spec (ws := ws) h _ (by rw [hw]; exact List.mem_cons_self))
    cases hn.symm.trans hn9
    exact ⟨meth, c, h1, h2, h3, h4, h5, h6⟩
  · intro p e s m args below meth c s₁ B hml hP _
    have hh0 : s₁.heap = s.heap := by rw [B.state]; rfl
    obtain ⟨t, a1, o, b1, b2, b3⟩ := body p e s m args below meth c s₁ B hml hP s₁ hh0 (Stand.of_body B)
    exact ⟨t, o, a1, b1, b2, b3⟩
/-! ===== END ===== -/

/-! ===== BEGIN printed: names, fields, word lists, decode rows ===== -/
def RX0 : String := "ShellWatch$Blinks"
def TX0 : u_T := fun k => match k with
  | 0 => ("ShellWatch$Blinks", "first", "[I", true)
  | 1 => ("ShellWatch$Blinks", "last", "[I", true)
  | _ => ("ShellWatch$Blinks", "count", "I", false)
def tyX0 : Nat → FieldType := fun k => match k with
  | 0 => .array .int
  | 1 => .array .int
  | _ => .int
abbrev wsX00 : List Cond := u_ws RX0 TX0 3
theorem nmX0 : ∀ a, a < 3 → ∀ b, b < 3 → a ≠ b → (TX0 a).2.1 ≠ (TX0 b).2.1 := by decide +kernel
theorem tyX0_ok : ∀ k, k < 3 → parseFieldDescriptor (TX0 k).2.2.1 = some (tyX0 k) := by decide +kernel
abbrev cX0_init : ByteArray := prog_2_method_1_code
def yX0_init : MethodName := ⟨RX0, "<init>", "()V"⟩
abbrev cX0_clear : ByteArray := prog_2_method_2_code
def yX0_clear : MethodName := ⟨RX0, "clear", "()V"⟩
abbrev cX0_copyFrom : ByteArray := prog_2_method_3_code
def yX0_copyFrom : MethodName := ⟨RX0, "copyFrom", "(LShellWatch$Blinks;)V"⟩
abbrev cX0_isFull : ByteArray := prog_2_method_4_code
def yX0_isFull : MethodName := ⟨RX0, "isFull", "()Z"⟩
abbrev cX0_tell : ByteArray := prog_2_method_5_code
def yX0_tell : MethodName := ⟨RX0, "tell", "(II)V"⟩
abbrev cX0_has : ByteArray := prog_2_method_6_code
def yX0_has : MethodName := ⟨RX0, "has", "(I)Z"⟩
def RX1 : String := "ShellWatch$Formula"
def TX1 : u_T := fun k => match k with
  | 0 => ("ShellWatch$Formula", "parts", "[I", true)
  | 1 => ("ShellWatch$Formula", "length", "I", false)
  | _ => ("ShellWatch$Formula", "waiting", "[I", true)
def tyX1 : Nat → FieldType := fun k => match k with
  | 0 => .array .int
  | 1 => .int
  | _ => .array .int
abbrev wsX10 : List Cond := u_ws RX1 TX1 3
theorem nmX1 : ∀ a, a < 3 → ∀ b, b < 3 → a ≠ b → (TX1 a).2.1 ≠ (TX1 b).2.1 := by decide +kernel
theorem tyX1_ok : ∀ k, k < 3 → parseFieldDescriptor (TX1 k).2.2.1 = some (tyX1 k) := by decide +kernel
abbrev cX1_init : ByteArray := prog_3_method_1_code
def yX1_init : MethodName := ⟨RX1, "<init>", "()V"⟩
abbrev cX1_clear : ByteArray := prog_3_method_2_code
def yX1_clear : MethodName := ⟨RX1, "clear", "()V"⟩
abbrev cX1_reset : ByteArray := prog_3_method_3_code
def yX1_reset : MethodName := ⟨RX1, "reset", "()V"⟩
abbrev cX1_copyFrom : ByteArray := prog_3_method_4_code
def yX1_copyFrom : MethodName := ⟨RX1, "copyFrom", "(LShellWatch$Formula;)V"⟩
abbrev cX1_put : ByteArray := prog_3_method_5_code
def yX1_put : MethodName := ⟨RX1, "put", "(I)V"⟩
abbrev cX1_readSum : ByteArray := prog_3_method_6_code
def yX1_readSum : MethodName := ⟨RX1, "readSum", "(LShellWatch$Input;I)Z"⟩
abbrev cX1_readTerm : ByteArray := prog_3_method_7_code
def yX1_readTerm : MethodName := ⟨RX1, "readTerm", "(LShellWatch$Input;I)Z"⟩
abbrev cX1_readFactor : ByteArray := prog_3_method_8_code
def yX1_readFactor : MethodName := ⟨RX1, "readFactor", "(LShellWatch$Input;I)Z"⟩
abbrev cX1_variableOf : ByteArray := prog_3_method_9_code
def yX1_variableOf : MethodName := ⟨RX1, "variableOf", "(LShellWatch$Token;)I"⟩
def RX2 : String := "ShellWatch$Game"
def TX2 : u_T := fun k => match k with
  | 0 => ("ShellWatch$Game", "row", "LShellWatch$Row;", true)
  | 1 => ("ShellWatch$Game", "mind", "LShellWatch$Mind;", true)
  | 2 => ("ShellWatch$Game", "blinks", "LShellWatch$Blinks;", true)
  | 3 => ("ShellWatch$Game", "formula", "LShellWatch$Formula;", true)
  | 4 => ("ShellWatch$Game", "steps", "I", false)
  | 5 => ("ShellWatch$Game", "blinked", "I", false)
  | 6 => ("ShellWatch$Game", "purse", "I", false)
  | 7 => ("ShellWatch$Game", "won", "I", false)
  | _ => ("ShellWatch$Game", "lost", "I", false)
def tyX2 : Nat → FieldType := fun k => match k with
  | 0 => .object "ShellWatch$Row"
  | 1 => .object "ShellWatch$Mind"
  | 2 => .object "ShellWatch$Blinks"
  | 3 => .object "ShellWatch$Formula"
  | 4 => .int
  | 5 => .int
  | 6 => .int
  | 7 => .int
  | _ => .int
abbrev wsX20 : List Cond := u_ws RX2 TX2 9
theorem nmX2 : ∀ a, a < 9 → ∀ b, b < 9 → a ≠ b → (TX2 a).2.1 ≠ (TX2 b).2.1 := by decide +kernel
theorem tyX2_ok : ∀ k, k < 9 → parseFieldDescriptor (TX2 k).2.2.1 = some (tyX2 k) := by decide +kernel
abbrev cX2_init : ByteArray := prog_4_method_1_code
def yX2_init : MethodName := ⟨RX2, "<init>", "()V"⟩
abbrev cX2_reset : ByteArray := prog_4_method_2_code
def yX2_reset : MethodName := ⟨RX2, "reset", "(I)V"⟩
abbrev cX2_copyFrom : ByteArray := prog_4_method_3_code
def yX2_copyFrom : MethodName := ⟨RX2, "copyFrom", "(LShellWatch$Game;)V"⟩
abbrev cX2_number : ByteArray := prog_4_method_4_code
def yX2_number : MethodName := ⟨RX2, "number", "(I)I"⟩
abbrev cX2_isBlinkNext : ByteArray := prog_4_method_5_code
def yX2_isBlinkNext : MethodName := ⟨RX2, "isBlinkNext", "()Z"⟩
abbrev cX2_canSteal : ByteArray := prog_4_method_6_code
def yX2_canSteal : MethodName := ⟨RX2, "canSteal", "(I)Z"⟩
abbrev cX2_canPlant : ByteArray := prog_4_method_7_code
def yX2_canPlant : MethodName := ⟨RX2, "canPlant", "()Z"⟩
abbrev cX2_makeMove : ByteArray := prog_4_method_8_code
def yX2_makeMove : MethodName := ⟨RX2, "makeMove", "(ZII)Z"⟩
abbrev cX2_makeStill : ByteArray := prog_4_method_9_code
def yX2_makeStill : MethodName := ⟨RX2, "makeStill", "(I)Z"⟩
abbrev cX2_countStep : ByteArray := prog_4_method_10_code
def yX2_countStep : MethodName := ⟨RX2, "countStep", "(Z)V"⟩
abbrev cX2_lookUnder : ByteArray := prog_4_method_11_code
def yX2_lookUnder : MethodName := ⟨RX2, "lookUnder", "(I)Z"⟩
def RX3 : String := "ShellWatch$Input"
def TX3 : u_T := fun k => match k with
  | 0 => ("ShellWatch$Input", "bytes", "[B", true)
  | 1 => ("ShellWatch$Input", "length", "I", false)
  | 2 => ("ShellWatch$Input", "textLength", "I", false)
  | 3 => ("ShellWatch$Input", "tokens", "[LShellWatch$Token;", true)
  | 4 => ("ShellWatch$Input", "starts", "[I", true)
  | 5 => ("ShellWatch$Input", "numbers", "[I", true)
  | 6 => ("ShellWatch$Input", "size", "I", false)
  | 7 => ("ShellWatch$Input", "current", "I", false)
  | 8 => ("ShellWatch$Input", "error", "I", false)
  | _ => ("ShellWatch$Input", "errorAt", "I", false)
def tyX3 : Nat → FieldType := fun k => match k with
  | 0 => .array .byte
  | 1 => .int
  | 2 => .int
  | 3 => .array (.object "ShellWatch$Token")
  | 4 => .array .int
  | 5 => .array .int
  | 6 => .int
  | 7 => .int
  | 8 => .int
  | _ => .int
abbrev wsX30 : List Cond := u_ws RX3 TX3 10
theorem nmX3 : ∀ a, a < 10 → ∀ b, b < 10 → a ≠ b → (TX3 a).2.1 ≠ (TX3 b).2.1 := by decide +kernel
theorem tyX3_ok : ∀ k, k < 10 → parseFieldDescriptor (TX3 k).2.2.1 = some (tyX3 k) := by decide +kernel
abbrev cX3_init : ByteArray := prog_5_method_1_code
def yX3_init : MethodName := ⟨RX3, "<init>", "()V"⟩
abbrev cX3_hasRoom : ByteArray := prog_5_method_2_code
def yX3_hasRoom : MethodName := ⟨RX3, "hasRoom", "(I)Z"⟩
abbrev cX3_putWord : ByteArray := prog_5_method_3_code
def yX3_putWord : MethodName := ⟨RX3, "putWord", "(I)V"⟩
abbrev cX3_begin : ByteArray := prog_5_method_4_code
def yX3_begin : MethodName := ⟨RX3, "begin", "(I)V"⟩
abbrev cX3_kindAt : ByteArray := prog_5_method_5_code
def yX3_kindAt : MethodName := ⟨RX3, "kindAt", "(I)I"⟩
abbrev cX3_addToken : ByteArray := prog_5_method_6_code
def yX3_addToken : MethodName := ⟨RX3, "addToken", "(II)V"⟩
abbrev cX3_numberIn : ByteArray := prog_5_method_7_code
def yX3_numberIn : MethodName := ⟨RX3, "numberIn", "(II)I"⟩
abbrev cX3_tokenIn : ByteArray := prog_5_method_8_code
def yX3_tokenIn : MethodName := ⟨RX3, "tokenIn", "(II)LShellWatch$Token;"⟩
abbrev cX3_isSpelled : ByteArray := prog_5_method_9_code
def yX3_isSpelled : MethodName := ⟨RX3, "isSpelled", "(Ljava/lang/String;II)Z"⟩
abbrev cX3_put : ByteArray := prog_5_method_10_code
def yX3_put : MethodName := ⟨RX3, "put", "(LShellWatch$Token;II)V"⟩
abbrev cX3_token : ByteArray := prog_5_method_11_code
def yX3_token : MethodName := ⟨RX3, "token", "()LShellWatch$Token;"⟩
abbrev cX3_number : ByteArray := prog_5_method_12_code
def yX3_number : MethodName := ⟨RX3, "number", "()I"⟩
abbrev cX3_is : ByteArray := prog_5_method_13_code
def yX3_is : MethodName := ⟨RX3, "is", "(LShellWatch$Token;)Z"⟩
abbrev cX3_advance : ByteArray := prog_5_method_14_code
def yX3_advance : MethodName := ⟨RX3, "advance", "()V"⟩
abbrev cX3_take : ByteArray := prog_5_method_15_code
def yX3_take : MethodName := ⟨RX3, "take", "(LShellWatch$Token;)Z"⟩
abbrev cX3_takeNumber : ByteArray := prog_5_method_16_code
def yX3_takeNumber : MethodName := ⟨RX3, "takeNumber", "(II)I"⟩
abbrev cX3_fail : ByteArray := prog_5_method_17_code
def yX3_fail : MethodName := ⟨RX3, "fail", "(I)Z"⟩
def RX4 : String := "ShellWatch$Mind"
def TX4 : u_T := fun k => match k with
  | 0 => ("ShellWatch$Mind", "belief", "[I", true)
  | 1 => ("ShellWatch$Mind", "places", "I", false)
  | 2 => ("ShellWatch$Mind", "trust", "I", false)
  | 3 => ("ShellWatch$Mind", "calm", "I", false)
  | _ => ("ShellWatch$Mind", "sly", "I", false)
def tyX4 : Nat → FieldType := fun k => match k with
  | 0 => .array .int
  | 1 => .int
  | 2 => .int
  | 3 => .int
  | _ => .int
abbrev wsX40 : List Cond := u_ws RX4 TX4 5
theorem nmX4 : ∀ a, a < 5 → ∀ b, b < 5 → a ≠ b → (TX4 a).2.1 ≠ (TX4 b).2.1 := by decide +kernel
theorem tyX4_ok : ∀ k, k < 5 → parseFieldDescriptor (TX4 k).2.2.1 = some (tyX4 k) := by decide +kernel
abbrev cX4_init : ByteArray := prog_6_method_1_code
def yX4_init : MethodName := ⟨RX4, "<init>", "()V"⟩
abbrev cX4_reset : ByteArray := prog_6_method_2_code
def yX4_reset : MethodName := ⟨RX4, "reset", "(I)V"⟩
abbrev cX4_copyFrom : ByteArray := prog_6_method_3_code
def yX4_copyFrom : MethodName := ⟨RX4, "copyFrom", "(LShellWatch$Mind;)V"⟩
abbrev cX4_know : ByteArray := prog_6_method_4_code
def yX4_know : MethodName := ⟨RX4, "know", "(I)V"⟩
abbrev cX4_ruleOut : ByteArray := prog_6_method_5_code
def yX4_ruleOut : MethodName := ⟨RX4, "ruleOut", "(I)V"⟩
abbrev cX4_sum : ByteArray := prog_6_method_6_code
def yX4_sum : MethodName := ⟨RX4, "sum", "()I"⟩
abbrev cX4_greatest : ByteArray := prog_6_method_7_code
def yX4_greatest : MethodName := ⟨RX4, "greatest", "()I"⟩
abbrev cX4_countBelieved : ByteArray := prog_6_method_8_code
def yX4_countBelieved : MethodName := ⟨RX4, "countBelieved", "()I"⟩
abbrev cX4_likeliestShell : ByteArray := prog_6_method_9_code
def yX4_likeliestShell : MethodName := ⟨RX4, "likeliestShell", "()I"⟩
abbrev cX4_followMove : ByteArray := prog_6_method_12_code
def yX4_followMove : MethodName := ⟨RX4, "followMove", "(LShellWatch$Row;ZIIZ)V"⟩
abbrev cX4_followStill : ByteArray := prog_6_method_13_code
def yX4_followStill : MethodName := ⟨RX4, "followStill", "(LShellWatch$Row;Z)V"⟩
abbrev cX4_exchange : ByteArray := prog_6_method_14_code
def yX4_exchange : MethodName := ⟨RX4, "exchange", "(II)V"⟩
abbrev cX4_mix : ByteArray := prog_6_method_15_code
def yX4_mix : MethodName := ⟨RX4, "mix", "(II)V"⟩
abbrev cX4_wonder : ByteArray := prog_6_method_16_code
def yX4_wonder : MethodName := ⟨RX4, "wonder", "(LShellWatch$Row;)V"⟩
abbrev cX4_pairsOf : ByteArray := prog_6_method_17_code
def yX4_pairsOf : MethodName := ⟨RX4, "pairsOf", "(I)I"⟩
abbrev cX4_settle : ByteArray := prog_6_method_18_code
def yX4_settle : MethodName := ⟨RX4, "settle", "()V"⟩
abbrev cX4_halve : ByteArray := prog_6_method_19_code
def yX4_halve : MethodName := ⟨RX4, "halve", "()V"⟩
abbrev cX4_divideByCommonDivisor : ByteArray := prog_6_method_20_code
def yX4_divideByCommonDivisor : MethodName := ⟨RX4, "divideByCommonDivisor", "()V"⟩
abbrev cX4_commonDivisor : ByteArray := prog_6_method_21_code
def yX4_commonDivisor : MethodName := ⟨RX4, "commonDivisor", "(II)I"⟩
def RX5 : String := "ShellWatch$Row"
def TX5 : u_T := fun k => match k with
  | 0 => ("ShellWatch$Row", "shells", "I", false)
  | 1 => ("ShellWatch$Row", "ball", "I", false)
  | 2 => ("ShellWatch$Row", "scratches", "I", false)
  | 3 => ("ShellWatch$Row", "shellAt", "[I", true)
  | _ => ("ShellWatch$Row", "moves", "[I", true)
def tyX5 : Nat → FieldType := fun k => match k with
  | 0 => .int
  | 1 => .int
  | 2 => .int
  | 3 => .array .int
  | _ => .array .int
abbrev wsX50 : List Cond := u_ws RX5 TX5 5
theorem nmX5 : ∀ a, a < 5 → ∀ b, b < 5 → a ≠ b → (TX5 a).2.1 ≠ (TX5 b).2.1 := by decide +kernel
theorem tyX5_ok : ∀ k, k < 5 → parseFieldDescriptor (TX5 k).2.2.1 = some (tyX5 k) := by decide +kernel
abbrev cX5_init : ByteArray := prog_7_method_1_code
def yX5_init : MethodName := ⟨RX5, "<init>", "()V"⟩
abbrev cX5_reset : ByteArray := prog_7_method_2_code
def yX5_reset : MethodName := ⟨RX5, "reset", "(I)V"⟩
abbrev cX5_copyFrom : ByteArray := prog_7_method_3_code
def yX5_copyFrom : MethodName := ⟨RX5, "copyFrom", "(LShellWatch$Row;)V"⟩
abbrev cX5_hasPlace : ByteArray := prog_7_method_4_code
def yX5_hasPlace : MethodName := ⟨RX5, "hasPlace", "(I)Z"⟩
abbrev cX5_isScratched : ByteArray := prog_7_method_6_code
def yX5_isScratched : MethodName := ⟨RX5, "isScratched", "(I)Z"⟩
abbrev cX5_setScratched : ByteArray := prog_7_method_7_code
def yX5_setScratched : MethodName := ⟨RX5, "setScratched", "(IZ)V"⟩
abbrev cX5_exchange : ByteArray := prog_7_method_9_code
def yX5_exchange : MethodName := ⟨RX5, "exchange", "(II)V"⟩
abbrev cX5_placeBehind : ByteArray := prog_7_method_10_code
def yX5_placeBehind : MethodName := ⟨RX5, "placeBehind", "(III)I"⟩
def RX6 : String := "ShellWatch$Script"
def TX6 : u_T := fun k => match k with
  | 0 => ("ShellWatch$Script", "words", "[LShellWatch$Token;", true)
  | 1 => ("ShellWatch$Script", "firsts", "[I", true)
  | 2 => ("ShellWatch$Script", "seconds", "[I", true)
  | 3 => ("ShellWatch$Script", "ends", "[I", true)
  | 4 => ("ShellWatch$Script", "size", "I", false)
  | _ => ("ShellWatch$Script", "done", "I", false)
def tyX6 : Nat → FieldType := fun k => match k with
  | 0 => .array (.object "ShellWatch$Token")
  | 1 => .array .int
  | 2 => .array .int
  | 3 => .array .int
  | 4 => .int
  | _ => .int
abbrev wsX60 : List Cond := u_ws RX6 TX6 6
theorem nmX6 : ∀ a, a < 6 → ∀ b, b < 6 → a ≠ b → (TX6 a).2.1 ≠ (TX6 b).2.1 := by decide +kernel
theorem tyX6_ok : ∀ k, k < 6 → parseFieldDescriptor (TX6 k).2.2.1 = some (tyX6 k) := by decide +kernel
abbrev cX6_init : ByteArray := prog_8_method_1_code
def yX6_init : MethodName := ⟨RX6, "<init>", "()V"⟩
def RX7 : String := "ShellWatch$SetupReader"
def TX7 : u_T := fun k => match k with
  | _ => ("", "", "", false)
def tyX7 : Nat → FieldType := fun k => match k with
  | _ => .int
abbrev wsX70 : List Cond := u_ws RX7 TX7 0
theorem nmX7 : ∀ a, a < 0 → ∀ b, b < 0 → a ≠ b → (TX7 a).2.1 ≠ (TX7 b).2.1 := by decide +kernel
theorem tyX7_ok : ∀ k, k < 0 → parseFieldDescriptor (TX7 k).2.2.1 = some (tyX7 k) := by decide +kernel
abbrev cX7_read : ByteArray := prog_9_method_2_code
def yX7_read : MethodName := ⟨RX7, "read", "(LShellWatch$Input;LShellWatch$Game;)Z"⟩
abbrev cX7_bitOfSingle : ByteArray := prog_9_method_3_code
def yX7_bitOfSingle : MethodName := ⟨RX7, "bitOfSingle", "(LShellWatch$Token;)I"⟩
abbrev cX7_readStatement : ByteArray := prog_9_method_4_code
def yX7_readStatement : MethodName := ⟨RX7, "readStatement", "(LShellWatch$Input;LShellWatch$Game;)Z"⟩
abbrev cX7_readScratches : ByteArray := prog_9_method_5_code
def yX7_readScratches : MethodName := ⟨RX7, "readScratches", "(LShellWatch$Input;LShellWatch$Row;)Z"⟩
abbrev cX7_readScratch : ByteArray := prog_9_method_6_code
def yX7_readScratch : MethodName := ⟨RX7, "readScratch", "(LShellWatch$Input;LShellWatch$Row;)Z"⟩
abbrev cX7_readBlink : ByteArray := prog_9_method_7_code
def yX7_readBlink : MethodName := ⟨RX7, "readBlink", "(LShellWatch$Input;LShellWatch$Blinks;)Z"⟩
abbrev cX7_readSetting : ByteArray := prog_9_method_8_code
def yX7_readSetting : MethodName := ⟨RX7, "readSetting", "(LShellWatch$Input;LShellWatch$Game;)Z"⟩
abbrev cX7_greatestOf : ByteArray := prog_9_method_9_code
def yX7_greatestOf : MethodName := ⟨RX7, "greatestOf", "(LShellWatch$Token;LShellWatch$Game;)I"⟩
abbrev cX7_set : ByteArray := prog_9_method_10_code
def yX7_set : MethodName := ⟨RX7, "set", "(LShellWatch$Game;LShellWatch$Token;I)V"⟩
def RX8 : String := "ShellWatch$Token"
def TX8 : u_T := fun k => match k with
  | _ => ("", "", "", false)
def tyX8 : Nat → FieldType := fun k => match k with
  | _ => .int
abbrev wsX80 : List Cond := u_ws RX8 TX8 0
theorem nmX8 : ∀ a, a < 0 → ∀ b, b < 0 → a ≠ b → (TX8 a).2.1 ≠ (TX8 b).2.1 := by decide +kernel
theorem tyX8_ok : ∀ k, k < 0 → parseFieldDescriptor (TX8 k).2.2.1 = some (tyX8 k) := by decide +kernel
def RX9 : String := "ShellWatch$Trick"
def TX9 : u_T := fun k => match k with
  | 0 => ("ShellWatch$Trick", "trial", "LShellWatch$Mind;", true)
  | 1 => ("ShellWatch$Trick", "isSwap", "Z", false)
  | 2 => ("ShellWatch$Trick", "a", "I", false)
  | 3 => ("ShellWatch$Trick", "b", "I", false)
  | 4 => ("ShellWatch$Trick", "belief", "I", false)
  | _ => ("ShellWatch$Trick", "sum", "I", false)
def tyX9 : Nat → FieldType := fun k => match k with
  | 0 => .object "ShellWatch$Mind"
  | 1 => .boolean
  | 2 => .int
  | 3 => .int
  | 4 => .int
  | _ => .int
abbrev wsX90 : List Cond := u_ws RX9 TX9 6
theorem nmX9 : ∀ a, a < 6 → ∀ b, b < 6 → a ≠ b → (TX9 a).2.1 ≠ (TX9 b).2.1 := by decide +kernel
theorem tyX9_ok : ∀ k, k < 6 → parseFieldDescriptor (TX9 k).2.2.1 = some (tyX9 k) := by decide +kernel
abbrev cX9_init : ByteArray := prog_11_method_1_code
def yX9_init : MethodName := ⟨RX9, "<init>", "()V"⟩
def RX10 : String := "ShellWatch"
def TX10 : u_T := fun k => match k with
  | 0 => ("ShellWatch", "input", "LShellWatch$Input;", true)
  | 1 => ("ShellWatch", "script", "LShellWatch$Script;", true)
  | 2 => ("ShellWatch", "trick", "LShellWatch$Trick;", true)
  | 3 => ("ShellWatch", "draft", "LShellWatch$Game;", true)
  | 4 => ("ShellWatch", "games", "[LShellWatch$Game;", true)
  | 5 => ("ShellWatch", "present", "I", false)
  | _ => ("ShellWatch", "undoable", "I", false)
def tyX10 : Nat → FieldType := fun k => match k with
  | 0 => .object "ShellWatch$Input"
  | 1 => .object "ShellWatch$Script"
  | 2 => .object "ShellWatch$Trick"
  | 3 => .object "ShellWatch$Game"
  | 4 => .array (.object "ShellWatch$Game")
  | 5 => .int
  | _ => .int
abbrev wsX100 : List Cond := u_ws RX10 TX10 7
theorem nmX10 : ∀ a, a < 7 → ∀ b, b < 7 → a ≠ b → (TX10 a).2.1 ≠ (TX10 b).2.1 := by decide +kernel
theorem tyX10_ok : ∀ k, k < 7 → parseFieldDescriptor (TX10 k).2.2.1 = some (tyX10 k) := by decide +kernel
abbrev cX10_init : ByteArray := prog_1_method_1_code
def yX10_init : MethodName := ⟨RX10, "<init>", "()V"⟩
abbrev cX10_append : ByteArray := prog_1_method_2_code
def yX10_append : MethodName := ⟨RX10, "append", "(IIIII)I"⟩
abbrev cX10_load : ByteArray := prog_1_method_3_code
def yX10_load : MethodName := ⟨RX10, "load", "(I)I"⟩
abbrev cX10_state : ByteArray := prog_1_method_6_code
def yX10_state : MethodName := ⟨RX10, "state", "(I)I"⟩
abbrev cX10_belief : ByteArray := prog_1_method_8_code
def yX10_belief : MethodName := ⟨RX10, "belief", "(I)I"⟩
abbrev cX10_guess : ByteArray := prog_1_method_11_code
def yX10_guess : MethodName := ⟨RX10, "guess", "()I"⟩
abbrev cX10_blinks : ByteArray := prog_1_method_12_code
def yX10_blinks : MethodName := ⟨RX10, "blinks", "(I)Z"⟩
abbrev cX10_swap : ByteArray := prog_1_method_18_code
def yX10_swap : MethodName := ⟨RX10, "swap", "(II)Z"⟩
abbrev cX10_feint : ByteArray := prog_1_method_19_code
def yX10_feint : MethodName := ⟨RX10, "feint", "(II)Z"⟩
abbrev cX10_rest : ByteArray := prog_1_method_20_code
def yX10_rest : MethodName := ⟨RX10, "rest", "()Z"⟩
abbrev cX10_steal : ByteArray := prog_1_method_21_code
def yX10_steal : MethodName := ⟨RX10, "steal", "(I)I"⟩
abbrev cX10_plant : ByteArray := prog_1_method_22_code
def yX10_plant : MethodName := ⟨RX10, "plant", "(I)I"⟩
abbrev cX10_peek : ByteArray := prog_1_method_23_code
def yX10_peek : MethodName := ⟨RX10, "peek", "(I)Z"⟩
abbrev cX10_game : ByteArray := prog_1_method_30_code
def yX10_game : MethodName := ⟨RX10, "game", "()LShellWatch$Game;"⟩
abbrev cX10_change : ByteArray := prog_1_method_31_code
def yX10_change : MethodName := ⟨RX10, "change", "()LShellWatch$Game;"⟩
abbrev cX10_moveBall : ByteArray := prog_1_method_32_code
def yX10_moveBall : MethodName := ⟨RX10, "moveBall", "(I)I"⟩
abbrev cX10_requireLength : ByteArray := prog_1_method_33_code
def yX10_requireLength : MethodName := ⟨RX10, "requireLength", "(I)V"⟩
abbrev cX10_requirePlace : ByteArray := prog_1_method_34_code
def yX10_requirePlace : MethodName := ⟨RX10, "requirePlace", "(I)V"⟩
abbrev cX10_requireTwoPlaces : ByteArray := prog_1_method_35_code
def yX10_requireTwoPlaces : MethodName := ⟨RX10, "requireTwoPlaces", "(II)V"⟩
abbrev cX10_requirePlaceOrHand : ByteArray := prog_1_method_36_code
def yX10_requirePlaceOrHand : MethodName := ⟨RX10, "requirePlaceOrHand", "(I)V"⟩
abbrev cX10_requireWhat : ByteArray := prog_1_method_37_code
def yX10_requireWhat : MethodName := ⟨RX10, "requireWhat", "(II)V"⟩
def RX11 : String := "ShellWatchLaw$Sight"
def TX11 : u_T := fun k => match k with
  | 0 => ("ShellWatchLaw$Sight", "kind", "I", true)
  | 1 => ("ShellWatchLaw$Sight", "a", "I", true)
  | 2 => ("ShellWatchLaw$Sight", "b", "I", true)
  | 3 => ("ShellWatchLaw$Sight", "before", "I", true)
  | 4 => ("ShellWatchLaw$Sight", "after", "I", true)
  | _ => ("ShellWatchLaw$Sight", "isBlink", "Z", true)
def tyX11 : Nat → FieldType := fun k => match k with
  | 0 => .int
  | 1 => .int
  | 2 => .int
  | 3 => .int
  | 4 => .int
  | _ => .boolean
abbrev wsX110 : List Cond := u_ws RX11 TX11 6
theorem nmX11 : ∀ a, a < 6 → ∀ b, b < 6 → a ≠ b → (TX11 a).2.1 ≠ (TX11 b).2.1 := by decide +kernel
theorem tyX11_ok : ∀ k, k < 6 → parseFieldDescriptor (TX11 k).2.2.1 = some (tyX11 k) := by decide +kernel
abbrev cX11_init : ByteArray := prog_13_method_1_code
def yX11_init : MethodName := ⟨RX11, "<init>", "(IIIIIZ)V"⟩
def RX12 : String := "ShellWatchLaw$Story"
def TX12 : u_T := fun k => match k with
  | 0 => ("ShellWatchLaw$Story", "seen", "Ljava/util/ArrayList;", true)
  | 1 => ("ShellWatchLaw$Story", "n", "I", true)
  | 2 => ("ShellWatchLaw$Story", "trust", "I", true)
  | 3 => ("ShellWatchLaw$Story", "calm", "I", true)
  | 4 => ("ShellWatchLaw$Story", "sly", "I", true)
  | _ => ("ShellWatchLaw$Story", "first", "I", true)
def tyX12 : Nat → FieldType := fun k => match k with
  | 0 => .object "java/util/ArrayList"
  | 1 => .int
  | 2 => .int
  | 3 => .int
  | 4 => .int
  | _ => .int
abbrev wsX120 : List Cond := u_ws RX12 TX12 6
theorem nmX12 : ∀ a, a < 6 → ∀ b, b < 6 → a ≠ b → (TX12 a).2.1 ≠ (TX12 b).2.1 := by decide +kernel
theorem tyX12_ok : ∀ k, k < 6 → parseFieldDescriptor (TX12 k).2.2.1 = some (tyX12 k) := by decide +kernel
abbrev cX12_init : ByteArray := prog_14_method_1_code
def yX12_init : MethodName := ⟨RX12, "<init>", "(IIIII)V"⟩
abbrev cX12_by : ByteArray := prog_14_method_2_code
def yX12_by : MethodName := ⟨RX12, "by", "(III)I"⟩
abbrev cX12_moved : ByteArray := prog_14_method_3_code
def yX12_moved : MethodName := ⟨RX12, "moved", "(III)I"⟩
abbrev cX12_weight : ByteArray := prog_14_method_4_code
def yX12_weight : MethodName := ⟨RX12, "weight", "(II)J"⟩
abbrev cX12_open : ByteArray := prog_14_method_5_code
def yX12_open : MethodName := ⟨RX12, "open", "(LShellWatchLaw$Sight;II)J"⟩
abbrev cX12_blind : ByteArray := prog_14_method_6_code
def yX12_blind : MethodName := ⟨RX12, "blind", "(LShellWatchLaw$Sight;II)J"⟩
abbrev cX12_isLike : ByteArray := prog_14_method_7_code
def yX12_isLike : MethodName := ⟨RX12, "isLike", "(LShellWatch;)Z"⟩
def RX13 : String := "ShellWatchModel"
def TX13 : u_T := fun k => match k with
  | _ => ("", "", "", false)
def tyX13 : Nat → FieldType := fun k => match k with
  | _ => .int
abbrev wsX130 : List Cond := u_ws RX13 TX13 0
theorem nmX13 : ∀ a, a < 0 → ∀ b, b < 0 → a ≠ b → (TX13 a).2.1 ≠ (TX13 b).2.1 := by decide +kernel
theorem tyX13_ok : ∀ k, k < 0 → parseFieldDescriptor (TX13 k).2.2.1 = some (tyX13 k) := by decide +kernel
def RJx145de : String := "java/io/Serializable"
def TJx145de : u_T := fun k => match k with
  | _ => ("", "", "", false)
def tyJx145de : Nat → FieldType := fun k => match k with
  | _ => .int
abbrev wsJx145de0 : List Cond := u_ws RJx145de TJx145de 0
theorem nmJx145de : ∀ a, a < 0 → ∀ b, b < 0 → a ≠ b → (TJx145de a).2.1 ≠ (TJx145de b).2.1 := by decide +kernel
theorem tyJx145de_ok : ∀ k, k < 0 → parseFieldDescriptor (TJx145de k).2.2.1 = some (tyJx145de k) := by decide +kernel
def RJ5 : String := "java/lang/AbstractStringBuilder"
def TJ5 : u_T := fun k => match k with
  | _ => ("", "", "", false)
def tyJ5 : Nat → FieldType := fun k => match k with
  | _ => .int
abbrev wsJ50 : List Cond := u_ws RJ5 TJ5 0
theorem nmJ5 : ∀ a, a < 0 → ∀ b, b < 0 → a ≠ b → (TJ5 a).2.1 ≠ (TJ5 b).2.1 := by decide +kernel
theorem tyJ5_ok : ∀ k, k < 0 → parseFieldDescriptor (TJ5 k).2.2.1 = some (tyJ5 k) := by decide +kernel
abbrev cJ5_init_d00df : ByteArray := prog_17_method_2_code
def yJ5_init_d00df : MethodName := ⟨RJ5, "<init>", "(I)V"⟩
abbrev cJ5_init_a7421 : ByteArray := prog_17_method_3_code
def yJ5_init_a7421 : MethodName := ⟨RJ5, "<init>", "(Ljava/lang/String;)V"⟩
abbrev cJ5_length_8abf5 : ByteArray := prog_17_method_6_code
def yJ5_length_8abf5 : MethodName := ⟨RJ5, "length", "()I"⟩
abbrev cJ5_ensureCapacityInternal_d00df : ByteArray := prog_17_method_9_code
def yJ5_ensureCapacityInternal_d00df : MethodName := ⟨RJ5, "ensureCapacityInternal", "(I)V"⟩
abbrev cJ5_newCapacity_0f7a4 : ByteArray := prog_17_method_10_code
def yJ5_newCapacity_0f7a4 : MethodName := ⟨RJ5, "newCapacity", "(I)I"⟩
abbrev cJ5_inflate_da8c8 : ByteArray := prog_17_method_11_code
def yJ5_inflate_da8c8 : MethodName := ⟨RJ5, "inflate", "()V"⟩
abbrev cJ5_append_cf1ce : ByteArray := prog_17_method_22_code
def yJ5_append_cf1ce : MethodName := ⟨RJ5, "append", "(Ljava/lang/String;)Ljava/lang/AbstractStringBuilder;"⟩
abbrev cJ5_appendNull_278bc : ByteArray := prog_17_method_26_code
def yJ5_appendNull_278bc : MethodName := ⟨RJ5, "appendNull", "()Ljava/lang/AbstractStringBuilder;"⟩
abbrev cJ5_append_3fe6f : ByteArray := prog_17_method_31_code
def yJ5_append_3fe6f : MethodName := ⟨RJ5, "append", "(C)Ljava/lang/AbstractStringBuilder;"⟩
abbrev cJ5_append_c97b9 : ByteArray := prog_17_method_32_code
def yJ5_append_c97b9 : MethodName := ⟨RJ5, "append", "(I)Ljava/lang/AbstractStringBuilder;"⟩
abbrev cJ5_getValue_6d5f1 : ByteArray := prog_17_method_64_code
def yJ5_getValue_6d5f1 : MethodName := ⟨RJ5, "getValue", "()[B"⟩
abbrev cJ5_isLatin1_aae02 : ByteArray := prog_17_method_68_code
def yJ5_isLatin1_aae02 : MethodName := ⟨RJ5, "isLatin1", "()Z"⟩
abbrev cJ5_inflateIfNeededFor_a7421 : ByteArray := prog_17_method_71_code
def yJ5_inflateIfNeededFor_a7421 : MethodName := ⟨RJ5, "inflateIfNeededFor", "(Ljava/lang/String;)V"⟩
abbrev cJ5_putStringAt_47b60 : ByteArray := prog_17_method_73_code
def yJ5_putStringAt_47b60 : MethodName := ⟨RJ5, "putStringAt", "(ILjava/lang/String;)V"⟩
def RJx2cfe8 : String := "java/lang/Appendable"
def TJx2cfe8 : u_T := fun k => match k with
  | _ => ("", "", "", false)
def tyJx2cfe8 : Nat → FieldType := fun k => match k with
  | _ => .int
abbrev wsJx2cfe80 : List Cond := u_ws RJx2cfe8 TJx2cfe8 0
theorem nmJx2cfe8 : ∀ a, a < 0 → ∀ b, b < 0 → a ≠ b → (TJx2cfe8 a).2.1 ≠ (TJx2cfe8 b).2.1 := by decide +kernel
theorem tyJx2cfe8_ok : ∀ k, k < 0 → parseFieldDescriptor (TJx2cfe8 k).2.2.1 = some (tyJx2cfe8 k) := by decide +kernel
def RJx9f9b0 : String := "java/lang/CharSequence"
def TJx9f9b0 : u_T := fun k => match k with
  | _ => ("", "", "", false)
def tyJx9f9b0 : Nat → FieldType := fun k => match k with
  | _ => .int
abbrev wsJx9f9b00 : List Cond := u_ws RJx9f9b0 TJx9f9b0 0
theorem nmJx9f9b0 : ∀ a, a < 0 → ∀ b, b < 0 → a ≠ b → (TJx9f9b0 a).2.1 ≠ (TJx9f9b0 b).2.1 := by decide +kernel
theorem tyJx9f9b0_ok : ∀ k, k < 0 → parseFieldDescriptor (TJx9f9b0 k).2.2.1 = some (tyJx9f9b0 k) := by decide +kernel
def RJx8e188 : String := "java/lang/Cloneable"
def TJx8e188 : u_T := fun k => match k with
  | _ => ("", "", "", false)
def tyJx8e188 : Nat → FieldType := fun k => match k with
  | _ => .int
abbrev wsJx8e1880 : List Cond := u_ws RJx8e188 TJx8e188 0
theorem nmJx8e188 : ∀ a, a < 0 → ∀ b, b < 0 → a ≠ b → (TJx8e188 a).2.1 ≠ (TJx8e188 b).2.1 := by decide +kernel
theorem tyJx8e188_ok : ∀ k, k < 0 → parseFieldDescriptor (TJx8e188 k).2.2.1 = some (tyJx8e188 k) := by decide +kernel
def RJxb160c : String := "java/lang/Comparable"
def TJxb160c : u_T := fun k => match k with
  | _ => ("", "", "", false)
def tyJxb160c : Nat → FieldType := fun k => match k with
  | _ => .int
abbrev wsJxb160c0 : List Cond := u_ws RJxb160c TJxb160c 0
theorem nmJxb160c : ∀ a, a < 0 → ∀ b, b < 0 → a ≠ b → (TJxb160c a).2.1 ≠ (TJxb160c b).2.1 := by decide +kernel
theorem tyJxb160c_ok : ∀ k, k < 0 → parseFieldDescriptor (TJxb160c k).2.2.1 = some (tyJxb160c k) := by decide +kernel
def RJx29ce0 : String := "java/lang/Enum"
def TJx29ce0 : u_T := fun k => match k with
  | _ => ("", "", "", false)
def tyJx29ce0 : Nat → FieldType := fun k => match k with
  | _ => .int
abbrev wsJx29ce00 : List Cond := u_ws RJx29ce0 TJx29ce0 0
theorem nmJx29ce0 : ∀ a, a < 0 → ∀ b, b < 0 → a ≠ b → (TJx29ce0 a).2.1 ≠ (TJx29ce0 b).2.1 := by decide +kernel
theorem tyJx29ce0_ok : ∀ k, k < 0 → parseFieldDescriptor (TJx29ce0 k).2.2.1 = some (tyJx29ce0 k) := by decide +kernel
def RJ6 : String := "java/lang/Integer"
def TJ6 : u_T := fun k => match k with
  | _ => ("", "", "", false)
def tyJ6 : Nat → FieldType := fun k => match k with
  | _ => .int
abbrev wsJ60 : List Cond := u_ws RJ6 TJ6 0
theorem nmJ6 : ∀ a, a < 0 → ∀ b, b < 0 → a ≠ b → (TJ6 a).2.1 ≠ (TJ6 b).2.1 := by decide +kernel
theorem tyJ6_ok : ∀ k, k < 0 → parseFieldDescriptor (TJ6 k).2.2.1 = some (tyJ6 k) := by decide +kernel
abbrev cJ6_getChars_ba4f3 : ByteArray := prog_27_method_12_code
def yJ6_getChars_ba4f3 : MethodName := ⟨RJ6, "getChars", "(II[B)I"⟩
abbrev cJ6_stringSize_0f7a4 : ByteArray := prog_27_method_13_code
def yJ6_stringSize_0f7a4 : MethodName := ⟨RJ6, "stringSize", "(I)I"⟩
def RJxab1ab : String := "java/lang/Iterable"
def TJxab1ab : u_T := fun k => match k with
  | _ => ("", "", "", false)
def tyJxab1ab : Nat → FieldType := fun k => match k with
  | _ => .int
abbrev wsJxab1ab0 : List Cond := u_ws RJxab1ab TJxab1ab 0
theorem nmJxab1ab : ∀ a, a < 0 → ∀ b, b < 0 → a ≠ b → (TJxab1ab a).2.1 ≠ (TJxab1ab b).2.1 := by decide +kernel
theorem tyJxab1ab_ok : ∀ k, k < 0 → parseFieldDescriptor (TJxab1ab k).2.2.1 = some (tyJxab1ab k) := by decide +kernel
def RJ9 : String := "java/lang/Math"
def TJ9 : u_T := fun k => match k with
  | _ => ("", "", "", false)
def tyJ9 : Nat → FieldType := fun k => match k with
  | _ => .int
abbrev wsJ90 : List Cond := u_ws RJ9 TJ9 0
theorem nmJ9 : ∀ a, a < 0 → ∀ b, b < 0 → a ≠ b → (TJ9 a).2.1 ≠ (TJ9 b).2.1 := by decide +kernel
theorem tyJ9_ok : ∀ k, k < 0 → parseFieldDescriptor (TJ9 k).2.2.1 = some (tyJ9 k) := by decide +kernel
abbrev cJ9_max_7cf53 : ByteArray := prog_29_method_65_code
def yJ9_max_7cf53 : MethodName := ⟨RJ9, "max", "(II)I"⟩
abbrev cJ9_min_7cf53 : ByteArray := prog_29_method_69_code
def yJ9_min_7cf53 : MethodName := ⟨RJ9, "min", "(II)I"⟩
def RJxd2413 : String := "java/lang/Number"
def TJxd2413 : u_T := fun k => match k with
  | _ => ("", "", "", false)
def tyJxd2413 : Nat → FieldType := fun k => match k with
  | _ => .int
abbrev wsJxd24130 : List Cond := u_ws RJxd2413 TJxd2413 0
theorem nmJxd2413 : ∀ a, a < 0 → ∀ b, b < 0 → a ≠ b → (TJxd2413 a).2.1 ≠ (TJxd2413 b).2.1 := by decide +kernel
theorem tyJxd2413_ok : ∀ k, k < 0 → parseFieldDescriptor (TJxd2413 k).2.2.1 = some (tyJxd2413 k) := by decide +kernel
def RJ0 : String := "java/lang/String"
def TJ0 : u_T := fun k => match k with
  | 0 => ("java/lang/String", "value", "[B", true)
  | 1 => ("java/lang/String", "coder", "B", true)
  | 2 => ("java/lang/String", "hash", "I", false)
  | _ => ("java/lang/String", "hashIsZero", "Z", false)
def tyJ0 : Nat → FieldType := fun k => match k with
  | 0 => .array .byte
  | 1 => .byte
  | 2 => .int
  | _ => .boolean
abbrev wsJ00 : List Cond := u_ws RJ0 TJ0 4
theorem nmJ0 : ∀ a, a < 4 → ∀ b, b < 4 → a ≠ b → (TJ0 a).2.1 ≠ (TJ0 b).2.1 := by decide +kernel
theorem tyJ0_ok : ∀ k, k < 4 → parseFieldDescriptor (TJ0 k).2.2.1 = some (tyJ0 k) := by decide +kernel
abbrev cJ0_init_81219 : ByteArray := prog_32_method_53_code
def yJ0_init_81219 : MethodName := ⟨RJ0, "<init>", "(Ljava/lang/StringBuilder;)V"⟩
abbrev cJ0_length_8abf5 : ByteArray := prog_32_method_54_code
def yJ0_length_8abf5 : MethodName := ⟨RJ0, "length", "()I"⟩
abbrev cJ0_charAt_5068e : ByteArray := prog_32_method_56_code
def yJ0_charAt_5068e : MethodName := ⟨RJ0, "charAt", "(I)C"⟩
abbrev cJ0_getBytes_840e7 : ByteArray := prog_32_method_147_code
def yJ0_getBytes_840e7 : MethodName := ⟨RJ0, "getBytes", "([BIB)V"⟩
abbrev cJ0_init_db425 : ByteArray := prog_32_method_150_code
def yJ0_init_db425 : MethodName := ⟨RJ0, "<init>", "(Ljava/lang/AbstractStringBuilder;Ljava/lang/Void;)V"⟩
abbrev cJ0_coder_7d493 : ByteArray := prog_32_method_152_code
def yJ0_coder_7d493 : MethodName := ⟨RJ0, "coder", "()B"⟩
abbrev cJ0_isLatin1_aae02 : ByteArray := prog_32_method_154_code
def yJ0_isLatin1_aae02 : MethodName := ⟨RJ0, "isLatin1", "()Z"⟩
abbrev cJ0_checkIndex_df160 : ByteArray := prog_32_method_155_code
def yJ0_checkIndex_df160 : MethodName := ⟨RJ0, "checkIndex", "(II)V"⟩
abbrev cJ0_checkBoundsOffCount_cabcc : ByteArray := prog_32_method_157_code
def yJ0_checkBoundsOffCount_cabcc : MethodName := ⟨RJ0, "checkBoundsOffCount", "(III)I"⟩
abbrev cJ0_checkBoundsBeginEnd_23922 : ByteArray := prog_32_method_158_code
def yJ0_checkBoundsBeginEnd_23922 : MethodName := ⟨RJ0, "checkBoundsBeginEnd", "(III)V"⟩
def RJ4 : String := "java/lang/StringBuilder"
def TJ4 : u_T := fun k => match k with
  | 0 => ("java/lang/AbstractStringBuilder", "value", "[B", false)
  | 1 => ("java/lang/AbstractStringBuilder", "coder", "B", false)
  | 2 => ("java/lang/AbstractStringBuilder", "maybeLatin1", "Z", false)
  | _ => ("java/lang/AbstractStringBuilder", "count", "I", false)
def tyJ4 : Nat → FieldType := fun k => match k with
  | 0 => .array .byte
  | 1 => .byte
  | 2 => .boolean
  | _ => .int
abbrev wsJ40 : List Cond := u_ws RJ4 TJ4 4
theorem nmJ4 : ∀ a, a < 4 → ∀ b, b < 4 → a ≠ b → (TJ4 a).2.1 ≠ (TJ4 b).2.1 := by decide +kernel
theorem tyJ4_ok : ∀ k, k < 4 → parseFieldDescriptor (TJ4 k).2.2.1 = some (tyJ4 k) := by decide +kernel
abbrev cJ4_init_da8c8 : ByteArray := prog_33_method_1_code
def yJ4_init_da8c8 : MethodName := ⟨RJ4, "<init>", "()V"⟩
abbrev cJ4_init_a7421 : ByteArray := prog_33_method_3_code
def yJ4_init_a7421 : MethodName := ⟨RJ4, "<init>", "(Ljava/lang/String;)V"⟩
abbrev cJ4_append_15ec4 : ByteArray := prog_33_method_7_code
def yJ4_append_15ec4 : MethodName := ⟨RJ4, "append", "(Ljava/lang/String;)Ljava/lang/StringBuilder;"⟩
abbrev cJ4_append_cf468 : ByteArray := prog_33_method_14_code
def yJ4_append_cf468 : MethodName := ⟨RJ4, "append", "(C)Ljava/lang/StringBuilder;"⟩
abbrev cJ4_append_bf812 : ByteArray := prog_33_method_15_code
def yJ4_append_bf812 : MethodName := ⟨RJ4, "append", "(I)Ljava/lang/StringBuilder;"⟩
abbrev cJ4_toString_0e30d : ByteArray := prog_33_method_42_code
def yJ4_toString_0e30d : MethodName := ⟨RJ4, "toString", "()Ljava/lang/String;"⟩
abbrev cJ4_append_cf1ce : ByteArray := prog_33_method_80_code
def yJ4_append_cf1ce : MethodName := ⟨RJ4, "append", "(Ljava/lang/String;)Ljava/lang/AbstractStringBuilder;"⟩
abbrev cJ4_length_8abf5 : ByteArray := prog_33_method_93_code
def yJ4_length_8abf5 : MethodName := ⟨RJ4, "length", "()I"⟩
def RJ1 : String := "java/lang/StringLatin1"
def TJ1 : u_T := fun k => match k with
  | _ => ("", "", "", false)
def tyJ1 : Nat → FieldType := fun k => match k with
  | _ => .int
abbrev wsJ10 : List Cond := u_ws RJ1 TJ1 0
theorem nmJ1 : ∀ a, a < 0 → ∀ b, b < 0 → a ≠ b → (TJ1 a).2.1 ≠ (TJ1 b).2.1 := by decide +kernel
theorem tyJ1_ok : ∀ k, k < 0 → parseFieldDescriptor (TJ1 k).2.2.1 = some (tyJ1 k) := by decide +kernel
abbrev cJ1_charAt_3b067 : ByteArray := prog_34_method_2_code
def yJ1_charAt_3b067 : MethodName := ⟨RJ1, "charAt", "([BI)C"⟩
abbrev cJ1_canEncode_fc78d : ByteArray := prog_34_method_3_code
def yJ1_canEncode_fc78d : MethodName := ⟨RJ1, "canEncode", "(C)Z"⟩
abbrev cJ1_inflate_0e8fd : ByteArray := prog_34_method_50_code
def yJ1_inflate_0e8fd : MethodName := ⟨RJ1, "inflate", "([BI[BII)V"⟩
def RJ2 : String := "java/lang/StringUTF16"
def TJ2 : u_T := fun k => match k with
  | _ => ("", "", "", false)
def tyJ2 : Nat → FieldType := fun k => match k with
  | _ => .int
abbrev wsJ20 : List Cond := u_ws RJ2 TJ2 0
theorem nmJ2 : ∀ a, a < 0 → ∀ b, b < 0 → a ≠ b → (TJ2 a).2.1 ≠ (TJ2 b).2.1 := by decide +kernel
theorem tyJ2_ok : ∀ k, k < 0 → parseFieldDescriptor (TJ2 k).2.2.1 = some (tyJ2 k) := by decide +kernel
abbrev cJ2_newBytesFor_77867 : ByteArray := prog_35_method_2_code
def yJ2_newBytesFor_77867 : MethodName := ⟨RJ2, "newBytesFor", "(I)[B"⟩
abbrev cJ2_newBytesLength_0f7a4 : ByteArray := prog_35_method_3_code
def yJ2_newBytesLength_0f7a4 : MethodName := ⟨RJ2, "newBytesLength", "(I)I"⟩
abbrev cJ2_putChar_b72d1 : ByteArray := prog_35_method_4_code
def yJ2_putChar_b72d1 : MethodName := ⟨RJ2, "putChar", "([BII)V"⟩
abbrev cJ2_getChar_3b067 : ByteArray := prog_35_method_5_code
def yJ2_getChar_3b067 : MethodName := ⟨RJ2, "getChar", "([BI)C"⟩
abbrev cJ2_length_9d52b : ByteArray := prog_35_method_6_code
def yJ2_length_9d52b : MethodName := ⟨RJ2, "length", "([B)I"⟩
abbrev cJ2_coderFromArrayLen_85cad : ByteArray := prog_35_method_15_code
def yJ2_coderFromArrayLen_85cad : MethodName := ⟨RJ2, "coderFromArrayLen", "([BI)B"⟩
abbrev cJ2_compress_39247 : ByteArray := prog_35_method_17_code
def yJ2_compress_39247 : MethodName := ⟨RJ2, "compress", "([BII)[B"⟩
abbrev cJ2_compress_5af95 : ByteArray := prog_35_method_22_code
def yJ2_compress_5af95 : MethodName := ⟨RJ2, "compress", "([BI[BII)I"⟩
abbrev cJ2_putCharSB_b72d1 : ByteArray := prog_35_method_71_code
def yJ2_putCharSB_b72d1 : MethodName := ⟨RJ2, "putCharSB", "([BII)V"⟩
abbrev cJ2_getChars_46870 : ByteArray := prog_35_method_77_code
def yJ2_getChars_46870 : MethodName := ⟨RJ2, "getChars", "(III[B)I"⟩
abbrev cJ2_putCharsAt_cd4e5 : ByteArray := prog_35_method_81_code
def yJ2_putCharsAt_cd4e5 : MethodName := ⟨RJ2, "putCharsAt", "([BICCCC)I"⟩
abbrev cJ2_charAt_3b067 : ByteArray := prog_35_method_83_code
def yJ2_charAt_3b067 : MethodName := ⟨RJ2, "charAt", "([BI)C"⟩
abbrev cJ2_inflate_0e8fd : ByteArray := prog_35_method_86_code
def yJ2_inflate_0e8fd : MethodName := ⟨RJ2, "inflate", "([BI[BII)V"⟩
abbrev cJ2_getChars_ba4f3 : ByteArray := prog_35_method_89_code
def yJ2_getChars_ba4f3 : MethodName := ⟨RJ2, "getChars", "(II[B)I"⟩
abbrev cJ2_checkIndex_2214a : ByteArray := prog_35_method_91_code
def yJ2_checkIndex_2214a : MethodName := ⟨RJ2, "checkIndex", "(I[B)V"⟩
abbrev cJ2_checkBoundsBeginEnd_d044e : ByteArray := prog_35_method_93_code
def yJ2_checkBoundsBeginEnd_d044e : MethodName := ⟨RJ2, "checkBoundsBeginEnd", "(II[B)V"⟩
abbrev cJ2_checkBoundsOffCount_d044e : ByteArray := prog_35_method_94_code
def yJ2_checkBoundsOffCount_d044e : MethodName := ⟨RJ2, "checkBoundsOffCount", "(II[B)V"⟩
def RJ10 : String := "java/lang/System"
def TJ10 : u_T := fun k => match k with
  | _ => ("", "", "", false)
def tyJ10 : Nat → FieldType := fun k => match k with
  | _ => .int
abbrev wsJ100 : List Cond := u_ws RJ10 TJ10 0
theorem nmJ10 : ∀ a, a < 0 → ∀ b, b < 0 → a ≠ b → (TJ10 a).2.1 ≠ (TJ10 b).2.1 := by decide +kernel
theorem tyJ10_ok : ∀ k, k < 0 → parseFieldDescriptor (TJ10 k).2.2.1 = some (tyJ10 k) := by decide +kernel
def RJxfd54e : String := "java/lang/constant/Constable"
def TJxfd54e : u_T := fun k => match k with
  | _ => ("", "", "", false)
def tyJxfd54e : Nat → FieldType := fun k => match k with
  | _ => .int
abbrev wsJxfd54e0 : List Cond := u_ws RJxfd54e TJxfd54e 0
theorem nmJxfd54e : ∀ a, a < 0 → ∀ b, b < 0 → a ≠ b → (TJxfd54e a).2.1 ≠ (TJxfd54e b).2.1 := by decide +kernel
theorem tyJxfd54e_ok : ∀ k, k < 0 → parseFieldDescriptor (TJxfd54e k).2.2.1 = some (tyJxfd54e k) := by decide +kernel
def RJx3cf43 : String := "java/lang/constant/ConstantDesc"
def TJx3cf43 : u_T := fun k => match k with
  | _ => ("", "", "", false)
def tyJx3cf43 : Nat → FieldType := fun k => match k with
  | _ => .int
abbrev wsJx3cf430 : List Cond := u_ws RJx3cf43 TJx3cf43 0
theorem nmJx3cf43 : ∀ a, a < 0 → ∀ b, b < 0 → a ≠ b → (TJx3cf43 a).2.1 ≠ (TJx3cf43 b).2.1 := by decide +kernel
theorem tyJx3cf43_ok : ∀ k, k < 0 → parseFieldDescriptor (TJx3cf43 k).2.2.1 = some (tyJx3cf43 k) := by decide +kernel
def RJxa1e45 : String := "java/util/AbstractCollection"
def TJxa1e45 : u_T := fun k => match k with
  | _ => ("", "", "", false)
def tyJxa1e45 : Nat → FieldType := fun k => match k with
  | _ => .int
abbrev wsJxa1e450 : List Cond := u_ws RJxa1e45 TJxa1e45 0
theorem nmJxa1e45 : ∀ a, a < 0 → ∀ b, b < 0 → a ≠ b → (TJxa1e45 a).2.1 ≠ (TJxa1e45 b).2.1 := by decide +kernel
theorem tyJxa1e45_ok : ∀ k, k < 0 → parseFieldDescriptor (TJxa1e45 k).2.2.1 = some (tyJxa1e45 k) := by decide +kernel
abbrev cJxa1e45_init_da8c8 : ByteArray := prog_40_method_1_code
def yJxa1e45_init_da8c8 : MethodName := ⟨RJxa1e45, "<init>", "()V"⟩
def RJxc12de : String := "java/util/AbstractList"
def TJxc12de : u_T := fun k => match k with
  | _ => ("", "", "", false)
def tyJxc12de : Nat → FieldType := fun k => match k with
  | _ => .int
abbrev wsJxc12de0 : List Cond := u_ws RJxc12de TJxc12de 0
theorem nmJxc12de : ∀ a, a < 0 → ∀ b, b < 0 → a ≠ b → (TJxc12de a).2.1 ≠ (TJxc12de b).2.1 := by decide +kernel
theorem tyJxc12de_ok : ∀ k, k < 0 → parseFieldDescriptor (TJxc12de k).2.2.1 = some (tyJxc12de k) := by decide +kernel
abbrev cJxc12de_init_da8c8 : ByteArray := prog_41_method_1_code
def yJxc12de_init_da8c8 : MethodName := ⟨RJxc12de, "<init>", "()V"⟩
def RJx4a65c : String := "java/util/ArrayList"
def TJx4a65c : u_T := fun k => match k with
  | 0 => ("java/util/AbstractList", "modCount", "I", false)
  | 1 => ("java/util/ArrayList", "elementData", "[Ljava/lang/Object;", false)
  | _ => ("java/util/ArrayList", "size", "I", false)
def tyJx4a65c : Nat → FieldType := fun k => match k with
  | 0 => .int
  | 1 => .array (.object "java/lang/Object")
  | _ => .int
abbrev wsJx4a65c0 : List Cond := u_ws RJx4a65c TJx4a65c 3
theorem nmJx4a65c : ∀ a, a < 3 → ∀ b, b < 3 → a ≠ b → (TJx4a65c a).2.1 ≠ (TJx4a65c b).2.1 := by decide +kernel
theorem tyJx4a65c_ok : ∀ k, k < 3 → parseFieldDescriptor (TJx4a65c k).2.2.1 = some (tyJx4a65c k) := by decide +kernel
abbrev cJx4a65c_init_da8c8 : ByteArray := prog_42_method_2_code
def yJx4a65c_init_da8c8 : MethodName := ⟨RJx4a65c, "<init>", "()V"⟩
abbrev cJx4a65c_grow_92f84 : ByteArray := prog_42_method_6_code
def yJx4a65c_grow_92f84 : MethodName := ⟨RJx4a65c, "grow", "(I)[Ljava/lang/Object;"⟩
abbrev cJx4a65c_grow_d5877 : ByteArray := prog_42_method_7_code
def yJx4a65c_grow_d5877 : MethodName := ⟨RJx4a65c, "grow", "()[Ljava/lang/Object;"⟩
abbrev cJx4a65c_size_8abf5 : ByteArray := prog_42_method_8_code
def yJx4a65c_size_8abf5 : MethodName := ⟨RJx4a65c, "size", "()I"⟩
abbrev cJx4a65c_elementData_915e3 : ByteArray := prog_42_method_18_code
def yJx4a65c_elementData_915e3 : MethodName := ⟨RJx4a65c, "elementData", "(I)Ljava/lang/Object;"⟩
abbrev cJx4a65c_get_915e3 : ByteArray := prog_42_method_20_code
def yJx4a65c_get_915e3 : MethodName := ⟨RJx4a65c, "get", "(I)Ljava/lang/Object;"⟩
abbrev cJx4a65c_add_72be8 : ByteArray := prog_42_method_24_code
def yJx4a65c_add_72be8 : MethodName := ⟨RJx4a65c, "add", "(Ljava/lang/Object;[Ljava/lang/Object;I)V"⟩
abbrev cJx4a65c_add_9ea2d : ByteArray := prog_42_method_25_code
def yJx4a65c_add_9ea2d : MethodName := ⟨RJx4a65c, "add", "(Ljava/lang/Object;)Z"⟩
def RJ7 : String := "java/util/Arrays"
def TJ7 : u_T := fun k => match k with
  | _ => ("", "", "", false)
def tyJ7 : Nat → FieldType := fun k => match k with
  | _ => .int
abbrev wsJ70 : List Cond := u_ws RJ7 TJ7 0
theorem nmJ7 : ∀ a, a < 0 → ∀ b, b < 0 → a ≠ b → (TJ7 a).2.1 ≠ (TJ7 b).2.1 := by decide +kernel
theorem tyJ7_ok : ∀ k, k < 0 → parseFieldDescriptor (TJ7 k).2.2.1 = some (tyJ7 k) := by decide +kernel
abbrev cJ7_fill_53178 : ByteArray := prog_43_method_103_code
def yJ7_fill_53178 : MethodName := ⟨RJ7, "fill", "([II)V"⟩
abbrev cJ7_copyOf_1904c : ByteArray := prog_43_method_119_code
def yJ7_copyOf_1904c : MethodName := ⟨RJ7, "copyOf", "([Ljava/lang/Object;I)[Ljava/lang/Object;"⟩
abbrev cJ7_copyOf_6403c : ByteArray := prog_43_method_120_code
def yJ7_copyOf_6403c : MethodName := ⟨RJ7, "copyOf", "([Ljava/lang/Object;ILjava/lang/Class;)[Ljava/lang/Object;"⟩
abbrev cJ7_copyOf_9075b : ByteArray := prog_43_method_121_code
def yJ7_copyOf_9075b : MethodName := ⟨RJ7, "copyOf", "([BI)[B"⟩
abbrev cJ7_checkLength_df160 : ByteArray := prog_43_method_131_code
def yJ7_checkLength_df160 : MethodName := ⟨RJ7, "checkLength", "(II)V"⟩
abbrev cJ7_copyOfRange_39247 : ByteArray := prog_43_method_132_code
def yJ7_copyOfRange_39247 : MethodName := ⟨RJ7, "copyOfRange", "([BII)[B"⟩
abbrev cJ7_copyOfRangeByte_39247 : ByteArray := prog_43_method_133_code
def yJ7_copyOfRangeByte_39247 : MethodName := ⟨RJ7, "copyOfRangeByte", "([BII)[B"⟩
def RJx5ef63 : String := "java/util/Collection"
def TJx5ef63 : u_T := fun k => match k with
  | _ => ("", "", "", false)
def tyJx5ef63 : Nat → FieldType := fun k => match k with
  | _ => .int
abbrev wsJx5ef630 : List Cond := u_ws RJx5ef63 TJx5ef63 0
theorem nmJx5ef63 : ∀ a, a < 0 → ∀ b, b < 0 → a ≠ b → (TJx5ef63 a).2.1 ≠ (TJx5ef63 b).2.1 := by decide +kernel
theorem tyJx5ef63_ok : ∀ k, k < 0 → parseFieldDescriptor (TJx5ef63 k).2.2.1 = some (tyJx5ef63 k) := by decide +kernel
def RJxbd725 : String := "java/util/List"
def TJxbd725 : u_T := fun k => match k with
  | _ => ("", "", "", false)
def tyJxbd725 : Nat → FieldType := fun k => match k with
  | _ => .int
abbrev wsJxbd7250 : List Cond := u_ws RJxbd725 TJxbd725 0
theorem nmJxbd725 : ∀ a, a < 0 → ∀ b, b < 0 → a ≠ b → (TJxbd725 a).2.1 ≠ (TJxbd725 b).2.1 := by decide +kernel
theorem tyJxbd725_ok : ∀ k, k < 0 → parseFieldDescriptor (TJxbd725 k).2.2.1 = some (tyJxbd725 k) := by decide +kernel
def RJ15 : String := "java/util/Objects"
def TJ15 : u_T := fun k => match k with
  | _ => ("", "", "", false)
def tyJ15 : Nat → FieldType := fun k => match k with
  | _ => .int
abbrev wsJ150 : List Cond := u_ws RJ15 TJ15 0
theorem nmJ15 : ∀ a, a < 0 → ∀ b, b < 0 → a ≠ b → (TJ15 a).2.1 ≠ (TJ15 b).2.1 := by decide +kernel
theorem tyJ15_ok : ∀ k, k < 0 → parseFieldDescriptor (TJ15 k).2.2.1 = some (tyJ15 k) := by decide +kernel
abbrev cJ15_checkIndex_7cf53 : ByteArray := prog_46_method_17_code
def yJ15_checkIndex_7cf53 : MethodName := ⟨RJ15, "checkIndex", "(II)I"⟩
def RJxf0a74 : String := "java/util/RandomAccess"
def TJxf0a74 : u_T := fun k => match k with
  | _ => ("", "", "", false)
def tyJxf0a74 : Nat → FieldType := fun k => match k with
  | _ => .int
abbrev wsJxf0a740 : List Cond := u_ws RJxf0a74 TJxf0a74 0
theorem nmJxf0a74 : ∀ a, a < 0 → ∀ b, b < 0 → a ≠ b → (TJxf0a74 a).2.1 ≠ (TJxf0a74 b).2.1 := by decide +kernel
theorem tyJxf0a74_ok : ∀ k, k < 0 → parseFieldDescriptor (TJxf0a74 k).2.2.1 = some (tyJxf0a74 k) := by decide +kernel
def RJxa66e6 : String := "java/util/SequencedCollection"
def TJxa66e6 : u_T := fun k => match k with
  | _ => ("", "", "", false)
def tyJxa66e6 : Nat → FieldType := fun k => match k with
  | _ => .int
abbrev wsJxa66e60 : List Cond := u_ws RJxa66e6 TJxa66e6 0
theorem nmJxa66e6 : ∀ a, a < 0 → ∀ b, b < 0 → a ≠ b → (TJxa66e6 a).2.1 ≠ (TJxa66e6 b).2.1 := by decide +kernel
theorem tyJxa66e6_ok : ∀ k, k < 0 → parseFieldDescriptor (TJxa66e6 k).2.2.1 = some (tyJxa66e6 k) := by decide +kernel
def RJ8 : String := "jdk/internal/util/ArraysSupport"
def TJ8 : u_T := fun k => match k with
  | _ => ("", "", "", false)
def tyJ8 : Nat → FieldType := fun k => match k with
  | _ => .int
abbrev wsJ80 : List Cond := u_ws RJ8 TJ8 0
theorem nmJ8 : ∀ a, a < 0 → ∀ b, b < 0 → a ≠ b → (TJ8 a).2.1 ≠ (TJ8 b).2.1 := by decide +kernel
theorem tyJ8_ok : ∀ k, k < 0 → parseFieldDescriptor (TJ8 k).2.2.1 = some (tyJ8 k) := by decide +kernel
abbrev cJ8_newLength_cabcc : ByteArray := prog_49_method_27_code
def yJ8_newLength_cabcc : MethodName := ⟨RJ8, "newLength", "(III)I"⟩
abbrev cJ8_hugeLength_7cf53 : ByteArray := prog_49_method_28_code
def yJ8_hugeLength_7cf53 : MethodName := ⟨RJ8, "hugeLength", "(II)I"⟩
def RJ3 : String := "jdk/internal/util/Preconditions"
def TJ3 : u_T := fun k => match k with
  | _ => ("", "", "", false)
def tyJ3 : Nat → FieldType := fun k => match k with
  | _ => .int
abbrev wsJ30 : List Cond := u_ws RJ3 TJ3 0
theorem nmJ3 : ∀ a, a < 0 → ∀ b, b < 0 → a ≠ b → (TJ3 a).2.1 ≠ (TJ3 b).2.1 := by decide +kernel
theorem tyJ3_ok : ∀ k, k < 0 → parseFieldDescriptor (TJ3 k).2.2.1 = some (tyJ3 k) := by decide +kernel
abbrev cJ3_checkIndex_8e157 : ByteArray := prog_50_method_11_code
def yJ3_checkIndex_8e157 : MethodName := ⟨RJ3, "checkIndex", "(IILjava/util/function/BiFunction;)I"⟩
abbrev cJ3_checkFromToIndex_8c36e : ByteArray := prog_50_method_12_code
def yJ3_checkFromToIndex_8c36e : MethodName := ⟨RJ3, "checkFromToIndex", "(IIILjava/util/function/BiFunction;)I"⟩
abbrev cJ3_checkFromIndexSize_8c36e : ByteArray := prog_50_method_13_code
def yJ3_checkFromIndexSize_8c36e : MethodName := ⟨RJ3, "checkFromIndexSize", "(IIILjava/util/function/BiFunction;)I"⟩
def RL : String := "ShellWatchLaw"
abbrev cL_cell : ByteArray := method_2_code
def yL_cell : MethodName := ⟨RL, "cell", "([II)I"⟩
abbrev cL_bound : ByteArray := method_3_code
def yL_bound : MethodName := ⟨RL, "bound", "(II)I"⟩
abbrev cL_feeds : ByteArray := method_4_code
def yL_feeds : MethodName := ⟨RL, "feeds", "(LShellWatch;Ljava/lang/String;)I"⟩
abbrev cL_read : ByteArray := method_5_code
def yL_read : MethodName := ⟨RL, "read", "(LShellWatch;Ljava/lang/String;)I"⟩
abbrev cL_steals : ByteArray := method_6_code
def yL_steals : MethodName := ⟨RL, "steals", "(LShellWatch;I)I"⟩
abbrev cL_plants : ByteArray := method_7_code
def yL_plants : MethodName := ⟨RL, "plants", "(LShellWatch;I)I"⟩
abbrev cL_law : ByteArray := code
def yL_law : MethodName := ⟨RL, "law", "([I)Z"⟩
end
section
/-! WHAT A METHOD'S CODE DOES, as a function: a small interpreter over the decoded instructions, on a world of cells.
A cell of the world: .inl (kind of array: 0 int, 1 byte, 2 long, 3 double, 4 Token rows, 5 Game rows, length, contents) or .inr (class, fields). -/
abbrev xH : Type := (Nat → Option va_E) × Nat
abbrev xR : Type := (Option Value ⊕ String) × xH
abbrev xL : Type := List (Nat × Value)
abbrev xJ : Type := Nat × xL × List Value × xH × Nat × Nat
abbrev xI : Type := Nat × Instr × List Nat
def xup (w : Nat → Option va_E) (a : Nat) (e : va_E) : Nat → Option va_E := fun q => bif Nat.beq q a then some e else w q
def xget : xL → Nat → Option Value
  | [], _ => none
  | q :: L, i => bif Nat.beq q.1 i then some q.2 else xget L i
def xset1 (L : xL) (i : Nat) (v : Value) : xL := (i, v) :: L.filter (fun q => !(q.1 == i) && !(q.1 + 1 == i && q.2.category == 2))
def xset2 (L : xL) (i : Nat) (v : Value) : xL := (i, v) :: L.filter (fun q => !(q.1 == i) && (!(q.1 == i + 1) && !(q.1 + 1 == i && q.2.category == 2)))
def xpick (L : xL) : List Nat → xL
  | [] => []
  | i :: is => match xget L i with
    | some v => (i, v) :: xpick L is
    | none => xpick L is
def xfind (f : Nat → Nat) (a : Nat) : Nat → Option Nat
  | 0 => none
  | n + 1 => match xfind f a n with
    | some i => some i
    | none => bif Nat.beq (f n) a then some n else none
def xin (i : Int32) (n : Nat) : Bool := decide (¬ (i < 0 ∨ n ≤ i.toNatClampNeg))
/-- the literals, each text once, and which is a Token's -/
def xbyt : List (List Int32) := [[], [59], [43], [45], [42], [47], [40], [41], [115, 104, 101, 108, 108, 115], [115, 116, 101, 112, 115], [98, 108, 105, 110, 107, 115], [99, 104, 97, 110, 99, 101], [98, 97, 108, 108], [115, 99, 114, 97, 116, 99, 104], [116, 114, 117, 115, 116], [99, 97, 108, 109], [115, 108, 121], [112, 117, 114, 115, 101], [98, 108, 105, 110, 107], [111, 100, 100, 115], [115, 119, 97, 112], [102, 101, 105, 110, 116], [114, 101, 115, 116], [115, 116, 101, 97, 108], [112, 108, 97, 110, 116], [112, 101, 101, 107], [114, 101, 112, 101, 97, 116], [115, 104, 101, 108, 108, 115, 32], [59, 98, 97, 108, 108, 32], [59, 116, 114, 117, 115, 116, 32], [59, 99, 97, 108, 109, 32], [59, 115, 108, 121, 32], [115, 99, 114, 97, 116, 99, 104, 32], [98, 108, 105, 110, 107, 32]]
def xtx (i : Nat) : List Int32 := xbyt.getD i []
def xNS : Nat := 34
def xtt (i : Nat) : Nat := ([0, 0, 0, 1, 2, 3, 4, 5, 6, 7, 8, 9, 10, 11, 12, 13, 14, 15, 16, 17, 18, 19, 20, 21, 22, 23, 24, 25, 26] : List Nat).getD i 0
/-- addresses: the Tokens, the literals, their bytes, Token.ALL; the value of Preconditions' formatter -/
abbrev xEn : Type := (Nat → Nat) × (Nat → Nat) × (Nat → Nat) × Nat × Value × (Nat × Nat × Nat) × Nat × Nat × (Nat → Int32)
/-- the formatter; Integer's rows of digits; ArrayList's empty row; the script: where, how long, what -/
abbrev eFm (E : xEn) : Value := E.2.2.2.2.1
abbrev eD1 (E : xEn) : Nat := E.2.2.2.2.2.1.1
abbrev eD2 (E : xEn) : Nat := E.2.2.2.2.2.1.2.1
abbrev eDc (E : xEn) : Nat := E.2.2.2.2.2.1.2.2
abbrev eSa (E : xEn) : Nat := E.2.2.2.2.2.2.1
abbrev eSn (E : xEn) : Nat := E.2.2.2.2.2.2.2.1
abbrev eSf (E : xEn) : Nat → Int32 := E.2.2.2.2.2.2.2.2
section SEM
variable {ρ : Type}
-- fields
def gV (σ : xH) (ci k a : Nat) (K : Value → Option ρ) : Option ρ := match σ.1 a with
  | some (.inr (c, fs)) => bif Nat.beq c ci then (match fs[k]? with
    | some v => K v
    | none => none) else none
  | _ => none
def gI (σ : xH) (ci k a : Nat) (K : Int32 → Option ρ) : Option ρ := gV σ ci k a (fun v => match v with
  | .int x => K x
  | _ => none)
def gL (σ : xH) (ci k a : Nat) (K : Int64 → Option ρ) : Option ρ := gV σ ci k a (fun v => match v with
  | .long x => K x
  | _ => none)
def gR (σ : xH) (ci k a : Nat) (K : Nat → Option ρ) : Option ρ := gV σ ci k a (fun v => match v with
  | .ref x => K x
  | _ => none)
def gP (σ : xH) (ci k a : Nat) (v : Value) (K : xH → Option ρ) : Option ρ := match σ.1 a with
  | some (.inr (c, fs)) => bif Nat.beq c ci && Nat.blt k fs.length then K (xup σ.1 a (.inr (c, fs.set k v)), σ.2) else none
  | _ => none
/-- the receiver's class; 99 is String -/
def gO (E : xEn) (σ : xH) (ci a : Nat) (K : Option ρ) : Option ρ := match σ.1 a with
  | some (.inr (c, _)) => bif Nat.beq c ci || (Nat.beq ci 99 && Nat.beq c 11) then K else none
  | none => bif Nat.beq ci 99 && (xfind E.2.1 a xNS).isSome then K else none
  | _ => none
-- arrays
def aI (E : xEn) (σ : xH) (a : Nat) (i : Int32) (K : Int32 → Option ρ) : Option ρ := match σ.1 a with
  | some (.inl (k, n, .inl f)) => bif Nat.beq k 0 && xin i n then K (f i.toNatClampNeg) else none
  | none => bif Nat.beq a (eSa E) && xin i (eSn E) then K (eSf E i.toNatClampNeg) else none
  | _ => none
def aB (E : xEn) (σ : xH) (a : Nat) (i : Int32) (K : Int32 → Option ρ) : Option ρ := match σ.1 a with
  | some (.inl (k, n, .inl f)) => bif Nat.beq k 1 && xin i n then K (f i.toNatClampNeg) else none
  | none => match xfind E.2.2.1 a xNS with
    | some s => bif xin i (xtx s).length then K ((xtx s).getD i.toNatClampNeg 0) else none
    | none => bif Nat.beq a (eD1 E) && xin i 100 then K (nI (48 + i.toNatClampNeg % 10)) else bif Nat.beq a (eD2 E) && xin i 100 then K (nI (48 + i.toNatClampNeg / 10)) else none
  | _ => none
def aL (σ : xH) (a : Nat) (i : Int32) (K : Int64 → Option ρ) : Option ρ := match σ.1 a with
  | some (.inl (k, n, .inr (.inl f))) => bif Nat.beq k 2 && xin i n then K (f i.toNatClampNeg) else none
  | _ => none
def aD (σ : xH) (a : Nat) (i : Int32) (K : UInt64 → Option ρ) : Option ρ := match σ.1 a with
  | some (.inl (k, n, .inr (.inr (.inr (.inl f))))) => bif Nat.beq k 3 && xin i n then K (f i.toNatClampNeg) else none
  | _ => none
def aQ (E : xEn) (σ : xH) (a : Nat) (i : Int32) (K : Nat → Option ρ) : Option ρ := match σ.1 a with
  | some (.inl (k, n, .inr (.inr (.inr (.inr f))))) => bif Nat.ble 4 k && (Nat.ble k 6 && xin i n) then (match f i.toNatClampNeg with
    | some b => K b
    | none => none) else none
  | none => bif Nat.beq a E.2.2.2.1 && xin i 29 then K (E.1 i.toNatClampNeg) else none
  | _ => none
def aN (E : xEn) (σ : xH) (a : Nat) (K : Int32 → Option ρ) : Option ρ := match σ.1 a with
  | some (.inl (k, n, _)) => bif Nat.ble k 6 then K (nI n) else none
  | none => bif Nat.beq a E.2.2.2.1 then K 29 else match xfind E.2.2.1 a xNS with
    | some s => K (nI (xtx s).length)
    | none => bif Nat.beq a (eDc E) then K (nI 0) else bif Nat.beq a (eSa E) then K (nI (eSn E)) else none
  | _ => none
def sI (σ : xH) (a : Nat) (i x : Int32) (K : xH → Option ρ) : Option ρ := match σ.1 a with
  | some (.inl (k, n, .inl f)) => bif Nat.beq k 0 && xin i n then K (xup σ.1 a (.inl (k, n, .inl (upd f i.toNatClampNeg x))), σ.2) else none
  | _ => none
def sB (σ : xH) (a : Nat) (i x : Int32) (K : xH → Option ρ) : Option ρ := match σ.1 a with
  | some (.inl (k, n, .inl f)) => bif Nat.beq k 1 && xin i n then K (xup σ.1 a (.inl (k, n, .inl (upd f i.toNatClampNeg (vp_nar .byte x)))), σ.2) else none
  | _ => none
def sL (σ : xH) (a : Nat) (i : Int32) (x : Int64) (K : xH → Option ρ) : Option ρ := match σ.1 a with
  | some (.inl (k, n, .inr (.inl f))) => bif Nat.beq k 2 && xin i n then K (xup σ.1 a (.inl (k, n, .inr (.inl (vp_updL f i.toNatClampNeg x)))), σ.2) else none
  | _ => none
def sD (σ : xH) (a : Nat) (i : Int32) (x : UInt64) (K : xH → Option ρ) : Option ρ := match σ.1 a with
  | some (.inl (k, n, .inr (.inr (.inr (.inl f))))) => bif Nat.beq k 3 && xin i n then K (xup σ.1 a (.inl (k, n, .inr (.inr (.inr (.inl (vf_upd f i.toNatClampNeg x)))))), σ.2) else none
  | _ => none
/-- what may lie in a row of references: a Token in kind 4, a Game (class 2) in kind 5 -/
def xfits (E : xEn) (σ : xH) (k b : Nat) : Bool := bif Nat.beq k 4 then (xfind E.1 b 29).isSome else bif Nat.beq k 5 then (match σ.1 b with
  | some (.inr (c, _)) => Nat.beq c 2
  | _ => false) else bif Nat.beq k 6 then (match σ.1 b with
  | some (.inr (c, _)) => Nat.beq c 9
  | _ => false) else false
def sQ (E : xEn) (σ : xH) (a : Nat) (i : Int32) (b : Nat) (K : xH → Option ρ) : Option ρ := match σ.1 a with
  | some (.inl (k, n, .inr (.inr (.inr (.inr f))))) => bif xin i n && xfits E σ k b then K (xup σ.1 a (.inl (k, n, .inr (.inr (.inr (.inr (va_up f i.toNatClampNeg (some b))))))), σ.2) else none
  | _ => none
-- System.arraycopy of ints and of bytes; a literal's bytes may be the source
def xcpr (i j n : Int32) (m m' : Nat) : Bool := decide (0 ≤ i.toInt ∧ 0 ≤ j.toInt ∧ 0 ≤ n.toInt ∧ i.toInt + n.toInt ≤ m ∧ j.toInt + n.toInt ≤ m')
/-- what is copied between rows of bytes is bytes -/
def xbf (f : Nat → Int32) (m : Nat) : Bool := decide (∀ j, j < m → fits .byte (.int (f j)) = true)
def cpI (E : xEn) (σ : xH) (a : Nat) (i : Int32) (b : Nat) (j n : Int32) (K : xH → Option ρ) : Option ρ := match σ.1 b with
  | some (.inl (k', m', .inl g)) => match σ.1 a with
    | some (.inl (k, m, .inl f)) => bif Nat.beq k k' && (Nat.ble k 1 && (!(Nat.beq a b) && (xcpr i j n m m' && (Nat.beq k 0 || xbf f m)))) then K (xup σ.1 b (.inl (k', m', .inl (va_cpy f g i.toNatClampNeg j.toNatClampNeg n.toNatClampNeg))), σ.2) else none
    | none => match xfind E.2.2.1 a xNS with
      | some s => bif Nat.beq k' 1 && (xcpr i j n (xtx s).length m' && xbf (fun q => (xtx s).getD q 0) (xtx s).length) then K (xup σ.1 b (.inl (k', m', .inl (va_cpy (fun q => (xtx s).getD q 0) g i.toNatClampNeg j.toNatClampNeg n.toNatClampNeg))), σ.2) else none
      | none => none
    | _ => none
  | _ => none
/-- a cell of a class -/
def xck (σ : xH) (ci a : Nat) (K : Option ρ) : Option ρ := match σ.1 a with
  | some (.inr (c, _)) => bif Nat.beq c ci then K else none
  | _ => none
-- a callee's answer
def cI (T : xR → Option ρ) (r : Option xR) (K : Int32 → xH → Option ρ) : Option ρ := match r with
  | some (.inl (some (.int x)), σ) => K x σ
  | some (.inr E, σ) => T (.inr E, σ)
  | _ => none
def cL (T : xR → Option ρ) (r : Option xR) (K : Int64 → xH → Option ρ) : Option ρ := match r with
  | some (.inl (some (.long x)), σ) => K x σ
  | some (.inr E, σ) => T (.inr E, σ)
  | _ => none
def cF (T : xR → Option ρ) (r : Option xR) (K : UInt32 → xH → Option ρ) : Option ρ := match r with
  | some (.inl (some (.float x)), σ) => K x σ
  | some (.inr E, σ) => T (.inr E, σ)
  | _ => none
def cD (T : xR → Option ρ) (r : Option xR) (K : UInt64 → xH → Option ρ) : Option ρ := match r with
  | some (.inl (some (.double x)), σ) => K x σ
  | some (.inr E, σ) => T (.inr E, σ)
  | _ => none
def cA (T : xR → Option ρ) (r : Option xR) (K : Nat → xH → Option ρ) : Option ρ := match r with
  | some (.inl (some (.ref x)), σ) => K x σ
  | some (.inr E, σ) => T (.inr E, σ)
  | _ => none
def cV (T : xR → Option ρ) (r : Option xR) (K : xH → Option ρ) : Option ρ := match r with
  | some (.inl none, σ) => K σ
  | some (.inr E, σ) => T (.inr E, σ)
  | _ => none
def xsw (x : Int32) (dflt : Nat) (K : Nat → Option ρ) : Nat → List Nat → Option ρ
  | _, [] => K dflt
  | lo, t :: ts => if x = nI lo then K t else xsw x dflt K (lo + 1) ts
def xcc (c : ClassFile.Cond) (x y : Int32) (t f : Option ρ) : Option ρ := match c with
  | .eq => if x = y then t else f
  | .ne => if x = y then f else t
  | .lt => if x < y then t else f
  | .ge => if y ≤ x then t else f
  | .gt => if y < x then t else f
  | .le => if x ≤ y then t else f
end SEM
end
section
/-! ONE INSTRUCTION. 'info' is what the constant pool says of it (checked against the pool elsewhere):
branches [target]; getfield, putfield [class, field, 0 int 1 long 2 ref 5 boolean, 0 own 1 nest mate 2 final in a constructor]; text of a Token [77]; getstatic [token, or 29 for ALL];
calls [0, prim] or [kind, key, how many arguments, answer, cells, slots, class + 1 or 0 (static)]; new [0, class, fields] or [1, exception]; newarray, anewarray [kind]; ldc [0, c], [1, minus c], [2, string]; returns [0] or [5] (boolean). -/
def xexc : Nat → String
  | 0 => "java/lang/IllegalArgumentException"
  | 1 => "java/lang/IndexOutOfBoundsException"
  | 2 => "java/lang/IllegalStateException"
  | _ => "java/util/NoSuchElementException"
def xcat (st : List Value) : Nat := (st.map fun v => v.category).sum
/-- the fields of a new object: by the types of its fields -/
def xdv : FieldType → Value
  | .long => .long 0
  | .float => .float 0
  | .double => .double 0
  | .object _ => .null
  | .array _ => .null
  | _ => .int 0
def xtyp (ci : Nat) : Nat → FieldType := match ci with
  | 0 => tyX0
  | 1 => tyX1
  | 2 => tyX2
  | 3 => tyX3
  | 4 => tyX4
  | 5 => tyX5
  | 6 => tyX6
  | 7 => tyX9
  | 8 => tyX10
  | 9 => tyX11
  | 10 => tyX12
  | 11 => tyJ0
  | 12 => tyJ4
  | _ => tyJx4a65c
def xdef (ci n : Nat) : List Value := (List.range n).map fun k => xdv (xtyp ci k)
def xarr (k : Nat) : (Nat → Int32) ⊕ (Nat → Int64) ⊕ (Nat → UInt32) ⊕ (Nat → UInt64) ⊕ (Nat → Option Nat) := match k with
  | 2 => .inr (.inl fun _ => 0)
  | 3 => .inr (.inr (.inr (.inl fun _ => 0)))
  | _ => .inl fun _ => 0
section STEP
variable {ρ : Type}
def xfld (σ : xH) (info : List Nat) (a : Nat) (k : Value → Option ρ) : Option ρ := match info with
  | [ci, i, 0, _] => gI σ ci i a (fun x => k (.int x))
  | [ci, i, 5, _] => gI σ ci i a (fun x => k (.int x))
  | [ci, i, 6, _] => gI σ ci i a (fun x => k (.int x))
  | [ci, i, 1, _] => gL σ ci i a (fun x => k (.long x))
  | [ci, i, 2, _] => gR σ ci i a (fun x => k (.ref x))
  | _ => none
def xput (σ : xH) (info : List Nat) (a : Nat) (v : Value) (k : xH → Option ρ) : Option ρ := match info, v with
  | [ci, i, 0, _], .int x => gP σ ci i a (.int x) k
  | [ci, i, 5, _], .int x => if narrow .boolean (.int x) = .int x then gP σ ci i a (.int x) k else none
  | [ci, i, 6, _], .int x => if narrow .byte (.int x) = .int x then gP σ ci i a (.int x) k else none
  | [ci, i, 1, _], .long x => gP σ ci i a (.long x) k
  | [ci, i, 2, _], .ref x => gP σ ci i a (.ref x) k
  | _, _ => none
def xans (T : xR → Option ρ) (tag : Nat) (r : Option xR) (k : List Value → xH → Option ρ) : Option ρ := match tag with
  | 0 => cI T r (fun x σ => k [.int x] σ)
  | 1 => cL T r (fun x σ => k [.long x] σ)
  | 2 => cA T r (fun x σ => k [.ref x] σ)
  | 3 => cF T r (fun x σ => k [.float x] σ)
  | 4 => cD T r (fun x σ => k [.double x] σ)
  | 9 => cV T r (fun σ => k [] σ)
  | _ => none
/-- of the calls only kind 5 may come back by a throw -/
def xthr (k : Nat) (T : xR → Option ρ) (r : xR) : Option ρ := bif Nat.beq k 5 then T r else none
/-- a call of a method of the table: the stack is cut, the receiver's class looked at, the room booked; kinds: 0 static, 1 virtual, 2 constructor, 3 virtual of a nest mate, 4 constructor of a nest mate, 5 virtual that may throw -/
def xcall (E : xEn) (call : Nat → List Value → xH → Option xR) (MC MS : Nat) (T : xR → Option ρ) (info : List Nat) (st : List Value) (σ : xH) (bc bs : Nat) (nx : List Value → xH → Nat → Nat → Option ρ) : Option ρ := match info with
  | [kd, key, n, tag, mc, ms, ci] => bif Nat.ble n st.length && (Nat.ble (xcat (st.drop n)) 8 && (Nat.ble (bc + mc) MC && Nat.ble (bs + ms) MS)) then
      match ci with
      | 0 => xans (xthr kd T) tag (call key (st.take n).reverse σ) (fun v σ' => nx (v ++ st.drop n) σ' (bc + mc) (bs + ms))
      | c + 1 => match (st.take n).reverse with
        | .ref b :: As => gO E σ c b (xans (xthr kd T) tag (call key (.ref b :: As) σ) (fun v σ' => nx (v ++ st.drop n) σ' (bc + mc) (bs + ms)))
        | _ => none
    else none
  | _ => none
def xprim (E : xEn) (prim : Nat) (st : List Value) (σ : xH) (nx : List Value → xH → Option ρ) : Option ρ := match prim, st with
  | 0, .int y :: .int x :: st => nx (.int (if x < y then y else x) :: st) σ
  | 1, .int y :: .int x :: st => nx (.int (if y < x then y else x) :: st) σ
  | 2, .long y :: .long x :: st => nx (.long (if y < x then x else y) :: st) σ
  | 3, .long y :: .long x :: st => nx (.long (if y < x then y else x) :: st) σ
  | 6, .int n :: .int j :: .ref b :: .int i :: .ref a :: st => cpI E σ a i b j n (fun σ' => nx st σ')
  | _, _ => none
-- combinators: what lies on the stack, in a place of the locals, in 'info'
def kkI (o : Option Value) (k : Int32 → Option ρ) : Option ρ := match o with
  | some (.int x) => k x
  | _ => none
def t1I (st : List Value) (k : Int32 → List Value → Option ρ) : Option ρ := match st with
  | .int x :: st => k x st
  | _ => none
def t2I (st : List Value) (k : Int32 → Int32 → List Value → Option ρ) : Option ρ := match st with
  | .int y :: .int x :: st => k x y st
  | _ => none
def kkL (o : Option Value) (k : Int64 → Option ρ) : Option ρ := match o with
  | some (.long x) => k x
  | _ => none
def t1L (st : List Value) (k : Int64 → List Value → Option ρ) : Option ρ := match st with
  | .long x :: st => k x st
  | _ => none
def t2L (st : List Value) (k : Int64 → Int64 → List Value → Option ρ) : Option ρ := match st with
  | .long y :: .long x :: st => k x y st
  | _ => none
def kkF (o : Option Value) (k : UInt32 → Option ρ) : Option ρ := match o with
  | some (.float x) => k x
  | _ => none
def t1F (st : List Value) (k : UInt32 → List Value → Option ρ) : Option ρ := match st with
  | .float x :: st => k x st
  | _ => none
def t2F (st : List Value) (k : UInt32 → UInt32 → List Value → Option ρ) : Option ρ := match st with
  | .float y :: .float x :: st => k x y st
  | _ => none
def kkD (o : Option Value) (k : UInt64 → Option ρ) : Option ρ := match o with
  | some (.double x) => k x
  | _ => none
def t1D (st : List Value) (k : UInt64 → List Value → Option ρ) : Option ρ := match st with
  | .double x :: st => k x st
  | _ => none
def t2D (st : List Value) (k : UInt64 → UInt64 → List Value → Option ρ) : Option ρ := match st with
  | .double y :: .double x :: st => k x y st
  | _ => none
def kkA (o : Option Value) (k : Nat → Option ρ) : Option ρ := match o with
  | some (.ref x) => k x
  | _ => none
def t1A (st : List Value) (k : Nat → List Value → Option ρ) : Option ρ := match st with
  | .ref x :: st => k x st
  | _ => none
def t2A (st : List Value) (k : Nat → Nat → List Value → Option ρ) : Option ρ := match st with
  | .ref y :: .ref x :: st => k x y st
  | _ => none
def t3I (st : List Value) (k : Int32 → Int32 → Nat → List Value → Option ρ) : Option ρ := match st with
  | .int x :: .int i :: .ref a :: st => k x i a st
  | _ => none
def t3L (st : List Value) (k : Int64 → Int32 → Nat → List Value → Option ρ) : Option ρ := match st with
  | .long x :: .int i :: .ref a :: st => k x i a st
  | _ => none
def t3D (st : List Value) (k : UInt64 → Int32 → Nat → List Value → Option ρ) : Option ρ := match st with
  | .double x :: .int i :: .ref a :: st => k x i a st
  | _ => none
def t3A (st : List Value) (k : Nat → Int32 → Nat → List Value → Option ρ) : Option ρ := match st with
  | .ref x :: .int i :: .ref a :: st => k x i a st
  | _ => none
def t2X (st : List Value) (k : Int32 → Nat → List Value → Option ρ) : Option ρ := match st with
  | .int i :: .ref a :: st => k i a st
  | _ => none
def tV (st : List Value) (k : Value → List Value → Option ρ) : Option ρ := match st with
  | v :: st => bif Nat.beq v.category 1 then k v st else none
  | _ => none
def tVA (st : List Value) (k : Value → Nat → List Value → Option ρ) : Option ρ := match st with
  | v :: .ref a :: st => k v a st
  | _ => none
def t0 (st : List Value) (k : Option ρ) : Option ρ := match st with
  | [] => k
  | _ => none
def i1 (info : List Nat) (k : Nat → Option ρ) : Option ρ := match info with
  | [t] => k t
  | _ => none
def iSw (info : List Nat) (k : Nat → Nat → List Nat → Option ρ) : Option ρ := match info with
  | d :: lo :: ts => k d lo ts
  | _ => none
def nz (b : Bool) (k : Option ρ) : Option ρ := bif b then k else none
def iK (E : xEn) (info : List Nat) (k : Value → Option ρ) : Option ρ := match info with
  | [0, c] => k (.int (nI c))
  | [1, c] => k (.int (- nI c))
  | [2, i] => bif Nat.blt i xNS then k (.ref (E.2.1 i)) else none
  | _ => none
def iK2 (info : List Nat) (k : Int64 → Option ρ) : Option ρ := match info with
  | [0, c] => k (lN c)
  | [1, c] => k (- lN c)
  | _ => none
def iD (info : List Nat) (k : UInt64 → Option ρ) : Option ρ := match info with
  | [0] => k FP.dconst0
  | _ => none
def iF (info : List Nat) (k : UInt32 → Option ρ) : Option ρ := match info with
  | [0] => k FP.fconst0
  | [1] => k FP.fconst1
  | _ => none
/-- a String's bytes, its coder: a literal's, or a String's of the world -/
def gU (E : xEn) (σ : xH) (a : Nat) (K : Nat → Option ρ) : Option ρ := match σ.1 a with
  | none => match xfind E.2.1 a xNS with
    | some i => K (E.2.2.1 i)
    | none => none
  | _ => gR σ 11 0 a K
def gC (E : xEn) (σ : xH) (a : Nat) (K : Int32 → Option ρ) : Option ρ := match σ.1 a with
  | none => match xfind E.2.1 a xNS with
    | some _ => K (nI 0)
    | none => none
  | _ => gI σ 11 1 a K
def xgf (E : xEn) (σ : xH) (info : List Nat) (a : Nat) (k : Value → Option ρ) : Option ρ := match info with
  | [77] => match xfind E.1 a 29 with
    | some i => k (.ref (E.2.1 (xtt i)))
    | none => none
  | [78] => gU E σ a (fun q => k (.ref q))
  | [79] => gC E σ a (fun x => k (.int x))
  | info => xfld σ info a k
def xgs (E : xEn) (info : List Nat) (k : Value → Option ρ) : Option ρ := match info with
  | [0, i] => bif Nat.blt i 29 then k (.ref (E.1 i)) else none
  | [1] => k (.ref E.2.2.2.1)
  | [2] => k (.int 1)
  | [3] => k (eFm E)
  | [4] => k (.ref (eD1 E))
  | [5] => k (.ref (eD2 E))
  | [6] => k (.ref (eDc E))
  | _ => none
def xnew (MC MS : Nat) (fin : xR → Option ρ) (info : List Nat) (st : List Value) (σ : xH) (bc bs : Nat) (nx : List Value → xH → Nat → Nat → Option ρ) : Option ρ := match info with
  | [0, ci, n] => bif Nat.ble (bc + 1) MC && Nat.ble (bs + n) MS then nx (.ref σ.2 :: st) (xup σ.1 σ.2 (.inr (ci, xdef ci n)), σ.2 + 1) (bc + 1) (bs + n) else none
  | [1, e, _, _] => bif Nat.ble (bc + 1) MC && (Nat.ble (bs + 6) MS && Nat.ble (xcat st) 8) then fin (.inr (xexc e), σ) else none
  | _ => none
def xnewa (MC MS : Nat) (x : Nat → (Nat → Int32) ⊕ (Nat → Int64) ⊕ (Nat → UInt32) ⊕ (Nat → UInt64) ⊕ (Nat → Option Nat)) (info : List Nat) (st : List Value) (σ : xH) (bc bs : Nat) (nx : List Value → xH → Nat → Nat → Option ρ) : Option ρ := t1I st (fun n st => i1 info (fun k => bif decide (¬ n < 0) && (Nat.ble (bc + 1) MC && (Nat.ble (bs + n.toNatClampNeg) MS && Nat.ble n.toNatClampNeg 100000)) then nx (.ref σ.2 :: st) (xup σ.1 σ.2 (.inl (k, n.toNatClampNeg, x k)), σ.2 + 1) (bc + 1) (bs + n.toNatClampNeg) else none))
def xinv (E : xEn) (call : Nat → List Value → xH → Option xR) (MC MS : Nat) (fin : xR → Option ρ) (info : List Nat) (st : List Value) (σ : xH) (bc bs : Nat) (pr : Nat → Option ρ) (nx : List Value → xH → Nat → Nat → Option ρ) : Option ρ := match info with
  | [_, p] => pr p
  | info => xcall E call MC MS fin info st σ bc bs nx
def xinit (E : xEn) (call : Nat → List Value → xH → Option xR) (MC MS : Nat) (fin : xR → Option ρ) (info : List Nat) (st : List Value) (σ : xH) (bc bs : Nat) (nx : List Value → xH → Nat → Nat → Option ρ) : Option ρ := match info with
  | [_] => t1A st (fun _ st => bif Nat.ble (xcat st) 8 then nx st σ bc bs else none)
  | info => xcall E call MC MS fin info st σ bc bs nx
def xty (t : Nat) : FieldType := match t with
  | 5 => .boolean
  | 6 => .byte
  | 7 => .char
  | _ => .int
def xiret (info : List Nat) (x : Int32) (k : Option ρ) : Option ρ := match info with
  | [0] => k
  | [t] => bif decide (narrow (xty t) (.int x) = .int x) then k else none
  | _ => none
def xac (c : ACond) (b : Bool) (t f : Option ρ) : Option ρ := match c with
  | .eq => bif b then t else f
  | .ne => bif b then f else t
def xstep (E : xEn) (call : Nat → List Value → xH → Option xR) (MC MS : Nat) (fin : xR → Option ρ) (K : Nat → xL → List Value → xH → Nat → Nat → Option ρ) (nx : xL → List Value → xH → Nat → Nat → Option ρ) (ins : Instr) (info : List Nat) (L : xL) (st : List Value) (σ : xH) (bc bs : Nat) : Option ρ := match ins with
  | .iconst i => nx L (.int (Int32.ofInt i) :: st) σ bc bs
  | .bipush i => nx L (.int (Int8.ofInt i).toInt32 :: st) σ bc bs
  | .sipush i => nx L (.int (Int16.ofInt i).toInt32 :: st) σ bc bs
  | .lconst i => nx L (.long (Int64.ofNat (i : Nat)) :: st) σ bc bs
  | .dconst i => iD info (fun v => nx L (.double v :: st) σ bc bs)
  | .fconst i => iF info (fun v => nx L (.float v :: st) σ bc bs)
  | .ldc i => iK E info (fun v => nx L (v :: st) σ bc bs)
  | .ldc_w i => iK E info (fun v => nx L (v :: st) σ bc bs)
  | .ldc2_w i => iK2 info (fun v => nx L (.long v :: st) σ bc bs)
  | .iload i => kkI (xget L i) (fun x => nx L (.int x :: st) σ bc bs)
  | .iload_n i => kkI (xget L i) (fun x => nx L (.int x :: st) σ bc bs)
  | .lload i => kkL (xget L i) (fun x => nx L (.long x :: st) σ bc bs)
  | .lload_n i => kkL (xget L i) (fun x => nx L (.long x :: st) σ bc bs)
  | .dload i => kkD (xget L i) (fun x => nx L (.double x :: st) σ bc bs)
  | .aload i => kkA (xget L i) (fun x => nx L (.ref x :: st) σ bc bs)
  | .aload_n i => kkA (xget L i) (fun x => nx L (.ref x :: st) σ bc bs)
  | .istore i => t1I st (fun x st => nx (xset1 L i (.int x)) st σ bc bs)
  | .istore_n i => t1I st (fun x st => nx (xset1 L i (.int x)) st σ bc bs)
  | .lstore i => t1L st (fun x st => nx (xset2 L i (.long x)) st σ bc bs)
  | .lstore_n i => t1L st (fun x st => nx (xset2 L i (.long x)) st σ bc bs)
  | .dstore i => t1D st (fun x st => nx (xset2 L i (.double x)) st σ bc bs)
  | .astore i => t1A st (fun x st => nx (xset1 L i (.ref x)) st σ bc bs)
  | .astore_n i => t1A st (fun x st => nx (xset1 L i (.ref x)) st σ bc bs)
  | .iinc i c => kkI (xget L i) (fun x => nx (xset1 L i (.int (x + Int32.ofInt c))) st σ bc bs)
  | .iadd => t2I st (fun x y st => nx L (.int (x + y) :: st) σ bc bs)
  | .isub => t2I st (fun x y st => nx L (.int (x - y) :: st) σ bc bs)
  | .imul => t2I st (fun x y st => nx L (.int (x * y) :: st) σ bc bs)
  | .iand => t2I st (fun x y st => nx L (.int (x &&& y) :: st) σ bc bs)
  | .ior => t2I st (fun x y st => nx L (.int (x ||| y) :: st) σ bc bs)
  | .ixor => t2I st (fun x y st => nx L (.int (x ^^^ y) :: st) σ bc bs)
  | .aconst_null => nx L (.null :: st) σ bc bs
  | .ineg => t1I st (fun x st => nx L (.int (-x) :: st) σ bc bs)
  | .dup_x1 => tV st (fun v st => tV st (fun u st => nx L (v :: u :: v :: st) σ bc bs))
  | .checkcast i => t1A st (fun a st => i1 info (fun ci => xck σ ci a (nx L (.ref a :: st) σ bc bs)))
  | .ishl => t2I st (fun x y st => nx L (.int (x <<< (y &&& 31)) :: st) σ bc bs)
  | .ishr => t2I st (fun x y st => nx L (.int (x >>> (y &&& 31)) :: st) σ bc bs)
  | .idiv => t2I st (fun x y st => nz (decide (¬ y = 0)) (nx L (.int (x / y) :: st) σ bc bs))
  | .irem => t2I st (fun x y st => nz (decide (¬ y = 0)) (nx L (.int (x - x / y * y) :: st) σ bc bs))
  | .ladd => t2L st (fun x y st => nx L (.long (x + y) :: st) σ bc bs)
  | .lsub => t2L st (fun x y st => nx L (.long (x - y) :: st) σ bc bs)
  | .lmul => t2L st (fun x y st => nx L (.long (x * y) :: st) σ bc bs)
  | .ldiv => t2L st (fun x y st => nz (decide (¬ y = 0)) (nx L (.long (x / y) :: st) σ bc bs))
  | .lrem => t2L st (fun x y st => nz (decide (¬ y = 0)) (nx L (.long (x - x / y * y) :: st) σ bc bs))
  | .lcmp => t2L st (fun x y st => nx L (.int (lg_cmp x y) :: st) σ bc bs)
  | .i2l => t1I st (fun x st => nx L (.long x.toInt64 :: st) σ bc bs)
  | .l2i => t1L st (fun x st => nx L (.int x.toInt32 :: st) σ bc bs)
  | .i2b => t1I st (fun x st => nx L (.int x.toInt8.toInt32 :: st) σ bc bs)
  | .i2c => t1I st (fun x st => nx L (.int (x.toUInt32 % 65536).toInt32 :: st) σ bc bs)
  | .i2d => t1I st (fun x st => nx L (.double (FP.i2d x) :: st) σ bc bs)
  | .l2d => t1L st (fun x st => nx L (.double (FP.l2d x) :: st) σ bc bs)
  | .i2f => t1I st (fun x st => nx L (.float (FP.i2f x) :: st) σ bc bs)
  | .l2f => t1L st (fun x st => nx L (.float (FP.l2f x) :: st) σ bc bs)
  | .f2d => t1F st (fun x st => nz (decide (FP.f2d x &&& 0x7fffffffffffffff ≤ 0x7ff0000000000000)) (nx L (.double (FP.f2d x) :: st) σ bc bs))
  | .fdiv => t2F st (fun x y st => nz (decide (FP.fdiv x y &&& 0x7fffffff ≤ 0x7f800000)) (nx L (.float (FP.fdiv x y) :: st) σ bc bs))
  | .fsub => t2F st (fun x y st => nz (decide (FP.fsub x y &&& 0x7fffffff ≤ 0x7f800000)) (nx L (.float (FP.fsub x y) :: st) σ bc bs))
  | .ddiv => t2D st (fun x y st => nz (decide (FP.ddiv x y &&& 0x7fffffffffffffff ≤ 0x7ff0000000000000)) (nx L (.double (FP.ddiv x y) :: st) σ bc bs))
  | .dcmp o => t2D st (fun x y st => nx L (.int (Op.cmpValue (FP.dcmp x y) o) :: st) σ bc bs)
  | .dup => tV st (fun v st => nx L (v :: v :: st) σ bc bs)
  | .dup2 => tV st (fun v st => tV st (fun u st => nx L (v :: u :: v :: u :: st) σ bc bs))
  | .pop => tV st (fun _ st => nx L st σ bc bs)
  | .ifCond c o => t1I st (fun x st => i1 info (fun t => xcc c x 0 (K t L st σ bc bs) (nx L st σ bc bs)))
  | .if_icmp c o => t2I st (fun x y st => i1 info (fun t => xcc c x y (K t L st σ bc bs) (nx L st σ bc bs)))
  | .if_acmp c o => t2A st (fun x y st => i1 info (fun t => xac c (Nat.beq x y) (K t L st σ bc bs) (nx L st σ bc bs)))
  | .goto o => i1 info (fun t => K t L st σ bc bs)
  | .tableswitch a b c d => t1I st (fun x st => iSw info (fun d lo ts => xsw x d (fun t => K t L st σ bc bs) lo ts))
  | .getfield i => t1A st (fun a st => xgf E σ info a (fun v => nx L (v :: st) σ bc bs))
  | .putfield i => tVA st (fun v a st => xput σ info a v (fun σ => nx L st σ bc bs))
  | .getstatic i => xgs E info (fun v => nx L (v :: st) σ bc bs)
  | .iaload => t2X st (fun i a st => aI E σ a i (fun x => nx L (.int x :: st) σ bc bs))
  | .baload => t2X st (fun i a st => aB E σ a i (fun x => nx L (.int x :: st) σ bc bs))
  | .laload => t2X st (fun i a st => aL σ a i (fun x => nx L (.long x :: st) σ bc bs))
  | .daload => t2X st (fun i a st => aD σ a i (fun x => nx L (.double x :: st) σ bc bs))
  | .aaload => t2X st (fun i a st => aQ E σ a i (fun x => nx L (.ref x :: st) σ bc bs))
  | .arraylength => t1A st (fun a st => aN E σ a (fun x => nx L (.int x :: st) σ bc bs))
  | .iastore => t3I st (fun x i a st => sI σ a i x (fun σ => nx L st σ bc bs))
  | .bastore => t3I st (fun x i a st => sB σ a i x (fun σ => nx L st σ bc bs))
  | .lastore => t3L st (fun x i a st => sL σ a i x (fun σ => nx L st σ bc bs))
  | .dastore => t3D st (fun x i a st => sD σ a i x (fun σ => nx L st σ bc bs))
  | .aastore => t3A st (fun x i a st => sQ E σ a i x (fun σ => nx L st σ bc bs))
  | .new i => xnew MC MS fin info st σ bc bs (fun st σ bc bs => nx L st σ bc bs)
  | .newarray i => xnewa MC MS xarr info st σ bc bs (fun st σ bc bs => nx L st σ bc bs)
  | .anewarray i => xnewa MC MS (fun _ => .inr (.inr (.inr (.inr fun _ => none)))) info st σ bc bs (fun st σ bc bs => nx L st σ bc bs)
  | .invokespecial i => xinit E call MC MS fin info st σ bc bs (fun st σ bc bs => nx L st σ bc bs)
  | .invokevirtual i => xinv E call MC MS fin info st σ bc bs (fun p => nz (Nat.ble (xcat st) 16) (xprim E p st σ (fun st σ => nx L st σ bc bs))) (fun st σ bc bs => nx L st σ bc bs)
  | .invokestatic i => xinv E call MC MS fin info st σ bc bs (fun p => nz (Nat.ble (xcat st) 16) (xprim E p st σ (fun st σ => nx L st σ bc bs))) (fun st σ bc bs => nx L st σ bc bs)
  | .ireturn => t1I st (fun x st => t0 st (xiret info x (fin (.inl (some (.int x)), σ))))
  | .lreturn => t1L st (fun x st => t0 st (fin (.inl (some (.long x)), σ)))
  | .freturn => t1F st (fun x st => t0 st (fin (.inl (some (.float x)), σ)))
  | .dreturn => t1D st (fun x st => t0 st (fin (.inl (some (.double x)), σ)))
  | .areturn => t1A st (fun x st => t0 st (fin (.inl (some (.ref x)), σ)))
  | .return_ => t0 st (fin (.inl none, σ))
  | _ => none
end STEP
end
section
/-! A step with its ways out as continuations is the step with its ways out as data, bound. -/
section PAR
variable {ρ ρ' : Type} {G : ρ' → Option ρ}
theorem xb_gV {σ : xH} {ci k a : Nat} {K : Value → Option ρ} {K' : Value → Option ρ'} (h : ∀ v, K v = (K' v).bind G) : gV σ ci k a K = (gV σ ci k a K').bind G := by
  unfold gV
  split
  · cases Nat.beq _ _
    · rfl
    · dsimp only [cond]
      split
      · exact h _
      · rfl
  · rfl
theorem xb_gI {σ : xH} {ci k a : Nat} {K : Int32 → Option ρ} {K' : Int32 → Option ρ'} (h : ∀ v, K v = (K' v).bind G) : gI σ ci k a K = (gI σ ci k a K').bind G := by
  refine xb_gV (fun v => ?_)
  cases v <;> first | exact h _ | rfl
theorem xb_gL {σ : xH} {ci k a : Nat} {K : Int64 → Option ρ} {K' : Int64 → Option ρ'} (h : ∀ v, K v = (K' v).bind G) : gL σ ci k a K = (gL σ ci k a K').bind G := by
  refine xb_gV (fun v => ?_)
  cases v <;> first | exact h _ | rfl
theorem xb_gR {σ : xH} {ci k a : Nat} {K : Nat → Option ρ} {K' : Nat → Option ρ'} (h : ∀ v, K v = (K' v).bind G) : gR σ ci k a K = (gR σ ci k a K').bind G := by
  refine xb_gV (fun v => ?_)
  cases v <;> first | exact h _ | rfl
theorem xb_if {b : Bool} {x : Option ρ} {y : Option ρ'} (h : x = y.bind G) : (bif b then x else none) = (bif b then y else none).bind G := by
  cases b
  · rfl
  · exact h
theorem xb_gP {σ : xH} {ci k a : Nat} {v : Value} {K : xH → Option ρ} {K' : xH → Option ρ'} (h : ∀ v, K v = (K' v).bind G) : gP σ ci k a v K = (gP σ ci k a v K').bind G := by
  unfold gP
  split
  · exact xb_if (h _)
  · rfl
theorem xb_gO {E : xEn} {σ : xH} {ci a : Nat} {K : Option ρ} {K' : Option ρ'} (h : K = K'.bind G) : gO E σ ci a K = (gO E σ ci a K').bind G := by
  unfold gO
  split
  · exact xb_if h
  · exact xb_if h
  · rfl
theorem xb_aI {E : xEn} {σ : xH} {a : Nat} {i : Int32} {K : Int32 → Option ρ} {K' : Int32 → Option ρ'} (h : ∀ v, K v = (K' v).bind G) : aI E σ a i K = (aI E σ a i K').bind G := by
  unfold aI
  split
  · exact xb_if (h _)
  · exact xb_if (h _)
  · rfl
theorem xb_aL {σ : xH} {a : Nat} {i : Int32} {K : Int64 → Option ρ} {K' : Int64 → Option ρ'} (h : ∀ v, K v = (K' v).bind G) : aL σ a i K = (aL σ a i K').bind G := by
  unfold aL
  split
  · exact xb_if (h _)
  · rfl
theorem xb_aD {σ : xH} {a : Nat} {i : Int32} {K : UInt64 → Option ρ} {K' : UInt64 → Option ρ'} (h : ∀ v, K v = (K' v).bind G) : aD σ a i K = (aD σ a i K').bind G := by
  unfold aD
  split
  · exact xb_if (h _)
  · rfl
theorem xb_aB {E : xEn} {σ : xH} {a : Nat} {i : Int32} {K : Int32 → Option ρ} {K' : Int32 → Option ρ'} (h : ∀ v, K v = (K' v).bind G) : aB E σ a i K = (aB E σ a i K').bind G := by
  unfold aB
  split
  · exact xb_if (h _)
  · split
    · exact xb_if (h _)
    · cases Nat.beq a (eD1 E) && xin i 100
      · exact xb_if (h _)
      · exact h _
  · rfl
theorem xb_aQ {E : xEn} {σ : xH} {a : Nat} {i : Int32} {K : Nat → Option ρ} {K' : Nat → Option ρ'} (h : ∀ v, K v = (K' v).bind G) : aQ E σ a i K = (aQ E σ a i K').bind G := by
  unfold aQ
  split
  · refine xb_if ?_
    split
    · exact h _
    · rfl
  · exact xb_if (h _)
  · rfl
theorem xb_aN {E : xEn} {σ : xH} {a : Nat} {K : Int32 → Option ρ} {K' : Int32 → Option ρ'} (h : ∀ v, K v = (K' v).bind G) : aN E σ a K = (aN E σ a K').bind G := by
  unfold aN
  split
  · exact xb_if (h _)
  · cases Nat.beq a E.2.2.2.1
    · dsimp only [cond]
      split
      · exact h _
      · cases Nat.beq a (eDc E)
        · exact xb_if (h _)
        · exact h _
    · exact h _
  · rfl
theorem xb_sI {σ : xH} {a : Nat} {i x : Int32} {K : xH → Option ρ} {K' : xH → Option ρ'} (h : ∀ v, K v = (K' v).bind G) : sI σ a i x K = (sI σ a i x K').bind G := by
  unfold sI
  split
  · exact xb_if (h _)
  · rfl
theorem xb_sB {σ : xH} {a : Nat} {i x : Int32} {K : xH → Option ρ} {K' : xH → Option ρ'} (h : ∀ v, K v = (K' v).bind G) : sB σ a i x K = (sB σ a i x K').bind G := by
  unfold sB
  split
  · exact xb_if (h _)
  · rfl
theorem xb_sL {σ : xH} {a : Nat} {i : Int32} {x : Int64} {K : xH → Option ρ} {K' : xH → Option ρ'} (h : ∀ v, K v = (K' v).bind G) : sL σ a i x K = (sL σ a i x K').bind G := by
  unfold sL
  split
  · exact xb_if (h _)
  · rfl
theorem xb_sD {σ : xH} {a : Nat} {i : Int32} {x : UInt64} {K : xH → Option ρ} {K' : xH → Option ρ'} (h : ∀ v, K v = (K' v).bind G) : sD σ a i x K = (sD σ a i x K').bind G := by
  unfold sD
  split
  · exact xb_if (h _)
  · rfl
theorem xb_sQ {E : xEn} {σ : xH} {a : Nat} {i : Int32} {b : Nat} {K : xH → Option ρ} {K' : xH → Option ρ'} (h : ∀ v, K v = (K' v).bind G) : sQ E σ a i b K = (sQ E σ a i b K').bind G := by
  unfold sQ
  split
  · exact xb_if (h _)
  · rfl
theorem xb_cpI {E : xEn} {σ : xH} {a b : Nat} {i j n : Int32} {K : xH → Option ρ} {K' : xH → Option ρ'} (h : ∀ v, K v = (K' v).bind G) : cpI E σ a i b j n K = (cpI E σ a i b j n K').bind G := by
  unfold cpI
  split
  · split
    · exact xb_if (h _)
    · split
      · exact xb_if (h _)
      · rfl
    · rfl
  · rfl
theorem xb_xck {σ : xH} {ci a : Nat} {K : Option ρ} {K' : Option ρ'} (h : K = K'.bind G) : xck σ ci a K = (xck σ ci a K').bind G := by
  unfold xck
  split
  · exact xb_if h
  · rfl
theorem xb_gU {E : xEn} {σ : xH} {a : Nat} {K : Nat → Option ρ} {K' : Nat → Option ρ'} (h : ∀ v, K v = (K' v).bind G) : gU E σ a K = (gU E σ a K').bind G := by
  unfold gU
  split
  · split
    · exact h _
    · rfl
  · exact xb_gR h
theorem xb_gC {E : xEn} {σ : xH} {a : Nat} {K : Int32 → Option ρ} {K' : Int32 → Option ρ'} (h : ∀ v, K v = (K' v).bind G) : gC E σ a K = (gC E σ a K').bind G := by
  unfold gC
  split
  · split
    · exact h _
    · rfl
  · exact xb_gI h
theorem xb_xans {T : xR → Option ρ} {T' : xR → Option ρ'} (hT : ∀ r, T r = (T' r).bind G) {tag : Nat} {r : Option xR} {k : List Value → xH → Option ρ} {k' : List Value → xH → Option ρ'} (h : ∀ v σ, k v σ = (k' v σ).bind G) : xans T tag r k = (xans T' tag r k').bind G := by
  unfold xans
  split
  · unfold cI; split <;> first | exact h _ _ | exact hT _ | rfl
  · unfold cL; split <;> first | exact h _ _ | exact hT _ | rfl
  · unfold cA; split <;> first | exact h _ _ | exact hT _ | rfl
  · unfold cF; split <;> first | exact h _ _ | exact hT _ | rfl
  · unfold cD; split <;> first | exact h _ _ | exact hT _ | rfl
  · unfold cV; split <;> first | exact h _ _ | exact hT _ | rfl
  · rfl
theorem xb_xfld {σ : xH} {info : List Nat} {a : Nat} {k : Value → Option ρ} {k' : Value → Option ρ'} (h : ∀ v, k v = (k' v).bind G) : xfld σ info a k = (xfld σ info a k').bind G := by
  unfold xfld
  split
  · exact xb_gI (fun _ => h _)
  · exact xb_gI (fun _ => h _)
  · exact xb_gI (fun _ => h _)
  · exact xb_gL (fun _ => h _)
  · exact xb_gR (fun _ => h _)
  · rfl
theorem xb_xput {σ : xH} {info : List Nat} {a : Nat} {v : Value} {k : xH → Option ρ} {k' : xH → Option ρ'} (h : ∀ v, k v = (k' v).bind G) : xput σ info a v k = (xput σ info a v k').bind G := by
  unfold xput
  split
  · exact xb_gP h
  · split
    · exact xb_gP h
    · rfl
  · split
    · exact xb_gP h
    · rfl
  · exact xb_gP h
  · exact xb_gP h
  · rfl
theorem xb_xthr {k : Nat} {T : xR → Option ρ} {T' : xR → Option ρ'} (hT : ∀ r, T r = (T' r).bind G) (r : xR) : xthr k T r = (xthr k T' r).bind G := xb_if (hT r)
theorem xb_xcall {E : xEn} {call : Nat → List Value → xH → Option xR} {MC MS : Nat} {T : xR → Option ρ} {T' : xR → Option ρ'} (hT : ∀ r, T r = (T' r).bind G) {info : List Nat} {st : List Value} {σ : xH} {bc bs : Nat} {k : List Value → xH → Nat → Nat → Option ρ} {k' : List Value → xH → Nat → Nat → Option ρ'} (h : ∀ st σ bc bs, k st σ bc bs = (k' st σ bc bs).bind G) : xcall E call MC MS T info st σ bc bs k = (xcall E call MC MS T' info st σ bc bs k').bind G := by
  unfold xcall
  split
  · refine xb_if ?_
    split
    · exact xb_xans (xb_xthr hT) (fun _ _ => h _ _ _ _)
    · split
      · exact xb_gO (xb_xans (xb_xthr hT) (fun _ _ => h _ _ _ _))
      · rfl
  · rfl
theorem xb_xprim {E : xEn} {prim : Nat} {st : List Value} {σ : xH} {k : List Value → xH → Option ρ} {k' : List Value → xH → Option ρ'} (h : ∀ st σ, k st σ = (k' st σ).bind G) : xprim E prim st σ k = (xprim E prim st σ k').bind G := by
  unfold xprim
  split <;> first | exact h _ _ | exact xb_cpI (fun _ => h _ _) | rfl
theorem xb_xcc {c : ClassFile.Cond} {x y : Int32} {t f : Option ρ} {t' f' : Option ρ'} (ht : t = t'.bind G) (hf : f = f'.bind G) : xcc c x y t f = (xcc c x y t' f').bind G := by
  unfold xcc
  cases c <;> dsimp only <;> split <;> assumption
theorem xb_xsw {x : Int32} {d : Nat} {K : Nat → Option ρ} {K' : Nat → Option ρ'} (h : ∀ t, K t = (K' t).bind G) : ∀ (ts : List Nat) (lo : Nat), xsw x d K lo ts = (xsw x d K' lo ts).bind G := by
  intro ts
  induction ts with
  | nil => exact fun lo => h d
  | cons t ts ih =>
    intro lo
    unfold xsw
    split
    · exact h t
    · exact ih _
theorem xb_ite {c : Prop} [Decidable c] {x y : Option ρ} {x' y' : Option ρ'} (hx : x = x'.bind G) (hy : y = y'.bind G) : (if c then x else y) = (if c then x' else y').bind G := by
  split <;> assumption
theorem xb_kkI {o : Option Value} {k : Int32 → Option ρ} {k' : Int32 → Option ρ'} (h : ∀ x, k x = (k' x).bind G) : kkI o k = (kkI o k').bind G := by
  unfold kkI; split <;> first | exact h _ | rfl
theorem xb_t1I {st : List Value} {k : Int32 → List Value → Option ρ} {k' : Int32 → List Value → Option ρ'} (h : ∀ x st, k x st = (k' x st).bind G) : t1I st k = (t1I st k').bind G := by
  unfold t1I; split <;> first | exact h _ _ | rfl
theorem xb_t2I {st : List Value} {k : Int32 → Int32 → List Value → Option ρ} {k' : Int32 → Int32 → List Value → Option ρ'} (h : ∀ x y st, k x y st = (k' x y st).bind G) : t2I st k = (t2I st k').bind G := by
  unfold t2I; split <;> first | exact h _ _ _ | rfl
theorem xb_kkL {o : Option Value} {k : Int64 → Option ρ} {k' : Int64 → Option ρ'} (h : ∀ x, k x = (k' x).bind G) : kkL o k = (kkL o k').bind G := by
  unfold kkL; split <;> first | exact h _ | rfl
theorem xb_t1L {st : List Value} {k : Int64 → List Value → Option ρ} {k' : Int64 → List Value → Option ρ'} (h : ∀ x st, k x st = (k' x st).bind G) : t1L st k = (t1L st k').bind G := by
  unfold t1L; split <;> first | exact h _ _ | rfl
theorem xb_t2L {st : List Value} {k : Int64 → Int64 → List Value → Option ρ} {k' : Int64 → Int64 → List Value → Option ρ'} (h : ∀ x y st, k x y st = (k' x y st).bind G) : t2L st k = (t2L st k').bind G := by
  unfold t2L; split <;> first | exact h _ _ _ | rfl
theorem xb_kkF {o : Option Value} {k : UInt32 → Option ρ} {k' : UInt32 → Option ρ'} (h : ∀ x, k x = (k' x).bind G) : kkF o k = (kkF o k').bind G := by
  unfold kkF; split <;> first | exact h _ | rfl
theorem xb_t1F {st : List Value} {k : UInt32 → List Value → Option ρ} {k' : UInt32 → List Value → Option ρ'} (h : ∀ x st, k x st = (k' x st).bind G) : t1F st k = (t1F st k').bind G := by
  unfold t1F; split <;> first | exact h _ _ | rfl
theorem xb_t2F {st : List Value} {k : UInt32 → UInt32 → List Value → Option ρ} {k' : UInt32 → UInt32 → List Value → Option ρ'} (h : ∀ x y st, k x y st = (k' x y st).bind G) : t2F st k = (t2F st k').bind G := by
  unfold t2F; split <;> first | exact h _ _ _ | rfl
theorem xb_kkD {o : Option Value} {k : UInt64 → Option ρ} {k' : UInt64 → Option ρ'} (h : ∀ x, k x = (k' x).bind G) : kkD o k = (kkD o k').bind G := by
  unfold kkD; split <;> first | exact h _ | rfl
theorem xb_t1D {st : List Value} {k : UInt64 → List Value → Option ρ} {k' : UInt64 → List Value → Option ρ'} (h : ∀ x st, k x st = (k' x st).bind G) : t1D st k = (t1D st k').bind G := by
  unfold t1D; split <;> first | exact h _ _ | rfl
theorem xb_t2D {st : List Value} {k : UInt64 → UInt64 → List Value → Option ρ} {k' : UInt64 → UInt64 → List Value → Option ρ'} (h : ∀ x y st, k x y st = (k' x y st).bind G) : t2D st k = (t2D st k').bind G := by
  unfold t2D; split <;> first | exact h _ _ _ | rfl
theorem xb_kkA {o : Option Value} {k : Nat → Option ρ} {k' : Nat → Option ρ'} (h : ∀ x, k x = (k' x).bind G) : kkA o k = (kkA o k').bind G := by
  unfold kkA; split <;> first | exact h _ | rfl
theorem xb_t1A {st : List Value} {k : Nat → List Value → Option ρ} {k' : Nat → List Value → Option ρ'} (h : ∀ x st, k x st = (k' x st).bind G) : t1A st k = (t1A st k').bind G := by
  unfold t1A; split <;> first | exact h _ _ | rfl
theorem xb_t2A {st : List Value} {k : Nat → Nat → List Value → Option ρ} {k' : Nat → Nat → List Value → Option ρ'} (h : ∀ x y st, k x y st = (k' x y st).bind G) : t2A st k = (t2A st k').bind G := by
  unfold t2A; split <;> first | exact h _ _ _ | rfl
theorem xb_t3I {st : List Value} {k : Int32 → Int32 → Nat → List Value → Option ρ} {k' : Int32 → Int32 → Nat → List Value → Option ρ'} (h : ∀ x i a st, k x i a st = (k' x i a st).bind G) : t3I st k = (t3I st k').bind G := by
  unfold t3I; split <;> first | exact h _ _ _ _ | rfl
theorem xb_t3L {st : List Value} {k : Int64 → Int32 → Nat → List Value → Option ρ} {k' : Int64 → Int32 → Nat → List Value → Option ρ'} (h : ∀ x i a st, k x i a st = (k' x i a st).bind G) : t3L st k = (t3L st k').bind G := by
  unfold t3L; split <;> first | exact h _ _ _ _ | rfl
theorem xb_t3D {st : List Value} {k : UInt64 → Int32 → Nat → List Value → Option ρ} {k' : UInt64 → Int32 → Nat → List Value → Option ρ'} (h : ∀ x i a st, k x i a st = (k' x i a st).bind G) : t3D st k = (t3D st k').bind G := by
  unfold t3D; split <;> first | exact h _ _ _ _ | rfl
theorem xb_t3A {st : List Value} {k : Nat → Int32 → Nat → List Value → Option ρ} {k' : Nat → Int32 → Nat → List Value → Option ρ'} (h : ∀ x i a st, k x i a st = (k' x i a st).bind G) : t3A st k = (t3A st k').bind G := by
  unfold t3A; split <;> first | exact h _ _ _ _ | rfl
theorem xb_t2X {st : List Value} {k : Int32 → Nat → List Value → Option ρ} {k' : Int32 → Nat → List Value → Option ρ'} (h : ∀ i a st, k i a st = (k' i a st).bind G) : t2X st k = (t2X st k').bind G := by
  unfold t2X; split <;> first | exact h _ _ _ | rfl
theorem xb_tV {st : List Value} {k : Value → List Value → Option ρ} {k' : Value → List Value → Option ρ'} (h : ∀ v st, k v st = (k' v st).bind G) : tV st k = (tV st k').bind G := by
  unfold tV; split <;> first | exact xb_if (h _ _) | rfl
theorem xb_tVA {st : List Value} {k : Value → Nat → List Value → Option ρ} {k' : Value → Nat → List Value → Option ρ'} (h : ∀ v a st, k v a st = (k' v a st).bind G) : tVA st k = (tVA st k').bind G := by
  unfold tVA; split <;> first | exact h _ _ _ | rfl
theorem xb_t0 {st : List Value} {k : Option ρ} {k' : Option ρ'} (h : k = k'.bind G) : t0 st k = (t0 st k').bind G := by
  unfold t0; split <;> first | exact h | rfl
theorem xb_i1 {info : List Nat} {k : Nat → Option ρ} {k' : Nat → Option ρ'} (h : ∀ t, k t = (k' t).bind G) : i1 info k = (i1 info k').bind G := by
  unfold i1; split <;> first | exact h _ | rfl
theorem xb_iSw {info : List Nat} {k : Nat → Nat → List Nat → Option ρ} {k' : Nat → Nat → List Nat → Option ρ'} (h : ∀ d lo ts, k d lo ts = (k' d lo ts).bind G) : iSw info k = (iSw info k').bind G := by
  unfold iSw; split <;> first | exact h _ _ _ | rfl
theorem xb_nz {b : Bool} {x : Option ρ} {y : Option ρ'} (h : x = y.bind G) : nz b x = (nz b y).bind G := xb_if h
theorem xb_iK {E : xEn} {info : List Nat} {k : Value → Option ρ} {k' : Value → Option ρ'} (h : ∀ v, k v = (k' v).bind G) : iK E info k = (iK E info k').bind G := by
  unfold iK; split <;> first | exact h _ | exact xb_if (h _) | rfl
theorem xb_iK2 {info : List Nat} {k : Int64 → Option ρ} {k' : Int64 → Option ρ'} (h : ∀ v, k v = (k' v).bind G) : iK2 info k = (iK2 info k').bind G := by
  unfold iK2; split <;> first | exact h _ | rfl
theorem xb_iD {info : List Nat} {k : UInt64 → Option ρ} {k' : UInt64 → Option ρ'} (h : ∀ v, k v = (k' v).bind G) : iD info k = (iD info k').bind G := by
  unfold iD; split <;> first | exact h _ | rfl
theorem xb_iF {info : List Nat} {k : UInt32 → Option ρ} {k' : UInt32 → Option ρ'} (h : ∀ v, k v = (k' v).bind G) : iF info k = (iF info k').bind G := by
  unfold iF; split <;> first | exact h _ | rfl
theorem xb_xgf {E : xEn} {σ : xH} {info : List Nat} {a : Nat} {k : Value → Option ρ} {k' : Value → Option ρ'} (h : ∀ v, k v = (k' v).bind G) : xgf E σ info a k = (xgf E σ info a k').bind G := by
  unfold xgf
  split
  · split <;> first | exact h _ | rfl
  · exact xb_gU (fun _ => h _)
  · exact xb_gC (fun _ => h _)
  · exact xb_xfld h
theorem xb_xgs {E : xEn} {info : List Nat} {k : Value → Option ρ} {k' : Value → Option ρ'} (h : ∀ v, k v = (k' v).bind G) : xgs E info k = (xgs E info k').bind G := by
  unfold xgs
  split <;> first | exact h _ | exact xb_if (h _) | rfl
theorem xb_xnew {MC MS : Nat} {fin : xR → Option ρ} {fin' : xR → Option ρ'} (hfin : ∀ r, fin r = (fin' r).bind G) {info : List Nat} {st : List Value} {σ : xH} {bc bs : Nat} {k : List Value → xH → Nat → Nat → Option ρ} {k' : List Value → xH → Nat → Nat → Option ρ'} (h : ∀ st σ bc bs, k st σ bc bs = (k' st σ bc bs).bind G) : xnew MC MS fin info st σ bc bs k = (xnew MC MS fin' info st σ bc bs k').bind G := by
  unfold xnew; split <;> first | exact xb_if (h _ _ _ _) | exact xb_if (hfin _) | rfl
theorem xb_xnewa {MC MS : Nat} {x : Nat → (Nat → Int32) ⊕ (Nat → Int64) ⊕ (Nat → UInt32) ⊕ (Nat → UInt64) ⊕ (Nat → Option Nat)} {info : List Nat} {st : List Value} {σ : xH} {bc bs : Nat} {k : List Value → xH → Nat → Nat → Option ρ} {k' : List Value → xH → Nat → Nat → Option ρ'} (h : ∀ st σ bc bs, k st σ bc bs = (k' st σ bc bs).bind G) : xnewa MC MS x info st σ bc bs k = (xnewa MC MS x info st σ bc bs k').bind G := xb_t1I fun _ _ => xb_i1 fun _ => xb_if (h _ _ _ _)
theorem xb_xinv {E : xEn} {call : Nat → List Value → xH → Option xR} {MC MS : Nat} {fin : xR → Option ρ} {fin' : xR → Option ρ'} (hfin : ∀ r, fin r = (fin' r).bind G) {info : List Nat} {st : List Value} {σ : xH} {bc bs : Nat} {pr : Nat → Option ρ} {pr' : Nat → Option ρ'} (hp : ∀ p, pr p = (pr' p).bind G) {k : List Value → xH → Nat → Nat → Option ρ} {k' : List Value → xH → Nat → Nat → Option ρ'} (h : ∀ st σ bc bs, k st σ bc bs = (k' st σ bc bs).bind G) : xinv E call MC MS fin info st σ bc bs pr k = (xinv E call MC MS fin' info st σ bc bs pr' k').bind G := by
  unfold xinv; split <;> first | exact hp _ | exact xb_xcall hfin h
theorem xb_xinit {E : xEn} {call : Nat → List Value → xH → Option xR} {MC MS : Nat} {fin : xR → Option ρ} {fin' : xR → Option ρ'} (hfin : ∀ r, fin r = (fin' r).bind G) {info : List Nat} {st : List Value} {σ : xH} {bc bs : Nat} {k : List Value → xH → Nat → Nat → Option ρ} {k' : List Value → xH → Nat → Nat → Option ρ'} (h : ∀ st σ bc bs, k st σ bc bs = (k' st σ bc bs).bind G) : xinit E call MC MS fin info st σ bc bs k = (xinit E call MC MS fin' info st σ bc bs k').bind G := by
  unfold xinit; split <;> first | exact xb_t1A (fun _ _ => xb_if (h _ _ _ _)) | exact xb_xcall hfin h
theorem xb_xiret {info : List Nat} {x : Int32} {k : Option ρ} {k' : Option ρ'} (h : k = k'.bind G) : xiret info x k = (xiret info x k').bind G := by
  unfold xiret; split <;> first | exact h | exact xb_if h | rfl
theorem xb_xac {c : ACond} {b : Bool} {t f : Option ρ} {t' f' : Option ρ'} (ht : t = t'.bind G) (hf : f = f'.bind G) : xac c b t f = (xac c b t' f').bind G := by
  unfold xac; cases c <;> cases b <;> assumption
theorem xb_step {E : xEn} {call : Nat → List Value → xH → Option xR} {MC MS : Nat} {fin : xR → Option ρ} {fin' : xR → Option ρ'} (hfin : ∀ r, fin r = (fin' r).bind G)
    {K : Nat → xL → List Value → xH → Nat → Nat → Option ρ} {K' : Nat → xL → List Value → xH → Nat → Nat → Option ρ'} (hK : ∀ t L st σ bc bs, K t L st σ bc bs = (K' t L st σ bc bs).bind G)
    {nx : xL → List Value → xH → Nat → Nat → Option ρ} {nx' : xL → List Value → xH → Nat → Nat → Option ρ'} (hnx : ∀ L st σ bc bs, nx L st σ bc bs = (nx' L st σ bc bs).bind G)
    (ins : Instr) (info : List Nat) (L : xL) (st : List Value) (σ : xH) (bc bs : Nat) :
    xstep E call MC MS fin K nx ins info L st σ bc bs = (xstep E call MC MS fin' K' nx' ins info L st σ bc bs).bind G := by
  cases ins with
  | iconst i => exact hnx _ _ _ _ _
  | bipush i => exact hnx _ _ _ _ _
  | sipush i => exact hnx _ _ _ _ _
  | lconst i => exact hnx _ _ _ _ _
  | dconst i => exact xb_iD (fun _ => hnx _ _ _ _ _)
  | fconst i => show (iF info (fun v => nx L (.float v :: st) σ bc bs)) = (iF info (fun v => nx' L (.float v :: st) σ bc bs)).bind G; exact xb_iF (fun _ => hnx _ _ _ _ _)
  | ldc i => show (iK E info (fun v => nx L (v :: st) σ bc bs)) = (iK E info (fun v => nx' L (v :: st) σ bc bs)).bind G; exact xb_iK (fun _ => hnx _ _ _ _ _)
  | ldc_w i => show (iK E info (fun v => nx L (v :: st) σ bc bs)) = (iK E info (fun v => nx' L (v :: st) σ bc bs)).bind G; exact xb_iK (fun _ => hnx _ _ _ _ _)
  | ldc2_w i => show (iK2 info (fun v => nx L (.long v :: st) σ bc bs)) = (iK2 info (fun v => nx' L (.long v :: st) σ bc bs)).bind G; exact xb_iK2 (fun _ => hnx _ _ _ _ _)
  | iload i => exact xb_kkI (fun _ => hnx _ _ _ _ _)
  | iload_n i => exact xb_kkI (fun _ => hnx _ _ _ _ _)
  | lload i => exact xb_kkL (fun _ => hnx _ _ _ _ _)
  | lload_n i => exact xb_kkL (fun _ => hnx _ _ _ _ _)
  | dload i => exact xb_kkD (fun _ => hnx _ _ _ _ _)
  | aload i => exact xb_kkA (fun _ => hnx _ _ _ _ _)
  | aload_n i => exact xb_kkA (fun _ => hnx _ _ _ _ _)
  | istore i => exact xb_t1I (fun _ _ => hnx _ _ _ _ _)
  | istore_n i => exact xb_t1I (fun _ _ => hnx _ _ _ _ _)
  | lstore i => exact xb_t1L (fun _ _ => hnx _ _ _ _ _)
  | lstore_n i => exact xb_t1L (fun _ _ => hnx _ _ _ _ _)
  | dstore i => exact xb_t1D (fun _ _ => hnx _ _ _ _ _)
  | astore i => exact xb_t1A (fun _ _ => hnx _ _ _ _ _)
  | astore_n i => exact xb_t1A (fun _ _ => hnx _ _ _ _ _)
  | iinc i c => exact xb_kkI (fun _ => hnx _ _ _ _ _)
  | iadd => exact xb_t2I (fun _ _ _ => hnx _ _ _ _ _)
  | isub => exact xb_t2I (fun _ _ _ => hnx _ _ _ _ _)
  | imul => exact xb_t2I (fun _ _ _ => hnx _ _ _ _ _)
  | iand => exact xb_t2I (fun _ _ _ => hnx _ _ _ _ _)
  | ior => exact xb_t2I (fun _ _ _ => hnx _ _ _ _ _)
  | ixor => exact xb_t2I (fun _ _ _ => hnx _ _ _ _ _)
  | aconst_null => exact hnx _ _ _ _ _
  | ineg => exact xb_t1I (fun _ _ => hnx _ _ _ _ _)
  | dup_x1 => exact xb_tV (fun _ _ => xb_tV (fun _ _ => hnx _ _ _ _ _))
  | checkcast i => exact xb_t1A (fun _ _ => xb_i1 (fun _ => xb_xck (hnx _ _ _ _ _)))
  | ishl => exact xb_t2I (fun _ _ _ => hnx _ _ _ _ _)
  | ishr => exact xb_t2I (fun _ _ _ => hnx _ _ _ _ _)
  | idiv => exact xb_t2I (fun _ _ _ => xb_nz (hnx _ _ _ _ _))
  | irem => exact xb_t2I (fun _ _ _ => xb_nz (hnx _ _ _ _ _))
  | ladd => exact xb_t2L (fun _ _ _ => hnx _ _ _ _ _)
  | lsub => exact xb_t2L (fun _ _ _ => hnx _ _ _ _ _)
  | lmul => exact xb_t2L (fun _ _ _ => hnx _ _ _ _ _)
  | ldiv => exact xb_t2L (fun _ _ _ => xb_nz (hnx _ _ _ _ _))
  | lrem => exact xb_t2L (fun _ _ _ => xb_nz (hnx _ _ _ _ _))
  | lcmp => exact xb_t2L (fun _ _ _ => hnx _ _ _ _ _)
  | i2l => exact xb_t1I (fun _ _ => hnx _ _ _ _ _)
  | l2i => exact xb_t1L (fun _ _ => hnx _ _ _ _ _)
  | i2b => exact xb_t1I (fun _ _ => hnx _ _ _ _ _)
  | i2c => exact xb_t1I (fun _ _ => hnx _ _ _ _ _)
  | i2d => exact xb_t1I (fun _ _ => hnx _ _ _ _ _)
  | l2d => exact xb_t1L (fun _ _ => hnx _ _ _ _ _)
  | i2f => exact xb_t1I (fun _ _ => hnx _ _ _ _ _)
  | l2f => exact xb_t1L (fun _ _ => hnx _ _ _ _ _)
  | f2d => exact xb_t1F (fun _ _ => xb_nz (hnx _ _ _ _ _))
  | fdiv => exact xb_t2F (fun _ _ _ => xb_nz (hnx _ _ _ _ _))
  | fsub => exact xb_t2F (fun _ _ _ => xb_nz (hnx _ _ _ _ _))
  | ddiv => exact xb_t2D (fun _ _ _ => xb_nz (hnx _ _ _ _ _))
  | dcmp o => exact xb_t2D (fun _ _ _ => hnx _ _ _ _ _)
  | dup => exact xb_tV (fun _ _ => hnx _ _ _ _ _)
  | dup2 => exact xb_tV (fun _ _ => xb_tV (fun _ _ => hnx _ _ _ _ _))
  | pop => exact xb_tV (fun _ _ => hnx _ _ _ _ _)
  | ifCond c o => exact xb_t1I (fun _ _ => xb_i1 (fun _ => xb_xcc (hK _ _ _ _ _ _) (hnx _ _ _ _ _)))
  | if_icmp c o => exact xb_t2I (fun _ _ _ => xb_i1 (fun _ => xb_xcc (hK _ _ _ _ _ _) (hnx _ _ _ _ _)))
  | if_acmp c o => exact xb_t2A (fun _ _ _ => xb_i1 (fun _ => xb_xac (hK _ _ _ _ _ _) (hnx _ _ _ _ _)))
  | goto o => exact xb_i1 (fun _ => hK _ _ _ _ _ _)
  | tableswitch a b c d => exact xb_t1I (fun _ _ => xb_iSw (fun _ _ _ => xb_xsw (fun _ => hK _ _ _ _ _ _) _ _))
  | getfield i => exact xb_t1A (fun _ _ => xb_xgf (fun _ => hnx _ _ _ _ _))
  | putfield i => exact xb_tVA (fun _ _ _ => xb_xput (fun _ => hnx _ _ _ _ _))
  | getstatic i => show (xgs E info (fun v => nx L (v :: st) σ bc bs)) = (xgs E info (fun v => nx' L (v :: st) σ bc bs)).bind G; exact xb_xgs (fun _ => hnx _ _ _ _ _)
  | iaload => exact xb_t2X (fun _ _ _ => xb_aI (fun _ => hnx _ _ _ _ _))
  | baload => exact xb_t2X (fun _ _ _ => xb_aB (fun _ => hnx _ _ _ _ _))
  | laload => exact xb_t2X (fun _ _ _ => xb_aL (fun _ => hnx _ _ _ _ _))
  | daload => exact xb_t2X (fun _ _ _ => xb_aD (fun _ => hnx _ _ _ _ _))
  | aaload => exact xb_t2X (fun _ _ _ => xb_aQ (fun _ => hnx _ _ _ _ _))
  | arraylength => exact xb_t1A (fun _ _ => xb_aN (fun _ => hnx _ _ _ _ _))
  | iastore => exact xb_t3I (fun _ _ _ _ => xb_sI (fun _ => hnx _ _ _ _ _))
  | bastore => exact xb_t3I (fun _ _ _ _ => xb_sB (fun _ => hnx _ _ _ _ _))
  | lastore => exact xb_t3L (fun _ _ _ _ => xb_sL (fun _ => hnx _ _ _ _ _))
  | dastore => exact xb_t3D (fun _ _ _ _ => xb_sD (fun _ => hnx _ _ _ _ _))
  | aastore => exact xb_t3A (fun _ _ _ _ => xb_sQ (fun _ => hnx _ _ _ _ _))
  | new i => exact xb_xnew hfin (fun _ _ _ _ => hnx _ _ _ _ _)
  | newarray i => exact xb_xnewa (fun _ _ _ _ => hnx _ _ _ _ _)
  | anewarray i => exact xb_xnewa (fun _ _ _ _ => hnx _ _ _ _ _)
  | invokespecial i => exact xb_xinit hfin (fun _ _ _ _ => hnx _ _ _ _ _)
  | invokevirtual i => exact xb_xinv hfin (fun _ => xb_nz (xb_xprim (fun _ _ => hnx _ _ _ _ _))) (fun _ _ _ _ => hnx _ _ _ _ _)
  | invokestatic i => exact xb_xinv hfin (fun _ => xb_nz (xb_xprim (fun _ _ => hnx _ _ _ _ _))) (fun _ _ _ _ => hnx _ _ _ _ _)
  | ireturn => exact xb_t1I (fun _ _ => xb_t0 (xb_xiret (hfin _)))
  | lreturn => exact xb_t1L (fun _ _ => xb_t0 (hfin _))
  | freturn => exact xb_t1F (fun _ _ => xb_t0 (hfin _))
  | dreturn => exact xb_t1D (fun _ _ => xb_t0 (hfin _))
  | areturn => exact xb_t1A (fun _ _ => xb_t0 (hfin _))
  | return_ => exact xb_t0 (hfin _)
  | _ => rfl
end PAR
/-! a block: instructions one behind another -/
section BLK
variable {ρ : Type}
def exB (E : xEn) (call : Nat → List Value → xH → Option xR) (MC MS : Nat) (fin : xR → Option ρ) (K : Nat → xL → List Value → xH → Nat → Nat → Option ρ) (ep : Nat) : List xI → xL → List Value → xH → Nat → Nat → Option ρ
  | [] => fun L st σ bc bs => K ep L st σ bc bs
  | i :: r => fun L st σ bc bs => xstep E call MC MS fin K (exB E call MC MS fin K ep r) i.2.1 i.2.2 L st σ bc bs
end BLK
theorem xb_exB {ρ ρ' : Type} {G : ρ' → Option ρ} {E : xEn} {call : Nat → List Value → xH → Option xR} {MC MS : Nat} {fin : xR → Option ρ} {fin' : xR → Option ρ'} (hfin : ∀ r, fin r = (fin' r).bind G)
    {K : Nat → xL → List Value → xH → Nat → Nat → Option ρ} {K' : Nat → xL → List Value → xH → Nat → Nat → Option ρ'} (hK : ∀ t L st σ bc bs, K t L st σ bc bs = (K' t L st σ bc bs).bind G) (ep : Nat) :
    ∀ (is : List xI) (L : xL) (st : List Value) (σ : xH) (bc bs : Nat), exB E call MC MS fin K ep is L st σ bc bs = (exB E call MC MS fin' K' ep is L st σ bc bs).bind G := by
  intro is
  induction is with
  | nil => exact fun _ _ _ _ _ => hK _ _ _ _ _ _
  | cons i r ih => exact fun L st σ bc bs => xb_step hfin hK ih _ _ _ _ _ _ _
end
section
/-! A METHOD'S RUN: block by block; its value is what some number of blocks comes to. -/
abbrev xBl : Type := List (Nat × List Nat × List xI × Nat)
def xlk : xBl → Nat → Option (List Nat × List xI × Nat)
  | [], _ => none
  | b :: bs, pc => bif Nat.beq b.1 pc then some b.2 else xlk bs pc
noncomputable def xli {α : Type} (f : Nat → Option α) : Option α := @dite _ (∃ r, ∃ n, f n = some r) (Classical.propDecidable _) (fun h => some h.choose) (fun _ => none)
theorem xli_some {α : Type} {f : Nat → Option α} (hm : ∀ n r, f n = some r → f (n + 1) = some r) {n : Nat} {r : α} (h : f n = some r) : xli f = some r := by
  have up : ∀ k m r, f m = some r → f (m + k) = some r := by
    intro k
    induction k with
    | zero => exact fun _ _ h => h
    | succ k ih => exact fun m r h => hm _ _ (ih m r h)
  have hx : ∃ r, ∃ n, f n = some r := ⟨r, n, h⟩
  unfold xli
  rw [dif_pos hx]
  obtain ⟨n', h'⟩ := hx.choose_spec
  have h1 := up n' n r h
  have h2 := up n n' _ h'
  rw [Nat.add_comm] at h2
  rw [h2] at h1
  exact h1
theorem xli_of {α : Type} {f : Nat → Option α} {r : α} (h : xli f = some r) : ∃ n, f n = some r := by
  unfold xli at h
  split at h
  · next hx =>
    obtain ⟨n, h'⟩ := hx.choose_spec
    exact ⟨n, by rw [← Option.some.inj h]; exact h'⟩
  · cases h
theorem xli_none {α : Type} {f : Nat → Option α} (h : ∀ n r, f n ≠ some r) : xli f = none := by
  unfold xli
  rw [dif_neg]
  rintro ⟨r, n, hn⟩
  exact h n r hn
section RUN
variable (E : xEn) (call : Nat → List Value → xH → Option xR) (MC MS : Nat) (bl : xBl)
/-- one block, its ways out as data -/
def xex (j : xJ) : Option (xR ⊕ xJ) := match xlk bl j.1 with
  | some b => exB E call MC MS (fun r => some (.inl r)) (fun t L st σ bc bs => some (.inr (t, L, st, σ, bc, bs))) b.2.2 b.2.1 (xpick j.2.1 b.1) j.2.2.1 j.2.2.2.1 j.2.2.2.2.1 j.2.2.2.2.2
  | none => none
def xrn : Nat → xJ → Option xR
  | 0, _ => none
  | n + 1, j => (xex E call MC MS bl j).bind (Sum.elim some (xrn n))
noncomputable def xval (j : xJ) : Option xR := xli (fun n => xrn E call MC MS bl n j)
theorem xrn_mono : ∀ (n : Nat) (j : xJ) (r : xR), xrn E call MC MS bl n j = some r → xrn E call MC MS bl (n + 1) j = some r := by
  intro n
  induction n with
  | zero => exact fun _ _ h => by cases h
  | succ n ih =>
    intro j r h
    unfold xrn at h ⊢
    cases hx : xex E call MC MS bl j with
    | none => rw [hx] at h; cases h
    | some x =>
      rw [hx] at h
      cases x with
      | inl q => exact h
      | inr j' => exact ih j' r h
theorem xval_some {n : Nat} {j : xJ} {r : xR} (h : xrn E call MC MS bl n j = some r) : xval E call MC MS bl j = some r := xli_some (fun n r => xrn_mono E call MC MS bl n j r) h
theorem xval_eq (j : xJ) : xval E call MC MS bl j = (xex E call MC MS bl j).bind (Sum.elim some (xval E call MC MS bl)) := by
  cases hx : xex E call MC MS bl j with
  | none =>
    refine xli_none (fun n r h => ?_)
    cases n with
    | zero => cases h
    | succ n => unfold xrn at h; rw [hx] at h; cases h
  | some x =>
    cases x with
    | inl q => exact xval_some E call MC MS bl (n := 1) (by unfold xrn; rw [hx]; rfl)
    | inr j' =>
      show _ = xval E call MC MS bl j'
      cases hv : xval E call MC MS bl j' with
      | none =>
        refine xli_none (fun n r h => ?_)
        cases n with
        | zero => cases h
        | succ n =>
          unfold xrn at h
          rw [hx] at h
          have h1 : xval E call MC MS bl j' = some r := xval_some E call MC MS bl (n := n) h
          rw [hv] at h1
          cases h1
      | some r =>
        obtain ⟨n, hn⟩ := xli_of hv
        exact xval_some E call MC MS bl (n := n + 1) (by unfold xrn; rw [hx]; exact hn)
/-- from a block's head, its ways out as continuations -/
theorem xval_blk {pc : Nat} {b : List Nat × List xI × Nat} (hb : xlk bl pc = some b) (L : xL) (st : List Value) (σ : xH) (bc bs : Nat) :
    xval E call MC MS bl (pc, L, st, σ, bc, bs) = exB E call MC MS some (fun t L st σ bc bs => xval E call MC MS bl (t, L, st, σ, bc, bs)) b.2.2 b.2.1 (xpick L b.1) st σ bc bs := by
  rw [xval_eq]
  unfold xex
  dsimp only
  rw [hb]
  exact (xb_exB (G := Sum.elim some (xval E call MC MS bl)) (fun _ => rfl) (fun _ _ _ _ _ _ => rfl) _ _ _ _ _ _ _).symm
end RUN
/-- a method: its name, its bytes, how many locals, what it answers, the cells and slots that it may make; the table: its blocks and its class's pool -/
abbrev xMth : Type := MethodName × ByteArray × Nat × Option FieldType × Nat × Nat
abbrev xTab : Type := Nat → Option (xMth × xBl × List (Nat × Nat × List Nat))
/-- the two methods with a handler (the first two rows): what it makes of a throw -/
def xcat1 : Option xR → Option xR
  | some (.inr X, σ) => if X = "java/lang/IllegalStateException" then some (.inl (some (.int (-1001))), σ) else some (.inr X, σ)
  | r => r
def xcth : Nat → Option xR → Option xR
  | 0, r => xcat1 r
  | 1, r => xcat1 r
  | _ + 2, r => r
/-- the methods' values, calls nested at most d deep -/
noncomputable def xsem (T : xTab) (E : xEn) : Nat → Nat → List Value → xH → Option xR
  | 0 => fun _ _ _ => none
  | d + 1 => fun key args σ => xcth key <| match T key with
    | some (M, bl, _) => bif Nat.ble (xcat args) M.2.2.1 then xval E (xsem T E d) M.2.2.2.2.1 M.2.2.2.2.2 bl (0, lv_args 0 args, [], σ, 0, 0) else none
    | none => none
end
section
/-! What an answer of a step's arms tells of stack, locals, 'info'. -/
section INV
variable {ρ : Type} {z : ρ}
theorem iv_if {b : Bool} {k : Option ρ} (h : (bif b then k else none) = some z) : b = true ∧ k = some z := by
  cases b
  · cases h
  · exact ⟨rfl, h⟩
theorem iv_nz {b : Bool} {k : Option ρ} (h : nz b k = some z) : b = true ∧ k = some z := iv_if h
theorem iv_kkI {q : Option Value} {k : Int32 → Option ρ} (h : kkI q k = some z) : ∃ x, q = some (.int x) ∧ k x = some z := by
  unfold kkI at h
  split at h
  · exact ⟨_, rfl, h⟩
  · cases h
theorem iv_t1I {st : List Value} {k : Int32 → List Value → Option ρ} (h : t1I st k = some z) : ∃ x r, st = .int x :: r ∧ k x r = some z := by
  unfold t1I at h
  split at h
  · exact ⟨_, _, rfl, h⟩
  · cases h
theorem iv_t2I {st : List Value} {k : Int32 → Int32 → List Value → Option ρ} (h : t2I st k = some z) : ∃ x y r, st = .int y :: .int x :: r ∧ k x y r = some z := by
  unfold t2I at h
  split at h
  · exact ⟨_, _, _, rfl, h⟩
  · cases h
theorem iv_kkL {q : Option Value} {k : Int64 → Option ρ} (h : kkL q k = some z) : ∃ x, q = some (.long x) ∧ k x = some z := by
  unfold kkL at h
  split at h
  · exact ⟨_, rfl, h⟩
  · cases h
theorem iv_t1L {st : List Value} {k : Int64 → List Value → Option ρ} (h : t1L st k = some z) : ∃ x r, st = .long x :: r ∧ k x r = some z := by
  unfold t1L at h
  split at h
  · exact ⟨_, _, rfl, h⟩
  · cases h
theorem iv_t2L {st : List Value} {k : Int64 → Int64 → List Value → Option ρ} (h : t2L st k = some z) : ∃ x y r, st = .long y :: .long x :: r ∧ k x y r = some z := by
  unfold t2L at h
  split at h
  · exact ⟨_, _, _, rfl, h⟩
  · cases h
theorem iv_kkF {q : Option Value} {k : UInt32 → Option ρ} (h : kkF q k = some z) : ∃ x, q = some (.float x) ∧ k x = some z := by
  unfold kkF at h
  split at h
  · exact ⟨_, rfl, h⟩
  · cases h
theorem iv_t1F {st : List Value} {k : UInt32 → List Value → Option ρ} (h : t1F st k = some z) : ∃ x r, st = .float x :: r ∧ k x r = some z := by
  unfold t1F at h
  split at h
  · exact ⟨_, _, rfl, h⟩
  · cases h
theorem iv_t2F {st : List Value} {k : UInt32 → UInt32 → List Value → Option ρ} (h : t2F st k = some z) : ∃ x y r, st = .float y :: .float x :: r ∧ k x y r = some z := by
  unfold t2F at h
  split at h
  · exact ⟨_, _, _, rfl, h⟩
  · cases h
theorem iv_kkD {q : Option Value} {k : UInt64 → Option ρ} (h : kkD q k = some z) : ∃ x, q = some (.double x) ∧ k x = some z := by
  unfold kkD at h
  split at h
  · exact ⟨_, rfl, h⟩
  · cases h
theorem iv_t1D {st : List Value} {k : UInt64 → List Value → Option ρ} (h : t1D st k = some z) : ∃ x r, st = .double x :: r ∧ k x r = some z := by
  unfold t1D at h
  split at h
  · exact ⟨_, _, rfl, h⟩
  · cases h
theorem iv_t2D {st : List Value} {k : UInt64 → UInt64 → List Value → Option ρ} (h : t2D st k = some z) : ∃ x y r, st = .double y :: .double x :: r ∧ k x y r = some z := by
  unfold t2D at h
  split at h
  · exact ⟨_, _, _, rfl, h⟩
  · cases h
theorem iv_kkA {q : Option Value} {k : Nat → Option ρ} (h : kkA q k = some z) : ∃ x, q = some (.ref x) ∧ k x = some z := by
  unfold kkA at h
  split at h
  · exact ⟨_, rfl, h⟩
  · cases h
theorem iv_t1A {st : List Value} {k : Nat → List Value → Option ρ} (h : t1A st k = some z) : ∃ x r, st = .ref x :: r ∧ k x r = some z := by
  unfold t1A at h
  split at h
  · exact ⟨_, _, rfl, h⟩
  · cases h
theorem iv_t2A {st : List Value} {k : Nat → Nat → List Value → Option ρ} (h : t2A st k = some z) : ∃ x y r, st = .ref y :: .ref x :: r ∧ k x y r = some z := by
  unfold t2A at h
  split at h
  · exact ⟨_, _, _, rfl, h⟩
  · cases h
theorem iv_t3I {st : List Value} {k : Int32 → Int32 → Nat → List Value → Option ρ} (h : t3I st k = some z) : ∃ x i a r, st = .int x :: .int i :: .ref a :: r ∧ k x i a r = some z := by
  unfold t3I at h
  split at h
  · exact ⟨_, _, _, _, rfl, h⟩
  · cases h
theorem iv_t3L {st : List Value} {k : Int64 → Int32 → Nat → List Value → Option ρ} (h : t3L st k = some z) : ∃ x i a r, st = .long x :: .int i :: .ref a :: r ∧ k x i a r = some z := by
  unfold t3L at h
  split at h
  · exact ⟨_, _, _, _, rfl, h⟩
  · cases h
theorem iv_t3D {st : List Value} {k : UInt64 → Int32 → Nat → List Value → Option ρ} (h : t3D st k = some z) : ∃ x i a r, st = .double x :: .int i :: .ref a :: r ∧ k x i a r = some z := by
  unfold t3D at h
  split at h
  · exact ⟨_, _, _, _, rfl, h⟩
  · cases h
theorem iv_t3A {st : List Value} {k : Nat → Int32 → Nat → List Value → Option ρ} (h : t3A st k = some z) : ∃ x i a r, st = .ref x :: .int i :: .ref a :: r ∧ k x i a r = some z := by
  unfold t3A at h
  split at h
  · exact ⟨_, _, _, _, rfl, h⟩
  · cases h
theorem iv_t2X {st : List Value} {k : Int32 → Nat → List Value → Option ρ} (h : t2X st k = some z) : ∃ i a r, st = .int i :: .ref a :: r ∧ k i a r = some z := by
  unfold t2X at h
  split at h
  · exact ⟨_, _, _, rfl, h⟩
  · cases h
theorem iv_tV {st : List Value} {k : Value → List Value → Option ρ} (h : tV st k = some z) : ∃ v r, st = v :: r ∧ v.category = 1 ∧ k v r = some z := by
  unfold tV at h
  split at h
  · obtain ⟨h1, h2⟩ := iv_if h
    exact ⟨_, _, rfl, Nat.eq_of_beq_eq_true h1, h2⟩
  · cases h
theorem iv_tVA {st : List Value} {k : Value → Nat → List Value → Option ρ} (h : tVA st k = some z) : ∃ v a r, st = v :: .ref a :: r ∧ k v a r = some z := by
  unfold tVA at h
  split at h
  · exact ⟨_, _, _, rfl, h⟩
  · cases h
theorem iv_t0 {st : List Value} {k : Option ρ} (h : t0 st k = some z) : st = [] ∧ k = some z := by
  unfold t0 at h
  split at h
  · exact ⟨rfl, h⟩
  · cases h
theorem iv_i1 {info : List Nat} {k : Nat → Option ρ} (h : i1 info k = some z) : ∃ t, info = [t] ∧ k t = some z := by
  unfold i1 at h
  split at h
  · exact ⟨_, rfl, h⟩
  · cases h
theorem iv_iSw {info : List Nat} {k : Nat → Nat → List Nat → Option ρ} (h : iSw info k = some z) : ∃ d lo ts, info = d :: lo :: ts ∧ k d lo ts = some z := by
  unfold iSw at h
  split at h
  · exact ⟨_, _, _, rfl, h⟩
  · cases h
theorem iv_xsw {x : Int32} {d : Nat} {K : Nat → Option ρ} : ∀ (ts : List Nat) (lo : Nat), xsw x d K lo ts = some z → (∃ j t, ts[j]? = some t ∧ x = nI (lo + j) ∧ K t = some z) ∨ ((∀ j, j < ts.length → ¬ x = nI (lo + j)) ∧ K d = some z) := by
  intro ts
  induction ts with
  | nil => exact fun lo h => Or.inr ⟨fun j hj => absurd hj (Nat.not_lt_zero j), h⟩
  | cons t ts ih =>
    intro lo h
    unfold xsw at h
    split at h
    · next hx => exact Or.inl ⟨0, t, rfl, hx, h⟩
    · next hx =>
      rcases ih (lo + 1) h with ⟨j, t', h1, h2, h3⟩ | ⟨h1, h2⟩
      · exact Or.inl ⟨j + 1, t', by simpa using h1, by rw [h2]; congr 1; omega, h3⟩
      · refine Or.inr ⟨fun j hj => ?_, h2⟩
        cases j with
        | zero => exact hx
        | succ j =>
          have h3 := h1 j (by simpa using hj)
          rwa [show lo + 1 + j = lo + (j + 1) by omega] at h3
theorem iv_gV {σ : xH} {ci k a : Nat} {K : Value → Option ρ} (h : gV σ ci k a K = some z) : ∃ fs v, σ.1 a = some (.inr (ci, fs)) ∧ fs[k]? = some v ∧ K v = some z := by
  unfold gV at h
  split at h
  · next c fs he =>
    obtain ⟨h1, h2⟩ := iv_if h
    have hc := Nat.eq_of_beq_eq_true h1
    subst hc
    split at h2
    · next v hv => exact ⟨fs, v, he, hv, h2⟩
    · cases h2
  · cases h
theorem iv_gI {σ : xH} {ci k a : Nat} {K : Int32 → Option ρ} (h : gI σ ci k a K = some z) : ∃ fs x, σ.1 a = some (.inr (ci, fs)) ∧ fs[k]? = some (.int x) ∧ K x = some z := by
  obtain ⟨fs, v, h1, h2, h3⟩ := iv_gV h
  cases v <;> first | exact ⟨fs, _, h1, h2, h3⟩ | cases h3
theorem iv_gL {σ : xH} {ci k a : Nat} {K : Int64 → Option ρ} (h : gL σ ci k a K = some z) : ∃ fs x, σ.1 a = some (.inr (ci, fs)) ∧ fs[k]? = some (.long x) ∧ K x = some z := by
  obtain ⟨fs, v, h1, h2, h3⟩ := iv_gV h
  cases v <;> first | exact ⟨fs, _, h1, h2, h3⟩ | cases h3
theorem iv_gR {σ : xH} {ci k a : Nat} {K : Nat → Option ρ} (h : gR σ ci k a K = some z) : ∃ fs x, σ.1 a = some (.inr (ci, fs)) ∧ fs[k]? = some (.ref x) ∧ K x = some z := by
  obtain ⟨fs, v, h1, h2, h3⟩ := iv_gV h
  cases v <;> first | exact ⟨fs, _, h1, h2, h3⟩ | cases h3
theorem iv_gP {σ : xH} {ci k a : Nat} {v : Value} {K : xH → Option ρ} (h : gP σ ci k a v K = some z) : ∃ fs, σ.1 a = some (.inr (ci, fs)) ∧ k < fs.length ∧ K (xup σ.1 a (.inr (ci, fs.set k v)), σ.2) = some z := by
  unfold gP at h
  split at h
  · next c fs he =>
    obtain ⟨h1, h2⟩ := iv_if h
    rw [Bool.and_eq_true] at h1
    have hc := Nat.eq_of_beq_eq_true h1.1
    subst hc
    exact ⟨fs, he, Nat.le_of_ble_eq_true h1.2, h2⟩
  · cases h
/-- a field's read: the class, the place, what lies there, by the tag -/
theorem iv_xfld {σ : xH} {info : List Nat} {a : Nat} {k : Value → Option ρ} (h : xfld σ info a k = some z) : ∃ ci i t n fs v, info = [ci, i, t, n] ∧ σ.1 a = some (.inr (ci, fs)) ∧ fs[i]? = some v ∧ k v = some z := by
  unfold xfld at h
  split at h
  · obtain ⟨fs, x, h1, h2, h3⟩ := iv_gI h
    exact ⟨_, _, _, _, fs, _, rfl, h1, h2, h3⟩
  · obtain ⟨fs, x, h1, h2, h3⟩ := iv_gI h
    exact ⟨_, _, _, _, fs, _, rfl, h1, h2, h3⟩
  · obtain ⟨fs, x, h1, h2, h3⟩ := iv_gI h
    exact ⟨_, _, _, _, fs, _, rfl, h1, h2, h3⟩
  · obtain ⟨fs, x, h1, h2, h3⟩ := iv_gL h
    exact ⟨_, _, _, _, fs, _, rfl, h1, h2, h3⟩
  · obtain ⟨fs, x, h1, h2, h3⟩ := iv_gR h
    exact ⟨_, _, _, _, fs, _, rfl, h1, h2, h3⟩
  · cases h
/-- the type that a tag names, of what may be put there -/
def xfit (t : Nat) (v : Value) : Prop := (t = 0 ∧ ∃ x, v = .int x) ∨ (t = 5 ∧ ∃ x, v = .int x ∧ narrow .boolean (.int x) = .int x) ∨ (t = 1 ∧ ∃ x, v = .long x) ∨ (t = 2 ∧ ∃ x, v = .ref x) ∨ (t = 6 ∧ ∃ x, v = .int x ∧ narrow .byte (.int x) = .int x)
theorem iv_xput {σ : xH} {info : List Nat} {a : Nat} {v : Value} {k : xH → Option ρ} (h : xput σ info a v k = some z) : ∃ ci i t n fs, info = [ci, i, t, n] ∧ σ.1 a = some (.inr (ci, fs)) ∧ i < fs.length ∧ xfit t v ∧ k (xup σ.1 a (.inr (ci, fs.set i v)), σ.2) = some z := by
  unfold xput at h
  split at h
  · obtain ⟨fs, h1, h2, h3⟩ := iv_gP h
    exact ⟨_, _, _, _, fs, rfl, h1, h2, Or.inl ⟨rfl, _, rfl⟩, h3⟩
  · split at h
    · next hn =>
      obtain ⟨fs, h1, h2, h3⟩ := iv_gP h
      exact ⟨_, _, _, _, fs, rfl, h1, h2, Or.inr (Or.inl ⟨rfl, _, rfl, hn⟩), h3⟩
    · cases h
  · split at h
    · next hn =>
      obtain ⟨fs, h1, h2, h3⟩ := iv_gP h
      exact ⟨_, _, _, _, fs, rfl, h1, h2, Or.inr (Or.inr (Or.inr (Or.inr ⟨rfl, _, rfl, hn⟩))), h3⟩
    · cases h
  · obtain ⟨fs, h1, h2, h3⟩ := iv_gP h
    exact ⟨_, _, _, _, fs, rfl, h1, h2, Or.inr (Or.inr (Or.inl ⟨rfl, _, rfl⟩)), h3⟩
  · obtain ⟨fs, h1, h2, h3⟩ := iv_gP h
    exact ⟨_, _, _, _, fs, rfl, h1, h2, Or.inr (Or.inr (Or.inr (Or.inl ⟨rfl, _, rfl⟩))), h3⟩
  · cases h
theorem iv_gO {E : xEn} {σ : xH} {ci a : Nat} {K : Option ρ} (h : gO E σ ci a K = some z) : ((∃ fs, σ.1 a = some (.inr (ci, fs))) ∨ (ci = 99 ∧ ∃ i, xfind E.2.1 a xNS = some i) ∨ (ci = 99 ∧ ∃ fs, σ.1 a = some (.inr (11, fs)))) ∧ K = some z := by
  unfold gO at h
  split at h
  · next c fs he =>
    obtain ⟨h1, h2⟩ := iv_if h
    rw [Bool.or_eq_true, Bool.and_eq_true] at h1
    rcases h1 with h1 | h1
    · have hc := Nat.eq_of_beq_eq_true h1
      subst hc
      exact ⟨Or.inl ⟨_, he⟩, h2⟩
    · have hc := Nat.eq_of_beq_eq_true h1.2
      subst hc
      exact ⟨Or.inr (Or.inr ⟨Nat.eq_of_beq_eq_true h1.1, _, he⟩), h2⟩
  · obtain ⟨h1, h2⟩ := iv_if h
    rw [Bool.and_eq_true] at h1
    exact ⟨Or.inr (Or.inl ⟨Nat.eq_of_beq_eq_true h1.1, Option.isSome_iff_exists.mp h1.2⟩), h2⟩
  · cases h
theorem iv_xfind {f : Nat → Nat} {a i : Nat} : ∀ {n : Nat}, xfind f a n = some i → i < n ∧ f i = a := by
  intro n
  induction n with
  | zero => intro h; cases h
  | succ n ih =>
    intro h
    unfold xfind at h
    split at h
    · next j hj =>
      cases h
      obtain ⟨h1, h2⟩ := ih hj
      exact ⟨by omega, h2⟩
    · obtain ⟨h1, h2⟩ := iv_if h
      cases h2
      exact ⟨Nat.lt_succ_self _, Nat.eq_of_beq_eq_true h1⟩
theorem iv_xin {i : Int32} {n : Nat} (h : xin i n = true) : vp_in i n := by
  unfold xin at h
  unfold vp_in
  exact of_decide_eq_true h
theorem iv_aI {E : xEn} {σ : xH} {a : Nat} {i : Int32} {K : Int32 → Option ρ} (h : aI E σ a i K = some z) : (∃ n f, σ.1 a = some (.inl (0, n, .inl f)) ∧ vp_in i n ∧ K (f i.toNatClampNeg) = some z) ∨ (a = eSa E ∧ vp_in i (eSn E) ∧ K (eSf E i.toNatClampNeg) = some z) := by
  unfold aI at h
  split at h
  · next k n f he =>
    obtain ⟨h1, h2⟩ := iv_if h
    rw [Bool.and_eq_true] at h1
    have hc := Nat.eq_of_beq_eq_true h1.1
    subst hc
    exact Or.inl ⟨n, f, he, iv_xin h1.2, h2⟩
  · obtain ⟨h1, h2⟩ := iv_if h
    rw [Bool.and_eq_true] at h1
    exact Or.inr ⟨Nat.eq_of_beq_eq_true h1.1, iv_xin h1.2, h2⟩
  · cases h
theorem iv_aL {σ : xH} {a : Nat} {i : Int32} {K : Int64 → Option ρ} (h : aL σ a i K = some z) : ∃ n f, σ.1 a = some (.inl (2, n, .inr (.inl f))) ∧ vp_in i n ∧ K (f i.toNatClampNeg) = some z := by
  unfold aL at h
  split at h
  · next k n f he =>
    obtain ⟨h1, h2⟩ := iv_if h
    rw [Bool.and_eq_true] at h1
    have hc := Nat.eq_of_beq_eq_true h1.1
    subst hc
    exact ⟨n, f, he, iv_xin h1.2, h2⟩
  · cases h
theorem iv_aD {σ : xH} {a : Nat} {i : Int32} {K : UInt64 → Option ρ} (h : aD σ a i K = some z) : ∃ n f, σ.1 a = some (.inl (3, n, .inr (.inr (.inr (.inl f))))) ∧ vp_in i n ∧ K (f i.toNatClampNeg) = some z := by
  unfold aD at h
  split at h
  · next k n f he =>
    obtain ⟨h1, h2⟩ := iv_if h
    rw [Bool.and_eq_true] at h1
    have hc := Nat.eq_of_beq_eq_true h1.1
    subst hc
    exact ⟨n, f, he, iv_xin h1.2, h2⟩
  · cases h
theorem iv_aB {E : xEn} {σ : xH} {a : Nat} {i : Int32} {K : Int32 → Option ρ} (h : aB E σ a i K = some z) : (∃ n f, σ.1 a = some (.inl (1, n, .inl f)) ∧ vp_in i n ∧ K (f i.toNatClampNeg) = some z) ∨ (∃ j, xfind E.2.2.1 a xNS = some j ∧ vp_in i (xtx j).length ∧ K ((xtx j).getD i.toNatClampNeg 0) = some z) ∨
    (a = eD1 E ∧ vp_in i 100 ∧ K (nI (48 + i.toNatClampNeg % 10)) = some z) ∨ (a = eD2 E ∧ vp_in i 100 ∧ K (nI (48 + i.toNatClampNeg / 10)) = some z) := by
  unfold aB at h
  split at h
  · next k n f he =>
    obtain ⟨h1, h2⟩ := iv_if h
    rw [Bool.and_eq_true] at h1
    have hc := Nat.eq_of_beq_eq_true h1.1
    subst hc
    exact Or.inl ⟨n, f, he, iv_xin h1.2, h2⟩
  · split at h
    · next j hj =>
      obtain ⟨h1, h2⟩ := iv_if h
      exact Or.inr (Or.inl ⟨j, hj, iv_xin h1, h2⟩)
    · cases hb : Nat.beq a (eD1 E) && xin i 100
      · rw [hb] at h
        obtain ⟨h1, h2⟩ := iv_if h
        rw [Bool.and_eq_true] at h1
        exact Or.inr (Or.inr (Or.inr ⟨Nat.eq_of_beq_eq_true h1.1, iv_xin h1.2, h2⟩))
      · rw [hb] at h
        rw [Bool.and_eq_true] at hb
        exact Or.inr (Or.inr (Or.inl ⟨Nat.eq_of_beq_eq_true hb.1, iv_xin hb.2, h⟩))
  · cases h
theorem iv_aQ {E : xEn} {σ : xH} {a : Nat} {i : Int32} {K : Nat → Option ρ} (h : aQ E σ a i K = some z) : (∃ k n f b, σ.1 a = some (.inl (k, n, .inr (.inr (.inr (.inr f))))) ∧ (k = 4 ∨ k = 5 ∨ k = 6) ∧ vp_in i n ∧ f i.toNatClampNeg = some b ∧ K b = some z) ∨ (a = E.2.2.2.1 ∧ vp_in i 29 ∧ K (E.1 i.toNatClampNeg) = some z) := by
  unfold aQ at h
  split at h
  · next k n f he =>
    obtain ⟨h1, h2⟩ := iv_if h
    rw [Bool.and_eq_true, Bool.and_eq_true] at h1
    split at h2
    · next b hb =>
      have k1 := Nat.le_of_ble_eq_true h1.1
      have k2 := Nat.le_of_ble_eq_true h1.2.1
      exact Or.inl ⟨k, n, f, b, he, ((Nat.lt_or_ge k 5).elim (fun q => Or.inl (Nat.le_antisymm (Nat.le_of_lt_succ q) k1)) (fun q => (Nat.lt_or_ge k 6).elim (fun q2 => Or.inr (Or.inl (Nat.le_antisymm (Nat.le_of_lt_succ q2) q))) (fun q2 => Or.inr (Or.inr (Nat.le_antisymm k2 q2))))), iv_xin h1.2.2, hb, h2⟩
    · cases h2
  · obtain ⟨h1, h2⟩ := iv_if h
    rw [Bool.and_eq_true] at h1
    exact Or.inr ⟨Nat.eq_of_beq_eq_true h1.1, iv_xin h1.2, h2⟩
  · cases h
theorem iv_aN {E : xEn} {σ : xH} {a : Nat} {K : Int32 → Option ρ} (h : aN E σ a K = some z) : (∃ k n x, σ.1 a = some (.inl (k, n, x)) ∧ k ≤ 6 ∧ K (nI n) = some z) ∨ (a = E.2.2.2.1 ∧ K 29 = some z) ∨ (∃ j, xfind E.2.2.1 a xNS = some j ∧ K (nI (xtx j).length) = some z) ∨ (a = eDc E ∧ K (nI 0) = some z) ∨ (a = eSa E ∧ K (nI (eSn E)) = some z) := by
  unfold aN at h
  split at h
  · next k n x he =>
    obtain ⟨h1, h2⟩ := iv_if h
    exact Or.inl ⟨k, n, x, he, Nat.le_of_ble_eq_true h1, h2⟩
  · cases hb : Nat.beq a E.2.2.2.1
    · rw [hb] at h
      dsimp only [cond] at h
      split at h
      · next j hj => exact Or.inr (Or.inr (Or.inl ⟨j, hj, h⟩))
      · cases hb2 : Nat.beq a (eDc E)
        · rw [hb2] at h
          obtain ⟨h1, h2⟩ := iv_if h
          exact Or.inr (Or.inr (Or.inr (Or.inr ⟨Nat.eq_of_beq_eq_true h1, h2⟩)))
        · rw [hb2] at h
          exact Or.inr (Or.inr (Or.inr (Or.inl ⟨Nat.eq_of_beq_eq_true hb2, h⟩)))
    · rw [hb] at h
      exact Or.inr (Or.inl ⟨Nat.eq_of_beq_eq_true hb, h⟩)
  · cases h
theorem iv_sI {σ : xH} {a : Nat} {i : Int32} {x : Int32} {K : xH → Option ρ} (h : sI σ a i x K = some z) : ∃ n f, σ.1 a = some (.inl (0, n, .inl f)) ∧ vp_in i n ∧ K (xup σ.1 a (.inl (0, n, .inl (upd f i.toNatClampNeg x))), σ.2) = some z := by
  unfold sI at h
  split at h
  · next k n f he =>
    obtain ⟨h1, h2⟩ := iv_if h
    rw [Bool.and_eq_true] at h1
    have hc := Nat.eq_of_beq_eq_true h1.1
    subst hc
    exact ⟨n, f, he, iv_xin h1.2, h2⟩
  · cases h
theorem iv_sB {σ : xH} {a : Nat} {i : Int32} {x : Int32} {K : xH → Option ρ} (h : sB σ a i x K = some z) : ∃ n f, σ.1 a = some (.inl (1, n, .inl f)) ∧ vp_in i n ∧ K (xup σ.1 a (.inl (1, n, .inl (upd f i.toNatClampNeg (vp_nar .byte x)))), σ.2) = some z := by
  unfold sB at h
  split at h
  · next k n f he =>
    obtain ⟨h1, h2⟩ := iv_if h
    rw [Bool.and_eq_true] at h1
    have hc := Nat.eq_of_beq_eq_true h1.1
    subst hc
    exact ⟨n, f, he, iv_xin h1.2, h2⟩
  · cases h
theorem iv_sL {σ : xH} {a : Nat} {i : Int32} {x : Int64} {K : xH → Option ρ} (h : sL σ a i x K = some z) : ∃ n f, σ.1 a = some (.inl (2, n, .inr (.inl f))) ∧ vp_in i n ∧ K (xup σ.1 a (.inl (2, n, .inr (.inl (vp_updL f i.toNatClampNeg x)))), σ.2) = some z := by
  unfold sL at h
  split at h
  · next k n f he =>
    obtain ⟨h1, h2⟩ := iv_if h
    rw [Bool.and_eq_true] at h1
    have hc := Nat.eq_of_beq_eq_true h1.1
    subst hc
    exact ⟨n, f, he, iv_xin h1.2, h2⟩
  · cases h
theorem iv_sD {σ : xH} {a : Nat} {i : Int32} {x : UInt64} {K : xH → Option ρ} (h : sD σ a i x K = some z) : ∃ n f, σ.1 a = some (.inl (3, n, .inr (.inr (.inr (.inl f))))) ∧ vp_in i n ∧ K (xup σ.1 a (.inl (3, n, .inr (.inr (.inr (.inl (vf_upd f i.toNatClampNeg x)))))), σ.2) = some z := by
  unfold sD at h
  split at h
  · next k n f he =>
    obtain ⟨h1, h2⟩ := iv_if h
    rw [Bool.and_eq_true] at h1
    have hc := Nat.eq_of_beq_eq_true h1.1
    subst hc
    exact ⟨n, f, he, iv_xin h1.2, h2⟩
  · cases h
theorem iv_sQ {E : xEn} {σ : xH} {a : Nat} {i : Int32} {b : Nat} {K : xH → Option ρ} (h : sQ E σ a i b K = some z) : ∃ k n f, σ.1 a = some (.inl (k, n, .inr (.inr (.inr (.inr f))))) ∧ vp_in i n ∧ ((k = 4 ∧ ∃ j, xfind E.1 b 29 = some j) ∨ (k = 5 ∧ ∃ fs, σ.1 b = some (.inr (2, fs))) ∨ (k = 6 ∧ ∃ fs, σ.1 b = some (.inr (9, fs)))) ∧ K (xup σ.1 a (.inl (k, n, .inr (.inr (.inr (.inr (va_up f i.toNatClampNeg (some b))))))), σ.2) = some z := by
  unfold sQ at h
  split at h
  · next k n f he =>
    obtain ⟨h1, h2⟩ := iv_if h
    rw [Bool.and_eq_true] at h1
    refine ⟨k, n, f, he, iv_xin h1.1, ?_, h2⟩
    have h3 := h1.2
    unfold xfits at h3
    cases h4 : Nat.beq k 4
    · rw [h4] at h3
      cases h5 : Nat.beq k 5
      · rw [h5] at h3
        cases h6 : Nat.beq k 6
        · rw [h6] at h3; cases h3
        · rw [h6] at h3
          dsimp only [cond] at h3
          split at h3
          · next c fs hb =>
            have hc := Nat.eq_of_beq_eq_true h3
            subst hc
            exact Or.inr (Or.inr ⟨Nat.eq_of_beq_eq_true h6, fs, hb⟩)
          · cases h3
      · rw [h5] at h3
        dsimp only [cond] at h3
        split at h3
        · next c fs hb =>
          have hc := Nat.eq_of_beq_eq_true h3
          subst hc
          exact Or.inr (Or.inl ⟨Nat.eq_of_beq_eq_true h5, fs, hb⟩)
        · cases h3
    · rw [h4] at h3
      exact Or.inl ⟨Nat.eq_of_beq_eq_true h4, Option.isSome_iff_exists.mp h3⟩
  · cases h
theorem iv_xcpr {i j n : Int32} {m m' : Nat} (h : xcpr i j n m m' = true) : 0 ≤ i.toInt ∧ 0 ≤ j.toInt ∧ 0 ≤ n.toInt ∧ i.toInt + n.toInt ≤ m ∧ j.toInt + n.toInt ≤ m' := of_decide_eq_true h
theorem iv_cpI {E : xEn} {σ : xH} {a b : Nat} {i j n : Int32} {K : xH → Option ρ} (h : cpI E σ a i b j n K = some z) : ∃ k m f m' g, σ.1 b = some (.inl (k, m', .inl g)) ∧ k ≤ 1 ∧ (σ.1 a = some (.inl (k, m, .inl f)) ∨ (k = 1 ∧ ∃ s, xfind E.2.2.1 a xNS = some s ∧ m = (xtx s).length ∧ f = fun q => (xtx s).getD q 0)) ∧ xcpr i j n m m' = true ∧ (k = 0 ∨ xbf f m = true) ∧ K (xup σ.1 b (.inl (k, m', .inl (va_cpy f g i.toNatClampNeg j.toNatClampNeg n.toNatClampNeg))), σ.2) = some z := by
  unfold cpI at h
  split at h
  · next k' m' g hg =>
    split at h
    · next k m f he =>
      obtain ⟨h1, h2⟩ := iv_if h
      simp only [Bool.and_eq_true] at h1
      obtain ⟨q1, q2, -, q4, q5⟩ := h1
      have e1 := Nat.eq_of_beq_eq_true q1
      subst e1
      rw [Bool.or_eq_true] at q5
      exact ⟨k, m, f, m', g, hg, Nat.le_of_ble_eq_true q2, Or.inl he, q4, q5.imp Nat.eq_of_beq_eq_true id, h2⟩
    · split at h
      · next s hs =>
        obtain ⟨h1, h2⟩ := iv_if h
        simp only [Bool.and_eq_true] at h1
        have e1 := Nat.eq_of_beq_eq_true h1.1
        subst e1
        exact ⟨1, _, _, m', g, hg, Nat.le_refl 1, Or.inr ⟨rfl, s, hs, rfl, rfl⟩, h1.2.1, Or.inr h1.2.2, h2⟩
      · cases h
    · cases h
  · cases h
theorem iv_xck {σ : xH} {ci a : Nat} {K : Option ρ} (h : xck σ ci a K = some z) : (∃ fs, σ.1 a = some (.inr (ci, fs))) ∧ K = some z := by
  unfold xck at h
  split at h
  · next c fs he =>
    obtain ⟨h1, h2⟩ := iv_if h
    have hc := Nat.eq_of_beq_eq_true h1
    subst hc
    exact ⟨⟨fs, he⟩, h2⟩
  · cases h
theorem iv_iK {E : xEn} {info : List Nat} {k : Value → Option ρ} (h : iK E info k = some z) : (∃ c, info = [0, c] ∧ k (.int (nI c)) = some z) ∨ (∃ c, info = [1, c] ∧ k (.int (- nI c)) = some z) ∨ ∃ i, info = [2, i] ∧ i < xNS ∧ k (.ref (E.2.1 i)) = some z := by
  unfold iK at h
  split at h
  · exact Or.inl ⟨_, rfl, h⟩
  · exact Or.inr (Or.inl ⟨_, rfl, h⟩)
  · obtain ⟨h1, h2⟩ := iv_if h
    exact Or.inr (Or.inr ⟨_, rfl, Nat.le_of_ble_eq_true h1, h2⟩)
  · cases h
theorem iv_iK2 {info : List Nat} {k : Int64 → Option ρ} (h : iK2 info k = some z) : (∃ c, info = [0, c] ∧ k (lN c) = some z) ∨ ∃ c, info = [1, c] ∧ k (- lN c) = some z := by
  unfold iK2 at h
  split at h
  · exact Or.inl ⟨_, rfl, h⟩
  · exact Or.inr ⟨_, rfl, h⟩
  · cases h
theorem iv_iD {info : List Nat} {k : UInt64 → Option ρ} (h : iD info k = some z) : info = [0] ∧ k FP.dconst0 = some z := by
  unfold iD at h
  split at h
  · exact ⟨rfl, h⟩
  · cases h
theorem iv_iF {info : List Nat} {k : UInt32 → Option ρ} (h : iF info k = some z) : (info = [0] ∧ k FP.fconst0 = some z) ∨ (info = [1] ∧ k FP.fconst1 = some z) := by
  unfold iF at h
  split at h
  · exact Or.inl ⟨rfl, h⟩
  · exact Or.inr ⟨rfl, h⟩
  · cases h
theorem iv_xgf {E : xEn} {σ : xH} {info : List Nat} {a : Nat} {k : Value → Option ρ} (h : xgf E σ info a k = some z) : (info = [77] ∧ ∃ i, xfind E.1 a 29 = some i ∧ k (.ref (E.2.1 (xtt i))) = some z) ∨ (info = [78] ∧ ((∃ i, xfind E.2.1 a xNS = some i ∧ k (.ref (E.2.2.1 i)) = some z) ∨ ∃ fs q, σ.1 a = some (.inr (11, fs)) ∧ fs[0]? = some (.ref q) ∧ k (.ref q) = some z)) ∨
    (info = [79] ∧ ((∃ i, xfind E.2.1 a xNS = some i ∧ k (.int (nI 0)) = some z) ∨ ∃ fs x, σ.1 a = some (.inr (11, fs)) ∧ fs[1]? = some (.int x) ∧ k (.int x) = some z)) ∨ xfld σ info a k = some z := by
  unfold xgf at h
  split at h
  · split at h
    · next i hi => exact Or.inl ⟨rfl, i, hi, h⟩
    · cases h
  · unfold gU at h
    split at h
    · split at h
      · next i hi => exact Or.inr (Or.inl ⟨rfl, Or.inl ⟨i, hi, h⟩⟩)
      · cases h
    · exact Or.inr (Or.inl ⟨rfl, Or.inr (iv_gR h)⟩)
  · unfold gC at h
    split at h
    · split at h
      · next i hi => exact Or.inr (Or.inr (Or.inl ⟨rfl, Or.inl ⟨i, hi, h⟩⟩))
      · cases h
    · exact Or.inr (Or.inr (Or.inl ⟨rfl, Or.inr (iv_gI h)⟩))
  · exact Or.inr (Or.inr (Or.inr h))
theorem iv_xgs {E : xEn} {info : List Nat} {k : Value → Option ρ} (h : xgs E info k = some z) : (∃ i, info = [0, i] ∧ i < 29 ∧ k (.ref (E.1 i)) = some z) ∨ (info = [1] ∧ k (.ref E.2.2.2.1) = some z) ∨ (info = [2] ∧ k (.int 1) = some z) ∨ (info = [3] ∧ k (eFm E) = some z) ∨ (info = [4] ∧ k (.ref (eD1 E)) = some z) ∨ (info = [5] ∧ k (.ref (eD2 E)) = some z) ∨ (info = [6] ∧ k (.ref (eDc E)) = some z) := by
  unfold xgs at h
  split at h
  · obtain ⟨h1, h2⟩ := iv_if h
    exact Or.inl ⟨_, rfl, Nat.le_of_ble_eq_true h1, h2⟩
  · exact Or.inr (Or.inl ⟨rfl, h⟩)
  · exact Or.inr (Or.inr (Or.inl ⟨rfl, h⟩))
  · exact Or.inr (Or.inr (Or.inr (Or.inl ⟨rfl, h⟩)))
  · exact Or.inr (Or.inr (Or.inr (Or.inr (Or.inl ⟨rfl, h⟩))))
  · exact Or.inr (Or.inr (Or.inr (Or.inr (Or.inr (Or.inl ⟨rfl, h⟩)))))
  · exact Or.inr (Or.inr (Or.inr (Or.inr (Or.inr (Or.inr ⟨rfl, h⟩)))))
  · cases h
theorem iv_xiret {info : List Nat} {x : Int32} {k : Option ρ} (h : xiret info x k = some z) : ∃ t, info = [t] ∧ (t = 0 ∨ narrow (xty t) (.int x) = .int x) ∧ k = some z := by
  unfold xiret at h
  split at h
  · exact ⟨0, rfl, Or.inl rfl, h⟩
  · obtain ⟨h1, h2⟩ := iv_if h
    exact ⟨_, rfl, Or.inr (of_decide_eq_true h1), h2⟩
  · cases h
end INV
end
section
/-! THE WORLD ON THE HEAP, and the rows of the machine that read and write it. -/
abbrev vwCl : List vw_C := [(RX0, TX0, 3), (RX1, TX1, 3), (RX2, TX2, 9), (RX3, TX3, 10), (RX4, TX4, 5), (RX5, TX5, 5), (RX6, TX6, 6), (RX9, TX9, 6), (RX10, TX10, 7), (RX11, TX11, 6), (RX12, TX12, 6), (RJ0, TJ0, 4), (RJ4, TJ4, 4), (RJx4a65c, TJx4a65c, 3)]
abbrev xG : Type := va_G × (Nat → ClassId)
def xce (ar : Nat → ClassId) (e : va_E) : va_E := match e with
  | .inl x => .inl (ar x.1, x.2)
  | .inr o => .inr o
def xtys (ar : Nat → ClassId) : List (ClassId × FieldType) := [(ar 0, .int), (ar 1, .byte), (ar 2, .long), (ar 3, .double), (ar 4, .object "ShellWatch$Token"), (ar 5, .object "ShellWatch$Game"), (ar 6, .object "java/lang/Object")]
/-- the cells of the world lie in H -/
def xWo (G : xG) (w : Nat → Option va_E) (H : Heap) : Prop := ∀ (a : Nat) (e : va_E), w a = some e → va_at G.1 vwCl (a, xce G.2 e) H
/-- where a walk stands: the heap is as long as told, it holds the world, the world lies in A, outside A it is as at the start -/
def xS (G : xG) (A : Nat → Prop) (H0 : Heap) (σ : xH) (H : Heap) (locs : List Loc) : Prop := H.size = σ.2 ∧ xWo G σ.1 H ∧ (∀ a, σ.1 a ≠ none → A a) ∧ va_S A H0 H locs
theorem xWo.one {G : xG} {w : Nat → Option va_E} {H : Heap} (h : xWo G w H) {a : Nat} {e : va_E} (he : w a = some e) : va_P G.1 vwCl [(a, xce G.2 e)] H := by
  intro k q hk
  match k, hk with
  | 0, hk => cases hk; exact h a e he
theorem xup_same {w : Nat → Option va_E} {a : Nat} {e : va_E} : xup w a e a = some e := by
  unfold xup
  rw [Nat.beq_refl]
  rfl
theorem xup_ne {w : Nat → Option va_E} {a b : Nat} {e : va_E} (h : b ≠ a) : xup w a e b = w b := by
  unfold xup
  cases hb : Nat.beq b a
  · rfl
  · exact absurd (Nat.eq_of_beq_eq_true hb) h
theorem xS.put {G : xG} {A : Nat → Prop} {H0 H H' : Heap} {σ : xH} {locs : List Loc} {a i : Nat} {e e' : va_E} (hS : xS G A H0 σ H locs) (he : σ.1 a = some e) (e1 : va_at G.1 vwCl (a, xce G.2 e') H') (e2 : H'.size = H.size) (e3 : ∀ q, q ≠ a → H'[q]? = H[q]?) : xS G A H0 (xup σ.1 a e', σ.2) H' (locs ++ [⟨a, i⟩]) := by
  obtain ⟨h1, h2, h3, h4⟩ := hS
  refine ⟨e2.trans h1, fun b x hb => ?_, fun b hb => ?_, h4.put e2 e3 (h3 a (by rw [he]; exact fun h => by cases h))⟩
  · by_cases hab : b = a
    · subst hab
      dsimp only at hb
      rw [xup_same] at hb
      cases hb
      exact e1
    · dsimp only at hb
      rw [xup_ne hab] at hb
      exact (h2 b x hb).kept (e3 b hab)
  · by_cases hab : b = a
    · subst hab
      exact h3 b (by rw [he]; exact fun h => by cases h)
    · dsimp only at hb
      rw [xup_ne hab] at hb
      exact h3 b hb
/-- AbstractStringBuilder's private methods on a StringBuilder: the word that the tables leave to be found -/
def xprv : List MethodName := [yJ5_ensureCapacityInternal_d00df, yJ5_newCapacity_0f7a4, yJ5_putStringAt_47b60, yJ5_inflateIfNeededFor_a7421]
def xTbl : List Cond := xprv.map (fun y => Cond.selects RJ4 y y) ++ lw_tbl
theorem x_selP {y : MethodName} {s : State} {args : Array Value} {C : String} {n : Nat} (hy : y.cls ≠ "java/lang/invoke/MethodHandle" ∧ y.cls ≠ "java/lang/invoke/VarHandle")
    (hins : (Cond.instantiable C n).before args s = true) (hsame : (Cond.sameMethod y.cls y.cls y.name y.desc).before args s = true) (hpriv : (Cond.privateMethod y).before args s = true) (hinst : (Cond.instanceMethod y).before args s = true) :
    (Cond.selects C y y).before args s = true := by
  obtain ⟨c, k, hc, hk, -⟩ := Cond.instantiable_spec hins
  obtain ⟨mk, methM, hnamed, hmethM, -, -⟩ := Cond.instanceMethod_spec hinst
  have hfound : s.methodFound? y.cls y.name y.desc = some mk := State.methodFound?_of_named hnamed hy
  obtain ⟨cn, ck, r1, hcn, hck, hni, hf, hn1⟩ := Cond.sameMethod_found hsame
  have hcls : mk.cls = cn := Option.some.inj ((findClass_of_methodNamed hnamed).symm.trans hcn)
  have hsel : selectMethod {} s.vm c mk = .method mk := selectMethod_private hmethM (Cond.privateMethod_at hpriv mk methM hnamed hmethM)
  simp only [Cond.before, Cond.holds, Cond.value, hc, hfound, hnamed, hsel, hcls, hck]
  simp; exact hni
theorem xprv_ok : ∀ y ∈ xprv, (y.cls ≠ "java/lang/invoke/MethodHandle" ∧ y.cls ≠ "java/lang/invoke/VarHandle") ∧ Cond.sameMethod y.cls y.cls y.name y.desc ∈ lw_tbl ∧ Cond.privateMethod y ∈ lw_tbl ∧ Cond.instanceMethod y ∈ lw_tbl := by decide +kernel
theorem xins_sb : Cond.instantiable RJ4 4 ∈ lw_tbl := by decide +kernel
theorem xTbl_ok {s : State} {args : Array Value} (h : ∀ w ∈ lw_tbl, w.before args s = true) : ∀ w ∈ xTbl, w.before args s = true := by
  intro w hw
  rcases List.mem_append.mp hw with hw | hw
  · obtain ⟨y, hy, rfl⟩ := List.mem_map.mp hw
    obtain ⟨h0, h1, h2, h3⟩ := xprv_ok y hy
    exact x_selP h0 (h _ xins_sb) (h _ h1) (h _ h2) (h _ h3)
  · exact h w hw
def xWs : List Cond := xTbl.filter goodWord
def xnest (w : Cond) : Bool := match w with
  | .fieldLinkNest .. => true
  | .methodLinkNest .. => true
  | .castable .. => true
  | .declares _ => true
  | _ => false
/-- what the tables say beside the good words -/
def xNw (U : State) : Prop := ∀ w ∈ lw_tbl, xnest w = true → va_Nw w U
theorem xNw.warm {s U : State} (hW : s.WarmedH U.vm) (h : xNw s) : xNw U := by
  intro w hw hn
  have h1 := h w hw hn
  cases w <;> first | exact va_Nw.warmF hW h1 | exact va_Nw.warmM hW h1 | exact va_Nw.warmC hW h1 | exact va_Nw.warmD hW h1 | cases hn
/-- a field of the world's classes, as the pool names it: own (0), of a nest mate (1), own and final (2) -/
def xokF (own : String) (idx ci k nest : Nat) : Bool := match vwCl[ci]? with
  | some r => Nat.blt k r.2.2 && (bif Nat.beq nest 1 then decide (Cond.fieldLinkNest own idx (r.2.1 k).1 (r.2.1 k).2.1 (r.2.1 k).2.2.1 "ShellWatch" ∈ lw_tbl) else bif Nat.beq nest 3 then decide (Cond.fieldLinkNest own idx (r.2.1 k).1 (r.2.1 k).2.1 (r.2.1 k).2.2.1 "ShellWatchLaw" ∈ lw_tbl) else bif Nat.beq nest 4 then decide (Cond.fieldLink own idx own (r.2.1 k).2.1 (r.2.1 k).2.2.1 ∈ xWs) && decide (Cond.sameField own (r.2.1 k).1 (r.2.1 k).2.1 (r.2.1 k).2.2.1 ∈ xWs) else decide (Cond.fieldLink own idx (r.2.1 k).1 (r.2.1 k).2.1 (r.2.1 k).2.2.1 ∈ xWs))
  | none => false
theorem xin0 : ∀ w ∈ wsX00, w ∈ xWs := by decide +kernel
theorem xin1 : ∀ w ∈ wsX10, w ∈ xWs := by decide +kernel
theorem xin2 : ∀ w ∈ wsX20, w ∈ xWs := by decide +kernel
theorem xin3 : ∀ w ∈ wsX30, w ∈ xWs := by decide +kernel
theorem xin4 : ∀ w ∈ wsX40, w ∈ xWs := by decide +kernel
theorem xin5 : ∀ w ∈ wsX50, w ∈ xWs := by decide +kernel
theorem xin6 : ∀ w ∈ wsX60, w ∈ xWs := by decide +kernel
theorem xin7 : ∀ w ∈ wsX90, w ∈ xWs := by decide +kernel
theorem xin8 : ∀ w ∈ wsX100, w ∈ xWs := by decide +kernel
theorem xin9 : ∀ w ∈ wsX110, w ∈ xWs := by decide +kernel
theorem xin10 : ∀ w ∈ wsX120, w ∈ xWs := by decide +kernel
theorem xin11 : ∀ w ∈ wsJ00, w ∈ xWs := by decide +kernel
theorem xin12 : ∀ w ∈ wsJ40, w ∈ xWs := by decide +kernel
theorem xin13 : ∀ w ∈ wsJx4a65c0, w ∈ xWs := by decide +kernel
theorem xcl_ok {ci : Nat} {r : vw_C} (h : vwCl[ci]? = some r) : (∀ w ∈ u_ws r.1 r.2.1 r.2.2, w ∈ xWs) ∧ (∀ k, k < r.2.2 → parseFieldDescriptor (r.2.1 k).2.2.1 = some (xtyp ci k)) ∧ (∀ a, a < r.2.2 → ∀ b, b < r.2.2 → a ≠ b → (r.2.1 a).2.1 ≠ (r.2.1 b).2.1) := by
  match ci, h with
  | 0, h => cases h; exact ⟨xin0, tyX0_ok, nmX0⟩
  | 1, h => cases h; exact ⟨xin1, tyX1_ok, nmX1⟩
  | 2, h => cases h; exact ⟨xin2, tyX2_ok, nmX2⟩
  | 3, h => cases h; exact ⟨xin3, tyX3_ok, nmX3⟩
  | 4, h => cases h; exact ⟨xin4, tyX4_ok, nmX4⟩
  | 5, h => cases h; exact ⟨xin5, tyX5_ok, nmX5⟩
  | 6, h => cases h; exact ⟨xin6, tyX6_ok, nmX6⟩
  | 7, h => cases h; exact ⟨xin7, tyX9_ok, nmX9⟩
  | 8, h => cases h; exact ⟨xin8, tyX10_ok, nmX10⟩
  | 9, h => cases h; exact ⟨xin9, tyX11_ok, nmX11⟩
  | 10, h => cases h; exact ⟨xin10, tyX12_ok, nmX12⟩
  | 11, h => cases h; exact ⟨xin11, tyJ0_ok, nmJ0⟩
  | 12, h => cases h; exact ⟨xin12, tyJ4_ok, nmJ4⟩
  | 13, h => cases h; exact ⟨xin13, tyJx4a65c_ok, nmJx4a65c⟩
  | k + 14, h => simp [vwCl] at h
section ROWS
variable {p : Program} {l : Launch} {e : Env} {R : Room} {s : State} {m : MethodId} {args : Array Value} {below : List Frame} {meth : Method} {c : Code} {H : Heap} {locs : List Loc} {cells slots : Nat} {Q : State → Prop}
variable {cc : ByteArray} {pc : Nat} {ls : Array Slot} {rest : List Value} {G : xG} {A : Nat → Prop} {σ : xH} {H0 : Heap} {own : String} {a : Nat}
theorem x_get (hx : p.tables.exec = Jvm.exec) (hb : c.code = cc) (hts : ∀ w ∈ xWs, w.before args s = true) (hnw : xNw s) (hown : s.vm.findClass own = some m.cls) (hK : va_K G.1 vwCl (xtys G.2) s) (hS : xS G A H0 σ H locs)
    {idx ci k nest : Nat} {fs : List Value} {v : Value} (hok : xokF own idx ci k nest = true) (he : σ.1 a = some (.inr (ci, fs))) (hv : fs[k]? = some v) (hdg : decode cc pc = .ok (.getfield idx, 3))
    (kk : W p l e R s m args below meth c H locs cells slots Q (F0 m (pc + 3) ls (v :: rest))) : W p l e R s m args below meth c H locs cells slots Q (F0 m pc ls (.ref a :: rest)) := by
  unfold xokF at hok
  split at hok
  · next r hr =>
    rw [Bool.and_eq_true] at hok
    have hk := Nat.le_of_ble_eq_true hok.1
    have hP := hS.2.1.one he
    have hin := (xcl_ok hr).1
    cases hn : Nat.beq nest 1
    · rw [hn] at hok
      cases h3 : Nat.beq nest 3
      · rw [h3] at hok
        cases h4 : Nat.beq nest 4
        · rw [h4] at hok
          exact va_get (ws := [(a, .inr (ci, fs))]) hx hb hts hin hown hK hP 0 rfl hr k hk (hts _ (of_decide_eq_true hok.2)) (fun _ h => h) hv hdg kk
        · rw [h4] at hok
          have hok2 : (decide (Cond.fieldLink own idx own (r.2.1 k).2.1 (r.2.1 k).2.2.1 ∈ xWs) && decide (Cond.sameField own (r.2.1 k).1 (r.2.1 k).2.1 (r.2.1 k).2.2.1 ∈ xWs)) = true := hok.2
          rw [Bool.and_eq_true, decide_eq_true_eq, decide_eq_true_eq] at hok2
          obtain ⟨r', h1, cell, q1, q2, q3, q4⟩ := hS.2.1 a _ he
          have hrr : r' = r := Option.some.inj (h1.symm.trans hr)
          subst hrr
          obtain ⟨hSl, hfc, kC, hkC, hkind⟩ := hK.1 ci _ hr
          obtain ⟨cf, kf, fi, f, hi, hsl⟩ := hSl k hk
          have hst := (u_facts hfc hkC (u_lays hts hin hk) hi).1
          have hv2 : vp_V fs k = v := by unfold vp_V; rw [List.getD_eq_getElem?_getD, hv]; rfl
          have hs9 := q4 k hk
          rw [hv2] at hs9
          exact W.getf hx hb hown (hts _ hok2.1) (u_same (hts _ hok2.2) _ hi) hst q1 (by rw [q3]; exact fun h => by cases h) (by rw [hsl]; exact hs9) rfl rfl hdg kk
      · rw [h3] at hok
        exact va_getN (ws := [(a, .inr (ci, fs))]) hx hb hts hin hown hK hP 0 rfl hr k hk (va_Nw.use rfl (hnw _ (of_decide_eq_true hok.2) rfl)) (fun _ h => h) hv hdg kk
    · rw [hn] at hok
      exact va_getN (ws := [(a, .inr (ci, fs))]) hx hb hts hin hown hK hP 0 rfl hr k hk (va_Nw.use rfl (hnw _ (of_decide_eq_true hok.2) rfl)) (fun _ h => h) hv hdg kk
  · cases hok
/-- of the put: the type that the tag names, and that the field is no final one, or one of a constructor's own class -/
def xokP (own : String) (ci k t nest : Nat) : Bool := match vwCl[ci]? with
  | some r => decide (xtyp ci k = bif Nat.beq t 5 then .boolean else bif Nat.beq t 6 then .byte else bif Nat.beq t 1 then .long else bif Nat.beq t 0 then .int else xtyp ci k) && ((bif Nat.beq t 2 then (match xtyp ci k with
    | .object _ => true
    | .array _ => true
    | _ => false) else true) && (bif Nat.beq nest 2 then (r.2.1 k).2.2.2 && decide ((r.2.1 k).1 = own) else !(r.2.1 k).2.2.2))
  | none => false
end ROWS
end
section
/-! The rows that write, each with the heap's length told. -/
section ROWS2
variable {p : Program} {l : Launch} {e : Env} {R : Room} {s : State} {m : MethodId} {args : Array Value} {below : List Frame} {meth : Method} {c : Code} {H : Heap} {locs : List Loc} {cells slots : Nat} {Q : State → Prop}
variable {cc : ByteArray} {pc : Nat} {ls : Array Slot} {rest : List Value} {G : xG} {A : Nat → Prop} {σ : xH} {H0 : Heap} {own : String} {a : Nat}
theorem xb_fits (x : Int32) : fits .byte (.int x.toInt8.toInt32) = true := by
  have h1 := Int8.le_toInt x.toInt8
  have h2 := Int8.toInt_lt x.toInt8
  have h3 : x.toInt8.toInt32.toInt = x.toInt8.toInt := Int8.toInt_toInt32 _
  have h4 : ((-128 : Int32)).toInt = -128 := by decide
  have h5 : ((127 : Int32)).toInt = 127 := by decide
  simp only [fits, Bool.and_eq_true, decide_eq_true_eq, Int32.le_iff_toInt_le, h3, h4, h5]
  omega
theorem xfit_ok {ci k t : Nat} {r : vw_C} {nest : Nat} {v : Value} (hr : vwCl[ci]? = some r) (hok : xokP own ci k t nest = true) (h : xfit t v) : narrow (xtyp ci k) v = v ∧ fits (xtyp ci k) v = true := by
  unfold xokP at hok
  rw [hr] at hok
  simp only [Bool.and_eq_true, decide_eq_true_eq] at hok
  obtain ⟨h1, h2, -⟩ := hok
  rcases h with ⟨rfl, x, rfl⟩ | ⟨rfl, x, rfl, hn⟩ | ⟨rfl, x, rfl⟩ | ⟨rfl, x, rfl⟩ | ⟨rfl, x, rfl, hn⟩
  · have h3 : xtyp ci k = .int := h1
    rw [h3]
    exact ⟨rfl, rfl⟩
  · have h3 : xtyp ci k = .boolean := h1
    rw [h3]
    refine ⟨hn, ?_⟩
    have h4 : x &&& 1 = x := by
      have := hn
      simpa [narrow] using this
    have h5 : x = 0 ∨ x = 1 := by
      obtain ⟨j, hj, hxj⟩ := pk_andE x (m := 1) 1 rfl
      rw [← h4, hxj]
      match j, hj with
      | 0, _ => exact Or.inl rfl
      | 1, _ => exact Or.inr rfl
    rcases h5 with rfl | rfl <;> rfl
  · have h3 : xtyp ci k = .long := h1
    rw [h3]
    exact ⟨rfl, rfl⟩
  · have h3 : (match xtyp ci k with
      | .object _ => true
      | .array _ => true
      | _ => false) = true := h2
    split at h3
    · next C hC => rw [hC]; exact ⟨rfl, rfl⟩
    · next C hC => rw [hC]; exact ⟨rfl, rfl⟩
    · cases h3
  · have h3 : xtyp ci k = .byte := h1
    rw [h3]
    refine ⟨hn, ?_⟩
    have h4 : x.toInt8.toInt32 = x := by
      have := hn
      simpa [narrow] using this
    show fits .byte (.int x) = true
    rw [← h4]
    exact xb_fits x
theorem x_put (hx : p.tables.exec = Jvm.exec) (hb : c.code = cc) (hts : ∀ w ∈ xWs, w.before args s = true) (hnw : xNw s) (hown : s.vm.findClass own = some m.cls) (hK : va_K G.1 vwCl (xtys G.2) s) (hS : xS G A H0 σ H locs)
    {idx ci k t nest : Nat} {fs : List Value} {v : Value} (hok : xokF own idx ci k nest = true) (hokP : xokP own ci k t nest = true) (hini : nest = 2 → meth.name = "<init>") (he : σ.1 a = some (.inr (ci, fs))) (hl : k < fs.length) (hf : xfit t v) (hdg : decode cc pc = .ok (.putfield idx, 3))
    (kk : ∀ (H1 : Heap) (locs1 : List Loc), xS G A H0 (xup σ.1 a (.inr (ci, fs.set k v)), σ.2) H1 locs1 → W p l e R s m args below meth c H1 locs1 cells slots Q (F0 m (pc + 3) ls rest)) : W p l e R s m args below meth c H locs cells slots Q (F0 m pc ls (v :: .ref a :: rest)) := by
  unfold xokF at hok
  split at hok
  · next r hr =>
    rw [Bool.and_eq_true] at hok
    have hk := Nat.le_of_ble_eq_true hok.1
    obtain ⟨hin, hty, hnm⟩ := xcl_ok hr
    obtain ⟨hn, hft⟩ := xfit_ok hr hokP hf
    obtain ⟨C, T, N⟩ := r
    dsimp only at hin hty hnm hk hok
    have hap := va_apart (own := own) hts hin (xtyp ci) hty hnm hK hr
    obtain ⟨r, h1, cell, q1, q2, q3, q4⟩ := hS.2.1 a _ he
    have hrr : r = (C, T, N) := Option.some.inj (h1.symm.trans hr)
    subst hrr
    obtain ⟨hSl, hfc, kC, hkC, hkind⟩ := hK.1 ci _ hr
    obtain ⟨cf, kf, fi, f, hi, hsl⟩ := hSl k hk
    have hst := (u_facts hfc hkC (u_lays hts hin hk) hi).1
    have hP1 : xokP own ci k t nest = true := hokP
    unfold xokP at hP1
    rw [hr] at hP1
    simp only [Bool.and_eq_true] at hP1
    have hfin := hP1.2.2
    have fin : ∀ (H' : Heap), H'[a]? = some (cell.setSlot (G.1.2 ci k) v) → H'.size = H.size → (∀ q, q ≠ a → H'[q]? = H[q]?) → W p l e R s m args below meth c H' (locs ++ [⟨a, G.1.2 ci k⟩]) cells slots Q (F0 m (pc + 3) ls rest) := by
      intro H' e1 e2 e3
      refine kk H' _ (hS.put he ?_ e2 e3)
      exact ⟨(C, T, N), hr, t_OB.to (V := updV (vp_V fs) k v) ⟨_, e1, q2, q3, t_set q4 hap hk v⟩ (fun j _ => vp_updV_set hl v j)⟩
    have hslot : G.1.2 ci k < cell.slots.size := k2_hasslot (q4 k hk)
    cases h2 : Nat.beq nest 2
    · rw [h2] at hfin
      have hfin0 : (T k).2.2.2 = false := by
        have : (!(T k).2.2.2) = true := hfin
        simpa using this
      have hlay := hts _ (hin _ (u_in_lay hk))
      unfold u_lay at hlay
      rw [if_neg (by rw [hfin0]; decide)] at hlay
      have h6 := u_store hfc hkC hkind hlay hi (hty k hk) hn hft
      cases hne : Nat.beq nest 1
      · rw [hne] at hok
        rcases Bool.eq_false_or_eq_true (Nat.beq nest 3) with h33 | h33
        · rw [h33] at hok
          have hlink := va_Nw.use (A := args) rfl (hnw _ (of_decide_eq_true hok.2) rfl)
          refine va_WputK hx hb (f := f) hown hlink hi hst (by rw [q2]; exact h6) q1 q3 (by rw [hsl]; exact hslot) rfl rfl hdg fun H' e1 e2 e3 => ?_
          rw [hsl] at e1 ⊢
          exact fin H' e1 e2 e3
        rw [h33] at hok
        rcases Bool.eq_false_or_eq_true (Nat.beq nest 4) with h44 | h44
        · rw [h44] at hok
          have hok2 : (decide (Cond.fieldLink own idx own (T k).2.1 (T k).2.2.1 ∈ xWs) && decide (Cond.sameField own (T k).1 (T k).2.1 (T k).2.2.1 ∈ xWs)) = true := hok.2
          rw [Bool.and_eq_true, decide_eq_true_eq, decide_eq_true_eq] at hok2
          refine W.putK hx hb (f := f) ⟨hown, hts _ hok2.1, ⟨_, _, _, u_same (hts _ hok2.2) _ hi⟩, hst⟩ (by rw [q2]; exact h6) q1 q3 (by rw [hsl]; exact hslot) rfl rfl hdg fun H' e1 e2 e3 => ?_
          rw [hsl] at e1 ⊢
          exact fin H' e1 e2 e3
        rw [h44] at hok
        have hlink := hts _ (of_decide_eq_true hok.2)
        refine W.putK hx hb (f := f) ⟨hown, hlink, ⟨_, _, _, hi⟩, hst⟩ (by rw [q2]; exact h6) q1 q3 (by rw [hsl]; exact hslot) rfl rfl hdg fun H' e1 e2 e3 => ?_
        rw [hsl] at e1 ⊢
        exact fin H' e1 e2 e3
      · rw [hne] at hok
        have hlink := va_Nw.use (A := args) rfl (hnw _ (of_decide_eq_true hok.2) rfl)
        refine va_WputK hx hb (f := f) hown hlink hi hst (by rw [q2]; exact h6) q1 q3 (by rw [hsl]; exact hslot) rfl rfl hdg fun H' e1 e2 e3 => ?_
        rw [hsl] at e1 ⊢
        exact fin H' e1 e2 e3
    · have hn2 := Nat.eq_of_beq_eq_true h2
      subst hn2
      rw [h2] at hfin
      have hfin1 : ((T k).2.2.2 && decide ((T k).1 = own)) = true := hfin
      rw [Bool.and_eq_true, decide_eq_true_eq] at hfin1
      have hlink := hts _ (of_decide_eq_true (show decide (Cond.fieldLink own idx (T k).1 (T k).2.1 (T k).2.2.1 ∈ xWs) = true from hok.2))
      have hlay := hts _ (hin _ (u_in_lay hk))
      unfold u_lay at hlay
      rw [if_pos hfin1.1] at hlay
      have hcf : m.cls = cf := by
        obtain ⟨_, _, c', _, _, _, -, -, hf', -, -, -, hown2, -⟩ := Cond.laysFinal_spec hlay
        have e1 : c' = cf := by have := hi.symm.trans hf'; simp at this; exact this.1.symm
        rw [hfin1.2] at hown2
        rw [← e1]; exact Option.some.inj (hown.symm.trans hown2)
      have h6 := u_fits hfc hkC hkind (Or.inr hlay) hi (hty k hk) hn hft
      refine W.putFinK hx hb hown hlink hi hst hcf (hini rfl) (by rw [q2]; exact h6) q1 q3 (by rw [hsl]; exact hslot) rfl rfl hdg fun H' e1 e2 e3 => ?_
      rw [hsl] at e1 ⊢
      exact fin H' e1 e2 e3
  · cases hok
theorem x_iast (hx : p.tables.exec = Jvm.exec) (hb : c.code = cc) (hK : va_K G.1 vwCl (xtys G.2) s) (hS : xS G A H0 σ H locs) {n : Nat} {f : Nat → Int32} (he : σ.1 a = some (.inl (0, n, .inl f))) {i x : Int32} (hin : vp_in i n) (hdg : decode cc pc = .ok (.iastore, 1))
    (kk : ∀ (H1 : Heap) (locs1 : List Loc), xS G A H0 (xup σ.1 a (.inl (0, n, .inl (upd f i.toNatClampNeg x))), σ.2) H1 locs1 → W p l e R s m args below meth c H1 locs1 cells slots Q (F0 m (pc + 1) ls rest)) : W p l e R s m args below meth c H locs cells slots Q (F0 m pc ls (.int x :: .int i :: .ref a :: rest)) := by
  refine W.iast hx hb (hS.2.1 a _ he) ((hK.2 0 _ rfl).1 n (fun j => .int (f j))) (fun q => by cases q) (by show ¬ (i < 0 ∨ (arrV _ _ _).slots.size ≤ _); rw [arrV_size]; exact hin) rfl rfl hdg fun H1 e1 z oq => ?_
  refine kk H1 _ (hS.put he ?_ z oq)
  show H1[a]? = some (vp_cell _ _)
  rw [e1]
  dsimp only [xce]
  rw [vp_cell_i, vp_cell_i, arrV_store]
  congr 2
  funext q
  by_cases hq : q = i.toNatClampNeg
  · subst hq
    simp [updV, upd]
  · simp [updV, upd, hq]
theorem x_bast (hx : p.tables.exec = Jvm.exec) (hb : c.code = cc) (hK : va_K G.1 vwCl (xtys G.2) s) (hS : xS G A H0 σ H locs) {n : Nat} {f : Nat → Int32} (he : σ.1 a = some (.inl (1, n, .inl f))) {i x : Int32} (hin : vp_in i n) (hdg : decode cc pc = .ok (.bastore, 1))
    (kk : ∀ (H1 : Heap) (locs1 : List Loc), xS G A H0 (xup σ.1 a (.inl (1, n, .inl (upd f i.toNatClampNeg (vp_nar .byte x)))), σ.2) H1 locs1 → W p l e R s m args below meth c H1 locs1 cells slots Q (F0 m (pc + 1) ls rest)) : W p l e R s m args below meth c H locs cells slots Q (F0 m pc ls (.int x :: .int i :: .ref a :: rest)) := by
  refine W.bast hx hb (hS.2.1 a _ he) ((hK.2 1 _ rfl).1 n (fun j => .int (f j))) (fun q => by cases q) (by show ¬ (i < 0 ∨ (arrV _ _ _).slots.size ≤ _); rw [arrV_size]; exact hin) rfl rfl hdg fun H1 e1 z oq => ?_
  refine kk H1 _ (hS.put he ?_ z oq)
  show H1[a]? = some (vp_cell _ _)
  rw [e1]
  dsimp only [xce]
  rw [vp_cell_i, vp_cell_i, arrV_store]
  congr 2
  funext q
  by_cases hq : q = i.toNatClampNeg
  · subst hq
    simp [updV, upd, vp_nar, narrow]
  · simp [updV, upd, hq]
theorem x_last (hx : p.tables.exec = Jvm.exec) (hb : c.code = cc) (hK : va_K G.1 vwCl (xtys G.2) s) (hS : xS G A H0 σ H locs) {n : Nat} {f : Nat → Int64} (he : σ.1 a = some (.inl (2, n, .inr (.inl f)))) {i : Int32} {x : Int64} (hin : vp_in i n) (hdg : decode cc pc = .ok (.lastore, 1))
    (kk : ∀ (H1 : Heap) (locs1 : List Loc), xS G A H0 (xup σ.1 a (.inl (2, n, .inr (.inl (vp_updL f i.toNatClampNeg x)))), σ.2) H1 locs1 → W p l e R s m args below meth c H1 locs1 cells slots Q (F0 m (pc + 1) ls rest)) : W p l e R s m args below meth c H locs cells slots Q (F0 m pc ls (.long x :: .int i :: .ref a :: rest)) := by
  refine W.last hx hb (hS.2.1 a _ he) ((hK.2 2 _ rfl).1 n (fun j => .long (f j))) (fun q => by cases q) (by show ¬ (i < 0 ∨ (arrV _ _ _).slots.size ≤ _); rw [arrV_size]; exact hin) rfl rfl hdg fun H1 e1 z oq => ?_
  refine kk H1 _ (hS.put he ?_ z oq)
  show H1[a]? = some (vp_cell _ _)
  rw [e1]
  dsimp only [xce]
  rw [vp_cell_l, vp_cell_l, arrV_store]
  congr 2
  funext q
  by_cases hq : q = i.toNatClampNeg
  · subst hq
    simp [updV, vp_updL]
  · simp [updV, vp_updL, hq]
theorem x_dast (hx : p.tables.exec = Jvm.exec) (hb : c.code = cc) (hK : va_K G.1 vwCl (xtys G.2) s) (hS : xS G A H0 σ H locs) {n : Nat} {f : Nat → UInt64} (he : σ.1 a = some (.inl (3, n, .inr (.inr (.inr (.inl f)))))) {i : Int32} {x : UInt64} (hin : vp_in i n) (hdg : decode cc pc = .ok (.dastore, 1))
    (kk : ∀ (H1 : Heap) (locs1 : List Loc), xS G A H0 (xup σ.1 a (.inl (3, n, .inr (.inr (.inr (.inl (vf_upd f i.toNatClampNeg x)))))), σ.2) H1 locs1 → W p l e R s m args below meth c H1 locs1 cells slots Q (F0 m (pc + 1) ls rest)) : W p l e R s m args below meth c H locs cells slots Q (F0 m pc ls (.double x :: .int i :: .ref a :: rest)) := by
  refine W.dast hx hb (hS.2.1 a _ he) ((hK.2 3 _ rfl).1 n (fun j => .double (f j))) (fun q => by cases q) (by show ¬ (i < 0 ∨ (arrV _ _ _).slots.size ≤ _); rw [arrV_size]; exact hin) rfl rfl hdg fun H1 e1 z oq => ?_
  refine kk H1 _ (hS.put he ?_ z oq)
  show H1[a]? = some (vp_cell _ _)
  rw [e1]
  dsimp only [xce]
  rw [vp_cell_d, vp_cell_d, arrV_store]
  congr 2
  funext q
  by_cases hq : q = i.toNatClampNeg
  · subst hq
    simp [updV, vf_upd]
  · simp [updV, vf_upd, hq]
end ROWS2
end
section
/-! WHAT STAYS: the Tokens, the literals, the statics; a method's contract in the interpreter's words; calls. -/
def xtn (i : Nat) : String := (["END", "NUMBER", "UNKNOWN", "SEMICOLON", "PLUS", "MINUS", "TIMES", "OVER", "OPEN", "CLOSE", "SHELLS", "STEPS", "BLINKS", "CHANCE", "BALL", "SCRATCH", "TRUST", "CALM", "SLY", "PURSE", "BLINK", "ODDS", "SWAP", "FEINT", "REST", "STEAL", "PLANT", "PEEK", "REPEAT"] : List String).getD i ""
/-- the sites of text constants: class, place in its pool, text, which literal -/
def xK (lds : List (String × Nat × String × Nat)) (exs : List (String × Nat × String)) (E : xEn) (A : Nat → Prop) (U : State) (H : Heap) : Prop :=
  (∀ i, i < 29 → va_Z RX8 (xtn i) "LShellWatch$Token;" (.ref (E.1 i)) A U H) ∧
  va_Z RX8 "ALL" "[LShellWatch$Token;" (.ref E.2.2.2.1) A U H ∧
  va_T (.object RX8) E.2.2.2.1 29 (fun j => .ref (E.1 j)) A U H ∧
  (∀ i, i < 29 → va_O RX8 (E.1 i) A U H ∧ va_OF RX8 "text" "Ljava/lang/String;" (.ref (E.2.1 (xtt i))) (E.1 i) A U H) ∧
  vk_S xNS (xbyt.map List.length) xbyt E.2.1 E.2.2.1 A U H ∧
  va_Z RJ0 "COMPACT_STRINGS" "Z" (.int 1) A U H ∧
  va_Z RJ3 "SIOOBE_FORMATTER" "Ljava/util/function/BiFunction;" (eFm E) A U H ∧
  vx_Zq Bundle.tN "UNASSIGNED_STACK" Bundle.steD A U H ∧ vx_Zq Bundle.tN "SUPPRESSED_SENTINEL" Bundle.listD A U H ∧
  xNw U ∧ va_AO "ShellWatch$Token" U ∧ va_AO "ShellWatch$Game" U ∧
  (∀ q ∈ lds, vk_R q.1 q.2.1 q.2.2.1 (E.2.1 q.2.2.2) U) ∧ (∀ q ∈ exs, ∃ sa, vk_R q.1 q.2.1 q.2.2 sa U) ∧
  va_Z RJ6 "DigitOnes" "[B" (.ref (eD1 E)) A U H ∧ va_T .byte (eD1 E) 100 (fun j => .int (nI (48 + j % 10))) A U H ∧
  va_Z RJ6 "DigitTens" "[B" (.ref (eD2 E)) A U H ∧ va_T .byte (eD2 E) 100 (fun j => .int (nI (48 + j / 10))) A U H ∧
  va_Z RJx4a65c "DEFAULTCAPACITY_EMPTY_ELEMENTDATA" "[Ljava/lang/Object;" (.ref (eDc E)) A U H ∧ va_T (.object "java/lang/Object") (eDc E) 0 (fun _ => .null) A U H ∧
  va_T .int (eSa E) (eSn E) (fun j => .int (eSf E j)) A U H ∧ va_AO "java/lang/Object" U
theorem xK.to {lds : List (String × Nat × String × Nat)} {exs : List (String × Nat × String)} {E : xEn} {A B : Nat → Prop} {s U : State} {H0 H : Heap} (hW : s.WarmedH U.vm) (h : xK lds exs E A s H0) (hq : ∀ a : Nat, a < H0.size → ¬ A a → H[a]? = H0[a]?) (hB : ∀ q, B q → A q) : xK lds exs E B U H := by
  have hv := hW.alike
  obtain ⟨h1, h2, h3, h4, h5, h6, h7, h8, h9, h10, h11, h12, h13, h14, k1, k2, k3, k4, k5, k6, k7, k8⟩ := h
  exact ⟨fun i hi => ((h1 i hi).kept hq).narrow hB |>.moved hv, ((h2.kept hq).narrow hB).moved hv, ((h3.kept hq).narrow hB).moved hv,
    fun i hi => ⟨(((h4 i hi).1.kept hq).narrow hB).moved hv, (((h4 i hi).2.kept hq).narrow hB).moved hv⟩, ((h5.kept hq).narrow hB).moved hv,
    ((h6.kept hq).narrow hB).moved hv, ((h7.kept hq).narrow hB).moved hv, ((h8.kept hq).narrow hB).moved hv, ((h9.kept hq).narrow hB).moved hv,
    h10.warm hW, h11.moved hv, h12.moved hv, fun q hq9 => (h13 q hq9).warm hW, fun q hq9 => (h14 q hq9).imp fun sa h => h.warm hW,
    ((k1.kept hq).narrow hB).moved hv, ((k2.kept hq).narrow hB).moved hv, ((k3.kept hq).narrow hB).moved hv, ((k4.kept hq).narrow hB).moved hv, ((k5.kept hq).narrow hB).moved hv, ((k6.kept hq).narrow hB).moved hv, ((k7.kept hq).narrow hB).moved hv, k8.moved hv⟩
def xA (σ : xH) : Nat → Prop := fun q => σ.1 q ≠ none ∨ σ.2 ≤ q
def xPre (lds : List (String × Nat × String × Nat)) (exs : List (String × Nat × String)) (G : xG) (E : xEn) (av : List Value) (σ : xH) : Array Value → State → Prop := va_Pc av (fun U => U.heap.size = σ.2 ∧ xWo G σ.1 U.heap ∧ va_K G.1 vwCl (xtys G.2) U ∧ xK lds exs E (xA σ) U U.heap)
def xEnd (G : xG) (A : Nat → Prop) (w : Nat → Option va_E) (st t : State) : Prop := xWo G w t.heap ∧ (∀ a, w a ≠ none → A a) ∧ va_F A st t
def xQc (G : xG) (A : Nat → Prop) (r : xR) : Array Value → State → Outcome → State → Prop := fun _ st oc t => ∃ v, r.1 = .inl v ∧ oc = .returned v ∧ t.heap.size = r.2.2 ∧ xEnd G A r.2.1 st t
def xXC (G : xG) (A : Nat → Prop) (r : xR) : String → State → State → Prop := fun E st t => r.1 = .inr E ∧ xEnd G A r.2.1 st t
def xrm (d mc ms : Nat) : Room := { frames := d + 12, cells := mc, slots := ms, locals := 40 * d + 200 }
def xcw (M : xMth) : Bool := decide (M.1 = yL_steals) || decide (M.1 = yL_plants)
def xhd (M : xMth) : Cond := bif xcw M then .codeWith M.1 M.2.1 M.2.2.1 M.2.2.2.1 [(0, 5, 6, 37)] else .code M.1 M.2.1 M.2.2.1 M.2.2.2.1
def xws (M : xMth) : List Cond := xhd M :: xWs
/-- the contract of a method: where its code's value is r, it comes to r -/
def xMet (lds : List (String × Nat × String × Nat)) (exs : List (String × Nat × String)) (l : Launch) (G : xG) (E : xEn) (d : Nat) (M : xMth) (f : List Value → xH → Option xR) : Prop :=
  ∀ (av : List Value) (σ : xH) (r : xR), f av σ = some r → vx_Met l M.1 (xws M) (xrm d M.2.2.2.2.1 M.2.2.2.2.2) (xPre lds exs G E av σ) (xQc G (xA σ) r) (xXC G (xA σ) r) M.2.2.2.2.1 M.2.2.2.2.2 (xA σ)
theorem xPre_blind {lds : List (String × Nat × String × Nat)} {exs : List (String × Nat × String)} {G : xG} {E : xEn} {av : List Value} {σ : xH} : FrameBlind (xPre lds exs G E av σ) := by
  intro a U g mk h
  obtain ⟨h1, h2, h3, h4, h5⟩ := h
  exact ⟨h1, h2, h3, va_K.moved (u := U) (U := U.calling g mk a) (Vm.Alike.refl U.vm) h4, xK.to (s := U) (U := U.calling g mk a) (State.WarmedH.refl U) h5 (fun _ _ _ => rfl) (fun _ h => h)⟩
theorem xMet_plain {l : Launch} {y : MethodName} {ws : List Cond} {rm : Room} {Pc : Array Value → State → Prop} {Qc : Array Value → State → Outcome → State → Prop} {XC : String → State → State → Prop} {mc ms : Nat} {free : Addr → Prop} (h : vx_Met l y ws rm Pc Qc XC mc ms free) (hx : ∀ E st t, ¬ XC E st t) : Met l y ws rm Pc Qc mc ms free := by
  intro p e h1 h2 h3 s m args below h4 h5 h6 h7
  obtain ⟨n, o, q1, q2, q3, q4⟩ := h p e h1 h2 h3 s m args below h4 h5 h6 h7
  refine ⟨n, o, q1, q2, q3, ?_⟩
  rcases q4 with q | ⟨q, -, E, ce, L, hE, -⟩
  · exact q
  · exact absurd hE (hx _ _ _)
section CALLS
variable {p : Program} {l : Launch} {e : Env} {R : Room} {s : State} {m : MethodId} {args : Array Value} {below : List Frame} {meth : Method} {c : Code} {H : Heap} {locs : List Loc} {bc bs mc ms : Nat} {Q : State → Prop}
variable {cc : ByteArray} {pc : Nat} {ls : Array Slot} {st0 rest : List Value} {G : xG} {E : xEn} {A : Nat → Prop} {σ : xH} {own : String} {r : xR}
variable {lds : List (String × Nat × String × Nat)} {exs : List (String × Nat × String)}
theorem xS.sub (hS : xS G A s.heap σ H locs) (hA : ∀ q, s.heap.size ≤ q → A q) : ∀ q, xA σ q → A q := by
  intro q h
  rcases h with h | h
  · exact hS.2.2.1 q h
  · refine hA q (Nat.le_trans hS.2.2.2.1 ?_)
    rw [hS.1]
    exact h
theorem xS.next {st₀ t T' : State} {L : List Loc} (hS : xS G A s.heap σ H locs) (hA : ∀ q, s.heap.size ≤ q → A q) (h0 : st₀.heap = H) (e1 : T'.heap = t.heap) (hL : ∀ q ∈ L, xA σ q.base) (hend : xEnd G (xA σ) r.2.1 st₀ t) {z : Nat} (hz : t.heap.size = z) : xS G A s.heap (r.2.1, z) T'.heap (locs ++ L) := by
  have hsub := hS.sub hA
  obtain ⟨h1, h2, h3⟩ := hend
  refine ⟨by rw [e1]; exact hz, by rw [e1]; exact h1, fun a ha => hsub a (h2 a ha), ?_⟩
  exact (vx_keep h0 e1 hS.2.2.2 (fun q _ h => hsub q h) hsub hL h3).2.2
/-- behind a call that answers or throws -/
theorem x_ran {av : Array Value} (hr : vx_Run p l e R s m args below meth c H locs bc bs mc ms (F0 m pc ls st0) rest (xQc G (xA σ) r av) (xXC G (xA σ) r) (xA σ)) (hS : xS G A s.heap σ H locs) (hA : ∀ q, s.heap.size ≤ q → A q)
    (kx : ∀ (X : String) (ce : Cell) (q9 : Addr) (z : Nat) (H1 : Heap) (locs1 : List Loc), r.1 = .inr X → xS G A s.heap (r.2.1, z) H1 locs1 → H1[q9]? = some ce → ce.vm = .none → s.vm.findClass X = some ce.cls → vx_W p l e R s m args below meth c H1 locs1 (bc + mc) (bs + ms) Q (F0 m pc ls rest) q9)
    (kk : ∀ (v : Option Value) (H1 : Heap) (locs1 : List Loc), r.1 = .inl v → xS G A s.heap r.2 H1 locs1 → W p l e R s m args below meth c H1 locs1 (bc + mc) (bs + ms) Q (F0 m (pc + 3) ls (v.toList ++ rest))) : W p l e R s m args below meth c H locs bc bs Q (F0 m pc ls st0) := by
  intro T hT X
  rcases hr T hT X with ⟨v, st₀, t, T', L, h0, X', hL, e1, e2, ⟨v', hv, hv2, hz, hend⟩, st⟩ | ⟨q, st₀, t, T', L, E9, ce, h0, X', hL, e1, e2, ⟨hE, hend⟩, hce, hcv, hcl, st⟩
  · cases hv2
    obtain ⟨t2, a1, b1⟩ := kk v T'.heap (locs ++ L) hv (hS.next hA h0 e1 hL hend hz) T' rfl X'
    exact ⟨t2, st t2 a1, b1⟩
  · obtain ⟨t2, a1, b1⟩ := kx E9 ce q _ T'.heap (locs ++ L) hE (hS.next hA h0 e1 hL hend rfl) (by rw [e1]; exact hce) hcv hcl T' rfl X'
    exact ⟨t2, st.trans a1, b1⟩
/-- behind a call that answers -/
theorem x_ranM {av : Array Value} (hr : va_Run p l e R s m args below meth c H locs bc bs mc ms (F0 m pc ls st0) rest (xQc G (xA σ) r av) (xA σ)) (hS : xS G A s.heap σ H locs) (hA : ∀ q, s.heap.size ≤ q → A q)
    (kk : ∀ (v : Option Value) (H1 : Heap) (locs1 : List Loc), r.1 = .inl v → xS G A s.heap r.2 H1 locs1 → W p l e R s m args below meth c H1 locs1 (bc + mc) (bs + ms) Q (F0 m (pc + 3) ls (v.toList ++ rest))) : W p l e R s m args below meth c H locs bc bs Q (F0 m pc ls st0) := by
  intro T hT X
  obtain ⟨v, st₀, t, T', L, h0, X', hL, e1, e2, ⟨v', hv, hv2, hz, hend⟩, st⟩ := hr T hT X
  cases hv2
  obtain ⟨t2, a1, b1⟩ := kk v T'.heap (locs ++ L) hv (hS.next hA h0 e1 hL hend hz) T' rfl X'
  exact ⟨t2, st t2 a1, b1⟩
/-- the premise of a call out of the caller's world -/
theorem x_pre (hK : va_K G.1 vwCl (xtys G.2) s) (hKK : xK lds exs E A s s.heap) (hS : xS G A s.heap σ H locs) (hA : ∀ q, s.heap.size ≤ q → A q) (av : List Value) : ∀ U : State, U.heap = H → s.WarmedH U.vm → xPre lds exs G E av σ av.toArray U := by
  intro U hU hW
  refine ⟨rfl, by rw [hU]; exact hS.1, by rw [hU]; exact hS.2.1, hK.moved hW.alike, ?_⟩
  rw [hU]
  exact hKK.to hW (fun a h1 h2 => hS.2.2.2.2.1 a h1 h2) (hS.sub hA)
end CALLS
end
section
/-! The calls of the interpreter, by kinds. -/
def xclsN (c : Nat) : String := bif Nat.beq c 99 then RJ0 else match vwCl[c]? with
  | some r => r.1
  | none => ""
/-- some code of that name is told -/
def xhasC (x : MethodName) : Bool := xWs.any (fun w => match w with
  | .code y _ _ _ => decide (y = x)
  | _ => false)
theorem xhasC_ok {x : MethodName} (h : xhasC x = true) : ∃ b m r, Cond.code x b m r ∈ xWs := by
  obtain ⟨w, hw, h2⟩ := List.any_eq_true.mp h
  split at h2
  · next y b m r =>
    have h3 := of_decide_eq_true h2
    subst h3
    exact ⟨b, m, r, hw⟩
  · cases h2
theorem xRJ5_ne : RJ5 ≠ "java/lang/invoke/MethodHandle" ∧ RJ5 ≠ "java/lang/invoke/VarHandle" := by decide +kernel
def xokC (own : String) (kd idx n ci : Nat) (M : xMth) : Bool :=
  Nat.ble M.2.2.1 21 && (decide (xhd M ∈ xWs) && ((Nat.beq kd 10 == xcw M) && (decide (M.1.cls ≠ "java/lang/invoke/MethodHandle" ∧ M.1.cls ≠ "java/lang/invoke/VarHandle") && (decide (Cond.initialized M.1.cls ∈ xWs) &&
  match kd with
  | 0 => Nat.beq ci 0 && (decide ((parseMethodDescriptor M.1.desc).map (fun d => d.parameters.length) = some n) && (decide (Cond.methodLink own idx M.1 ∈ xWs) && decide (Cond.static M.1 ∈ xWs)))
  | 1 => decide ((parseMethodDescriptor M.1.desc).map (fun d => d.parameters.length + 1) = some n) && (decide (Cond.instanceMethod M.1 ∈ xWs) && (decide (Cond.methodLink own idx M.1 ∈ xWs) && (decide (Cond.selects M.1.cls M.1 M.1 ∈ xWs) && (Nat.blt 0 ci && decide (xclsN (ci - 1) = M.1.cls)))))
  | 2 => decide ((parseMethodDescriptor M.1.desc).map (fun d => d.parameters.length + 1) = some n) && (decide (Cond.instanceMethod M.1 ∈ xWs) && (decide (Cond.methodLink own idx M.1 ∈ xWs) && (decide (M.1.name = "<init>") && (decide (M.2.2.2.1 = none) && Nat.blt 0 ci))))
  | 3 => decide ((parseMethodDescriptor M.1.desc).map (fun d => d.parameters.length + 1) = some n) && (decide (Cond.instanceMethod M.1 ∈ xWs) && (decide (Cond.methodLinkNest own idx M.1 "ShellWatch" ∈ lw_tbl) && (decide (Cond.selects M.1.cls M.1 M.1 ∈ xWs) && (Nat.blt 0 ci && decide (xclsN (ci - 1) = M.1.cls)))))
  | 4 => decide ((parseMethodDescriptor M.1.desc).map (fun d => d.parameters.length + 1) = some n) && (decide (Cond.instanceMethod M.1 ∈ xWs) && (decide (Cond.methodLinkNest own idx M.1 "ShellWatch" ∈ lw_tbl) && (decide (M.1.name = "<init>") && (decide (M.2.2.2.1 = none) && Nat.blt 0 ci))))
  | 5 => decide ((parseMethodDescriptor M.1.desc).map (fun d => d.parameters.length + 1) = some n) && (decide (Cond.instanceMethod M.1 ∈ xWs) && (decide (Cond.methodLink own idx M.1 ∈ xWs) && (decide (Cond.selects M.1.cls M.1 M.1 ∈ xWs) && (Nat.blt 0 ci && decide (xclsN (ci - 1) = M.1.cls)))))
  | 10 => Nat.beq ci 0 && (decide ((parseMethodDescriptor M.1.desc).map (fun d => d.parameters.length) = some n) && (decide (Cond.methodLink own idx M.1 ∈ xWs) && decide (Cond.static M.1 ∈ xWs)))
  | 6 => decide ((parseMethodDescriptor M.1.desc).map (fun d => d.parameters.length + 1) = some n) && (decide (Cond.instanceMethod M.1 ∈ xWs) && (decide (Cond.methodLink own idx M.1 ∈ xWs) && (decide (Cond.sameMethod M.1.cls M.1.cls M.1.name M.1.desc ∈ xWs) && (decide (Cond.selects (xclsN (ci - 1)) M.1 M.1 ∈ xWs) && Nat.blt 0 ci))))
  | 7 => decide ((parseMethodDescriptor M.1.desc).map (fun d => d.parameters.length + 1) = some n) && (decide (Cond.instanceMethod M.1 ∈ xWs) && (decide (Cond.methodLink own idx M.1 ∈ xWs) && (decide (Cond.sameMethod M.1.cls M.1.cls M.1.name M.1.desc ∈ xWs) && (decide (Cond.superclass own M.1.cls ∈ xWs) && (decide (M.1.name ≠ "<init>") && Nat.blt 0 ci && Nat.blt (ci - 1) vwCl.length)))))
  | 8 => Nat.beq ci 0 && (decide ((parseMethodDescriptor M.1.desc).map (fun d => d.parameters.length) = some n) && (decide (Cond.methodLinkNest own idx M.1 "ShellWatchLaw" ∈ lw_tbl) && decide (Cond.static M.1 ∈ xWs)))
  | 9 => decide ((parseMethodDescriptor M.1.desc).map (fun d => d.parameters.length + 1) = some n) && (decide (Cond.instanceMethod M.1 ∈ xWs) && (decide (Cond.methodLink own idx ⟨RJ5, M.1.name, M.1.desc⟩ ∈ xWs) && (decide (Cond.sameMethod RJ5 RJ5 M.1.name M.1.desc ∈ xWs) && (decide (Cond.instanceMethod ⟨RJ5, M.1.name, M.1.desc⟩ ∈ xWs) && (decide (Cond.selects (xclsN (ci - 1)) ⟨RJ5, M.1.name, M.1.desc⟩ M.1 ∈ xWs) && (xhasC ⟨RJ5, M.1.name, M.1.desc⟩ && Nat.blt 0 ci))))))
  | _ => false))))
/-- how an instruction calls, by the kind -/
def xins (kd idx : Nat) : Instr := match kd with
  | 0 => .invokestatic idx
  | 2 => .invokespecial idx
  | 4 => .invokespecial idx
  | 7 => .invokespecial idx
  | 8 => .invokestatic idx
  | 10 => .invokestatic idx
  | _ => .invokevirtual idx
theorem xgood : ∀ w ∈ xWs, goodWord w = true := fun w h => (List.mem_filter.mp h).2
theorem xGI {ws : List Cond} (h : ∀ w ∈ ws, w ∈ xWs) : GoodIn xWs ws := fun w hw => ⟨h w hw, good_of_word (xgood w (h w hw))⟩
section INVOKE
variable {p : Program} {l : Launch} {e : Env} {s : State} {m : MethodId} {args : Array Value} {below : List Frame} {meth : Method} {c : Code} {H : Heap} {locs : List Loc} {bc bs d MC MS : Nat} {Q : State → Prop}
variable {cc : ByteArray} {pc nL : Nat} {ls : Array Slot} {rest : List Value} {G : xG} {E : xEn} {A : Nat → Prop} {σ : xH} {own : String} {r : xR}
variable {lds : List (String × Nat × String × Nat)} {exs : List (String × Nat × String)}
/-- the receiver's cell -/
theorem x_recv (hK : va_K G.1 vwCl (xtys G.2) s) (hKK : xK lds exs E A s s.heap) (hS : xS G A s.heap σ H locs) {ci b : Nat} (h : (∃ fs, σ.1 b = some (.inr (ci, fs))) ∨ (ci = 99 ∧ ∃ i, xfind E.2.1 b xNS = some i) ∨ (ci = 99 ∧ ∃ fs, σ.1 b = some (.inr (11, fs)))) : ∃ cellB : Cell, H[b]? = some cellB ∧ cellB.vm.isStatics = false ∧ s.vm.findClass (xclsN ci) = some cellB.cls := by
  rcases h with ⟨fs, hb⟩ | ⟨rfl, i, hi⟩ | ⟨rfl, fs, hb⟩
  · obtain ⟨q, hq, -⟩ := hS.2.1 b _ hb
    have h99 : Nat.beq ci 99 = false := by
      cases h9 : Nat.beq ci 99
      · rfl
      · have := Nat.eq_of_beq_eq_true h9
        subst this
        simp [vwCl] at hq
    have hn : xclsN ci = q.1 := by
      unfold xclsN
      rw [h99, hq]
      rfl
    rw [hn]
    exact va_recv hK (hS.2.1.one hb) (ci := ci) (q0 := 0) hq rfl
  · obtain ⟨h1, h2⟩ := iv_xfind hi
    subst h2
    exact vk_recv hKK.2.2.2.2.1 h1 hS.2.2.2
  · exact va_recv hK (hS.2.1.one hb) (ci := 11) (q0 := 0) rfl rfl
theorem x_invoke (hx : p.tables.exec = Jvm.exec) (hb : c.code = cc) (hml : c.maxLocals = nL) (hts : ∀ w ∈ xWs, w.before args s = true) (hown : s.vm.findClass own = some m.cls)
  (hK : va_K G.1 vwCl (xtys G.2) s) (hKK : xK lds exs E A s s.heap) (hS : xS G A s.heap σ H locs) (hA : ∀ q, s.heap.size ≤ q → A q) (hsz : ls.size = nL)
    {kd idx n ci : Nat} {M : xMth} {f : List Value → xH → Option xR} (hok : xokC own kd idx n ci M = true) (hM : xMet lds exs l G E d M f) {av st : List Value} (hn : av.length = n) (hst : st = av.reverse ++ rest) (hf : f av σ = some r)
    (hrecv : ci ≠ 0 → ∃ b As, av = .ref b :: As ∧ ((∃ fs, σ.1 b = some (.inr (ci - 1, fs))) ∨ (ci - 1 = 99 ∧ ∃ i, xfind E.2.1 b xNS = some i) ∨ (ci - 1 = 99 ∧ ∃ fs, σ.1 b = some (.inr (11, fs)))))
    (hW : xcat rest ≤ 8) (hbc : bc + M.2.2.2.2.1 ≤ MC) (hbs : bs + M.2.2.2.2.2 ≤ MS) (hdg : decode cc pc = .ok (xins kd idx, 3))
    (hnt : kd ≠ 5 → ∃ v, r.1 = .inl v)
    (kx : ∀ (X : String) (ce : Cell) (q9 : Addr) (z : Nat) (H1 : Heap) (locs1 : List Loc), r.1 = .inr X → xS G A s.heap (r.2.1, z) H1 locs1 → H1[q9]? = some ce → ce.vm = .none → s.vm.findClass X = some ce.cls → vx_W p l e (xrm (d + 1) MC MS) s m args below meth c H1 locs1 (bc + M.2.2.2.2.1) (bs + M.2.2.2.2.2) Q (F0 m pc ls rest) q9)
    (kk : ∀ (v : Option Value) (H1 : Heap) (locs1 : List Loc), r.1 = .inl v → xS G A s.heap r.2 H1 locs1 → W p l e (xrm (d + 1) MC MS) s m args below meth c H1 locs1 (bc + M.2.2.2.2.1) (bs + M.2.2.2.2.2) Q (F0 m (pc + 3) ls (v.toList ++ rest))) :
    W p l e (xrm (d + 1) MC MS) s m args below meth c H locs bc bs Q (F0 m pc ls st) := by
  subst hst
  obtain ⟨y, bytes, maxL, ret, mc, ms⟩ := M
  dsimp only at hbc hbs kx kk
  have hC := hM av σ r hf
  have hCF : CallFix p m c cc nL s args xWs own := ⟨hx, hb, hml, hown, hts⟩
  unfold xokC at hok
  simp only [Bool.and_eq_true, decide_eq_true_eq] at hok
  obtain ⟨h21, hcode, hk10, hy, hini, hrest⟩ := hok
  have hk10 : (Nat.beq kd 10) = xcw (y, bytes, maxL, ret, mc, ms) := by simpa using hk10
  have h21 : maxL ≤ 21 := Nat.le_of_ble_eq_true h21
  have hR : (xrm d mc ms).frames + 1 ≤ (xrm (d + 1) MC MS).frames ∧ 8 + (maxL + 11) + (xrm d mc ms).locals ≤ (xrm (d + 1) MC MS).locals := by
    unfold xrm
    dsimp only
    omega
  have hws : ∀ w ∈ xws (y, bytes, maxL, ret, mc, ms), w ∈ xWs := fun w h => (List.mem_cons.mp h).elim (fun e => by rw [e]; exact hcode) id
  have hxw : Nat.beq kd 10 = false → xws (y, bytes, maxL, ret, mc, ms) = Cond.code y bytes maxL ret :: xWs := by
    intro h
    rw [hk10] at h
    unfold xws xhd
    rw [h]
    rfl
  have hpre := x_pre hK hKK hS hA av
  match kd, hdg, hrest, hnt with
  | 0, hdg, hrest, hnt =>
    simp only [Bool.and_eq_true, decide_eq_true_eq] at hrest
    obtain ⟨-, hd, hl, hs9⟩ := hrest
    have hd : (parseMethodDescriptor y.desc).map (fun d => d.parameters.length) = some n := hd
    refine x_ran (vx_runS hCF hC (va_cwS n hts (xGI ?_) (hxw rfl) rfl rfl ⟨hy.1, hy.2, hd⟩ hR) ⟨xPre_blind, hpre⟩ rfl hn hsz rfl (by simpa [xcat] using hW) hdg ⟨hbc, hbs⟩) hS hA (fun X ce q9 z H1 locs1 q1 q2 q3 q4 q5 => ?_) kk
    · intro w hw
      rcases List.mem_append.mp hw with hw | hw
      · simp only [List.mem_cons, List.not_mem_nil, or_false] at hw
        rcases hw with rfl | rfl | rfl
        · exact hl
        · exact hs9
        · exact hini
      · exact hws w hw
    · obtain ⟨v, hv⟩ := hnt (by decide)
      rw [hv] at q1
      cases q1
  | 1, hdg, hrest, hnt =>
    simp only [Bool.and_eq_true, decide_eq_true_eq] at hrest
    obtain ⟨hd, hin, hl, hs9, hci, hcl⟩ := hrest
    obtain ⟨b, As, rfl, hrv⟩ := hrecv (by intro h; rw [h] at hci; cases hci)
    obtain ⟨n', rfl⟩ : ∃ n', n = n' + 1 := ⟨As.length, by rw [← hn]; rfl⟩
    have hd : (parseMethodDescriptor y.desc).map (fun d => d.parameters.length) = some n' := by
      cases hp : parseMethodDescriptor y.desc with
      | none => rw [hp] at hd; cases hd
      | some g => rw [hp] at hd; simpa using hd
    have hcell := x_recv hK hKK hS hrv
    rw [hcl] at hcell
    refine x_ran (vx_runV hCF hC (cwV n' hts (xGI ?_) (hxw rfl) rfl rfl ⟨rfl, hy.1, hy.2, hd⟩ hR) ⟨xPre_blind, hcell, hpre⟩ rfl (by simpa using hn) hsz (by simp) (by simpa [xcat] using hW) hdg ⟨hbc, hbs⟩) hS hA (fun X ce q9 z H1 locs1 q1 q2 q3 q4 q5 => ?_) kk
    · intro w hw
      rcases List.mem_append.mp hw with hw | hw
      · simp only [List.mem_cons, List.not_mem_nil, or_false] at hw
        rcases hw with rfl | rfl | rfl | rfl
        · exact hl
        · exact hin
        · exact hs9
        · exact hini
      · exact hws w hw
    · obtain ⟨v, hv⟩ := hnt (by decide)
      rw [hv] at q1
      cases q1
  | 2, hdg, hrest, hnt =>
    simp only [Bool.and_eq_true, decide_eq_true_eq] at hrest
    obtain ⟨hd, hin, hl, hy1, hrt, hci⟩ := hrest
    have hrt : ret = none := hrt
    subst hrt
    obtain ⟨b, As, rfl, hrv⟩ := hrecv (by intro h; rw [h] at hci; cases hci)
    obtain ⟨n', rfl⟩ : ∃ n', n = n' + 1 := ⟨As.length, by rw [← hn]; rfl⟩
    have hd : (parseMethodDescriptor y.desc).map (fun d => d.parameters.length) = some n' := by
      cases hp : parseMethodDescriptor y.desc with
      | none => rw [hp] at hd; cases hd
      | some g => rw [hp] at hd; simpa using hd
    obtain ⟨v0, hv0⟩ := hnt (by decide)
    have hC' := xMet_plain hC (fun X st t h => by have := h.1; rw [hv0] at this; cases this)
    exact x_ranM (va_runI hCF hC' (cwI n' hts (xGI hws) (hxw rfl) rfl rfl (hts _ hini) (hts _ hl) (hts _ hin) hy1 ⟨hy.1, hy.2, hd⟩ hR) ⟨xPre_blind, hpre⟩ rfl (by simpa using hn) hsz (by simp) (by simpa [xcat] using hW) hdg ⟨hbc, hbs⟩) hS hA kk
  | 3, hdg, hrest, hnt =>
    simp only [Bool.and_eq_true, decide_eq_true_eq] at hrest
    obtain ⟨hd, hin, hl, hs9, hci, hcl⟩ := hrest
    obtain ⟨b, As, rfl, hrv⟩ := hrecv (by intro h; rw [h] at hci; cases hci)
    obtain ⟨n', rfl⟩ : ∃ n', n = n' + 1 := ⟨As.length, by rw [← hn]; rfl⟩
    have hd : (parseMethodDescriptor y.desc).map (fun d => d.parameters.length) = some n' := by
      cases hp : parseMethodDescriptor y.desc with
      | none => rw [hp] at hd; cases hd
      | some g => rw [hp] at hd; simpa using hd
    have hcell := x_recv hK hKK hS hrv
    rw [hcl] at hcell
    obtain ⟨v0, hv0⟩ := hnt (by decide)
    have hC' := xMet_plain hC (fun X st t h => by have := h.1; rw [hv0] at this; cases this)
    exact x_ranM (va_runVN hCF hC' ⟨va_cnB n' hts (xGI hws) (hxw rfl) rfl rfl (hKK.2.2.2.2.2.2.2.2.2.1 _ hl rfl) (hts _ hini) ⟨hy.1, hy.2, hd⟩ hR, hts _ hin, hts _ hs9⟩ ⟨xPre_blind, hcell, hpre⟩ rfl (by simpa using hn) hsz (by simp) (by simpa [xcat] using hW) hdg ⟨hbc, hbs⟩) hS hA kk
  | 4, hdg, hrest, hnt =>
    simp only [Bool.and_eq_true, decide_eq_true_eq] at hrest
    obtain ⟨hd, hin, hl, hy1, hrt, hci⟩ := hrest
    have hrt : ret = none := hrt
    subst hrt
    obtain ⟨b, As, rfl, hrv⟩ := hrecv (by intro h; rw [h] at hci; cases hci)
    obtain ⟨n', rfl⟩ : ∃ n', n = n' + 1 := ⟨As.length, by rw [← hn]; rfl⟩
    have hd : (parseMethodDescriptor y.desc).map (fun d => d.parameters.length) = some n' := by
      cases hp : parseMethodDescriptor y.desc with
      | none => rw [hp] at hd; cases hd
      | some g => rw [hp] at hd; simpa using hd
    obtain ⟨v0, hv0⟩ := hnt (by decide)
    have hC' := xMet_plain hC (fun X st t h => by have := h.1; rw [hv0] at this; cases this)
    exact x_ranM (va_runIN hCF hC' ⟨va_cnB n' hts (xGI hws) (hxw rfl) rfl rfl (hKK.2.2.2.2.2.2.2.2.2.1 _ hl rfl) (hts _ hini) ⟨hy.1, hy.2, hd⟩ hR, hy1, hts _ hin⟩ ⟨xPre_blind, hpre⟩ rfl (by simpa using hn) hsz (by simp) (by simpa [xcat] using hW) hdg ⟨hbc, hbs⟩) hS hA kk
  | 5, hdg, hrest, hnt =>
    simp only [Bool.and_eq_true, decide_eq_true_eq] at hrest
    obtain ⟨hd, hin, hl, hs9, hci, hcl⟩ := hrest
    obtain ⟨b, As, rfl, hrv⟩ := hrecv (by intro h; rw [h] at hci; cases hci)
    obtain ⟨n', rfl⟩ : ∃ n', n = n' + 1 := ⟨As.length, by rw [← hn]; rfl⟩
    have hd : (parseMethodDescriptor y.desc).map (fun d => d.parameters.length) = some n' := by
      cases hp : parseMethodDescriptor y.desc with
      | none => rw [hp] at hd; cases hd
      | some g => rw [hp] at hd; simpa using hd
    have hcell := x_recv hK hKK hS hrv
    rw [hcl] at hcell
    refine x_ran (vx_runV hCF hC (cwV n' hts (xGI ?_) (hxw rfl) rfl rfl ⟨rfl, hy.1, hy.2, hd⟩ hR) ⟨xPre_blind, hcell, hpre⟩ rfl (by simpa using hn) hsz (by simp) (by simpa [xcat] using hW) hdg ⟨hbc, hbs⟩) hS hA kx kk
    intro w hw
    rcases List.mem_append.mp hw with hw | hw
    · simp only [List.mem_cons, List.not_mem_nil, or_false] at hw
      rcases hw with rfl | rfl | rfl | rfl
      · exact hl
      · exact hin
      · exact hs9
      · exact hini
    · exact hws w hw
  | 6, hdg, hrest, hnt =>
    simp only [Bool.and_eq_true, decide_eq_true_eq] at hrest
    obtain ⟨hd, hin, hl, hsm, hs9, hci⟩ := hrest
    obtain ⟨b, As, rfl, hrv⟩ := hrecv (by intro h; rw [h] at hci; cases hci)
    obtain ⟨n', rfl⟩ : ∃ n', n = n' + 1 := ⟨As.length, by rw [← hn]; rfl⟩
    have hd : (parseMethodDescriptor y.desc).map (fun d => d.parameters.length) = some n' := by
      cases hp : parseMethodDescriptor y.desc with
      | none => rw [hp] at hd; cases hd
      | some g => rw [hp] at hd; simpa using hd
    have hcell := x_recv hK hKK hS hrv
    obtain ⟨v0, hv0⟩ := hnt (by decide)
    have hC' := xMet_plain hC (fun X st t h => by have := h.1; rw [hv0] at this; cases this)
    refine x_ranM (va_runU hCF hC' (va_cwU (owner := y.cls) n' hts (xGI ?_) (hxw rfl) rfl rfl rfl ⟨hy.1, hy.2, hd⟩ hR) ⟨xPre_blind, hcell, hpre⟩ rfl (by simpa using hn) hsz (by simp) (by simpa [xcat] using hW) hdg ⟨hbc, hbs⟩) hS hA kk
    intro w hw
    rcases List.mem_append.mp hw with hw | hw
    · simp only [List.mem_cons, List.not_mem_nil, or_false] at hw
      rcases hw with rfl | rfl | rfl | rfl | rfl
      · exact hl
      · exact hsm
      · exact hs9
      · exact hin
      · exact hini
    · exact hws w hw
  | 7, hdg, hrest, hnt =>
    simp only [Bool.and_eq_true, decide_eq_true_eq] at hrest
    obtain ⟨hd, hin, hl, hsm, hsu, ⟨hno, hci⟩, hcl⟩ := hrest
    obtain ⟨b, As, rfl, hrv⟩ := hrecv (by intro h; rw [h] at hci; cases hci)
    obtain ⟨n', rfl⟩ : ∃ n', n = n' + 1 := ⟨As.length, by rw [← hn]; rfl⟩
    have hd : (parseMethodDescriptor y.desc).map (fun d => d.parameters.length) = some n' := by
      cases hp : parseMethodDescriptor y.desc with
      | none => rw [hp] at hd; cases hd
      | some g => rw [hp] at hd; simpa using hd
    have hcell := x_recv hK hKK hS hrv
    obtain ⟨r9, hr9⟩ : ∃ r9, vwCl[ci - 1]? = some r9 := ⟨_, List.getElem?_eq_getElem (Nat.le_of_ble_eq_true hcl)⟩
    have hn99 : Nat.beq (ci - 1) 99 = false := by
      have : ci - 1 < 14 := Nat.le_of_ble_eq_true hcl
      cases h9 : Nat.beq (ci - 1) 99
      · rfl
      · have := Nat.eq_of_beq_eq_true h9
        omega
    have hnm : xclsN (ci - 1) = r9.1 := by
      unfold xclsN
      rw [hn99, hr9]
      rfl
    rw [hnm] at hcell
    obtain ⟨v0, hv0⟩ := hnt (by decide)
    have hC' := xMet_plain hC (fun X st t h => by have := h.1; rw [hv0] at this; cases this)
    refine x_ranM (va_runSU (C := r9.1) (hK.1 _ _ hr9).2 hCF hC' (va_cwSU n' hts (xGI ?_) (hxw rfl) rfl rfl ⟨hno, hd⟩ hR) ⟨xPre_blind, hcell, hpre⟩ rfl (by simpa using hn) hsz (by simp) (by simpa [xcat] using hW) hdg ⟨hbc, hbs⟩) hS hA kk
    intro w hw
    rcases List.mem_append.mp hw with hw | hw
    · simp only [List.mem_cons, List.not_mem_nil, or_false] at hw
      rcases hw with rfl | rfl | rfl | rfl | rfl
      · exact hl
      · exact hsm
      · exact hsu
      · exact hin
      · exact hini
    · exact hws w hw
  | 8, hdg, hrest, hnt =>
    simp only [Bool.and_eq_true, decide_eq_true_eq] at hrest
    obtain ⟨-, hd, hl, hs9⟩ := hrest
    have hd : (parseMethodDescriptor y.desc).map (fun d => d.parameters.length) = some n := hd
    obtain ⟨v0, hv0⟩ := hnt (by decide)
    have hC' := xMet_plain hC (fun X st t h => by have := h.1; rw [hv0] at this; cases this)
    exact x_ranM (va_runSN hCF hC' ⟨va_cnB n hts (xGI hws) (hxw rfl) rfl rfl (hKK.2.2.2.2.2.2.2.2.2.1 _ hl rfl) (hts _ hini) ⟨hy.1, hy.2, hd⟩ hR, hts _ hs9, trivial⟩ ⟨xPre_blind, hpre⟩ rfl hn hsz rfl (by simpa [xcat] using hW) hdg ⟨hbc, hbs⟩) hS hA kk
  | 9, hdg, hrest, hnt =>
    simp only [Bool.and_eq_true, decide_eq_true_eq] at hrest
    obtain ⟨hd, hin, hl, hsm, hix, hs9, hhc, hci⟩ := hrest
    obtain ⟨b, As, rfl, hrv⟩ := hrecv (by intro h; rw [h] at hci; cases hci)
    obtain ⟨n', rfl⟩ : ∃ n', n = n' + 1 := ⟨As.length, by rw [← hn]; rfl⟩
    have hd : (parseMethodDescriptor y.desc).map (fun d => d.parameters.length) = some n' := by
      cases hp : parseMethodDescriptor y.desc with
      | none => rw [hp] at hd; cases hd
      | some g => rw [hp] at hd; simpa using hd
    have hcell := x_recv hK hKK hS hrv
    obtain ⟨v0, hv0⟩ := hnt (by decide)
    obtain ⟨b0, m0, r0, h0⟩ := xhasC_ok hhc
    have hC' := xMet_plain hC (fun X st t h => by have := h.1; rw [hv0] at this; cases this)
    refine x_ranM (va_runU hCF hC' (va_cwO (owner := RJ5) (x := ⟨RJ5, y.name, y.desc⟩) n' hts (xGI ?_) (hxw rfl) rfl rfl h0 ⟨xRJ5_ne.1, xRJ5_ne.2, hd⟩ hR) ⟨xPre_blind, hcell, hpre⟩ rfl (by simpa using hn) hsz (by simp) (by simpa [xcat] using hW) hdg ⟨hbc, hbs⟩) hS hA kk
    intro w hw
    rcases List.mem_append.mp hw with hw | hw
    · simp only [List.mem_cons, List.not_mem_nil, or_false] at hw
      rcases hw with rfl | rfl | rfl | rfl | rfl | rfl
      · exact hl
      · exact hsm
      · exact hix
      · exact hs9
      · exact hin
      · exact hini
    · exact hws w hw
  | 10, hdg, hrest, hnt =>
    simp only [Bool.and_eq_true, decide_eq_true_eq] at hrest
    obtain ⟨-, hd, hl, hs9⟩ := hrest
    have hd : (parseMethodDescriptor y.desc).map (fun d => d.parameters.length) = some n := hd
    obtain ⟨v0, hv0⟩ := hnt (by decide)
    have hC' := xMet_plain hC (fun X st t h => by have := h.1; rw [hv0] at this; cases this)
    have hxw2 : xws (y, bytes, maxL, ret, mc, ms) = Cond.codeWith y bytes maxL ret [(0, 5, 6, 37)] :: xWs := by
      unfold xws xhd
      rw [← hk10]
      rfl
    refine x_ranM (vx_runSW hCF hC' (vx_cwSW (hh := [(0, 5, 6, 37)]) n hts (xGI ?_) hxw2 rfl rfl ⟨hy.1, hy.2, hd⟩ hR) ⟨xPre_blind, hpre⟩ rfl hn hsz rfl (by simpa [xcat] using hW) hdg ⟨hbc, hbs⟩) hS hA kk
    intro w hw
    rcases List.mem_append.mp hw with hw | hw
    · simp only [List.mem_cons, List.not_mem_nil, or_false] at hw
      rcases hw with rfl | rfl | rfl
      · exact hl
      · exact hs9
      · exact hini
    · exact hws w hw
  | k + 11, hdg, hrest, hnt => cases hrest
end INVOKE
end
section
/-! New objects and rows, rows of references, System.arraycopy, a throw. -/
def xkty (k : Nat) : FieldType := match k with
  | 0 => .int
  | 1 => .byte
  | 2 => .long
  | _ => .double
def xN (C : String) : String := C
section ROWS3
variable {p : Program} {l : Launch} {e : Env} {R : Room} {s : State} {m : MethodId} {args : Array Value} {below : List Frame} {meth : Method} {c : Code} {H : Heap} {locs : List Loc} {cells slots : Nat} {Q : State → Prop}
variable {cc : ByteArray} {pc : Nat} {ls : Array Slot} {rest : List Value} {G : xG} {A : Nat → Prop} {σ : xH} {H0 : Heap} {own : String} {a : Nat} {E : xEn}
variable {lds : List (String × Nat × String × Nat)} {exs : List (String × Nat × String)}
theorem xS.push {H1 : Heap} {x : va_E} (hS : xS G A H0 σ H locs) (hA : ∀ q, H0.size ≤ q → A q) (e1 : va_at G.1 vwCl (H.size, xce G.2 x) H1) (z1 : H1.size = H.size + 1) (o1 : ∀ q, q < H.size → H1[q]? = H[q]?) : xS G A H0 (xup σ.1 σ.2 x, σ.2 + 1) H1 locs := by
  obtain ⟨h1, h2, h3, h4⟩ := hS
  rw [h1] at e1
  refine ⟨by rw [z1, h1], fun b y hb => ?_, fun b hb => ?_, Nat.le_trans h4.1 (by omega), fun q g1 g2 => (o1 q (Nat.lt_of_lt_of_le g1 h4.1)).trans (h4.2.1 q g1 g2), h4.2.2⟩
  · dsimp only at hb
    by_cases hab : b = σ.2
    · subst hab
      rw [xup_same] at hb
      cases hb
      exact e1
    · rw [xup_ne hab] at hb
      have h5 := h2 b y hb
      exact h5.kept (o1 b h5.lt)
  · dsimp only at hb
    by_cases hab : b = σ.2
    · subst hab
      exact hA _ (by rw [← h1]; exact h4.1)
    · rw [xup_ne hab] at hb
      exact h3 b hb
theorem xS.ref (hS : xS G A H0 σ H locs) : σ.2 = H.size := hS.1.symm
theorem xdv_ok {ty : FieldType} : defaultValue ty = xdv ty := by
  cases ty <;> rfl
theorem xdef_ok {ci n j : Nat} (h : j < n) : defaultValue (xtyp ci j) = vp_V (xdef ci n) j := by
  unfold vp_V xdef
  rw [xdv_ok]
  simp [h]
theorem x_new (hx : p.tables.exec = Jvm.exec) (hb : c.code = cc) (hts : ∀ w ∈ xWs, w.before args s = true) (hown : s.vm.findClass own = some m.cls) (hK : va_K G.1 vwCl (xtys G.2) s) (hS : xS G A H0 σ H locs) (hA : ∀ q, H0.size ≤ q → A q)
    {idx ci : Nat} {r : vw_C} (hr : vwCl[ci]? = some r) (h1 : Cond.classLink own idx r.1 ∈ xWs) (h2 : Cond.instantiable r.1 r.2.2 ∈ xWs) (h3 : Cond.initialized r.1 ∈ xWs) (hcells : cells + 1 ≤ R.cells) (hslots : slots + r.2.2 ≤ R.slots) (hdg : decode cc pc = .ok (.new idx, 3))
    (kk : ∀ (H1 : Heap), xS G A H0 (xup σ.1 σ.2 (.inr (ci, xdef ci r.2.2)), σ.2 + 1) H1 locs → W p l e R s m args below meth c H1 locs (cells + 1) (slots + r.2.2) Q (F0 m (pc + 3) ls (.ref σ.2 :: rest))) : W p l e R s m args below meth c H locs cells slots Q (F0 m pc ls rest) := by
  have hKn := hK.1 ci _ hr
  obtain ⟨hin, hty, hnm⟩ := xcl_ok hr
  refine W.newcK hx hb hown (hts _ h1) (hts _ h2) (hts _ h3) rfl hdg hcells hslots hKn.2.1 rfl fun H1 kC hkC e1 z1 o1 => ?_
  have h9 := kk H1 (hS.push hA (x := .inr (ci, xdef ci r.2.2)) ⟨r, hr, (u_born (xtyp ci) hts hin hKn hkC e1 hty).to (fun j hj => xdef_ok hj)⟩ z1 o1)
  rw [hS.ref] at h9
  exact h9
theorem xarr_ok {k n : Nat} {cA : ClassId} (hk : k < 4) : vp_cell cA (n, xarr k) = arrV cA n (fun _ => defaultValue (xkty k)) := by
  match k, hk with
  | 0, _ => rfl
  | 1, _ => rfl
  | 2, _ => rfl
  | 3, _ => rfl
theorem x_newa (hx : p.tables.exec = Jvm.exec) (hb : c.code = cc) (hts : ∀ w ∈ xWs, w.before args s = true) (hK : va_K G.1 vwCl (xtys G.2) s) (hS : xS G A H0 σ H locs) (hA : ∀ q, H0.size ≤ q → A q)
    {k : Nat} (hk : k < 4) {atype : ArrayType} (hty : newarray.typeOf atype = xkty k) (hw : Cond.arrayClass (xkty k) ∈ xWs) {n : Int32} (hn : ¬ n < 0) (h5 : n.toNatClampNeg ≤ 100000) (hcells : cells + 1 ≤ R.cells) (hslots : slots + n.toNatClampNeg ≤ R.slots) (hdg : decode cc pc = .ok (.newarray atype, 2))
    (kk : ∀ (H1 : Heap), xS G A H0 (xup σ.1 σ.2 (.inl (k, n.toNatClampNeg, xarr k)), σ.2 + 1) H1 locs → W p l e R s m args below meth c H1 locs (cells + 1) (slots + n.toNatClampNeg) Q (F0 m (pc + 2) ls (.ref σ.2 :: rest))) : W p l e R s m args below meth c H locs cells slots Q (F0 m pc ls (.int n :: rest)) := by
  have hby : n.toNatClampNeg * componentBytes (newarray.typeOf atype) ≤ 536870912 := by
    rw [hty]
    match k, hk with
    | 0, _ => show n.toNatClampNeg * 4 ≤ _; omega
    | 1, _ => show n.toNatClampNeg * 1 ≤ _; omega
    | 2, _ => show n.toNatClampNeg * 8 ≤ _; omega
    | 3, _ => show n.toNatClampNeg * 8 ≤ _; omega
  refine va_newaK hx hb (by rw [hty]; exact hts _ hw) rfl hdg rfl hn rfl hby hcells hslots rfl fun H1 cA e1 z1 o1 hAr hNm => ?_
  have hcA : cA = G.2 k := by
    rw [hty] at hNm
    match k, hk, hNm with
    | 0, _, hNm => exact Option.some.inj (hNm.symm.trans (hK.2 0 _ rfl).2)
    | 1, _, hNm => exact Option.some.inj (hNm.symm.trans (hK.2 1 _ rfl).2)
    | 2, _, hNm => exact Option.some.inj (hNm.symm.trans (hK.2 2 _ rfl).2)
    | 3, _, hNm => exact Option.some.inj (hNm.symm.trans (hK.2 3 _ rfl).2)
  subst hcA
  have h9 := kk H1 (hS.push hA (x := .inl (k, n.toNatClampNeg, xarr k)) (by show H1[H.size]? = some (vp_cell (G.2 k) _); rw [xarr_ok hk, e1, hty]) z1 o1)
  rw [hS.ref] at h9
  exact h9
theorem x_newq (hx : p.tables.exec = Jvm.exec) (hb : c.code = cc) (hts : ∀ w ∈ xWs, w.before args s = true) (hown : s.vm.findClass own = some m.cls) (hK : va_K G.1 vwCl (xtys G.2) s) (hS : xS G A H0 σ H locs) (hA : ∀ q, H0.size ≤ q → A q)
    {k idx : Nat} {C : String} (hty : (xtys G.2)[k]? = some (G.2 k, .object C)) (hover : va_AO C s) (hw : Cond.classLink own idx C ∈ xWs) {n : Int32} (hn : ¬ n < 0) (h5 : n.toNatClampNeg ≤ 100000) (hcells : cells + 1 ≤ R.cells) (hslots : slots + n.toNatClampNeg ≤ R.slots) (hdg : decode cc pc = .ok (.anewarray idx, 3))
    (kk : ∀ (H1 : Heap), xS G A H0 (xup σ.1 σ.2 (.inl (k, n.toNatClampNeg, .inr (.inr (.inr (.inr fun _ => none))))), σ.2 + 1) H1 locs → W p l e R s m args below meth c H1 locs (cells + 1) (slots + n.toNatClampNeg) Q (F0 m (pc + 3) ls (.ref σ.2 :: rest))) : W p l e R s m args below meth c H locs cells slots Q (F0 m pc ls (.int n :: rest)) := by
  refine W.anew hx hb hown (hts _ hw) (va_AO.use hover) rfl hdg rfl hn (by omega) hcells hslots fun cA kA comp f1 f2 f3 f4 => ?_
  have hcA : cA = G.2 k := by
    obtain ⟨-, -, -, -, -, -, hNm⟩ := hK.2 k _ hty
    exact Option.some.inj (f1.symm.trans hNm)
  subst hcA
  generalize hH1 : H.push ({ cls := G.2 k, slots := Array.replicate n.toNatClampNeg .null, vm := .none } : Cell) = H1
  have z1 : H1.size = H.size + 1 := by rw [← hH1, Array.size_push]
  have e1 : H1[H.size]? = some (arrV (G.2 k) n.toNatClampNeg (fun _ => .null)) := by rw [← hH1, Array.getElem?_push_size, ← arrV_new]
  have o1 : ∀ q : Nat, q < H.size → H1[q]? = H[q]? := fun q hq => by rw [← hH1, Array.getElem?_push, if_neg (Nat.ne_of_lt hq)]
  have h9 := kk H1 (hS.push hA (x := .inl (k, n.toNatClampNeg, .inr (.inr (.inr (.inr fun _ => none))))) e1 z1 o1)
  rw [hS.ref] at h9
  exact h9
theorem x_astq (hx : p.tables.exec = Jvm.exec) (hb : c.code = cc) (hK : va_K G.1 vwCl (xtys G.2) s) (hS : xS G A H0 σ H locs) {k n v : Nat} {f : Nat → Option Nat} {C : String} (he : σ.1 a = some (.inl (k, n, .inr (.inr (.inr (.inr f)))))) (hty : (xtys G.2)[k]? = some (G.2 k, .object C))
    (hr : ∃ cellV : Cell, H[v]? = some cellV ∧ cellV.vm.isStatics = false ∧ s.vm.findClass C = some cellV.cls) {i : Int32} (hin : vp_in i n) (hdg : decode cc pc = .ok (.aastore, 1))
    (kk : ∀ (H1 : Heap) (locs1 : List Loc), xS G A H0 (xup σ.1 a (.inl (k, n, .inr (.inr (.inr (.inr (va_up f i.toNatClampNeg (some v))))))), σ.2) H1 locs1 → W p l e R s m args below meth c H1 locs1 cells slots Q (F0 m (pc + 1) ls rest)) : W p l e R s m args below meth c H locs cells slots Q (F0 m pc ls (.ref v :: .int i :: .ref a :: rest)) := by
  have hlt : i.toNatClampNeg < n := Nat.not_le.mp fun q => hin (Or.inr q)
  have h0 : ¬ i < 0 := fun q => hin (Or.inl q)
  obtain ⟨cellV, g1, g2, g3⟩ := hr
  obtain ⟨kA, comp, k1, k2, k3, -⟩ := (hK.2 k _ hty).2
  have hcv : cellV.cls = comp := Option.some.inj (g3.symm.trans k3)
  obtain ⟨kE, hkE, -⟩ := Vm.findClass_spec k3
  refine W.aast hx hb (hS.2.1 a _ he) (fun q h => by cases h) (fun h => by cases h) k1 k2 rfl hkE ⟨h0, by show _ < (arrV _ _ _).slots.size; rw [arrV_size]; exact hlt⟩ g1 (fun q h => by rw [h] at g2; cases g2) (by rw [hcv]; exact hkE) (by rw [hcv]; exact vb_asgS (C := C) _ _ k3 k3) rfl rfl hdg fun H1 e1 z oq => ?_
  refine kk H1 _ (hS.put he ?_ z oq)
  show H1[a]? = some (vp_cell _ _)
  rw [e1]
  dsimp only [xce]
  rw [vp_cell_q, vp_cell_q, arrV_store]
  congr 2
  funext q
  by_cases hq : q = i.toNatClampNeg
  · subst hq
    simp [updV, va_up, va_rf]
  · simp [updV, va_up, hq]
theorem x_copyS (hx : p.tables.exec = Jvm.exec) (hb : c.code = cc) (hml : c.maxLocals = ls.size) (hown : s.vm.findClass own = some m.cls) (hts : ∀ w ∈ xWs, w.before args s = true) {idx : Nat} (hw1 : Cond.methodLink own idx arraycopyName ∈ xWs) (hw2 : Cond.native arraycopyName ∈ xWs) (hw3 : Cond.static arraycopyName ∈ xWs) (hw4 : Cond.initialized "java/lang/System" ∈ xWs)
    (hK : va_K G.1 vwCl (xtys G.2) s) (hS : xS G A H0 σ H locs) {k : Nat} {ty : FieldType} (hty : (xtys G.2)[k]? = some (G.2 k, ty)) (hty2 : ty = .int ∨ ty = .byte) {a0 n0 n1 : Nat} {f g : Nat → Int32} {scr : Cell} (hc0 : H[a0]? = some scr) (hof : s.isArrayOf scr ty) (hvm : scr.vm ≠ .unknown) (hsz : n0 ≤ scr.slots.size) (hval : ∀ j, j < n0 → scr.slots[j]? = some (.int (f j))) (hfit : ty = .byte → ∀ j, j < n0 → fits .byte (.int (f j)) = true) (he1 : σ.1 a = some (.inl (k, n1, .inl g)))
    {sp dp n : Int32} (h1 : 0 ≤ sp.toInt) (h2 : 0 ≤ dp.toInt) (h3 : 0 ≤ n.toInt) (h4 : sp.toInt + n.toInt ≤ n0) (h5 : dp.toInt + n.toInt ≤ n1)
    (hframes : 1 ≤ R.frames) (hlocals : (rest.map fun v => v.category).sum + 40 ≤ R.locals) (hdg : decode cc pc = .ok (.invokestatic idx, 3))
    (kk : ∀ (H1 : Heap) (locs1 : List Loc), xS G A H0 (xup σ.1 a (.inl (k, n1, .inl (va_cpy f g sp.toNatClampNeg dp.toNatClampNeg n.toNatClampNeg))), σ.2) H1 locs1 → W p l e R s m args below meth c H1 locs1 cells slots Q (F0 m (pc + 3) ls rest)) : W p l e R s m args below meth c H locs cells slots Q (F0 m pc ls (.int n :: .int dp :: .ref a :: .int sp :: .ref a0 :: rest)) := by
  have nn : ∀ z : Int32, 0 ≤ z.toInt → z.toInt = (z.toNatClampNeg : Int) := by
    intro z hz
    show z.toInt = ((z.toInt.toNat : Nat) : Int)
    omega
  have ng : ∀ z : Int32, 0 ≤ z.toInt → ¬ z < 0 := by
    intro z hz h
    have := Int32.lt_iff_toInt_lt.mp h
    simp at this
    omega
  have e4 : sp.toNatClampNeg + n.toNatClampNeg ≤ n0 := by have := nn sp h1; have := nn n h3; omega
  have e5 : dp.toNatClampNeg + n.toNatClampNeg ≤ n1 := by have := nn dp h2; have := nn n h3; omega
  have hlc : (rest.map fun v => v.category).sum + (nativeFrameWords "java/lang/System" "arraycopy" 5 + 11) ≤ R.locals := by
    have h : nativeFrameWords "java/lang/System" "arraycopy" 5 = 7 := by decide +kernel
    rw [h]
    omega
  intro T hT X
  have hc1 : H[a]? = some (vp_cell (G.2 k) (n1, .inl g)) := hS.2.1 a _ he1
  obtain ⟨hs6, k0, hk0, cm0, hkk0⟩ := hof
  obtain ⟨-, k1, hk1, cm1, hkk1⟩ := (hK.2 k _ hty).1 n1 (fun j => .int (g j))
  obtain ⟨vm', X', step⟩ := X.arraycopy hx hown (hts _ hw1) (hts _ hw2) (hts _ hw3) (hts _ hw4) (src := a0) (dst := a) (cs := scr) (cd := vp_cell (G.2 k) (n1, .inl g)) (srcPos := sp) (destPos := dp) (n := n) (by rw [hT]; exact hc0) (by rw [hT]; exact hc1)
    hs6 (fun _ h => by cases h) hvm (fun h => by cases h) hk0 hk1 hkk0 hkk1 (by rcases hty2 with rfl | rfl <;> simp [refKind]) (ng sp h1) (ng dp h2) (ng n h3)
    (by omega)
    (by show ¬ _ > ((arrV (G.2 k) n1 (fun j => .int (g j))).slots.size : Int); rw [arrV_size]; omega)
    (fun vm₁ _ i hi => by
      have e : scr.slots.getD (sp.toNatClampNeg + i) .null = .int (f (sp.toNatClampNeg + i)) := by
        rw [Array.getD_eq_getD_getElem?, hval _ (by omega)]
        rfl
      refine ⟨?_, ?_⟩
      · rw [e]
        rcases hty2 with rfl | rfl
        · rfl
        · exact hfit rfl _ (by omega)
      · rw [e]
        exact trivial)
    (g := F0 m pc ls (.int n :: .int dp :: .ref a :: .int sp :: .ref a0 :: rest)) rfl (by rw [hml]) (rest := rest) rfl (by rw [hb]; exact hdg) hframes (by show 2 * 0 + _ + _ ≤ _; omega)
  have e1 : copied scr (vp_cell (G.2 k) (n1, .inl g)) sp dp n = vp_cell (G.2 k) (n1, .inl (va_cpy f g sp.toNatClampNeg dp.toNatClampNeg n.toNatClampNeg)) := va_copiedX (fun z => .int z) scr (G.2 k) f g hval e4
  rw [e1] at X' step
  have hl : a < H.size := (Array.getElem?_eq_some_iff.mp hc1).1
  obtain ⟨t, a1, b1⟩ := kk (H.setIfInBounds a (vp_cell (G.2 k) (n1, .inl (va_cpy f g sp.toNatClampNeg dp.toNatClampNeg n.toNatClampNeg)))) _ (by
    obtain ⟨g1, g2, g3, g4⟩ := hS
    refine ⟨by simp; exact g1, fun b y hb => ?_, fun b hb => ?_, by simp; exact g4.1, fun q q1 q2 => ?_, fun q hq => ?_⟩
    · dsimp only at hb
      by_cases hab : b = a
      · subst hab
        rw [xup_same] at hb
        cases hb
        show (H.setIfInBounds b _)[b]? = some _
        simp [Array.getElem?_setIfInBounds, hl]
      · rw [xup_ne hab] at hb
        exact (g2 b y hb).kept (by simp [Array.getElem?_setIfInBounds, Ne.symm hab])
    · dsimp only at hb
      by_cases hab : b = a
      · subst hab
        exact g3 b (by rw [he1]; exact fun h => by cases h)
      · rw [xup_ne hab] at hb
        exact g3 b hb
    · have hqa : q ≠ a := fun h => q2 (by rw [h]; exact g3 a (by rw [he1]; exact fun h => by cases h))
      rw [show (H.setIfInBounds a (vp_cell (G.2 k) (n1, .inl (va_cpy f g sp.toNatClampNeg dp.toNatClampNeg n.toNatClampNeg))))[q]? = H[q]? by simp [Array.getElem?_setIfInBounds, Ne.symm hqa]]
      exact g4.2.1 q q1 q2
    · rcases List.mem_append.mp hq with h | h
      · exact g4.2.2 q h
      · obtain ⟨z, -, hz⟩ := List.mem_map.mp h
        rw [← hz]
        exact g3 a (by rw [he1]; exact fun h => by cases h)) _ (by rw [← hT]; rfl) X'
  exact ⟨t, step t a1, b1⟩
theorem x_astqO (hx : p.tables.exec = Jvm.exec) (hb : c.code = cc) (hK : va_K G.1 vwCl (xtys G.2) s) (hS : xS G A H0 σ H locs) {k n v : Nat} {f : Nat → Option Nat} {C D : String} (he : σ.1 a = some (.inl (k, n, .inr (.inr (.inr (.inr f)))))) (hty : (xtys G.2)[k]? = some (G.2 k, .object C))
    (hr : ∃ cellV : Cell, H[v]? = some cellV ∧ cellV.vm.isStatics = false ∧ s.vm.findClass D = some cellV.cls) (hca : va_Nw (.castable D C) s) {i : Int32} (hin : vp_in i n) (hdg : decode cc pc = .ok (.aastore, 1))
    (kk : ∀ (H1 : Heap) (locs1 : List Loc), xS G A H0 (xup σ.1 a (.inl (k, n, .inr (.inr (.inr (.inr (va_up f i.toNatClampNeg (some v))))))), σ.2) H1 locs1 → W p l e R s m args below meth c H1 locs1 cells slots Q (F0 m (pc + 1) ls rest)) : W p l e R s m args below meth c H locs cells slots Q (F0 m pc ls (.ref v :: .int i :: .ref a :: rest)) := by
  have hlt : i.toNatClampNeg < n := Nat.not_le.mp fun q => hin (Or.inr q)
  have h0 : ¬ i < 0 := fun q => hin (Or.inl q)
  obtain ⟨cellV, g1, g2, g3⟩ := hr
  obtain ⟨kA, comp, k1, k2, k3, -⟩ := (hK.2 k _ hty).2
  obtain ⟨kE, hkE, -⟩ := Vm.findClass_spec k3
  obtain ⟨c0, t1, f1, f2, f3⟩ := Cond.castable_spec (va_Nw.use (A := args) rfl hca)
  cases g3.symm.trans f1
  cases k3.symm.trans f2
  obtain ⟨kV, hkV, -⟩ := Vm.findClass_spec g3
  refine W.aast hx hb (hS.2.1 a _ he) (fun q h => by cases h) (fun h => by cases h) k1 k2 rfl hkE ⟨h0, by show _ < (arrV _ _ _).slots.size; rw [arrV_size]; exact hlt⟩ g1 (fun q h => by rw [h] at g2; cases g2) hkV f3 rfl rfl hdg fun H1 e1 z oq => ?_
  refine kk H1 _ (hS.put he ?_ z oq)
  show H1[a]? = some (vp_cell _ _)
  rw [e1]
  dsimp only [xce]
  rw [vp_cell_q, vp_cell_q, arrV_store]
  congr 2
  funext q
  by_cases hq : q = i.toNatClampNeg
  · subst hq
    simp [updV, va_up, va_rf]
  · simp [updV, va_up, hq]
end ROWS3
end
section
/-! A THROW whose class's constructor calls its parent by another index: the library's chain with its own index and bytes. -/
/-- the words of a chain of constructors whose first one calls its parent by index ix -/
def x_chA (X : String) (ix : Nat) (rx : ByteArray) : List String → List Cond
  | [] => Bundle.passSAtoms X Bundle.tN ix rx
  | Y :: r => Bundle.passSAtoms X Y ix rx ++ Bundle.chainSAtoms Y r
/-- the words of the class and of Throwable's fields -/
def x_clA (own : String) (ic : Nat) (X : String) : List Cond :=
  [.methodLink own ic (Bundle.initS X), .instantiable X 6, .castable X X, .selects X Bundle.tFill0 Bundle.tFill0, .selects X Bundle.tFill Bundle.tFill,
   .lays X Bundle.tN "cause" "Ljava/lang/Throwable;", .lays X Bundle.tN "stackTrace" Bundle.steD, .lays X Bundle.tN "suppressedExceptions" Bundle.listD, .lays X Bundle.tN "detailMessage" "Ljava/lang/String;",
   .isRef (.static Bundle.tN "UNASSIGNED_STACK" Bundle.steD), .isRef (.static Bundle.tN "SUPPRESSED_SENTINEL" Bundle.listD),
   .fieldLink Bundle.tN 198 Bundle.tN "backtrace" "Ljava/lang/Object;", .lays Bundle.tN Bundle.tN "backtrace" "Ljava/lang/Object;", .lays X Bundle.tN "backtrace" "Ljava/lang/Object;"]
def x_ownA (own : String) (ic : Nat) (X : String) (ix : Nat) (rx : ByteArray) (names : List String) : List Cond := Bundle.throwableAtoms ++ (Bundle.throwableSAtoms ++ (x_chA X ix rx names ++ x_clA own ic X))
theorem x_chX {args : Array Value} {s : State} {pl : Platform} (hpl : pl.magicAccessors = ({} : Platform).magicAccessors) {top : MethodId} (htop : s.methodNamed? (Bundle.initS Bundle.tN) = some top) {ix : Nat} {rx : ByteArray} (x0 : decode rx 0 = .ok (.aload_n 0, 1)) (x1 : decode rx 1 = .ok (.aload_n 1, 1)) (x2 : decode rx 2 = .ok (.invokespecial ix, 3)) (x5 : decode rx 5 = .ok (.return_, 1)) (names : List String) (X : String) (hX : Bundle.fit X = true) (hn : ∀ n ∈ names, Bundle.fit n = true) (h : ∀ c ∈ x_chA X ix rx names, c.before args s = true) :
    ∃ (P1 : PassC) (Ps : List PassC), Ps.length = names.length ∧ P1.LinksS pl s ∧ (∀ P, P ∈ Ps → P.LinksS pl s) ∧ s.methodNamed? (Bundle.initS X) = some P1.m ∧ P1.sup = firstOf top (Ps.map (·.toPassT)) ∧ PassesOn top (Ps.map (·.toPassT)) := by
  match names, hn, h with
  | [], _, h =>
    obtain ⟨P, L, hm, hs⟩ := PassC.ofS_atoms (args := args) (s := s) hpl (X := X) (Y := Bundle.tN) (Bundle.fit_spec hX).1 (by decide) x0 x1 x2 x5 h
    exact ⟨P, [], rfl, L, fun _ hP => absurd hP List.not_mem_nil, hm, Option.some.inj (hs.symm.trans htop), trivial⟩
  | Y :: r, hn, h =>
    have h1 := fun c hc => h c (List.mem_append_left _ hc)
    have h2 := fun c hc => h c (List.mem_append_right _ hc)
    obtain ⟨P, L, hm, hs⟩ := PassC.ofS_atoms (args := args) (s := s) hpl (X := X) (Y := Y) (Bundle.fit_spec hX).1 (Bundle.fit_spec (hn Y List.mem_cons_self)).2 x0 x1 x2 x5 h1
    obtain ⟨P2, Ps, hlen, L2, hL, hm2, hsup, hpass⟩ := Bundle.chainS (args := args) hpl htop r Y (hn Y List.mem_cons_self) (fun n hn2 => hn n (List.mem_cons_of_mem _ hn2)) h2
    exact ⟨P, P2 :: Ps, by simp [hlen], L, fun Q hQ => (List.mem_cons.mp hQ).elim (fun e => e ▸ L2) (hL Q), hm, Option.some.inj (hs.symm.trans hm2), hsup, hpass⟩
section NSE
variable {p : Program} {l : Launch} {e : Env} {R : Room} {s : State} {m₀ : MethodId} {args : Array Value} {below : List Frame} {meth : Method} {c : Code} {W : State} {locs : List Loc} {cells slots : Nat}
set_option maxHeartbeats 1000000 in
theorem x_ctorSX (X : Stand p l e R s m₀ args below meth c W locs cells slots) (hexec : p.tables.exec = Jvm.exec) (htr : e.platform.stackTraces = false) {own cls : String} {names : List String} {ic ix : Nat} {rx : ByteArray} (x0 : decode rx 0 = .ok (.aload_n 0, 1)) (x1 : decode rx 1 = .ok (.aload_n 1, 1)) (x2 : decode rx 2 = .ok (.invokespecial ix, 3)) (x5 : decode rx 5 = .ok (.return_, 1))
    (hown : s.vm.findClass own = some m₀.cls) (hcls : Bundle.fit cls = true) (hnames : ∀ n ∈ names, Bundle.fit n = true) (h : ∀ a ∈ x_ownA own ic cls ix rx names, a.before args s = true)
    (hlocs : ∀ x ∈ locs, ∀ cell, s.heap[x.base]? = some cell → cell.vm.isStatics = false)
    {a : Addr} {cX : ClassId} {kX : Class} (hfoundX : s.vm.findClass cls = some cX) (hkX : s.vm.classes[cX]? = some kX) (hcell : W.heap[a]? = some (freshCell cX kX)) (hnew : s.heap.size ≤ a) {msg : Value} (hmsg : msg.isRef = true)
    {g : JFrame} (hg : g.method = m₀) (hsize : g.locals.size = c.maxLocals) (hlocked : g.locked = none) (hentered : g.entered = []) {rest : List Value} (hstack : g.stack = msg :: .ref a :: .ref a :: rest)
    (hd6 : decode c.code g.pc = .ok (.invokespecial ic, 3)) (hd9 : decode c.code (g.pc + 3) = .ok (.athrow, 1)) (hout : ∀ x ∈ c.exceptionTable.toList, covers x (g.pc + 3) = false)
    (hRframes : names.length + 3 < R.frames) (hRlocals : 2 * g.monitorRoom + ((Value.ref a :: rest).map fun v => v.category).sum + (13 * (names.length + 1) + 42) ≤ R.locals) (hlocks : meth.locks = false) :
    ∃ U : State, Steps p.tables e below (W.setTop g) U ∧ U.status = .running ∧ Ended U below (.threw a) ∧ s.WarmedH U.vm ∧ s.sameButNew ({ U with vm := s.vm } : State) locs cells slots ∧ ∃ ce, U.heap[a]? = some ce ∧ ce.vm = .none ∧ s.vm.findClass cls = some ce.cls := by
  have howns : e.platform.frameOwnsMonitors = true := by rw [X.admits.platform]
  have hfin : e.platform.finalization = false := by rw [X.admits.platform]
  have hpl : e.platform.magicAccessors = ({} : Platform).magicAccessors := by rw [X.admits.platform]
  have a' : ∀ x, x ∈ x_ownA own ic cls ix rx names → x.holds args s none s [] = true := fun x hx => h x hx
  obtain ⟨T, Z0, L, -, Y⟩ := ThrowableC.of_atoms (args := args) howns hfin hpl (fun x hx => h x (by simp [x_ownA, hx]))
  obtain ⟨Z, M, LZ, LM, hnZ⟩ := Init0T.ofS_atoms (args := args) hpl L Y (fun x hx => h x (by simp [x_ownA, hx]))
  obtain ⟨P1, Ps, hlen, L1, hL, hP1m, hlink1, hlink⟩ := x_chX (args := args) hpl hnZ x0 x1 x2 x5 names cls hcls hnames (fun x hx => h x (by simp [x_ownA, hx]))
  have hfound : s.vm.findClass cls = some P1.m.cls := findClass_of_methodNamed hP1m
  cases Option.some.inj (hfoundX.symm.trans hfound)
  obtain ⟨c1, kX', hc1, hk, hord, -, -, hn6⟩ := Cond.instantiable_spec (a' (.instantiable cls 6) (by simp [x_ownA, x_clA]))
  cases Option.some.inj (hc1.symm.trans hfound)
  cases Option.some.inj (hkX.symm.trans hk)
  have hsel0 : selectMethod e.platform s.vm P1.m.cls T.fill0 = .method T.fill0 := by
    obtain ⟨c2, r2, m2, q1, q2, q3, q4, -⟩ := Cond.selects_spec (a' (.selects cls Bundle.tFill0 Bundle.tFill0) (by simp [x_ownA, x_clA]))
    cases Option.some.inj (q1.symm.trans hfound)
    cases Option.some.inj (q2.symm.trans (State.methodFound?_of_named Y.fill0 (by decide)))
    cases Option.some.inj (q3.symm.trans Y.fill0)
    rw [Launch.admits_selectMethod X.admits]; exact q4
  have hselF : selectMethod e.platform s.vm P1.m.cls T.fill = .method T.fill := by
    obtain ⟨c2, r2, m2, q1, q2, q3, q4, -⟩ := Cond.selects_spec (a' (.selects cls Bundle.tFill Bundle.tFill) (by simp [x_ownA, x_clA]))
    cases Option.some.inj (q1.symm.trans hfound)
    cases Option.some.inj (q2.symm.trans (State.methodFound?_of_named Y.fill (by decide)))
    cases Option.some.inj (q3.symm.trans Y.fill)
    rw [Launch.admits_selectMethod X.admits]; exact q4
  obtain ⟨cellS0, hcS0, hiss⟩ := Y.statics
  obtain ⟨u0, hu0⟩ := Cond.staticRefV Y.unassigned L.unassignedStatic L.statics hcS0 hiss (a' (.isRef (.static Bundle.tN "UNASSIGNED_STACK" Bundle.steD)) (by simp [x_ownA, x_clA]))
  obtain ⟨sen, hsen⟩ := Cond.staticRefV Y.sentinel L.sentinelStatic L.statics hcS0 hiss (a' (.isRef (.static Bundle.tN "SUPPRESSED_SENTINEL" Bundle.listD)) (by simp [x_ownA, x_clA]))
  obtain ⟨ci198, i198, fB, hk198, hg198, ha198, hsB, -, hnB, htB, hffB⟩ := Cond.ownField (t := .object "java/lang/Object") Y.found L.cls (by decide +kernel) (a' (.fieldLink Bundle.tN 198 Bundle.tN "backtrace" "Ljava/lang/Object;") (by simp [x_ownA, x_clA])) (a' (.lays Bundle.tN Bundle.tN "backtrace" "Ljava/lang/Object;") (by simp [x_ownA, x_clA])) e.platform hpl
  obtain ⟨cellS, hcS', heS, -, hkeep⟩ := X.same.2.2.2.2.2 T.aS cellS0 hcS0
  have hcellS : W.heap[T.aS]? = some cellS := hcS'
  have hout' : ∀ i, (⟨T.aS, i⟩ : Loc) ∉ locs := fun i hmem => by
    have := hlocs _ hmem cellS0 hcS0
    rw [hiss] at this; cases this
  have hknownS : cellS.vm ≠ .unknown := by
    rw [heS]; intro hu
    rw [show cellS0.vm = .unknown from hu] at hiss
    cases hiss
  have hneS : T.aS ≠ a := Nat.ne_of_lt (Nat.lt_of_lt_of_le (Array.getElem?_eq_some_iff.mp hcS0).1 hnew)
  obtain ⟨iM, hffM⟩ := Y.msg
  obtain ⟨tyC, dC, hdC, hdnC⟩ := Cond.laysAt hfound hk Y.cause (a' (.lays cls Bundle.tN "cause" "Ljava/lang/Throwable;") (by simp [x_ownA, x_clA]))
  obtain ⟨tyS, dS, hdS, hdnS⟩ := Cond.laysAt hfound hk Y.stack (a' (.lays cls Bundle.tN "stackTrace" Bundle.steD) (by simp [x_ownA, x_clA]))
  obtain ⟨tyP, dP, hdP, hdnP⟩ := Cond.laysAt hfound hk Y.supp (a' (.lays cls Bundle.tN "suppressedExceptions" Bundle.listD) (by simp [x_ownA, x_clA]))
  obtain ⟨tyM, dM, hdM, hdnM⟩ := Cond.laysAt hfound hk hffM (a' (.lays cls Bundle.tN "detailMessage" "Ljava/lang/String;") (by simp [x_ownA, x_clA]))
  obtain ⟨tyB, dB, hdB, hdnB⟩ := Cond.laysAt hfound hk hffB (a' (.lays cls Bundle.tN "backtrace" "Ljava/lang/Object;") (by simp [x_ownA, x_clA]))
  have bC := Cond.laysApart hdB hdC hdnB hdnC (by rw [hnB, Y.causeName]; decide)
  have bS := Cond.laysApart hdB hdS hdnB hdnS (by rw [hnB, Y.stackName]; decide)
  have bP := Cond.laysApart hdB hdP hdnB hdnP (by rw [hnB, Y.suppName]; decide)
  have hskip : SkipFacts T e.platform s (fun u => u) u0 ((preparedCellV T.toThrowableT (freshCell P1.m.cls kX) a u0 sen).withEntry W.cur) :=
    ⟨{ ci198 := ci198, i198 := i198, fBack := fB }, ⟨hk198, hg198, ha198, hsB⟩, by
      have := fresh_default (c := P1.m.cls) tyB
      rw [htB] at this
      simpa [preparedCellV, Cell.setSlot, Cell.withEntry, Array.getElem?_setIfInBounds, bC, bS, bP, bC.symm, bS.symm, bP.symm, defaultValue] using this, fun _ _ => rfl⟩
  obtain ⟨tm, methC, cdC, kC, vm₁, hnC, -, -, -, -, -, -, -, hW₁, st1⟩ := Steps.initColdS (tb := p.tables) (e := e) (below := below) (s := s) (U := W) X.here hexec X.warmed hpl hown (t := Bundle.initS cls) rfl rfl (Bundle.fit_spec hcls).2
    (a' (.methodLink own ic (Bundle.initS cls)) (by simp [x_ownA, x_clA])) (h (.instanceMethod (Bundle.initS cls)) (by cases names <;> simp [x_ownA, x_clA, x_chA, Bundle.passSAtoms])) (bytes := rx) (maxL := 2) (h (.code (Bundle.initS cls) rx 2 none) (by cases names <;> simp [x_ownA, x_clA, x_chA, Bundle.passSAtoms]))
    (f := g) hg (a := a) (msg := msg) (rest := .ref a :: rest) hstack hd6
  cases Option.some.inj (hnC.symm.trans hP1m)
  have X₁ := X.noted hW₁
  obtain ⟨vm₂, X₂, st2⟩ := X₁.ctorMessageOffV hexec (g := { g with stack := .ref a :: rest }) hg hsize T L Z LZ M LM (P1 :: Ps)
    (fun P hP => by rcases List.mem_cons.mp hP with rfl | hP; exact L1; exact hL P hP) ⟨hlink1, hlink⟩ (u0 := u0) (sen := sen) (self := a) hmsg (cell := freshCell P1.m.cls kX) (cellS := cellS)
    hcell (fun _ => by simp) (by simp) rfl rfl hsel0 hselF hcellS hneS hknownS (by rw [hkeep _ (hout' _)]; exact hu0) (by rw [hkeep _ (hout' _)]; exact hsen)
    (Takes.of_laid hk hord tyC (by rw [Y.causeType]; rfl)) (Takes.of_laid hk hord tyS (by rw [Y.stackType]; exact fits_refV_array _ u0)) (Takes.of_laid hk hord tyP (by rw [Y.suppType]; exact fits_refV_object _ sen))
    (Takes.of_laid hk hord tyM (by rw [Y.msgType]; exact fits_refV_object _ ⟨msg, hmsg⟩)) Y.objLocals hskip htr [] hd6
    (by simp only [List.length_cons, hlen]; omega) (by simp only [List.length_cons, hlen]; exact hRlocals)
  obtain ⟨hwalk, hrun, hended, hWU, hsame⟩ := X₂.athrowLeaves hexec (g := { g with stack := .ref a :: rest, pc := g.pc + 3 }) hg hlocked hentered hout (a := a) (rest := rest) rfl hd9
  obtain ⟨c3, c4, hc3, hc4, hasg⟩ := Cond.castable_spec (a' (.castable cls cls) (by simp [x_ownA, x_clA]))
  cases Option.some.inj (hc3.symm.trans hfound)
  cases Option.some.inj (hc4.symm.trans hfound)
  have hlt : a < ((W.setVm vm₁).setVm vm₂).heap.size := (Array.getElem?_eq_some_iff.mp hcell).1
  have hU := heapAt_setCell_self (s := (W.setVm vm₁).setVm vm₂) (plainBareV T.toThrowableT (freshCell P1.m.cls kX) a u0 sen msg) hlt
  refine ⟨_, st1 _ (fun acts => ?_), hrun, hended, hWU, hsame.weaken (fun y hy hlt' => ?_) (Nat.le_refl _) (Nat.le_refl _), _, hU, rfl, hfound⟩
  · rw [doInvoke_state]
    exact st2 _ hwalk
  · rcases List.mem_append.mp hy with h1 | h1
    · exact h1
    · exfalso
      have hb : y.base = a := by
        simp only [List.mem_cons, List.not_mem_nil, or_false] at h1
        rcases h1 with rfl | rfl | rfl | rfl | rfl <;> rfl
      rw [hb] at hlt'
      exact Nat.not_lt.mpr hnew hlt'
end NSE
def vx_atX (own : String) (ic : Nat) (X : String) (ix : Nat) (rx : ByteArray) (names : List String) : List Cond := (x_ownA own ic X ix rx names).filter vx_no
section NSE2
variable {p : Program} {l : Launch} {e : Env} {R : Room} {s : State} {m : MethodId} {args : Array Value} {below : List Frame} {meth : Method} {c : Code} {H : Heap} {locs : List Loc} {cells slots : Nat} {Q : State → Prop}
variable {mc ms : Nat} {free : Addr → Prop} {A0 A1 : Nat → Prop} {H0 : Heap} {a : Array Value} {ls : Array Slot} {st0 rest : List Value}
variable {Qc : Array Value → State → Outcome → State → Prop} {XC : String → State → State → Prop}
theorem x_throwX {cc : ByteArray} {pc ix : Nat} {rx : ByteArray} (hexec : p.tables.exec = Jvm.exec) (hb : c.code = cc) (hl : l.stackTraces = false) (x0 : decode rx 0 = .ok (.aload_n 0, 1)) (x1 : decode rx 1 = .ok (.aload_n 1, 1)) (x2 : decode rx 2 = .ok (.invokespecial ix, 3)) (x5 : decode rx 5 = .ok (.return_, 1)) {own cls text : String} {names : List String} {ik is ic mc ms sa : Nat} {A : Nat → Prop}
    (hown : s.vm.findClass own = some m.cls) (hcls : Bundle.fit cls = true) (hnames : ∀ n ∈ names, Bundle.fit n = true)
    (hk : (Cond.classLink own ik cls).before args s = true) (hini : (Cond.initialized cls).before args s = true) (hstr : vk_R own is text sa s) (hat : ∀ w ∈ vx_atX own ic cls ix rx names, w.before args s = true)
    (hgood : ∀ w ∈ Cond.classLink own ik cls :: Cond.initialized cls :: vx_atX own ic cls ix rx names, vx_ot w = true)
    (hU : vx_Zq Bundle.tN "UNASSIGNED_STACK" Bundle.steD A s s.heap) (hN : vx_Zq Bundle.tN "SUPPRESSED_SENTINEL" Bundle.listD A s s.heap) (hS : va_S A s.heap H locs) (hsize : ls.size = c.maxLocals)
    (d0 : decode cc pc = .ok (.new ik, 3)) (d3 : decode cc (pc + 3) = .ok (.dup, 1)) (hds : (decode cc (pc + 4) = .ok (.ldc is, 2) ∧ decode cc (pc + 6) = .ok (.invokespecial ic, 3) ∧ decode cc (pc + 9) = .ok (.athrow, 1)) ∨ (decode cc (pc + 4) = .ok (.ldc_w is, 3) ∧ decode cc (pc + 7) = .ok (.invokespecial ic, 3) ∧ decode cc (pc + 10) = .ok (.athrow, 1)))
    (hout : ∀ x ∈ c.exceptionTable.toList, False)
    (hRframes : names.length + 3 < R.frames) (hRlocals : (rest.map fun v => v.category).sum + (13 * (names.length + 1) + 43) ≤ R.locals) (hRcells : cells + 1 ≤ R.cells) (hRslots : slots + 6 ≤ R.slots) (hlocks : meth.locks = false)
    (hx : ∀ t : State, s.vm.Alike t.vm → H.size ≤ t.heap.size → (∀ q : Nat, q < H.size → t.heap[q]? = H[q]?) → XC cls s t)
    (hf : ∀ z ∈ locs, free z.base) (hc : cells + 1 ≤ mc) (hs : slots + 6 ≤ ms) :
    W p l e R s m args below meth c H locs cells slots (vx_MQ below Qc XC args s mc ms free) (F0 m pc ls rest) := by
  intro T hT X
  have htr : e.platform.stackTraces = false := (show e.platform.stackTraces = l.stackTraces by rw [X.admits.platform]).trans hl
  have Y := vx_rebase X (R' := { frames := R.frames, locals := R.locals, cells := 1, slots := 6 }) (Nat.le_refl _) (Nat.le_refl _) hRcells hRslots
  obtain ⟨s', hA⟩ : ∃ z, z = (T.setVm s.vm).setFrames (.invoking m args :: below) := ⟨_, rfl⟩
  rw [← hA] at Y
  have hvm : s'.vm = s.vm := by rw [hA]; rfl
  have hhp : s'.heap = H := by rw [hA]; exact hT
  have hW0 : s.WarmedH s'.vm := by rw [hvm]; exact State.WarmedH.refl s
  have hat' : ∀ w ∈ vx_atX own ic cls ix rx names, w.before args s' = true := fun w hw => vx_ot_at hW0 hvm.symm (hgood w (List.mem_cons_of_mem _ (List.mem_cons_of_mem _ hw))) (hat w hw)
  have hk' : (Cond.classLink own ik cls).before args s' = true := vx_ot_at hW0 hvm.symm (hgood _ List.mem_cons_self) hk
  have hini' : (Cond.initialized cls).before args s' = true := vx_ot_at hW0 hvm.symm (hgood _ (List.mem_cons_of_mem _ List.mem_cons_self)) hini
  have hU' : vx_Zq Bundle.tN "UNASSIGNED_STACK" Bundle.steD A s' s'.heap := by rw [hhp]; exact vx_Zq.moved hW0.alike (hU.kept hS.2.1)
  have hN' : vx_Zq Bundle.tN "SUPPRESSED_SENTINEL" Bundle.listD A s' s'.heap := by rw [hhp]; exact vx_Zq.moved hW0.alike (hN.kept hS.2.1)
  have h : ∀ w ∈ x_ownA own ic cls ix rx names, w.before args s' = true := vx_own hat' (vx_isRefq hU'.1) (vx_isRefq hN'.1) hU'.2.word hN'.2.word
  have hown' : s'.vm.findClass own = some m.cls := by rw [hvm]; exact hown
  have hins : (Cond.instantiable cls 6).before args s' = true := h _ (by simp [x_ownA, x_clA])
  obtain ⟨vm₁, cX, kX, hfX, hkX, -, -, X₁, st1⟩ := Y.newCold hexec (own := own) (C := cls) (index := ik) (n := 6) hown' hk' hins hini'
    (g := F0 m pc ls rest) rfl (by rw [hb]; exact d0) (Nat.le_refl _) (Nat.le_refl _)
  generalize hT1 : (T.setVm vm₁).pushCell { cls := cX, slots := kX.instanceTypes.map defaultValue, vm := .none } = T1 at X₁ st1
  have hcat : (Value.ref T.heap.size).category = 1 := rfl
  have hcellA : T1.heap[T.heap.size]? = some (freshCell cX kX) := by rw [← hT1]; exact State.heap_pushCell_size _ _
  have d3' : decode c.code (pc + 3) = .ok (.dup, 1) := by rw [hb]; exact d3
  obtain ⟨wd, d4', d7, d10⟩ : ∃ wd, ((wd = 2 ∧ decode c.code (pc + 4) = .ok (.ldc is, 2)) ∨ (wd = 3 ∧ decode c.code (pc + 4) = .ok (.ldc_w is, 3))) ∧ decode cc (pc + 4 + wd) = .ok (.invokespecial ic, 3) ∧ decode cc (pc + 4 + wd + 3) = .ok (.athrow, 1) := by
    rcases hds with ⟨q4, q6, q9⟩ | ⟨q4, q6, q9⟩
    · exact ⟨2, Or.inl ⟨rfl, by rw [hb]; exact q4⟩, q6, q9⟩
    · exact ⟨3, Or.inr ⟨rfl, by rw [hb]; exact q4⟩, q6, q9⟩
  have hstr' : vk_R own is text sa s' := vk_R.warm hW0 hstr
  obtain ⟨U, hsteps, hrun, hend, hW, hsame, ce, hce, hOv, hOc⟩ := x_ctorSX X₁ hexec htr (own := own) (cls := cls) (names := names) (ic := ic) x0 x1 x2 x5 hown' hcls hnames h (fun x hx => nomatch hx) hfX hkX hcellA (by rw [hhp, hT]; exact Nat.le_refl _) (msg := .ref sa) rfl
    (g := { method := m, pc := pc + 4 + wd, locals := ls, stack := .ref sa :: .ref T.heap.size :: .ref T.heap.size :: rest, locked := none }) rfl hsize rfl rfl (rest := rest) rfl
    (by rw [hb]; exact d7) (by rw [hb]; exact d10) (fun x hx => (hout x hx).elim) hRframes (by simp only [List.map_cons, List.sum_cons, hcat]; omega) hlocks
  obtain ⟨f1, f2⟩ := vx_frame hsame
  rw [hhp] at f1 f2
  have hWs : s.WarmedH U.vm := State.WarmedH.trans hW0 hW
  have hcl : s.vm.findClass cls = some ce.cls := by
    have h9 := hOc
    rw [hvm] at h9
    exact h9
  have hall : s.sameButNew ({ U with vm := s.vm } : State) locs mc ms := by
    subst hA
    obtain ⟨e1, e2⟩ := hsame
    rw [State.setFrames_setFrames] at e1
    have h2 : (T.setVm s.vm).sameButNew ({ U with vm := s.vm } : State) [] (0 + 1) (0 + 6) := ⟨e1, e2⟩
    have h3 := X.same.trans h2
    rw [List.append_nil] at h3
    exact h3.mono hc hs
  refine ⟨U, ?_, .threw T.heap.size, hrun, hend, Or.inr ⟨T.heap.size, rfl, cls, ce, locs, hx U hWs.alike f1 (fun q hq => f2 q hq (fun z hz => nomatch hz)), hce, hOv, hcl, hWs, hall, hf⟩⟩
  refine st1 _ ?_
  show Steps p.tables e below (T1.setTop { method := m, pc := pc + 3, locals := ls, stack := .ref T.heap.size :: rest, locked := none }) _
  jvm_step X₁.here [X₁.here.top, hexec, d3', Value.category]
  rcases d4' with ⟨rfl, d4'⟩ | ⟨rfl, d4'⟩
  · exact X₁.ldcString hexec (own := own) (text := text) (index := is) (a := sa) hown' hstr'.1 hstr'.2
      (g := { method := m, pc := pc + 4, locals := ls, stack := .ref T.heap.size :: .ref T.heap.size :: rest, locked := none }) rfl d4' _ hsteps
  · exact X₁.ldcStringW hexec (own := own) (text := text) (index := is) (a := sa) hown' hstr'.1 hstr'.2
      (g := { method := m, pc := pc + 4, locals := ls, stack := .ref T.heap.size :: .ref T.heap.size :: rest, locked := none }) rfl d4' _ hsteps
end NSE2
end
section
/-! WHAT A PROGRAM CHECKS of an instruction: that it is what the bytes decode to, and that 'info' is what the pool and the tables say. -/
def xlen : Instr → Nat
  | .bipush _ => 2
  | .sipush _ => 3
  | .ldc _ => 2
  | .ldc_w _ => 3
  | .ldc2_w _ => 3
  | .iload _ => 2
  | .lload _ => 2
  | .dload _ => 2
  | .aload _ => 2
  | .istore _ => 2
  | .lstore _ => 2
  | .dstore _ => 2
  | .astore _ => 2
  | .iinc _ _ => 3
  | .ifCond _ _ => 3
  | .if_icmp _ _ => 3
  | .if_acmp _ _ => 3
  | .goto _ => 3
  | .getfield _ => 3
  | .putfield _ => 3
  | .getstatic _ => 3
  | .new _ => 3
  | .newarray _ => 2
  | .anewarray _ => 3
  | .invokespecial _ => 3
  | .invokevirtual _ => 3
  | .invokestatic _ => 3
  | .checkcast _ => 3
  | _ => 1
abbrev xPool : Type := List (Nat × Nat × List Nat)
abbrev xLds : Type := List (String × Nat × String × Nat)
/-- an entry of a class's pool: kinds 0 field, 1 static, 2 call, 3 new, 4 row of references, 6 a Token's text and a String's fields, 7 a throw -/
def xokQ (own : String) (Mt : Nat → Option xMth) (q : Nat × Nat × List Nat) : Bool := match q with
  | (0, idx, [ci, k, _, n]) => xokF own idx ci k n
  | (6, idx, [77]) => decide (Cond.fieldLinkNest own idx RX8 "text" "Ljava/lang/String;" "ShellWatch" ∈ lw_tbl)
  | (6, idx, [78]) => decide (Cond.fieldLink own idx RJ0 "value" "[B" ∈ xWs)
  | (6, idx, [79]) => decide (Cond.fieldLink own idx RJ0 "coder" "B" ∈ xWs)
  | (1, idx, [0, i]) => decide (Cond.fieldLink own idx RX8 (xtn i) "LShellWatch$Token;" ∈ xWs)
  | (1, idx, [1]) => decide (Cond.fieldLinkNest own idx RX8 "ALL" "[LShellWatch$Token;" "ShellWatch" ∈ lw_tbl)
  | (1, idx, [2]) => decide (Cond.fieldLink own idx RJ0 "COMPACT_STRINGS" "Z" ∈ xWs)
  | (1, idx, [4]) => decide (Cond.fieldLink own idx RJ6 "DigitOnes" "[B" ∈ xWs)
  | (1, idx, [5]) => decide (Cond.fieldLink own idx RJ6 "DigitTens" "[B" ∈ xWs)
  | (1, idx, [6]) => decide (Cond.fieldLink own idx RJx4a65c "DEFAULTCAPACITY_EMPTY_ELEMENTDATA" "[Ljava/lang/Object;" ∈ xWs)
  | (1, idx, [3]) => decide (Cond.fieldLink own idx RJ3 "SIOOBE_FORMATTER" "Ljava/util/function/BiFunction;" ∈ xWs)
  | (2, idx, [kd, key, n, _, mc, ms, ci]) => match Mt key with
    | some M => xokC own kd idx n ci M && (Nat.beq M.2.2.2.2.1 mc && Nat.beq M.2.2.2.2.2 ms)
    | none => false
  | (3, idx, [0, ci, n]) => match vwCl[ci]? with
    | some r => decide (Cond.classLink own idx r.1 ∈ xWs) && (decide (Cond.instantiable r.1 r.2.2 ∈ xWs) && (decide (Cond.initialized r.1 ∈ xWs) && Nat.beq r.2.2 n))
    | none => false
  | (4, idx, [4]) => decide (Cond.classLink own idx "ShellWatch$Token" ∈ xWs)
  | (4, idx, [5]) => decide (Cond.classLink own idx "ShellWatch$Game" ∈ xWs)
  | (4, idx, [6]) => decide (Cond.classLink own idx "java/lang/Object" ∈ xWs)
  | (8, idx, [ci]) => match vwCl[ci]? with
    | some r => decide (Cond.classLink own idx r.1 ∈ xWs)
    | none => false
  | _ => false
def xnm (e : Nat) : List String := match e with
  | 3 => ["java/lang/RuntimeException", "java/lang/Exception"]
  | _ => ["java/lang/RuntimeException", "java/lang/Exception"]
/-- which index the class's constructor calls its parent by, and its bytes -/
def xix (e : Nat) : Nat := match e with
  | 3 => 13
  | _ => 7
def xrx (e : Nat) : ByteArray := match e with
  | 3 => ⟨#[0x2a, 0x2b, 0xb7, 0x00, 0x0d, 0xb1]⟩
  | _ => ⟨#[0x2a, 0x2b, 0xb7, 0x00, 0x07, 0xb1]⟩
theorem xrx_ok (e : Nat) : decode (xrx e) 0 = .ok (.aload_n 0, 1) ∧ decode (xrx e) 1 = .ok (.aload_n 1, 1) ∧ decode (xrx e) 2 = .ok (.invokespecial (xix e), 3) ∧ decode (xrx e) 5 = .ok (.return_, 1) := by
  unfold xrx xix
  split
  · decide +kernel
  · decide +kernel
/-- of a throw: the class, its text, its constructor, by their places in the pool -/
def xokT (own : String) (cc : ByteArray) (exs : List (String × Nat × String)) (pc idx e is ic : Nat) : Bool :=
  Bundle.fit (xexc e) && ((xnm e).all Bundle.fit && (decide (Cond.classLink own idx (xexc e) ∈ xWs) && (decide (Cond.initialized (xexc e) ∈ xWs) && ((vx_atX own ic (xexc e) (xix e) (xrx e) (xnm e)).all (fun w => decide (w ∈ lw_tbl) && (goodWord w || xnest w)) && (exs.any (fun q => decide (q.1 = own) && Nat.beq q.2.1 is) &&
  (decide (decode cc (pc + 3) = .ok (.dup, 1)) && ((decide (decode cc (pc + 4) = .ok (.ldc is, 2)) && (decide (decode cc (pc + 6) = .ok (.invokespecial ic, 3)) && decide (decode cc (pc + 9) = .ok (.athrow, 1)))) || (decide (decode cc (pc + 4) = .ok (.ldc_w is, 3)) && (decide (decode cc (pc + 7) = .ok (.invokespecial ic, 3)) && decide (decode cc (pc + 10) = .ok (.athrow, 1)))))))))))
def xtgt (pc : Nat) (off : Int) (info : List Nat) : Bool := match info with
  | [t] => decide ((pc : Int) + off = (t : Int))
  | _ => false
def xtab (pc : Nat) (offs : Array Int) : Nat → List Nat → Bool
  | _, [] => true
  | j, t :: ts => (match offs[j]? with
    | some off => decide ((pc : Int) + off = (t : Int))
    | none => false) && xtab pc offs (j + 1) ts
def xspecP (own : String) (idx k : Nat) : Bool := match k with
  | 0 => decide (Cond.methodLink own idx Lib.Math.max.name ∈ xWs) && (decide (Cond.static Lib.Math.max.name ∈ xWs) && (decide (Cond.initialized "java/lang/Math" ∈ xWs) && decide (Cond.code Lib.Math.max.name Lib.Math.max.code 2 (some .int) ∈ xWs)))
  | 1 => decide (Cond.methodLink own idx Lib.Math.min.name ∈ xWs) && (decide (Cond.static Lib.Math.min.name ∈ xWs) && (decide (Cond.initialized "java/lang/Math" ∈ xWs) && decide (Cond.code Lib.Math.min.name Lib.Math.min.code 2 (some .int) ∈ xWs)))
  | 2 => decide (Cond.methodLink own idx Lib.MathLoose.max_long.x ∈ xWs) && (decide (Cond.static Lib.MathLoose.max_long.x ∈ xWs) && (decide (Cond.initialized "java/lang/Math" ∈ xWs) && decide (Cond.code Lib.MathLoose.max_long.x Lib.MathLoose.max_long.code 4 (some .long) ∈ xWs)))
  | 3 => decide (Cond.methodLink own idx Lib.MathLoose.min_long.x ∈ xWs) && (decide (Cond.static Lib.MathLoose.min_long.x ∈ xWs) && (decide (Cond.initialized "java/lang/Math" ∈ xWs) && decide (Cond.code Lib.MathLoose.min_long.x Lib.MathLoose.min_long.code 4 (some .long) ∈ xWs)))
  | 6 => decide (Cond.methodLink own idx arraycopyName ∈ xWs) && (decide (Cond.native arraycopyName ∈ xWs) && (decide (Cond.static arraycopyName ∈ xWs) && decide (Cond.initialized "java/lang/System" ∈ xWs)))
  | _ => false
def xisr (ret : Option FieldType) : Bool := match ret with
  | some (.object _) => true
  | some (.array _) => true
  | _ => false
theorem xisr_ok {ret : Option FieldType} (h : xisr ret = true) : ∃ rt, ret = some rt ∧ ((∃ n, rt = .object n) ∨ ∃ t, rt = .array t) := by
  unfold xisr at h
  split at h
  · exact ⟨_, rfl, Or.inl ⟨_, rfl⟩⟩
  · exact ⟨_, rfl, Or.inr ⟨_, rfl⟩⟩
  · cases h
def xspec (own : String) (ini : Bool) (cc : ByteArray) (nL : Nat) (ret : Option FieldType) (PO : xPool) (lds : xLds) (exs : List (String × Nat × String)) (pc : Nat) (ins : Instr) (info : List Nat) : Bool := match ins with
  | .istore i => Nat.blt i nL
  | .istore_n i => Nat.blt i nL
  | .astore i => Nat.blt i nL
  | .astore_n i => Nat.blt i nL
  | .iinc i _ => Nat.blt i nL
  | .lstore i => Nat.blt (i + 1) nL
  | .lstore_n i => Nat.blt (i + 1) nL
  | .dstore i => Nat.blt (i + 1) nL
  | .ifCond _ off => xtgt pc off info
  | .if_icmp _ off => xtgt pc off info
  | .if_acmp _ off => xtgt pc off info
  | .goto off => xtgt pc off info
  | .tableswitch dflt lo hi offs => match info with
    | d :: l0 :: ts => decide (lo = (l0 : Int)) && (decide (hi = (l0 : Int) + ts.length - 1) && (decide ((pc : Int) + dflt = (d : Int)) && (xtab pc offs 0 ts && Nat.ble (l0 + ts.length) 100000)))
    | _ => false
  | .getfield idx => decide ((0, idx, info) ∈ PO) || decide ((6, idx, info) ∈ PO)
  | .putfield idx => decide ((0, idx, info) ∈ PO) && match info with
    | [ci, k, t, n] => xokP own ci k t n && (!(Nat.beq n 2) || ini)
    | _ => false
  | .getstatic idx => decide ((1, idx, info) ∈ PO)
  | .new idx => match info with
    | [1, e, is, ic] => xokT own cc exs pc idx e is ic
    | _ => decide ((3, idx, info) ∈ PO)
  | .newarray a => match info with
    | [k] => Nat.blt k 4 && (decide (newarray.typeOf a = xkty k) && decide (Cond.arrayClass (xkty k) ∈ xWs))
    | _ => false
  | .anewarray idx => decide ((4, idx, info) ∈ PO)
  | .checkcast idx => decide ((8, idx, info) ∈ PO)
  | .ldc idx => match info with
    | [0, k] => decide (Cond.constant own idx (nI k) ∈ xWs)
    | [1, k] => decide (Cond.constant own idx (- nI k) ∈ xWs)
    | [2, i] => lds.any (fun q => decide (q.1 = own) && (Nat.beq q.2.1 idx && Nat.beq q.2.2.2 i))
    | _ => false
  | .ldc_w idx => match info with
    | [0, k] => decide (Cond.constant own idx (nI k) ∈ xWs)
    | [1, k] => decide (Cond.constant own idx (- nI k) ∈ xWs)
    | [2, i] => lds.any (fun q => decide (q.1 = own) && (Nat.beq q.2.1 idx && Nat.beq q.2.2.2 i))
    | _ => false
  | .ldc2_w idx => match info with
    | [0, k] => decide (Cond.constantLong own idx (lN k) ∈ xWs)
    | [1, k] => decide (Cond.constantLong own idx (- lN k) ∈ xWs)
    | _ => false
  | .lconst _ => true
  | .dconst d => decide (d = 0)
  | .fconst f => (decide (info = [0]) && decide (f = 0)) || (decide (info = [1]) && decide (f = 1))
  | .invokespecial idx => match info with
    | [_] => decide (Cond.methodLink own idx objectInit ∈ xWs) && (decide (Cond.instanceMethod objectInit ∈ xWs) && decide (Cond.code objectInit ⟨#[0xb1]⟩ 1 none ∈ xWs))
    | kd :: _ => decide ((2, idx, info) ∈ PO) && (Nat.beq kd 2 || (Nat.beq kd 4 || Nat.beq kd 7))
    | _ => false
  | .invokevirtual idx => match info with
    | [_, _] => false
    | kd :: _ => decide ((2, idx, info) ∈ PO) && (Nat.beq kd 1 || (Nat.beq kd 3 || (Nat.beq kd 5 || (Nat.beq kd 6 || Nat.beq kd 9))))
    | _ => false
  | .invokestatic idx => match info with
    | [_, k] => xspecP own idx k
    | kd :: _ => decide ((2, idx, info) ∈ PO) && (Nat.beq kd 0 || (Nat.beq kd 8 || Nat.beq kd 10))
    | _ => false
  | .ireturn => match info with
    | [t] => decide (ret = some (xty t))
    | _ => false
  | .lreturn => decide (ret = some .long)
  | .freturn => decide (ret = some .float)
  | .dreturn => decide (ret = some .double)
  | .areturn => xisr ret
  | .return_ => decide (ret = none)
  | _ => true
def xokI (own : String) (ini : Bool) (cc : ByteArray) (nL : Nat) (ret : Option FieldType) (PO : xPool) (lds : xLds) (exs : List (String × Nat × String)) (i : xI) (np : Nat) : Bool :=
  decide (decode cc i.1 = .ok (i.2.1, np - i.1)) && (Nat.ble i.1 np && ((match i.2.1 with
    | .tableswitch .. => true
    | ins => Nat.beq (np - i.1) (xlen ins)) && xspec own ini cc nL ret PO lds exs i.1 i.2.1 i.2.2))
/-- the instructions of a block, one behind another, up to ep -/
def xokB (own : String) (ini : Bool) (cc : ByteArray) (nL : Nat) (ret : Option FieldType) (PO : xPool) (lds : xLds) (exs : List (String × Nat × String)) (ep : Nat) : Nat → List xI → Bool
  | pc, [] => Nat.beq pc ep
  | pc, [i] => Nat.beq pc i.1 && xokI own ini cc nL ret PO lds exs i ep
  | pc, i :: j :: r => Nat.beq pc i.1 && (xokI own ini cc nL ret PO lds exs i j.1 && xokB own ini cc nL ret PO lds exs ep j.1 (j :: r))
end
section
/-! A STEP OF THE INTERPRETER IS A STEP OF THE MACHINE. -/
theorem xget_has {ls : Array Slot} {nL i : Nat} {v : Value} : ∀ {L : xL}, lv_has ls nL L → xget L i = some v → ls[i]? = some (.val v) := by
  intro L hl h
  have hm : (i, v) ∈ L := by
    clear hl
    induction L with
    | nil => cases h
    | cons q L ih =>
      unfold xget at h
      cases hb : Nat.beq q.1 i
      · rw [hb] at h
        exact List.mem_cons_of_mem _ (ih h)
      · rw [hb] at h
        have := Nat.eq_of_beq_eq_true hb
        subst this
        cases h
        exact List.mem_cons_self
  exact hl.2.2 _ hm
theorem iv_xans {ρ : Type} {z : ρ} {T : xR → Option ρ} {tag : Nat} {r : Option xR} {k : List Value → xH → Option ρ} (h : xans T tag r k = some z) : ∃ r', r = some r' ∧ ((∃ v, r'.1 = .inl v ∧ k v.toList r'.2 = some z) ∨ ∃ X, r'.1 = .inr X ∧ T (.inr X, r'.2) = some z) := by
  unfold xans at h
  split at h
  · unfold cI at h
    split at h
    · exact ⟨_, rfl, Or.inl ⟨_, rfl, h⟩⟩
    · exact ⟨_, rfl, Or.inr ⟨_, rfl, h⟩⟩
    · cases h
  · unfold cL at h
    split at h
    · exact ⟨_, rfl, Or.inl ⟨_, rfl, h⟩⟩
    · exact ⟨_, rfl, Or.inr ⟨_, rfl, h⟩⟩
    · cases h
  · unfold cA at h
    split at h
    · exact ⟨_, rfl, Or.inl ⟨_, rfl, h⟩⟩
    · exact ⟨_, rfl, Or.inr ⟨_, rfl, h⟩⟩
    · cases h
  · unfold cF at h
    split at h
    · exact ⟨_, rfl, Or.inl ⟨_, rfl, h⟩⟩
    · exact ⟨_, rfl, Or.inr ⟨_, rfl, h⟩⟩
    · cases h
  · unfold cD at h
    split at h
    · exact ⟨_, rfl, Or.inl ⟨_, rfl, h⟩⟩
    · exact ⟨_, rfl, Or.inr ⟨_, rfl, h⟩⟩
    · cases h
  · unfold cV at h
    split at h
    · exact ⟨_, rfl, Or.inl ⟨_, rfl, h⟩⟩
    · exact ⟨_, rfl, Or.inr ⟨_, rfl, h⟩⟩
    · cases h
  · cases h
theorem iv_xcall {ρ : Type} {z : ρ} {E : xEn} {call : Nat → List Value → xH → Option xR} {MC MS : Nat} {T : xR → Option ρ} {info : List Nat} {st : List Value} {σ : xH} {bc bs : Nat} {nx : List Value → xH → Nat → Nat → Option ρ} (h : xcall E call MC MS T info st σ bc bs nx = some z) :
    ∃ kd key n tag mc ms ci r, info = [kd, key, n, tag, mc, ms, ci] ∧ n ≤ st.length ∧ xcat (st.drop n) ≤ 8 ∧ bc + mc ≤ MC ∧ bs + ms ≤ MS ∧
      (ci ≠ 0 → ∃ b As, (st.take n).reverse = .ref b :: As ∧ ((∃ fs, σ.1 b = some (.inr (ci - 1, fs))) ∨ (ci - 1 = 99 ∧ ∃ i, xfind E.2.1 b xNS = some i) ∨ (ci - 1 = 99 ∧ ∃ fs, σ.1 b = some (.inr (11, fs))))) ∧ call key (st.take n).reverse σ = some r ∧
      ((∃ v, r.1 = .inl v ∧ nx (v.toList ++ st.drop n) r.2 (bc + mc) (bs + ms) = some z) ∨ (kd = 5 ∧ ∃ X, r.1 = .inr X ∧ T (.inr X, r.2) = some z)) := by
  unfold xcall at h
  split at h
  · next kd key n tag mc ms ci =>
    obtain ⟨h1, h2⟩ := iv_if h
    simp only [Bool.and_eq_true] at h1
    obtain ⟨g1, g2, g3, g4⟩ := h1
    have g1 := Nat.le_of_ble_eq_true g1
    have g2 := Nat.le_of_ble_eq_true g2
    have g3 := Nat.le_of_ble_eq_true g3
    have g4 := Nat.le_of_ble_eq_true g4
    split at h2
    · obtain ⟨r, hr, hv⟩ := iv_xans h2
      refine ⟨_, _, _, _, _, _, _, r, rfl, g1, g2, g3, g4, fun h => absurd rfl h, hr, ?_⟩
      rcases hv with ⟨v, hv1, hv2⟩ | ⟨X, hv1, hv2⟩
      · exact Or.inl ⟨v, hv1, hv2⟩
      · obtain ⟨k1, k2⟩ := iv_if hv2
        exact Or.inr ⟨Nat.eq_of_beq_eq_true k1, X, hv1, k2⟩
    · split at h2
      · next c b As hAs =>
        obtain ⟨hO, h3⟩ := iv_gO h2
        obtain ⟨r, hr, hv⟩ := iv_xans h3
        refine ⟨_, _, _, _, _, _, _, r, rfl, g1, g2, g3, g4, fun _ => ⟨b, As, hAs, hO⟩, by rw [hAs]; exact hr, ?_⟩
        rcases hv with ⟨v, hv1, hv2⟩ | ⟨X, hv1, hv2⟩
        · exact Or.inl ⟨v, hv1, hv2⟩
        · obtain ⟨k1, k2⟩ := iv_if hv2
          exact Or.inr ⟨Nat.eq_of_beq_eq_true k1, X, hv1, k2⟩
      · cases h2
  · cases h
/-- what a method's walk stands on -/
def xCx (p : Program) (l : Launch) (s : State) (m : MethodId) (args : Array Value) (meth : Method) (c : Code) (lds : xLds) (exs : List (String × Nat × String)) (G : xG) (E : xEn) (A : Nat → Prop) (d : Nat) (call : Nat → List Value → xH → Option xR) (Mt : Nat → Option xMth) (own : String) (ini : Bool) (cc : ByteArray) (nL : Nat) (ret : Option FieldType) (PO : xPool) : Prop :=
  p.tables.exec = Jvm.exec ∧ c.code = cc ∧ c.maxLocals = nL ∧ (∀ w ∈ xWs, w.before args s = true) ∧ s.vm.findClass own = some m.cls ∧ va_K G.1 vwCl (xtys G.2) s ∧ xK lds exs E A s s.heap ∧ (∀ q, s.heap.size ≤ q → A q) ∧
  (∀ x ∈ c.exceptionTable.toList, False) ∧ meth.locks = false ∧ meth.sig.returnType = ret ∧ l.stackTraces = false ∧ (ini = true → meth.name = "<init>") ∧ (∀ q ∈ PO, xokQ own Mt q = true) ∧ ∀ key M, Mt key = some M → xMet lds exs l G E d M (call key)
/-- from here the machine comes to Q -/
def xTg (p : Program) (l : Launch) (e : Env) (s : State) (m : MethodId) (args : Array Value) (below : List Frame) (meth : Method) (c : Code) (d MC MS : Nat) (Q : State → Prop) (G : xG) (A : Nat → Prop) (nL : Nat) (pc : Nat) (L : xL) (st : List Value) (σ : xH) (bc bs : Nat) : Prop :=
  bc ≤ MC → bs ≤ MS → ∀ (ls : Array Slot) (H : Heap) (locs : List Loc), lv_has ls nL L → xS G A s.heap σ H locs → W p l e (xrm (d + 1) MC MS) s m args below meth c H locs bc bs Q (F0 m pc ls st)
section STEPS
variable {p : Program} {l : Launch} {e : Env} {s : State} {m : MethodId} {args : Array Value} {below : List Frame} {meth : Method} {c : Code}
variable {lds : xLds} {exs : List (String × Nat × String)} {G : xG} {E : xEn} {A : Nat → Prop} {d MC MS nL : Nat} {call : Nat → List Value → xH → Option xR} {Mt : Nat → Option xMth} {own : String} {ini : Bool} {cc : ByteArray} {ret : Option FieldType} {PO : xPool} {r0 : xR}
theorem x_fin {H : Heap} {locs : List Loc} {σ : xH} {v : Option Value} (hS : xS G A s.heap σ H locs) (hr : r0 = (.inl v, σ)) : (∀ t : State, t.heap = H → s.WarmedH t.vm → xQc G A r0 args s (.returned v) t) ∧ ∀ q ∈ locs, A q.base := by
  subst hr
  exact ⟨fun t ht _ => ⟨v, rfl, rfl, by rw [ht]; exact hS.1, by rw [ht]; exact hS.2.1, hS.2.2.1, hS.2.2.2.F ht⟩, hS.2.2.2.2.2⟩
theorem x_thr {pc : Nat} {ls : Array Slot} {rest : List Value} {H : Heap} {locs : List Loc} {bc bs : Nat} {w : Nat → Option va_E} {z : Nat} {X : String} {ce : Cell} {q9 : Addr} (C : xCx p l s m args meth c lds exs G E A d call Mt own ini cc nL ret PO) (hS : xS G A s.heap (w, z) H locs) (hr1 : r0.1 = .inr X) (hr2 : r0.2.1 = w) (h3 : H[q9]? = some ce) (h4 : ce.vm = .none) (h5 : s.vm.findClass X = some ce.cls) (hbc : bc ≤ MC) (hbs : bs ≤ MS) :
    vx_W p l e (xrm (d + 1) MC MS) s m args below meth c H locs bc bs (vx_MQ below (xQc G A r0) (xXC G A r0) args s MC MS A) (F0 m pc ls rest) q9 :=
  vx_out (fun x hx => (C.2.2.2.2.2.2.2.2.1 x hx).elim) C.2.2.2.2.2.2.2.2.2.1 h3 h4 h5 (fun t ht _ => ⟨hr1, by rw [hr2, ht]; exact hS.2.1, by rw [hr2]; exact hS.2.2.1, hS.2.2.2.F ht⟩) hS.2.2.2.2.2 hbc hbs
theorem xlen_ok : ∀ j, j < xNS → (xbyt.map List.length).getD j 0 = (xtx j).length := by decide +kernel
theorem xtab_at {pc : Nat} {offs : Array Int} : ∀ {ts : List Nat} {j0 j t : Nat}, xtab pc offs j0 ts = true → ts[j]? = some t → ∃ off, offs[j0 + j]? = some off ∧ (pc : Int) + off = (t : Int) := by
  intro ts
  induction ts with
  | nil => intro j0 j t _ h; simp at h
  | cons t0 ts ih =>
    intro j0 j t h hj
    unfold xtab at h
    rw [Bool.and_eq_true] at h
    cases j with
    | zero =>
      simp at hj
      subst hj
      have h1 := h.1
      split at h1
      · next off ho => exact ⟨off, ho, of_decide_eq_true h1⟩
      · cases h1
    | succ j =>
      obtain ⟨off, ho, ht⟩ := ih h.2 (by simpa using hj)
      exact ⟨off, by rw [← ho]; congr 1; omega, ht⟩
theorem iv_xnew {ρ : Type} {z : ρ} {fin : xR → Option ρ} {info : List Nat} {st : List Value} {σ : xH} {bc bs : Nat} {nx : List Value → xH → Nat → Nat → Option ρ} (h : xnew MC MS fin info st σ bc bs nx = some z) :
    (∃ ci n, info = [0, ci, n] ∧ bc + 1 ≤ MC ∧ bs + n ≤ MS ∧ nx (.ref σ.2 :: st) (xup σ.1 σ.2 (.inr (ci, xdef ci n)), σ.2 + 1) (bc + 1) (bs + n) = some z) ∨ ∃ k is ic, info = [1, k, is, ic] ∧ bc + 1 ≤ MC ∧ bs + 6 ≤ MS ∧ xcat st ≤ 8 ∧ fin (.inr (xexc k), σ) = some z := by
  unfold xnew at h
  split at h
  · obtain ⟨h1, h2⟩ := iv_if h
    rw [Bool.and_eq_true] at h1
    exact Or.inl ⟨_, _, rfl, Nat.le_of_ble_eq_true h1.1, Nat.le_of_ble_eq_true h1.2, h2⟩
  · obtain ⟨h1, h2⟩ := iv_if h
    rw [Bool.and_eq_true, Bool.and_eq_true] at h1
    exact Or.inr ⟨_, _, _, rfl, Nat.le_of_ble_eq_true h1.1, Nat.le_of_ble_eq_true h1.2.1, Nat.le_of_ble_eq_true h1.2.2, h2⟩
  · cases h
theorem iv_xnewa {ρ : Type} {z : ρ} {x : Nat → (Nat → Int32) ⊕ (Nat → Int64) ⊕ (Nat → UInt32) ⊕ (Nat → UInt64) ⊕ (Nat → Option Nat)} {info : List Nat} {st : List Value} {σ : xH} {bc bs : Nat} {nx : List Value → xH → Nat → Nat → Option ρ} (h : xnewa MC MS x info st σ bc bs nx = some z) :
    ∃ n r k, st = .int n :: r ∧ info = [k] ∧ ¬ n < 0 ∧ bc + 1 ≤ MC ∧ bs + n.toNatClampNeg ≤ MS ∧ n.toNatClampNeg ≤ 100000 ∧ nx (.ref σ.2 :: r) (xup σ.1 σ.2 (.inl (k, n.toNatClampNeg, x k)), σ.2 + 1) (bc + 1) (bs + n.toNatClampNeg) = some z := by
  unfold xnewa at h
  obtain ⟨n, r, rfl, h⟩ := iv_t1I h
  obtain ⟨k, rfl, h⟩ := iv_i1 h
  obtain ⟨h1, h2⟩ := iv_if h
  simp only [Bool.and_eq_true, decide_eq_true_eq] at h1
  exact ⟨n, r, k, rfl, rfl, h1.1, Nat.le_of_ble_eq_true h1.2.1, Nat.le_of_ble_eq_true h1.2.2.1, Nat.le_of_ble_eq_true h1.2.2.2, h2⟩
theorem iv_xinit {ρ : Type} {z : ρ} {fin : xR → Option ρ} {info : List Nat} {st : List Value} {σ : xH} {bc bs : Nat} {nx : List Value → xH → Nat → Nat → Option ρ} (h : xinit E call MC MS fin info st σ bc bs nx = some z) :
    (∃ q, info = [q] ∧ ∃ a r, st = .ref a :: r ∧ xcat r ≤ 8 ∧ nx r σ bc bs = some z) ∨ xcall E call MC MS fin info st σ bc bs nx = some z := by
  unfold xinit at h
  split at h
  · obtain ⟨a, r, rfl, h⟩ := iv_t1A h
    obtain ⟨h1, h2⟩ := iv_if h
    exact Or.inl ⟨_, rfl, a, r, rfl, Nat.le_of_ble_eq_true h1, h2⟩
  · exact Or.inr h
theorem iv_xinv {ρ : Type} {z : ρ} {fin : xR → Option ρ} {info : List Nat} {st : List Value} {σ : xH} {bc bs : Nat} {pr : Nat → Option ρ} {nx : List Value → xH → Nat → Nat → Option ρ} (h : xinv E call MC MS fin info st σ bc bs pr nx = some z) :
    (∃ q k, info = [q, k] ∧ pr k = some z) ∨ xcall E call MC MS fin info st σ bc bs nx = some z := by
  unfold xinv at h
  split at h
  · exact Or.inl ⟨_, _, rfl, h⟩
  · exact Or.inr h
theorem iv_xprim {E : xEn} {ρ : Type} {z : ρ} {k : Nat} {st : List Value} {σ : xH} {nx : List Value → xH → Option ρ} (h : xprim E k st σ nx = some z) :
    (k = 0 ∧ ∃ x y r, st = .int y :: .int x :: r ∧ nx (.int (if x < y then y else x) :: r) σ = some z) ∨ (k = 1 ∧ ∃ x y r, st = .int y :: .int x :: r ∧ nx (.int (if y < x then y else x) :: r) σ = some z) ∨
    (k = 2 ∧ ∃ x y r, st = .long y :: .long x :: r ∧ nx (.long (if y < x then x else y) :: r) σ = some z) ∨ (k = 3 ∧ ∃ x y r, st = .long y :: .long x :: r ∧ nx (.long (if y < x then y else x) :: r) σ = some z) ∨
    (k = 6 ∧ ∃ n j b i a r, st = .int n :: .int j :: .ref b :: .int i :: .ref a :: r ∧ cpI E σ a i b j n (fun σ' => nx r σ') = some z) := by
  unfold xprim at h
  split at h
  · exact Or.inl ⟨rfl, _, _, _, rfl, h⟩
  · exact Or.inr (Or.inl ⟨rfl, _, _, _, rfl, h⟩)
  · exact Or.inr (Or.inr (Or.inl ⟨rfl, _, _, _, rfl, h⟩))
  · exact Or.inr (Or.inr (Or.inr (Or.inl ⟨rfl, _, _, _, rfl, h⟩)))
  · exact Or.inr (Or.inr (Or.inr (Or.inr ⟨rfl, _, _, _, _, _, _, rfl, h⟩)))
  · cases h
section LIT
variable {R : Room} {H : Heap} {locs : List Loc} {cells slots : Nat} {Q : State → Prop} {pc : Nat} {ls : Array Slot} {rest : List Value}
theorem x_iinc (hx : p.tables.exec = Jvm.exec) (hb : c.code = cc) {i : Nat} {k : Int} {x : Int32} {L : xL} (hdg : decode cc pc = .ok (.iinc i k, 3)) (hl : lv_has ls nL L) (hg : xget L i = some (.int x)) (hn : i < nL)
    (kk : ∀ ls' : Array Slot, lv_has ls' nL (xset1 L i (.int (x + Int32.ofInt k))) → W p l e R s m args below meth c H locs cells slots Q (F0 m (pc + 3) ls' rest)) : W p l e R s m args below meth c H locs cells slots Q (F0 m pc ls rest) := by
  have hm : ∃ j : Nat, L[j]? = some (i, Value.int x) := by
    clear kk hl
    induction L with
    | nil => cases hg
    | cons q L ih =>
      unfold xget at hg
      cases hb : Nat.beq q.1 i
      · rw [hb] at hg
        obtain ⟨j, hj⟩ := ih hg
        exact ⟨j + 1, by simpa using hj⟩
      · rw [hb] at hg
        have := Nat.eq_of_beq_eq_true hb
        subst this
        refine ⟨0, ?_⟩
        have h2 : q.2 = .int x := by
          have : some q.2 = some (.int x) := hg
          exact Option.some.inj this
        rw [← h2]
        rfl
  obtain ⟨j, hj⟩ := hm
  exact lv_iinc hx hb hdg hl hj rfl hn rfl kk
theorem x_ldcwS (hx : p.tables.exec = Jvm.exec) (hb : c.code = cc) {tx : String} {index q : Nat} (hown : s.vm.findClass own = some m.cls) (hZ : vk_R own index tx q s) (hdg : decode cc pc = .ok (.ldc_w index, 3))
    (kk : W p l e R s m args below meth c H locs cells slots Q (F0 m (pc + 3) ls (.ref q :: rest))) : W p l e R s m args below meth c H locs cells slots Q (F0 m pc ls rest) := by
  intro T hT X
  obtain ⟨t, a1, b1⟩ := kk T hT X
  refine ⟨t, ?_, b1⟩
  obtain ⟨k, cf, i, a', hk, hcf, hcp, -, hr, hev'⟩ := Cond.stringRef_spec hown hZ.1
  cases hZ.2.symm.trans hev'
  obtain ⟨k', hk', he⟩ := X.warmed.alike.2.2 _ _ hk
  have hr' : k'.resolved[index]? = some (some (.string q)) := by
    rcases X.warmed.entry hk hk' index with h | ⟨h, -⟩
    · rw [h]; exact hr
    · rw [hr] at h; cases h
  jvm_step X.here [hx, hb, hdg, ldc_w.wp_string (e := e) (s := T) (f := F0 m pc ls rest) X.here.top hk' (by rw [he]; exact hcf) hcp hr']
  exact a1
theorem x_tokText (hx : p.tables.exec = Jvm.exec) (hb : c.code = cc) (hown : s.vm.findClass own = some m.cls) {idx q : Nat} {v : Value} {o n d : String} {host : String} (hlink : (Cond.fieldLinkNest own idx o n d host).before args s = true) (hE : va_OF o n d v q A s s.heap) (hS : va_S A s.heap H locs) (hdg : decode cc pc = .ok (.getfield idx, 3))
    (kk : W p l e R s m args below meth c H locs cells slots Q (F0 m (pc + 3) ls (v :: rest))) : W p l e R s m args below meth c H locs cells slots Q (F0 m pc ls (.ref q :: rest)) := by
  obtain ⟨cf, k, i, f, cell, h1, h2, h3, h4, h5, h6⟩ := hE.kept hS.2.1
  exact va_Wgetf hx hb hown hlink h1 h2 h3 h4 h5 rfl rfl hdg kk
end LIT
theorem x_callI (C : xCx p l s m args meth c lds exs G E A d call Mt own ini cc nL ret PO) {pc i : Nat} {z : xR ⊕ xJ} {nx : xL → List Value → xH → Nat → Nat → Option (xR ⊕ xJ)} {L : xL}
    (hnx : ∀ L st σ bc bs, nx L st σ bc bs = some z → xTg p l e s m args below meth c d MC MS (vx_MQ below (xQc G A r0) (xXC G A r0) args s MC MS A) G A nL (pc + 3) L st σ bc bs) (hfin : ∀ r, z = .inl r → r0 = r)
    {kd key n tag mc ms ci : Nat} {r : xR} {st : List Value} {σ : xH} {bc bs : Nat} (hq : xokQ own Mt (2, i, [kd, key, n, tag, mc, ms, ci]) = true) (g1 : n ≤ st.length) (g2 : xcat (st.drop n) ≤ 8) (g3 : bc + mc ≤ MC) (g4 : bs + ms ≤ MS)
    (hrv : ci ≠ 0 → ∃ b As, (st.take n).reverse = .ref b :: As ∧ ((∃ fs, σ.1 b = some (.inr (ci - 1, fs))) ∨ (ci - 1 = 99 ∧ ∃ i, xfind E.2.1 b xNS = some i) ∨ (ci - 1 = 99 ∧ ∃ fs, σ.1 b = some (.inr (11, fs))))) (hcl : call key (st.take n).reverse σ = some r)
    (hz : (∃ v, r.1 = .inl v ∧ nx L (v.toList ++ st.drop n) r.2 (bc + mc) (bs + ms) = some z) ∨ (kd = 5 ∧ ∃ X, r.1 = .inr X ∧ some (Sum.inl (Sum.inr X, r.2)) = some z))
    {ls : Array Slot} {H : Heap} {locs : List Loc} (hl : lv_has ls nL L) (hS : xS G A s.heap σ H locs) (hd : decode cc pc = .ok (xins kd i, 3)) :
    W p l e (xrm (d + 1) MC MS) s m args below meth c H locs bc bs (vx_MQ below (xQc G A r0) (xXC G A r0) args s MC MS A) (F0 m pc ls st) := by
  obtain ⟨hx, hb, hml, hts, hown, hK, hKK, hA, hexc, hlocks, hret, htr, hini, hPO, hM⟩ := id C
  simp only [xokQ] at hq
  split at hq
  · next M hMt =>
    simp only [Bool.and_eq_true] at hq
    obtain ⟨hokC, e1, e2⟩ := hq
    have e1 := Nat.eq_of_beq_eq_true e1
    have e2 := Nat.eq_of_beq_eq_true e2
    subst e1
    subst e2
    refine x_invoke (r := r) (rest := st.drop n) hx hb hml hts hown hK hKK hS hA hl.1 hokC (hM key M hMt) (av := (st.take n).reverse) (by simp; omega) (by rw [List.reverse_reverse, List.take_append_drop]) hcl hrv g2 g3 g4 hd ?_ ?_ ?_
    · intro hk
      rcases hz with ⟨v, hv, -⟩ | ⟨hk5, -⟩
      · exact ⟨v, hv⟩
      · exact absurd hk5 hk
    · intro X ce q9 z9 H1 locs1 q1 q2 q3 q4 q5
      rcases hz with ⟨v, hv, -⟩ | ⟨-, X', hX', hz⟩
      · rw [hv] at q1; cases q1
      · rw [hX'] at q1
        cases q1
        have hr9 := hfin _ (Option.some.inj hz).symm
        exact x_thr C q2 (by rw [hr9]) (by rw [hr9]) q3 q4 q5 g3 g4
    · intro v H1 locs1 hv hS1
      rcases hz with ⟨v', hv', hz⟩ | ⟨-, X', hX', -⟩
      · rw [hv] at hv'
        cases hv'
        exact hnx _ _ _ _ _ hz g3 g4 ls H1 locs1 hl hS1
      · rw [hX'] at hv; cases hv
  · cases hq
theorem x_throw (C : xCx p l s m args meth c lds exs G E A d call Mt own ini cc nL ret PO) {pc i k is ic : Nat} (hsp : xspec own ini cc nL ret PO lds exs pc (.new i) [1, k, is, ic] = true) {ls : Array Slot} {H : Heap} {locs : List Loc} {σ : xH} {st : List Value} {bc bs : Nat} (hS : xS G A s.heap σ H locs) (hr : r0 = (.inr (xexc k), σ))
    (hd : decode cc pc = .ok (.new i, 3)) (hnL : ls.size = nL) (hcat : xcat st ≤ 8) (hc9 : bc + 1 ≤ MC) (hs9 : bs + 6 ≤ MS) :
    W p l e (xrm (d + 1) MC MS) s m args below meth c H locs bc bs (vx_MQ below (xQc G A r0) (xXC G A r0) args s MC MS A) (F0 m pc ls st) := by
  obtain ⟨hx, hb, hml, hts, hown, hK, hKK, hA, hexc, hlocks, hret, htr, hini, hPO, hM⟩ := id C
  have hsp : xokT own cc exs pc i k is ic = true := hsp
  unfold xokT at hsp
  simp only [Bool.and_eq_true, Bool.or_eq_true, decide_eq_true_eq] at hsp
  obtain ⟨w1, w2, w3, w4, w5, w6, d3, hds⟩ := hsp
  obtain ⟨q, hq, hq1⟩ := List.any_eq_true.mp w6
  rw [Bool.and_eq_true, decide_eq_true_eq] at hq1
  obtain ⟨g1, g2⟩ := hq1
  have g2 := Nat.eq_of_beq_eq_true g2
  obtain ⟨sa, hstr⟩ := hKK.2.2.2.2.2.2.2.2.2.2.2.2.2.1 q hq
  rw [g1, g2] at hstr
  have hw : ∀ w ∈ vx_atX own ic (xexc k) (xix k) (xrx k) (xnm k), w ∈ lw_tbl ∧ (goodWord w = true ∨ xnest w = true) := by
    intro w hw
    have h := List.all_eq_true.mp w5 w hw
    rw [Bool.and_eq_true, decide_eq_true_eq, Bool.or_eq_true] at h
    exact h
  have hnt : ∀ w : Cond, xnest w = true → w.onTables = true := by
    intro w h
    cases w <;> first | rfl | cases h
  have hlen : (xnm k).length = 2 := by
    unfold xnm
    split <;> rfl
  subst hr
  have hat : ∀ w ∈ vx_atX own ic (xexc k) (xix k) (xrx k) (xnm k), w.before args s = true := by
    intro w h
    obtain ⟨h1, h2⟩ := hw w h
    rcases h2 with h2 | h2
    · exact hts _ (List.mem_filter.mpr ⟨List.mem_append_right _ h1, h2⟩)
    · exact va_Nw.use (hnt w h2) (hKK.2.2.2.2.2.2.2.2.2.1 w h1 h2)
  have hgd : ∀ w ∈ Cond.classLink own i (xexc k) :: Cond.initialized (xexc k) :: vx_atX own ic (xexc k) (xix k) (xrx k) (xnm k), vx_ot w = true := by
    intro w h
    unfold vx_ot
    rcases List.mem_cons.mp h with rfl | h
    · rfl
    · rcases List.mem_cons.mp h with rfl | h
      · rfl
      · obtain ⟨-, h2⟩ := hw w h
        rcases h2 with h2 | h2
        · rw [h2, Bool.or_true]
        · rw [hnt w h2, Bool.true_or]
  have hfr : (xnm k).length + 3 < (xrm (d + 1) MC MS).frames := by
    rw [hlen]
    show 2 + 3 < d + 1 + 12
    omega
  have hlo : (st.map fun v => v.category).sum + (13 * ((xnm k).length + 1) + 43) ≤ (xrm (d + 1) MC MS).locals := by
    rw [hlen]
    show xcat st + (13 * (2 + 1) + 43) ≤ 40 * (d + 1) + 200
    omega
  have hxx : ∀ t : State, s.vm.Alike t.vm → H.size ≤ t.heap.size → (∀ q : Nat, q < H.size → t.heap[q]? = H[q]?) → xXC G A (.inr (xexc k), σ) (xexc k) s t := by
    intro t _ hsz hq9
    refine ⟨rfl, fun a x ha => ?_, hS.2.2.1, Nat.le_trans hS.2.2.2.1 hsz, fun q h1 h2 => (hq9 q (Nat.lt_of_lt_of_le h1 hS.2.2.2.1)).trans (hS.2.2.2.2.1 q h1 h2)⟩
    have h9 := hS.2.1 a x ha
    exact h9.kept (hq9 a h9.lt)
  obtain ⟨x0, x1, x2, x5⟩ := xrx_ok k
  exact x_throwX (A := A) hx hb htr x0 x1 x2 x5 hown w1 (fun n hn => List.all_eq_true.mp w2 n hn) (hts _ w3) (hts _ w4) hstr hat hgd hKK.2.2.2.2.2.2.2.1 hKK.2.2.2.2.2.2.2.2.1 hS.2.2.2 (hnL.trans hml.symm) hd d3 hds hexc hfr hlo hc9 hs9 hlocks hxx hS.2.2.2.2.2 hc9 hs9
theorem xcastSO : Cond.castable RX11 "java/lang/Object" ∈ lw_tbl := by decide +kernel
set_option maxHeartbeats 4000000 in
theorem x_step (C : xCx p l s m args meth c lds exs G E A d call Mt own ini cc nL ret PO) {pc np : Nat} {ins : Instr} {info : List Nat} (hok : xokI own ini cc nL ret PO lds exs (pc, ins, info) np = true) {z : xR ⊕ xJ} (hfin : ∀ r, z = .inl r → r0 = r)
    (hj : ∀ t L st σ bc bs, z = .inr (t, L, st, σ, bc, bs) → xTg p l e s m args below meth c d MC MS (vx_MQ below (xQc G A r0) (xXC G A r0) args s MC MS A) G A nL t L st σ bc bs)
    {nx : xL → List Value → xH → Nat → Nat → Option (xR ⊕ xJ)} (hnx : ∀ L st σ bc bs, nx L st σ bc bs = some z → xTg p l e s m args below meth c d MC MS (vx_MQ below (xQc G A r0) (xXC G A r0) args s MC MS A) G A nL np L st σ bc bs)
    {L : xL} {st : List Value} {σ : xH} {bc bs : Nat} (h : xstep E call MC MS (fun r => some (.inl r)) (fun t L st σ bc bs => some (.inr (t, L, st, σ, bc, bs))) nx ins info L st σ bc bs = some z) :
    xTg p l e s m args below meth c d MC MS (vx_MQ below (xQc G A r0) (xXC G A r0) args s MC MS A) G A nL pc L st σ bc bs := by
  intro hbc hbs ls H locs hl hS
  obtain ⟨hx, hb, hml, hts, hown, hK, hKK, hA, hexc, hlocks, hret, htr, hini, hPO, hM⟩ := id C
  unfold xokI at hok
  simp only [Bool.and_eq_true] at hok
  obtain ⟨hd0, hle, hlen, hsp⟩ := hok
  have hd := of_decide_eq_true hd0
  clear hd0
  have hle : pc ≤ np := Nat.le_of_ble_eq_true hle
  have hnL : ls.size = nL := hl.1
  cases ins with
  | iconst i =>
    dsimp only [xstep] at h
    have e9 : np - pc = 1 := Nat.eq_of_beq_eq_true hlen
    rw [e9] at hd
    obtain rfl : np = pc + 1 := by omega
    exact lv_iconst hx hb hd rfl (hnx _ _ _ _ _ h hbc hbs ls H locs hl hS)
  | bipush i =>
    dsimp only [xstep] at h
    have e9 : np - pc = 2 := Nat.eq_of_beq_eq_true hlen
    rw [e9] at hd
    obtain rfl : np = pc + 2 := by omega
    exact lv_bipush hx hb hd rfl (hnx _ _ _ _ _ h hbc hbs ls H locs hl hS)
  | sipush i =>
    dsimp only [xstep] at h
    have e9 : np - pc = 3 := Nat.eq_of_beq_eq_true hlen
    rw [e9] at hd
    obtain rfl : np = pc + 3 := by omega
    exact lv_sipush hx hb hd rfl (hnx _ _ _ _ _ h hbc hbs ls H locs hl hS)
  | lconst i =>
    dsimp only [xstep] at h
    have e9 : np - pc = 1 := Nat.eq_of_beq_eq_true hlen
    rw [e9] at hd
    obtain rfl : np = pc + 1 := by omega
    exact lv_lconst hx hb hd rfl (hnx _ _ _ _ _ h hbc hbs ls H locs hl hS)
  | dconst i =>
    dsimp only [xstep] at h
    have e9 : np - pc = 1 := Nat.eq_of_beq_eq_true hlen
    rw [e9] at hd
    obtain rfl : np = pc + 1 := by omega
    have q9 := iv_iD h
    clear h
    obtain ⟨-, h⟩ := q9
    obtain rfl := of_decide_eq_true hsp
    exact lv_dconst0 hx hb hd (hnx _ _ _ _ _ h hbc hbs ls H locs hl hS)
  | fconst i =>
    dsimp only [xstep] at h
    have e9 : np - pc = 1 := Nat.eq_of_beq_eq_true hlen
    rw [e9] at hd
    obtain rfl : np = pc + 1 := by omega
    have q9 := iv_iF h
    clear h
    rcases q9 with ⟨rfl, h⟩ | ⟨rfl, h⟩
    · have hi : i = 0 := by simpa [xspec] using hsp
      subst hi
      exact lv_fconst0 hx hb hd (hnx _ _ _ _ _ h hbc hbs ls H locs hl hS)
    · have hi : i = 1 := by simpa [xspec] using hsp
      subst hi
      exact lv_fconst1 hx hb hd (hnx _ _ _ _ _ h hbc hbs ls H locs hl hS)
  | ldc i =>
    dsimp only [xstep] at h
    have e9 : np - pc = 2 := Nat.eq_of_beq_eq_true hlen
    rw [e9] at hd
    obtain rfl : np = pc + 2 := by omega
    have q9 := iv_iK h
    clear h
    rcases q9 with ⟨k, rfl, h⟩ | ⟨k, rfl, h⟩ | ⟨j, rfl, hj9, h⟩
    · have w1 : decide (Cond.constant own i (nI k) ∈ xWs) = true := hsp
      exact lv_ldc hx hb hown (hts _ (of_decide_eq_true w1)) hd (hnx _ _ _ _ _ h hbc hbs ls H locs hl hS)
    · have w1 : decide (Cond.constant own i (- nI k) ∈ xWs) = true := hsp
      exact lv_ldc hx hb hown (hts _ (of_decide_eq_true w1)) hd (hnx _ _ _ _ _ h hbc hbs ls H locs hl hS)
    · obtain ⟨q, hq, hq1⟩ := List.any_eq_true.mp hsp
      simp only [Bool.and_eq_true, decide_eq_true_eq] at hq1
      obtain ⟨g1, g2, g3⟩ := hq1
      have g2 := Nat.eq_of_beq_eq_true g2
      have g3 := Nat.eq_of_beq_eq_true g3
      have hR := hKK.2.2.2.2.2.2.2.2.2.2.2.2.1 q hq
      rw [g1, g2, g3] at hR
      exact va_ldcS hx hb hown hR hd (hnx _ _ _ _ _ h hbc hbs ls H locs hl hS)
  | ldc_w i =>
    dsimp only [xstep] at h
    have e9 : np - pc = 3 := Nat.eq_of_beq_eq_true hlen
    rw [e9] at hd
    obtain rfl : np = pc + 3 := by omega
    have q9 := iv_iK h
    clear h
    rcases q9 with ⟨k, rfl, h⟩ | ⟨k, rfl, h⟩ | ⟨j, rfl, hj9, h⟩
    · have w1 : decide (Cond.constant own i (nI k) ∈ xWs) = true := hsp
      exact lv_ldcw hx hb hown (hts _ (of_decide_eq_true w1)) hd (hnx _ _ _ _ _ h hbc hbs ls H locs hl hS)
    · have w1 : decide (Cond.constant own i (- nI k) ∈ xWs) = true := hsp
      exact lv_ldcw hx hb hown (hts _ (of_decide_eq_true w1)) hd (hnx _ _ _ _ _ h hbc hbs ls H locs hl hS)
    · obtain ⟨q, hq, hq1⟩ := List.any_eq_true.mp hsp
      simp only [Bool.and_eq_true, decide_eq_true_eq] at hq1
      obtain ⟨g1, g2, g3⟩ := hq1
      have g2 := Nat.eq_of_beq_eq_true g2
      have g3 := Nat.eq_of_beq_eq_true g3
      have hR := hKK.2.2.2.2.2.2.2.2.2.2.2.2.1 q hq
      rw [g1, g2, g3] at hR
      exact x_ldcwS hx hb hown hR hd (hnx _ _ _ _ _ h hbc hbs ls H locs hl hS)
  | ldc2_w i =>
    dsimp only [xstep] at h
    have e9 : np - pc = 3 := Nat.eq_of_beq_eq_true hlen
    rw [e9] at hd
    obtain rfl : np = pc + 3 := by omega
    have q9 := iv_iK2 h
    clear h
    rcases q9 with ⟨k, rfl, h⟩ | ⟨k, rfl, h⟩
    · have w1 : decide (Cond.constantLong own i (lN k) ∈ xWs) = true := hsp
      exact lv_ldc2 hx hb hown (hts _ (of_decide_eq_true w1)) hd (hnx _ _ _ _ _ h hbc hbs ls H locs hl hS)
    · have w1 : decide (Cond.constantLong own i (- lN k) ∈ xWs) = true := hsp
      exact lv_ldc2 hx hb hown (hts _ (of_decide_eq_true w1)) hd (hnx _ _ _ _ _ h hbc hbs ls H locs hl hS)
  | iload i =>
    dsimp only [xstep] at h
    have e9 : np - pc = 2 := Nat.eq_of_beq_eq_true hlen
    rw [e9] at hd
    obtain rfl : np = pc + 2 := by omega
    have q9 := iv_kkI h
    clear h
    obtain ⟨x, hg, h⟩ := q9
    exact lv_iload hx hb hd (xget_has hl hg) (hnx _ _ _ _ _ h hbc hbs ls H locs hl hS)
  | iload_n i =>
    dsimp only [xstep] at h
    have e9 : np - pc = 1 := Nat.eq_of_beq_eq_true hlen
    rw [e9] at hd
    obtain rfl : np = pc + 1 := by omega
    have q9 := iv_kkI h
    clear h
    obtain ⟨x, hg, h⟩ := q9
    exact lv_iload_n hx hb hd rfl (xget_has hl hg) (hnx _ _ _ _ _ h hbc hbs ls H locs hl hS)
  | lload i =>
    dsimp only [xstep] at h
    have e9 : np - pc = 2 := Nat.eq_of_beq_eq_true hlen
    rw [e9] at hd
    obtain rfl : np = pc + 2 := by omega
    have q9 := iv_kkL h
    clear h
    obtain ⟨x, hg, h⟩ := q9
    exact lv_lload hx hb hd (xget_has hl hg) (hnx _ _ _ _ _ h hbc hbs ls H locs hl hS)
  | lload_n i =>
    dsimp only [xstep] at h
    have e9 : np - pc = 1 := Nat.eq_of_beq_eq_true hlen
    rw [e9] at hd
    obtain rfl : np = pc + 1 := by omega
    have q9 := iv_kkL h
    clear h
    obtain ⟨x, hg, h⟩ := q9
    exact lv_lload_n hx hb hd rfl (xget_has hl hg) (hnx _ _ _ _ _ h hbc hbs ls H locs hl hS)
  | dload i =>
    dsimp only [xstep] at h
    have e9 : np - pc = 2 := Nat.eq_of_beq_eq_true hlen
    rw [e9] at hd
    obtain rfl : np = pc + 2 := by omega
    have q9 := iv_kkD h
    clear h
    obtain ⟨x, hg, h⟩ := q9
    exact lv_dload hx hb hd (xget_has hl hg) (hnx _ _ _ _ _ h hbc hbs ls H locs hl hS)
  | aload i =>
    dsimp only [xstep] at h
    have e9 : np - pc = 2 := Nat.eq_of_beq_eq_true hlen
    rw [e9] at hd
    obtain rfl : np = pc + 2 := by omega
    have q9 := iv_kkA h
    clear h
    obtain ⟨x, hg, h⟩ := q9
    exact lv_aload hx hb hd (xget_has hl hg) (hnx _ _ _ _ _ h hbc hbs ls H locs hl hS)
  | aload_n i =>
    dsimp only [xstep] at h
    have e9 : np - pc = 1 := Nat.eq_of_beq_eq_true hlen
    rw [e9] at hd
    obtain rfl : np = pc + 1 := by omega
    have q9 := iv_kkA h
    clear h
    obtain ⟨x, hg, h⟩ := q9
    exact lv_aload_n hx hb hd rfl (xget_has hl hg) (hnx _ _ _ _ _ h hbc hbs ls H locs hl hS)
  | istore i =>
    dsimp only [xstep] at h
    have e9 : np - pc = 2 := Nat.eq_of_beq_eq_true hlen
    rw [e9] at hd
    obtain rfl : np = pc + 2 := by omega
    have q9 := iv_t1I h
    clear h
    obtain ⟨x, r, rfl, h⟩ := q9
    exact lv_istore hx hb hd hl (Nat.le_of_ble_eq_true hsp) rfl (fun ls' hl' => hnx _ _ _ _ _ h hbc hbs ls' H locs hl' hS)
  | istore_n i =>
    dsimp only [xstep] at h
    have e9 : np - pc = 1 := Nat.eq_of_beq_eq_true hlen
    rw [e9] at hd
    obtain rfl : np = pc + 1 := by omega
    have q9 := iv_t1I h
    clear h
    obtain ⟨x, r, rfl, h⟩ := q9
    exact lv_istore_n hx hb hd rfl hl (Nat.le_of_ble_eq_true hsp) rfl (fun ls' hl' => hnx _ _ _ _ _ h hbc hbs ls' H locs hl' hS)
  | lstore i =>
    dsimp only [xstep] at h
    have e9 : np - pc = 2 := Nat.eq_of_beq_eq_true hlen
    rw [e9] at hd
    obtain rfl : np = pc + 2 := by omega
    have q9 := iv_t1L h
    clear h
    obtain ⟨x, r, rfl, h⟩ := q9
    exact lv_lstore hx hb hd hl (Nat.le_of_ble_eq_true hsp) rfl (fun ls' hl' => hnx _ _ _ _ _ h hbc hbs ls' H locs hl' hS)
  | lstore_n i =>
    dsimp only [xstep] at h
    have e9 : np - pc = 1 := Nat.eq_of_beq_eq_true hlen
    rw [e9] at hd
    obtain rfl : np = pc + 1 := by omega
    have q9 := iv_t1L h
    clear h
    obtain ⟨x, r, rfl, h⟩ := q9
    exact lv_lstore_n hx hb hd rfl hl (Nat.le_of_ble_eq_true hsp) rfl (fun ls' hl' => hnx _ _ _ _ _ h hbc hbs ls' H locs hl' hS)
  | dstore i =>
    dsimp only [xstep] at h
    have e9 : np - pc = 2 := Nat.eq_of_beq_eq_true hlen
    rw [e9] at hd
    obtain rfl : np = pc + 2 := by omega
    have q9 := iv_t1D h
    clear h
    obtain ⟨x, r, rfl, h⟩ := q9
    exact lv_dstore hx hb hd hl (Nat.le_of_ble_eq_true hsp) rfl (fun ls' hl' => hnx _ _ _ _ _ h hbc hbs ls' H locs hl' hS)
  | astore i =>
    dsimp only [xstep] at h
    have e9 : np - pc = 2 := Nat.eq_of_beq_eq_true hlen
    rw [e9] at hd
    obtain rfl : np = pc + 2 := by omega
    have q9 := iv_t1A h
    clear h
    obtain ⟨x, r, rfl, h⟩ := q9
    exact lv_astore hx hb hd hl (Nat.le_of_ble_eq_true hsp) rfl (fun ls' hl' => hnx _ _ _ _ _ h hbc hbs ls' H locs hl' hS)
  | astore_n i =>
    dsimp only [xstep] at h
    have e9 : np - pc = 1 := Nat.eq_of_beq_eq_true hlen
    rw [e9] at hd
    obtain rfl : np = pc + 1 := by omega
    have q9 := iv_t1A h
    clear h
    obtain ⟨x, r, rfl, h⟩ := q9
    exact lv_astore_n hx hb hd rfl hl (Nat.le_of_ble_eq_true hsp) rfl (fun ls' hl' => hnx _ _ _ _ _ h hbc hbs ls' H locs hl' hS)
  | iinc i k =>
    dsimp only [xstep] at h
    have e9 : np - pc = 3 := Nat.eq_of_beq_eq_true hlen
    rw [e9] at hd
    obtain rfl : np = pc + 3 := by omega
    have q9 := iv_kkI h
    clear h
    obtain ⟨x, hg, h⟩ := q9
    exact x_iinc hx hb hd hl hg (Nat.le_of_ble_eq_true hsp) (fun ls' hl' => hnx _ _ _ _ _ h hbc hbs ls' H locs hl' hS)
  | iadd =>
    dsimp only [xstep] at h
    have e9 : np - pc = 1 := Nat.eq_of_beq_eq_true hlen
    rw [e9] at hd
    obtain rfl : np = pc + 1 := by omega
    have q9 := iv_t2I h
    clear h
    obtain ⟨x, y, r, rfl, h⟩ := q9
    exact lv_iadd hx hb hd (hnx _ _ _ _ _ h hbc hbs ls H locs hl hS)
  | isub =>
    dsimp only [xstep] at h
    have e9 : np - pc = 1 := Nat.eq_of_beq_eq_true hlen
    rw [e9] at hd
    obtain rfl : np = pc + 1 := by omega
    have q9 := iv_t2I h
    clear h
    obtain ⟨x, y, r, rfl, h⟩ := q9
    exact lv_isub hx hb hd (hnx _ _ _ _ _ h hbc hbs ls H locs hl hS)
  | imul =>
    dsimp only [xstep] at h
    have e9 : np - pc = 1 := Nat.eq_of_beq_eq_true hlen
    rw [e9] at hd
    obtain rfl : np = pc + 1 := by omega
    have q9 := iv_t2I h
    clear h
    obtain ⟨x, y, r, rfl, h⟩ := q9
    exact lv_imul hx hb hd (hnx _ _ _ _ _ h hbc hbs ls H locs hl hS)
  | iand =>
    dsimp only [xstep] at h
    have e9 : np - pc = 1 := Nat.eq_of_beq_eq_true hlen
    rw [e9] at hd
    obtain rfl : np = pc + 1 := by omega
    have q9 := iv_t2I h
    clear h
    obtain ⟨x, y, r, rfl, h⟩ := q9
    exact lv_iand hx hb hd (hnx _ _ _ _ _ h hbc hbs ls H locs hl hS)
  | ior =>
    dsimp only [xstep] at h
    have e9 : np - pc = 1 := Nat.eq_of_beq_eq_true hlen
    rw [e9] at hd
    obtain rfl : np = pc + 1 := by omega
    have q9 := iv_t2I h
    clear h
    obtain ⟨x, y, r, rfl, h⟩ := q9
    exact lv_ior hx hb hd (hnx _ _ _ _ _ h hbc hbs ls H locs hl hS)
  | ixor =>
    dsimp only [xstep] at h
    have e9 : np - pc = 1 := Nat.eq_of_beq_eq_true hlen
    rw [e9] at hd
    obtain rfl : np = pc + 1 := by omega
    have q9 := iv_t2I h
    clear h
    obtain ⟨x, y, r, rfl, h⟩ := q9
    exact lv_ixor hx hb hd (hnx _ _ _ _ _ h hbc hbs ls H locs hl hS)
  | aconst_null =>
    dsimp only [xstep] at h
    have e9 : np - pc = 1 := Nat.eq_of_beq_eq_true hlen
    rw [e9] at hd
    obtain rfl : np = pc + 1 := by omega
    exact lv_null hx hb hd (hnx _ _ _ _ _ h hbc hbs ls H locs hl hS)
  | ineg =>
    dsimp only [xstep] at h
    have e9 : np - pc = 1 := Nat.eq_of_beq_eq_true hlen
    rw [e9] at hd
    obtain rfl : np = pc + 1 := by omega
    have q9 := iv_t1I h
    clear h
    obtain ⟨x, r, rfl, h⟩ := q9
    exact lv_ineg hx hb hd (hnx _ _ _ _ _ h hbc hbs ls H locs hl hS)
  | dup_x1 =>
    dsimp only [xstep] at h
    have e9 : np - pc = 1 := Nat.eq_of_beq_eq_true hlen
    rw [e9] at hd
    obtain rfl : np = pc + 1 := by omega
    have q9 := iv_tV h
    clear h
    obtain ⟨v, r, rfl, hc, h⟩ := q9
    have q9 := iv_tV h
    clear h
    obtain ⟨u, r, rfl, hc2, h⟩ := q9
    exact lv_dup_x1 hx hb hd hc hc2 (hnx _ _ _ _ _ h hbc hbs ls H locs hl hS)
  | checkcast i =>
    dsimp only [xstep] at h
    have e9 : np - pc = 3 := Nat.eq_of_beq_eq_true hlen
    rw [e9] at hd
    obtain rfl : np = pc + 3 := by omega
    have q9 := iv_t1A h
    clear h
    obtain ⟨a, r, rfl, h⟩ := q9
    have q9 := iv_i1 h
    clear h
    obtain ⟨ci, rfl, h⟩ := q9
    have q9 := iv_xck h
    clear h
    obtain ⟨⟨fs, he⟩, h⟩ := q9
    have hq := hPO _ (of_decide_eq_true hsp)
    simp only [xokQ] at hq
    split at hq
    · next r9 hr9 =>
      exact va_castS hx hb hown (hts _ (of_decide_eq_true hq)) (hK.1 ci _ hr9).2 (va_recv hK (hS.2.1.one he) (ci := ci) (q0 := 0) hr9 rfl) hd (hnx _ _ _ _ _ h hbc hbs ls H locs hl hS)
    · cases hq
  | ishl =>
    dsimp only [xstep] at h
    have e9 : np - pc = 1 := Nat.eq_of_beq_eq_true hlen
    rw [e9] at hd
    obtain rfl : np = pc + 1 := by omega
    have q9 := iv_t2I h
    clear h
    obtain ⟨x, y, r, rfl, h⟩ := q9
    exact lv_ishl hx hb hd (hnx _ _ _ _ _ h hbc hbs ls H locs hl hS)
  | ishr =>
    dsimp only [xstep] at h
    have e9 : np - pc = 1 := Nat.eq_of_beq_eq_true hlen
    rw [e9] at hd
    obtain rfl : np = pc + 1 := by omega
    have q9 := iv_t2I h
    clear h
    obtain ⟨x, y, r, rfl, h⟩ := q9
    exact lv_ishr hx hb hd (hnx _ _ _ _ _ h hbc hbs ls H locs hl hS)
  | idiv =>
    dsimp only [xstep] at h
    have e9 : np - pc = 1 := Nat.eq_of_beq_eq_true hlen
    rw [e9] at hd
    obtain rfl : np = pc + 1 := by omega
    have q9 := iv_t2I h
    clear h
    obtain ⟨x, y, r, rfl, h⟩ := q9
    have q9 := iv_nz h
    clear h
    obtain ⟨hz, h⟩ := q9
    exact lv_idiv hx hb hd (of_decide_eq_true hz) (hnx _ _ _ _ _ h hbc hbs ls H locs hl hS)
  | irem =>
    dsimp only [xstep] at h
    have e9 : np - pc = 1 := Nat.eq_of_beq_eq_true hlen
    rw [e9] at hd
    obtain rfl : np = pc + 1 := by omega
    have q9 := iv_t2I h
    clear h
    obtain ⟨x, y, r, rfl, h⟩ := q9
    have q9 := iv_nz h
    clear h
    obtain ⟨hz, h⟩ := q9
    exact lv_irem hx hb hd (of_decide_eq_true hz) (hnx _ _ _ _ _ h hbc hbs ls H locs hl hS)
  | ldiv =>
    dsimp only [xstep] at h
    have e9 : np - pc = 1 := Nat.eq_of_beq_eq_true hlen
    rw [e9] at hd
    obtain rfl : np = pc + 1 := by omega
    have q9 := iv_t2L h
    clear h
    obtain ⟨x, y, r, rfl, h⟩ := q9
    have q9 := iv_nz h
    clear h
    obtain ⟨hz, h⟩ := q9
    exact lv_ldiv hx hb hd (of_decide_eq_true hz) (hnx _ _ _ _ _ h hbc hbs ls H locs hl hS)
  | lrem =>
    dsimp only [xstep] at h
    have e9 : np - pc = 1 := Nat.eq_of_beq_eq_true hlen
    rw [e9] at hd
    obtain rfl : np = pc + 1 := by omega
    have q9 := iv_t2L h
    clear h
    obtain ⟨x, y, r, rfl, h⟩ := q9
    have q9 := iv_nz h
    clear h
    obtain ⟨hz, h⟩ := q9
    exact lv_lrem hx hb hd (of_decide_eq_true hz) (hnx _ _ _ _ _ h hbc hbs ls H locs hl hS)
  | ladd =>
    dsimp only [xstep] at h
    have e9 : np - pc = 1 := Nat.eq_of_beq_eq_true hlen
    rw [e9] at hd
    obtain rfl : np = pc + 1 := by omega
    have q9 := iv_t2L h
    clear h
    obtain ⟨x, y, r, rfl, h⟩ := q9
    exact lv_ladd hx hb hd (hnx _ _ _ _ _ h hbc hbs ls H locs hl hS)
  | lsub =>
    dsimp only [xstep] at h
    have e9 : np - pc = 1 := Nat.eq_of_beq_eq_true hlen
    rw [e9] at hd
    obtain rfl : np = pc + 1 := by omega
    have q9 := iv_t2L h
    clear h
    obtain ⟨x, y, r, rfl, h⟩ := q9
    exact lv_lsub hx hb hd (hnx _ _ _ _ _ h hbc hbs ls H locs hl hS)
  | lmul =>
    dsimp only [xstep] at h
    have e9 : np - pc = 1 := Nat.eq_of_beq_eq_true hlen
    rw [e9] at hd
    obtain rfl : np = pc + 1 := by omega
    have q9 := iv_t2L h
    clear h
    obtain ⟨x, y, r, rfl, h⟩ := q9
    exact lv_lmul hx hb hd (hnx _ _ _ _ _ h hbc hbs ls H locs hl hS)
  | lcmp =>
    dsimp only [xstep] at h
    have e9 : np - pc = 1 := Nat.eq_of_beq_eq_true hlen
    rw [e9] at hd
    obtain rfl : np = pc + 1 := by omega
    have q9 := iv_t2L h
    clear h
    obtain ⟨x, y, r, rfl, h⟩ := q9
    exact W.lcmp hx hb hd (hnx _ _ _ _ _ h hbc hbs ls H locs hl hS)
  | i2l =>
    dsimp only [xstep] at h
    have e9 : np - pc = 1 := Nat.eq_of_beq_eq_true hlen
    rw [e9] at hd
    obtain rfl : np = pc + 1 := by omega
    have q9 := iv_t1I h
    clear h
    obtain ⟨x, r, rfl, h⟩ := q9
    exact lv_i2l hx hb hd rfl (hnx _ _ _ _ _ h hbc hbs ls H locs hl hS)
  | l2i =>
    dsimp only [xstep] at h
    have e9 : np - pc = 1 := Nat.eq_of_beq_eq_true hlen
    rw [e9] at hd
    obtain rfl : np = pc + 1 := by omega
    have q9 := iv_t1L h
    clear h
    obtain ⟨x, r, rfl, h⟩ := q9
    exact lv_l2i hx hb hd rfl (hnx _ _ _ _ _ h hbc hbs ls H locs hl hS)
  | i2b =>
    dsimp only [xstep] at h
    have e9 : np - pc = 1 := Nat.eq_of_beq_eq_true hlen
    rw [e9] at hd
    obtain rfl : np = pc + 1 := by omega
    have q9 := iv_t1I h
    clear h
    obtain ⟨x, r, rfl, h⟩ := q9
    exact lv_i2b hx hb hd rfl (hnx _ _ _ _ _ h hbc hbs ls H locs hl hS)
  | i2c =>
    dsimp only [xstep] at h
    have e9 : np - pc = 1 := Nat.eq_of_beq_eq_true hlen
    rw [e9] at hd
    obtain rfl : np = pc + 1 := by omega
    have q9 := iv_t1I h
    clear h
    obtain ⟨x, r, rfl, h⟩ := q9
    exact lv_i2c hx hb hd rfl (hnx _ _ _ _ _ h hbc hbs ls H locs hl hS)
  | i2d =>
    dsimp only [xstep] at h
    have e9 : np - pc = 1 := Nat.eq_of_beq_eq_true hlen
    rw [e9] at hd
    obtain rfl : np = pc + 1 := by omega
    have q9 := iv_t1I h
    clear h
    obtain ⟨x, r, rfl, h⟩ := q9
    exact lv_i2d hx hb hd (hnx _ _ _ _ _ h hbc hbs ls H locs hl hS)
  | l2d =>
    dsimp only [xstep] at h
    have e9 : np - pc = 1 := Nat.eq_of_beq_eq_true hlen
    rw [e9] at hd
    obtain rfl : np = pc + 1 := by omega
    have q9 := iv_t1L h
    clear h
    obtain ⟨x, r, rfl, h⟩ := q9
    exact lv_l2d hx hb hd (hnx _ _ _ _ _ h hbc hbs ls H locs hl hS)
  | i2f =>
    dsimp only [xstep] at h
    have e9 : np - pc = 1 := Nat.eq_of_beq_eq_true hlen
    rw [e9] at hd
    obtain rfl : np = pc + 1 := by omega
    have q9 := iv_t1I h
    clear h
    obtain ⟨x, r, rfl, h⟩ := q9
    exact lv_i2f hx hb hd (hnx _ _ _ _ _ h hbc hbs ls H locs hl hS)
  | l2f =>
    dsimp only [xstep] at h
    have e9 : np - pc = 1 := Nat.eq_of_beq_eq_true hlen
    rw [e9] at hd
    obtain rfl : np = pc + 1 := by omega
    have q9 := iv_t1L h
    clear h
    obtain ⟨x, r, rfl, h⟩ := q9
    exact lv_l2f hx hb hd (hnx _ _ _ _ _ h hbc hbs ls H locs hl hS)
  | f2d =>
    dsimp only [xstep] at h
    have e9 : np - pc = 1 := Nat.eq_of_beq_eq_true hlen
    rw [e9] at hd
    obtain rfl : np = pc + 1 := by omega
    have q9 := iv_t1F h
    clear h
    obtain ⟨x, r, rfl, h⟩ := q9
    have q9 := iv_nz h
    clear h
    obtain ⟨hz, h⟩ := q9
    have hz9 : FP.f2d x &&& 0x7fffffffffffffff ≤ 0x7ff0000000000000 := of_decide_eq_true hz
    exact lv_f2d hx hb hd hz9 (hnx _ _ _ _ _ h hbc hbs ls H locs hl hS)
  | fdiv =>
    dsimp only [xstep] at h
    have e9 : np - pc = 1 := Nat.eq_of_beq_eq_true hlen
    rw [e9] at hd
    obtain rfl : np = pc + 1 := by omega
    have q9 := iv_t2F h
    clear h
    obtain ⟨x, y, r, rfl, h⟩ := q9
    have q9 := iv_nz h
    clear h
    obtain ⟨hz, h⟩ := q9
    have hz9 : FP.fdiv x y &&& 0x7fffffff ≤ 0x7f800000 := of_decide_eq_true hz
    exact lv_fdiv hx hb hd hz9 (hnx _ _ _ _ _ h hbc hbs ls H locs hl hS)
  | fsub =>
    dsimp only [xstep] at h
    have e9 : np - pc = 1 := Nat.eq_of_beq_eq_true hlen
    rw [e9] at hd
    obtain rfl : np = pc + 1 := by omega
    have q9 := iv_t2F h
    clear h
    obtain ⟨x, y, r, rfl, h⟩ := q9
    have q9 := iv_nz h
    clear h
    obtain ⟨hz, h⟩ := q9
    have hz9 : FP.fsub x y &&& 0x7fffffff ≤ 0x7f800000 := of_decide_eq_true hz
    exact lv_fsub hx hb hd hz9 (hnx _ _ _ _ _ h hbc hbs ls H locs hl hS)
  | ddiv =>
    dsimp only [xstep] at h
    have e9 : np - pc = 1 := Nat.eq_of_beq_eq_true hlen
    rw [e9] at hd
    obtain rfl : np = pc + 1 := by omega
    have q9 := iv_t2D h
    clear h
    obtain ⟨x, y, r, rfl, h⟩ := q9
    have q9 := iv_nz h
    clear h
    obtain ⟨hz, h⟩ := q9
    have hz9 : FP.ddiv x y &&& 0x7fffffffffffffff ≤ 0x7ff0000000000000 := of_decide_eq_true hz
    exact lv_ddiv hx hb hd hz9 (hnx _ _ _ _ _ h hbc hbs ls H locs hl hS)
  | dcmp o =>
    dsimp only [xstep] at h
    have e9 : np - pc = 1 := Nat.eq_of_beq_eq_true hlen
    rw [e9] at hd
    obtain rfl : np = pc + 1 := by omega
    have q9 := iv_t2D h
    clear h
    obtain ⟨x, y, r, rfl, h⟩ := q9
    exact lv_dcmp hx hb hd (hnx _ _ _ _ _ h hbc hbs ls H locs hl hS)
  | dup =>
    dsimp only [xstep] at h
    have e9 : np - pc = 1 := Nat.eq_of_beq_eq_true hlen
    rw [e9] at hd
    obtain rfl : np = pc + 1 := by omega
    have q9 := iv_tV h
    clear h
    obtain ⟨v, r, rfl, hc, h⟩ := q9
    exact lv_dup hx hb hd hc (hnx _ _ _ _ _ h hbc hbs ls H locs hl hS)
  | dup2 =>
    dsimp only [xstep] at h
    have e9 : np - pc = 1 := Nat.eq_of_beq_eq_true hlen
    rw [e9] at hd
    obtain rfl : np = pc + 1 := by omega
    have q9 := iv_tV h
    clear h
    obtain ⟨v, r, rfl, hc, h⟩ := q9
    have q9 := iv_tV h
    clear h
    obtain ⟨u, r, rfl, hc2, h⟩ := q9
    exact lv_dup2_11 hx hb hd hc hc2 (hnx _ _ _ _ _ h hbc hbs ls H locs hl hS)
  | pop =>
    dsimp only [xstep] at h
    have e9 : np - pc = 1 := Nat.eq_of_beq_eq_true hlen
    rw [e9] at hd
    obtain rfl : np = pc + 1 := by omega
    have q9 := iv_tV h
    clear h
    obtain ⟨v, r, rfl, hc, h⟩ := q9
    exact lv_pop hx hb hd hc (hnx _ _ _ _ _ h hbc hbs ls H locs hl hS)
  | ifCond k o =>
    dsimp only [xstep] at h
    have e9 : np - pc = 3 := Nat.eq_of_beq_eq_true hlen
    rw [e9] at hd
    obtain rfl : np = pc + 3 := by omega
    have q9 := iv_t1I h
    clear h
    obtain ⟨x, r, rfl, h⟩ := q9
    have q9 := iv_i1 h
    clear h
    obtain ⟨t, rfl, h⟩ := q9
    have ht9 : (pc : Int) + o = (t : Int) := of_decide_eq_true hsp
    cases k
    · exact lv_if_eq hx hb hd ht9 (fun hc => by
        have h : (if x = 0 then some (.inr (t, L, r, σ, bc, bs)) else nx L r σ bc bs) = some z := h
        rw [if_pos hc] at h
        exact hj _ _ _ _ _ _ (Option.some.inj h).symm hbc hbs ls H locs hl hS) (fun hc => by
        have h : (if x = 0 then some (.inr (t, L, r, σ, bc, bs)) else nx L r σ bc bs) = some z := h
        rw [if_neg hc] at h
        exact hnx _ _ _ _ _ h hbc hbs ls H locs hl hS)
    · exact lv_if_ne hx hb hd ht9 (fun hc => by
        have h : (if x = 0 then nx L r σ bc bs else some (.inr (t, L, r, σ, bc, bs))) = some z := h
        rw [if_neg hc] at h
        exact hj _ _ _ _ _ _ (Option.some.inj h).symm hbc hbs ls H locs hl hS) (fun hc => by
        have h : (if x = 0 then nx L r σ bc bs else some (.inr (t, L, r, σ, bc, bs))) = some z := h
        rw [if_pos hc] at h
        exact hnx _ _ _ _ _ h hbc hbs ls H locs hl hS)
    · exact lv_if_lt hx hb hd ht9 (fun hc => by
        have h : (if x < 0 then some (.inr (t, L, r, σ, bc, bs)) else nx L r σ bc bs) = some z := h
        rw [if_pos hc] at h
        exact hj _ _ _ _ _ _ (Option.some.inj h).symm hbc hbs ls H locs hl hS) (fun hc => by
        have h : (if x < 0 then some (.inr (t, L, r, σ, bc, bs)) else nx L r σ bc bs) = some z := h
        rw [if_neg hc] at h
        exact hnx _ _ _ _ _ h hbc hbs ls H locs hl hS)
    · exact lv_if_ge hx hb hd ht9 (fun hc => by
        have h : (if 0 ≤ x then some (.inr (t, L, r, σ, bc, bs)) else nx L r σ bc bs) = some z := h
        rw [if_pos hc] at h
        exact hj _ _ _ _ _ _ (Option.some.inj h).symm hbc hbs ls H locs hl hS) (fun hc => by
        have h : (if 0 ≤ x then some (.inr (t, L, r, σ, bc, bs)) else nx L r σ bc bs) = some z := h
        rw [if_neg hc] at h
        exact hnx _ _ _ _ _ h hbc hbs ls H locs hl hS)
    · exact lv_if_gt hx hb hd ht9 (fun hc => by
        have h : (if 0 < x then some (.inr (t, L, r, σ, bc, bs)) else nx L r σ bc bs) = some z := h
        rw [if_pos hc] at h
        exact hj _ _ _ _ _ _ (Option.some.inj h).symm hbc hbs ls H locs hl hS) (fun hc => by
        have h : (if 0 < x then some (.inr (t, L, r, σ, bc, bs)) else nx L r σ bc bs) = some z := h
        rw [if_neg hc] at h
        exact hnx _ _ _ _ _ h hbc hbs ls H locs hl hS)
    · exact lv_if_le hx hb hd ht9 (fun hc => by
        have h : (if x ≤ 0 then some (.inr (t, L, r, σ, bc, bs)) else nx L r σ bc bs) = some z := h
        rw [if_pos hc] at h
        exact hj _ _ _ _ _ _ (Option.some.inj h).symm hbc hbs ls H locs hl hS) (fun hc => by
        have h : (if x ≤ 0 then some (.inr (t, L, r, σ, bc, bs)) else nx L r σ bc bs) = some z := h
        rw [if_neg hc] at h
        exact hnx _ _ _ _ _ h hbc hbs ls H locs hl hS)
  | if_icmp k o =>
    dsimp only [xstep] at h
    have e9 : np - pc = 3 := Nat.eq_of_beq_eq_true hlen
    rw [e9] at hd
    obtain rfl : np = pc + 3 := by omega
    have q9 := iv_t2I h
    clear h
    obtain ⟨x, y, r, rfl, h⟩ := q9
    have q9 := iv_i1 h
    clear h
    obtain ⟨t, rfl, h⟩ := q9
    have ht9 : (pc : Int) + o = (t : Int) := of_decide_eq_true hsp
    cases k
    · exact lv_icmp_eq hx hb hd ht9 (fun hc => by
        have h : (if x = y then some (.inr (t, L, r, σ, bc, bs)) else nx L r σ bc bs) = some z := h
        rw [if_pos hc] at h
        exact hj _ _ _ _ _ _ (Option.some.inj h).symm hbc hbs ls H locs hl hS) (fun hc => by
        have h : (if x = y then some (.inr (t, L, r, σ, bc, bs)) else nx L r σ bc bs) = some z := h
        rw [if_neg hc] at h
        exact hnx _ _ _ _ _ h hbc hbs ls H locs hl hS)
    · exact lv_icmp_ne hx hb hd ht9 (fun hc => by
        have h : (if x = y then nx L r σ bc bs else some (.inr (t, L, r, σ, bc, bs))) = some z := h
        rw [if_neg hc] at h
        exact hj _ _ _ _ _ _ (Option.some.inj h).symm hbc hbs ls H locs hl hS) (fun hc => by
        have h : (if x = y then nx L r σ bc bs else some (.inr (t, L, r, σ, bc, bs))) = some z := h
        rw [if_pos hc] at h
        exact hnx _ _ _ _ _ h hbc hbs ls H locs hl hS)
    · exact lv_icmp_lt hx hb hd ht9 (fun hc => by
        have h : (if x < y then some (.inr (t, L, r, σ, bc, bs)) else nx L r σ bc bs) = some z := h
        rw [if_pos hc] at h
        exact hj _ _ _ _ _ _ (Option.some.inj h).symm hbc hbs ls H locs hl hS) (fun hc => by
        have h : (if x < y then some (.inr (t, L, r, σ, bc, bs)) else nx L r σ bc bs) = some z := h
        rw [if_neg hc] at h
        exact hnx _ _ _ _ _ h hbc hbs ls H locs hl hS)
    · exact lv_icmp_ge hx hb hd ht9 (fun hc => by
        have h : (if y ≤ x then some (.inr (t, L, r, σ, bc, bs)) else nx L r σ bc bs) = some z := h
        rw [if_pos hc] at h
        exact hj _ _ _ _ _ _ (Option.some.inj h).symm hbc hbs ls H locs hl hS) (fun hc => by
        have h : (if y ≤ x then some (.inr (t, L, r, σ, bc, bs)) else nx L r σ bc bs) = some z := h
        rw [if_neg hc] at h
        exact hnx _ _ _ _ _ h hbc hbs ls H locs hl hS)
    · exact lv_icmp_gt hx hb hd ht9 (fun hc => by
        have h : (if y < x then some (.inr (t, L, r, σ, bc, bs)) else nx L r σ bc bs) = some z := h
        rw [if_pos hc] at h
        exact hj _ _ _ _ _ _ (Option.some.inj h).symm hbc hbs ls H locs hl hS) (fun hc => by
        have h : (if y < x then some (.inr (t, L, r, σ, bc, bs)) else nx L r σ bc bs) = some z := h
        rw [if_neg hc] at h
        exact hnx _ _ _ _ _ h hbc hbs ls H locs hl hS)
    · exact lv_icmp_le hx hb hd ht9 (fun hc => by
        have h : (if x ≤ y then some (.inr (t, L, r, σ, bc, bs)) else nx L r σ bc bs) = some z := h
        rw [if_pos hc] at h
        exact hj _ _ _ _ _ _ (Option.some.inj h).symm hbc hbs ls H locs hl hS) (fun hc => by
        have h : (if x ≤ y then some (.inr (t, L, r, σ, bc, bs)) else nx L r σ bc bs) = some z := h
        rw [if_neg hc] at h
        exact hnx _ _ _ _ _ h hbc hbs ls H locs hl hS)
  | if_acmp k o =>
    dsimp only [xstep] at h
    have e9 : np - pc = 3 := Nat.eq_of_beq_eq_true hlen
    rw [e9] at hd
    obtain rfl : np = pc + 3 := by omega
    have q9 := iv_t2A h
    clear h
    obtain ⟨x, y, r, rfl, h⟩ := q9
    have q9 := iv_i1 h
    clear h
    obtain ⟨t, rfl, h⟩ := q9
    have ht9 : (pc : Int) + o = (t : Int) := of_decide_eq_true hsp
    cases k
    · refine lv_acmp_eq (rx := some x) (ry := some y) hx hb hd ht9 (fun hc => ?_) (fun hc => ?_)
      · have hxy : Nat.beq x y = true := by rw [Option.some.inj hc]; exact Nat.beq_refl y
        have h : (bif Nat.beq x y then some (.inr (t, L, r, σ, bc, bs)) else nx L r σ bc bs) = some z := h
        rw [hxy] at h
        exact hj _ _ _ _ _ _ (Option.some.inj h).symm hbc hbs ls H locs hl hS
      · have hxy : Nat.beq x y = false := by
          cases h9 : Nat.beq x y
          · rfl
          · exact absurd (congrArg some (Nat.eq_of_beq_eq_true h9)) hc
        have h : (bif Nat.beq x y then some (.inr (t, L, r, σ, bc, bs)) else nx L r σ bc bs) = some z := h
        rw [hxy] at h
        exact hnx _ _ _ _ _ h hbc hbs ls H locs hl hS
    · refine lv_acmp_ne (rx := some x) (ry := some y) hx hb hd ht9 (fun hc => ?_) (fun hc => ?_)
      · have hxy : Nat.beq x y = false := by
          cases h9 : Nat.beq x y
          · rfl
          · exact absurd (congrArg some (Nat.eq_of_beq_eq_true h9)) hc
        have h : (bif Nat.beq x y then nx L r σ bc bs else some (.inr (t, L, r, σ, bc, bs))) = some z := h
        rw [hxy] at h
        exact hj _ _ _ _ _ _ (Option.some.inj h).symm hbc hbs ls H locs hl hS
      · have hxy : Nat.beq x y = true := by rw [Option.some.inj hc]; exact Nat.beq_refl y
        have h : (bif Nat.beq x y then nx L r σ bc bs else some (.inr (t, L, r, σ, bc, bs))) = some z := h
        rw [hxy] at h
        exact hnx _ _ _ _ _ h hbc hbs ls H locs hl hS
  | goto o =>
    dsimp only [xstep] at h
    have e9 : np - pc = 3 := Nat.eq_of_beq_eq_true hlen
    rw [e9] at hd
    obtain rfl : np = pc + 3 := by omega
    have q9 := iv_i1 h
    clear h
    obtain ⟨t, rfl, h⟩ := q9
    have ht9 : (pc : Int) + o = (t : Int) := of_decide_eq_true hsp
    exact lv_goto hx hb hd ht9 (hj _ _ _ _ _ _ (Option.some.inj h).symm hbc hbs ls H locs hl hS)
  | tableswitch df lo hi offs =>
    dsimp only [xstep] at h
    have q9 := iv_t1I h
    clear h
    obtain ⟨x, r, rfl, h⟩ := q9
    have q9 := iv_iSw h
    clear h
    obtain ⟨d9, l0, ts, rfl, h⟩ := q9
    have hsp : (decide (lo = (l0 : Int)) && (decide (hi = (l0 : Int) + ts.length - 1) && (decide ((pc : Int) + df = (d9 : Int)) && (xtab pc offs 0 ts && Nat.ble (l0 + ts.length) 100000)))) = true := hsp
    simp only [Bool.and_eq_true, decide_eq_true_eq] at hsp
    obtain ⟨rfl, rfl, hdf, htab, hbd⟩ := hsp
    have hbd := Nat.le_of_ble_eq_true hbd
    have q9 := iv_xsw _ _ h
    clear h
    rcases q9 with ⟨j, t, hj9, hx9, h⟩ | ⟨hno, h⟩
    · have hjl : j < ts.length := (List.getElem?_eq_some_iff.mp hj9).1
      obtain ⟨off, ho, ht⟩ := xtab_at htab hj9
      have hxi : x.toInt = (l0 + j : Nat) := by rw [hx9]; exact nI_toInt (by omega)
      refine lv_tableIn (off := off) (tgt := t) hx hb hd (by omega) (by omega) ?_ ht (hj _ _ _ _ _ _ (Option.some.inj h).symm hbc hbs ls H locs hl hS)
      rw [hxi]
      rw [show ((l0 + j : Nat) : Int) - (l0 : Int) = (j : Int) by omega]
      simpa using ho
    · refine lv_tableOut (tgt := d9) hx hb hd ?_ hdf (hj _ _ _ _ _ _ (Option.some.inj h).symm hbc hbs ls H locs hl hS)
      by_cases h1 : x.toInt < l0
      · exact Or.inl h1
      · by_cases h2 : (l0 : Int) + ts.length - 1 < x.toInt
        · exact Or.inr h2
        · refine absurd ?_ (hno (x.toInt - l0).toNat (by omega))
          apply Int32.toInt_inj.mp
          rw [nI_toInt (by omega)]
          omega
  | getfield i =>
    dsimp only [xstep] at h
    have e9 : np - pc = 3 := Nat.eq_of_beq_eq_true hlen
    rw [e9] at hd
    obtain rfl : np = pc + 3 := by omega
    have q9 := iv_t1A h
    clear h
    obtain ⟨a, r, rfl, h⟩ := q9
    have hsp : (decide ((0, i, info) ∈ PO) || decide ((6, i, info) ∈ PO)) = true := hsp
    rw [Bool.or_eq_true, decide_eq_true_eq, decide_eq_true_eq] at hsp
    have q9 := iv_xgf h
    clear h
    rcases q9 with ⟨rfl, j, hj9, h⟩ | ⟨rfl, h⟩ | ⟨rfl, h⟩ | h
    · obtain ⟨g1, rfl⟩ := iv_xfind hj9
      rcases hsp with hp | hp
      · exact absurd (hPO _ hp) (by simp [xokQ])
      · exact x_tokText hx hb hown (va_Nw.use rfl (hKK.2.2.2.2.2.2.2.2.2.1 _ (of_decide_eq_true (hPO _ hp)) rfl)) (hKK.2.2.2.1 j g1).2 hS.2.2.2 hd (hnx _ _ _ _ _ h hbc hbs ls H locs hl hS)
    · rcases hsp with hp | hp
      · exact absurd (hPO _ hp) (by simp [xokQ])
      · rcases h with ⟨j, hj9, h⟩ | ⟨fs, q, he, hv, h⟩
        · obtain ⟨g1, rfl⟩ := iv_xfind hj9
          exact vk_getf hx hb (hKK.2.2.2.2.1.1 j g1).2.2.1 hS.2.2.2 hown (hts _ (of_decide_eq_true (hPO _ hp))) (fun _ h => h) hd (hnx _ _ _ _ _ h hbc hbs ls H locs hl hS)
        · exact x_get (ci := 11) (k := 0) (nest := 0) hx hb hts hKK.2.2.2.2.2.2.2.2.2.1 hown hK hS (hPO _ hp) he hv hd (hnx _ _ _ _ _ h hbc hbs ls H locs hl hS)
    · rcases hsp with hp | hp
      · exact absurd (hPO _ hp) (by simp [xokQ])
      · rcases h with ⟨j, hj9, h⟩ | ⟨fs, q, he, hv, h⟩
        · obtain ⟨g1, rfl⟩ := iv_xfind hj9
          exact vk_getf hx hb (hKK.2.2.2.2.1.1 j g1).2.1 hS.2.2.2 hown (hts _ (of_decide_eq_true (hPO _ hp))) (fun _ h => h) hd (hnx _ _ _ _ _ h hbc hbs ls H locs hl hS)
        · exact x_get (ci := 11) (k := 1) (nest := 0) hx hb hts hKK.2.2.2.2.2.2.2.2.2.1 hown hK hS (hPO _ hp) he hv hd (hnx _ _ _ _ _ h hbc hbs ls H locs hl hS)
    · have q9 := iv_xfld h
      clear h
      obtain ⟨ci, k, t, n, fs, v, rfl, he, hv, h⟩ := q9
      rcases hsp with hp | hp
      · exact x_get hx hb hts hKK.2.2.2.2.2.2.2.2.2.1 hown hK hS (hPO _ hp) he hv hd (hnx _ _ _ _ _ h hbc hbs ls H locs hl hS)
      · exact absurd (hPO _ hp) (by simp [xokQ])
  | putfield i =>
    dsimp only [xstep] at h
    have e9 : np - pc = 3 := Nat.eq_of_beq_eq_true hlen
    rw [e9] at hd
    obtain rfl : np = pc + 3 := by omega
    have q9 := iv_tVA h
    clear h
    obtain ⟨v, a, r, rfl, h⟩ := q9
    have q9 := iv_xput h
    clear h
    obtain ⟨ci, k, t, n, fs, rfl, he, hlt, hf, h⟩ := q9
    have hsp : (decide ((0, i, [ci, k, t, n]) ∈ PO) && (xokP own ci k t n && (!(Nat.beq n 2) || ini))) = true := hsp
    simp only [Bool.and_eq_true, decide_eq_true_eq] at hsp
    obtain ⟨hp, hP, hi9⟩ := hsp
    refine x_put hx hb hts hKK.2.2.2.2.2.2.2.2.2.1 hown hK hS (hPO _ hp) hP (fun hn => hini ?_) he hlt hf hd (fun H1 locs1 hS1 => hnx _ _ _ _ _ h hbc hbs ls H1 locs1 hl hS1)
    subst hn
    simpa using hi9
  | getstatic i =>
    dsimp only [xstep] at h
    have e9 : np - pc = 3 := Nat.eq_of_beq_eq_true hlen
    rw [e9] at hd
    obtain rfl : np = pc + 3 := by omega
    have hsp := hPO _ (of_decide_eq_true hsp)
    have q9 := iv_xgs h
    clear h
    rcases q9 with ⟨j, rfl, hj9, h⟩ | ⟨rfl, h⟩ | ⟨rfl, h⟩ | ⟨rfl, h⟩ | ⟨rfl, h⟩ | ⟨rfl, h⟩ | ⟨rfl, h⟩
    · exact va_gets hx hb (hKK.1 j hj9) hS.2.2.2 hown (hts _ (of_decide_eq_true hsp)) (fun _ h => h) hd (hnx _ _ _ _ _ h hbc hbs ls H locs hl hS)
    · exact va_getsN hx hb hKK.2.1 hS.2.2.2 hown (va_Nw.use rfl (hKK.2.2.2.2.2.2.2.2.2.1 _ (of_decide_eq_true hsp) rfl)) (fun _ h => h) hd (hnx _ _ _ _ _ h hbc hbs ls H locs hl hS)
    · exact va_gets hx hb hKK.2.2.2.2.2.1 hS.2.2.2 hown (hts _ (of_decide_eq_true hsp)) (fun _ h => h) hd (hnx _ _ _ _ _ h hbc hbs ls H locs hl hS)
    · exact va_gets hx hb hKK.2.2.2.2.2.2.1 hS.2.2.2 hown (hts _ (of_decide_eq_true hsp)) (fun _ h => h) hd (hnx _ _ _ _ _ h hbc hbs ls H locs hl hS)
    · exact va_gets hx hb hKK.2.2.2.2.2.2.2.2.2.2.2.2.2.2.1 hS.2.2.2 hown (hts _ (of_decide_eq_true hsp)) (fun _ h => h) hd (hnx _ _ _ _ _ h hbc hbs ls H locs hl hS)
    · exact va_gets hx hb hKK.2.2.2.2.2.2.2.2.2.2.2.2.2.2.2.2.1 hS.2.2.2 hown (hts _ (of_decide_eq_true hsp)) (fun _ h => h) hd (hnx _ _ _ _ _ h hbc hbs ls H locs hl hS)
    · exact va_gets hx hb hKK.2.2.2.2.2.2.2.2.2.2.2.2.2.2.2.2.2.2.1 hS.2.2.2 hown (hts _ (of_decide_eq_true hsp)) (fun _ h => h) hd (hnx _ _ _ _ _ h hbc hbs ls H locs hl hS)
  | iaload =>
    dsimp only [xstep] at h
    have e9 : np - pc = 1 := Nat.eq_of_beq_eq_true hlen
    rw [e9] at hd
    obtain rfl : np = pc + 1 := by omega
    have q9 := iv_t2X h
    clear h
    obtain ⟨i, a, r, rfl, h⟩ := q9
    have q9 := iv_aI h
    clear h
    rcases q9 with ⟨n, f, he, hin, h⟩ | ⟨rfl, hin, h⟩
    · exact va_iald hx hb hK (hS.2.1.one he) 0 0 rfl rfl hin hd (hnx _ _ _ _ _ h hbc hbs ls H locs hl hS)
    · exact va_ti hx hb hKK.2.2.2.2.2.2.2.2.2.2.2.2.2.2.2.2.2.2.2.2.1 hS.2.2.2 hin rfl hd (hnx _ _ _ _ _ h hbc hbs ls H locs hl hS)
  | laload =>
    dsimp only [xstep] at h
    have e9 : np - pc = 1 := Nat.eq_of_beq_eq_true hlen
    rw [e9] at hd
    obtain rfl : np = pc + 1 := by omega
    have q9 := iv_t2X h
    clear h
    obtain ⟨i, a, r, rfl, h⟩ := q9
    have q9 := iv_aL h
    clear h
    obtain ⟨n, f, he, hin, h⟩ := q9
    exact va_lald hx hb hK (hS.2.1.one he) 0 2 rfl rfl hin hd (hnx _ _ _ _ _ h hbc hbs ls H locs hl hS)
  | daload =>
    dsimp only [xstep] at h
    have e9 : np - pc = 1 := Nat.eq_of_beq_eq_true hlen
    rw [e9] at hd
    obtain rfl : np = pc + 1 := by omega
    have q9 := iv_t2X h
    clear h
    obtain ⟨i, a, r, rfl, h⟩ := q9
    have q9 := iv_aD h
    clear h
    obtain ⟨n, f, he, hin, h⟩ := q9
    exact va_dald hx hb hK (hS.2.1.one he) 0 3 rfl rfl hin hd (hnx _ _ _ _ _ h hbc hbs ls H locs hl hS)
  | baload =>
    dsimp only [xstep] at h
    have e9 : np - pc = 1 := Nat.eq_of_beq_eq_true hlen
    rw [e9] at hd
    obtain rfl : np = pc + 1 := by omega
    have q9 := iv_t2X h
    clear h
    obtain ⟨i, a, r, rfl, h⟩ := q9
    have q9 := iv_aB h
    clear h
    rcases q9 with ⟨n, f, he, hin, h⟩ | ⟨j, hj9, hin, h⟩ | ⟨rfl, hin, h⟩ | ⟨rfl, hin, h⟩
    · exact va_bald hx hb hK (hS.2.1.one he) 0 1 rfl rfl hin hd (hnx _ _ _ _ _ h hbc hbs ls H locs hl hS)
    · obtain ⟨g1, rfl⟩ := iv_xfind hj9
      have hT := (hKK.2.2.2.2.1.1 j g1).2.2.2
      rw [xlen_ok j g1] at hT
      exact va_tb hx hb hT hS.2.2.2 hin rfl hd (hnx _ _ _ _ _ h hbc hbs ls H locs hl hS)
    · exact va_tb hx hb hKK.2.2.2.2.2.2.2.2.2.2.2.2.2.2.2.1 hS.2.2.2 hin rfl hd (hnx _ _ _ _ _ h hbc hbs ls H locs hl hS)
    · exact va_tb hx hb hKK.2.2.2.2.2.2.2.2.2.2.2.2.2.2.2.2.2.1 hS.2.2.2 hin rfl hd (hnx _ _ _ _ _ h hbc hbs ls H locs hl hS)
  | aaload =>
    dsimp only [xstep] at h
    have e9 : np - pc = 1 := Nat.eq_of_beq_eq_true hlen
    rw [e9] at hd
    obtain rfl : np = pc + 1 := by omega
    have q9 := iv_t2X h
    clear h
    obtain ⟨i, a, r, rfl, h⟩ := q9
    have q9 := iv_aQ h
    clear h
    rcases q9 with ⟨k, n, f, b, he, hk, hin, hf, h⟩ | ⟨rfl, hin, h⟩
    · have hv : va_rf (f i.toNatClampNeg) = .ref b := by rw [hf]; rfl
      rcases hk with rfl | rfl | rfl
      · refine va_aldq hx hb hK (hS.2.1.one he) 0 4 rfl rfl hin hd ?_
        rw [hv]
        exact hnx _ _ _ _ _ h hbc hbs ls H locs hl hS
      · refine va_aldq hx hb hK (hS.2.1.one he) 0 5 rfl rfl hin hd ?_
        rw [hv]
        exact hnx _ _ _ _ _ h hbc hbs ls H locs hl hS
      · refine va_aldq hx hb hK (hS.2.1.one he) 0 6 rfl rfl hin hd ?_
        rw [hv]
        exact hnx _ _ _ _ _ h hbc hbs ls H locs hl hS
    · exact vb_tq hx hb hKK.2.2.1 hS.2.2.2 hin rfl hd (hnx _ _ _ _ _ h hbc hbs ls H locs hl hS)
  | arraylength =>
    dsimp only [xstep] at h
    have e9 : np - pc = 1 := Nat.eq_of_beq_eq_true hlen
    rw [e9] at hd
    obtain rfl : np = pc + 1 := by omega
    have q9 := iv_t1A h
    clear h
    obtain ⟨a, r, rfl, h⟩ := q9
    have q9 := iv_aN h
    clear h
    rcases q9 with ⟨k, n, x, he, hk, h⟩ | ⟨rfl, h⟩ | ⟨j, hj9, h⟩ | ⟨rfl, h⟩ | ⟨rfl, h⟩
    · obtain ⟨ty, hty⟩ : ∃ ty, (xtys G.2)[k]? = some (G.2 k, ty) := by
        match k, hk with
        | 0, _ => exact ⟨_, rfl⟩
        | 1, _ => exact ⟨_, rfl⟩
        | 2, _ => exact ⟨_, rfl⟩
        | 3, _ => exact ⟨_, rfl⟩
        | 4, _ => exact ⟨_, rfl⟩
        | 5, _ => exact ⟨_, rfl⟩
        | 6, _ => exact ⟨_, rfl⟩
      exact va_alen hx hb hK (hS.2.1.one he) 0 k rfl hty rfl hd (hnx _ _ _ _ _ h hbc hbs ls H locs hl hS)
    · exact va_tlen hx hb hKK.2.2.1 hS.2.2.2 rfl hd (hnx _ _ _ _ _ h hbc hbs ls H locs hl hS)
    · obtain ⟨g1, rfl⟩ := iv_xfind hj9
      have hT := (hKK.2.2.2.2.1.1 j g1).2.2.2
      rw [xlen_ok j g1] at hT
      exact va_tlen hx hb hT hS.2.2.2 rfl hd (hnx _ _ _ _ _ h hbc hbs ls H locs hl hS)
    · exact va_tlen hx hb hKK.2.2.2.2.2.2.2.2.2.2.2.2.2.2.2.2.2.2.2.1 hS.2.2.2 rfl hd (hnx _ _ _ _ _ h hbc hbs ls H locs hl hS)
    · exact va_tlen hx hb hKK.2.2.2.2.2.2.2.2.2.2.2.2.2.2.2.2.2.2.2.2.1 hS.2.2.2 rfl hd (hnx _ _ _ _ _ h hbc hbs ls H locs hl hS)
  | iastore =>
    dsimp only [xstep] at h
    have e9 : np - pc = 1 := Nat.eq_of_beq_eq_true hlen
    rw [e9] at hd
    obtain rfl : np = pc + 1 := by omega
    have q9 := iv_t3I h
    clear h
    obtain ⟨x, i, a, r, rfl, h⟩ := q9
    have q9 := iv_sI h
    clear h
    obtain ⟨n, f, he, hin, h⟩ := q9
    exact x_iast hx hb hK hS he hin hd (fun H1 locs1 hS1 => hnx _ _ _ _ _ h hbc hbs ls H1 locs1 hl hS1)
  | bastore =>
    dsimp only [xstep] at h
    have e9 : np - pc = 1 := Nat.eq_of_beq_eq_true hlen
    rw [e9] at hd
    obtain rfl : np = pc + 1 := by omega
    have q9 := iv_t3I h
    clear h
    obtain ⟨x, i, a, r, rfl, h⟩ := q9
    have q9 := iv_sB h
    clear h
    obtain ⟨n, f, he, hin, h⟩ := q9
    exact x_bast hx hb hK hS he hin hd (fun H1 locs1 hS1 => hnx _ _ _ _ _ h hbc hbs ls H1 locs1 hl hS1)
  | lastore =>
    dsimp only [xstep] at h
    have e9 : np - pc = 1 := Nat.eq_of_beq_eq_true hlen
    rw [e9] at hd
    obtain rfl : np = pc + 1 := by omega
    have q9 := iv_t3L h
    clear h
    obtain ⟨x, i, a, r, rfl, h⟩ := q9
    have q9 := iv_sL h
    clear h
    obtain ⟨n, f, he, hin, h⟩ := q9
    exact x_last hx hb hK hS he hin hd (fun H1 locs1 hS1 => hnx _ _ _ _ _ h hbc hbs ls H1 locs1 hl hS1)
  | dastore =>
    dsimp only [xstep] at h
    have e9 : np - pc = 1 := Nat.eq_of_beq_eq_true hlen
    rw [e9] at hd
    obtain rfl : np = pc + 1 := by omega
    have q9 := iv_t3D h
    clear h
    obtain ⟨x, i, a, r, rfl, h⟩ := q9
    have q9 := iv_sD h
    clear h
    obtain ⟨n, f, he, hin, h⟩ := q9
    exact x_dast hx hb hK hS he hin hd (fun H1 locs1 hS1 => hnx _ _ _ _ _ h hbc hbs ls H1 locs1 hl hS1)
  | aastore =>
    dsimp only [xstep] at h
    have e9 : np - pc = 1 := Nat.eq_of_beq_eq_true hlen
    rw [e9] at hd
    obtain rfl : np = pc + 1 := by omega
    have q9 := iv_t3A h
    clear h
    obtain ⟨x, i, a, r, rfl, h⟩ := q9
    have q9 := iv_sQ h
    clear h
    obtain ⟨k, n, f, he, hin, hk, h⟩ := q9
    rcases hk with ⟨rfl, j, hj9⟩ | ⟨rfl, fs, hb9⟩ | ⟨rfl, fs, hb9⟩
    · obtain ⟨g1, rfl⟩ := iv_xfind hj9
      obtain ⟨cell, q1, q2, q3, q4⟩ := (hKK.2.2.2.1 j g1).1.kept hS.2.2.2.2.1
      exact x_astq hx hb hK hS he rfl ⟨cell, q1, q2, q3⟩ hin hd (fun H1 locs1 hS1 => hnx _ _ _ _ _ h hbc hbs ls H1 locs1 hl hS1)
    · exact x_astq hx hb hK hS he rfl (x_recv (ci := 2) hK hKK hS (Or.inl ⟨fs, hb9⟩)) hin hd (fun H1 locs1 hS1 => hnx _ _ _ _ _ h hbc hbs ls H1 locs1 hl hS1)
    · exact x_astqO (C := "java/lang/Object") (D := RX11) hx hb hK hS he rfl (x_recv (ci := 9) hK hKK hS (Or.inl ⟨fs, hb9⟩)) (hKK.2.2.2.2.2.2.2.2.2.1 _ xcastSO rfl) hin hd (fun H1 locs1 hS1 => hnx _ _ _ _ _ h hbc hbs ls H1 locs1 hl hS1)
  | new i =>
    dsimp only [xstep] at h
    have e9 : np - pc = 3 := Nat.eq_of_beq_eq_true hlen
    rw [e9] at hd
    obtain rfl : np = pc + 3 := by omega
    have q9 := iv_xnew h
    clear h
    rcases q9 with ⟨ci, n, rfl, hc9, hs9, h⟩ | ⟨k, is, ic, rfl, hc9, hs9, hcat, h⟩
    · have hq := hPO _ (of_decide_eq_true hsp)
      simp only [xokQ] at hq
      split at hq
      · next r hr =>
        simp only [Bool.and_eq_true, decide_eq_true_eq] at hq
        obtain ⟨w1, w2, w3, w4⟩ := hq
        have w4 := Nat.eq_of_beq_eq_true w4
        subst w4
        exact x_new hx hb hts hown hK hS hA hr w1 w2 w3 hc9 hs9 hd (fun H1 hS1 => hnx _ _ _ _ _ h hc9 hs9 ls H1 locs hl hS1)
      · cases hq
    · have hr9 := hfin _ (Option.some.inj h).symm
      exact x_throw C hsp hS hr9 hd hnL hcat hc9 hs9
  | newarray a =>
    dsimp only [xstep] at h
    have e9 : np - pc = 2 := Nat.eq_of_beq_eq_true hlen
    rw [e9] at hd
    obtain rfl : np = pc + 2 := by omega
    have q9 := iv_xnewa h
    clear h
    obtain ⟨n, r, k, rfl, rfl, hn, hc9, hs9, h5, h⟩ := q9
    have hsp : (Nat.blt k 4 && (decide (newarray.typeOf a = xkty k) && decide (Cond.arrayClass (xkty k) ∈ xWs))) = true := hsp
    simp only [Bool.and_eq_true, decide_eq_true_eq] at hsp
    obtain ⟨w1, w2, w3⟩ := hsp
    exact x_newa hx hb hts hK hS hA (Nat.le_of_ble_eq_true w1) w2 w3 hn h5 hc9 hs9 hd (fun H1 hS1 => hnx _ _ _ _ _ h hc9 hs9 ls H1 locs hl hS1)
  | anewarray i =>
    dsimp only [xstep] at h
    have e9 : np - pc = 3 := Nat.eq_of_beq_eq_true hlen
    rw [e9] at hd
    obtain rfl : np = pc + 3 := by omega
    have q9 := iv_xnewa h
    clear h
    obtain ⟨n, r, k, rfl, rfl, hn, hc9, hs9, h5, h⟩ := q9
    have hq := hPO _ (of_decide_eq_true hsp)
    match k, hq, h with
    | 4, hq, h => exact x_newq (k := 4) hx hb hts hown hK hS hA rfl hKK.2.2.2.2.2.2.2.2.2.2.1 (of_decide_eq_true hq) hn h5 hc9 hs9 hd (fun H1 hS1 => hnx _ _ _ _ _ h hc9 hs9 ls H1 locs hl hS1)
    | 5, hq, h => exact x_newq (k := 5) hx hb hts hown hK hS hA rfl hKK.2.2.2.2.2.2.2.2.2.2.2.1 (of_decide_eq_true hq) hn h5 hc9 hs9 hd (fun H1 hS1 => hnx _ _ _ _ _ h hc9 hs9 ls H1 locs hl hS1)
    | 0, hq, h => cases hq
    | 1, hq, h => cases hq
    | 2, hq, h => cases hq
    | 3, hq, h => cases hq
    | 6, hq, h => exact x_newq (k := 6) hx hb hts hown hK hS hA rfl hKK.2.2.2.2.2.2.2.2.2.2.2.2.2.2.2.2.2.2.2.2.2 (of_decide_eq_true hq) hn h5 hc9 hs9 hd (fun H1 hS1 => hnx _ _ _ _ _ h hc9 hs9 ls H1 locs hl hS1)
    | k + 7, hq, h => simp [xokQ] at hq
  | invokespecial i =>
    dsimp only [xstep] at h
    have e9 : np - pc = 3 := Nat.eq_of_beq_eq_true hlen
    rw [e9] at hd
    obtain rfl : np = pc + 3 := by omega
    have q9 := iv_xinit h
    clear h
    rcases q9 with ⟨q, rfl, a, r, rfl, hcat, h⟩ | h
    · have hsp : (decide (Cond.methodLink own i objectInit ∈ xWs) && (decide (Cond.instanceMethod objectInit ∈ xWs) && decide (Cond.code objectInit ⟨#[0xb1]⟩ 1 none ∈ xWs))) = true := hsp
      simp only [Bool.and_eq_true, decide_eq_true_eq] at hsp
      obtain ⟨w1, w2, w3⟩ := hsp
      refine W.objInit hx hb hown (hts _ w1) (hts _ w2) (hts _ w3) rfl (by rw [hml]; exact hnL) rfl hd (by show 1 ≤ d + 1 + 12; omega) (by show 2 * 0 + xcat r + 12 ≤ 40 * (d + 1) + 200; omega) (hnx _ _ _ _ _ h hbc hbs ls H locs hl hS)
    · have q9 := iv_xcall h
      clear h
      obtain ⟨kd, key, n, tag, mc, ms, ci, r, rfl, g1, g2, g3, g4, hrv, hcl, hz⟩ := q9
      have hsp : (decide ((2, i, [kd, key, n, tag, mc, ms, ci]) ∈ PO) && (Nat.beq kd 2 || (Nat.beq kd 4 || Nat.beq kd 7))) = true := hsp
      rw [Bool.and_eq_true, decide_eq_true_eq] at hsp
      have hk : kd = 2 ∨ kd = 4 ∨ kd = 7 := by simpa using hsp.2
      have hins : Instr.invokespecial i = xins kd i := by rcases hk with rfl | rfl | rfl <;> rfl
      rw [hins] at hd
      exact x_callI C hnx hfin (hPO _ hsp.1) g1 g2 g3 g4 hrv hcl hz hl hS hd
  | invokevirtual i =>
    dsimp only [xstep] at h
    have e9 : np - pc = 3 := Nat.eq_of_beq_eq_true hlen
    rw [e9] at hd
    obtain rfl : np = pc + 3 := by omega
    have q9 := iv_xinv h
    clear h
    rcases q9 with ⟨q, k, rfl, h⟩ | h
    · cases hsp
    · have q9 := iv_xcall h
      clear h
      obtain ⟨kd, key, n, tag, mc, ms, ci, r, rfl, g1, g2, g3, g4, hrv, hcl, hz⟩ := q9
      have hsp : (decide ((2, i, [kd, key, n, tag, mc, ms, ci]) ∈ PO) && (Nat.beq kd 1 || (Nat.beq kd 3 || (Nat.beq kd 5 || (Nat.beq kd 6 || Nat.beq kd 9))))) = true := hsp
      rw [Bool.and_eq_true, decide_eq_true_eq] at hsp
      have hk : kd = 1 ∨ kd = 3 ∨ kd = 5 ∨ kd = 6 ∨ kd = 9 := by simpa using hsp.2
      have hins : Instr.invokevirtual i = xins kd i := by rcases hk with rfl | rfl | rfl | rfl | rfl <;> rfl
      rw [hins] at hd
      exact x_callI C hnx hfin (hPO _ hsp.1) g1 g2 g3 g4 hrv hcl hz hl hS hd
  | invokestatic i =>
    dsimp only [xstep] at h
    have e9 : np - pc = 3 := Nat.eq_of_beq_eq_true hlen
    rw [e9] at hd
    obtain rfl : np = pc + 3 := by omega
    have q9 := iv_xinv h
    clear h
    rcases q9 with ⟨q, k, rfl, h⟩ | h
    · have q9 := iv_nz h
      clear h
      obtain ⟨hcat, h⟩ := q9
      have hcat := Nat.le_of_ble_eq_true hcat
      have q9 := iv_xprim h
      clear h
      rcases q9 with ⟨rfl, x, y, r, rfl, h⟩ | ⟨rfl, x, y, r, rfl, h⟩ | ⟨rfl, x, y, r, rfl, h⟩ | ⟨rfl, x, y, r, rfl, h⟩ | ⟨rfl, k, j, b, i9, a, r, rfl, h⟩
      · have hc9 : xcat r ≤ 16 := by simp [xcat, Value.category] at hcat ⊢; omega
        simp only [xspec, xspecP, Bool.and_eq_true, decide_eq_true_eq] at hsp
        obtain ⟨w1, w2, w3, w4⟩ := hsp
        exact va_mmax hx hb (by rw [hml, hnL]) hown (hts _ w1) (hts _ w2) (hts _ w3) (hts _ w4) (by show 1 ≤ d + 1 + 12; omega) (by show xcat r + 13 ≤ 40 * (d + 1) + 200; omega) hbc hbs hd (hnx _ _ _ _ _ h hbc hbs ls H locs hl hS)
      · have hc9 : xcat r ≤ 16 := by simp [xcat, Value.category] at hcat ⊢; omega
        simp only [xspec, xspecP, Bool.and_eq_true, decide_eq_true_eq] at hsp
        obtain ⟨w1, w2, w3, w4⟩ := hsp
        exact va_mmin hx hb (by rw [hml, hnL]) hown (hts _ w1) (hts _ w2) (hts _ w3) (hts _ w4) (by show 1 ≤ d + 1 + 12; omega) (by show xcat r + 13 ≤ 40 * (d + 1) + 200; omega) hbc hbs hd (hnx _ _ _ _ _ h hbc hbs ls H locs hl hS)
      · have hc9 : xcat r ≤ 16 := by simp [xcat, Value.category] at hcat ⊢; omega
        simp only [xspec, xspecP, Bool.and_eq_true, decide_eq_true_eq] at hsp
        obtain ⟨w1, w2, w3, w4⟩ := hsp
        exact va_mmax_long hx hb (by rw [hml, hnL]) hown (hts _ w1) (hts _ w2) (hts _ w3) (hts _ w4) (by show 1 ≤ d + 1 + 12; omega) (by show xcat r + 15 ≤ 40 * (d + 1) + 200; omega) hbc hbs hd (hnx _ _ _ _ _ h hbc hbs ls H locs hl hS)
      · have hc9 : xcat r ≤ 16 := by simp [xcat, Value.category] at hcat ⊢; omega
        simp only [xspec, xspecP, Bool.and_eq_true, decide_eq_true_eq] at hsp
        obtain ⟨w1, w2, w3, w4⟩ := hsp
        exact va_mmin_long hx hb (by rw [hml, hnL]) hown (hts _ w1) (hts _ w2) (hts _ w3) (hts _ w4) (by show 1 ≤ d + 1 + 12; omega) (by show xcat r + 15 ≤ 40 * (d + 1) + 200; omega) hbc hbs hd (hnx _ _ _ _ _ h hbc hbs ls H locs hl hS)
      · have hc9 : xcat r ≤ 16 := by simp [xcat, Value.category] at hcat ⊢; omega
        simp only [xspec, xspecP, Bool.and_eq_true, decide_eq_true_eq] at hsp
        obtain ⟨w1, w2, w3, w4⟩ := hsp
        have q9 := iv_cpI h
        clear h
        obtain ⟨k, n0, f, n1, g, he1, hk1, hsrc, hpr, hbf, h⟩ := q9
        obtain ⟨k1, k2, k3, k4, k5⟩ := iv_xcpr hpr
        have hkt : ∃ ty, (xtys G.2)[k]? = some (G.2 k, ty) ∧ (ty = .int ∨ ty = .byte) ∧ (ty = .byte → k = 1) := by
          match k, hk1 with
          | 0, _ => exact ⟨_, rfl, Or.inl rfl, fun h => by cases h⟩
          | 1, _ => exact ⟨_, rfl, Or.inr rfl, fun _ => rfl⟩
        obtain ⟨ty, hty, hty2, hty3⟩ := hkt
        have hfit : ty = .byte → ∀ j, j < n0 → fits .byte (.int (f j)) = true := by
          intro e
          have e1 := hty3 e
          rcases hbf with hbf | hbf
          · rw [e1] at hbf
            cases hbf
          · exact of_decide_eq_true hbf
        rcases hsrc with he0 | ⟨rfl, j0, hj9, rfl, rfl⟩
        · exact x_copyS hx hb (by rw [hml, hnL]) hown hts w1 w2 w3 w4 hK hS hty hty2 (hS.2.1 _ _ he0) ((hK.2 k _ hty).1 n0 (fun j => .int (f j))) (fun h => by cases h) (by show n0 ≤ (arrV (G.2 k) n0 (fun j => .int (f j))).slots.size; rw [arrV_size]; exact Nat.le_refl _) (fun j hj => arrV_read _ _ hj) hfit he1 k1 k2 k3 k4 k5 (by show 1 ≤ d + 1 + 12; omega) (by show xcat r + 40 ≤ 40 * (d + 1) + 200; omega) hd (fun H1 locs1 hS1 => hnx _ _ _ _ _ h hbc hbs ls H1 locs1 hl hS1)
        · obtain ⟨g1, rfl⟩ := iv_xfind hj9
          have hT := (hKK.2.2.2.2.1.1 j0 g1).2.2.2
          rw [xlen_ok j0 g1] at hT
          cases hty
          obtain ⟨scr, t1, t2, t3, t4, t5, t6, t7⟩ := hT.kept hS.2.2.2.2.1
          exact x_copyS (k := 1) (ty := .byte) hx hb (by rw [hml, hnL]) hown hts w1 w2 w3 w4 hK hS rfl (Or.inr rfl) t1 t2 t3 t4 (fun j hj => t6 j hj) hfit he1 k1 k2 k3 k4 k5 (by show 1 ≤ d + 1 + 12; omega) (by show xcat r + 40 ≤ 40 * (d + 1) + 200; omega) hd (fun H1 locs1 hS1 => hnx _ _ _ _ _ h hbc hbs ls H1 locs1 hl hS1)
    · have q9 := iv_xcall h
      clear h
      obtain ⟨kd, key, n, tag, mc, ms, ci, r, rfl, g1, g2, g3, g4, hrv, hcl, hz⟩ := q9
      have hsp : (decide ((2, i, [kd, key, n, tag, mc, ms, ci]) ∈ PO) && (Nat.beq kd 0 || (Nat.beq kd 8 || Nat.beq kd 10))) = true := hsp
      rw [Bool.and_eq_true, decide_eq_true_eq] at hsp
      have hk : kd = 0 ∨ kd = 8 ∨ kd = 10 := by simpa using hsp.2
      have hins : Instr.invokestatic i = xins kd i := by rcases hk with rfl | rfl | rfl <;> rfl
      rw [hins] at hd
      exact x_callI C hnx hfin (hPO _ hsp.1) g1 g2 g3 g4 hrv hcl hz hl hS hd
  | ireturn =>
    dsimp only [xstep] at h
    have e9 : np - pc = 1 := Nat.eq_of_beq_eq_true hlen
    rw [e9] at hd
    obtain rfl : np = pc + 1 := by omega
    have q9 := iv_t1I h
    clear h
    obtain ⟨x, r, rfl, h⟩ := q9
    have q9 := iv_t0 h
    clear h
    obtain ⟨rfl, h⟩ := q9
    have q9 := iv_xiret h
    clear h
    obtain ⟨t, rfl, ht, h⟩ := q9
    obtain ⟨k1, k2⟩ := x_fin (args := args) hS (hfin _ (Option.some.inj h).symm)
    have hn : narrow (xty t) (.int x) = .int x := by
      rcases ht with rfl | ht
      · rfl
      · exact ht
    exact vx_ret (W.widen hbc hbs (W.zret hx hb (by rw [hret]; exact of_decide_eq_true hsp) hn k1 k2 hd hlocks))
  | lreturn =>
    dsimp only [xstep] at h
    have e9 : np - pc = 1 := Nat.eq_of_beq_eq_true hlen
    rw [e9] at hd
    obtain rfl : np = pc + 1 := by omega
    have q9 := iv_t1L h
    clear h
    obtain ⟨x, r, rfl, h⟩ := q9
    have q9 := iv_t0 h
    clear h
    obtain ⟨rfl, h⟩ := q9
    obtain ⟨k1, k2⟩ := x_fin (args := args) hS (hfin _ (Option.some.inj h).symm)
    exact vx_ret (W.widen hbc hbs (W.lret hx hb (by rw [hret]; exact of_decide_eq_true hsp) k1 k2 hd hlocks))
  | freturn =>
    dsimp only [xstep] at h
    have e9 : np - pc = 1 := Nat.eq_of_beq_eq_true hlen
    rw [e9] at hd
    obtain rfl : np = pc + 1 := by omega
    have q9 := iv_t1F h
    clear h
    obtain ⟨x, r, rfl, h⟩ := q9
    have q9 := iv_t0 h
    clear h
    obtain ⟨rfl, h⟩ := q9
    obtain ⟨k1, k2⟩ := x_fin (args := args) hS (hfin _ (Option.some.inj h).symm)
    exact vx_ret (W.widen hbc hbs (W.fret hx hb (by rw [hret]; exact of_decide_eq_true hsp) k1 k2 hd hlocks))
  | dreturn =>
    dsimp only [xstep] at h
    have e9 : np - pc = 1 := Nat.eq_of_beq_eq_true hlen
    rw [e9] at hd
    obtain rfl : np = pc + 1 := by omega
    have q9 := iv_t1D h
    clear h
    obtain ⟨x, r, rfl, h⟩ := q9
    have q9 := iv_t0 h
    clear h
    obtain ⟨rfl, h⟩ := q9
    obtain ⟨k1, k2⟩ := x_fin (args := args) hS (hfin _ (Option.some.inj h).symm)
    exact vx_ret (W.widen hbc hbs (W.dret hx hb (by rw [hret]; exact of_decide_eq_true hsp) k1 k2 hd hlocks))
  | areturn =>
    dsimp only [xstep] at h
    have e9 : np - pc = 1 := Nat.eq_of_beq_eq_true hlen
    rw [e9] at hd
    obtain rfl : np = pc + 1 := by omega
    have q9 := iv_t1A h
    clear h
    obtain ⟨x, r, rfl, h⟩ := q9
    have q9 := iv_t0 h
    clear h
    obtain ⟨rfl, h⟩ := q9
    obtain ⟨k1, k2⟩ := x_fin (args := args) hS (hfin _ (Option.some.inj h).symm)
    obtain ⟨rt, hrt, hrr⟩ := xisr_ok (show xisr ret = true from hsp)
    exact vx_ret (W.widen hbc hbs (W.aret hx hb (by rw [hret]; exact hrt) hrr (Or.inr ⟨_, rfl⟩) k1 k2 hd hlocks))
  | return_ =>
    dsimp only [xstep] at h
    have e9 : np - pc = 1 := Nat.eq_of_beq_eq_true hlen
    rw [e9] at hd
    obtain rfl : np = pc + 1 := by omega
    have q9 := iv_t0 h
    clear h
    obtain ⟨rfl, h⟩ := q9
    obtain ⟨k1, k2⟩ := x_fin (args := args) hS (hfin _ (Option.some.inj h).symm)
    exact vx_ret (W.widen hbc hbs (W.vret hx hb (by rw [hret]; exact of_decide_eq_true hsp) k1 k2 hd hlocks))
  | _ => cases h
end STEPS
end
section
/-! BLOCKS, RUNS, METHODS: what the interpreter says of a method is its contract. -/
theorem xpick_has {ls : Array Slot} {nL : Nat} {L : xL} (hl : lv_has ls nL L) (is : List Nat) : lv_has ls nL (xpick L is) := by
  refine ⟨hl.1, hl.2.1, ?_⟩
  induction is with
  | nil => exact fun q hq => absurd hq List.not_mem_nil
  | cons i is ih =>
    intro q hq
    unfold xpick at hq
    split at hq
    · next v hv =>
      rcases List.mem_cons.mp hq with rfl | hq
      · exact xget_has hl hv
      · exact ih q hq
    · exact ih q hq
section SOUND
variable {p : Program} {l : Launch} {e : Env} {s : State} {m : MethodId} {args : Array Value} {below : List Frame} {meth : Method} {c : Code}
variable {lds : xLds} {exs : List (String × Nat × String)} {G : xG} {E : xEn} {A : Nat → Prop} {d MC MS nL : Nat} {call : Nat → List Value → xH → Option xR} {Mt : Nat → Option xMth} {own : String} {ini : Bool} {cc : ByteArray} {ret : Option FieldType} {PO : xPool} {r0 : xR}
theorem x_blk (C : xCx p l s m args meth c lds exs G E A d call Mt own ini cc nL ret PO) {z : xR ⊕ xJ} (hfin : ∀ r, z = .inl r → r0 = r)
    (hj : ∀ t L st σ bc bs, z = .inr (t, L, st, σ, bc, bs) → xTg p l e s m args below meth c d MC MS (vx_MQ below (xQc G A r0) (xXC G A r0) args s MC MS A) G A nL t L st σ bc bs) {ep : Nat} :
    ∀ (is : List xI) (pc : Nat) (L : xL) (st : List Value) (σ : xH) (bc bs : Nat), xokB own ini cc nL ret PO lds exs ep pc is = true →
      exB E call MC MS (fun r => some (.inl r)) (fun t L st σ bc bs => some (.inr (t, L, st, σ, bc, bs))) ep is L st σ bc bs = some z →
      xTg p l e s m args below meth c d MC MS (vx_MQ below (xQc G A r0) (xXC G A r0) args s MC MS A) G A nL pc L st σ bc bs := by
  intro is
  induction is with
  | nil =>
    intro pc L st σ bc bs hok h
    have hpc : pc = ep := Nat.eq_of_beq_eq_true hok
    subst hpc
    exact hj _ _ _ _ _ _ (Option.some.inj h).symm
  | cons i r ih =>
    intro pc L st σ bc bs hok h
    obtain ⟨pc', ins, info⟩ := i
    match r, ih, hok, h with
    | [], ih, hok, h =>
      unfold xokB at hok
      rw [Bool.and_eq_true] at hok
      have hpc : pc = pc' := Nat.eq_of_beq_eq_true hok.1
      subst hpc
      exact x_step C hok.2 hfin hj (fun L st σ bc bs h => hj _ _ _ _ _ _ (Option.some.inj h).symm) h
    | j :: r, ih, hok, h =>
      unfold xokB at hok
      rw [Bool.and_eq_true, Bool.and_eq_true] at hok
      have hpc : pc = pc' := Nat.eq_of_beq_eq_true hok.1
      subst hpc
      exact x_step C hok.2.1 hfin hj (fun L st σ bc bs h => ih j.1 L st σ bc bs hok.2.2 h) h
theorem xlk_mem {bl : xBl} {pc : Nat} {b : List Nat × List xI × Nat} (h : xlk bl pc = some b) : (pc, b) ∈ bl := by
  induction bl with
  | nil => cases h
  | cons q bl ih =>
    unfold xlk at h
    cases hb : Nat.beq q.1 pc
    · rw [hb] at h
      exact List.mem_cons_of_mem _ (ih h)
    · rw [hb] at h
      have := Nat.eq_of_beq_eq_true hb
      subst this
      cases h
      exact List.mem_cons_self
theorem x_rn (C : xCx p l s m args meth c lds exs G E A d call Mt own ini cc nL ret PO) {bl : xBl} (hbl : ∀ b ∈ bl, xokB own ini cc nL ret PO lds exs b.2.2.2 b.1 b.2.2.1 = true) :
    ∀ (n : Nat) (pc : Nat) (L : xL) (st : List Value) (σ : xH) (bc bs : Nat), xrn E call MC MS bl n (pc, L, st, σ, bc, bs) = some r0 →
      xTg p l e s m args below meth c d MC MS (vx_MQ below (xQc G A r0) (xXC G A r0) args s MC MS A) G A nL pc L st σ bc bs := by
  intro n
  induction n with
  | zero => exact fun _ _ _ _ _ _ h => by cases h
  | succ n ih =>
    intro pc L st σ bc bs h
    unfold xrn at h
    cases hx : xex E call MC MS bl (pc, L, st, σ, bc, bs) with
    | none => rw [hx] at h; cases h
    | some z =>
      rw [hx] at h
      unfold xex at hx
      split at hx
      · next b hb =>
        have hok := hbl _ (xlk_mem hb)
        have h1 := x_blk (e := e) (below := below) (r0 := r0) (MC := MC) (MS := MS) C (z := z) (fun r hr => by subst hr; exact (Option.some.inj h).symm) (fun t L st σ bc bs hz => by subst hz; exact ih _ _ _ _ _ _ h) _ _ _ _ _ _ _ hok hx
        exact fun g1 g2 ls H locs hl hS => h1 g1 g2 ls H locs (xpick_has hl _) hS
      · cases hx
end SOUND
theorem lg_sl_len (vs : List Value) : (lg_sl vs).length = xcat vs := by
  induction vs with
  | nil => rfl
  | cons v vs ih =>
    have h : xcat (v :: vs) = v.category + xcat vs := by simp [xcat]
    rw [h, ← ih]
    cases v <;> simp [lg_sl, Value.category] <;> omega
/-- a table's row holds: its blocks are its bytes, its pool is the tables' -/
def xokR (T : xTab) (lds : xLds) (exs : List (String × Nat × String)) (r : xMth × xBl × List (Nat × Nat × List Nat)) : Prop :=
  xcw r.1 = false ∧ plainName r.1.1.cls = true ∧ (∀ b ∈ r.2.1, xokB r.1.1.cls (decide (r.1.1.name = "<init>")) r.1.2.1 r.1.2.2.1 r.1.2.2.2.1 r.2.2 lds exs b.2.2.2 b.1 b.2.2.1 = true) ∧ ∀ q ∈ r.2.2, xokQ r.1.1.cls (fun k => (T k).map (fun r => r.1)) q = true
theorem x_sem {T : xTab} {lds : xLds} {exs : List (String × Nat × String)} (hT : ∀ key r, T key = some r → 2 ≤ key → xokR T lds exs r) {l : Launch} (htr : l.stackTraces = false) (G : xG) (E : xEn) (hH : ∀ key r, T key = some r → key < 2 → ∀ d, (∀ (key : Nat) (M : xMth), (T key).map (fun r => r.1) = some M → xMet lds exs l G E d M (xsem T E d key)) → xMet lds exs l G E (d + 1) r.1 (xsem T E (d + 1) key)) :
    ∀ (d key : Nat) (M : xMth), (T key).map (fun r => r.1) = some M → xMet lds exs l G E d M (xsem T E d key) := by
  intro d
  induction d with
  | zero => intro key M _ av σ r h; cases h
  | succ d ih =>
    intro key M hM
    cases hk : T key with
    | none => rw [hk] at hM; cases hM
    | some row =>
      rw [hk] at hM
      cases hM
      by_cases hk2 : key < 2
      · exact hH key row hk hk2 d ih
      intro av σ r h
      obtain ⟨hcw, hpl, hbl, hPO⟩ := hT key row hk (by omega)
      obtain ⟨⟨y, cc, nL, ret, mc, ms⟩, bl, PO⟩ := row
      have hcw : xcw (y, cc, nL, ret, mc, ms) = false := hcw
      have hxw : xws (y, cc, nL, ret, mc, ms) = Cond.code y cc nL ret :: xWs := by
        unfold xws xhd
        rw [hcw]
        rfl
      unfold xsem at h
      rw [hk, show key = (key - 2) + 2 by omega] at h
      dsimp only [xcth] at h
      obtain ⟨hnl, h⟩ := iv_if h
      have hnl : xcat av ≤ nL := Nat.le_of_ble_eq_true hnl
      obtain ⟨n, hn⟩ := xli_of h
      refine vx_ofW (cc := cc) (maxL := nL) (ret := ret) hpl hxw ?_
      intro p e s m args below meth c s₁ B hml hexc hv
      obtain ⟨rfl, hsz, hWo, hK, hKK⟩ := hv
      have hx := B.exec
      have hb := B.bytes
      have hr := B.returns
      have hts0 := atoms_spec (ws := xws (y, cc, nL, ret, mc, ms)) B.pre
      have hts : ∀ w ∈ xWs, w.before av.toArray s = true := fun w h => hts0 w (List.mem_cons_of_mem _ h)
      have hown : s.vm.findClass y.cls = some m.cls := findClass_of_methodNamed B.named
      have hlocks := B.notSynchronized
      have hname : meth.name = y.name := (name_of_methodNamed B.named B.method).1
      have hA : ∀ q, s.heap.size ≤ q → xA σ q := fun q hq => Or.inr (by rw [← hsz]; exact hq)
      have C : xCx p l s m av.toArray meth c lds exs G E (xA σ) d (xsem T E d) (fun k => (T k).map (fun r => r.1)) y.cls (decide (y.name = "<init>")) cc nL ret PO :=
        ⟨hx, hb, hml, hts, hown, hK, hKK, hA, hexc, hlocks, hr, htr, fun hi => by rw [hname]; exact of_decide_eq_true hi, hPO, fun key M hM => ih key M hM⟩
      have hl := lv_entry av (n := nL) (by rw [lg_sl_len]; exact hnl)
      rw [lg_entry_eq]
      generalize (lg_sl av ++ List.replicate (nL - (lg_sl av).length) Slot.unset).toArray = ls at hl ⊢
      exact x_rn (e := e) (below := below) C hbl n 0 (lv_args 0 av) [] σ 0 0 hn (Nat.zero_le _) (Nat.zero_le _) ls s.heap [] hl ⟨hsz, hWo, fun a ha => Or.inl ha, va_S.rf⟩
end
