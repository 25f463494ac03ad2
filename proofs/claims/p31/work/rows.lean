section
-- ===== PART A: goes FIRST, ahead of the names: the tables' words, and 'selects' of the private methods out of them =====
/-- a private method of a class that the tables say can be made, by its rows of tables_1 -/
def lw_okq (q : MethodName × Nat) : Prop := (q.1.cls ≠ "java/lang/invoke/MethodHandle" ∧ q.1.cls ≠ "java/lang/invoke/VarHandle") ∧ Cond.instantiable q.1.cls q.2 ∈ tables_1 ∧ Cond.privateMethod q.1 ∈ tables_1 ∧ Cond.instanceMethod q.1 ∈ tables_1
theorem lw_p0 : lw_okq (⟨"ShellWatch$Formula", "put", "(I)V"⟩, 3) := ⟨⟨by decide +kernel, by decide +kernel⟩, List.mem_of_getElem? (i := 215) (by decide +kernel), List.mem_of_getElem? (i := 262) (by decide +kernel), List.mem_of_getElem? (i := 263) (by decide +kernel)⟩
theorem lw_p1 : lw_okq (⟨"ShellWatch", "requireWhat", "(II)V"⟩, 7) := ⟨⟨by decide +kernel, by decide +kernel⟩, List.mem_of_getElem? (i := 38) (by decide +kernel), List.mem_of_getElem? (i := 329) (by decide +kernel), List.mem_of_getElem? (i := 330) (by decide +kernel)⟩
theorem lw_p2 : lw_okq (⟨"java/lang/Throwable", "fillInStackTrace", "(I)Ljava/lang/Throwable;"⟩, 6) := ⟨⟨by decide +kernel, by decide +kernel⟩, List.mem_of_getElem? (i := 371) (by decide +kernel), List.mem_of_getElem? (i := 369) (by decide +kernel), List.mem_of_getElem? (i := 370) (by decide +kernel)⟩
theorem lw_p3 : lw_okq (⟨"ShellWatch", "game", "()LShellWatch$Game;"⟩, 7) := ⟨⟨by decide +kernel, by decide +kernel⟩, List.mem_of_getElem? (i := 38) (by decide +kernel), List.mem_of_getElem? (i := 400) (by decide +kernel), List.mem_of_getElem? (i := 401) (by decide +kernel)⟩
theorem lw_p4 : lw_okq (⟨"ShellWatch", "requirePlaceOrHand", "(I)V"⟩, 7) := ⟨⟨by decide +kernel, by decide +kernel⟩, List.mem_of_getElem? (i := 38) (by decide +kernel), List.mem_of_getElem? (i := 420) (by decide +kernel), List.mem_of_getElem? (i := 421) (by decide +kernel)⟩
theorem lw_p5 : lw_okq (⟨"ShellWatch", "requireTwoPlaces", "(II)V"⟩, 7) := ⟨⟨by decide +kernel, by decide +kernel⟩, List.mem_of_getElem? (i := 38) (by decide +kernel), List.mem_of_getElem? (i := 438) (by decide +kernel), List.mem_of_getElem? (i := 439) (by decide +kernel)⟩
theorem lw_p6 : lw_okq (⟨"ShellWatch", "requirePlace", "(I)V"⟩, 7) := ⟨⟨by decide +kernel, by decide +kernel⟩, List.mem_of_getElem? (i := 38) (by decide +kernel), List.mem_of_getElem? (i := 442) (by decide +kernel), List.mem_of_getElem? (i := 443) (by decide +kernel)⟩
theorem lw_p7 : lw_okq (⟨"ShellWatch", "change", "()LShellWatch$Game;"⟩, 7) := ⟨⟨by decide +kernel, by decide +kernel⟩, List.mem_of_getElem? (i := 38) (by decide +kernel), List.mem_of_getElem? (i := 467) (by decide +kernel), List.mem_of_getElem? (i := 468) (by decide +kernel)⟩
theorem lw_p8 : lw_okq (⟨"ShellWatch$Mind", "exchange", "(II)V"⟩, 5) := ⟨⟨by decide +kernel, by decide +kernel⟩, List.mem_of_getElem? (i := 119) (by decide +kernel), List.mem_of_getElem? (i := 518) (by decide +kernel), List.mem_of_getElem? (i := 519) (by decide +kernel)⟩
theorem lw_p9 : lw_okq (⟨"ShellWatch$Mind", "wonder", "(LShellWatch$Row;)V"⟩, 5) := ⟨⟨by decide +kernel, by decide +kernel⟩, List.mem_of_getElem? (i := 119) (by decide +kernel), List.mem_of_getElem? (i := 522) (by decide +kernel), List.mem_of_getElem? (i := 523) (by decide +kernel)⟩
theorem lw_p10 : lw_okq (⟨"ShellWatch$Mind", "mix", "(II)V"⟩, 5) := ⟨⟨by decide +kernel, by decide +kernel⟩, List.mem_of_getElem? (i := 119) (by decide +kernel), List.mem_of_getElem? (i := 529) (by decide +kernel), List.mem_of_getElem? (i := 530) (by decide +kernel)⟩
theorem lw_p11 : lw_okq (⟨"ShellWatch$Mind", "settle", "()V"⟩, 5) := ⟨⟨by decide +kernel, by decide +kernel⟩, List.mem_of_getElem? (i := 119) (by decide +kernel), List.mem_of_getElem? (i := 533) (by decide +kernel), List.mem_of_getElem? (i := 534) (by decide +kernel)⟩
theorem lw_p12 : lw_okq (⟨"ShellWatch$Mind", "divideByCommonDivisor", "()V"⟩, 5) := ⟨⟨by decide +kernel, by decide +kernel⟩, List.mem_of_getElem? (i := 119) (by decide +kernel), List.mem_of_getElem? (i := 537) (by decide +kernel), List.mem_of_getElem? (i := 538) (by decide +kernel)⟩
theorem lw_p13 : lw_okq (⟨"ShellWatch$Mind", "halve", "()V"⟩, 5) := ⟨⟨by decide +kernel, by decide +kernel⟩, List.mem_of_getElem? (i := 119) (by decide +kernel), List.mem_of_getElem? (i := 552) (by decide +kernel), List.mem_of_getElem? (i := 553) (by decide +kernel)⟩
theorem lw_p14 : lw_okq (⟨"ShellWatch$Game", "countStep", "(Z)V"⟩, 9) := ⟨⟨by decide +kernel, by decide +kernel⟩, List.mem_of_getElem? (i := 162) (by decide +kernel), List.mem_of_getElem? (i := 568) (by decide +kernel), List.mem_of_getElem? (i := 569) (by decide +kernel)⟩
theorem lw_p15 : lw_okq (⟨"ShellWatchLaw$Story", "blind", "(LShellWatchLaw$Sight;II)J"⟩, 6) := ⟨⟨by decide +kernel, by decide +kernel⟩, List.mem_of_getElem? (i := 632) (by decide +kernel), List.mem_of_getElem? (i := 718) (by decide +kernel), List.mem_of_getElem? (i := 719) (by decide +kernel)⟩
def lw_privs_1 : List (MethodName × Nat) := [(⟨"ShellWatch$Formula", "put", "(I)V"⟩, 3), (⟨"ShellWatch", "requireWhat", "(II)V"⟩, 7), (⟨"java/lang/Throwable", "fillInStackTrace", "(I)Ljava/lang/Throwable;"⟩, 6), (⟨"ShellWatch", "game", "()LShellWatch$Game;"⟩, 7), (⟨"ShellWatch", "requirePlaceOrHand", "(I)V"⟩, 7), (⟨"ShellWatch", "requireTwoPlaces", "(II)V"⟩, 7), (⟨"ShellWatch", "requirePlace", "(I)V"⟩, 7), (⟨"ShellWatch", "change", "()LShellWatch$Game;"⟩, 7), (⟨"ShellWatch$Mind", "exchange", "(II)V"⟩, 5), (⟨"ShellWatch$Mind", "wonder", "(LShellWatch$Row;)V"⟩, 5), (⟨"ShellWatch$Mind", "mix", "(II)V"⟩, 5), (⟨"ShellWatch$Mind", "settle", "()V"⟩, 5), (⟨"ShellWatch$Mind", "divideByCommonDivisor", "()V"⟩, 5), (⟨"ShellWatch$Mind", "halve", "()V"⟩, 5), (⟨"ShellWatch$Game", "countStep", "(Z)V"⟩, 9), (⟨"ShellWatchLaw$Story", "blind", "(LShellWatchLaw$Sight;II)J"⟩, 6)]
theorem lw_r1 : ∀ q ∈ lw_privs_1, lw_okq q := List.forall_mem_cons.mpr ⟨lw_p0, List.forall_mem_cons.mpr ⟨lw_p1, List.forall_mem_cons.mpr ⟨lw_p2, List.forall_mem_cons.mpr ⟨lw_p3, List.forall_mem_cons.mpr ⟨lw_p4, List.forall_mem_cons.mpr ⟨lw_p5, List.forall_mem_cons.mpr ⟨lw_p6, List.forall_mem_cons.mpr ⟨lw_p7, List.forall_mem_cons.mpr ⟨lw_p8, List.forall_mem_cons.mpr ⟨lw_p9, List.forall_mem_cons.mpr ⟨lw_p10, List.forall_mem_cons.mpr ⟨lw_p11, List.forall_mem_cons.mpr ⟨lw_p12, List.forall_mem_cons.mpr ⟨lw_p13, List.forall_mem_cons.mpr ⟨lw_p14, List.forall_mem_cons.mpr ⟨lw_p15, fun _ h => absurd h List.not_mem_nil⟩⟩⟩⟩⟩⟩⟩⟩⟩⟩⟩⟩⟩⟩⟩⟩
theorem lw_p16 : lw_okq (⟨"ShellWatchLaw$Story", "open", "(LShellWatchLaw$Sight;II)J"⟩, 6) := ⟨⟨by decide +kernel, by decide +kernel⟩, List.mem_of_getElem? (i := 632) (by decide +kernel), List.mem_of_getElem? (i := 724) (by decide +kernel), List.mem_of_getElem? (i := 725) (by decide +kernel)⟩
theorem lw_p17 : lw_okq (⟨"ShellWatch", "requireLength", "(I)V"⟩, 7) := ⟨⟨by decide +kernel, by decide +kernel⟩, List.mem_of_getElem? (i := 38) (by decide +kernel), List.mem_of_getElem? (i := 815) (by decide +kernel), List.mem_of_getElem? (i := 816) (by decide +kernel)⟩
theorem lw_p18 : lw_okq (⟨"ShellWatch$Input", "kindAt", "(I)I"⟩, 10) := ⟨⟨by decide +kernel, by decide +kernel⟩, List.mem_of_getElem? (i := 46) (by decide +kernel), List.mem_of_getElem? (i := 826) (by decide +kernel), List.mem_of_getElem? (i := 827) (by decide +kernel)⟩
theorem lw_p19 : lw_okq (⟨"ShellWatch$Input", "addToken", "(II)V"⟩, 10) := ⟨⟨by decide +kernel, by decide +kernel⟩, List.mem_of_getElem? (i := 46) (by decide +kernel), List.mem_of_getElem? (i := 830) (by decide +kernel), List.mem_of_getElem? (i := 831) (by decide +kernel)⟩
theorem lw_p20 : lw_okq (⟨"ShellWatch$Input", "numberIn", "(II)I"⟩, 10) := ⟨⟨by decide +kernel, by decide +kernel⟩, List.mem_of_getElem? (i := 46) (by decide +kernel), List.mem_of_getElem? (i := 836) (by decide +kernel), List.mem_of_getElem? (i := 837) (by decide +kernel)⟩
theorem lw_p21 : lw_okq (⟨"ShellWatch$Input", "put", "(LShellWatch$Token;II)V"⟩, 10) := ⟨⟨by decide +kernel, by decide +kernel⟩, List.mem_of_getElem? (i := 46) (by decide +kernel), List.mem_of_getElem? (i := 840) (by decide +kernel), List.mem_of_getElem? (i := 841) (by decide +kernel)⟩
theorem lw_p22 : lw_okq (⟨"ShellWatch$Input", "tokenIn", "(II)LShellWatch$Token;"⟩, 10) := ⟨⟨by decide +kernel, by decide +kernel⟩, List.mem_of_getElem? (i := 46) (by decide +kernel), List.mem_of_getElem? (i := 844) (by decide +kernel), List.mem_of_getElem? (i := 845) (by decide +kernel)⟩
theorem lw_p23 : lw_okq (⟨"ShellWatch$Input", "isSpelled", "(Ljava/lang/String;II)Z"⟩, 10) := ⟨⟨by decide +kernel, by decide +kernel⟩, List.mem_of_getElem? (i := 46) (by decide +kernel), List.mem_of_getElem? (i := 850) (by decide +kernel), List.mem_of_getElem? (i := 851) (by decide +kernel)⟩
theorem lw_p24 : lw_okq (⟨"ShellWatch$Formula", "readSum", "(LShellWatch$Input;I)Z"⟩, 3) := ⟨⟨by decide +kernel, by decide +kernel⟩, List.mem_of_getElem? (i := 215) (by decide +kernel), List.mem_of_getElem? (i := 942) (by decide +kernel), List.mem_of_getElem? (i := 943) (by decide +kernel)⟩
theorem lw_p25 : lw_okq (⟨"ShellWatch$Formula", "readTerm", "(LShellWatch$Input;I)Z"⟩, 3) := ⟨⟨by decide +kernel, by decide +kernel⟩, List.mem_of_getElem? (i := 215) (by decide +kernel), List.mem_of_getElem? (i := 946) (by decide +kernel), List.mem_of_getElem? (i := 947) (by decide +kernel)⟩
theorem lw_p26 : lw_okq (⟨"ShellWatch$Formula", "readFactor", "(LShellWatch$Input;I)Z"⟩, 3) := ⟨⟨by decide +kernel, by decide +kernel⟩, List.mem_of_getElem? (i := 215) (by decide +kernel), List.mem_of_getElem? (i := 950) (by decide +kernel), List.mem_of_getElem? (i := 951) (by decide +kernel)⟩
theorem lw_p27 : lw_okq (⟨"ShellWatch", "moveBall", "(I)I"⟩, 7) := ⟨⟨by decide +kernel, by decide +kernel⟩, List.mem_of_getElem? (i := 38) (by decide +kernel), List.mem_of_getElem? (i := 1021) (by decide +kernel), List.mem_of_getElem? (i := 1022) (by decide +kernel)⟩
theorem lw_p28 : lw_okq (⟨"java/util/ArrayList", "add", "(Ljava/lang/Object;[Ljava/lang/Object;I)V"⟩, 3) := ⟨⟨by decide +kernel, by decide +kernel⟩, List.mem_of_getElem? (i := 638) (by decide +kernel), List.mem_of_getElem? (i := 1275) (by decide +kernel), List.mem_of_getElem? (i := 1276) (by decide +kernel)⟩
theorem lw_p29 : lw_okq (⟨"java/util/ArrayList", "grow", "()[Ljava/lang/Object;"⟩, 3) := ⟨⟨by decide +kernel, by decide +kernel⟩, List.mem_of_getElem? (i := 638) (by decide +kernel), List.mem_of_getElem? (i := 1279) (by decide +kernel), List.mem_of_getElem? (i := 1280) (by decide +kernel)⟩
theorem lw_p30 : lw_okq (⟨"java/util/ArrayList", "grow", "(I)[Ljava/lang/Object;"⟩, 3) := ⟨⟨by decide +kernel, by decide +kernel⟩, List.mem_of_getElem? (i := 638) (by decide +kernel), List.mem_of_getElem? (i := 1283) (by decide +kernel), List.mem_of_getElem? (i := 1284) (by decide +kernel)⟩
def lw_privs_2 : List (MethodName × Nat) := [(⟨"ShellWatchLaw$Story", "open", "(LShellWatchLaw$Sight;II)J"⟩, 6), (⟨"ShellWatch", "requireLength", "(I)V"⟩, 7), (⟨"ShellWatch$Input", "kindAt", "(I)I"⟩, 10), (⟨"ShellWatch$Input", "addToken", "(II)V"⟩, 10), (⟨"ShellWatch$Input", "numberIn", "(II)I"⟩, 10), (⟨"ShellWatch$Input", "put", "(LShellWatch$Token;II)V"⟩, 10), (⟨"ShellWatch$Input", "tokenIn", "(II)LShellWatch$Token;"⟩, 10), (⟨"ShellWatch$Input", "isSpelled", "(Ljava/lang/String;II)Z"⟩, 10), (⟨"ShellWatch$Formula", "readSum", "(LShellWatch$Input;I)Z"⟩, 3), (⟨"ShellWatch$Formula", "readTerm", "(LShellWatch$Input;I)Z"⟩, 3), (⟨"ShellWatch$Formula", "readFactor", "(LShellWatch$Input;I)Z"⟩, 3), (⟨"ShellWatch", "moveBall", "(I)I"⟩, 7), (⟨"java/util/ArrayList", "add", "(Ljava/lang/Object;[Ljava/lang/Object;I)V"⟩, 3), (⟨"java/util/ArrayList", "grow", "()[Ljava/lang/Object;"⟩, 3), (⟨"java/util/ArrayList", "grow", "(I)[Ljava/lang/Object;"⟩, 3)]
theorem lw_r2 : ∀ q ∈ lw_privs_2, lw_okq q := List.forall_mem_cons.mpr ⟨lw_p16, List.forall_mem_cons.mpr ⟨lw_p17, List.forall_mem_cons.mpr ⟨lw_p18, List.forall_mem_cons.mpr ⟨lw_p19, List.forall_mem_cons.mpr ⟨lw_p20, List.forall_mem_cons.mpr ⟨lw_p21, List.forall_mem_cons.mpr ⟨lw_p22, List.forall_mem_cons.mpr ⟨lw_p23, List.forall_mem_cons.mpr ⟨lw_p24, List.forall_mem_cons.mpr ⟨lw_p25, List.forall_mem_cons.mpr ⟨lw_p26, List.forall_mem_cons.mpr ⟨lw_p27, List.forall_mem_cons.mpr ⟨lw_p28, List.forall_mem_cons.mpr ⟨lw_p29, List.forall_mem_cons.mpr ⟨lw_p30, fun _ h => absurd h List.not_mem_nil⟩⟩⟩⟩⟩⟩⟩⟩⟩⟩⟩⟩⟩⟩⟩
def lw_privs : List (MethodName × Nat) := lw_privs_1 ++ (lw_privs_2)
def lw_tbl : List Cond := k2_sels lw_privs ++ tables_1
theorem lw_privs_ok : ∀ q ∈ lw_privs, lw_okq q := by
  show ∀ q ∈ lw_privs_1 ++ (lw_privs_2), lw_okq q
  exact List.forall_mem_append.mpr ⟨lw_r1, lw_r2⟩
/-! ===== BEGIN words of one list among another's, by their places ===== -/
theorem goodIn_r {big : List Cond} (ws : List Cond) (ps : List Nat) (hp : ws = ps.filterMap (fun i => big[i]?)) (h : ws.all goodWord = true) : GoodIn big ws := by
  intro w hw
  have h1 := List.all_eq_true.mp h w hw
  rw [hp] at hw
  obtain ⟨i, -, hi⟩ := List.mem_filterMap.mp hw
  have hm : w ∈ big := by first | exact List.mem_of_getElem? hi | exact List.getElem?_mem hi
  exact ⟨hm, good_of_word h1⟩
theorem goodIn_app {big a b : List Cond} (ha : GoodIn big a) (hb : GoodIn big b) : GoodIn big (a ++ b) := fun w h => (List.mem_append.mp h).elim (ha w) (hb w)
theorem goodIn_ca {big a b : List Cond} {c : Cond} (ha : GoodIn big (c :: a)) (hb : GoodIn big b) : GoodIn big (c :: (a ++ b)) := fun w h => (List.mem_cons.mp h).elim (fun e => ha w (List.mem_cons.mpr (Or.inl e))) (fun h => (List.mem_append.mp h).elim (fun h => ha w (List.mem_cons.mpr (Or.inr h))) (hb w))
theorem goodIn_sub {big ws : List Cond} (hm : ∀ w ∈ ws, w ∈ big) (h : ws.all goodWord = true) : GoodIn big ws := fun w hw => ⟨hm w hw, good_of_word (List.all_eq_true.mp h w hw)⟩
/-! ===== END ===== -/

/-! ===== BEGIN exceptions that leave a method, and their catching by the caller (launches without stack traces) ===== -/
section VXA
/-! The laws vx_back, vx_callV, vx_callS, vx_callSW, vx_throw0, vx_throwS follow proofs of the library, with one case more: JvmDerived/Free/Laws.lean (Back.of_free), Shelf42/LK1.lean (callV, callS), Shelf/KitTraced.lean (throwNew0V, throwNewS). -/
/-- where a method has thrown q: the class by its name, the cell, what was written, the world -/
def vx_T (XC : String → State → State → Prop) (st : State) (q : Addr) (t : State) (mc ms : Nat) (free : Addr → Prop) : Prop :=
  ∃ (E : String) (ce : Cell) (L : List Loc), XC E st t ∧ t.heap[q]? = some ce ∧ ce.vm = .none ∧ st.vm.findClass E = some ce.cls ∧ st.WarmedH t.vm ∧ st.sameButNew ({ t with vm := st.vm } : State) L mc ms ∧ ∀ z ∈ L, free z.base
def vx_Q (Qc : Array Value → State → Outcome → State → Prop) (XC : String → State → State → Prop) (mc ms : Nat) (free : Addr → Prop) : Array Value → State → Outcome → State → Prop := fun a st o t =>
  (Qc a st o t ∧ ∃ L, FrameEnd st o t L mc ms ∧ ∀ q ∈ L, free q.base) ∨ ∃ q, o = .threw q ∧ vx_T XC st q t mc ms free
/-- a callee that returns or throws -/
def vx_Met (l : Launch) (y : MethodName) (ws : List Cond) (rm : Room) (Pc : Array Value → State → Prop) (Qc : Array Value → State → Outcome → State → Prop) (XC : String → State → State → Prop) (mc ms : Nat) (free : Addr → Prop) : Prop :=
  MetFree l y (headSpec ws rm) Pc (fun _ _ _ _ _ => True) (vx_Q Qc XC mc ms free)
def vx_Post (XC : String → State → State → Prop) (mc ms : Nat) (free : Addr → Prop) : Pt → Array Value → Addr → Pt → Prop := fun A a q B =>
  ∃ (g : JFrame) (mk : MethodId) (t : State) (L : List Loc) (E : String) (ce : Cell), B.U.heap = t.heap ∧ B.U.vm = t.vm ∧ XC E (A.U.calling g mk a) t ∧ t.heap[q]? = some ce ∧ ce.vm = .none ∧ A.U.vm.findClass E = some ce.cls ∧ B.locs = A.locs ++ L ∧ (∀ z ∈ L, free z.base) ∧ B.cells = A.cells + mc ∧ B.slots = A.slots + ms
def vx_Back (l : Launch) (R : Room) (p : Program) (e : Env) (below : List Frame) (s : State) (sargs : Array Value) (y : MethodName) (len W9 : Nat)
    (Pre : Pt → Array Value → Prop) (Post : Pt → Array Value → Option Value → Pt → Prop) (PostX : Pt → Array Value → Addr → Pt → Prop) : Prop :=
  ∀ (m : MethodId) (meth : Method) (c : Code) (A : Pt) (g : JFrame) (ig : Instr) (mk : MethodId) (a : Array Value),
    Stand p l e R s m sargs below meth c A.U A.locs A.cells A.slots → g.method = m → g.locals.size = c.maxLocals → decode c.code g.pc = .ok (ig, len) →
    2 * g.monitorRoom + (g.stack.map fun v => v.category).sum ≤ W9 → A.U.methodNamed? y = some mk → Pre A a →
    (∃ (v : Option Value) (B : Pt), Stand p l e R s m sargs below meth c B.U B.locs B.cells B.slots ∧ Post A a v B ∧
      Steps p.tables e below (doInvoke e (A.U.setTop g) [] mk a).1 (B.U.setTop { g with pc := g.pc + len, stack := v.toList ++ g.stack })) ∨
    (∃ (q : Addr) (B : Pt), Stand p l e R s m sargs below meth c B.U B.locs B.cells B.slots ∧ PostX A a q B ∧
      Steps p.tables e below (doInvoke e (A.U.setTop g) [] mk a).1 ((B.U.setTop g).pushFrame (.throwing q)))
section Payer
variable {l : Launch} {R : Room} {p : Program} {e : Env} {below : List Frame} {s : State} {sargs : Array Value} {y : MethodName} {len W9 : Nat}
theorem vx_back {ws : List Cond} {rm : Room} {Pc : Array Value → State → Prop} {Qc : Array Value → State → Outcome → State → Prop} {XC : String → State → State → Prop} {mc ms : Nat} {free : Addr → Prop} {bytes : ByteArray} {maxL : Nat} {ret : Option FieldType}
    (hM : vx_Met l y ws rm Pc Qc XC mc ms free) (hblind : FrameBlind Pc) (hrc : rm.cells = mc) (hrs : rm.slots = ms)
    (hframes : rm.frames + 1 ≤ R.frames) (hlocals : W9 + (maxL + 11) + rm.locals ≤ R.locals)
    (hws : ∀ w ∈ ws, ∀ a' U, s.WarmedH U.vm → w.before a' U = true) (hcode : Cond.code y bytes maxL ret ∈ ws) (hinit : ∀ a' U, s.WarmedH U.vm → (Cond.initialized y.cls).before a' U = true) :
    vx_Back l R p e below s sargs y len W9 (PreOf R mc ms Pc) (PostOf Qc mc ms free) (vx_Post XC mc ms free) := by
  intro m meth c A g ig mk a X hg hsize hdg hW hn hp
  have h1 : (headSpec ws rm).pre.before a A.U = true := atoms_intro fun w hw => hws w hw _ _ X.warmed
  have h2 : (Cond.code y bytes maxL ret).before a A.U = true := hws _ hcode _ _ X.warmed
  have h3 : (Cond.initialized y.cls).before a A.U = true := hinit _ _ X.warmed
  have h4 : A.cells + (headSpec ws rm).room.cells ≤ R.cells := by rw [show (headSpec ws rm).room.cells = mc from hrc]; exact hp.1
  have h5 : A.slots + (headSpec ws rm).room.slots ≤ R.slots := by rw [show (headSpec ws rm).room.slots = ms from hrs]; exact hp.2.1
  have hPc : Pc a (A.U.calling g mk a) := hblind _ _ _ _ hp.2.2
  obtain ⟨U, Ls, c0, s0⟩ := A
  dsimp only [Pt.U, Pt.locs, Pt.cells, Pt.slots] at h1 h2 h3 h4 h5 X hn hPc ⊢
  obtain ⟨methY, cY, hmY, hcY, -, hlY, -, -, -, -⟩ := Cond.code_spec hn h2
  obtain ⟨kY, hkY, -⟩ := className_of_methodNamed hn
  have hinitY : kY.init = .initialized := Cond.initialized_spec (findClass_of_methodNamed hn) hkY h3
  have h : At U g.method c below := by rw [hg]; exact X.here
  have hlocals9 : W9 + (maxL + 11) + (headSpec ws rm).room.locals ≤ R.locals := hlocals
  have happ : (headSpec ws rm).appliesLoose y e.platform (U.calling g mk a) = true :=
    Spec.appliesLoose_calling (g := g) h hdg hn hkY hinitY
      (X.room_calling (g := g) (R' := (headSpec ws rm).room) hsize hmY hcY hframes (by rw [hlY]; omega) h4 h5) h1
  obtain ⟨mid, hmid⟩ := h.above
  have hfr : (U.setTop g).frames = (.java g :: mid) ++ below := by rw [State.frames_setTop' g h.top, hmid]; rfl
  obtain ⟨o, s₂, hsteps, -, hend, hq⟩ := Steps.callFree hM p X.admits X.cas X.clock (acts := []) hfr happ hPc trivial
  have hq' : vx_Q Qc XC mc ms free a (U.calling g mk a) o s₂ := hq
  rw [State.frames_setTop' g h.top] at hend
  obtain ⟨g₀, hg0⟩ := Option.isSome_iff_exists.mp h.top
  obtain ⟨r, hr⟩ := State.topJava?_eq_some.mp hg0
  have hr' : (({ U with heap := s₂.heap, slotsUsed := s₂.slotsUsed } : State).setVm s₂.vm).frames = .java g₀ :: r := hr
  rcases hq' with ⟨hqc, L, hfe, hL⟩ | ⟨q, rfl, E, ce, L, hx, hce, hcv, hcl, hW₂, hsm, hL⟩
  · obtain ⟨⟨v, rfl⟩, hW₂, e2, q2, q3, q4, q5, q6⟩ := id hfe
    have e3 : s₂ = ({ (U.calling g mk a).setFrames s₂.frames with heap := s₂.heap, slotsUsed := s₂.slotsUsed } : State).setVm s₂.vm := by
      have : s₂ = ({ s₂ with vm := (U.calling g mk a).vm } : State).setVm s₂.vm := rfl
      rw [e2] at this
      exact this
    obtain ⟨c₂, i₂, len₂, hc₂, hd₂, hf₂⟩ := hend
    have hW' : U.WarmedH s₂.vm := hW₂
    have hcc : c₂ = c := by
      have h1 : s₂.code? g.method = U.code? g.method := by
        rw [State.code?_eq, State.code?_eq, hW'.alike.method?]
      exact Option.some.inj (hc₂.symm.trans (h1.trans h.code))
    subst hcc
    have hlen : len₂ = len := by rw [hdg] at hd₂; cases hd₂; rfl
    subst hlen
    have hs₂ : s₂ = (({ U with heap := s₂.heap, slotsUsed := s₂.slotsUsed } : State).setVm s₂.vm).setTop { g with pc := g.pc + len₂, stack := v.toList ++ g.stack } := by
      refine e3.trans ?_
      rw [hf₂, State.calling_eq h.top, State.setFrames_setFrames, State.setTop_of_frames _ hr', hr]
      rfl
    have hsame : U.sameButNew ({ U with heap := s₂.heap, slotsUsed := s₂.slotsUsed } : State) L mc ms := by
      refine ⟨?_, q2, q3, q4, q5, q6⟩
      obtain ⟨t, ht, -⟩ := State.frames_cons hr
      show ({ U with heap := s₂.heap, slotsUsed := s₂.slotsUsed } : State) = { U.setFrames U.frames with heap := s₂.heap, slotsUsed := s₂.slotsUsed }
      rw [State.setFrames_self ht]
    subst hg
    refine Or.inl ⟨v, ⟨(({ U with heap := s₂.heap, slotsUsed := s₂.slotsUsed } : State).setVm s₂.vm), Ls ++ L, c0 + mc, s0 + ms⟩,
      ⟨X.admits, X.cas, X.clock, X.frames, X.room, X.hears, X.method, X.code, (X.here.setHeapUsed s₂.heap s₂.slotsUsed).setVm hW'.alike, X.tail, State.WarmedH.trans X.warmed hW', X.limits, X.bytes, X.same.trans (hsame.setVm s.vm)⟩,
      ⟨g, mk, s₂, L, rfl, rfl, hqc, rfl, hL, rfl, rfl⟩, ?_⟩
    show Steps p.tables e below _ ((({ U with heap := s₂.heap, slotsUsed := s₂.slotsUsed } : State).setVm s₂.vm).setTop { g with pc := g.pc + len₂, stack := v.toList ++ g.stack })
    rw [← hs₂]
    exact hsteps
  · obtain ⟨e2, q2, q3, q4, q5, q6⟩ := id hsm
    have e3 : s₂ = ({ (U.calling g mk a).setFrames s₂.frames with heap := s₂.heap, slotsUsed := s₂.slotsUsed } : State).setVm s₂.vm := by
      have : s₂ = ({ s₂ with vm := (U.calling g mk a).vm } : State).setVm s₂.vm := rfl
      rw [e2] at this
      exact this
    have hf₂ : s₂.frames = .throwing q :: .java g :: U.frames.tail := hend
    have hW' : U.WarmedH s₂.vm := hW₂
    have hs₂ : s₂ = ((({ U with heap := s₂.heap, slotsUsed := s₂.slotsUsed } : State).setVm s₂.vm).setTop g).pushFrame (.throwing q) := by
      refine e3.trans ?_
      rw [hf₂, State.calling_eq h.top, State.setFrames_setFrames, State.pushFrame, State.frames_setTop _ hr', State.setTop_of_frames _ hr', State.setFrames_setFrames, hr]
      rfl
    have hsame : U.sameButNew ({ U with heap := s₂.heap, slotsUsed := s₂.slotsUsed } : State) L mc ms := by
      refine ⟨?_, q2, q3, q4, q5, q6⟩
      obtain ⟨t, ht, -⟩ := State.frames_cons hr
      show ({ U with heap := s₂.heap, slotsUsed := s₂.slotsUsed } : State) = { U.setFrames U.frames with heap := s₂.heap, slotsUsed := s₂.slotsUsed }
      rw [State.setFrames_self ht]
    subst hg
    refine Or.inr ⟨q, ⟨(({ U with heap := s₂.heap, slotsUsed := s₂.slotsUsed } : State).setVm s₂.vm), Ls ++ L, c0 + mc, s0 + ms⟩,
      ⟨X.admits, X.cas, X.clock, X.frames, X.room, X.hears, X.method, X.code, (X.here.setHeapUsed s₂.heap s₂.slotsUsed).setVm hW'.alike, X.tail, State.WarmedH.trans X.warmed hW', X.limits, X.bytes, X.same.trans (hsame.setVm s.vm)⟩,
      ⟨g, mk, s₂, L, E, ce, rfl, rfl, hx, hce, hcv, hcl, rfl, hL, rfl, rfl⟩, ?_⟩
    show Steps p.tables e below _ (((({ U with heap := s₂.heap, slotsUsed := s₂.slotsUsed } : State).setVm s₂.vm).setTop g).pushFrame (.throwing q))
    rw [← hs₂]
    exact hsteps
end Payer
section Calls
variable {p : Program} {l : Launch} {e : Env} {R : Room} {s : State} {m : MethodId} {args : Array Value} {below : List Frame} {meth : Method} {c : Code} {T : State} {locs : List Loc} {cells slots : Nat}
theorem vx_callV (X : Stand p l e R s m args below meth c T locs cells slots) (hexec : p.tables.exec = Jvm.exec) {own C : String} {index : Nat} {y : MethodName} {bytes : ByteArray} {maxL : Nat} {ret : Option FieldType}
    (hown : s.vm.findClass own = some m.cls) (hlink : (Cond.methodLink own index y).before args s = true) (hinst : (Cond.instanceMethod y).before args s = true) (hsel : (Cond.selects C y y).before args s = true)
    (hcode : (Cond.code y bytes maxL ret).before args s = true) (hy : y.cls ≠ "java/lang/invoke/MethodHandle" ∧ y.cls ≠ "java/lang/invoke/VarHandle")
    {W9 : Nat} {Pre : Pt → Array Value → Prop} {Post : Pt → Array Value → Option Value → Pt → Prop} {PostX : Pt → Array Value → Addr → Pt → Prop} (hK : vx_Back l R p e below s args y 3 W9 Pre Post PostX)
    {b : Addr} {cellB : Cell} (hcell : T.heap[b]? = some cellB) (hobj : cellB.vm.isStatics = false) (hcls : s.vm.findClass C = some cellB.cls)
    {g : JFrame} (hg : g.method = m) (hsize : g.locals.size = c.maxLocals) {argsL rest : List Value} (hlen : ∀ sig, parseMethodDescriptor y.desc = some sig → argsL.length = sig.parameters.length)
    (hstack : g.stack = argsL.reverse ++ .ref b :: rest) (hW : 2 * g.monitorRoom + (rest.map fun v => v.category).sum ≤ W9) (hdg : decode c.code g.pc = .ok (.invokevirtual index, 3))
    (hpre : ∀ vm₁, s.WarmedH vm₁ → Pre ⟨T.setVm vm₁, locs, cells, slots⟩ (Value.ref b :: argsL).toArray) :
    (∃ (v : Option Value) (vm₁ : Vm) (B : Pt), s.WarmedH vm₁ ∧ Stand p l e R s m args below meth c B.U B.locs B.cells B.slots ∧ Post ⟨T.setVm vm₁, locs, cells, slots⟩ (Value.ref b :: argsL).toArray v B ∧
      ∀ target, Steps p.tables e below (B.U.setTop { g with pc := g.pc + 3, stack := v.toList ++ rest }) target → Steps p.tables e below (T.setTop g) target) ∨
    (∃ (q : Addr) (vm₁ : Vm) (B : Pt), s.WarmedH vm₁ ∧ Stand p l e R s m args below meth c B.U B.locs B.cells B.slots ∧ PostX ⟨T.setVm vm₁, locs, cells, slots⟩ (Value.ref b :: argsL).toArray q B ∧
      Steps p.tables e below (T.setTop g) ((B.U.setTop { g with stack := rest }).pushFrame (.throwing q))) := by
  obtain ⟨mk, methM, hnamed, hmethM, hstM, habM⟩ := Cond.instanceMethod_spec hinst
  obtain ⟨methM', cM, hmethM', -, -, -, -, -, -, hsigM⟩ := Cond.code_spec hnamed hcode
  cases hmethM.symm.trans hmethM'
  obtain ⟨c2, r2, m2, q1, q2, q3, q4, kP, hkP, hkPi⟩ := Cond.selects_spec hsel
  cases hcls.symm.trans q1
  cases (State.methodFound?_of_named hnamed hy).symm.trans q2
  cases hnamed.symm.trans q3
  have hselP : selectMethod e.platform s.vm cellB.cls mk = .method mk := by rw [Launch.admits_selectMethod X.admits]; exact q4
  obtain ⟨vm₁, X₁, hstep₁⟩ := X.invokevirtual hexec hown hlink hnamed hmethM hstM hkP hkPi hy (a := b) (cell := cellB) hcell
    (fun z h => by rw [h] at hobj; cases hobj) hselP hmethM habM hkP hkPi (g := g) hg (argsL := argsL) (rest := rest) (hlen _ hsigM) hstack hdg
  rcases hK m meth c ⟨T.setVm vm₁, locs, cells, slots⟩ { g with stack := rest } (.invokevirtual index) mk (Value.ref b :: argsL).toArray X₁ hg hsize hdg hW (X₁.named hnamed) (hpre vm₁ X₁.warmed) with ⟨v, B, X', hpost, hsteps⟩ | ⟨q, B, X', hpost, hsteps⟩
  · exact Or.inl ⟨v, vm₁, B, X₁.warmed, X', hpost, fun target h => hstep₁ _ fun acts => by rw [doInvoke_state]; exact hsteps.trans h⟩
  · exact Or.inr ⟨q, vm₁, B, X₁.warmed, X', hpost, hstep₁ _ fun acts => by rw [doInvoke_state]; exact hsteps⟩
theorem vx_callS (X : Stand p l e R s m args below meth c T locs cells slots) (hexec : p.tables.exec = Jvm.exec) {own : String} {index : Nat} {y : MethodName} {bytes : ByteArray} {maxL : Nat} {ret : Option FieldType}
    (hown : s.vm.findClass own = some m.cls) (hlink : (Cond.methodLink own index y).before args s = true) (hstat : (Cond.static y).before args s = true) (hinit : (Cond.initialized y.cls).before args s = true)
    (hcode : (Cond.code y bytes maxL ret).before args s = true) (hy : y.cls ≠ "java/lang/invoke/MethodHandle" ∧ y.cls ≠ "java/lang/invoke/VarHandle")
    {W9 : Nat} {Pre : Pt → Array Value → Prop} {Post : Pt → Array Value → Option Value → Pt → Prop} {PostX : Pt → Array Value → Addr → Pt → Prop} (hK : vx_Back l R p e below s args y 3 W9 Pre Post PostX)
    {g : JFrame} (hg : g.method = m) (hsize : g.locals.size = c.maxLocals) {argsL rest : List Value} (hlen : ∀ sig, parseMethodDescriptor y.desc = some sig → argsL.length = sig.parameters.length)
    (hstack : g.stack = argsL.reverse ++ rest) (hW : 2 * g.monitorRoom + (rest.map fun v => v.category).sum ≤ W9) (hdg : decode c.code g.pc = .ok (.invokestatic index, 3))
    (hpre : ∀ vm₁, s.WarmedH vm₁ → Pre ⟨T.setVm vm₁, locs, cells, slots⟩ argsL.toArray) :
    (∃ (v : Option Value) (vm₁ : Vm) (B : Pt), s.WarmedH vm₁ ∧ Stand p l e R s m args below meth c B.U B.locs B.cells B.slots ∧ Post ⟨T.setVm vm₁, locs, cells, slots⟩ argsL.toArray v B ∧
      ∀ target, Steps p.tables e below (B.U.setTop { g with pc := g.pc + 3, stack := v.toList ++ rest }) target → Steps p.tables e below (T.setTop g) target) ∨
    (∃ (q : Addr) (vm₁ : Vm) (B : Pt), s.WarmedH vm₁ ∧ Stand p l e R s m args below meth c B.U B.locs B.cells B.slots ∧ PostX ⟨T.setVm vm₁, locs, cells, slots⟩ argsL.toArray q B ∧
      Steps p.tables e below (T.setTop g) ((B.U.setTop { g with stack := rest }).pushFrame (.throwing q))) := by
  obtain ⟨mk, hnamed⟩ := Cond.code_named hcode
  obtain ⟨methM, cM, hmethM, -, -, -, -, -, -, hsigM⟩ := Cond.code_spec hnamed hcode
  have hstatic : methM.isStatic = true := Cond.static_spec hnamed hmethM hstat
  obtain ⟨kP, hkP, -⟩ := className_of_methodNamed hnamed
  have hinitP : kP.init = .initialized := Cond.initialized_spec (findClass_of_methodNamed hnamed) hkP hinit
  obtain ⟨vm₁, X₁, hstep₁⟩ := X.invokestatic hexec hown hlink hnamed hmethM hstatic hkP hinitP hy (g := g) hg (argsL := argsL) (rest := rest) (hlen _ hsigM) hstack hdg
  rcases hK m meth c ⟨T.setVm vm₁, locs, cells, slots⟩ { g with stack := rest } (.invokestatic index) mk argsL.toArray X₁ hg hsize hdg hW (X₁.named hnamed) (hpre vm₁ X₁.warmed) with ⟨v, B, X', hpost, hsteps⟩ | ⟨q, B, X', hpost, hsteps⟩
  · exact Or.inl ⟨v, vm₁, B, X₁.warmed, X', hpost, fun target h => hstep₁ _ fun acts => by rw [doInvoke_state]; exact hsteps.trans h⟩
  · exact Or.inr ⟨q, vm₁, B, X₁.warmed, X', hpost, hstep₁ _ fun acts => by rw [doInvoke_state]; exact hsteps⟩
end Calls
theorem vx_cls {s : State} {T : State} {vm₁ : Vm} {E : String} {k : ClassId} (hW : s.WarmedH vm₁) (h : (T.setVm vm₁).vm.findClass E = some k) : s.vm.findClass E = some k := by
  have h1 : vm₁.findClass E = some k := h
  rw [hW.alike.findClass] at h1
  exact h1
/-- the method's frame g, with q thrown over it -/
def vx_W (p : Program) (l : Launch) (e : Env) (R : Room) (s : State) (m : MethodId) (args : Array Value) (below : List Frame) (meth : Method) (c : Code) (H : Heap) (locs : List Loc) (cells slots : Nat) (Q : State → Prop) (g : JFrame) (q : Addr) : Prop :=
  ∀ T : State, T.heap = H → Stand p l e R s m args below meth c T locs cells slots → ∃ t, Steps p.tables e below ((T.setTop g).pushFrame (.throwing q)) t ∧ Q t
def vx_Run (p : Program) (l : Launch) (e : Env) (R : Room) (s : State) (m : MethodId) (args : Array Value) (below : List Frame) (meth : Method) (c : Code) (H : Heap) (locs : List Loc) (cells slots mc ms : Nat) (g : JFrame) (rest : List Value) (Qa : State → Outcome → State → Prop) (XC : String → State → State → Prop) (free : Addr → Prop) : Prop :=
  ∀ T : State, T.heap = H → Stand p l e R s m args below meth c T locs cells slots →
    (∃ (v : Option Value) (st₀ t T' : State) (L : List Loc), st₀.heap = H ∧ Stand p l e R s m args below meth c T' (locs ++ L) (cells + mc) (slots + ms) ∧ (∀ q ∈ L, free q.base) ∧ T'.heap = t.heap ∧ T'.vm = t.vm ∧ Qa st₀ (.returned v) t ∧
      Goes p e below T g T' { g with pc := g.pc + 3, stack := v.toList ++ rest }) ∨
    (∃ (q : Addr) (st₀ t T' : State) (L : List Loc) (E : String) (ce : Cell), st₀.heap = H ∧ Stand p l e R s m args below meth c T' (locs ++ L) (cells + mc) (slots + ms) ∧ (∀ z ∈ L, free z.base) ∧ T'.heap = t.heap ∧ T'.vm = t.vm ∧ XC E st₀ t ∧ t.heap[q]? = some ce ∧ ce.vm = .none ∧ s.vm.findClass E = some ce.cls ∧
      Steps p.tables e below (T.setTop g) ((T'.setTop { g with stack := rest }).pushFrame (.throwing q)))
def vx_X {S : Type} (px : S → Prop) (B : String → S → State → Prop) (A : Nat → Prop) : String → State → State → Prop := fun E st t => ∃ u : S, px u ∧ B E u t ∧ va_F A st t
section Runs
variable {p : Program} {l : Launch} {e : Env} {R : Room} {s : State} {m : MethodId} {args : Array Value} {below : List Frame} {meth : Method} {c : Code} {H : Heap} {locs : List Loc} {cells slots : Nat}
variable {y : MethodName} {bytes cc : ByteArray} {maxL nL mc ms n index : Nat} {ret : Option FieldType} {ws : List Cond} {rm : Room} {Pc : Array Value → State → Prop} {Qc : Array Value → State → Outcome → State → Prop} {XC : String → State → State → Prop} {free : Addr → Prop} {Ts : List Cond} {own C : String} {b : Addr} {As rest : List Value} {g : JFrame}
theorem vx_callBack (cb : CallB R s args own index y bytes maxL ret ws rm mc ms n) (hM : vx_Met l y ws rm Pc Qc XC mc ms free) (hbl : FrameBlind Pc) : vx_Back l R p e below s args y 3 8 (PreOf R mc ms Pc) (PostOf Qc mc ms free) (vx_Post XC mc ms free) := by
  obtain ⟨hrc, hrs, hfr, hlo, hws, hcw, -, hini, -⟩ := cb
  exact vx_back (bytes := bytes) (maxL := maxL) (ret := ret) hM hbl hrc hrs hfr hlo hws hcw (fun a' U hW => word_at hW (Or.inl (by first | rfl | simp [Cond.onTables, Cond.keeps, Cond.steady])) hini)
theorem vx_runV (S : CallFix p m c cc nL s args Ts own) (hM : vx_Met l y ws rm Pc Qc XC mc ms free) (cw : CallW R s args own C index y bytes maxL ret ws rm mc ms n) (hp : PreV s H C b Pc As)
    (hg : g.method = m) (hn : As.length = n) (hsize : g.locals.size = nL) (hstack : g.stack = As.reverse ++ .ref b :: rest) (hW : 2 * g.monitorRoom + (rest.map fun v => v.category).sum ≤ 8) (hdg : decode cc g.pc = .ok (.invokevirtual index, 3)) (hf : cells + mc ≤ R.cells ∧ slots + ms ≤ R.slots) :
    vx_Run p l e R s m args below meth c H locs cells slots mc ms g rest (Qc (Value.ref b :: As).toArray) XC free := by
  have hK : vx_Back l R p e below s args y 3 8 (PreOf R mc ms Pc) (PostOf Qc mc ms free) (vx_Post XC mc ms free) := vx_callBack cw.1 hM hp.1
  obtain ⟨⟨-, -, -, -, -, -, hcode, -, hy, hlen, hl⟩, hin, hse⟩ := cw
  obtain ⟨hx, hb, hml, ho, -⟩ := S
  obtain ⟨-, ⟨cellB, hcB, hoB, hclB⟩, hPc⟩ := hp
  intro T hT X
  rcases vx_callV X hx (C := C) (bytes := bytes) (maxL := maxL) (ret := ret) ho hl hin hse hcode hy hK (by rw [hT]; exact hcB) hoB hclB hg (hsize.trans hml.symm) (argsL := As) (rest := rest) (fun sig h => hn.trans (hlen sig h)) hstack hW (by rw [hb]; exact hdg)
    (fun vm₁ hW₁ => ⟨hf.1, hf.2, hPc (T.setVm vm₁) hT hW₁⟩) with ⟨v, vm₁, ⟨U', l2, c2, s2⟩, hW₁, X', ⟨g', mk, t, L, e1, e2, hq, h1, hL, h2, h3⟩, st⟩ | ⟨q, vm₁, ⟨U', l2, c2, s2⟩, hW₁, X', ⟨g', mk, t, L, E, ce, e1, e2, hq, hce, hcv, hcl, h1, hL, h2, h3⟩, st⟩
  · dsimp only [Pt.U, Pt.locs, Pt.cells, Pt.slots] at X' e1 e2 h1 h2 h3 st
    subst h1; subst h2; subst h3
    exact Or.inl ⟨v, (T.setVm vm₁).calling g' mk (Value.ref b :: As).toArray, t, U', L, hT, X', hL, e1, e2, hq, st⟩
  · dsimp only [Pt.U, Pt.locs, Pt.cells, Pt.slots] at X' e1 e2 h1 h2 h3 st hcl
    subst h1; subst h2; subst h3
    exact Or.inr ⟨q, (T.setVm vm₁).calling g' mk (Value.ref b :: As).toArray, t, U', L, E, ce, hT, X', hL, e1, e2, hq, hce, hcv, vx_cls hW₁ hcl, st⟩
theorem vx_runS (S : CallFix p m c cc nL s args Ts own) (hM : vx_Met l y ws rm Pc Qc XC mc ms free) (cw : CallB R s args own index y bytes maxL ret ws rm mc ms n ∧ (Cond.static y).before args s = true) (hp : PreS s H Pc As)
    (hg : g.method = m) (hn : As.length = n) (hsize : g.locals.size = nL) (hstack : g.stack = As.reverse ++ rest) (hW : 2 * g.monitorRoom + (rest.map fun v => v.category).sum ≤ 8) (hdg : decode cc g.pc = .ok (.invokestatic index, 3)) (hf : cells + mc ≤ R.cells ∧ slots + ms ≤ R.slots) :
    vx_Run p l e R s m args below meth c H locs cells slots mc ms g rest (Qc As.toArray) XC free := by
  have hK : vx_Back l R p e below s args y 3 8 (PreOf R mc ms Pc) (PostOf Qc mc ms free) (vx_Post XC mc ms free) := vx_callBack cw.1 hM hp.1
  obtain ⟨⟨-, -, -, -, -, -, hcode, hini, hy, hlen, hl⟩, hstt⟩ := cw
  obtain ⟨hx, hb, hml, ho, -⟩ := S
  intro T hT X
  rcases vx_callS X hx (bytes := bytes) (maxL := maxL) (ret := ret) ho hl hstt hini hcode hy hK hg (hsize.trans hml.symm) (argsL := As) (rest := rest) (fun sig h => hn.trans (hlen sig h)) hstack hW (by rw [hb]; exact hdg)
    (fun vm₁ hW₁ => ⟨hf.1, hf.2, hp.2 (T.setVm vm₁) hT hW₁⟩) with ⟨v, vm₁, ⟨U', l2, c2, s2⟩, hW₁, X', ⟨g', mk, t, L, e1, e2, hq, h1, hL, h2, h3⟩, st⟩ | ⟨q, vm₁, ⟨U', l2, c2, s2⟩, hW₁, X', ⟨g', mk, t, L, E, ce, e1, e2, hq, hce, hcv, hcl, h1, hL, h2, h3⟩, st⟩
  · dsimp only [Pt.U, Pt.locs, Pt.cells, Pt.slots] at X' e1 e2 h1 h2 h3 st
    subst h1; subst h2; subst h3
    exact Or.inl ⟨v, (T.setVm vm₁).calling g' mk As.toArray, t, U', L, hT, X', hL, e1, e2, hq, st⟩
  · dsimp only [Pt.U, Pt.locs, Pt.cells, Pt.slots] at X' e1 e2 h1 h2 h3 st hcl
    subst h1; subst h2; subst h3
    exact Or.inr ⟨q, (T.setVm vm₁).calling g' mk As.toArray, t, U', L, E, ce, hT, X', hL, e1, e2, hq, hce, hcv, vx_cls hW₁ hcl, st⟩
end Runs
section Rows
variable {p : Program} {l : Launch} {e : Env} {R : Room} {s : State} {m : MethodId} {args : Array Value} {below : List Frame} {meth : Method} {c : Code} {H : Heap} {locs : List Loc} {cells slots : Nat} {Q : State → Prop}
variable {mc ms : Nat} {free : Addr → Prop} {A0 A1 : Nat → Prop} {H0 : Heap} {a : Array Value} {pc : Nat} {ls : Array Slot} {st0 rest : List Value}
theorem vx_keep {st₀ t T' : State} {L : List Loc} (h0 : st₀.heap = H) (e1 : T'.heap = t.heap) (hS : va_S A0 H0 H locs) (hA : ∀ q, q < H.size → A1 q → A0 q) (hf : ∀ q, free q → A0 q) (hL : ∀ q ∈ L, free q.base) (hF : va_F A1 st₀ t) :
    H.size ≤ T'.heap.size ∧ (∀ q : Nat, q < H.size → ¬ A1 q → T'.heap[q]? = H[q]?) ∧ va_S A0 H0 T'.heap (locs ++ L) := by
  obtain ⟨hz, hk⟩ := hF
  rw [h0] at hz hk
  exact ⟨by rw [e1]; exact hz, fun q h1 h2 => by rw [e1]; exact hk q h1 h2,
    ⟨Nat.le_trans hS.1 (by rw [e1]; exact hz), fun q h1 h2 => by rw [e1, hk q (Nat.lt_of_lt_of_le h1 hS.1) (fun z => h2 (hA q (Nat.lt_of_lt_of_le h1 hS.1) z))]; exact hS.2.1 q h1 h2, fun q hq => by
      rcases List.mem_append.mp hq with h | h
      · exact hS.2.2 q h
      · exact hf _ (hL q h)⟩⟩
theorem vx_calli {S SX : Type} {post : Int32 → S → Prop} {px : SX → Prop} {B : S → State → Prop} {BX : String → SX → State → Prop} {AX : Nat → Prop} (hr : vx_Run p l e R s m args below meth c H locs cells slots mc ms (F0 m pc ls st0) rest (va_Qi post B A1 a) (vx_X px BX AX) free) (hS : va_S A0 H0 H locs) (hA : ∀ q, q < H.size → A1 q → A0 q) (hf : ∀ q, free q → A0 q) (hAX : ∀ q, q < H.size → AX q → A0 q)
    (kx : ∀ (E : String) (ce : Cell) (q9 : Addr) (u : SX) (t : State) (H1 : Heap) (locs1 : List Loc), t.heap = H1 → s.vm.Alike t.vm → px u → BX E u t → H.size ≤ H1.size → (∀ q : Nat, q < H.size → ¬ AX q → H1[q]? = H[q]?) → va_S A0 H0 H1 locs1 → H1[q9]? = some ce → ce.vm = .none → s.vm.findClass E = some ce.cls → vx_W p l e R s m args below meth c H1 locs1 (cells + mc) (slots + ms) Q (F0 m pc ls rest) q9)
    (kk : ∀ (r : Int32) (u : S) (t : State) (H1 : Heap) (locs1 : List Loc), t.heap = H1 → s.vm.Alike t.vm → post r u → B u t → H.size ≤ H1.size → (∀ q : Nat, q < H.size → ¬ A1 q → H1[q]? = H[q]?) → va_S A0 H0 H1 locs1 → W p l e R s m args below meth c H1 locs1 (cells + mc) (slots + ms) Q (F0 m (pc + 3) ls (.int r :: rest))) : W p l e R s m args below meth c H locs cells slots Q (F0 m pc ls st0) := by
  intro T hT X
  rcases hr T hT X with ⟨v, st₀, t, T', L, h0, X', hL, e1, e2, ⟨⟨r, u, hv, hp, hb⟩, hF⟩, st⟩ | ⟨q, st₀, t, T', L, E, ce, h0, X', hL, e1, e2, ⟨u, hp, hb, hF⟩, hce, hcv, hcl, st⟩
  · cases hv
    obtain ⟨k1, k2, k3⟩ := vx_keep h0 e1 hS hA hf hL hF
    obtain ⟨t2, a1, b1⟩ := kk r u t T'.heap (locs ++ L) e1.symm (by rw [← e2]; exact X'.warmed.alike) hp hb k1 k2 k3 T' rfl X'
    exact ⟨t2, st t2 a1, b1⟩
  · obtain ⟨k1, k2, k3⟩ := vx_keep h0 e1 hS hAX hf hL hF
    obtain ⟨t2, a1, b1⟩ := kx E ce q u t T'.heap (locs ++ L) e1.symm (by rw [← e2]; exact X'.warmed.alike) hp hb k1 k2 k3 (by rw [e1]; exact hce) hcv hcl T' rfl X'
    exact ⟨t2, st.trans a1, b1⟩
theorem vx_calll {S SX : Type} {post : Int64 → S → Prop} {px : SX → Prop} {B : S → State → Prop} {BX : String → SX → State → Prop} {AX : Nat → Prop} (hr : vx_Run p l e R s m args below meth c H locs cells slots mc ms (F0 m pc ls st0) rest (va_Ql post B A1 a) (vx_X px BX AX) free) (hS : va_S A0 H0 H locs) (hA : ∀ q, q < H.size → A1 q → A0 q) (hf : ∀ q, free q → A0 q) (hAX : ∀ q, q < H.size → AX q → A0 q)
    (kx : ∀ (E : String) (ce : Cell) (q9 : Addr) (u : SX) (t : State) (H1 : Heap) (locs1 : List Loc), t.heap = H1 → s.vm.Alike t.vm → px u → BX E u t → H.size ≤ H1.size → (∀ q : Nat, q < H.size → ¬ AX q → H1[q]? = H[q]?) → va_S A0 H0 H1 locs1 → H1[q9]? = some ce → ce.vm = .none → s.vm.findClass E = some ce.cls → vx_W p l e R s m args below meth c H1 locs1 (cells + mc) (slots + ms) Q (F0 m pc ls rest) q9)
    (kk : ∀ (r : Int64) (u : S) (t : State) (H1 : Heap) (locs1 : List Loc), t.heap = H1 → s.vm.Alike t.vm → post r u → B u t → H.size ≤ H1.size → (∀ q : Nat, q < H.size → ¬ A1 q → H1[q]? = H[q]?) → va_S A0 H0 H1 locs1 → W p l e R s m args below meth c H1 locs1 (cells + mc) (slots + ms) Q (F0 m (pc + 3) ls (.long r :: rest))) : W p l e R s m args below meth c H locs cells slots Q (F0 m pc ls st0) := by
  intro T hT X
  rcases hr T hT X with ⟨v, st₀, t, T', L, h0, X', hL, e1, e2, ⟨⟨r, u, hv, hp, hb⟩, hF⟩, st⟩ | ⟨q, st₀, t, T', L, E, ce, h0, X', hL, e1, e2, ⟨u, hp, hb, hF⟩, hce, hcv, hcl, st⟩
  · cases hv
    obtain ⟨k1, k2, k3⟩ := vx_keep h0 e1 hS hA hf hL hF
    obtain ⟨t2, a1, b1⟩ := kk r u t T'.heap (locs ++ L) e1.symm (by rw [← e2]; exact X'.warmed.alike) hp hb k1 k2 k3 T' rfl X'
    exact ⟨t2, st t2 a1, b1⟩
  · obtain ⟨k1, k2, k3⟩ := vx_keep h0 e1 hS hAX hf hL hF
    obtain ⟨t2, a1, b1⟩ := kx E ce q u t T'.heap (locs ++ L) e1.symm (by rw [← e2]; exact X'.warmed.alike) hp hb k1 k2 k3 (by rw [e1]; exact hce) hcv hcl T' rfl X'
    exact ⟨t2, st.trans a1, b1⟩
theorem vx_callf {S SX : Type} {post : UInt32 → S → Prop} {px : SX → Prop} {B : S → State → Prop} {BX : String → SX → State → Prop} {AX : Nat → Prop} (hr : vx_Run p l e R s m args below meth c H locs cells slots mc ms (F0 m pc ls st0) rest (va_Qf post B A1 a) (vx_X px BX AX) free) (hS : va_S A0 H0 H locs) (hA : ∀ q, q < H.size → A1 q → A0 q) (hf : ∀ q, free q → A0 q) (hAX : ∀ q, q < H.size → AX q → A0 q)
    (kx : ∀ (E : String) (ce : Cell) (q9 : Addr) (u : SX) (t : State) (H1 : Heap) (locs1 : List Loc), t.heap = H1 → s.vm.Alike t.vm → px u → BX E u t → H.size ≤ H1.size → (∀ q : Nat, q < H.size → ¬ AX q → H1[q]? = H[q]?) → va_S A0 H0 H1 locs1 → H1[q9]? = some ce → ce.vm = .none → s.vm.findClass E = some ce.cls → vx_W p l e R s m args below meth c H1 locs1 (cells + mc) (slots + ms) Q (F0 m pc ls rest) q9)
    (kk : ∀ (r : UInt32) (u : S) (t : State) (H1 : Heap) (locs1 : List Loc), t.heap = H1 → s.vm.Alike t.vm → post r u → B u t → H.size ≤ H1.size → (∀ q : Nat, q < H.size → ¬ A1 q → H1[q]? = H[q]?) → va_S A0 H0 H1 locs1 → W p l e R s m args below meth c H1 locs1 (cells + mc) (slots + ms) Q (F0 m (pc + 3) ls (.float r :: rest))) : W p l e R s m args below meth c H locs cells slots Q (F0 m pc ls st0) := by
  intro T hT X
  rcases hr T hT X with ⟨v, st₀, t, T', L, h0, X', hL, e1, e2, ⟨⟨r, u, hv, hp, hb⟩, hF⟩, st⟩ | ⟨q, st₀, t, T', L, E, ce, h0, X', hL, e1, e2, ⟨u, hp, hb, hF⟩, hce, hcv, hcl, st⟩
  · cases hv
    obtain ⟨k1, k2, k3⟩ := vx_keep h0 e1 hS hA hf hL hF
    obtain ⟨t2, a1, b1⟩ := kk r u t T'.heap (locs ++ L) e1.symm (by rw [← e2]; exact X'.warmed.alike) hp hb k1 k2 k3 T' rfl X'
    exact ⟨t2, st t2 a1, b1⟩
  · obtain ⟨k1, k2, k3⟩ := vx_keep h0 e1 hS hAX hf hL hF
    obtain ⟨t2, a1, b1⟩ := kx E ce q u t T'.heap (locs ++ L) e1.symm (by rw [← e2]; exact X'.warmed.alike) hp hb k1 k2 k3 (by rw [e1]; exact hce) hcv hcl T' rfl X'
    exact ⟨t2, st.trans a1, b1⟩
theorem vx_calld {S SX : Type} {post : UInt64 → S → Prop} {px : SX → Prop} {B : S → State → Prop} {BX : String → SX → State → Prop} {AX : Nat → Prop} (hr : vx_Run p l e R s m args below meth c H locs cells slots mc ms (F0 m pc ls st0) rest (va_Qd post B A1 a) (vx_X px BX AX) free) (hS : va_S A0 H0 H locs) (hA : ∀ q, q < H.size → A1 q → A0 q) (hf : ∀ q, free q → A0 q) (hAX : ∀ q, q < H.size → AX q → A0 q)
    (kx : ∀ (E : String) (ce : Cell) (q9 : Addr) (u : SX) (t : State) (H1 : Heap) (locs1 : List Loc), t.heap = H1 → s.vm.Alike t.vm → px u → BX E u t → H.size ≤ H1.size → (∀ q : Nat, q < H.size → ¬ AX q → H1[q]? = H[q]?) → va_S A0 H0 H1 locs1 → H1[q9]? = some ce → ce.vm = .none → s.vm.findClass E = some ce.cls → vx_W p l e R s m args below meth c H1 locs1 (cells + mc) (slots + ms) Q (F0 m pc ls rest) q9)
    (kk : ∀ (r : UInt64) (u : S) (t : State) (H1 : Heap) (locs1 : List Loc), t.heap = H1 → s.vm.Alike t.vm → post r u → B u t → H.size ≤ H1.size → (∀ q : Nat, q < H.size → ¬ A1 q → H1[q]? = H[q]?) → va_S A0 H0 H1 locs1 → W p l e R s m args below meth c H1 locs1 (cells + mc) (slots + ms) Q (F0 m (pc + 3) ls (.double r :: rest))) : W p l e R s m args below meth c H locs cells slots Q (F0 m pc ls st0) := by
  intro T hT X
  rcases hr T hT X with ⟨v, st₀, t, T', L, h0, X', hL, e1, e2, ⟨⟨r, u, hv, hp, hb⟩, hF⟩, st⟩ | ⟨q, st₀, t, T', L, E, ce, h0, X', hL, e1, e2, ⟨u, hp, hb, hF⟩, hce, hcv, hcl, st⟩
  · cases hv
    obtain ⟨k1, k2, k3⟩ := vx_keep h0 e1 hS hA hf hL hF
    obtain ⟨t2, a1, b1⟩ := kk r u t T'.heap (locs ++ L) e1.symm (by rw [← e2]; exact X'.warmed.alike) hp hb k1 k2 k3 T' rfl X'
    exact ⟨t2, st t2 a1, b1⟩
  · obtain ⟨k1, k2, k3⟩ := vx_keep h0 e1 hS hAX hf hL hF
    obtain ⟨t2, a1, b1⟩ := kx E ce q u t T'.heap (locs ++ L) e1.symm (by rw [← e2]; exact X'.warmed.alike) hp hb k1 k2 k3 (by rw [e1]; exact hce) hcv hcl T' rfl X'
    exact ⟨t2, st.trans a1, b1⟩
theorem vx_callv {S SX : Type} {post : S → Prop} {px : SX → Prop} {B : S → State → Prop} {BX : String → SX → State → Prop} {AX : Nat → Prop} (hr : vx_Run p l e R s m args below meth c H locs cells slots mc ms (F0 m pc ls st0) rest (va_Qv post B A1 a) (vx_X px BX AX) free) (hS : va_S A0 H0 H locs) (hA : ∀ q, q < H.size → A1 q → A0 q) (hf : ∀ q, free q → A0 q) (hAX : ∀ q, q < H.size → AX q → A0 q)
    (kx : ∀ (E : String) (ce : Cell) (q9 : Addr) (u : SX) (t : State) (H1 : Heap) (locs1 : List Loc), t.heap = H1 → s.vm.Alike t.vm → px u → BX E u t → H.size ≤ H1.size → (∀ q : Nat, q < H.size → ¬ AX q → H1[q]? = H[q]?) → va_S A0 H0 H1 locs1 → H1[q9]? = some ce → ce.vm = .none → s.vm.findClass E = some ce.cls → vx_W p l e R s m args below meth c H1 locs1 (cells + mc) (slots + ms) Q (F0 m pc ls rest) q9)
    (kk : ∀ (u : S) (t : State) (H1 : Heap) (locs1 : List Loc), t.heap = H1 → s.vm.Alike t.vm → post u → B u t → H.size ≤ H1.size → (∀ q : Nat, q < H.size → ¬ A1 q → H1[q]? = H[q]?) → va_S A0 H0 H1 locs1 → W p l e R s m args below meth c H1 locs1 (cells + mc) (slots + ms) Q (F0 m (pc + 3) ls (rest))) : W p l e R s m args below meth c H locs cells slots Q (F0 m pc ls st0) := by
  intro T hT X
  rcases hr T hT X with ⟨v, st₀, t, T', L, h0, X', hL, e1, e2, ⟨⟨u, hv, hp, hb⟩, hF⟩, st⟩ | ⟨q, st₀, t, T', L, E, ce, h0, X', hL, e1, e2, ⟨u, hp, hb, hF⟩, hce, hcv, hcl, st⟩
  · cases hv
    obtain ⟨k1, k2, k3⟩ := vx_keep h0 e1 hS hA hf hL hF
    obtain ⟨t2, a1, b1⟩ := kk u t T'.heap (locs ++ L) e1.symm (by rw [← e2]; exact X'.warmed.alike) hp hb k1 k2 k3 T' rfl X'
    exact ⟨t2, st t2 a1, b1⟩
  · obtain ⟨k1, k2, k3⟩ := vx_keep h0 e1 hS hAX hf hL hF
    obtain ⟨t2, a1, b1⟩ := kx E ce q u t T'.heap (locs ++ L) e1.symm (by rw [← e2]; exact X'.warmed.alike) hp hb k1 k2 k3 (by rw [e1]; exact hce) hcv hcl T' rfl X'
    exact ⟨t2, st.trans a1, b1⟩
/-- caught by the row x of this method's table; the rows ahead don't take it -/
theorem vx_catch {own name : String} {E : String} {ce : Cell} {q : Addr} (hown : s.vm.findClass own = some m.cls) (pre : List ExceptionTableEntry) (x : ExceptionTableEntry) (suf : List ExceptionTableEntry) (hsplit : c.exceptionTable.toList = pre ++ x :: suf)
    (hpass : ∀ z ∈ pre, covers z pc = false ∨ (z.catchType ≠ 0 ∧ ∃ nm : String, (Cond.classLink own z.catchType nm).before args s = true ∧ va_Nc E nm s)) (hx : covers x pc = true) (h0 : x.catchType ≠ 0)
    (hlink : (Cond.classLink own x.catchType name).before args s = true) (hcast : (Cond.castable E name).before args s = true) (hcell : H[q]? = some ce) (hv : ce.vm = .none) (hcl : s.vm.findClass E = some ce.cls)
    (kk : W p l e R s m args below meth c H locs cells slots Q (F0 m x.handlerPc ls [.ref q])) : vx_W p l e R s m args below meth c H locs cells slots Q (F0 m pc ls rest) q := by
  intro T hT X
  have hpl : e.platform.magicAccessors = ({} : Platform).magicAccessors := by rw [X.admits.platform]
  obtain ⟨c3, c4, hc3, hc4, hasg⟩ := Cond.castable_spec hcast
  cases Option.some.inj (hc3.symm.trans hcl)
  obtain ⟨c5, hc5, hcl5⟩ := Cond.classLink_spec hown hlink e.platform hpl
  cases Option.some.inj (hc4.symm.trans hc5)
  obtain ⟨vm', X', st⟩ := X.thenCaughtThrough q (g := F0 m pc ls rest) rfl (Steps.refl _) (by rw [hT]; exact hcell) (by rw [hv]; rfl) (by obtain ⟨k9, h9, -⟩ := Vm.findClass_spec hcl; exact ⟨k9, h9⟩) pre x suf hsplit
    (fun z hz => by
      rcases hpass z hz with h | ⟨hz0, nm, hl1, hn1⟩
      · exact Or.inl h
      · obtain ⟨c6, hc6, hcl6⟩ := Cond.classLink_spec hown hl1 e.platform hpl
        obtain ⟨a8, b8, h1, h2, h3⟩ := hn1
        cases Option.some.inj (h1.symm.trans hcl)
        cases Option.some.inj (h2.symm.trans hc6)
        exact Or.inr ⟨hz0, _, hcl6, h3⟩) hx (Or.inr ⟨h0, c4, hcl5, hasg⟩)
  obtain ⟨t, a1, b1⟩ := kk (T.setVm vm') hT X'
  exact ⟨t, st.trans a1, b1⟩
end Rows
section Ends
variable {p : Program} {l : Launch} {e : Env} {R : Room} {s : State} {m : MethodId} {args : Array Value} {below : List Frame} {meth : Method} {c : Code} {H : Heap} {locs : List Loc} {cells slots : Nat} {Q : State → Prop}
variable {mc ms : Nat} {free : Addr → Prop} {A0 A1 : Nat → Prop} {H0 : Heap} {a : Array Value} {ls : Array Slot} {st0 rest : List Value}
variable {Qc : Array Value → State → Outcome → State → Prop} {XC : String → State → State → Prop}
/-- what a body that may throw owes at its end -/
def vx_MQ (below : List Frame) (Qc : Array Value → State → Outcome → State → Prop) (XC : String → State → State → Prop) (a : Array Value) (s : State) (mc ms : Nat) (free : Addr → Prop) : State → Prop := fun t =>
  ∃ o, t.status = .running ∧ Ended t below o ∧ vx_Q Qc XC mc ms free a s o t
theorem vx_ret {g : JFrame} {mc ms : Nat} (k : W p l e R s m args below meth c H locs cells slots (MQ below Qc args s mc ms free) g) : W p l e R s m args below meth c H locs cells slots (vx_MQ below Qc XC args s mc ms free) g := by
  intro T hT X
  obtain ⟨t, a1, o, b1, b2, b3, b4⟩ := k T hT X
  exact ⟨t, a1, o, b1, b2, Or.inl ⟨b3, b4⟩⟩
/-- not caught here: it goes on to the caller -/
theorem vx_widen {g : JFrame} {q : Addr} {k n : Nat} (h1 : cells ≤ k) (h2 : slots ≤ n) (kk : vx_W p l e R s m args below meth c H locs k n Q g q) : vx_W p l e R s m args below meth c H locs cells slots Q g q := fun T hT X => kk T hT (stand_widen X h1 h2)
theorem vx_out {pc : Nat} {E : String} {ce : Cell} {q : Addr} {mc ms : Nat} (hout : ∀ x ∈ c.exceptionTable.toList, covers x pc = false) (hlocks : meth.locks = false) (hcell : H[q]? = some ce) (hv : ce.vm = .none) (hcl : s.vm.findClass E = some ce.cls)
    (hx : ∀ t : State, t.heap = H → s.vm.Alike t.vm → XC E s t) (hf : ∀ z ∈ locs, free z.base) (hc : cells ≤ mc) (hs : slots ≤ ms) :
    vx_W p l e R s m args below meth c H locs cells slots (vx_MQ below Qc XC args s mc ms free) (F0 m pc ls rest) q := by
  intro T hT X
  obtain ⟨st1, hrun, hend, hW, hsm⟩ := X.leaveThrown q (g := F0 m pc ls rest) rfl rfl rfl hout hlocks
  have hcell9 : (T.setFrames (.throwing q :: below)).heap[q]? = some ce := by
    show T.heap[q]? = some ce
    rw [hT]; exact hcell
  exact ⟨_, st1, .threw q, hrun, hend, Or.inr ⟨q, rfl, E, ce, locs, hx _ hT hW.alike, hcell9, hv, hcl, hW, hsm.mono hc hs, hf⟩⟩
theorem vx_frame {U : State} {k n : Nat} (h : s.sameButNew ({ U with vm := s.vm } : State) locs k n) : s.heap.size ≤ U.heap.size ∧ ∀ q : Nat, q < s.heap.size → (∀ z ∈ locs, z.base ≠ q) → U.heap[q]? = s.heap[q]? := by
  obtain ⟨-, h2, -, -, -, h6⟩ := h
  refine ⟨h2, fun q hq hz => ?_⟩
  obtain ⟨c9, e1, e2, e3, e4⟩ := h6 q _ (Array.getElem?_eq_getElem hq)
  have hs : c9.slots = (s.heap[q]).slots := Array.ext_getElem? fun i => e4 i fun hm => hz _ hm rfl
  have h9 : c9 = s.heap[q] := by
    rw [hs] at e2
    exact e2
  have e5 : U.heap[q]? = some c9 := e1
  rw [e5, h9, Array.getElem?_eq_getElem hq]
/-- the words of a throw but the four that speak of the heap -/
def vx_no (w : Cond) : Bool := decide (w ≠ .isRef (.static Bundle.tN "UNASSIGNED_STACK" Bundle.steD)) && decide (w ≠ .isRef (.static Bundle.tN "SUPPRESSED_SENTINEL" Bundle.listD)) && decide (w ≠ .laysStatic Bundle.tN "UNASSIGNED_STACK" Bundle.steD) && decide (w ≠ .laysStatic Bundle.tN "SUPPRESSED_SENTINEL" Bundle.listD)
def vx_at0 (own : String) (ic : Nat) (X : String) (names : List String) : List Cond := (Bundle.ownAtoms0 own ic X names).filter vx_no
def vx_atS (own : String) (ic : Nat) (X : String) (names : List String) : List Cond := (Bundle.ownAtoms own ic X names).filter vx_no
/-- a word that the tables alone decide, or a good one -/
def vx_ot (w : Cond) : Bool := w.onTables || goodWord w
theorem vx_ot_at {args a' : Array Value} {s U : State} {w : Cond} (hW : s.WarmedH U.vm) (hvm : s.vm = U.vm) (hg : vx_ot w = true) (h : w.before args s = true) : w.before a' U = true := by
  simp only [vx_ot, Bool.or_eq_true] at hg
  rcases hg with hg | hg
  · exact va_tabs hg hvm h
  · exact word_at hW (good_of_word hg) h
/-- a list's words: the good ones out of the method's own list, the others by premises of their own -/
theorem vx_hat {args : Array Value} {s : State} {L B : List Cond} (h1 : ∀ w ∈ L.filter goodWord, w.before args s = true) (h2 : ∀ w ∈ L.filter (fun w => !goodWord w), w ∈ B) (h3 : ∀ w ∈ B, w.before args s = true) : ∀ w ∈ L, w.before args s = true := by
  intro w hw
  by_cases g : goodWord w = true
  · exact h1 w (List.mem_filter.mpr ⟨hw, g⟩)
  · refine h3 w (h2 w (List.mem_filter.mpr ⟨hw, ?_⟩))
    show (!goodWord w) = true
    cases hgw : goodWord w
    · rfl
    · exact absurd hgw g
theorem vx_c {args : Array Value} {s : State} {w : Cond} {B : List Cond} (h : w.before args s = true) (t : ∀ w ∈ B, w.before args s = true) : ∀ w' ∈ w :: B, w'.before args s = true := fun w' h' => (List.mem_cons.mp h').elim (fun e => by rw [e]; exact h) (t w')
theorem vx_n {args : Array Value} {s : State} : ∀ w ∈ ([] : List Cond), w.before args s = true := fun _ h => nomatch h
theorem vx_own {args : Array Value} {s : State} {L : List Cond} (h1 : ∀ w ∈ L.filter vx_no, w.before args s = true)
    (hU : (Cond.isRef (.static Bundle.tN "UNASSIGNED_STACK" Bundle.steD)).before args s = true) (hN : (Cond.isRef (.static Bundle.tN "SUPPRESSED_SENTINEL" Bundle.listD)).before args s = true)
    (lU : (Cond.laysStatic Bundle.tN "UNASSIGNED_STACK" Bundle.steD).before args s = true) (lN : (Cond.laysStatic Bundle.tN "SUPPRESSED_SENTINEL" Bundle.listD).before args s = true) : ∀ w ∈ L, w.before args s = true := by
  intro w hw
  by_cases e1 : w = .isRef (.static Bundle.tN "UNASSIGNED_STACK" Bundle.steD)
  · rw [e1]; exact hU
  · by_cases e2 : w = .isRef (.static Bundle.tN "SUPPRESSED_SENTINEL" Bundle.listD)
    · rw [e2]; exact hN
    · by_cases e3 : w = .laysStatic Bundle.tN "UNASSIGNED_STACK" Bundle.steD
      · rw [e3]; exact lU
      · by_cases e4 : w = .laysStatic Bundle.tN "SUPPRESSED_SENTINEL" Bundle.listD
        · rw [e4]; exact lN
        · exact h1 w (List.mem_filter.mpr ⟨hw, by unfold vx_no; rw [decide_eq_true e1, decide_eq_true e2, decide_eq_true e3, decide_eq_true e4]; rfl⟩)
/-- where a static field lies, its class's statics cell in H -/
def vx_L (C n d : String) (A : Nat → Prop) (U : State) (H : Heap) : Prop := ∃ (c : ClassId) (k : Class) (i : Nat) (f : Field) (a : Nat) (cell : Cell), U.vm.findClass C = some c ∧ U.fieldFound? C n d = some (c, k, i, f) ∧ f.isStatic = true ∧ k.statics = some a ∧ H[a]? = some cell ∧ cell.vm.isStatics = true ∧ cell.cls = c ∧ f.slot < cell.slots.size ∧ k.staticTypes[f.slot]? = some f.type ∧ ¬ A a
theorem vx_L.moved {C n d : String} {A : Nat → Prop} {u U : State} {H : Heap} (hvm : u.vm.Alike U.vm) (h : vx_L C n d A u H) : vx_L C n d A U H := by
  obtain ⟨c, k, i, f, a, cell, h1, h2, h3, h4, h5, h6, h7, h8, h9, h10⟩ := h
  obtain ⟨k', hi', he⟩ := State.fieldFound?_setVm hvm h2
  exact ⟨c, k', i, f, a, cell, by rw [hvm.findClass]; exact h1, hi', h3, by rw [he]; exact h4, h5, h6, h7, h8, by rw [he]; exact h9, h10⟩
theorem vx_L.kept {C n d : String} {A : Nat → Prop} {U : State} {H H1 : Heap} (h : vx_L C n d A U H) (hq : ∀ a : Nat, a < H.size → ¬ A a → H1[a]? = H[a]?) : vx_L C n d A U H1 := by
  obtain ⟨c, k, i, f, a, cell, h1, h2, h3, h4, h5, h6, h7, h8, h9, h10⟩ := h
  exact ⟨c, k, i, f, a, cell, h1, h2, h3, h4, by rw [hq a (Array.getElem?_eq_some_iff.mp h5).1 h10]; exact h5, h6, h7, h8, h9, h10⟩
theorem vx_L.narrow {C n d : String} {A B : Nat → Prop} {U : State} {H : Heap} (h : vx_L C n d A U H) (hAB : ∀ q, B q → A q) : vx_L C n d B U H := by
  obtain ⟨c, k, i, f, a, cell, h1, h2, h3, h4, h5, h6, h7, h8, h9, h10⟩ := h
  exact ⟨c, k, i, f, a, cell, h1, h2, h3, h4, h5, h6, h7, h8, h9, fun z => h10 (hAB _ z)⟩
theorem vx_L.word {C n d : String} {A : Nat → Prop} {s : State} {args : Array Value} (h : vx_L C n d A s s.heap) : (Cond.laysStatic C n d).before args s = true := by
  obtain ⟨c, k, i, f, a, cell, h1, h2, h3, h4, h5, h6, h7, h8, h9, -⟩ := h
  show (Cond.laysStatic C n d).holds args s none s [] = true
  exact Cond.laysStatic_of h1 h2 h3 h4 h5 h6 h7 h8 h9
/-- .. and what it holds: null or some reference -/
def vx_Zq (C n d : String) (A : Nat → Prop) (U : State) (H : Heap) : Prop := va_Zq C n d A U H ∧ vx_L C n d A U H
theorem vx_Zq.moved {C n d : String} {A : Nat → Prop} {u U : State} {H : Heap} (hvm : u.vm.Alike U.vm) (h : vx_Zq C n d A u H) : vx_Zq C n d A U H := ⟨va_Zq.moved hvm h.1, vx_L.moved hvm h.2⟩
theorem vx_Zq.kept {C n d : String} {A : Nat → Prop} {U : State} {H H1 : Heap} (h : vx_Zq C n d A U H) (hq : ∀ a : Nat, a < H.size → ¬ A a → H1[a]? = H[a]?) : vx_Zq C n d A U H1 := ⟨va_Zq.kept h.1 hq, vx_L.kept h.2 hq⟩
theorem vx_Zq.narrow {C n d : String} {A B : Nat → Prop} {U : State} {H : Heap} (h : vx_Zq C n d A U H) (hAB : ∀ q, B q → A q) : vx_Zq C n d B U H := ⟨va_Zq.narrow h.1 hAB, vx_L.narrow h.2 hAB⟩
theorem vx_Zqof {args : Array Value} {s : State} {C n d : String} {A : Nat → Prop} (hl : (Cond.laysStatic C n d).before args s = true) (hini : (Cond.initialized C).before args s = true) (h : (Cond.isRef (.static C n d)).before args s = true) (hA : ∀ a : Nat, a < s.heap.size → ¬ A a) : vx_Zq C n d A s s.heap := by
  refine ⟨va_Zqof hl hini h hA, ?_⟩
  obtain ⟨c, k, i, f, a, cell, h1, h2, h3, h4, h5, h6, h7, h8, h9⟩ := Cond.laysStatic_spec hl
  exact ⟨c, k, i, f, a, cell, h1, h2, h3, h4, h5, h6, h7, h8, h9, hA a (Array.getElem?_eq_some_iff.mp h5).1⟩
theorem vx_isRef {C n d : String} {v : Value} {A : Nat → Prop} {s : State} {args : Array Value} (h : va_Z C n d v A s s.heap) (hv : v.isRef = true) : (Cond.isRef (.static C n d)).before args s = true := by
  obtain ⟨cf, kf, fi, f, a, cell, h1, h2, h3, h4, h5, h6, h7, -⟩ := h
  have he : (Term.static C n d).eval args s none [] s = some v := by
    simp [Term.eval, State.fieldNamed?, h1, h2, h4, h5, h6, h7]
  simp only [Cond.before, Cond.holds, Cond.value, he]
  cases v <;> simp_all [Value.isRef]
theorem vx_isRefq {C n d : String} {A : Nat → Prop} {s : State} {args : Array Value} (h : va_Zq C n d A s s.heap) : (Cond.isRef (.static C n d)).before args s = true := by
  rcases h with h | ⟨t, h⟩
  · exact vx_isRef h rfl
  · exact vx_isRef h rfl
/-- the same frame, seen from here: as if the method were called anew in this heap -/
theorem vx_rebase {T : State} (X : Stand p l e R s m args below meth c T locs cells slots) {R' : Room} (hf : R'.frames ≤ R.frames) (hl : R'.locals ≤ R.locals) (hc : cells + R'.cells ≤ R.cells) (hs : slots + R'.slots ≤ R.slots) :
    Stand p l e R' ((T.setVm s.vm).setFrames (.invoking m args :: below)) m args below meth c T [] 0 0 := by
  have htop : (T.setVm s.vm).topJava?.isSome := X.here.top
  have hF : ((T.setVm s.vm).setFrames (.invoking m args :: below)).frames = .invoking m args :: below := State.frames_setFrames _ (State.cur_lt_of_top htop)
  obtain ⟨g₀, hg0⟩ := Option.isSome_iff_exists.mp htop
  obtain ⟨r, hr⟩ := State.topJava?_eq_some.mp hg0
  have hl9 : e.platform.stackLimits (T.setVm s.vm).me = e.platform.stackLimits s.me := X.limits
  have hb9 : (T.setVm s.vm).me.stackBytes = s.me.stackBytes := X.bytes
  refine ⟨X.admits, X.cas, X.clock, hF, ?_, X.hears, X.method, X.code, X.here, X.tail, X.warmed, ?_, ?_, ?_⟩
  · have h := X.room
    have hU : ((T.setVm s.vm).setFrames (.invoking m args :: below)).localsInUse = s.localsInUse := by
      rw [State.localsInUse_invoking hF (meth := meth) (c := c) X.method X.code, State.localsInUse_invoking X.frames X.method X.code]
    simp only [State.hasRoom, Bool.and_eq_true, decide_eq_true_eq] at h ⊢
    obtain ⟨⟨⟨⟨h1, h2, h3, h4, h5, h6⟩, h7⟩, h8⟩, h9⟩ := h
    rw [X.frames, List.length_cons] at h2 h3
    have q1 := X.heapSize
    have q2 := X.used
    simp only [hF, hU, List.length_cons, State.stackLimits_setFrames, State.stackBytes_setFrames, hl9, hb9]
    refine ⟨⟨⟨⟨by omega, by omega, by omega, by omega, by omega, h6⟩, ?_⟩, ?_⟩, X.book⟩
    · show T.heap.size + R'.cells ≤ e.platform.maxCells
      omega
    · show T.slotsUsed + R'.slots ≤ e.platform.maxSlots
      omega
  · rw [State.stackLimits_setFrames]; rfl
  · rw [State.stackBytes_setFrames]; rfl
  · refine ⟨?_, Nat.le_refl _, Nat.le_refl _, ?_, ?_, fun a c9 h9 => ⟨c9, h9, rfl, rfl, fun _ _ => rfl⟩⟩
    · obtain ⟨t, ht, -⟩ := State.frames_cons hr
      show T.setVm s.vm = { ((T.setVm s.vm).setFrames (.invoking m args :: below)).setFrames (T.setVm s.vm).frames with heap := T.heap, slotsUsed := T.slotsUsed }
      rw [State.setFrames_setFrames, State.setFrames_self ht]
      rfl
    · show T.slotsUsed = T.slotsUsed + ((T.heap.toList.drop T.heap.size).map (·.slots.size)).sum
      rw [List.drop_eq_nil_of_le (Nat.le_of_eq Array.length_toList)]
      rfl
    · show ((T.heap.toList.drop T.heap.size).map (·.slots.size)).sum ≤ 0
      rw [List.drop_eq_nil_of_le (Nat.le_of_eq Array.length_toList)]
      exact Nat.le_refl _
/-- 'throw new E()': new; dup; invokespecial; athrow -/
theorem vx_throw0 {cc : ByteArray} {pc : Nat} (hexec : p.tables.exec = Jvm.exec) (hb : c.code = cc) (hl : l.stackTraces = false) {own cls : String} {names : List String} {ik ic mc ms : Nat} {A : Nat → Prop}
    (hown : s.vm.findClass own = some m.cls) (hcls : Bundle.fit cls = true) (hnames : ∀ n ∈ names, Bundle.fit n = true)
    (hk : (Cond.classLink own ik cls).before args s = true) (hini : (Cond.initialized cls).before args s = true) (hat : ∀ w ∈ vx_at0 own ic cls names, w.before args s = true)
    (hgood : ∀ w ∈ Cond.classLink own ik cls :: Cond.initialized cls :: vx_at0 own ic cls names, vx_ot w = true)
    (hU : vx_Zq Bundle.tN "UNASSIGNED_STACK" Bundle.steD A s s.heap) (hN : vx_Zq Bundle.tN "SUPPRESSED_SENTINEL" Bundle.listD A s s.heap) (hS : va_S A s.heap H locs) (hsize : ls.size = c.maxLocals)
    (d0 : decode cc pc = .ok (.new ik, 3)) (d3 : decode cc (pc + 3) = .ok (.dup, 1)) (d4 : decode cc (pc + 4) = .ok (.invokespecial ic, 3)) (d7 : decode cc (pc + 7) = .ok (.athrow, 1))
    (hout : ∀ x ∈ c.exceptionTable.toList, covers x (pc + 7) = false)
    (hRframes : names.length + 3 < R.frames) (hRlocals : (rest.map fun v => v.category).sum + (13 * (names.length + 1) + 42) ≤ R.locals) (hRcells : cells + 1 ≤ R.cells) (hRslots : slots + 6 ≤ R.slots) (hlocks : meth.locks = false)
    (hx : ∀ t : State, s.vm.Alike t.vm → H.size ≤ t.heap.size → (∀ q : Nat, q < H.size → t.heap[q]? = H[q]?) → XC cls s t)
    (hf : ∀ z ∈ locs, free z.base) (hc : cells + 1 ≤ mc) (hs : slots + 6 ≤ ms) :
    W p l e R s m args below meth c H locs cells slots (vx_MQ below Qc XC args s mc ms free) (F0 m pc ls rest) := by
  intro T hT X
  have htr : e.platform.stackTraces = false := (show e.platform.stackTraces = l.stackTraces by rw [X.admits.platform]).trans hl
  have Y := vx_rebase X (R' := { frames := R.frames, locals := R.locals, cells := 1, slots := 6 }) (Nat.le_refl _) (Nat.le_refl _) hRcells hRslots
  obtain ⟨s', hA⟩ : ∃ z, z = (T.setVm s.vm).setFrames (.invoking m args :: below) := ⟨_, rfl⟩
  rw [← hA] at Y
  have hvm : s'.vm = s.vm := by rw [hA]; rfl
  have hhp : s'.heap = H := by rw [hA]; exact hT
  have hW0 : s.WarmedH s'.vm := by rw [hvm]; exact State.WarmedH.refl s
  have hat' : ∀ w ∈ vx_at0 own ic cls names, w.before args s' = true := fun w hw => vx_ot_at hW0 hvm.symm (hgood w (List.mem_cons_of_mem _ (List.mem_cons_of_mem _ hw))) (hat w hw)
  have hk' : (Cond.classLink own ik cls).before args s' = true := vx_ot_at hW0 hvm.symm (hgood _ List.mem_cons_self) hk
  have hini' : (Cond.initialized cls).before args s' = true := vx_ot_at hW0 hvm.symm (hgood _ (List.mem_cons_of_mem _ List.mem_cons_self)) hini
  have hU' : vx_Zq Bundle.tN "UNASSIGNED_STACK" Bundle.steD A s' s'.heap := by rw [hhp]; exact vx_Zq.moved hW0.alike (hU.kept hS.2.1)
  have hN' : vx_Zq Bundle.tN "SUPPRESSED_SENTINEL" Bundle.listD A s' s'.heap := by rw [hhp]; exact vx_Zq.moved hW0.alike (hN.kept hS.2.1)
  have h : ∀ w ∈ Bundle.ownAtoms0 own ic cls names, w.before args s' = true := vx_own hat' (vx_isRefq hU'.1) (vx_isRefq hN'.1) hU'.2.word hN'.2.word
  have hown' : s'.vm.findClass own = some m.cls := by rw [hvm]; exact hown
  have hins : (Cond.instantiable cls 6).before args s' = true := h _ (by simp [Bundle.ownAtoms0])
  obtain ⟨vm₁, cX, kX, hfX, hkX, -, -, X₁, st1⟩ := Y.newCold hexec (own := own) (C := cls) (index := ik) (n := 6) hown' hk' hins hini'
    (g := F0 m pc ls rest) rfl (by rw [hb]; exact d0) (Nat.le_refl _) (Nat.le_refl _)
  generalize hT1 : (T.setVm vm₁).pushCell { cls := cX, slots := kX.instanceTypes.map defaultValue, vm := .none } = T1 at X₁ st1
  have hcat : (Value.ref T.heap.size).category = 1 := rfl
  have hcellA : T1.heap[T.heap.size]? = some (freshCell cX kX) := by rw [← hT1]; exact State.heap_pushCell_size _ _
  have d3' : decode c.code (pc + 3) = .ok (.dup, 1) := by rw [hb]; exact d3
  obtain ⟨U, hsteps, hrun, hend, hW, hsame, ce, hce, hO⟩ := X₁.ctorThrow0 hexec htr (own := own) (cls := cls) (names := names) (ic := ic) hown' hcls hnames h (fun x hx => nomatch hx) hfX hkX hcellA (by rw [hhp, hT]; exact Nat.le_refl _)
    (g := { method := m, pc := pc + 4, locals := ls, stack := .ref T.heap.size :: .ref T.heap.size :: rest, locked := none }) rfl hsize rfl rfl (rest := rest) rfl
    (by rw [hb]; exact d4) (by rw [hb]; exact d7) hout hRframes (by simp only [List.map_cons, List.sum_cons, hcat]; omega) hlocks
  obtain ⟨f1, f2⟩ := vx_frame hsame
  rw [hhp] at f1 f2
  have hWs : s.WarmedH U.vm := State.WarmedH.trans hW0 hW
  have hcl : s.vm.findClass cls = some ce.cls := by
    have h9 := hO.cls
    rw [hvm] at h9
    exact h9
  have hall : s.sameButNew ({ U with vm := s.vm } : State) locs mc ms := by
    subst hA
    obtain ⟨e1, e2⟩ := hsame
    rw [State.setFrames_setFrames] at e1
    have h2 : (T.setVm s.vm).sameButNew ({ U with vm := s.vm } : State) [] (0 + 1) (0 + 6) := ⟨e1, e2⟩
    have h3 := X.same.trans h2
    rw [List.append_nil] at h3
    exact h3.mono hc hs
  refine ⟨U, ?_, .threw T.heap.size, hrun, hend, Or.inr ⟨T.heap.size, rfl, cls, ce, locs, hx U hWs.alike f1 (fun q hq => f2 q hq (fun z hz => nomatch hz)), hce, hO.vm, hcl, hWs, hall, hf⟩⟩
  refine st1 _ ?_
  show Steps p.tables e below (T1.setTop { method := m, pc := pc + 3, locals := ls, stack := .ref T.heap.size :: rest, locked := none }) _
  jvm_step X₁.here [X₁.here.top, hexec, d3', Value.category]
  exact hsteps
/-- 'throw new E("text")': new; dup; ldc; invokespecial; athrow -/
theorem vx_throwS {cc : ByteArray} {pc : Nat} (hexec : p.tables.exec = Jvm.exec) (hb : c.code = cc) (hl : l.stackTraces = false) {own cls text : String} {names : List String} {ik is ic mc ms sa : Nat} {A : Nat → Prop}
    (hown : s.vm.findClass own = some m.cls) (hcls : Bundle.fit cls = true) (hnames : ∀ n ∈ names, Bundle.fit n = true)
    (hk : (Cond.classLink own ik cls).before args s = true) (hini : (Cond.initialized cls).before args s = true) (hstr : vk_R own is text sa s) (hat : ∀ w ∈ vx_atS own ic cls names, w.before args s = true)
    (hgood : ∀ w ∈ Cond.classLink own ik cls :: Cond.initialized cls :: vx_atS own ic cls names, vx_ot w = true)
    (hU : vx_Zq Bundle.tN "UNASSIGNED_STACK" Bundle.steD A s s.heap) (hN : vx_Zq Bundle.tN "SUPPRESSED_SENTINEL" Bundle.listD A s s.heap) (hS : va_S A s.heap H locs) (hsize : ls.size = c.maxLocals)
    (d0 : decode cc pc = .ok (.new ik, 3)) (d3 : decode cc (pc + 3) = .ok (.dup, 1)) (d4 : decode cc (pc + 4) = .ok (.ldc is, 2)) (d6 : decode cc (pc + 6) = .ok (.invokespecial ic, 3)) (d9 : decode cc (pc + 9) = .ok (.athrow, 1))
    (hout : ∀ x ∈ c.exceptionTable.toList, covers x (pc + 9) = false)
    (hRframes : names.length + 3 < R.frames) (hRlocals : (rest.map fun v => v.category).sum + (13 * (names.length + 1) + 43) ≤ R.locals) (hRcells : cells + 1 ≤ R.cells) (hRslots : slots + 6 ≤ R.slots) (hlocks : meth.locks = false)
    (hx : ∀ t : State, s.vm.Alike t.vm → H.size ≤ t.heap.size → (∀ q : Nat, q < H.size → t.heap[q]? = H[q]?) → XC cls s t)
    (hf : ∀ z ∈ locs, free z.base) (hc : cells + 1 ≤ mc) (hs : slots + 6 ≤ ms) :
    W p l e R s m args below meth c H locs cells slots (vx_MQ below Qc XC args s mc ms free) (F0 m pc ls rest) := by
  intro T hT X
  have htr : e.platform.stackTraces = false := (show e.platform.stackTraces = l.stackTraces by rw [X.admits.platform]).trans hl
  have Y := vx_rebase X (R' := { frames := R.frames, locals := R.locals, cells := 1, slots := 6 }) (Nat.le_refl _) (Nat.le_refl _) hRcells hRslots
  obtain ⟨s', hA⟩ : ∃ z, z = (T.setVm s.vm).setFrames (.invoking m args :: below) := ⟨_, rfl⟩
  rw [← hA] at Y
  have hvm : s'.vm = s.vm := by rw [hA]; rfl
  have hhp : s'.heap = H := by rw [hA]; exact hT
  have hW0 : s.WarmedH s'.vm := by rw [hvm]; exact State.WarmedH.refl s
  have hat' : ∀ w ∈ vx_atS own ic cls names, w.before args s' = true := fun w hw => vx_ot_at hW0 hvm.symm (hgood w (List.mem_cons_of_mem _ (List.mem_cons_of_mem _ hw))) (hat w hw)
  have hk' : (Cond.classLink own ik cls).before args s' = true := vx_ot_at hW0 hvm.symm (hgood _ List.mem_cons_self) hk
  have hini' : (Cond.initialized cls).before args s' = true := vx_ot_at hW0 hvm.symm (hgood _ (List.mem_cons_of_mem _ List.mem_cons_self)) hini
  have hU' : vx_Zq Bundle.tN "UNASSIGNED_STACK" Bundle.steD A s' s'.heap := by rw [hhp]; exact vx_Zq.moved hW0.alike (hU.kept hS.2.1)
  have hN' : vx_Zq Bundle.tN "SUPPRESSED_SENTINEL" Bundle.listD A s' s'.heap := by rw [hhp]; exact vx_Zq.moved hW0.alike (hN.kept hS.2.1)
  have h : ∀ w ∈ Bundle.ownAtoms own ic cls names, w.before args s' = true := vx_own hat' (vx_isRefq hU'.1) (vx_isRefq hN'.1) hU'.2.word hN'.2.word
  have hown' : s'.vm.findClass own = some m.cls := by rw [hvm]; exact hown
  have hins : (Cond.instantiable cls 6).before args s' = true := h _ (by simp [Bundle.ownAtoms])
  obtain ⟨vm₁, cX, kX, hfX, hkX, -, -, X₁, st1⟩ := Y.newCold hexec (own := own) (C := cls) (index := ik) (n := 6) hown' hk' hins hini'
    (g := F0 m pc ls rest) rfl (by rw [hb]; exact d0) (Nat.le_refl _) (Nat.le_refl _)
  generalize hT1 : (T.setVm vm₁).pushCell { cls := cX, slots := kX.instanceTypes.map defaultValue, vm := .none } = T1 at X₁ st1
  have hcat : (Value.ref T.heap.size).category = 1 := rfl
  have hcellA : T1.heap[T.heap.size]? = some (freshCell cX kX) := by rw [← hT1]; exact State.heap_pushCell_size _ _
  have d3' : decode c.code (pc + 3) = .ok (.dup, 1) := by rw [hb]; exact d3
  have d4' : decode c.code (pc + 4) = .ok (.ldc is, 2) := by rw [hb]; exact d4
  have hstr' : vk_R own is text sa s' := vk_R.warm hW0 hstr
  obtain ⟨U, hsteps, hrun, hend, hW, hsame, ce, hce, hO⟩ := X₁.ctorThrowS hexec htr (own := own) (cls := cls) (names := names) (ic := ic) hown' hcls hnames h (fun x hx => nomatch hx) hfX hkX hcellA (by rw [hhp, hT]; exact Nat.le_refl _) (msg := .ref sa) rfl
    (g := { method := m, pc := pc + 6, locals := ls, stack := .ref sa :: .ref T.heap.size :: .ref T.heap.size :: rest, locked := none }) rfl hsize rfl rfl (rest := rest) rfl
    (by rw [hb]; exact d6) (by rw [hb]; exact d9) hout hRframes (by simp only [List.map_cons, List.sum_cons, hcat]; omega) hlocks
  obtain ⟨f1, f2⟩ := vx_frame hsame
  rw [hhp] at f1 f2
  have hWs : s.WarmedH U.vm := State.WarmedH.trans hW0 hW
  have hcl : s.vm.findClass cls = some ce.cls := by
    have h9 := hO.cls
    rw [hvm] at h9
    exact h9
  have hall : s.sameButNew ({ U with vm := s.vm } : State) locs mc ms := by
    subst hA
    obtain ⟨e1, e2⟩ := hsame
    rw [State.setFrames_setFrames] at e1
    have h2 : (T.setVm s.vm).sameButNew ({ U with vm := s.vm } : State) [] (0 + 1) (0 + 6) := ⟨e1, e2⟩
    have h3 := X.same.trans h2
    rw [List.append_nil] at h3
    exact h3.mono hc hs
  refine ⟨U, ?_, .threw T.heap.size, hrun, hend, Or.inr ⟨T.heap.size, rfl, cls, ce, locs, hx U hWs.alike f1 (fun q hq => f2 q hq (fun z hz => nomatch hz)), hce, hO.vm, hcl, hWs, hall, hf⟩⟩
  refine st1 _ ?_
  show Steps p.tables e below (T1.setTop { method := m, pc := pc + 3, locals := ls, stack := .ref T.heap.size :: rest, locked := none }) _
  jvm_step X₁.here [X₁.here.top, hexec, d3', Value.category]
  exact X₁.ldcString hexec (own := own) (text := text) (index := is) (a := sa) hown' hstr'.1 hstr'.2
    (g := { method := m, pc := pc + 4, locals := ls, stack := .ref T.heap.size :: .ref T.heap.size :: rest, locked := none }) rfl d4' _ hsteps
/-- 'throw new E("text")', the text by a wide index -/
theorem vx_throwSW {cc : ByteArray} {pc : Nat} (hexec : p.tables.exec = Jvm.exec) (hb : c.code = cc) (hl : l.stackTraces = false) {own cls text : String} {names : List String} {ik is ic mc ms sa : Nat} {A : Nat → Prop}
    (hown : s.vm.findClass own = some m.cls) (hcls : Bundle.fit cls = true) (hnames : ∀ n ∈ names, Bundle.fit n = true)
    (hk : (Cond.classLink own ik cls).before args s = true) (hini : (Cond.initialized cls).before args s = true) (hstr : vk_R own is text sa s) (hat : ∀ w ∈ vx_atS own ic cls names, w.before args s = true)
    (hgood : ∀ w ∈ Cond.classLink own ik cls :: Cond.initialized cls :: vx_atS own ic cls names, vx_ot w = true)
    (hU : vx_Zq Bundle.tN "UNASSIGNED_STACK" Bundle.steD A s s.heap) (hN : vx_Zq Bundle.tN "SUPPRESSED_SENTINEL" Bundle.listD A s s.heap) (hS : va_S A s.heap H locs) (hsize : ls.size = c.maxLocals)
    (d0 : decode cc pc = .ok (.new ik, 3)) (d3 : decode cc (pc + 3) = .ok (.dup, 1)) (d4 : decode cc (pc + 4) = .ok (.ldc_w is, 3)) (d7 : decode cc (pc + 7) = .ok (.invokespecial ic, 3)) (d10 : decode cc (pc + 10) = .ok (.athrow, 1))
    (hout : ∀ x ∈ c.exceptionTable.toList, covers x (pc + 10) = false)
    (hRframes : names.length + 3 < R.frames) (hRlocals : (rest.map fun v => v.category).sum + (13 * (names.length + 1) + 43) ≤ R.locals) (hRcells : cells + 1 ≤ R.cells) (hRslots : slots + 6 ≤ R.slots) (hlocks : meth.locks = false)
    (hx : ∀ t : State, s.vm.Alike t.vm → H.size ≤ t.heap.size → (∀ q : Nat, q < H.size → t.heap[q]? = H[q]?) → XC cls s t)
    (hf : ∀ z ∈ locs, free z.base) (hc : cells + 1 ≤ mc) (hs : slots + 6 ≤ ms) :
    W p l e R s m args below meth c H locs cells slots (vx_MQ below Qc XC args s mc ms free) (F0 m pc ls rest) := by
  intro T hT X
  have htr : e.platform.stackTraces = false := (show e.platform.stackTraces = l.stackTraces by rw [X.admits.platform]).trans hl
  have Y := vx_rebase X (R' := { frames := R.frames, locals := R.locals, cells := 1, slots := 6 }) (Nat.le_refl _) (Nat.le_refl _) hRcells hRslots
  obtain ⟨s', hA⟩ : ∃ z, z = (T.setVm s.vm).setFrames (.invoking m args :: below) := ⟨_, rfl⟩
  rw [← hA] at Y
  have hvm : s'.vm = s.vm := by rw [hA]; rfl
  have hhp : s'.heap = H := by rw [hA]; exact hT
  have hW0 : s.WarmedH s'.vm := by rw [hvm]; exact State.WarmedH.refl s
  have hat' : ∀ w ∈ vx_atS own ic cls names, w.before args s' = true := fun w hw => vx_ot_at hW0 hvm.symm (hgood w (List.mem_cons_of_mem _ (List.mem_cons_of_mem _ hw))) (hat w hw)
  have hk' : (Cond.classLink own ik cls).before args s' = true := vx_ot_at hW0 hvm.symm (hgood _ List.mem_cons_self) hk
  have hini' : (Cond.initialized cls).before args s' = true := vx_ot_at hW0 hvm.symm (hgood _ (List.mem_cons_of_mem _ List.mem_cons_self)) hini
  have hU' : vx_Zq Bundle.tN "UNASSIGNED_STACK" Bundle.steD A s' s'.heap := by rw [hhp]; exact vx_Zq.moved hW0.alike (hU.kept hS.2.1)
  have hN' : vx_Zq Bundle.tN "SUPPRESSED_SENTINEL" Bundle.listD A s' s'.heap := by rw [hhp]; exact vx_Zq.moved hW0.alike (hN.kept hS.2.1)
  have h : ∀ w ∈ Bundle.ownAtoms own ic cls names, w.before args s' = true := vx_own hat' (vx_isRefq hU'.1) (vx_isRefq hN'.1) hU'.2.word hN'.2.word
  have hown' : s'.vm.findClass own = some m.cls := by rw [hvm]; exact hown
  have hins : (Cond.instantiable cls 6).before args s' = true := h _ (by simp [Bundle.ownAtoms])
  obtain ⟨vm₁, cX, kX, hfX, hkX, -, -, X₁, st1⟩ := Y.newCold hexec (own := own) (C := cls) (index := ik) (n := 6) hown' hk' hins hini'
    (g := F0 m pc ls rest) rfl (by rw [hb]; exact d0) (Nat.le_refl _) (Nat.le_refl _)
  generalize hT1 : (T.setVm vm₁).pushCell { cls := cX, slots := kX.instanceTypes.map defaultValue, vm := .none } = T1 at X₁ st1
  have hcat : (Value.ref T.heap.size).category = 1 := rfl
  have hcellA : T1.heap[T.heap.size]? = some (freshCell cX kX) := by rw [← hT1]; exact State.heap_pushCell_size _ _
  have d3' : decode c.code (pc + 3) = .ok (.dup, 1) := by rw [hb]; exact d3
  have d4' : decode c.code (pc + 4) = .ok (.ldc_w is, 3) := by rw [hb]; exact d4
  have hstr' : vk_R own is text sa s' := vk_R.warm hW0 hstr
  obtain ⟨U, hsteps, hrun, hend, hW, hsame, ce, hce, hO⟩ := X₁.ctorThrowS hexec htr (own := own) (cls := cls) (names := names) (ic := ic) hown' hcls hnames h (fun x hx => nomatch hx) hfX hkX hcellA (by rw [hhp, hT]; exact Nat.le_refl _) (msg := .ref sa) rfl
    (g := { method := m, pc := pc + 7, locals := ls, stack := .ref sa :: .ref T.heap.size :: .ref T.heap.size :: rest, locked := none }) rfl hsize rfl rfl (rest := rest) rfl
    (by rw [hb]; exact d7) (by rw [hb]; exact d10) hout hRframes (by simp only [List.map_cons, List.sum_cons, hcat]; omega) hlocks
  obtain ⟨f1, f2⟩ := vx_frame hsame
  rw [hhp] at f1 f2
  have hWs : s.WarmedH U.vm := State.WarmedH.trans hW0 hW
  have hcl : s.vm.findClass cls = some ce.cls := by
    have h9 := hO.cls
    rw [hvm] at h9
    exact h9
  have hall : s.sameButNew ({ U with vm := s.vm } : State) locs mc ms := by
    subst hA
    obtain ⟨e1, e2⟩ := hsame
    rw [State.setFrames_setFrames] at e1
    have h2 : (T.setVm s.vm).sameButNew ({ U with vm := s.vm } : State) [] (0 + 1) (0 + 6) := ⟨e1, e2⟩
    have h3 := X.same.trans h2
    rw [List.append_nil] at h3
    exact h3.mono hc hs
  refine ⟨U, ?_, .threw T.heap.size, hrun, hend, Or.inr ⟨T.heap.size, rfl, cls, ce, locs, hx U hWs.alike f1 (fun q hq => f2 q hq (fun z hz => nomatch hz)), hce, hO.vm, hcl, hWs, hall, hf⟩⟩
  refine st1 _ ?_
  show Steps p.tables e below (T1.setTop { method := m, pc := pc + 3, locals := ls, stack := .ref T.heap.size :: rest, locked := none }) _
  jvm_step X₁.here [X₁.here.top, hexec, d3', Value.category]
  exact X₁.ldcStringW hexec (own := own) (text := text) (index := is) (a := sa) hown' hstr'.1 hstr'.2
    (g := { method := m, pc := pc + 4, locals := ls, stack := .ref T.heap.size :: .ref T.heap.size :: rest, locked := none }) rfl d4' _ hsteps
end Ends
section Bodies
variable {l : Launch}
theorem vx_ofW {y : MethodName} {ws ws' : List Cond} {rm : Room} {Pc : Array Value → State → Prop} {Qc : Array Value → State → Outcome → State → Prop} {XC : String → State → State → Prop} {mc ms : Nat} {free : Addr → Prop} {cc : ByteArray} {maxL : Nat} {ret : Option FieldType}
    (hy : plainName y.cls = true) (hw : ws = Cond.code y cc maxL ret :: ws')
    (body : ∀ p e s m args below meth c s₁, BodyLoose p l y (headSpec ws rm) cc maxL ret e s m args below meth c s₁ → c.maxLocals = maxL → (∀ x ∈ c.exceptionTable.toList, False) → Pc args s →
      W p l e (headSpec ws rm).room s m args below meth c s.heap [] 0 0 (vx_MQ below Qc XC args s mc ms free) (entryFrame m args maxL)) : vx_Met l y ws rm Pc Qc XC mc ms free := by
  refine MetFree.of_bodyS (code := cc) (maxLocals := maxL) (ret := ret) hy ?_ ?_
  · intro args s m h hn
    obtain ⟨meth, c, h1, h2, h3, h4, h5, h6, -, -⟩ := Cond.code_spec hn (atoms_spec (ws := ws) h _ (by rw [hw]; exact List.mem_cons_self))
    exact ⟨meth, c, h1, h2, h3, h4, h5, h6⟩
  · intro p e s m args below meth c s₁ B hml hP _
    have hh0 : s₁.heap = s.heap := by rw [B.state]; rfl
    have ht : ∀ x ∈ c.exceptionTable.toList, False := by
      obtain ⟨meth9, c9, h1, h2, -, -, -, -, h7, -⟩ := Cond.code_spec B.named (atoms_spec (ws := ws) B.pre _ (by rw [hw]; exact List.mem_cons_self))
      cases Option.some.inj (h1.symm.trans B.method)
      cases Option.some.inj (h2.symm.trans (Stand.of_body B).code)
      intro x hx
      rw [Array.isEmpty_iff.mp h7] at hx
      cases hx
    obtain ⟨t, a1, o, b1, b2, b3⟩ := body p e s m args below meth c s₁ B hml ht hP s₁ hh0 (Stand.of_body B)
    exact ⟨t, o, a1, b1, b2, b3⟩
/-- the table of a body with handlers -/
theorem vx_table {p : Program} {x y : MethodName} {S : Spec} {cc bytes : ByteArray} {maxL maxL' : Nat} {ret ret' : Option FieldType} {e : Env} {s s₁ : State} {m : MethodId} {args : Array Value} {below : List Frame} {meth : Method} {c : Code} {hh : List (Nat × Nat × Nat × Nat)}
    (B : BodyLoose p l y S cc maxL ret e s m args below meth c s₁) (h : (Cond.codeWith y bytes maxL' ret' hh).before args s = true) : c.exceptionTable.toList = tableOf hh := by
  obtain ⟨m9, meth9, c9, hn9, h1, h2, -, -, h6, -⟩ := Cond.codeWith_spec h
  cases Option.some.inj (hn9.symm.trans B.named)
  cases Option.some.inj (h1.symm.trans B.method)
  cases Option.some.inj (h2.symm.trans (Stand.of_body B).code)
  rw [← h6, table_eq]
end Bodies
end VXA
/-! ===== END ===== -/
/-! ===== BEGIN a static call of a method with an exception table ===== -/
section VXS
variable {p : Program} {l : Launch} {e : Env} {R : Room} {s : State} {m : MethodId} {args : Array Value} {below : List Frame} {meth : Method} {c : Code} {T : State} {H : Heap} {locs : List Loc} {cells slots : Nat}
abbrev vx_CSW (R : Room) (s : State) (args : Array Value) (own : String) (index : Nat) (y : MethodName) (bytes : ByteArray) (maxL : Nat) (ret : Option FieldType) (hh : List (Nat × Nat × Nat × Nat)) (ws : List Cond) (rm : Room) (mc ms n : Nat) : Prop :=
  (rm.cells = mc ∧ rm.slots = ms ∧ rm.frames + 1 ≤ R.frames ∧ 8 + (maxL + 11) + rm.locals ≤ R.locals ∧ (∀ w ∈ ws, ∀ (a' : Array Value) (U : State), s.WarmedH U.vm → w.before a' U = true) ∧ Cond.codeWith y bytes maxL ret hh ∈ ws) ∧
  (Cond.codeWith y bytes maxL ret hh).before args s = true ∧ (Cond.initialized y.cls).before args s = true ∧ (y.cls ≠ "java/lang/invoke/MethodHandle" ∧ y.cls ≠ "java/lang/invoke/VarHandle") ∧
  (∀ sig, parseMethodDescriptor y.desc = some sig → n = sig.parameters.length) ∧ (Cond.methodLink own index y).before args s = true ∧ (Cond.static y).before args s = true
theorem vx_cwSW {own : String} {index maxL mc ms : Nat} {y : MethodName} {bytes : ByteArray} {ret : Option FieldType} {hh : List (Nat × Nat × Nat × Nat)} {Ts ws ws' : List Cond} {rm : Room} (n : Nat) (ht : ∀ w ∈ Ts, w.before args s = true) (hT : GoodIn Ts (va_wsS own index y ws)) (hw : ws = Cond.codeWith y bytes maxL ret hh :: ws') (hrc : rm.cells = mc) (hrs : rm.slots = ms)
    (hd : y.cls ≠ "java/lang/invoke/MethodHandle" ∧ y.cls ≠ "java/lang/invoke/VarHandle" ∧ (parseMethodDescriptor y.desc).map (fun d => d.parameters.length) = some n) (hR : rm.frames + 1 ≤ R.frames ∧ 8 + (maxL + 11) + rm.locals ≤ R.locals) :
    vx_CSW R s args own index y bytes maxL ret hh ws rm mc ms n := by
  have ok : ∀ w ∈ va_wsS own index y ws, w.before args s = true := fun w h => ht w (hT w h).1
  have hG : GoodIn Ts ws := fun w h => hT w (by unfold va_wsS; exact List.mem_append_right _ h)
  have hc : Cond.codeWith y bytes maxL ret hh ∈ ws := by rw [hw]; exact List.mem_cons_self
  refine ⟨⟨hrc, hrs, hR.1, hR.2, pay_in ht hG, hc⟩, ht _ (hG _ hc).1, ok _ (by simp [va_wsS]), ⟨hd.1, hd.2.1⟩, fun sig h => ?_, ok _ (by simp [va_wsS]), ok _ (by simp [va_wsS])⟩
  have h2 := hd.2.2
  rw [h] at h2
  exact (Option.some.inj h2).symm
theorem vx_callSW (X : Stand p l e R s m args below meth c T locs cells slots) (hexec : p.tables.exec = Jvm.exec) {own : String} {index : Nat} {y : MethodName} {bytes : ByteArray} {maxL : Nat} {ret : Option FieldType} {hh : List (Nat × Nat × Nat × Nat)}
    (hown : s.vm.findClass own = some m.cls) (hlink : (Cond.methodLink own index y).before args s = true) (hstat : (Cond.static y).before args s = true) (hinit : (Cond.initialized y.cls).before args s = true)
    (hcode : (Cond.codeWith y bytes maxL ret hh).before args s = true) (hy : y.cls ≠ "java/lang/invoke/MethodHandle" ∧ y.cls ≠ "java/lang/invoke/VarHandle")
    {W9 : Nat} {Pre : Pt → Array Value → Prop} {Post : Pt → Array Value → Option Value → Pt → Prop} (hK : Back l R p e below s args y 3 W9 Pre Post)
    {g : JFrame} (hg : g.method = m) (hsize : g.locals.size = c.maxLocals) {argsL rest : List Value} (hlen : ∀ sig, parseMethodDescriptor y.desc = some sig → argsL.length = sig.parameters.length)
    (hstack : g.stack = argsL.reverse ++ rest) (hW : 2 * g.monitorRoom + (rest.map fun v => v.category).sum ≤ W9) (hdg : decode c.code g.pc = .ok (.invokestatic index, 3))
    (hpre : ∀ vm₁, s.WarmedH vm₁ → Pre ⟨T.setVm vm₁, locs, cells, slots⟩ argsL.toArray) :
    ∃ (v : Option Value) (vm₁ : Vm) (B : Pt), s.WarmedH vm₁ ∧ Stand p l e R s m args below meth c B.U B.locs B.cells B.slots ∧ Post ⟨T.setVm vm₁, locs, cells, slots⟩ argsL.toArray v B ∧
      ∀ target, Steps p.tables e below (B.U.setTop { g with pc := g.pc + 3, stack := v.toList ++ rest }) target → Steps p.tables e below (T.setTop g) target := by
  obtain ⟨mk, methM, cM, hnamed, hmethM, -, -, -, -, -, -, hsigM⟩ := Cond.codeWith_spec hcode
  have hstatic : methM.isStatic = true := Cond.static_spec hnamed hmethM hstat
  obtain ⟨kP, hkP, -⟩ := className_of_methodNamed hnamed
  have hinitP : kP.init = .initialized := Cond.initialized_spec (findClass_of_methodNamed hnamed) hkP hinit
  obtain ⟨vm₁, X₁, hstep₁⟩ := X.invokestatic hexec hown hlink hnamed hmethM hstatic hkP hinitP hy (g := g) hg (argsL := argsL) (rest := rest) (hlen _ hsigM) hstack hdg
  obtain ⟨v, B, X', hpost, hsteps⟩ := hK m meth c ⟨T.setVm vm₁, locs, cells, slots⟩ { g with stack := rest } (.invokestatic index) mk argsL.toArray X₁ hg hsize hdg hW (X₁.named hnamed) (hpre vm₁ X₁.warmed)
  exact ⟨v, vm₁, B, X₁.warmed, X', hpost, fun target h => hstep₁ _ fun acts => by rw [doInvoke_state]; exact hsteps.trans h⟩
theorem vx_runSW {y : MethodName} {bytes cc : ByteArray} {maxL nL mc ms n index : Nat} {ret : Option FieldType} {hh : List (Nat × Nat × Nat × Nat)} {ws : List Cond} {rm : Room} {Pc : Array Value → State → Prop} {Qc : Array Value → State → Outcome → State → Prop} {free : Addr → Prop} {Ts : List Cond} {own : String} {As rest : List Value} {g : JFrame}
    (S : CallFix p m c cc nL s args Ts own) (hM : Met l y ws rm Pc Qc mc ms free) (cw : vx_CSW R s args own index y bytes maxL ret hh ws rm mc ms n) (hp : PreS s H Pc As)
    (hg : g.method = m) (hn : As.length = n) (hsize : g.locals.size = nL) (hstack : g.stack = As.reverse ++ rest) (hW : 2 * g.monitorRoom + (rest.map fun v => v.category).sum ≤ 8) (hdg : decode cc g.pc = .ok (.invokestatic index, 3)) (hf : cells + mc ≤ R.cells ∧ slots + ms ≤ R.slots) :
    va_Run p l e R s m args below meth c H locs cells slots mc ms g rest (Qc As.toArray) (free) := by
  obtain ⟨⟨hrc, hrs, hfr, hlo, hws, hcw⟩, hcode, hini, hy, hlen, hl, hstt⟩ := cw
  have hK : Back l R p e below s args y 3 8 (PreOf R mc ms Pc) (PostOf Qc mc ms free) := va_backW (hh := hh) (bytes := bytes) (maxL := maxL) (ret := ret) hM hp.1 hrc hrs hfr hlo hws hcw (fun a' U hW => word_at hW (Or.inl (by first | rfl | simp [Cond.onTables, Cond.keeps, Cond.steady])) hini)
  obtain ⟨hx, hb, hml, ho, -⟩ := S
  intro T hT X
  obtain ⟨v, vm₁, ⟨U', l2, c2, s2⟩, hW₁, X', ⟨g', mk, t, L, e1, e2, hq, h1, hL, h2, h3⟩, st⟩ := vx_callSW X hx (hh := hh) (bytes := bytes) (maxL := maxL) (ret := ret) ho hl hstt hini hcode hy hK hg (hsize.trans hml.symm) (argsL := As) (rest := rest) (fun sig h => hn.trans (hlen sig h)) hstack hW (by rw [hb]; exact hdg)
    (fun vm₁ hW₁ => ⟨hf.1, hf.2, hp.2 (T.setVm vm₁) hT hW₁⟩)
  dsimp only [Pt.U, Pt.locs, Pt.cells, Pt.slots] at X' e1 e2 h1 h2 h3 st
  subst h1; subst h2; subst h3
  exact ⟨v, (T.setVm vm₁).calling g' mk As.toArray, t, U', L, hT, X', hL, e1, e2, hq, st⟩
/-- not caught here, past rows that name other classes: it goes on to the caller -/
theorem vx_outP {p : Program} {l : Launch} {e : Env} {R : Room} {s : State} {m : MethodId} {args : Array Value} {below : List Frame} {meth : Method} {c : Code} {H : Heap} {locs : List Loc} {cells slots : Nat} {free : Addr → Prop} {ls : Array Slot} {rest : List Value} {Qc : Array Value → State → Outcome → State → Prop} {XC : String → State → State → Prop}
    {pc : Nat} {own E : String} {ce : Cell} {q : Addr} {mc ms : Nat} (hown : s.vm.findClass own = some m.cls) (hlocks : meth.locks = false)
    (hpass : ∀ z ∈ c.exceptionTable.toList, covers z pc = false ∨ (z.catchType ≠ 0 ∧ ∃ nm : String, (Cond.classLink own z.catchType nm).before args s = true ∧ va_Nc E nm s)) (hcell : H[q]? = some ce) (hv : ce.vm = .none) (hcl : s.vm.findClass E = some ce.cls)
    (hx : ∀ t : State, t.heap = H → s.vm.Alike t.vm → XC E s t) (hf : ∀ z ∈ locs, free z.base) (hc : cells ≤ mc) (hs : slots ≤ ms) :
    vx_W p l e R s m args below meth c H locs cells slots (vx_MQ below Qc XC args s mc ms free) (F0 m pc ls rest) q := by
  intro T hT X
  have hpl : e.platform.magicAccessors = ({} : Platform).magicAccessors := by rw [X.admits.platform]
  obtain ⟨vm', hW', X', st⟩ := X.outThrough hlocks q (g := F0 m pc ls rest) rfl rfl rfl (cell := ce) (by rw [hT]; exact hcell) (by rw [hv]; rfl)
    (by obtain ⟨k9, h9, -⟩ := Vm.findClass_spec hcl; exact ⟨k9, h9⟩) (fun z hz => by
      rcases hpass z hz with h | ⟨hz0, nm, hl1, hn1⟩
      · exact Or.inl h
      · obtain ⟨c6, hc6, hcl6⟩ := Cond.classLink_spec hown hl1 e.platform hpl
        obtain ⟨a8, b8, h1, h2, h3⟩ := hn1
        cases Option.some.inj (h1.symm.trans hcl)
        cases Option.some.inj (h2.symm.trans hc6)
        exact Or.inr ⟨hz0, _, hcl6, h3⟩)
  obtain ⟨g₀, hfr⟩ := X'.frames_eq
  have hcell9 : ((T.setVm vm').setFrames (.throwing q :: below)).heap[q]? = some ce := by
    show T.heap[q]? = some ce
    rw [hT]; exact hcell
  have hend : Ended ((T.setVm vm').setFrames (.throwing q :: below)) below (.threw q) := State.frames_setFrames _ (State.cur_lt_of_frames hfr)
  refine ⟨(T.setVm vm').setFrames (.throwing q :: below), ?_, .threw q, X'.here.running, hend, Or.inr ⟨q, rfl, E, ce, locs, hx _ hT (X'.ends _).1.alike, hcell9, hv, hcl, (X'.ends _).1, (X'.ends _).2.mono hc hs, hf⟩⟩
  rw [X.pushThrowing_eq]
  exact st
/-- a thing of a world lies in the heap -/
theorem vx_lt {D : va_G} {cl : List vw_C} {ws : va_W} {H1 : Heap} (h : va_P D cl ws H1) {k : Nat} {q : Nat × va_E} (hk : ws[k]? = some q) : q.1 < H1.size := (h k q hk).lt
end VXS
/-! ===== END ===== -/
/-! ===== BEGIN methods with a table of their own: called by a name, returning or throwing ===== -/
section VXH
/-! vx_backW, vx_callVX, vx_callSX, vx_callVW, vx_runVW, vx_runVX, vx_runSX, vx_ofWH follow the same proofs as their sisters above (Free/Laws.lean, Shelf42/LK1.lean); vx_outP calls Shelf42/NT130.lean (outThrough). -/
section
variable {l : Launch} {R : Room} {p : Program} {e : Env} {below : List Frame} {s : State} {sargs : Array Value} {y : MethodName} {len W9 : Nat}
theorem vx_backW {ws : List Cond} {rm : Room} {Pc : Array Value → State → Prop} {Qc : Array Value → State → Outcome → State → Prop} {XC : String → State → State → Prop} {mc ms : Nat} {free : Addr → Prop} {bytes : ByteArray} {maxL : Nat} {ret : Option FieldType} {hh : List (Nat × Nat × Nat × Nat)}
    (hM : vx_Met l y ws rm Pc Qc XC mc ms free) (hblind : FrameBlind Pc) (hrc : rm.cells = mc) (hrs : rm.slots = ms)
    (hframes : rm.frames + 1 ≤ R.frames) (hlocals : W9 + (maxL + 11) + rm.locals ≤ R.locals)
    (hws : ∀ w ∈ ws, ∀ a' U, s.WarmedH U.vm → w.before a' U = true) (hcode : Cond.codeWith y bytes maxL ret hh ∈ ws) (hinit : ∀ a' U, s.WarmedH U.vm → (Cond.initialized y.cls).before a' U = true) :
    vx_Back l R p e below s sargs y len W9 (PreOf R mc ms Pc) (PostOf Qc mc ms free) (vx_Post XC mc ms free) := by
  intro m meth c A g ig mk a X hg hsize hdg hW hn hp
  have h1 : (headSpec ws rm).pre.before a A.U = true := atoms_intro fun w hw => hws w hw _ _ X.warmed
  have h2 : (Cond.codeWith y bytes maxL ret hh).before a A.U = true := hws _ hcode _ _ X.warmed
  have h3 : (Cond.initialized y.cls).before a A.U = true := hinit _ _ X.warmed
  have h4 : A.cells + (headSpec ws rm).room.cells ≤ R.cells := by rw [show (headSpec ws rm).room.cells = mc from hrc]; exact hp.1
  have h5 : A.slots + (headSpec ws rm).room.slots ≤ R.slots := by rw [show (headSpec ws rm).room.slots = ms from hrs]; exact hp.2.1
  have hPc : Pc a (A.U.calling g mk a) := hblind _ _ _ _ hp.2.2
  obtain ⟨U, Ls, c0, s0⟩ := A
  dsimp only [Pt.U, Pt.locs, Pt.cells, Pt.slots] at h1 h2 h3 h4 h5 X hn hPc ⊢
  obtain ⟨m9, methY, cY, hn9, hmY, hcY, -, hlY, -⟩ := Cond.codeWith_spec h2
  cases Option.some.inj (hn9.symm.trans hn)
  obtain ⟨kY, hkY, -⟩ := className_of_methodNamed hn
  have hinitY : kY.init = .initialized := Cond.initialized_spec (findClass_of_methodNamed hn) hkY h3
  have h : At U g.method c below := by rw [hg]; exact X.here
  have hlocals9 : W9 + (maxL + 11) + (headSpec ws rm).room.locals ≤ R.locals := hlocals
  have happ : (headSpec ws rm).appliesLoose y e.platform (U.calling g mk a) = true :=
    Spec.appliesLoose_calling (g := g) h hdg hn hkY hinitY
      (X.room_calling (g := g) (R' := (headSpec ws rm).room) hsize hmY hcY hframes (by rw [hlY]; omega) h4 h5) h1
  obtain ⟨mid, hmid⟩ := h.above
  have hfr : (U.setTop g).frames = (.java g :: mid) ++ below := by rw [State.frames_setTop' g h.top, hmid]; rfl
  obtain ⟨o, s₂, hsteps, -, hend, hq⟩ := Steps.callFree hM p X.admits X.cas X.clock (acts := []) hfr happ hPc trivial
  have hq' : vx_Q Qc XC mc ms free a (U.calling g mk a) o s₂ := hq
  rw [State.frames_setTop' g h.top] at hend
  obtain ⟨g₀, hg0⟩ := Option.isSome_iff_exists.mp h.top
  obtain ⟨r, hr⟩ := State.topJava?_eq_some.mp hg0
  have hr' : (({ U with heap := s₂.heap, slotsUsed := s₂.slotsUsed } : State).setVm s₂.vm).frames = .java g₀ :: r := hr
  rcases hq' with ⟨hqc, L, hfe, hL⟩ | ⟨q, rfl, E, ce, L, hx, hce, hcv, hcl, hW₂, hsm, hL⟩
  · obtain ⟨⟨v, rfl⟩, hW₂, e2, q2, q3, q4, q5, q6⟩ := id hfe
    have e3 : s₂ = ({ (U.calling g mk a).setFrames s₂.frames with heap := s₂.heap, slotsUsed := s₂.slotsUsed } : State).setVm s₂.vm := by
      have : s₂ = ({ s₂ with vm := (U.calling g mk a).vm } : State).setVm s₂.vm := rfl
      rw [e2] at this
      exact this
    obtain ⟨c₂, i₂, len₂, hc₂, hd₂, hf₂⟩ := hend
    have hW' : U.WarmedH s₂.vm := hW₂
    have hcc : c₂ = c := by
      have h1 : s₂.code? g.method = U.code? g.method := by
        rw [State.code?_eq, State.code?_eq, hW'.alike.method?]
      exact Option.some.inj (hc₂.symm.trans (h1.trans h.code))
    subst hcc
    have hlen : len₂ = len := by rw [hdg] at hd₂; cases hd₂; rfl
    subst hlen
    have hs₂ : s₂ = (({ U with heap := s₂.heap, slotsUsed := s₂.slotsUsed } : State).setVm s₂.vm).setTop { g with pc := g.pc + len₂, stack := v.toList ++ g.stack } := by
      refine e3.trans ?_
      rw [hf₂, State.calling_eq h.top, State.setFrames_setFrames, State.setTop_of_frames _ hr', hr]
      rfl
    have hsame : U.sameButNew ({ U with heap := s₂.heap, slotsUsed := s₂.slotsUsed } : State) L mc ms := by
      refine ⟨?_, q2, q3, q4, q5, q6⟩
      obtain ⟨t, ht, -⟩ := State.frames_cons hr
      show ({ U with heap := s₂.heap, slotsUsed := s₂.slotsUsed } : State) = { U.setFrames U.frames with heap := s₂.heap, slotsUsed := s₂.slotsUsed }
      rw [State.setFrames_self ht]
    subst hg
    refine Or.inl ⟨v, ⟨(({ U with heap := s₂.heap, slotsUsed := s₂.slotsUsed } : State).setVm s₂.vm), Ls ++ L, c0 + mc, s0 + ms⟩,
      ⟨X.admits, X.cas, X.clock, X.frames, X.room, X.hears, X.method, X.code, (X.here.setHeapUsed s₂.heap s₂.slotsUsed).setVm hW'.alike, X.tail, State.WarmedH.trans X.warmed hW', X.limits, X.bytes, X.same.trans (hsame.setVm s.vm)⟩,
      ⟨g, mk, s₂, L, rfl, rfl, hqc, rfl, hL, rfl, rfl⟩, ?_⟩
    show Steps p.tables e below _ ((({ U with heap := s₂.heap, slotsUsed := s₂.slotsUsed } : State).setVm s₂.vm).setTop { g with pc := g.pc + len₂, stack := v.toList ++ g.stack })
    rw [← hs₂]
    exact hsteps
  · obtain ⟨e2, q2, q3, q4, q5, q6⟩ := id hsm
    have e3 : s₂ = ({ (U.calling g mk a).setFrames s₂.frames with heap := s₂.heap, slotsUsed := s₂.slotsUsed } : State).setVm s₂.vm := by
      have : s₂ = ({ s₂ with vm := (U.calling g mk a).vm } : State).setVm s₂.vm := rfl
      rw [e2] at this
      exact this
    have hf₂ : s₂.frames = .throwing q :: .java g :: U.frames.tail := hend
    have hW' : U.WarmedH s₂.vm := hW₂
    have hs₂ : s₂ = ((({ U with heap := s₂.heap, slotsUsed := s₂.slotsUsed } : State).setVm s₂.vm).setTop g).pushFrame (.throwing q) := by
      refine e3.trans ?_
      rw [hf₂, State.calling_eq h.top, State.setFrames_setFrames, State.pushFrame, State.frames_setTop _ hr', State.setTop_of_frames _ hr', State.setFrames_setFrames, hr]
      rfl
    have hsame : U.sameButNew ({ U with heap := s₂.heap, slotsUsed := s₂.slotsUsed } : State) L mc ms := by
      refine ⟨?_, q2, q3, q4, q5, q6⟩
      obtain ⟨t, ht, -⟩ := State.frames_cons hr
      show ({ U with heap := s₂.heap, slotsUsed := s₂.slotsUsed } : State) = { U.setFrames U.frames with heap := s₂.heap, slotsUsed := s₂.slotsUsed }
      rw [State.setFrames_self ht]
    subst hg
    refine Or.inr ⟨q, ⟨(({ U with heap := s₂.heap, slotsUsed := s₂.slotsUsed } : State).setVm s₂.vm), Ls ++ L, c0 + mc, s0 + ms⟩,
      ⟨X.admits, X.cas, X.clock, X.frames, X.room, X.hears, X.method, X.code, (X.here.setHeapUsed s₂.heap s₂.slotsUsed).setVm hW'.alike, X.tail, State.WarmedH.trans X.warmed hW', X.limits, X.bytes, X.same.trans (hsame.setVm s.vm)⟩,
      ⟨g, mk, s₂, L, E, ce, rfl, rfl, hx, hce, hcv, hcl, rfl, hL, rfl, rfl⟩, ?_⟩
    show Steps p.tables e below _ (((({ U with heap := s₂.heap, slotsUsed := s₂.slotsUsed } : State).setVm s₂.vm).setTop g).pushFrame (.throwing q))
    rw [← hs₂]
    exact hsteps
end
variable {p : Program} {l : Launch} {e : Env} {R : Room} {s : State} {m : MethodId} {args : Array Value} {below : List Frame} {meth : Method} {c : Code} {T : State} {H : Heap} {locs : List Loc} {cells slots : Nat}
theorem vx_callVX (X : Stand p l e R s m args below meth c T locs cells slots) (hexec : p.tables.exec = Jvm.exec) {own C : String} {index : Nat} {y : MethodName} {bytes : ByteArray} {maxL : Nat} {ret : Option FieldType} {hh : List (Nat × Nat × Nat × Nat)}
    (hown : s.vm.findClass own = some m.cls) (hlink : (Cond.methodLink own index y).before args s = true) (hinst : (Cond.instanceMethod y).before args s = true) (hsel : (Cond.selects C y y).before args s = true)
    (hcode : (Cond.codeWith y bytes maxL ret hh).before args s = true) (hy : y.cls ≠ "java/lang/invoke/MethodHandle" ∧ y.cls ≠ "java/lang/invoke/VarHandle")
    {W9 : Nat} {Pre : Pt → Array Value → Prop} {Post : Pt → Array Value → Option Value → Pt → Prop} {PostX : Pt → Array Value → Addr → Pt → Prop} (hK : vx_Back l R p e below s args y 3 W9 Pre Post PostX)
    {b : Addr} {cellB : Cell} (hcell : T.heap[b]? = some cellB) (hobj : cellB.vm.isStatics = false) (hcls : s.vm.findClass C = some cellB.cls)
    {g : JFrame} (hg : g.method = m) (hsize : g.locals.size = c.maxLocals) {argsL rest : List Value} (hlen : ∀ sig, parseMethodDescriptor y.desc = some sig → argsL.length = sig.parameters.length)
    (hstack : g.stack = argsL.reverse ++ .ref b :: rest) (hW : 2 * g.monitorRoom + (rest.map fun v => v.category).sum ≤ W9) (hdg : decode c.code g.pc = .ok (.invokevirtual index, 3))
    (hpre : ∀ vm₁, s.WarmedH vm₁ → Pre ⟨T.setVm vm₁, locs, cells, slots⟩ (Value.ref b :: argsL).toArray) :
    (∃ (v : Option Value) (vm₁ : Vm) (B : Pt), s.WarmedH vm₁ ∧ Stand p l e R s m args below meth c B.U B.locs B.cells B.slots ∧ Post ⟨T.setVm vm₁, locs, cells, slots⟩ (Value.ref b :: argsL).toArray v B ∧
      ∀ target, Steps p.tables e below (B.U.setTop { g with pc := g.pc + 3, stack := v.toList ++ rest }) target → Steps p.tables e below (T.setTop g) target) ∨
    (∃ (q : Addr) (vm₁ : Vm) (B : Pt), s.WarmedH vm₁ ∧ Stand p l e R s m args below meth c B.U B.locs B.cells B.slots ∧ PostX ⟨T.setVm vm₁, locs, cells, slots⟩ (Value.ref b :: argsL).toArray q B ∧
      Steps p.tables e below (T.setTop g) ((B.U.setTop { g with stack := rest }).pushFrame (.throwing q))) := by
  obtain ⟨mk, methM, hnamed, hmethM, hstM, habM⟩ := Cond.instanceMethod_spec hinst
  obtain ⟨m8, methM', cM, hn8, hmethM', -, -, -, -, -, -, hsigM⟩ := Cond.codeWith_spec hcode
  cases Option.some.inj (hn8.symm.trans hnamed)
  cases hmethM.symm.trans hmethM'
  obtain ⟨c2, r2, m2, q1, q2, q3, q4, kP, hkP, hkPi⟩ := Cond.selects_spec hsel
  cases hcls.symm.trans q1
  cases (State.methodFound?_of_named hnamed hy).symm.trans q2
  cases hnamed.symm.trans q3
  have hselP : selectMethod e.platform s.vm cellB.cls mk = .method mk := by rw [Launch.admits_selectMethod X.admits]; exact q4
  obtain ⟨vm₁, X₁, hstep₁⟩ := X.invokevirtual hexec hown hlink hnamed hmethM hstM hkP hkPi hy (a := b) (cell := cellB) hcell
    (fun z h => by rw [h] at hobj; cases hobj) hselP hmethM habM hkP hkPi (g := g) hg (argsL := argsL) (rest := rest) (hlen _ hsigM) hstack hdg
  rcases hK m meth c ⟨T.setVm vm₁, locs, cells, slots⟩ { g with stack := rest } (.invokevirtual index) mk (Value.ref b :: argsL).toArray X₁ hg hsize hdg hW (X₁.named hnamed) (hpre vm₁ X₁.warmed) with ⟨v, B, X', hpost, hsteps⟩ | ⟨q, B, X', hpost, hsteps⟩
  · exact Or.inl ⟨v, vm₁, B, X₁.warmed, X', hpost, fun target h => hstep₁ _ fun acts => by rw [doInvoke_state]; exact hsteps.trans h⟩
  · exact Or.inr ⟨q, vm₁, B, X₁.warmed, X', hpost, hstep₁ _ fun acts => by rw [doInvoke_state]; exact hsteps⟩
theorem vx_callSX (X : Stand p l e R s m args below meth c T locs cells slots) (hexec : p.tables.exec = Jvm.exec) {own : String} {index : Nat} {y : MethodName} {bytes : ByteArray} {maxL : Nat} {ret : Option FieldType} {hh : List (Nat × Nat × Nat × Nat)}
    (hown : s.vm.findClass own = some m.cls) (hlink : (Cond.methodLink own index y).before args s = true) (hstat : (Cond.static y).before args s = true) (hinit : (Cond.initialized y.cls).before args s = true)
    (hcode : (Cond.codeWith y bytes maxL ret hh).before args s = true) (hy : y.cls ≠ "java/lang/invoke/MethodHandle" ∧ y.cls ≠ "java/lang/invoke/VarHandle")
    {W9 : Nat} {Pre : Pt → Array Value → Prop} {Post : Pt → Array Value → Option Value → Pt → Prop} {PostX : Pt → Array Value → Addr → Pt → Prop} (hK : vx_Back l R p e below s args y 3 W9 Pre Post PostX)
    {g : JFrame} (hg : g.method = m) (hsize : g.locals.size = c.maxLocals) {argsL rest : List Value} (hlen : ∀ sig, parseMethodDescriptor y.desc = some sig → argsL.length = sig.parameters.length)
    (hstack : g.stack = argsL.reverse ++ rest) (hW : 2 * g.monitorRoom + (rest.map fun v => v.category).sum ≤ W9) (hdg : decode c.code g.pc = .ok (.invokestatic index, 3))
    (hpre : ∀ vm₁, s.WarmedH vm₁ → Pre ⟨T.setVm vm₁, locs, cells, slots⟩ argsL.toArray) :
    (∃ (v : Option Value) (vm₁ : Vm) (B : Pt), s.WarmedH vm₁ ∧ Stand p l e R s m args below meth c B.U B.locs B.cells B.slots ∧ Post ⟨T.setVm vm₁, locs, cells, slots⟩ argsL.toArray v B ∧
      ∀ target, Steps p.tables e below (B.U.setTop { g with pc := g.pc + 3, stack := v.toList ++ rest }) target → Steps p.tables e below (T.setTop g) target) ∨
    (∃ (q : Addr) (vm₁ : Vm) (B : Pt), s.WarmedH vm₁ ∧ Stand p l e R s m args below meth c B.U B.locs B.cells B.slots ∧ PostX ⟨T.setVm vm₁, locs, cells, slots⟩ argsL.toArray q B ∧
      Steps p.tables e below (T.setTop g) ((B.U.setTop { g with stack := rest }).pushFrame (.throwing q))) := by
  obtain ⟨mk, methM, cM, hnamed, hmethM, -, -, -, -, -, -, hsigM⟩ := Cond.codeWith_spec hcode
  have hstatic : methM.isStatic = true := Cond.static_spec hnamed hmethM hstat
  obtain ⟨kP, hkP, -⟩ := className_of_methodNamed hnamed
  have hinitP : kP.init = .initialized := Cond.initialized_spec (findClass_of_methodNamed hnamed) hkP hinit
  obtain ⟨vm₁, X₁, hstep₁⟩ := X.invokestatic hexec hown hlink hnamed hmethM hstatic hkP hinitP hy (g := g) hg (argsL := argsL) (rest := rest) (hlen _ hsigM) hstack hdg
  rcases hK m meth c ⟨T.setVm vm₁, locs, cells, slots⟩ { g with stack := rest } (.invokestatic index) mk argsL.toArray X₁ hg hsize hdg hW (X₁.named hnamed) (hpre vm₁ X₁.warmed) with ⟨v, B, X', hpost, hsteps⟩ | ⟨q, B, X', hpost, hsteps⟩
  · exact Or.inl ⟨v, vm₁, B, X₁.warmed, X', hpost, fun target h => hstep₁ _ fun acts => by rw [doInvoke_state]; exact hsteps.trans h⟩
  · exact Or.inr ⟨q, vm₁, B, X₁.warmed, X', hpost, hstep₁ _ fun acts => by rw [doInvoke_state]; exact hsteps⟩
theorem vx_callVW (X : Stand p l e R s m args below meth c T locs cells slots) (hexec : p.tables.exec = Jvm.exec) {own C : String} {index : Nat} {y : MethodName} {bytes : ByteArray} {maxL : Nat} {ret : Option FieldType} {hh : List (Nat × Nat × Nat × Nat)}
    (hown : s.vm.findClass own = some m.cls) (hlink : (Cond.methodLink own index y).before args s = true) (hinst : (Cond.instanceMethod y).before args s = true) (hsel : (Cond.selects C y y).before args s = true)
    (hcode : (Cond.codeWith y bytes maxL ret hh).before args s = true) (hy : y.cls ≠ "java/lang/invoke/MethodHandle" ∧ y.cls ≠ "java/lang/invoke/VarHandle")
    {W9 : Nat} {Pre : Pt → Array Value → Prop} {Post : Pt → Array Value → Option Value → Pt → Prop} (hK : Back l R p e below s args y 3 W9 Pre Post)
    {b : Addr} {cellB : Cell} (hcell : T.heap[b]? = some cellB) (hobj : cellB.vm.isStatics = false) (hcls : s.vm.findClass C = some cellB.cls)
    {g : JFrame} (hg : g.method = m) (hsize : g.locals.size = c.maxLocals) {argsL rest : List Value} (hlen : ∀ sig, parseMethodDescriptor y.desc = some sig → argsL.length = sig.parameters.length)
    (hstack : g.stack = argsL.reverse ++ .ref b :: rest) (hW : 2 * g.monitorRoom + (rest.map fun v => v.category).sum ≤ W9) (hdg : decode c.code g.pc = .ok (.invokevirtual index, 3))
    (hpre : ∀ vm₁, s.WarmedH vm₁ → Pre ⟨T.setVm vm₁, locs, cells, slots⟩ (Value.ref b :: argsL).toArray) :
    ∃ (v : Option Value) (vm₁ : Vm) (B : Pt), s.WarmedH vm₁ ∧ Stand p l e R s m args below meth c B.U B.locs B.cells B.slots ∧ Post ⟨T.setVm vm₁, locs, cells, slots⟩ (Value.ref b :: argsL).toArray v B ∧
      ∀ target, Steps p.tables e below (B.U.setTop { g with pc := g.pc + 3, stack := v.toList ++ rest }) target → Steps p.tables e below (T.setTop g) target := by
  obtain ⟨mk, methM, hnamed, hmethM, hstM, habM⟩ := Cond.instanceMethod_spec hinst
  obtain ⟨m8, methM', cM, hn8, hmethM', -, -, -, -, -, -, hsigM⟩ := Cond.codeWith_spec hcode
  cases Option.some.inj (hn8.symm.trans hnamed)
  cases hmethM.symm.trans hmethM'
  obtain ⟨c2, r2, m2, q1, q2, q3, q4, kP, hkP, hkPi⟩ := Cond.selects_spec hsel
  cases hcls.symm.trans q1
  cases (State.methodFound?_of_named hnamed hy).symm.trans q2
  cases hnamed.symm.trans q3
  have hselP : selectMethod e.platform s.vm cellB.cls mk = .method mk := by rw [Launch.admits_selectMethod X.admits]; exact q4
  obtain ⟨vm₁, X₁, hstep₁⟩ := X.invokevirtual hexec hown hlink hnamed hmethM hstM hkP hkPi hy (a := b) (cell := cellB) hcell
    (fun z h => by rw [h] at hobj; cases hobj) hselP hmethM habM hkP hkPi (g := g) hg (argsL := argsL) (rest := rest) (hlen _ hsigM) hstack hdg
  obtain ⟨v, B, X', hpost, hsteps⟩ := hK m meth c ⟨T.setVm vm₁, locs, cells, slots⟩ { g with stack := rest } (.invokevirtual index) mk (Value.ref b :: argsL).toArray X₁ hg hsize hdg hW (X₁.named hnamed) (hpre vm₁ X₁.warmed)
  exact ⟨v, vm₁, B, X₁.warmed, X', hpost, fun target h => hstep₁ _ fun acts => by rw [doInvoke_state]; exact hsteps.trans h⟩
abbrev vx_CVW (R : Room) (s : State) (args : Array Value) (own C : String) (index : Nat) (y : MethodName) (bytes : ByteArray) (maxL : Nat) (ret : Option FieldType) (hh : List (Nat × Nat × Nat × Nat)) (ws : List Cond) (rm : Room) (mc ms n : Nat) : Prop :=
  (rm.cells = mc ∧ rm.slots = ms ∧ rm.frames + 1 ≤ R.frames ∧ 8 + (maxL + 11) + rm.locals ≤ R.locals ∧ (∀ w ∈ ws, ∀ (a' : Array Value) (U : State), s.WarmedH U.vm → w.before a' U = true) ∧ Cond.codeWith y bytes maxL ret hh ∈ ws) ∧
  (Cond.codeWith y bytes maxL ret hh).before args s = true ∧ (Cond.initialized y.cls).before args s = true ∧ (y.cls ≠ "java/lang/invoke/MethodHandle" ∧ y.cls ≠ "java/lang/invoke/VarHandle") ∧
  (∀ sig, parseMethodDescriptor y.desc = some sig → n = sig.parameters.length) ∧ (Cond.methodLink own index y).before args s = true ∧ (Cond.instanceMethod y).before args s = true ∧ (Cond.selects C y y).before args s = true
theorem vx_cwVW {own C : String} {index maxL mc ms : Nat} {y : MethodName} {bytes : ByteArray} {ret : Option FieldType} {hh : List (Nat × Nat × Nat × Nat)} {Ts ws ws' : List Cond} {rm : Room} (n : Nat) (ht : ∀ w ∈ Ts, w.before args s = true) (hT : GoodIn Ts (wsV own index C y ws)) (hw : ws = Cond.codeWith y bytes maxL ret hh :: ws') (hrc : rm.cells = mc) (hrs : rm.slots = ms)
    (hd : y.cls = C ∧ y.cls ≠ "java/lang/invoke/MethodHandle" ∧ y.cls ≠ "java/lang/invoke/VarHandle" ∧ (parseMethodDescriptor y.desc).map (fun d => d.parameters.length) = some n) (hR : rm.frames + 1 ≤ R.frames ∧ 8 + (maxL + 11) + rm.locals ≤ R.locals) :
    vx_CVW R s args own C index y bytes maxL ret hh ws rm mc ms n := by
  obtain ⟨hC, hd⟩ := hd
  subst hC
  have ok : ∀ w ∈ wsV own index y.cls y ws, w.before args s = true := fun w h => ht w (hT w h).1
  have hG : GoodIn Ts ws := fun w h => hT w (by unfold wsV; exact List.mem_append_right _ h)
  have hc : Cond.codeWith y bytes maxL ret hh ∈ ws := by rw [hw]; exact List.mem_cons_self
  refine ⟨⟨hrc, hrs, hR.1, hR.2, pay_in ht hG, hc⟩, ht _ (hG _ hc).1, ok _ (by simp [wsV]), ⟨hd.1, hd.2.1⟩, fun sig h => ?_, ok _ (by simp [wsV]), ok _ (by simp [wsV]), ok _ (by simp [wsV])⟩
  have h2 := hd.2.2
  rw [h] at h2
  exact (Option.some.inj h2).symm
theorem vx_runVW {y : MethodName} {bytes cc : ByteArray} {maxL nL mc ms n index : Nat} {ret : Option FieldType} {hh : List (Nat × Nat × Nat × Nat)} {ws : List Cond} {rm : Room} {Pc : Array Value → State → Prop} {Qc : Array Value → State → Outcome → State → Prop} {free : Addr → Prop} {Ts : List Cond} {own C : String} {b : Addr} {As rest : List Value} {g : JFrame}
    (S : CallFix p m c cc nL s args Ts own) (hM : Met l y ws rm Pc Qc mc ms free) (cw : vx_CVW R s args own C index y bytes maxL ret hh ws rm mc ms n) (hp : PreV s H C b Pc As)
    (hg : g.method = m) (hn : As.length = n) (hsize : g.locals.size = nL) (hstack : g.stack = As.reverse ++ .ref b :: rest) (hW : 2 * g.monitorRoom + (rest.map fun v => v.category).sum ≤ 8) (hdg : decode cc g.pc = .ok (.invokevirtual index, 3)) (hf : cells + mc ≤ R.cells ∧ slots + ms ≤ R.slots) :
    va_Run p l e R s m args below meth c H locs cells slots mc ms g rest (Qc (Value.ref b :: As).toArray) free := by
  obtain ⟨⟨hrc, hrs, hfr, hlo, hws, hcw⟩, hcode, hini, hy, hlen, hl, hin, hse⟩ := cw
  have hK : Back l R p e below s args y 3 8 (PreOf R mc ms Pc) (PostOf Qc mc ms free) := va_backW (hh := hh) (bytes := bytes) (maxL := maxL) (ret := ret) hM hp.1 hrc hrs hfr hlo hws hcw (fun a' U hW => word_at hW (Or.inl (by first | rfl | simp [Cond.onTables, Cond.keeps, Cond.steady])) hini)
  obtain ⟨hx, hb, hml, ho, -⟩ := S
  obtain ⟨-, ⟨cellB, hcB, hoB, hclB⟩, hPc⟩ := hp
  intro T hT X
  obtain ⟨v, vm₁, ⟨U', l2, c2, s2⟩, hW₁, X', ⟨g', mk, t, L, e1, e2, hq, h1, hL, h2, h3⟩, st⟩ := vx_callVW X hx (C := C) (hh := hh) (bytes := bytes) (maxL := maxL) (ret := ret) ho hl hin hse hcode hy hK (by rw [hT]; exact hcB) hoB hclB hg (hsize.trans hml.symm) (argsL := As) (rest := rest) (fun sig h => hn.trans (hlen sig h)) hstack hW (by rw [hb]; exact hdg)
    (fun vm₁ hW₁ => ⟨hf.1, hf.2, hPc (T.setVm vm₁) hT hW₁⟩)
  dsimp only [Pt.U, Pt.locs, Pt.cells, Pt.slots] at X' e1 e2 h1 h2 h3 st
  subst h1; subst h2; subst h3
  exact ⟨v, (T.setVm vm₁).calling g' mk (Value.ref b :: As).toArray, t, U', L, hT, X', hL, e1, e2, hq, st⟩
section
variable {y : MethodName} {bytes cc : ByteArray} {maxL nL mc ms n index : Nat} {ret : Option FieldType} {ws : List Cond} {rm : Room} {Pc : Array Value → State → Prop} {Qc : Array Value → State → Outcome → State → Prop} {XC : String → State → State → Prop} {free : Addr → Prop} {Ts : List Cond} {own C : String} {b : Addr} {As rest : List Value} {g : JFrame}
theorem vx_runVX {hh : List (Nat × Nat × Nat × Nat)} (S : CallFix p m c cc nL s args Ts own) (hM : vx_Met l y ws rm Pc Qc XC mc ms free) (cw : vx_CVW R s args own C index y bytes maxL ret hh ws rm mc ms n) (hp : PreV s H C b Pc As)
    (hg : g.method = m) (hn : As.length = n) (hsize : g.locals.size = nL) (hstack : g.stack = As.reverse ++ .ref b :: rest) (hW : 2 * g.monitorRoom + (rest.map fun v => v.category).sum ≤ 8) (hdg : decode cc g.pc = .ok (.invokevirtual index, 3)) (hf : cells + mc ≤ R.cells ∧ slots + ms ≤ R.slots) :
    vx_Run p l e R s m args below meth c H locs cells slots mc ms g rest (Qc (Value.ref b :: As).toArray) XC free := by
  obtain ⟨⟨hrc, hrs, hfr, hlo, hws, hcw⟩, hcode, hini, hy, hlen, hl, hin, hse⟩ := cw
  have hK : vx_Back l R p e below s args y 3 8 (PreOf R mc ms Pc) (PostOf Qc mc ms free) (vx_Post XC mc ms free) := vx_backW (hh := hh) (bytes := bytes) (maxL := maxL) (ret := ret) hM hp.1 hrc hrs hfr hlo hws hcw (fun a' U hW => word_at hW (Or.inl (by first | rfl | simp [Cond.onTables, Cond.keeps, Cond.steady])) hini)
  obtain ⟨hx, hb, hml, ho, -⟩ := S
  obtain ⟨-, ⟨cellB, hcB, hoB, hclB⟩, hPc⟩ := hp
  intro T hT X
  rcases vx_callVX X hx (C := C) (hh := hh) (bytes := bytes) (maxL := maxL) (ret := ret) ho hl hin hse hcode hy hK (by rw [hT]; exact hcB) hoB hclB hg (hsize.trans hml.symm) (argsL := As) (rest := rest) (fun sig h => hn.trans (hlen sig h)) hstack hW (by rw [hb]; exact hdg)
    (fun vm₁ hW₁ => ⟨hf.1, hf.2, hPc (T.setVm vm₁) hT hW₁⟩) with ⟨v, vm₁, ⟨U', l2, c2, s2⟩, hW₁, X', ⟨g', mk, t, L, e1, e2, hq, h1, hL, h2, h3⟩, st⟩ | ⟨q, vm₁, ⟨U', l2, c2, s2⟩, hW₁, X', ⟨g', mk, t, L, E, ce, e1, e2, hq, hce, hcv, hcl, h1, hL, h2, h3⟩, st⟩
  · dsimp only [Pt.U, Pt.locs, Pt.cells, Pt.slots] at X' e1 e2 h1 h2 h3 st
    subst h1; subst h2; subst h3
    exact Or.inl ⟨v, (T.setVm vm₁).calling g' mk (Value.ref b :: As).toArray, t, U', L, hT, X', hL, e1, e2, hq, st⟩
  · dsimp only [Pt.U, Pt.locs, Pt.cells, Pt.slots] at X' e1 e2 h1 h2 h3 st hcl
    subst h1; subst h2; subst h3
    exact Or.inr ⟨q, (T.setVm vm₁).calling g' mk (Value.ref b :: As).toArray, t, U', L, E, ce, hT, X', hL, e1, e2, hq, hce, hcv, vx_cls hW₁ hcl, st⟩
theorem vx_runSX {hh : List (Nat × Nat × Nat × Nat)} (S : CallFix p m c cc nL s args Ts own) (hM : vx_Met l y ws rm Pc Qc XC mc ms free) (cw : vx_CSW R s args own index y bytes maxL ret hh ws rm mc ms n) (hp : PreS s H Pc As)
    (hg : g.method = m) (hn : As.length = n) (hsize : g.locals.size = nL) (hstack : g.stack = As.reverse ++ rest) (hW : 2 * g.monitorRoom + (rest.map fun v => v.category).sum ≤ 8) (hdg : decode cc g.pc = .ok (.invokestatic index, 3)) (hf : cells + mc ≤ R.cells ∧ slots + ms ≤ R.slots) :
    vx_Run p l e R s m args below meth c H locs cells slots mc ms g rest (Qc As.toArray) XC free := by
  obtain ⟨⟨hrc, hrs, hfr, hlo, hws, hcw⟩, hcode, hini, hy, hlen, hl, hstt⟩ := cw
  have hK : vx_Back l R p e below s args y 3 8 (PreOf R mc ms Pc) (PostOf Qc mc ms free) (vx_Post XC mc ms free) := vx_backW (hh := hh) (bytes := bytes) (maxL := maxL) (ret := ret) hM hp.1 hrc hrs hfr hlo hws hcw (fun a' U hW => word_at hW (Or.inl (by first | rfl | simp [Cond.onTables, Cond.keeps, Cond.steady])) hini)
  obtain ⟨hx, hb, hml, ho, -⟩ := S
  intro T hT X
  rcases vx_callSX X hx (hh := hh) (bytes := bytes) (maxL := maxL) (ret := ret) ho hl hstt hini hcode hy hK hg (hsize.trans hml.symm) (argsL := As) (rest := rest) (fun sig h => hn.trans (hlen sig h)) hstack hW (by rw [hb]; exact hdg)
    (fun vm₁ hW₁ => ⟨hf.1, hf.2, hp.2 (T.setVm vm₁) hT hW₁⟩) with ⟨v, vm₁, ⟨U', l2, c2, s2⟩, hW₁, X', ⟨g', mk, t, L, e1, e2, hq, h1, hL, h2, h3⟩, st⟩ | ⟨q, vm₁, ⟨U', l2, c2, s2⟩, hW₁, X', ⟨g', mk, t, L, E, ce, e1, e2, hq, hce, hcv, hcl, h1, hL, h2, h3⟩, st⟩
  · dsimp only [Pt.U, Pt.locs, Pt.cells, Pt.slots] at X' e1 e2 h1 h2 h3 st
    subst h1; subst h2; subst h3
    exact Or.inl ⟨v, (T.setVm vm₁).calling g' mk As.toArray, t, U', L, hT, X', hL, e1, e2, hq, st⟩
  · dsimp only [Pt.U, Pt.locs, Pt.cells, Pt.slots] at X' e1 e2 h1 h2 h3 st hcl
    subst h1; subst h2; subst h3
    exact Or.inr ⟨q, (T.setVm vm₁).calling g' mk As.toArray, t, U', L, E, ce, hT, X', hL, e1, e2, hq, hce, hcv, vx_cls hW₁ hcl, st⟩
end
end VXH
theorem vx_ofWH {l : Launch} {y : MethodName} {ws ws' : List Cond} {rm : Room} {Pc : Array Value → State → Prop} {Qc : Array Value → State → Outcome → State → Prop} {XC : String → State → State → Prop} {mc ms : Nat} {free : Addr → Prop} {cc : ByteArray} {maxL : Nat} {ret : Option FieldType} {hh : List (Nat × Nat × Nat × Nat)}
    (hy : plainName y.cls = true) (hw : ws = Cond.codeWith y cc maxL ret hh :: ws')
    (body : ∀ p e s m args below meth c s₁, BodyLoose p l y (headSpec ws rm) cc maxL ret e s m args below meth c s₁ → c.maxLocals = maxL → Pc args s →
      W p l e (headSpec ws rm).room s m args below meth c s.heap [] 0 0 (vx_MQ below Qc XC args s mc ms free) (entryFrame m args maxL)) : vx_Met l y ws rm Pc Qc XC mc ms free := by
  refine MetFree.of_bodyS (code := cc) (maxLocals := maxL) (ret := ret) hy ?_ ?_
  · intro args s m h hn
    obtain ⟨m9, meth, c, hn9, h1, h2, h3, h4, -, h5, h6, -⟩ := Cond.codeWith_spec (atoms_spec (ws := ws) h _ (by rw [hw]; exact List.mem_cons_self))
    cases hn.symm.trans hn9
    exact ⟨meth, c, h1, h2, h3, h4, h5, h6⟩
  · intro p e s m args below meth c s₁ B hml hP _
    have hh0 : s₁.heap = s.heap := by rw [B.state]; rfl
    obtain ⟨t, a1, o, b1, b2, b3⟩ := body p e s m args below meth c s₁ B hml hP s₁ hh0 (Stand.of_body B)
    exact ⟨t, o, a1, b1, b2, b3⟩
/-! ===== END ===== -/

/-! ===== BEGIN printed: names, fields, word lists, decode rows ===== -/
def RX0 : String := "ShellWatch$Blinks"
def TX0 : u_T := fun k => match k with
  | 0 => ("ShellWatch$Blinks", "first", "[I", true)
  | 1 => ("ShellWatch$Blinks", "last", "[I", true)
  | _ => ("ShellWatch$Blinks", "count", "I", false)
def tyX0 : Nat → FieldType := fun k => match k with
  | 0 => .array .int
  | 1 => .array .int
  | _ => .int
abbrev wsX00 : List Cond := u_ws RX0 TX0 3
theorem nmX0 : ∀ a, a < 3 → ∀ b, b < 3 → a ≠ b → (TX0 a).2.1 ≠ (TX0 b).2.1 := by decide +kernel
theorem tyX0_ok : ∀ k, k < 3 → parseFieldDescriptor (TX0 k).2.2.1 = some (tyX0 k) := by decide +kernel
abbrev cX0_init : ByteArray := prog_2_method_1_code
def yX0_init : MethodName := ⟨RX0, "<init>", "()V"⟩
abbrev cX0_clear : ByteArray := prog_2_method_2_code
def yX0_clear : MethodName := ⟨RX0, "clear", "()V"⟩
abbrev cX0_copyFrom : ByteArray := prog_2_method_3_code
def yX0_copyFrom : MethodName := ⟨RX0, "copyFrom", "(LShellWatch$Blinks;)V"⟩
abbrev cX0_isFull : ByteArray := prog_2_method_4_code
def yX0_isFull : MethodName := ⟨RX0, "isFull", "()Z"⟩
abbrev cX0_tell : ByteArray := prog_2_method_5_code
def yX0_tell : MethodName := ⟨RX0, "tell", "(II)V"⟩
abbrev cX0_has : ByteArray := prog_2_method_6_code
def yX0_has : MethodName := ⟨RX0, "has", "(I)Z"⟩
def RX1 : String := "ShellWatch$Formula"
def TX1 : u_T := fun k => match k with
  | 0 => ("ShellWatch$Formula", "parts", "[I", true)
  | 1 => ("ShellWatch$Formula", "length", "I", false)
  | _ => ("ShellWatch$Formula", "waiting", "[I", true)
def tyX1 : Nat → FieldType := fun k => match k with
  | 0 => .array .int
  | 1 => .int
  | _ => .array .int
abbrev wsX10 : List Cond := u_ws RX1 TX1 3
theorem nmX1 : ∀ a, a < 3 → ∀ b, b < 3 → a ≠ b → (TX1 a).2.1 ≠ (TX1 b).2.1 := by decide +kernel
theorem tyX1_ok : ∀ k, k < 3 → parseFieldDescriptor (TX1 k).2.2.1 = some (tyX1 k) := by decide +kernel
abbrev cX1_init : ByteArray := prog_3_method_1_code
def yX1_init : MethodName := ⟨RX1, "<init>", "()V"⟩
abbrev cX1_clear : ByteArray := prog_3_method_2_code
def yX1_clear : MethodName := ⟨RX1, "clear", "()V"⟩
abbrev cX1_reset : ByteArray := prog_3_method_3_code
def yX1_reset : MethodName := ⟨RX1, "reset", "()V"⟩
abbrev cX1_copyFrom : ByteArray := prog_3_method_4_code
def yX1_copyFrom : MethodName := ⟨RX1, "copyFrom", "(LShellWatch$Formula;)V"⟩
abbrev cX1_put : ByteArray := prog_3_method_5_code
def yX1_put : MethodName := ⟨RX1, "put", "(I)V"⟩
abbrev cX1_readSum : ByteArray := prog_3_method_6_code
def yX1_readSum : MethodName := ⟨RX1, "readSum", "(LShellWatch$Input;I)Z"⟩
abbrev cX1_readTerm : ByteArray := prog_3_method_7_code
def yX1_readTerm : MethodName := ⟨RX1, "readTerm", "(LShellWatch$Input;I)Z"⟩
abbrev cX1_readFactor : ByteArray := prog_3_method_8_code
def yX1_readFactor : MethodName := ⟨RX1, "readFactor", "(LShellWatch$Input;I)Z"⟩
abbrev cX1_variableOf : ByteArray := prog_3_method_9_code
def yX1_variableOf : MethodName := ⟨RX1, "variableOf", "(LShellWatch$Token;)I"⟩
def RX2 : String := "ShellWatch$Game"
def TX2 : u_T := fun k => match k with
  | 0 => ("ShellWatch$Game", "row", "LShellWatch$Row;", true)
  | 1 => ("ShellWatch$Game", "mind", "LShellWatch$Mind;", true)
  | 2 => ("ShellWatch$Game", "blinks", "LShellWatch$Blinks;", true)
  | 3 => ("ShellWatch$Game", "formula", "LShellWatch$Formula;", true)
  | 4 => ("ShellWatch$Game", "steps", "I", false)
  | 5 => ("ShellWatch$Game", "blinked", "I", false)
  | 6 => ("ShellWatch$Game", "purse", "I", false)
  | 7 => ("ShellWatch$Game", "won", "I", false)
  | _ => ("ShellWatch$Game", "lost", "I", false)
def tyX2 : Nat → FieldType := fun k => match k with
  | 0 => .object "ShellWatch$Row"
  | 1 => .object "ShellWatch$Mind"
  | 2 => .object "ShellWatch$Blinks"
  | 3 => .object "ShellWatch$Formula"
  | 4 => .int
  | 5 => .int
  | 6 => .int
  | 7 => .int
  | _ => .int
abbrev wsX20 : List Cond := u_ws RX2 TX2 9
theorem nmX2 : ∀ a, a < 9 → ∀ b, b < 9 → a ≠ b → (TX2 a).2.1 ≠ (TX2 b).2.1 := by decide +kernel
theorem tyX2_ok : ∀ k, k < 9 → parseFieldDescriptor (TX2 k).2.2.1 = some (tyX2 k) := by decide +kernel
abbrev cX2_init : ByteArray := prog_4_method_1_code
def yX2_init : MethodName := ⟨RX2, "<init>", "()V"⟩
abbrev cX2_reset : ByteArray := prog_4_method_2_code
def yX2_reset : MethodName := ⟨RX2, "reset", "(I)V"⟩
abbrev cX2_copyFrom : ByteArray := prog_4_method_3_code
def yX2_copyFrom : MethodName := ⟨RX2, "copyFrom", "(LShellWatch$Game;)V"⟩
abbrev cX2_number : ByteArray := prog_4_method_4_code
def yX2_number : MethodName := ⟨RX2, "number", "(I)I"⟩
abbrev cX2_isBlinkNext : ByteArray := prog_4_method_5_code
def yX2_isBlinkNext : MethodName := ⟨RX2, "isBlinkNext", "()Z"⟩
abbrev cX2_canSteal : ByteArray := prog_4_method_6_code
def yX2_canSteal : MethodName := ⟨RX2, "canSteal", "(I)Z"⟩
abbrev cX2_canPlant : ByteArray := prog_4_method_7_code
def yX2_canPlant : MethodName := ⟨RX2, "canPlant", "()Z"⟩
abbrev cX2_makeMove : ByteArray := prog_4_method_8_code
def yX2_makeMove : MethodName := ⟨RX2, "makeMove", "(ZII)Z"⟩
abbrev cX2_makeStill : ByteArray := prog_4_method_9_code
def yX2_makeStill : MethodName := ⟨RX2, "makeStill", "(I)Z"⟩
abbrev cX2_countStep : ByteArray := prog_4_method_10_code
def yX2_countStep : MethodName := ⟨RX2, "countStep", "(Z)V"⟩
abbrev cX2_lookUnder : ByteArray := prog_4_method_11_code
def yX2_lookUnder : MethodName := ⟨RX2, "lookUnder", "(I)Z"⟩
def RX3 : String := "ShellWatch$Input"
def TX3 : u_T := fun k => match k with
  | 0 => ("ShellWatch$Input", "bytes", "[B", true)
  | 1 => ("ShellWatch$Input", "length", "I", false)
  | 2 => ("ShellWatch$Input", "textLength", "I", false)
  | 3 => ("ShellWatch$Input", "tokens", "[LShellWatch$Token;", true)
  | 4 => ("ShellWatch$Input", "starts", "[I", true)
  | 5 => ("ShellWatch$Input", "numbers", "[I", true)
  | 6 => ("ShellWatch$Input", "size", "I", false)
  | 7 => ("ShellWatch$Input", "current", "I", false)
  | 8 => ("ShellWatch$Input", "error", "I", false)
  | _ => ("ShellWatch$Input", "errorAt", "I", false)
def tyX3 : Nat → FieldType := fun k => match k with
  | 0 => .array .byte
  | 1 => .int
  | 2 => .int
  | 3 => .array (.object "ShellWatch$Token")
  | 4 => .array .int
  | 5 => .array .int
  | 6 => .int
  | 7 => .int
  | 8 => .int
  | _ => .int
abbrev wsX30 : List Cond := u_ws RX3 TX3 10
theorem nmX3 : ∀ a, a < 10 → ∀ b, b < 10 → a ≠ b → (TX3 a).2.1 ≠ (TX3 b).2.1 := by decide +kernel
theorem tyX3_ok : ∀ k, k < 10 → parseFieldDescriptor (TX3 k).2.2.1 = some (tyX3 k) := by decide +kernel
abbrev cX3_init : ByteArray := prog_5_method_1_code
def yX3_init : MethodName := ⟨RX3, "<init>", "()V"⟩
abbrev cX3_hasRoom : ByteArray := prog_5_method_2_code
def yX3_hasRoom : MethodName := ⟨RX3, "hasRoom", "(I)Z"⟩
abbrev cX3_putWord : ByteArray := prog_5_method_3_code
def yX3_putWord : MethodName := ⟨RX3, "putWord", "(I)V"⟩
abbrev cX3_begin : ByteArray := prog_5_method_4_code
def yX3_begin : MethodName := ⟨RX3, "begin", "(I)V"⟩
abbrev cX3_kindAt : ByteArray := prog_5_method_5_code
def yX3_kindAt : MethodName := ⟨RX3, "kindAt", "(I)I"⟩
abbrev cX3_addToken : ByteArray := prog_5_method_6_code
def yX3_addToken : MethodName := ⟨RX3, "addToken", "(II)V"⟩
abbrev cX3_numberIn : ByteArray := prog_5_method_7_code
def yX3_numberIn : MethodName := ⟨RX3, "numberIn", "(II)I"⟩
abbrev cX3_tokenIn : ByteArray := prog_5_method_8_code
def yX3_tokenIn : MethodName := ⟨RX3, "tokenIn", "(II)LShellWatch$Token;"⟩
abbrev cX3_isSpelled : ByteArray := prog_5_method_9_code
def yX3_isSpelled : MethodName := ⟨RX3, "isSpelled", "(Ljava/lang/String;II)Z"⟩
abbrev cX3_put : ByteArray := prog_5_method_10_code
def yX3_put : MethodName := ⟨RX3, "put", "(LShellWatch$Token;II)V"⟩
abbrev cX3_token : ByteArray := prog_5_method_11_code
def yX3_token : MethodName := ⟨RX3, "token", "()LShellWatch$Token;"⟩
abbrev cX3_number : ByteArray := prog_5_method_12_code
def yX3_number : MethodName := ⟨RX3, "number", "()I"⟩
abbrev cX3_is : ByteArray := prog_5_method_13_code
def yX3_is : MethodName := ⟨RX3, "is", "(LShellWatch$Token;)Z"⟩
abbrev cX3_advance : ByteArray := prog_5_method_14_code
def yX3_advance : MethodName := ⟨RX3, "advance", "()V"⟩
abbrev cX3_take : ByteArray := prog_5_method_15_code
def yX3_take : MethodName := ⟨RX3, "take", "(LShellWatch$Token;)Z"⟩
abbrev cX3_takeNumber : ByteArray := prog_5_method_16_code
def yX3_takeNumber : MethodName := ⟨RX3, "takeNumber", "(II)I"⟩
abbrev cX3_fail : ByteArray := prog_5_method_17_code
def yX3_fail : MethodName := ⟨RX3, "fail", "(I)Z"⟩
def RX4 : String := "ShellWatch$Mind"
def TX4 : u_T := fun k => match k with
  | 0 => ("ShellWatch$Mind", "belief", "[I", true)
  | 1 => ("ShellWatch$Mind", "places", "I", false)
  | 2 => ("ShellWatch$Mind", "trust", "I", false)
  | 3 => ("ShellWatch$Mind", "calm", "I", false)
  | _ => ("ShellWatch$Mind", "sly", "I", false)
def tyX4 : Nat → FieldType := fun k => match k with
  | 0 => .array .int
  | 1 => .int
  | 2 => .int
  | 3 => .int
  | _ => .int
abbrev wsX40 : List Cond := u_ws RX4 TX4 5
theorem nmX4 : ∀ a, a < 5 → ∀ b, b < 5 → a ≠ b → (TX4 a).2.1 ≠ (TX4 b).2.1 := by decide +kernel
theorem tyX4_ok : ∀ k, k < 5 → parseFieldDescriptor (TX4 k).2.2.1 = some (tyX4 k) := by decide +kernel
abbrev cX4_init : ByteArray := prog_6_method_1_code
def yX4_init : MethodName := ⟨RX4, "<init>", "()V"⟩
abbrev cX4_reset : ByteArray := prog_6_method_2_code
def yX4_reset : MethodName := ⟨RX4, "reset", "(I)V"⟩
abbrev cX4_copyFrom : ByteArray := prog_6_method_3_code
def yX4_copyFrom : MethodName := ⟨RX4, "copyFrom", "(LShellWatch$Mind;)V"⟩
abbrev cX4_know : ByteArray := prog_6_method_4_code
def yX4_know : MethodName := ⟨RX4, "know", "(I)V"⟩
abbrev cX4_ruleOut : ByteArray := prog_6_method_5_code
def yX4_ruleOut : MethodName := ⟨RX4, "ruleOut", "(I)V"⟩
abbrev cX4_sum : ByteArray := prog_6_method_6_code
def yX4_sum : MethodName := ⟨RX4, "sum", "()I"⟩
abbrev cX4_greatest : ByteArray := prog_6_method_7_code
def yX4_greatest : MethodName := ⟨RX4, "greatest", "()I"⟩
abbrev cX4_countBelieved : ByteArray := prog_6_method_8_code
def yX4_countBelieved : MethodName := ⟨RX4, "countBelieved", "()I"⟩
abbrev cX4_likeliestShell : ByteArray := prog_6_method_9_code
def yX4_likeliestShell : MethodName := ⟨RX4, "likeliestShell", "()I"⟩
abbrev cX4_followMove : ByteArray := prog_6_method_12_code
def yX4_followMove : MethodName := ⟨RX4, "followMove", "(LShellWatch$Row;ZIIZ)V"⟩
abbrev cX4_followStill : ByteArray := prog_6_method_13_code
def yX4_followStill : MethodName := ⟨RX4, "followStill", "(LShellWatch$Row;Z)V"⟩
abbrev cX4_exchange : ByteArray := prog_6_method_14_code
def yX4_exchange : MethodName := ⟨RX4, "exchange", "(II)V"⟩
abbrev cX4_mix : ByteArray := prog_6_method_15_code
def yX4_mix : MethodName := ⟨RX4, "mix", "(II)V"⟩
abbrev cX4_wonder : ByteArray := prog_6_method_16_code
def yX4_wonder : MethodName := ⟨RX4, "wonder", "(LShellWatch$Row;)V"⟩
abbrev cX4_pairsOf : ByteArray := prog_6_method_17_code
def yX4_pairsOf : MethodName := ⟨RX4, "pairsOf", "(I)I"⟩
abbrev cX4_settle : ByteArray := prog_6_method_18_code
def yX4_settle : MethodName := ⟨RX4, "settle", "()V"⟩
abbrev cX4_halve : ByteArray := prog_6_method_19_code
def yX4_halve : MethodName := ⟨RX4, "halve", "()V"⟩
abbrev cX4_divideByCommonDivisor : ByteArray := prog_6_method_20_code
def yX4_divideByCommonDivisor : MethodName := ⟨RX4, "divideByCommonDivisor", "()V"⟩
abbrev cX4_commonDivisor : ByteArray := prog_6_method_21_code
def yX4_commonDivisor : MethodName := ⟨RX4, "commonDivisor", "(II)I"⟩
def RX5 : String := "ShellWatch$Row"
def TX5 : u_T := fun k => match k with
  | 0 => ("ShellWatch$Row", "shells", "I", false)
  | 1 => ("ShellWatch$Row", "ball", "I", false)
  | 2 => ("ShellWatch$Row", "scratches", "I", false)
  | 3 => ("ShellWatch$Row", "shellAt", "[I", true)
  | _ => ("ShellWatch$Row", "moves", "[I", true)
def tyX5 : Nat → FieldType := fun k => match k with
  | 0 => .int
  | 1 => .int
  | 2 => .int
  | 3 => .array .int
  | _ => .array .int
abbrev wsX50 : List Cond := u_ws RX5 TX5 5
theorem nmX5 : ∀ a, a < 5 → ∀ b, b < 5 → a ≠ b → (TX5 a).2.1 ≠ (TX5 b).2.1 := by decide +kernel
theorem tyX5_ok : ∀ k, k < 5 → parseFieldDescriptor (TX5 k).2.2.1 = some (tyX5 k) := by decide +kernel
abbrev cX5_init : ByteArray := prog_7_method_1_code
def yX5_init : MethodName := ⟨RX5, "<init>", "()V"⟩
abbrev cX5_reset : ByteArray := prog_7_method_2_code
def yX5_reset : MethodName := ⟨RX5, "reset", "(I)V"⟩
abbrev cX5_copyFrom : ByteArray := prog_7_method_3_code
def yX5_copyFrom : MethodName := ⟨RX5, "copyFrom", "(LShellWatch$Row;)V"⟩
abbrev cX5_hasPlace : ByteArray := prog_7_method_4_code
def yX5_hasPlace : MethodName := ⟨RX5, "hasPlace", "(I)Z"⟩
abbrev cX5_isScratched : ByteArray := prog_7_method_6_code
def yX5_isScratched : MethodName := ⟨RX5, "isScratched", "(I)Z"⟩
abbrev cX5_setScratched : ByteArray := prog_7_method_7_code
def yX5_setScratched : MethodName := ⟨RX5, "setScratched", "(IZ)V"⟩
abbrev cX5_exchange : ByteArray := prog_7_method_9_code
def yX5_exchange : MethodName := ⟨RX5, "exchange", "(II)V"⟩
abbrev cX5_placeBehind : ByteArray := prog_7_method_10_code
def yX5_placeBehind : MethodName := ⟨RX5, "placeBehind", "(III)I"⟩
def RX6 : String := "ShellWatch$Script"
def TX6 : u_T := fun k => match k with
  | 0 => ("ShellWatch$Script", "words", "[LShellWatch$Token;", true)
  | 1 => ("ShellWatch$Script", "firsts", "[I", true)
  | 2 => ("ShellWatch$Script", "seconds", "[I", true)
  | 3 => ("ShellWatch$Script", "ends", "[I", true)
  | 4 => ("ShellWatch$Script", "size", "I", false)
  | _ => ("ShellWatch$Script", "done", "I", false)
def tyX6 : Nat → FieldType := fun k => match k with
  | 0 => .array (.object "ShellWatch$Token")
  | 1 => .array .int
  | 2 => .array .int
  | 3 => .array .int
  | 4 => .int
  | _ => .int
abbrev wsX60 : List Cond := u_ws RX6 TX6 6
theorem nmX6 : ∀ a, a < 6 → ∀ b, b < 6 → a ≠ b → (TX6 a).2.1 ≠ (TX6 b).2.1 := by decide +kernel
theorem tyX6_ok : ∀ k, k < 6 → parseFieldDescriptor (TX6 k).2.2.1 = some (tyX6 k) := by decide +kernel
abbrev cX6_init : ByteArray := prog_8_method_1_code
def yX6_init : MethodName := ⟨RX6, "<init>", "()V"⟩
def RX7 : String := "ShellWatch$SetupReader"
def TX7 : u_T := fun k => match k with
  | _ => ("", "", "", false)
def tyX7 : Nat → FieldType := fun k => match k with
  | _ => .int
abbrev wsX70 : List Cond := u_ws RX7 TX7 0
theorem nmX7 : ∀ a, a < 0 → ∀ b, b < 0 → a ≠ b → (TX7 a).2.1 ≠ (TX7 b).2.1 := by decide +kernel
theorem tyX7_ok : ∀ k, k < 0 → parseFieldDescriptor (TX7 k).2.2.1 = some (tyX7 k) := by decide +kernel
abbrev cX7_read : ByteArray := prog_9_method_2_code
def yX7_read : MethodName := ⟨RX7, "read", "(LShellWatch$Input;LShellWatch$Game;)Z"⟩
abbrev cX7_bitOfSingle : ByteArray := prog_9_method_3_code
def yX7_bitOfSingle : MethodName := ⟨RX7, "bitOfSingle", "(LShellWatch$Token;)I"⟩
abbrev cX7_readStatement : ByteArray := prog_9_method_4_code
def yX7_readStatement : MethodName := ⟨RX7, "readStatement", "(LShellWatch$Input;LShellWatch$Game;)Z"⟩
abbrev cX7_readScratches : ByteArray := prog_9_method_5_code
def yX7_readScratches : MethodName := ⟨RX7, "readScratches", "(LShellWatch$Input;LShellWatch$Row;)Z"⟩
abbrev cX7_readScratch : ByteArray := prog_9_method_6_code
def yX7_readScratch : MethodName := ⟨RX7, "readScratch", "(LShellWatch$Input;LShellWatch$Row;)Z"⟩
abbrev cX7_readBlink : ByteArray := prog_9_method_7_code
def yX7_readBlink : MethodName := ⟨RX7, "readBlink", "(LShellWatch$Input;LShellWatch$Blinks;)Z"⟩
abbrev cX7_readSetting : ByteArray := prog_9_method_8_code
def yX7_readSetting : MethodName := ⟨RX7, "readSetting", "(LShellWatch$Input;LShellWatch$Game;)Z"⟩
abbrev cX7_greatestOf : ByteArray := prog_9_method_9_code
def yX7_greatestOf : MethodName := ⟨RX7, "greatestOf", "(LShellWatch$Token;LShellWatch$Game;)I"⟩
abbrev cX7_set : ByteArray := prog_9_method_10_code
def yX7_set : MethodName := ⟨RX7, "set", "(LShellWatch$Game;LShellWatch$Token;I)V"⟩
def RX8 : String := "ShellWatch$Token"
def TX8 : u_T := fun k => match k with
  | _ => ("", "", "", false)
def tyX8 : Nat → FieldType := fun k => match k with
  | _ => .int
abbrev wsX80 : List Cond := u_ws RX8 TX8 0
theorem nmX8 : ∀ a, a < 0 → ∀ b, b < 0 → a ≠ b → (TX8 a).2.1 ≠ (TX8 b).2.1 := by decide +kernel
theorem tyX8_ok : ∀ k, k < 0 → parseFieldDescriptor (TX8 k).2.2.1 = some (tyX8 k) := by decide +kernel
def RX9 : String := "ShellWatch$Trick"
def TX9 : u_T := fun k => match k with
  | 0 => ("ShellWatch$Trick", "trial", "LShellWatch$Mind;", true)
  | 1 => ("ShellWatch$Trick", "isSwap", "Z", false)
  | 2 => ("ShellWatch$Trick", "a", "I", false)
  | 3 => ("ShellWatch$Trick", "b", "I", false)
  | 4 => ("ShellWatch$Trick", "belief", "I", false)
  | _ => ("ShellWatch$Trick", "sum", "I", false)
def tyX9 : Nat → FieldType := fun k => match k with
  | 0 => .object "ShellWatch$Mind"
  | 1 => .boolean
  | 2 => .int
  | 3 => .int
  | 4 => .int
  | _ => .int
abbrev wsX90 : List Cond := u_ws RX9 TX9 6
theorem nmX9 : ∀ a, a < 6 → ∀ b, b < 6 → a ≠ b → (TX9 a).2.1 ≠ (TX9 b).2.1 := by decide +kernel
theorem tyX9_ok : ∀ k, k < 6 → parseFieldDescriptor (TX9 k).2.2.1 = some (tyX9 k) := by decide +kernel
abbrev cX9_init : ByteArray := prog_11_method_1_code
def yX9_init : MethodName := ⟨RX9, "<init>", "()V"⟩
def RX10 : String := "ShellWatch"
def TX10 : u_T := fun k => match k with
  | 0 => ("ShellWatch", "input", "LShellWatch$Input;", true)
  | 1 => ("ShellWatch", "script", "LShellWatch$Script;", true)
  | 2 => ("ShellWatch", "trick", "LShellWatch$Trick;", true)
  | 3 => ("ShellWatch", "draft", "LShellWatch$Game;", true)
  | 4 => ("ShellWatch", "games", "[LShellWatch$Game;", true)
  | 5 => ("ShellWatch", "present", "I", false)
  | _ => ("ShellWatch", "undoable", "I", false)
def tyX10 : Nat → FieldType := fun k => match k with
  | 0 => .object "ShellWatch$Input"
  | 1 => .object "ShellWatch$Script"
  | 2 => .object "ShellWatch$Trick"
  | 3 => .object "ShellWatch$Game"
  | 4 => .array (.object "ShellWatch$Game")
  | 5 => .int
  | _ => .int
abbrev wsX100 : List Cond := u_ws RX10 TX10 7
theorem nmX10 : ∀ a, a < 7 → ∀ b, b < 7 → a ≠ b → (TX10 a).2.1 ≠ (TX10 b).2.1 := by decide +kernel
theorem tyX10_ok : ∀ k, k < 7 → parseFieldDescriptor (TX10 k).2.2.1 = some (tyX10 k) := by decide +kernel
abbrev cX10_init : ByteArray := prog_1_method_1_code
def yX10_init : MethodName := ⟨RX10, "<init>", "()V"⟩
abbrev cX10_append : ByteArray := prog_1_method_2_code
def yX10_append : MethodName := ⟨RX10, "append", "(IIIII)I"⟩
abbrev cX10_load : ByteArray := prog_1_method_3_code
def yX10_load : MethodName := ⟨RX10, "load", "(I)I"⟩
abbrev cX10_state : ByteArray := prog_1_method_6_code
def yX10_state : MethodName := ⟨RX10, "state", "(I)I"⟩
abbrev cX10_belief : ByteArray := prog_1_method_8_code
def yX10_belief : MethodName := ⟨RX10, "belief", "(I)I"⟩
abbrev cX10_guess : ByteArray := prog_1_method_11_code
def yX10_guess : MethodName := ⟨RX10, "guess", "()I"⟩
abbrev cX10_blinks : ByteArray := prog_1_method_12_code
def yX10_blinks : MethodName := ⟨RX10, "blinks", "(I)Z"⟩
abbrev cX10_swap : ByteArray := prog_1_method_18_code
def yX10_swap : MethodName := ⟨RX10, "swap", "(II)Z"⟩
abbrev cX10_feint : ByteArray := prog_1_method_19_code
def yX10_feint : MethodName := ⟨RX10, "feint", "(II)Z"⟩
abbrev cX10_rest : ByteArray := prog_1_method_20_code
def yX10_rest : MethodName := ⟨RX10, "rest", "()Z"⟩
abbrev cX10_steal : ByteArray := prog_1_method_21_code
def yX10_steal : MethodName := ⟨RX10, "steal", "(I)I"⟩
abbrev cX10_plant : ByteArray := prog_1_method_22_code
def yX10_plant : MethodName := ⟨RX10, "plant", "(I)I"⟩
abbrev cX10_peek : ByteArray := prog_1_method_23_code
def yX10_peek : MethodName := ⟨RX10, "peek", "(I)Z"⟩
abbrev cX10_game : ByteArray := prog_1_method_30_code
def yX10_game : MethodName := ⟨RX10, "game", "()LShellWatch$Game;"⟩
abbrev cX10_change : ByteArray := prog_1_method_31_code
def yX10_change : MethodName := ⟨RX10, "change", "()LShellWatch$Game;"⟩
abbrev cX10_moveBall : ByteArray := prog_1_method_32_code
def yX10_moveBall : MethodName := ⟨RX10, "moveBall", "(I)I"⟩
abbrev cX10_requireLength : ByteArray := prog_1_method_33_code
def yX10_requireLength : MethodName := ⟨RX10, "requireLength", "(I)V"⟩
abbrev cX10_requirePlace : ByteArray := prog_1_method_34_code
def yX10_requirePlace : MethodName := ⟨RX10, "requirePlace", "(I)V"⟩
abbrev cX10_requireTwoPlaces : ByteArray := prog_1_method_35_code
def yX10_requireTwoPlaces : MethodName := ⟨RX10, "requireTwoPlaces", "(II)V"⟩
abbrev cX10_requirePlaceOrHand : ByteArray := prog_1_method_36_code
def yX10_requirePlaceOrHand : MethodName := ⟨RX10, "requirePlaceOrHand", "(I)V"⟩
abbrev cX10_requireWhat : ByteArray := prog_1_method_37_code
def yX10_requireWhat : MethodName := ⟨RX10, "requireWhat", "(II)V"⟩
def RX11 : String := "ShellWatchLaw$Sight"
def TX11 : u_T := fun k => match k with
  | 0 => ("ShellWatchLaw$Sight", "kind", "I", true)
  | 1 => ("ShellWatchLaw$Sight", "a", "I", true)
  | 2 => ("ShellWatchLaw$Sight", "b", "I", true)
  | 3 => ("ShellWatchLaw$Sight", "before", "I", true)
  | 4 => ("ShellWatchLaw$Sight", "after", "I", true)
  | _ => ("ShellWatchLaw$Sight", "isBlink", "Z", true)
def tyX11 : Nat → FieldType := fun k => match k with
  | 0 => .int
  | 1 => .int
  | 2 => .int
  | 3 => .int
  | 4 => .int
  | _ => .boolean
abbrev wsX110 : List Cond := u_ws RX11 TX11 6
theorem nmX11 : ∀ a, a < 6 → ∀ b, b < 6 → a ≠ b → (TX11 a).2.1 ≠ (TX11 b).2.1 := by decide +kernel
theorem tyX11_ok : ∀ k, k < 6 → parseFieldDescriptor (TX11 k).2.2.1 = some (tyX11 k) := by decide +kernel
abbrev cX11_init : ByteArray := prog_13_method_1_code
def yX11_init : MethodName := ⟨RX11, "<init>", "(IIIIIZ)V"⟩
def RX12 : String := "ShellWatchLaw$Story"
def TX12 : u_T := fun k => match k with
  | 0 => ("ShellWatchLaw$Story", "seen", "Ljava/util/ArrayList;", true)
  | 1 => ("ShellWatchLaw$Story", "n", "I", true)
  | 2 => ("ShellWatchLaw$Story", "trust", "I", true)
  | 3 => ("ShellWatchLaw$Story", "calm", "I", true)
  | 4 => ("ShellWatchLaw$Story", "sly", "I", true)
  | _ => ("ShellWatchLaw$Story", "first", "I", true)
def tyX12 : Nat → FieldType := fun k => match k with
  | 0 => .object "java/util/ArrayList"
  | 1 => .int
  | 2 => .int
  | 3 => .int
  | 4 => .int
  | _ => .int
abbrev wsX120 : List Cond := u_ws RX12 TX12 6
theorem nmX12 : ∀ a, a < 6 → ∀ b, b < 6 → a ≠ b → (TX12 a).2.1 ≠ (TX12 b).2.1 := by decide +kernel
theorem tyX12_ok : ∀ k, k < 6 → parseFieldDescriptor (TX12 k).2.2.1 = some (tyX12 k) := by decide +kernel
abbrev cX12_init : ByteArray := prog_14_method_1_code
def yX12_init : MethodName := ⟨RX12, "<init>", "(IIIII)V"⟩
abbrev cX12_by : ByteArray := prog_14_method_2_code
def yX12_by : MethodName := ⟨RX12, "by", "(III)I"⟩
abbrev cX12_moved : ByteArray := prog_14_method_3_code
def yX12_moved : MethodName := ⟨RX12, "moved", "(III)I"⟩
abbrev cX12_weight : ByteArray := prog_14_method_4_code
def yX12_weight : MethodName := ⟨RX12, "weight", "(II)J"⟩
abbrev cX12_open : ByteArray := prog_14_method_5_code
def yX12_open : MethodName := ⟨RX12, "open", "(LShellWatchLaw$Sight;II)J"⟩
abbrev cX12_blind : ByteArray := prog_14_method_6_code
def yX12_blind : MethodName := ⟨RX12, "blind", "(LShellWatchLaw$Sight;II)J"⟩
abbrev cX12_isLike : ByteArray := prog_14_method_7_code
def yX12_isLike : MethodName := ⟨RX12, "isLike", "(LShellWatch;)Z"⟩
def RX13 : String := "ShellWatchModel"
def TX13 : u_T := fun k => match k with
  | _ => ("", "", "", false)
def tyX13 : Nat → FieldType := fun k => match k with
  | _ => .int
abbrev wsX130 : List Cond := u_ws RX13 TX13 0
theorem nmX13 : ∀ a, a < 0 → ∀ b, b < 0 → a ≠ b → (TX13 a).2.1 ≠ (TX13 b).2.1 := by decide +kernel
theorem tyX13_ok : ∀ k, k < 0 → parseFieldDescriptor (TX13 k).2.2.1 = some (tyX13 k) := by decide +kernel
def RJx145de : String := "java/io/Serializable"
def TJx145de : u_T := fun k => match k with
  | _ => ("", "", "", false)
def tyJx145de : Nat → FieldType := fun k => match k with
  | _ => .int
abbrev wsJx145de0 : List Cond := u_ws RJx145de TJx145de 0
theorem nmJx145de : ∀ a, a < 0 → ∀ b, b < 0 → a ≠ b → (TJx145de a).2.1 ≠ (TJx145de b).2.1 := by decide +kernel
theorem tyJx145de_ok : ∀ k, k < 0 → parseFieldDescriptor (TJx145de k).2.2.1 = some (tyJx145de k) := by decide +kernel
def RJ5 : String := "java/lang/AbstractStringBuilder"
def TJ5 : u_T := fun k => match k with
  | _ => ("", "", "", false)
def tyJ5 : Nat → FieldType := fun k => match k with
  | _ => .int
abbrev wsJ50 : List Cond := u_ws RJ5 TJ5 0
theorem nmJ5 : ∀ a, a < 0 → ∀ b, b < 0 → a ≠ b → (TJ5 a).2.1 ≠ (TJ5 b).2.1 := by decide +kernel
theorem tyJ5_ok : ∀ k, k < 0 → parseFieldDescriptor (TJ5 k).2.2.1 = some (tyJ5 k) := by decide +kernel
abbrev cJ5_init_d00df : ByteArray := prog_17_method_2_code
def yJ5_init_d00df : MethodName := ⟨RJ5, "<init>", "(I)V"⟩
abbrev cJ5_init_a7421 : ByteArray := prog_17_method_3_code
def yJ5_init_a7421 : MethodName := ⟨RJ5, "<init>", "(Ljava/lang/String;)V"⟩
abbrev cJ5_length_8abf5 : ByteArray := prog_17_method_6_code
def yJ5_length_8abf5 : MethodName := ⟨RJ5, "length", "()I"⟩
abbrev cJ5_ensureCapacityInternal_d00df : ByteArray := prog_17_method_9_code
def yJ5_ensureCapacityInternal_d00df : MethodName := ⟨RJ5, "ensureCapacityInternal", "(I)V"⟩
abbrev cJ5_newCapacity_0f7a4 : ByteArray := prog_17_method_10_code
def yJ5_newCapacity_0f7a4 : MethodName := ⟨RJ5, "newCapacity", "(I)I"⟩
abbrev cJ5_inflate_da8c8 : ByteArray := prog_17_method_11_code
def yJ5_inflate_da8c8 : MethodName := ⟨RJ5, "inflate", "()V"⟩
abbrev cJ5_append_cf1ce : ByteArray := prog_17_method_22_code
def yJ5_append_cf1ce : MethodName := ⟨RJ5, "append", "(Ljava/lang/String;)Ljava/lang/AbstractStringBuilder;"⟩
abbrev cJ5_appendNull_278bc : ByteArray := prog_17_method_26_code
def yJ5_appendNull_278bc : MethodName := ⟨RJ5, "appendNull", "()Ljava/lang/AbstractStringBuilder;"⟩
abbrev cJ5_append_3fe6f : ByteArray := prog_17_method_31_code
def yJ5_append_3fe6f : MethodName := ⟨RJ5, "append", "(C)Ljava/lang/AbstractStringBuilder;"⟩
abbrev cJ5_append_c97b9 : ByteArray := prog_17_method_32_code
def yJ5_append_c97b9 : MethodName := ⟨RJ5, "append", "(I)Ljava/lang/AbstractStringBuilder;"⟩
abbrev cJ5_getValue_6d5f1 : ByteArray := prog_17_method_64_code
def yJ5_getValue_6d5f1 : MethodName := ⟨RJ5, "getValue", "()[B"⟩
abbrev cJ5_isLatin1_aae02 : ByteArray := prog_17_method_68_code
def yJ5_isLatin1_aae02 : MethodName := ⟨RJ5, "isLatin1", "()Z"⟩
abbrev cJ5_inflateIfNeededFor_a7421 : ByteArray := prog_17_method_71_code
def yJ5_inflateIfNeededFor_a7421 : MethodName := ⟨RJ5, "inflateIfNeededFor", "(Ljava/lang/String;)V"⟩
abbrev cJ5_putStringAt_47b60 : ByteArray := prog_17_method_73_code
def yJ5_putStringAt_47b60 : MethodName := ⟨RJ5, "putStringAt", "(ILjava/lang/String;)V"⟩
def RJx2cfe8 : String := "java/lang/Appendable"
def TJx2cfe8 : u_T := fun k => match k with
  | _ => ("", "", "", false)
def tyJx2cfe8 : Nat → FieldType := fun k => match k with
  | _ => .int
abbrev wsJx2cfe80 : List Cond := u_ws RJx2cfe8 TJx2cfe8 0
theorem nmJx2cfe8 : ∀ a, a < 0 → ∀ b, b < 0 → a ≠ b → (TJx2cfe8 a).2.1 ≠ (TJx2cfe8 b).2.1 := by decide +kernel
theorem tyJx2cfe8_ok : ∀ k, k < 0 → parseFieldDescriptor (TJx2cfe8 k).2.2.1 = some (tyJx2cfe8 k) := by decide +kernel
def RJx9f9b0 : String := "java/lang/CharSequence"
def TJx9f9b0 : u_T := fun k => match k with
  | _ => ("", "", "", false)
def tyJx9f9b0 : Nat → FieldType := fun k => match k with
  | _ => .int
abbrev wsJx9f9b00 : List Cond := u_ws RJx9f9b0 TJx9f9b0 0
theorem nmJx9f9b0 : ∀ a, a < 0 → ∀ b, b < 0 → a ≠ b → (TJx9f9b0 a).2.1 ≠ (TJx9f9b0 b).2.1 := by decide +kernel
theorem tyJx9f9b0_ok : ∀ k, k < 0 → parseFieldDescriptor (TJx9f9b0 k).2.2.1 = some (tyJx9f9b0 k) := by decide +kernel
def RJx8e188 : String := "java/lang/Cloneable"
def TJx8e188 : u_T := fun k => match k with
  | _ => ("", "", "", false)
def tyJx8e188 : Nat → FieldType := fun k => match k with
  | _ => .int
abbrev wsJx8e1880 : List Cond := u_ws RJx8e188 TJx8e188 0
theorem nmJx8e188 : ∀ a, a < 0 → ∀ b, b < 0 → a ≠ b → (TJx8e188 a).2.1 ≠ (TJx8e188 b).2.1 := by decide +kernel
theorem tyJx8e188_ok : ∀ k, k < 0 → parseFieldDescriptor (TJx8e188 k).2.2.1 = some (tyJx8e188 k) := by decide +kernel
def RJxb160c : String := "java/lang/Comparable"
def TJxb160c : u_T := fun k => match k with
  | _ => ("", "", "", false)
def tyJxb160c : Nat → FieldType := fun k => match k with
  | _ => .int
abbrev wsJxb160c0 : List Cond := u_ws RJxb160c TJxb160c 0
theorem nmJxb160c : ∀ a, a < 0 → ∀ b, b < 0 → a ≠ b → (TJxb160c a).2.1 ≠ (TJxb160c b).2.1 := by decide +kernel
theorem tyJxb160c_ok : ∀ k, k < 0 → parseFieldDescriptor (TJxb160c k).2.2.1 = some (tyJxb160c k) := by decide +kernel
def RJx29ce0 : String := "java/lang/Enum"
def TJx29ce0 : u_T := fun k => match k with
  | _ => ("", "", "", false)
def tyJx29ce0 : Nat → FieldType := fun k => match k with
  | _ => .int
abbrev wsJx29ce00 : List Cond := u_ws RJx29ce0 TJx29ce0 0
theorem nmJx29ce0 : ∀ a, a < 0 → ∀ b, b < 0 → a ≠ b → (TJx29ce0 a).2.1 ≠ (TJx29ce0 b).2.1 := by decide +kernel
theorem tyJx29ce0_ok : ∀ k, k < 0 → parseFieldDescriptor (TJx29ce0 k).2.2.1 = some (tyJx29ce0 k) := by decide +kernel
def RJ6 : String := "java/lang/Integer"
def TJ6 : u_T := fun k => match k with
  | _ => ("", "", "", false)
def tyJ6 : Nat → FieldType := fun k => match k with
  | _ => .int
abbrev wsJ60 : List Cond := u_ws RJ6 TJ6 0
theorem nmJ6 : ∀ a, a < 0 → ∀ b, b < 0 → a ≠ b → (TJ6 a).2.1 ≠ (TJ6 b).2.1 := by decide +kernel
theorem tyJ6_ok : ∀ k, k < 0 → parseFieldDescriptor (TJ6 k).2.2.1 = some (tyJ6 k) := by decide +kernel
abbrev cJ6_getChars_ba4f3 : ByteArray := prog_27_method_12_code
def yJ6_getChars_ba4f3 : MethodName := ⟨RJ6, "getChars", "(II[B)I"⟩
abbrev cJ6_stringSize_0f7a4 : ByteArray := prog_27_method_13_code
def yJ6_stringSize_0f7a4 : MethodName := ⟨RJ6, "stringSize", "(I)I"⟩
def RJxab1ab : String := "java/lang/Iterable"
def TJxab1ab : u_T := fun k => match k with
  | _ => ("", "", "", false)
def tyJxab1ab : Nat → FieldType := fun k => match k with
  | _ => .int
abbrev wsJxab1ab0 : List Cond := u_ws RJxab1ab TJxab1ab 0
theorem nmJxab1ab : ∀ a, a < 0 → ∀ b, b < 0 → a ≠ b → (TJxab1ab a).2.1 ≠ (TJxab1ab b).2.1 := by decide +kernel
theorem tyJxab1ab_ok : ∀ k, k < 0 → parseFieldDescriptor (TJxab1ab k).2.2.1 = some (tyJxab1ab k) := by decide +kernel
def RJ9 : String := "java/lang/Math"
def TJ9 : u_T := fun k => match k with
  | _ => ("", "", "", false)
def tyJ9 : Nat → FieldType := fun k => match k with
  | _ => .int
abbrev wsJ90 : List Cond := u_ws RJ9 TJ9 0
theorem nmJ9 : ∀ a, a < 0 → ∀ b, b < 0 → a ≠ b → (TJ9 a).2.1 ≠ (TJ9 b).2.1 := by decide +kernel
theorem tyJ9_ok : ∀ k, k < 0 → parseFieldDescriptor (TJ9 k).2.2.1 = some (tyJ9 k) := by decide +kernel
abbrev cJ9_max_7cf53 : ByteArray := prog_29_method_65_code
def yJ9_max_7cf53 : MethodName := ⟨RJ9, "max", "(II)I"⟩
abbrev cJ9_min_7cf53 : ByteArray := prog_29_method_69_code
def yJ9_min_7cf53 : MethodName := ⟨RJ9, "min", "(II)I"⟩
def RJxd2413 : String := "java/lang/Number"
def TJxd2413 : u_T := fun k => match k with
  | _ => ("", "", "", false)
def tyJxd2413 : Nat → FieldType := fun k => match k with
  | _ => .int
abbrev wsJxd24130 : List Cond := u_ws RJxd2413 TJxd2413 0
theorem nmJxd2413 : ∀ a, a < 0 → ∀ b, b < 0 → a ≠ b → (TJxd2413 a).2.1 ≠ (TJxd2413 b).2.1 := by decide +kernel
theorem tyJxd2413_ok : ∀ k, k < 0 → parseFieldDescriptor (TJxd2413 k).2.2.1 = some (tyJxd2413 k) := by decide +kernel
def RJ0 : String := "java/lang/String"
def TJ0 : u_T := fun k => match k with
  | 0 => ("java/lang/String", "value", "[B", true)
  | 1 => ("java/lang/String", "coder", "B", true)
  | 2 => ("java/lang/String", "hash", "I", false)
  | _ => ("java/lang/String", "hashIsZero", "Z", false)
def tyJ0 : Nat → FieldType := fun k => match k with
  | 0 => .array .byte
  | 1 => .byte
  | 2 => .int
  | _ => .boolean
abbrev wsJ00 : List Cond := u_ws RJ0 TJ0 4
theorem nmJ0 : ∀ a, a < 4 → ∀ b, b < 4 → a ≠ b → (TJ0 a).2.1 ≠ (TJ0 b).2.1 := by decide +kernel
theorem tyJ0_ok : ∀ k, k < 4 → parseFieldDescriptor (TJ0 k).2.2.1 = some (tyJ0 k) := by decide +kernel
abbrev cJ0_init_81219 : ByteArray := prog_32_method_53_code
def yJ0_init_81219 : MethodName := ⟨RJ0, "<init>", "(Ljava/lang/StringBuilder;)V"⟩
abbrev cJ0_length_8abf5 : ByteArray := prog_32_method_54_code
def yJ0_length_8abf5 : MethodName := ⟨RJ0, "length", "()I"⟩
abbrev cJ0_charAt_5068e : ByteArray := prog_32_method_56_code
def yJ0_charAt_5068e : MethodName := ⟨RJ0, "charAt", "(I)C"⟩
abbrev cJ0_getBytes_840e7 : ByteArray := prog_32_method_147_code
def yJ0_getBytes_840e7 : MethodName := ⟨RJ0, "getBytes", "([BIB)V"⟩
abbrev cJ0_init_db425 : ByteArray := prog_32_method_150_code
def yJ0_init_db425 : MethodName := ⟨RJ0, "<init>", "(Ljava/lang/AbstractStringBuilder;Ljava/lang/Void;)V"⟩
abbrev cJ0_coder_7d493 : ByteArray := prog_32_method_152_code
def yJ0_coder_7d493 : MethodName := ⟨RJ0, "coder", "()B"⟩
abbrev cJ0_isLatin1_aae02 : ByteArray := prog_32_method_154_code
def yJ0_isLatin1_aae02 : MethodName := ⟨RJ0, "isLatin1", "()Z"⟩
abbrev cJ0_checkIndex_df160 : ByteArray := prog_32_method_155_code
def yJ0_checkIndex_df160 : MethodName := ⟨RJ0, "checkIndex", "(II)V"⟩
abbrev cJ0_checkBoundsOffCount_cabcc : ByteArray := prog_32_method_157_code
def yJ0_checkBoundsOffCount_cabcc : MethodName := ⟨RJ0, "checkBoundsOffCount", "(III)I"⟩
abbrev cJ0_checkBoundsBeginEnd_23922 : ByteArray := prog_32_method_158_code
def yJ0_checkBoundsBeginEnd_23922 : MethodName := ⟨RJ0, "checkBoundsBeginEnd", "(III)V"⟩
def RJ4 : String := "java/lang/StringBuilder"
def TJ4 : u_T := fun k => match k with
  | 0 => ("java/lang/AbstractStringBuilder", "value", "[B", false)
  | 1 => ("java/lang/AbstractStringBuilder", "coder", "B", false)
  | 2 => ("java/lang/AbstractStringBuilder", "maybeLatin1", "Z", false)
  | _ => ("java/lang/AbstractStringBuilder", "count", "I", false)
def tyJ4 : Nat → FieldType := fun k => match k with
  | 0 => .array .byte
  | 1 => .byte
  | 2 => .boolean
  | _ => .int
abbrev wsJ40 : List Cond := u_ws RJ4 TJ4 4
theorem nmJ4 : ∀ a, a < 4 → ∀ b, b < 4 → a ≠ b → (TJ4 a).2.1 ≠ (TJ4 b).2.1 := by decide +kernel
theorem tyJ4_ok : ∀ k, k < 4 → parseFieldDescriptor (TJ4 k).2.2.1 = some (tyJ4 k) := by decide +kernel
abbrev cJ4_init_da8c8 : ByteArray := prog_33_method_1_code
def yJ4_init_da8c8 : MethodName := ⟨RJ4, "<init>", "()V"⟩
abbrev cJ4_init_a7421 : ByteArray := prog_33_method_3_code
def yJ4_init_a7421 : MethodName := ⟨RJ4, "<init>", "(Ljava/lang/String;)V"⟩
abbrev cJ4_append_15ec4 : ByteArray := prog_33_method_7_code
def yJ4_append_15ec4 : MethodName := ⟨RJ4, "append", "(Ljava/lang/String;)Ljava/lang/StringBuilder;"⟩
abbrev cJ4_append_cf468 : ByteArray := prog_33_method_14_code
def yJ4_append_cf468 : MethodName := ⟨RJ4, "append", "(C)Ljava/lang/StringBuilder;"⟩
abbrev cJ4_append_bf812 : ByteArray := prog_33_method_15_code
def yJ4_append_bf812 : MethodName := ⟨RJ4, "append", "(I)Ljava/lang/StringBuilder;"⟩
abbrev cJ4_toString_0e30d : ByteArray := prog_33_method_42_code
def yJ4_toString_0e30d : MethodName := ⟨RJ4, "toString", "()Ljava/lang/String;"⟩
abbrev cJ4_append_cf1ce : ByteArray := prog_33_method_80_code
def yJ4_append_cf1ce : MethodName := ⟨RJ4, "append", "(Ljava/lang/String;)Ljava/lang/AbstractStringBuilder;"⟩
abbrev cJ4_length_8abf5 : ByteArray := prog_33_method_93_code
def yJ4_length_8abf5 : MethodName := ⟨RJ4, "length", "()I"⟩
def RJ1 : String := "java/lang/StringLatin1"
def TJ1 : u_T := fun k => match k with
  | _ => ("", "", "", false)
def tyJ1 : Nat → FieldType := fun k => match k with
  | _ => .int
abbrev wsJ10 : List Cond := u_ws RJ1 TJ1 0
theorem nmJ1 : ∀ a, a < 0 → ∀ b, b < 0 → a ≠ b → (TJ1 a).2.1 ≠ (TJ1 b).2.1 := by decide +kernel
theorem tyJ1_ok : ∀ k, k < 0 → parseFieldDescriptor (TJ1 k).2.2.1 = some (tyJ1 k) := by decide +kernel
abbrev cJ1_charAt_3b067 : ByteArray := prog_34_method_2_code
def yJ1_charAt_3b067 : MethodName := ⟨RJ1, "charAt", "([BI)C"⟩
abbrev cJ1_canEncode_fc78d : ByteArray := prog_34_method_3_code
def yJ1_canEncode_fc78d : MethodName := ⟨RJ1, "canEncode", "(C)Z"⟩
abbrev cJ1_inflate_0e8fd : ByteArray := prog_34_method_50_code
def yJ1_inflate_0e8fd : MethodName := ⟨RJ1, "inflate", "([BI[BII)V"⟩
def RJ2 : String := "java/lang/StringUTF16"
def TJ2 : u_T := fun k => match k with
  | _ => ("", "", "", false)
def tyJ2 : Nat → FieldType := fun k => match k with
  | _ => .int
abbrev wsJ20 : List Cond := u_ws RJ2 TJ2 0
theorem nmJ2 : ∀ a, a < 0 → ∀ b, b < 0 → a ≠ b → (TJ2 a).2.1 ≠ (TJ2 b).2.1 := by decide +kernel
theorem tyJ2_ok : ∀ k, k < 0 → parseFieldDescriptor (TJ2 k).2.2.1 = some (tyJ2 k) := by decide +kernel
abbrev cJ2_newBytesFor_77867 : ByteArray := prog_35_method_2_code
def yJ2_newBytesFor_77867 : MethodName := ⟨RJ2, "newBytesFor", "(I)[B"⟩
abbrev cJ2_newBytesLength_0f7a4 : ByteArray := prog_35_method_3_code
def yJ2_newBytesLength_0f7a4 : MethodName := ⟨RJ2, "newBytesLength", "(I)I"⟩
abbrev cJ2_putChar_b72d1 : ByteArray := prog_35_method_4_code
def yJ2_putChar_b72d1 : MethodName := ⟨RJ2, "putChar", "([BII)V"⟩
abbrev cJ2_getChar_3b067 : ByteArray := prog_35_method_5_code
def yJ2_getChar_3b067 : MethodName := ⟨RJ2, "getChar", "([BI)C"⟩
abbrev cJ2_length_9d52b : ByteArray := prog_35_method_6_code
def yJ2_length_9d52b : MethodName := ⟨RJ2, "length", "([B)I"⟩
abbrev cJ2_coderFromArrayLen_85cad : ByteArray := prog_35_method_15_code
def yJ2_coderFromArrayLen_85cad : MethodName := ⟨RJ2, "coderFromArrayLen", "([BI)B"⟩
abbrev cJ2_compress_39247 : ByteArray := prog_35_method_17_code
def yJ2_compress_39247 : MethodName := ⟨RJ2, "compress", "([BII)[B"⟩
abbrev cJ2_compress_5af95 : ByteArray := prog_35_method_22_code
def yJ2_compress_5af95 : MethodName := ⟨RJ2, "compress", "([BI[BII)I"⟩
abbrev cJ2_putCharSB_b72d1 : ByteArray := prog_35_method_71_code
def yJ2_putCharSB_b72d1 : MethodName := ⟨RJ2, "putCharSB", "([BII)V"⟩
abbrev cJ2_getChars_46870 : ByteArray := prog_35_method_77_code
def yJ2_getChars_46870 : MethodName := ⟨RJ2, "getChars", "(III[B)I"⟩
abbrev cJ2_putCharsAt_cd4e5 : ByteArray := prog_35_method_81_code
def yJ2_putCharsAt_cd4e5 : MethodName := ⟨RJ2, "putCharsAt", "([BICCCC)I"⟩
abbrev cJ2_charAt_3b067 : ByteArray := prog_35_method_83_code
def yJ2_charAt_3b067 : MethodName := ⟨RJ2, "charAt", "([BI)C"⟩
abbrev cJ2_inflate_0e8fd : ByteArray := prog_35_method_86_code
def yJ2_inflate_0e8fd : MethodName := ⟨RJ2, "inflate", "([BI[BII)V"⟩
abbrev cJ2_getChars_ba4f3 : ByteArray := prog_35_method_89_code
def yJ2_getChars_ba4f3 : MethodName := ⟨RJ2, "getChars", "(II[B)I"⟩
abbrev cJ2_checkIndex_2214a : ByteArray := prog_35_method_91_code
def yJ2_checkIndex_2214a : MethodName := ⟨RJ2, "checkIndex", "(I[B)V"⟩
abbrev cJ2_checkBoundsBeginEnd_d044e : ByteArray := prog_35_method_93_code
def yJ2_checkBoundsBeginEnd_d044e : MethodName := ⟨RJ2, "checkBoundsBeginEnd", "(II[B)V"⟩
abbrev cJ2_checkBoundsOffCount_d044e : ByteArray := prog_35_method_94_code
def yJ2_checkBoundsOffCount_d044e : MethodName := ⟨RJ2, "checkBoundsOffCount", "(II[B)V"⟩
def RJ10 : String := "java/lang/System"
def TJ10 : u_T := fun k => match k with
  | _ => ("", "", "", false)
def tyJ10 : Nat → FieldType := fun k => match k with
  | _ => .int
abbrev wsJ100 : List Cond := u_ws RJ10 TJ10 0
theorem nmJ10 : ∀ a, a < 0 → ∀ b, b < 0 → a ≠ b → (TJ10 a).2.1 ≠ (TJ10 b).2.1 := by decide +kernel
theorem tyJ10_ok : ∀ k, k < 0 → parseFieldDescriptor (TJ10 k).2.2.1 = some (tyJ10 k) := by decide +kernel
def RJxfd54e : String := "java/lang/constant/Constable"
def TJxfd54e : u_T := fun k => match k with
  | _ => ("", "", "", false)
def tyJxfd54e : Nat → FieldType := fun k => match k with
  | _ => .int
abbrev wsJxfd54e0 : List Cond := u_ws RJxfd54e TJxfd54e 0
theorem nmJxfd54e : ∀ a, a < 0 → ∀ b, b < 0 → a ≠ b → (TJxfd54e a).2.1 ≠ (TJxfd54e b).2.1 := by decide +kernel
theorem tyJxfd54e_ok : ∀ k, k < 0 → parseFieldDescriptor (TJxfd54e k).2.2.1 = some (tyJxfd54e k) := by decide +kernel
def RJx3cf43 : String := "java/lang/constant/ConstantDesc"
def TJx3cf43 : u_T := fun k => match k with
  | _ => ("", "", "", false)
def tyJx3cf43 : Nat → FieldType := fun k => match k with
  | _ => .int
abbrev wsJx3cf430 : List Cond := u_ws RJx3cf43 TJx3cf43 0
theorem nmJx3cf43 : ∀ a, a < 0 → ∀ b, b < 0 → a ≠ b → (TJx3cf43 a).2.1 ≠ (TJx3cf43 b).2.1 := by decide +kernel
theorem tyJx3cf43_ok : ∀ k, k < 0 → parseFieldDescriptor (TJx3cf43 k).2.2.1 = some (tyJx3cf43 k) := by decide +kernel
def RJxa1e45 : String := "java/util/AbstractCollection"
def TJxa1e45 : u_T := fun k => match k with
  | _ => ("", "", "", false)
def tyJxa1e45 : Nat → FieldType := fun k => match k with
  | _ => .int
abbrev wsJxa1e450 : List Cond := u_ws RJxa1e45 TJxa1e45 0
theorem nmJxa1e45 : ∀ a, a < 0 → ∀ b, b < 0 → a ≠ b → (TJxa1e45 a).2.1 ≠ (TJxa1e45 b).2.1 := by decide +kernel
theorem tyJxa1e45_ok : ∀ k, k < 0 → parseFieldDescriptor (TJxa1e45 k).2.2.1 = some (tyJxa1e45 k) := by decide +kernel
abbrev cJxa1e45_init_da8c8 : ByteArray := prog_40_method_1_code
def yJxa1e45_init_da8c8 : MethodName := ⟨RJxa1e45, "<init>", "()V"⟩
def RJxc12de : String := "java/util/AbstractList"
def TJxc12de : u_T := fun k => match k with
  | _ => ("", "", "", false)
def tyJxc12de : Nat → FieldType := fun k => match k with
  | _ => .int
abbrev wsJxc12de0 : List Cond := u_ws RJxc12de TJxc12de 0
theorem nmJxc12de : ∀ a, a < 0 → ∀ b, b < 0 → a ≠ b → (TJxc12de a).2.1 ≠ (TJxc12de b).2.1 := by decide +kernel
theorem tyJxc12de_ok : ∀ k, k < 0 → parseFieldDescriptor (TJxc12de k).2.2.1 = some (tyJxc12de k) := by decide +kernel
abbrev cJxc12de_init_da8c8 : ByteArray := prog_41_method_1_code
def yJxc12de_init_da8c8 : MethodName := ⟨RJxc12de, "<init>", "()V"⟩
def RJx4a65c : String := "java/util/ArrayList"
def TJx4a65c : u_T := fun k => match k with
  | 0 => ("java/util/AbstractList", "modCount", "I", false)
  | 1 => ("java/util/ArrayList", "elementData", "[Ljava/lang/Object;", false)
  | _ => ("java/util/ArrayList", "size", "I", false)
def tyJx4a65c : Nat → FieldType := fun k => match k with
  | 0 => .int
  | 1 => .array (.object "java/lang/Object")
  | _ => .int
abbrev wsJx4a65c0 : List Cond := u_ws RJx4a65c TJx4a65c 3
theorem nmJx4a65c : ∀ a, a < 3 → ∀ b, b < 3 → a ≠ b → (TJx4a65c a).2.1 ≠ (TJx4a65c b).2.1 := by decide +kernel
theorem tyJx4a65c_ok : ∀ k, k < 3 → parseFieldDescriptor (TJx4a65c k).2.2.1 = some (tyJx4a65c k) := by decide +kernel
abbrev cJx4a65c_init_da8c8 : ByteArray := prog_42_method_2_code
def yJx4a65c_init_da8c8 : MethodName := ⟨RJx4a65c, "<init>", "()V"⟩
abbrev cJx4a65c_grow_92f84 : ByteArray := prog_42_method_6_code
def yJx4a65c_grow_92f84 : MethodName := ⟨RJx4a65c, "grow", "(I)[Ljava/lang/Object;"⟩
abbrev cJx4a65c_grow_d5877 : ByteArray := prog_42_method_7_code
def yJx4a65c_grow_d5877 : MethodName := ⟨RJx4a65c, "grow", "()[Ljava/lang/Object;"⟩
abbrev cJx4a65c_size_8abf5 : ByteArray := prog_42_method_8_code
def yJx4a65c_size_8abf5 : MethodName := ⟨RJx4a65c, "size", "()I"⟩
abbrev cJx4a65c_elementData_915e3 : ByteArray := prog_42_method_18_code
def yJx4a65c_elementData_915e3 : MethodName := ⟨RJx4a65c, "elementData", "(I)Ljava/lang/Object;"⟩
abbrev cJx4a65c_get_915e3 : ByteArray := prog_42_method_20_code
def yJx4a65c_get_915e3 : MethodName := ⟨RJx4a65c, "get", "(I)Ljava/lang/Object;"⟩
abbrev cJx4a65c_add_72be8 : ByteArray := prog_42_method_24_code
def yJx4a65c_add_72be8 : MethodName := ⟨RJx4a65c, "add", "(Ljava/lang/Object;[Ljava/lang/Object;I)V"⟩
abbrev cJx4a65c_add_9ea2d : ByteArray := prog_42_method_25_code
def yJx4a65c_add_9ea2d : MethodName := ⟨RJx4a65c, "add", "(Ljava/lang/Object;)Z"⟩
def RJ7 : String := "java/util/Arrays"
def TJ7 : u_T := fun k => match k with
  | _ => ("", "", "", false)
def tyJ7 : Nat → FieldType := fun k => match k with
  | _ => .int
abbrev wsJ70 : List Cond := u_ws RJ7 TJ7 0
theorem nmJ7 : ∀ a, a < 0 → ∀ b, b < 0 → a ≠ b → (TJ7 a).2.1 ≠ (TJ7 b).2.1 := by decide +kernel
theorem tyJ7_ok : ∀ k, k < 0 → parseFieldDescriptor (TJ7 k).2.2.1 = some (tyJ7 k) := by decide +kernel
abbrev cJ7_fill_53178 : ByteArray := prog_43_method_103_code
def yJ7_fill_53178 : MethodName := ⟨RJ7, "fill", "([II)V"⟩
abbrev cJ7_copyOf_1904c : ByteArray := prog_43_method_119_code
def yJ7_copyOf_1904c : MethodName := ⟨RJ7, "copyOf", "([Ljava/lang/Object;I)[Ljava/lang/Object;"⟩
abbrev cJ7_copyOf_6403c : ByteArray := prog_43_method_120_code
def yJ7_copyOf_6403c : MethodName := ⟨RJ7, "copyOf", "([Ljava/lang/Object;ILjava/lang/Class;)[Ljava/lang/Object;"⟩
abbrev cJ7_copyOf_9075b : ByteArray := prog_43_method_121_code
def yJ7_copyOf_9075b : MethodName := ⟨RJ7, "copyOf", "([BI)[B"⟩
abbrev cJ7_checkLength_df160 : ByteArray := prog_43_method_131_code
def yJ7_checkLength_df160 : MethodName := ⟨RJ7, "checkLength", "(II)V"⟩
abbrev cJ7_copyOfRange_39247 : ByteArray := prog_43_method_132_code
def yJ7_copyOfRange_39247 : MethodName := ⟨RJ7, "copyOfRange", "([BII)[B"⟩
abbrev cJ7_copyOfRangeByte_39247 : ByteArray := prog_43_method_133_code
def yJ7_copyOfRangeByte_39247 : MethodName := ⟨RJ7, "copyOfRangeByte", "([BII)[B"⟩
def RJx5ef63 : String := "java/util/Collection"
def TJx5ef63 : u_T := fun k => match k with
  | _ => ("", "", "", false)
def tyJx5ef63 : Nat → FieldType := fun k => match k with
  | _ => .int
abbrev wsJx5ef630 : List Cond := u_ws RJx5ef63 TJx5ef63 0
theorem nmJx5ef63 : ∀ a, a < 0 → ∀ b, b < 0 → a ≠ b → (TJx5ef63 a).2.1 ≠ (TJx5ef63 b).2.1 := by decide +kernel
theorem tyJx5ef63_ok : ∀ k, k < 0 → parseFieldDescriptor (TJx5ef63 k).2.2.1 = some (tyJx5ef63 k) := by decide +kernel
def RJxbd725 : String := "java/util/List"
def TJxbd725 : u_T := fun k => match k with
  | _ => ("", "", "", false)
def tyJxbd725 : Nat → FieldType := fun k => match k with
  | _ => .int
abbrev wsJxbd7250 : List Cond := u_ws RJxbd725 TJxbd725 0
theorem nmJxbd725 : ∀ a, a < 0 → ∀ b, b < 0 → a ≠ b → (TJxbd725 a).2.1 ≠ (TJxbd725 b).2.1 := by decide +kernel
theorem tyJxbd725_ok : ∀ k, k < 0 → parseFieldDescriptor (TJxbd725 k).2.2.1 = some (tyJxbd725 k) := by decide +kernel
def RJ15 : String := "java/util/Objects"
def TJ15 : u_T := fun k => match k with
  | _ => ("", "", "", false)
def tyJ15 : Nat → FieldType := fun k => match k with
  | _ => .int
abbrev wsJ150 : List Cond := u_ws RJ15 TJ15 0
theorem nmJ15 : ∀ a, a < 0 → ∀ b, b < 0 → a ≠ b → (TJ15 a).2.1 ≠ (TJ15 b).2.1 := by decide +kernel
theorem tyJ15_ok : ∀ k, k < 0 → parseFieldDescriptor (TJ15 k).2.2.1 = some (tyJ15 k) := by decide +kernel
abbrev cJ15_checkIndex_7cf53 : ByteArray := prog_46_method_17_code
def yJ15_checkIndex_7cf53 : MethodName := ⟨RJ15, "checkIndex", "(II)I"⟩
def RJxf0a74 : String := "java/util/RandomAccess"
def TJxf0a74 : u_T := fun k => match k with
  | _ => ("", "", "", false)
def tyJxf0a74 : Nat → FieldType := fun k => match k with
  | _ => .int
abbrev wsJxf0a740 : List Cond := u_ws RJxf0a74 TJxf0a74 0
theorem nmJxf0a74 : ∀ a, a < 0 → ∀ b, b < 0 → a ≠ b → (TJxf0a74 a).2.1 ≠ (TJxf0a74 b).2.1 := by decide +kernel
theorem tyJxf0a74_ok : ∀ k, k < 0 → parseFieldDescriptor (TJxf0a74 k).2.2.1 = some (tyJxf0a74 k) := by decide +kernel
def RJxa66e6 : String := "java/util/SequencedCollection"
def TJxa66e6 : u_T := fun k => match k with
  | _ => ("", "", "", false)
def tyJxa66e6 : Nat → FieldType := fun k => match k with
  | _ => .int
abbrev wsJxa66e60 : List Cond := u_ws RJxa66e6 TJxa66e6 0
theorem nmJxa66e6 : ∀ a, a < 0 → ∀ b, b < 0 → a ≠ b → (TJxa66e6 a).2.1 ≠ (TJxa66e6 b).2.1 := by decide +kernel
theorem tyJxa66e6_ok : ∀ k, k < 0 → parseFieldDescriptor (TJxa66e6 k).2.2.1 = some (tyJxa66e6 k) := by decide +kernel
def RJ8 : String := "jdk/internal/util/ArraysSupport"
def TJ8 : u_T := fun k => match k with
  | _ => ("", "", "", false)
def tyJ8 : Nat → FieldType := fun k => match k with
  | _ => .int
abbrev wsJ80 : List Cond := u_ws RJ8 TJ8 0
theorem nmJ8 : ∀ a, a < 0 → ∀ b, b < 0 → a ≠ b → (TJ8 a).2.1 ≠ (TJ8 b).2.1 := by decide +kernel
theorem tyJ8_ok : ∀ k, k < 0 → parseFieldDescriptor (TJ8 k).2.2.1 = some (tyJ8 k) := by decide +kernel
abbrev cJ8_newLength_cabcc : ByteArray := prog_49_method_27_code
def yJ8_newLength_cabcc : MethodName := ⟨RJ8, "newLength", "(III)I"⟩
abbrev cJ8_hugeLength_7cf53 : ByteArray := prog_49_method_28_code
def yJ8_hugeLength_7cf53 : MethodName := ⟨RJ8, "hugeLength", "(II)I"⟩
def RJ3 : String := "jdk/internal/util/Preconditions"
def TJ3 : u_T := fun k => match k with
  | _ => ("", "", "", false)
def tyJ3 : Nat → FieldType := fun k => match k with
  | _ => .int
abbrev wsJ30 : List Cond := u_ws RJ3 TJ3 0
theorem nmJ3 : ∀ a, a < 0 → ∀ b, b < 0 → a ≠ b → (TJ3 a).2.1 ≠ (TJ3 b).2.1 := by decide +kernel
theorem tyJ3_ok : ∀ k, k < 0 → parseFieldDescriptor (TJ3 k).2.2.1 = some (tyJ3 k) := by decide +kernel
abbrev cJ3_checkIndex_8e157 : ByteArray := prog_50_method_11_code
def yJ3_checkIndex_8e157 : MethodName := ⟨RJ3, "checkIndex", "(IILjava/util/function/BiFunction;)I"⟩
abbrev cJ3_checkFromToIndex_8c36e : ByteArray := prog_50_method_12_code
def yJ3_checkFromToIndex_8c36e : MethodName := ⟨RJ3, "checkFromToIndex", "(IIILjava/util/function/BiFunction;)I"⟩
abbrev cJ3_checkFromIndexSize_8c36e : ByteArray := prog_50_method_13_code
def yJ3_checkFromIndexSize_8c36e : MethodName := ⟨RJ3, "checkFromIndexSize", "(IIILjava/util/function/BiFunction;)I"⟩
def RL : String := "ShellWatchLaw"
abbrev cL_cell : ByteArray := method_2_code
def yL_cell : MethodName := ⟨RL, "cell", "([II)I"⟩
abbrev cL_bound : ByteArray := method_3_code
def yL_bound : MethodName := ⟨RL, "bound", "(II)I"⟩
abbrev cL_feeds : ByteArray := method_4_code
def yL_feeds : MethodName := ⟨RL, "feeds", "(LShellWatch;Ljava/lang/String;)I"⟩
abbrev cL_read : ByteArray := method_5_code
def yL_read : MethodName := ⟨RL, "read", "(LShellWatch;Ljava/lang/String;)I"⟩
abbrev cL_steals : ByteArray := method_6_code
def yL_steals : MethodName := ⟨RL, "steals", "(LShellWatch;I)I"⟩
abbrev cL_plants : ByteArray := method_7_code
def yL_plants : MethodName := ⟨RL, "plants", "(LShellWatch;I)I"⟩
abbrev cL_law : ByteArray := code
def yL_law : MethodName := ⟨RL, "law", "([I)Z"⟩
end
section
/-! WHAT A METHOD'S CODE DOES, as a function: a small interpreter over the decoded instructions, on a world of cells.
A cell of the world: .inl (kind of array: 0 int, 1 byte, 2 long, 3 double, 4 Token rows, 5 Game rows, length, contents) or .inr (class, fields). -/
abbrev xH : Type := (Nat → Option va_E) × Nat
abbrev xR : Type := (Option Value ⊕ String) × xH
abbrev xL : Type := List (Nat × Value)
abbrev xJ : Type := Nat × xL × List Value × xH × Nat × Nat
abbrev xI : Type := Nat × Instr × List Nat
def xup (w : Nat → Option va_E) (a : Nat) (e : va_E) : Nat → Option va_E := fun q => bif Nat.beq q a then some e else w q
def xget : xL → Nat → Option Value
  | [], _ => none
  | q :: L, i => bif Nat.beq q.1 i then some q.2 else xget L i
def xset1 (L : xL) (i : Nat) (v : Value) : xL := (i, v) :: L.filter (fun q => !(q.1 == i) && !(q.1 + 1 == i && q.2.category == 2))
def xset2 (L : xL) (i : Nat) (v : Value) : xL := (i, v) :: L.filter (fun q => !(q.1 == i) && (!(q.1 == i + 1) && !(q.1 + 1 == i && q.2.category == 2)))
def xpick (L : xL) : List Nat → xL
  | [] => []
  | i :: is => match xget L i with
    | some v => (i, v) :: xpick L is
    | none => xpick L is
def xfind (f : Nat → Nat) (a : Nat) : Nat → Option Nat
  | 0 => none
  | n + 1 => match xfind f a n with
    | some i => some i
    | none => bif Nat.beq (f n) a then some n else none
def xin (i : Int32) (n : Nat) : Bool := decide (¬ (i < 0 ∨ n ≤ i.toNatClampNeg))
/-- the literals, each text once, and which is a Token's -/
def xbyt : List (List Int32) := [[], [59], [43], [45], [42], [47], [40], [41], [115, 104, 101, 108, 108, 115], [115, 116, 101, 112, 115], [98, 108, 105, 110, 107, 115], [99, 104, 97, 110, 99, 101], [98, 97, 108, 108], [115, 99, 114, 97, 116, 99, 104], [116, 114, 117, 115, 116], [99, 97, 108, 109], [115, 108, 121], [112, 117, 114, 115, 101], [98, 108, 105, 110, 107], [111, 100, 100, 115], [115, 119, 97, 112], [102, 101, 105, 110, 116], [114, 101, 115, 116], [115, 116, 101, 97, 108], [112, 108, 97, 110, 116], [112, 101, 101, 107], [114, 101, 112, 101, 97, 116], [115, 104, 101, 108, 108, 115, 32], [59, 98, 97, 108, 108, 32], [59, 116, 114, 117, 115, 116, 32], [59, 99, 97, 108, 109, 32], [59, 115, 108, 121, 32], [115, 99, 114, 97, 116, 99, 104, 32], [98, 108, 105, 110, 107, 32]]
def xtx (i : Nat) : List Int32 := xbyt.getD i []
def xNS : Nat := 34
def xtt (i : Nat) : Nat := ([0, 0, 0, 1, 2, 3, 4, 5, 6, 7, 8, 9, 10, 11, 12, 13, 14, 15, 16, 17, 18, 19, 20, 21, 22, 23, 24, 25, 26] : List Nat).getD i 0
/-- addresses: the Tokens, the literals, their bytes, Token.ALL; the value of Preconditions' formatter -/
abbrev xEn : Type := (Nat → Nat) × (Nat → Nat) × (Nat → Nat) × Nat × Value × (Nat × Nat × Nat) × Nat × Nat × (Nat → Int32)
/-- the formatter; Integer's rows of digits; ArrayList's empty row; the script: where, how long, what -/
abbrev eFm (E : xEn) : Value := E.2.2.2.2.1
abbrev eD1 (E : xEn) : Nat := E.2.2.2.2.2.1.1
abbrev eD2 (E : xEn) : Nat := E.2.2.2.2.2.1.2.1
abbrev eDc (E : xEn) : Nat := E.2.2.2.2.2.1.2.2
abbrev eSa (E : xEn) : Nat := E.2.2.2.2.2.2.1
abbrev eSn (E : xEn) : Nat := E.2.2.2.2.2.2.2.1
abbrev eSf (E : xEn) : Nat → Int32 := E.2.2.2.2.2.2.2.2
section SEM
variable {ρ : Type}
-- fields
def gV (σ : xH) (ci k a : Nat) (K : Value → Option ρ) : Option ρ := match σ.1 a with
  | some (.inr (c, fs)) => bif Nat.beq c ci then (match fs[k]? with
    | some v => K v
    | none => none) else none
  | _ => none
def gI (σ : xH) (ci k a : Nat) (K : Int32 → Option ρ) : Option ρ := gV σ ci k a (fun v => match v with
  | .int x => K x
  | _ => none)
def gL (σ : xH) (ci k a : Nat) (K : Int64 → Option ρ) : Option ρ := gV σ ci k a (fun v => match v with
  | .long x => K x
  | _ => none)
def gR (σ : xH) (ci k a : Nat) (K : Nat → Option ρ) : Option ρ := gV σ ci k a (fun v => match v with
  | .ref x => K x
  | _ => none)
def gP (σ : xH) (ci k a : Nat) (v : Value) (K : xH → Option ρ) : Option ρ := match σ.1 a with
  | some (.inr (c, fs)) => bif Nat.beq c ci && Nat.blt k fs.length then K (xup σ.1 a (.inr (c, fs.set k v)), σ.2) else none
  | _ => none
/-- the receiver's class; 99 is String -/
def gO (E : xEn) (σ : xH) (ci a : Nat) (K : Option ρ) : Option ρ := match σ.1 a with
  | some (.inr (c, _)) => bif Nat.beq c ci || (Nat.beq ci 99 && Nat.beq c 11) then K else none
  | none => bif Nat.beq ci 99 && (xfind E.2.1 a xNS).isSome then K else none
  | _ => none
-- arrays
def aI (E : xEn) (σ : xH) (a : Nat) (i : Int32) (K : Int32 → Option ρ) : Option ρ := match σ.1 a with
  | some (.inl (k, n, .inl f)) => bif Nat.beq k 0 && xin i n then K (f i.toNatClampNeg) else none
  | none => bif Nat.beq a (eSa E) && xin i (eSn E) then K (eSf E i.toNatClampNeg) else none
  | _ => none
def aB (E : xEn) (σ : xH) (a : Nat) (i : Int32) (K : Int32 → Option ρ) : Option ρ := match σ.1 a with
  | some (.inl (k, n, .inl f)) => bif Nat.beq k 1 && xin i n then K (f i.toNatClampNeg) else none
  | none => match xfind E.2.2.1 a xNS with
    | some s => bif xin i (xtx s).length then K ((xtx s).getD i.toNatClampNeg 0) else none
    | none => bif Nat.beq a (eD1 E) && xin i 100 then K (nI (48 + i.toNatClampNeg % 10)) else bif Nat.beq a (eD2 E) && xin i 100 then K (nI (48 + i.toNatClampNeg / 10)) else none
  | _ => none
def aL (σ : xH) (a : Nat) (i : Int32) (K : Int64 → Option ρ) : Option ρ := match σ.1 a with
  | some (.inl (k, n, .inr (.inl f))) => bif Nat.beq k 2 && xin i n then K (f i.toNatClampNeg) else none
  | _ => none
def aD (σ : xH) (a : Nat) (i : Int32) (K : UInt64 → Option ρ) : Option ρ := match σ.1 a with
  | some (.inl (k, n, .inr (.inr (.inr (.inl f))))) => bif Nat.beq k 3 && xin i n then K (f i.toNatClampNeg) else none
  | _ => none
def aQ (E : xEn) (σ : xH) (a : Nat) (i : Int32) (K : Nat → Option ρ) : Option ρ := match σ.1 a with
  | some (.inl (k, n, .inr (.inr (.inr (.inr f))))) => bif Nat.ble 4 k && (Nat.ble k 6 && xin i n) then (match f i.toNatClampNeg with
    | some b => K b
    | none => none) else none
  | none => bif Nat.beq a E.2.2.2.1 && xin i 29 then K (E.1 i.toNatClampNeg) else none
  | _ => none
def aN (E : xEn) (σ : xH) (a : Nat) (K : Int32 → Option ρ) : Option ρ := match σ.1 a with
  | some (.inl (k, n, _)) => bif Nat.ble k 6 then K (nI n) else none
  | none => bif Nat.beq a E.2.2.2.1 then K 29 else match xfind E.2.2.1 a xNS with
    | some s => K (nI (xtx s).length)
    | none => bif Nat.beq a (eDc E) then K (nI 0) else bif Nat.beq a (eSa E) then K (nI (eSn E)) else none
  | _ => none
def sI (σ : xH) (a : Nat) (i x : Int32) (K : xH → Option ρ) : Option ρ := match σ.1 a with
  | some (.inl (k, n, .inl f)) => bif Nat.beq k 0 && xin i n then K (xup σ.1 a (.inl (k, n, .inl (upd f i.toNatClampNeg x))), σ.2) else none
  | _ => none
def sB (σ : xH) (a : Nat) (i x : Int32) (K : xH → Option ρ) : Option ρ := match σ.1 a with
  | some (.inl (k, n, .inl f)) => bif Nat.beq k 1 && xin i n then K (xup σ.1 a (.inl (k, n, .inl (upd f i.toNatClampNeg (vp_nar .byte x)))), σ.2) else none
  | _ => none
def sL (σ : xH) (a : Nat) (i : Int32) (x : Int64) (K : xH → Option ρ) : Option ρ := match σ.1 a with
  | some (.inl (k, n, .inr (.inl f))) => bif Nat.beq k 2 && xin i n then K (xup σ.1 a (.inl (k, n, .inr (.inl (vp_updL f i.toNatClampNeg x)))), σ.2) else none
  | _ => none
def sD (σ : xH) (a : Nat) (i : Int32) (x : UInt64) (K : xH → Option ρ) : Option ρ := match σ.1 a with
  | some (.inl (k, n, .inr (.inr (.inr (.inl f))))) => bif Nat.beq k 3 && xin i n then K (xup σ.1 a (.inl (k, n, .inr (.inr (.inr (.inl (vf_upd f i.toNatClampNeg x)))))), σ.2) else none
  | _ => none
/-- what may lie in a row of references: a Token in kind 4, a Game (class 2) in kind 5 -/
def xfits (E : xEn) (σ : xH) (k b : Nat) : Bool := bif Nat.beq k 4 then (xfind E.1 b 29).isSome else bif Nat.beq k 5 then (match σ.1 b with
  | some (.inr (c, _)) => Nat.beq c 2
  | _ => false) else bif Nat.beq k 6 then (match σ.1 b with
  | some (.inr (c, _)) => Nat.beq c 9
  | _ => false) else false
def sQ (E : xEn) (σ : xH) (a : Nat) (i : Int32) (b : Nat) (K : xH → Option ρ) : Option ρ := match σ.1 a with
  | some (.inl (k, n, .inr (.inr (.inr (.inr f))))) => bif xin i n && xfits E σ k b then K (xup σ.1 a (.inl (k, n, .inr (.inr (.inr (.inr (va_up f i.toNatClampNeg (some b))))))), σ.2) else none
  | _ => none
-- System.arraycopy of ints and of bytes; a literal's bytes may be the source
def xcpr (i j n : Int32) (m m' : Nat) : Bool := decide (0 ≤ i.toInt ∧ 0 ≤ j.toInt ∧ 0 ≤ n.toInt ∧ i.toInt + n.toInt ≤ m ∧ j.toInt + n.toInt ≤ m')
/-- what is copied between rows of bytes is bytes -/
def xbf (f : Nat → Int32) (m : Nat) : Bool := decide (∀ j, j < m → fits .byte (.int (f j)) = true)
def cpI (E : xEn) (σ : xH) (a : Nat) (i : Int32) (b : Nat) (j n : Int32) (K : xH → Option ρ) : Option ρ := match σ.1 b with
  | some (.inl (k', m', .inl g)) => match σ.1 a with
    | some (.inl (k, m, .inl f)) => bif Nat.beq k k' && (Nat.ble k 1 && (!(Nat.beq a b) && (xcpr i j n m m' && (Nat.beq k 0 || xbf f m)))) then K (xup σ.1 b (.inl (k', m', .inl (va_cpy f g i.toNatClampNeg j.toNatClampNeg n.toNatClampNeg))), σ.2) else none
    | none => match xfind E.2.2.1 a xNS with
      | some s => bif Nat.beq k' 1 && (xcpr i j n (xtx s).length m' && xbf (fun q => (xtx s).getD q 0) (xtx s).length) then K (xup σ.1 b (.inl (k', m', .inl (va_cpy (fun q => (xtx s).getD q 0) g i.toNatClampNeg j.toNatClampNeg n.toNatClampNeg))), σ.2) else none
      | none => none
    | _ => none
  | _ => none
/-- a cell of a class -/
def xck (σ : xH) (ci a : Nat) (K : Option ρ) : Option ρ := match σ.1 a with
  | some (.inr (c, _)) => bif Nat.beq c ci then K else none
  | _ => none
-- a callee's answer
def cI (T : xR → Option ρ) (r : Option xR) (K : Int32 → xH → Option ρ) : Option ρ := match r with
  | some (.inl (some (.int x)), σ) => K x σ
  | some (.inr E, σ) => T (.inr E, σ)
  | _ => none
def cL (T : xR → Option ρ) (r : Option xR) (K : Int64 → xH → Option ρ) : Option ρ := match r with
  | some (.inl (some (.long x)), σ) => K x σ
  | some (.inr E, σ) => T (.inr E, σ)
  | _ => none
def cF (T : xR → Option ρ) (r : Option xR) (K : UInt32 → xH → Option ρ) : Option ρ := match r with
  | some (.inl (some (.float x)), σ) => K x σ
  | some (.inr E, σ) => T (.inr E, σ)
  | _ => none
def cD (T : xR → Option ρ) (r : Option xR) (K : UInt64 → xH → Option ρ) : Option ρ := match r with
  | some (.inl (some (.double x)), σ) => K x σ
  | some (.inr E, σ) => T (.inr E, σ)
  | _ => none
def cA (T : xR → Option ρ) (r : Option xR) (K : Nat → xH → Option ρ) : Option ρ := match r with
  | some (.inl (some (.ref x)), σ) => K x σ
  | some (.inr E, σ) => T (.inr E, σ)
  | _ => none
def cV (T : xR → Option ρ) (r : Option xR) (K : xH → Option ρ) : Option ρ := match r with
  | some (.inl none, σ) => K σ
  | some (.inr E, σ) => T (.inr E, σ)
  | _ => none
def xsw (x : Int32) (dflt : Nat) (K : Nat → Option ρ) : Nat → List Nat → Option ρ
  | _, [] => K dflt
  | lo, t :: ts => if x = nI lo then K t else xsw x dflt K (lo + 1) ts
def xcc (c : ClassFile.Cond) (x y : Int32) (t f : Option ρ) : Option ρ := match c with
  | .eq => if x = y then t else f
  | .ne => if x = y then f else t
  | .lt => if x < y then t else f
  | .ge => if y ≤ x then t else f
  | .gt => if y < x then t else f
  | .le => if x ≤ y then t else f
end SEM
end
section
/-! ONE INSTRUCTION. 'info' is what the constant pool says of it (checked against the pool elsewhere):
branches [target]; getfield, putfield [class, field, 0 int 1 long 2 ref 5 boolean, 0 own 1 nest mate 2 final in a constructor]; text of a Token [77]; getstatic [token, or 29 for ALL];
calls [0, prim] or [kind, key, how many arguments, answer, cells, slots, class + 1 or 0 (static)]; new [0, class, fields] or [1, exception]; newarray, anewarray [kind]; ldc [0, c], [1, minus c], [2, string]; returns [0] or [5] (boolean). -/
def xexc : Nat → String
  | 0 => "java/lang/IllegalArgumentException"
  | 1 => "java/lang/IndexOutOfBoundsException"
  | 2 => "java/lang/IllegalStateException"
  | _ => "java/util/NoSuchElementException"
def xcat (st : List Value) : Nat := (st.map fun v => v.category).sum
/-- the fields of a new object: by the types of its fields -/
def xdv : FieldType → Value
  | .long => .long 0
  | .float => .float 0
  | .double => .double 0
  | .object _ => .null
  | .array _ => .null
  | _ => .int 0
def xtyp (ci : Nat) : Nat → FieldType := match ci with
  | 0 => tyX0
  | 1 => tyX1
  | 2 => tyX2
  | 3 => tyX3
  | 4 => tyX4
  | 5 => tyX5
  | 6 => tyX6
  | 7 => tyX9
  | 8 => tyX10
  | 9 => tyX11
  | 10 => tyX12
  | 11 => tyJ0
  | 12 => tyJ4
  | _ => tyJx4a65c
def xdef (ci n : Nat) : List Value := (List.range n).map fun k => xdv (xtyp ci k)
def xarr (k : Nat) : (Nat → Int32) ⊕ (Nat → Int64) ⊕ (Nat → UInt32) ⊕ (Nat → UInt64) ⊕ (Nat → Option Nat) := match k with
  | 2 => .inr (.inl fun _ => 0)
  | 3 => .inr (.inr (.inr (.inl fun _ => 0)))
  | _ => .inl fun _ => 0
section STEP
variable {ρ : Type}
def xfld (σ : xH) (info : List Nat) (a : Nat) (k : Value → Option ρ) : Option ρ := match info with
  | [ci, i, 0, _] => gI σ ci i a (fun x => k (.int x))
  | [ci, i, 5, _] => gI σ ci i a (fun x => k (.int x))
  | [ci, i, 6, _] => gI σ ci i a (fun x => k (.int x))
  | [ci, i, 1, _] => gL σ ci i a (fun x => k (.long x))
  | [ci, i, 2, _] => gR σ ci i a (fun x => k (.ref x))
  | _ => none
def xput (σ : xH) (info : List Nat) (a : Nat) (v : Value) (k : xH → Option ρ) : Option ρ := match info, v with
  | [ci, i, 0, _], .int x => gP σ ci i a (.int x) k
  | [ci, i, 5, _], .int x => if narrow .boolean (.int x) = .int x then gP σ ci i a (.int x) k else none
  | [ci, i, 6, _], .int x => if narrow .byte (.int x) = .int x then gP σ ci i a (.int x) k else none
  | [ci, i, 1, _], .long x => gP σ ci i a (.long x) k
  | [ci, i, 2, _], .ref x => gP σ ci i a (.ref x) k
  | _, _ => none
def xans (T : xR → Option ρ) (tag : Nat) (r : Option xR) (k : List Value → xH → Option ρ) : Option ρ := match tag with
  | 0 => cI T r (fun x σ => k [.int x] σ)
  | 1 => cL T r (fun x σ => k [.long x] σ)
  | 2 => cA T r (fun x σ => k [.ref x] σ)
  | 3 => cF T r (fun x σ => k [.float x] σ)
  | 4 => cD T r (fun x σ => k [.double x] σ)
  | 9 => cV T r (fun σ => k [] σ)
  | _ => none
/-- of the calls only kind 5 may come back by a throw -/
def xthr (k : Nat) (T : xR → Option ρ) (r : xR) : Option ρ := bif Nat.beq k 5 then T r else none
/-- a call of a method of the table: the stack is cut, the receiver's class looked at, the room booked; kinds: 0 static, 1 virtual, 2 constructor, 3 virtual of a nest mate, 4 constructor of a nest mate, 5 virtual that may throw -/
def xcall (E : xEn) (call : Nat → List Value → xH → Option xR) (MC MS : Nat) (T : xR → Option ρ) (info : List Nat) (st : List Value) (σ : xH) (bc bs : Nat) (nx : List Value → xH → Nat → Nat → Option ρ) : Option ρ := match info with
  | [kd, key, n, tag, mc, ms, ci] => bif Nat.ble n st.length && (Nat.ble (xcat (st.drop n)) 8 && (Nat.ble (bc + mc) MC && Nat.ble (bs + ms) MS)) then
      match ci with
      | 0 => xans (xthr kd T) tag (call key (st.take n).reverse σ) (fun v σ' => nx (v ++ st.drop n) σ' (bc + mc) (bs + ms))
      | c + 1 => match (st.take n).reverse with
        | .ref b :: As => gO E σ c b (xans (xthr kd T) tag (call key (.ref b :: As) σ) (fun v σ' => nx (v ++ st.drop n) σ' (bc + mc) (bs + ms)))
        | _ => none
    else none
  | _ => none
def xprim (E : xEn) (prim : Nat) (st : List Value) (σ : xH) (nx : List Value → xH → Option ρ) : Option ρ := match prim, st with
  | 0, .int y :: .int x :: st => nx (.int (if x < y then y else x) :: st) σ
  | 1, .int y :: .int x :: st => nx (.int (if y < x then y else x) :: st) σ
  | 2, .long y :: .long x :: st => nx (.long (if y < x then x else y) :: st) σ
  | 3, .long y :: .long x :: st => nx (.long (if y < x then y else x) :: st) σ
  | 6, .int n :: .int j :: .ref b :: .int i :: .ref a :: st => cpI E σ a i b j n (fun σ' => nx st σ')
  | _, _ => none
-- combinators: what lies on the stack, in a place of the locals, in 'info'
def kkI (o : Option Value) (k : Int32 → Option ρ) : Option ρ := match o with
  | some (.int x) => k x
  | _ => none
def t1I (st : List Value) (k : Int32 → List Value → Option ρ) : Option ρ := match st with
  | .int x :: st => k x st
  | _ => none
def t2I (st : List Value) (k : Int32 → Int32 → List Value → Option ρ) : Option ρ := match st with
  | .int y :: .int x :: st => k x y st
  | _ => none
def kkL (o : Option Value) (k : Int64 → Option ρ) : Option ρ := match o with
  | some (.long x) => k x
  | _ => none
def t1L (st : List Value) (k : Int64 → List Value → Option ρ) : Option ρ := match st with
  | .long x :: st => k x st
  | _ => none
def t2L (st : List Value) (k : Int64 → Int64 → List Value → Option ρ) : Option ρ := match st with
  | .long y :: .long x :: st => k x y st
  | _ => none
def kkF (o : Option Value) (k : UInt32 → Option ρ) : Option ρ := match o with
  | some (.float x) => k x
  | _ => none
def t1F (st : List Value) (k : UInt32 → List Value → Option ρ) : Option ρ := match st with
  | .float x :: st => k x st
  | _ => none
def t2F (st : List Value) (k : UInt32 → UInt32 → List Value → Option ρ) : Option ρ := match st with
  | .float y :: .float x :: st => k x y st
  | _ => none
def kkD (o : Option Value) (k : UInt64 → Option ρ) : Option ρ := match o with
  | some (.double x) => k x
  | _ => none
def t1D (st : List Value) (k : UInt64 → List Value → Option ρ) : Option ρ := match st with
  | .double x :: st => k x st
  | _ => none
def t2D (st : List Value) (k : UInt64 → UInt64 → List Value → Option ρ) : Option ρ := match st with
  | .double y :: .double x :: st => k x y st
  | _ => none
def kkA (o : Option Value) (k : Nat → Option ρ) : Option ρ := match o with
  | some (.ref x) => k x
  | _ => none
def t1A (st : List Value) (k : Nat → List Value → Option ρ) : Option ρ := match st with
  | .ref x :: st => k x st
  | _ => none
def t2A (st : List Value) (k : Nat → Nat → List Value → Option ρ) : Option ρ := match st with
  | .ref y :: .ref x :: st => k x y st
  | _ => none
def t3I (st : List Value) (k : Int32 → Int32 → Nat → List Value → Option ρ) : Option ρ := match st with
  | .int x :: .int i :: .ref a :: st => k x i a st
  | _ => none
def t3L (st : List Value) (k : Int64 → Int32 → Nat → List Value → Option ρ) : Option ρ := match st with
  | .long x :: .int i :: .ref a :: st => k x i a st
  | _ => none
def t3D (st : List Value) (k : UInt64 → Int32 → Nat → List Value → Option ρ) : Option ρ := match st with
  | .double x :: .int i :: .ref a :: st => k x i a st
  | _ => none
def t3A (st : List Value) (k : Nat → Int32 → Nat → List Value → Option ρ) : Option ρ := match st with
  | .ref x :: .int i :: .ref a :: st => k x i a st
  | _ => none
def t2X (st : List Value) (k : Int32 → Nat → List Value → Option ρ) : Option ρ := match st with
  | .int i :: .ref a :: st => k i a st
  | _ => none
def tV (st : List Value) (k : Value → List Value → Option ρ) : Option ρ := match st with
  | v :: st => bif Nat.beq v.category 1 then k v st else none
  | _ => none
def tVA (st : List Value) (k : Value → Nat → List Value → Option ρ) : Option ρ := match st with
  | v :: .ref a :: st => k v a st
  | _ => none
def t0 (st : List Value) (k : Option ρ) : Option ρ := match st with
  | [] => k
  | _ => none
def i1 (info : List Nat) (k : Nat → Option ρ) : Option ρ := match info with
  | [t] => k t
  | _ => none
def iSw (info : List Nat) (k : Nat → Nat → List Nat → Option ρ) : Option ρ := match info with
  | d :: lo :: ts => k d lo ts
  | _ => none
def nz (b : Bool) (k : Option ρ) : Option ρ := bif b then k else none
def iK (E : xEn) (info : List Nat) (k : Value → Option ρ) : Option ρ := match info with
  | [0, c] => k (.int (nI c))
  | [1, c] => k (.int (- nI c))
  | [2, i] => bif Nat.blt i xNS then k (.ref (E.2.1 i)) else none
  | _ => none
def iK2 (info : List Nat) (k : Int64 → Option ρ) : Option ρ := match info with
  | [0, c] => k (lN c)
  | [1, c] => k (- lN c)
  | _ => none
def iD (info : List Nat) (k : UInt64 → Option ρ) : Option ρ := match info with
  | [0] => k FP.dconst0
  | _ => none
def iF (info : List Nat) (k : UInt32 → Option ρ) : Option ρ := match info with
  | [0] => k FP.fconst0
  | [1] => k FP.fconst1
  | _ => none
/-- a String's bytes, its coder: a literal's, or a String's of the world -/
def gU (E : xEn) (σ : xH) (a : Nat) (K : Nat → Option ρ) : Option ρ := match σ.1 a with
  | none => match xfind E.2.1 a xNS with
    | some i => K (E.2.2.1 i)
    | none => none
  | _ => gR σ 11 0 a K
def gC (E : xEn) (σ : xH) (a : Nat) (K : Int32 → Option ρ) : Option ρ := match σ.1 a with
  | none => match xfind E.2.1 a xNS with
    | some _ => K (nI 0)
    | none => none
  | _ => gI σ 11 1 a K
def xgf (E : xEn) (σ : xH) (info : List Nat) (a : Nat) (k : Value → Option ρ) : Option ρ := match info with
  | [77] => match xfind E.1 a 29 with
    | some i => k (.ref (E.2.1 (xtt i)))
    | none => none
  | [78] => gU E σ a (fun q => k (.ref q))
  | [79] => gC E σ a (fun x => k (.int x))
  | info => xfld σ info a k
def xgs (E : xEn) (info : List Nat) (k : Value → Option ρ) : Option ρ := match info with
  | [0, i] => bif Nat.blt i 29 then k (.ref (E.1 i)) else none
  | [1] => k (.ref E.2.2.2.1)
  | [2] => k (.int 1)
  | [3] => k (eFm E)
  | [4] => k (.ref (eD1 E))
  | [5] => k (.ref (eD2 E))
  | [6] => k (.ref (eDc E))
  | _ => none
def xnew (MC MS : Nat) (fin : xR → Option ρ) (info : List Nat) (st : List Value) (σ : xH) (bc bs : Nat) (nx : List Value → xH → Nat → Nat → Option ρ) : Option ρ := match info with
  | [0, ci, n] => bif Nat.ble (bc + 1) MC && Nat.ble (bs + n) MS then nx (.ref σ.2 :: st) (xup σ.1 σ.2 (.inr (ci, xdef ci n)), σ.2 + 1) (bc + 1) (bs + n) else none
  | [1, e, _, _] => bif Nat.ble (bc + 1) MC && (Nat.ble (bs + 6) MS && Nat.ble (xcat st) 8) then fin (.inr (xexc e), σ) else none
  | _ => none
def xnewa (MC MS : Nat) (x : Nat → (Nat → Int32) ⊕ (Nat → Int64) ⊕ (Nat → UInt32) ⊕ (Nat → UInt64) ⊕ (Nat → Option Nat)) (info : List Nat) (st : List Value) (σ : xH) (bc bs : Nat) (nx : List Value → xH → Nat → Nat → Option ρ) : Option ρ := t1I st (fun n st => i1 info (fun k => bif decide (¬ n < 0) && (Nat.ble (bc + 1) MC && (Nat.ble (bs + n.toNatClampNeg) MS && Nat.ble n.toNatClampNeg 100000)) then nx (.ref σ.2 :: st) (xup σ.1 σ.2 (.inl (k, n.toNatClampNeg, x k)), σ.2 + 1) (bc + 1) (bs + n.toNatClampNeg) else none))
def xinv (E : xEn) (call : Nat → List Value → xH → Option xR) (MC MS : Nat) (fin : xR → Option ρ) (info : List Nat) (st : List Value) (σ : xH) (bc bs : Nat) (pr : Nat → Option ρ) (nx : List Value → xH → Nat → Nat → Option ρ) : Option ρ := match info with
  | [_, p] => pr p
  | info => xcall E call MC MS fin info st σ bc bs nx
def xinit (E : xEn) (call : Nat → List Value → xH → Option xR) (MC MS : Nat) (fin : xR → Option ρ) (info : List Nat) (st : List Value) (σ : xH) (bc bs : Nat) (nx : List Value → xH → Nat → Nat → Option ρ) : Option ρ := match info with
  | [_] => t1A st (fun _ st => bif Nat.ble (xcat st) 8 then nx st σ bc bs else none)
  | info => xcall E call MC MS fin info st σ bc bs nx
def xty (t : Nat) : FieldType := match t with
  | 5 => .boolean
  | 6 => .byte
  | 7 => .char
  | _ => .int
def xiret (info : List Nat) (x : Int32) (k : Option ρ) : Option ρ := match info with
  | [0] => k
  | [t] => bif decide (narrow (xty t) (.int x) = .int x) then k else none
  | _ => none
def xac (c : ACond) (b : Bool) (t f : Option ρ) : Option ρ := match c with
  | .eq => bif b then t else f
  | .ne => bif b then f else t
def xstep (E : xEn) (call : Nat → List Value → xH → Option xR) (MC MS : Nat) (fin : xR → Option ρ) (K : Nat → xL → List Value → xH → Nat → Nat → Option ρ) (nx : xL → List Value → xH → Nat → Nat → Option ρ) (ins : Instr) (info : List Nat) (L : xL) (st : List Value) (σ : xH) (bc bs : Nat) : Option ρ := match ins with
  | .iconst i => nx L (.int (Int32.ofInt i) :: st) σ bc bs
  | .bipush i => nx L (.int (Int8.ofInt i).toInt32 :: st) σ bc bs
  | .sipush i => nx L (.int (Int16.ofInt i).toInt32 :: st) σ bc bs
  | .lconst i => nx L (.long (Int64.ofNat (i : Nat)) :: st) σ bc bs
  | .dconst i => iD info (fun v => nx L (.double v :: st) σ bc bs)
  | .fconst i => iF info (fun v => nx L (.float v :: st) σ bc bs)
  | .ldc i => iK E info (fun v => nx L (v :: st) σ bc bs)
  | .ldc_w i => iK E info (fun v => nx L (v :: st) σ bc bs)
  | .ldc2_w i => iK2 info (fun v => nx L (.long v :: st) σ bc bs)
  | .iload i => kkI (xget L i) (fun x => nx L (.int x :: st) σ bc bs)
  | .iload_n i => kkI (xget L i) (fun x => nx L (.int x :: st) σ bc bs)
  | .lload i => kkL (xget L i) (fun x => nx L (.long x :: st) σ bc bs)
  | .lload_n i => kkL (xget L i) (fun x => nx L (.long x :: st) σ bc bs)
  | .dload i => kkD (xget L i) (fun x => nx L (.double x :: st) σ bc bs)
  | .aload i => kkA (xget L i) (fun x => nx L (.ref x :: st) σ bc bs)
  | .aload_n i => kkA (xget L i) (fun x => nx L (.ref x :: st) σ bc bs)
  | .istore i => t1I st (fun x st => nx (xset1 L i (.int x)) st σ bc bs)
  | .istore_n i => t1I st (fun x st => nx (xset1 L i (.int x)) st σ bc bs)
  | .lstore i => t1L st (fun x st => nx (xset2 L i (.long x)) st σ bc bs)
  | .lstore_n i => t1L st (fun x st => nx (xset2 L i (.long x)) st σ bc bs)
  | .dstore i => t1D st (fun x st => nx (xset2 L i (.double x)) st σ bc bs)
  | .astore i => t1A st (fun x st => nx (xset1 L i (.ref x)) st σ bc bs)
  | .astore_n i => t1A st (fun x st => nx (xset1 L i (.ref x)) st σ bc bs)
  | .iinc i c => kkI (xget L i) (fun x => nx (xset1 L i (.int (x + Int32.ofInt c))) st σ bc bs)
  | .iadd => t2I st (fun x y st => nx L (.int (x + y) :: st) σ bc bs)
  | .isub => t2I st (fun x y st => nx L (.int (x - y) :: st) σ bc bs)
  | .imul => t2I st (fun x y st => nx L (.int (x * y) :: st) σ bc bs)
  | .iand => t2I st (fun x y st => nx L (.int (x &&& y) :: st) σ bc bs)
  | .ior => t2I st (fun x y st => nx L (.int (x ||| y) :: st) σ bc bs)
  | .ixor => t2I st (fun x y st => nx L (.int (x ^^^ y) :: st) σ bc bs)
  | .aconst_null => nx L (.null :: st) σ bc bs
  | .ifnonnull o => t1A st (fun a st => i1 info (fun t => K t L st σ bc bs))
  | .ineg => t1I st (fun x st => nx L (.int (-x) :: st) σ bc bs)
  | .dup_x1 => tV st (fun v st => tV st (fun u st => nx L (v :: u :: v :: st) σ bc bs))
  | .checkcast i => t1A st (fun a st => i1 info (fun ci => xck σ ci a (nx L (.ref a :: st) σ bc bs)))
  | .ishl => t2I st (fun x y st => nx L (.int (x <<< (y &&& 31)) :: st) σ bc bs)
  | .ishr => t2I st (fun x y st => nx L (.int (x >>> (y &&& 31)) :: st) σ bc bs)
  | .idiv => t2I st (fun x y st => nz (decide (¬ y = 0)) (nx L (.int (x / y) :: st) σ bc bs))
  | .irem => t2I st (fun x y st => nz (decide (¬ y = 0)) (nx L (.int (x - x / y * y) :: st) σ bc bs))
  | .ladd => t2L st (fun x y st => nx L (.long (x + y) :: st) σ bc bs)
  | .lsub => t2L st (fun x y st => nx L (.long (x - y) :: st) σ bc bs)
  | .lmul => t2L st (fun x y st => nx L (.long (x * y) :: st) σ bc bs)
  | .ldiv => t2L st (fun x y st => nz (decide (¬ y = 0)) (nx L (.long (x / y) :: st) σ bc bs))
  | .lrem => t2L st (fun x y st => nz (decide (¬ y = 0)) (nx L (.long (x - x / y * y) :: st) σ bc bs))
  | .lcmp => t2L st (fun x y st => nx L (.int (lg_cmp x y) :: st) σ bc bs)
  | .i2l => t1I st (fun x st => nx L (.long x.toInt64 :: st) σ bc bs)
  | .l2i => t1L st (fun x st => nx L (.int x.toInt32 :: st) σ bc bs)
  | .i2b => t1I st (fun x st => nx L (.int x.toInt8.toInt32 :: st) σ bc bs)
  | .i2c => t1I st (fun x st => nx L (.int (x.toUInt32 % 65536).toInt32 :: st) σ bc bs)
  | .i2d => t1I st (fun x st => nx L (.double (FP.i2d x) :: st) σ bc bs)
  | .l2d => t1L st (fun x st => nx L (.double (FP.l2d x) :: st) σ bc bs)
  | .i2f => t1I st (fun x st => nx L (.float (FP.i2f x) :: st) σ bc bs)
  | .l2f => t1L st (fun x st => nx L (.float (FP.l2f x) :: st) σ bc bs)
  | .f2d => t1F st (fun x st => nz (decide (FP.f2d x &&& 0x7fffffffffffffff ≤ 0x7ff0000000000000)) (nx L (.double (FP.f2d x) :: st) σ bc bs))
  | .fdiv => t2F st (fun x y st => nz (decide (FP.fdiv x y &&& 0x7fffffff ≤ 0x7f800000)) (nx L (.float (FP.fdiv x y) :: st) σ bc bs))
  | .fsub => t2F st (fun x y st => nz (decide (FP.fsub x y &&& 0x7fffffff ≤ 0x7f800000)) (nx L (.float (FP.fsub x y) :: st) σ bc bs))
  | .ddiv => t2D st (fun x y st => nz (decide (FP.ddiv x y &&& 0x7fffffffffffffff ≤ 0x7ff0000000000000)) (nx L (.double (FP.ddiv x y) :: st) σ bc bs))
  | .dcmp o => t2D st (fun x y st => nx L (.int (Op.cmpValue (FP.dcmp x y) o) :: st) σ bc bs)
  | .dup => tV st (fun v st => nx L (v :: v :: st) σ bc bs)
  | .dup2 => tV st (fun v st => tV st (fun u st => nx L (v :: u :: v :: u :: st) σ bc bs))
  | .pop => tV st (fun _ st => nx L st σ bc bs)
  | .ifCond c o => t1I st (fun x st => i1 info (fun t => xcc c x 0 (K t L st σ bc bs) (nx L st σ bc bs)))
  | .if_icmp c o => t2I st (fun x y st => i1 info (fun t => xcc c x y (K t L st σ bc bs) (nx L st σ bc bs)))
  | .if_acmp c o => t2A st (fun x y st => i1 info (fun t => xac c (Nat.beq x y) (K t L st σ bc bs) (nx L st σ bc bs)))
  | .goto o => i1 info (fun t => K t L st σ bc bs)
  | .tableswitch a b c d => t1I st (fun x st => iSw info (fun d lo ts => xsw x d (fun t => K t L st σ bc bs) lo ts))
  | .getfield i => t1A st (fun a st => xgf E σ info a (fun v => nx L (v :: st) σ bc bs))
  | .putfield i => tVA st (fun v a st => xput σ info a v (fun σ => nx L st σ bc bs))
  | .getstatic i => xgs E info (fun v => nx L (v :: st) σ bc bs)
  | .iaload => t2X st (fun i a st => aI E σ a i (fun x => nx L (.int x :: st) σ bc bs))
  | .baload => t2X st (fun i a st => aB E σ a i (fun x => nx L (.int x :: st) σ bc bs))
  | .laload => t2X st (fun i a st => aL σ a i (fun x => nx L (.long x :: st) σ bc bs))
  | .daload => t2X st (fun i a st => aD σ a i (fun x => nx L (.double x :: st) σ bc bs))
  | .aaload => t2X st (fun i a st => aQ E σ a i (fun x => nx L (.ref x :: st) σ bc bs))
  | .arraylength => t1A st (fun a st => aN E σ a (fun x => nx L (.int x :: st) σ bc bs))
  | .iastore => t3I st (fun x i a st => sI σ a i x (fun σ => nx L st σ bc bs))
  | .bastore => t3I st (fun x i a st => sB σ a i x (fun σ => nx L st σ bc bs))
  | .lastore => t3L st (fun x i a st => sL σ a i x (fun σ => nx L st σ bc bs))
  | .dastore => t3D st (fun x i a st => sD σ a i x (fun σ => nx L st σ bc bs))
  | .aastore => t3A st (fun x i a st => sQ E σ a i x (fun σ => nx L st σ bc bs))
  | .new i => xnew MC MS fin info st σ bc bs (fun st σ bc bs => nx L st σ bc bs)
  | .newarray i => xnewa MC MS xarr info st σ bc bs (fun st σ bc bs => nx L st σ bc bs)
  | .anewarray i => xnewa MC MS (fun _ => .inr (.inr (.inr (.inr fun _ => none)))) info st σ bc bs (fun st σ bc bs => nx L st σ bc bs)
  | .invokespecial i => xinit E call MC MS fin info st σ bc bs (fun st σ bc bs => nx L st σ bc bs)
  | .invokevirtual i => xinv E call MC MS fin info st σ bc bs (fun p => nz (Nat.ble (xcat st) 16) (xprim E p st σ (fun st σ => nx L st σ bc bs))) (fun st σ bc bs => nx L st σ bc bs)
  | .invokestatic i => xinv E call MC MS fin info st σ bc bs (fun p => nz (Nat.ble (xcat st) 16) (xprim E p st σ (fun st σ => nx L st σ bc bs))) (fun st σ bc bs => nx L st σ bc bs)
  | .ireturn => t1I st (fun x st => t0 st (xiret info x (fin (.inl (some (.int x)), σ))))
  | .lreturn => t1L st (fun x st => t0 st (fin (.inl (some (.long x)), σ)))
  | .freturn => t1F st (fun x st => t0 st (fin (.inl (some (.float x)), σ)))
  | .dreturn => t1D st (fun x st => t0 st (fin (.inl (some (.double x)), σ)))
  | .areturn => t1A st (fun x st => t0 st (fin (.inl (some (.ref x)), σ)))
  | .return_ => t0 st (fin (.inl none, σ))
  | _ => none
end STEP
end
section
/-! A step with its ways out as continuations is the step with its ways out as data, bound. -/
section PAR
variable {ρ ρ' : Type} {G : ρ' → Option ρ}
theorem xb_gV {σ : xH} {ci k a : Nat} {K : Value → Option ρ} {K' : Value → Option ρ'} (h : ∀ v, K v = (K' v).bind G) : gV σ ci k a K = (gV σ ci k a K').bind G := by
  unfold gV
  split
  · cases Nat.beq _ _
    · rfl
    · dsimp only [cond]
      split
      · exact h _
      · rfl
  · rfl
theorem xb_gI {σ : xH} {ci k a : Nat} {K : Int32 → Option ρ} {K' : Int32 → Option ρ'} (h : ∀ v, K v = (K' v).bind G) : gI σ ci k a K = (gI σ ci k a K').bind G := by
  refine xb_gV (fun v => ?_)
  cases v <;> first | exact h _ | rfl
theorem xb_gL {σ : xH} {ci k a : Nat} {K : Int64 → Option ρ} {K' : Int64 → Option ρ'} (h : ∀ v, K v = (K' v).bind G) : gL σ ci k a K = (gL σ ci k a K').bind G := by
  refine xb_gV (fun v => ?_)
  cases v <;> first | exact h _ | rfl
theorem xb_gR {σ : xH} {ci k a : Nat} {K : Nat → Option ρ} {K' : Nat → Option ρ'} (h : ∀ v, K v = (K' v).bind G) : gR σ ci k a K = (gR σ ci k a K').bind G := by
  refine xb_gV (fun v => ?_)
  cases v <;> first | exact h _ | rfl
theorem xb_if {b : Bool} {x : Option ρ} {y : Option ρ'} (h : x = y.bind G) : (bif b then x else none) = (bif b then y else none).bind G := by
  cases b
  · rfl
  · exact h
theorem xb_gP {σ : xH} {ci k a : Nat} {v : Value} {K : xH → Option ρ} {K' : xH → Option ρ'} (h : ∀ v, K v = (K' v).bind G) : gP σ ci k a v K = (gP σ ci k a v K').bind G := by
  unfold gP
  split
  · exact xb_if (h _)
  · rfl
theorem xb_gO {E : xEn} {σ : xH} {ci a : Nat} {K : Option ρ} {K' : Option ρ'} (h : K = K'.bind G) : gO E σ ci a K = (gO E σ ci a K').bind G := by
  unfold gO
  split
  · exact xb_if h
  · exact xb_if h
  · rfl
theorem xb_aI {E : xEn} {σ : xH} {a : Nat} {i : Int32} {K : Int32 → Option ρ} {K' : Int32 → Option ρ'} (h : ∀ v, K v = (K' v).bind G) : aI E σ a i K = (aI E σ a i K').bind G := by
  unfold aI
  split
  · exact xb_if (h _)
  · exact xb_if (h _)
  · rfl
theorem xb_aL {σ : xH} {a : Nat} {i : Int32} {K : Int64 → Option ρ} {K' : Int64 → Option ρ'} (h : ∀ v, K v = (K' v).bind G) : aL σ a i K = (aL σ a i K').bind G := by
  unfold aL
  split
  · exact xb_if (h _)
  · rfl
theorem xb_aD {σ : xH} {a : Nat} {i : Int32} {K : UInt64 → Option ρ} {K' : UInt64 → Option ρ'} (h : ∀ v, K v = (K' v).bind G) : aD σ a i K = (aD σ a i K').bind G := by
  unfold aD
  split
  · exact xb_if (h _)
  · rfl
theorem xb_aB {E : xEn} {σ : xH} {a : Nat} {i : Int32} {K : Int32 → Option ρ} {K' : Int32 → Option ρ'} (h : ∀ v, K v = (K' v).bind G) : aB E σ a i K = (aB E σ a i K').bind G := by
  unfold aB
  split
  · exact xb_if (h _)
  · split
    · exact xb_if (h _)
    · cases Nat.beq a (eD1 E) && xin i 100
      · exact xb_if (h _)
      · exact h _
  · rfl
theorem xb_aQ {E : xEn} {σ : xH} {a : Nat} {i : Int32} {K : Nat → Option ρ} {K' : Nat → Option ρ'} (h : ∀ v, K v = (K' v).bind G) : aQ E σ a i K = (aQ E σ a i K').bind G := by
  unfold aQ
  split
  · refine xb_if ?_
    split
    · exact h _
    · rfl
  · exact xb_if (h _)
  · rfl
theorem xb_aN {E : xEn} {σ : xH} {a : Nat} {K : Int32 → Option ρ} {K' : Int32 → Option ρ'} (h : ∀ v, K v = (K' v).bind G) : aN E σ a K = (aN E σ a K').bind G := by
  unfold aN
  split
  · exact xb_if (h _)
  · cases Nat.beq a E.2.2.2.1
    · dsimp only [cond]
      split
      · exact h _
      · cases Nat.beq a (eDc E)
        · exact xb_if (h _)
        · exact h _
    · exact h _
  · rfl
theorem xb_sI {σ : xH} {a : Nat} {i x : Int32} {K : xH → Option ρ} {K' : xH → Option ρ'} (h : ∀ v, K v = (K' v).bind G) : sI σ a i x K = (sI σ a i x K').bind G := by
  unfold sI
  split
  · exact xb_if (h _)
  · rfl
theorem xb_sB {σ : xH} {a : Nat} {i x : Int32} {K : xH → Option ρ} {K' : xH → Option ρ'} (h : ∀ v, K v = (K' v).bind G) : sB σ a i x K = (sB σ a i x K').bind G := by
  unfold sB
  split
  · exact xb_if (h _)
  · rfl
theorem xb_sL {σ : xH} {a : Nat} {i : Int32} {x : Int64} {K : xH → Option ρ} {K' : xH → Option ρ'} (h : ∀ v, K v = (K' v).bind G) : sL σ a i x K = (sL σ a i x K').bind G := by
  unfold sL
  split
  · exact xb_if (h _)
  · rfl
theorem xb_sD {σ : xH} {a : Nat} {i : Int32} {x : UInt64} {K : xH → Option ρ} {K' : xH → Option ρ'} (h : ∀ v, K v = (K' v).bind G) : sD σ a i x K = (sD σ a i x K').bind G := by
  unfold sD
  split
  · exact xb_if (h _)
  · rfl
theorem xb_sQ {E : xEn} {σ : xH} {a : Nat} {i : Int32} {b : Nat} {K : xH → Option ρ} {K' : xH → Option ρ'} (h : ∀ v, K v = (K' v).bind G) : sQ E σ a i b K = (sQ E σ a i b K').bind G := by
  unfold sQ
  split
  · exact xb_if (h _)
  · rfl
theorem xb_cpI {E : xEn} {σ : xH} {a b : Nat} {i j n : Int32} {K : xH → Option ρ} {K' : xH → Option ρ'} (h : ∀ v, K v = (K' v).bind G) : cpI E σ a i b j n K = (cpI E σ a i b j n K').bind G := by
  unfold cpI
  split
  · split
    · exact xb_if (h _)
    · split
      · exact xb_if (h _)
      · rfl
    · rfl
  · rfl
theorem xb_xck {σ : xH} {ci a : Nat} {K : Option ρ} {K' : Option ρ'} (h : K = K'.bind G) : xck σ ci a K = (xck σ ci a K').bind G := by
  unfold xck
  split
  · exact xb_if h
  · rfl
theorem xb_gU {E : xEn} {σ : xH} {a : Nat} {K : Nat → Option ρ} {K' : Nat → Option ρ'} (h : ∀ v, K v = (K' v).bind G) : gU E σ a K = (gU E σ a K').bind G := by
  unfold gU
  split
  · split
    · exact h _
    · rfl
  · exact xb_gR h
theorem xb_gC {E : xEn} {σ : xH} {a : Nat} {K : Int32 → Option ρ} {K' : Int32 → Option ρ'} (h : ∀ v, K v = (K' v).bind G) : gC E σ a K = (gC E σ a K').bind G := by
  unfold gC
  split
  · split
    · exact h _
    · rfl
  · exact xb_gI h
theorem xb_xans {T : xR → Option ρ} {T' : xR → Option ρ'} (hT : ∀ r, T r = (T' r).bind G) {tag : Nat} {r : Option xR} {k : List Value → xH → Option ρ} {k' : List Value → xH → Option ρ'} (h : ∀ v σ, k v σ = (k' v σ).bind G) : xans T tag r k = (xans T' tag r k').bind G := by
  unfold xans
  split
  · unfold cI; split <;> first | exact h _ _ | exact hT _ | rfl
  · unfold cL; split <;> first | exact h _ _ | exact hT _ | rfl
  · unfold cA; split <;> first | exact h _ _ | exact hT _ | rfl
  · unfold cF; split <;> first | exact h _ _ | exact hT _ | rfl
  · unfold cD; split <;> first | exact h _ _ | exact hT _ | rfl
  · unfold cV; split <;> first | exact h _ _ | exact hT _ | rfl
  · rfl
theorem xb_xfld {σ : xH} {info : List Nat} {a : Nat} {k : Value → Option ρ} {k' : Value → Option ρ'} (h : ∀ v, k v = (k' v).bind G) : xfld σ info a k = (xfld σ info a k').bind G := by
  unfold xfld
  split
  · exact xb_gI (fun _ => h _)
  · exact xb_gI (fun _ => h _)
  · exact xb_gI (fun _ => h _)
  · exact xb_gL (fun _ => h _)
  · exact xb_gR (fun _ => h _)
  · rfl
theorem xb_xput {σ : xH} {info : List Nat} {a : Nat} {v : Value} {k : xH → Option ρ} {k' : xH → Option ρ'} (h : ∀ v, k v = (k' v).bind G) : xput σ info a v k = (xput σ info a v k').bind G := by
  unfold xput
  split
  · exact xb_gP h
  · split
    · exact xb_gP h
    · rfl
  · split
    · exact xb_gP h
    · rfl
  · exact xb_gP h
  · exact xb_gP h
  · rfl
theorem xb_xthr {k : Nat} {T : xR → Option ρ} {T' : xR → Option ρ'} (hT : ∀ r, T r = (T' r).bind G) (r : xR) : xthr k T r = (xthr k T' r).bind G := xb_if (hT r)
theorem xb_xcall {E : xEn} {call : Nat → List Value → xH → Option xR} {MC MS : Nat} {T : xR → Option ρ} {T' : xR → Option ρ'} (hT : ∀ r, T r = (T' r).bind G) {info : List Nat} {st : List Value} {σ : xH} {bc bs : Nat} {k : List Value → xH → Nat → Nat → Option ρ} {k' : List Value → xH → Nat → Nat → Option ρ'} (h : ∀ st σ bc bs, k st σ bc bs = (k' st σ bc bs).bind G) : xcall E call MC MS T info st σ bc bs k = (xcall E call MC MS T' info st σ bc bs k').bind G := by
  unfold xcall
  split
  · refine xb_if ?_
    split
    · exact xb_xans (xb_xthr hT) (fun _ _ => h _ _ _ _)
    · split
      · exact xb_gO (xb_xans (xb_xthr hT) (fun _ _ => h _ _ _ _))
      · rfl
  · rfl
theorem xb_xprim {E : xEn} {prim : Nat} {st : List Value} {σ : xH} {k : List Value → xH → Option ρ} {k' : List Value → xH → Option ρ'} (h : ∀ st σ, k st σ = (k' st σ).bind G) : xprim E prim st σ k = (xprim E prim st σ k').bind G := by
  unfold xprim
  split <;> first | exact h _ _ | exact xb_cpI (fun _ => h _ _) | rfl
theorem xb_xcc {c : ClassFile.Cond} {x y : Int32} {t f : Option ρ} {t' f' : Option ρ'} (ht : t = t'.bind G) (hf : f = f'.bind G) : xcc c x y t f = (xcc c x y t' f').bind G := by
  unfold xcc
  cases c <;> dsimp only <;> split <;> assumption
theorem xb_xsw {x : Int32} {d : Nat} {K : Nat → Option ρ} {K' : Nat → Option ρ'} (h : ∀ t, K t = (K' t).bind G) : ∀ (ts : List Nat) (lo : Nat), xsw x d K lo ts = (xsw x d K' lo ts).bind G := by
  intro ts
  induction ts with
  | nil => exact fun lo => h d
  | cons t ts ih =>
    intro lo
    unfold xsw
    split
    · exact h t
    · exact ih _
theorem xb_ite {c : Prop} [Decidable c] {x y : Option ρ} {x' y' : Option ρ'} (hx : x = x'.bind G) (hy : y = y'.bind G) : (if c then x else y) = (if c then x' else y').bind G := by
  split <;> assumption
theorem xb_kkI {o : Option Value} {k : Int32 → Option ρ} {k' : Int32 → Option ρ'} (h : ∀ x, k x = (k' x).bind G) : kkI o k = (kkI o k').bind G := by
  unfold kkI; split <;> first | exact h _ | rfl
theorem xb_t1I {st : List Value} {k : Int32 → List Value → Option ρ} {k' : Int32 → List Value → Option ρ'} (h : ∀ x st, k x st = (k' x st).bind G) : t1I st k = (t1I st k').bind G := by
  unfold t1I; split <;> first | exact h _ _ | rfl
theorem xb_t2I {st : List Value} {k : Int32 → Int32 → List Value → Option ρ} {k' : Int32 → Int32 → List Value → Option ρ'} (h : ∀ x y st, k x y st = (k' x y st).bind G) : t2I st k = (t2I st k').bind G := by
  unfold t2I; split <;> first | exact h _ _ _ | rfl
theorem xb_kkL {o : Option Value} {k : Int64 → Option ρ} {k' : Int64 → Option ρ'} (h : ∀ x, k x = (k' x).bind G) : kkL o k = (kkL o k').bind G := by
  unfold kkL; split <;> first | exact h _ | rfl
theorem xb_t1L {st : List Value} {k : Int64 → List Value → Option ρ} {k' : Int64 → List Value → Option ρ'} (h : ∀ x st, k x st = (k' x st).bind G) : t1L st k = (t1L st k').bind G := by
  unfold t1L; split <;> first | exact h _ _ | rfl
theorem xb_t2L {st : List Value} {k : Int64 → Int64 → List Value → Option ρ} {k' : Int64 → Int64 → List Value → Option ρ'} (h : ∀ x y st, k x y st = (k' x y st).bind G) : t2L st k = (t2L st k').bind G := by
  unfold t2L; split <;> first | exact h _ _ _ | rfl
theorem xb_kkF {o : Option Value} {k : UInt32 → Option ρ} {k' : UInt32 → Option ρ'} (h : ∀ x, k x = (k' x).bind G) : kkF o k = (kkF o k').bind G := by
  unfold kkF; split <;> first | exact h _ | rfl
theorem xb_t1F {st : List Value} {k : UInt32 → List Value → Option ρ} {k' : UInt32 → List Value → Option ρ'} (h : ∀ x st, k x st = (k' x st).bind G) : t1F st k = (t1F st k').bind G := by
  unfold t1F; split <;> first | exact h _ _ | rfl
theorem xb_t2F {st : List Value} {k : UInt32 → UInt32 → List Value → Option ρ} {k' : UInt32 → UInt32 → List Value → Option ρ'} (h : ∀ x y st, k x y st = (k' x y st).bind G) : t2F st k = (t2F st k').bind G := by
  unfold t2F; split <;> first | exact h _ _ _ | rfl
theorem xb_kkD {o : Option Value} {k : UInt64 → Option ρ} {k' : UInt64 → Option ρ'} (h : ∀ x, k x = (k' x).bind G) : kkD o k = (kkD o k').bind G := by
  unfold kkD; split <;> first | exact h _ | rfl
theorem xb_t1D {st : List Value} {k : UInt64 → List Value → Option ρ} {k' : UInt64 → List Value → Option ρ'} (h : ∀ x st, k x st = (k' x st).bind G) : t1D st k = (t1D st k').bind G := by
  unfold t1D; split <;> first | exact h _ _ | rfl
theorem xb_t2D {st : List Value} {k : UInt64 → UInt64 → List Value → Option ρ} {k' : UInt64 → UInt64 → List Value → Option ρ'} (h : ∀ x y st, k x y st = (k' x y st).bind G) : t2D st k = (t2D st k').bind G := by
  unfold t2D; split <;> first | exact h _ _ _ | rfl
theorem xb_kkA {o : Option Value} {k : Nat → Option ρ} {k' : Nat → Option ρ'} (h : ∀ x, k x = (k' x).bind G) : kkA o k = (kkA o k').bind G := by
  unfold kkA; split <;> first | exact h _ | rfl
theorem xb_t1A {st : List Value} {k : Nat → List Value → Option ρ} {k' : Nat → List Value → Option ρ'} (h : ∀ x st, k x st = (k' x st).bind G) : t1A st k = (t1A st k').bind G := by
  unfold t1A; split <;> first | exact h _ _ | rfl
theorem xb_t2A {st : List Value} {k : Nat → Nat → List Value → Option ρ} {k' : Nat → Nat → List Value → Option ρ'} (h : ∀ x y st, k x y st = (k' x y st).bind G) : t2A st k = (t2A st k').bind G := by
  unfold t2A; split <;> first | exact h _ _ _ | rfl
theorem xb_t3I {st : List Value} {k : Int32 → Int32 → Nat → List Value → Option ρ} {k' : Int32 → Int32 → Nat → List Value → Option ρ'} (h : ∀ x i a st, k x i a st = (k' x i a st).bind G) : t3I st k = (t3I st k').bind G := by
  unfold t3I; split <;> first | exact h _ _ _ _ | rfl
theorem xb_t3L {st : List Value} {k : Int64 → Int32 → Nat → List Value → Option ρ} {k' : Int64 → Int32 → Nat → List Value → Option ρ'} (h : ∀ x i a st, k x i a st = (k' x i a st).bind G) : t3L st k = (t3L st k').bind G := by
  unfold t3L; split <;> first | exact h _ _ _ _ | rfl
theorem xb_t3D {st : List Value} {k : UInt64 → Int32 → Nat → List Value → Option ρ} {k' : UInt64 → Int32 → Nat → List Value → Option ρ'} (h : ∀ x i a st, k x i a st = (k' x i a st).bind G) : t3D st k = (t3D st k').bind G := by
  unfold t3D; split <;> first | exact h _ _ _ _ | rfl
theorem xb_t3A {st : List Value} {k : Nat → Int32 → Nat → List Value → Option ρ} {k' : Nat → Int32 → Nat → List Value → Option ρ'} (h : ∀ x i a st, k x i a st = (k' x i a st).bind G) : t3A st k = (t3A st k').bind G := by
  unfold t3A; split <;> first | exact h _ _ _ _ | rfl
theorem xb_t2X {st : List Value} {k : Int32 → Nat → List Value → Option ρ} {k' : Int32 → Nat → List Value → Option ρ'} (h : ∀ i a st, k i a st = (k' i a st).bind G) : t2X st k = (t2X st k').bind G := by
  unfold t2X; split <;> first | exact h _ _ _ | rfl
theorem xb_tV {st : List Value} {k : Value → List Value → Option ρ} {k' : Value → List Value → Option ρ'} (h : ∀ v st, k v st = (k' v st).bind G) : tV st k = (tV st k').bind G := by
  unfold tV; split <;> first | exact xb_if (h _ _) | rfl
theorem xb_tVA {st : List Value} {k : Value → Nat → List Value → Option ρ} {k' : Value → Nat → List Value → Option ρ'} (h : ∀ v a st, k v a st = (k' v a st).bind G) : tVA st k = (tVA st k').bind G := by
  unfold tVA; split <;> first | exact h _ _ _ | rfl
theorem xb_t0 {st : List Value} {k : Option ρ} {k' : Option ρ'} (h : k = k'.bind G) : t0 st k = (t0 st k').bind G := by
  unfold t0; split <;> first | exact h | rfl
theorem xb_i1 {info : List Nat} {k : Nat → Option ρ} {k' : Nat → Option ρ'} (h : ∀ t, k t = (k' t).bind G) : i1 info k = (i1 info k').bind G := by
  unfold i1; split <;> first | exact h _ | rfl
theorem xb_iSw {info : List Nat} {k : Nat → Nat → List Nat → Option ρ} {k' : Nat → Nat → List Nat → Option ρ'} (h : ∀ d lo ts, k d lo ts = (k' d lo ts).bind G) : iSw info k = (iSw info k').bind G := by
  unfold iSw; split <;> first | exact h _ _ _ | rfl
theorem xb_nz {b : Bool} {x : Option ρ} {y : Option ρ'} (h : x = y.bind G) : nz b x = (nz b y).bind G := xb_if h
theorem xb_iK {E : xEn} {info : List Nat} {k : Value → Option ρ} {k' : Value → Option ρ'} (h : ∀ v, k v = (k' v).bind G) : iK E info k = (iK E info k').bind G := by
  unfold iK; split <;> first | exact h _ | exact xb_if (h _) | rfl
theorem xb_iK2 {info : List Nat} {k : Int64 → Option ρ} {k' : Int64 → Option ρ'} (h : ∀ v, k v = (k' v).bind G) : iK2 info k = (iK2 info k').bind G := by
  unfold iK2; split <;> first | exact h _ | rfl
theorem xb_iD {info : List Nat} {k : UInt64 → Option ρ} {k' : UInt64 → Option ρ'} (h : ∀ v, k v = (k' v).bind G) : iD info k = (iD info k').bind G := by
  unfold iD; split <;> first | exact h _ | rfl
theorem xb_iF {info : List Nat} {k : UInt32 → Option ρ} {k' : UInt32 → Option ρ'} (h : ∀ v, k v = (k' v).bind G) : iF info k = (iF info k').bind G := by
  unfold iF; split <;> first | exact h _ | rfl
theorem xb_xgf {E : xEn} {σ : xH} {info : List Nat} {a : Nat} {k : Value → Option ρ} {k' : Value → Option ρ'} (h : ∀ v, k v = (k' v).bind G) : xgf E σ info a k = (xgf E σ info a k').bind G := by
  unfold xgf
  split
  · split <;> first | exact h _ | rfl
  · exact xb_gU (fun _ => h _)
  · exact xb_gC (fun _ => h _)
  · exact xb_xfld h
theorem xb_xgs {E : xEn} {info : List Nat} {k : Value → Option ρ} {k' : Value → Option ρ'} (h : ∀ v, k v = (k' v).bind G) : xgs E info k = (xgs E info k').bind G := by
  unfold xgs
  split <;> first | exact h _ | exact xb_if (h _) | rfl
theorem xb_xnew {MC MS : Nat} {fin : xR → Option ρ} {fin' : xR → Option ρ'} (hfin : ∀ r, fin r = (fin' r).bind G) {info : List Nat} {st : List Value} {σ : xH} {bc bs : Nat} {k : List Value → xH → Nat → Nat → Option ρ} {k' : List Value → xH → Nat → Nat → Option ρ'} (h : ∀ st σ bc bs, k st σ bc bs = (k' st σ bc bs).bind G) : xnew MC MS fin info st σ bc bs k = (xnew MC MS fin' info st σ bc bs k').bind G := by
  unfold xnew; split <;> first | exact xb_if (h _ _ _ _) | exact xb_if (hfin _) | rfl
theorem xb_xnewa {MC MS : Nat} {x : Nat → (Nat → Int32) ⊕ (Nat → Int64) ⊕ (Nat → UInt32) ⊕ (Nat → UInt64) ⊕ (Nat → Option Nat)} {info : List Nat} {st : List Value} {σ : xH} {bc bs : Nat} {k : List Value → xH → Nat → Nat → Option ρ} {k' : List Value → xH → Nat → Nat → Option ρ'} (h : ∀ st σ bc bs, k st σ bc bs = (k' st σ bc bs).bind G) : xnewa MC MS x info st σ bc bs k = (xnewa MC MS x info st σ bc bs k').bind G := xb_t1I fun _ _ => xb_i1 fun _ => xb_if (h _ _ _ _)
theorem xb_xinv {E : xEn} {call : Nat → List Value → xH → Option xR} {MC MS : Nat} {fin : xR → Option ρ} {fin' : xR → Option ρ'} (hfin : ∀ r, fin r = (fin' r).bind G) {info : List Nat} {st : List Value} {σ : xH} {bc bs : Nat} {pr : Nat → Option ρ} {pr' : Nat → Option ρ'} (hp : ∀ p, pr p = (pr' p).bind G) {k : List Value → xH → Nat → Nat → Option ρ} {k' : List Value → xH → Nat → Nat → Option ρ'} (h : ∀ st σ bc bs, k st σ bc bs = (k' st σ bc bs).bind G) : xinv E call MC MS fin info st σ bc bs pr k = (xinv E call MC MS fin' info st σ bc bs pr' k').bind G := by
  unfold xinv; split <;> first | exact hp _ | exact xb_xcall hfin h
theorem xb_xinit {E : xEn} {call : Nat → List Value → xH → Option xR} {MC MS : Nat} {fin : xR → Option ρ} {fin' : xR → Option ρ'} (hfin : ∀ r, fin r = (fin' r).bind G) {info : List Nat} {st : List Value} {σ : xH} {bc bs : Nat} {k : List Value → xH → Nat → Nat → Option ρ} {k' : List Value → xH → Nat → Nat → Option ρ'} (h : ∀ st σ bc bs, k st σ bc bs = (k' st σ bc bs).bind G) : xinit E call MC MS fin info st σ bc bs k = (xinit E call MC MS fin' info st σ bc bs k').bind G := by
  unfold xinit; split <;> first | exact xb_t1A (fun _ _ => xb_if (h _ _ _ _)) | exact xb_xcall hfin h
theorem xb_xiret {info : List Nat} {x : Int32} {k : Option ρ} {k' : Option ρ'} (h : k = k'.bind G) : xiret info x k = (xiret info x k').bind G := by
  unfold xiret; split <;> first | exact h | exact xb_if h | rfl
theorem xb_xac {c : ACond} {b : Bool} {t f : Option ρ} {t' f' : Option ρ'} (ht : t = t'.bind G) (hf : f = f'.bind G) : xac c b t f = (xac c b t' f').bind G := by
  unfold xac; cases c <;> cases b <;> assumption
theorem xb_step {E : xEn} {call : Nat → List Value → xH → Option xR} {MC MS : Nat} {fin : xR → Option ρ} {fin' : xR → Option ρ'} (hfin : ∀ r, fin r = (fin' r).bind G)
    {K : Nat → xL → List Value → xH → Nat → Nat → Option ρ} {K' : Nat → xL → List Value → xH → Nat → Nat → Option ρ'} (hK : ∀ t L st σ bc bs, K t L st σ bc bs = (K' t L st σ bc bs).bind G)
    {nx : xL → List Value → xH → Nat → Nat → Option ρ} {nx' : xL → List Value → xH → Nat → Nat → Option ρ'} (hnx : ∀ L st σ bc bs, nx L st σ bc bs = (nx' L st σ bc bs).bind G)
    (ins : Instr) (info : List Nat) (L : xL) (st : List Value) (σ : xH) (bc bs : Nat) :
    xstep E call MC MS fin K nx ins info L st σ bc bs = (xstep E call MC MS fin' K' nx' ins info L st σ bc bs).bind G := by
  cases ins with
  | iconst i => exact hnx _ _ _ _ _
  | bipush i => exact hnx _ _ _ _ _
  | sipush i => exact hnx _ _ _ _ _
  | lconst i => exact hnx _ _ _ _ _
  | dconst i => exact xb_iD (fun _ => hnx _ _ _ _ _)
  | fconst i => show (iF info (fun v => nx L (.float v :: st) σ bc bs)) = (iF info (fun v => nx' L (.float v :: st) σ bc bs)).bind G; exact xb_iF (fun _ => hnx _ _ _ _ _)
  | ldc i => show (iK E info (fun v => nx L (v :: st) σ bc bs)) = (iK E info (fun v => nx' L (v :: st) σ bc bs)).bind G; exact xb_iK (fun _ => hnx _ _ _ _ _)
  | ldc_w i => show (iK E info (fun v => nx L (v :: st) σ bc bs)) = (iK E info (fun v => nx' L (v :: st) σ bc bs)).bind G; exact xb_iK (fun _ => hnx _ _ _ _ _)
  | ldc2_w i => show (iK2 info (fun v => nx L (.long v :: st) σ bc bs)) = (iK2 info (fun v => nx' L (.long v :: st) σ bc bs)).bind G; exact xb_iK2 (fun _ => hnx _ _ _ _ _)
  | iload i => exact xb_kkI (fun _ => hnx _ _ _ _ _)
  | iload_n i => exact xb_kkI (fun _ => hnx _ _ _ _ _)
  | lload i => exact xb_kkL (fun _ => hnx _ _ _ _ _)
  | lload_n i => exact xb_kkL (fun _ => hnx _ _ _ _ _)
  | dload i => exact xb_kkD (fun _ => hnx _ _ _ _ _)
  | aload i => exact xb_kkA (fun _ => hnx _ _ _ _ _)
  | aload_n i => exact xb_kkA (fun _ => hnx _ _ _ _ _)
  | istore i => exact xb_t1I (fun _ _ => hnx _ _ _ _ _)
  | istore_n i => exact xb_t1I (fun _ _ => hnx _ _ _ _ _)
  | lstore i => exact xb_t1L (fun _ _ => hnx _ _ _ _ _)
  | lstore_n i => exact xb_t1L (fun _ _ => hnx _ _ _ _ _)
  | dstore i => exact xb_t1D (fun _ _ => hnx _ _ _ _ _)
  | astore i => exact xb_t1A (fun _ _ => hnx _ _ _ _ _)
  | astore_n i => exact xb_t1A (fun _ _ => hnx _ _ _ _ _)
  | iinc i c => exact xb_kkI (fun _ => hnx _ _ _ _ _)
  | iadd => exact xb_t2I (fun _ _ _ => hnx _ _ _ _ _)
  | isub => exact xb_t2I (fun _ _ _ => hnx _ _ _ _ _)
  | imul => exact xb_t2I (fun _ _ _ => hnx _ _ _ _ _)
  | iand => exact xb_t2I (fun _ _ _ => hnx _ _ _ _ _)
  | ior => exact xb_t2I (fun _ _ _ => hnx _ _ _ _ _)
  | ixor => exact xb_t2I (fun _ _ _ => hnx _ _ _ _ _)
  | aconst_null => exact hnx _ _ _ _ _
  | ifnonnull o => exact xb_t1A (fun _ _ => xb_i1 (fun _ => hK _ _ _ _ _ _))
  | ineg => exact xb_t1I (fun _ _ => hnx _ _ _ _ _)
  | dup_x1 => exact xb_tV (fun _ _ => xb_tV (fun _ _ => hnx _ _ _ _ _))
  | checkcast i => exact xb_t1A (fun _ _ => xb_i1 (fun _ => xb_xck (hnx _ _ _ _ _)))
  | ishl => exact xb_t2I (fun _ _ _ => hnx _ _ _ _ _)
  | ishr => exact xb_t2I (fun _ _ _ => hnx _ _ _ _ _)
  | idiv => exact xb_t2I (fun _ _ _ => xb_nz (hnx _ _ _ _ _))
  | irem => exact xb_t2I (fun _ _ _ => xb_nz (hnx _ _ _ _ _))
  | ladd => exact xb_t2L (fun _ _ _ => hnx _ _ _ _ _)
  | lsub => exact xb_t2L (fun _ _ _ => hnx _ _ _ _ _)
  | lmul => exact xb_t2L (fun _ _ _ => hnx _ _ _ _ _)
  | ldiv => exact xb_t2L (fun _ _ _ => xb_nz (hnx _ _ _ _ _))
  | lrem => exact xb_t2L (fun _ _ _ => xb_nz (hnx _ _ _ _ _))
  | lcmp => exact xb_t2L (fun _ _ _ => hnx _ _ _ _ _)
  | i2l => exact xb_t1I (fun _ _ => hnx _ _ _ _ _)
  | l2i => exact xb_t1L (fun _ _ => hnx _ _ _ _ _)
  | i2b => exact xb_t1I (fun _ _ => hnx _ _ _ _ _)
  | i2c => exact xb_t1I (fun _ _ => hnx _ _ _ _ _)
  | i2d => exact xb_t1I (fun _ _ => hnx _ _ _ _ _)
  | l2d => exact xb_t1L (fun _ _ => hnx _ _ _ _ _)
  | i2f => exact xb_t1I (fun _ _ => hnx _ _ _ _ _)
  | l2f => exact xb_t1L (fun _ _ => hnx _ _ _ _ _)
  | f2d => exact xb_t1F (fun _ _ => xb_nz (hnx _ _ _ _ _))
  | fdiv => exact xb_t2F (fun _ _ _ => xb_nz (hnx _ _ _ _ _))
  | fsub => exact xb_t2F (fun _ _ _ => xb_nz (hnx _ _ _ _ _))
  | ddiv => exact xb_t2D (fun _ _ _ => xb_nz (hnx _ _ _ _ _))
  | dcmp o => exact xb_t2D (fun _ _ _ => hnx _ _ _ _ _)
  | dup => exact xb_tV (fun _ _ => hnx _ _ _ _ _)
  | dup2 => exact xb_tV (fun _ _ => xb_tV (fun _ _ => hnx _ _ _ _ _))
  | pop => exact xb_tV (fun _ _ => hnx _ _ _ _ _)
  | ifCond c o => exact xb_t1I (fun _ _ => xb_i1 (fun _ => xb_xcc (hK _ _ _ _ _ _) (hnx _ _ _ _ _)))
  | if_icmp c o => exact xb_t2I (fun _ _ _ => xb_i1 (fun _ => xb_xcc (hK _ _ _ _ _ _) (hnx _ _ _ _ _)))
  | if_acmp c o => exact xb_t2A (fun _ _ _ => xb_i1 (fun _ => xb_xac (hK _ _ _ _ _ _) (hnx _ _ _ _ _)))
  | goto o => exact xb_i1 (fun _ => hK _ _ _ _ _ _)
  | tableswitch a b c d => exact xb_t1I (fun _ _ => xb_iSw (fun _ _ _ => xb_xsw (fun _ => hK _ _ _ _ _ _) _ _))
  | getfield i => exact xb_t1A (fun _ _ => xb_xgf (fun _ => hnx _ _ _ _ _))
  | putfield i => exact xb_tVA (fun _ _ _ => xb_xput (fun _ => hnx _ _ _ _ _))
  | getstatic i => show (xgs E info (fun v => nx L (v :: st) σ bc bs)) = (xgs E info (fun v => nx' L (v :: st) σ bc bs)).bind G; exact xb_xgs (fun _ => hnx _ _ _ _ _)
  | iaload => exact xb_t2X (fun _ _ _ => xb_aI (fun _ => hnx _ _ _ _ _))
  | baload => exact xb_t2X (fun _ _ _ => xb_aB (fun _ => hnx _ _ _ _ _))
  | laload => exact xb_t2X (fun _ _ _ => xb_aL (fun _ => hnx _ _ _ _ _))
  | daload => exact xb_t2X (fun _ _ _ => xb_aD (fun _ => hnx _ _ _ _ _))
  | aaload => exact xb_t2X (fun _ _ _ => xb_aQ (fun _ => hnx _ _ _ _ _))
  | arraylength => exact xb_t1A (fun _ _ => xb_aN (fun _ => hnx _ _ _ _ _))
  | iastore => exact xb_t3I (fun _ _ _ _ => xb_sI (fun _ => hnx _ _ _ _ _))
  | bastore => exact xb_t3I (fun _ _ _ _ => xb_sB (fun _ => hnx _ _ _ _ _))
  | lastore => exact xb_t3L (fun _ _ _ _ => xb_sL (fun _ => hnx _ _ _ _ _))
  | dastore => exact xb_t3D (fun _ _ _ _ => xb_sD (fun _ => hnx _ _ _ _ _))
  | aastore => exact xb_t3A (fun _ _ _ _ => xb_sQ (fun _ => hnx _ _ _ _ _))
  | new i => exact xb_xnew hfin (fun _ _ _ _ => hnx _ _ _ _ _)
  | newarray i => exact xb_xnewa (fun _ _ _ _ => hnx _ _ _ _ _)
  | anewarray i => exact xb_xnewa (fun _ _ _ _ => hnx _ _ _ _ _)
  | invokespecial i => exact xb_xinit hfin (fun _ _ _ _ => hnx _ _ _ _ _)
  | invokevirtual i => exact xb_xinv hfin (fun _ => xb_nz (xb_xprim (fun _ _ => hnx _ _ _ _ _))) (fun _ _ _ _ => hnx _ _ _ _ _)
  | invokestatic i => exact xb_xinv hfin (fun _ => xb_nz (xb_xprim (fun _ _ => hnx _ _ _ _ _))) (fun _ _ _ _ => hnx _ _ _ _ _)
  | ireturn => exact xb_t1I (fun _ _ => xb_t0 (xb_xiret (hfin _)))
  | lreturn => exact xb_t1L (fun _ _ => xb_t0 (hfin _))
  | freturn => exact xb_t1F (fun _ _ => xb_t0 (hfin _))
  | dreturn => exact xb_t1D (fun _ _ => xb_t0 (hfin _))
  | areturn => exact xb_t1A (fun _ _ => xb_t0 (hfin _))
  | return_ => exact xb_t0 (hfin _)
  | _ => rfl
end PAR
/-! a block: instructions one behind another -/
section BLK
variable {ρ : Type}
def exB (E : xEn) (call : Nat → List Value → xH → Option xR) (MC MS : Nat) (fin : xR → Option ρ) (K : Nat → xL → List Value → xH → Nat → Nat → Option ρ) (ep : Nat) : List xI → xL → List Value → xH → Nat → Nat → Option ρ
  | [] => fun L st σ bc bs => K ep L st σ bc bs
  | i :: r => fun L st σ bc bs => xstep E call MC MS fin K (exB E call MC MS fin K ep r) i.2.1 i.2.2 L st σ bc bs
end BLK
theorem xb_exB {ρ ρ' : Type} {G : ρ' → Option ρ} {E : xEn} {call : Nat → List Value → xH → Option xR} {MC MS : Nat} {fin : xR → Option ρ} {fin' : xR → Option ρ'} (hfin : ∀ r, fin r = (fin' r).bind G)
    {K : Nat → xL → List Value → xH → Nat → Nat → Option ρ} {K' : Nat → xL → List Value → xH → Nat → Nat → Option ρ'} (hK : ∀ t L st σ bc bs, K t L st σ bc bs = (K' t L st σ bc bs).bind G) (ep : Nat) :
    ∀ (is : List xI) (L : xL) (st : List Value) (σ : xH) (bc bs : Nat), exB E call MC MS fin K ep is L st σ bc bs = (exB E call MC MS fin' K' ep is L st σ bc bs).bind G := by
  intro is
  induction is with
  | nil => exact fun _ _ _ _ _ => hK _ _ _ _ _ _
  | cons i r ih => exact fun L st σ bc bs => xb_step hfin hK ih _ _ _ _ _ _ _
end
section
/-! A METHOD'S RUN: block by block; its value is what some number of blocks comes to. -/
abbrev xBl : Type := List (Nat × List Nat × List xI × Nat)
def xlk : xBl → Nat → Option (List Nat × List xI × Nat)
  | [], _ => none
  | b :: bs, pc => bif Nat.beq b.1 pc then some b.2 else xlk bs pc
noncomputable def xli {α : Type} (f : Nat → Option α) : Option α := @dite _ (∃ r, ∃ n, f n = some r) (Classical.propDecidable _) (fun h => some h.choose) (fun _ => none)
theorem xli_some {α : Type} {f : Nat → Option α} (hm : ∀ n r, f n = some r → f (n + 1) = some r) {n : Nat} {r : α} (h : f n = some r) : xli f = some r := by
  have up : ∀ k m r, f m = some r → f (m + k) = some r := by
    intro k
    induction k with
    | zero => exact fun _ _ h => h
    | succ k ih => exact fun m r h => hm _ _ (ih m r h)
  have hx : ∃ r, ∃ n, f n = some r := ⟨r, n, h⟩
  unfold xli
  rw [dif_pos hx]
  obtain ⟨n', h'⟩ := hx.choose_spec
  have h1 := up n' n r h
  have h2 := up n n' _ h'
  rw [Nat.add_comm] at h2
  rw [h2] at h1
  exact h1
theorem xli_of {α : Type} {f : Nat → Option α} {r : α} (h : xli f = some r) : ∃ n, f n = some r := by
  unfold xli at h
  split at h
  · next hx =>
    obtain ⟨n, h'⟩ := hx.choose_spec
    exact ⟨n, by rw [← Option.some.inj h]; exact h'⟩
  · cases h
theorem xli_none {α : Type} {f : Nat → Option α} (h : ∀ n r, f n ≠ some r) : xli f = none := by
  unfold xli
  rw [dif_neg]
  rintro ⟨r, n, hn⟩
  exact h n r hn
section RUN
variable (E : xEn) (call : Nat → List Value → xH → Option xR) (MC MS : Nat) (bl : xBl)
/-- one block, its ways out as data -/
def xex (j : xJ) : Option (xR ⊕ xJ) := match xlk bl j.1 with
  | some b => exB E call MC MS (fun r => some (.inl r)) (fun t L st σ bc bs => some (.inr (t, L, st, σ, bc, bs))) b.2.2 b.2.1 (xpick j.2.1 b.1) j.2.2.1 j.2.2.2.1 j.2.2.2.2.1 j.2.2.2.2.2
  | none => none
def xrn : Nat → xJ → Option xR
  | 0, _ => none
  | n + 1, j => (xex E call MC MS bl j).bind (Sum.elim some (xrn n))
noncomputable def xval (j : xJ) : Option xR := xli (fun n => xrn E call MC MS bl n j)
theorem xrn_mono : ∀ (n : Nat) (j : xJ) (r : xR), xrn E call MC MS bl n j = some r → xrn E call MC MS bl (n + 1) j = some r := by
  intro n
  induction n with
  | zero => exact fun _ _ h => by cases h
  | succ n ih =>
    intro j r h
    unfold xrn at h ⊢
    cases hx : xex E call MC MS bl j with
    | none => rw [hx] at h; cases h
    | some x =>
      rw [hx] at h
      cases x with
      | inl q => exact h
      | inr j' => exact ih j' r h
theorem xval_some {n : Nat} {j : xJ} {r : xR} (h : xrn E call MC MS bl n j = some r) : xval E call MC MS bl j = some r := xli_some (fun n r => xrn_mono E call MC MS bl n j r) h
theorem xval_eq (j : xJ) : xval E call MC MS bl j = (xex E call MC MS bl j).bind (Sum.elim some (xval E call MC MS bl)) := by
  cases hx : xex E call MC MS bl j with
  | none =>
    refine xli_none (fun n r h => ?_)
    cases n with
    | zero => cases h
    | succ n => unfold xrn at h; rw [hx] at h; cases h
  | some x =>
    cases x with
    | inl q => exact xval_some E call MC MS bl (n := 1) (by unfold xrn; rw [hx]; rfl)
    | inr j' =>
      show _ = xval E call MC MS bl j'
      cases hv : xval E call MC MS bl j' with
      | none =>
        refine xli_none (fun n r h => ?_)
        cases n with
        | zero => cases h
        | succ n =>
          unfold xrn at h
          rw [hx] at h
          have h1 : xval E call MC MS bl j' = some r := xval_some E call MC MS bl (n := n) h
          rw [hv] at h1
          cases h1
      | some r =>
        obtain ⟨n, hn⟩ := xli_of hv
        exact xval_some E call MC MS bl (n := n + 1) (by unfold xrn; rw [hx]; exact hn)
/-- from a block's head, its ways out as continuations -/
theorem xval_blk {pc : Nat} {b : List Nat × List xI × Nat} (hb : xlk bl pc = some b) (L : xL) (st : List Value) (σ : xH) (bc bs : Nat) :
    xval E call MC MS bl (pc, L, st, σ, bc, bs) = exB E call MC MS some (fun t L st σ bc bs => xval E call MC MS bl (t, L, st, σ, bc, bs)) b.2.2 b.2.1 (xpick L b.1) st σ bc bs := by
  rw [xval_eq]
  unfold xex
  dsimp only
  rw [hb]
  exact (xb_exB (G := Sum.elim some (xval E call MC MS bl)) (fun _ => rfl) (fun _ _ _ _ _ _ => rfl) _ _ _ _ _ _ _).symm
end RUN
/-- a method: its name, its bytes, how many locals, what it answers, the cells and slots that it may make; the table: its blocks and its class's pool -/
abbrev xMth : Type := MethodName × ByteArray × Nat × Option FieldType × Nat × Nat
abbrev xTab : Type := Nat → Option (xMth × xBl × List (Nat × Nat × List Nat))
/-- the two methods with a handler (the first two rows): what it makes of a throw -/
def xcat1 : Option xR → Option xR
  | some (.inr X, σ) => if X = "java/lang/IllegalStateException" then some (.inl (some (.int (-1001))), σ) else some (.inr X, σ)
  | r => r
def xcth : Nat → Option xR → Option xR
  | 0, r => xcat1 r
  | 1, r => xcat1 r
  | _ + 2, r => r
/-- the methods' values, calls nested at most d deep -/
noncomputable def xsem (T : xTab) (E : xEn) : Nat → Nat → List Value → xH → Option xR
  | 0 => fun _ _ _ => none
  | d + 1 => fun key args σ => xcth key <| match T key with
    | some (M, bl, _) => bif Nat.ble (xcat args) M.2.2.1 then xval E (xsem T E d) M.2.2.2.2.1 M.2.2.2.2.2 bl (0, lv_args 0 args, [], σ, 0, 0) else none
    | none => none
end
section
/-! What an answer of a step's arms tells of stack, locals, 'info'. -/
section INV
variable {ρ : Type} {z : ρ}
theorem iv_if {b : Bool} {k : Option ρ} (h : (bif b then k else none) = some z) : b = true ∧ k = some z := by
  cases b
  · cases h
  · exact ⟨rfl, h⟩
theorem iv_nz {b : Bool} {k : Option ρ} (h : nz b k = some z) : b = true ∧ k = some z := iv_if h
theorem iv_kkI {q : Option Value} {k : Int32 → Option ρ} (h : kkI q k = some z) : ∃ x, q = some (.int x) ∧ k x = some z := by
  unfold kkI at h
  split at h
  · exact ⟨_, rfl, h⟩
  · cases h
theorem iv_t1I {st : List Value} {k : Int32 → List Value → Option ρ} (h : t1I st k = some z) : ∃ x r, st = .int x :: r ∧ k x r = some z := by
  unfold t1I at h
  split at h
  · exact ⟨_, _, rfl, h⟩
  · cases h
theorem iv_t2I {st : List Value} {k : Int32 → Int32 → List Value → Option ρ} (h : t2I st k = some z) : ∃ x y r, st = .int y :: .int x :: r ∧ k x y r = some z := by
  unfold t2I at h
  split at h
  · exact ⟨_, _, _, rfl, h⟩
  · cases h
theorem iv_kkL {q : Option Value} {k : Int64 → Option ρ} (h : kkL q k = some z) : ∃ x, q = some (.long x) ∧ k x = some z := by
  unfold kkL at h
  split at h
  · exact ⟨_, rfl, h⟩
  · cases h
theorem iv_t1L {st : List Value} {k : Int64 → List Value → Option ρ} (h : t1L st k = some z) : ∃ x r, st = .long x :: r ∧ k x r = some z := by
  unfold t1L at h
  split at h
  · exact ⟨_, _, rfl, h⟩
  · cases h
theorem iv_t2L {st : List Value} {k : Int64 → Int64 → List Value → Option ρ} (h : t2L st k = some z) : ∃ x y r, st = .long y :: .long x :: r ∧ k x y r = some z := by
  unfold t2L at h
  split at h
  · exact ⟨_, _, _, rfl, h⟩
  · cases h
theorem iv_kkF {q : Option Value} {k : UInt32 → Option ρ} (h : kkF q k = some z) : ∃ x, q = some (.float x) ∧ k x = some z := by
  unfold kkF at h
  split at h
  · exact ⟨_, rfl, h⟩
  · cases h
theorem iv_t1F {st : List Value} {k : UInt32 → List Value → Option ρ} (h : t1F st k = some z) : ∃ x r, st = .float x :: r ∧ k x r = some z := by
  unfold t1F at h
  split at h
  · exact ⟨_, _, rfl, h⟩
  · cases h
theorem iv_t2F {st : List Value} {k : UInt32 → UInt32 → List Value → Option ρ} (h : t2F st k = some z) : ∃ x y r, st = .float y :: .float x :: r ∧ k x y r = some z := by
  unfold t2F at h
  split at h
  · exact ⟨_, _, _, rfl, h⟩
  · cases h
theorem iv_kkD {q : Option Value} {k : UInt64 → Option ρ} (h : kkD q k = some z) : ∃ x, q = some (.double x) ∧ k x = some z := by
  unfold kkD at h
  split at h
  · exact ⟨_, rfl, h⟩
  · cases h
theorem iv_t1D {st : List Value} {k : UInt64 → List Value → Option ρ} (h : t1D st k = some z) : ∃ x r, st = .double x :: r ∧ k x r = some z := by
  unfold t1D at h
  split at h
  · exact ⟨_, _, rfl, h⟩
  · cases h
theorem iv_t2D {st : List Value} {k : UInt64 → UInt64 → List Value → Option ρ} (h : t2D st k = some z) : ∃ x y r, st = .double y :: .double x :: r ∧ k x y r = some z := by
  unfold t2D at h
  split at h
  · exact ⟨_, _, _, rfl, h⟩
  · cases h
theorem iv_kkA {q : Option Value} {k : Nat → Option ρ} (h : kkA q k = some z) : ∃ x, q = some (.ref x) ∧ k x = some z := by
  unfold kkA at h
  split at h
  · exact ⟨_, rfl, h⟩
  · cases h
theorem iv_t1A {st : List Value} {k : Nat → List Value → Option ρ} (h : t1A st k = some z) : ∃ x r, st = .ref x :: r ∧ k x r = some z := by
  unfold t1A at h
  split at h
  · exact ⟨_, _, rfl, h⟩
  · cases h
theorem iv_t2A {st : List Value} {k : Nat → Nat → List Value → Option ρ} (h : t2A st k = some z) : ∃ x y r, st = .ref y :: .ref x :: r ∧ k x y r = some z := by
  unfold t2A at h
  split at h
  · exact ⟨_, _, _, rfl, h⟩
  · cases h
theorem iv_t3I {st : List Value} {k : Int32 → Int32 → Nat → List Value → Option ρ} (h : t3I st k = some z) : ∃ x i a r, st = .int x :: .int i :: .ref a :: r ∧ k x i a r = some z := by
  unfold t3I at h
  split at h
  · exact ⟨_, _, _, _, rfl, h⟩
  · cases h
theorem iv_t3L {st : List Value} {k : Int64 → Int32 → Nat → List Value → Option ρ} (h : t3L st k = some z) : ∃ x i a r, st = .long x :: .int i :: .ref a :: r ∧ k x i a r = some z := by
  unfold t3L at h
  split at h
  · exact ⟨_, _, _, _, rfl, h⟩
  · cases h
theorem iv_t3D {st : List Value} {k : UInt64 → Int32 → Nat → List Value → Option ρ} (h : t3D st k = some z) : ∃ x i a r, st = .double x :: .int i :: .ref a :: r ∧ k x i a r = some z := by
  unfold t3D at h
  split at h
  · exact ⟨_, _, _, _, rfl, h⟩
  · cases h
theorem iv_t3A {st : List Value} {k : Nat → Int32 → Nat → List Value → Option ρ} (h : t3A st k = some z) : ∃ x i a r, st = .ref x :: .int i :: .ref a :: r ∧ k x i a r = some z := by
  unfold t3A at h
  split at h
  · exact ⟨_, _, _, _, rfl, h⟩
  · cases h
theorem iv_t2X {st : List Value} {k : Int32 → Nat → List Value → Option ρ} (h : t2X st k = some z) : ∃ i a r, st = .int i :: .ref a :: r ∧ k i a r = some z := by
  unfold t2X at h
  split at h
  · exact ⟨_, _, _, rfl, h⟩
  · cases h
theorem iv_tV {st : List Value} {k : Value → List Value → Option ρ} (h : tV st k = some z) : ∃ v r, st = v :: r ∧ v.category = 1 ∧ k v r = some z := by
  unfold tV at h
  split at h
  · obtain ⟨h1, h2⟩ := iv_if h
    exact ⟨_, _, rfl, Nat.eq_of_beq_eq_true h1, h2⟩
  · cases h
theorem iv_tVA {st : List Value} {k : Value → Nat → List Value → Option ρ} (h : tVA st k = some z) : ∃ v a r, st = v :: .ref a :: r ∧ k v a r = some z := by
  unfold tVA at h
  split at h
  · exact ⟨_, _, _, rfl, h⟩
  · cases h
theorem iv_t0 {st : List Value} {k : Option ρ} (h : t0 st k = some z) : st = [] ∧ k = some z := by
  unfold t0 at h
  split at h
  · exact ⟨rfl, h⟩
  · cases h
theorem iv_i1 {info : List Nat} {k : Nat → Option ρ} (h : i1 info k = some z) : ∃ t, info = [t] ∧ k t = some z := by
  unfold i1 at h
  split at h
  · exact ⟨_, rfl, h⟩
  · cases h
theorem iv_iSw {info : List Nat} {k : Nat → Nat → List Nat → Option ρ} (h : iSw info k = some z) : ∃ d lo ts, info = d :: lo :: ts ∧ k d lo ts = some z := by
  unfold iSw at h
  split at h
  · exact ⟨_, _, _, rfl, h⟩
  · cases h
theorem iv_xsw {x : Int32} {d : Nat} {K : Nat → Option ρ} : ∀ (ts : List Nat) (lo : Nat), xsw x d K lo ts = some z → (∃ j t, ts[j]? = some t ∧ x = nI (lo + j) ∧ K t = some z) ∨ ((∀ j, j < ts.length → ¬ x = nI (lo + j)) ∧ K d = some z) := by
  intro ts
  induction ts with
  | nil => exact fun lo h => Or.inr ⟨fun j hj => absurd hj (Nat.not_lt_zero j), h⟩
  | cons t ts ih =>
    intro lo h
    unfold xsw at h
    split at h
    · next hx => exact Or.inl ⟨0, t, rfl, hx, h⟩
    · next hx =>
      rcases ih (lo + 1) h with ⟨j, t', h1, h2, h3⟩ | ⟨h1, h2⟩
      · exact Or.inl ⟨j + 1, t', by simpa using h1, by rw [h2]; congr 1; omega, h3⟩
      · refine Or.inr ⟨fun j hj => ?_, h2⟩
        cases j with
        | zero => exact hx
        | succ j =>
          have h3 := h1 j (by simpa using hj)
          rwa [show lo + 1 + j = lo + (j + 1) by omega] at h3
theorem iv_gV {σ : xH} {ci k a : Nat} {K : Value → Option ρ} (h : gV σ ci k a K = some z) : ∃ fs v, σ.1 a = some (.inr (ci, fs)) ∧ fs[k]? = some v ∧ K v = some z := by
  unfold gV at h
  split at h
  · next c fs he =>
    obtain ⟨h1, h2⟩ := iv_if h
    have hc := Nat.eq_of_beq_eq_true h1
    subst hc
    split at h2
    · next v hv => exact ⟨fs, v, he, hv, h2⟩
    · cases h2
  · cases h
theorem iv_gI {σ : xH} {ci k a : Nat} {K : Int32 → Option ρ} (h : gI σ ci k a K = some z) : ∃ fs x, σ.1 a = some (.inr (ci, fs)) ∧ fs[k]? = some (.int x) ∧ K x = some z := by
  obtain ⟨fs, v, h1, h2, h3⟩ := iv_gV h
  cases v <;> first | exact ⟨fs, _, h1, h2, h3⟩ | cases h3
theorem iv_gL {σ : xH} {ci k a : Nat} {K : Int64 → Option ρ} (h : gL σ ci k a K = some z) : ∃ fs x, σ.1 a = some (.inr (ci, fs)) ∧ fs[k]? = some (.long x) ∧ K x = some z := by
  obtain ⟨fs, v, h1, h2, h3⟩ := iv_gV h
  cases v <;> first | exact ⟨fs, _, h1, h2, h3⟩ | cases h3
theorem iv_gR {σ : xH} {ci k a : Nat} {K : Nat → Option ρ} (h : gR σ ci k a K = some z) : ∃ fs x, σ.1 a = some (.inr (ci, fs)) ∧ fs[k]? = some (.ref x) ∧ K x = some z := by
  obtain ⟨fs, v, h1, h2, h3⟩ := iv_gV h
  cases v <;> first | exact ⟨fs, _, h1, h2, h3⟩ | cases h3
theorem iv_gP {σ : xH} {ci k a : Nat} {v : Value} {K : xH → Option ρ} (h : gP σ ci k a v K = some z) : ∃ fs, σ.1 a = some (.inr (ci, fs)) ∧ k < fs.length ∧ K (xup σ.1 a (.inr (ci, fs.set k v)), σ.2) = some z := by
  unfold gP at h
  split at h
  · next c fs he =>
    obtain ⟨h1, h2⟩ := iv_if h
    rw [Bool.and_eq_true] at h1
    have hc := Nat.eq_of_beq_eq_true h1.1
    subst hc
    exact ⟨fs, he, Nat.le_of_ble_eq_true h1.2, h2⟩
  · cases h
/-- a field's read: the class, the place, what lies there, by the tag -/
theorem iv_xfld {σ : xH} {info : List Nat} {a : Nat} {k : Value → Option ρ} (h : xfld σ info a k = some z) : ∃ ci i t n fs v, info = [ci, i, t, n] ∧ σ.1 a = some (.inr (ci, fs)) ∧ fs[i]? = some v ∧ k v = some z := by
  unfold xfld at h
  split at h
  · obtain ⟨fs, x, h1, h2, h3⟩ := iv_gI h
    exact ⟨_, _, _, _, fs, _, rfl, h1, h2, h3⟩
  · obtain ⟨fs, x, h1, h2, h3⟩ := iv_gI h
    exact ⟨_, _, _, _, fs, _, rfl, h1, h2, h3⟩
  · obtain ⟨fs, x, h1, h2, h3⟩ := iv_gI h
    exact ⟨_, _, _, _, fs, _, rfl, h1, h2, h3⟩
  · obtain ⟨fs, x, h1, h2, h3⟩ := iv_gL h
    exact ⟨_, _, _, _, fs, _, rfl, h1, h2, h3⟩
  · obtain ⟨fs, x, h1, h2, h3⟩ := iv_gR h
    exact ⟨_, _, _, _, fs, _, rfl, h1, h2, h3⟩
  · cases h
/-- the type that a tag names, of what may be put there -/
def xfit (t : Nat) (v : Value) : Prop := (t = 0 ∧ ∃ x, v = .int x) ∨ (t = 5 ∧ ∃ x, v = .int x ∧ narrow .boolean (.int x) = .int x) ∨ (t = 1 ∧ ∃ x, v = .long x) ∨ (t = 2 ∧ ∃ x, v = .ref x) ∨ (t = 6 ∧ ∃ x, v = .int x ∧ narrow .byte (.int x) = .int x)
theorem iv_xput {σ : xH} {info : List Nat} {a : Nat} {v : Value} {k : xH → Option ρ} (h : xput σ info a v k = some z) : ∃ ci i t n fs, info = [ci, i, t, n] ∧ σ.1 a = some (.inr (ci, fs)) ∧ i < fs.length ∧ xfit t v ∧ k (xup σ.1 a (.inr (ci, fs.set i v)), σ.2) = some z := by
  unfold xput at h
  split at h
  · obtain ⟨fs, h1, h2, h3⟩ := iv_gP h
    exact ⟨_, _, _, _, fs, rfl, h1, h2, Or.inl ⟨rfl, _, rfl⟩, h3⟩
  · split at h
    · next hn =>
      obtain ⟨fs, h1, h2, h3⟩ := iv_gP h
      exact ⟨_, _, _, _, fs, rfl, h1, h2, Or.inr (Or.inl ⟨rfl, _, rfl, hn⟩), h3⟩
    · cases h
  · split at h
    · next hn =>
      obtain ⟨fs, h1, h2, h3⟩ := iv_gP h
      exact ⟨_, _, _, _, fs, rfl, h1, h2, Or.inr (Or.inr (Or.inr (Or.inr ⟨rfl, _, rfl, hn⟩))), h3⟩
    · cases h
  · obtain ⟨fs, h1, h2, h3⟩ := iv_gP h
    exact ⟨_, _, _, _, fs, rfl, h1, h2, Or.inr (Or.inr (Or.inl ⟨rfl, _, rfl⟩)), h3⟩
  · obtain ⟨fs, h1, h2, h3⟩ := iv_gP h
    exact ⟨_, _, _, _, fs, rfl, h1, h2, Or.inr (Or.inr (Or.inr (Or.inl ⟨rfl, _, rfl⟩))), h3⟩
  · cases h
theorem iv_gO {E : xEn} {σ : xH} {ci a : Nat} {K : Option ρ} (h : gO E σ ci a K = some z) : ((∃ fs, σ.1 a = some (.inr (ci, fs))) ∨ (ci = 99 ∧ ∃ i, xfind E.2.1 a xNS = some i) ∨ (ci = 99 ∧ ∃ fs, σ.1 a = some (.inr (11, fs)))) ∧ K = some z := by
  unfold gO at h
  split at h
  · next c fs he =>
    obtain ⟨h1, h2⟩ := iv_if h
    rw [Bool.or_eq_true, Bool.and_eq_true] at h1
    rcases h1 with h1 | h1
    · have hc := Nat.eq_of_beq_eq_true h1
      subst hc
      exact ⟨Or.inl ⟨_, he⟩, h2⟩
    · have hc := Nat.eq_of_beq_eq_true h1.2
      subst hc
      exact ⟨Or.inr (Or.inr ⟨Nat.eq_of_beq_eq_true h1.1, _, he⟩), h2⟩
  · obtain ⟨h1, h2⟩ := iv_if h
    rw [Bool.and_eq_true] at h1
    exact ⟨Or.inr (Or.inl ⟨Nat.eq_of_beq_eq_true h1.1, Option.isSome_iff_exists.mp h1.2⟩), h2⟩
  · cases h
theorem iv_xfind {f : Nat → Nat} {a i : Nat} : ∀ {n : Nat}, xfind f a n = some i → i < n ∧ f i = a := by
  intro n
  induction n with
  | zero => intro h; cases h
  | succ n ih =>
    intro h
    unfold xfind at h
    split at h
    · next j hj =>
      cases h
      obtain ⟨h1, h2⟩ := ih hj
      exact ⟨by omega, h2⟩
    · obtain ⟨h1, h2⟩ := iv_if h
      cases h2
      exact ⟨Nat.lt_succ_self _, Nat.eq_of_beq_eq_true h1⟩
theorem iv_xin {i : Int32} {n : Nat} (h : xin i n = true) : vp_in i n := by
  unfold xin at h
  unfold vp_in
  exact of_decide_eq_true h
theorem iv_aI {E : xEn} {σ : xH} {a : Nat} {i : Int32} {K : Int32 → Option ρ} (h : aI E σ a i K = some z) : (∃ n f, σ.1 a = some (.inl (0, n, .inl f)) ∧ vp_in i n ∧ K (f i.toNatClampNeg) = some z) ∨ (a = eSa E ∧ vp_in i (eSn E) ∧ K (eSf E i.toNatClampNeg) = some z) := by
  unfold aI at h
  split at h
  · next k n f he =>
    obtain ⟨h1, h2⟩ := iv_if h
    rw [Bool.and_eq_true] at h1
    have hc := Nat.eq_of_beq_eq_true h1.1
    subst hc
    exact Or.inl ⟨n, f, he, iv_xin h1.2, h2⟩
  · obtain ⟨h1, h2⟩ := iv_if h
    rw [Bool.and_eq_true] at h1
    exact Or.inr ⟨Nat.eq_of_beq_eq_true h1.1, iv_xin h1.2, h2⟩
  · cases h
theorem iv_aL {σ : xH} {a : Nat} {i : Int32} {K : Int64 → Option ρ} (h : aL σ a i K = some z) : ∃ n f, σ.1 a = some (.inl (2, n, .inr (.inl f))) ∧ vp_in i n ∧ K (f i.toNatClampNeg) = some z := by
  unfold aL at h
  split at h
  · next k n f he =>
    obtain ⟨h1, h2⟩ := iv_if h
    rw [Bool.and_eq_true] at h1
    have hc := Nat.eq_of_beq_eq_true h1.1
    subst hc
    exact ⟨n, f, he, iv_xin h1.2, h2⟩
  · cases h
theorem iv_aD {σ : xH} {a : Nat} {i : Int32} {K : UInt64 → Option ρ} (h : aD σ a i K = some z) : ∃ n f, σ.1 a = some (.inl (3, n, .inr (.inr (.inr (.inl f))))) ∧ vp_in i n ∧ K (f i.toNatClampNeg) = some z := by
  unfold aD at h
  split at h
  · next k n f he =>
    obtain ⟨h1, h2⟩ := iv_if h
    rw [Bool.and_eq_true] at h1
    have hc := Nat.eq_of_beq_eq_true h1.1
    subst hc
    exact ⟨n, f, he, iv_xin h1.2, h2⟩
  · cases h
theorem iv_aB {E : xEn} {σ : xH} {a : Nat} {i : Int32} {K : Int32 → Option ρ} (h : aB E σ a i K = some z) : (∃ n f, σ.1 a = some (.inl (1, n, .inl f)) ∧ vp_in i n ∧ K (f i.toNatClampNeg) = some z) ∨ (∃ j, xfind E.2.2.1 a xNS = some j ∧ vp_in i (xtx j).length ∧ K ((xtx j).getD i.toNatClampNeg 0) = some z) ∨
    (a = eD1 E ∧ vp_in i 100 ∧ K (nI (48 + i.toNatClampNeg % 10)) = some z) ∨ (a = eD2 E ∧ vp_in i 100 ∧ K (nI (48 + i.toNatClampNeg / 10)) = some z) := by
  unfold aB at h
  split at h
  · next k n f he =>
    obtain ⟨h1, h2⟩ := iv_if h
    rw [Bool.and_eq_true] at h1
    have hc := Nat.eq_of_beq_eq_true h1.1
    subst hc
    exact Or.inl ⟨n, f, he, iv_xin h1.2, h2⟩
  · split at h
    · next j hj =>
      obtain ⟨h1, h2⟩ := iv_if h
      exact Or.inr (Or.inl ⟨j, hj, iv_xin h1, h2⟩)
    · cases hb : Nat.beq a (eD1 E) && xin i 100
      · rw [hb] at h
        obtain ⟨h1, h2⟩ := iv_if h
        rw [Bool.and_eq_true] at h1
        exact Or.inr (Or.inr (Or.inr ⟨Nat.eq_of_beq_eq_true h1.1, iv_xin h1.2, h2⟩))
      · rw [hb] at h
        rw [Bool.and_eq_true] at hb
        exact Or.inr (Or.inr (Or.inl ⟨Nat.eq_of_beq_eq_true hb.1, iv_xin hb.2, h⟩))
  · cases h
theorem iv_aQ {E : xEn} {σ : xH} {a : Nat} {i : Int32} {K : Nat → Option ρ} (h : aQ E σ a i K = some z) : (∃ k n f b, σ.1 a = some (.inl (k, n, .inr (.inr (.inr (.inr f))))) ∧ (k = 4 ∨ k = 5 ∨ k = 6) ∧ vp_in i n ∧ f i.toNatClampNeg = some b ∧ K b = some z) ∨ (a = E.2.2.2.1 ∧ vp_in i 29 ∧ K (E.1 i.toNatClampNeg) = some z) := by
  unfold aQ at h
  split at h
  · next k n f he =>
    obtain ⟨h1, h2⟩ := iv_if h
    rw [Bool.and_eq_true, Bool.and_eq_true] at h1
    split at h2
    · next b hb =>
      have k1 := Nat.le_of_ble_eq_true h1.1
      have k2 := Nat.le_of_ble_eq_true h1.2.1
      exact Or.inl ⟨k, n, f, b, he, ((Nat.lt_or_ge k 5).elim (fun q => Or.inl (Nat.le_antisymm (Nat.le_of_lt_succ q) k1)) (fun q => (Nat.lt_or_ge k 6).elim (fun q2 => Or.inr (Or.inl (Nat.le_antisymm (Nat.le_of_lt_succ q2) q))) (fun q2 => Or.inr (Or.inr (Nat.le_antisymm k2 q2))))), iv_xin h1.2.2, hb, h2⟩
    · cases h2
  · obtain ⟨h1, h2⟩ := iv_if h
    rw [Bool.and_eq_true] at h1
    exact Or.inr ⟨Nat.eq_of_beq_eq_true h1.1, iv_xin h1.2, h2⟩
  · cases h
theorem iv_aN {E : xEn} {σ : xH} {a : Nat} {K : Int32 → Option ρ} (h : aN E σ a K = some z) : (∃ k n x, σ.1 a = some (.inl (k, n, x)) ∧ k ≤ 6 ∧ K (nI n) = some z) ∨ (a = E.2.2.2.1 ∧ K 29 = some z) ∨ (∃ j, xfind E.2.2.1 a xNS = some j ∧ K (nI (xtx j).length) = some z) ∨ (a = eDc E ∧ K (nI 0) = some z) ∨ (a = eSa E ∧ K (nI (eSn E)) = some z) := by
  unfold aN at h
  split at h
  · next k n x he =>
    obtain ⟨h1, h2⟩ := iv_if h
    exact Or.inl ⟨k, n, x, he, Nat.le_of_ble_eq_true h1, h2⟩
  · cases hb : Nat.beq a E.2.2.2.1
    · rw [hb] at h
      dsimp only [cond] at h
      split at h
      · next j hj => exact Or.inr (Or.inr (Or.inl ⟨j, hj, h⟩))
      · cases hb2 : Nat.beq a (eDc E)
        · rw [hb2] at h
          obtain ⟨h1, h2⟩ := iv_if h
          exact Or.inr (Or.inr (Or.inr (Or.inr ⟨Nat.eq_of_beq_eq_true h1, h2⟩)))
        · rw [hb2] at h
          exact Or.inr (Or.inr (Or.inr (Or.inl ⟨Nat.eq_of_beq_eq_true hb2, h⟩)))
    · rw [hb] at h
      exact Or.inr (Or.inl ⟨Nat.eq_of_beq_eq_true hb, h⟩)
  · cases h
theorem iv_sI {σ : xH} {a : Nat} {i : Int32} {x : Int32} {K : xH → Option ρ} (h : sI σ a i x K = some z) : ∃ n f, σ.1 a = some (.inl (0, n, .inl f)) ∧ vp_in i n ∧ K (xup σ.1 a (.inl (0, n, .inl (upd f i.toNatClampNeg x))), σ.2) = some z := by
  unfold sI at h
  split at h
  · next k n f he =>
    obtain ⟨h1, h2⟩ := iv_if h
    rw [Bool.and_eq_true] at h1
    have hc := Nat.eq_of_beq_eq_true h1.1
    subst hc
    exact ⟨n, f, he, iv_xin h1.2, h2⟩
  · cases h
theorem iv_sB {σ : xH} {a : Nat} {i : Int32} {x : Int32} {K : xH → Option ρ} (h : sB σ a i x K = some z) : ∃ n f, σ.1 a = some (.inl (1, n, .inl f)) ∧ vp_in i n ∧ K (xup σ.1 a (.inl (1, n, .inl (upd f i.toNatClampNeg (vp_nar .byte x)))), σ.2) = some z := by
  unfold sB at h
  split at h
  · next k n f he =>
    obtain ⟨h1, h2⟩ := iv_if h
    rw [Bool.and_eq_true] at h1
    have hc := Nat.eq_of_beq_eq_true h1.1
    subst hc
    exact ⟨n, f, he, iv_xin h1.2, h2⟩
  · cases h
theorem iv_sL {σ : xH} {a : Nat} {i : Int32} {x : Int64} {K : xH → Option ρ} (h : sL σ a i x K = some z) : ∃ n f, σ.1 a = some (.inl (2, n, .inr (.inl f))) ∧ vp_in i n ∧ K (xup σ.1 a (.inl (2, n, .inr (.inl (vp_updL f i.toNatClampNeg x)))), σ.2) = some z := by
  unfold sL at h
  split at h
  · next k n f he =>
    obtain ⟨h1, h2⟩ := iv_if h
    rw [Bool.and_eq_true] at h1
    have hc := Nat.eq_of_beq_eq_true h1.1
    subst hc
    exact ⟨n, f, he, iv_xin h1.2, h2⟩
  · cases h
theorem iv_sD {σ : xH} {a : Nat} {i : Int32} {x : UInt64} {K : xH → Option ρ} (h : sD σ a i x K = some z) : ∃ n f, σ.1 a = some (.inl (3, n, .inr (.inr (.inr (.inl f))))) ∧ vp_in i n ∧ K (xup σ.1 a (.inl (3, n, .inr (.inr (.inr (.inl (vf_upd f i.toNatClampNeg x)))))), σ.2) = some z := by
  unfold sD at h
  split at h
  · next k n f he =>
    obtain ⟨h1, h2⟩ := iv_if h
    rw [Bool.and_eq_true] at h1
    have hc := Nat.eq_of_beq_eq_true h1.1
    subst hc
    exact ⟨n, f, he, iv_xin h1.2, h2⟩
  · cases h
theorem iv_sQ {E : xEn} {σ : xH} {a : Nat} {i : Int32} {b : Nat} {K : xH → Option ρ} (h : sQ E σ a i b K = some z) : ∃ k n f, σ.1 a = some (.inl (k, n, .inr (.inr (.inr (.inr f))))) ∧ vp_in i n ∧ ((k = 4 ∧ ∃ j, xfind E.1 b 29 = some j) ∨ (k = 5 ∧ ∃ fs, σ.1 b = some (.inr (2, fs))) ∨ (k = 6 ∧ ∃ fs, σ.1 b = some (.inr (9, fs)))) ∧ K (xup σ.1 a (.inl (k, n, .inr (.inr (.inr (.inr (va_up f i.toNatClampNeg (some b))))))), σ.2) = some z := by
  unfold sQ at h
  split at h
  · next k n f he =>
    obtain ⟨h1, h2⟩ := iv_if h
    rw [Bool.and_eq_true] at h1
    refine ⟨k, n, f, he, iv_xin h1.1, ?_, h2⟩
    have h3 := h1.2
    unfold xfits at h3
    cases h4 : Nat.beq k 4
    · rw [h4] at h3
      cases h5 : Nat.beq k 5
      · rw [h5] at h3
        cases h6 : Nat.beq k 6
        · rw [h6] at h3; cases h3
        · rw [h6] at h3
          dsimp only [cond] at h3
          split at h3
          · next c fs hb =>
            have hc := Nat.eq_of_beq_eq_true h3
            subst hc
            exact Or.inr (Or.inr ⟨Nat.eq_of_beq_eq_true h6, fs, hb⟩)
          · cases h3
      · rw [h5] at h3
        dsimp only [cond] at h3
        split at h3
        · next c fs hb =>
          have hc := Nat.eq_of_beq_eq_true h3
          subst hc
          exact Or.inr (Or.inl ⟨Nat.eq_of_beq_eq_true h5, fs, hb⟩)
        · cases h3
    · rw [h4] at h3
      exact Or.inl ⟨Nat.eq_of_beq_eq_true h4, Option.isSome_iff_exists.mp h3⟩
  · cases h
theorem iv_xcpr {i j n : Int32} {m m' : Nat} (h : xcpr i j n m m' = true) : 0 ≤ i.toInt ∧ 0 ≤ j.toInt ∧ 0 ≤ n.toInt ∧ i.toInt + n.toInt ≤ m ∧ j.toInt + n.toInt ≤ m' := of_decide_eq_true h
theorem iv_cpI {E : xEn} {σ : xH} {a b : Nat} {i j n : Int32} {K : xH → Option ρ} (h : cpI E σ a i b j n K = some z) : ∃ k m f m' g, σ.1 b = some (.inl (k, m', .inl g)) ∧ k ≤ 1 ∧ (σ.1 a = some (.inl (k, m, .inl f)) ∨ (k = 1 ∧ ∃ s, xfind E.2.2.1 a xNS = some s ∧ m = (xtx s).length ∧ f = fun q => (xtx s).getD q 0)) ∧ xcpr i j n m m' = true ∧ (k = 0 ∨ xbf f m = true) ∧ K (xup σ.1 b (.inl (k, m', .inl (va_cpy f g i.toNatClampNeg j.toNatClampNeg n.toNatClampNeg))), σ.2) = some z := by
  unfold cpI at h
  split at h
  · next k' m' g hg =>
    split at h
    · next k m f he =>
      obtain ⟨h1, h2⟩ := iv_if h
      simp only [Bool.and_eq_true] at h1
      obtain ⟨q1, q2, -, q4, q5⟩ := h1
      have e1 := Nat.eq_of_beq_eq_true q1
      subst e1
      rw [Bool.or_eq_true] at q5
      exact ⟨k, m, f, m', g, hg, Nat.le_of_ble_eq_true q2, Or.inl he, q4, q5.imp Nat.eq_of_beq_eq_true id, h2⟩
    · split at h
      · next s hs =>
        obtain ⟨h1, h2⟩ := iv_if h
        simp only [Bool.and_eq_true] at h1
        have e1 := Nat.eq_of_beq_eq_true h1.1
        subst e1
        exact ⟨1, _, _, m', g, hg, Nat.le_refl 1, Or.inr ⟨rfl, s, hs, rfl, rfl⟩, h1.2.1, Or.inr h1.2.2, h2⟩
      · cases h
    · cases h
  · cases h
theorem iv_xck {σ : xH} {ci a : Nat} {K : Option ρ} (h : xck σ ci a K = some z) : (∃ fs, σ.1 a = some (.inr (ci, fs))) ∧ K = some z := by
  unfold xck at h
  split at h
  · next c fs he =>
    obtain ⟨h1, h2⟩ := iv_if h
    have hc := Nat.eq_of_beq_eq_true h1
    subst hc
    exact ⟨⟨fs, he⟩, h2⟩
  · cases h
theorem iv_iK {E : xEn} {info : List Nat} {k : Value → Option ρ} (h : iK E info k = some z) : (∃ c, info = [0, c] ∧ k (.int (nI c)) = some z) ∨ (∃ c, info = [1, c] ∧ k (.int (- nI c)) = some z) ∨ ∃ i, info = [2, i] ∧ i < xNS ∧ k (.ref (E.2.1 i)) = some z := by
  unfold iK at h
  split at h
  · exact Or.inl ⟨_, rfl, h⟩
  · exact Or.inr (Or.inl ⟨_, rfl, h⟩)
  · obtain ⟨h1, h2⟩ := iv_if h
    exact Or.inr (Or.inr ⟨_, rfl, Nat.le_of_ble_eq_true h1, h2⟩)
  · cases h
theorem iv_iK2 {info : List Nat} {k : Int64 → Option ρ} (h : iK2 info k = some z) : (∃ c, info = [0, c] ∧ k (lN c) = some z) ∨ ∃ c, info = [1, c] ∧ k (- lN c) = some z := by
  unfold iK2 at h
  split at h
  · exact Or.inl ⟨_, rfl, h⟩
  · exact Or.inr ⟨_, rfl, h⟩
  · cases h
theorem iv_iD {info : List Nat} {k : UInt64 → Option ρ} (h : iD info k = some z) : info = [0] ∧ k FP.dconst0 = some z := by
  unfold iD at h
  split at h
  · exact ⟨rfl, h⟩
  · cases h
theorem iv_iF {info : List Nat} {k : UInt32 → Option ρ} (h : iF info k = some z) : (info = [0] ∧ k FP.fconst0 = some z) ∨ (info = [1] ∧ k FP.fconst1 = some z) := by
  unfold iF at h
  split at h
  · exact Or.inl ⟨rfl, h⟩
  · exact Or.inr ⟨rfl, h⟩
  · cases h
theorem iv_xgf {E : xEn} {σ : xH} {info : List Nat} {a : Nat} {k : Value → Option ρ} (h : xgf E σ info a k = some z) : (info = [77] ∧ ∃ i, xfind E.1 a 29 = some i ∧ k (.ref (E.2.1 (xtt i))) = some z) ∨ (info = [78] ∧ ((∃ i, xfind E.2.1 a xNS = some i ∧ k (.ref (E.2.2.1 i)) = some z) ∨ ∃ fs q, σ.1 a = some (.inr (11, fs)) ∧ fs[0]? = some (.ref q) ∧ k (.ref q) = some z)) ∨
    (info = [79] ∧ ((∃ i, xfind E.2.1 a xNS = some i ∧ k (.int (nI 0)) = some z) ∨ ∃ fs x, σ.1 a = some (.inr (11, fs)) ∧ fs[1]? = some (.int x) ∧ k (.int x) = some z)) ∨ xfld σ info a k = some z := by
  unfold xgf at h
  split at h
  · split at h
    · next i hi => exact Or.inl ⟨rfl, i, hi, h⟩
    · cases h
  · unfold gU at h
    split at h
    · split at h
      · next i hi => exact Or.inr (Or.inl ⟨rfl, Or.inl ⟨i, hi, h⟩⟩)
      · cases h
    · exact Or.inr (Or.inl ⟨rfl, Or.inr (iv_gR h)⟩)
  · unfold gC at h
    split at h
    · split at h
      · next i hi => exact Or.inr (Or.inr (Or.inl ⟨rfl, Or.inl ⟨i, hi, h⟩⟩))
      · cases h
    · exact Or.inr (Or.inr (Or.inl ⟨rfl, Or.inr (iv_gI h)⟩))
  · exact Or.inr (Or.inr (Or.inr h))
theorem iv_xgs {E : xEn} {info : List Nat} {k : Value → Option ρ} (h : xgs E info k = some z) : (∃ i, info = [0, i] ∧ i < 29 ∧ k (.ref (E.1 i)) = some z) ∨ (info = [1] ∧ k (.ref E.2.2.2.1) = some z) ∨ (info = [2] ∧ k (.int 1) = some z) ∨ (info = [3] ∧ k (eFm E) = some z) ∨ (info = [4] ∧ k (.ref (eD1 E)) = some z) ∨ (info = [5] ∧ k (.ref (eD2 E)) = some z) ∨ (info = [6] ∧ k (.ref (eDc E)) = some z) := by
  unfold xgs at h
  split at h
  · obtain ⟨h1, h2⟩ := iv_if h
    exact Or.inl ⟨_, rfl, Nat.le_of_ble_eq_true h1, h2⟩
  · exact Or.inr (Or.inl ⟨rfl, h⟩)
  · exact Or.inr (Or.inr (Or.inl ⟨rfl, h⟩))
  · exact Or.inr (Or.inr (Or.inr (Or.inl ⟨rfl, h⟩)))
  · exact Or.inr (Or.inr (Or.inr (Or.inr (Or.inl ⟨rfl, h⟩))))
  · exact Or.inr (Or.inr (Or.inr (Or.inr (Or.inr (Or.inl ⟨rfl, h⟩)))))
  · exact Or.inr (Or.inr (Or.inr (Or.inr (Or.inr (Or.inr ⟨rfl, h⟩)))))
  · cases h
theorem iv_xiret {info : List Nat} {x : Int32} {k : Option ρ} (h : xiret info x k = some z) : ∃ t, info = [t] ∧ (t = 0 ∨ narrow (xty t) (.int x) = .int x) ∧ k = some z := by
  unfold xiret at h
  split at h
  · exact ⟨0, rfl, Or.inl rfl, h⟩
  · obtain ⟨h1, h2⟩ := iv_if h
    exact ⟨_, rfl, Or.inr (of_decide_eq_true h1), h2⟩
  · cases h
end INV
end
section
/-! THE WORLD ON THE HEAP, and the rows of the machine that read and write it. -/
abbrev vwCl : List vw_C := [(RX0, TX0, 3), (RX1, TX1, 3), (RX2, TX2, 9), (RX3, TX3, 10), (RX4, TX4, 5), (RX5, TX5, 5), (RX6, TX6, 6), (RX9, TX9, 6), (RX10, TX10, 7), (RX11, TX11, 6), (RX12, TX12, 6), (RJ0, TJ0, 4), (RJ4, TJ4, 4), (RJx4a65c, TJx4a65c, 3)]
abbrev xG : Type := va_G × (Nat → ClassId)
def xce (ar : Nat → ClassId) (e : va_E) : va_E := match e with
  | .inl x => .inl (ar x.1, x.2)
  | .inr o => .inr o
def xtys (ar : Nat → ClassId) : List (ClassId × FieldType) := [(ar 0, .int), (ar 1, .byte), (ar 2, .long), (ar 3, .double), (ar 4, .object "ShellWatch$Token"), (ar 5, .object "ShellWatch$Game"), (ar 6, .object "java/lang/Object")]
/-- the cells of the world lie in H -/
def xWo (G : xG) (w : Nat → Option va_E) (H : Heap) : Prop := ∀ (a : Nat) (e : va_E), w a = some e → va_at G.1 vwCl (a, xce G.2 e) H
/-- where a walk stands: the heap is as long as told, it holds the world, the world lies in A, outside A it is as at the start -/
def xS (G : xG) (A : Nat → Prop) (H0 : Heap) (σ : xH) (H : Heap) (locs : List Loc) : Prop := H.size = σ.2 ∧ xWo G σ.1 H ∧ (∀ a, σ.1 a ≠ none → A a) ∧ va_S A H0 H locs
theorem xWo.one {G : xG} {w : Nat → Option va_E} {H : Heap} (h : xWo G w H) {a : Nat} {e : va_E} (he : w a = some e) : va_P G.1 vwCl [(a, xce G.2 e)] H := by
  intro k q hk
  match k, hk with
  | 0, hk => cases hk; exact h a e he
theorem xup_same {w : Nat → Option va_E} {a : Nat} {e : va_E} : xup w a e a = some e := by
  unfold xup
  rw [Nat.beq_refl]
  rfl
theorem xup_ne {w : Nat → Option va_E} {a b : Nat} {e : va_E} (h : b ≠ a) : xup w a e b = w b := by
  unfold xup
  cases hb : Nat.beq b a
  · rfl
  · exact absurd (Nat.eq_of_beq_eq_true hb) h
theorem xS.put {G : xG} {A : Nat → Prop} {H0 H H' : Heap} {σ : xH} {locs : List Loc} {a i : Nat} {e e' : va_E} (hS : xS G A H0 σ H locs) (he : σ.1 a = some e) (e1 : va_at G.1 vwCl (a, xce G.2 e') H') (e2 : H'.size = H.size) (e3 : ∀ q, q ≠ a → H'[q]? = H[q]?) : xS G A H0 (xup σ.1 a e', σ.2) H' (locs ++ [⟨a, i⟩]) := by
  obtain ⟨h1, h2, h3, h4⟩ := hS
  refine ⟨e2.trans h1, fun b x hb => ?_, fun b hb => ?_, h4.put e2 e3 (h3 a (by rw [he]; exact fun h => by cases h))⟩
  · by_cases hab : b = a
    · subst hab
      dsimp only at hb
      rw [xup_same] at hb
      cases hb
      exact e1
    · dsimp only at hb
      rw [xup_ne hab] at hb
      exact (h2 b x hb).kept (e3 b hab)
  · by_cases hab : b = a
    · subst hab
      exact h3 b (by rw [he]; exact fun h => by cases h)
    · dsimp only at hb
      rw [xup_ne hab] at hb
      exact h3 b hb
/-- AbstractStringBuilder's private methods on a StringBuilder: the word that the tables leave to be found -/
def xprv : List MethodName := [yJ5_ensureCapacityInternal_d00df, yJ5_newCapacity_0f7a4, yJ5_putStringAt_47b60, yJ5_inflateIfNeededFor_a7421]
def xTbl : List Cond := xprv.map (fun y => Cond.selects RJ4 y y) ++ lw_tbl
theorem x_selP {y : MethodName} {s : State} {args : Array Value} {C : String} {n : Nat} (hy : y.cls ≠ "java/lang/invoke/MethodHandle" ∧ y.cls ≠ "java/lang/invoke/VarHandle")
    (hins : (Cond.instantiable C n).before args s = true) (hsame : (Cond.sameMethod y.cls y.cls y.name y.desc).before args s = true) (hpriv : (Cond.privateMethod y).before args s = true) (hinst : (Cond.instanceMethod y).before args s = true) :
    (Cond.selects C y y).before args s = true := by
  obtain ⟨c, k, hc, hk, -⟩ := Cond.instantiable_spec hins
  obtain ⟨mk, methM, hnamed, hmethM, -, -⟩ := Cond.instanceMethod_spec hinst
  have hfound : s.methodFound? y.cls y.name y.desc = some mk := State.methodFound?_of_named hnamed hy
  obtain ⟨cn, ck, r1, hcn, hck, hni, hf, hn1⟩ := Cond.sameMethod_found hsame
  have hcls : mk.cls = cn := Option.some.inj ((findClass_of_methodNamed hnamed).symm.trans hcn)
  have hsel : selectMethod {} s.vm c mk = .method mk := selectMethod_private hmethM (Cond.privateMethod_at hpriv mk methM hnamed hmethM)
  simp only [Cond.before, Cond.holds, Cond.value, hc, hfound, hnamed, hsel, hcls, hck]
  simp; exact hni
theorem xprv_ok : ∀ y ∈ xprv, (y.cls ≠ "java/lang/invoke/MethodHandle" ∧ y.cls ≠ "java/lang/invoke/VarHandle") ∧ Cond.sameMethod y.cls y.cls y.name y.desc ∈ lw_tbl ∧ Cond.privateMethod y ∈ lw_tbl ∧ Cond.instanceMethod y ∈ lw_tbl := by decide +kernel
theorem xins_sb : Cond.instantiable RJ4 4 ∈ lw_tbl := by decide +kernel
theorem xTbl_ok {s : State} {args : Array Value} (h : ∀ w ∈ lw_tbl, w.before args s = true) : ∀ w ∈ xTbl, w.before args s = true := by
  intro w hw
  rcases List.mem_append.mp hw with hw | hw
  · obtain ⟨y, hy, rfl⟩ := List.mem_map.mp hw
    obtain ⟨h0, h1, h2, h3⟩ := xprv_ok y hy
    exact x_selP h0 (h _ xins_sb) (h _ h1) (h _ h2) (h _ h3)
  · exact h w hw
def xWs : List Cond := xTbl.filter goodWord
def xnest (w : Cond) : Bool := match w with
  | .fieldLinkNest .. => true
  | .methodLinkNest .. => true
  | .castable .. => true
  | .declares _ => true
  | _ => false
/-- what the tables say beside the good words -/
def xNw (U : State) : Prop := ∀ w ∈ lw_tbl, xnest w = true → va_Nw w U
theorem xNw.warm {s U : State} (hW : s.WarmedH U.vm) (h : xNw s) : xNw U := by
  intro w hw hn
  have h1 := h w hw hn
  cases w <;> first | exact va_Nw.warmF hW h1 | exact va_Nw.warmM hW h1 | exact va_Nw.warmC hW h1 | exact va_Nw.warmD hW h1 | cases hn
/-- a field of the world's classes, as the pool names it: own (0), of a nest mate (1), own and final (2) -/
def xokF (own : String) (idx ci k nest : Nat) : Bool := match vwCl[ci]? with
  | some r => Nat.blt k r.2.2 && (bif Nat.beq nest 1 then decide (Cond.fieldLinkNest own idx (r.2.1 k).1 (r.2.1 k).2.1 (r.2.1 k).2.2.1 "ShellWatch" ∈ lw_tbl) else bif Nat.beq nest 3 then decide (Cond.fieldLinkNest own idx (r.2.1 k).1 (r.2.1 k).2.1 (r.2.1 k).2.2.1 "ShellWatchLaw" ∈ lw_tbl) else bif Nat.beq nest 4 then decide (Cond.fieldLink own idx own (r.2.1 k).2.1 (r.2.1 k).2.2.1 ∈ xWs) && decide (Cond.sameField own (r.2.1 k).1 (r.2.1 k).2.1 (r.2.1 k).2.2.1 ∈ xWs) else decide (Cond.fieldLink own idx (r.2.1 k).1 (r.2.1 k).2.1 (r.2.1 k).2.2.1 ∈ xWs))
  | none => false
theorem xin0 : ∀ w ∈ wsX00, w ∈ xWs := by decide +kernel
theorem xin1 : ∀ w ∈ wsX10, w ∈ xWs := by decide +kernel
theorem xin2 : ∀ w ∈ wsX20, w ∈ xWs := by decide +kernel
theorem xin3 : ∀ w ∈ wsX30, w ∈ xWs := by decide +kernel
theorem xin4 : ∀ w ∈ wsX40, w ∈ xWs := by decide +kernel
theorem xin5 : ∀ w ∈ wsX50, w ∈ xWs := by decide +kernel
theorem xin6 : ∀ w ∈ wsX60, w ∈ xWs := by decide +kernel
theorem xin7 : ∀ w ∈ wsX90, w ∈ xWs := by decide +kernel
theorem xin8 : ∀ w ∈ wsX100, w ∈ xWs := by decide +kernel
theorem xin9 : ∀ w ∈ wsX110, w ∈ xWs := by decide +kernel
theorem xin10 : ∀ w ∈ wsX120, w ∈ xWs := by decide +kernel
theorem xin11 : ∀ w ∈ wsJ00, w ∈ xWs := by decide +kernel
theorem xin12 : ∀ w ∈ wsJ40, w ∈ xWs := by decide +kernel
theorem xin13 : ∀ w ∈ wsJx4a65c0, w ∈ xWs := by decide +kernel
theorem xcl_ok {ci : Nat} {r : vw_C} (h : vwCl[ci]? = some r) : (∀ w ∈ u_ws r.1 r.2.1 r.2.2, w ∈ xWs) ∧ (∀ k, k < r.2.2 → parseFieldDescriptor (r.2.1 k).2.2.1 = some (xtyp ci k)) ∧ (∀ a, a < r.2.2 → ∀ b, b < r.2.2 → a ≠ b → (r.2.1 a).2.1 ≠ (r.2.1 b).2.1) := by
  match ci, h with
  | 0, h => cases h; exact ⟨xin0, tyX0_ok, nmX0⟩
  | 1, h => cases h; exact ⟨xin1, tyX1_ok, nmX1⟩
  | 2, h => cases h; exact ⟨xin2, tyX2_ok, nmX2⟩
  | 3, h => cases h; exact ⟨xin3, tyX3_ok, nmX3⟩
  | 4, h => cases h; exact ⟨xin4, tyX4_ok, nmX4⟩
  | 5, h => cases h; exact ⟨xin5, tyX5_ok, nmX5⟩
  | 6, h => cases h; exact ⟨xin6, tyX6_ok, nmX6⟩
  | 7, h => cases h; exact ⟨xin7, tyX9_ok, nmX9⟩
  | 8, h => cases h; exact ⟨xin8, tyX10_ok, nmX10⟩
  | 9, h => cases h; exact ⟨xin9, tyX11_ok, nmX11⟩
  | 10, h => cases h; exact ⟨xin10, tyX12_ok, nmX12⟩
  | 11, h => cases h; exact ⟨xin11, tyJ0_ok, nmJ0⟩
  | 12, h => cases h; exact ⟨xin12, tyJ4_ok, nmJ4⟩
  | 13, h => cases h; exact ⟨xin13, tyJx4a65c_ok, nmJx4a65c⟩
  | k + 14, h => simp [vwCl] at h
section ROWS
variable {p : Program} {l : Launch} {e : Env} {R : Room} {s : State} {m : MethodId} {args : Array Value} {below : List Frame} {meth : Method} {c : Code} {H : Heap} {locs : List Loc} {cells slots : Nat} {Q : State → Prop}
variable {cc : ByteArray} {pc : Nat} {ls : Array Slot} {rest : List Value} {G : xG} {A : Nat → Prop} {σ : xH} {H0 : Heap} {own : String} {a : Nat}
theorem x_get (hx : p.tables.exec = Jvm.exec) (hb : c.code = cc) (hts : ∀ w ∈ xWs, w.before args s = true) (hnw : xNw s) (hown : s.vm.findClass own = some m.cls) (hK : va_K G.1 vwCl (xtys G.2) s) (hS : xS G A H0 σ H locs)
    {idx ci k nest : Nat} {fs : List Value} {v : Value} (hok : xokF own idx ci k nest = true) (he : σ.1 a = some (.inr (ci, fs))) (hv : fs[k]? = some v) (hdg : decode cc pc = .ok (.getfield idx, 3))
    (kk : W p l e R s m args below meth c H locs cells slots Q (F0 m (pc + 3) ls (v :: rest))) : W p l e R s m args below meth c H locs cells slots Q (F0 m pc ls (.ref a :: rest)) := by
  unfold xokF at hok
  split at hok
  · next r hr =>
    rw [Bool.and_eq_true] at hok
    have hk := Nat.le_of_ble_eq_true hok.1
    have hP := hS.2.1.one he
    have hin := (xcl_ok hr).1
    cases hn : Nat.beq nest 1
    · rw [hn] at hok
      cases h3 : Nat.beq nest 3
      · rw [h3] at hok
        cases h4 : Nat.beq nest 4
        · rw [h4] at hok
          exact va_get (ws := [(a, .inr (ci, fs))]) hx hb hts hin hown hK hP 0 rfl hr k hk (hts _ (of_decide_eq_true hok.2)) (fun _ h => h) hv hdg kk
        · rw [h4] at hok
          have hok2 : (decide (Cond.fieldLink own idx own (r.2.1 k).2.1 (r.2.1 k).2.2.1 ∈ xWs) && decide (Cond.sameField own (r.2.1 k).1 (r.2.1 k).2.1 (r.2.1 k).2.2.1 ∈ xWs)) = true := hok.2
          rw [Bool.and_eq_true, decide_eq_true_eq, decide_eq_true_eq] at hok2
          obtain ⟨r', h1, cell, q1, q2, q3, q4⟩ := hS.2.1 a _ he
          have hrr : r' = r := Option.some.inj (h1.symm.trans hr)
          subst hrr
          obtain ⟨hSl, hfc, kC, hkC, hkind⟩ := hK.1 ci _ hr
          obtain ⟨cf, kf, fi, f, hi, hsl⟩ := hSl k hk
          have hst := (u_facts hfc hkC (u_lays hts hin hk) hi).1
          have hv2 : vp_V fs k = v := by unfold vp_V; rw [List.getD_eq_getElem?_getD, hv]; rfl
          have hs9 := q4 k hk
          rw [hv2] at hs9
          exact W.getf hx hb hown (hts _ hok2.1) (u_same (hts _ hok2.2) _ hi) hst q1 (by rw [q3]; exact fun h => by cases h) (by rw [hsl]; exact hs9) rfl rfl hdg kk
      · rw [h3] at hok
        exact va_getN (ws := [(a, .inr (ci, fs))]) hx hb hts hin hown hK hP 0 rfl hr k hk (va_Nw.use rfl (hnw _ (of_decide_eq_true hok.2) rfl)) (fun _ h => h) hv hdg kk
    · rw [hn] at hok
      exact va_getN (ws := [(a, .inr (ci, fs))]) hx hb hts hin hown hK hP 0 rfl hr k hk (va_Nw.use rfl (hnw _ (of_decide_eq_true hok.2) rfl)) (fun _ h => h) hv hdg kk
  · cases hok
/-- of the put: the type that the tag names, and that the field is no final one, or one of a constructor's own class -/
def xokP (own : String) (ci k t nest : Nat) : Bool := match vwCl[ci]? with
  | some r => decide (xtyp ci k = bif Nat.beq t 5 then .boolean else bif Nat.beq t 6 then .byte else bif Nat.beq t 1 then .long else bif Nat.beq t 0 then .int else xtyp ci k) && ((bif Nat.beq t 2 then (match xtyp ci k with
    | .object _ => true
    | .array _ => true
    | _ => false) else true) && (bif Nat.beq nest 2 then (r.2.1 k).2.2.2 && decide ((r.2.1 k).1 = own) else !(r.2.1 k).2.2.2))
  | none => false
end ROWS
end
section
/-! The rows that write, each with the heap's length told. -/
section ROWS2
variable {p : Program} {l : Launch} {e : Env} {R : Room} {s : State} {m : MethodId} {args : Array Value} {below : List Frame} {meth : Method} {c : Code} {H : Heap} {locs : List Loc} {cells slots : Nat} {Q : State → Prop}
variable {cc : ByteArray} {pc : Nat} {ls : Array Slot} {rest : List Value} {G : xG} {A : Nat → Prop} {σ : xH} {H0 : Heap} {own : String} {a : Nat}
theorem xb_fits (x : Int32) : fits .byte (.int x.toInt8.toInt32) = true := by
  have h1 := Int8.le_toInt x.toInt8
  have h2 := Int8.toInt_lt x.toInt8
  have h3 : x.toInt8.toInt32.toInt = x.toInt8.toInt := Int8.toInt_toInt32 _
  have h4 : ((-128 : Int32)).toInt = -128 := by decide
  have h5 : ((127 : Int32)).toInt = 127 := by decide
  simp only [fits, Bool.and_eq_true, decide_eq_true_eq, Int32.le_iff_toInt_le, h3, h4, h5]
  omega
theorem xfit_ok {ci k t : Nat} {r : vw_C} {nest : Nat} {v : Value} (hr : vwCl[ci]? = some r) (hok : xokP own ci k t nest = true) (h : xfit t v) : narrow (xtyp ci k) v = v ∧ fits (xtyp ci k) v = true := by
  unfold xokP at hok
  rw [hr] at hok
  simp only [Bool.and_eq_true, decide_eq_true_eq] at hok
  obtain ⟨h1, h2, -⟩ := hok
  rcases h with ⟨rfl, x, rfl⟩ | ⟨rfl, x, rfl, hn⟩ | ⟨rfl, x, rfl⟩ | ⟨rfl, x, rfl⟩ | ⟨rfl, x, rfl, hn⟩
  · have h3 : xtyp ci k = .int := h1
    rw [h3]
    exact ⟨rfl, rfl⟩
  · have h3 : xtyp ci k = .boolean := h1
    rw [h3]
    refine ⟨hn, ?_⟩
    have h4 : x &&& 1 = x := by
      have := hn
      simpa [narrow] using this
    have h5 : x = 0 ∨ x = 1 := by
      obtain ⟨j, hj, hxj⟩ := pk_andE x (m := 1) 1 rfl
      rw [← h4, hxj]
      match j, hj with
      | 0, _ => exact Or.inl rfl
      | 1, _ => exact Or.inr rfl
    rcases h5 with rfl | rfl <;> rfl
  · have h3 : xtyp ci k = .long := h1
    rw [h3]
    exact ⟨rfl, rfl⟩
  · have h3 : (match xtyp ci k with
      | .object _ => true
      | .array _ => true
      | _ => false) = true := h2
    split at h3
    · next C hC => rw [hC]; exact ⟨rfl, rfl⟩
    · next C hC => rw [hC]; exact ⟨rfl, rfl⟩
    · cases h3
  · have h3 : xtyp ci k = .byte := h1
    rw [h3]
    refine ⟨hn, ?_⟩
    have h4 : x.toInt8.toInt32 = x := by
      have := hn
      simpa [narrow] using this
    show fits .byte (.int x) = true
    rw [← h4]
    exact xb_fits x
theorem x_put (hx : p.tables.exec = Jvm.exec) (hb : c.code = cc) (hts : ∀ w ∈ xWs, w.before args s = true) (hnw : xNw s) (hown : s.vm.findClass own = some m.cls) (hK : va_K G.1 vwCl (xtys G.2) s) (hS : xS G A H0 σ H locs)
    {idx ci k t nest : Nat} {fs : List Value} {v : Value} (hok : xokF own idx ci k nest = true) (hokP : xokP own ci k t nest = true) (hini : nest = 2 → meth.name = "<init>") (he : σ.1 a = some (.inr (ci, fs))) (hl : k < fs.length) (hf : xfit t v) (hdg : decode cc pc = .ok (.putfield idx, 3))
    (kk : ∀ (H1 : Heap) (locs1 : List Loc), xS G A H0 (xup σ.1 a (.inr (ci, fs.set k v)), σ.2) H1 locs1 → W p l e R s m args below meth c H1 locs1 cells slots Q (F0 m (pc + 3) ls rest)) : W p l e R s m args below meth c H locs cells slots Q (F0 m pc ls (v :: .ref a :: rest)) := by
  unfold xokF at hok
  split at hok
  · next r hr =>
    rw [Bool.and_eq_true] at hok
    have hk := Nat.le_of_ble_eq_true hok.1
    obtain ⟨hin, hty, hnm⟩ := xcl_ok hr
    obtain ⟨hn, hft⟩ := xfit_ok hr hokP hf
    obtain ⟨C, T, N⟩ := r
    dsimp only at hin hty hnm hk hok
    have hap := va_apart (own := own) hts hin (xtyp ci) hty hnm hK hr
    obtain ⟨r, h1, cell, q1, q2, q3, q4⟩ := hS.2.1 a _ he
    have hrr : r = (C, T, N) := Option.some.inj (h1.symm.trans hr)
    subst hrr
    obtain ⟨hSl, hfc, kC, hkC, hkind⟩ := hK.1 ci _ hr
    obtain ⟨cf, kf, fi, f, hi, hsl⟩ := hSl k hk
    have hst := (u_facts hfc hkC (u_lays hts hin hk) hi).1
    have hP1 : xokP own ci k t nest = true := hokP
    unfold xokP at hP1
    rw [hr] at hP1
    simp only [Bool.and_eq_true] at hP1
    have hfin := hP1.2.2
    have fin : ∀ (H' : Heap), H'[a]? = some (cell.setSlot (G.1.2 ci k) v) → H'.size = H.size → (∀ q, q ≠ a → H'[q]? = H[q]?) → W p l e R s m args below meth c H' (locs ++ [⟨a, G.1.2 ci k⟩]) cells slots Q (F0 m (pc + 3) ls rest) := by
      intro H' e1 e2 e3
      refine kk H' _ (hS.put he ?_ e2 e3)
      exact ⟨(C, T, N), hr, t_OB.to (V := updV (vp_V fs) k v) ⟨_, e1, q2, q3, t_set q4 hap hk v⟩ (fun j _ => vp_updV_set hl v j)⟩
    have hslot : G.1.2 ci k < cell.slots.size := k2_hasslot (q4 k hk)
    cases h2 : Nat.beq nest 2
    · rw [h2] at hfin
      have hfin0 : (T k).2.2.2 = false := by
        have : (!(T k).2.2.2) = true := hfin
        simpa using this
      have hlay := hts _ (hin _ (u_in_lay hk))
      unfold u_lay at hlay
      rw [if_neg (by rw [hfin0]; decide)] at hlay
      have h6 := u_store hfc hkC hkind hlay hi (hty k hk) hn hft
      cases hne : Nat.beq nest 1
      · rw [hne] at hok
        rcases Bool.eq_false_or_eq_true (Nat.beq nest 3) with h33 | h33
        · rw [h33] at hok
          have hlink := va_Nw.use (A := args) rfl (hnw _ (of_decide_eq_true hok.2) rfl)
          refine va_WputK hx hb (f := f) hown hlink hi hst (by rw [q2]; exact h6) q1 q3 (by rw [hsl]; exact hslot) rfl rfl hdg fun H' e1 e2 e3 => ?_
          rw [hsl] at e1 ⊢
          exact fin H' e1 e2 e3
        rw [h33] at hok
        rcases Bool.eq_false_or_eq_true (Nat.beq nest 4) with h44 | h44
        · rw [h44] at hok
          have hok2 : (decide (Cond.fieldLink own idx own (T k).2.1 (T k).2.2.1 ∈ xWs) && decide (Cond.sameField own (T k).1 (T k).2.1 (T k).2.2.1 ∈ xWs)) = true := hok.2
          rw [Bool.and_eq_true, decide_eq_true_eq, decide_eq_true_eq] at hok2
          refine W.putK hx hb (f := f) ⟨hown, hts _ hok2.1, ⟨_, _, _, u_same (hts _ hok2.2) _ hi⟩, hst⟩ (by rw [q2]; exact h6) q1 q3 (by rw [hsl]; exact hslot) rfl rfl hdg fun H' e1 e2 e3 => ?_
          rw [hsl] at e1 ⊢
          exact fin H' e1 e2 e3
        rw [h44] at hok
        have hlink := hts _ (of_decide_eq_true hok.2)
        refine W.putK hx hb (f := f) ⟨hown, hlink, ⟨_, _, _, hi⟩, hst⟩ (by rw [q2]; exact h6) q1 q3 (by rw [hsl]; exact hslot) rfl rfl hdg fun H' e1 e2 e3 => ?_
        rw [hsl] at e1 ⊢
        exact fin H' e1 e2 e3
      · rw [hne] at hok
        have hlink := va_Nw.use (A := args) rfl (hnw _ (of_decide_eq_true hok.2) rfl)
        refine va_WputK hx hb (f := f) hown hlink hi hst (by rw [q2]; exact h6) q1 q3 (by rw [hsl]; exact hslot) rfl rfl hdg fun H' e1 e2 e3 => ?_
        rw [hsl] at e1 ⊢
        exact fin H' e1 e2 e3
    · have hn2 := Nat.eq_of_beq_eq_true h2
      subst hn2
      rw [h2] at hfin
      have hfin1 : ((T k).2.2.2 && decide ((T k).1 = own)) = true := hfin
      rw [Bool.and_eq_true, decide_eq_true_eq] at hfin1
      have hlink := hts _ (of_decide_eq_true (show decide (Cond.fieldLink own idx (T k).1 (T k).2.1 (T k).2.2.1 ∈ xWs) = true from hok.2))
      have hlay := hts _ (hin _ (u_in_lay hk))
      unfold u_lay at hlay
      rw [if_pos hfin1.1] at hlay
      have hcf : m.cls = cf := by
        obtain ⟨_, _, c', _, _, _, -, -, hf', -, -, -, hown2, -⟩ := Cond.laysFinal_spec hlay
        have e1 : c' = cf := by have := hi.symm.trans hf'; simp at this; exact this.1.symm
        rw [hfin1.2] at hown2
        rw [← e1]; exact Option.some.inj (hown.symm.trans hown2)
      have h6 := u_fits hfc hkC hkind (Or.inr hlay) hi (hty k hk) hn hft
      refine W.putFinK hx hb hown hlink hi hst hcf (hini rfl) (by rw [q2]; exact h6) q1 q3 (by rw [hsl]; exact hslot) rfl rfl hdg fun H' e1 e2 e3 => ?_
      rw [hsl] at e1 ⊢
      exact fin H' e1 e2 e3
  · cases hok
theorem x_iast (hx : p.tables.exec = Jvm.exec) (hb : c.code = cc) (hK : va_K G.1 vwCl (xtys G.2) s) (hS : xS G A H0 σ H locs) {n : Nat} {f : Nat → Int32} (he : σ.1 a = some (.inl (0, n, .inl f))) {i x : Int32} (hin : vp_in i n) (hdg : decode cc pc = .ok (.iastore, 1))
    (kk : ∀ (H1 : Heap) (locs1 : List Loc), xS G A H0 (xup σ.1 a (.inl (0, n, .inl (upd f i.toNatClampNeg x))), σ.2) H1 locs1 → W p l e R s m args below meth c H1 locs1 cells slots Q (F0 m (pc + 1) ls rest)) : W p l e R s m args below meth c H locs cells slots Q (F0 m pc ls (.int x :: .int i :: .ref a :: rest)) := by
  refine W.iast hx hb (hS.2.1 a _ he) ((hK.2 0 _ rfl).1 n (fun j => .int (f j))) (fun q => by cases q) (by show ¬ (i < 0 ∨ (arrV _ _ _).slots.size ≤ _); rw [arrV_size]; exact hin) rfl rfl hdg fun H1 e1 z oq => ?_
  refine kk H1 _ (hS.put he ?_ z oq)
  show H1[a]? = some (vp_cell _ _)
  rw [e1]
  dsimp only [xce]
  rw [vp_cell_i, vp_cell_i, arrV_store]
  congr 2
  funext q
  by_cases hq : q = i.toNatClampNeg
  · subst hq
    simp [updV, upd]
  · simp [updV, upd, hq]
theorem x_bast (hx : p.tables.exec = Jvm.exec) (hb : c.code = cc) (hK : va_K G.1 vwCl (xtys G.2) s) (hS : xS G A H0 σ H locs) {n : Nat} {f : Nat → Int32} (he : σ.1 a = some (.inl (1, n, .inl f))) {i x : Int32} (hin : vp_in i n) (hdg : decode cc pc = .ok (.bastore, 1))
    (kk : ∀ (H1 : Heap) (locs1 : List Loc), xS G A H0 (xup σ.1 a (.inl (1, n, .inl (upd f i.toNatClampNeg (vp_nar .byte x)))), σ.2) H1 locs1 → W p l e R s m args below meth c H1 locs1 cells slots Q (F0 m (pc + 1) ls rest)) : W p l e R s m args below meth c H locs cells slots Q (F0 m pc ls (.int x :: .int i :: .ref a :: rest)) := by
  refine W.bast hx hb (hS.2.1 a _ he) ((hK.2 1 _ rfl).1 n (fun j => .int (f j))) (fun q => by cases q) (by show ¬ (i < 0 ∨ (arrV _ _ _).slots.size ≤ _); rw [arrV_size]; exact hin) rfl rfl hdg fun H1 e1 z oq => ?_
  refine kk H1 _ (hS.put he ?_ z oq)
  show H1[a]? = some (vp_cell _ _)
  rw [e1]
  dsimp only [xce]
  rw [vp_cell_i, vp_cell_i, arrV_store]
  congr 2
  funext q
  by_cases hq : q = i.toNatClampNeg
  · subst hq
    simp [updV, upd, vp_nar, narrow]
  · simp [updV, upd, hq]
theorem x_last (hx : p.tables.exec = Jvm.exec) (hb : c.code = cc) (hK : va_K G.1 vwCl (xtys G.2) s) (hS : xS G A H0 σ H locs) {n : Nat} {f : Nat → Int64} (he : σ.1 a = some (.inl (2, n, .inr (.inl f)))) {i : Int32} {x : Int64} (hin : vp_in i n) (hdg : decode cc pc = .ok (.lastore, 1))
    (kk : ∀ (H1 : Heap) (locs1 : List Loc), xS G A H0 (xup σ.1 a (.inl (2, n, .inr (.inl (vp_updL f i.toNatClampNeg x)))), σ.2) H1 locs1 → W p l e R s m args below meth c H1 locs1 cells slots Q (F0 m (pc + 1) ls rest)) : W p l e R s m args below meth c H locs cells slots Q (F0 m pc ls (.long x :: .int i :: .ref a :: rest)) := by
  refine W.last hx hb (hS.2.1 a _ he) ((hK.2 2 _ rfl).1 n (fun j => .long (f j))) (fun q => by cases q) (by show ¬ (i < 0 ∨ (arrV _ _ _).slots.size ≤ _); rw [arrV_size]; exact hin) rfl rfl hdg fun H1 e1 z oq => ?_
  refine kk H1 _ (hS.put he ?_ z oq)
  show H1[a]? = some (vp_cell _ _)
  rw [e1]
  dsimp only [xce]
  rw [vp_cell_l, vp_cell_l, arrV_store]
  congr 2
  funext q
  by_cases hq : q = i.toNatClampNeg
  · subst hq
    simp [updV, vp_updL]
  · simp [updV, vp_updL, hq]
theorem x_dast (hx : p.tables.exec = Jvm.exec) (hb : c.code = cc) (hK : va_K G.1 vwCl (xtys G.2) s) (hS : xS G A H0 σ H locs) {n : Nat} {f : Nat → UInt64} (he : σ.1 a = some (.inl (3, n, .inr (.inr (.inr (.inl f)))))) {i : Int32} {x : UInt64} (hin : vp_in i n) (hdg : decode cc pc = .ok (.dastore, 1))
    (kk : ∀ (H1 : Heap) (locs1 : List Loc), xS G A H0 (xup σ.1 a (.inl (3, n, .inr (.inr (.inr (.inl (vf_upd f i.toNatClampNeg x)))))), σ.2) H1 locs1 → W p l e R s m args below meth c H1 locs1 cells slots Q (F0 m (pc + 1) ls rest)) : W p l e R s m args below meth c H locs cells slots Q (F0 m pc ls (.double x :: .int i :: .ref a :: rest)) := by
  refine W.dast hx hb (hS.2.1 a _ he) ((hK.2 3 _ rfl).1 n (fun j => .double (f j))) (fun q => by cases q) (by show ¬ (i < 0 ∨ (arrV _ _ _).slots.size ≤ _); rw [arrV_size]; exact hin) rfl rfl hdg fun H1 e1 z oq => ?_
  refine kk H1 _ (hS.put he ?_ z oq)
  show H1[a]? = some (vp_cell _ _)
  rw [e1]
  dsimp only [xce]
  rw [vp_cell_d, vp_cell_d, arrV_store]
  congr 2
  funext q
  by_cases hq : q = i.toNatClampNeg
  · subst hq
    simp [updV, vf_upd]
  · simp [updV, vf_upd, hq]
end ROWS2
end
section
/-! WHAT STAYS: the Tokens, the literals, the statics; a method's contract in the interpreter's words; calls. -/
def xtn (i : Nat) : String := (["END", "NUMBER", "UNKNOWN", "SEMICOLON", "PLUS", "MINUS", "TIMES", "OVER", "OPEN", "CLOSE", "SHELLS", "STEPS", "BLINKS", "CHANCE", "BALL", "SCRATCH", "TRUST", "CALM", "SLY", "PURSE", "BLINK", "ODDS", "SWAP", "FEINT", "REST", "STEAL", "PLANT", "PEEK", "REPEAT"] : List String).getD i ""
/-- the sites of text constants: class, place in its pool, text, which literal -/
def xK (lds : List (String × Nat × String × Nat)) (exs : List (String × Nat × String)) (E : xEn) (A : Nat → Prop) (U : State) (H : Heap) : Prop :=
  (∀ i, i < 29 → va_Z RX8 (xtn i) "LShellWatch$Token;" (.ref (E.1 i)) A U H) ∧
  va_Z RX8 "ALL" "[LShellWatch$Token;" (.ref E.2.2.2.1) A U H ∧
  va_T (.object RX8) E.2.2.2.1 29 (fun j => .ref (E.1 j)) A U H ∧
  (∀ i, i < 29 → va_O RX8 (E.1 i) A U H ∧ va_OF RX8 "text" "Ljava/lang/String;" (.ref (E.2.1 (xtt i))) (E.1 i) A U H) ∧
  vk_S xNS (xbyt.map List.length) xbyt E.2.1 E.2.2.1 A U H ∧
  va_Z RJ0 "COMPACT_STRINGS" "Z" (.int 1) A U H ∧
  va_Z RJ3 "SIOOBE_FORMATTER" "Ljava/util/function/BiFunction;" (eFm E) A U H ∧
  vx_Zq Bundle.tN "UNASSIGNED_STACK" Bundle.steD A U H ∧ vx_Zq Bundle.tN "SUPPRESSED_SENTINEL" Bundle.listD A U H ∧
  xNw U ∧ va_AO "ShellWatch$Token" U ∧ va_AO "ShellWatch$Game" U ∧
  (∀ q ∈ lds, vk_R q.1 q.2.1 q.2.2.1 (E.2.1 q.2.2.2) U) ∧ (∀ q ∈ exs, ∃ sa, vk_R q.1 q.2.1 q.2.2 sa U) ∧
  va_Z RJ6 "DigitOnes" "[B" (.ref (eD1 E)) A U H ∧ va_T .byte (eD1 E) 100 (fun j => .int (nI (48 + j % 10))) A U H ∧
  va_Z RJ6 "DigitTens" "[B" (.ref (eD2 E)) A U H ∧ va_T .byte (eD2 E) 100 (fun j => .int (nI (48 + j / 10))) A U H ∧
  va_Z RJx4a65c "DEFAULTCAPACITY_EMPTY_ELEMENTDATA" "[Ljava/lang/Object;" (.ref (eDc E)) A U H ∧ va_T (.object "java/lang/Object") (eDc E) 0 (fun _ => .null) A U H ∧
  va_T .int (eSa E) (eSn E) (fun j => .int (eSf E j)) A U H ∧ va_AO "java/lang/Object" U
theorem xK.to {lds : List (String × Nat × String × Nat)} {exs : List (String × Nat × String)} {E : xEn} {A B : Nat → Prop} {s U : State} {H0 H : Heap} (hW : s.WarmedH U.vm) (h : xK lds exs E A s H0) (hq : ∀ a : Nat, a < H0.size → ¬ A a → H[a]? = H0[a]?) (hB : ∀ q, B q → A q) : xK lds exs E B U H := by
  have hv := hW.alike
  obtain ⟨h1, h2, h3, h4, h5, h6, h7, h8, h9, h10, h11, h12, h13, h14, k1, k2, k3, k4, k5, k6, k7, k8⟩ := h
  exact ⟨fun i hi => ((h1 i hi).kept hq).narrow hB |>.moved hv, ((h2.kept hq).narrow hB).moved hv, ((h3.kept hq).narrow hB).moved hv,
    fun i hi => ⟨(((h4 i hi).1.kept hq).narrow hB).moved hv, (((h4 i hi).2.kept hq).narrow hB).moved hv⟩, ((h5.kept hq).narrow hB).moved hv,
    ((h6.kept hq).narrow hB).moved hv, ((h7.kept hq).narrow hB).moved hv, ((h8.kept hq).narrow hB).moved hv, ((h9.kept hq).narrow hB).moved hv,
    h10.warm hW, h11.moved hv, h12.moved hv, fun q hq9 => (h13 q hq9).warm hW, fun q hq9 => (h14 q hq9).imp fun sa h => h.warm hW,
    ((k1.kept hq).narrow hB).moved hv, ((k2.kept hq).narrow hB).moved hv, ((k3.kept hq).narrow hB).moved hv, ((k4.kept hq).narrow hB).moved hv, ((k5.kept hq).narrow hB).moved hv, ((k6.kept hq).narrow hB).moved hv, ((k7.kept hq).narrow hB).moved hv, k8.moved hv⟩
def xA (σ : xH) : Nat → Prop := fun q => σ.1 q ≠ none ∨ σ.2 ≤ q
def xPre (lds : List (String × Nat × String × Nat)) (exs : List (String × Nat × String)) (G : xG) (E : xEn) (av : List Value) (σ : xH) : Array Value → State → Prop := va_Pc av (fun U => U.heap.size = σ.2 ∧ xWo G σ.1 U.heap ∧ va_K G.1 vwCl (xtys G.2) U ∧ xK lds exs E (xA σ) U U.heap)
def xEnd (G : xG) (A : Nat → Prop) (w : Nat → Option va_E) (st t : State) : Prop := xWo G w t.heap ∧ (∀ a, w a ≠ none → A a) ∧ va_F A st t
def xQc (G : xG) (A : Nat → Prop) (r : xR) : Array Value → State → Outcome → State → Prop := fun _ st oc t => ∃ v, r.1 = .inl v ∧ oc = .returned v ∧ t.heap.size = r.2.2 ∧ xEnd G A r.2.1 st t
def xXC (G : xG) (A : Nat → Prop) (r : xR) : String → State → State → Prop := fun E st t => r.1 = .inr E ∧ xEnd G A r.2.1 st t
def xrm (d mc ms : Nat) : Room := { frames := d + 12, cells := mc, slots := ms, locals := 40 * d + 200 }
def xcw (M : xMth) : Bool := decide (M.1 = yL_steals) || decide (M.1 = yL_plants)
def xhd (M : xMth) : Cond := bif xcw M then .codeWith M.1 M.2.1 M.2.2.1 M.2.2.2.1 [(0, 5, 6, 37)] else .code M.1 M.2.1 M.2.2.1 M.2.2.2.1
def xws (M : xMth) : List Cond := xhd M :: xWs
/-- the contract of a method: where its code's value is r, it comes to r -/
def xMet (lds : List (String × Nat × String × Nat)) (exs : List (String × Nat × String)) (l : Launch) (G : xG) (E : xEn) (d : Nat) (M : xMth) (f : List Value → xH → Option xR) : Prop :=
  ∀ (av : List Value) (σ : xH) (r : xR), f av σ = some r → vx_Met l M.1 (xws M) (xrm d M.2.2.2.2.1 M.2.2.2.2.2) (xPre lds exs G E av σ) (xQc G (xA σ) r) (xXC G (xA σ) r) M.2.2.2.2.1 M.2.2.2.2.2 (xA σ)
theorem xPre_blind {lds : List (String × Nat × String × Nat)} {exs : List (String × Nat × String)} {G : xG} {E : xEn} {av : List Value} {σ : xH} : FrameBlind (xPre lds exs G E av σ) := by
  intro a U g mk h
  obtain ⟨h1, h2, h3, h4, h5⟩ := h
  exact ⟨h1, h2, h3, va_K.moved (u := U) (U := U.calling g mk a) (Vm.Alike.refl U.vm) h4, xK.to (s := U) (U := U.calling g mk a) (State.WarmedH.refl U) h5 (fun _ _ _ => rfl) (fun _ h => h)⟩
theorem xMet_plain {l : Launch} {y : MethodName} {ws : List Cond} {rm : Room} {Pc : Array Value → State → Prop} {Qc : Array Value → State → Outcome → State → Prop} {XC : String → State → State → Prop} {mc ms : Nat} {free : Addr → Prop} (h : vx_Met l y ws rm Pc Qc XC mc ms free) (hx : ∀ E st t, ¬ XC E st t) : Met l y ws rm Pc Qc mc ms free := by
  intro p e h1 h2 h3 s m args below h4 h5 h6 h7
  obtain ⟨n, o, q1, q2, q3, q4⟩ := h p e h1 h2 h3 s m args below h4 h5 h6 h7
  refine ⟨n, o, q1, q2, q3, ?_⟩
  rcases q4 with q | ⟨q, -, E, ce, L, hE, -⟩
  · exact q
  · exact absurd hE (hx _ _ _)
section CALLS
variable {p : Program} {l : Launch} {e : Env} {R : Room} {s : State} {m : MethodId} {args : Array Value} {below : List Frame} {meth : Method} {c : Code} {H : Heap} {locs : List Loc} {bc bs mc ms : Nat} {Q : State → Prop}
variable {cc : ByteArray} {pc : Nat} {ls : Array Slot} {st0 rest : List Value} {G : xG} {E : xEn} {A : Nat → Prop} {σ : xH} {own : String} {r : xR}
variable {lds : List (String × Nat × String × Nat)} {exs : List (String × Nat × String)}
theorem xS.sub (hS : xS G A s.heap σ H locs) (hA : ∀ q, s.heap.size ≤ q → A q) : ∀ q, xA σ q → A q := by
  intro q h
  rcases h with h | h
  · exact hS.2.2.1 q h
  · refine hA q (Nat.le_trans hS.2.2.2.1 ?_)
    rw [hS.1]
    exact h
theorem xS.next {st₀ t T' : State} {L : List Loc} (hS : xS G A s.heap σ H locs) (hA : ∀ q, s.heap.size ≤ q → A q) (h0 : st₀.heap = H) (e1 : T'.heap = t.heap) (hL : ∀ q ∈ L, xA σ q.base) (hend : xEnd G (xA σ) r.2.1 st₀ t) {z : Nat} (hz : t.heap.size = z) : xS G A s.heap (r.2.1, z) T'.heap (locs ++ L) := by
  have hsub := hS.sub hA
  obtain ⟨h1, h2, h3⟩ := hend
  refine ⟨by rw [e1]; exact hz, by rw [e1]; exact h1, fun a ha => hsub a (h2 a ha), ?_⟩
  exact (vx_keep h0 e1 hS.2.2.2 (fun q _ h => hsub q h) hsub hL h3).2.2
/-- behind a call that answers or throws -/
theorem x_ran {av : Array Value} (hr : vx_Run p l e R s m args below meth c H locs bc bs mc ms (F0 m pc ls st0) rest (xQc G (xA σ) r av) (xXC G (xA σ) r) (xA σ)) (hS : xS G A s.heap σ H locs) (hA : ∀ q, s.heap.size ≤ q → A q)
    (kx : ∀ (X : String) (ce : Cell) (q9 : Addr) (z : Nat) (H1 : Heap) (locs1 : List Loc), r.1 = .inr X → xS G A s.heap (r.2.1, z) H1 locs1 → H1[q9]? = some ce → ce.vm = .none → s.vm.findClass X = some ce.cls → vx_W p l e R s m args below meth c H1 locs1 (bc + mc) (bs + ms) Q (F0 m pc ls rest) q9)
    (kk : ∀ (v : Option Value) (H1 : Heap) (locs1 : List Loc), r.1 = .inl v → xS G A s.heap r.2 H1 locs1 → W p l e R s m args below meth c H1 locs1 (bc + mc) (bs + ms) Q (F0 m (pc + 3) ls (v.toList ++ rest))) : W p l e R s m args below meth c H locs bc bs Q (F0 m pc ls st0) := by
  intro T hT X
  rcases hr T hT X with ⟨v, st₀, t, T', L, h0, X', hL, e1, e2, ⟨v', hv, hv2, hz, hend⟩, st⟩ | ⟨q, st₀, t, T', L, E9, ce, h0, X', hL, e1, e2, ⟨hE, hend⟩, hce, hcv, hcl, st⟩
  · cases hv2
    obtain ⟨t2, a1, b1⟩ := kk v T'.heap (locs ++ L) hv (hS.next hA h0 e1 hL hend hz) T' rfl X'
    exact ⟨t2, st t2 a1, b1⟩
  · obtain ⟨t2, a1, b1⟩ := kx E9 ce q _ T'.heap (locs ++ L) hE (hS.next hA h0 e1 hL hend rfl) (by rw [e1]; exact hce) hcv hcl T' rfl X'
    exact ⟨t2, st.trans a1, b1⟩
/-- behind a call that answers -/
theorem x_ranM {av : Array Value} (hr : va_Run p l e R s m args below meth c H locs bc bs mc ms (F0 m pc ls st0) rest (xQc G (xA σ) r av) (xA σ)) (hS : xS G A s.heap σ H locs) (hA : ∀ q, s.heap.size ≤ q → A q)
    (kk : ∀ (v : Option Value) (H1 : Heap) (locs1 : List Loc), r.1 = .inl v → xS G A s.heap r.2 H1 locs1 → W p l e R s m args below meth c H1 locs1 (bc + mc) (bs + ms) Q (F0 m (pc + 3) ls (v.toList ++ rest))) : W p l e R s m args below meth c H locs bc bs Q (F0 m pc ls st0) := by
  intro T hT X
  obtain ⟨v, st₀, t, T', L, h0, X', hL, e1, e2, ⟨v', hv, hv2, hz, hend⟩, st⟩ := hr T hT X
  cases hv2
  obtain ⟨t2, a1, b1⟩ := kk v T'.heap (locs ++ L) hv (hS.next hA h0 e1 hL hend hz) T' rfl X'
  exact ⟨t2, st t2 a1, b1⟩
/-- the premise of a call out of the caller's world -/
theorem x_pre (hK : va_K G.1 vwCl (xtys G.2) s) (hKK : xK lds exs E A s s.heap) (hS : xS G A s.heap σ H locs) (hA : ∀ q, s.heap.size ≤ q → A q) (av : List Value) : ∀ U : State, U.heap = H → s.WarmedH U.vm → xPre lds exs G E av σ av.toArray U := by
  intro U hU hW
  refine ⟨rfl, by rw [hU]; exact hS.1, by rw [hU]; exact hS.2.1, hK.moved hW.alike, ?_⟩
  rw [hU]
  exact hKK.to hW (fun a h1 h2 => hS.2.2.2.2.1 a h1 h2) (hS.sub hA)
end CALLS
end
section
/-! The calls of the interpreter, by kinds. -/
def xclsN (c : Nat) : String := bif Nat.beq c 99 then RJ0 else match vwCl[c]? with
  | some r => r.1
  | none => ""
/-- some code of that name is told -/
def xhasC (x : MethodName) : Bool := xWs.any (fun w => match w with
  | .code y _ _ _ => decide (y = x)
  | _ => false)
theorem xhasC_ok {x : MethodName} (h : xhasC x = true) : ∃ b m r, Cond.code x b m r ∈ xWs := by
  obtain ⟨w, hw, h2⟩ := List.any_eq_true.mp h
  split at h2
  · next y b m r =>
    have h3 := of_decide_eq_true h2
    subst h3
    exact ⟨b, m, r, hw⟩
  · cases h2
theorem xRJ5_ne : RJ5 ≠ "java/lang/invoke/MethodHandle" ∧ RJ5 ≠ "java/lang/invoke/VarHandle" := by decide +kernel
def xokC (own : String) (kd idx n ci : Nat) (M : xMth) : Bool :=
  Nat.ble M.2.2.1 21 && (decide (xhd M ∈ xWs) && ((Nat.beq kd 10 == xcw M) && (decide (M.1.cls ≠ "java/lang/invoke/MethodHandle" ∧ M.1.cls ≠ "java/lang/invoke/VarHandle") && (decide (Cond.initialized M.1.cls ∈ xWs) &&
  match kd with
  | 0 => Nat.beq ci 0 && (decide ((parseMethodDescriptor M.1.desc).map (fun d => d.parameters.length) = some n) && (decide (Cond.methodLink own idx M.1 ∈ xWs) && decide (Cond.static M.1 ∈ xWs)))
  | 1 => decide ((parseMethodDescriptor M.1.desc).map (fun d => d.parameters.length + 1) = some n) && (decide (Cond.instanceMethod M.1 ∈ xWs) && (decide (Cond.methodLink own idx M.1 ∈ xWs) && (decide (Cond.selects M.1.cls M.1 M.1 ∈ xWs) && (Nat.blt 0 ci && decide (xclsN (ci - 1) = M.1.cls)))))
  | 2 => decide ((parseMethodDescriptor M.1.desc).map (fun d => d.parameters.length + 1) = some n) && (decide (Cond.instanceMethod M.1 ∈ xWs) && (decide (Cond.methodLink own idx M.1 ∈ xWs) && (decide (M.1.name = "<init>") && (decide (M.2.2.2.1 = none) && Nat.blt 0 ci))))
  | 3 => decide ((parseMethodDescriptor M.1.desc).map (fun d => d.parameters.length + 1) = some n) && (decide (Cond.instanceMethod M.1 ∈ xWs) && (decide (Cond.methodLinkNest own idx M.1 "ShellWatch" ∈ lw_tbl) && (decide (Cond.selects M.1.cls M.1 M.1 ∈ xWs) && (Nat.blt 0 ci && decide (xclsN (ci - 1) = M.1.cls)))))
  | 4 => decide ((parseMethodDescriptor M.1.desc).map (fun d => d.parameters.length + 1) = some n) && (decide (Cond.instanceMethod M.1 ∈ xWs) && (decide (Cond.methodLinkNest own idx M.1 "ShellWatch" ∈ lw_tbl) && (decide (M.1.name = "<init>") && (decide (M.2.2.2.1 = none) && Nat.blt 0 ci))))
  | 5 => decide ((parseMethodDescriptor M.1.desc).map (fun d => d.parameters.length + 1) = some n) && (decide (Cond.instanceMethod M.1 ∈ xWs) && (decide (Cond.methodLink own idx M.1 ∈ xWs) && (decide (Cond.selects M.1.cls M.1 M.1 ∈ xWs) && (Nat.blt 0 ci && decide (xclsN (ci - 1) = M.1.cls)))))
  | 10 => Nat.beq ci 0 && (decide ((parseMethodDescriptor M.1.desc).map (fun d => d.parameters.length) = some n) && (decide (Cond.methodLink own idx M.1 ∈ xWs) && decide (Cond.static M.1 ∈ xWs)))
  | 6 => decide ((parseMethodDescriptor M.1.desc).map (fun d => d.parameters.length + 1) = some n) && (decide (Cond.instanceMethod M.1 ∈ xWs) && (decide (Cond.methodLink own idx M.1 ∈ xWs) && (decide (Cond.sameMethod M.1.cls M.1.cls M.1.name M.1.desc ∈ xWs) && (decide (Cond.selects (xclsN (ci - 1)) M.1 M.1 ∈ xWs) && Nat.blt 0 ci))))
  | 7 => decide ((parseMethodDescriptor M.1.desc).map (fun d => d.parameters.length + 1) = some n) && (decide (Cond.instanceMethod M.1 ∈ xWs) && (decide (Cond.methodLink own idx M.1 ∈ xWs) && (decide (Cond.sameMethod M.1.cls M.1.cls M.1.name M.1.desc ∈ xWs) && (decide (Cond.superclass own M.1.cls ∈ xWs) && (decide (M.1.name ≠ "<init>") && Nat.blt 0 ci && Nat.blt (ci - 1) vwCl.length)))))
  | 8 => Nat.beq ci 0 && (decide ((parseMethodDescriptor M.1.desc).map (fun d => d.parameters.length) = some n) && (decide (Cond.methodLinkNest own idx M.1 "ShellWatchLaw" ∈ lw_tbl) && decide (Cond.static M.1 ∈ xWs)))
  | 9 => decide ((parseMethodDescriptor M.1.desc).map (fun d => d.parameters.length + 1) = some n) && (decide (Cond.instanceMethod M.1 ∈ xWs) && (decide (Cond.methodLink own idx ⟨RJ5, M.1.name, M.1.desc⟩ ∈ xWs) && (decide (Cond.sameMethod RJ5 RJ5 M.1.name M.1.desc ∈ xWs) && (decide (Cond.instanceMethod ⟨RJ5, M.1.name, M.1.desc⟩ ∈ xWs) && (decide (Cond.selects (xclsN (ci - 1)) ⟨RJ5, M.1.name, M.1.desc⟩ M.1 ∈ xWs) && (xhasC ⟨RJ5, M.1.name, M.1.desc⟩ && Nat.blt 0 ci))))))
  | _ => false))))
/-- how an instruction calls, by the kind -/
def xins (kd idx : Nat) : Instr := match kd with
  | 0 => .invokestatic idx
  | 2 => .invokespecial idx
  | 4 => .invokespecial idx
  | 7 => .invokespecial idx
  | 8 => .invokestatic idx
  | 10 => .invokestatic idx
  | _ => .invokevirtual idx
theorem xgood : ∀ w ∈ xWs, goodWord w = true := fun w h => (List.mem_filter.mp h).2
theorem xGI {ws : List Cond} (h : ∀ w ∈ ws, w ∈ xWs) : GoodIn xWs ws := fun w hw => ⟨h w hw, good_of_word (xgood w (h w hw))⟩
section INVOKE
variable {p : Program} {l : Launch} {e : Env} {s : State} {m : MethodId} {args : Array Value} {below : List Frame} {meth : Method} {c : Code} {H : Heap} {locs : List Loc} {bc bs d MC MS : Nat} {Q : State → Prop}
variable {cc : ByteArray} {pc nL : Nat} {ls : Array Slot} {rest : List Value} {G : xG} {E : xEn} {A : Nat → Prop} {σ : xH} {own : String} {r : xR}
variable {lds : List (String × Nat × String × Nat)} {exs : List (String × Nat × String)}
/-- the receiver's cell -/
theorem x_recv (hK : va_K G.1 vwCl (xtys G.2) s) (hKK : xK lds exs E A s s.heap) (hS : xS G A s.heap σ H locs) {ci b : Nat} (h : (∃ fs, σ.1 b = some (.inr (ci, fs))) ∨ (ci = 99 ∧ ∃ i, xfind E.2.1 b xNS = some i) ∨ (ci = 99 ∧ ∃ fs, σ.1 b = some (.inr (11, fs)))) : ∃ cellB : Cell, H[b]? = some cellB ∧ cellB.vm.isStatics = false ∧ s.vm.findClass (xclsN ci) = some cellB.cls := by
  rcases h with ⟨fs, hb⟩ | ⟨rfl, i, hi⟩ | ⟨rfl, fs, hb⟩
  · obtain ⟨q, hq, -⟩ := hS.2.1 b _ hb
    have h99 : Nat.beq ci 99 = false := by
      cases h9 : Nat.beq ci 99
      · rfl
      · have := Nat.eq_of_beq_eq_true h9
        subst this
        simp [vwCl] at hq
    have hn : xclsN ci = q.1 := by
      unfold xclsN
      rw [h99, hq]
      rfl
    rw [hn]
    exact va_recv hK (hS.2.1.one hb) (ci := ci) (q0 := 0) hq rfl
  · obtain ⟨h1, h2⟩ := iv_xfind hi
    subst h2
    exact vk_recv hKK.2.2.2.2.1 h1 hS.2.2.2
  · exact va_recv hK (hS.2.1.one hb) (ci := 11) (q0 := 0) rfl rfl
theorem x_invoke (hx : p.tables.exec = Jvm.exec) (hb : c.code = cc) (hml : c.maxLocals = nL) (hts : ∀ w ∈ xWs, w.before args s = true) (hown : s.vm.findClass own = some m.cls)
  (hK : va_K G.1 vwCl (xtys G.2) s) (hKK : xK lds exs E A s s.heap) (hS : xS G A s.heap σ H locs) (hA : ∀ q, s.heap.size ≤ q → A q) (hsz : ls.size = nL)
    {kd idx n ci : Nat} {M : xMth} {f : List Value → xH → Option xR} (hok : xokC own kd idx n ci M = true) (hM : xMet lds exs l G E d M f) {av st : List Value} (hn : av.length = n) (hst : st = av.reverse ++ rest) (hf : f av σ = some r)
    (hrecv : ci ≠ 0 → ∃ b As, av = .ref b :: As ∧ ((∃ fs, σ.1 b = some (.inr (ci - 1, fs))) ∨ (ci - 1 = 99 ∧ ∃ i, xfind E.2.1 b xNS = some i) ∨ (ci - 1 = 99 ∧ ∃ fs, σ.1 b = some (.inr (11, fs)))))
    (hW : xcat rest ≤ 8) (hbc : bc + M.2.2.2.2.1 ≤ MC) (hbs : bs + M.2.2.2.2.2 ≤ MS) (hdg : decode cc pc = .ok (xins kd idx, 3))
    (hnt : kd ≠ 5 → ∃ v, r.1 = .inl v)
    (kx : ∀ (X : String) (ce : Cell) (q9 : Addr) (z : Nat) (H1 : Heap) (locs1 : List Loc), r.1 = .inr X → xS G A s.heap (r.2.1, z) H1 locs1 → H1[q9]? = some ce → ce.vm = .none → s.vm.findClass X = some ce.cls → vx_W p l e (xrm (d + 1) MC MS) s m args below meth c H1 locs1 (bc + M.2.2.2.2.1) (bs + M.2.2.2.2.2) Q (F0 m pc ls rest) q9)
    (kk : ∀ (v : Option Value) (H1 : Heap) (locs1 : List Loc), r.1 = .inl v → xS G A s.heap r.2 H1 locs1 → W p l e (xrm (d + 1) MC MS) s m args below meth c H1 locs1 (bc + M.2.2.2.2.1) (bs + M.2.2.2.2.2) Q (F0 m (pc + 3) ls (v.toList ++ rest))) :
    W p l e (xrm (d + 1) MC MS) s m args below meth c H locs bc bs Q (F0 m pc ls st) := by
  subst hst
  obtain ⟨y, bytes, maxL, ret, mc, ms⟩ := M
  dsimp only at hbc hbs kx kk
  have hC := hM av σ r hf
  have hCF : CallFix p m c cc nL s args xWs own := ⟨hx, hb, hml, hown, hts⟩
  unfold xokC at hok
  simp only [Bool.and_eq_true, decide_eq_true_eq] at hok
  obtain ⟨h21, hcode, hk10, hy, hini, hrest⟩ := hok
  have hk10 : (Nat.beq kd 10) = xcw (y, bytes, maxL, ret, mc, ms) := by simpa using hk10
  have h21 : maxL ≤ 21 := Nat.le_of_ble_eq_true h21
  have hR : (xrm d mc ms).frames + 1 ≤ (xrm (d + 1) MC MS).frames ∧ 8 + (maxL + 11) + (xrm d mc ms).locals ≤ (xrm (d + 1) MC MS).locals := by
    unfold xrm
    dsimp only
    omega
  have hws : ∀ w ∈ xws (y, bytes, maxL, ret, mc, ms), w ∈ xWs := fun w h => (List.mem_cons.mp h).elim (fun e => by rw [e]; exact hcode) id
  have hxw : Nat.beq kd 10 = false → xws (y, bytes, maxL, ret, mc, ms) = Cond.code y bytes maxL ret :: xWs := by
    intro h
    rw [hk10] at h
    unfold xws xhd
    rw [h]
    rfl
  have hpre := x_pre hK hKK hS hA av
  match kd, hdg, hrest, hnt with
  | 0, hdg, hrest, hnt =>
    simp only [Bool.and_eq_true, decide_eq_true_eq] at hrest
    obtain ⟨-, hd, hl, hs9⟩ := hrest
    have hd : (parseMethodDescriptor y.desc).map (fun d => d.parameters.length) = some n := hd
    refine x_ran (vx_runS hCF hC (va_cwS n hts (xGI ?_) (hxw rfl) rfl rfl ⟨hy.1, hy.2, hd⟩ hR) ⟨xPre_blind, hpre⟩ rfl hn hsz rfl (by simpa [xcat] using hW) hdg ⟨hbc, hbs⟩) hS hA (fun X ce q9 z H1 locs1 q1 q2 q3 q4 q5 => ?_) kk
    · intro w hw
      rcases List.mem_append.mp hw with hw | hw
      · simp only [List.mem_cons, List.not_mem_nil, or_false] at hw
        rcases hw with rfl | rfl | rfl
        · exact hl
        · exact hs9
        · exact hini
      · exact hws w hw
    · obtain ⟨v, hv⟩ := hnt (by decide)
      rw [hv] at q1
      cases q1
  | 1, hdg, hrest, hnt =>
    simp only [Bool.and_eq_true, decide_eq_true_eq] at hrest
    obtain ⟨hd, hin, hl, hs9, hci, hcl⟩ := hrest
    obtain ⟨b, As, rfl, hrv⟩ := hrecv (by intro h; rw [h] at hci; cases hci)
    obtain ⟨n', rfl⟩ : ∃ n', n = n' + 1 := ⟨As.length, by rw [← hn]; rfl⟩
    have hd : (parseMethodDescriptor y.desc).map (fun d => d.parameters.length) = some n' := by
      cases hp : parseMethodDescriptor y.desc with
      | none => rw [hp] at hd; cases hd
      | some g => rw [hp] at hd; simpa using hd
    have hcell := x_recv hK hKK hS hrv
    rw [hcl] at hcell
    refine x_ran (vx_runV hCF hC (cwV n' hts (xGI ?_) (hxw rfl) rfl rfl ⟨rfl, hy.1, hy.2, hd⟩ hR) ⟨xPre_blind, hcell, hpre⟩ rfl (by simpa using hn) hsz (by simp) (by simpa [xcat] using hW) hdg ⟨hbc, hbs⟩) hS hA (fun X ce q9 z H1 locs1 q1 q2 q3 q4 q5 => ?_) kk
    · intro w hw
      rcases List.mem_append.mp hw with hw | hw
      · simp only [List.mem_cons, List.not_mem_nil, or_false] at hw
        rcases hw with rfl | rfl | rfl | rfl
        · exact hl
        · exact hin
        · exact hs9
        · exact hini
      · exact hws w hw
    · obtain ⟨v, hv⟩ := hnt (by decide)
      rw [hv] at q1
      cases q1
  | 2, hdg, hrest, hnt =>
    simp only [Bool.and_eq_true, decide_eq_true_eq] at hrest
    obtain ⟨hd, hin, hl, hy1, hrt, hci⟩ := hrest
    have hrt : ret = none := hrt
    subst hrt
    obtain ⟨b, As, rfl, hrv⟩ := hrecv (by intro h; rw [h] at hci; cases hci)
    obtain ⟨n', rfl⟩ : ∃ n', n = n' + 1 := ⟨As.length, by rw [← hn]; rfl⟩
    have hd : (parseMethodDescriptor y.desc).map (fun d => d.parameters.length) = some n' := by
      cases hp : parseMethodDescriptor y.desc with
      | none => rw [hp] at hd; cases hd
      | some g => rw [hp] at hd; simpa using hd
    obtain ⟨v0, hv0⟩ := hnt (by decide)
    have hC' := xMet_plain hC (fun X st t h => by have := h.1; rw [hv0] at this; cases this)
    exact x_ranM (va_runI hCF hC' (cwI n' hts (xGI hws) (hxw rfl) rfl rfl (hts _ hini) (hts _ hl) (hts _ hin) hy1 ⟨hy.1, hy.2, hd⟩ hR) ⟨xPre_blind, hpre⟩ rfl (by simpa using hn) hsz (by simp) (by simpa [xcat] using hW) hdg ⟨hbc, hbs⟩) hS hA kk
  | 3, hdg, hrest, hnt =>
    simp only [Bool.and_eq_true, decide_eq_true_eq] at hrest
    obtain ⟨hd, hin, hl, hs9, hci, hcl⟩ := hrest
    obtain ⟨b, As, rfl, hrv⟩ := hrecv (by intro h; rw [h] at hci; cases hci)
    obtain ⟨n', rfl⟩ : ∃ n', n = n' + 1 := ⟨As.length, by rw [← hn]; rfl⟩
    have hd : (parseMethodDescriptor y.desc).map (fun d => d.parameters.length) = some n' := by
      cases hp : parseMethodDescriptor y.desc with
      | none => rw [hp] at hd; cases hd
      | some g => rw [hp] at hd; simpa using hd
    have hcell := x_recv hK hKK hS hrv
    rw [hcl] at hcell
    obtain ⟨v0, hv0⟩ := hnt (by decide)
    have hC' := xMet_plain hC (fun X st t h => by have := h.1; rw [hv0] at this; cases this)
    exact x_ranM (va_runVN hCF hC' ⟨va_cnB n' hts (xGI hws) (hxw rfl) rfl rfl (hKK.2.2.2.2.2.2.2.2.2.1 _ hl rfl) (hts _ hini) ⟨hy.1, hy.2, hd⟩ hR, hts _ hin, hts _ hs9⟩ ⟨xPre_blind, hcell, hpre⟩ rfl (by simpa using hn) hsz (by simp) (by simpa [xcat] using hW) hdg ⟨hbc, hbs⟩) hS hA kk
  | 4, hdg, hrest, hnt =>
    simp only [Bool.and_eq_true, decide_eq_true_eq] at hrest
    obtain ⟨hd, hin, hl, hy1, hrt, hci⟩ := hrest
    have hrt : ret = none := hrt
    subst hrt
    obtain ⟨b, As, rfl, hrv⟩ := hrecv (by intro h; rw [h] at hci; cases hci)
    obtain ⟨n', rfl⟩ : ∃ n', n = n' + 1 := ⟨As.length, by rw [← hn]; rfl⟩
    have hd : (parseMethodDescriptor y.desc).map (fun d => d.parameters.length) = some n' := by
      cases hp : parseMethodDescriptor y.desc with
      | none => rw [hp] at hd; cases hd
      | some g => rw [hp] at hd; simpa using hd
    obtain ⟨v0, hv0⟩ := hnt (by decide)
    have hC' := xMet_plain hC (fun X st t h => by have := h.1; rw [hv0] at this; cases this)
    exact x_ranM (va_runIN hCF hC' ⟨va_cnB n' hts (xGI hws) (hxw rfl) rfl rfl (hKK.2.2.2.2.2.2.2.2.2.1 _ hl rfl) (hts _ hini) ⟨hy.1, hy.2, hd⟩ hR, hy1, hts _ hin⟩ ⟨xPre_blind, hpre⟩ rfl (by simpa using hn) hsz (by simp) (by simpa [xcat] using hW) hdg ⟨hbc, hbs⟩) hS hA kk
  | 5, hdg, hrest, hnt =>
    simp only [Bool.and_eq_true, decide_eq_true_eq] at hrest
    obtain ⟨hd, hin, hl, hs9, hci, hcl⟩ := hrest
    obtain ⟨b, As, rfl, hrv⟩ := hrecv (by intro h; rw [h] at hci; cases hci)
    obtain ⟨n', rfl⟩ : ∃ n', n = n' + 1 := ⟨As.length, by rw [← hn]; rfl⟩
    have hd : (parseMethodDescriptor y.desc).map (fun d => d.parameters.length) = some n' := by
      cases hp : parseMethodDescriptor y.desc with
      | none => rw [hp] at hd; cases hd
      | some g => rw [hp] at hd; simpa using hd
    have hcell := x_recv hK hKK hS hrv
    rw [hcl] at hcell
    refine x_ran (vx_runV hCF hC (cwV n' hts (xGI ?_) (hxw rfl) rfl rfl ⟨rfl, hy.1, hy.2, hd⟩ hR) ⟨xPre_blind, hcell, hpre⟩ rfl (by simpa using hn) hsz (by simp) (by simpa [xcat] using hW) hdg ⟨hbc, hbs⟩) hS hA kx kk
    intro w hw
    rcases List.mem_append.mp hw with hw | hw
    · simp only [List.mem_cons, List.not_mem_nil, or_false] at hw
      rcases hw with rfl | rfl | rfl | rfl
      · exact hl
      · exact hin
      · exact hs9
      · exact hini
    · exact hws w hw
  | 6, hdg, hrest, hnt =>
    simp only [Bool.and_eq_true, decide_eq_true_eq] at hrest
    obtain ⟨hd, hin, hl, hsm, hs9, hci⟩ := hrest
    obtain ⟨b, As, rfl, hrv⟩ := hrecv (by intro h; rw [h] at hci; cases hci)
    obtain ⟨n', rfl⟩ : ∃ n', n = n' + 1 := ⟨As.length, by rw [← hn]; rfl⟩
    have hd : (parseMethodDescriptor y.desc).map (fun d => d.parameters.length) = some n' := by
      cases hp : parseMethodDescriptor y.desc with
      | none => rw [hp] at hd; cases hd
      | some g => rw [hp] at hd; simpa using hd
    have hcell := x_recv hK hKK hS hrv
    obtain ⟨v0, hv0⟩ := hnt (by decide)
    have hC' := xMet_plain hC (fun X st t h => by have := h.1; rw [hv0] at this; cases this)
    refine x_ranM (va_runU hCF hC' (va_cwU (owner := y.cls) n' hts (xGI ?_) (hxw rfl) rfl rfl rfl ⟨hy.1, hy.2, hd⟩ hR) ⟨xPre_blind, hcell, hpre⟩ rfl (by simpa using hn) hsz (by simp) (by simpa [xcat] using hW) hdg ⟨hbc, hbs⟩) hS hA kk
    intro w hw
    rcases List.mem_append.mp hw with hw | hw
    · simp only [List.mem_cons, List.not_mem_nil, or_false] at hw
      rcases hw with rfl | rfl | rfl | rfl | rfl
      · exact hl
      · exact hsm
      · exact hs9
      · exact hin
      · exact hini
    · exact hws w hw
  | 7, hdg, hrest, hnt =>
    simp only [Bool.and_eq_true, decide_eq_true_eq] at hrest
    obtain ⟨hd, hin, hl, hsm, hsu, ⟨hno, hci⟩, hcl⟩ := hrest
    obtain ⟨b, As, rfl, hrv⟩ := hrecv (by intro h; rw [h] at hci; cases hci)
    obtain ⟨n', rfl⟩ : ∃ n', n = n' + 1 := ⟨As.length, by rw [← hn]; rfl⟩
    have hd : (parseMethodDescriptor y.desc).map (fun d => d.parameters.length) = some n' := by
      cases hp : parseMethodDescriptor y.desc with
      | none => rw [hp] at hd; cases hd
      | some g => rw [hp] at hd; simpa using hd
    have hcell := x_recv hK hKK hS hrv
    obtain ⟨r9, hr9⟩ : ∃ r9, vwCl[ci - 1]? = some r9 := ⟨_, List.getElem?_eq_getElem (Nat.le_of_ble_eq_true hcl)⟩
    have hn99 : Nat.beq (ci - 1) 99 = false := by
      have : ci - 1 < 14 := Nat.le_of_ble_eq_true hcl
      cases h9 : Nat.beq (ci - 1) 99
      · rfl
      · have := Nat.eq_of_beq_eq_true h9
        omega
    have hnm : xclsN (ci - 1) = r9.1 := by
      unfold xclsN
      rw [hn99, hr9]
      rfl
    rw [hnm] at hcell
    obtain ⟨v0, hv0⟩ := hnt (by decide)
    have hC' := xMet_plain hC (fun X st t h => by have := h.1; rw [hv0] at this; cases this)
    refine x_ranM (va_runSU (C := r9.1) (hK.1 _ _ hr9).2 hCF hC' (va_cwSU n' hts (xGI ?_) (hxw rfl) rfl rfl ⟨hno, hd⟩ hR) ⟨xPre_blind, hcell, hpre⟩ rfl (by simpa using hn) hsz (by simp) (by simpa [xcat] using hW) hdg ⟨hbc, hbs⟩) hS hA kk
    intro w hw
    rcases List.mem_append.mp hw with hw | hw
    · simp only [List.mem_cons, List.not_mem_nil, or_false] at hw
      rcases hw with rfl | rfl | rfl | rfl | rfl
      · exact hl
      · exact hsm
      · exact hsu
      · exact hin
      · exact hini
    · exact hws w hw
  | 8, hdg, hrest, hnt =>
    simp only [Bool.and_eq_true, decide_eq_true_eq] at hrest
    obtain ⟨-, hd, hl, hs9⟩ := hrest
    have hd : (parseMethodDescriptor y.desc).map (fun d => d.parameters.length) = some n := hd
    obtain ⟨v0, hv0⟩ := hnt (by decide)
    have hC' := xMet_plain hC (fun X st t h => by have := h.1; rw [hv0] at this; cases this)
    exact x_ranM (va_runSN hCF hC' ⟨va_cnB n hts (xGI hws) (hxw rfl) rfl rfl (hKK.2.2.2.2.2.2.2.2.2.1 _ hl rfl) (hts _ hini) ⟨hy.1, hy.2, hd⟩ hR, hts _ hs9, trivial⟩ ⟨xPre_blind, hpre⟩ rfl hn hsz rfl (by simpa [xcat] using hW) hdg ⟨hbc, hbs⟩) hS hA kk
  | 9, hdg, hrest, hnt =>
    simp only [Bool.and_eq_true, decide_eq_true_eq] at hrest
    obtain ⟨hd, hin, hl, hsm, hix, hs9, hhc, hci⟩ := hrest
    obtain ⟨b, As, rfl, hrv⟩ := hrecv (by intro h; rw [h] at hci; cases hci)
    obtain ⟨n', rfl⟩ : ∃ n', n = n' + 1 := ⟨As.length, by rw [← hn]; rfl⟩
    have hd : (parseMethodDescriptor y.desc).map (fun d => d.parameters.length) = some n' := by
      cases hp : parseMethodDescriptor y.desc with
      | none => rw [hp] at hd; cases hd
      | some g => rw [hp] at hd; simpa using hd
    have hcell := x_recv hK hKK hS hrv
    obtain ⟨v0, hv0⟩ := hnt (by decide)
    obtain ⟨b0, m0, r0, h0⟩ := xhasC_ok hhc
    have hC' := xMet_plain hC (fun X st t h => by have := h.1; rw [hv0] at this; cases this)
    refine x_ranM (va_runU hCF hC' (va_cwO (owner := RJ5) (x := ⟨RJ5, y.name, y.desc⟩) n' hts (xGI ?_) (hxw rfl) rfl rfl h0 ⟨xRJ5_ne.1, xRJ5_ne.2, hd⟩ hR) ⟨xPre_blind, hcell, hpre⟩ rfl (by simpa using hn) hsz (by simp) (by simpa [xcat] using hW) hdg ⟨hbc, hbs⟩) hS hA kk
    intro w hw
    rcases List.mem_append.mp hw with hw | hw
    · simp only [List.mem_cons, List.not_mem_nil, or_false] at hw
      rcases hw with rfl | rfl | rfl | rfl | rfl | rfl
      · exact hl
      · exact hsm
      · exact hix
      · exact hs9
      · exact hin
      · exact hini
    · exact hws w hw
  | 10, hdg, hrest, hnt =>
    simp only [Bool.and_eq_true, decide_eq_true_eq] at hrest
    obtain ⟨-, hd, hl, hs9⟩ := hrest
    have hd : (parseMethodDescriptor y.desc).map (fun d => d.parameters.length) = some n := hd
    obtain ⟨v0, hv0⟩ := hnt (by decide)
    have hC' := xMet_plain hC (fun X st t h => by have := h.1; rw [hv0] at this; cases this)
    have hxw2 : xws (y, bytes, maxL, ret, mc, ms) = Cond.codeWith y bytes maxL ret [(0, 5, 6, 37)] :: xWs := by
      unfold xws xhd
      rw [← hk10]
      rfl
    refine x_ranM (vx_runSW hCF hC' (vx_cwSW (hh := [(0, 5, 6, 37)]) n hts (xGI ?_) hxw2 rfl rfl ⟨hy.1, hy.2, hd⟩ hR) ⟨xPre_blind, hpre⟩ rfl hn hsz rfl (by simpa [xcat] using hW) hdg ⟨hbc, hbs⟩) hS hA kk
    intro w hw
    rcases List.mem_append.mp hw with hw | hw
    · simp only [List.mem_cons, List.not_mem_nil, or_false] at hw
      rcases hw with rfl | rfl | rfl
      · exact hl
      · exact hs9
      · exact hini
    · exact hws w hw
  | k + 11, hdg, hrest, hnt => cases hrest
end INVOKE
end
section
/-! New objects and rows, rows of references, System.arraycopy, a throw. -/
def xkty (k : Nat) : FieldType := match k with
  | 0 => .int
  | 1 => .byte
  | 2 => .long
  | _ => .double
def xN (C : String) : String := C
section ROWS3
variable {p : Program} {l : Launch} {e : Env} {R : Room} {s : State} {m : MethodId} {args : Array Value} {below : List Frame} {meth : Method} {c : Code} {H : Heap} {locs : List Loc} {cells slots : Nat} {Q : State → Prop}
variable {cc : ByteArray} {pc : Nat} {ls : Array Slot} {rest : List Value} {G : xG} {A : Nat → Prop} {σ : xH} {H0 : Heap} {own : String} {a : Nat} {E : xEn}
variable {lds : List (String × Nat × String × Nat)} {exs : List (String × Nat × String)}
theorem xS.push {H1 : Heap} {x : va_E} (hS : xS G A H0 σ H locs) (hA : ∀ q, H0.size ≤ q → A q) (e1 : va_at G.1 vwCl (H.size, xce G.2 x) H1) (z1 : H1.size = H.size + 1) (o1 : ∀ q, q < H.size → H1[q]? = H[q]?) : xS G A H0 (xup σ.1 σ.2 x, σ.2 + 1) H1 locs := by
  obtain ⟨h1, h2, h3, h4⟩ := hS
  rw [h1] at e1
  refine ⟨by rw [z1, h1], fun b y hb => ?_, fun b hb => ?_, Nat.le_trans h4.1 (by omega), fun q g1 g2 => (o1 q (Nat.lt_of_lt_of_le g1 h4.1)).trans (h4.2.1 q g1 g2), h4.2.2⟩
  · dsimp only at hb
    by_cases hab : b = σ.2
    · subst hab
      rw [xup_same] at hb
      cases hb
      exact e1
    · rw [xup_ne hab] at hb
      have h5 := h2 b y hb
      exact h5.kept (o1 b h5.lt)
  · dsimp only at hb
    by_cases hab : b = σ.2
    · subst hab
      exact hA _ (by rw [← h1]; exact h4.1)
    · rw [xup_ne hab] at hb
      exact h3 b hb
theorem xS.ref (hS : xS G A H0 σ H locs) : σ.2 = H.size := hS.1.symm
theorem xdv_ok {ty : FieldType} : defaultValue ty = xdv ty := by
  cases ty <;> rfl
theorem xdef_ok {ci n j : Nat} (h : j < n) : defaultValue (xtyp ci j) = vp_V (xdef ci n) j := by
  unfold vp_V xdef
  rw [xdv_ok]
  simp [h]
theorem x_new (hx : p.tables.exec = Jvm.exec) (hb : c.code = cc) (hts : ∀ w ∈ xWs, w.before args s = true) (hown : s.vm.findClass own = some m.cls) (hK : va_K G.1 vwCl (xtys G.2) s) (hS : xS G A H0 σ H locs) (hA : ∀ q, H0.size ≤ q → A q)
    {idx ci : Nat} {r : vw_C} (hr : vwCl[ci]? = some r) (h1 : Cond.classLink own idx r.1 ∈ xWs) (h2 : Cond.instantiable r.1 r.2.2 ∈ xWs) (h3 : Cond.initialized r.1 ∈ xWs) (hcells : cells + 1 ≤ R.cells) (hslots : slots + r.2.2 ≤ R.slots) (hdg : decode cc pc = .ok (.new idx, 3))
    (kk : ∀ (H1 : Heap), xS G A H0 (xup σ.1 σ.2 (.inr (ci, xdef ci r.2.2)), σ.2 + 1) H1 locs → W p l e R s m args below meth c H1 locs (cells + 1) (slots + r.2.2) Q (F0 m (pc + 3) ls (.ref σ.2 :: rest))) : W p l e R s m args below meth c H locs cells slots Q (F0 m pc ls rest) := by
  have hKn := hK.1 ci _ hr
  obtain ⟨hin, hty, hnm⟩ := xcl_ok hr
  refine W.newcK hx hb hown (hts _ h1) (hts _ h2) (hts _ h3) rfl hdg hcells hslots hKn.2.1 rfl fun H1 kC hkC e1 z1 o1 => ?_
  have h9 := kk H1 (hS.push hA (x := .inr (ci, xdef ci r.2.2)) ⟨r, hr, (u_born (xtyp ci) hts hin hKn hkC e1 hty).to (fun j hj => xdef_ok hj)⟩ z1 o1)
  rw [hS.ref] at h9
  exact h9
theorem xarr_ok {k n : Nat} {cA : ClassId} (hk : k < 4) : vp_cell cA (n, xarr k) = arrV cA n (fun _ => defaultValue (xkty k)) := by
  match k, hk with
  | 0, _ => rfl
  | 1, _ => rfl
  | 2, _ => rfl
  | 3, _ => rfl
theorem x_newa (hx : p.tables.exec = Jvm.exec) (hb : c.code = cc) (hts : ∀ w ∈ xWs, w.before args s = true) (hK : va_K G.1 vwCl (xtys G.2) s) (hS : xS G A H0 σ H locs) (hA : ∀ q, H0.size ≤ q → A q)
    {k : Nat} (hk : k < 4) {atype : ArrayType} (hty : newarray.typeOf atype = xkty k) (hw : Cond.arrayClass (xkty k) ∈ xWs) {n : Int32} (hn : ¬ n < 0) (h5 : n.toNatClampNeg ≤ 100000) (hcells : cells + 1 ≤ R.cells) (hslots : slots + n.toNatClampNeg ≤ R.slots) (hdg : decode cc pc = .ok (.newarray atype, 2))
    (kk : ∀ (H1 : Heap), xS G A H0 (xup σ.1 σ.2 (.inl (k, n.toNatClampNeg, xarr k)), σ.2 + 1) H1 locs → W p l e R s m args below meth c H1 locs (cells + 1) (slots + n.toNatClampNeg) Q (F0 m (pc + 2) ls (.ref σ.2 :: rest))) : W p l e R s m args below meth c H locs cells slots Q (F0 m pc ls (.int n :: rest)) := by
  have hby : n.toNatClampNeg * componentBytes (newarray.typeOf atype) ≤ 536870912 := by
    rw [hty]
    match k, hk with
    | 0, _ => show n.toNatClampNeg * 4 ≤ _; omega
    | 1, _ => show n.toNatClampNeg * 1 ≤ _; omega
    | 2, _ => show n.toNatClampNeg * 8 ≤ _; omega
    | 3, _ => show n.toNatClampNeg * 8 ≤ _; omega
  refine va_newaK hx hb (by rw [hty]; exact hts _ hw) rfl hdg rfl hn rfl hby hcells hslots rfl fun H1 cA e1 z1 o1 hAr hNm => ?_
  have hcA : cA = G.2 k := by
    rw [hty] at hNm
    match k, hk, hNm with
    | 0, _, hNm => exact Option.some.inj (hNm.symm.trans (hK.2 0 _ rfl).2)
    | 1, _, hNm => exact Option.some.inj (hNm.symm.trans (hK.2 1 _ rfl).2)
    | 2, _, hNm => exact Option.some.inj (hNm.symm.trans (hK.2 2 _ rfl).2)
    | 3, _, hNm => exact Option.some.inj (hNm.symm.trans (hK.2 3 _ rfl).2)
  subst hcA
  have h9 := kk H1 (hS.push hA (x := .inl (k, n.toNatClampNeg, xarr k)) (by show H1[H.size]? = some (vp_cell (G.2 k) _); rw [xarr_ok hk, e1, hty]) z1 o1)
  rw [hS.ref] at h9
  exact h9
theorem x_newq (hx : p.tables.exec = Jvm.exec) (hb : c.code = cc) (hts : ∀ w ∈ xWs, w.before args s = true) (hown : s.vm.findClass own = some m.cls) (hK : va_K G.1 vwCl (xtys G.2) s) (hS : xS G A H0 σ H locs) (hA : ∀ q, H0.size ≤ q → A q)
    {k idx : Nat} {C : String} (hty : (xtys G.2)[k]? = some (G.2 k, .object C)) (hover : va_AO C s) (hw : Cond.classLink own idx C ∈ xWs) {n : Int32} (hn : ¬ n < 0) (h5 : n.toNatClampNeg ≤ 100000) (hcells : cells + 1 ≤ R.cells) (hslots : slots + n.toNatClampNeg ≤ R.slots) (hdg : decode cc pc = .ok (.anewarray idx, 3))
    (kk : ∀ (H1 : Heap), xS G A H0 (xup σ.1 σ.2 (.inl (k, n.toNatClampNeg, .inr (.inr (.inr (.inr fun _ => none))))), σ.2 + 1) H1 locs → W p l e R s m args below meth c H1 locs (cells + 1) (slots + n.toNatClampNeg) Q (F0 m (pc + 3) ls (.ref σ.2 :: rest))) : W p l e R s m args below meth c H locs cells slots Q (F0 m pc ls (.int n :: rest)) := by
  refine W.anew hx hb hown (hts _ hw) (va_AO.use hover) rfl hdg rfl hn (by omega) hcells hslots fun cA kA comp f1 f2 f3 f4 => ?_
  have hcA : cA = G.2 k := by
    obtain ⟨-, -, -, -, -, -, hNm⟩ := hK.2 k _ hty
    exact Option.some.inj (f1.symm.trans hNm)
  subst hcA
  generalize hH1 : H.push ({ cls := G.2 k, slots := Array.replicate n.toNatClampNeg .null, vm := .none } : Cell) = H1
  have z1 : H1.size = H.size + 1 := by rw [← hH1, Array.size_push]
  have e1 : H1[H.size]? = some (arrV (G.2 k) n.toNatClampNeg (fun _ => .null)) := by rw [← hH1, Array.getElem?_push_size, ← arrV_new]
  have o1 : ∀ q : Nat, q < H.size → H1[q]? = H[q]? := fun q hq => by rw [← hH1, Array.getElem?_push, if_neg (Nat.ne_of_lt hq)]
  have h9 := kk H1 (hS.push hA (x := .inl (k, n.toNatClampNeg, .inr (.inr (.inr (.inr fun _ => none))))) e1 z1 o1)
  rw [hS.ref] at h9
  exact h9
theorem x_astq (hx : p.tables.exec = Jvm.exec) (hb : c.code = cc) (hK : va_K G.1 vwCl (xtys G.2) s) (hS : xS G A H0 σ H locs) {k n v : Nat} {f : Nat → Option Nat} {C : String} (he : σ.1 a = some (.inl (k, n, .inr (.inr (.inr (.inr f)))))) (hty : (xtys G.2)[k]? = some (G.2 k, .object C))
    (hr : ∃ cellV : Cell, H[v]? = some cellV ∧ cellV.vm.isStatics = false ∧ s.vm.findClass C = some cellV.cls) {i : Int32} (hin : vp_in i n) (hdg : decode cc pc = .ok (.aastore, 1))
    (kk : ∀ (H1 : Heap) (locs1 : List Loc), xS G A H0 (xup σ.1 a (.inl (k, n, .inr (.inr (.inr (.inr (va_up f i.toNatClampNeg (some v))))))), σ.2) H1 locs1 → W p l e R s m args below meth c H1 locs1 cells slots Q (F0 m (pc + 1) ls rest)) : W p l e R s m args below meth c H locs cells slots Q (F0 m pc ls (.ref v :: .int i :: .ref a :: rest)) := by
  have hlt : i.toNatClampNeg < n := Nat.not_le.mp fun q => hin (Or.inr q)
  have h0 : ¬ i < 0 := fun q => hin (Or.inl q)
  obtain ⟨cellV, g1, g2, g3⟩ := hr
  obtain ⟨kA, comp, k1, k2, k3, -⟩ := (hK.2 k _ hty).2
  have hcv : cellV.cls = comp := Option.some.inj (g3.symm.trans k3)
  obtain ⟨kE, hkE, -⟩ := Vm.findClass_spec k3
  refine W.aast hx hb (hS.2.1 a _ he) (fun q h => by cases h) (fun h => by cases h) k1 k2 rfl hkE ⟨h0, by show _ < (arrV _ _ _).slots.size; rw [arrV_size]; exact hlt⟩ g1 (fun q h => by rw [h] at g2; cases g2) (by rw [hcv]; exact hkE) (by rw [hcv]; exact vb_asgS (C := C) _ _ k3 k3) rfl rfl hdg fun H1 e1 z oq => ?_
  refine kk H1 _ (hS.put he ?_ z oq)
  show H1[a]? = some (vp_cell _ _)
  rw [e1]
  dsimp only [xce]
  rw [vp_cell_q, vp_cell_q, arrV_store]
  congr 2
  funext q
  by_cases hq : q = i.toNatClampNeg
  · subst hq
    simp [updV, va_up, va_rf]
  · simp [updV, va_up, hq]
theorem x_copyS (hx : p.tables.exec = Jvm.exec) (hb : c.code = cc) (hml : c.maxLocals = ls.size) (hown : s.vm.findClass own = some m.cls) (hts : ∀ w ∈ xWs, w.before args s = true) {idx : Nat} (hw1 : Cond.methodLink own idx arraycopyName ∈ xWs) (hw2 : Cond.native arraycopyName ∈ xWs) (hw3 : Cond.static arraycopyName ∈ xWs) (hw4 : Cond.initialized "java/lang/System" ∈ xWs)
    (hK : va_K G.1 vwCl (xtys G.2) s) (hS : xS G A H0 σ H locs) {k : Nat} {ty : FieldType} (hty : (xtys G.2)[k]? = some (G.2 k, ty)) (hty2 : ty = .int ∨ ty = .byte) {a0 n0 n1 : Nat} {f g : Nat → Int32} {scr : Cell} (hc0 : H[a0]? = some scr) (hof : s.isArrayOf scr ty) (hvm : scr.vm ≠ .unknown) (hsz : n0 ≤ scr.slots.size) (hval : ∀ j, j < n0 → scr.slots[j]? = some (.int (f j))) (hfit : ty = .byte → ∀ j, j < n0 → fits .byte (.int (f j)) = true) (he1 : σ.1 a = some (.inl (k, n1, .inl g)))
    {sp dp n : Int32} (h1 : 0 ≤ sp.toInt) (h2 : 0 ≤ dp.toInt) (h3 : 0 ≤ n.toInt) (h4 : sp.toInt + n.toInt ≤ n0) (h5 : dp.toInt + n.toInt ≤ n1)
    (hframes : 1 ≤ R.frames) (hlocals : (rest.map fun v => v.category).sum + 40 ≤ R.locals) (hdg : decode cc pc = .ok (.invokestatic idx, 3))
    (kk : ∀ (H1 : Heap) (locs1 : List Loc), xS G A H0 (xup σ.1 a (.inl (k, n1, .inl (va_cpy f g sp.toNatClampNeg dp.toNatClampNeg n.toNatClampNeg))), σ.2) H1 locs1 → W p l e R s m args below meth c H1 locs1 cells slots Q (F0 m (pc + 3) ls rest)) : W p l e R s m args below meth c H locs cells slots Q (F0 m pc ls (.int n :: .int dp :: .ref a :: .int sp :: .ref a0 :: rest)) := by
  have nn : ∀ z : Int32, 0 ≤ z.toInt → z.toInt = (z.toNatClampNeg : Int) := by
    intro z hz
    show z.toInt = ((z.toInt.toNat : Nat) : Int)
    omega
  have ng : ∀ z : Int32, 0 ≤ z.toInt → ¬ z < 0 := by
    intro z hz h
    have := Int32.lt_iff_toInt_lt.mp h
    simp at this
    omega
  have e4 : sp.toNatClampNeg + n.toNatClampNeg ≤ n0 := by have := nn sp h1; have := nn n h3; omega
  have e5 : dp.toNatClampNeg + n.toNatClampNeg ≤ n1 := by have := nn dp h2; have := nn n h3; omega
  have hlc : (rest.map fun v => v.category).sum + (nativeFrameWords "java/lang/System" "arraycopy" 5 + 11) ≤ R.locals := by
    have h : nativeFrameWords "java/lang/System" "arraycopy" 5 = 7 := by decide +kernel
    rw [h]
    omega
  intro T hT X
  have hc1 : H[a]? = some (vp_cell (G.2 k) (n1, .inl g)) := hS.2.1 a _ he1
  obtain ⟨hs6, k0, hk0, cm0, hkk0⟩ := hof
  obtain ⟨-, k1, hk1, cm1, hkk1⟩ := (hK.2 k _ hty).1 n1 (fun j => .int (g j))
  obtain ⟨vm', X', step⟩ := X.arraycopy hx hown (hts _ hw1) (hts _ hw2) (hts _ hw3) (hts _ hw4) (src := a0) (dst := a) (cs := scr) (cd := vp_cell (G.2 k) (n1, .inl g)) (srcPos := sp) (destPos := dp) (n := n) (by rw [hT]; exact hc0) (by rw [hT]; exact hc1)
    hs6 (fun _ h => by cases h) hvm (fun h => by cases h) hk0 hk1 hkk0 hkk1 (by rcases hty2 with rfl | rfl <;> simp [refKind]) (ng sp h1) (ng dp h2) (ng n h3)
    (by omega)
    (by show ¬ _ > ((arrV (G.2 k) n1 (fun j => .int (g j))).slots.size : Int); rw [arrV_size]; omega)
    (fun vm₁ _ i hi => by
      have e : scr.slots.getD (sp.toNatClampNeg + i) .null = .int (f (sp.toNatClampNeg + i)) := by
        rw [Array.getD_eq_getD_getElem?, hval _ (by omega)]
        rfl
      refine ⟨?_, ?_⟩
      · rw [e]
        rcases hty2 with rfl | rfl
        · rfl
        · exact hfit rfl _ (by omega)
      · rw [e]
        exact trivial)
    (g := F0 m pc ls (.int n :: .int dp :: .ref a :: .int sp :: .ref a0 :: rest)) rfl (by rw [hml]) (rest := rest) rfl (by rw [hb]; exact hdg) hframes (by show 2 * 0 + _ + _ ≤ _; omega)
  have e1 : copied scr (vp_cell (G.2 k) (n1, .inl g)) sp dp n = vp_cell (G.2 k) (n1, .inl (va_cpy f g sp.toNatClampNeg dp.toNatClampNeg n.toNatClampNeg)) := va_copiedX (fun z => .int z) scr (G.2 k) f g hval e4
  rw [e1] at X' step
  have hl : a < H.size := (Array.getElem?_eq_some_iff.mp hc1).1
  obtain ⟨t, a1, b1⟩ := kk (H.setIfInBounds a (vp_cell (G.2 k) (n1, .inl (va_cpy f g sp.toNatClampNeg dp.toNatClampNeg n.toNatClampNeg)))) _ (by
    obtain ⟨g1, g2, g3, g4⟩ := hS
    refine ⟨by simp; exact g1, fun b y hb => ?_, fun b hb => ?_, by simp; exact g4.1, fun q q1 q2 => ?_, fun q hq => ?_⟩
    · dsimp only at hb
      by_cases hab : b = a
      · subst hab
        rw [xup_same] at hb
        cases hb
        show (H.setIfInBounds b _)[b]? = some _
        simp [Array.getElem?_setIfInBounds, hl]
      · rw [xup_ne hab] at hb
        exact (g2 b y hb).kept (by simp [Array.getElem?_setIfInBounds, Ne.symm hab])
    · dsimp only at hb
      by_cases hab : b = a
      · subst hab
        exact g3 b (by rw [he1]; exact fun h => by cases h)
      · rw [xup_ne hab] at hb
        exact g3 b hb
    · have hqa : q ≠ a := fun h => q2 (by rw [h]; exact g3 a (by rw [he1]; exact fun h => by cases h))
      rw [show (H.setIfInBounds a (vp_cell (G.2 k) (n1, .inl (va_cpy f g sp.toNatClampNeg dp.toNatClampNeg n.toNatClampNeg))))[q]? = H[q]? by simp [Array.getElem?_setIfInBounds, Ne.symm hqa]]
      exact g4.2.1 q q1 q2
    · rcases List.mem_append.mp hq with h | h
      · exact g4.2.2 q h
      · obtain ⟨z, -, hz⟩ := List.mem_map.mp h
        rw [← hz]
        exact g3 a (by rw [he1]; exact fun h => by cases h)) _ (by rw [← hT]; rfl) X'
  exact ⟨t, step t a1, b1⟩
theorem x_astqO (hx : p.tables.exec = Jvm.exec) (hb : c.code = cc) (hK : va_K G.1 vwCl (xtys G.2) s) (hS : xS G A H0 σ H locs) {k n v : Nat} {f : Nat → Option Nat} {C D : String} (he : σ.1 a = some (.inl (k, n, .inr (.inr (.inr (.inr f)))))) (hty : (xtys G.2)[k]? = some (G.2 k, .object C))
    (hr : ∃ cellV : Cell, H[v]? = some cellV ∧ cellV.vm.isStatics = false ∧ s.vm.findClass D = some cellV.cls) (hca : va_Nw (.castable D C) s) {i : Int32} (hin : vp_in i n) (hdg : decode cc pc = .ok (.aastore, 1))
    (kk : ∀ (H1 : Heap) (locs1 : List Loc), xS G A H0 (xup σ.1 a (.inl (k, n, .inr (.inr (.inr (.inr (va_up f i.toNatClampNeg (some v))))))), σ.2) H1 locs1 → W p l e R s m args below meth c H1 locs1 cells slots Q (F0 m (pc + 1) ls rest)) : W p l e R s m args below meth c H locs cells slots Q (F0 m pc ls (.ref v :: .int i :: .ref a :: rest)) := by
  have hlt : i.toNatClampNeg < n := Nat.not_le.mp fun q => hin (Or.inr q)
  have h0 : ¬ i < 0 := fun q => hin (Or.inl q)
  obtain ⟨cellV, g1, g2, g3⟩ := hr
  obtain ⟨kA, comp, k1, k2, k3, -⟩ := (hK.2 k _ hty).2
  obtain ⟨kE, hkE, -⟩ := Vm.findClass_spec k3
  obtain ⟨c0, t1, f1, f2, f3⟩ := Cond.castable_spec (va_Nw.use (A := args) rfl hca)
  cases g3.symm.trans f1
  cases k3.symm.trans f2
  obtain ⟨kV, hkV, -⟩ := Vm.findClass_spec g3
  refine W.aast hx hb (hS.2.1 a _ he) (fun q h => by cases h) (fun h => by cases h) k1 k2 rfl hkE ⟨h0, by show _ < (arrV _ _ _).slots.size; rw [arrV_size]; exact hlt⟩ g1 (fun q h => by rw [h] at g2; cases g2) hkV f3 rfl rfl hdg fun H1 e1 z oq => ?_
  refine kk H1 _ (hS.put he ?_ z oq)
  show H1[a]? = some (vp_cell _ _)
  rw [e1]
  dsimp only [xce]
  rw [vp_cell_q, vp_cell_q, arrV_store]
  congr 2
  funext q
  by_cases hq : q = i.toNatClampNeg
  · subst hq
    simp [updV, va_up, va_rf]
  · simp [updV, va_up, hq]
end ROWS3
end
section
/-! A THROW whose class's constructor calls its parent by another index: the library's chain with its own index and bytes. -/
/-- the words of a chain of constructors whose first one calls its parent by index ix -/
def x_chA (X : String) (ix : Nat) (rx : ByteArray) : List String → List Cond
  | [] => Bundle.passSAtoms X Bundle.tN ix rx
  | Y :: r => Bundle.passSAtoms X Y ix rx ++ Bundle.chainSAtoms Y r
/-- the words of the class and of Throwable's fields -/
def x_clA (own : String) (ic : Nat) (X : String) : List Cond :=
  [.methodLink own ic (Bundle.initS X), .instantiable X 6, .castable X X, .selects X Bundle.tFill0 Bundle.tFill0, .selects X Bundle.tFill Bundle.tFill,
   .lays X Bundle.tN "cause" "Ljava/lang/Throwable;", .lays X Bundle.tN "stackTrace" Bundle.steD, .lays X Bundle.tN "suppressedExceptions" Bundle.listD, .lays X Bundle.tN "detailMessage" "Ljava/lang/String;",
   .isRef (.static Bundle.tN "UNASSIGNED_STACK" Bundle.steD), .isRef (.static Bundle.tN "SUPPRESSED_SENTINEL" Bundle.listD),
   .fieldLink Bundle.tN 198 Bundle.tN "backtrace" "Ljava/lang/Object;", .lays Bundle.tN Bundle.tN "backtrace" "Ljava/lang/Object;", .lays X Bundle.tN "backtrace" "Ljava/lang/Object;"]
def x_ownA (own : String) (ic : Nat) (X : String) (ix : Nat) (rx : ByteArray) (names : List String) : List Cond := Bundle.throwableAtoms ++ (Bundle.throwableSAtoms ++ (x_chA X ix rx names ++ x_clA own ic X))
theorem x_chX {args : Array Value} {s : State} {pl : Platform} (hpl : pl.magicAccessors = ({} : Platform).magicAccessors) {top : MethodId} (htop : s.methodNamed? (Bundle.initS Bundle.tN) = some top) {ix : Nat} {rx : ByteArray} (x0 : decode rx 0 = .ok (.aload_n 0, 1)) (x1 : decode rx 1 = .ok (.aload_n 1, 1)) (x2 : decode rx 2 = .ok (.invokespecial ix, 3)) (x5 : decode rx 5 = .ok (.return_, 1)) (names : List String) (X : String) (hX : Bundle.fit X = true) (hn : ∀ n ∈ names, Bundle.fit n = true) (h : ∀ c ∈ x_chA X ix rx names, c.before args s = true) :
    ∃ (P1 : PassC) (Ps : List PassC), Ps.length = names.length ∧ P1.LinksS pl s ∧ (∀ P, P ∈ Ps → P.LinksS pl s) ∧ s.methodNamed? (Bundle.initS X) = some P1.m ∧ P1.sup = firstOf top (Ps.map (·.toPassT)) ∧ PassesOn top (Ps.map (·.toPassT)) := by
  match names, hn, h with
  | [], _, h =>
    obtain ⟨P, L, hm, hs⟩ := PassC.ofS_atoms (args := args) (s := s) hpl (X := X) (Y := Bundle.tN) (Bundle.fit_spec hX).1 (by decide) x0 x1 x2 x5 h
    exact ⟨P, [], rfl, L, fun _ hP => absurd hP List.not_mem_nil, hm, Option.some.inj (hs.symm.trans htop), trivial⟩
  | Y :: r, hn, h =>
    have h1 := fun c hc => h c (List.mem_append_left _ hc)
    have h2 := fun c hc => h c (List.mem_append_right _ hc)
    obtain ⟨P, L, hm, hs⟩ := PassC.ofS_atoms (args := args) (s := s) hpl (X := X) (Y := Y) (Bundle.fit_spec hX).1 (Bundle.fit_spec (hn Y List.mem_cons_self)).2 x0 x1 x2 x5 h1
    obtain ⟨P2, Ps, hlen, L2, hL, hm2, hsup, hpass⟩ := Bundle.chainS (args := args) hpl htop r Y (hn Y List.mem_cons_self) (fun n hn2 => hn n (List.mem_cons_of_mem _ hn2)) h2
    exact ⟨P, P2 :: Ps, by simp [hlen], L, fun Q hQ => (List.mem_cons.mp hQ).elim (fun e => e ▸ L2) (hL Q), hm, Option.some.inj (hs.symm.trans hm2), hsup, hpass⟩
section NSE
variable {p : Program} {l : Launch} {e : Env} {R : Room} {s : State} {m₀ : MethodId} {args : Array Value} {below : List Frame} {meth : Method} {c : Code} {W : State} {locs : List Loc} {cells slots : Nat}
set_option maxHeartbeats 1000000 in
theorem x_ctorSX (X : Stand p l e R s m₀ args below meth c W locs cells slots) (hexec : p.tables.exec = Jvm.exec) (htr : e.platform.stackTraces = false) {own cls : String} {names : List String} {ic ix : Nat} {rx : ByteArray} (x0 : decode rx 0 = .ok (.aload_n 0, 1)) (x1 : decode rx 1 = .ok (.aload_n 1, 1)) (x2 : decode rx 2 = .ok (.invokespecial ix, 3)) (x5 : decode rx 5 = .ok (.return_, 1))
    (hown : s.vm.findClass own = some m₀.cls) (hcls : Bundle.fit cls = true) (hnames : ∀ n ∈ names, Bundle.fit n = true) (h : ∀ a ∈ x_ownA own ic cls ix rx names, a.before args s = true)
    (hlocs : ∀ x ∈ locs, ∀ cell, s.heap[x.base]? = some cell → cell.vm.isStatics = false)
    {a : Addr} {cX : ClassId} {kX : Class} (hfoundX : s.vm.findClass cls = some cX) (hkX : s.vm.classes[cX]? = some kX) (hcell : W.heap[a]? = some (freshCell cX kX)) (hnew : s.heap.size ≤ a) {msg : Value} (hmsg : msg.isRef = true)
    {g : JFrame} (hg : g.method = m₀) (hsize : g.locals.size = c.maxLocals) (hlocked : g.locked = none) (hentered : g.entered = []) {rest : List Value} (hstack : g.stack = msg :: .ref a :: .ref a :: rest)
    (hd6 : decode c.code g.pc = .ok (.invokespecial ic, 3)) (hd9 : decode c.code (g.pc + 3) = .ok (.athrow, 1)) (hout : ∀ x ∈ c.exceptionTable.toList, covers x (g.pc + 3) = false)
    (hRframes : names.length + 3 < R.frames) (hRlocals : 2 * g.monitorRoom + ((Value.ref a :: rest).map fun v => v.category).sum + (13 * (names.length + 1) + 42) ≤ R.locals) (hlocks : meth.locks = false) :
    ∃ U : State, Steps p.tables e below (W.setTop g) U ∧ U.status = .running ∧ Ended U below (.threw a) ∧ s.WarmedH U.vm ∧ s.sameButNew ({ U with vm := s.vm } : State) locs cells slots ∧ ∃ ce, U.heap[a]? = some ce ∧ ce.vm = .none ∧ s.vm.findClass cls = some ce.cls := by
  have howns : e.platform.frameOwnsMonitors = true := by rw [X.admits.platform]
  have hfin : e.platform.finalization = false := by rw [X.admits.platform]
  have hpl : e.platform.magicAccessors = ({} : Platform).magicAccessors := by rw [X.admits.platform]
  have a' : ∀ x, x ∈ x_ownA own ic cls ix rx names → x.holds args s none s [] = true := fun x hx => h x hx
  obtain ⟨T, Z0, L, -, Y⟩ := ThrowableC.of_atoms (args := args) howns hfin hpl (fun x hx => h x (by simp [x_ownA, hx]))
  obtain ⟨Z, M, LZ, LM, hnZ⟩ := Init0T.ofS_atoms (args := args) hpl L Y (fun x hx => h x (by simp [x_ownA, hx]))
  obtain ⟨P1, Ps, hlen, L1, hL, hP1m, hlink1, hlink⟩ := x_chX (args := args) hpl hnZ x0 x1 x2 x5 names cls hcls hnames (fun x hx => h x (by simp [x_ownA, hx]))
  have hfound : s.vm.findClass cls = some P1.m.cls := findClass_of_methodNamed hP1m
  cases Option.some.inj (hfoundX.symm.trans hfound)
  obtain ⟨c1, kX', hc1, hk, hord, -, -, hn6⟩ := Cond.instantiable_spec (a' (.instantiable cls 6) (by simp [x_ownA, x_clA]))
  cases Option.some.inj (hc1.symm.trans hfound)
  cases Option.some.inj (hkX.symm.trans hk)
  have hsel0 : selectMethod e.platform s.vm P1.m.cls T.fill0 = .method T.fill0 := by
    obtain ⟨c2, r2, m2, q1, q2, q3, q4, -⟩ := Cond.selects_spec (a' (.selects cls Bundle.tFill0 Bundle.tFill0) (by simp [x_ownA, x_clA]))
    cases Option.some.inj (q1.symm.trans hfound)
    cases Option.some.inj (q2.symm.trans (State.methodFound?_of_named Y.fill0 (by decide)))
    cases Option.some.inj (q3.symm.trans Y.fill0)
    rw [Launch.admits_selectMethod X.admits]; exact q4
  have hselF : selectMethod e.platform s.vm P1.m.cls T.fill = .method T.fill := by
    obtain ⟨c2, r2, m2, q1, q2, q3, q4, -⟩ := Cond.selects_spec (a' (.selects cls Bundle.tFill Bundle.tFill) (by simp [x_ownA, x_clA]))
    cases Option.some.inj (q1.symm.trans hfound)
    cases Option.some.inj (q2.symm.trans (State.methodFound?_of_named Y.fill (by decide)))
    cases Option.some.inj (q3.symm.trans Y.fill)
    rw [Launch.admits_selectMethod X.admits]; exact q4
  obtain ⟨cellS0, hcS0, hiss⟩ := Y.statics
  obtain ⟨u0, hu0⟩ := Cond.staticRefV Y.unassigned L.unassignedStatic L.statics hcS0 hiss (a' (.isRef (.static Bundle.tN "UNASSIGNED_STACK" Bundle.steD)) (by simp [x_ownA, x_clA]))
  obtain ⟨sen, hsen⟩ := Cond.staticRefV Y.sentinel L.sentinelStatic L.statics hcS0 hiss (a' (.isRef (.static Bundle.tN "SUPPRESSED_SENTINEL" Bundle.listD)) (by simp [x_ownA, x_clA]))
  obtain ⟨ci198, i198, fB, hk198, hg198, ha198, hsB, -, hnB, htB, hffB⟩ := Cond.ownField (t := .object "java/lang/Object") Y.found L.cls (by decide +kernel) (a' (.fieldLink Bundle.tN 198 Bundle.tN "backtrace" "Ljava/lang/Object;") (by simp [x_ownA, x_clA])) (a' (.lays Bundle.tN Bundle.tN "backtrace" "Ljava/lang/Object;") (by simp [x_ownA, x_clA])) e.platform hpl
  obtain ⟨cellS, hcS', heS, -, hkeep⟩ := X.same.2.2.2.2.2 T.aS cellS0 hcS0
  have hcellS : W.heap[T.aS]? = some cellS := hcS'
  have hout' : ∀ i, (⟨T.aS, i⟩ : Loc) ∉ locs := fun i hmem => by
    have := hlocs _ hmem cellS0 hcS0
    rw [hiss] at this; cases this
  have hknownS : cellS.vm ≠ .unknown := by
    rw [heS]; intro hu
    rw [show cellS0.vm = .unknown from hu] at hiss
    cases hiss
  have hneS : T.aS ≠ a := Nat.ne_of_lt (Nat.lt_of_lt_of_le (Array.getElem?_eq_some_iff.mp hcS0).1 hnew)
  obtain ⟨iM, hffM⟩ := Y.msg
  obtain ⟨tyC, dC, hdC, hdnC⟩ := Cond.laysAt hfound hk Y.cause (a' (.lays cls Bundle.tN "cause" "Ljava/lang/Throwable;") (by simp [x_ownA, x_clA]))
  obtain ⟨tyS, dS, hdS, hdnS⟩ := Cond.laysAt hfound hk Y.stack (a' (.lays cls Bundle.tN "stackTrace" Bundle.steD) (by simp [x_ownA, x_clA]))
  obtain ⟨tyP, dP, hdP, hdnP⟩ := Cond.laysAt hfound hk Y.supp (a' (.lays cls Bundle.tN "suppressedExceptions" Bundle.listD) (by simp [x_ownA, x_clA]))
  obtain ⟨tyM, dM, hdM, hdnM⟩ := Cond.laysAt hfound hk hffM (a' (.lays cls Bundle.tN "detailMessage" "Ljava/lang/String;") (by simp [x_ownA, x_clA]))
  obtain ⟨tyB, dB, hdB, hdnB⟩ := Cond.laysAt hfound hk hffB (a' (.lays cls Bundle.tN "backtrace" "Ljava/lang/Object;") (by simp [x_ownA, x_clA]))
  have bC := Cond.laysApart hdB hdC hdnB hdnC (by rw [hnB, Y.causeName]; decide)
  have bS := Cond.laysApart hdB hdS hdnB hdnS (by rw [hnB, Y.stackName]; decide)
  have bP := Cond.laysApart hdB hdP hdnB hdnP (by rw [hnB, Y.suppName]; decide)
  have hskip : SkipFacts T e.platform s (fun u => u) u0 ((preparedCellV T.toThrowableT (freshCell P1.m.cls kX) a u0 sen).withEntry W.cur) :=
    ⟨{ ci198 := ci198, i198 := i198, fBack := fB }, ⟨hk198, hg198, ha198, hsB⟩, by
      have := fresh_default (c := P1.m.cls) tyB
      rw [htB] at this
      simpa [preparedCellV, Cell.setSlot, Cell.withEntry, Array.getElem?_setIfInBounds, bC, bS, bP, bC.symm, bS.symm, bP.symm, defaultValue] using this, fun _ _ => rfl⟩
  obtain ⟨tm, methC, cdC, kC, vm₁, hnC, -, -, -, -, -, -, -, hW₁, st1⟩ := Steps.initColdS (tb := p.tables) (e := e) (below := below) (s := s) (U := W) X.here hexec X.warmed hpl hown (t := Bundle.initS cls) rfl rfl (Bundle.fit_spec hcls).2
    (a' (.methodLink own ic (Bundle.initS cls)) (by simp [x_ownA, x_clA])) (h (.instanceMethod (Bundle.initS cls)) (by cases names <;> simp [x_ownA, x_clA, x_chA, Bundle.passSAtoms])) (bytes := rx) (maxL := 2) (h (.code (Bundle.initS cls) rx 2 none) (by cases names <;> simp [x_ownA, x_clA, x_chA, Bundle.passSAtoms]))
    (f := g) hg (a := a) (msg := msg) (rest := .ref a :: rest) hstack hd6
  cases Option.some.inj (hnC.symm.trans hP1m)
  have X₁ := X.noted hW₁
  obtain ⟨vm₂, X₂, st2⟩ := X₁.ctorMessageOffV hexec (g := { g with stack := .ref a :: rest }) hg hsize T L Z LZ M LM (P1 :: Ps)
    (fun P hP => by rcases List.mem_cons.mp hP with rfl | hP; exact L1; exact hL P hP) ⟨hlink1, hlink⟩ (u0 := u0) (sen := sen) (self := a) hmsg (cell := freshCell P1.m.cls kX) (cellS := cellS)
    hcell (fun _ => by simp) (by simp) rfl rfl hsel0 hselF hcellS hneS hknownS (by rw [hkeep _ (hout' _)]; exact hu0) (by rw [hkeep _ (hout' _)]; exact hsen)
    (Takes.of_laid hk hord tyC (by rw [Y.causeType]; rfl)) (Takes.of_laid hk hord tyS (by rw [Y.stackType]; exact fits_refV_array _ u0)) (Takes.of_laid hk hord tyP (by rw [Y.suppType]; exact fits_refV_object _ sen))
    (Takes.of_laid hk hord tyM (by rw [Y.msgType]; exact fits_refV_object _ ⟨msg, hmsg⟩)) Y.objLocals hskip htr [] hd6
    (by simp only [List.length_cons, hlen]; omega) (by simp only [List.length_cons, hlen]; exact hRlocals)
  obtain ⟨hwalk, hrun, hended, hWU, hsame⟩ := X₂.athrowLeaves hexec (g := { g with stack := .ref a :: rest, pc := g.pc + 3 }) hg hlocked hentered hout (a := a) (rest := rest) rfl hd9
  obtain ⟨c3, c4, hc3, hc4, hasg⟩ := Cond.castable_spec (a' (.castable cls cls) (by simp [x_ownA, x_clA]))
  cases Option.some.inj (hc3.symm.trans hfound)
  cases Option.some.inj (hc4.symm.trans hfound)
  have hlt : a < ((W.setVm vm₁).setVm vm₂).heap.size := (Array.getElem?_eq_some_iff.mp hcell).1
  have hU := heapAt_setCell_self (s := (W.setVm vm₁).setVm vm₂) (plainBareV T.toThrowableT (freshCell P1.m.cls kX) a u0 sen msg) hlt
  refine ⟨_, st1 _ (fun acts => ?_), hrun, hended, hWU, hsame.weaken (fun y hy hlt' => ?_) (Nat.le_refl _) (Nat.le_refl _), _, hU, rfl, hfound⟩
  · rw [doInvoke_state]
    exact st2 _ hwalk
  · rcases List.mem_append.mp hy with h1 | h1
    · exact h1
    · exfalso
      have hb : y.base = a := by
        simp only [List.mem_cons, List.not_mem_nil, or_false] at h1
        rcases h1 with rfl | rfl | rfl | rfl | rfl <;> rfl
      rw [hb] at hlt'
      exact Nat.not_lt.mpr hnew hlt'
end NSE
def vx_atX (own : String) (ic : Nat) (X : String) (ix : Nat) (rx : ByteArray) (names : List String) : List Cond := (x_ownA own ic X ix rx names).filter vx_no
section NSE2
variable {p : Program} {l : Launch} {e : Env} {R : Room} {s : State} {m : MethodId} {args : Array Value} {below : List Frame} {meth : Method} {c : Code} {H : Heap} {locs : List Loc} {cells slots : Nat} {Q : State → Prop}
variable {mc ms : Nat} {free : Addr → Prop} {A0 A1 : Nat → Prop} {H0 : Heap} {a : Array Value} {ls : Array Slot} {st0 rest : List Value}
variable {Qc : Array Value → State → Outcome → State → Prop} {XC : String → State → State → Prop}
theorem x_throwX {cc : ByteArray} {pc ix : Nat} {rx : ByteArray} (hexec : p.tables.exec = Jvm.exec) (hb : c.code = cc) (hl : l.stackTraces = false) (x0 : decode rx 0 = .ok (.aload_n 0, 1)) (x1 : decode rx 1 = .ok (.aload_n 1, 1)) (x2 : decode rx 2 = .ok (.invokespecial ix, 3)) (x5 : decode rx 5 = .ok (.return_, 1)) {own cls text : String} {names : List String} {ik is ic mc ms sa : Nat} {A : Nat → Prop}
    (hown : s.vm.findClass own = some m.cls) (hcls : Bundle.fit cls = true) (hnames : ∀ n ∈ names, Bundle.fit n = true)
    (hk : (Cond.classLink own ik cls).before args s = true) (hini : (Cond.initialized cls).before args s = true) (hstr : vk_R own is text sa s) (hat : ∀ w ∈ vx_atX own ic cls ix rx names, w.before args s = true)
    (hgood : ∀ w ∈ Cond.classLink own ik cls :: Cond.initialized cls :: vx_atX own ic cls ix rx names, vx_ot w = true)
    (hU : vx_Zq Bundle.tN "UNASSIGNED_STACK" Bundle.steD A s s.heap) (hN : vx_Zq Bundle.tN "SUPPRESSED_SENTINEL" Bundle.listD A s s.heap) (hS : va_S A s.heap H locs) (hsize : ls.size = c.maxLocals)
    (d0 : decode cc pc = .ok (.new ik, 3)) (d3 : decode cc (pc + 3) = .ok (.dup, 1)) (hds : (decode cc (pc + 4) = .ok (.ldc is, 2) ∧ decode cc (pc + 6) = .ok (.invokespecial ic, 3) ∧ decode cc (pc + 9) = .ok (.athrow, 1)) ∨ (decode cc (pc + 4) = .ok (.ldc_w is, 3) ∧ decode cc (pc + 7) = .ok (.invokespecial ic, 3) ∧ decode cc (pc + 10) = .ok (.athrow, 1)))
    (hout : ∀ x ∈ c.exceptionTable.toList, False)
    (hRframes : names.length + 3 < R.frames) (hRlocals : (rest.map fun v => v.category).sum + (13 * (names.length + 1) + 43) ≤ R.locals) (hRcells : cells + 1 ≤ R.cells) (hRslots : slots + 6 ≤ R.slots) (hlocks : meth.locks = false)
    (hx : ∀ t : State, s.vm.Alike t.vm → H.size ≤ t.heap.size → (∀ q : Nat, q < H.size → t.heap[q]? = H[q]?) → XC cls s t)
    (hf : ∀ z ∈ locs, free z.base) (hc : cells + 1 ≤ mc) (hs : slots + 6 ≤ ms) :
    W p l e R s m args below meth c H locs cells slots (vx_MQ below Qc XC args s mc ms free) (F0 m pc ls rest) := by
  intro T hT X
  have htr : e.platform.stackTraces = false := (show e.platform.stackTraces = l.stackTraces by rw [X.admits.platform]).trans hl
  have Y := vx_rebase X (R' := { frames := R.frames, locals := R.locals, cells := 1, slots := 6 }) (Nat.le_refl _) (Nat.le_refl _) hRcells hRslots
  obtain ⟨s', hA⟩ : ∃ z, z = (T.setVm s.vm).setFrames (.invoking m args :: below) := ⟨_, rfl⟩
  rw [← hA] at Y
  have hvm : s'.vm = s.vm := by rw [hA]; rfl
  have hhp : s'.heap = H := by rw [hA]; exact hT
  have hW0 : s.WarmedH s'.vm := by rw [hvm]; exact State.WarmedH.refl s
  have hat' : ∀ w ∈ vx_atX own ic cls ix rx names, w.before args s' = true := fun w hw => vx_ot_at hW0 hvm.symm (hgood w (List.mem_cons_of_mem _ (List.mem_cons_of_mem _ hw))) (hat w hw)
  have hk' : (Cond.classLink own ik cls).before args s' = true := vx_ot_at hW0 hvm.symm (hgood _ List.mem_cons_self) hk
  have hini' : (Cond.initialized cls).before args s' = true := vx_ot_at hW0 hvm.symm (hgood _ (List.mem_cons_of_mem _ List.mem_cons_self)) hini
  have hU' : vx_Zq Bundle.tN "UNASSIGNED_STACK" Bundle.steD A s' s'.heap := by rw [hhp]; exact vx_Zq.moved hW0.alike (hU.kept hS.2.1)
  have hN' : vx_Zq Bundle.tN "SUPPRESSED_SENTINEL" Bundle.listD A s' s'.heap := by rw [hhp]; exact vx_Zq.moved hW0.alike (hN.kept hS.2.1)
  have h : ∀ w ∈ x_ownA own ic cls ix rx names, w.before args s' = true := vx_own hat' (vx_isRefq hU'.1) (vx_isRefq hN'.1) hU'.2.word hN'.2.word
  have hown' : s'.vm.findClass own = some m.cls := by rw [hvm]; exact hown
  have hins : (Cond.instantiable cls 6).before args s' = true := h _ (by simp [x_ownA, x_clA])
  obtain ⟨vm₁, cX, kX, hfX, hkX, -, -, X₁, st1⟩ := Y.newCold hexec (own := own) (C := cls) (index := ik) (n := 6) hown' hk' hins hini'
    (g := F0 m pc ls rest) rfl (by rw [hb]; exact d0) (Nat.le_refl _) (Nat.le_refl _)
  generalize hT1 : (T.setVm vm₁).pushCell { cls := cX, slots := kX.instanceTypes.map defaultValue, vm := .none } = T1 at X₁ st1
  have hcat : (Value.ref T.heap.size).category = 1 := rfl
  have hcellA : T1.heap[T.heap.size]? = some (freshCell cX kX) := by rw [← hT1]; exact State.heap_pushCell_size _ _
  have d3' : decode c.code (pc + 3) = .ok (.dup, 1) := by rw [hb]; exact d3
  obtain ⟨wd, d4', d7, d10⟩ : ∃ wd, ((wd = 2 ∧ decode c.code (pc + 4) = .ok (.ldc is, 2)) ∨ (wd = 3 ∧ decode c.code (pc + 4) = .ok (.ldc_w is, 3))) ∧ decode cc (pc + 4 + wd) = .ok (.invokespecial ic, 3) ∧ decode cc (pc + 4 + wd + 3) = .ok (.athrow, 1) := by
    rcases hds with ⟨q4, q6, q9⟩ | ⟨q4, q6, q9⟩
    · exact ⟨2, Or.inl ⟨rfl, by rw [hb]; exact q4⟩, q6, q9⟩
    · exact ⟨3, Or.inr ⟨rfl, by rw [hb]; exact q4⟩, q6, q9⟩
  have hstr' : vk_R own is text sa s' := vk_R.warm hW0 hstr
  obtain ⟨U, hsteps, hrun, hend, hW, hsame, ce, hce, hOv, hOc⟩ := x_ctorSX X₁ hexec htr (own := own) (cls := cls) (names := names) (ic := ic) x0 x1 x2 x5 hown' hcls hnames h (fun x hx => nomatch hx) hfX hkX hcellA (by rw [hhp, hT]; exact Nat.le_refl _) (msg := .ref sa) rfl
    (g := { method := m, pc := pc + 4 + wd, locals := ls, stack := .ref sa :: .ref T.heap.size :: .ref T.heap.size :: rest, locked := none }) rfl hsize rfl rfl (rest := rest) rfl
    (by rw [hb]; exact d7) (by rw [hb]; exact d10) (fun x hx => (hout x hx).elim) hRframes (by simp only [List.map_cons, List.sum_cons, hcat]; omega) hlocks
  obtain ⟨f1, f2⟩ := vx_frame hsame
  rw [hhp] at f1 f2
  have hWs : s.WarmedH U.vm := State.WarmedH.trans hW0 hW
  have hcl : s.vm.findClass cls = some ce.cls := by
    have h9 := hOc
    rw [hvm] at h9
    exact h9
  have hall : s.sameButNew ({ U with vm := s.vm } : State) locs mc ms := by
    subst hA
    obtain ⟨e1, e2⟩ := hsame
    rw [State.setFrames_setFrames] at e1
    have h2 : (T.setVm s.vm).sameButNew ({ U with vm := s.vm } : State) [] (0 + 1) (0 + 6) := ⟨e1, e2⟩
    have h3 := X.same.trans h2
    rw [List.append_nil] at h3
    exact h3.mono hc hs
  refine ⟨U, ?_, .threw T.heap.size, hrun, hend, Or.inr ⟨T.heap.size, rfl, cls, ce, locs, hx U hWs.alike f1 (fun q hq => f2 q hq (fun z hz => nomatch hz)), hce, hOv, hcl, hWs, hall, hf⟩⟩
  refine st1 _ ?_
  show Steps p.tables e below (T1.setTop { method := m, pc := pc + 3, locals := ls, stack := .ref T.heap.size :: rest, locked := none }) _
  jvm_step X₁.here [X₁.here.top, hexec, d3', Value.category]
  rcases d4' with ⟨rfl, d4'⟩ | ⟨rfl, d4'⟩
  · exact X₁.ldcString hexec (own := own) (text := text) (index := is) (a := sa) hown' hstr'.1 hstr'.2
      (g := { method := m, pc := pc + 4, locals := ls, stack := .ref T.heap.size :: .ref T.heap.size :: rest, locked := none }) rfl d4' _ hsteps
  · exact X₁.ldcStringW hexec (own := own) (text := text) (index := is) (a := sa) hown' hstr'.1 hstr'.2
      (g := { method := m, pc := pc + 4, locals := ls, stack := .ref T.heap.size :: .ref T.heap.size :: rest, locked := none }) rfl d4' _ hsteps
end NSE2
end
section
/-! WHAT A PROGRAM CHECKS of an instruction: that it is what the bytes decode to, and that 'info' is what the pool and the tables say. -/
def xlen : Instr → Nat
  | .bipush _ => 2
  | .sipush _ => 3
  | .ldc _ => 2
  | .ldc_w _ => 3
  | .ldc2_w _ => 3
  | .iload _ => 2
  | .lload _ => 2
  | .dload _ => 2
  | .aload _ => 2
  | .istore _ => 2
  | .lstore _ => 2
  | .dstore _ => 2
  | .astore _ => 2
  | .iinc _ _ => 3
  | .ifCond _ _ => 3
  | .if_icmp _ _ => 3
  | .if_acmp _ _ => 3
  | .goto _ => 3
  | .getfield _ => 3
  | .putfield _ => 3
  | .getstatic _ => 3
  | .new _ => 3
  | .newarray _ => 2
  | .anewarray _ => 3
  | .invokespecial _ => 3
  | .invokevirtual _ => 3
  | .invokestatic _ => 3
  | .checkcast _ => 3
  | .ifnonnull _ => 3
  | _ => 1
abbrev xPool : Type := List (Nat × Nat × List Nat)
abbrev xLds : Type := List (String × Nat × String × Nat)
/-- an entry of a class's pool: kinds 0 field, 1 static, 2 call, 3 new, 4 row of references, 6 a Token's text and a String's fields, 7 a throw -/
def xokQ (own : String) (Mt : Nat → Option xMth) (q : Nat × Nat × List Nat) : Bool := match q with
  | (0, idx, [ci, k, _, n]) => xokF own idx ci k n
  | (6, idx, [77]) => decide (Cond.fieldLinkNest own idx RX8 "text" "Ljava/lang/String;" "ShellWatch" ∈ lw_tbl)
  | (6, idx, [78]) => decide (Cond.fieldLink own idx RJ0 "value" "[B" ∈ xWs)
  | (6, idx, [79]) => decide (Cond.fieldLink own idx RJ0 "coder" "B" ∈ xWs)
  | (1, idx, [0, i]) => decide (Cond.fieldLink own idx RX8 (xtn i) "LShellWatch$Token;" ∈ xWs)
  | (1, idx, [1]) => decide (Cond.fieldLinkNest own idx RX8 "ALL" "[LShellWatch$Token;" "ShellWatch" ∈ lw_tbl)
  | (1, idx, [2]) => decide (Cond.fieldLink own idx RJ0 "COMPACT_STRINGS" "Z" ∈ xWs)
  | (1, idx, [4]) => decide (Cond.fieldLink own idx RJ6 "DigitOnes" "[B" ∈ xWs)
  | (1, idx, [5]) => decide (Cond.fieldLink own idx RJ6 "DigitTens" "[B" ∈ xWs)
  | (1, idx, [6]) => decide (Cond.fieldLink own idx RJx4a65c "DEFAULTCAPACITY_EMPTY_ELEMENTDATA" "[Ljava/lang/Object;" ∈ xWs)
  | (1, idx, [3]) => decide (Cond.fieldLink own idx RJ3 "SIOOBE_FORMATTER" "Ljava/util/function/BiFunction;" ∈ xWs)
  | (2, idx, [kd, key, n, _, mc, ms, ci]) => match Mt key with
    | some M => xokC own kd idx n ci M && (Nat.beq M.2.2.2.2.1 mc && Nat.beq M.2.2.2.2.2 ms)
    | none => false
  | (3, idx, [0, ci, n]) => match vwCl[ci]? with
    | some r => decide (Cond.classLink own idx r.1 ∈ xWs) && (decide (Cond.instantiable r.1 r.2.2 ∈ xWs) && (decide (Cond.initialized r.1 ∈ xWs) && Nat.beq r.2.2 n))
    | none => false
  | (4, idx, [4]) => decide (Cond.classLink own idx "ShellWatch$Token" ∈ xWs)
  | (4, idx, [5]) => decide (Cond.classLink own idx "ShellWatch$Game" ∈ xWs)
  | (4, idx, [6]) => decide (Cond.classLink own idx "java/lang/Object" ∈ xWs)
  | (8, idx, [ci]) => match vwCl[ci]? with
    | some r => decide (Cond.classLink own idx r.1 ∈ xWs)
    | none => false
  | _ => false
def xnm (e : Nat) : List String := match e with
  | 3 => ["java/lang/RuntimeException", "java/lang/Exception"]
  | _ => ["java/lang/RuntimeException", "java/lang/Exception"]
/-- which index the class's constructor calls its parent by, and its bytes -/
def xix (e : Nat) : Nat := match e with
  | 3 => 13
  | _ => 7
def xrx (e : Nat) : ByteArray := match e with
  | 3 => ⟨#[0x2a, 0x2b, 0xb7, 0x00, 0x0d, 0xb1]⟩
  | _ => ⟨#[0x2a, 0x2b, 0xb7, 0x00, 0x07, 0xb1]⟩
theorem xrx_ok (e : Nat) : decode (xrx e) 0 = .ok (.aload_n 0, 1) ∧ decode (xrx e) 1 = .ok (.aload_n 1, 1) ∧ decode (xrx e) 2 = .ok (.invokespecial (xix e), 3) ∧ decode (xrx e) 5 = .ok (.return_, 1) := by
  unfold xrx xix
  split
  · decide +kernel
  · decide +kernel
/-- of a throw: the class, its text, its constructor, by their places in the pool -/
def xokT (own : String) (cc : ByteArray) (exs : List (String × Nat × String)) (pc idx e is ic : Nat) : Bool :=
  Bundle.fit (xexc e) && ((xnm e).all Bundle.fit && (decide (Cond.classLink own idx (xexc e) ∈ xWs) && (decide (Cond.initialized (xexc e) ∈ xWs) && ((vx_atX own ic (xexc e) (xix e) (xrx e) (xnm e)).all (fun w => decide (w ∈ lw_tbl) && (goodWord w || xnest w)) && (exs.any (fun q => decide (q.1 = own) && Nat.beq q.2.1 is) &&
  (decide (decode cc (pc + 3) = .ok (.dup, 1)) && ((decide (decode cc (pc + 4) = .ok (.ldc is, 2)) && (decide (decode cc (pc + 6) = .ok (.invokespecial ic, 3)) && decide (decode cc (pc + 9) = .ok (.athrow, 1)))) || (decide (decode cc (pc + 4) = .ok (.ldc_w is, 3)) && (decide (decode cc (pc + 7) = .ok (.invokespecial ic, 3)) && decide (decode cc (pc + 10) = .ok (.athrow, 1)))))))))))
def xtgt (pc : Nat) (off : Int) (info : List Nat) : Bool := match info with
  | [t] => decide ((pc : Int) + off = (t : Int))
  | _ => false
def xtab (pc : Nat) (offs : Array Int) : Nat → List Nat → Bool
  | _, [] => true
  | j, t :: ts => (match offs[j]? with
    | some off => decide ((pc : Int) + off = (t : Int))
    | none => false) && xtab pc offs (j + 1) ts
def xspecP (own : String) (idx k : Nat) : Bool := match k with
  | 0 => decide (Cond.methodLink own idx Lib.Math.max.name ∈ xWs) && (decide (Cond.static Lib.Math.max.name ∈ xWs) && (decide (Cond.initialized "java/lang/Math" ∈ xWs) && decide (Cond.code Lib.Math.max.name Lib.Math.max.code 2 (some .int) ∈ xWs)))
  | 1 => decide (Cond.methodLink own idx Lib.Math.min.name ∈ xWs) && (decide (Cond.static Lib.Math.min.name ∈ xWs) && (decide (Cond.initialized "java/lang/Math" ∈ xWs) && decide (Cond.code Lib.Math.min.name Lib.Math.min.code 2 (some .int) ∈ xWs)))
  | 2 => decide (Cond.methodLink own idx Lib.MathLoose.max_long.x ∈ xWs) && (decide (Cond.static Lib.MathLoose.max_long.x ∈ xWs) && (decide (Cond.initialized "java/lang/Math" ∈ xWs) && decide (Cond.code Lib.MathLoose.max_long.x Lib.MathLoose.max_long.code 4 (some .long) ∈ xWs)))
  | 3 => decide (Cond.methodLink own idx Lib.MathLoose.min_long.x ∈ xWs) && (decide (Cond.static Lib.MathLoose.min_long.x ∈ xWs) && (decide (Cond.initialized "java/lang/Math" ∈ xWs) && decide (Cond.code Lib.MathLoose.min_long.x Lib.MathLoose.min_long.code 4 (some .long) ∈ xWs)))
  | 6 => decide (Cond.methodLink own idx arraycopyName ∈ xWs) && (decide (Cond.native arraycopyName ∈ xWs) && (decide (Cond.static arraycopyName ∈ xWs) && decide (Cond.initialized "java/lang/System" ∈ xWs)))
  | _ => false
def xisr (ret : Option FieldType) : Bool := match ret with
  | some (.object _) => true
  | some (.array _) => true
  | _ => false
theorem xisr_ok {ret : Option FieldType} (h : xisr ret = true) : ∃ rt, ret = some rt ∧ ((∃ n, rt = .object n) ∨ ∃ t, rt = .array t) := by
  unfold xisr at h
  split at h
  · exact ⟨_, rfl, Or.inl ⟨_, rfl⟩⟩
  · exact ⟨_, rfl, Or.inr ⟨_, rfl⟩⟩
  · cases h
def xspec (own : String) (ini : Bool) (cc : ByteArray) (nL : Nat) (ret : Option FieldType) (PO : xPool) (lds : xLds) (exs : List (String × Nat × String)) (pc : Nat) (ins : Instr) (info : List Nat) : Bool := match ins with
  | .istore i => Nat.blt i nL
  | .istore_n i => Nat.blt i nL
  | .astore i => Nat.blt i nL
  | .astore_n i => Nat.blt i nL
  | .iinc i _ => Nat.blt i nL
  | .lstore i => Nat.blt (i + 1) nL
  | .lstore_n i => Nat.blt (i + 1) nL
  | .dstore i => Nat.blt (i + 1) nL
  | .ifCond _ off => xtgt pc off info
  | .if_icmp _ off => xtgt pc off info
  | .if_acmp _ off => xtgt pc off info
  | .goto off => xtgt pc off info
  | .ifnonnull off => xtgt pc off info
  | .tableswitch dflt lo hi offs => match info with
    | d :: l0 :: ts => decide (lo = (l0 : Int)) && (decide (hi = (l0 : Int) + ts.length - 1) && (decide ((pc : Int) + dflt = (d : Int)) && (xtab pc offs 0 ts && Nat.ble (l0 + ts.length) 100000)))
    | _ => false
  | .getfield idx => decide ((0, idx, info) ∈ PO) || decide ((6, idx, info) ∈ PO)
  | .putfield idx => decide ((0, idx, info) ∈ PO) && match info with
    | [ci, k, t, n] => xokP own ci k t n && (!(Nat.beq n 2) || ini)
    | _ => false
  | .getstatic idx => decide ((1, idx, info) ∈ PO)
  | .new idx => match info with
    | [1, e, is, ic] => xokT own cc exs pc idx e is ic
    | _ => decide ((3, idx, info) ∈ PO)
  | .newarray a => match info with
    | [k] => Nat.blt k 4 && (decide (newarray.typeOf a = xkty k) && decide (Cond.arrayClass (xkty k) ∈ xWs))
    | _ => false
  | .anewarray idx => decide ((4, idx, info) ∈ PO)
  | .checkcast idx => decide ((8, idx, info) ∈ PO)
  | .ldc idx => match info with
    | [0, k] => decide (Cond.constant own idx (nI k) ∈ xWs)
    | [1, k] => decide (Cond.constant own idx (- nI k) ∈ xWs)
    | [2, i] => lds.any (fun q => decide (q.1 = own) && (Nat.beq q.2.1 idx && Nat.beq q.2.2.2 i))
    | _ => false
  | .ldc_w idx => match info with
    | [0, k] => decide (Cond.constant own idx (nI k) ∈ xWs)
    | [1, k] => decide (Cond.constant own idx (- nI k) ∈ xWs)
    | [2, i] => lds.any (fun q => decide (q.1 = own) && (Nat.beq q.2.1 idx && Nat.beq q.2.2.2 i))
    | _ => false
  | .ldc2_w idx => match info with
    | [0, k] => decide (Cond.constantLong own idx (lN k) ∈ xWs)
    | [1, k] => decide (Cond.constantLong own idx (- lN k) ∈ xWs)
    | _ => false
  | .lconst _ => true
  | .dconst d => decide (d = 0)
  | .fconst f => (decide (info = [0]) && decide (f = 0)) || (decide (info = [1]) && decide (f = 1))
  | .invokespecial idx => match info with
    | [_] => decide (Cond.methodLink own idx objectInit ∈ xWs) && (decide (Cond.instanceMethod objectInit ∈ xWs) && decide (Cond.code objectInit ⟨#[0xb1]⟩ 1 none ∈ xWs))
    | kd :: _ => decide ((2, idx, info) ∈ PO) && (Nat.beq kd 2 || (Nat.beq kd 4 || Nat.beq kd 7))
    | _ => false
  | .invokevirtual idx => match info with
    | [_, _] => false
    | kd :: _ => decide ((2, idx, info) ∈ PO) && (Nat.beq kd 1 || (Nat.beq kd 3 || (Nat.beq kd 5 || (Nat.beq kd 6 || Nat.beq kd 9))))
    | _ => false
  | .invokestatic idx => match info with
    | [_, k] => xspecP own idx k
    | kd :: _ => decide ((2, idx, info) ∈ PO) && (Nat.beq kd 0 || (Nat.beq kd 8 || Nat.beq kd 10))
    | _ => false
  | .ireturn => match info with
    | [t] => decide (ret = some (xty t))
    | _ => false
  | .lreturn => decide (ret = some .long)
  | .freturn => decide (ret = some .float)
  | .dreturn => decide (ret = some .double)
  | .areturn => xisr ret
  | .return_ => decide (ret = none)
  | _ => true
def xokI (own : String) (ini : Bool) (cc : ByteArray) (nL : Nat) (ret : Option FieldType) (PO : xPool) (lds : xLds) (exs : List (String × Nat × String)) (i : xI) (np : Nat) : Bool :=
  decide (decode cc i.1 = .ok (i.2.1, np - i.1)) && (Nat.ble i.1 np && ((match i.2.1 with
    | .tableswitch .. => true
    | ins => Nat.beq (np - i.1) (xlen ins)) && xspec own ini cc nL ret PO lds exs i.1 i.2.1 i.2.2))
/-- the instructions of a block, one behind another, up to ep -/
def xokB (own : String) (ini : Bool) (cc : ByteArray) (nL : Nat) (ret : Option FieldType) (PO : xPool) (lds : xLds) (exs : List (String × Nat × String)) (ep : Nat) : Nat → List xI → Bool
  | pc, [] => Nat.beq pc ep
  | pc, [i] => Nat.beq pc i.1 && xokI own ini cc nL ret PO lds exs i ep
  | pc, i :: j :: r => Nat.beq pc i.1 && (xokI own ini cc nL ret PO lds exs i j.1 && xokB own ini cc nL ret PO lds exs ep j.1 (j :: r))
end
section
/-! A STEP OF THE INTERPRETER IS A STEP OF THE MACHINE. -/
theorem xget_has {ls : Array Slot} {nL i : Nat} {v : Value} : ∀ {L : xL}, lv_has ls nL L → xget L i = some v → ls[i]? = some (.val v) := by
  intro L hl h
  have hm : (i, v) ∈ L := by
    clear hl
    induction L with
    | nil => cases h
    | cons q L ih =>
      unfold xget at h
      cases hb : Nat.beq q.1 i
      · rw [hb] at h
        exact List.mem_cons_of_mem _ (ih h)
      · rw [hb] at h
        have := Nat.eq_of_beq_eq_true hb
        subst this
        cases h
        exact List.mem_cons_self
  exact hl.2.2 _ hm
theorem iv_xans {ρ : Type} {z : ρ} {T : xR → Option ρ} {tag : Nat} {r : Option xR} {k : List Value → xH → Option ρ} (h : xans T tag r k = some z) : ∃ r', r = some r' ∧ ((∃ v, r'.1 = .inl v ∧ k v.toList r'.2 = some z) ∨ ∃ X, r'.1 = .inr X ∧ T (.inr X, r'.2) = some z) := by
  unfold xans at h
  split at h
  · unfold cI at h
    split at h
    · exact ⟨_, rfl, Or.inl ⟨_, rfl, h⟩⟩
    · exact ⟨_, rfl, Or.inr ⟨_, rfl, h⟩⟩
    · cases h
  · unfold cL at h
    split at h
    · exact ⟨_, rfl, Or.inl ⟨_, rfl, h⟩⟩
    · exact ⟨_, rfl, Or.inr ⟨_, rfl, h⟩⟩
    · cases h
  · unfold cA at h
    split at h
    · exact ⟨_, rfl, Or.inl ⟨_, rfl, h⟩⟩
    · exact ⟨_, rfl, Or.inr ⟨_, rfl, h⟩⟩
    · cases h
  · unfold cF at h
    split at h
    · exact ⟨_, rfl, Or.inl ⟨_, rfl, h⟩⟩
    · exact ⟨_, rfl, Or.inr ⟨_, rfl, h⟩⟩
    · cases h
  · unfold cD at h
    split at h
    · exact ⟨_, rfl, Or.inl ⟨_, rfl, h⟩⟩
    · exact ⟨_, rfl, Or.inr ⟨_, rfl, h⟩⟩
    · cases h
  · unfold cV at h
    split at h
    · exact ⟨_, rfl, Or.inl ⟨_, rfl, h⟩⟩
    · exact ⟨_, rfl, Or.inr ⟨_, rfl, h⟩⟩
    · cases h
  · cases h
theorem iv_xcall {ρ : Type} {z : ρ} {E : xEn} {call : Nat → List Value → xH → Option xR} {MC MS : Nat} {T : xR → Option ρ} {info : List Nat} {st : List Value} {σ : xH} {bc bs : Nat} {nx : List Value → xH → Nat → Nat → Option ρ} (h : xcall E call MC MS T info st σ bc bs nx = some z) :
    ∃ kd key n tag mc ms ci r, info = [kd, key, n, tag, mc, ms, ci] ∧ n ≤ st.length ∧ xcat (st.drop n) ≤ 8 ∧ bc + mc ≤ MC ∧ bs + ms ≤ MS ∧
      (ci ≠ 0 → ∃ b As, (st.take n).reverse = .ref b :: As ∧ ((∃ fs, σ.1 b = some (.inr (ci - 1, fs))) ∨ (ci - 1 = 99 ∧ ∃ i, xfind E.2.1 b xNS = some i) ∨ (ci - 1 = 99 ∧ ∃ fs, σ.1 b = some (.inr (11, fs))))) ∧ call key (st.take n).reverse σ = some r ∧
      ((∃ v, r.1 = .inl v ∧ nx (v.toList ++ st.drop n) r.2 (bc + mc) (bs + ms) = some z) ∨ (kd = 5 ∧ ∃ X, r.1 = .inr X ∧ T (.inr X, r.2) = some z)) := by
  unfold xcall at h
  split at h
  · next kd key n tag mc ms ci =>
    obtain ⟨h1, h2⟩ := iv_if h
    simp only [Bool.and_eq_true] at h1
    obtain ⟨g1, g2, g3, g4⟩ := h1
    have g1 := Nat.le_of_ble_eq_true g1
    have g2 := Nat.le_of_ble_eq_true g2
    have g3 := Nat.le_of_ble_eq_true g3
    have g4 := Nat.le_of_ble_eq_true g4
    split at h2
    · obtain ⟨r, hr, hv⟩ := iv_xans h2
      refine ⟨_, _, _, _, _, _, _, r, rfl, g1, g2, g3, g4, fun h => absurd rfl h, hr, ?_⟩
      rcases hv with ⟨v, hv1, hv2⟩ | ⟨X, hv1, hv2⟩
      · exact Or.inl ⟨v, hv1, hv2⟩
      · obtain ⟨k1, k2⟩ := iv_if hv2
        exact Or.inr ⟨Nat.eq_of_beq_eq_true k1, X, hv1, k2⟩
    · split at h2
      · next c b As hAs =>
        obtain ⟨hO, h3⟩ := iv_gO h2
        obtain ⟨r, hr, hv⟩ := iv_xans h3
        refine ⟨_, _, _, _, _, _, _, r, rfl, g1, g2, g3, g4, fun _ => ⟨b, As, hAs, hO⟩, by rw [hAs]; exact hr, ?_⟩
        rcases hv with ⟨v, hv1, hv2⟩ | ⟨X, hv1, hv2⟩
        · exact Or.inl ⟨v, hv1, hv2⟩
        · obtain ⟨k1, k2⟩ := iv_if hv2
          exact Or.inr ⟨Nat.eq_of_beq_eq_true k1, X, hv1, k2⟩
      · cases h2
  · cases h
/-- what a method's walk stands on -/
def xCx (p : Program) (l : Launch) (s : State) (m : MethodId) (args : Array Value) (meth : Method) (c : Code) (lds : xLds) (exs : List (String × Nat × String)) (G : xG) (E : xEn) (A : Nat → Prop) (d : Nat) (call : Nat → List Value → xH → Option xR) (Mt : Nat → Option xMth) (own : String) (ini : Bool) (cc : ByteArray) (nL : Nat) (ret : Option FieldType) (PO : xPool) : Prop :=
  p.tables.exec = Jvm.exec ∧ c.code = cc ∧ c.maxLocals = nL ∧ (∀ w ∈ xWs, w.before args s = true) ∧ s.vm.findClass own = some m.cls ∧ va_K G.1 vwCl (xtys G.2) s ∧ xK lds exs E A s s.heap ∧ (∀ q, s.heap.size ≤ q → A q) ∧
  (∀ x ∈ c.exceptionTable.toList, False) ∧ meth.locks = false ∧ meth.sig.returnType = ret ∧ l.stackTraces = false ∧ (ini = true → meth.name = "<init>") ∧ (∀ q ∈ PO, xokQ own Mt q = true) ∧ ∀ key M, Mt key = some M → xMet lds exs l G E d M (call key)
/-- from here the machine comes to Q -/
def xTg (p : Program) (l : Launch) (e : Env) (s : State) (m : MethodId) (args : Array Value) (below : List Frame) (meth : Method) (c : Code) (d MC MS : Nat) (Q : State → Prop) (G : xG) (A : Nat → Prop) (nL : Nat) (pc : Nat) (L : xL) (st : List Value) (σ : xH) (bc bs : Nat) : Prop :=
  bc ≤ MC → bs ≤ MS → ∀ (ls : Array Slot) (H : Heap) (locs : List Loc), lv_has ls nL L → xS G A s.heap σ H locs → W p l e (xrm (d + 1) MC MS) s m args below meth c H locs bc bs Q (F0 m pc ls st)
section STEPS
variable {p : Program} {l : Launch} {e : Env} {s : State} {m : MethodId} {args : Array Value} {below : List Frame} {meth : Method} {c : Code}
variable {lds : xLds} {exs : List (String × Nat × String)} {G : xG} {E : xEn} {A : Nat → Prop} {d MC MS nL : Nat} {call : Nat → List Value → xH → Option xR} {Mt : Nat → Option xMth} {own : String} {ini : Bool} {cc : ByteArray} {ret : Option FieldType} {PO : xPool} {r0 : xR}
theorem x_fin {H : Heap} {locs : List Loc} {σ : xH} {v : Option Value} (hS : xS G A s.heap σ H locs) (hr : r0 = (.inl v, σ)) : (∀ t : State, t.heap = H → s.WarmedH t.vm → xQc G A r0 args s (.returned v) t) ∧ ∀ q ∈ locs, A q.base := by
  subst hr
  exact ⟨fun t ht _ => ⟨v, rfl, rfl, by rw [ht]; exact hS.1, by rw [ht]; exact hS.2.1, hS.2.2.1, hS.2.2.2.F ht⟩, hS.2.2.2.2.2⟩
theorem x_thr {pc : Nat} {ls : Array Slot} {rest : List Value} {H : Heap} {locs : List Loc} {bc bs : Nat} {w : Nat → Option va_E} {z : Nat} {X : String} {ce : Cell} {q9 : Addr} (C : xCx p l s m args meth c lds exs G E A d call Mt own ini cc nL ret PO) (hS : xS G A s.heap (w, z) H locs) (hr1 : r0.1 = .inr X) (hr2 : r0.2.1 = w) (h3 : H[q9]? = some ce) (h4 : ce.vm = .none) (h5 : s.vm.findClass X = some ce.cls) (hbc : bc ≤ MC) (hbs : bs ≤ MS) :
    vx_W p l e (xrm (d + 1) MC MS) s m args below meth c H locs bc bs (vx_MQ below (xQc G A r0) (xXC G A r0) args s MC MS A) (F0 m pc ls rest) q9 :=
  vx_out (fun x hx => (C.2.2.2.2.2.2.2.2.1 x hx).elim) C.2.2.2.2.2.2.2.2.2.1 h3 h4 h5 (fun t ht _ => ⟨hr1, by rw [hr2, ht]; exact hS.2.1, by rw [hr2]; exact hS.2.2.1, hS.2.2.2.F ht⟩) hS.2.2.2.2.2 hbc hbs
theorem xlen_ok : ∀ j, j < xNS → (xbyt.map List.length).getD j 0 = (xtx j).length := by decide +kernel
theorem xtab_at {pc : Nat} {offs : Array Int} : ∀ {ts : List Nat} {j0 j t : Nat}, xtab pc offs j0 ts = true → ts[j]? = some t → ∃ off, offs[j0 + j]? = some off ∧ (pc : Int) + off = (t : Int) := by
  intro ts
  induction ts with
  | nil => intro j0 j t _ h; simp at h
  | cons t0 ts ih =>
    intro j0 j t h hj
    unfold xtab at h
    rw [Bool.and_eq_true] at h
    cases j with
    | zero =>
      simp at hj
      subst hj
      have h1 := h.1
      split at h1
      · next off ho => exact ⟨off, ho, of_decide_eq_true h1⟩
      · cases h1
    | succ j =>
      obtain ⟨off, ho, ht⟩ := ih h.2 (by simpa using hj)
      exact ⟨off, by rw [← ho]; congr 1; omega, ht⟩
theorem iv_xnew {ρ : Type} {z : ρ} {fin : xR → Option ρ} {info : List Nat} {st : List Value} {σ : xH} {bc bs : Nat} {nx : List Value → xH → Nat → Nat → Option ρ} (h : xnew MC MS fin info st σ bc bs nx = some z) :
    (∃ ci n, info = [0, ci, n] ∧ bc + 1 ≤ MC ∧ bs + n ≤ MS ∧ nx (.ref σ.2 :: st) (xup σ.1 σ.2 (.inr (ci, xdef ci n)), σ.2 + 1) (bc + 1) (bs + n) = some z) ∨ ∃ k is ic, info = [1, k, is, ic] ∧ bc + 1 ≤ MC ∧ bs + 6 ≤ MS ∧ xcat st ≤ 8 ∧ fin (.inr (xexc k), σ) = some z := by
  unfold xnew at h
  split at h
  · obtain ⟨h1, h2⟩ := iv_if h
    rw [Bool.and_eq_true] at h1
    exact Or.inl ⟨_, _, rfl, Nat.le_of_ble_eq_true h1.1, Nat.le_of_ble_eq_true h1.2, h2⟩
  · obtain ⟨h1, h2⟩ := iv_if h
    rw [Bool.and_eq_true, Bool.and_eq_true] at h1
    exact Or.inr ⟨_, _, _, rfl, Nat.le_of_ble_eq_true h1.1, Nat.le_of_ble_eq_true h1.2.1, Nat.le_of_ble_eq_true h1.2.2, h2⟩
  · cases h
theorem iv_xnewa {ρ : Type} {z : ρ} {x : Nat → (Nat → Int32) ⊕ (Nat → Int64) ⊕ (Nat → UInt32) ⊕ (Nat → UInt64) ⊕ (Nat → Option Nat)} {info : List Nat} {st : List Value} {σ : xH} {bc bs : Nat} {nx : List Value → xH → Nat → Nat → Option ρ} (h : xnewa MC MS x info st σ bc bs nx = some z) :
    ∃ n r k, st = .int n :: r ∧ info = [k] ∧ ¬ n < 0 ∧ bc + 1 ≤ MC ∧ bs + n.toNatClampNeg ≤ MS ∧ n.toNatClampNeg ≤ 100000 ∧ nx (.ref σ.2 :: r) (xup σ.1 σ.2 (.inl (k, n.toNatClampNeg, x k)), σ.2 + 1) (bc + 1) (bs + n.toNatClampNeg) = some z := by
  unfold xnewa at h
  obtain ⟨n, r, rfl, h⟩ := iv_t1I h
  obtain ⟨k, rfl, h⟩ := iv_i1 h
  obtain ⟨h1, h2⟩ := iv_if h
  simp only [Bool.and_eq_true, decide_eq_true_eq] at h1
  exact ⟨n, r, k, rfl, rfl, h1.1, Nat.le_of_ble_eq_true h1.2.1, Nat.le_of_ble_eq_true h1.2.2.1, Nat.le_of_ble_eq_true h1.2.2.2, h2⟩
theorem iv_xinit {ρ : Type} {z : ρ} {fin : xR → Option ρ} {info : List Nat} {st : List Value} {σ : xH} {bc bs : Nat} {nx : List Value → xH → Nat → Nat → Option ρ} (h : xinit E call MC MS fin info st σ bc bs nx = some z) :
    (∃ q, info = [q] ∧ ∃ a r, st = .ref a :: r ∧ xcat r ≤ 8 ∧ nx r σ bc bs = some z) ∨ xcall E call MC MS fin info st σ bc bs nx = some z := by
  unfold xinit at h
  split at h
  · obtain ⟨a, r, rfl, h⟩ := iv_t1A h
    obtain ⟨h1, h2⟩ := iv_if h
    exact Or.inl ⟨_, rfl, a, r, rfl, Nat.le_of_ble_eq_true h1, h2⟩
  · exact Or.inr h
theorem iv_xinv {ρ : Type} {z : ρ} {fin : xR → Option ρ} {info : List Nat} {st : List Value} {σ : xH} {bc bs : Nat} {pr : Nat → Option ρ} {nx : List Value → xH → Nat → Nat → Option ρ} (h : xinv E call MC MS fin info st σ bc bs pr nx = some z) :
    (∃ q k, info = [q, k] ∧ pr k = some z) ∨ xcall E call MC MS fin info st σ bc bs nx = some z := by
  unfold xinv at h
  split at h
  · exact Or.inl ⟨_, _, rfl, h⟩
  · exact Or.inr h
theorem iv_xprim {E : xEn} {ρ : Type} {z : ρ} {k : Nat} {st : List Value} {σ : xH} {nx : List Value → xH → Option ρ} (h : xprim E k st σ nx = some z) :
    (k = 0 ∧ ∃ x y r, st = .int y :: .int x :: r ∧ nx (.int (if x < y then y else x) :: r) σ = some z) ∨ (k = 1 ∧ ∃ x y r, st = .int y :: .int x :: r ∧ nx (.int (if y < x then y else x) :: r) σ = some z) ∨
    (k = 2 ∧ ∃ x y r, st = .long y :: .long x :: r ∧ nx (.long (if y < x then x else y) :: r) σ = some z) ∨ (k = 3 ∧ ∃ x y r, st = .long y :: .long x :: r ∧ nx (.long (if y < x then y else x) :: r) σ = some z) ∨
    (k = 6 ∧ ∃ n j b i a r, st = .int n :: .int j :: .ref b :: .int i :: .ref a :: r ∧ cpI E σ a i b j n (fun σ' => nx r σ') = some z) := by
  unfold xprim at h
  split at h
  · exact Or.inl ⟨rfl, _, _, _, rfl, h⟩
  · exact Or.inr (Or.inl ⟨rfl, _, _, _, rfl, h⟩)
  · exact Or.inr (Or.inr (Or.inl ⟨rfl, _, _, _, rfl, h⟩))
  · exact Or.inr (Or.inr (Or.inr (Or.inl ⟨rfl, _, _, _, rfl, h⟩)))
  · exact Or.inr (Or.inr (Or.inr (Or.inr ⟨rfl, _, _, _, _, _, _, rfl, h⟩)))
  · cases h
section LIT
variable {R : Room} {H : Heap} {locs : List Loc} {cells slots : Nat} {Q : State → Prop} {pc : Nat} {ls : Array Slot} {rest : List Value}
theorem x_iinc (hx : p.tables.exec = Jvm.exec) (hb : c.code = cc) {i : Nat} {k : Int} {x : Int32} {L : xL} (hdg : decode cc pc = .ok (.iinc i k, 3)) (hl : lv_has ls nL L) (hg : xget L i = some (.int x)) (hn : i < nL)
    (kk : ∀ ls' : Array Slot, lv_has ls' nL (xset1 L i (.int (x + Int32.ofInt k))) → W p l e R s m args below meth c H locs cells slots Q (F0 m (pc + 3) ls' rest)) : W p l e R s m args below meth c H locs cells slots Q (F0 m pc ls rest) := by
  have hm : ∃ j : Nat, L[j]? = some (i, Value.int x) := by
    clear kk hl
    induction L with
    | nil => cases hg
    | cons q L ih =>
      unfold xget at hg
      cases hb : Nat.beq q.1 i
      · rw [hb] at hg
        obtain ⟨j, hj⟩ := ih hg
        exact ⟨j + 1, by simpa using hj⟩
      · rw [hb] at hg
        have := Nat.eq_of_beq_eq_true hb
        subst this
        refine ⟨0, ?_⟩
        have h2 : q.2 = .int x := by
          have : some q.2 = some (.int x) := hg
          exact Option.some.inj this
        rw [← h2]
        rfl
  obtain ⟨j, hj⟩ := hm
  exact lv_iinc hx hb hdg hl hj rfl hn rfl kk
theorem x_ldcwS (hx : p.tables.exec = Jvm.exec) (hb : c.code = cc) {tx : String} {index q : Nat} (hown : s.vm.findClass own = some m.cls) (hZ : vk_R own index tx q s) (hdg : decode cc pc = .ok (.ldc_w index, 3))
    (kk : W p l e R s m args below meth c H locs cells slots Q (F0 m (pc + 3) ls (.ref q :: rest))) : W p l e R s m args below meth c H locs cells slots Q (F0 m pc ls rest) := by
  intro T hT X
  obtain ⟨t, a1, b1⟩ := kk T hT X
  refine ⟨t, ?_, b1⟩
  obtain ⟨k, cf, i, a', hk, hcf, hcp, -, hr, hev'⟩ := Cond.stringRef_spec hown hZ.1
  cases hZ.2.symm.trans hev'
  obtain ⟨k', hk', he⟩ := X.warmed.alike.2.2 _ _ hk
  have hr' : k'.resolved[index]? = some (some (.string q)) := by
    rcases X.warmed.entry hk hk' index with h | ⟨h, -⟩
    · rw [h]; exact hr
    · rw [hr] at h; cases h
  jvm_step X.here [hx, hb, hdg, ldc_w.wp_string (e := e) (s := T) (f := F0 m pc ls rest) X.here.top hk' (by rw [he]; exact hcf) hcp hr']
  exact a1
theorem x_tokText (hx : p.tables.exec = Jvm.exec) (hb : c.code = cc) (hown : s.vm.findClass own = some m.cls) {idx q : Nat} {v : Value} {o n d : String} {host : String} (hlink : (Cond.fieldLinkNest own idx o n d host).before args s = true) (hE : va_OF o n d v q A s s.heap) (hS : va_S A s.heap H locs) (hdg : decode cc pc = .ok (.getfield idx, 3))
    (kk : W p l e R s m args below meth c H locs cells slots Q (F0 m (pc + 3) ls (v :: rest))) : W p l e R s m args below meth c H locs cells slots Q (F0 m pc ls (.ref q :: rest)) := by
  obtain ⟨cf, k, i, f, cell, h1, h2, h3, h4, h5, h6⟩ := hE.kept hS.2.1
  exact va_Wgetf hx hb hown hlink h1 h2 h3 h4 h5 rfl rfl hdg kk
end LIT
theorem x_callI (C : xCx p l s m args meth c lds exs G E A d call Mt own ini cc nL ret PO) {pc i : Nat} {z : xR ⊕ xJ} {nx : xL → List Value → xH → Nat → Nat → Option (xR ⊕ xJ)} {L : xL}
    (hnx : ∀ L st σ bc bs, nx L st σ bc bs = some z → xTg p l e s m args below meth c d MC MS (vx_MQ below (xQc G A r0) (xXC G A r0) args s MC MS A) G A nL (pc + 3) L st σ bc bs) (hfin : ∀ r, z = .inl r → r0 = r)
    {kd key n tag mc ms ci : Nat} {r : xR} {st : List Value} {σ : xH} {bc bs : Nat} (hq : xokQ own Mt (2, i, [kd, key, n, tag, mc, ms, ci]) = true) (g1 : n ≤ st.length) (g2 : xcat (st.drop n) ≤ 8) (g3 : bc + mc ≤ MC) (g4 : bs + ms ≤ MS)
    (hrv : ci ≠ 0 → ∃ b As, (st.take n).reverse = .ref b :: As ∧ ((∃ fs, σ.1 b = some (.inr (ci - 1, fs))) ∨ (ci - 1 = 99 ∧ ∃ i, xfind E.2.1 b xNS = some i) ∨ (ci - 1 = 99 ∧ ∃ fs, σ.1 b = some (.inr (11, fs))))) (hcl : call key (st.take n).reverse σ = some r)
    (hz : (∃ v, r.1 = .inl v ∧ nx L (v.toList ++ st.drop n) r.2 (bc + mc) (bs + ms) = some z) ∨ (kd = 5 ∧ ∃ X, r.1 = .inr X ∧ some (Sum.inl (Sum.inr X, r.2)) = some z))
    {ls : Array Slot} {H : Heap} {locs : List Loc} (hl : lv_has ls nL L) (hS : xS G A s.heap σ H locs) (hd : decode cc pc = .ok (xins kd i, 3)) :
    W p l e (xrm (d + 1) MC MS) s m args below meth c H locs bc bs (vx_MQ below (xQc G A r0) (xXC G A r0) args s MC MS A) (F0 m pc ls st) := by
  obtain ⟨hx, hb, hml, hts, hown, hK, hKK, hA, hexc, hlocks, hret, htr, hini, hPO, hM⟩ := id C
  simp only [xokQ] at hq
  split at hq
  · next M hMt =>
    simp only [Bool.and_eq_true] at hq
    obtain ⟨hokC, e1, e2⟩ := hq
    have e1 := Nat.eq_of_beq_eq_true e1
    have e2 := Nat.eq_of_beq_eq_true e2
    subst e1
    subst e2
    refine x_invoke (r := r) (rest := st.drop n) hx hb hml hts hown hK hKK hS hA hl.1 hokC (hM key M hMt) (av := (st.take n).reverse) (by simp; omega) (by rw [List.reverse_reverse, List.take_append_drop]) hcl hrv g2 g3 g4 hd ?_ ?_ ?_
    · intro hk
      rcases hz with ⟨v, hv, -⟩ | ⟨hk5, -⟩
      · exact ⟨v, hv⟩
      · exact absurd hk5 hk
    · intro X ce q9 z9 H1 locs1 q1 q2 q3 q4 q5
      rcases hz with ⟨v, hv, -⟩ | ⟨-, X', hX', hz⟩
      · rw [hv] at q1; cases q1
      · rw [hX'] at q1
        cases q1
        have hr9 := hfin _ (Option.some.inj hz).symm
        exact x_thr C q2 (by rw [hr9]) (by rw [hr9]) q3 q4 q5 g3 g4
    · intro v H1 locs1 hv hS1
      rcases hz with ⟨v', hv', hz⟩ | ⟨-, X', hX', -⟩
      · rw [hv] at hv'
        cases hv'
        exact hnx _ _ _ _ _ hz g3 g4 ls H1 locs1 hl hS1
      · rw [hX'] at hv; cases hv
  · cases hq
theorem x_throw (C : xCx p l s m args meth c lds exs G E A d call Mt own ini cc nL ret PO) {pc i k is ic : Nat} (hsp : xspec own ini cc nL ret PO lds exs pc (.new i) [1, k, is, ic] = true) {ls : Array Slot} {H : Heap} {locs : List Loc} {σ : xH} {st : List Value} {bc bs : Nat} (hS : xS G A s.heap σ H locs) (hr : r0 = (.inr (xexc k), σ))
    (hd : decode cc pc = .ok (.new i, 3)) (hnL : ls.size = nL) (hcat : xcat st ≤ 8) (hc9 : bc + 1 ≤ MC) (hs9 : bs + 6 ≤ MS) :
    W p l e (xrm (d + 1) MC MS) s m args below meth c H locs bc bs (vx_MQ below (xQc G A r0) (xXC G A r0) args s MC MS A) (F0 m pc ls st) := by
  obtain ⟨hx, hb, hml, hts, hown, hK, hKK, hA, hexc, hlocks, hret, htr, hini, hPO, hM⟩ := id C
  have hsp : xokT own cc exs pc i k is ic = true := hsp
  unfold xokT at hsp
  simp only [Bool.and_eq_true, Bool.or_eq_true, decide_eq_true_eq] at hsp
  obtain ⟨w1, w2, w3, w4, w5, w6, d3, hds⟩ := hsp
  obtain ⟨q, hq, hq1⟩ := List.any_eq_true.mp w6
  rw [Bool.and_eq_true, decide_eq_true_eq] at hq1
  obtain ⟨g1, g2⟩ := hq1
  have g2 := Nat.eq_of_beq_eq_true g2
  obtain ⟨sa, hstr⟩ := hKK.2.2.2.2.2.2.2.2.2.2.2.2.2.1 q hq
  rw [g1, g2] at hstr
  have hw : ∀ w ∈ vx_atX own ic (xexc k) (xix k) (xrx k) (xnm k), w ∈ lw_tbl ∧ (goodWord w = true ∨ xnest w = true) := by
    intro w hw
    have h := List.all_eq_true.mp w5 w hw
    rw [Bool.and_eq_true, decide_eq_true_eq, Bool.or_eq_true] at h
    exact h
  have hnt : ∀ w : Cond, xnest w = true → w.onTables = true := by
    intro w h
    cases w <;> first | rfl | cases h
  have hlen : (xnm k).length = 2 := by
    unfold xnm
    split <;> rfl
  subst hr
  have hat : ∀ w ∈ vx_atX own ic (xexc k) (xix k) (xrx k) (xnm k), w.before args s = true := by
    intro w h
    obtain ⟨h1, h2⟩ := hw w h
    rcases h2 with h2 | h2
    · exact hts _ (List.mem_filter.mpr ⟨List.mem_append_right _ h1, h2⟩)
    · exact va_Nw.use (hnt w h2) (hKK.2.2.2.2.2.2.2.2.2.1 w h1 h2)
  have hgd : ∀ w ∈ Cond.classLink own i (xexc k) :: Cond.initialized (xexc k) :: vx_atX own ic (xexc k) (xix k) (xrx k) (xnm k), vx_ot w = true := by
    intro w h
    unfold vx_ot
    rcases List.mem_cons.mp h with rfl | h
    · rfl
    · rcases List.mem_cons.mp h with rfl | h
      · rfl
      · obtain ⟨-, h2⟩ := hw w h
        rcases h2 with h2 | h2
        · rw [h2, Bool.or_true]
        · rw [hnt w h2, Bool.true_or]
  have hfr : (xnm k).length + 3 < (xrm (d + 1) MC MS).frames := by
    rw [hlen]
    show 2 + 3 < d + 1 + 12
    omega
  have hlo : (st.map fun v => v.category).sum + (13 * ((xnm k).length + 1) + 43) ≤ (xrm (d + 1) MC MS).locals := by
    rw [hlen]
    show xcat st + (13 * (2 + 1) + 43) ≤ 40 * (d + 1) + 200
    omega
  have hxx : ∀ t : State, s.vm.Alike t.vm → H.size ≤ t.heap.size → (∀ q : Nat, q < H.size → t.heap[q]? = H[q]?) → xXC G A (.inr (xexc k), σ) (xexc k) s t := by
    intro t _ hsz hq9
    refine ⟨rfl, fun a x ha => ?_, hS.2.2.1, Nat.le_trans hS.2.2.2.1 hsz, fun q h1 h2 => (hq9 q (Nat.lt_of_lt_of_le h1 hS.2.2.2.1)).trans (hS.2.2.2.2.1 q h1 h2)⟩
    have h9 := hS.2.1 a x ha
    exact h9.kept (hq9 a h9.lt)
  obtain ⟨x0, x1, x2, x5⟩ := xrx_ok k
  exact x_throwX (A := A) hx hb htr x0 x1 x2 x5 hown w1 (fun n hn => List.all_eq_true.mp w2 n hn) (hts _ w3) (hts _ w4) hstr hat hgd hKK.2.2.2.2.2.2.2.1 hKK.2.2.2.2.2.2.2.2.1 hS.2.2.2 (hnL.trans hml.symm) hd d3 hds hexc hfr hlo hc9 hs9 hlocks hxx hS.2.2.2.2.2 hc9 hs9
theorem xcastSO : Cond.castable RX11 "java/lang/Object" ∈ lw_tbl := by decide +kernel
set_option maxHeartbeats 4000000 in
theorem x_step (C : xCx p l s m args meth c lds exs G E A d call Mt own ini cc nL ret PO) {pc np : Nat} {ins : Instr} {info : List Nat} (hok : xokI own ini cc nL ret PO lds exs (pc, ins, info) np = true) {z : xR ⊕ xJ} (hfin : ∀ r, z = .inl r → r0 = r)
    (hj : ∀ t L st σ bc bs, z = .inr (t, L, st, σ, bc, bs) → xTg p l e s m args below meth c d MC MS (vx_MQ below (xQc G A r0) (xXC G A r0) args s MC MS A) G A nL t L st σ bc bs)
    {nx : xL → List Value → xH → Nat → Nat → Option (xR ⊕ xJ)} (hnx : ∀ L st σ bc bs, nx L st σ bc bs = some z → xTg p l e s m args below meth c d MC MS (vx_MQ below (xQc G A r0) (xXC G A r0) args s MC MS A) G A nL np L st σ bc bs)
    {L : xL} {st : List Value} {σ : xH} {bc bs : Nat} (h : xstep E call MC MS (fun r => some (.inl r)) (fun t L st σ bc bs => some (.inr (t, L, st, σ, bc, bs))) nx ins info L st σ bc bs = some z) :
    xTg p l e s m args below meth c d MC MS (vx_MQ below (xQc G A r0) (xXC G A r0) args s MC MS A) G A nL pc L st σ bc bs := by
  intro hbc hbs ls H locs hl hS
  obtain ⟨hx, hb, hml, hts, hown, hK, hKK, hA, hexc, hlocks, hret, htr, hini, hPO, hM⟩ := id C
  unfold xokI at hok
  simp only [Bool.and_eq_true] at hok
  obtain ⟨hd0, hle, hlen, hsp⟩ := hok
  have hd := of_decide_eq_true hd0
  clear hd0
  have hle : pc ≤ np := Nat.le_of_ble_eq_true hle
  have hnL : ls.size = nL := hl.1
  cases ins with
  | iconst i =>
    dsimp only [xstep] at h
    have e9 : np - pc = 1 := Nat.eq_of_beq_eq_true hlen
    rw [e9] at hd
    obtain rfl : np = pc + 1 := by omega
    exact lv_iconst hx hb hd rfl (hnx _ _ _ _ _ h hbc hbs ls H locs hl hS)
  | bipush i =>
    dsimp only [xstep] at h
    have e9 : np - pc = 2 := Nat.eq_of_beq_eq_true hlen
    rw [e9] at hd
    obtain rfl : np = pc + 2 := by omega
    exact lv_bipush hx hb hd rfl (hnx _ _ _ _ _ h hbc hbs ls H locs hl hS)
  | sipush i =>
    dsimp only [xstep] at h
    have e9 : np - pc = 3 := Nat.eq_of_beq_eq_true hlen
    rw [e9] at hd
    obtain rfl : np = pc + 3 := by omega
    exact lv_sipush hx hb hd rfl (hnx _ _ _ _ _ h hbc hbs ls H locs hl hS)
  | lconst i =>
    dsimp only [xstep] at h
    have e9 : np - pc = 1 := Nat.eq_of_beq_eq_true hlen
    rw [e9] at hd
    obtain rfl : np = pc + 1 := by omega
    exact lv_lconst hx hb hd rfl (hnx _ _ _ _ _ h hbc hbs ls H locs hl hS)
  | dconst i =>
    dsimp only [xstep] at h
    have e9 : np - pc = 1 := Nat.eq_of_beq_eq_true hlen
    rw [e9] at hd
    obtain rfl : np = pc + 1 := by omega
    have q9 := iv_iD h
    clear h
    obtain ⟨-, h⟩ := q9
    obtain rfl := of_decide_eq_true hsp
    exact lv_dconst0 hx hb hd (hnx _ _ _ _ _ h hbc hbs ls H locs hl hS)
  | fconst i =>
    dsimp only [xstep] at h
    have e9 : np - pc = 1 := Nat.eq_of_beq_eq_true hlen
    rw [e9] at hd
    obtain rfl : np = pc + 1 := by omega
    have q9 := iv_iF h
    clear h
    rcases q9 with ⟨rfl, h⟩ | ⟨rfl, h⟩
    · have hi : i = 0 := by simpa [xspec] using hsp
      subst hi
      exact lv_fconst0 hx hb hd (hnx _ _ _ _ _ h hbc hbs ls H locs hl hS)
    · have hi : i = 1 := by simpa [xspec] using hsp
      subst hi
      exact lv_fconst1 hx hb hd (hnx _ _ _ _ _ h hbc hbs ls H locs hl hS)
  | ldc i =>
    dsimp only [xstep] at h
    have e9 : np - pc = 2 := Nat.eq_of_beq_eq_true hlen
    rw [e9] at hd
    obtain rfl : np = pc + 2 := by omega
    have q9 := iv_iK h
    clear h
    rcases q9 with ⟨k, rfl, h⟩ | ⟨k, rfl, h⟩ | ⟨j, rfl, hj9, h⟩
    · have w1 : decide (Cond.constant own i (nI k) ∈ xWs) = true := hsp
      exact lv_ldc hx hb hown (hts _ (of_decide_eq_true w1)) hd (hnx _ _ _ _ _ h hbc hbs ls H locs hl hS)
    · have w1 : decide (Cond.constant own i (- nI k) ∈ xWs) = true := hsp
      exact lv_ldc hx hb hown (hts _ (of_decide_eq_true w1)) hd (hnx _ _ _ _ _ h hbc hbs ls H locs hl hS)
    · obtain ⟨q, hq, hq1⟩ := List.any_eq_true.mp hsp
      simp only [Bool.and_eq_true, decide_eq_true_eq] at hq1
      obtain ⟨g1, g2, g3⟩ := hq1
      have g2 := Nat.eq_of_beq_eq_true g2
      have g3 := Nat.eq_of_beq_eq_true g3
      have hR := hKK.2.2.2.2.2.2.2.2.2.2.2.2.1 q hq
      rw [g1, g2, g3] at hR
      exact va_ldcS hx hb hown hR hd (hnx _ _ _ _ _ h hbc hbs ls H locs hl hS)
  | ldc_w i =>
    dsimp only [xstep] at h
    have e9 : np - pc = 3 := Nat.eq_of_beq_eq_true hlen
    rw [e9] at hd
    obtain rfl : np = pc + 3 := by omega
    have q9 := iv_iK h
    clear h
    rcases q9 with ⟨k, rfl, h⟩ | ⟨k, rfl, h⟩ | ⟨j, rfl, hj9, h⟩
    · have w1 : decide (Cond.constant own i (nI k) ∈ xWs) = true := hsp
      exact lv_ldcw hx hb hown (hts _ (of_decide_eq_true w1)) hd (hnx _ _ _ _ _ h hbc hbs ls H locs hl hS)
    · have w1 : decide (Cond.constant own i (- nI k) ∈ xWs) = true := hsp
      exact lv_ldcw hx hb hown (hts _ (of_decide_eq_true w1)) hd (hnx _ _ _ _ _ h hbc hbs ls H locs hl hS)
    · obtain ⟨q, hq, hq1⟩ := List.any_eq_true.mp hsp
      simp only [Bool.and_eq_true, decide_eq_true_eq] at hq1
      obtain ⟨g1, g2, g3⟩ := hq1
      have g2 := Nat.eq_of_beq_eq_true g2
      have g3 := Nat.eq_of_beq_eq_true g3
      have hR := hKK.2.2.2.2.2.2.2.2.2.2.2.2.1 q hq
      rw [g1, g2, g3] at hR
      exact x_ldcwS hx hb hown hR hd (hnx _ _ _ _ _ h hbc hbs ls H locs hl hS)
  | ldc2_w i =>
    dsimp only [xstep] at h
    have e9 : np - pc = 3 := Nat.eq_of_beq_eq_true hlen
    rw [e9] at hd
    obtain rfl : np = pc + 3 := by omega
    have q9 := iv_iK2 h
    clear h
    rcases q9 with ⟨k, rfl, h⟩ | ⟨k, rfl, h⟩
    · have w1 : decide (Cond.constantLong own i (lN k) ∈ xWs) = true := hsp
      exact lv_ldc2 hx hb hown (hts _ (of_decide_eq_true w1)) hd (hnx _ _ _ _ _ h hbc hbs ls H locs hl hS)
    · have w1 : decide (Cond.constantLong own i (- lN k) ∈ xWs) = true := hsp
      exact lv_ldc2 hx hb hown (hts _ (of_decide_eq_true w1)) hd (hnx _ _ _ _ _ h hbc hbs ls H locs hl hS)
  | iload i =>
    dsimp only [xstep] at h
    have e9 : np - pc = 2 := Nat.eq_of_beq_eq_true hlen
    rw [e9] at hd
    obtain rfl : np = pc + 2 := by omega
    have q9 := iv_kkI h
    clear h
    obtain ⟨x, hg, h⟩ := q9
    exact lv_iload hx hb hd (xget_has hl hg) (hnx _ _ _ _ _ h hbc hbs ls H locs hl hS)
  | iload_n i =>
    dsimp only [xstep] at h
    have e9 : np - pc = 1 := Nat.eq_of_beq_eq_true hlen
    rw [e9] at hd
    obtain rfl : np = pc + 1 := by omega
    have q9 := iv_kkI h
    clear h
    obtain ⟨x, hg, h⟩ := q9
    exact lv_iload_n hx hb hd rfl (xget_has hl hg) (hnx _ _ _ _ _ h hbc hbs ls H locs hl hS)
  | lload i =>
    dsimp only [xstep] at h
    have e9 : np - pc = 2 := Nat.eq_of_beq_eq_true hlen
    rw [e9] at hd
    obtain rfl : np = pc + 2 := by omega
    have q9 := iv_kkL h
    clear h
    obtain ⟨x, hg, h⟩ := q9
    exact lv_lload hx hb hd (xget_has hl hg) (hnx _ _ _ _ _ h hbc hbs ls H locs hl hS)
  | lload_n i =>
    dsimp only [xstep] at h
    have e9 : np - pc = 1 := Nat.eq_of_beq_eq_true hlen
    rw [e9] at hd
    obtain rfl : np = pc + 1 := by omega
    have q9 := iv_kkL h
    clear h
    obtain ⟨x, hg, h⟩ := q9
    exact lv_lload_n hx hb hd rfl (xget_has hl hg) (hnx _ _ _ _ _ h hbc hbs ls H locs hl hS)
  | dload i =>
    dsimp only [xstep] at h
    have e9 : np - pc = 2 := Nat.eq_of_beq_eq_true hlen
    rw [e9] at hd
    obtain rfl : np = pc + 2 := by omega
    have q9 := iv_kkD h
    clear h
    obtain ⟨x, hg, h⟩ := q9
    exact lv_dload hx hb hd (xget_has hl hg) (hnx _ _ _ _ _ h hbc hbs ls H locs hl hS)
  | aload i =>
    dsimp only [xstep] at h
    have e9 : np - pc = 2 := Nat.eq_of_beq_eq_true hlen
    rw [e9] at hd
    obtain rfl : np = pc + 2 := by omega
    have q9 := iv_kkA h
    clear h
    obtain ⟨x, hg, h⟩ := q9
    exact lv_aload hx hb hd (xget_has hl hg) (hnx _ _ _ _ _ h hbc hbs ls H locs hl hS)
  | aload_n i =>
    dsimp only [xstep] at h
    have e9 : np - pc = 1 := Nat.eq_of_beq_eq_true hlen
    rw [e9] at hd
    obtain rfl : np = pc + 1 := by omega
    have q9 := iv_kkA h
    clear h
    obtain ⟨x, hg, h⟩ := q9
    exact lv_aload_n hx hb hd rfl (xget_has hl hg) (hnx _ _ _ _ _ h hbc hbs ls H locs hl hS)
  | istore i =>
    dsimp only [xstep] at h
    have e9 : np - pc = 2 := Nat.eq_of_beq_eq_true hlen
    rw [e9] at hd
    obtain rfl : np = pc + 2 := by omega
    have q9 := iv_t1I h
    clear h
    obtain ⟨x, r, rfl, h⟩ := q9
    exact lv_istore hx hb hd hl (Nat.le_of_ble_eq_true hsp) rfl (fun ls' hl' => hnx _ _ _ _ _ h hbc hbs ls' H locs hl' hS)
  | istore_n i =>
    dsimp only [xstep] at h
    have e9 : np - pc = 1 := Nat.eq_of_beq_eq_true hlen
    rw [e9] at hd
    obtain rfl : np = pc + 1 := by omega
    have q9 := iv_t1I h
    clear h
    obtain ⟨x, r, rfl, h⟩ := q9
    exact lv_istore_n hx hb hd rfl hl (Nat.le_of_ble_eq_true hsp) rfl (fun ls' hl' => hnx _ _ _ _ _ h hbc hbs ls' H locs hl' hS)
  | lstore i =>
    dsimp only [xstep] at h
    have e9 : np - pc = 2 := Nat.eq_of_beq_eq_true hlen
    rw [e9] at hd
    obtain rfl : np = pc + 2 := by omega
    have q9 := iv_t1L h
    clear h
    obtain ⟨x, r, rfl, h⟩ := q9
    exact lv_lstore hx hb hd hl (Nat.le_of_ble_eq_true hsp) rfl (fun ls' hl' => hnx _ _ _ _ _ h hbc hbs ls' H locs hl' hS)
  | lstore_n i =>
    dsimp only [xstep] at h
    have e9 : np - pc = 1 := Nat.eq_of_beq_eq_true hlen
    rw [e9] at hd
    obtain rfl : np = pc + 1 := by omega
    have q9 := iv_t1L h
    clear h
    obtain ⟨x, r, rfl, h⟩ := q9
    exact lv_lstore_n hx hb hd rfl hl (Nat.le_of_ble_eq_true hsp) rfl (fun ls' hl' => hnx _ _ _ _ _ h hbc hbs ls' H locs hl' hS)
  | dstore i =>
    dsimp only [xstep] at h
    have e9 : np - pc = 2 := Nat.eq_of_beq_eq_true hlen
    rw [e9] at hd
    obtain rfl : np = pc + 2 := by omega
    have q9 := iv_t1D h
    clear h
    obtain ⟨x, r, rfl, h⟩ := q9
    exact lv_dstore hx hb hd hl (Nat.le_of_ble_eq_true hsp) rfl (fun ls' hl' => hnx _ _ _ _ _ h hbc hbs ls' H locs hl' hS)
  | astore i =>
    dsimp only [xstep] at h
    have e9 : np - pc = 2 := Nat.eq_of_beq_eq_true hlen
    rw [e9] at hd
    obtain rfl : np = pc + 2 := by omega
    have q9 := iv_t1A h
    clear h
    obtain ⟨x, r, rfl, h⟩ := q9
    exact lv_astore hx hb hd hl (Nat.le_of_ble_eq_true hsp) rfl (fun ls' hl' => hnx _ _ _ _ _ h hbc hbs ls' H locs hl' hS)
  | astore_n i =>
    dsimp only [xstep] at h
    have e9 : np - pc = 1 := Nat.eq_of_beq_eq_true hlen
    rw [e9] at hd
    obtain rfl : np = pc + 1 := by omega
    have q9 := iv_t1A h
    clear h
    obtain ⟨x, r, rfl, h⟩ := q9
    exact lv_astore_n hx hb hd rfl hl (Nat.le_of_ble_eq_true hsp) rfl (fun ls' hl' => hnx _ _ _ _ _ h hbc hbs ls' H locs hl' hS)
  | iinc i k =>
    dsimp only [xstep] at h
    have e9 : np - pc = 3 := Nat.eq_of_beq_eq_true hlen
    rw [e9] at hd
    obtain rfl : np = pc + 3 := by omega
    have q9 := iv_kkI h
    clear h
    obtain ⟨x, hg, h⟩ := q9
    exact x_iinc hx hb hd hl hg (Nat.le_of_ble_eq_true hsp) (fun ls' hl' => hnx _ _ _ _ _ h hbc hbs ls' H locs hl' hS)
  | iadd =>
    dsimp only [xstep] at h
    have e9 : np - pc = 1 := Nat.eq_of_beq_eq_true hlen
    rw [e9] at hd
    obtain rfl : np = pc + 1 := by omega
    have q9 := iv_t2I h
    clear h
    obtain ⟨x, y, r, rfl, h⟩ := q9
    exact lv_iadd hx hb hd (hnx _ _ _ _ _ h hbc hbs ls H locs hl hS)
  | isub =>
    dsimp only [xstep] at h
    have e9 : np - pc = 1 := Nat.eq_of_beq_eq_true hlen
    rw [e9] at hd
    obtain rfl : np = pc + 1 := by omega
    have q9 := iv_t2I h
    clear h
    obtain ⟨x, y, r, rfl, h⟩ := q9
    exact lv_isub hx hb hd (hnx _ _ _ _ _ h hbc hbs ls H locs hl hS)
  | imul =>
    dsimp only [xstep] at h
    have e9 : np - pc = 1 := Nat.eq_of_beq_eq_true hlen
    rw [e9] at hd
    obtain rfl : np = pc + 1 := by omega
    have q9 := iv_t2I h
    clear h
    obtain ⟨x, y, r, rfl, h⟩ := q9
    exact lv_imul hx hb hd (hnx _ _ _ _ _ h hbc hbs ls H locs hl hS)
  | iand =>
    dsimp only [xstep] at h
    have e9 : np - pc = 1 := Nat.eq_of_beq_eq_true hlen
    rw [e9] at hd
    obtain rfl : np = pc + 1 := by omega
    have q9 := iv_t2I h
    clear h
    obtain ⟨x, y, r, rfl, h⟩ := q9
    exact lv_iand hx hb hd (hnx _ _ _ _ _ h hbc hbs ls H locs hl hS)
  | ior =>
    dsimp only [xstep] at h
    have e9 : np - pc = 1 := Nat.eq_of_beq_eq_true hlen
    rw [e9] at hd
    obtain rfl : np = pc + 1 := by omega
    have q9 := iv_t2I h
    clear h
    obtain ⟨x, y, r, rfl, h⟩ := q9
    exact lv_ior hx hb hd (hnx _ _ _ _ _ h hbc hbs ls H locs hl hS)
  | ixor =>
    dsimp only [xstep] at h
    have e9 : np - pc = 1 := Nat.eq_of_beq_eq_true hlen
    rw [e9] at hd
    obtain rfl : np = pc + 1 := by omega
    have q9 := iv_t2I h
    clear h
    obtain ⟨x, y, r, rfl, h⟩ := q9
    exact lv_ixor hx hb hd (hnx _ _ _ _ _ h hbc hbs ls H locs hl hS)
  | aconst_null =>
    dsimp only [xstep] at h
    have e9 : np - pc = 1 := Nat.eq_of_beq_eq_true hlen
    rw [e9] at hd
    obtain rfl : np = pc + 1 := by omega
    exact lv_null hx hb hd (hnx _ _ _ _ _ h hbc hbs ls H locs hl hS)
  | ifnonnull o =>
    dsimp only [xstep] at h
    have e9 : np - pc = 3 := Nat.eq_of_beq_eq_true hlen
    rw [e9] at hd
    have q9 := iv_t1A h
    clear h
    obtain ⟨a, r, rfl, h⟩ := q9
    have q9 := iv_i1 h
    clear h
    obtain ⟨t, rfl, h⟩ := q9
    have ht : (pc : Int) + o = (t : Int) := of_decide_eq_true hsp
    exact lv_ifnonnull hx hb hd ht (hj _ _ _ _ _ _ (Option.some.inj h).symm hbc hbs ls H locs hl hS)
  | ineg =>
    dsimp only [xstep] at h
    have e9 : np - pc = 1 := Nat.eq_of_beq_eq_true hlen
    rw [e9] at hd
    obtain rfl : np = pc + 1 := by omega
    have q9 := iv_t1I h
    clear h
    obtain ⟨x, r, rfl, h⟩ := q9
    exact lv_ineg hx hb hd (hnx _ _ _ _ _ h hbc hbs ls H locs hl hS)
  | dup_x1 =>
    dsimp only [xstep] at h
    have e9 : np - pc = 1 := Nat.eq_of_beq_eq_true hlen
    rw [e9] at hd
    obtain rfl : np = pc + 1 := by omega
    have q9 := iv_tV h
    clear h
    obtain ⟨v, r, rfl, hc, h⟩ := q9
    have q9 := iv_tV h
    clear h
    obtain ⟨u, r, rfl, hc2, h⟩ := q9
    exact lv_dup_x1 hx hb hd hc hc2 (hnx _ _ _ _ _ h hbc hbs ls H locs hl hS)
  | checkcast i =>
    dsimp only [xstep] at h
    have e9 : np - pc = 3 := Nat.eq_of_beq_eq_true hlen
    rw [e9] at hd
    obtain rfl : np = pc + 3 := by omega
    have q9 := iv_t1A h
    clear h
    obtain ⟨a, r, rfl, h⟩ := q9
    have q9 := iv_i1 h
    clear h
    obtain ⟨ci, rfl, h⟩ := q9
    have q9 := iv_xck h
    clear h
    obtain ⟨⟨fs, he⟩, h⟩ := q9
    have hq := hPO _ (of_decide_eq_true hsp)
    simp only [xokQ] at hq
    split at hq
    · next r9 hr9 =>
      exact va_castS hx hb hown (hts _ (of_decide_eq_true hq)) (hK.1 ci _ hr9).2 (va_recv hK (hS.2.1.one he) (ci := ci) (q0 := 0) hr9 rfl) hd (hnx _ _ _ _ _ h hbc hbs ls H locs hl hS)
    · cases hq
  | ishl =>
    dsimp only [xstep] at h
    have e9 : np - pc = 1 := Nat.eq_of_beq_eq_true hlen
    rw [e9] at hd
    obtain rfl : np = pc + 1 := by omega
    have q9 := iv_t2I h
    clear h
    obtain ⟨x, y, r, rfl, h⟩ := q9
    exact lv_ishl hx hb hd (hnx _ _ _ _ _ h hbc hbs ls H locs hl hS)
  | ishr =>
    dsimp only [xstep] at h
    have e9 : np - pc = 1 := Nat.eq_of_beq_eq_true hlen
    rw [e9] at hd
    obtain rfl : np = pc + 1 := by omega
    have q9 := iv_t2I h
    clear h
    obtain ⟨x, y, r, rfl, h⟩ := q9
    exact lv_ishr hx hb hd (hnx _ _ _ _ _ h hbc hbs ls H locs hl hS)
  | idiv =>
    dsimp only [xstep] at h
    have e9 : np - pc = 1 := Nat.eq_of_beq_eq_true hlen
    rw [e9] at hd
    obtain rfl : np = pc + 1 := by omega
    have q9 := iv_t2I h
    clear h
    obtain ⟨x, y, r, rfl, h⟩ := q9
    have q9 := iv_nz h
    clear h
    obtain ⟨hz, h⟩ := q9
    exact lv_idiv hx hb hd (of_decide_eq_true hz) (hnx _ _ _ _ _ h hbc hbs ls H locs hl hS)
  | irem =>
    dsimp only [xstep] at h
    have e9 : np - pc = 1 := Nat.eq_of_beq_eq_true hlen
    rw [e9] at hd
    obtain rfl : np = pc + 1 := by omega
    have q9 := iv_t2I h
    clear h
    obtain ⟨x, y, r, rfl, h⟩ := q9
    have q9 := iv_nz h
    clear h
    obtain ⟨hz, h⟩ := q9
    exact lv_irem hx hb hd (of_decide_eq_true hz) (hnx _ _ _ _ _ h hbc hbs ls H locs hl hS)
  | ldiv =>
    dsimp only [xstep] at h
    have e9 : np - pc = 1 := Nat.eq_of_beq_eq_true hlen
    rw [e9] at hd
    obtain rfl : np = pc + 1 := by omega
    have q9 := iv_t2L h
    clear h
    obtain ⟨x, y, r, rfl, h⟩ := q9
    have q9 := iv_nz h
    clear h
    obtain ⟨hz, h⟩ := q9
    exact lv_ldiv hx hb hd (of_decide_eq_true hz) (hnx _ _ _ _ _ h hbc hbs ls H locs hl hS)
  | lrem =>
    dsimp only [xstep] at h
    have e9 : np - pc = 1 := Nat.eq_of_beq_eq_true hlen
    rw [e9] at hd
    obtain rfl : np = pc + 1 := by omega
    have q9 := iv_t2L h
    clear h
    obtain ⟨x, y, r, rfl, h⟩ := q9
    have q9 := iv_nz h
    clear h
    obtain ⟨hz, h⟩ := q9
    exact lv_lrem hx hb hd (of_decide_eq_true hz) (hnx _ _ _ _ _ h hbc hbs ls H locs hl hS)
  | ladd =>
    dsimp only [xstep] at h
    have e9 : np - pc = 1 := Nat.eq_of_beq_eq_true hlen
    rw [e9] at hd
    obtain rfl : np = pc + 1 := by omega
    have q9 := iv_t2L h
    clear h
    obtain ⟨x, y, r, rfl, h⟩ := q9
    exact lv_ladd hx hb hd (hnx _ _ _ _ _ h hbc hbs ls H locs hl hS)
  | lsub =>
    dsimp only [xstep] at h
    have e9 : np - pc = 1 := Nat.eq_of_beq_eq_true hlen
    rw [e9] at hd
    obtain rfl : np = pc + 1 := by omega
    have q9 := iv_t2L h
    clear h
    obtain ⟨x, y, r, rfl, h⟩ := q9
    exact lv_lsub hx hb hd (hnx _ _ _ _ _ h hbc hbs ls H locs hl hS)
  | lmul =>
    dsimp only [xstep] at h
    have e9 : np - pc = 1 := Nat.eq_of_beq_eq_true hlen
    rw [e9] at hd
    obtain rfl : np = pc + 1 := by omega
    have q9 := iv_t2L h
    clear h
    obtain ⟨x, y, r, rfl, h⟩ := q9
    exact lv_lmul hx hb hd (hnx _ _ _ _ _ h hbc hbs ls H locs hl hS)
  | lcmp =>
    dsimp only [xstep] at h
    have e9 : np - pc = 1 := Nat.eq_of_beq_eq_true hlen
    rw [e9] at hd
    obtain rfl : np = pc + 1 := by omega
    have q9 := iv_t2L h
    clear h
    obtain ⟨x, y, r, rfl, h⟩ := q9
    exact W.lcmp hx hb hd (hnx _ _ _ _ _ h hbc hbs ls H locs hl hS)
  | i2l =>
    dsimp only [xstep] at h
    have e9 : np - pc = 1 := Nat.eq_of_beq_eq_true hlen
    rw [e9] at hd
    obtain rfl : np = pc + 1 := by omega
    have q9 := iv_t1I h
    clear h
    obtain ⟨x, r, rfl, h⟩ := q9
    exact lv_i2l hx hb hd rfl (hnx _ _ _ _ _ h hbc hbs ls H locs hl hS)
  | l2i =>
    dsimp only [xstep] at h
    have e9 : np - pc = 1 := Nat.eq_of_beq_eq_true hlen
    rw [e9] at hd
    obtain rfl : np = pc + 1 := by omega
    have q9 := iv_t1L h
    clear h
    obtain ⟨x, r, rfl, h⟩ := q9
    exact lv_l2i hx hb hd rfl (hnx _ _ _ _ _ h hbc hbs ls H locs hl hS)
  | i2b =>
    dsimp only [xstep] at h
    have e9 : np - pc = 1 := Nat.eq_of_beq_eq_true hlen
    rw [e9] at hd
    obtain rfl : np = pc + 1 := by omega
    have q9 := iv_t1I h
    clear h
    obtain ⟨x, r, rfl, h⟩ := q9
    exact lv_i2b hx hb hd rfl (hnx _ _ _ _ _ h hbc hbs ls H locs hl hS)
  | i2c =>
    dsimp only [xstep] at h
    have e9 : np - pc = 1 := Nat.eq_of_beq_eq_true hlen
    rw [e9] at hd
    obtain rfl : np = pc + 1 := by omega
    have q9 := iv_t1I h
    clear h
    obtain ⟨x, r, rfl, h⟩ := q9
    exact lv_i2c hx hb hd rfl (hnx _ _ _ _ _ h hbc hbs ls H locs hl hS)
  | i2d =>
    dsimp only [xstep] at h
    have e9 : np - pc = 1 := Nat.eq_of_beq_eq_true hlen
    rw [e9] at hd
    obtain rfl : np = pc + 1 := by omega
    have q9 := iv_t1I h
    clear h
    obtain ⟨x, r, rfl, h⟩ := q9
    exact lv_i2d hx hb hd (hnx _ _ _ _ _ h hbc hbs ls H locs hl hS)
  | l2d =>
    dsimp only [xstep] at h
    have e9 : np - pc = 1 := Nat.eq_of_beq_eq_true hlen
    rw [e9] at hd
    obtain rfl : np = pc + 1 := by omega
    have q9 := iv_t1L h
    clear h
    obtain ⟨x, r, rfl, h⟩ := q9
    exact lv_l2d hx hb hd (hnx _ _ _ _ _ h hbc hbs ls H locs hl hS)
  | i2f =>
    dsimp only [xstep] at h
    have e9 : np - pc = 1 := Nat.eq_of_beq_eq_true hlen
    rw [e9] at hd
    obtain rfl : np = pc + 1 := by omega
    have q9 := iv_t1I h
    clear h
    obtain ⟨x, r, rfl, h⟩ := q9
    exact lv_i2f hx hb hd (hnx _ _ _ _ _ h hbc hbs ls H locs hl hS)
  | l2f =>
    dsimp only [xstep] at h
    have e9 : np - pc = 1 := Nat.eq_of_beq_eq_true hlen
    rw [e9] at hd
    obtain rfl : np = pc + 1 := by omega
    have q9 := iv_t1L h
    clear h
    obtain ⟨x, r, rfl, h⟩ := q9
    exact lv_l2f hx hb hd (hnx _ _ _ _ _ h hbc hbs ls H locs hl hS)
  | f2d =>
    dsimp only [xstep] at h
    have e9 : np - pc = 1 := Nat.eq_of_beq_eq_true hlen
    rw [e9] at hd
    obtain rfl : np = pc + 1 := by omega
    have q9 := iv_t1F h
    clear h
    obtain ⟨x, r, rfl, h⟩ := q9
    have q9 := iv_nz h
    clear h
    obtain ⟨hz, h⟩ := q9
    have hz9 : FP.f2d x &&& 0x7fffffffffffffff ≤ 0x7ff0000000000000 := of_decide_eq_true hz
    exact lv_f2d hx hb hd hz9 (hnx _ _ _ _ _ h hbc hbs ls H locs hl hS)
  | fdiv =>
    dsimp only [xstep] at h
    have e9 : np - pc = 1 := Nat.eq_of_beq_eq_true hlen
    rw [e9] at hd
    obtain rfl : np = pc + 1 := by omega
    have q9 := iv_t2F h
    clear h
    obtain ⟨x, y, r, rfl, h⟩ := q9
    have q9 := iv_nz h
    clear h
    obtain ⟨hz, h⟩ := q9
    have hz9 : FP.fdiv x y &&& 0x7fffffff ≤ 0x7f800000 := of_decide_eq_true hz
    exact lv_fdiv hx hb hd hz9 (hnx _ _ _ _ _ h hbc hbs ls H locs hl hS)
  | fsub =>
    dsimp only [xstep] at h
    have e9 : np - pc = 1 := Nat.eq_of_beq_eq_true hlen
    rw [e9] at hd
    obtain rfl : np = pc + 1 := by omega
    have q9 := iv_t2F h
    clear h
    obtain ⟨x, y, r, rfl, h⟩ := q9
    have q9 := iv_nz h
    clear h
    obtain ⟨hz, h⟩ := q9
    have hz9 : FP.fsub x y &&& 0x7fffffff ≤ 0x7f800000 := of_decide_eq_true hz
    exact lv_fsub hx hb hd hz9 (hnx _ _ _ _ _ h hbc hbs ls H locs hl hS)
  | ddiv =>
    dsimp only [xstep] at h
    have e9 : np - pc = 1 := Nat.eq_of_beq_eq_true hlen
    rw [e9] at hd
    obtain rfl : np = pc + 1 := by omega
    have q9 := iv_t2D h
    clear h
    obtain ⟨x, y, r, rfl, h⟩ := q9
    have q9 := iv_nz h
    clear h
    obtain ⟨hz, h⟩ := q9
    have hz9 : FP.ddiv x y &&& 0x7fffffffffffffff ≤ 0x7ff0000000000000 := of_decide_eq_true hz
    exact lv_ddiv hx hb hd hz9 (hnx _ _ _ _ _ h hbc hbs ls H locs hl hS)
  | dcmp o =>
    dsimp only [xstep] at h
    have e9 : np - pc = 1 := Nat.eq_of_beq_eq_true hlen
    rw [e9] at hd
    obtain rfl : np = pc + 1 := by omega
    have q9 := iv_t2D h
    clear h
    obtain ⟨x, y, r, rfl, h⟩ := q9
    exact lv_dcmp hx hb hd (hnx _ _ _ _ _ h hbc hbs ls H locs hl hS)
  | dup =>
    dsimp only [xstep] at h
    have e9 : np - pc = 1 := Nat.eq_of_beq_eq_true hlen
    rw [e9] at hd
    obtain rfl : np = pc + 1 := by omega
    have q9 := iv_tV h
    clear h
    obtain ⟨v, r, rfl, hc, h⟩ := q9
    exact lv_dup hx hb hd hc (hnx _ _ _ _ _ h hbc hbs ls H locs hl hS)
  | dup2 =>
    dsimp only [xstep] at h
    have e9 : np - pc = 1 := Nat.eq_of_beq_eq_true hlen
    rw [e9] at hd
    obtain rfl : np = pc + 1 := by omega
    have q9 := iv_tV h
    clear h
    obtain ⟨v, r, rfl, hc, h⟩ := q9
    have q9 := iv_tV h
    clear h
    obtain ⟨u, r, rfl, hc2, h⟩ := q9
    exact lv_dup2_11 hx hb hd hc hc2 (hnx _ _ _ _ _ h hbc hbs ls H locs hl hS)
  | pop =>
    dsimp only [xstep] at h
    have e9 : np - pc = 1 := Nat.eq_of_beq_eq_true hlen
    rw [e9] at hd
    obtain rfl : np = pc + 1 := by omega
    have q9 := iv_tV h
    clear h
    obtain ⟨v, r, rfl, hc, h⟩ := q9
    exact lv_pop hx hb hd hc (hnx _ _ _ _ _ h hbc hbs ls H locs hl hS)
  | ifCond k o =>
    dsimp only [xstep] at h
    have e9 : np - pc = 3 := Nat.eq_of_beq_eq_true hlen
    rw [e9] at hd
    obtain rfl : np = pc + 3 := by omega
    have q9 := iv_t1I h
    clear h
    obtain ⟨x, r, rfl, h⟩ := q9
    have q9 := iv_i1 h
    clear h
    obtain ⟨t, rfl, h⟩ := q9
    have ht9 : (pc : Int) + o = (t : Int) := of_decide_eq_true hsp
    cases k
    · exact lv_if_eq hx hb hd ht9 (fun hc => by
        have h : (if x = 0 then some (.inr (t, L, r, σ, bc, bs)) else nx L r σ bc bs) = some z := h
        rw [if_pos hc] at h
        exact hj _ _ _ _ _ _ (Option.some.inj h).symm hbc hbs ls H locs hl hS) (fun hc => by
        have h : (if x = 0 then some (.inr (t, L, r, σ, bc, bs)) else nx L r σ bc bs) = some z := h
        rw [if_neg hc] at h
        exact hnx _ _ _ _ _ h hbc hbs ls H locs hl hS)
    · exact lv_if_ne hx hb hd ht9 (fun hc => by
        have h : (if x = 0 then nx L r σ bc bs else some (.inr (t, L, r, σ, bc, bs))) = some z := h
        rw [if_neg hc] at h
        exact hj _ _ _ _ _ _ (Option.some.inj h).symm hbc hbs ls H locs hl hS) (fun hc => by
        have h : (if x = 0 then nx L r σ bc bs else some (.inr (t, L, r, σ, bc, bs))) = some z := h
        rw [if_pos hc] at h
        exact hnx _ _ _ _ _ h hbc hbs ls H locs hl hS)
    · exact lv_if_lt hx hb hd ht9 (fun hc => by
        have h : (if x < 0 then some (.inr (t, L, r, σ, bc, bs)) else nx L r σ bc bs) = some z := h
        rw [if_pos hc] at h
        exact hj _ _ _ _ _ _ (Option.some.inj h).symm hbc hbs ls H locs hl hS) (fun hc => by
        have h : (if x < 0 then some (.inr (t, L, r, σ, bc, bs)) else nx L r σ bc bs) = some z := h
        rw [if_neg hc] at h
        exact hnx _ _ _ _ _ h hbc hbs ls H locs hl hS)
    · exact lv_if_ge hx hb hd ht9 (fun hc => by
        have h : (if 0 ≤ x then some (.inr (t, L, r, σ, bc, bs)) else nx L r σ bc bs) = some z := h
        rw [if_pos hc] at h
        exact hj _ _ _ _ _ _ (Option.some.inj h).symm hbc hbs ls H locs hl hS) (fun hc => by
        have h : (if 0 ≤ x then some (.inr (t, L, r, σ, bc, bs)) else nx L r σ bc bs) = some z := h
        rw [if_neg hc] at h
        exact hnx _ _ _ _ _ h hbc hbs ls H locs hl hS)
    · exact lv_if_gt hx hb hd ht9 (fun hc => by
        have h : (if 0 < x then some (.inr (t, L, r, σ, bc, bs)) else nx L r σ bc bs) = some z := h
        rw [if_pos hc] at h
        exact hj _ _ _ _ _ _ (Option.some.inj h).symm hbc hbs ls H locs hl hS) (fun hc => by
        have h : (if 0 < x then some (.inr (t, L, r, σ, bc, bs)) else nx L r σ bc bs) = some z := h
        rw [if_neg hc] at h
        exact hnx _ _ _ _ _ h hbc hbs ls H locs hl hS)
    · exact lv_if_le hx hb hd ht9 (fun hc => by
        have h : (if x ≤ 0 then some (.inr (t, L, r, σ, bc, bs)) else nx L r σ bc bs) = some z := h
        rw [if_pos hc] at h
        exact hj _ _ _ _ _ _ (Option.some.inj h).symm hbc hbs ls H locs hl hS) (fun hc => by
        have h : (if x ≤ 0 then some (.inr (t, L, r, σ, bc, bs)) else nx L r σ bc bs) = some z := h
        rw [if_neg hc] at h
        exact hnx _ _ _ _ _ h hbc hbs ls H locs hl hS)
  | if_icmp k o =>
    dsimp only [xstep] at h
    have e9 : np - pc = 3 := Nat.eq_of_beq_eq_true hlen
    rw [e9] at hd
    obtain rfl : np = pc + 3 := by omega
    have q9 := iv_t2I h
    clear h
    obtain ⟨x, y, r, rfl, h⟩ := q9
    have q9 := iv_i1 h
    clear h
    obtain ⟨t, rfl, h⟩ := q9
    have ht9 : (pc : Int) + o = (t : Int) := of_decide_eq_true hsp
    cases k
    · exact lv_icmp_eq hx hb hd ht9 (fun hc => by
        have h : (if x = y then some (.inr (t, L, r, σ, bc, bs)) else nx L r σ bc bs) = some z := h
        rw [if_pos hc] at h
        exact hj _ _ _ _ _ _ (Option.some.inj h).symm hbc hbs ls H locs hl hS) (fun hc => by
        have h : (if x = y then some (.inr (t, L, r, σ, bc, bs)) else nx L r σ bc bs) = some z := h
        rw [if_neg hc] at h
        exact hnx _ _ _ _ _ h hbc hbs ls H locs hl hS)
    · exact lv_icmp_ne hx hb hd ht9 (fun hc => by
        have h : (if x = y then nx L r σ bc bs else some (.inr (t, L, r, σ, bc, bs))) = some z := h
        rw [if_neg hc] at h
        exact hj _ _ _ _ _ _ (Option.some.inj h).symm hbc hbs ls H locs hl hS) (fun hc => by
        have h : (if x = y then nx L r σ bc bs else some (.inr (t, L, r, σ, bc, bs))) = some z := h
        rw [if_pos hc] at h
        exact hnx _ _ _ _ _ h hbc hbs ls H locs hl hS)
    · exact lv_icmp_lt hx hb hd ht9 (fun hc => by
        have h : (if x < y then some (.inr (t, L, r, σ, bc, bs)) else nx L r σ bc bs) = some z := h
        rw [if_pos hc] at h
        exact hj _ _ _ _ _ _ (Option.some.inj h).symm hbc hbs ls H locs hl hS) (fun hc => by
        have h : (if x < y then some (.inr (t, L, r, σ, bc, bs)) else nx L r σ bc bs) = some z := h
        rw [if_neg hc] at h
        exact hnx _ _ _ _ _ h hbc hbs ls H locs hl hS)
    · exact lv_icmp_ge hx hb hd ht9 (fun hc => by
        have h : (if y ≤ x then some (.inr (t, L, r, σ, bc, bs)) else nx L r σ bc bs) = some z := h
        rw [if_pos hc] at h
        exact hj _ _ _ _ _ _ (Option.some.inj h).symm hbc hbs ls H locs hl hS) (fun hc => by
        have h : (if y ≤ x then some (.inr (t, L, r, σ, bc, bs)) else nx L r σ bc bs) = some z := h
        rw [if_neg hc] at h
        exact hnx _ _ _ _ _ h hbc hbs ls H locs hl hS)
    · exact lv_icmp_gt hx hb hd ht9 (fun hc => by
        have h : (if y < x then some (.inr (t, L, r, σ, bc, bs)) else nx L r σ bc bs) = some z := h
        rw [if_pos hc] at h
        exact hj _ _ _ _ _ _ (Option.some.inj h).symm hbc hbs ls H locs hl hS) (fun hc => by
        have h : (if y < x then some (.inr (t, L, r, σ, bc, bs)) else nx L r σ bc bs) = some z := h
        rw [if_neg hc] at h
        exact hnx _ _ _ _ _ h hbc hbs ls H locs hl hS)
    · exact lv_icmp_le hx hb hd ht9 (fun hc => by
        have h : (if x ≤ y then some (.inr (t, L, r, σ, bc, bs)) else nx L r σ bc bs) = some z := h
        rw [if_pos hc] at h
        exact hj _ _ _ _ _ _ (Option.some.inj h).symm hbc hbs ls H locs hl hS) (fun hc => by
        have h : (if x ≤ y then some (.inr (t, L, r, σ, bc, bs)) else nx L r σ bc bs) = some z := h
        rw [if_neg hc] at h
        exact hnx _ _ _ _ _ h hbc hbs ls H locs hl hS)
  | if_acmp k o =>
    dsimp only [xstep] at h
    have e9 : np - pc = 3 := Nat.eq_of_beq_eq_true hlen
    rw [e9] at hd
    obtain rfl : np = pc + 3 := by omega
    have q9 := iv_t2A h
    clear h
    obtain ⟨x, y, r, rfl, h⟩ := q9
    have q9 := iv_i1 h
    clear h
    obtain ⟨t, rfl, h⟩ := q9
    have ht9 : (pc : Int) + o = (t : Int) := of_decide_eq_true hsp
    cases k
    · refine lv_acmp_eq (rx := some x) (ry := some y) hx hb hd ht9 (fun hc => ?_) (fun hc => ?_)
      · have hxy : Nat.beq x y = true := by rw [Option.some.inj hc]; exact Nat.beq_refl y
        have h : (bif Nat.beq x y then some (.inr (t, L, r, σ, bc, bs)) else nx L r σ bc bs) = some z := h
        rw [hxy] at h
        exact hj _ _ _ _ _ _ (Option.some.inj h).symm hbc hbs ls H locs hl hS
      · have hxy : Nat.beq x y = false := by
          cases h9 : Nat.beq x y
          · rfl
          · exact absurd (congrArg some (Nat.eq_of_beq_eq_true h9)) hc
        have h : (bif Nat.beq x y then some (.inr (t, L, r, σ, bc, bs)) else nx L r σ bc bs) = some z := h
        rw [hxy] at h
        exact hnx _ _ _ _ _ h hbc hbs ls H locs hl hS
    · refine lv_acmp_ne (rx := some x) (ry := some y) hx hb hd ht9 (fun hc => ?_) (fun hc => ?_)
      · have hxy : Nat.beq x y = false := by
          cases h9 : Nat.beq x y
          · rfl
          · exact absurd (congrArg some (Nat.eq_of_beq_eq_true h9)) hc
        have h : (bif Nat.beq x y then nx L r σ bc bs else some (.inr (t, L, r, σ, bc, bs))) = some z := h
        rw [hxy] at h
        exact hj _ _ _ _ _ _ (Option.some.inj h).symm hbc hbs ls H locs hl hS
      · have hxy : Nat.beq x y = true := by rw [Option.some.inj hc]; exact Nat.beq_refl y
        have h : (bif Nat.beq x y then nx L r σ bc bs else some (.inr (t, L, r, σ, bc, bs))) = some z := h
        rw [hxy] at h
        exact hnx _ _ _ _ _ h hbc hbs ls H locs hl hS
  | goto o =>
    dsimp only [xstep] at h
    have e9 : np - pc = 3 := Nat.eq_of_beq_eq_true hlen
    rw [e9] at hd
    obtain rfl : np = pc + 3 := by omega
    have q9 := iv_i1 h
    clear h
    obtain ⟨t, rfl, h⟩ := q9
    have ht9 : (pc : Int) + o = (t : Int) := of_decide_eq_true hsp
    exact lv_goto hx hb hd ht9 (hj _ _ _ _ _ _ (Option.some.inj h).symm hbc hbs ls H locs hl hS)
  | tableswitch df lo hi offs =>
    dsimp only [xstep] at h
    have q9 := iv_t1I h
    clear h
    obtain ⟨x, r, rfl, h⟩ := q9
    have q9 := iv_iSw h
    clear h
    obtain ⟨d9, l0, ts, rfl, h⟩ := q9
    have hsp : (decide (lo = (l0 : Int)) && (decide (hi = (l0 : Int) + ts.length - 1) && (decide ((pc : Int) + df = (d9 : Int)) && (xtab pc offs 0 ts && Nat.ble (l0 + ts.length) 100000)))) = true := hsp
    simp only [Bool.and_eq_true, decide_eq_true_eq] at hsp
    obtain ⟨rfl, rfl, hdf, htab, hbd⟩ := hsp
    have hbd := Nat.le_of_ble_eq_true hbd
    have q9 := iv_xsw _ _ h
    clear h
    rcases q9 with ⟨j, t, hj9, hx9, h⟩ | ⟨hno, h⟩
    · have hjl : j < ts.length := (List.getElem?_eq_some_iff.mp hj9).1
      obtain ⟨off, ho, ht⟩ := xtab_at htab hj9
      have hxi : x.toInt = (l0 + j : Nat) := by rw [hx9]; exact nI_toInt (by omega)
      refine lv_tableIn (off := off) (tgt := t) hx hb hd (by omega) (by omega) ?_ ht (hj _ _ _ _ _ _ (Option.some.inj h).symm hbc hbs ls H locs hl hS)
      rw [hxi]
      rw [show ((l0 + j : Nat) : Int) - (l0 : Int) = (j : Int) by omega]
      simpa using ho
    · refine lv_tableOut (tgt := d9) hx hb hd ?_ hdf (hj _ _ _ _ _ _ (Option.some.inj h).symm hbc hbs ls H locs hl hS)
      by_cases h1 : x.toInt < l0
      · exact Or.inl h1
      · by_cases h2 : (l0 : Int) + ts.length - 1 < x.toInt
        · exact Or.inr h2
        · refine absurd ?_ (hno (x.toInt - l0).toNat (by omega))
          apply Int32.toInt_inj.mp
          rw [nI_toInt (by omega)]
          omega
  | getfield i =>
    dsimp only [xstep] at h
    have e9 : np - pc = 3 := Nat.eq_of_beq_eq_true hlen
    rw [e9] at hd
    obtain rfl : np = pc + 3 := by omega
    have q9 := iv_t1A h
    clear h
    obtain ⟨a, r, rfl, h⟩ := q9
    have hsp : (decide ((0, i, info) ∈ PO) || decide ((6, i, info) ∈ PO)) = true := hsp
    rw [Bool.or_eq_true, decide_eq_true_eq, decide_eq_true_eq] at hsp
    have q9 := iv_xgf h
    clear h
    rcases q9 with ⟨rfl, j, hj9, h⟩ | ⟨rfl, h⟩ | ⟨rfl, h⟩ | h
    · obtain ⟨g1, rfl⟩ := iv_xfind hj9
      rcases hsp with hp | hp
      · exact absurd (hPO _ hp) (by simp [xokQ])
      · exact x_tokText hx hb hown (va_Nw.use rfl (hKK.2.2.2.2.2.2.2.2.2.1 _ (of_decide_eq_true (hPO _ hp)) rfl)) (hKK.2.2.2.1 j g1).2 hS.2.2.2 hd (hnx _ _ _ _ _ h hbc hbs ls H locs hl hS)
    · rcases hsp with hp | hp
      · exact absurd (hPO _ hp) (by simp [xokQ])
      · rcases h with ⟨j, hj9, h⟩ | ⟨fs, q, he, hv, h⟩
        · obtain ⟨g1, rfl⟩ := iv_xfind hj9
          exact vk_getf hx hb (hKK.2.2.2.2.1.1 j g1).2.2.1 hS.2.2.2 hown (hts _ (of_decide_eq_true (hPO _ hp))) (fun _ h => h) hd (hnx _ _ _ _ _ h hbc hbs ls H locs hl hS)
        · exact x_get (ci := 11) (k := 0) (nest := 0) hx hb hts hKK.2.2.2.2.2.2.2.2.2.1 hown hK hS (hPO _ hp) he hv hd (hnx _ _ _ _ _ h hbc hbs ls H locs hl hS)
    · rcases hsp with hp | hp
      · exact absurd (hPO _ hp) (by simp [xokQ])
      · rcases h with ⟨j, hj9, h⟩ | ⟨fs, q, he, hv, h⟩
        · obtain ⟨g1, rfl⟩ := iv_xfind hj9
          exact vk_getf hx hb (hKK.2.2.2.2.1.1 j g1).2.1 hS.2.2.2 hown (hts _ (of_decide_eq_true (hPO _ hp))) (fun _ h => h) hd (hnx _ _ _ _ _ h hbc hbs ls H locs hl hS)
        · exact x_get (ci := 11) (k := 1) (nest := 0) hx hb hts hKK.2.2.2.2.2.2.2.2.2.1 hown hK hS (hPO _ hp) he hv hd (hnx _ _ _ _ _ h hbc hbs ls H locs hl hS)
    · have q9 := iv_xfld h
      clear h
      obtain ⟨ci, k, t, n, fs, v, rfl, he, hv, h⟩ := q9
      rcases hsp with hp | hp
      · exact x_get hx hb hts hKK.2.2.2.2.2.2.2.2.2.1 hown hK hS (hPO _ hp) he hv hd (hnx _ _ _ _ _ h hbc hbs ls H locs hl hS)
      · exact absurd (hPO _ hp) (by simp [xokQ])
  | putfield i =>
    dsimp only [xstep] at h
    have e9 : np - pc = 3 := Nat.eq_of_beq_eq_true hlen
    rw [e9] at hd
    obtain rfl : np = pc + 3 := by omega
    have q9 := iv_tVA h
    clear h
    obtain ⟨v, a, r, rfl, h⟩ := q9
    have q9 := iv_xput h
    clear h
    obtain ⟨ci, k, t, n, fs, rfl, he, hlt, hf, h⟩ := q9
    have hsp : (decide ((0, i, [ci, k, t, n]) ∈ PO) && (xokP own ci k t n && (!(Nat.beq n 2) || ini))) = true := hsp
    simp only [Bool.and_eq_true, decide_eq_true_eq] at hsp
    obtain ⟨hp, hP, hi9⟩ := hsp
    refine x_put hx hb hts hKK.2.2.2.2.2.2.2.2.2.1 hown hK hS (hPO _ hp) hP (fun hn => hini ?_) he hlt hf hd (fun H1 locs1 hS1 => hnx _ _ _ _ _ h hbc hbs ls H1 locs1 hl hS1)
    subst hn
    simpa using hi9
  | getstatic i =>
    dsimp only [xstep] at h
    have e9 : np - pc = 3 := Nat.eq_of_beq_eq_true hlen
    rw [e9] at hd
    obtain rfl : np = pc + 3 := by omega
    have hsp := hPO _ (of_decide_eq_true hsp)
    have q9 := iv_xgs h
    clear h
    rcases q9 with ⟨j, rfl, hj9, h⟩ | ⟨rfl, h⟩ | ⟨rfl, h⟩ | ⟨rfl, h⟩ | ⟨rfl, h⟩ | ⟨rfl, h⟩ | ⟨rfl, h⟩
    · exact va_gets hx hb (hKK.1 j hj9) hS.2.2.2 hown (hts _ (of_decide_eq_true hsp)) (fun _ h => h) hd (hnx _ _ _ _ _ h hbc hbs ls H locs hl hS)
    · exact va_getsN hx hb hKK.2.1 hS.2.2.2 hown (va_Nw.use rfl (hKK.2.2.2.2.2.2.2.2.2.1 _ (of_decide_eq_true hsp) rfl)) (fun _ h => h) hd (hnx _ _ _ _ _ h hbc hbs ls H locs hl hS)
    · exact va_gets hx hb hKK.2.2.2.2.2.1 hS.2.2.2 hown (hts _ (of_decide_eq_true hsp)) (fun _ h => h) hd (hnx _ _ _ _ _ h hbc hbs ls H locs hl hS)
    · exact va_gets hx hb hKK.2.2.2.2.2.2.1 hS.2.2.2 hown (hts _ (of_decide_eq_true hsp)) (fun _ h => h) hd (hnx _ _ _ _ _ h hbc hbs ls H locs hl hS)
    · exact va_gets hx hb hKK.2.2.2.2.2.2.2.2.2.2.2.2.2.2.1 hS.2.2.2 hown (hts _ (of_decide_eq_true hsp)) (fun _ h => h) hd (hnx _ _ _ _ _ h hbc hbs ls H locs hl hS)
    · exact va_gets hx hb hKK.2.2.2.2.2.2.2.2.2.2.2.2.2.2.2.2.1 hS.2.2.2 hown (hts _ (of_decide_eq_true hsp)) (fun _ h => h) hd (hnx _ _ _ _ _ h hbc hbs ls H locs hl hS)
    · exact va_gets hx hb hKK.2.2.2.2.2.2.2.2.2.2.2.2.2.2.2.2.2.2.1 hS.2.2.2 hown (hts _ (of_decide_eq_true hsp)) (fun _ h => h) hd (hnx _ _ _ _ _ h hbc hbs ls H locs hl hS)
  | iaload =>
    dsimp only [xstep] at h
    have e9 : np - pc = 1 := Nat.eq_of_beq_eq_true hlen
    rw [e9] at hd
    obtain rfl : np = pc + 1 := by omega
    have q9 := iv_t2X h
    clear h
    obtain ⟨i, a, r, rfl, h⟩ := q9
    have q9 := iv_aI h
    clear h
    rcases q9 with ⟨n, f, he, hin, h⟩ | ⟨rfl, hin, h⟩
    · exact va_iald hx hb hK (hS.2.1.one he) 0 0 rfl rfl hin hd (hnx _ _ _ _ _ h hbc hbs ls H locs hl hS)
    · exact va_ti hx hb hKK.2.2.2.2.2.2.2.2.2.2.2.2.2.2.2.2.2.2.2.2.1 hS.2.2.2 hin rfl hd (hnx _ _ _ _ _ h hbc hbs ls H locs hl hS)
  | laload =>
    dsimp only [xstep] at h
    have e9 : np - pc = 1 := Nat.eq_of_beq_eq_true hlen
    rw [e9] at hd
    obtain rfl : np = pc + 1 := by omega
    have q9 := iv_t2X h
    clear h
    obtain ⟨i, a, r, rfl, h⟩ := q9
    have q9 := iv_aL h
    clear h
    obtain ⟨n, f, he, hin, h⟩ := q9
    exact va_lald hx hb hK (hS.2.1.one he) 0 2 rfl rfl hin hd (hnx _ _ _ _ _ h hbc hbs ls H locs hl hS)
  | daload =>
    dsimp only [xstep] at h
    have e9 : np - pc = 1 := Nat.eq_of_beq_eq_true hlen
    rw [e9] at hd
    obtain rfl : np = pc + 1 := by omega
    have q9 := iv_t2X h
    clear h
    obtain ⟨i, a, r, rfl, h⟩ := q9
    have q9 := iv_aD h
    clear h
    obtain ⟨n, f, he, hin, h⟩ := q9
    exact va_dald hx hb hK (hS.2.1.one he) 0 3 rfl rfl hin hd (hnx _ _ _ _ _ h hbc hbs ls H locs hl hS)
  | baload =>
    dsimp only [xstep] at h
    have e9 : np - pc = 1 := Nat.eq_of_beq_eq_true hlen
    rw [e9] at hd
    obtain rfl : np = pc + 1 := by omega
    have q9 := iv_t2X h
    clear h
    obtain ⟨i, a, r, rfl, h⟩ := q9
    have q9 := iv_aB h
    clear h
    rcases q9 with ⟨n, f, he, hin, h⟩ | ⟨j, hj9, hin, h⟩ | ⟨rfl, hin, h⟩ | ⟨rfl, hin, h⟩
    · exact va_bald hx hb hK (hS.2.1.one he) 0 1 rfl rfl hin hd (hnx _ _ _ _ _ h hbc hbs ls H locs hl hS)
    · obtain ⟨g1, rfl⟩ := iv_xfind hj9
      have hT := (hKK.2.2.2.2.1.1 j g1).2.2.2
      rw [xlen_ok j g1] at hT
      exact va_tb hx hb hT hS.2.2.2 hin rfl hd (hnx _ _ _ _ _ h hbc hbs ls H locs hl hS)
    · exact va_tb hx hb hKK.2.2.2.2.2.2.2.2.2.2.2.2.2.2.2.1 hS.2.2.2 hin rfl hd (hnx _ _ _ _ _ h hbc hbs ls H locs hl hS)
    · exact va_tb hx hb hKK.2.2.2.2.2.2.2.2.2.2.2.2.2.2.2.2.2.1 hS.2.2.2 hin rfl hd (hnx _ _ _ _ _ h hbc hbs ls H locs hl hS)
  | aaload =>
    dsimp only [xstep] at h
    have e9 : np - pc = 1 := Nat.eq_of_beq_eq_true hlen
    rw [e9] at hd
    obtain rfl : np = pc + 1 := by omega
    have q9 := iv_t2X h
    clear h
    obtain ⟨i, a, r, rfl, h⟩ := q9
    have q9 := iv_aQ h
    clear h
    rcases q9 with ⟨k, n, f, b, he, hk, hin, hf, h⟩ | ⟨rfl, hin, h⟩
    · have hv : va_rf (f i.toNatClampNeg) = .ref b := by rw [hf]; rfl
      rcases hk with rfl | rfl | rfl
      · refine va_aldq hx hb hK (hS.2.1.one he) 0 4 rfl rfl hin hd ?_
        rw [hv]
        exact hnx _ _ _ _ _ h hbc hbs ls H locs hl hS
      · refine va_aldq hx hb hK (hS.2.1.one he) 0 5 rfl rfl hin hd ?_
        rw [hv]
        exact hnx _ _ _ _ _ h hbc hbs ls H locs hl hS
      · refine va_aldq hx hb hK (hS.2.1.one he) 0 6 rfl rfl hin hd ?_
        rw [hv]
        exact hnx _ _ _ _ _ h hbc hbs ls H locs hl hS
    · exact vb_tq hx hb hKK.2.2.1 hS.2.2.2 hin rfl hd (hnx _ _ _ _ _ h hbc hbs ls H locs hl hS)
  | arraylength =>
    dsimp only [xstep] at h
    have e9 : np - pc = 1 := Nat.eq_of_beq_eq_true hlen
    rw [e9] at hd
    obtain rfl : np = pc + 1 := by omega
    have q9 := iv_t1A h
    clear h
    obtain ⟨a, r, rfl, h⟩ := q9
    have q9 := iv_aN h
    clear h
    rcases q9 with ⟨k, n, x, he, hk, h⟩ | ⟨rfl, h⟩ | ⟨j, hj9, h⟩ | ⟨rfl, h⟩ | ⟨rfl, h⟩
    · obtain ⟨ty, hty⟩ : ∃ ty, (xtys G.2)[k]? = some (G.2 k, ty) := by
        match k, hk with
        | 0, _ => exact ⟨_, rfl⟩
        | 1, _ => exact ⟨_, rfl⟩
        | 2, _ => exact ⟨_, rfl⟩
        | 3, _ => exact ⟨_, rfl⟩
        | 4, _ => exact ⟨_, rfl⟩
        | 5, _ => exact ⟨_, rfl⟩
        | 6, _ => exact ⟨_, rfl⟩
      exact va_alen hx hb hK (hS.2.1.one he) 0 k rfl hty rfl hd (hnx _ _ _ _ _ h hbc hbs ls H locs hl hS)
    · exact va_tlen hx hb hKK.2.2.1 hS.2.2.2 rfl hd (hnx _ _ _ _ _ h hbc hbs ls H locs hl hS)
    · obtain ⟨g1, rfl⟩ := iv_xfind hj9
      have hT := (hKK.2.2.2.2.1.1 j g1).2.2.2
      rw [xlen_ok j g1] at hT
      exact va_tlen hx hb hT hS.2.2.2 rfl hd (hnx _ _ _ _ _ h hbc hbs ls H locs hl hS)
    · exact va_tlen hx hb hKK.2.2.2.2.2.2.2.2.2.2.2.2.2.2.2.2.2.2.2.1 hS.2.2.2 rfl hd (hnx _ _ _ _ _ h hbc hbs ls H locs hl hS)
    · exact va_tlen hx hb hKK.2.2.2.2.2.2.2.2.2.2.2.2.2.2.2.2.2.2.2.2.1 hS.2.2.2 rfl hd (hnx _ _ _ _ _ h hbc hbs ls H locs hl hS)
  | iastore =>
    dsimp only [xstep] at h
    have e9 : np - pc = 1 := Nat.eq_of_beq_eq_true hlen
    rw [e9] at hd
    obtain rfl : np = pc + 1 := by omega
    have q9 := iv_t3I h
    clear h
    obtain ⟨x, i, a, r, rfl, h⟩ := q9
    have q9 := iv_sI h
    clear h
    obtain ⟨n, f, he, hin, h⟩ := q9
    exact x_iast hx hb hK hS he hin hd (fun H1 locs1 hS1 => hnx _ _ _ _ _ h hbc hbs ls H1 locs1 hl hS1)
  | bastore =>
    dsimp only [xstep] at h
    have e9 : np - pc = 1 := Nat.eq_of_beq_eq_true hlen
    rw [e9] at hd
    obtain rfl : np = pc + 1 := by omega
    have q9 := iv_t3I h
    clear h
    obtain ⟨x, i, a, r, rfl, h⟩ := q9
    have q9 := iv_sB h
    clear h
    obtain ⟨n, f, he, hin, h⟩ := q9
    exact x_bast hx hb hK hS he hin hd (fun H1 locs1 hS1 => hnx _ _ _ _ _ h hbc hbs ls H1 locs1 hl hS1)
  | lastore =>
    dsimp only [xstep] at h
    have e9 : np - pc = 1 := Nat.eq_of_beq_eq_true hlen
    rw [e9] at hd
    obtain rfl : np = pc + 1 := by omega
    have q9 := iv_t3L h
    clear h
    obtain ⟨x, i, a, r, rfl, h⟩ := q9
    have q9 := iv_sL h
    clear h
    obtain ⟨n, f, he, hin, h⟩ := q9
    exact x_last hx hb hK hS he hin hd (fun H1 locs1 hS1 => hnx _ _ _ _ _ h hbc hbs ls H1 locs1 hl hS1)
  | dastore =>
    dsimp only [xstep] at h
    have e9 : np - pc = 1 := Nat.eq_of_beq_eq_true hlen
    rw [e9] at hd
    obtain rfl : np = pc + 1 := by omega
    have q9 := iv_t3D h
    clear h
    obtain ⟨x, i, a, r, rfl, h⟩ := q9
    have q9 := iv_sD h
    clear h
    obtain ⟨n, f, he, hin, h⟩ := q9
    exact x_dast hx hb hK hS he hin hd (fun H1 locs1 hS1 => hnx _ _ _ _ _ h hbc hbs ls H1 locs1 hl hS1)
  | aastore =>
    dsimp only [xstep] at h
    have e9 : np - pc = 1 := Nat.eq_of_beq_eq_true hlen
    rw [e9] at hd
    obtain rfl : np = pc + 1 := by omega
    have q9 := iv_t3A h
    clear h
    obtain ⟨x, i, a, r, rfl, h⟩ := q9
    have q9 := iv_sQ h
    clear h
    obtain ⟨k, n, f, he, hin, hk, h⟩ := q9
    rcases hk with ⟨rfl, j, hj9⟩ | ⟨rfl, fs, hb9⟩ | ⟨rfl, fs, hb9⟩
    · obtain ⟨g1, rfl⟩ := iv_xfind hj9
      obtain ⟨cell, q1, q2, q3, q4⟩ := (hKK.2.2.2.1 j g1).1.kept hS.2.2.2.2.1
      exact x_astq hx hb hK hS he rfl ⟨cell, q1, q2, q3⟩ hin hd (fun H1 locs1 hS1 => hnx _ _ _ _ _ h hbc hbs ls H1 locs1 hl hS1)
    · exact x_astq hx hb hK hS he rfl (x_recv (ci := 2) hK hKK hS (Or.inl ⟨fs, hb9⟩)) hin hd (fun H1 locs1 hS1 => hnx _ _ _ _ _ h hbc hbs ls H1 locs1 hl hS1)
    · exact x_astqO (C := "java/lang/Object") (D := RX11) hx hb hK hS he rfl (x_recv (ci := 9) hK hKK hS (Or.inl ⟨fs, hb9⟩)) (hKK.2.2.2.2.2.2.2.2.2.1 _ xcastSO rfl) hin hd (fun H1 locs1 hS1 => hnx _ _ _ _ _ h hbc hbs ls H1 locs1 hl hS1)
  | new i =>
    dsimp only [xstep] at h
    have e9 : np - pc = 3 := Nat.eq_of_beq_eq_true hlen
    rw [e9] at hd
    obtain rfl : np = pc + 3 := by omega
    have q9 := iv_xnew h
    clear h
    rcases q9 with ⟨ci, n, rfl, hc9, hs9, h⟩ | ⟨k, is, ic, rfl, hc9, hs9, hcat, h⟩
    · have hq := hPO _ (of_decide_eq_true hsp)
      simp only [xokQ] at hq
      split at hq
      · next r hr =>
        simp only [Bool.and_eq_true, decide_eq_true_eq] at hq
        obtain ⟨w1, w2, w3, w4⟩ := hq
        have w4 := Nat.eq_of_beq_eq_true w4
        subst w4
        exact x_new hx hb hts hown hK hS hA hr w1 w2 w3 hc9 hs9 hd (fun H1 hS1 => hnx _ _ _ _ _ h hc9 hs9 ls H1 locs hl hS1)
      · cases hq
    · have hr9 := hfin _ (Option.some.inj h).symm
      exact x_throw C hsp hS hr9 hd hnL hcat hc9 hs9
  | newarray a =>
    dsimp only [xstep] at h
    have e9 : np - pc = 2 := Nat.eq_of_beq_eq_true hlen
    rw [e9] at hd
    obtain rfl : np = pc + 2 := by omega
    have q9 := iv_xnewa h
    clear h
    obtain ⟨n, r, k, rfl, rfl, hn, hc9, hs9, h5, h⟩ := q9
    have hsp : (Nat.blt k 4 && (decide (newarray.typeOf a = xkty k) && decide (Cond.arrayClass (xkty k) ∈ xWs))) = true := hsp
    simp only [Bool.and_eq_true, decide_eq_true_eq] at hsp
    obtain ⟨w1, w2, w3⟩ := hsp
    exact x_newa hx hb hts hK hS hA (Nat.le_of_ble_eq_true w1) w2 w3 hn h5 hc9 hs9 hd (fun H1 hS1 => hnx _ _ _ _ _ h hc9 hs9 ls H1 locs hl hS1)
  | anewarray i =>
    dsimp only [xstep] at h
    have e9 : np - pc = 3 := Nat.eq_of_beq_eq_true hlen
    rw [e9] at hd
    obtain rfl : np = pc + 3 := by omega
    have q9 := iv_xnewa h
    clear h
    obtain ⟨n, r, k, rfl, rfl, hn, hc9, hs9, h5, h⟩ := q9
    have hq := hPO _ (of_decide_eq_true hsp)
    match k, hq, h with
    | 4, hq, h => exact x_newq (k := 4) hx hb hts hown hK hS hA rfl hKK.2.2.2.2.2.2.2.2.2.2.1 (of_decide_eq_true hq) hn h5 hc9 hs9 hd (fun H1 hS1 => hnx _ _ _ _ _ h hc9 hs9 ls H1 locs hl hS1)
    | 5, hq, h => exact x_newq (k := 5) hx hb hts hown hK hS hA rfl hKK.2.2.2.2.2.2.2.2.2.2.2.1 (of_decide_eq_true hq) hn h5 hc9 hs9 hd (fun H1 hS1 => hnx _ _ _ _ _ h hc9 hs9 ls H1 locs hl hS1)
    | 0, hq, h => cases hq
    | 1, hq, h => cases hq
    | 2, hq, h => cases hq
    | 3, hq, h => cases hq
    | 6, hq, h => exact x_newq (k := 6) hx hb hts hown hK hS hA rfl hKK.2.2.2.2.2.2.2.2.2.2.2.2.2.2.2.2.2.2.2.2.2 (of_decide_eq_true hq) hn h5 hc9 hs9 hd (fun H1 hS1 => hnx _ _ _ _ _ h hc9 hs9 ls H1 locs hl hS1)
    | k + 7, hq, h => simp [xokQ] at hq
  | invokespecial i =>
    dsimp only [xstep] at h
    have e9 : np - pc = 3 := Nat.eq_of_beq_eq_true hlen
    rw [e9] at hd
    obtain rfl : np = pc + 3 := by omega
    have q9 := iv_xinit h
    clear h
    rcases q9 with ⟨q, rfl, a, r, rfl, hcat, h⟩ | h
    · have hsp : (decide (Cond.methodLink own i objectInit ∈ xWs) && (decide (Cond.instanceMethod objectInit ∈ xWs) && decide (Cond.code objectInit ⟨#[0xb1]⟩ 1 none ∈ xWs))) = true := hsp
      simp only [Bool.and_eq_true, decide_eq_true_eq] at hsp
      obtain ⟨w1, w2, w3⟩ := hsp
      refine W.objInit hx hb hown (hts _ w1) (hts _ w2) (hts _ w3) rfl (by rw [hml]; exact hnL) rfl hd (by show 1 ≤ d + 1 + 12; omega) (by show 2 * 0 + xcat r + 12 ≤ 40 * (d + 1) + 200; omega) (hnx _ _ _ _ _ h hbc hbs ls H locs hl hS)
    · have q9 := iv_xcall h
      clear h
      obtain ⟨kd, key, n, tag, mc, ms, ci, r, rfl, g1, g2, g3, g4, hrv, hcl, hz⟩ := q9
      have hsp : (decide ((2, i, [kd, key, n, tag, mc, ms, ci]) ∈ PO) && (Nat.beq kd 2 || (Nat.beq kd 4 || Nat.beq kd 7))) = true := hsp
      rw [Bool.and_eq_true, decide_eq_true_eq] at hsp
      have hk : kd = 2 ∨ kd = 4 ∨ kd = 7 := by simpa using hsp.2
      have hins : Instr.invokespecial i = xins kd i := by rcases hk with rfl | rfl | rfl <;> rfl
      rw [hins] at hd
      exact x_callI C hnx hfin (hPO _ hsp.1) g1 g2 g3 g4 hrv hcl hz hl hS hd
  | invokevirtual i =>
    dsimp only [xstep] at h
    have e9 : np - pc = 3 := Nat.eq_of_beq_eq_true hlen
    rw [e9] at hd
    obtain rfl : np = pc + 3 := by omega
    have q9 := iv_xinv h
    clear h
    rcases q9 with ⟨q, k, rfl, h⟩ | h
    · cases hsp
    · have q9 := iv_xcall h
      clear h
      obtain ⟨kd, key, n, tag, mc, ms, ci, r, rfl, g1, g2, g3, g4, hrv, hcl, hz⟩ := q9
      have hsp : (decide ((2, i, [kd, key, n, tag, mc, ms, ci]) ∈ PO) && (Nat.beq kd 1 || (Nat.beq kd 3 || (Nat.beq kd 5 || (Nat.beq kd 6 || Nat.beq kd 9))))) = true := hsp
      rw [Bool.and_eq_true, decide_eq_true_eq] at hsp
      have hk : kd = 1 ∨ kd = 3 ∨ kd = 5 ∨ kd = 6 ∨ kd = 9 := by simpa using hsp.2
      have hins : Instr.invokevirtual i = xins kd i := by rcases hk with rfl | rfl | rfl | rfl | rfl <;> rfl
      rw [hins] at hd
      exact x_callI C hnx hfin (hPO _ hsp.1) g1 g2 g3 g4 hrv hcl hz hl hS hd
  | invokestatic i =>
    dsimp only [xstep] at h
    have e9 : np - pc = 3 := Nat.eq_of_beq_eq_true hlen
    rw [e9] at hd
    obtain rfl : np = pc + 3 := by omega
    have q9 := iv_xinv h
    clear h
    rcases q9 with ⟨q, k, rfl, h⟩ | h
    · have q9 := iv_nz h
      clear h
      obtain ⟨hcat, h⟩ := q9
      have hcat := Nat.le_of_ble_eq_true hcat
      have q9 := iv_xprim h
      clear h
      rcases q9 with ⟨rfl, x, y, r, rfl, h⟩ | ⟨rfl, x, y, r, rfl, h⟩ | ⟨rfl, x, y, r, rfl, h⟩ | ⟨rfl, x, y, r, rfl, h⟩ | ⟨rfl, k, j, b, i9, a, r, rfl, h⟩
      · have hc9 : xcat r ≤ 16 := by simp [xcat, Value.category] at hcat ⊢; omega
        simp only [xspec, xspecP, Bool.and_eq_true, decide_eq_true_eq] at hsp
        obtain ⟨w1, w2, w3, w4⟩ := hsp
        exact va_mmax hx hb (by rw [hml, hnL]) hown (hts _ w1) (hts _ w2) (hts _ w3) (hts _ w4) (by show 1 ≤ d + 1 + 12; omega) (by show xcat r + 13 ≤ 40 * (d + 1) + 200; omega) hbc hbs hd (hnx _ _ _ _ _ h hbc hbs ls H locs hl hS)
      · have hc9 : xcat r ≤ 16 := by simp [xcat, Value.category] at hcat ⊢; omega
        simp only [xspec, xspecP, Bool.and_eq_true, decide_eq_true_eq] at hsp
        obtain ⟨w1, w2, w3, w4⟩ := hsp
        exact va_mmin hx hb (by rw [hml, hnL]) hown (hts _ w1) (hts _ w2) (hts _ w3) (hts _ w4) (by show 1 ≤ d + 1 + 12; omega) (by show xcat r + 13 ≤ 40 * (d + 1) + 200; omega) hbc hbs hd (hnx _ _ _ _ _ h hbc hbs ls H locs hl hS)
      · have hc9 : xcat r ≤ 16 := by simp [xcat, Value.category] at hcat ⊢; omega
        simp only [xspec, xspecP, Bool.and_eq_true, decide_eq_true_eq] at hsp
        obtain ⟨w1, w2, w3, w4⟩ := hsp
        exact va_mmax_long hx hb (by rw [hml, hnL]) hown (hts _ w1) (hts _ w2) (hts _ w3) (hts _ w4) (by show 1 ≤ d + 1 + 12; omega) (by show xcat r + 15 ≤ 40 * (d + 1) + 200; omega) hbc hbs hd (hnx _ _ _ _ _ h hbc hbs ls H locs hl hS)
      · have hc9 : xcat r ≤ 16 := by simp [xcat, Value.category] at hcat ⊢; omega
        simp only [xspec, xspecP, Bool.and_eq_true, decide_eq_true_eq] at hsp
        obtain ⟨w1, w2, w3, w4⟩ := hsp
        exact va_mmin_long hx hb (by rw [hml, hnL]) hown (hts _ w1) (hts _ w2) (hts _ w3) (hts _ w4) (by show 1 ≤ d + 1 + 12; omega) (by show xcat r + 15 ≤ 40 * (d + 1) + 200; omega) hbc hbs hd (hnx _ _ _ _ _ h hbc hbs ls H locs hl hS)
      · have hc9 : xcat r ≤ 16 := by simp [xcat, Value.category] at hcat ⊢; omega
        simp only [xspec, xspecP, Bool.and_eq_true, decide_eq_true_eq] at hsp
        obtain ⟨w1, w2, w3, w4⟩ := hsp
        have q9 := iv_cpI h
        clear h
        obtain ⟨k, n0, f, n1, g, he1, hk1, hsrc, hpr, hbf, h⟩ := q9
        obtain ⟨k1, k2, k3, k4, k5⟩ := iv_xcpr hpr
        have hkt : ∃ ty, (xtys G.2)[k]? = some (G.2 k, ty) ∧ (ty = .int ∨ ty = .byte) ∧ (ty = .byte → k = 1) := by
          match k, hk1 with
          | 0, _ => exact ⟨_, rfl, Or.inl rfl, fun h => by cases h⟩
          | 1, _ => exact ⟨_, rfl, Or.inr rfl, fun _ => rfl⟩
        obtain ⟨ty, hty, hty2, hty3⟩ := hkt
        have hfit : ty = .byte → ∀ j, j < n0 → fits .byte (.int (f j)) = true := by
          intro e
          have e1 := hty3 e
          rcases hbf with hbf | hbf
          · rw [e1] at hbf
            cases hbf
          · exact of_decide_eq_true hbf
        rcases hsrc with he0 | ⟨rfl, j0, hj9, rfl, rfl⟩
        · exact x_copyS hx hb (by rw [hml, hnL]) hown hts w1 w2 w3 w4 hK hS hty hty2 (hS.2.1 _ _ he0) ((hK.2 k _ hty).1 n0 (fun j => .int (f j))) (fun h => by cases h) (by show n0 ≤ (arrV (G.2 k) n0 (fun j => .int (f j))).slots.size; rw [arrV_size]; exact Nat.le_refl _) (fun j hj => arrV_read _ _ hj) hfit he1 k1 k2 k3 k4 k5 (by show 1 ≤ d + 1 + 12; omega) (by show xcat r + 40 ≤ 40 * (d + 1) + 200; omega) hd (fun H1 locs1 hS1 => hnx _ _ _ _ _ h hbc hbs ls H1 locs1 hl hS1)
        · obtain ⟨g1, rfl⟩ := iv_xfind hj9
          have hT := (hKK.2.2.2.2.1.1 j0 g1).2.2.2
          rw [xlen_ok j0 g1] at hT
          cases hty
          obtain ⟨scr, t1, t2, t3, t4, t5, t6, t7⟩ := hT.kept hS.2.2.2.2.1
          exact x_copyS (k := 1) (ty := .byte) hx hb (by rw [hml, hnL]) hown hts w1 w2 w3 w4 hK hS rfl (Or.inr rfl) t1 t2 t3 t4 (fun j hj => t6 j hj) hfit he1 k1 k2 k3 k4 k5 (by show 1 ≤ d + 1 + 12; omega) (by show xcat r + 40 ≤ 40 * (d + 1) + 200; omega) hd (fun H1 locs1 hS1 => hnx _ _ _ _ _ h hbc hbs ls H1 locs1 hl hS1)
    · have q9 := iv_xcall h
      clear h
      obtain ⟨kd, key, n, tag, mc, ms, ci, r, rfl, g1, g2, g3, g4, hrv, hcl, hz⟩ := q9
      have hsp : (decide ((2, i, [kd, key, n, tag, mc, ms, ci]) ∈ PO) && (Nat.beq kd 0 || (Nat.beq kd 8 || Nat.beq kd 10))) = true := hsp
      rw [Bool.and_eq_true, decide_eq_true_eq] at hsp
      have hk : kd = 0 ∨ kd = 8 ∨ kd = 10 := by simpa using hsp.2
      have hins : Instr.invokestatic i = xins kd i := by rcases hk with rfl | rfl | rfl <;> rfl
      rw [hins] at hd
      exact x_callI C hnx hfin (hPO _ hsp.1) g1 g2 g3 g4 hrv hcl hz hl hS hd
  | ireturn =>
    dsimp only [xstep] at h
    have e9 : np - pc = 1 := Nat.eq_of_beq_eq_true hlen
    rw [e9] at hd
    obtain rfl : np = pc + 1 := by omega
    have q9 := iv_t1I h
    clear h
    obtain ⟨x, r, rfl, h⟩ := q9
    have q9 := iv_t0 h
    clear h
    obtain ⟨rfl, h⟩ := q9
    have q9 := iv_xiret h
    clear h
    obtain ⟨t, rfl, ht, h⟩ := q9
    obtain ⟨k1, k2⟩ := x_fin (args := args) hS (hfin _ (Option.some.inj h).symm)
    have hn : narrow (xty t) (.int x) = .int x := by
      rcases ht with rfl | ht
      · rfl
      · exact ht
    exact vx_ret (W.widen hbc hbs (W.zret hx hb (by rw [hret]; exact of_decide_eq_true hsp) hn k1 k2 hd hlocks))
  | lreturn =>
    dsimp only [xstep] at h
    have e9 : np - pc = 1 := Nat.eq_of_beq_eq_true hlen
    rw [e9] at hd
    obtain rfl : np = pc + 1 := by omega
    have q9 := iv_t1L h
    clear h
    obtain ⟨x, r, rfl, h⟩ := q9
    have q9 := iv_t0 h
    clear h
    obtain ⟨rfl, h⟩ := q9
    obtain ⟨k1, k2⟩ := x_fin (args := args) hS (hfin _ (Option.some.inj h).symm)
    exact vx_ret (W.widen hbc hbs (W.lret hx hb (by rw [hret]; exact of_decide_eq_true hsp) k1 k2 hd hlocks))
  | freturn =>
    dsimp only [xstep] at h
    have e9 : np - pc = 1 := Nat.eq_of_beq_eq_true hlen
    rw [e9] at hd
    obtain rfl : np = pc + 1 := by omega
    have q9 := iv_t1F h
    clear h
    obtain ⟨x, r, rfl, h⟩ := q9
    have q9 := iv_t0 h
    clear h
    obtain ⟨rfl, h⟩ := q9
    obtain ⟨k1, k2⟩ := x_fin (args := args) hS (hfin _ (Option.some.inj h).symm)
    exact vx_ret (W.widen hbc hbs (W.fret hx hb (by rw [hret]; exact of_decide_eq_true hsp) k1 k2 hd hlocks))
  | dreturn =>
    dsimp only [xstep] at h
    have e9 : np - pc = 1 := Nat.eq_of_beq_eq_true hlen
    rw [e9] at hd
    obtain rfl : np = pc + 1 := by omega
    have q9 := iv_t1D h
    clear h
    obtain ⟨x, r, rfl, h⟩ := q9
    have q9 := iv_t0 h
    clear h
    obtain ⟨rfl, h⟩ := q9
    obtain ⟨k1, k2⟩ := x_fin (args := args) hS (hfin _ (Option.some.inj h).symm)
    exact vx_ret (W.widen hbc hbs (W.dret hx hb (by rw [hret]; exact of_decide_eq_true hsp) k1 k2 hd hlocks))
  | areturn =>
    dsimp only [xstep] at h
    have e9 : np - pc = 1 := Nat.eq_of_beq_eq_true hlen
    rw [e9] at hd
    obtain rfl : np = pc + 1 := by omega
    have q9 := iv_t1A h
    clear h
    obtain ⟨x, r, rfl, h⟩ := q9
    have q9 := iv_t0 h
    clear h
    obtain ⟨rfl, h⟩ := q9
    obtain ⟨k1, k2⟩ := x_fin (args := args) hS (hfin _ (Option.some.inj h).symm)
    obtain ⟨rt, hrt, hrr⟩ := xisr_ok (show xisr ret = true from hsp)
    exact vx_ret (W.widen hbc hbs (W.aret hx hb (by rw [hret]; exact hrt) hrr (Or.inr ⟨_, rfl⟩) k1 k2 hd hlocks))
  | return_ =>
    dsimp only [xstep] at h
    have e9 : np - pc = 1 := Nat.eq_of_beq_eq_true hlen
    rw [e9] at hd
    obtain rfl : np = pc + 1 := by omega
    have q9 := iv_t0 h
    clear h
    obtain ⟨rfl, h⟩ := q9
    obtain ⟨k1, k2⟩ := x_fin (args := args) hS (hfin _ (Option.some.inj h).symm)
    exact vx_ret (W.widen hbc hbs (W.vret hx hb (by rw [hret]; exact of_decide_eq_true hsp) k1 k2 hd hlocks))
  | _ => cases h
end STEPS
end
section
/-! BLOCKS, RUNS, METHODS: what the interpreter says of a method is its contract. -/
theorem xpick_has {ls : Array Slot} {nL : Nat} {L : xL} (hl : lv_has ls nL L) (is : List Nat) : lv_has ls nL (xpick L is) := by
  refine ⟨hl.1, hl.2.1, ?_⟩
  induction is with
  | nil => exact fun q hq => absurd hq List.not_mem_nil
  | cons i is ih =>
    intro q hq
    unfold xpick at hq
    split at hq
    · next v hv =>
      rcases List.mem_cons.mp hq with rfl | hq
      · exact xget_has hl hv
      · exact ih q hq
    · exact ih q hq
section SOUND
variable {p : Program} {l : Launch} {e : Env} {s : State} {m : MethodId} {args : Array Value} {below : List Frame} {meth : Method} {c : Code}
variable {lds : xLds} {exs : List (String × Nat × String)} {G : xG} {E : xEn} {A : Nat → Prop} {d MC MS nL : Nat} {call : Nat → List Value → xH → Option xR} {Mt : Nat → Option xMth} {own : String} {ini : Bool} {cc : ByteArray} {ret : Option FieldType} {PO : xPool} {r0 : xR}
theorem x_blk (C : xCx p l s m args meth c lds exs G E A d call Mt own ini cc nL ret PO) {z : xR ⊕ xJ} (hfin : ∀ r, z = .inl r → r0 = r)
    (hj : ∀ t L st σ bc bs, z = .inr (t, L, st, σ, bc, bs) → xTg p l e s m args below meth c d MC MS (vx_MQ below (xQc G A r0) (xXC G A r0) args s MC MS A) G A nL t L st σ bc bs) {ep : Nat} :
    ∀ (is : List xI) (pc : Nat) (L : xL) (st : List Value) (σ : xH) (bc bs : Nat), xokB own ini cc nL ret PO lds exs ep pc is = true →
      exB E call MC MS (fun r => some (.inl r)) (fun t L st σ bc bs => some (.inr (t, L, st, σ, bc, bs))) ep is L st σ bc bs = some z →
      xTg p l e s m args below meth c d MC MS (vx_MQ below (xQc G A r0) (xXC G A r0) args s MC MS A) G A nL pc L st σ bc bs := by
  intro is
  induction is with
  | nil =>
    intro pc L st σ bc bs hok h
    have hpc : pc = ep := Nat.eq_of_beq_eq_true hok
    subst hpc
    exact hj _ _ _ _ _ _ (Option.some.inj h).symm
  | cons i r ih =>
    intro pc L st σ bc bs hok h
    obtain ⟨pc', ins, info⟩ := i
    match r, ih, hok, h with
    | [], ih, hok, h =>
      unfold xokB at hok
      rw [Bool.and_eq_true] at hok
      have hpc : pc = pc' := Nat.eq_of_beq_eq_true hok.1
      subst hpc
      exact x_step C hok.2 hfin hj (fun L st σ bc bs h => hj _ _ _ _ _ _ (Option.some.inj h).symm) h
    | j :: r, ih, hok, h =>
      unfold xokB at hok
      rw [Bool.and_eq_true, Bool.and_eq_true] at hok
      have hpc : pc = pc' := Nat.eq_of_beq_eq_true hok.1
      subst hpc
      exact x_step C hok.2.1 hfin hj (fun L st σ bc bs h => ih j.1 L st σ bc bs hok.2.2 h) h
theorem xlk_mem {bl : xBl} {pc : Nat} {b : List Nat × List xI × Nat} (h : xlk bl pc = some b) : (pc, b) ∈ bl := by
  induction bl with
  | nil => cases h
  | cons q bl ih =>
    unfold xlk at h
    cases hb : Nat.beq q.1 pc
    · rw [hb] at h
      exact List.mem_cons_of_mem _ (ih h)
    · rw [hb] at h
      have := Nat.eq_of_beq_eq_true hb
      subst this
      cases h
      exact List.mem_cons_self
theorem x_rn (C : xCx p l s m args meth c lds exs G E A d call Mt own ini cc nL ret PO) {bl : xBl} (hbl : ∀ b ∈ bl, xokB own ini cc nL ret PO lds exs b.2.2.2 b.1 b.2.2.1 = true) :
    ∀ (n : Nat) (pc : Nat) (L : xL) (st : List Value) (σ : xH) (bc bs : Nat), xrn E call MC MS bl n (pc, L, st, σ, bc, bs) = some r0 →
      xTg p l e s m args below meth c d MC MS (vx_MQ below (xQc G A r0) (xXC G A r0) args s MC MS A) G A nL pc L st σ bc bs := by
  intro n
  induction n with
  | zero => exact fun _ _ _ _ _ _ h => by cases h
  | succ n ih =>
    intro pc L st σ bc bs h
    unfold xrn at h
    cases hx : xex E call MC MS bl (pc, L, st, σ, bc, bs) with
    | none => rw [hx] at h; cases h
    | some z =>
      rw [hx] at h
      unfold xex at hx
      split at hx
      · next b hb =>
        have hok := hbl _ (xlk_mem hb)
        have h1 := x_blk (e := e) (below := below) (r0 := r0) (MC := MC) (MS := MS) C (z := z) (fun r hr => by subst hr; exact (Option.some.inj h).symm) (fun t L st σ bc bs hz => by subst hz; exact ih _ _ _ _ _ _ h) _ _ _ _ _ _ _ hok hx
        exact fun g1 g2 ls H locs hl hS => h1 g1 g2 ls H locs (xpick_has hl _) hS
      · cases hx
end SOUND
theorem lg_sl_len (vs : List Value) : (lg_sl vs).length = xcat vs := by
  induction vs with
  | nil => rfl
  | cons v vs ih =>
    have h : xcat (v :: vs) = v.category + xcat vs := by simp [xcat]
    rw [h, ← ih]
    cases v <;> simp [lg_sl, Value.category] <;> omega
/-- a table's row holds: its blocks are its bytes, its pool is the tables' -/
def xokR (T : xTab) (lds : xLds) (exs : List (String × Nat × String)) (r : xMth × xBl × List (Nat × Nat × List Nat)) : Prop :=
  xcw r.1 = false ∧ plainName r.1.1.cls = true ∧ (∀ b ∈ r.2.1, xokB r.1.1.cls (decide (r.1.1.name = "<init>")) r.1.2.1 r.1.2.2.1 r.1.2.2.2.1 r.2.2 lds exs b.2.2.2 b.1 b.2.2.1 = true) ∧ ∀ q ∈ r.2.2, xokQ r.1.1.cls (fun k => (T k).map (fun r => r.1)) q = true
theorem x_sem {T : xTab} {lds : xLds} {exs : List (String × Nat × String)} (hT : ∀ key r, T key = some r → 2 ≤ key → xokR T lds exs r) {l : Launch} (htr : l.stackTraces = false) (G : xG) (E : xEn) (hH : ∀ key r, T key = some r → key < 2 → ∀ d, (∀ (key : Nat) (M : xMth), (T key).map (fun r => r.1) = some M → xMet lds exs l G E d M (xsem T E d key)) → xMet lds exs l G E (d + 1) r.1 (xsem T E (d + 1) key)) :
    ∀ (d key : Nat) (M : xMth), (T key).map (fun r => r.1) = some M → xMet lds exs l G E d M (xsem T E d key) := by
  intro d
  induction d with
  | zero => intro key M _ av σ r h; cases h
  | succ d ih =>
    intro key M hM
    cases hk : T key with
    | none => rw [hk] at hM; cases hM
    | some row =>
      rw [hk] at hM
      cases hM
      by_cases hk2 : key < 2
      · exact hH key row hk hk2 d ih
      intro av σ r h
      obtain ⟨hcw, hpl, hbl, hPO⟩ := hT key row hk (by omega)
      obtain ⟨⟨y, cc, nL, ret, mc, ms⟩, bl, PO⟩ := row
      have hcw : xcw (y, cc, nL, ret, mc, ms) = false := hcw
      have hxw : xws (y, cc, nL, ret, mc, ms) = Cond.code y cc nL ret :: xWs := by
        unfold xws xhd
        rw [hcw]
        rfl
      unfold xsem at h
      rw [hk, show key = (key - 2) + 2 by omega] at h
      dsimp only [xcth] at h
      obtain ⟨hnl, h⟩ := iv_if h
      have hnl : xcat av ≤ nL := Nat.le_of_ble_eq_true hnl
      obtain ⟨n, hn⟩ := xli_of h
      refine vx_ofW (cc := cc) (maxL := nL) (ret := ret) hpl hxw ?_
      intro p e s m args below meth c s₁ B hml hexc hv
      obtain ⟨rfl, hsz, hWo, hK, hKK⟩ := hv
      have hx := B.exec
      have hb := B.bytes
      have hr := B.returns
      have hts0 := atoms_spec (ws := xws (y, cc, nL, ret, mc, ms)) B.pre
      have hts : ∀ w ∈ xWs, w.before av.toArray s = true := fun w h => hts0 w (List.mem_cons_of_mem _ h)
      have hown : s.vm.findClass y.cls = some m.cls := findClass_of_methodNamed B.named
      have hlocks := B.notSynchronized
      have hname : meth.name = y.name := (name_of_methodNamed B.named B.method).1
      have hA : ∀ q, s.heap.size ≤ q → xA σ q := fun q hq => Or.inr (by rw [← hsz]; exact hq)
      have C : xCx p l s m av.toArray meth c lds exs G E (xA σ) d (xsem T E d) (fun k => (T k).map (fun r => r.1)) y.cls (decide (y.name = "<init>")) cc nL ret PO :=
        ⟨hx, hb, hml, hts, hown, hK, hKK, hA, hexc, hlocks, hr, htr, fun hi => by rw [hname]; exact of_decide_eq_true hi, hPO, fun key M hM => ih key M hM⟩
      have hl := lv_entry av (n := nL) (by rw [lg_sl_len]; exact hnl)
      rw [lg_entry_eq]
      generalize (lg_sl av ++ List.replicate (nL - (lg_sl av).length) Slot.unset).toArray = ls at hl ⊢
      exact x_rn (e := e) (below := below) C hbl n 0 (lv_args 0 av) [] σ 0 0 hn (Nat.zero_le _) (Nat.zero_le _) ls s.heap [] hl ⟨hsz, hWo, fun a ha => Or.inl ha, va_S.rf⟩
end
section
/-! THE TABLE (X0, X1, X2, X3, X4): blocks of the methods as the class file has them, written by wip/p31/gentab.py. -/
abbrev xRow : Type := xMth × xBl × List (Nat × Nat × List Nat)
def pX0 : xPool := [(0, 9, [0, 0, 2, 2]), (0, 13, [0, 1, 2, 2]), (0, 16, [0, 2, 0, 0]), (0, 9, [0, 0, 2, 0]), (0, 13, [0, 1, 2, 0])]
def bX0_init : xBl := [
  (0, [0], [(0, .aload_n 0, []), (1, .invokespecial 1, [0]), (4, .aload_n 0, []), (5, .bipush 8, []), (7, .newarray .int, [0]), (9, .putfield 9, [0, 0, 2, 2]), (12, .aload_n 0, []), (13, .bipush 8, []), (15, .newarray .int, [0]), (17, .putfield 13, [0, 1, 2, 2]), (20, .return_, [])], 21)]
def rX0_init : xRow := ((yX0_init, cX0_init, 1, none, 2, 16), bX0_init, pX0)
def bX0_clear : xBl := [
  (0, [0], [(0, .aload_n 0, []), (1, .iconst 0, []), (2, .putfield 16, [0, 2, 0, 0]), (5, .return_, [])], 6)]
def rX0_clear : xRow := ((yX0_clear, cX0_clear, 1, none, 0, 0), bX0_clear, pX0)
def bX0_copyFrom : xBl := [
  (0, [0, 1], [(0, .aload_n 0, []), (1, .aload_n 1, []), (2, .getfield 16, [0, 2, 0, 0]), (5, .putfield 16, [0, 2, 0, 0]), (8, .aload_n 1, []), (9, .getfield 9, [0, 0, 2, 0]), (12, .iconst 0, []), (13, .aload_n 0, []), (14, .getfield 9, [0, 0, 2, 0]), (17, .iconst 0, []), (18, .aload_n 0, []), (19, .getfield 16, [0, 2, 0, 0]), (22, .invokestatic 20, [0, 6]), (25, .aload_n 1, []), (26, .getfield 13, [0, 1, 2, 0]), (29, .iconst 0, []), (30, .aload_n 0, []), (31, .getfield 13, [0, 1, 2, 0]), (34, .iconst 0, []), (35, .aload_n 0, []), (36, .getfield 16, [0, 2, 0, 0]), (39, .invokestatic 20, [0, 6]), (42, .return_, [])], 43)]
def rX0_copyFrom : xRow := ((yX0_copyFrom, cX0_copyFrom, 2, none, 0, 0), bX0_copyFrom, pX0)
def bX0_isFull : xBl := [
  (0, [0], [(0, .aload_n 0, []), (1, .getfield 16, [0, 2, 0, 0]), (4, .bipush 8, []), (6, .if_icmp .lt 7, [13]), (9, .iconst 1, []), (10, .goto 4, [14])], 13),
  (13, [], [(13, .iconst 0, [])], 14),
  (14, [], [(14, .ireturn, [5])], 15)]
def rX0_isFull : xRow := ((yX0_isFull, cX0_isFull, 1, (some .boolean), 0, 0), bX0_isFull, pX0)
def bX0_tell : xBl := [
  (0, [0, 1, 2], [(0, .aload_n 0, []), (1, .getfield 16, [0, 2, 0, 0]), (4, .aload_n 0, []), (5, .getfield 9, [0, 0, 2, 0]), (8, .arraylength, []), (9, .if_icmp .ge 33, [42]), (12, .aload_n 0, []), (13, .getfield 9, [0, 0, 2, 0]), (16, .aload_n 0, []), (17, .getfield 16, [0, 2, 0, 0]), (20, .iload_n 1, []), (21, .iastore, []), (22, .aload_n 0, []), (23, .getfield 13, [0, 1, 2, 0]), (26, .aload_n 0, []), (27, .getfield 16, [0, 2, 0, 0]), (30, .iload_n 2, []), (31, .iastore, []), (32, .aload_n 0, []), (33, .dup, []), (34, .getfield 16, [0, 2, 0, 0]), (37, .iconst 1, []), (38, .iadd, []), (39, .putfield 16, [0, 2, 0, 0])], 42),
  (42, [], [(42, .return_, [])], 43)]
def rX0_tell : xRow := ((yX0_tell, cX0_tell, 3, none, 0, 0), bX0_tell, pX0)
def bX0_has : xBl := [
  (0, [0, 1], [(0, .iconst 0, []), (1, .istore_n 2, [])], 2),
  (2, [0, 1, 2], [(2, .iload_n 2, []), (3, .aload_n 0, []), (4, .getfield 16, [0, 2, 0, 0]), (7, .if_icmp .ge 31, [38]), (10, .iload_n 1, []), (11, .aload_n 0, []), (12, .getfield 9, [0, 0, 2, 0]), (15, .iload_n 2, []), (16, .iaload, []), (17, .if_icmp .lt 15, [32]), (20, .iload_n 1, []), (21, .aload_n 0, []), (22, .getfield 13, [0, 1, 2, 0]), (25, .iload_n 2, []), (26, .iaload, []), (27, .if_icmp .gt 5, [32]), (30, .iconst 1, []), (31, .ireturn, [5])], 32),
  (32, [0, 1, 2], [(32, .iinc 2 1, []), (35, .goto (-33), [2])], 38),
  (38, [], [(38, .iconst 0, []), (39, .ireturn, [5])], 40)]
def rX0_has : xRow := ((yX0_has, cX0_has, 3, (some .boolean), 0, 0), bX0_has, pX0)
def pX1 : xPool := [(0, 11, [1, 0, 2, 2]), (0, 15, [1, 2, 2, 2]), (0, 18, [1, 1, 0, 0]), (2, 22, [1, 9, 1, 9, 0, 0, 2]), (2, 25, [1, 12, 2, 9, 0, 0, 2]), (0, 11, [1, 0, 2, 0]), (2, 35, [1, 14, 3, 0, 0, 0, 2]), (1, 39, [0, 4]), (2, 45, [1, 40, 2, 0, 0, 0, 4]), (1, 51, [0, 5]), (2, 54, [1, 41, 1, 9, 0, 0, 4]), (2, 57, [1, 15, 3, 0, 0, 0, 2]), (1, 60, [0, 6]), (1, 63, [0, 7]), (1, 66, [0, 8]), (2, 69, [1, 44, 2, 0, 0, 0, 4]), (2, 73, [1, 13, 3, 0, 0, 0, 2]), (1, 76, [0, 9]), (2, 79, [1, 42, 2, 0, 0, 0, 4]), (2, 82, [1, 38, 1, 2, 0, 0, 4]), (2, 86, [0, 16, 1, 0, 0, 0, 0]), (2, 90, [1, 43, 3, 0, 0, 0, 4]), (1, 94, [0, 10]), (1, 97, [0, 11]), (1, 100, [0, 12]), (1, 103, [0, 13])]
def bX1_init : xBl := [
  (0, [0], [(0, .aload_n 0, []), (1, .invokespecial 5, [0]), (4, .aload_n 0, []), (5, .sipush 500, []), (8, .newarray .int, [0]), (10, .putfield 11, [1, 0, 2, 2]), (13, .aload_n 0, []), (14, .bipush 11, []), (16, .newarray .int, [0]), (18, .putfield 15, [1, 2, 2, 2]), (21, .return_, [])], 22)]
def rX1_init : xRow := ((yX1_init, cX1_init, 1, none, 2, 511), bX1_init, pX1)
def bX1_clear : xBl := [
  (0, [0], [(0, .aload_n 0, []), (1, .iconst 0, []), (2, .putfield 18, [1, 1, 0, 0]), (5, .return_, [])], 6)]
def rX1_clear : xRow := ((yX1_clear, cX1_clear, 1, none, 0, 0), bX1_clear, pX1)
def bX1_reset : xBl := [
  (0, [0], [(0, .aload_n 0, []), (1, .invokevirtual 22, [1, 9, 1, 9, 0, 0, 2]), (4, .aload_n 0, []), (5, .bipush (-5), []), (7, .invokevirtual 25, [1, 12, 2, 9, 0, 0, 2]), (10, .aload_n 0, []), (11, .iconst 1, []), (12, .invokevirtual 25, [1, 12, 2, 9, 0, 0, 2]), (15, .aload_n 0, []), (16, .bipush (-2), []), (18, .invokevirtual 25, [1, 12, 2, 9, 0, 0, 2]), (21, .return_, [])], 22)]
def rX1_reset : xRow := ((yX1_reset, cX1_reset, 1, none, 0, 0), bX1_reset, pX1)
def bX1_copyFrom : xBl := [
  (0, [0, 1], [(0, .aload_n 0, []), (1, .aload_n 1, []), (2, .getfield 18, [1, 1, 0, 0]), (5, .putfield 18, [1, 1, 0, 0]), (8, .aload_n 1, []), (9, .getfield 11, [1, 0, 2, 0]), (12, .iconst 0, []), (13, .aload_n 0, []), (14, .getfield 11, [1, 0, 2, 0]), (17, .iconst 0, []), (18, .aload_n 0, []), (19, .getfield 18, [1, 1, 0, 0]), (22, .invokestatic 29, [0, 6]), (25, .return_, [])], 26)]
def rX1_copyFrom : xRow := ((yX1_copyFrom, cX1_copyFrom, 2, none, 0, 0), bX1_copyFrom, pX1)
def bX1_put : xBl := [
  (0, [0, 1], [(0, .aload_n 0, []), (1, .getfield 18, [1, 1, 0, 0]), (4, .aload_n 0, []), (5, .getfield 11, [1, 0, 2, 0]), (8, .arraylength, []), (9, .if_icmp .ge 23, [32]), (12, .aload_n 0, []), (13, .getfield 11, [1, 0, 2, 0]), (16, .aload_n 0, []), (17, .getfield 18, [1, 1, 0, 0]), (20, .iload_n 1, []), (21, .iastore, []), (22, .aload_n 0, []), (23, .dup, []), (24, .getfield 18, [1, 1, 0, 0]), (27, .iconst 1, []), (28, .iadd, []), (29, .putfield 18, [1, 1, 0, 0])], 32),
  (32, [], [(32, .return_, [])], 33)]
def rX1_put : xRow := ((yX1_put, cX1_put, 2, none, 0, 0), bX1_put, pX1)
def bX1_readSum : xBl := [
  (0, [0, 1, 2], [(0, .aload_n 0, []), (1, .aload_n 1, []), (2, .iload_n 2, []), (3, .invokevirtual 35, [1, 14, 3, 0, 0, 0, 2]), (6, .ifCond .ne 5, [11]), (9, .iconst 0, []), (10, .ireturn, [5])], 11),
  (11, [0, 1, 2], [(11, .iconst 0, []), (12, .istore_n 3, [])], 13),
  (13, [0, 1, 2, 3], [(13, .iload_n 3, []), (14, .sipush 500, []), (17, .if_icmp .ge 68, [85]), (20, .aload_n 1, []), (21, .getstatic 39, [0, 4]), (24, .invokevirtual 45, [1, 40, 2, 0, 0, 0, 4]), (27, .ifCond .ne 13, [40]), (30, .aload_n 1, []), (31, .getstatic 51, [0, 5]), (34, .invokevirtual 45, [1, 40, 2, 0, 0, 0, 4]), (37, .ifCond .eq 48, [85])], 40),
  (40, [0, 1, 2, 3], [(40, .aload_n 1, []), (41, .getstatic 39, [0, 4]), (44, .invokevirtual 45, [1, 40, 2, 0, 0, 0, 4]), (47, .ifCond .eq 7, [54]), (50, .iconst (-1), []), (51, .goto 5, [56])], 54),
  (54, [0, 1, 2, 3], [(54, .bipush (-2), [])], 56),
  (56, [0, 1, 2, 3], [(56, .istore 4, []), (58, .aload_n 1, []), (59, .invokevirtual 54, [1, 41, 1, 9, 0, 0, 4]), (62, .aload_n 0, []), (63, .aload_n 1, []), (64, .iload_n 2, []), (65, .invokevirtual 35, [1, 14, 3, 0, 0, 0, 2]), (68, .ifCond .ne 5, [73]), (71, .iconst 0, []), (72, .ireturn, [5])], 73),
  (73, [0, 1, 2, 3, 4], [(73, .aload_n 0, []), (74, .iload 4, []), (76, .invokevirtual 25, [1, 12, 2, 9, 0, 0, 2]), (79, .iinc 3 1, []), (82, .goto (-69), [13])], 85),
  (85, [], [(85, .iconst 1, []), (86, .ireturn, [5])], 87)]
def rX1_readSum : xRow := ((yX1_readSum, cX1_readSum, 5, (some .boolean), 0, 0), bX1_readSum, pX1)
def bX1_readTerm : xBl := [
  (0, [0, 1, 2], [(0, .aload_n 0, []), (1, .aload_n 1, []), (2, .iload_n 2, []), (3, .invokevirtual 57, [1, 15, 3, 0, 0, 0, 2]), (6, .ifCond .ne 5, [11]), (9, .iconst 0, []), (10, .ireturn, [5])], 11),
  (11, [0, 1, 2], [(11, .iconst 0, []), (12, .istore_n 3, [])], 13),
  (13, [0, 1, 2, 3], [(13, .iload_n 3, []), (14, .sipush 500, []), (17, .if_icmp .ge 69, [86]), (20, .aload_n 1, []), (21, .getstatic 60, [0, 6]), (24, .invokevirtual 45, [1, 40, 2, 0, 0, 0, 4]), (27, .ifCond .ne 13, [40]), (30, .aload_n 1, []), (31, .getstatic 63, [0, 7]), (34, .invokevirtual 45, [1, 40, 2, 0, 0, 0, 4]), (37, .ifCond .eq 49, [86])], 40),
  (40, [0, 1, 2, 3], [(40, .aload_n 1, []), (41, .getstatic 60, [0, 6]), (44, .invokevirtual 45, [1, 40, 2, 0, 0, 0, 4]), (47, .ifCond .eq 8, [55]), (50, .bipush (-3), []), (52, .goto 5, [57])], 55),
  (55, [0, 1, 2, 3], [(55, .bipush (-4), [])], 57),
  (57, [0, 1, 2, 3], [(57, .istore 4, []), (59, .aload_n 1, []), (60, .invokevirtual 54, [1, 41, 1, 9, 0, 0, 4]), (63, .aload_n 0, []), (64, .aload_n 1, []), (65, .iload_n 2, []), (66, .invokevirtual 57, [1, 15, 3, 0, 0, 0, 2]), (69, .ifCond .ne 5, [74]), (72, .iconst 0, []), (73, .ireturn, [5])], 74),
  (74, [0, 1, 2, 3, 4], [(74, .aload_n 0, []), (75, .iload 4, []), (77, .invokevirtual 25, [1, 12, 2, 9, 0, 0, 2]), (80, .iinc 3 1, []), (83, .goto (-70), [13])], 86),
  (86, [], [(86, .iconst 1, []), (87, .ireturn, [5])], 88)]
def rX1_readTerm : xRow := ((yX1_readTerm, cX1_readTerm, 5, (some .boolean), 0, 0), bX1_readTerm, pX1)
def bX1_readFactor : xBl := [
  (0, [0, 1, 2], [(0, .aload_n 1, []), (1, .getstatic 66, [0, 8]), (4, .invokevirtual 45, [1, 40, 2, 0, 0, 0, 4]), (7, .ifCond .eq 46, [53]), (10, .iload_n 2, []), (11, .iconst 4, []), (12, .if_icmp .lt 10, [22]), (15, .aload_n 1, []), (16, .bipush (-6), []), (18, .invokevirtual 69, [1, 44, 2, 0, 0, 0, 4]), (21, .ireturn, [5])], 22),
  (22, [0, 1, 2], [(22, .aload_n 1, []), (23, .invokevirtual 54, [1, 41, 1, 9, 0, 0, 4]), (26, .aload_n 0, []), (27, .aload_n 1, []), (28, .iload_n 2, []), (29, .iconst 1, []), (30, .iadd, []), (31, .invokevirtual 73, [1, 13, 3, 0, 0, 0, 2]), (34, .ifCond .eq 17, [51]), (37, .aload_n 1, []), (38, .getstatic 76, [0, 9]), (41, .invokevirtual 79, [1, 42, 2, 0, 0, 0, 4]), (44, .ifCond .eq 7, [51]), (47, .iconst 1, []), (48, .goto 4, [52])], 51),
  (51, [], [(51, .iconst 0, [])], 52),
  (52, [], [(52, .ireturn, [5])], 53),
  (53, [0, 1], [(53, .aload_n 1, []), (54, .invokevirtual 82, [1, 38, 1, 2, 0, 0, 4]), (57, .invokestatic 86, [0, 16, 1, 0, 0, 0, 0]), (60, .istore_n 3, []), (61, .iload_n 3, []), (62, .ifCond .ne 18, [80]), (65, .aload_n 1, []), (66, .iconst 0, []), (67, .sipush 9999, []), (70, .invokevirtual 90, [1, 43, 3, 0, 0, 0, 4]), (73, .istore_n 3, []), (74, .iload_n 3, []), (75, .ifCond .ge 9, [84]), (78, .iconst 0, []), (79, .ireturn, [5])], 80),
  (80, [0, 1, 3], [(80, .aload_n 1, []), (81, .invokevirtual 54, [1, 41, 1, 9, 0, 0, 4])], 84),
  (84, [0, 3], [(84, .aload_n 0, []), (85, .iload_n 3, []), (86, .invokevirtual 25, [1, 12, 2, 9, 0, 0, 2]), (89, .iconst 1, []), (90, .ireturn, [5])], 91)]
def rX1_readFactor : xRow := ((yX1_readFactor, cX1_readFactor, 4, (some .boolean), 0, 0), bX1_readFactor, pX1)
def bX1_variableOf : xBl := [
  (0, [0], [(0, .aload_n 0, []), (1, .getstatic 94, [0, 10]), (4, .if_acmp .ne 6, [10]), (7, .bipush (-5), []), (9, .ireturn, [0])], 10),
  (10, [0], [(10, .aload_n 0, []), (11, .getstatic 97, [0, 11]), (14, .if_acmp .ne 6, [20]), (17, .bipush (-6), []), (19, .ireturn, [0])], 20),
  (20, [0], [(20, .aload_n 0, []), (21, .getstatic 100, [0, 12]), (24, .if_acmp .ne 6, [30]), (27, .bipush (-7), []), (29, .ireturn, [0])], 30),
  (30, [0], [(30, .aload_n 0, []), (31, .getstatic 103, [0, 13]), (34, .if_acmp .ne 8, [42]), (37, .bipush (-8), []), (39, .goto 4, [43])], 42),
  (42, [], [(42, .iconst 0, [])], 43),
  (43, [], [(43, .ireturn, [0])], 44)]
def rX1_variableOf : xRow := ((yX1_variableOf, cX1_variableOf, 1, (some .int), 0, 0), bX1_variableOf, pX1)
def pX2 : xPool := [(3, 9, [0, 5, 5]), (2, 11, [4, 64, 1, 9, 2, 16, 6]), (0, 12, [2, 0, 2, 2]), (3, 18, [0, 4, 5]), (2, 20, [4, 45, 1, 9, 1, 9, 5]), (0, 21, [2, 1, 2, 2]), (3, 25, [0, 0, 3]), (2, 27, [4, 2, 1, 9, 2, 16, 1]), (0, 28, [2, 2, 2, 2]), (3, 32, [0, 1, 3]), (2, 34, [4, 8, 1, 9, 2, 511, 2]), (0, 35, [2, 3, 2, 2]), (2, 39, [1, 18, 2, 9, 0, 0, 3]), (0, 12, [2, 0, 2, 0]), (2, 43, [1, 65, 2, 9, 0, 0, 6]), (0, 21, [2, 1, 2, 0]), (2, 44, [1, 46, 2, 9, 0, 0, 5]), (0, 28, [2, 2, 2, 0]), (2, 45, [1, 3, 1, 9, 0, 0, 1]), (0, 35, [2, 3, 2, 0]), (2, 48, [1, 10, 1, 9, 0, 0, 2]), (0, 50, [2, 4, 0, 0]), (0, 54, [2, 5, 0, 0]), (0, 57, [2, 6, 0, 0]), (0, 60, [2, 7, 0, 0]), (0, 63, [2, 8, 0, 0]), (2, 66, [1, 66, 2, 9, 0, 0, 6]), (2, 70, [1, 47, 2, 9, 0, 0, 5]), (2, 73, [1, 4, 2, 9, 0, 0, 1]), (2, 76, [1, 11, 2, 9, 0, 0, 2]), (0, 79, [5, 0, 0, 1]), (0, 82, [5, 1, 0, 1]), (0, 85, [4, 2, 0, 1]), (0, 88, [4, 3, 0, 1]), (0, 91, [4, 4, 0, 1]), (2, 94, [1, 50, 1, 0, 0, 0, 5]), (2, 98, [1, 52, 1, 0, 0, 0, 5]), (0, 101, [0, 2, 0, 1]), (2, 104, [1, 7, 2, 0, 0, 0, 1]), (2, 108, [1, 21, 1, 0, 0, 0, 3]), (2, 112, [1, 54, 6, 9, 0, 0, 5]), (2, 116, [1, 70, 3, 9, 0, 0, 6]), (2, 120, [1, 26, 2, 9, 0, 0, 3]), (2, 124, [1, 55, 3, 9, 0, 0, 5]), (2, 128, [1, 48, 2, 9, 0, 0, 5]), (2, 131, [1, 49, 2, 9, 0, 0, 5])]
def bX2_init : xBl := [
  (0, [0], [(0, .aload_n 0, []), (1, .invokespecial 3, [0]), (4, .aload_n 0, []), (5, .new 9, [0, 5, 5]), (8, .dup, []), (9, .invokespecial 11, [4, 64, 1, 9, 2, 16, 6]), (12, .putfield 12, [2, 0, 2, 2]), (15, .aload_n 0, []), (16, .new 18, [0, 4, 5]), (19, .dup, []), (20, .invokespecial 20, [4, 45, 1, 9, 1, 9, 5]), (23, .putfield 21, [2, 1, 2, 2]), (26, .aload_n 0, []), (27, .new 25, [0, 0, 3]), (30, .dup, []), (31, .invokespecial 27, [4, 2, 1, 9, 2, 16, 1]), (34, .putfield 28, [2, 2, 2, 2]), (37, .aload_n 0, []), (38, .new 32, [0, 1, 3]), (41, .dup, []), (42, .invokespecial 34, [4, 8, 1, 9, 2, 511, 2]), (45, .putfield 35, [2, 3, 2, 2]), (48, .aload_n 0, []), (49, .iconst 3, []), (50, .invokevirtual 39, [1, 18, 2, 9, 0, 0, 3]), (53, .return_, [])], 54)]
def rX2_init : xRow := ((yX2_init, cX2_init, 1, none, 11, 568), bX2_init, pX2)
def bX2_reset : xBl := [
  (0, [0, 1], [(0, .aload_n 0, []), (1, .getfield 12, [2, 0, 2, 0]), (4, .iload_n 1, []), (5, .invokevirtual 43, [1, 65, 2, 9, 0, 0, 6]), (8, .aload_n 0, []), (9, .getfield 21, [2, 1, 2, 0]), (12, .iload_n 1, []), (13, .invokevirtual 44, [1, 46, 2, 9, 0, 0, 5]), (16, .aload_n 0, []), (17, .getfield 28, [2, 2, 2, 0]), (20, .invokevirtual 45, [1, 3, 1, 9, 0, 0, 1]), (23, .aload_n 0, []), (24, .getfield 35, [2, 3, 2, 0]), (27, .invokevirtual 48, [1, 10, 1, 9, 0, 0, 2]), (30, .aload_n 0, []), (31, .iconst 0, []), (32, .putfield 50, [2, 4, 0, 0]), (35, .aload_n 0, []), (36, .iconst 0, []), (37, .putfield 54, [2, 5, 0, 0]), (40, .aload_n 0, []), (41, .bipush 100, []), (43, .putfield 57, [2, 6, 0, 0]), (46, .aload_n 0, []), (47, .iconst 0, []), (48, .putfield 60, [2, 7, 0, 0]), (51, .aload_n 0, []), (52, .iconst 0, []), (53, .putfield 63, [2, 8, 0, 0]), (56, .return_, [])], 57)]
def rX2_reset : xRow := ((yX2_reset, cX2_reset, 2, none, 0, 0), bX2_reset, pX2)
def bX2_copyFrom : xBl := [
  (0, [0, 1], [(0, .aload_n 0, []), (1, .getfield 12, [2, 0, 2, 0]), (4, .aload_n 1, []), (5, .getfield 12, [2, 0, 2, 0]), (8, .invokevirtual 66, [1, 66, 2, 9, 0, 0, 6]), (11, .aload_n 0, []), (12, .getfield 21, [2, 1, 2, 0]), (15, .aload_n 1, []), (16, .getfield 21, [2, 1, 2, 0]), (19, .invokevirtual 70, [1, 47, 2, 9, 0, 0, 5]), (22, .aload_n 0, []), (23, .getfield 28, [2, 2, 2, 0]), (26, .aload_n 1, []), (27, .getfield 28, [2, 2, 2, 0]), (30, .invokevirtual 73, [1, 4, 2, 9, 0, 0, 1]), (33, .aload_n 0, []), (34, .getfield 35, [2, 3, 2, 0]), (37, .aload_n 1, []), (38, .getfield 35, [2, 3, 2, 0]), (41, .invokevirtual 76, [1, 11, 2, 9, 0, 0, 2]), (44, .aload_n 0, []), (45, .aload_n 1, []), (46, .getfield 50, [2, 4, 0, 0]), (49, .putfield 50, [2, 4, 0, 0]), (52, .aload_n 0, []), (53, .aload_n 1, []), (54, .getfield 54, [2, 5, 0, 0]), (57, .putfield 54, [2, 5, 0, 0]), (60, .aload_n 0, []), (61, .aload_n 1, []), (62, .getfield 57, [2, 6, 0, 0]), (65, .putfield 57, [2, 6, 0, 0]), (68, .aload_n 0, []), (69, .aload_n 1, []), (70, .getfield 60, [2, 7, 0, 0]), (73, .putfield 60, [2, 7, 0, 0]), (76, .aload_n 0, []), (77, .aload_n 1, []), (78, .getfield 63, [2, 8, 0, 0]), (81, .putfield 63, [2, 8, 0, 0]), (84, .return_, [])], 85)]
def rX2_copyFrom : xRow := ((yX2_copyFrom, cX2_copyFrom, 2, none, 0, 0), bX2_copyFrom, pX2)
def bX2_number : xBl := [
  (0, [0, 1], [(0, .iload_n 1, []), (1, .tableswitch 144 0 11 #[63, 71, 76, 84, 89, 97, 105, 113, 118, 123, 128, 136], [145, 0, 64, 72, 77, 85, 90, 98, 106, 114, 119, 124, 129, 137])], 64),
  (64, [0], [(64, .aload_n 0, []), (65, .getfield 12, [2, 0, 2, 0]), (68, .getfield 79, [5, 0, 0, 1]), (71, .ireturn, [0])], 72),
  (72, [0], [(72, .aload_n 0, []), (73, .getfield 50, [2, 4, 0, 0]), (76, .ireturn, [0])], 77),
  (77, [0], [(77, .aload_n 0, []), (78, .getfield 12, [2, 0, 2, 0]), (81, .getfield 82, [5, 1, 0, 1]), (84, .ireturn, [0])], 85),
  (85, [0], [(85, .aload_n 0, []), (86, .getfield 54, [2, 5, 0, 0]), (89, .ireturn, [0])], 90),
  (90, [0], [(90, .aload_n 0, []), (91, .getfield 21, [2, 1, 2, 0]), (94, .getfield 85, [4, 2, 0, 1]), (97, .ireturn, [0])], 98),
  (98, [0], [(98, .aload_n 0, []), (99, .getfield 21, [2, 1, 2, 0]), (102, .getfield 88, [4, 3, 0, 1]), (105, .ireturn, [0])], 106),
  (106, [0], [(106, .aload_n 0, []), (107, .getfield 21, [2, 1, 2, 0]), (110, .getfield 91, [4, 4, 0, 1]), (113, .ireturn, [0])], 114),
  (114, [0], [(114, .aload_n 0, []), (115, .getfield 57, [2, 6, 0, 0]), (118, .ireturn, [0])], 119),
  (119, [0], [(119, .aload_n 0, []), (120, .getfield 60, [2, 7, 0, 0]), (123, .ireturn, [0])], 124),
  (124, [0], [(124, .aload_n 0, []), (125, .getfield 63, [2, 8, 0, 0]), (128, .ireturn, [0])], 129),
  (129, [0], [(129, .aload_n 0, []), (130, .getfield 21, [2, 1, 2, 0]), (133, .invokevirtual 94, [1, 50, 1, 0, 0, 0, 5]), (136, .ireturn, [0])], 137),
  (137, [0], [(137, .aload_n 0, []), (138, .getfield 21, [2, 1, 2, 0]), (141, .invokevirtual 98, [1, 52, 1, 0, 0, 0, 5]), (144, .ireturn, [0])], 145),
  (145, [0], [(145, .aload_n 0, []), (146, .getfield 28, [2, 2, 2, 0]), (149, .getfield 101, [0, 2, 0, 1]), (152, .ireturn, [0])], 153)]
def rX2_number : xRow := ((yX2_number, cX2_number, 2, (some .int), 0, 0), bX2_number, pX2)
def bX2_isBlinkNext : xBl := [
  (0, [0], [(0, .aload_n 0, []), (1, .getfield 28, [2, 2, 2, 0]), (4, .aload_n 0, []), (5, .getfield 50, [2, 4, 0, 0]), (8, .invokevirtual 104, [1, 7, 2, 0, 0, 0, 1]), (11, .ireturn, [5])], 12)]
def rX2_isBlinkNext : xRow := ((yX2_isBlinkNext, cX2_isBlinkNext, 1, (some .boolean), 0, 0), bX2_isBlinkNext, pX2)
def bX2_canSteal : xBl := [
  (0, [0, 1], [(0, .aload_n 0, []), (1, .invokevirtual 108, [1, 21, 1, 0, 0, 0, 3]), (4, .ifCond .eq 28, [32]), (7, .aload_n 0, []), (8, .getfield 21, [2, 1, 2, 0]), (11, .getfield 91, [4, 4, 0, 1]), (14, .ifCond .le 18, [32]), (17, .aload_n 0, []), (18, .getfield 12, [2, 0, 2, 0]), (21, .getfield 82, [5, 1, 0, 1]), (24, .iload_n 1, []), (25, .if_icmp .ne 7, [32]), (28, .iconst 1, []), (29, .goto 4, [33])], 32),
  (32, [], [(32, .iconst 0, [])], 33),
  (33, [], [(33, .ireturn, [5])], 34)]
def rX2_canSteal : xRow := ((yX2_canSteal, cX2_canSteal, 2, (some .boolean), 0, 0), bX2_canSteal, pX2)
def bX2_canPlant : xBl := [
  (0, [0], [(0, .aload_n 0, []), (1, .invokevirtual 108, [1, 21, 1, 0, 0, 0, 3]), (4, .ifCond .eq 34, [38]), (7, .aload_n 0, []), (8, .getfield 21, [2, 1, 2, 0]), (11, .getfield 91, [4, 4, 0, 1]), (14, .ifCond .le 24, [38]), (17, .aload_n 0, []), (18, .getfield 12, [2, 0, 2, 0]), (21, .getfield 82, [5, 1, 0, 1]), (24, .aload_n 0, []), (25, .getfield 12, [2, 0, 2, 0]), (28, .getfield 79, [5, 0, 0, 1]), (31, .if_icmp .ne 7, [38]), (34, .iconst 1, []), (35, .goto 4, [39])], 38),
  (38, [], [(38, .iconst 0, [])], 39),
  (39, [], [(39, .ireturn, [5])], 40)]
def rX2_canPlant : xRow := ((yX2_canPlant, cX2_canPlant, 1, (some .boolean), 0, 0), bX2_canPlant, pX2)
def bX2_makeMove : xBl := [
  (0, [0, 1, 2, 3], [(0, .aload_n 0, []), (1, .invokevirtual 108, [1, 21, 1, 0, 0, 0, 3]), (4, .istore 4, []), (6, .aload_n 0, []), (7, .getfield 21, [2, 1, 2, 0]), (10, .aload_n 0, []), (11, .getfield 12, [2, 0, 2, 0]), (14, .iload_n 1, []), (15, .iload_n 2, []), (16, .iload_n 3, []), (17, .iload 4, []), (19, .invokevirtual 112, [1, 54, 6, 9, 0, 0, 5]), (22, .iload_n 1, []), (23, .ifCond .eq 12, [35]), (26, .aload_n 0, []), (27, .getfield 12, [2, 0, 2, 0]), (30, .iload_n 2, []), (31, .iload_n 3, []), (32, .invokevirtual 116, [1, 70, 3, 9, 0, 0, 6])], 35),
  (35, [0, 4], [(35, .aload_n 0, []), (36, .iload 4, []), (38, .invokevirtual 120, [1, 26, 2, 9, 0, 0, 3]), (41, .iload 4, []), (43, .ireturn, [5])], 44)]
def rX2_makeMove : xRow := ((yX2_makeMove, cX2_makeMove, 5, (some .boolean), 0, 0), bX2_makeMove, pX2)
def bX2_makeStill : xBl := [
  (0, [0, 1], [(0, .aload_n 0, []), (1, .invokevirtual 108, [1, 21, 1, 0, 0, 0, 3]), (4, .istore_n 2, []), (5, .aload_n 0, []), (6, .getfield 21, [2, 1, 2, 0]), (9, .aload_n 0, []), (10, .getfield 12, [2, 0, 2, 0]), (13, .iload_n 2, []), (14, .invokevirtual 124, [1, 55, 3, 9, 0, 0, 5]), (17, .aload_n 0, []), (18, .getfield 12, [2, 0, 2, 0]), (21, .iload_n 1, []), (22, .putfield 82, [5, 1, 0, 1]), (25, .aload_n 0, []), (26, .iload_n 2, []), (27, .invokevirtual 120, [1, 26, 2, 9, 0, 0, 3]), (30, .iload_n 2, []), (31, .ireturn, [5])], 32)]
def rX2_makeStill : xRow := ((yX2_makeStill, cX2_makeStill, 3, (some .boolean), 0, 0), bX2_makeStill, pX2)
def bX2_countStep : xBl := [
  (0, [0, 1], [(0, .aload_n 0, []), (1, .dup, []), (2, .getfield 50, [2, 4, 0, 0]), (5, .iconst 1, []), (6, .iadd, []), (7, .putfield 50, [2, 4, 0, 0]), (10, .iload_n 1, []), (11, .ifCond .eq 13, [24]), (14, .aload_n 0, []), (15, .dup, []), (16, .getfield 54, [2, 5, 0, 0]), (19, .iconst 1, []), (20, .iadd, []), (21, .putfield 54, [2, 5, 0, 0])], 24),
  (24, [], [(24, .return_, [])], 25)]
def rX2_countStep : xRow := ((yX2_countStep, cX2_countStep, 2, none, 0, 0), bX2_countStep, pX2)
def bX2_lookUnder : xBl := [
  (0, [0, 1], [(0, .aload_n 0, []), (1, .getfield 12, [2, 0, 2, 0]), (4, .getfield 82, [5, 1, 0, 1]), (7, .iload_n 1, []), (8, .if_icmp .ne 7, [15]), (11, .iconst 1, []), (12, .goto 4, [16])], 15),
  (15, [0, 1], [(15, .iconst 0, [])], 16),
  (16, [0, 1], [(16, .istore_n 2, []), (17, .iload_n 2, []), (18, .ifCond .eq 14, [32]), (21, .aload_n 0, []), (22, .getfield 21, [2, 1, 2, 0]), (25, .iload_n 1, []), (26, .invokevirtual 128, [1, 48, 2, 9, 0, 0, 5]), (29, .goto 11, [40])], 32),
  (32, [0, 1, 2], [(32, .aload_n 0, []), (33, .getfield 21, [2, 1, 2, 0]), (36, .iload_n 1, []), (37, .invokevirtual 131, [1, 49, 2, 9, 0, 0, 5])], 40),
  (40, [2], [(40, .iload_n 2, []), (41, .ireturn, [5])], 42)]
def rX2_lookUnder : xRow := ((yX2_lookUnder, cX2_lookUnder, 3, (some .boolean), 0, 0), bX2_lookUnder, pX2)
def pX3 : xPool := [(0, 9, [3, 0, 2, 2]), (4, 15, [4]), (0, 17, [3, 3, 2, 2]), (0, 21, [3, 4, 2, 2]), (0, 25, [3, 5, 2, 2]), (0, 28, [3, 9, 0, 0]), (0, 32, [3, 1, 0, 0]), (0, 9, [3, 0, 2, 0]), (0, 44, [3, 2, 0, 0]), (0, 47, [3, 6, 0, 0]), (0, 50, [3, 7, 0, 0]), (0, 53, [3, 8, 0, 0]), (2, 56, [1, 32, 2, 0, 0, 0, 4]), (2, 60, [1, 33, 3, 9, 0, 0, 4]), (1, 64, [0, 0]), (2, 68, [1, 37, 4, 9, 0, 0, 4]), (1, 72, [0, 1]), (2, 75, [1, 34, 3, 0, 0, 0, 4]), (2, 78, [1, 35, 3, 2, 0, 0, 4]), (1, 82, [1]), (6, 85, [77]), (2, 89, [1, 36, 4, 0, 0, 0, 4]), (1, 93, [0, 2]), (2, 96, [1, 118, 1, 0, 0, 0, 100]), (2, 101, [1, 119, 2, 0, 0, 0, 100]), (0, 17, [3, 3, 2, 0]), (0, 21, [3, 4, 2, 0]), (0, 25, [3, 5, 2, 0]), (2, 105, [1, 44, 2, 0, 0, 0, 4]), (2, 109, [1, 41, 1, 9, 0, 0, 4])]
def bX3_init : xBl := [
  (0, [0], [(0, .aload_n 0, []), (1, .invokespecial 3, [0]), (4, .aload_n 0, []), (5, .sipush 500, []), (8, .newarray .byte, [1]), (10, .putfield 9, [3, 0, 2, 2]), (13, .aload_n 0, []), (14, .sipush 501, []), (17, .anewarray 15, [4]), (20, .putfield 17, [3, 3, 2, 2]), (23, .aload_n 0, []), (24, .sipush 501, []), (27, .newarray .int, [0]), (29, .putfield 21, [3, 4, 2, 2]), (32, .aload_n 0, []), (33, .sipush 501, []), (36, .newarray .int, [0]), (38, .putfield 25, [3, 5, 2, 2]), (41, .aload_n 0, []), (42, .iconst (-1), []), (43, .putfield 28, [3, 9, 0, 0]), (46, .return_, [])], 47)]
def rX3_init : xRow := ((yX3_init, cX3_init, 1, none, 4, 2003), bX3_init, pX3)
def bX3_hasRoom : xBl := [
  (0, [0, 1], [(0, .aload_n 0, []), (1, .getfield 32, [3, 1, 0, 0]), (4, .iload_n 1, []), (5, .iadd, []), (6, .aload_n 0, []), (7, .getfield 9, [3, 0, 2, 0]), (10, .arraylength, []), (11, .if_icmp .gt 7, [18]), (14, .iconst 1, []), (15, .goto 4, [19])], 18),
  (18, [], [(18, .iconst 0, [])], 19),
  (19, [], [(19, .ireturn, [5])], 20)]
def rX3_hasRoom : xRow := ((yX3_hasRoom, cX3_hasRoom, 2, (some .boolean), 0, 0), bX3_hasRoom, pX3)
def bX3_putWord : xBl := [
  (0, [0, 1], [(0, .bipush 24, []), (2, .istore_n 2, [])], 3),
  (3, [0, 1, 2], [(3, .iload_n 2, []), (4, .ifCond .lt 44, [48]), (7, .aload_n 0, []), (8, .getfield 32, [3, 1, 0, 0]), (11, .aload_n 0, []), (12, .getfield 9, [3, 0, 2, 0]), (15, .arraylength, []), (16, .if_icmp .ge 26, [42]), (19, .aload_n 0, []), (20, .getfield 9, [3, 0, 2, 0]), (23, .aload_n 0, []), (24, .getfield 32, [3, 1, 0, 0]), (27, .iload_n 1, []), (28, .iload_n 2, []), (29, .ishr, []), (30, .i2b, []), (31, .bastore, []), (32, .aload_n 0, []), (33, .dup, []), (34, .getfield 32, [3, 1, 0, 0]), (37, .iconst 1, []), (38, .iadd, []), (39, .putfield 32, [3, 1, 0, 0])], 42),
  (42, [0, 1, 2], [(42, .iinc 2 (-8), []), (45, .goto (-42), [3])], 48),
  (48, [], [(48, .return_, [])], 49)]
def rX3_putWord : xRow := ((yX3_putWord, cX3_putWord, 3, none, 0, 0), bX3_putWord, pX3)
def bX3_begin : xBl := [
  (0, [0, 1], [(0, .aload_n 0, []), (1, .iconst 0, []), (2, .iload_n 1, []), (3, .aload_n 0, []), (4, .getfield 32, [3, 1, 0, 0]), (7, .invokestatic 35, [0, 1]), (10, .invokestatic 41, [0, 0]), (13, .putfield 44, [3, 2, 0, 0]), (16, .aload_n 0, []), (17, .iconst 0, []), (18, .putfield 47, [3, 6, 0, 0]), (21, .aload_n 0, []), (22, .iconst 0, []), (23, .putfield 50, [3, 7, 0, 0]), (26, .aload_n 0, []), (27, .iconst 0, []), (28, .putfield 53, [3, 8, 0, 0]), (31, .aload_n 0, []), (32, .iconst (-1), []), (33, .putfield 28, [3, 9, 0, 0]), (36, .iconst 0, []), (37, .istore_n 2, []), (38, .iconst 0, []), (39, .istore_n 3, [])], 40),
  (40, [0, 2, 3], [(40, .iload_n 3, []), (41, .aload_n 0, []), (42, .getfield 44, [3, 2, 0, 0]), (45, .if_icmp .ge 43, [88]), (48, .aload_n 0, []), (49, .iload_n 3, []), (50, .invokevirtual 56, [1, 32, 2, 0, 0, 0, 4]), (53, .istore 4, []), (55, .iload 4, []), (57, .iconst 3, []), (58, .if_icmp .eq 14, [72]), (61, .iload 4, []), (63, .ifCond .eq 16, [79]), (66, .iload 4, []), (68, .iload_n 2, []), (69, .if_icmp .eq 10, [79])], 72),
  (72, [0, 3, 4], [(72, .aload_n 0, []), (73, .iload_n 3, []), (74, .iload 4, []), (76, .invokevirtual 60, [1, 33, 3, 9, 0, 0, 4])], 79),
  (79, [0, 3, 4], [(79, .iload 4, []), (81, .istore_n 2, []), (82, .iinc 3 1, []), (85, .goto (-45), [40])], 88),
  (88, [0], [(88, .aload_n 0, []), (89, .getstatic 64, [0, 0]), (92, .aload_n 0, []), (93, .getfield 44, [3, 2, 0, 0]), (96, .iconst 0, []), (97, .invokevirtual 68, [1, 37, 4, 9, 0, 0, 4]), (100, .aload_n 0, []), (101, .iconst 0, []), (102, .putfield 32, [3, 1, 0, 0]), (105, .return_, [])], 106)]
def rX3_begin : xRow := ((yX3_begin, cX3_begin, 5, none, 0, 0), bX3_begin, pX3)
def bX3_kindAt : xBl := [
  (0, [0, 1], [(0, .aload_n 0, []), (1, .getfield 9, [3, 0, 2, 0]), (4, .iload_n 1, []), (5, .baload, []), (6, .istore_n 2, []), (7, .iload_n 2, []), (8, .bipush 32, []), (10, .if_icmp .ne 5, [15]), (13, .iconst 0, []), (14, .ireturn, [0])], 15),
  (15, [2], [(15, .iload_n 2, []), (16, .bipush 48, []), (18, .if_icmp .lt 11, [29]), (21, .iload_n 2, []), (22, .bipush 57, []), (24, .if_icmp .gt 5, [29]), (27, .iconst 1, []), (28, .ireturn, [0])], 29),
  (29, [2], [(29, .iload_n 2, []), (30, .bipush 97, []), (32, .if_icmp .lt 13, [45]), (35, .iload_n 2, []), (36, .bipush 122, []), (38, .if_icmp .gt 7, [45]), (41, .iconst 2, []), (42, .goto 4, [46])], 45),
  (45, [], [(45, .iconst 3, [])], 46),
  (46, [], [(46, .ireturn, [0])], 47)]
def rX3_kindAt : xRow := ((yX3_kindAt, cX3_kindAt, 3, (some .int), 0, 0), bX3_kindAt, pX3)
def bX3_addToken : xBl := [
  (0, [0, 1, 2], [(0, .iload_n 1, []), (1, .iconst 1, []), (2, .iadd, []), (3, .istore_n 3, [])], 4),
  (4, [0, 1, 2, 3], [(4, .iload_n 2, []), (5, .iconst 3, []), (6, .if_icmp .eq 26, [32]), (9, .iload_n 3, []), (10, .aload_n 0, []), (11, .getfield 44, [3, 2, 0, 0]), (14, .if_icmp .ge 18, [32]), (17, .aload_n 0, []), (18, .iload_n 3, []), (19, .invokevirtual 56, [1, 32, 2, 0, 0, 0, 4]), (22, .iload_n 2, []), (23, .if_icmp .ne 9, [32]), (26, .iinc 3 1, []), (29, .goto (-25), [4])], 32),
  (32, [0, 1, 2, 3], [(32, .iload_n 2, []), (33, .iconst 1, []), (34, .if_icmp .ne 20, [54]), (37, .aload_n 0, []), (38, .getstatic 72, [0, 1]), (41, .iload_n 1, []), (42, .aload_n 0, []), (43, .iload_n 1, []), (44, .iload_n 3, []), (45, .invokevirtual 75, [1, 34, 3, 0, 0, 0, 4]), (48, .invokevirtual 68, [1, 37, 4, 9, 0, 0, 4]), (51, .goto 15, [66])], 54),
  (54, [0, 1, 3], [(54, .aload_n 0, []), (55, .aload_n 0, []), (56, .iload_n 1, []), (57, .iload_n 3, []), (58, .invokevirtual 78, [1, 35, 3, 2, 0, 0, 4]), (61, .iload_n 1, []), (62, .iconst 0, []), (63, .invokevirtual 68, [1, 37, 4, 9, 0, 0, 4])], 66),
  (66, [], [(66, .return_, [])], 67)]
def rX3_addToken : xRow := ((yX3_addToken, cX3_addToken, 4, none, 0, 0), bX3_addToken, pX3)
def bX3_numberIn : xBl := [
  (0, [0, 1, 2], [(0, .iconst 0, []), (1, .istore_n 3, []), (2, .iload_n 1, []), (3, .istore 4, [])], 5),
  (5, [0, 2, 3, 4], [(5, .iload 4, []), (7, .iload_n 2, []), (8, .if_icmp .ge 31, [39]), (11, .iload_n 3, []), (12, .bipush 10, []), (14, .imul, []), (15, .aload_n 0, []), (16, .getfield 9, [3, 0, 2, 0]), (19, .iload 4, []), (21, .baload, []), (22, .bipush 48, []), (24, .isub, []), (25, .iadd, []), (26, .sipush 10000, []), (29, .invokestatic 35, [0, 1]), (32, .istore_n 3, []), (33, .iinc 4 1, []), (36, .goto (-31), [5])], 39),
  (39, [3], [(39, .iload_n 3, []), (40, .ireturn, [0])], 41)]
def rX3_numberIn : xRow := ((yX3_numberIn, cX3_numberIn, 5, (some .int), 0, 0), bX3_numberIn, pX3)
def bX3_tokenIn : xBl := [
  (0, [0, 1, 2], [(0, .getstatic 82, [1]), (3, .astore_n 3, []), (4, .aload_n 3, []), (5, .arraylength, []), (6, .istore 4, []), (8, .iconst 0, []), (9, .istore 5, [])], 11),
  (11, [0, 1, 2, 3, 4, 5], [(11, .iload 5, []), (13, .iload 4, []), (15, .if_icmp .ge 32, [47]), (18, .aload_n 3, []), (19, .iload 5, []), (21, .aaload, []), (22, .astore 6, []), (24, .aload_n 0, []), (25, .aload 6, []), (27, .getfield 85, [77]), (30, .iload_n 1, []), (31, .iload_n 2, []), (32, .invokevirtual 89, [1, 36, 4, 0, 0, 0, 4]), (35, .ifCond .eq 6, [41]), (38, .aload 6, []), (40, .areturn, [])], 41),
  (41, [0, 1, 2, 3, 4, 5], [(41, .iinc 5 1, []), (44, .goto (-33), [11])], 47),
  (47, [], [(47, .getstatic 93, [0, 2]), (50, .areturn, [])], 51)]
def rX3_tokenIn : xRow := ((yX3_tokenIn, cX3_tokenIn, 7, (some (.object "ShellWatch$Token")), 0, 0), bX3_tokenIn, pX3)
def bX3_isSpelled : xBl := [
  (0, [0, 1, 2, 3], [(0, .aload_n 1, []), (1, .invokevirtual 96, [1, 118, 1, 0, 0, 0, 100]), (4, .iload_n 3, []), (5, .iload_n 2, []), (6, .isub, []), (7, .if_icmp .eq 5, [12]), (10, .iconst 0, []), (11, .ireturn, [5])], 12),
  (12, [0, 1, 2], [(12, .iconst 0, []), (13, .istore 4, [])], 15),
  (15, [0, 1, 2, 4], [(15, .iload 4, []), (17, .aload_n 1, []), (18, .invokevirtual 96, [1, 118, 1, 0, 0, 0, 100]), (21, .if_icmp .ge 29, [50]), (24, .aload_n 0, []), (25, .getfield 9, [3, 0, 2, 0]), (28, .iload_n 2, []), (29, .iload 4, []), (31, .iadd, []), (32, .baload, []), (33, .aload_n 1, []), (34, .iload 4, []), (36, .invokevirtual 101, [1, 119, 2, 0, 0, 0, 100]), (39, .if_icmp .eq 5, [44]), (42, .iconst 0, []), (43, .ireturn, [5])], 44),
  (44, [0, 1, 2, 4], [(44, .iinc 4 1, []), (47, .goto (-32), [15])], 50),
  (50, [], [(50, .iconst 1, []), (51, .ireturn, [5])], 52)]
def rX3_isSpelled : xRow := ((yX3_isSpelled, cX3_isSpelled, 5, (some .boolean), 0, 0), bX3_isSpelled, pX3)
def bX3_put : xBl := [
  (0, [0, 1, 2, 3], [(0, .aload_n 0, []), (1, .getfield 47, [3, 6, 0, 0]), (4, .aload_n 0, []), (5, .getfield 17, [3, 3, 2, 0]), (8, .arraylength, []), (9, .if_icmp .ge 43, [52]), (12, .aload_n 0, []), (13, .getfield 17, [3, 3, 2, 0]), (16, .aload_n 0, []), (17, .getfield 47, [3, 6, 0, 0]), (20, .aload_n 1, []), (21, .aastore, []), (22, .aload_n 0, []), (23, .getfield 21, [3, 4, 2, 0]), (26, .aload_n 0, []), (27, .getfield 47, [3, 6, 0, 0]), (30, .iload_n 2, []), (31, .iastore, []), (32, .aload_n 0, []), (33, .getfield 25, [3, 5, 2, 0]), (36, .aload_n 0, []), (37, .getfield 47, [3, 6, 0, 0]), (40, .iload_n 3, []), (41, .iastore, []), (42, .aload_n 0, []), (43, .dup, []), (44, .getfield 47, [3, 6, 0, 0]), (47, .iconst 1, []), (48, .iadd, []), (49, .putfield 47, [3, 6, 0, 0])], 52),
  (52, [], [(52, .return_, [])], 53)]
def rX3_put : xRow := ((yX3_put, cX3_put, 4, none, 0, 0), bX3_put, pX3)
def bX3_token : xBl := [
  (0, [0], [(0, .aload_n 0, []), (1, .getfield 17, [3, 3, 2, 0]), (4, .aload_n 0, []), (5, .getfield 50, [3, 7, 0, 0]), (8, .aaload, []), (9, .areturn, [])], 10)]
def rX3_token : xRow := ((yX3_token, cX3_token, 1, (some (.object "ShellWatch$Token")), 0, 0), bX3_token, pX3)
def bX3_number : xBl := [
  (0, [0], [(0, .aload_n 0, []), (1, .getfield 25, [3, 5, 2, 0]), (4, .aload_n 0, []), (5, .getfield 50, [3, 7, 0, 0]), (8, .iaload, []), (9, .ireturn, [0])], 10)]
def rX3_number : xRow := ((yX3_number, cX3_number, 1, (some .int), 0, 0), bX3_number, pX3)
def bX3_is : xBl := [
  (0, [0, 1], [(0, .aload_n 0, []), (1, .getfield 17, [3, 3, 2, 0]), (4, .aload_n 0, []), (5, .getfield 50, [3, 7, 0, 0]), (8, .aaload, []), (9, .aload_n 1, []), (10, .if_acmp .ne 7, [17]), (13, .iconst 1, []), (14, .goto 4, [18])], 17),
  (17, [], [(17, .iconst 0, [])], 18),
  (18, [], [(18, .ireturn, [5])], 19)]
def rX3_is : xRow := ((yX3_is, cX3_is, 2, (some .boolean), 0, 0), bX3_is, pX3)
def bX3_advance : xBl := [
  (0, [0], [(0, .aload_n 0, []), (1, .getfield 50, [3, 7, 0, 0]), (4, .iconst 1, []), (5, .iadd, []), (6, .aload_n 0, []), (7, .getfield 47, [3, 6, 0, 0]), (10, .if_icmp .ge 13, [23]), (13, .aload_n 0, []), (14, .dup, []), (15, .getfield 50, [3, 7, 0, 0]), (18, .iconst 1, []), (19, .iadd, []), (20, .putfield 50, [3, 7, 0, 0])], 23),
  (23, [], [(23, .return_, [])], 24)]
def rX3_advance : xRow := ((yX3_advance, cX3_advance, 1, none, 0, 0), bX3_advance, pX3)
def bX3_take : xBl := [
  (0, [0, 1], [(0, .aload_n 0, []), (1, .getfield 17, [3, 3, 2, 0]), (4, .aload_n 0, []), (5, .getfield 50, [3, 7, 0, 0]), (8, .aaload, []), (9, .aload_n 1, []), (10, .if_acmp .eq 10, [20]), (13, .aload_n 0, []), (14, .bipush (-2), []), (16, .invokevirtual 105, [1, 44, 2, 0, 0, 0, 4]), (19, .ireturn, [5])], 20),
  (20, [0], [(20, .aload_n 0, []), (21, .invokevirtual 109, [1, 41, 1, 9, 0, 0, 4]), (24, .iconst 1, []), (25, .ireturn, [5])], 26)]
def rX3_take : xRow := ((yX3_take, cX3_take, 2, (some .boolean), 0, 0), bX3_take, pX3)
def bX3_takeNumber : xBl := [
  (0, [0, 1, 2], [(0, .aload_n 0, []), (1, .getfield 25, [3, 5, 2, 0]), (4, .aload_n 0, []), (5, .getfield 50, [3, 7, 0, 0]), (8, .iaload, []), (9, .istore_n 3, []), (10, .aload_n 0, []), (11, .getfield 17, [3, 3, 2, 0]), (14, .aload_n 0, []), (15, .getfield 50, [3, 7, 0, 0]), (18, .aaload, []), (19, .getstatic 72, [0, 1]), (22, .if_acmp .eq 12, [34]), (25, .aload_n 0, []), (26, .bipush (-2), []), (28, .invokevirtual 105, [1, 44, 2, 0, 0, 0, 4]), (31, .pop, []), (32, .iconst (-1), []), (33, .ireturn, [0])], 34),
  (34, [0, 1, 2, 3], [(34, .iload_n 3, []), (35, .iload_n 1, []), (36, .if_icmp .lt 8, [44]), (39, .iload_n 3, []), (40, .iload_n 2, []), (41, .if_icmp .le 12, [53])], 44),
  (44, [0], [(44, .aload_n 0, []), (45, .bipush (-3), []), (47, .invokevirtual 105, [1, 44, 2, 0, 0, 0, 4]), (50, .pop, []), (51, .iconst (-1), []), (52, .ireturn, [0])], 53),
  (53, [0, 3], [(53, .aload_n 0, []), (54, .invokevirtual 109, [1, 41, 1, 9, 0, 0, 4]), (57, .iload_n 3, []), (58, .ireturn, [0])], 59)]
def rX3_takeNumber : xRow := ((yX3_takeNumber, cX3_takeNumber, 4, (some .int), 0, 0), bX3_takeNumber, pX3)
def bX3_fail : xBl := [
  (0, [0, 1], [(0, .aload_n 0, []), (1, .iload_n 1, []), (2, .putfield 53, [3, 8, 0, 0]), (5, .aload_n 0, []), (6, .aload_n 0, []), (7, .getfield 21, [3, 4, 2, 0]), (10, .aload_n 0, []), (11, .getfield 50, [3, 7, 0, 0]), (14, .iaload, []), (15, .putfield 28, [3, 9, 0, 0]), (18, .iconst 0, []), (19, .ireturn, [5])], 20)]
def rX3_fail : xRow := ((yX3_fail, cX3_fail, 2, (some .boolean), 0, 0), bX3_fail, pX3)
def pX4 : xPool := [(0, 9, [4, 0, 2, 2]), (0, 15, [4, 1, 0, 0]), (0, 19, [4, 2, 0, 0]), (0, 22, [4, 3, 0, 0]), (0, 25, [4, 4, 0, 0]), (2, 28, [1, 48, 2, 9, 0, 0, 5]), (0, 9, [4, 0, 2, 0]), (2, 38, [0, 117, 2, 9, 0, 0, 0]), (2, 44, [1, 62, 1, 9, 0, 0, 5]), (2, 57, [1, 68, 2, 0, 0, 0, 6]), (2, 63, [1, 56, 3, 9, 0, 0, 5]), (2, 67, [1, 58, 2, 9, 0, 0, 5]), (2, 71, [1, 57, 3, 9, 0, 0, 5]), (2, 74, [1, 60, 1, 9, 0, 0, 5]), (2, 77, [0, 59, 1, 0, 0, 0, 0]), (2, 80, [1, 51, 1, 0, 0, 0, 5]), (2, 85, [1, 61, 1, 9, 0, 0, 5]), (2, 88, [0, 63, 2, 0, 0, 0, 0])]
def bX4_init : xBl := [
  (0, [0], [(0, .aload_n 0, []), (1, .invokespecial 3, [0]), (4, .aload_n 0, []), (5, .bipush 9, []), (7, .newarray .int, [0]), (9, .putfield 9, [4, 0, 2, 2]), (12, .return_, [])], 13)]
def rX4_init : xRow := ((yX4_init, cX4_init, 1, none, 1, 9), bX4_init, pX4)
def bX4_reset : xBl := [
  (0, [0, 1], [(0, .aload_n 0, []), (1, .iload_n 1, []), (2, .iconst 1, []), (3, .iadd, []), (4, .putfield 15, [4, 1, 0, 0]), (7, .aload_n 0, []), (8, .bipush 80, []), (10, .putfield 19, [4, 2, 0, 0]), (13, .aload_n 0, []), (14, .iconst 1, []), (15, .putfield 22, [4, 3, 0, 0]), (18, .aload_n 0, []), (19, .iconst 0, []), (20, .putfield 25, [4, 4, 0, 0]), (23, .aload_n 0, []), (24, .iconst 0, []), (25, .invokevirtual 28, [1, 48, 2, 9, 0, 0, 5]), (28, .return_, [])], 29)]
def rX4_reset : xRow := ((yX4_reset, cX4_reset, 2, none, 0, 0), bX4_reset, pX4)
def bX4_copyFrom : xBl := [
  (0, [0, 1], [(0, .aload_n 1, []), (1, .getfield 9, [4, 0, 2, 0]), (4, .iconst 0, []), (5, .aload_n 0, []), (6, .getfield 9, [4, 0, 2, 0]), (9, .iconst 0, []), (10, .aload_n 0, []), (11, .getfield 9, [4, 0, 2, 0]), (14, .arraylength, []), (15, .invokestatic 32, [0, 6]), (18, .aload_n 0, []), (19, .aload_n 1, []), (20, .getfield 15, [4, 1, 0, 0]), (23, .putfield 15, [4, 1, 0, 0]), (26, .aload_n 0, []), (27, .aload_n 1, []), (28, .getfield 19, [4, 2, 0, 0]), (31, .putfield 19, [4, 2, 0, 0]), (34, .aload_n 0, []), (35, .aload_n 1, []), (36, .getfield 22, [4, 3, 0, 0]), (39, .putfield 22, [4, 3, 0, 0]), (42, .aload_n 0, []), (43, .aload_n 1, []), (44, .getfield 25, [4, 4, 0, 0]), (47, .putfield 25, [4, 4, 0, 0]), (50, .return_, [])], 51)]
def rX4_copyFrom : xRow := ((yX4_copyFrom, cX4_copyFrom, 2, none, 0, 0), bX4_copyFrom, pX4)
def bX4_know : xBl := [
  (0, [0, 1], [(0, .aload_n 0, []), (1, .getfield 9, [4, 0, 2, 0]), (4, .iconst 0, []), (5, .invokestatic 38, [0, 117, 2, 9, 0, 0, 0]), (8, .aload_n 0, []), (9, .getfield 9, [4, 0, 2, 0]), (12, .iload_n 1, []), (13, .iconst 1, []), (14, .iastore, []), (15, .return_, [])], 16)]
def rX4_know : xRow := ((yX4_know, cX4_know, 2, none, 0, 0), bX4_know, pX4)
def bX4_ruleOut : xBl := [
  (0, [0, 1], [(0, .aload_n 0, []), (1, .getfield 9, [4, 0, 2, 0]), (4, .iload_n 1, []), (5, .iconst 0, []), (6, .iastore, []), (7, .aload_n 0, []), (8, .invokevirtual 44, [1, 62, 1, 9, 0, 0, 5]), (11, .return_, [])], 12)]
def rX4_ruleOut : xRow := ((yX4_ruleOut, cX4_ruleOut, 2, none, 0, 0), bX4_ruleOut, pX4)
def bX4_sum : xBl := [
  (0, [0], [(0, .iconst 0, []), (1, .istore_n 1, []), (2, .iconst 0, []), (3, .istore_n 2, [])], 4),
  (4, [0, 1, 2], [(4, .iload_n 2, []), (5, .aload_n 0, []), (6, .getfield 15, [4, 1, 0, 0]), (9, .if_icmp .ge 18, [27]), (12, .iload_n 1, []), (13, .aload_n 0, []), (14, .getfield 9, [4, 0, 2, 0]), (17, .iload_n 2, []), (18, .iaload, []), (19, .iadd, []), (20, .istore_n 1, []), (21, .iinc 2 1, []), (24, .goto (-20), [4])], 27),
  (27, [1], [(27, .iload_n 1, []), (28, .ireturn, [0])], 29)]
def rX4_sum : xRow := ((yX4_sum, cX4_sum, 3, (some .int), 0, 0), bX4_sum, pX4)
def bX4_greatest : xBl := [
  (0, [0], [(0, .iconst 0, []), (1, .istore_n 1, []), (2, .iconst 0, []), (3, .istore_n 2, [])], 4),
  (4, [0, 1, 2], [(4, .iload_n 2, []), (5, .aload_n 0, []), (6, .getfield 15, [4, 1, 0, 0]), (9, .if_icmp .ge 20, [29]), (12, .iload_n 1, []), (13, .aload_n 0, []), (14, .getfield 9, [4, 0, 2, 0]), (17, .iload_n 2, []), (18, .iaload, []), (19, .invokestatic 47, [0, 0]), (22, .istore_n 1, []), (23, .iinc 2 1, []), (26, .goto (-22), [4])], 29),
  (29, [1], [(29, .iload_n 1, []), (30, .ireturn, [0])], 31)]
def rX4_greatest : xRow := ((yX4_greatest, cX4_greatest, 3, (some .int), 0, 0), bX4_greatest, pX4)
def bX4_countBelieved : xBl := [
  (0, [0], [(0, .iconst 0, []), (1, .istore_n 1, []), (2, .iconst 0, []), (3, .istore_n 2, [])], 4),
  (4, [0, 1, 2], [(4, .iload_n 2, []), (5, .aload_n 0, []), (6, .getfield 15, [4, 1, 0, 0]), (9, .if_icmp .ge 21, [30]), (12, .aload_n 0, []), (13, .getfield 9, [4, 0, 2, 0]), (16, .iload_n 2, []), (17, .iaload, []), (18, .ifCond .le 6, [24]), (21, .iinc 1 1, [])], 24),
  (24, [0, 1, 2], [(24, .iinc 2 1, []), (27, .goto (-23), [4])], 30),
  (30, [1], [(30, .iload_n 1, []), (31, .ireturn, [0])], 32)]
def rX4_countBelieved : xRow := ((yX4_countBelieved, cX4_countBelieved, 3, (some .int), 0, 0), bX4_countBelieved, pX4)
def bX4_likeliestShell : xBl := [
  (0, [0], [(0, .iconst 0, []), (1, .istore_n 1, []), (2, .iconst 1, []), (3, .istore_n 2, [])], 4),
  (4, [0, 1, 2], [(4, .iload_n 2, []), (5, .aload_n 0, []), (6, .getfield 15, [4, 1, 0, 0]), (9, .iconst 1, []), (10, .isub, []), (11, .if_icmp .ge 26, [37]), (14, .aload_n 0, []), (15, .getfield 9, [4, 0, 2, 0]), (18, .iload_n 2, []), (19, .iaload, []), (20, .aload_n 0, []), (21, .getfield 9, [4, 0, 2, 0]), (24, .iload_n 1, []), (25, .iaload, []), (26, .if_icmp .le 5, [31]), (29, .iload_n 2, []), (30, .istore_n 1, [])], 31),
  (31, [0, 1, 2], [(31, .iinc 2 1, []), (34, .goto (-30), [4])], 37),
  (37, [1], [(37, .iload_n 1, []), (38, .ireturn, [0])], 39)]
def rX4_likeliestShell : xRow := ((yX4_likeliestShell, cX4_likeliestShell, 3, (some .int), 0, 0), bX4_likeliestShell, pX4)
def bX4_followMove : xBl := [
  (0, [0, 1, 2, 3, 4, 5], [(0, .aload_n 1, []), (1, .iload_n 3, []), (2, .invokevirtual 57, [1, 68, 2, 0, 0, 0, 6]), (5, .aload_n 1, []), (6, .iload 4, []), (8, .invokevirtual 57, [1, 68, 2, 0, 0, 0, 6]), (11, .if_icmp .eq 7, [18]), (14, .iconst 1, []), (15, .goto 4, [19])], 18),
  (18, [0, 1, 2, 3, 4, 5], [(18, .iconst 0, [])], 19),
  (19, [0, 1, 2, 3, 4, 5], [(19, .istore 6, []), (21, .iload 6, []), (23, .ifCond .eq 17, [40]), (26, .iload_n 2, []), (27, .ifCond .eq 13, [40]), (30, .aload_n 0, []), (31, .iload_n 3, []), (32, .iload 4, []), (34, .invokevirtual 63, [1, 56, 3, 9, 0, 0, 5]), (37, .goto 28, [65])], 40),
  (40, [0, 1, 3, 4, 5, 6], [(40, .iload 5, []), (42, .ifCond .eq 11, [53]), (45, .aload_n 0, []), (46, .aload_n 1, []), (47, .invokevirtual 67, [1, 58, 2, 9, 0, 0, 5]), (50, .goto 15, [65])], 53),
  (53, [0, 3, 4, 6], [(53, .iload 6, []), (55, .ifCond .ne 10, [65]), (58, .aload_n 0, []), (59, .iload_n 3, []), (60, .iload 4, []), (62, .invokevirtual 71, [1, 57, 3, 9, 0, 0, 5])], 65),
  (65, [0], [(65, .aload_n 0, []), (66, .invokevirtual 74, [1, 60, 1, 9, 0, 0, 5]), (69, .return_, [])], 70)]
def rX4_followMove : xRow := ((yX4_followMove, cX4_followMove, 7, none, 0, 0), bX4_followMove, pX4)
def bX4_followStill : xBl := [
  (0, [0, 1, 2], [(0, .iload_n 2, []), (1, .ifCond .eq 8, [9]), (4, .aload_n 0, []), (5, .aload_n 1, []), (6, .invokevirtual 67, [1, 58, 2, 9, 0, 0, 5])], 9),
  (9, [0], [(9, .aload_n 0, []), (10, .invokevirtual 74, [1, 60, 1, 9, 0, 0, 5]), (13, .return_, [])], 14)]
def rX4_followStill : xRow := ((yX4_followStill, cX4_followStill, 3, none, 0, 0), bX4_followStill, pX4)
def bX4_exchange : xBl := [
  (0, [0, 1, 2], [(0, .aload_n 0, []), (1, .getfield 9, [4, 0, 2, 0]), (4, .iload_n 1, []), (5, .iaload, []), (6, .istore_n 3, []), (7, .aload_n 0, []), (8, .getfield 9, [4, 0, 2, 0]), (11, .iload_n 1, []), (12, .aload_n 0, []), (13, .getfield 9, [4, 0, 2, 0]), (16, .iload_n 2, []), (17, .iaload, []), (18, .iastore, []), (19, .aload_n 0, []), (20, .getfield 9, [4, 0, 2, 0]), (23, .iload_n 2, []), (24, .iload_n 3, []), (25, .iastore, []), (26, .return_, [])], 27)]
def rX4_exchange : xRow := ((yX4_exchange, cX4_exchange, 4, none, 0, 0), bX4_exchange, pX4)
def bX4_mix : xBl := [
  (0, [0, 1, 2], [(0, .aload_n 0, []), (1, .getfield 9, [4, 0, 2, 0]), (4, .iload_n 1, []), (5, .iaload, []), (6, .istore_n 3, []), (7, .aload_n 0, []), (8, .getfield 9, [4, 0, 2, 0]), (11, .iload_n 2, []), (12, .iaload, []), (13, .istore 4, []), (15, .iconst 0, []), (16, .istore 5, [])], 18),
  (18, [0, 1, 2, 3, 4, 5], [(18, .iload 5, []), (20, .aload_n 0, []), (21, .getfield 15, [4, 1, 0, 0]), (24, .if_icmp .ge 21, [45]), (27, .aload_n 0, []), (28, .getfield 9, [4, 0, 2, 0]), (31, .iload 5, []), (33, .dup2, []), (34, .iaload, []), (35, .bipush 100, []), (37, .imul, []), (38, .iastore, []), (39, .iinc 5 1, []), (42, .goto (-24), [18])], 45),
  (45, [0, 1, 2, 3, 4], [(45, .aload_n 0, []), (46, .getfield 9, [4, 0, 2, 0]), (49, .iload_n 1, []), (50, .iload_n 3, []), (51, .bipush 100, []), (53, .aload_n 0, []), (54, .getfield 19, [4, 2, 0, 0]), (57, .isub, []), (58, .imul, []), (59, .iload 4, []), (61, .aload_n 0, []), (62, .getfield 19, [4, 2, 0, 0]), (65, .imul, []), (66, .iadd, []), (67, .iastore, []), (68, .aload_n 0, []), (69, .getfield 9, [4, 0, 2, 0]), (72, .iload_n 2, []), (73, .iload 4, []), (75, .bipush 100, []), (77, .aload_n 0, []), (78, .getfield 19, [4, 2, 0, 0]), (81, .isub, []), (82, .imul, []), (83, .iload_n 3, []), (84, .aload_n 0, []), (85, .getfield 19, [4, 2, 0, 0]), (88, .imul, []), (89, .iadd, []), (90, .iastore, []), (91, .return_, [])], 92)]
def rX4_mix : xRow := ((yX4_mix, cX4_mix, 6, none, 0, 0), bX4_mix, pX4)
def bX4_wonder : xBl := [
  (0, [0, 1], [(0, .aload_n 0, []), (1, .getfield 15, [4, 1, 0, 0]), (4, .iconst 1, []), (5, .isub, []), (6, .istore_n 2, []), (7, .iconst 0, []), (8, .istore_n 3, []), (9, .iconst 0, []), (10, .istore 4, []), (12, .iconst 0, []), (13, .istore 5, []), (15, .iconst 0, []), (16, .istore 6, [])], 18),
  (18, [0, 1, 2, 3, 4, 5, 6], [(18, .iload 6, []), (20, .iload_n 2, []), (21, .if_icmp .ge 45, [66]), (24, .iload 5, []), (26, .aload_n 0, []), (27, .getfield 9, [4, 0, 2, 0]), (30, .iload 6, []), (32, .iaload, []), (33, .iadd, []), (34, .istore 5, []), (36, .aload_n 1, []), (37, .iload 6, []), (39, .invokevirtual 57, [1, 68, 2, 0, 0, 0, 6]), (42, .ifCond .eq 18, [60]), (45, .iinc 3 1, []), (48, .iload 4, []), (50, .aload_n 0, []), (51, .getfield 9, [4, 0, 2, 0]), (54, .iload 6, []), (56, .iaload, []), (57, .iadd, []), (58, .istore 4, [])], 60),
  (60, [0, 1, 2, 3, 4, 5, 6], [(60, .iinc 6 1, []), (63, .goto (-45), [18])], 66),
  (66, [0, 1, 2, 3, 4, 5], [(66, .iload_n 2, []), (67, .iload_n 3, []), (68, .isub, []), (69, .istore 6, []), (71, .iload_n 3, []), (72, .invokestatic 77, [0, 59, 1, 0, 0, 0, 0]), (75, .iload 6, []), (77, .invokestatic 77, [0, 59, 1, 0, 0, 0, 0]), (80, .iadd, []), (81, .istore 7, []), (83, .aload_n 0, []), (84, .getfield 9, [4, 0, 2, 0]), (87, .iload_n 2, []), (88, .iaload, []), (89, .istore 8, []), (91, .iconst 0, []), (92, .istore 9, [])], 94),
  (94, [0, 1, 2, 3, 4, 5, 6, 7, 8, 9], [(94, .iload 9, []), (96, .iload_n 2, []), (97, .if_icmp .ge 113, [210]), (100, .aload_n 1, []), (101, .iload 9, []), (103, .invokevirtual 57, [1, 68, 2, 0, 0, 0, 6]), (106, .istore 10, []), (108, .iload 10, []), (110, .ifCond .eq 7, [117]), (113, .iload_n 3, []), (114, .goto 5, [119])], 117),
  (117, [0, 1, 2, 3, 4, 5, 6, 7, 8, 9, 10], [(117, .iload 6, [])], 119),
  (119, [0, 1, 2, 3, 4, 5, 6, 7, 8, 9, 10], [(119, .iconst 1, []), (120, .isub, []), (121, .istore 11, []), (123, .iload 10, []), (125, .ifCond .eq 8, [133]), (128, .iload 4, []), (130, .goto 8, [138])], 133),
  (133, [0, 1, 2, 3, 4, 5, 6, 7, 8, 9, 11], [(133, .iload 5, []), (135, .iload 4, []), (137, .isub, [])], 138),
  (138, [0, 1, 2, 3, 4, 5, 6, 7, 8, 9, 11], [(138, .aload_n 0, []), (139, .getfield 9, [4, 0, 2, 0]), (142, .iload 9, []), (144, .iaload, []), (145, .isub, []), (146, .istore 12, []), (148, .iload 7, []), (150, .iload 11, []), (152, .isub, []), (153, .aload_n 0, []), (154, .getfield 22, [4, 3, 0, 0]), (157, .iadd, []), (158, .aload_n 0, []), (159, .getfield 25, [4, 4, 0, 0]), (162, .iload_n 2, []), (163, .iconst 1, []), (164, .isub, []), (165, .imul, []), (166, .iadd, []), (167, .aload_n 0, []), (168, .getfield 25, [4, 4, 0, 0]), (171, .iload_n 2, []), (172, .imul, []), (173, .iadd, []), (174, .istore 13, []), (176, .aload_n 0, []), (177, .getfield 9, [4, 0, 2, 0]), (180, .iload 9, []), (182, .aload_n 0, []), (183, .getfield 9, [4, 0, 2, 0]), (186, .iload 9, []), (188, .iaload, []), (189, .iload 13, []), (191, .imul, []), (192, .iload 12, []), (194, .iadd, []), (195, .iload 8, []), (197, .aload_n 0, []), (198, .getfield 25, [4, 4, 0, 0]), (201, .imul, []), (202, .iadd, []), (203, .iastore, []), (204, .iinc 9 1, []), (207, .goto (-113), [94])], 210),
  (210, [0, 2, 5, 7, 8], [(210, .aload_n 0, []), (211, .getfield 9, [4, 0, 2, 0]), (214, .iload_n 2, []), (215, .iload 8, []), (217, .iload 7, []), (219, .aload_n 0, []), (220, .getfield 22, [4, 3, 0, 0]), (223, .iadd, []), (224, .aload_n 0, []), (225, .getfield 25, [4, 4, 0, 0]), (228, .iload_n 2, []), (229, .imul, []), (230, .iadd, []), (231, .imul, []), (232, .iload 5, []), (234, .aload_n 0, []), (235, .getfield 25, [4, 4, 0, 0]), (238, .imul, []), (239, .iadd, []), (240, .iastore, []), (241, .return_, [])], 242)]
def rX4_wonder : xRow := ((yX4_wonder, cX4_wonder, 14, none, 0, 0), bX4_wonder, pX4)
def bX4_pairsOf : xBl := [
  (0, [0], [(0, .iload_n 0, []), (1, .iload_n 0, []), (2, .iconst 1, []), (3, .isub, []), (4, .imul, []), (5, .iconst 2, []), (6, .idiv, []), (7, .ireturn, [0])], 8)]
def rX4_pairsOf : xRow := ((yX4_pairsOf, cX4_pairsOf, 1, (some .int), 0, 0), bX4_pairsOf, pX4)
def bX4_settle : xBl := [
  (0, [0], [(0, .aload_n 0, []), (1, .invokevirtual 44, [1, 62, 1, 9, 0, 0, 5]), (4, .iconst 0, []), (5, .istore_n 1, [])], 6),
  (6, [0, 1], [(6, .iload_n 1, []), (7, .bipush 32, []), (9, .if_icmp .ge 22, [31]), (12, .aload_n 0, []), (13, .invokevirtual 80, [1, 51, 1, 0, 0, 0, 5]), (16, .ldc 84, [0, 1000000]), (18, .if_icmp .le 13, [31]), (21, .aload_n 0, []), (22, .invokevirtual 85, [1, 61, 1, 9, 0, 0, 5]), (25, .iinc 1 1, []), (28, .goto (-22), [6])], 31),
  (31, [], [(31, .return_, [])], 32)]
def rX4_settle : xRow := ((yX4_settle, cX4_settle, 2, none, 0, 0), bX4_settle, pX4)
def bX4_halve : xBl := [
  (0, [0], [(0, .iconst 0, []), (1, .istore_n 1, [])], 2),
  (2, [0, 1], [(2, .iload_n 1, []), (3, .aload_n 0, []), (4, .getfield 15, [4, 1, 0, 0]), (7, .if_icmp .ge 25, [32]), (10, .aload_n 0, []), (11, .getfield 9, [4, 0, 2, 0]), (14, .iload_n 1, []), (15, .aload_n 0, []), (16, .getfield 9, [4, 0, 2, 0]), (19, .iload_n 1, []), (20, .iaload, []), (21, .iconst 1, []), (22, .iadd, []), (23, .iconst 2, []), (24, .idiv, []), (25, .iastore, []), (26, .iinc 1 1, []), (29, .goto (-27), [2])], 32),
  (32, [], [(32, .return_, [])], 33)]
def rX4_halve : xRow := ((yX4_halve, cX4_halve, 2, none, 0, 0), bX4_halve, pX4)
def bX4_divideByCommonDivisor : xBl := [
  (0, [0], [(0, .iconst 0, []), (1, .istore_n 1, []), (2, .iconst 0, []), (3, .istore_n 2, [])], 4),
  (4, [0, 1, 2], [(4, .iload_n 2, []), (5, .aload_n 0, []), (6, .getfield 15, [4, 1, 0, 0]), (9, .if_icmp .ge 20, [29]), (12, .aload_n 0, []), (13, .getfield 9, [4, 0, 2, 0]), (16, .iload_n 2, []), (17, .iaload, []), (18, .iload_n 1, []), (19, .invokestatic 88, [0, 63, 2, 0, 0, 0, 0]), (22, .istore_n 1, []), (23, .iinc 2 1, []), (26, .goto (-22), [4])], 29),
  (29, [0, 1], [(29, .iconst 0, []), (30, .istore_n 2, [])], 31),
  (31, [0, 1, 2], [(31, .iload_n 2, []), (32, .aload_n 0, []), (33, .getfield 15, [4, 1, 0, 0]), (36, .if_icmp .ge 24, [60]), (39, .iload_n 1, []), (40, .iconst 1, []), (41, .if_icmp .le 19, [60]), (44, .aload_n 0, []), (45, .getfield 9, [4, 0, 2, 0]), (48, .iload_n 2, []), (49, .dup2, []), (50, .iaload, []), (51, .iload_n 1, []), (52, .idiv, []), (53, .iastore, []), (54, .iinc 2 1, []), (57, .goto (-26), [31])], 60),
  (60, [], [(60, .return_, [])], 61)]
def rX4_divideByCommonDivisor : xRow := ((yX4_divideByCommonDivisor, cX4_divideByCommonDivisor, 3, none, 0, 0), bX4_divideByCommonDivisor, pX4)
def bX4_commonDivisor : xBl := [
  (0, [0, 1], [(0, .iload_n 0, []), (1, .istore_n 2, []), (2, .iload_n 1, []), (3, .istore_n 3, []), (4, .iconst 0, []), (5, .istore 4, [])], 7),
  (7, [2, 3, 4], [(7, .iload 4, []), (9, .bipush 64, []), (11, .if_icmp .ge 23, [34]), (14, .iload_n 3, []), (15, .ifCond .eq 19, [34]), (18, .iload_n 2, []), (19, .iload_n 3, []), (20, .irem, []), (21, .istore 5, []), (23, .iload_n 3, []), (24, .istore_n 2, []), (25, .iload 5, []), (27, .istore_n 3, []), (28, .iinc 4 1, []), (31, .goto (-24), [7])], 34),
  (34, [2], [(34, .iload_n 2, []), (35, .ireturn, [0])], 36)]
def rX4_commonDivisor : xRow := ((yX4_commonDivisor, cX4_commonDivisor, 6, (some .int), 0, 0), bX4_commonDivisor, pX4)
end
section
/-! THE TABLE (X5, X6, X7, X9): blocks of the methods as the class file has them, written by wip/p31/gentab.py. -/
def pX5 : xPool := [(0, 9, [5, 3, 2, 2]), (0, 15, [5, 4, 2, 2]), (0, 18, [5, 0, 0, 0]), (0, 22, [5, 1, 0, 0]), (0, 25, [5, 2, 0, 0]), (0, 9, [5, 3, 2, 0]), (0, 15, [5, 4, 2, 0]), (2, 34, [1, 67, 2, 0, 0, 0, 6]), (2, 38, [1, 68, 2, 0, 0, 0, 6]), (2, 41, [1, 69, 3, 9, 0, 0, 6]), (2, 45, [0, 71, 3, 0, 0, 0, 0])]
def bX5_init : xBl := [
  (0, [0], [(0, .aload_n 0, []), (1, .invokespecial 3, [0]), (4, .aload_n 0, []), (5, .bipush 8, []), (7, .newarray .int, [0]), (9, .putfield 9, [5, 3, 2, 2]), (12, .aload_n 0, []), (13, .bipush 8, []), (15, .newarray .int, [0]), (17, .putfield 15, [5, 4, 2, 2]), (20, .return_, [])], 21)]
def rX5_init : xRow := ((yX5_init, cX5_init, 1, none, 2, 16), bX5_init, pX5)
def bX5_reset : xBl := [
  (0, [0, 1], [(0, .aload_n 0, []), (1, .iload_n 1, []), (2, .putfield 18, [5, 0, 0, 0]), (5, .aload_n 0, []), (6, .iconst 0, []), (7, .putfield 22, [5, 1, 0, 0]), (10, .aload_n 0, []), (11, .iconst 0, []), (12, .putfield 25, [5, 2, 0, 0]), (15, .iconst 0, []), (16, .istore_n 2, [])], 17),
  (17, [0, 2], [(17, .iload_n 2, []), (18, .aload_n 0, []), (19, .getfield 9, [5, 3, 2, 0]), (22, .arraylength, []), (23, .if_icmp .ge 23, [46]), (26, .aload_n 0, []), (27, .getfield 9, [5, 3, 2, 0]), (30, .iload_n 2, []), (31, .iload_n 2, []), (32, .iastore, []), (33, .aload_n 0, []), (34, .getfield 15, [5, 4, 2, 0]), (37, .iload_n 2, []), (38, .iconst 0, []), (39, .iastore, []), (40, .iinc 2 1, []), (43, .goto (-26), [17])], 46),
  (46, [], [(46, .return_, [])], 47)]
def rX5_reset : xRow := ((yX5_reset, cX5_reset, 3, none, 0, 0), bX5_reset, pX5)
def bX5_copyFrom : xBl := [
  (0, [0, 1], [(0, .aload_n 0, []), (1, .aload_n 1, []), (2, .getfield 18, [5, 0, 0, 0]), (5, .putfield 18, [5, 0, 0, 0]), (8, .aload_n 0, []), (9, .aload_n 1, []), (10, .getfield 22, [5, 1, 0, 0]), (13, .putfield 22, [5, 1, 0, 0]), (16, .aload_n 0, []), (17, .aload_n 1, []), (18, .getfield 25, [5, 2, 0, 0]), (21, .putfield 25, [5, 2, 0, 0]), (24, .aload_n 1, []), (25, .getfield 9, [5, 3, 2, 0]), (28, .iconst 0, []), (29, .aload_n 0, []), (30, .getfield 9, [5, 3, 2, 0]), (33, .iconst 0, []), (34, .bipush 8, []), (36, .invokestatic 28, [0, 6]), (39, .aload_n 1, []), (40, .getfield 15, [5, 4, 2, 0]), (43, .iconst 0, []), (44, .aload_n 0, []), (45, .getfield 15, [5, 4, 2, 0]), (48, .iconst 0, []), (49, .bipush 8, []), (51, .invokestatic 28, [0, 6]), (54, .return_, [])], 55)]
def rX5_copyFrom : xRow := ((yX5_copyFrom, cX5_copyFrom, 2, none, 0, 0), bX5_copyFrom, pX5)
def bX5_hasPlace : xBl := [
  (0, [0, 1], [(0, .iload_n 1, []), (1, .ifCond .lt 15, [16]), (4, .iload_n 1, []), (5, .aload_n 0, []), (6, .getfield 18, [5, 0, 0, 0]), (9, .if_icmp .ge 7, [16]), (12, .iconst 1, []), (13, .goto 4, [17])], 16),
  (16, [], [(16, .iconst 0, [])], 17),
  (17, [], [(17, .ireturn, [5])], 18)]
def rX5_hasPlace : xRow := ((yX5_hasPlace, cX5_hasPlace, 2, (some .boolean), 0, 0), bX5_hasPlace, pX5)
def bX5_isScratched : xBl := [
  (0, [0, 1], [(0, .aload_n 0, []), (1, .iload_n 1, []), (2, .invokevirtual 34, [1, 67, 2, 0, 0, 0, 6]), (5, .ifCond .eq 19, [24]), (8, .aload_n 0, []), (9, .getfield 25, [5, 2, 0, 0]), (12, .iload_n 1, []), (13, .ishr, []), (14, .iconst 1, []), (15, .iand, []), (16, .iconst 1, []), (17, .if_icmp .ne 7, [24]), (20, .iconst 1, []), (21, .goto 4, [25])], 24),
  (24, [], [(24, .iconst 0, [])], 25),
  (25, [], [(25, .ireturn, [5])], 26)]
def rX5_isScratched : xRow := ((yX5_isScratched, cX5_isScratched, 2, (some .boolean), 0, 0), bX5_isScratched, pX5)
def bX5_setScratched : xBl := [
  (0, [0, 1, 2], [(0, .aload_n 0, []), (1, .iload_n 1, []), (2, .invokevirtual 34, [1, 67, 2, 0, 0, 0, 6]), (5, .ifCond .eq 32, [37]), (8, .aload_n 0, []), (9, .iload_n 2, []), (10, .ifCond .eq 14, [24]), (13, .aload_n 0, []), (14, .getfield 25, [5, 2, 0, 0]), (17, .iconst 1, []), (18, .iload_n 1, []), (19, .ishl, []), (20, .ior, []), (21, .goto 13, [34])], 24),
  (24, [0, 1], [(24, .aload_n 0, []), (25, .getfield 25, [5, 2, 0, 0]), (28, .iconst 1, []), (29, .iload_n 1, []), (30, .ishl, []), (31, .iconst (-1), []), (32, .ixor, []), (33, .iand, [])], 34),
  (34, [], [(34, .putfield 25, [5, 2, 0, 0])], 37),
  (37, [], [(37, .return_, [])], 38)]
def rX5_setScratched : xRow := ((yX5_setScratched, cX5_setScratched, 3, none, 0, 0), bX5_setScratched, pX5)
def bX5_exchange : xBl := [
  (0, [0, 1, 2], [(0, .aload_n 0, []), (1, .getfield 9, [5, 3, 2, 0]), (4, .iload_n 1, []), (5, .iaload, []), (6, .istore_n 3, []), (7, .aload_n 0, []), (8, .getfield 9, [5, 3, 2, 0]), (11, .iload_n 1, []), (12, .aload_n 0, []), (13, .getfield 9, [5, 3, 2, 0]), (16, .iload_n 2, []), (17, .iaload, []), (18, .iastore, []), (19, .aload_n 0, []), (20, .getfield 9, [5, 3, 2, 0]), (23, .iload_n 2, []), (24, .iload_n 3, []), (25, .iastore, []), (26, .aload_n 0, []), (27, .getfield 15, [5, 4, 2, 0]), (30, .iload_n 1, []), (31, .iaload, []), (32, .istore 4, []), (34, .aload_n 0, []), (35, .getfield 15, [5, 4, 2, 0]), (38, .iload_n 1, []), (39, .aload_n 0, []), (40, .getfield 15, [5, 4, 2, 0]), (43, .iload_n 2, []), (44, .iaload, []), (45, .iconst 1, []), (46, .iadd, []), (47, .iastore, []), (48, .aload_n 0, []), (49, .getfield 15, [5, 4, 2, 0]), (52, .iload_n 2, []), (53, .iload 4, []), (55, .iconst 1, []), (56, .iadd, []), (57, .iastore, []), (58, .aload_n 0, []), (59, .iload_n 1, []), (60, .invokevirtual 38, [1, 68, 2, 0, 0, 0, 6]), (63, .istore 5, []), (65, .aload_n 0, []), (66, .iload_n 1, []), (67, .aload_n 0, []), (68, .iload_n 2, []), (69, .invokevirtual 38, [1, 68, 2, 0, 0, 0, 6]), (72, .invokevirtual 41, [1, 69, 3, 9, 0, 0, 6]), (75, .aload_n 0, []), (76, .iload_n 2, []), (77, .iload 5, []), (79, .invokevirtual 41, [1, 69, 3, 9, 0, 0, 6]), (82, .aload_n 0, []), (83, .aload_n 0, []), (84, .getfield 22, [5, 1, 0, 0]), (87, .iload_n 1, []), (88, .iload_n 2, []), (89, .invokestatic 45, [0, 71, 3, 0, 0, 0, 0]), (92, .putfield 22, [5, 1, 0, 0]), (95, .return_, [])], 96)]
def rX5_exchange : xRow := ((yX5_exchange, cX5_exchange, 6, none, 0, 0), bX5_exchange, pX5)
def bX5_placeBehind : xBl := [
  (0, [0, 1, 2], [(0, .iload_n 0, []), (1, .iload_n 1, []), (2, .if_icmp .ne 5, [7]), (5, .iload_n 2, []), (6, .ireturn, [0])], 7),
  (7, [0, 1, 2], [(7, .iload_n 0, []), (8, .iload_n 2, []), (9, .if_icmp .ne 7, [16]), (12, .iload_n 1, []), (13, .goto 4, [17])], 16),
  (16, [0], [(16, .iload_n 0, [])], 17),
  (17, [], [(17, .ireturn, [0])], 18)]
def rX5_placeBehind : xRow := ((yX5_placeBehind, cX5_placeBehind, 3, (some .int), 0, 0), bX5_placeBehind, pX5)
def pX6 : xPool := [(4, 11, [4]), (0, 13, [6, 0, 2, 2]), (0, 17, [6, 1, 2, 2]), (0, 21, [6, 2, 2, 2]), (0, 24, [6, 3, 2, 2])]
def bX6_init : xBl := [
  (0, [0], [(0, .aload_n 0, []), (1, .invokespecial 3, [0]), (4, .aload_n 0, []), (5, .bipush 60, []), (7, .anewarray 11, [4]), (10, .putfield 13, [6, 0, 2, 2]), (13, .aload_n 0, []), (14, .bipush 60, []), (16, .newarray .int, [0]), (18, .putfield 17, [6, 1, 2, 2]), (21, .aload_n 0, []), (22, .bipush 60, []), (24, .newarray .int, [0]), (26, .putfield 21, [6, 2, 2, 2]), (29, .aload_n 0, []), (30, .bipush 60, []), (32, .newarray .int, [0]), (34, .putfield 24, [6, 3, 2, 2]), (37, .return_, [])], 38)]
def rX6_init : xRow := ((yX6_init, cX6_init, 1, none, 4, 240), bX6_init, pX6)
def pX7 : xPool := [(1, 9, [0, 10]), (2, 15, [1, 42, 2, 0, 0, 0, 4]), (2, 21, [1, 43, 3, 0, 0, 0, 4]), (1, 25, [0, 3]), (2, 28, [1, 18, 2, 9, 0, 0, 3]), (1, 34, [0, 0]), (2, 37, [1, 40, 2, 0, 0, 0, 4]), (2, 40, [1, 38, 1, 2, 0, 0, 4]), (2, 44, [0, 74, 1, 0, 0, 0, 0]), (2, 50, [1, 44, 2, 0, 0, 0, 4]), (2, 54, [0, 75, 2, 0, 0, 0, 0]), (1, 58, [0, 14]), (1, 61, [0, 16]), (1, 64, [0, 17]), (1, 67, [0, 18]), (1, 70, [0, 19]), (1, 73, [0, 21]), (1, 76, [0, 15]), (0, 79, [2, 0, 2, 1]), (2, 83, [0, 76, 2, 0, 0, 0, 0]), (1, 87, [0, 20]), (0, 90, [2, 2, 2, 1]), (2, 94, [0, 78, 2, 0, 0, 0, 0]), (2, 98, [1, 41, 1, 9, 0, 0, 4]), (0, 101, [2, 3, 2, 1]), (2, 105, [1, 9, 1, 9, 0, 0, 2]), (2, 110, [3, 13, 3, 0, 0, 0, 2]), (2, 114, [0, 79, 2, 0, 0, 0, 0]), (2, 117, [0, 77, 2, 0, 0, 0, 0]), (1, 120, [0, 1]), (2, 123, [1, 39, 1, 0, 0, 0, 4]), (2, 127, [1, 68, 2, 0, 0, 0, 6]), (0, 132, [5, 0, 0, 1]), (2, 136, [1, 69, 3, 9, 0, 0, 6]), (2, 140, [1, 5, 1, 0, 0, 0, 1]), (2, 146, [1, 6, 3, 9, 0, 0, 1]), (2, 150, [0, 80, 2, 0, 0, 0, 0]), (2, 154, [0, 81, 3, 9, 0, 0, 0]), (0, 158, [5, 1, 0, 1]), (0, 161, [2, 1, 2, 1]), (2, 165, [1, 48, 2, 9, 0, 0, 5]), (0, 170, [4, 2, 0, 1]), (0, 173, [4, 3, 0, 1]), (0, 176, [4, 4, 0, 1]), (0, 179, [2, 6, 0, 1])]
def bX7_read : xBl := [
  (0, [0, 1], [(0, .aload_n 0, []), (1, .getstatic 9, [0, 10]), (4, .invokevirtual 15, [1, 42, 2, 0, 0, 0, 4]), (7, .ifCond .ne 5, [12]), (10, .iconst 0, []), (11, .ireturn, [5])], 12),
  (12, [0, 1], [(12, .aload_n 0, []), (13, .iconst 2, []), (14, .bipush 8, []), (16, .invokevirtual 21, [1, 43, 3, 0, 0, 0, 4]), (19, .istore_n 2, []), (20, .iload_n 2, []), (21, .ifCond .lt 13, [34]), (24, .aload_n 0, []), (25, .getstatic 25, [0, 3]), (28, .invokevirtual 15, [1, 42, 2, 0, 0, 0, 4]), (31, .ifCond .ne 5, [36])], 34),
  (34, [], [(34, .iconst 0, []), (35, .ireturn, [5])], 36),
  (36, [0, 1, 2], [(36, .aload_n 1, []), (37, .iload_n 2, []), (38, .invokevirtual 28, [1, 18, 2, 9, 0, 0, 3]), (41, .iconst 0, []), (42, .istore_n 3, []), (43, .iconst 0, []), (44, .istore 4, [])], 46),
  (46, [0, 1, 3, 4], [(46, .iload 4, []), (48, .sipush 500, []), (51, .if_icmp .ge 67, [118]), (54, .aload_n 0, []), (55, .getstatic 34, [0, 0]), (58, .invokevirtual 37, [1, 40, 2, 0, 0, 0, 4]), (61, .ifCond .ne 57, [118]), (64, .aload_n 0, []), (65, .invokevirtual 40, [1, 38, 1, 2, 0, 0, 4]), (68, .invokestatic 44, [0, 74, 1, 0, 0, 0, 0]), (71, .istore 5, []), (73, .iload_n 3, []), (74, .iload 5, []), (76, .iand, []), (77, .ifCond .eq 10, [87]), (80, .aload_n 0, []), (81, .bipush (-2), []), (83, .invokevirtual 50, [1, 44, 2, 0, 0, 0, 4]), (86, .ireturn, [5])], 87),
  (87, [0, 1, 3, 4, 5], [(87, .iload_n 3, []), (88, .iload 5, []), (90, .ior, []), (91, .istore_n 3, []), (92, .aload_n 0, []), (93, .aload_n 1, []), (94, .invokestatic 54, [0, 75, 2, 0, 0, 0, 0]), (97, .ifCond .eq 13, [110]), (100, .aload_n 0, []), (101, .getstatic 25, [0, 3]), (104, .invokevirtual 15, [1, 42, 2, 0, 0, 0, 4]), (107, .ifCond .ne 5, [112])], 110),
  (110, [], [(110, .iconst 0, []), (111, .ireturn, [5])], 112),
  (112, [0, 1, 3, 4], [(112, .iinc 4 1, []), (115, .goto (-69), [46])], 118),
  (118, [], [(118, .iconst 1, []), (119, .ireturn, [5])], 120)]
def rX7_read : xRow := ((yX7_read, cX7_read, 6, (some .boolean), 0, 0), bX7_read, pX7)
def bX7_bitOfSingle : xBl := [
  (0, [0], [(0, .aload_n 0, []), (1, .getstatic 58, [0, 14]), (4, .if_acmp .ne 5, [9]), (7, .iconst 1, []), (8, .ireturn, [0])], 9),
  (9, [0], [(9, .aload_n 0, []), (10, .getstatic 61, [0, 16]), (13, .if_acmp .ne 5, [18]), (16, .iconst 2, []), (17, .ireturn, [0])], 18),
  (18, [0], [(18, .aload_n 0, []), (19, .getstatic 64, [0, 17]), (22, .if_acmp .ne 5, [27]), (25, .iconst 4, []), (26, .ireturn, [0])], 27),
  (27, [0], [(27, .aload_n 0, []), (28, .getstatic 67, [0, 18]), (31, .if_acmp .ne 6, [37]), (34, .bipush 8, []), (36, .ireturn, [0])], 37),
  (37, [0], [(37, .aload_n 0, []), (38, .getstatic 70, [0, 19]), (41, .if_acmp .ne 6, [47]), (44, .bipush 16, []), (46, .ireturn, [0])], 47),
  (47, [0], [(47, .aload_n 0, []), (48, .getstatic 73, [0, 21]), (51, .if_acmp .ne 8, [59]), (54, .bipush 32, []), (56, .goto 4, [60])], 59),
  (59, [], [(59, .iconst 0, [])], 60),
  (60, [], [(60, .ireturn, [0])], 61)]
def rX7_bitOfSingle : xRow := ((yX7_bitOfSingle, cX7_bitOfSingle, 1, (some .int), 0, 0), bX7_bitOfSingle, pX7)
def bX7_readStatement : xBl := [
  (0, [0, 1], [(0, .aload_n 0, []), (1, .getstatic 76, [0, 15]), (4, .invokevirtual 37, [1, 40, 2, 0, 0, 0, 4]), (7, .ifCond .eq 12, [19]), (10, .aload_n 0, []), (11, .aload_n 1, []), (12, .getfield 79, [2, 0, 2, 1]), (15, .invokestatic 83, [0, 76, 2, 0, 0, 0, 0]), (18, .ireturn, [5])], 19),
  (19, [0, 1], [(19, .aload_n 0, []), (20, .getstatic 87, [0, 20]), (23, .invokevirtual 37, [1, 40, 2, 0, 0, 0, 4]), (26, .ifCond .eq 12, [38]), (29, .aload_n 0, []), (30, .aload_n 1, []), (31, .getfield 90, [2, 2, 2, 1]), (34, .invokestatic 94, [0, 78, 2, 0, 0, 0, 0]), (37, .ireturn, [5])], 38),
  (38, [0, 1], [(38, .aload_n 0, []), (39, .getstatic 73, [0, 21]), (42, .invokevirtual 37, [1, 40, 2, 0, 0, 0, 4]), (45, .ifCond .eq 24, [69]), (48, .aload_n 0, []), (49, .invokevirtual 98, [1, 41, 1, 9, 0, 0, 4]), (52, .aload_n 1, []), (53, .getfield 101, [2, 3, 2, 1]), (56, .invokevirtual 105, [1, 9, 1, 9, 0, 0, 2]), (59, .aload_n 1, []), (60, .getfield 101, [2, 3, 2, 1]), (63, .aload_n 0, []), (64, .iconst 0, []), (65, .invokevirtual 110, [3, 13, 3, 0, 0, 0, 2]), (68, .ireturn, [5])], 69),
  (69, [0, 1], [(69, .aload_n 0, []), (70, .aload_n 1, []), (71, .invokestatic 114, [0, 79, 2, 0, 0, 0, 0]), (74, .ireturn, [5])], 75)]
def rX7_readStatement : xRow := ((yX7_readStatement, cX7_readStatement, 2, (some .boolean), 0, 0), bX7_readStatement, pX7)
def bX7_readScratches : xBl := [
  (0, [0, 1], [(0, .aload_n 0, []), (1, .invokevirtual 98, [1, 41, 1, 9, 0, 0, 4]), (4, .aload_n 0, []), (5, .aload_n 1, []), (6, .invokestatic 117, [0, 77, 2, 0, 0, 0, 0]), (9, .ifCond .ne 5, [14]), (12, .iconst 0, []), (13, .ireturn, [5])], 14),
  (14, [0, 1], [(14, .iconst 0, []), (15, .istore_n 2, [])], 16),
  (16, [0, 1, 2], [(16, .iload_n 2, []), (17, .sipush 500, []), (20, .if_icmp .ge 29, [49]), (23, .aload_n 0, []), (24, .getstatic 120, [0, 1]), (27, .invokevirtual 37, [1, 40, 2, 0, 0, 0, 4]), (30, .ifCond .eq 19, [49]), (33, .aload_n 0, []), (34, .aload_n 1, []), (35, .invokestatic 117, [0, 77, 2, 0, 0, 0, 0]), (38, .ifCond .ne 5, [43]), (41, .iconst 0, []), (42, .ireturn, [5])], 43),
  (43, [0, 1, 2], [(43, .iinc 2 1, []), (46, .goto (-30), [16])], 49),
  (49, [], [(49, .iconst 1, []), (50, .ireturn, [5])], 51)]
def rX7_readScratches : xRow := ((yX7_readScratches, cX7_readScratches, 3, (some .boolean), 0, 0), bX7_readScratches, pX7)
def bX7_readScratch : xBl := [
  (0, [0, 1], [(0, .aload_n 0, []), (1, .getstatic 120, [0, 1]), (4, .invokevirtual 37, [1, 40, 2, 0, 0, 0, 4]), (7, .ifCond .eq 21, [28]), (10, .aload_n 1, []), (11, .aload_n 0, []), (12, .invokevirtual 123, [1, 39, 1, 0, 0, 0, 4]), (15, .invokevirtual 127, [1, 68, 2, 0, 0, 0, 6]), (18, .ifCond .eq 10, [28]), (21, .aload_n 0, []), (22, .bipush (-4), []), (24, .invokevirtual 50, [1, 44, 2, 0, 0, 0, 4]), (27, .ireturn, [5])], 28),
  (28, [0, 1], [(28, .aload_n 0, []), (29, .iconst 0, []), (30, .aload_n 1, []), (31, .getfield 132, [5, 0, 0, 1]), (34, .iconst 1, []), (35, .isub, []), (36, .invokevirtual 21, [1, 43, 3, 0, 0, 0, 4]), (39, .istore_n 2, []), (40, .iload_n 2, []), (41, .ifCond .ge 5, [46]), (44, .iconst 0, []), (45, .ireturn, [5])], 46),
  (46, [1, 2], [(46, .aload_n 1, []), (47, .iload_n 2, []), (48, .iconst 1, []), (49, .invokevirtual 136, [1, 69, 3, 9, 0, 0, 6]), (52, .iconst 1, []), (53, .ireturn, [5])], 54)]
def rX7_readScratch : xRow := ((yX7_readScratch, cX7_readScratch, 3, (some .boolean), 0, 0), bX7_readScratch, pX7)
def bX7_readBlink : xBl := [
  (0, [0, 1], [(0, .aload_n 1, []), (1, .invokevirtual 140, [1, 5, 1, 0, 0, 0, 1]), (4, .ifCond .eq 10, [14]), (7, .aload_n 0, []), (8, .bipush (-5), []), (10, .invokevirtual 50, [1, 44, 2, 0, 0, 0, 4]), (13, .ireturn, [5])], 14),
  (14, [0, 1], [(14, .aload_n 0, []), (15, .invokevirtual 98, [1, 41, 1, 9, 0, 0, 4]), (18, .aload_n 0, []), (19, .iconst 0, []), (20, .sipush 9999, []), (23, .invokevirtual 21, [1, 43, 3, 0, 0, 0, 4]), (26, .istore_n 2, []), (27, .iload_n 2, []), (28, .ifCond .ge 5, [33]), (31, .iconst 0, []), (32, .ireturn, [5])], 33),
  (33, [0, 1, 2], [(33, .aload_n 0, []), (34, .iload_n 2, []), (35, .sipush 9999, []), (38, .invokevirtual 21, [1, 43, 3, 0, 0, 0, 4]), (41, .istore_n 3, []), (42, .iload_n 3, []), (43, .ifCond .ge 5, [48]), (46, .iconst 0, []), (47, .ireturn, [5])], 48),
  (48, [1, 2, 3], [(48, .aload_n 1, []), (49, .iload_n 2, []), (50, .iload_n 3, []), (51, .invokevirtual 146, [1, 6, 3, 9, 0, 0, 1]), (54, .iconst 1, []), (55, .ireturn, [5])], 56)]
def rX7_readBlink : xRow := ((yX7_readBlink, cX7_readBlink, 4, (some .boolean), 0, 0), bX7_readBlink, pX7)
def bX7_readSetting : xBl := [
  (0, [0, 1], [(0, .aload_n 0, []), (1, .invokevirtual 40, [1, 38, 1, 2, 0, 0, 4]), (4, .astore_n 2, []), (5, .aload_n 2, []), (6, .aload_n 1, []), (7, .invokestatic 150, [0, 80, 2, 0, 0, 0, 0]), (10, .istore_n 3, []), (11, .iload_n 3, []), (12, .ifCond .ge 10, [22]), (15, .aload_n 0, []), (16, .bipush (-2), []), (18, .invokevirtual 50, [1, 44, 2, 0, 0, 0, 4]), (21, .ireturn, [5])], 22),
  (22, [0, 1, 2, 3], [(22, .aload_n 0, []), (23, .invokevirtual 98, [1, 41, 1, 9, 0, 0, 4]), (26, .aload_n 2, []), (27, .getstatic 61, [0, 16]), (30, .if_acmp .eq 10, [40]), (33, .aload_n 2, []), (34, .getstatic 64, [0, 17]), (37, .if_acmp .ne 7, [44])], 40),
  (40, [0, 1, 2, 3], [(40, .iconst 1, []), (41, .goto 4, [45])], 44),
  (44, [0, 1, 2, 3], [(44, .iconst 0, [])], 45),
  (45, [0, 1, 2, 3], [(45, .istore 4, []), (47, .aload_n 0, []), (48, .iload 4, []), (50, .iload_n 3, []), (51, .invokevirtual 21, [1, 43, 3, 0, 0, 0, 4]), (54, .istore 5, []), (56, .iload 5, []), (58, .ifCond .ge 5, [63]), (61, .iconst 0, []), (62, .ireturn, [5])], 63),
  (63, [1, 2, 5], [(63, .aload_n 1, []), (64, .aload_n 2, []), (65, .iload 5, []), (67, .invokestatic 154, [0, 81, 3, 9, 0, 0, 0]), (70, .iconst 1, []), (71, .ireturn, [5])], 72)]
def rX7_readSetting : xRow := ((yX7_readSetting, cX7_readSetting, 6, (some .boolean), 0, 0), bX7_readSetting, pX7)
def bX7_greatestOf : xBl := [
  (0, [0, 1], [(0, .aload_n 0, []), (1, .getstatic 58, [0, 14]), (4, .if_acmp .ne 13, [17]), (7, .aload_n 1, []), (8, .getfield 79, [2, 0, 2, 1]), (11, .getfield 132, [5, 0, 0, 1]), (14, .iconst 1, []), (15, .isub, []), (16, .ireturn, [0])], 17),
  (17, [0], [(17, .aload_n 0, []), (18, .getstatic 61, [0, 16]), (21, .if_acmp .ne 6, [27]), (24, .bipush 99, []), (26, .ireturn, [0])], 27),
  (27, [0], [(27, .aload_n 0, []), (28, .getstatic 64, [0, 17]), (31, .if_acmp .ne 6, [37]), (34, .bipush 9, []), (36, .ireturn, [0])], 37),
  (37, [0], [(37, .aload_n 0, []), (38, .getstatic 67, [0, 18]), (41, .if_acmp .ne 6, [47]), (44, .bipush 9, []), (46, .ireturn, [0])], 47),
  (47, [0], [(47, .aload_n 0, []), (48, .getstatic 70, [0, 19]), (51, .if_acmp .ne 9, [60]), (54, .sipush 9999, []), (57, .goto 4, [61])], 60),
  (60, [], [(60, .iconst (-1), [])], 61),
  (61, [], [(61, .ireturn, [0])], 62)]
def rX7_greatestOf : xRow := ((yX7_greatestOf, cX7_greatestOf, 2, (some .int), 0, 0), bX7_greatestOf, pX7)
def bX7_set : xBl := [
  (0, [0, 1, 2], [(0, .aload_n 1, []), (1, .getstatic 58, [0, 14]), (4, .if_acmp .ne 22, [26]), (7, .aload_n 0, []), (8, .getfield 79, [2, 0, 2, 1]), (11, .iload_n 2, []), (12, .putfield 158, [5, 1, 0, 1]), (15, .aload_n 0, []), (16, .getfield 161, [2, 1, 2, 1]), (19, .iload_n 2, []), (20, .invokevirtual 165, [1, 48, 2, 9, 0, 0, 5]), (23, .goto 69, [92])], 26),
  (26, [0, 1, 2], [(26, .aload_n 1, []), (27, .getstatic 61, [0, 16]), (30, .if_acmp .ne 14, [44]), (33, .aload_n 0, []), (34, .getfield 161, [2, 1, 2, 1]), (37, .iload_n 2, []), (38, .putfield 170, [4, 2, 0, 1]), (41, .goto 51, [92])], 44),
  (44, [0, 1, 2], [(44, .aload_n 1, []), (45, .getstatic 64, [0, 17]), (48, .if_acmp .ne 14, [62]), (51, .aload_n 0, []), (52, .getfield 161, [2, 1, 2, 1]), (55, .iload_n 2, []), (56, .putfield 173, [4, 3, 0, 1]), (59, .goto 33, [92])], 62),
  (62, [0, 1, 2], [(62, .aload_n 1, []), (63, .getstatic 67, [0, 18]), (66, .if_acmp .ne 14, [80]), (69, .aload_n 0, []), (70, .getfield 161, [2, 1, 2, 1]), (73, .iload_n 2, []), (74, .putfield 176, [4, 4, 0, 1]), (77, .goto 15, [92])], 80),
  (80, [0, 1, 2], [(80, .aload_n 1, []), (81, .getstatic 70, [0, 19]), (84, .if_acmp .ne 8, [92]), (87, .aload_n 0, []), (88, .iload_n 2, []), (89, .putfield 179, [2, 6, 0, 1])], 92),
  (92, [], [(92, .return_, [])], 93)]
def rX7_set : xRow := ((yX7_set, cX7_set, 3, none, 0, 0), bX7_set, pX7)
def pX9 : xPool := [(3, 7, [0, 4, 5]), (2, 9, [4, 45, 1, 9, 1, 9, 5]), (0, 10, [7, 0, 2, 2])]
def bX9_init : xBl := [
  (0, [0], [(0, .aload_n 0, []), (1, .invokespecial 1, [0]), (4, .aload_n 0, []), (5, .new 7, [0, 4, 5]), (8, .dup, []), (9, .invokespecial 9, [4, 45, 1, 9, 1, 9, 5]), (12, .putfield 10, [7, 0, 2, 2]), (15, .return_, [])], 16)]
def rX9_init : xRow := ((yX9_init, cX9_init, 1, none, 2, 14), bX9_init, pX9)
end
section
/-! THE TABLE (X10): blocks of the methods as the class file has them, written by wip/p31/gentab.py. -/
def pX10 : xPool := [(3, 9, [0, 3, 10]), (2, 11, [4, 28, 1, 9, 4, 2003, 4]), (0, 12, [8, 0, 2, 2]), (3, 16, [0, 6, 6]), (2, 18, [4, 72, 1, 9, 4, 240, 7]), (0, 19, [8, 1, 2, 2]), (3, 23, [0, 7, 6]), (2, 25, [4, 82, 1, 9, 2, 14, 8]), (0, 26, [8, 2, 2, 2]), (3, 30, [0, 2, 9]), (2, 32, [2, 17, 1, 9, 11, 568, 3]), (0, 33, [8, 3, 2, 2]), (4, 30, [5]), (0, 37, [8, 4, 2, 2]), (0, 37, [8, 4, 2, 0]), (0, 12, [8, 0, 2, 0]), (2, 41, [1, 29, 2, 0, 0, 0, 4]), (2, 45, [1, 30, 2, 9, 0, 0, 4]), (0, 49, [3, 1, 0, 1]), (2, 53, [5, 99, 2, 9, 1, 6, 9]), (2, 56, [1, 31, 2, 9, 0, 0, 4]), (0, 33, [8, 3, 2, 0]), (2, 59, [0, 73, 2, 0, 0, 0, 0]), (0, 65, [3, 8, 0, 1]), (2, 68, [1, 97, 1, 2, 0, 0, 9]), (2, 72, [1, 19, 2, 9, 0, 0, 3]), (0, 76, [2, 0, 2, 1]), (0, 80, [5, 0, 0, 1]), (2, 115, [5, 103, 3, 9, 1, 6, 9]), (2, 119, [1, 96, 1, 2, 0, 0, 9]), (2, 122, [1, 20, 2, 0, 0, 0, 3]), (2, 132, [5, 102, 2, 9, 1, 6, 9]), (0, 135, [2, 1, 2, 1]), (0, 139, [4, 0, 2, 1]), (2, 152, [1, 53, 1, 0, 0, 0, 5]), (0, 162, [2, 2, 2, 1]), (2, 166, [1, 7, 2, 0, 0, 0, 1]), (2, 212, [5, 101, 3, 9, 3, 18, 9]), (2, 205, [1, 24, 4, 0, 0, 0, 3]), (0, 209, [5, 1, 0, 1]), (2, 215, [1, 25, 2, 0, 0, 0, 3]), (2, 126, [5, 100, 2, 9, 1, 6, 9]), (2, 218, [1, 22, 2, 0, 0, 0, 3]), (2, 226, [1, 98, 2, 0, 0, 0, 9]), (2, 229, [1, 23, 1, 0, 0, 0, 3]), (2, 235, [1, 27, 2, 0, 0, 0, 3]), (0, 279, [8, 5, 0, 0]), (0, 276, [8, 6, 0, 0]), (2, 145, [1, 50, 1, 0, 0, 0, 5]), (2, 291, [1, 67, 2, 0, 0, 0, 6])]
def bX10_init : xBl := [
  (0, [0], [(0, .aload_n 0, []), (1, .invokespecial 3, [0]), (4, .aload_n 0, []), (5, .new 9, [0, 3, 10]), (8, .dup, []), (9, .invokespecial 11, [4, 28, 1, 9, 4, 2003, 4]), (12, .putfield 12, [8, 0, 2, 2]), (15, .aload_n 0, []), (16, .new 16, [0, 6, 6]), (19, .dup, []), (20, .invokespecial 18, [4, 72, 1, 9, 4, 240, 7]), (23, .putfield 19, [8, 1, 2, 2]), (26, .aload_n 0, []), (27, .new 23, [0, 7, 6]), (30, .dup, []), (31, .invokespecial 25, [4, 82, 1, 9, 2, 14, 8]), (34, .putfield 26, [8, 2, 2, 2]), (37, .aload_n 0, []), (38, .new 30, [0, 2, 9]), (41, .dup, []), (42, .invokespecial 32, [2, 17, 1, 9, 11, 568, 3]), (45, .putfield 33, [8, 3, 2, 2]), (48, .aload_n 0, []), (49, .bipush 9, []), (51, .anewarray 30, [5]), (54, .putfield 37, [8, 4, 2, 2]), (57, .iconst 0, []), (58, .istore_n 1, [])], 59),
  (59, [0, 1], [(59, .iload_n 1, []), (60, .aload_n 0, []), (61, .getfield 37, [8, 4, 2, 0]), (64, .arraylength, []), (65, .if_icmp .ge 22, [87]), (68, .aload_n 0, []), (69, .getfield 37, [8, 4, 2, 0]), (72, .iload_n 1, []), (73, .new 30, [0, 2, 9]), (76, .dup, []), (77, .invokespecial 32, [2, 17, 1, 9, 11, 568, 3]), (80, .aastore, []), (81, .iinc 1 1, []), (84, .goto (-25), [59])], 87),
  (87, [], [(87, .return_, [])], 88)]
def rX10_init : xRow := ((yX10_init, cX10_init, 2, none, 134, 8058), bX10_init, pX10)
def bX10_append : xBl := [
  (0, [0, 1, 2, 3, 4, 5], [(0, .aload_n 0, []), (1, .getfield 12, [8, 0, 2, 0]), (4, .bipush 20, []), (6, .invokevirtual 41, [1, 29, 2, 0, 0, 0, 4]), (9, .ifCond .ne 5, [14]), (12, .iconst (-1), []), (13, .ireturn, [0])], 14),
  (14, [0, 1, 2, 3, 4, 5], [(14, .aload_n 0, []), (15, .getfield 12, [8, 0, 2, 0]), (18, .iload_n 1, []), (19, .invokevirtual 45, [1, 30, 2, 9, 0, 0, 4]), (22, .aload_n 0, []), (23, .getfield 12, [8, 0, 2, 0]), (26, .iload_n 2, []), (27, .invokevirtual 45, [1, 30, 2, 9, 0, 0, 4]), (30, .aload_n 0, []), (31, .getfield 12, [8, 0, 2, 0]), (34, .iload_n 3, []), (35, .invokevirtual 45, [1, 30, 2, 9, 0, 0, 4]), (38, .aload_n 0, []), (39, .getfield 12, [8, 0, 2, 0]), (42, .iload 4, []), (44, .invokevirtual 45, [1, 30, 2, 9, 0, 0, 4]), (47, .aload_n 0, []), (48, .getfield 12, [8, 0, 2, 0]), (51, .iload 5, []), (53, .invokevirtual 45, [1, 30, 2, 9, 0, 0, 4]), (56, .aload_n 0, []), (57, .getfield 12, [8, 0, 2, 0]), (60, .getfield 49, [3, 1, 0, 1]), (63, .ireturn, [0])], 64)]
def rX10_append : xRow := ((yX10_append, cX10_append, 6, (some .int), 0, 0), bX10_append, pX10)
def bX10_load : xBl := [
  (0, [0, 1], [(0, .aload_n 0, []), (1, .iload_n 1, []), (2, .invokevirtual 53, [5, 99, 2, 9, 1, 6, 9]), (5, .aload_n 0, []), (6, .getfield 12, [8, 0, 2, 0]), (9, .iload_n 1, []), (10, .invokevirtual 56, [1, 31, 2, 9, 0, 0, 4]), (13, .aload_n 0, []), (14, .getfield 12, [8, 0, 2, 0]), (17, .aload_n 0, []), (18, .getfield 33, [8, 3, 2, 0]), (21, .invokestatic 59, [0, 73, 2, 0, 0, 0, 0]), (24, .ifCond .ne 11, [35]), (27, .aload_n 0, []), (28, .getfield 12, [8, 0, 2, 0]), (31, .getfield 65, [3, 8, 0, 1]), (34, .ireturn, [0])], 35),
  (35, [0], [(35, .aload_n 0, []), (36, .invokevirtual 68, [1, 97, 1, 2, 0, 0, 9]), (39, .aload_n 0, []), (40, .getfield 33, [8, 3, 2, 0]), (43, .invokevirtual 72, [1, 19, 2, 9, 0, 0, 3]), (46, .aload_n 0, []), (47, .getfield 33, [8, 3, 2, 0]), (50, .getfield 76, [2, 0, 2, 1]), (53, .getfield 80, [5, 0, 0, 1]), (56, .ireturn, [0])], 57)]
def rX10_load : xRow := ((yX10_load, cX10_load, 2, (some .int), 1, 6), bX10_load, pX10)
def bX10_state : xBl := [
  (0, [0, 1], [(0, .aload_n 0, []), (1, .iload_n 1, []), (2, .bipush 12, []), (4, .invokevirtual 115, [5, 103, 3, 9, 1, 6, 9]), (7, .aload_n 0, []), (8, .invokevirtual 119, [1, 96, 1, 2, 0, 0, 9]), (11, .iload_n 1, []), (12, .invokevirtual 122, [1, 20, 2, 0, 0, 0, 3]), (15, .ireturn, [0])], 16)]
def rX10_state : xRow := ((yX10_state, cX10_state, 2, (some .int), 1, 6), bX10_state, pX10)
def bX10_belief : xBl := [
  (0, [0, 1], [(0, .aload_n 0, []), (1, .iload_n 1, []), (2, .invokevirtual 132, [5, 102, 2, 9, 1, 6, 9]), (5, .aload_n 0, []), (6, .invokevirtual 119, [1, 96, 1, 2, 0, 0, 9]), (9, .getfield 135, [2, 1, 2, 1]), (12, .getfield 139, [4, 0, 2, 1]), (15, .iload_n 1, []), (16, .iaload, []), (17, .ireturn, [0])], 18)]
def rX10_belief : xRow := ((yX10_belief, cX10_belief, 2, (some .int), 1, 6), bX10_belief, pX10)
def bX10_guess : xBl := [
  (0, [0], [(0, .aload_n 0, []), (1, .invokevirtual 119, [1, 96, 1, 2, 0, 0, 9]), (4, .getfield 135, [2, 1, 2, 1]), (7, .invokevirtual 152, [1, 53, 1, 0, 0, 0, 5]), (10, .ireturn, [0])], 11)]
def rX10_guess : xRow := ((yX10_guess, cX10_guess, 1, (some .int), 0, 0), bX10_guess, pX10)
def bX10_blinks : xBl := [
  (0, [0, 1], [(0, .iload_n 1, []), (1, .ifCond .lt 10, [11]), (4, .iload_n 1, []), (5, .sipush 20000, []), (8, .if_icmp .le 13, [21])], 11),
  (11, [], [(11, .new 155, [1, 0, 157, 159])], 14),
  (21, [0, 1], [(21, .aload_n 0, []), (22, .invokevirtual 119, [1, 96, 1, 2, 0, 0, 9]), (25, .getfield 162, [2, 2, 2, 1]), (28, .iload_n 1, []), (29, .invokevirtual 166, [1, 7, 2, 0, 0, 0, 1]), (32, .ireturn, [5])], 33)]
def rX10_blinks : xRow := ((yX10_blinks, cX10_blinks, 2, (some .boolean), 1, 6), bX10_blinks, pX10)
def bX10_swap : xBl := [
  (0, [0, 1, 2], [(0, .aload_n 0, []), (1, .iload_n 1, []), (2, .iload_n 2, []), (3, .invokevirtual 212, [5, 101, 3, 9, 3, 18, 9]), (6, .aload_n 0, []), (7, .invokevirtual 68, [1, 97, 1, 2, 0, 0, 9]), (10, .iconst 1, []), (11, .iload_n 1, []), (12, .iload_n 2, []), (13, .invokevirtual 205, [1, 24, 4, 0, 0, 0, 3]), (16, .ireturn, [5])], 17)]
def rX10_swap : xRow := ((yX10_swap, cX10_swap, 3, (some .boolean), 3, 18), bX10_swap, pX10)
def bX10_feint : xBl := [
  (0, [0, 1, 2], [(0, .aload_n 0, []), (1, .iload_n 1, []), (2, .iload_n 2, []), (3, .invokevirtual 212, [5, 101, 3, 9, 3, 18, 9]), (6, .aload_n 0, []), (7, .invokevirtual 68, [1, 97, 1, 2, 0, 0, 9]), (10, .iconst 0, []), (11, .iload_n 1, []), (12, .iload_n 2, []), (13, .invokevirtual 205, [1, 24, 4, 0, 0, 0, 3]), (16, .ireturn, [5])], 17)]
def rX10_feint : xRow := ((yX10_feint, cX10_feint, 3, (some .boolean), 3, 18), bX10_feint, pX10)
def bX10_rest : xBl := [
  (0, [0], [(0, .aload_n 0, []), (1, .invokevirtual 68, [1, 97, 1, 2, 0, 0, 9]), (4, .aload_n 0, []), (5, .invokevirtual 119, [1, 96, 1, 2, 0, 0, 9]), (8, .getfield 76, [2, 0, 2, 1]), (11, .getfield 209, [5, 1, 0, 1]), (14, .invokevirtual 215, [1, 25, 2, 0, 0, 0, 3]), (17, .ireturn, [5])], 18)]
def rX10_rest : xRow := ((yX10_rest, cX10_rest, 1, (some .boolean), 0, 0), bX10_rest, pX10)
def bX10_steal : xBl := [
  (0, [0, 1], [(0, .aload_n 0, []), (1, .iload_n 1, []), (2, .invokevirtual 126, [5, 100, 2, 9, 1, 6, 9]), (5, .aload_n 0, []), (6, .invokevirtual 119, [1, 96, 1, 2, 0, 0, 9]), (9, .iload_n 1, []), (10, .invokevirtual 218, [1, 22, 2, 0, 0, 0, 3]), (13, .ifCond .ne 13, [26]), (16, .new 221, [1, 2, 223, 225])], 19),
  (26, [0], [(26, .aload_n 0, []), (27, .aload_n 0, []), (28, .invokevirtual 119, [1, 96, 1, 2, 0, 0, 9]), (31, .getfield 76, [2, 0, 2, 1]), (34, .getfield 80, [5, 0, 0, 1]), (37, .invokevirtual 226, [1, 98, 2, 0, 0, 0, 9]), (40, .ireturn, [0])], 41)]
def rX10_steal : xRow := ((yX10_steal, cX10_steal, 2, (some .int), 2, 12), bX10_steal, pX10)
def bX10_plant : xBl := [
  (0, [0, 1], [(0, .aload_n 0, []), (1, .iload_n 1, []), (2, .invokevirtual 126, [5, 100, 2, 9, 1, 6, 9]), (5, .aload_n 0, []), (6, .invokevirtual 119, [1, 96, 1, 2, 0, 0, 9]), (9, .invokevirtual 229, [1, 23, 1, 0, 0, 0, 3]), (12, .ifCond .ne 13, [25]), (15, .new 221, [1, 2, 233, 225])], 18),
  (25, [0, 1], [(25, .aload_n 0, []), (26, .iload_n 1, []), (27, .invokevirtual 226, [1, 98, 2, 0, 0, 0, 9]), (30, .ireturn, [0])], 31)]
def rX10_plant : xRow := ((yX10_plant, cX10_plant, 2, (some .int), 2, 12), bX10_plant, pX10)
def bX10_peek : xBl := [
  (0, [0, 1], [(0, .aload_n 0, []), (1, .iload_n 1, []), (2, .invokevirtual 126, [5, 100, 2, 9, 1, 6, 9]), (5, .aload_n 0, []), (6, .invokevirtual 68, [1, 97, 1, 2, 0, 0, 9]), (9, .iload_n 1, []), (10, .invokevirtual 235, [1, 27, 2, 0, 0, 0, 3]), (13, .ireturn, [5])], 14)]
def rX10_peek : xRow := ((yX10_peek, cX10_peek, 2, (some .boolean), 1, 6), bX10_peek, pX10)
def bX10_game : xBl := [
  (0, [0], [(0, .aload_n 0, []), (1, .getfield 37, [8, 4, 2, 0]), (4, .aload_n 0, []), (5, .getfield 279, [8, 5, 0, 0]), (8, .aaload, []), (9, .areturn, [])], 10)]
def rX10_game : xRow := ((yX10_game, cX10_game, 1, (some (.object "ShellWatch$Game")), 0, 0), bX10_game, pX10)
def bX10_change : xBl := [
  (0, [0], [(0, .aload_n 0, []), (1, .getfield 37, [8, 4, 2, 0]), (4, .aload_n 0, []), (5, .getfield 279, [8, 5, 0, 0]), (8, .aaload, []), (9, .astore_n 1, []), (10, .aload_n 0, []), (11, .aload_n 0, []), (12, .getfield 279, [8, 5, 0, 0]), (15, .iconst 1, []), (16, .iadd, []), (17, .bipush 9, []), (19, .if_icmp .ge 12, [31]), (22, .aload_n 0, []), (23, .getfield 279, [8, 5, 0, 0]), (26, .iconst 1, []), (27, .iadd, []), (28, .goto 4, [32])], 31),
  (31, [0, 1], [(31, .iconst 0, [])], 32),
  (32, [0, 1], [(32, .putfield 279, [8, 5, 0, 0]), (35, .aload_n 0, []), (36, .aload_n 0, []), (37, .getfield 276, [8, 6, 0, 0]), (40, .iconst 1, []), (41, .iadd, []), (42, .bipush 8, []), (44, .invokestatic 284, [0, 1]), (47, .putfield 276, [8, 6, 0, 0]), (50, .aload_n 0, []), (51, .getfield 37, [8, 4, 2, 0]), (54, .aload_n 0, []), (55, .getfield 279, [8, 5, 0, 0]), (58, .aaload, []), (59, .aload_n 1, []), (60, .invokevirtual 72, [1, 19, 2, 9, 0, 0, 3]), (63, .aload_n 0, []), (64, .getfield 37, [8, 4, 2, 0]), (67, .aload_n 0, []), (68, .getfield 279, [8, 5, 0, 0]), (71, .aaload, []), (72, .areturn, [])], 73)]
def rX10_change : xRow := ((yX10_change, cX10_change, 2, (some (.object "ShellWatch$Game")), 0, 0), bX10_change, pX10)
def bX10_moveBall : xBl := [
  (0, [0, 1], [(0, .aload_n 0, []), (1, .invokevirtual 68, [1, 97, 1, 2, 0, 0, 9]), (4, .astore_n 2, []), (5, .aload_n 2, []), (6, .iload_n 1, []), (7, .invokevirtual 215, [1, 25, 2, 0, 0, 0, 3]), (10, .pop, []), (11, .aload_n 2, []), (12, .getfield 135, [2, 1, 2, 1]), (15, .invokevirtual 145, [1, 50, 1, 0, 0, 0, 5]), (18, .ireturn, [0])], 19)]
def rX10_moveBall : xRow := ((yX10_moveBall, cX10_moveBall, 3, (some .int), 0, 0), bX10_moveBall, pX10)
def bX10_requireLength : xBl := [
  (0, [0, 1], [(0, .iload_n 1, []), (1, .ifCond .lt 14, [15]), (4, .iload_n 1, []), (5, .aload_n 0, []), (6, .getfield 12, [8, 0, 2, 0]), (9, .getfield 49, [3, 1, 0, 1]), (12, .if_icmp .le 14, [26])], 15),
  (15, [], [(15, .new 155, [1, 0, 289, 159])], 18),
  (26, [], [(26, .return_, [])], 27)]
def rX10_requireLength : xRow := ((yX10_requireLength, cX10_requireLength, 2, none, 1, 6), bX10_requireLength, pX10)
def bX10_requirePlace : xBl := [
  (0, [0, 1], [(0, .aload_n 0, []), (1, .invokevirtual 119, [1, 96, 1, 2, 0, 0, 9]), (4, .getfield 76, [2, 0, 2, 1]), (7, .iload_n 1, []), (8, .invokevirtual 291, [1, 67, 2, 0, 0, 0, 6]), (11, .ifCond .ne 14, [25]), (14, .new 294, [1, 1, 296, 298])], 17),
  (25, [], [(25, .return_, [])], 26)]
def rX10_requirePlace : xRow := ((yX10_requirePlace, cX10_requirePlace, 2, none, 1, 6), bX10_requirePlace, pX10)
def bX10_requireTwoPlaces : xBl := [
  (0, [0, 1, 2], [(0, .aload_n 0, []), (1, .iload_n 1, []), (2, .invokevirtual 126, [5, 100, 2, 9, 1, 6, 9]), (5, .aload_n 0, []), (6, .iload_n 2, []), (7, .invokevirtual 126, [5, 100, 2, 9, 1, 6, 9]), (10, .iload_n 1, []), (11, .iload_n 2, []), (12, .if_icmp .ne 14, [26]), (15, .new 155, [1, 0, 299, 159])], 18),
  (26, [], [(26, .return_, [])], 27)]
def rX10_requireTwoPlaces : xRow := ((yX10_requireTwoPlaces, cX10_requireTwoPlaces, 3, none, 3, 18), bX10_requireTwoPlaces, pX10)
def bX10_requirePlaceOrHand : xBl := [
  (0, [0, 1], [(0, .iload_n 1, []), (1, .ifCond .lt 17, [18]), (4, .iload_n 1, []), (5, .aload_n 0, []), (6, .invokevirtual 119, [1, 96, 1, 2, 0, 0, 9]), (9, .getfield 76, [2, 0, 2, 1]), (12, .getfield 80, [5, 0, 0, 1]), (15, .if_icmp .le 14, [29])], 18),
  (18, [], [(18, .new 155, [1, 0, 301, 159])], 21),
  (29, [], [(29, .return_, [])], 30)]
def rX10_requirePlaceOrHand : xRow := ((yX10_requirePlaceOrHand, cX10_requirePlaceOrHand, 2, none, 1, 6), bX10_requirePlaceOrHand, pX10)
def bX10_requireWhat : xBl := [
  (0, [1, 2], [(0, .iload_n 1, []), (1, .ifCond .lt 8, [9]), (4, .iload_n 1, []), (5, .iload_n 2, []), (6, .if_icmp .le 14, [20])], 9),
  (9, [], [(9, .new 155, [1, 0, 303, 159])], 12),
  (20, [], [(20, .return_, [])], 21)]
def rX10_requireWhat : xRow := ((yX10_requireWhat, cX10_requireWhat, 3, none, 1, 6), bX10_requireWhat, pX10)
end
section
/-! THE TABLE (X11, X12, L): blocks of the methods as the class file has them, written by wip/p31/gentab.py. -/
def pX11 : xPool := [(0, 7, [9, 0, 0, 2]), (0, 13, [9, 1, 0, 2]), (0, 16, [9, 2, 0, 2]), (0, 19, [9, 3, 0, 2]), (0, 22, [9, 4, 0, 2]), (0, 25, [9, 5, 5, 2])]
def bX11_init : xBl := [
  (0, [0, 1, 2, 3, 4, 5, 6], [(0, .aload_n 0, []), (1, .invokespecial 1, [0]), (4, .aload_n 0, []), (5, .iload_n 1, []), (6, .putfield 7, [9, 0, 0, 2]), (9, .aload_n 0, []), (10, .iload_n 2, []), (11, .putfield 13, [9, 1, 0, 2]), (14, .aload_n 0, []), (15, .iload_n 3, []), (16, .putfield 16, [9, 2, 0, 2]), (19, .aload_n 0, []), (20, .iload 4, []), (22, .putfield 19, [9, 3, 0, 2]), (25, .aload_n 0, []), (26, .iload 5, []), (28, .putfield 22, [9, 4, 0, 2]), (31, .aload_n 0, []), (32, .iload 6, []), (34, .putfield 25, [9, 5, 5, 2]), (37, .return_, [])], 38)]
def rX11_init : xRow := ((yX11_init, cX11_init, 7, none, 0, 0), bX11_init, pX11)
def pX12 : xPool := [(3, 7, [0, 13, 3]), (2, 9, [2, 156, 1, 9, 0, 0, 14]), (0, 10, [10, 0, 2, 2]), (0, 16, [10, 1, 0, 2]), (0, 20, [10, 2, 0, 2]), (0, 23, [10, 3, 0, 2]), (0, 26, [10, 4, 0, 2]), (0, 29, [10, 5, 0, 2]), (2, 32, [0, 106, 3, 0, 0, 0, 0]), (0, 29, [10, 5, 0, 0]), (0, 10, [10, 0, 2, 0]), (2, 36, [1, 163, 2, 2, 0, 0, 14]), (8, 40, [9]), (0, 42, [9, 5, 5, 3]), (2, 46, [1, 110, 4, 1, 0, 0, 11]), (2, 50, [1, 109, 4, 1, 0, 0, 11]), (2, 53, [1, 108, 3, 1, 0, 0, 11]), (0, 57, [9, 0, 0, 3]), (0, 60, [9, 1, 0, 3]), (0, 63, [9, 2, 0, 3]), (0, 66, [9, 3, 0, 3]), (0, 20, [10, 2, 0, 0]), (0, 16, [10, 1, 0, 0]), (2, 71, [0, 107, 3, 0, 0, 0, 0]), (0, 74, [9, 4, 0, 3]), (0, 23, [10, 3, 0, 0]), (0, 26, [10, 4, 0, 0]), (2, 79, [1, 165, 1, 0, 0, 0, 14]), (2, 83, [5, 87, 2, 0, 1, 6, 9]), (2, 89, [5, 86, 2, 0, 1, 6, 9]), (2, 92, [1, 88, 1, 0, 0, 0, 9])]
def bX12_init : xBl := [
  (0, [0, 1, 2, 3, 4, 5], [(0, .aload_n 0, []), (1, .invokespecial 1, [0]), (4, .aload_n 0, []), (5, .new 7, [0, 13, 3]), (8, .dup, []), (9, .invokespecial 9, [2, 156, 1, 9, 0, 0, 14]), (12, .putfield 10, [10, 0, 2, 2]), (15, .aload_n 0, []), (16, .iload_n 1, []), (17, .putfield 16, [10, 1, 0, 2]), (20, .aload_n 0, []), (21, .iload_n 2, []), (22, .putfield 20, [10, 2, 0, 2]), (25, .aload_n 0, []), (26, .iload_n 3, []), (27, .putfield 23, [10, 3, 0, 2]), (30, .aload_n 0, []), (31, .iload 4, []), (33, .putfield 26, [10, 4, 0, 2]), (36, .aload_n 0, []), (37, .iload 5, []), (39, .putfield 29, [10, 5, 0, 2]), (42, .return_, [])], 43)]
def rX12_init : xRow := ((yX12_init, cX12_init, 6, none, 1, 3), bX12_init, pX12)
def bX12_by : xBl := [
  (0, [0, 1, 2], [(0, .iload_n 0, []), (1, .iload_n 1, []), (2, .if_icmp .ne 7, [9]), (5, .iload_n 2, []), (6, .goto 13, [19])], 9),
  (9, [0, 1, 2], [(9, .iload_n 0, []), (10, .iload_n 2, []), (11, .if_icmp .ne 7, [18]), (14, .iload_n 1, []), (15, .goto 4, [19])], 18),
  (18, [0], [(18, .iload_n 0, [])], 19),
  (19, [], [(19, .ireturn, [0])], 20)]
def rX12_by : xRow := ((yX12_by, cX12_by, 3, (some .int), 0, 0), bX12_by, pX12)
def bX12_moved : xBl := [
  (0, [0, 1, 2], [(0, .iconst 0, []), (1, .istore_n 3, []), (2, .iconst 0, []), (3, .istore 4, [])], 5),
  (5, [0, 1, 2, 3, 4], [(5, .iload 4, []), (7, .bipush 8, []), (9, .if_icmp .ge 26, [35]), (12, .iload_n 3, []), (13, .iload_n 0, []), (14, .iload 4, []), (16, .ishr, []), (17, .iconst 1, []), (18, .iand, []), (19, .iload 4, []), (21, .iload_n 1, []), (22, .iload_n 2, []), (23, .invokestatic 32, [0, 106, 3, 0, 0, 0, 0]), (26, .ishl, []), (27, .ior, []), (28, .istore_n 3, []), (29, .iinc 4 1, []), (32, .goto (-27), [5])], 35),
  (35, [3], [(35, .iload_n 3, []), (36, .ireturn, [0])], 37)]
def rX12_moved : xRow := ((yX12_moved, cX12_moved, 5, (some .int), 0, 0), bX12_moved, pX12)
def bX12_weight : xBl := [
  (0, [0, 1, 2], [(0, .iload_n 1, []), (1, .ifCond .ne 17, [18]), (4, .iload_n 2, []), (5, .aload_n 0, []), (6, .getfield 29, [10, 5, 0, 0]), (9, .if_icmp .ne 7, [16]), (12, .lconst 1, []), (13, .goto 4, [17])], 16),
  (16, [], [(16, .lconst 0, [])], 17),
  (17, [], [(17, .lreturn, [])], 18),
  (18, [0, 1, 2], [(18, .aload_n 0, []), (19, .getfield 10, [10, 0, 2, 0]), (22, .iload_n 1, []), (23, .iconst 1, []), (24, .isub, []), (25, .invokevirtual 36, [1, 163, 2, 2, 0, 0, 14]), (28, .checkcast 40, [9]), (31, .astore_n 3, []), (32, .aload_n 3, []), (33, .getfield 42, [9, 5, 5, 3]), (36, .ifCond .eq 13, [49]), (39, .aload_n 0, []), (40, .aload_n 3, []), (41, .iload_n 1, []), (42, .iload_n 2, []), (43, .invokevirtual 46, [1, 110, 4, 1, 0, 0, 11]), (46, .goto 10, [56])], 49),
  (49, [0, 1, 2, 3], [(49, .aload_n 0, []), (50, .aload_n 3, []), (51, .iload_n 1, []), (52, .iload_n 2, []), (53, .invokevirtual 50, [1, 109, 4, 1, 0, 0, 11])], 56),
  (56, [], [(56, .lreturn, [])], 57)]
def rX12_weight : xRow := ((yX12_weight, cX12_weight, 4, (some .long), 0, 0), bX12_weight, pX12)
def bX12_open : xBl := [
  (0, [0, 1, 2, 3], [(0, .aload_n 0, []), (1, .iload_n 2, []), (2, .iconst 1, []), (3, .isub, []), (4, .iload_n 3, []), (5, .invokevirtual 53, [1, 108, 3, 1, 0, 0, 11]), (8, .lstore 4, []), (10, .aload_n 1, []), (11, .getfield 57, [9, 0, 0, 3]), (14, .iconst 2, []), (15, .if_icmp .ne 6, [21]), (18, .lload 4, []), (20, .lreturn, [])], 21),
  (21, [0, 1, 2, 3, 4], [(21, .aload_n 0, []), (22, .iload_n 2, []), (23, .iconst 1, []), (24, .isub, []), (25, .iload_n 3, []), (26, .aload_n 1, []), (27, .getfield 60, [9, 1, 0, 3]), (30, .aload_n 1, []), (31, .getfield 63, [9, 2, 0, 3]), (34, .invokestatic 32, [0, 106, 3, 0, 0, 0, 0]), (37, .invokevirtual 53, [1, 108, 3, 1, 0, 0, 11]), (40, .lstore 6, []), (42, .aload_n 1, []), (43, .getfield 66, [9, 3, 0, 3]), (46, .aload_n 1, []), (47, .getfield 60, [9, 1, 0, 3]), (50, .ishr, []), (51, .iconst 1, []), (52, .iand, []), (53, .aload_n 1, []), (54, .getfield 66, [9, 3, 0, 3]), (57, .aload_n 1, []), (58, .getfield 63, [9, 2, 0, 3]), (61, .ishr, []), (62, .iconst 1, []), (63, .iand, []), (64, .if_icmp .eq 18, [82]), (67, .aload_n 1, []), (68, .getfield 57, [9, 0, 0, 3]), (71, .ifCond .ne 8, [79]), (74, .lload 6, []), (76, .goto 5, [81])], 79),
  (79, [4], [(79, .lload 4, [])], 81),
  (81, [], [(81, .lreturn, [])], 82),
  (82, [0, 1, 3, 4, 6], [(82, .iload_n 3, []), (83, .aload_n 1, []), (84, .getfield 60, [9, 1, 0, 3]), (87, .if_icmp .eq 11, [98]), (90, .iload_n 3, []), (91, .aload_n 1, []), (92, .getfield 63, [9, 2, 0, 3]), (95, .if_icmp .ne 26, [121])], 98),
  (98, [0, 4, 6], [(98, .bipush 100, []), (100, .aload_n 0, []), (101, .getfield 20, [10, 2, 0, 0]), (104, .isub, []), (105, .i2l, []), (106, .lload 4, []), (108, .lmul, []), (109, .aload_n 0, []), (110, .getfield 20, [10, 2, 0, 0]), (113, .i2l, []), (114, .lload 6, []), (116, .lmul, []), (117, .ladd, []), (118, .goto 9, [127])], 121),
  (121, [4], [(121, .ldc2_w 69, [0, 100]), (124, .lload 4, []), (126, .lmul, [])], 127),
  (127, [], [(127, .lreturn, [])], 128)]
def rX12_open : xRow := ((yX12_open, cX12_open, 8, (some .long), 0, 0), bX12_open, pX12)
def bX12_blind : xBl := [
  (0, [0, 1, 2, 3], [(0, .lconst 0, []), (1, .lstore 4, []), (3, .iconst 0, []), (4, .istore 6, [])], 6),
  (6, [0, 1, 2, 3, 4, 6], [(6, .iload 6, []), (8, .aload_n 0, []), (9, .getfield 16, [10, 1, 0, 0]), (12, .if_icmp .ge 63, [75]), (15, .iconst 0, []), (16, .istore 7, [])], 18),
  (18, [0, 1, 2, 3, 4, 6, 7], [(18, .iload 7, []), (20, .iload 6, []), (22, .if_icmp .ge 47, [69]), (25, .aload_n 1, []), (26, .getfield 66, [9, 3, 0, 3]), (29, .iload 6, []), (31, .iload 7, []), (33, .invokestatic 71, [0, 107, 3, 0, 0, 0, 0]), (36, .aload_n 1, []), (37, .getfield 74, [9, 4, 0, 3]), (40, .if_icmp .ne 23, [63]), (43, .lload 4, []), (45, .aload_n 0, []), (46, .iload_n 2, []), (47, .iconst 1, []), (48, .isub, []), (49, .iload_n 3, []), (50, .iload 6, []), (52, .iload 7, []), (54, .invokestatic 32, [0, 106, 3, 0, 0, 0, 0]), (57, .invokevirtual 53, [1, 108, 3, 1, 0, 0, 11]), (60, .ladd, []), (61, .lstore 4, [])], 63),
  (63, [0, 1, 2, 3, 4, 6, 7], [(63, .iinc 7 1, []), (66, .goto (-48), [18])], 69),
  (69, [0, 1, 2, 3, 4, 6], [(69, .iinc 6 1, []), (72, .goto (-66), [6])], 75),
  (75, [0, 1, 2, 3, 4], [(75, .aload_n 1, []), (76, .getfield 66, [9, 3, 0, 3]), (79, .aload_n 1, []), (80, .getfield 74, [9, 4, 0, 3]), (83, .if_icmp .eq 6, [89]), (86, .lload 4, []), (88, .lreturn, [])], 89),
  (89, [0, 2, 3, 4], [(89, .aload_n 0, []), (90, .iload_n 2, []), (91, .iconst 1, []), (92, .isub, []), (93, .iload_n 3, []), (94, .invokevirtual 53, [1, 108, 3, 1, 0, 0, 11]), (97, .lstore 6, []), (99, .aload_n 0, []), (100, .iload_n 2, []), (101, .iconst 1, []), (102, .isub, []), (103, .aload_n 0, []), (104, .getfield 16, [10, 1, 0, 0]), (107, .invokevirtual 53, [1, 108, 3, 1, 0, 0, 11]), (110, .lstore 8, []), (112, .lload 4, []), (114, .aload_n 0, []), (115, .getfield 23, [10, 3, 0, 0]), (118, .i2l, []), (119, .lload 6, []), (121, .lmul, []), (122, .ladd, []), (123, .lstore 4, []), (125, .iconst 0, []), (126, .istore 10, [])], 128),
  (128, [0, 2, 3, 4, 6, 8, 10], [(128, .iload 10, []), (130, .aload_n 0, []), (131, .getfield 16, [10, 1, 0, 0]), (134, .if_icmp .ge 74, [208]), (137, .iload_n 3, []), (138, .aload_n 0, []), (139, .getfield 16, [10, 1, 0, 0]), (142, .if_icmp .ne 29, [171]), (145, .lload 4, []), (147, .aload_n 0, []), (148, .getfield 26, [10, 4, 0, 0]), (151, .i2l, []), (152, .lload 8, []), (154, .aload_n 0, []), (155, .iload_n 2, []), (156, .iconst 1, []), (157, .isub, []), (158, .iload 10, []), (160, .invokevirtual 53, [1, 108, 3, 1, 0, 0, 11]), (163, .ladd, []), (164, .lmul, []), (165, .ladd, []), (166, .lstore 4, []), (168, .goto 34, [202])], 171),
  (171, [0, 2, 3, 4, 6, 8, 10], [(171, .lload 4, []), (173, .aload_n 0, []), (174, .getfield 26, [10, 4, 0, 0]), (177, .i2l, []), (178, .iload 10, []), (180, .iload_n 3, []), (181, .if_icmp .ne 11, [192]), (184, .lload 6, []), (186, .lload 8, []), (188, .ladd, []), (189, .goto 9, [198])], 192),
  (192, [0, 2, 3, 6, 8, 10], [(192, .ldc2_w 77, [0, 2]), (195, .lload 6, []), (197, .lmul, [])], 198),
  (198, [0, 2, 3, 6, 8, 10], [(198, .lmul, []), (199, .ladd, []), (200, .lstore 4, [])], 202),
  (202, [0, 2, 3, 4, 6, 8, 10], [(202, .iinc 10 1, []), (205, .goto (-77), [128])], 208),
  (208, [4], [(208, .lload 4, []), (210, .lreturn, [])], 211)]
def rX12_blind : xRow := ((yX12_blind, cX12_blind, 11, (some .long), 0, 0), bX12_blind, pX12)
def bX12_isLike : xBl := [
  (0, [0, 1], [(0, .aload_n 0, []), (1, .getfield 16, [10, 1, 0, 0]), (4, .iconst 1, []), (5, .iadd, []), (6, .newarray .long, [2]), (8, .astore_n 2, []), (9, .lconst 0, []), (10, .lstore_n 3, []), (11, .iconst 0, []), (12, .istore 5, [])], 14),
  (14, [0, 1, 2, 3, 5], [(14, .iload 5, []), (16, .aload_n 0, []), (17, .getfield 16, [10, 1, 0, 0]), (20, .if_icmp .gt 33, [53]), (23, .aload_n 2, []), (24, .iload 5, []), (26, .aload_n 0, []), (27, .aload_n 0, []), (28, .getfield 10, [10, 0, 2, 0]), (31, .invokevirtual 79, [1, 165, 1, 0, 0, 0, 14]), (34, .iload 5, []), (36, .invokevirtual 53, [1, 108, 3, 1, 0, 0, 11]), (39, .lastore, []), (40, .lload_n 3, []), (41, .aload_n 2, []), (42, .iload 5, []), (44, .laload, []), (45, .ladd, []), (46, .lstore_n 3, []), (47, .iinc 5 1, []), (50, .goto (-36), [14])], 53),
  (53, [0, 1, 2, 3], [(53, .iconst 0, []), (54, .istore 5, []), (56, .iconst 0, []), (57, .istore 6, [])], 59),
  (59, [0, 1, 2, 3, 5, 6], [(59, .iload 6, []), (61, .aload_n 0, []), (62, .getfield 16, [10, 1, 0, 0]), (65, .if_icmp .gt 61, [126]), (68, .aload_n 1, []), (69, .iload 6, []), (71, .invokevirtual 83, [5, 87, 2, 0, 1, 6, 9]), (74, .i2l, []), (75, .lload_n 3, []), (76, .lmul, []), (77, .aload_n 2, []), (78, .iload 6, []), (80, .laload, []), (81, .aload_n 1, []), (82, .bipush 10, []), (84, .invokevirtual 89, [5, 86, 2, 0, 1, 6, 9]), (87, .i2l, []), (88, .lmul, []), (89, .lcmp, []), (90, .ifCond .eq 5, [95]), (93, .iconst 0, []), (94, .ireturn, [5])], 95),
  (95, [0, 1, 2, 3, 5, 6], [(95, .iload 6, []), (97, .aload_n 0, []), (98, .getfield 16, [10, 1, 0, 0]), (101, .if_icmp .ge 19, [120]), (104, .aload_n 2, []), (105, .iload 6, []), (107, .laload, []), (108, .aload_n 2, []), (109, .iload 5, []), (111, .laload, []), (112, .lcmp, []), (113, .ifCond .le 7, [120]), (116, .iload 6, []), (118, .istore 5, [])], 120),
  (120, [0, 1, 2, 3, 5, 6], [(120, .iinc 6 1, []), (123, .goto (-64), [59])], 126),
  (126, [1, 5], [(126, .aload_n 1, []), (127, .invokevirtual 92, [1, 88, 1, 0, 0, 0, 9]), (130, .iload 5, []), (132, .if_icmp .ne 7, [139]), (135, .iconst 1, []), (136, .goto 4, [140])], 139),
  (139, [], [(139, .iconst 0, [])], 140),
  (140, [], [(140, .ireturn, [5])], 141)]
def rX12_isLike : xRow := ((yX12_isLike, cX12_isLike, 7, (some .boolean), 3, 17), bX12_isLike, pX12)
def pL : xPool := [(2, 34, [5, 93, 2, 0, 2, 12, 9]), (2, 39, [5, 94, 2, 0, 2, 12, 9]), (2, 8, [1, 118, 1, 0, 0, 0, 100]), (2, 14, [1, 119, 2, 0, 0, 0, 100]), (2, 18, [5, 84, 6, 0, 0, 0, 9]), (2, 24, [0, 114, 2, 0, 40, 200, 0]), (2, 30, [5, 85, 2, 0, 1, 6, 9]), (2, 42, [0, 112, 2, 0, 0, 0, 0]), (2, 46, [0, 113, 2, 0, 0, 0, 0]), (3, 50, [0, 12, 4]), (2, 52, [2, 145, 1, 9, 1, 16, 13]), (2, 55, [1, 147, 2, 2, 1, 250, 13]), (2, 58, [1, 149, 2, 2, 1, 250, 13]), (2, 71, [1, 150, 1, 2, 2, 124, 13]), (2, 75, [2, 146, 2, 9, 2, 310, 13]), (2, 80, [1, 148, 2, 2, 1, 250, 13]), (3, 19, [0, 8, 7]), (2, 85, [2, 83, 1, 9, 134, 8058, 9]), (2, 86, [0, 115, 2, 0, 41, 206, 0]), (3, 89, [0, 10, 6]), (2, 91, [2, 105, 6, 9, 1, 3, 11]), (2, 94, [5, 89, 2, 0, 1, 6, 9]), (2, 98, [10, 0, 2, 0, 2, 12, 0]), (2, 102, [10, 1, 2, 0, 2, 12, 0]), (2, 105, [5, 86, 2, 0, 1, 6, 9]), (2, 108, [5, 90, 3, 0, 3, 18, 9]), (2, 112, [5, 91, 3, 0, 3, 18, 9]), (2, 115, [1, 92, 1, 0, 0, 0, 9]), (2, 119, [8, 107, 3, 0, 0, 0, 0]), (0, 123, [10, 0, 2, 3]), (3, 127, [0, 9, 6]), (2, 129, [2, 104, 7, 9, 0, 0, 10]), (2, 132, [3, 159, 2, 0, 1, 10, 14]), (2, 138, [8, 106, 3, 0, 0, 0, 0]), (2, 141, [1, 111, 2, 0, 3, 17, 11]), (2, 145, [5, 95, 2, 0, 1, 6, 9]), (2, 148, [5, 87, 2, 0, 1, 6, 9])]
def bL_steals : xBl := [
  (0, [0, 1], [(0, .aload_n 0, []), (1, .iload_n 1, []), (2, .invokevirtual 34, [5, 93, 2, 0, 2, 12, 9]), (5, .ireturn, [0])], 6)]
def rL_steals : xRow := ((yL_steals, cL_steals, 3, (some .int), 2, 12), bL_steals, pL)
def bL_plants : xBl := [
  (0, [0, 1], [(0, .aload_n 0, []), (1, .iload_n 1, []), (2, .invokevirtual 39, [5, 94, 2, 0, 2, 12, 9]), (5, .ireturn, [0])], 6)]
def rL_plants : xRow := ((yL_plants, cL_plants, 3, (some .int), 2, 12), bL_plants, pL)
def bL_cell : xBl := [
  (0, [0, 1], [(0, .iload_n 1, []), (1, .aload_n 0, []), (2, .arraylength, []), (3, .if_icmp .ge 9, [12]), (6, .aload_n 0, []), (7, .iload_n 1, []), (8, .iaload, []), (9, .goto 4, [13])], 12),
  (12, [], [(12, .iconst 0, [])], 13),
  (13, [], [(13, .ireturn, [0])], 14)]
def rL_cell : xRow := ((yL_cell, cL_cell, 2, (some .int), 0, 0), bL_cell, pL)
def bL_bound : xBl := [
  (0, [0, 1], [(0, .iload_n 0, []), (1, .ldc 7, [0, 2147483647]), (3, .iand, []), (4, .iload_n 1, []), (5, .irem, []), (6, .ireturn, [0])], 7)]
def rL_bound : xRow := ((yL_bound, cL_bound, 2, (some .int), 0, 0), bL_bound, pL)
def bL_feeds : xBl := [
  (0, [0, 1], [(0, .iconst 0, []), (1, .istore_n 2, []), (2, .iconst 0, []), (3, .istore_n 3, [])], 4),
  (4, [0, 1, 2, 3], [(4, .iload_n 3, []), (5, .aload_n 1, []), (6, .invokevirtual 8, [1, 118, 1, 0, 0, 0, 100]), (9, .if_icmp .ge 97, [106]), (12, .iconst 5, []), (13, .newarray .int, [0]), (15, .astore 4, []), (17, .iconst 0, []), (18, .istore 5, [])], 20),
  (20, [0, 1, 3, 4, 5], [(20, .iload 5, []), (22, .bipush 20, []), (24, .if_icmp .ge 51, [75]), (27, .aload 4, []), (29, .iload 5, []), (31, .iconst 4, []), (32, .idiv, []), (33, .aload 4, []), (35, .iload 5, []), (37, .iconst 4, []), (38, .idiv, []), (39, .iaload, []), (40, .bipush 8, []), (42, .ishl, []), (43, .iload_n 3, []), (44, .iload 5, []), (46, .iadd, []), (47, .aload_n 1, []), (48, .invokevirtual 8, [1, 118, 1, 0, 0, 0, 100]), (51, .if_icmp .ge 14, [65]), (54, .aload_n 1, []), (55, .iload_n 3, []), (56, .iload 5, []), (58, .iadd, []), (59, .invokevirtual 14, [1, 119, 2, 0, 0, 0, 100]), (62, .goto 5, [67])], 65),
  (65, [0, 1, 3, 4, 5], [(65, .bipush 32, [])], 67),
  (67, [0, 1, 3, 4, 5], [(67, .ior, []), (68, .iastore, []), (69, .iinc 5 1, []), (72, .goto (-52), [20])], 75),
  (75, [0, 1, 3, 4], [(75, .aload_n 0, []), (76, .aload 4, []), (78, .iconst 0, []), (79, .iaload, []), (80, .aload 4, []), (82, .iconst 1, []), (83, .iaload, []), (84, .aload 4, []), (86, .iconst 2, []), (87, .iaload, []), (88, .aload 4, []), (90, .iconst 3, []), (91, .iaload, []), (92, .aload 4, []), (94, .iconst 4, []), (95, .iaload, []), (96, .invokevirtual 18, [5, 84, 6, 0, 0, 0, 9]), (99, .istore_n 2, []), (100, .iinc 3 20, []), (103, .goto (-99), [4])], 106),
  (106, [2], [(106, .iload_n 2, []), (107, .ireturn, [0])], 108)]
def rL_feeds : xRow := ((yL_feeds, cL_feeds, 6, (some .int), 40, 200), bL_feeds, pL)
def bL_read : xBl := [
  (0, [0, 1], [(0, .aload_n 0, []), (1, .aload_n 1, []), (2, .invokestatic 24, [0, 114, 2, 0, 40, 200, 0]), (5, .ifCond .ge 8, [13]), (8, .bipush (-99), []), (10, .goto 11, [21])], 13),
  (13, [0, 1], [(13, .aload_n 0, []), (14, .aload_n 1, []), (15, .invokevirtual 8, [1, 118, 1, 0, 0, 0, 100]), (18, .invokevirtual 30, [5, 85, 2, 0, 1, 6, 9])], 21),
  (21, [], [(21, .ireturn, [0])], 22)]
def rL_read : xRow := ((yL_read, cL_read, 2, (some .int), 41, 206), bL_read, pL)
def bL_law : xBl := [
  (0, [0], [(0, .iconst 2, []), (1, .aload_n 0, []), (2, .iconst 0, []), (3, .invokestatic 42, [0, 112, 2, 0, 0, 0, 0]), (6, .iconst 3, []), (7, .invokestatic 46, [0, 113, 2, 0, 0, 0, 0]), (10, .iadd, []), (11, .istore_n 1, []), (12, .iconst 1, []), (13, .aload_n 0, []), (14, .iconst 0, []), (15, .invokestatic 42, [0, 112, 2, 0, 0, 0, 0]), (18, .iconst 4, []), (19, .ishr, []), (20, .bipush 99, []), (22, .invokestatic 46, [0, 113, 2, 0, 0, 0, 0]), (25, .iadd, []), (26, .istore_n 2, []), (27, .iconst 1, []), (28, .aload_n 0, []), (29, .iconst 0, []), (30, .invokestatic 42, [0, 112, 2, 0, 0, 0, 0]), (33, .bipush 12, []), (35, .ishr, []), (36, .bipush 9, []), (38, .invokestatic 46, [0, 113, 2, 0, 0, 0, 0]), (41, .iadd, []), (42, .istore_n 3, []), (43, .aload_n 0, []), (44, .iconst 0, []), (45, .invokestatic 42, [0, 112, 2, 0, 0, 0, 0]), (48, .bipush 16, []), (50, .ishr, []), (51, .bipush 10, []), (53, .invokestatic 46, [0, 113, 2, 0, 0, 0, 0]), (56, .istore 4, []), (58, .aload_n 0, []), (59, .iconst 1, []), (60, .invokestatic 42, [0, 112, 2, 0, 0, 0, 0]), (63, .iload_n 1, []), (64, .invokestatic 46, [0, 113, 2, 0, 0, 0, 0]), (67, .istore 5, []), (69, .aload_n 0, []), (70, .iconst 1, []), (71, .invokestatic 42, [0, 112, 2, 0, 0, 0, 0]), (74, .iconst 4, []), (75, .ishr, []), (76, .iconst 1, []), (77, .iload_n 1, []), (78, .ishl, []), (79, .invokestatic 46, [0, 113, 2, 0, 0, 0, 0]), (82, .istore 6, []), (84, .aload_n 0, []), (85, .iconst 1, []), (86, .invokestatic 42, [0, 112, 2, 0, 0, 0, 0]), (89, .bipush 12, []), (91, .ishr, []), (92, .istore 7, []), (94, .new 50, [0, 12, 4]), (97, .dup, []), (98, .new 50, [0, 12, 4]), (101, .dup, []), (102, .invokespecial 52, [2, 145, 1, 9, 1, 16, 13]), (105, .ldc 53, [2, 27]), (107, .invokevirtual 55, [1, 147, 2, 2, 1, 250, 13]), (110, .iload_n 1, []), (111, .invokevirtual 58, [1, 149, 2, 2, 1, 250, 13]), (114, .ldc 61, [2, 28]), (116, .invokevirtual 55, [1, 147, 2, 2, 1, 250, 13]), (119, .iload 5, []), (121, .invokevirtual 58, [1, 149, 2, 2, 1, 250, 13]), (124, .ldc 63, [2, 29]), (126, .invokevirtual 55, [1, 147, 2, 2, 1, 250, 13]), (129, .iload_n 2, []), (130, .invokevirtual 58, [1, 149, 2, 2, 1, 250, 13]), (133, .ldc 65, [2, 30]), (135, .invokevirtual 55, [1, 147, 2, 2, 1, 250, 13]), (138, .iload_n 3, []), (139, .invokevirtual 58, [1, 149, 2, 2, 1, 250, 13]), (142, .ldc 67, [2, 31]), (144, .invokevirtual 55, [1, 147, 2, 2, 1, 250, 13]), (147, .iload 4, []), (149, .invokevirtual 58, [1, 149, 2, 2, 1, 250, 13]), (152, .ldc 69, [2, 1]), (154, .invokevirtual 55, [1, 147, 2, 2, 1, 250, 13]), (157, .invokevirtual 71, [1, 150, 1, 2, 2, 124, 13]), (160, .invokespecial 75, [2, 146, 2, 9, 2, 310, 13]), (163, .astore 8, []), (165, .iconst 0, []), (166, .istore 9, [])], 168),
  (168, [0, 1, 2, 3, 4, 5, 6, 7, 8, 9], [(168, .iload 9, []), (170, .iload_n 1, []), (171, .if_icmp .ge 38, [209]), (174, .iload 6, []), (176, .iload 9, []), (178, .ishr, []), (179, .iconst 1, []), (180, .iand, []), (181, .iconst 1, []), (182, .if_icmp .ne 21, [203]), (185, .aload 8, []), (187, .ldc 78, [2, 32]), (189, .invokevirtual 55, [1, 147, 2, 2, 1, 250, 13]), (192, .iload 9, []), (194, .invokevirtual 58, [1, 149, 2, 2, 1, 250, 13]), (197, .bipush 59, []), (199, .invokevirtual 80, [1, 148, 2, 2, 1, 250, 13]), (202, .pop, [])], 203),
  (203, [0, 1, 2, 3, 4, 5, 6, 7, 8, 9], [(203, .iinc 9 1, []), (206, .goto (-38), [168])], 209),
  (209, [0, 1, 2, 3, 4, 5, 6, 7, 8], [(209, .iconst 0, []), (210, .istore 9, [])], 212),
  (212, [0, 1, 2, 3, 4, 5, 6, 7, 8, 9], [(212, .iload 9, []), (214, .iconst 3, []), (215, .if_icmp .ge 48, [263]), (218, .iload 7, []), (220, .iload 9, []), (222, .ishr, []), (223, .iconst 1, []), (224, .iand, []), (225, .iconst 1, []), (226, .if_icmp .ne 31, [257]), (229, .aload 8, []), (231, .ldc 83, [2, 33]), (233, .invokevirtual 55, [1, 147, 2, 2, 1, 250, 13]), (236, .iload 9, []), (238, .invokevirtual 58, [1, 149, 2, 2, 1, 250, 13]), (241, .bipush 32, []), (243, .invokevirtual 80, [1, 148, 2, 2, 1, 250, 13]), (246, .iload 9, []), (248, .invokevirtual 58, [1, 149, 2, 2, 1, 250, 13]), (251, .bipush 59, []), (253, .invokevirtual 80, [1, 148, 2, 2, 1, 250, 13]), (256, .pop, [])], 257),
  (257, [0, 1, 2, 3, 4, 5, 6, 7, 8, 9], [(257, .iinc 9 1, []), (260, .goto (-48), [212])], 263),
  (263, [0, 1, 2, 3, 4, 5, 6, 7, 8], [(263, .new 19, [0, 8, 7]), (266, .dup, []), (267, .invokespecial 85, [2, 83, 1, 9, 134, 8058, 9]), (270, .astore 9, []), (272, .aload 9, []), (274, .aload 8, []), (276, .invokevirtual 71, [1, 150, 1, 2, 2, 124, 13]), (279, .invokestatic 86, [0, 115, 2, 0, 41, 206, 0]), (282, .iload_n 1, []), (283, .if_icmp .eq 5, [288]), (286, .iconst 0, []), (287, .ireturn, [5])], 288),
  (288, [0, 1, 2, 3, 4, 5, 6, 7, 9], [(288, .new 89, [0, 10, 6]), (291, .dup, []), (292, .iload_n 1, []), (293, .iload_n 2, []), (294, .iload_n 3, []), (295, .iload 4, []), (297, .iload 5, []), (299, .invokespecial 91, [2, 105, 6, 9, 1, 3, 11]), (302, .astore 10, []), (304, .iload 5, []), (306, .istore 11, []), (308, .iconst 0, []), (309, .istore 12, [])], 311),
  (311, [0, 1, 4, 6, 7, 9, 10, 11, 12], [(311, .iload 12, []), (313, .iconst 3, []), (314, .if_icmp .ge 364, [678]), (317, .aload_n 0, []), (318, .iconst 2, []), (319, .iload 12, []), (321, .iadd, []), (322, .invokestatic 42, [0, 112, 2, 0, 0, 0, 0]), (325, .istore 13, []), (327, .iload 13, []), (329, .iload_n 1, []), (330, .invokestatic 46, [0, 113, 2, 0, 0, 0, 0]), (333, .istore 14, []), (335, .iload 14, []), (337, .iconst 1, []), (338, .iadd, []), (339, .iload 13, []), (341, .iconst 4, []), (342, .ishr, []), (343, .iload_n 1, []), (344, .iconst 1, []), (345, .isub, []), (346, .invokestatic 46, [0, 113, 2, 0, 0, 0, 0]), (349, .iadd, []), (350, .iload_n 1, []), (351, .irem, []), (352, .istore 15, []), (354, .iload 7, []), (356, .iload 12, []), (358, .ishr, []), (359, .iconst 1, []), (360, .iand, []), (361, .iconst 1, []), (362, .if_icmp .ne 7, [369]), (365, .iconst 1, []), (366, .goto 4, [370])], 369),
  (369, [0, 1, 4, 6, 7, 9, 10, 11, 12, 13, 14, 15], [(369, .iconst 0, [])], 370),
  (370, [0, 1, 4, 6, 7, 9, 10, 11, 12, 13, 14, 15], [(370, .istore 16, []), (372, .aload 9, []), (374, .iload 12, []), (376, .invokevirtual 94, [5, 89, 2, 0, 1, 6, 9]), (379, .iload 16, []), (381, .if_icmp .eq 5, [386]), (384, .iconst 0, []), (385, .ireturn, [5])], 386),
  (386, [0, 1, 4, 6, 7, 9, 10, 11, 12, 13, 14, 15, 16], [(386, .iload 13, []), (388, .bipush 8, []), (390, .ishr, []), (391, .iconst 5, []), (392, .invokestatic 46, [0, 113, 2, 0, 0, 0, 0]), (395, .istore 17, []), (397, .iload 17, []), (399, .iconst 3, []), (400, .if_icmp .ne 13, [413]), (403, .aload 9, []), (405, .iload 14, []), (407, .invokestatic 98, [10, 0, 2, 0, 2, 12, 0]), (410, .ifCond .lt 19, [429])], 413),
  (413, [0, 1, 4, 6, 7, 9, 10, 11, 12, 14, 15, 16, 17], [(413, .iload 17, []), (415, .iconst 4, []), (416, .if_icmp .ne 68, [484]), (419, .aload 9, []), (421, .iload 14, []), (423, .invokestatic 102, [10, 1, 2, 0, 2, 12, 0]), (426, .ifCond .ge 58, [484])], 429),
  (429, [0, 1, 4, 6, 7, 9, 10, 11, 12, 14, 15, 16, 17], [(429, .iload 16, []), (431, .ifCond .eq 29, [460]), (434, .iload 4, []), (436, .ifCond .le 24, [460]), (439, .iload 11, []), (441, .iload 17, []), (443, .iconst 3, []), (444, .if_icmp .ne 8, [452]), (447, .iload 14, []), (449, .goto 4, [453])], 452),
  (452, [0, 1, 4, 6, 7, 9, 10, 11, 12, 14, 15, 16], [(452, .iload_n 1, [])], 453),
  (453, [0, 1, 4, 6, 7, 9, 10, 11, 12, 14, 15, 16], [(453, .if_icmp .ne 7, [460]), (456, .iconst 1, []), (457, .goto 4, [461])], 460),
  (460, [0, 1, 4, 6, 7, 9, 10, 11, 12, 14, 15, 16], [(460, .iconst 0, [])], 461),
  (461, [0, 1, 4, 6, 7, 9, 10, 11, 12, 14, 15, 16], [(461, .istore 18, []), (463, .iload 18, []), (465, .ifCond .ne 14, [479]), (468, .aload 9, []), (470, .iconst 1, []), (471, .invokevirtual 105, [5, 86, 2, 0, 1, 6, 9]), (474, .iload 12, []), (476, .if_icmp .eq 5, [481])], 479),
  (479, [], [(479, .iconst 0, []), (480, .ireturn, [5])], 481),
  (481, [0, 1, 4, 6, 7, 9, 10, 11, 12, 14, 15, 16], [(481, .iconst 2, []), (482, .istore 17, [])], 484),
  (484, [0, 1, 4, 6, 7, 9, 10, 11, 12, 14, 15, 16, 17], [(484, .iload 17, []), (486, .ifCond .ne 17, [503]), (489, .aload 9, []), (491, .iload 14, []), (493, .iload 15, []), (495, .invokevirtual 108, [5, 90, 3, 0, 3, 18, 9]), (498, .iload 16, []), (500, .if_icmp .ne 39, [539])], 503),
  (503, [0, 1, 4, 6, 7, 9, 10, 11, 12, 14, 15, 16, 17], [(503, .iload 17, []), (505, .iconst 1, []), (506, .if_icmp .ne 17, [523]), (509, .aload 9, []), (511, .iload 14, []), (513, .iload 15, []), (515, .invokevirtual 112, [5, 91, 3, 0, 3, 18, 9]), (518, .iload 16, []), (520, .if_icmp .ne 19, [539])], 523),
  (523, [0, 1, 4, 6, 7, 9, 10, 11, 12, 14, 15, 16, 17], [(523, .iload 17, []), (525, .iconst 2, []), (526, .if_icmp .ne 15, [541]), (529, .aload 9, []), (531, .invokevirtual 115, [1, 92, 1, 0, 0, 0, 9]), (534, .iload 16, []), (536, .if_icmp .eq 5, [541])], 539),
  (539, [], [(539, .iconst 0, []), (540, .ireturn, [5])], 541),
  (541, [0, 1, 4, 6, 7, 9, 10, 11, 12, 14, 15, 16, 17], [(541, .iload 17, []), (543, .ifCond .ne 15, [558]), (546, .iload 6, []), (548, .iload 14, []), (550, .iload 15, []), (552, .invokestatic 119, [8, 107, 3, 0, 0, 0, 0]), (555, .goto 5, [560])], 558),
  (558, [0, 1, 4, 6, 7, 9, 10, 11, 12, 14, 15, 16, 17], [(558, .iload 6, [])], 560),
  (560, [0, 1, 4, 6, 7, 9, 10, 11, 12, 14, 15, 16, 17], [(560, .istore 18, []), (562, .aload 10, []), (564, .getfield 123, [10, 0, 2, 3]), (567, .new 127, [0, 9, 6]), (570, .dup, []), (571, .iload 17, []), (573, .iload 14, []), (575, .iload 15, []), (577, .iload 6, []), (579, .iload 18, []), (581, .iload 16, []), (583, .invokespecial 129, [2, 104, 7, 9, 0, 0, 10]), (586, .invokevirtual 132, [3, 159, 2, 0, 1, 10, 14]), (589, .pop, []), (590, .iload 18, []), (592, .istore 6, []), (594, .iload 17, []), (596, .ifCond .ne 15, [611]), (599, .iload 11, []), (601, .iload 14, []), (603, .iload 15, []), (605, .invokestatic 138, [8, 106, 3, 0, 0, 0, 0]), (608, .goto 26, [634])], 611),
  (611, [0, 1, 4, 6, 7, 9, 10, 11, 12, 14, 17], [(611, .iload 17, []), (613, .iconst 3, []), (614, .if_icmp .ne 7, [621]), (617, .iload_n 1, []), (618, .goto 16, [634])], 621),
  (621, [0, 1, 4, 6, 7, 9, 10, 11, 12, 14, 17], [(621, .iload 17, []), (623, .iconst 4, []), (624, .if_icmp .ne 8, [632]), (627, .iload 14, []), (629, .goto 5, [634])], 632),
  (632, [0, 1, 4, 6, 7, 9, 10, 11, 12], [(632, .iload 11, [])], 634),
  (634, [0, 1, 4, 6, 7, 9, 10, 12], [(634, .istore 11, []), (636, .aload 9, []), (638, .iconst 2, []), (639, .invokevirtual 105, [5, 86, 2, 0, 1, 6, 9]), (642, .iload 11, []), (644, .if_icmp .ne 26, [670]), (647, .aload 9, []), (649, .iconst 1, []), (650, .invokevirtual 105, [5, 86, 2, 0, 1, 6, 9]), (653, .iload 12, []), (655, .iconst 1, []), (656, .iadd, []), (657, .if_icmp .ne 13, [670]), (660, .aload 10, []), (662, .aload 9, []), (664, .invokevirtual 141, [1, 111, 2, 0, 3, 17, 11]), (667, .ifCond .ne 5, [672])], 670),
  (670, [], [(670, .iconst 0, []), (671, .ireturn, [5])], 672),
  (672, [0, 1, 4, 6, 7, 9, 10, 11, 12], [(672, .iinc 12 1, []), (675, .goto (-364), [311])], 678),
  (678, [0, 1, 9, 11], [(678, .aload_n 0, []), (679, .iconst 5, []), (680, .invokestatic 42, [0, 112, 2, 0, 0, 0, 0]), (683, .iload_n 1, []), (684, .invokestatic 46, [0, 113, 2, 0, 0, 0, 0]), (687, .istore 12, []), (689, .aload 9, []), (691, .iload 12, []), (693, .invokevirtual 145, [5, 95, 2, 0, 1, 6, 9]), (696, .istore 13, []), (698, .iload 13, []), (700, .iload 11, []), (702, .iload 12, []), (704, .if_icmp .ne 7, [711]), (707, .iconst 1, []), (708, .goto 4, [712])], 711),
  (711, [9, 11, 12, 13], [(711, .iconst 0, [])], 712),
  (712, [9, 11, 12, 13], [(712, .if_icmp .ne 57, [769]), (715, .iload 13, []), (717, .ifCond .eq 28, [745]), (720, .aload 9, []), (722, .bipush 10, []), (724, .invokevirtual 105, [5, 86, 2, 0, 1, 6, 9]), (727, .iconst 1, []), (728, .if_icmp .ne 41, [769]), (731, .aload 9, []), (733, .iload 12, []), (735, .invokevirtual 148, [5, 87, 2, 0, 1, 6, 9]), (738, .iconst 1, []), (739, .if_icmp .ne 30, [769]), (742, .goto 23, [765])], 745),
  (745, [9, 11, 12], [(745, .aload 9, []), (747, .iload 12, []), (749, .invokevirtual 148, [5, 87, 2, 0, 1, 6, 9]), (752, .ifCond .ne 17, [769]), (755, .aload 9, []), (757, .iload 11, []), (759, .invokevirtual 148, [5, 87, 2, 0, 1, 6, 9]), (762, .ifCond .le 7, [769])], 765),
  (765, [], [(765, .iconst 1, []), (766, .goto 4, [770])], 769),
  (769, [], [(769, .iconst 0, [])], 770),
  (770, [], [(770, .ireturn, [5])], 771)]
def rL_law : xRow := ((yL_law, cL_law, 19, (some .boolean), 3000, 60000), bL_law, pL)
end
section
/-! THE TABLE (J0, J1, J3, J4, J5, J6, J7, J8, J15, Jx4a65c, Jxc12de, Jxa1e45): blocks of the methods as the class file has them, written by wip/p31/gentab.py. -/
def pJ0 : xPool := [(6, 9, [78]), (2, 335, [1, 120, 1, 0, 0, 0, 100]), (2, 492, [1, 121, 1, 0, 0, 0, 100]), (2, 495, [0, 123, 2, 0, 0, 0, 0]), (1, 38, [2]), (6, 15, [79]), (1, 1053, [3]), (2, 1059, [0, 124, 3, 0, 0, 0, 0]), (2, 489, [2, 143, 3, 9, 1, 120, 12]), (2, 552, [6, 135, 1, 2, 0, 0, 13]), (2, 549, [9, 152, 1, 0, 0, 0, 13]), (2, 1047, [6, 132, 1, 0, 0, 0, 13]), (0, 15, [11, 1, 6, 2]), (2, 54, [0, 139, 3, 2, 1, 120, 0]), (0, 9, [11, 0, 2, 2])]
def bJ0_length_8abf5 : xBl := [
  (0, [0], [(0, .aload_n 0, []), (1, .getfield 9, [78]), (4, .arraylength, []), (5, .aload_n 0, []), (6, .invokevirtual 335, [1, 120, 1, 0, 0, 0, 100]), (9, .ishr, []), (10, .ireturn, [0])], 11)]
def rJ0_length_8abf5 : xRow := ((yJ0_length_8abf5, cJ0_length_8abf5, 1, (some .int), 0, 0), bJ0_length_8abf5, pJ0)
def bJ0_charAt_5068e : xBl := [
  (0, [0, 1], [(0, .aload_n 0, []), (1, .invokevirtual 492, [1, 121, 1, 0, 0, 0, 100]), (4, .ifCond .eq 12, [16]), (7, .aload_n 0, []), (8, .getfield 9, [78]), (11, .iload_n 1, []), (12, .invokestatic 495, [0, 123, 2, 0, 0, 0, 0]), (15, .ireturn, [7])], 16)]
def rJ0_charAt_5068e : xRow := ((yJ0_charAt_5068e, cJ0_charAt_5068e, 2, (some .char), 0, 0), bJ0_charAt_5068e, pJ0)
def bJ0_coder_7d493 : xBl := [
  (0, [0], [(0, .getstatic 38, [2]), (3, .ifCond .eq 10, [13]), (6, .aload_n 0, []), (7, .getfield 15, [79]), (10, .goto 4, [14])], 13),
  (14, [], [(14, .ireturn, [6])], 15)]
def rJ0_coder_7d493 : xRow := ((yJ0_coder_7d493, cJ0_coder_7d493, 1, (some .byte), 0, 0), bJ0_coder_7d493, pJ0)
def bJ0_isLatin1_aae02 : xBl := [
  (0, [0], [(0, .getstatic 38, [2]), (3, .ifCond .eq 14, [17]), (6, .aload_n 0, []), (7, .getfield 15, [79]), (10, .ifCond .ne 7, [17]), (13, .iconst 1, []), (14, .goto 4, [18])], 17),
  (18, [], [(18, .ireturn, [5])], 19)]
def rJ0_isLatin1_aae02 : xRow := ((yJ0_isLatin1_aae02, cJ0_isLatin1_aae02, 1, (some .boolean), 0, 0), bJ0_isLatin1_aae02, pJ0)
def bJ0_checkIndex_df160 : xBl := [
  (0, [0, 1], [(0, .iload_n 0, []), (1, .iload_n 1, []), (2, .getstatic 1053, [3]), (5, .invokestatic 1059, [0, 124, 3, 0, 0, 0, 0]), (8, .pop, []), (9, .return_, [])], 10)]
def rJ0_checkIndex_df160 : xRow := ((yJ0_checkIndex_df160, cJ0_checkIndex_df160, 2, none, 0, 0), bJ0_checkIndex_df160, pJ0)
def bJ0_init_81219 : xBl := [
  (0, [0, 1], [(0, .aload_n 0, []), (1, .aload_n 1, []), (2, .aconst_null, []), (3, .invokespecial 489, [2, 143, 3, 9, 1, 120, 12]), (6, .return_, [])], 7)]
def rJ0_init_81219 : xRow := ((yJ0_init_81219, cJ0_init_81219, 2, none, 1, 120), bJ0_init_81219, pJ0)
def bJ0_init_db425 : xBl := [
  (0, [0, 1], [(0, .aload_n 0, []), (1, .invokespecial 1, [0]), (4, .aload_n 1, []), (5, .invokevirtual 552, [6, 135, 1, 2, 0, 0, 13]), (8, .astore_n 3, []), (9, .aload_n 1, []), (10, .invokevirtual 549, [9, 152, 1, 0, 0, 0, 13]), (13, .istore 4, []), (15, .aload_n 1, []), (16, .invokevirtual 1047, [6, 132, 1, 0, 0, 0, 13]), (19, .ifCond .eq 22, [41]), (22, .aload_n 0, []), (23, .iconst 0, []), (24, .putfield 15, [11, 1, 6, 2]), (27, .aload_n 0, []), (28, .aload_n 3, []), (29, .iconst 0, []), (30, .iload 4, []), (32, .invokestatic 54, [0, 139, 3, 2, 1, 120, 0]), (35, .putfield 9, [11, 0, 2, 2]), (38, .goto 59, [97])], 41),
  (97, [], [(97, .return_, [])], 98)]
def rJ0_init_db425 : xRow := ((yJ0_init_db425, cJ0_init_db425, 5, none, 1, 120), bJ0_init_db425, pJ0)
def bJ0_getBytes_840e7 : xBl := [
  (0, [0, 1, 2, 3], [(0, .aload_n 0, []), (1, .invokevirtual 335, [1, 120, 1, 0, 0, 0, 100]), (4, .iload_n 3, []), (5, .if_icmp .ne 23, [28]), (8, .aload_n 0, []), (9, .getfield 9, [78]), (12, .iconst 0, []), (13, .aload_n 1, []), (14, .iload_n 2, []), (15, .iload_n 3, []), (16, .ishl, []), (17, .aload_n 0, []), (18, .getfield 9, [78]), (21, .arraylength, []), (22, .invokestatic 212, [0, 6]), (25, .goto 18, [43])], 28),
  (43, [], [(43, .return_, [])], 44)]
def rJ0_getBytes_840e7 : xRow := ((yJ0_getBytes_840e7, cJ0_getBytes_840e7, 4, none, 0, 0), bJ0_getBytes_840e7, pJ0)
def pJ1 : xPool := [(2, 9, [0, 122, 2, 9, 0, 0, 0])]
def bJ1_charAt_3b067 : xBl := [
  (0, [0, 1], [(0, .iload_n 1, []), (1, .aload_n 0, []), (2, .arraylength, []), (3, .invokestatic 9, [0, 122, 2, 9, 0, 0, 0]), (6, .aload_n 0, []), (7, .iload_n 1, []), (8, .baload, []), (9, .sipush 255, []), (12, .iand, []), (13, .i2c, []), (14, .ireturn, [7])], 15)]
def rJ1_charAt_3b067 : xRow := ((yJ1_charAt_3b067, cJ1_charAt_3b067, 2, (some .char), 0, 0), bJ1_charAt_3b067, pJ1)
def bJ1_canEncode_fc78d : xBl := [
  (0, [0], [(0, .iload_n 0, []), (1, .sipush 255, []), (4, .if_icmp .gt 7, [11]), (7, .iconst 1, []), (8, .goto 4, [12])], 11),
  (12, [], [(12, .ireturn, [5])], 13)]
def rJ1_canEncode_fc78d : xRow := ((yJ1_canEncode_fc78d, cJ1_canEncode_fc78d, 1, (some .boolean), 0, 0), bJ1_canEncode_fc78d, pJ1)
def pJ3 : xPool := []
def bJ3_checkIndex_8e157 : xBl := [
  (0, [0, 1], [(0, .iload_n 0, []), (1, .ifCond .lt 8, [9]), (4, .iload_n 0, []), (5, .iload_n 1, []), (6, .if_icmp .lt 10, [16])], 9),
  (16, [0], [(16, .iload_n 0, []), (17, .ireturn, [0])], 18)]
def rJ3_checkIndex_8e157 : xRow := ((yJ3_checkIndex_8e157, cJ3_checkIndex_8e157, 3, (some .int), 0, 0), bJ3_checkIndex_8e157, pJ3)
def pJ4 : xPool := [(2, 1, [2, 125, 2, 9, 1, 16, 13]), (2, 7, [2, 126, 2, 9, 2, 310, 13]), (2, 29, [7, 127, 2, 2, 1, 250, 13]), (2, 50, [7, 128, 2, 2, 1, 250, 13]), (2, 53, [7, 129, 2, 2, 1, 250, 13]), (3, 18, [0, 11, 4]), (2, 137, [2, 142, 2, 9, 1, 120, 12]), (2, 23, [1, 147, 2, 2, 1, 250, 13]), (2, 343, [7, 136, 1, 0, 0, 0, 13])]
def bJ4_init_da8c8 : xBl := [
  (0, [0], [(0, .aload_n 0, []), (1, .bipush 16, []), (3, .invokespecial 1, [2, 125, 2, 9, 1, 16, 13]), (6, .return_, [])], 7)]
def rJ4_init_da8c8 : xRow := ((yJ4_init_da8c8, cJ4_init_da8c8, 1, none, 1, 16), bJ4_init_da8c8, pJ4)
def bJ4_init_a7421 : xBl := [
  (0, [0, 1], [(0, .aload_n 0, []), (1, .aload_n 1, []), (2, .invokespecial 7, [2, 126, 2, 9, 2, 310, 13]), (5, .return_, [])], 6)]
def rJ4_init_a7421 : xRow := ((yJ4_init_a7421, cJ4_init_a7421, 2, none, 2, 310), bJ4_init_a7421, pJ4)
def bJ4_append_15ec4 : xBl := [
  (0, [0, 1], [(0, .aload_n 0, []), (1, .aload_n 1, []), (2, .invokespecial 29, [7, 127, 2, 2, 1, 250, 13]), (5, .pop, []), (6, .aload_n 0, []), (7, .areturn, [])], 8)]
def rJ4_append_15ec4 : xRow := ((yJ4_append_15ec4, cJ4_append_15ec4, 2, (some (.object "java/lang/StringBuilder")), 1, 250), bJ4_append_15ec4, pJ4)
def bJ4_append_cf468 : xBl := [
  (0, [0, 1], [(0, .aload_n 0, []), (1, .iload_n 1, []), (2, .invokespecial 50, [7, 128, 2, 2, 1, 250, 13]), (5, .pop, []), (6, .aload_n 0, []), (7, .areturn, [])], 8)]
def rJ4_append_cf468 : xRow := ((yJ4_append_cf468, cJ4_append_cf468, 2, (some (.object "java/lang/StringBuilder")), 1, 250), bJ4_append_cf468, pJ4)
def bJ4_append_bf812 : xBl := [
  (0, [0, 1], [(0, .aload_n 0, []), (1, .iload_n 1, []), (2, .invokespecial 53, [7, 129, 2, 2, 1, 250, 13]), (5, .pop, []), (6, .aload_n 0, []), (7, .areturn, [])], 8)]
def rJ4_append_bf812 : xRow := ((yJ4_append_bf812, cJ4_append_bf812, 2, (some (.object "java/lang/StringBuilder")), 1, 250), bJ4_append_bf812, pJ4)
def bJ4_toString_0e30d : xBl := [
  (0, [0], [(0, .new 18, [0, 11, 4]), (3, .dup, []), (4, .aload_n 0, []), (5, .invokespecial 137, [2, 142, 2, 9, 1, 120, 12]), (8, .areturn, [])], 9)]
def rJ4_toString_0e30d : xRow := ((yJ4_toString_0e30d, cJ4_toString_0e30d, 1, (some (.object "java/lang/String")), 2, 124), bJ4_toString_0e30d, pJ4)
def bJ4_append_cf1ce : xBl := [
  (0, [0, 1], [(0, .aload_n 0, []), (1, .aload_n 1, []), (2, .invokevirtual 23, [1, 147, 2, 2, 1, 250, 13]), (5, .areturn, [])], 6)]
def rJ4_append_cf1ce : xRow := ((yJ4_append_cf1ce, cJ4_append_cf1ce, 2, (some (.object "java/lang/AbstractStringBuilder")), 1, 250), bJ4_append_cf1ce, pJ4)
def bJ4_length_8abf5 : xBl := [
  (0, [0], [(0, .aload_n 0, []), (1, .invokespecial 343, [7, 136, 1, 0, 0, 0, 13]), (4, .ireturn, [0])], 5)]
def rJ4_length_8abf5 : xRow := ((yJ4_length_8abf5, cJ4_length_8abf5, 1, (some .int), 0, 0), bJ4_length_8abf5, pJ4)
def pJ5 : xPool := [(1, 18, [2]), (0, 15, [12, 0, 2, 0]), (0, 22, [12, 1, 6, 0]), (2, 32, [1, 118, 1, 0, 0, 0, 100]), (2, 40, [1, 120, 1, 0, 0, 0, 100]), (2, 43, [9, 151, 2, 2, 1, 250, 13]), (0, 79, [12, 3, 0, 0]), (2, 100, [6, 130, 2, 9, 1, 250, 13]), (2, 208, [6, 134, 3, 9, 0, 0, 13]), (2, 83, [6, 132, 1, 0, 0, 0, 13]), (2, 191, [0, 153, 1, 0, 0, 0, 0]), (2, 245, [0, 154, 1, 0, 0, 0, 0]), (2, 248, [0, 155, 3, 0, 0, 0, 0]), (2, 104, [6, 131, 2, 0, 0, 0, 13]), (2, 108, [0, 138, 2, 2, 1, 250, 0]), (2, 114, [0, 137, 3, 0, 0, 0, 0]), (2, 397, [6, 133, 2, 9, 0, 0, 13]), (2, 399, [1, 144, 4, 9, 0, 0, 100])]
def bJ5_init_d00df : xBl := [
  (0, [0, 1], [(0, .aload_n 0, []), (1, .invokespecial 3, [0]), (4, .getstatic 18, [2]), (7, .ifCond .eq 18, [25]), (10, .aload_n 0, []), (11, .iload_n 1, []), (12, .newarray .byte, [1]), (14, .putfield 15, [12, 0, 2, 0]), (17, .aload_n 0, []), (18, .iconst 0, []), (19, .putfield 22, [12, 1, 6, 0]), (22, .goto 16, [38])], 25),
  (38, [], [(38, .return_, [])], 39)]
def rJ5_init_d00df : xRow := ((yJ5_init_d00df, cJ5_init_d00df, 2, none, 1, 16), bJ5_init_d00df, pJ5)
def bJ5_init_a7421 : xBl := [
  (0, [0, 1], [(0, .aload_n 0, []), (1, .invokespecial 3, [0]), (4, .aload_n 1, []), (5, .invokevirtual 32, [1, 118, 1, 0, 0, 0, 100]), (8, .istore_n 2, []), (9, .iload_n 2, []), (10, .ldc 38, [0, 2147483631]), (12, .if_icmp .ge 10, [22]), (15, .iload_n 2, []), (16, .bipush 16, []), (18, .iadd, []), (19, .goto 5, [24])], 22),
  (24, [0, 1], [(24, .istore_n 3, []), (25, .aload_n 1, []), (26, .invokevirtual 40, [1, 120, 1, 0, 0, 0, 100]), (29, .istore 4, []), (31, .aload_n 0, []), (32, .iload 4, []), (34, .putfield 22, [12, 1, 6, 0]), (37, .aload_n 0, []), (38, .iload 4, []), (40, .ifCond .ne 9, [49]), (43, .iload_n 3, []), (44, .newarray .byte, [1]), (46, .goto 7, [53])], 49),
  (53, [0, 1], [(53, .putfield 15, [12, 0, 2, 0]), (56, .aload_n 0, []), (57, .aload_n 1, []), (58, .invokevirtual 43, [9, 151, 2, 2, 1, 250, 13]), (61, .pop, []), (62, .return_, [])], 63)]
def rJ5_init_a7421 : xRow := ((yJ5_init_a7421, cJ5_init_a7421, 5, none, 2, 310), bJ5_init_a7421, pJ5)
def bJ5_append_cf1ce : xBl := [
  (0, [0, 1], [(0, .aload_n 1, []), (1, .ifnonnull 8, [9])], 4),
  (9, [0, 1], [(9, .aload_n 1, []), (10, .invokevirtual 32, [1, 118, 1, 0, 0, 0, 100]), (13, .istore_n 2, []), (14, .aload_n 0, []), (15, .aload_n 0, []), (16, .getfield 79, [12, 3, 0, 0]), (19, .iload_n 2, []), (20, .iadd, []), (21, .invokevirtual 100, [6, 130, 2, 9, 1, 250, 13]), (24, .aload_n 0, []), (25, .aload_n 0, []), (26, .getfield 79, [12, 3, 0, 0]), (29, .aload_n 1, []), (30, .invokevirtual 208, [6, 134, 3, 9, 0, 0, 13]), (33, .aload_n 0, []), (34, .dup, []), (35, .getfield 79, [12, 3, 0, 0]), (38, .iload_n 2, []), (39, .iadd, []), (40, .putfield 79, [12, 3, 0, 0]), (43, .aload_n 0, []), (44, .areturn, [])], 45)]
def rJ5_append_cf1ce : xRow := ((yJ5_append_cf1ce, cJ5_append_cf1ce, 3, (some (.object "java/lang/AbstractStringBuilder")), 1, 250), bJ5_append_cf1ce, pJ5)
def bJ5_append_3fe6f : xBl := [
  (0, [0, 1], [(0, .aload_n 0, []), (1, .aload_n 0, []), (2, .getfield 79, [12, 3, 0, 0]), (5, .iconst 1, []), (6, .iadd, []), (7, .invokevirtual 100, [6, 130, 2, 9, 1, 250, 13]), (10, .aload_n 0, []), (11, .invokevirtual 83, [6, 132, 1, 0, 0, 0, 13]), (14, .ifCond .eq 31, [45]), (17, .iload_n 1, []), (18, .invokestatic 191, [0, 153, 1, 0, 0, 0, 0]), (21, .ifCond .eq 24, [45]), (24, .aload_n 0, []), (25, .getfield 15, [12, 0, 2, 0]), (28, .aload_n 0, []), (29, .dup, []), (30, .getfield 79, [12, 3, 0, 0]), (33, .dup_x1, []), (34, .iconst 1, []), (35, .iadd, []), (36, .putfield 79, [12, 3, 0, 0]), (39, .iload_n 1, []), (40, .i2b, []), (41, .bastore, []), (42, .goto 33, [75])], 45),
  (75, [0], [(75, .aload_n 0, []), (76, .areturn, [])], 77)]
def rJ5_append_3fe6f : xRow := ((yJ5_append_3fe6f, cJ5_append_3fe6f, 2, (some (.object "java/lang/AbstractStringBuilder")), 1, 250), bJ5_append_3fe6f, pJ5)
def bJ5_append_c97b9 : xBl := [
  (0, [0, 1], [(0, .aload_n 0, []), (1, .getfield 79, [12, 3, 0, 0]), (4, .istore_n 2, []), (5, .iload_n 2, []), (6, .iload_n 1, []), (7, .invokestatic 245, [0, 154, 1, 0, 0, 0, 0]), (10, .iadd, []), (11, .istore_n 3, []), (12, .aload_n 0, []), (13, .iload_n 3, []), (14, .invokevirtual 100, [6, 130, 2, 9, 1, 250, 13]), (17, .aload_n 0, []), (18, .invokevirtual 83, [6, 132, 1, 0, 0, 0, 13]), (21, .ifCond .eq 16, [37]), (24, .iload_n 1, []), (25, .iload_n 3, []), (26, .aload_n 0, []), (27, .getfield 15, [12, 0, 2, 0]), (30, .invokestatic 248, [0, 155, 3, 0, 0, 0, 0]), (33, .pop, []), (34, .goto 14, [48])], 37),
  (48, [0, 3], [(48, .aload_n 0, []), (49, .iload_n 3, []), (50, .putfield 79, [12, 3, 0, 0]), (53, .aload_n 0, []), (54, .areturn, [])], 55)]
def rJ5_append_c97b9 : xRow := ((yJ5_append_c97b9, cJ5_append_c97b9, 4, (some (.object "java/lang/AbstractStringBuilder")), 1, 250), bJ5_append_c97b9, pJ5)
def bJ5_ensureCapacityInternal_d00df : xBl := [
  (0, [0, 1], [(0, .aload_n 0, []), (1, .getfield 15, [12, 0, 2, 0]), (4, .arraylength, []), (5, .aload_n 0, []), (6, .getfield 22, [12, 1, 6, 0]), (9, .ishr, []), (10, .istore_n 2, []), (11, .iload_n 1, []), (12, .iload_n 2, []), (13, .isub, []), (14, .ifCond .le 24, [38]), (17, .aload_n 0, []), (18, .aload_n 0, []), (19, .getfield 15, [12, 0, 2, 0]), (22, .aload_n 0, []), (23, .iload_n 1, []), (24, .invokevirtual 104, [6, 131, 2, 0, 0, 0, 13]), (27, .aload_n 0, []), (28, .getfield 22, [12, 1, 6, 0]), (31, .ishl, []), (32, .invokestatic 108, [0, 138, 2, 2, 1, 250, 0]), (35, .putfield 15, [12, 0, 2, 0])], 38),
  (38, [], [(38, .return_, [])], 39)]
def rJ5_ensureCapacityInternal_d00df : xRow := ((yJ5_ensureCapacityInternal_d00df, cJ5_ensureCapacityInternal_d00df, 3, none, 1, 250), bJ5_ensureCapacityInternal_d00df, pJ5)
def bJ5_newCapacity_0f7a4 : xBl := [
  (0, [0, 1], [(0, .aload_n 0, []), (1, .getfield 15, [12, 0, 2, 0]), (4, .arraylength, []), (5, .istore_n 2, []), (6, .iload_n 1, []), (7, .aload_n 0, []), (8, .getfield 22, [12, 1, 6, 0]), (11, .ishl, []), (12, .istore_n 3, []), (13, .iload_n 3, []), (14, .iload_n 2, []), (15, .isub, []), (16, .istore 4, []), (18, .iload_n 2, []), (19, .iload 4, []), (21, .iload_n 2, []), (22, .iconst 2, []), (23, .aload_n 0, []), (24, .getfield 22, [12, 1, 6, 0]), (27, .ishl, []), (28, .iadd, []), (29, .invokestatic 114, [0, 137, 3, 0, 0, 0, 0]), (32, .istore 5, []), (34, .iload 5, []), (36, .ldc 39, [0, 2147483647]), (38, .if_icmp .ne 13, [51])], 41),
  (51, [0, 5], [(51, .iload 5, []), (53, .aload_n 0, []), (54, .getfield 22, [12, 1, 6, 0]), (57, .ishr, []), (58, .ireturn, [0])], 59)]
def rJ5_newCapacity_0f7a4 : xRow := ((yJ5_newCapacity_0f7a4, cJ5_newCapacity_0f7a4, 6, (some .int), 0, 0), bJ5_newCapacity_0f7a4, pJ5)
def bJ5_isLatin1_aae02 : xBl := [
  (0, [0], [(0, .getstatic 18, [2]), (3, .ifCond .eq 14, [17]), (6, .aload_n 0, []), (7, .getfield 22, [12, 1, 6, 0]), (10, .ifCond .ne 7, [17]), (13, .iconst 1, []), (14, .goto 4, [18])], 17),
  (18, [], [(18, .ireturn, [5])], 19)]
def rJ5_isLatin1_aae02 : xRow := ((yJ5_isLatin1_aae02, cJ5_isLatin1_aae02, 1, (some .boolean), 0, 0), bJ5_isLatin1_aae02, pJ5)
def bJ5_inflateIfNeededFor_a7421 : xBl := [
  (0, [0, 1], [(0, .getstatic 18, [2]), (3, .ifCond .eq 18, [21]), (6, .aload_n 0, []), (7, .getfield 22, [12, 1, 6, 0]), (10, .aload_n 1, []), (11, .invokevirtual 40, [1, 120, 1, 0, 0, 0, 100]), (14, .if_icmp .eq 7, [21])], 17),
  (21, [], [(21, .return_, [])], 22)]
def rJ5_inflateIfNeededFor_a7421 : xRow := ((yJ5_inflateIfNeededFor_a7421, cJ5_inflateIfNeededFor_a7421, 2, none, 0, 0), bJ5_inflateIfNeededFor_a7421, pJ5)
def bJ5_putStringAt_47b60 : xBl := [
  (0, [0, 1, 2], [(0, .aload_n 0, []), (1, .aload_n 2, []), (2, .invokevirtual 397, [6, 133, 2, 9, 0, 0, 13]), (5, .aload_n 2, []), (6, .aload_n 0, []), (7, .getfield 15, [12, 0, 2, 0]), (10, .iload_n 1, []), (11, .aload_n 0, []), (12, .getfield 22, [12, 1, 6, 0]), (15, .invokevirtual 399, [1, 144, 4, 9, 0, 0, 100]), (18, .return_, [])], 19)]
def rJ5_putStringAt_47b60 : xRow := ((yJ5_putStringAt_47b60, cJ5_putStringAt_47b60, 3, none, 0, 0), bJ5_putStringAt_47b60, pJ5)
def bJ5_getValue_6d5f1 : xBl := [
  (0, [0], [(0, .aload_n 0, []), (1, .getfield 15, [12, 0, 2, 0]), (4, .areturn, [])], 5)]
def rJ5_getValue_6d5f1 : xRow := ((yJ5_getValue_6d5f1, cJ5_getValue_6d5f1, 1, (some (.array .byte)), 0, 0), bJ5_getValue_6d5f1, pJ5)
def bJ5_length_8abf5 : xBl := [
  (0, [0], [(0, .aload_n 0, []), (1, .getfield 79, [12, 3, 0, 0]), (4, .ireturn, [0])], 5)]
def rJ5_length_8abf5 : xRow := ((yJ5_length_8abf5, cJ5_length_8abf5, 1, (some .int), 0, 0), bJ5_length_8abf5, pJ5)
def pJ6 : xPool := [(1, 83, [4]), (1, 87, [5])]
def bJ6_stringSize_0f7a4 : xBl := [
  (0, [0], [(0, .iconst 1, []), (1, .istore_n 1, []), (2, .iload_n 0, []), (3, .ifCond .lt 8, [11]), (6, .iconst 0, []), (7, .istore_n 1, []), (8, .iload_n 0, []), (9, .ineg, []), (10, .istore_n 0, [])], 11),
  (11, [0, 1], [(11, .bipush (-10), []), (13, .istore_n 2, []), (14, .iconst 1, []), (15, .istore_n 3, [])], 16),
  (16, [0, 1, 2, 3], [(16, .iload_n 3, []), (17, .bipush 10, []), (19, .if_icmp .ge 23, [42]), (22, .iload_n 0, []), (23, .iload_n 2, []), (24, .if_icmp .le 7, [31]), (27, .iload_n 3, []), (28, .iload_n 1, []), (29, .iadd, []), (30, .ireturn, [0])], 31),
  (31, [0, 1, 2, 3], [(31, .bipush 10, []), (33, .iload_n 2, []), (34, .imul, []), (35, .istore_n 2, []), (36, .iinc 3 1, []), (39, .goto (-23), [16])], 42)]
def rJ6_stringSize_0f7a4 : xRow := ((yJ6_stringSize_0f7a4, cJ6_stringSize_0f7a4, 4, (some .int), 0, 0), bJ6_stringSize_0f7a4, pJ6)
def bJ6_getChars_ba4f3 : xBl := [
  (0, [0, 1, 2], [(0, .iload_n 1, []), (1, .istore 5, []), (3, .iload_n 0, []), (4, .ifCond .ge 7, [11]), (7, .iconst 1, []), (8, .goto 4, [12])], 11),
  (11, [0, 2, 5], [(11, .iconst 0, [])], 12),
  (12, [0, 2, 5], [(12, .istore 6, []), (14, .iload 6, []), (16, .ifCond .ne 6, [22]), (19, .iload_n 0, []), (20, .ineg, []), (21, .istore_n 0, [])], 22),
  (22, [0, 2, 5, 6], [(22, .iload_n 0, []), (23, .bipush (-100), []), (25, .if_icmp .gt 47, [72])], 28),
  (72, [0, 2, 5, 6], [(72, .aload_n 2, []), (73, .iinc 5 (-1), []), (76, .iload 5, []), (78, .getstatic 83, [4]), (81, .iload_n 0, []), (82, .ineg, []), (83, .baload, []), (84, .bastore, []), (85, .iload_n 0, []), (86, .bipush (-9), []), (88, .if_icmp .ge 16, [104]), (91, .aload_n 2, []), (92, .iinc 5 (-1), []), (95, .iload 5, []), (97, .getstatic 87, [5]), (100, .iload_n 0, []), (101, .ineg, []), (102, .baload, []), (103, .bastore, [])], 104),
  (104, [5, 6], [(104, .iload 6, []), (106, .ifCond .eq 12, [118])], 109),
  (118, [5], [(118, .iload 5, []), (120, .ireturn, [0])], 121)]
def rJ6_getChars_ba4f3 : xRow := ((yJ6_getChars_ba4f3, cJ6_getChars_ba4f3, 7, (some .int), 0, 0), bJ6_getChars_ba4f3, pJ6)
def pJ7 : xPool := [(2, 339, [0, 140, 3, 2, 1, 120, 0]), (2, 343, [0, 141, 2, 9, 0, 0, 0])]
def bJ7_fill_53178 : xBl := [
  (0, [0, 1], [(0, .iconst 0, []), (1, .istore_n 2, []), (2, .aload_n 0, []), (3, .arraylength, []), (4, .istore_n 3, [])], 5),
  (5, [0, 1, 2, 3], [(5, .iload_n 2, []), (6, .iload_n 3, []), (7, .if_icmp .ge 13, [20]), (10, .aload_n 0, []), (11, .iload_n 2, []), (12, .iload_n 1, []), (13, .iastore, []), (14, .iinc 2 1, []), (17, .goto (-12), [5])], 20),
  (20, [], [(20, .return_, [])], 21)]
def rJ7_fill_53178 : xRow := ((yJ7_fill_53178, cJ7_fill_53178, 4, none, 0, 0), bJ7_fill_53178, pJ7)
def bJ7_copyOf_9075b : xBl := [
  (0, [0, 1], [(0, .iload_n 1, []), (1, .aload_n 0, []), (2, .arraylength, []), (3, .if_icmp .ne 11, [14])], 6),
  (14, [0, 1], [(14, .iload_n 1, []), (15, .newarray .byte, [1]), (17, .astore_n 2, []), (18, .aload_n 0, []), (19, .iconst 0, []), (20, .aload_n 2, []), (21, .iconst 0, []), (22, .aload_n 0, []), (23, .arraylength, []), (24, .iload_n 1, []), (25, .invokestatic 304, [0, 1]), (28, .invokestatic 150, [0, 6]), (31, .aload_n 2, []), (32, .areturn, [])], 33)]
def rJ7_copyOf_9075b : xRow := ((yJ7_copyOf_9075b, cJ7_copyOf_9075b, 3, (some (.array .byte)), 1, 250), bJ7_copyOf_9075b, pJ7)
def bJ7_copyOfRange_39247 : xBl := [
  (0, [0, 1, 2], [(0, .iload_n 1, []), (1, .ifCond .ne 9, [10]), (4, .iload_n 2, []), (5, .aload_n 0, []), (6, .arraylength, []), (7, .if_icmp .eq 10, [17])], 10),
  (10, [0, 1, 2], [(10, .aload_n 0, []), (11, .iload_n 1, []), (12, .iload_n 2, []), (13, .invokestatic 339, [0, 140, 3, 2, 1, 120, 0]), (16, .areturn, [])], 17)]
def rJ7_copyOfRange_39247 : xRow := ((yJ7_copyOfRange_39247, cJ7_copyOfRange_39247, 3, (some (.array .byte)), 1, 120), bJ7_copyOfRange_39247, pJ7)
def bJ7_copyOfRangeByte_39247 : xBl := [
  (0, [0, 1, 2], [(0, .iload_n 1, []), (1, .iload_n 2, []), (2, .invokestatic 343, [0, 141, 2, 9, 0, 0, 0]), (5, .iload_n 2, []), (6, .iload_n 1, []), (7, .isub, []), (8, .istore_n 3, []), (9, .iload_n 3, []), (10, .newarray .byte, [1]), (12, .astore 4, []), (14, .aload_n 0, []), (15, .iload_n 1, []), (16, .aload 4, []), (18, .iconst 0, []), (19, .aload_n 0, []), (20, .arraylength, []), (21, .iload_n 1, []), (22, .isub, []), (23, .iload_n 3, []), (24, .invokestatic 304, [0, 1]), (27, .invokestatic 150, [0, 6]), (30, .aload 4, []), (32, .areturn, [])], 33)]
def rJ7_copyOfRangeByte_39247 : xRow := ((yJ7_copyOfRangeByte_39247, cJ7_copyOfRangeByte_39247, 5, (some (.array .byte)), 1, 120), bJ7_copyOfRangeByte_39247, pJ7)
def bJ7_checkLength_df160 : xBl := [
  (0, [0, 1], [(0, .iload_n 1, []), (1, .iload_n 0, []), (2, .if_icmp .ge 35, [37])], 5),
  (37, [], [(37, .return_, [])], 38)]
def rJ7_checkLength_df160 : xRow := ((yJ7_checkLength_df160, cJ7_checkLength_df160, 2, none, 0, 0), bJ7_checkLength_df160, pJ7)
def pJ8 : xPool := []
def bJ8_newLength_cabcc : xBl := [
  (0, [0, 1, 2], [(0, .iload_n 0, []), (1, .iload_n 1, []), (2, .iload_n 2, []), (3, .invokestatic 194, [0, 0]), (6, .iadd, []), (7, .istore_n 3, []), (8, .iconst 0, []), (9, .iload_n 3, []), (10, .if_icmp .ge 11, [21]), (13, .iload_n 3, []), (14, .ldc 200, [0, 2147483639]), (16, .if_icmp .gt 5, [21]), (19, .iload_n 3, []), (20, .ireturn, [0])], 21)]
def rJ8_newLength_cabcc : xRow := ((yJ8_newLength_cabcc, cJ8_newLength_cabcc, 4, (some .int), 0, 0), bJ8_newLength_cabcc, pJ8)
def pJ15 : xPool := [(2, 105, [0, 124, 3, 0, 0, 0, 0])]
def bJ15_checkIndex_7cf53 : xBl := [
  (0, [0, 1], [(0, .iload_n 0, []), (1, .iload_n 1, []), (2, .aconst_null, []), (3, .invokestatic 105, [0, 124, 3, 0, 0, 0, 0]), (6, .ireturn, [0])], 7)]
def rJ15_checkIndex_7cf53 : xRow := ((yJ15_checkIndex_7cf53, cJ15_checkIndex_7cf53, 2, (some .int), 0, 0), bJ15_checkIndex_7cf53, pJ15)
def pJx4a65c : xPool := [(2, 1, [2, 157, 1, 9, 0, 0, 14]), (1, 39, [6]), (0, 9, [13, 1, 2, 0]), (0, 63, [13, 0, 0, 4]), (0, 48, [13, 2, 0, 0]), (2, 131, [1, 160, 4, 9, 1, 10, 14]), (2, 129, [1, 161, 1, 2, 1, 10, 14]), (2, 69, [1, 162, 2, 2, 1, 10, 14]), (4, 7, [6]), (2, 118, [0, 166, 2, 0, 0, 0, 0]), (2, 123, [1, 164, 2, 2, 0, 0, 14])]
def bJx4a65c_init_da8c8 : xBl := [
  (0, [0], [(0, .aload_n 0, []), (1, .invokespecial 1, [2, 157, 1, 9, 0, 0, 14]), (4, .aload_n 0, []), (5, .getstatic 39, [6]), (8, .putfield 9, [13, 1, 2, 0]), (11, .return_, [])], 12)]
def rJx4a65c_init_da8c8 : xRow := ((yJx4a65c_init_da8c8, cJx4a65c_init_da8c8, 1, none, 0, 0), bJx4a65c_init_da8c8, pJx4a65c)
def bJx4a65c_add_9ea2d : xBl := [
  (0, [0, 1], [(0, .aload_n 0, []), (1, .dup, []), (2, .getfield 63, [13, 0, 0, 4]), (5, .iconst 1, []), (6, .iadd, []), (7, .putfield 63, [13, 0, 0, 4]), (10, .aload_n 0, []), (11, .aload_n 1, []), (12, .aload_n 0, []), (13, .getfield 9, [13, 1, 2, 0]), (16, .aload_n 0, []), (17, .getfield 48, [13, 2, 0, 0]), (20, .invokevirtual 131, [1, 160, 4, 9, 1, 10, 14]), (23, .iconst 1, []), (24, .ireturn, [5])], 25)]
def rJx4a65c_add_9ea2d : xRow := ((yJx4a65c_add_9ea2d, cJx4a65c_add_9ea2d, 2, (some .boolean), 1, 10), bJx4a65c_add_9ea2d, pJx4a65c)
def bJx4a65c_add_72be8 : xBl := [
  (0, [0, 1, 2, 3], [(0, .iload_n 3, []), (1, .aload_n 2, []), (2, .arraylength, []), (3, .if_icmp .ne 8, [11]), (6, .aload_n 0, []), (7, .invokevirtual 129, [1, 161, 1, 2, 1, 10, 14]), (10, .astore_n 2, [])], 11),
  (11, [0, 1, 2, 3], [(11, .aload_n 2, []), (12, .iload_n 3, []), (13, .aload_n 1, []), (14, .aastore, []), (15, .aload_n 0, []), (16, .iload_n 3, []), (17, .iconst 1, []), (18, .iadd, []), (19, .putfield 48, [13, 2, 0, 0]), (22, .return_, [])], 23)]
def rJx4a65c_add_72be8 : xRow := ((yJx4a65c_add_72be8, cJx4a65c_add_72be8, 4, none, 1, 10), bJx4a65c_add_72be8, pJx4a65c)
def bJx4a65c_grow_d5877 : xBl := [
  (0, [0], [(0, .aload_n 0, []), (1, .aload_n 0, []), (2, .getfield 48, [13, 2, 0, 0]), (5, .iconst 1, []), (6, .iadd, []), (7, .invokevirtual 69, [1, 162, 2, 2, 1, 10, 14]), (10, .areturn, [])], 11)]
def rJx4a65c_grow_d5877 : xRow := ((yJx4a65c_grow_d5877, cJx4a65c_grow_d5877, 1, (some (.array (.object "java/lang/Object"))), 1, 10), bJx4a65c_grow_d5877, pJx4a65c)
def bJx4a65c_grow_92f84 : xBl := [
  (0, [0, 1], [(0, .aload_n 0, []), (1, .getfield 9, [13, 1, 2, 0]), (4, .arraylength, []), (5, .istore_n 2, []), (6, .iload_n 2, []), (7, .ifCond .gt 13, [20]), (10, .aload_n 0, []), (11, .getfield 9, [13, 1, 2, 0]), (14, .getstatic 39, [6]), (17, .if_acmp .eq 28, [45])], 20),
  (45, [0, 1], [(45, .aload_n 0, []), (46, .bipush 10, []), (48, .iload_n 1, []), (49, .invokestatic 79, [0, 0]), (52, .anewarray 7, [6]), (55, .dup_x1, []), (56, .putfield 9, [13, 1, 2, 0]), (59, .areturn, [])], 60)]
def rJx4a65c_grow_92f84 : xRow := ((yJx4a65c_grow_92f84, cJx4a65c_grow_92f84, 4, (some (.array (.object "java/lang/Object"))), 1, 10), bJx4a65c_grow_92f84, pJx4a65c)
def bJx4a65c_get_915e3 : xBl := [
  (0, [0, 1], [(0, .iload_n 1, []), (1, .aload_n 0, []), (2, .getfield 48, [13, 2, 0, 0]), (5, .invokestatic 118, [0, 166, 2, 0, 0, 0, 0]), (8, .pop, []), (9, .aload_n 0, []), (10, .iload_n 1, []), (11, .invokevirtual 123, [1, 164, 2, 2, 0, 0, 14]), (14, .areturn, [])], 15)]
def rJx4a65c_get_915e3 : xRow := ((yJx4a65c_get_915e3, cJx4a65c_get_915e3, 2, (some (.object "java/lang/Object")), 0, 0), bJx4a65c_get_915e3, pJx4a65c)
def bJx4a65c_elementData_915e3 : xBl := [
  (0, [0, 1], [(0, .aload_n 0, []), (1, .getfield 9, [13, 1, 2, 0]), (4, .iload_n 1, []), (5, .aaload, []), (6, .areturn, [])], 7)]
def rJx4a65c_elementData_915e3 : xRow := ((yJx4a65c_elementData_915e3, cJx4a65c_elementData_915e3, 2, (some (.object "java/lang/Object")), 0, 0), bJx4a65c_elementData_915e3, pJx4a65c)
def bJx4a65c_size_8abf5 : xBl := [
  (0, [0], [(0, .aload_n 0, []), (1, .getfield 48, [13, 2, 0, 0]), (4, .ireturn, [0])], 5)]
def rJx4a65c_size_8abf5 : xRow := ((yJx4a65c_size_8abf5, cJx4a65c_size_8abf5, 1, (some .int), 0, 0), bJx4a65c_size_8abf5, pJx4a65c)
def pJxc12de : xPool := [(2, 1, [2, 158, 1, 9, 0, 0, 14]), (0, 7, [13, 0, 0, 0])]
def bJxc12de_init_da8c8 : xBl := [
  (0, [0], [(0, .aload_n 0, []), (1, .invokespecial 1, [2, 158, 1, 9, 0, 0, 14]), (4, .aload_n 0, []), (5, .iconst 0, []), (6, .putfield 7, [13, 0, 0, 0]), (9, .return_, [])], 10)]
def rJxc12de_init_da8c8 : xRow := ((yJxc12de_init_da8c8, cJxc12de_init_da8c8, 1, none, 0, 0), bJxc12de_init_da8c8, pJxc12de)
def pJxa1e45 : xPool := []
def bJxa1e45_init_da8c8 : xBl := [
  (0, [0], [(0, .aload_n 0, []), (1, .invokespecial 1, [0]), (4, .return_, [])], 5)]
def rJxa1e45_init_da8c8 : xRow := ((yJxa1e45_init_da8c8, cJxa1e45_init_da8c8, 1, none, 0, 0), bJxa1e45_init_da8c8, pJxa1e45)
def xlds : xLds := [(RL, 53, "shells ", 27), (RL, 61, ";ball ", 28), (RL, 63, ";trust ", 29), (RL, 65, ";calm ", 30), (RL, 67, ";sly ", 31), (RL, 69, ";", 1), (RL, 78, "scratch ", 32), (RL, 83, "blink ", 33)]
def xexs : List (String × Nat × String) := [(RX10, 157, "step is out of range"), (RX10, 223, "the ball cannot be stolen there now"), (RX10, 233, "the ball cannot be planted now"), (RX10, 289, "length is out of range"), (RX10, 296, "there is no such place"), (RX10, 299, "the places are equal"), (RX10, 301, "at is out of range"), (RX10, 303, "what is out of range")]
def xrows : List xRow := [rL_steals, rL_plants, rX0_init, rX0_clear, rX0_copyFrom, rX0_isFull, rX0_tell, rX0_has, rX1_init, rX1_clear, rX1_reset, rX1_copyFrom, rX1_put, rX1_readSum, rX1_readTerm, rX1_readFactor, rX1_variableOf, rX2_init, rX2_reset, rX2_copyFrom, rX2_number, rX2_isBlinkNext, rX2_canSteal, rX2_canPlant, rX2_makeMove, rX2_makeStill, rX2_countStep, rX2_lookUnder, rX3_init, rX3_hasRoom, rX3_putWord, rX3_begin, rX3_kindAt, rX3_addToken, rX3_numberIn, rX3_tokenIn, rX3_isSpelled, rX3_put, rX3_token, rX3_number, rX3_is, rX3_advance, rX3_take, rX3_takeNumber, rX3_fail, rX4_init, rX4_reset, rX4_copyFrom, rX4_know, rX4_ruleOut, rX4_sum, rX4_greatest, rX4_countBelieved, rX4_likeliestShell, rX4_followMove, rX4_followStill, rX4_exchange, rX4_mix, rX4_wonder, rX4_pairsOf, rX4_settle, rX4_halve, rX4_divideByCommonDivisor, rX4_commonDivisor, rX5_init, rX5_reset, rX5_copyFrom, rX5_hasPlace, rX5_isScratched, rX5_setScratched, rX5_exchange, rX5_placeBehind, rX6_init, rX7_read, rX7_bitOfSingle, rX7_readStatement, rX7_readScratches, rX7_readScratch, rX7_readBlink, rX7_readSetting, rX7_greatestOf, rX7_set, rX9_init, rX10_init, rX10_append, rX10_load, rX10_state, rX10_belief, rX10_guess, rX10_blinks, rX10_swap, rX10_feint, rX10_rest, rX10_steal, rX10_plant, rX10_peek, rX10_game, rX10_change, rX10_moveBall, rX10_requireLength, rX10_requirePlace, rX10_requireTwoPlaces, rX10_requirePlaceOrHand, rX10_requireWhat, rX11_init, rX12_init, rX12_by, rX12_moved, rX12_weight, rX12_open, rX12_blind, rX12_isLike, rL_cell, rL_bound, rL_feeds, rL_read, rL_law, rJ7_fill_53178, rJ0_length_8abf5, rJ0_charAt_5068e, rJ0_coder_7d493, rJ0_isLatin1_aae02, rJ0_checkIndex_df160, rJ1_charAt_3b067, rJ3_checkIndex_8e157, rJ5_init_d00df, rJ5_init_a7421, rJ5_append_cf1ce, rJ5_append_3fe6f, rJ5_append_c97b9, rJ5_ensureCapacityInternal_d00df, rJ5_newCapacity_0f7a4, rJ5_isLatin1_aae02, rJ5_inflateIfNeededFor_a7421, rJ5_putStringAt_47b60, rJ5_getValue_6d5f1, rJ5_length_8abf5, rJ8_newLength_cabcc, rJ7_copyOf_9075b, rJ7_copyOfRange_39247, rJ7_copyOfRangeByte_39247, rJ7_checkLength_df160, rJ0_init_81219, rJ0_init_db425, rJ0_getBytes_840e7, rJ4_init_da8c8, rJ4_init_a7421, rJ4_append_15ec4, rJ4_append_cf468, rJ4_append_bf812, rJ4_toString_0e30d, rJ4_append_cf1ce, rJ4_length_8abf5, rJ1_canEncode_fc78d, rJ6_stringSize_0f7a4, rJ6_getChars_ba4f3, rJx4a65c_init_da8c8, rJxc12de_init_da8c8, rJxa1e45_init_da8c8, rJx4a65c_add_9ea2d, rJx4a65c_add_72be8, rJx4a65c_grow_d5877, rJx4a65c_grow_92f84, rJx4a65c_get_915e3, rJx4a65c_elementData_915e3, rJx4a65c_size_8abf5, rJ15_checkIndex_7cf53]
def xT : xTab := fun k => xrows[k]?
abbrev kL_steals : Nat := 0
abbrev kL_plants : Nat := 1
abbrev kX0_init : Nat := 2
abbrev kX0_clear : Nat := 3
abbrev kX0_copyFrom : Nat := 4
abbrev kX0_isFull : Nat := 5
abbrev kX0_tell : Nat := 6
abbrev kX0_has : Nat := 7
abbrev kX1_init : Nat := 8
abbrev kX1_clear : Nat := 9
abbrev kX1_reset : Nat := 10
abbrev kX1_copyFrom : Nat := 11
abbrev kX1_put : Nat := 12
abbrev kX1_readSum : Nat := 13
abbrev kX1_readTerm : Nat := 14
abbrev kX1_readFactor : Nat := 15
abbrev kX1_variableOf : Nat := 16
abbrev kX2_init : Nat := 17
abbrev kX2_reset : Nat := 18
abbrev kX2_copyFrom : Nat := 19
abbrev kX2_number : Nat := 20
abbrev kX2_isBlinkNext : Nat := 21
abbrev kX2_canSteal : Nat := 22
abbrev kX2_canPlant : Nat := 23
abbrev kX2_makeMove : Nat := 24
abbrev kX2_makeStill : Nat := 25
abbrev kX2_countStep : Nat := 26
abbrev kX2_lookUnder : Nat := 27
abbrev kX3_init : Nat := 28
abbrev kX3_hasRoom : Nat := 29
abbrev kX3_putWord : Nat := 30
abbrev kX3_begin : Nat := 31
abbrev kX3_kindAt : Nat := 32
abbrev kX3_addToken : Nat := 33
abbrev kX3_numberIn : Nat := 34
abbrev kX3_tokenIn : Nat := 35
abbrev kX3_isSpelled : Nat := 36
abbrev kX3_put : Nat := 37
abbrev kX3_token : Nat := 38
abbrev kX3_number : Nat := 39
abbrev kX3_is : Nat := 40
abbrev kX3_advance : Nat := 41
abbrev kX3_take : Nat := 42
abbrev kX3_takeNumber : Nat := 43
abbrev kX3_fail : Nat := 44
abbrev kX4_init : Nat := 45
abbrev kX4_reset : Nat := 46
abbrev kX4_copyFrom : Nat := 47
abbrev kX4_know : Nat := 48
abbrev kX4_ruleOut : Nat := 49
abbrev kX4_sum : Nat := 50
abbrev kX4_greatest : Nat := 51
abbrev kX4_countBelieved : Nat := 52
abbrev kX4_likeliestShell : Nat := 53
abbrev kX4_followMove : Nat := 54
abbrev kX4_followStill : Nat := 55
abbrev kX4_exchange : Nat := 56
abbrev kX4_mix : Nat := 57
abbrev kX4_wonder : Nat := 58
abbrev kX4_pairsOf : Nat := 59
abbrev kX4_settle : Nat := 60
abbrev kX4_halve : Nat := 61
abbrev kX4_divideByCommonDivisor : Nat := 62
abbrev kX4_commonDivisor : Nat := 63
abbrev kX5_init : Nat := 64
abbrev kX5_reset : Nat := 65
abbrev kX5_copyFrom : Nat := 66
abbrev kX5_hasPlace : Nat := 67
abbrev kX5_isScratched : Nat := 68
abbrev kX5_setScratched : Nat := 69
abbrev kX5_exchange : Nat := 70
abbrev kX5_placeBehind : Nat := 71
abbrev kX6_init : Nat := 72
abbrev kX7_read : Nat := 73
abbrev kX7_bitOfSingle : Nat := 74
abbrev kX7_readStatement : Nat := 75
abbrev kX7_readScratches : Nat := 76
abbrev kX7_readScratch : Nat := 77
abbrev kX7_readBlink : Nat := 78
abbrev kX7_readSetting : Nat := 79
abbrev kX7_greatestOf : Nat := 80
abbrev kX7_set : Nat := 81
abbrev kX9_init : Nat := 82
abbrev kX10_init : Nat := 83
abbrev kX10_append : Nat := 84
abbrev kX10_load : Nat := 85
abbrev kX10_state : Nat := 86
abbrev kX10_belief : Nat := 87
abbrev kX10_guess : Nat := 88
abbrev kX10_blinks : Nat := 89
abbrev kX10_swap : Nat := 90
abbrev kX10_feint : Nat := 91
abbrev kX10_rest : Nat := 92
abbrev kX10_steal : Nat := 93
abbrev kX10_plant : Nat := 94
abbrev kX10_peek : Nat := 95
abbrev kX10_game : Nat := 96
abbrev kX10_change : Nat := 97
abbrev kX10_moveBall : Nat := 98
abbrev kX10_requireLength : Nat := 99
abbrev kX10_requirePlace : Nat := 100
abbrev kX10_requireTwoPlaces : Nat := 101
abbrev kX10_requirePlaceOrHand : Nat := 102
abbrev kX10_requireWhat : Nat := 103
abbrev kX11_init : Nat := 104
abbrev kX12_init : Nat := 105
abbrev kX12_by : Nat := 106
abbrev kX12_moved : Nat := 107
abbrev kX12_weight : Nat := 108
abbrev kX12_open : Nat := 109
abbrev kX12_blind : Nat := 110
abbrev kX12_isLike : Nat := 111
abbrev kL_cell : Nat := 112
abbrev kL_bound : Nat := 113
abbrev kL_feeds : Nat := 114
abbrev kL_read : Nat := 115
abbrev kL_law : Nat := 116
abbrev kJ7_fill_53178 : Nat := 117
abbrev kJ0_length_8abf5 : Nat := 118
abbrev kJ0_charAt_5068e : Nat := 119
abbrev kJ0_coder_7d493 : Nat := 120
abbrev kJ0_isLatin1_aae02 : Nat := 121
abbrev kJ0_checkIndex_df160 : Nat := 122
abbrev kJ1_charAt_3b067 : Nat := 123
abbrev kJ3_checkIndex_8e157 : Nat := 124
abbrev kJ5_init_d00df : Nat := 125
abbrev kJ5_init_a7421 : Nat := 126
abbrev kJ5_append_cf1ce : Nat := 127
abbrev kJ5_append_3fe6f : Nat := 128
abbrev kJ5_append_c97b9 : Nat := 129
abbrev kJ5_ensureCapacityInternal_d00df : Nat := 130
abbrev kJ5_newCapacity_0f7a4 : Nat := 131
abbrev kJ5_isLatin1_aae02 : Nat := 132
abbrev kJ5_inflateIfNeededFor_a7421 : Nat := 133
abbrev kJ5_putStringAt_47b60 : Nat := 134
abbrev kJ5_getValue_6d5f1 : Nat := 135
abbrev kJ5_length_8abf5 : Nat := 136
abbrev kJ8_newLength_cabcc : Nat := 137
abbrev kJ7_copyOf_9075b : Nat := 138
abbrev kJ7_copyOfRange_39247 : Nat := 139
abbrev kJ7_copyOfRangeByte_39247 : Nat := 140
abbrev kJ7_checkLength_df160 : Nat := 141
abbrev kJ0_init_81219 : Nat := 142
abbrev kJ0_init_db425 : Nat := 143
abbrev kJ0_getBytes_840e7 : Nat := 144
abbrev kJ4_init_da8c8 : Nat := 145
abbrev kJ4_init_a7421 : Nat := 146
abbrev kJ4_append_15ec4 : Nat := 147
abbrev kJ4_append_cf468 : Nat := 148
abbrev kJ4_append_bf812 : Nat := 149
abbrev kJ4_toString_0e30d : Nat := 150
abbrev kJ4_append_cf1ce : Nat := 151
abbrev kJ4_length_8abf5 : Nat := 152
abbrev kJ1_canEncode_fc78d : Nat := 153
abbrev kJ6_stringSize_0f7a4 : Nat := 154
abbrev kJ6_getChars_ba4f3 : Nat := 155
abbrev kJx4a65c_init_da8c8 : Nat := 156
abbrev kJxc12de_init_da8c8 : Nat := 157
abbrev kJxa1e45_init_da8c8 : Nat := 158
abbrev kJx4a65c_add_9ea2d : Nat := 159
abbrev kJx4a65c_add_72be8 : Nat := 160
abbrev kJx4a65c_grow_d5877 : Nat := 161
abbrev kJx4a65c_grow_92f84 : Nat := 162
abbrev kJx4a65c_get_915e3 : Nat := 163
abbrev kJx4a65c_elementData_915e3 : Nat := 164
abbrev kJx4a65c_size_8abf5 : Nat := 165
abbrev kJ15_checkIndex_7cf53 : Nat := 166
end
section
/-! EQUATIONS: from a block's head, the value in the operations' words; targets by what is live there. -/
theorem xget_pick (L : xL) (is : List Nat) (i : Nat) : xget (xpick L is) i = if i ∈ is then xget L i else none := by
  induction is with
  | nil => rfl
  | cons j is ih =>
    unfold xpick
    cases hj : xget L j with
    | none =>
      dsimp only
      rw [ih]
      by_cases h : i = j
      · subst h
        rw [hj]
        simp
      · simp [h]
    | some v =>
      show (bif Nat.beq j i then some v else xget (xpick L is) i) = _
      by_cases h : j = i
      · subst h
        rw [Nat.beq_refl, cond_true, if_pos List.mem_cons_self, hj]
      · rw [Bool.eq_false_iff.2 (fun hb => h (Nat.eq_of_beq_eq_true hb)), cond_false, ih]
        by_cases h2 : i ∈ is
        · rw [if_pos h2, if_pos (List.mem_cons_of_mem _ h2)]
        · rw [if_neg h2, if_neg (fun hm => (List.mem_cons.1 hm).elim (fun e => h e.symm) h2)]
theorem xpick_sub (L : xL) (is : List Nat) : ∀ js : List Nat, (∀ i ∈ js, i ∈ is) → xpick (xpick L is) js = xpick L js := by
  intro js
  induction js with
  | nil => exact fun _ => rfl
  | cons j js ih =>
    intro h
    unfold xpick
    rw [xget_pick, if_pos (h j List.mem_cons_self), ih (fun i hi => h i (List.mem_cons_of_mem _ hi))]
theorem xpick_pick (L : xL) (is : List Nat) : xpick (xpick L is) is = xpick L is := xpick_sub L is is (fun _ h => h)
noncomputable def xkq (E : xEn) (call : Nat → List Value → xH → Option xR) (MC MS : Nat) (bl : xBl) (t : Nat) (L : xL) (st : List Value) (σ : xH) (bc bs : Nat) : Option xR := match xlk bl t with
  | some b => xval E call MC MS bl (t, xpick L b.1, st, σ, bc, bs)
  | none => none
theorem xval_kq (E : xEn) (call : Nat → List Value → xH → Option xR) (MC MS : Nat) (bl : xBl) (t : Nat) (L : xL) (st : List Value) (σ : xH) (bc bs : Nat) : xval E call MC MS bl (t, L, st, σ, bc, bs) = xkq E call MC MS bl t L st σ bc bs := by
  unfold xkq
  cases h : xlk bl t with
  | none =>
    dsimp only
    rw [xval_eq]
    unfold xex
    dsimp only
    rw [h]
    rfl
  | some b =>
    dsimp only
    rw [xval_blk E call MC MS bl h, xval_blk E call MC MS bl h, xpick_pick]
theorem xval_blkQ (E : xEn) (call : Nat → List Value → xH → Option xR) (MC MS : Nat) (bl : xBl) {pc : Nat} {b : List Nat × List xI × Nat} (hb : xlk bl pc = some b) (L : xL) (st : List Value) (σ : xH) (bc bs : Nat) :
    xval E call MC MS bl (pc, L, st, σ, bc, bs) = exB E call MC MS some (xkq E call MC MS bl) b.2.2 b.2.1 (xpick L b.1) st σ bc bs := by
  rw [xval_blk E call MC MS bl hb]
  exact congrArg (fun K => exB E call MC MS some K b.2.2 b.2.1 (xpick L b.1) st σ bc bs) (funext fun t => funext fun L => funext fun st => funext fun σ => funext fun bc => funext fun bs => xval_kq E call MC MS bl t L st σ bc bs)
theorem xnewa_k {ρ : Type} {MC MS k kd bc bs : Nat} {x : Nat → (Nat → Int32) ⊕ (Nat → Int64) ⊕ (Nat → UInt32) ⊕ (Nat → UInt64) ⊕ (Nat → Option Nat)} {st : List Value} {σ : xH} {nx : List Value → xH → Nat → Nat → Option ρ} (h : (Nat.ble (bc + 1) MC && (Nat.ble (bs + k) MS && Nat.ble k 100000)) = true) : xnewa MC MS x [kd] (.int (nI k) :: st) σ bc bs nx = nx (.ref σ.2 :: st) (xup σ.1 σ.2 (.inl (kd, k, x kd)), σ.2 + 1) (bc + 1) (bs + k) := by
  have hk : k < 2 ^ 31 := by
    have h1 := (Bool.and_eq_true_iff.1 (Bool.and_eq_true_iff.1 h).2).2
    have := Nat.le_of_ble_eq_true h1
    omega
  have hc : (nI k).toNatClampNeg = k := nI_clamp hk
  have hl : decide (¬ nI k < 0) = true := decide_eq_true (nI_nlt (Nat.zero_le k) hk)
  show (bif decide (¬ nI k < 0) && (Nat.ble (bc + 1) MC && (Nat.ble (bs + (nI k).toNatClampNeg) MS && Nat.ble (nI k).toNatClampNeg 100000)) then nx (.ref σ.2 :: st) (xup σ.1 σ.2 (.inl (kd, (nI k).toNatClampNeg, x kd)), σ.2 + 1) (bc + 1) (bs + (nI k).toNatClampNeg) else none) = _
  rw [hc, hl, h]
  rfl
def gT {ρ : Type} (E : xEn) (a : Nat) (K : Nat → Option ρ) : Option ρ := match xfind E.1 a 29 with
  | some i => K (E.2.1 (xtt i))
  | none => none
def nwO {ρ : Type} (σ : xH) (ci n : Nat) (K : Nat → xH → Option ρ) : Option ρ := K σ.2 (xup σ.1 σ.2 (.inr (ci, xdef ci n)), σ.2 + 1)
def nwA {ρ : Type} (σ : xH) (k n : Nat) (K : Nat → xH → Option ρ) : Option ρ := K σ.2 (xup σ.1 σ.2 (.inl (k, n, xarr k)), σ.2 + 1)
def nwQ {ρ : Type} (σ : xH) (k n : Nat) (K : Nat → xH → Option ρ) : Option ρ := K σ.2 (xup σ.1 σ.2 (.inl (k, n, .inr (.inr (.inr (.inr fun _ => none))))), σ.2 + 1)
def mxI (x y : Int32) : Int32 := if x < y then y else x
def mnI (x y : Int32) : Int32 := if y < x then y else x
def mxL (x y : Int64) : Int64 := if y < x then x else y
def mnL (x y : Int64) : Int64 := if y < x then y else x
end
section
/-! EQUATIONS OF THE BLOCKS, written by wip/p31/geneq.py. -/
noncomputable def qX0_init_0 (E : xEn) (d : Nat) (bc bs : Nat) (x0 : Nat) (σ : xH) : Option xR := xval E (xsem xT E d) 2 16 bX0_init (0, [(0, .ref x0)], [], σ, bc, bs)
set_option maxRecDepth 100000 in
theorem QX0_init_0 (E : xEn) (d : Nat) (bc bs : Nat) (x0 : Nat) (σ : xH) : qX0_init_0 E d bc bs x0 σ = bif Nat.ble (bc + 1) 2 && (Nat.ble (bs + 8) 16 && Nat.ble 8 100000) then nwA σ 0 8 (fun v1 σ1 => gP σ1 0 0 x0 (.ref v1) (fun σ2 => bif Nat.ble ((bc + 1) + 1) 2 && (Nat.ble ((bs + 8) + 8) 16 && Nat.ble 8 100000) then nwA σ2 0 8 (fun v2 σ3 => gP σ3 0 1 x0 (.ref v2) (fun σ4 => some (.inl none, σ4))) else none)) else none := xval_blkQ E (xsem xT E d) 2 16 bX0_init (pc := 0) rfl [(0, .ref x0)] [] σ bc bs
theorem eX0_init (E : xEn) (d : Nat) (x0 : Nat) (σ : xH) : xsem xT E (d + 1) kX0_init [.ref x0] σ = qX0_init_0 E d 0 0 x0 σ := rfl
noncomputable def qX0_clear_0 (E : xEn) (d : Nat) (x0 : Nat) (σ : xH) : Option xR := xval E (xsem xT E d) 0 0 bX0_clear (0, [(0, .ref x0)], [], σ, 0, 0)
set_option maxRecDepth 100000 in
theorem QX0_clear_0 (E : xEn) (d : Nat) (x0 : Nat) (σ : xH) : qX0_clear_0 E d x0 σ = gP σ 0 2 x0 (.int (nI 0)) (fun σ1 => some (.inl none, σ1)) := xval_blkQ E (xsem xT E d) 0 0 bX0_clear (pc := 0) rfl [(0, .ref x0)] [] σ 0 0
theorem eX0_clear (E : xEn) (d : Nat) (x0 : Nat) (σ : xH) : xsem xT E (d + 1) kX0_clear [.ref x0] σ = qX0_clear_0 E d x0 σ := rfl
noncomputable def qX0_copyFrom_0 (E : xEn) (d : Nat) (x0 : Nat) (x1 : Nat) (σ : xH) : Option xR := xval E (xsem xT E d) 0 0 bX0_copyFrom (0, [(0, .ref x0), (1, .ref x1)], [], σ, 0, 0)
set_option maxRecDepth 100000 in
theorem QX0_copyFrom_0 (E : xEn) (d : Nat) (x0 : Nat) (x1 : Nat) (σ : xH) : qX0_copyFrom_0 E d x0 x1 σ = gI σ 0 2 x1 (fun v1 => gP σ 0 2 x0 (.int v1) (fun σ1 => gR σ1 0 0 x1 (fun v2 => gR σ1 0 0 x0 (fun v3 => gI σ1 0 2 x0 (fun v4 => cpI E σ1 v2 (nI 0) v3 (nI 0) v4 (fun σ2 => gR σ2 0 1 x1 (fun v5 => gR σ2 0 1 x0 (fun v6 => gI σ2 0 2 x0 (fun v7 => cpI E σ2 v5 (nI 0) v6 (nI 0) v7 (fun σ3 => some (.inl none, σ3))))))))))) := xval_blkQ E (xsem xT E d) 0 0 bX0_copyFrom (pc := 0) rfl [(0, .ref x0), (1, .ref x1)] [] σ 0 0
theorem eX0_copyFrom (E : xEn) (d : Nat) (x0 : Nat) (x1 : Nat) (σ : xH) : xsem xT E (d + 1) kX0_copyFrom [.ref x0, .ref x1] σ = qX0_copyFrom_0 E d x0 x1 σ := rfl
noncomputable def qX0_isFull_0 (E : xEn) (d : Nat) (x0 : Nat) (σ : xH) : Option xR := xval E (xsem xT E d) 0 0 bX0_isFull (0, [(0, .ref x0)], [], σ, 0, 0)
noncomputable def qX0_isFull_13 (E : xEn) (d : Nat) (σ : xH) : Option xR := xval E (xsem xT E d) 0 0 bX0_isFull (13, [], [], σ, 0, 0)
noncomputable def qX0_isFull_14 (E : xEn) (d : Nat) (s0 : Int32) (σ : xH) : Option xR := xval E (xsem xT E d) 0 0 bX0_isFull (14, [], [.int s0], σ, 0, 0)
set_option maxRecDepth 100000 in
theorem QX0_isFull_0 (E : xEn) (d : Nat) (x0 : Nat) (σ : xH) : qX0_isFull_0 E d x0 σ = gI σ 0 2 x0 (fun v1 => if v1 < (nI 8) then qX0_isFull_13 E d σ else qX0_isFull_14 E d (nI 1) σ) := xval_blkQ E (xsem xT E d) 0 0 bX0_isFull (pc := 0) rfl [(0, .ref x0)] [] σ 0 0
set_option maxRecDepth 100000 in
theorem QX0_isFull_13 (E : xEn) (d : Nat) (σ : xH) : qX0_isFull_13 E d σ = qX0_isFull_14 E d (nI 0) σ := xval_blkQ E (xsem xT E d) 0 0 bX0_isFull (pc := 13) rfl [] [] σ 0 0
set_option maxRecDepth 100000 in
theorem QX0_isFull_14 (E : xEn) (d : Nat) (s0 : Int32) (σ : xH) : qX0_isFull_14 E d s0 σ = xiret [5] s0 (some (.inl (some (.int s0)), σ)) := xval_blkQ E (xsem xT E d) 0 0 bX0_isFull (pc := 14) rfl [] [.int s0] σ 0 0
theorem eX0_isFull (E : xEn) (d : Nat) (x0 : Nat) (σ : xH) : xsem xT E (d + 1) kX0_isFull [.ref x0] σ = qX0_isFull_0 E d x0 σ := rfl
noncomputable def qX0_tell_0 (E : xEn) (d : Nat) (x0 : Nat) (x1 : Int32) (x2 : Int32) (σ : xH) : Option xR := xval E (xsem xT E d) 0 0 bX0_tell (0, [(0, .ref x0), (1, .int x1), (2, .int x2)], [], σ, 0, 0)
noncomputable def qX0_tell_42 (E : xEn) (d : Nat) (σ : xH) : Option xR := xval E (xsem xT E d) 0 0 bX0_tell (42, [], [], σ, 0, 0)
set_option maxRecDepth 100000 in
theorem QX0_tell_0 (E : xEn) (d : Nat) (x0 : Nat) (x1 : Int32) (x2 : Int32) (σ : xH) : qX0_tell_0 E d x0 x1 x2 σ = gI σ 0 2 x0 (fun v1 => gR σ 0 0 x0 (fun v2 => aN E σ v2 (fun v3 => if v3 ≤ v1 then qX0_tell_42 E d σ else gR σ 0 0 x0 (fun v4 => gI σ 0 2 x0 (fun v5 => sI σ v4 v5 x1 (fun σ1 => gR σ1 0 1 x0 (fun v6 => gI σ1 0 2 x0 (fun v7 => sI σ1 v6 v7 x2 (fun σ2 => gI σ2 0 2 x0 (fun v8 => gP σ2 0 2 x0 (.int (v8 + (nI 1))) (fun σ3 => qX0_tell_42 E d σ3))))))))))) := xval_blkQ E (xsem xT E d) 0 0 bX0_tell (pc := 0) rfl [(0, .ref x0), (1, .int x1), (2, .int x2)] [] σ 0 0
set_option maxRecDepth 100000 in
theorem QX0_tell_42 (E : xEn) (d : Nat) (σ : xH) : qX0_tell_42 E d σ = some (.inl none, σ) := xval_blkQ E (xsem xT E d) 0 0 bX0_tell (pc := 42) rfl [] [] σ 0 0
theorem eX0_tell (E : xEn) (d : Nat) (x0 : Nat) (x1 : Int32) (x2 : Int32) (σ : xH) : xsem xT E (d + 1) kX0_tell [.ref x0, .int x1, .int x2] σ = qX0_tell_0 E d x0 x1 x2 σ := rfl
noncomputable def qX0_has_0 (E : xEn) (d : Nat) (x0 : Nat) (x1 : Int32) (σ : xH) : Option xR := xval E (xsem xT E d) 0 0 bX0_has (0, [(0, .ref x0), (1, .int x1)], [], σ, 0, 0)
noncomputable def qX0_has_2 (E : xEn) (d : Nat) (x0 : Nat) (x1 : Int32) (x2 : Int32) (σ : xH) : Option xR := xval E (xsem xT E d) 0 0 bX0_has (2, [(0, .ref x0), (1, .int x1), (2, .int x2)], [], σ, 0, 0)
noncomputable def qX0_has_32 (E : xEn) (d : Nat) (x0 : Nat) (x1 : Int32) (x2 : Int32) (σ : xH) : Option xR := xval E (xsem xT E d) 0 0 bX0_has (32, [(0, .ref x0), (1, .int x1), (2, .int x2)], [], σ, 0, 0)
noncomputable def qX0_has_38 (E : xEn) (d : Nat) (σ : xH) : Option xR := xval E (xsem xT E d) 0 0 bX0_has (38, [], [], σ, 0, 0)
set_option maxRecDepth 100000 in
theorem QX0_has_0 (E : xEn) (d : Nat) (x0 : Nat) (x1 : Int32) (σ : xH) : qX0_has_0 E d x0 x1 σ = qX0_has_2 E d x0 x1 (nI 0) σ := xval_blkQ E (xsem xT E d) 0 0 bX0_has (pc := 0) rfl [(0, .ref x0), (1, .int x1)] [] σ 0 0
set_option maxRecDepth 100000 in
theorem QX0_has_2 (E : xEn) (d : Nat) (x0 : Nat) (x1 : Int32) (x2 : Int32) (σ : xH) : qX0_has_2 E d x0 x1 x2 σ = gI σ 0 2 x0 (fun v1 => if v1 ≤ x2 then qX0_has_38 E d σ else gR σ 0 0 x0 (fun v2 => aI E σ v2 x2 (fun v3 => if x1 < v3 then qX0_has_32 E d x0 x1 x2 σ else gR σ 0 1 x0 (fun v4 => aI E σ v4 x2 (fun v5 => if v5 < x1 then qX0_has_32 E d x0 x1 x2 σ else xiret [5] (nI 1) (some (.inl (some (.int (nI 1))), σ))))))) := xval_blkQ E (xsem xT E d) 0 0 bX0_has (pc := 2) rfl [(0, .ref x0), (1, .int x1), (2, .int x2)] [] σ 0 0
set_option maxRecDepth 100000 in
theorem QX0_has_32 (E : xEn) (d : Nat) (x0 : Nat) (x1 : Int32) (x2 : Int32) (σ : xH) : qX0_has_32 E d x0 x1 x2 σ = qX0_has_2 E d x0 x1 (x2 + (nI 1)) σ := xval_blkQ E (xsem xT E d) 0 0 bX0_has (pc := 32) rfl [(0, .ref x0), (1, .int x1), (2, .int x2)] [] σ 0 0
set_option maxRecDepth 100000 in
theorem QX0_has_38 (E : xEn) (d : Nat) (σ : xH) : qX0_has_38 E d σ = xiret [5] (nI 0) (some (.inl (some (.int (nI 0))), σ)) := xval_blkQ E (xsem xT E d) 0 0 bX0_has (pc := 38) rfl [] [] σ 0 0
theorem eX0_has (E : xEn) (d : Nat) (x0 : Nat) (x1 : Int32) (σ : xH) : xsem xT E (d + 1) kX0_has [.ref x0, .int x1] σ = qX0_has_0 E d x0 x1 σ := rfl
noncomputable def qX1_init_0 (E : xEn) (d : Nat) (bc bs : Nat) (x0 : Nat) (σ : xH) : Option xR := xval E (xsem xT E d) 2 511 bX1_init (0, [(0, .ref x0)], [], σ, bc, bs)
set_option maxRecDepth 100000 in
theorem QX1_init_0 (E : xEn) (d : Nat) (bc bs : Nat) (x0 : Nat) (σ : xH) : qX1_init_0 E d bc bs x0 σ = bif Nat.ble (bc + 1) 2 && (Nat.ble (bs + 500) 511 && Nat.ble 500 100000) then nwA σ 0 500 (fun v1 σ1 => gP σ1 1 0 x0 (.ref v1) (fun σ2 => bif Nat.ble ((bc + 1) + 1) 2 && (Nat.ble ((bs + 500) + 11) 511 && Nat.ble 11 100000) then nwA σ2 0 11 (fun v2 σ3 => gP σ3 1 2 x0 (.ref v2) (fun σ4 => some (.inl none, σ4))) else none)) else none := xval_blkQ E (xsem xT E d) 2 511 bX1_init (pc := 0) rfl [(0, .ref x0)] [] σ bc bs
theorem eX1_init (E : xEn) (d : Nat) (x0 : Nat) (σ : xH) : xsem xT E (d + 1) kX1_init [.ref x0] σ = qX1_init_0 E d 0 0 x0 σ := rfl
noncomputable def qX1_clear_0 (E : xEn) (d : Nat) (x0 : Nat) (σ : xH) : Option xR := xval E (xsem xT E d) 0 0 bX1_clear (0, [(0, .ref x0)], [], σ, 0, 0)
set_option maxRecDepth 100000 in
theorem QX1_clear_0 (E : xEn) (d : Nat) (x0 : Nat) (σ : xH) : qX1_clear_0 E d x0 σ = gP σ 1 1 x0 (.int (nI 0)) (fun σ1 => some (.inl none, σ1)) := xval_blkQ E (xsem xT E d) 0 0 bX1_clear (pc := 0) rfl [(0, .ref x0)] [] σ 0 0
theorem eX1_clear (E : xEn) (d : Nat) (x0 : Nat) (σ : xH) : xsem xT E (d + 1) kX1_clear [.ref x0] σ = qX1_clear_0 E d x0 σ := rfl
noncomputable def qX1_reset_0 (E : xEn) (d : Nat) (x0 : Nat) (σ : xH) : Option xR := xval E (xsem xT E d) 0 0 bX1_reset (0, [(0, .ref x0)], [], σ, 0, 0)
set_option maxRecDepth 100000 in
theorem QX1_reset_0 (E : xEn) (d : Nat) (x0 : Nat) (σ : xH) : qX1_reset_0 E d x0 σ = gO E σ 1 x0 (cV (xthr 1 some) (xsem xT E d kX1_clear [.ref x0] σ) (fun σ1 => gO E σ1 1 x0 (cV (xthr 1 some) (xsem xT E d kX1_put [.ref x0, .int (-5 : Int32)] σ1) (fun σ2 => gO E σ2 1 x0 (cV (xthr 1 some) (xsem xT E d kX1_put [.ref x0, .int (nI 1)] σ2) (fun σ3 => gO E σ3 1 x0 (cV (xthr 1 some) (xsem xT E d kX1_put [.ref x0, .int (-2 : Int32)] σ3) (fun σ4 => some (.inl none, σ4))))))))) := xval_blkQ E (xsem xT E d) 0 0 bX1_reset (pc := 0) rfl [(0, .ref x0)] [] σ 0 0
theorem eX1_reset (E : xEn) (d : Nat) (x0 : Nat) (σ : xH) : xsem xT E (d + 1) kX1_reset [.ref x0] σ = qX1_reset_0 E d x0 σ := rfl
noncomputable def qX1_copyFrom_0 (E : xEn) (d : Nat) (x0 : Nat) (x1 : Nat) (σ : xH) : Option xR := xval E (xsem xT E d) 0 0 bX1_copyFrom (0, [(0, .ref x0), (1, .ref x1)], [], σ, 0, 0)
set_option maxRecDepth 100000 in
theorem QX1_copyFrom_0 (E : xEn) (d : Nat) (x0 : Nat) (x1 : Nat) (σ : xH) : qX1_copyFrom_0 E d x0 x1 σ = gI σ 1 1 x1 (fun v1 => gP σ 1 1 x0 (.int v1) (fun σ1 => gR σ1 1 0 x1 (fun v2 => gR σ1 1 0 x0 (fun v3 => gI σ1 1 1 x0 (fun v4 => cpI E σ1 v2 (nI 0) v3 (nI 0) v4 (fun σ2 => some (.inl none, σ2))))))) := xval_blkQ E (xsem xT E d) 0 0 bX1_copyFrom (pc := 0) rfl [(0, .ref x0), (1, .ref x1)] [] σ 0 0
theorem eX1_copyFrom (E : xEn) (d : Nat) (x0 : Nat) (x1 : Nat) (σ : xH) : xsem xT E (d + 1) kX1_copyFrom [.ref x0, .ref x1] σ = qX1_copyFrom_0 E d x0 x1 σ := rfl
noncomputable def qX1_put_0 (E : xEn) (d : Nat) (x0 : Nat) (x1 : Int32) (σ : xH) : Option xR := xval E (xsem xT E d) 0 0 bX1_put (0, [(0, .ref x0), (1, .int x1)], [], σ, 0, 0)
noncomputable def qX1_put_32 (E : xEn) (d : Nat) (σ : xH) : Option xR := xval E (xsem xT E d) 0 0 bX1_put (32, [], [], σ, 0, 0)
set_option maxRecDepth 100000 in
theorem QX1_put_0 (E : xEn) (d : Nat) (x0 : Nat) (x1 : Int32) (σ : xH) : qX1_put_0 E d x0 x1 σ = gI σ 1 1 x0 (fun v1 => gR σ 1 0 x0 (fun v2 => aN E σ v2 (fun v3 => if v3 ≤ v1 then qX1_put_32 E d σ else gR σ 1 0 x0 (fun v4 => gI σ 1 1 x0 (fun v5 => sI σ v4 v5 x1 (fun σ1 => gI σ1 1 1 x0 (fun v6 => gP σ1 1 1 x0 (.int (v6 + (nI 1))) (fun σ2 => qX1_put_32 E d σ2)))))))) := xval_blkQ E (xsem xT E d) 0 0 bX1_put (pc := 0) rfl [(0, .ref x0), (1, .int x1)] [] σ 0 0
set_option maxRecDepth 100000 in
theorem QX1_put_32 (E : xEn) (d : Nat) (σ : xH) : qX1_put_32 E d σ = some (.inl none, σ) := xval_blkQ E (xsem xT E d) 0 0 bX1_put (pc := 32) rfl [] [] σ 0 0
theorem eX1_put (E : xEn) (d : Nat) (x0 : Nat) (x1 : Int32) (σ : xH) : xsem xT E (d + 1) kX1_put [.ref x0, .int x1] σ = qX1_put_0 E d x0 x1 σ := rfl
noncomputable def qX1_readSum_0 (E : xEn) (d : Nat) (x0 : Nat) (x1 : Nat) (x2 : Int32) (σ : xH) : Option xR := xval E (xsem xT E d) 0 0 bX1_readSum (0, [(0, .ref x0), (1, .ref x1), (2, .int x2)], [], σ, 0, 0)
noncomputable def qX1_readSum_11 (E : xEn) (d : Nat) (x0 : Nat) (x1 : Nat) (x2 : Int32) (σ : xH) : Option xR := xval E (xsem xT E d) 0 0 bX1_readSum (11, [(0, .ref x0), (1, .ref x1), (2, .int x2)], [], σ, 0, 0)
noncomputable def qX1_readSum_13 (E : xEn) (d : Nat) (x0 : Nat) (x1 : Nat) (x2 : Int32) (x3 : Int32) (σ : xH) : Option xR := xval E (xsem xT E d) 0 0 bX1_readSum (13, [(0, .ref x0), (1, .ref x1), (2, .int x2), (3, .int x3)], [], σ, 0, 0)
noncomputable def qX1_readSum_40 (E : xEn) (d : Nat) (x0 : Nat) (x1 : Nat) (x2 : Int32) (x3 : Int32) (σ : xH) : Option xR := xval E (xsem xT E d) 0 0 bX1_readSum (40, [(0, .ref x0), (1, .ref x1), (2, .int x2), (3, .int x3)], [], σ, 0, 0)
noncomputable def qX1_readSum_54 (E : xEn) (d : Nat) (x0 : Nat) (x1 : Nat) (x2 : Int32) (x3 : Int32) (σ : xH) : Option xR := xval E (xsem xT E d) 0 0 bX1_readSum (54, [(0, .ref x0), (1, .ref x1), (2, .int x2), (3, .int x3)], [], σ, 0, 0)
noncomputable def qX1_readSum_56 (E : xEn) (d : Nat) (x0 : Nat) (x1 : Nat) (x2 : Int32) (x3 : Int32) (s0 : Int32) (σ : xH) : Option xR := xval E (xsem xT E d) 0 0 bX1_readSum (56, [(0, .ref x0), (1, .ref x1), (2, .int x2), (3, .int x3)], [.int s0], σ, 0, 0)
noncomputable def qX1_readSum_73 (E : xEn) (d : Nat) (x0 : Nat) (x1 : Nat) (x2 : Int32) (x3 : Int32) (x4 : Int32) (σ : xH) : Option xR := xval E (xsem xT E d) 0 0 bX1_readSum (73, [(0, .ref x0), (1, .ref x1), (2, .int x2), (3, .int x3), (4, .int x4)], [], σ, 0, 0)
noncomputable def qX1_readSum_85 (E : xEn) (d : Nat) (σ : xH) : Option xR := xval E (xsem xT E d) 0 0 bX1_readSum (85, [], [], σ, 0, 0)
set_option maxRecDepth 100000 in
theorem QX1_readSum_0 (E : xEn) (d : Nat) (x0 : Nat) (x1 : Nat) (x2 : Int32) (σ : xH) : qX1_readSum_0 E d x0 x1 x2 σ = gO E σ 1 x0 (cI (xthr 1 some) (xsem xT E d kX1_readTerm [.ref x0, .ref x1, .int x2] σ) (fun v1 σ1 => if v1 = (nI 0) then xiret [5] (nI 0) (some (.inl (some (.int (nI 0))), σ1)) else qX1_readSum_11 E d x0 x1 x2 σ1)) := xval_blkQ E (xsem xT E d) 0 0 bX1_readSum (pc := 0) rfl [(0, .ref x0), (1, .ref x1), (2, .int x2)] [] σ 0 0
set_option maxRecDepth 100000 in
theorem QX1_readSum_11 (E : xEn) (d : Nat) (x0 : Nat) (x1 : Nat) (x2 : Int32) (σ : xH) : qX1_readSum_11 E d x0 x1 x2 σ = qX1_readSum_13 E d x0 x1 x2 (nI 0) σ := xval_blkQ E (xsem xT E d) 0 0 bX1_readSum (pc := 11) rfl [(0, .ref x0), (1, .ref x1), (2, .int x2)] [] σ 0 0
set_option maxRecDepth 100000 in
theorem QX1_readSum_13 (E : xEn) (d : Nat) (x0 : Nat) (x1 : Nat) (x2 : Int32) (x3 : Int32) (σ : xH) : qX1_readSum_13 E d x0 x1 x2 x3 σ = if (nI 500) ≤ x3 then qX1_readSum_85 E d σ else gO E σ 3 x1 (cI (xthr 1 some) (xsem xT E d kX3_is [.ref x1, .ref (E.1 4)] σ) (fun v1 σ1 => if v1 = (nI 0) then gO E σ1 3 x1 (cI (xthr 1 some) (xsem xT E d kX3_is [.ref x1, .ref (E.1 5)] σ1) (fun v2 σ2 => if v2 = (nI 0) then qX1_readSum_85 E d σ2 else qX1_readSum_40 E d x0 x1 x2 x3 σ2)) else qX1_readSum_40 E d x0 x1 x2 x3 σ1)) := xval_blkQ E (xsem xT E d) 0 0 bX1_readSum (pc := 13) rfl [(0, .ref x0), (1, .ref x1), (2, .int x2), (3, .int x3)] [] σ 0 0
set_option maxRecDepth 100000 in
theorem QX1_readSum_40 (E : xEn) (d : Nat) (x0 : Nat) (x1 : Nat) (x2 : Int32) (x3 : Int32) (σ : xH) : qX1_readSum_40 E d x0 x1 x2 x3 σ = gO E σ 3 x1 (cI (xthr 1 some) (xsem xT E d kX3_is [.ref x1, .ref (E.1 4)] σ) (fun v1 σ1 => if v1 = (nI 0) then qX1_readSum_54 E d x0 x1 x2 x3 σ1 else qX1_readSum_56 E d x0 x1 x2 x3 (-1 : Int32) σ1)) := xval_blkQ E (xsem xT E d) 0 0 bX1_readSum (pc := 40) rfl [(0, .ref x0), (1, .ref x1), (2, .int x2), (3, .int x3)] [] σ 0 0
set_option maxRecDepth 100000 in
theorem QX1_readSum_54 (E : xEn) (d : Nat) (x0 : Nat) (x1 : Nat) (x2 : Int32) (x3 : Int32) (σ : xH) : qX1_readSum_54 E d x0 x1 x2 x3 σ = qX1_readSum_56 E d x0 x1 x2 x3 (-2 : Int32) σ := xval_blkQ E (xsem xT E d) 0 0 bX1_readSum (pc := 54) rfl [(0, .ref x0), (1, .ref x1), (2, .int x2), (3, .int x3)] [] σ 0 0
set_option maxRecDepth 100000 in
theorem QX1_readSum_56 (E : xEn) (d : Nat) (x0 : Nat) (x1 : Nat) (x2 : Int32) (x3 : Int32) (s0 : Int32) (σ : xH) : qX1_readSum_56 E d x0 x1 x2 x3 s0 σ = gO E σ 3 x1 (cV (xthr 1 some) (xsem xT E d kX3_advance [.ref x1] σ) (fun σ1 => gO E σ1 1 x0 (cI (xthr 1 some) (xsem xT E d kX1_readTerm [.ref x0, .ref x1, .int x2] σ1) (fun v1 σ2 => if v1 = (nI 0) then xiret [5] (nI 0) (some (.inl (some (.int (nI 0))), σ2)) else qX1_readSum_73 E d x0 x1 x2 x3 s0 σ2)))) := xval_blkQ E (xsem xT E d) 0 0 bX1_readSum (pc := 56) rfl [(0, .ref x0), (1, .ref x1), (2, .int x2), (3, .int x3)] [.int s0] σ 0 0
set_option maxRecDepth 100000 in
theorem QX1_readSum_73 (E : xEn) (d : Nat) (x0 : Nat) (x1 : Nat) (x2 : Int32) (x3 : Int32) (x4 : Int32) (σ : xH) : qX1_readSum_73 E d x0 x1 x2 x3 x4 σ = gO E σ 1 x0 (cV (xthr 1 some) (xsem xT E d kX1_put [.ref x0, .int x4] σ) (fun σ1 => qX1_readSum_13 E d x0 x1 x2 (x3 + (nI 1)) σ1)) := xval_blkQ E (xsem xT E d) 0 0 bX1_readSum (pc := 73) rfl [(0, .ref x0), (1, .ref x1), (2, .int x2), (3, .int x3), (4, .int x4)] [] σ 0 0
set_option maxRecDepth 100000 in
theorem QX1_readSum_85 (E : xEn) (d : Nat) (σ : xH) : qX1_readSum_85 E d σ = xiret [5] (nI 1) (some (.inl (some (.int (nI 1))), σ)) := xval_blkQ E (xsem xT E d) 0 0 bX1_readSum (pc := 85) rfl [] [] σ 0 0
theorem eX1_readSum (E : xEn) (d : Nat) (x0 : Nat) (x1 : Nat) (x2 : Int32) (σ : xH) : xsem xT E (d + 1) kX1_readSum [.ref x0, .ref x1, .int x2] σ = qX1_readSum_0 E d x0 x1 x2 σ := rfl
noncomputable def qX1_readTerm_0 (E : xEn) (d : Nat) (x0 : Nat) (x1 : Nat) (x2 : Int32) (σ : xH) : Option xR := xval E (xsem xT E d) 0 0 bX1_readTerm (0, [(0, .ref x0), (1, .ref x1), (2, .int x2)], [], σ, 0, 0)
noncomputable def qX1_readTerm_11 (E : xEn) (d : Nat) (x0 : Nat) (x1 : Nat) (x2 : Int32) (σ : xH) : Option xR := xval E (xsem xT E d) 0 0 bX1_readTerm (11, [(0, .ref x0), (1, .ref x1), (2, .int x2)], [], σ, 0, 0)
noncomputable def qX1_readTerm_13 (E : xEn) (d : Nat) (x0 : Nat) (x1 : Nat) (x2 : Int32) (x3 : Int32) (σ : xH) : Option xR := xval E (xsem xT E d) 0 0 bX1_readTerm (13, [(0, .ref x0), (1, .ref x1), (2, .int x2), (3, .int x3)], [], σ, 0, 0)
noncomputable def qX1_readTerm_40 (E : xEn) (d : Nat) (x0 : Nat) (x1 : Nat) (x2 : Int32) (x3 : Int32) (σ : xH) : Option xR := xval E (xsem xT E d) 0 0 bX1_readTerm (40, [(0, .ref x0), (1, .ref x1), (2, .int x2), (3, .int x3)], [], σ, 0, 0)
noncomputable def qX1_readTerm_55 (E : xEn) (d : Nat) (x0 : Nat) (x1 : Nat) (x2 : Int32) (x3 : Int32) (σ : xH) : Option xR := xval E (xsem xT E d) 0 0 bX1_readTerm (55, [(0, .ref x0), (1, .ref x1), (2, .int x2), (3, .int x3)], [], σ, 0, 0)
noncomputable def qX1_readTerm_57 (E : xEn) (d : Nat) (x0 : Nat) (x1 : Nat) (x2 : Int32) (x3 : Int32) (s0 : Int32) (σ : xH) : Option xR := xval E (xsem xT E d) 0 0 bX1_readTerm (57, [(0, .ref x0), (1, .ref x1), (2, .int x2), (3, .int x3)], [.int s0], σ, 0, 0)
noncomputable def qX1_readTerm_74 (E : xEn) (d : Nat) (x0 : Nat) (x1 : Nat) (x2 : Int32) (x3 : Int32) (x4 : Int32) (σ : xH) : Option xR := xval E (xsem xT E d) 0 0 bX1_readTerm (74, [(0, .ref x0), (1, .ref x1), (2, .int x2), (3, .int x3), (4, .int x4)], [], σ, 0, 0)
noncomputable def qX1_readTerm_86 (E : xEn) (d : Nat) (σ : xH) : Option xR := xval E (xsem xT E d) 0 0 bX1_readTerm (86, [], [], σ, 0, 0)
set_option maxRecDepth 100000 in
theorem QX1_readTerm_0 (E : xEn) (d : Nat) (x0 : Nat) (x1 : Nat) (x2 : Int32) (σ : xH) : qX1_readTerm_0 E d x0 x1 x2 σ = gO E σ 1 x0 (cI (xthr 1 some) (xsem xT E d kX1_readFactor [.ref x0, .ref x1, .int x2] σ) (fun v1 σ1 => if v1 = (nI 0) then xiret [5] (nI 0) (some (.inl (some (.int (nI 0))), σ1)) else qX1_readTerm_11 E d x0 x1 x2 σ1)) := xval_blkQ E (xsem xT E d) 0 0 bX1_readTerm (pc := 0) rfl [(0, .ref x0), (1, .ref x1), (2, .int x2)] [] σ 0 0
set_option maxRecDepth 100000 in
theorem QX1_readTerm_11 (E : xEn) (d : Nat) (x0 : Nat) (x1 : Nat) (x2 : Int32) (σ : xH) : qX1_readTerm_11 E d x0 x1 x2 σ = qX1_readTerm_13 E d x0 x1 x2 (nI 0) σ := xval_blkQ E (xsem xT E d) 0 0 bX1_readTerm (pc := 11) rfl [(0, .ref x0), (1, .ref x1), (2, .int x2)] [] σ 0 0
set_option maxRecDepth 100000 in
theorem QX1_readTerm_13 (E : xEn) (d : Nat) (x0 : Nat) (x1 : Nat) (x2 : Int32) (x3 : Int32) (σ : xH) : qX1_readTerm_13 E d x0 x1 x2 x3 σ = if (nI 500) ≤ x3 then qX1_readTerm_86 E d σ else gO E σ 3 x1 (cI (xthr 1 some) (xsem xT E d kX3_is [.ref x1, .ref (E.1 6)] σ) (fun v1 σ1 => if v1 = (nI 0) then gO E σ1 3 x1 (cI (xthr 1 some) (xsem xT E d kX3_is [.ref x1, .ref (E.1 7)] σ1) (fun v2 σ2 => if v2 = (nI 0) then qX1_readTerm_86 E d σ2 else qX1_readTerm_40 E d x0 x1 x2 x3 σ2)) else qX1_readTerm_40 E d x0 x1 x2 x3 σ1)) := xval_blkQ E (xsem xT E d) 0 0 bX1_readTerm (pc := 13) rfl [(0, .ref x0), (1, .ref x1), (2, .int x2), (3, .int x3)] [] σ 0 0
set_option maxRecDepth 100000 in
theorem QX1_readTerm_40 (E : xEn) (d : Nat) (x0 : Nat) (x1 : Nat) (x2 : Int32) (x3 : Int32) (σ : xH) : qX1_readTerm_40 E d x0 x1 x2 x3 σ = gO E σ 3 x1 (cI (xthr 1 some) (xsem xT E d kX3_is [.ref x1, .ref (E.1 6)] σ) (fun v1 σ1 => if v1 = (nI 0) then qX1_readTerm_55 E d x0 x1 x2 x3 σ1 else qX1_readTerm_57 E d x0 x1 x2 x3 (-3 : Int32) σ1)) := xval_blkQ E (xsem xT E d) 0 0 bX1_readTerm (pc := 40) rfl [(0, .ref x0), (1, .ref x1), (2, .int x2), (3, .int x3)] [] σ 0 0
set_option maxRecDepth 100000 in
theorem QX1_readTerm_55 (E : xEn) (d : Nat) (x0 : Nat) (x1 : Nat) (x2 : Int32) (x3 : Int32) (σ : xH) : qX1_readTerm_55 E d x0 x1 x2 x3 σ = qX1_readTerm_57 E d x0 x1 x2 x3 (-4 : Int32) σ := xval_blkQ E (xsem xT E d) 0 0 bX1_readTerm (pc := 55) rfl [(0, .ref x0), (1, .ref x1), (2, .int x2), (3, .int x3)] [] σ 0 0
set_option maxRecDepth 100000 in
theorem QX1_readTerm_57 (E : xEn) (d : Nat) (x0 : Nat) (x1 : Nat) (x2 : Int32) (x3 : Int32) (s0 : Int32) (σ : xH) : qX1_readTerm_57 E d x0 x1 x2 x3 s0 σ = gO E σ 3 x1 (cV (xthr 1 some) (xsem xT E d kX3_advance [.ref x1] σ) (fun σ1 => gO E σ1 1 x0 (cI (xthr 1 some) (xsem xT E d kX1_readFactor [.ref x0, .ref x1, .int x2] σ1) (fun v1 σ2 => if v1 = (nI 0) then xiret [5] (nI 0) (some (.inl (some (.int (nI 0))), σ2)) else qX1_readTerm_74 E d x0 x1 x2 x3 s0 σ2)))) := xval_blkQ E (xsem xT E d) 0 0 bX1_readTerm (pc := 57) rfl [(0, .ref x0), (1, .ref x1), (2, .int x2), (3, .int x3)] [.int s0] σ 0 0
set_option maxRecDepth 100000 in
theorem QX1_readTerm_74 (E : xEn) (d : Nat) (x0 : Nat) (x1 : Nat) (x2 : Int32) (x3 : Int32) (x4 : Int32) (σ : xH) : qX1_readTerm_74 E d x0 x1 x2 x3 x4 σ = gO E σ 1 x0 (cV (xthr 1 some) (xsem xT E d kX1_put [.ref x0, .int x4] σ) (fun σ1 => qX1_readTerm_13 E d x0 x1 x2 (x3 + (nI 1)) σ1)) := xval_blkQ E (xsem xT E d) 0 0 bX1_readTerm (pc := 74) rfl [(0, .ref x0), (1, .ref x1), (2, .int x2), (3, .int x3), (4, .int x4)] [] σ 0 0
set_option maxRecDepth 100000 in
theorem QX1_readTerm_86 (E : xEn) (d : Nat) (σ : xH) : qX1_readTerm_86 E d σ = xiret [5] (nI 1) (some (.inl (some (.int (nI 1))), σ)) := xval_blkQ E (xsem xT E d) 0 0 bX1_readTerm (pc := 86) rfl [] [] σ 0 0
theorem eX1_readTerm (E : xEn) (d : Nat) (x0 : Nat) (x1 : Nat) (x2 : Int32) (σ : xH) : xsem xT E (d + 1) kX1_readTerm [.ref x0, .ref x1, .int x2] σ = qX1_readTerm_0 E d x0 x1 x2 σ := rfl
noncomputable def qX1_readFactor_0 (E : xEn) (d : Nat) (x0 : Nat) (x1 : Nat) (x2 : Int32) (σ : xH) : Option xR := xval E (xsem xT E d) 0 0 bX1_readFactor (0, [(0, .ref x0), (1, .ref x1), (2, .int x2)], [], σ, 0, 0)
noncomputable def qX1_readFactor_22 (E : xEn) (d : Nat) (x0 : Nat) (x1 : Nat) (x2 : Int32) (σ : xH) : Option xR := xval E (xsem xT E d) 0 0 bX1_readFactor (22, [(0, .ref x0), (1, .ref x1), (2, .int x2)], [], σ, 0, 0)
noncomputable def qX1_readFactor_51 (E : xEn) (d : Nat) (σ : xH) : Option xR := xval E (xsem xT E d) 0 0 bX1_readFactor (51, [], [], σ, 0, 0)
noncomputable def qX1_readFactor_52 (E : xEn) (d : Nat) (s0 : Int32) (σ : xH) : Option xR := xval E (xsem xT E d) 0 0 bX1_readFactor (52, [], [.int s0], σ, 0, 0)
noncomputable def qX1_readFactor_53 (E : xEn) (d : Nat) (x0 : Nat) (x1 : Nat) (σ : xH) : Option xR := xval E (xsem xT E d) 0 0 bX1_readFactor (53, [(0, .ref x0), (1, .ref x1)], [], σ, 0, 0)
noncomputable def qX1_readFactor_80 (E : xEn) (d : Nat) (x0 : Nat) (x1 : Nat) (x3 : Int32) (σ : xH) : Option xR := xval E (xsem xT E d) 0 0 bX1_readFactor (80, [(0, .ref x0), (1, .ref x1), (3, .int x3)], [], σ, 0, 0)
noncomputable def qX1_readFactor_84 (E : xEn) (d : Nat) (x0 : Nat) (x3 : Int32) (σ : xH) : Option xR := xval E (xsem xT E d) 0 0 bX1_readFactor (84, [(0, .ref x0), (3, .int x3)], [], σ, 0, 0)
set_option maxRecDepth 100000 in
theorem QX1_readFactor_0 (E : xEn) (d : Nat) (x0 : Nat) (x1 : Nat) (x2 : Int32) (σ : xH) : qX1_readFactor_0 E d x0 x1 x2 σ = gO E σ 3 x1 (cI (xthr 1 some) (xsem xT E d kX3_is [.ref x1, .ref (E.1 8)] σ) (fun v1 σ1 => if v1 = (nI 0) then qX1_readFactor_53 E d x0 x1 σ1 else if x2 < (nI 4) then qX1_readFactor_22 E d x0 x1 x2 σ1 else gO E σ1 3 x1 (cI (xthr 1 some) (xsem xT E d kX3_fail [.ref x1, .int (-6 : Int32)] σ1) (fun v2 σ2 => xiret [5] v2 (some (.inl (some (.int v2)), σ2)))))) := xval_blkQ E (xsem xT E d) 0 0 bX1_readFactor (pc := 0) rfl [(0, .ref x0), (1, .ref x1), (2, .int x2)] [] σ 0 0
set_option maxRecDepth 100000 in
theorem QX1_readFactor_22 (E : xEn) (d : Nat) (x0 : Nat) (x1 : Nat) (x2 : Int32) (σ : xH) : qX1_readFactor_22 E d x0 x1 x2 σ = gO E σ 3 x1 (cV (xthr 1 some) (xsem xT E d kX3_advance [.ref x1] σ) (fun σ1 => gO E σ1 1 x0 (cI (xthr 1 some) (xsem xT E d kX1_readSum [.ref x0, .ref x1, .int (x2 + (nI 1))] σ1) (fun v1 σ2 => if v1 = (nI 0) then qX1_readFactor_51 E d σ2 else gO E σ2 3 x1 (cI (xthr 1 some) (xsem xT E d kX3_take [.ref x1, .ref (E.1 9)] σ2) (fun v2 σ3 => if v2 = (nI 0) then qX1_readFactor_51 E d σ3 else qX1_readFactor_52 E d (nI 1) σ3)))))) := xval_blkQ E (xsem xT E d) 0 0 bX1_readFactor (pc := 22) rfl [(0, .ref x0), (1, .ref x1), (2, .int x2)] [] σ 0 0
set_option maxRecDepth 100000 in
theorem QX1_readFactor_51 (E : xEn) (d : Nat) (σ : xH) : qX1_readFactor_51 E d σ = qX1_readFactor_52 E d (nI 0) σ := xval_blkQ E (xsem xT E d) 0 0 bX1_readFactor (pc := 51) rfl [] [] σ 0 0
set_option maxRecDepth 100000 in
theorem QX1_readFactor_52 (E : xEn) (d : Nat) (s0 : Int32) (σ : xH) : qX1_readFactor_52 E d s0 σ = xiret [5] s0 (some (.inl (some (.int s0)), σ)) := xval_blkQ E (xsem xT E d) 0 0 bX1_readFactor (pc := 52) rfl [] [.int s0] σ 0 0
set_option maxRecDepth 100000 in
theorem QX1_readFactor_53 (E : xEn) (d : Nat) (x0 : Nat) (x1 : Nat) (σ : xH) : qX1_readFactor_53 E d x0 x1 σ = gO E σ 3 x1 (cA (xthr 1 some) (xsem xT E d kX3_token [.ref x1] σ) (fun v1 σ1 => cI (xthr 0 some) (xsem xT E d kX1_variableOf [.ref v1] σ1) (fun v2 σ2 => if v2 = (nI 0) then gO E σ2 3 x1 (cI (xthr 1 some) (xsem xT E d kX3_takeNumber [.ref x1, .int (nI 0), .int (nI 9999)] σ2) (fun v3 σ3 => if (nI 0) ≤ v3 then qX1_readFactor_84 E d x0 v3 σ3 else xiret [5] (nI 0) (some (.inl (some (.int (nI 0))), σ3)))) else qX1_readFactor_80 E d x0 x1 v2 σ2))) := xval_blkQ E (xsem xT E d) 0 0 bX1_readFactor (pc := 53) rfl [(0, .ref x0), (1, .ref x1)] [] σ 0 0
set_option maxRecDepth 100000 in
theorem QX1_readFactor_80 (E : xEn) (d : Nat) (x0 : Nat) (x1 : Nat) (x3 : Int32) (σ : xH) : qX1_readFactor_80 E d x0 x1 x3 σ = gO E σ 3 x1 (cV (xthr 1 some) (xsem xT E d kX3_advance [.ref x1] σ) (fun σ1 => qX1_readFactor_84 E d x0 x3 σ1)) := xval_blkQ E (xsem xT E d) 0 0 bX1_readFactor (pc := 80) rfl [(0, .ref x0), (1, .ref x1), (3, .int x3)] [] σ 0 0
set_option maxRecDepth 100000 in
theorem QX1_readFactor_84 (E : xEn) (d : Nat) (x0 : Nat) (x3 : Int32) (σ : xH) : qX1_readFactor_84 E d x0 x3 σ = gO E σ 1 x0 (cV (xthr 1 some) (xsem xT E d kX1_put [.ref x0, .int x3] σ) (fun σ1 => xiret [5] (nI 1) (some (.inl (some (.int (nI 1))), σ1)))) := xval_blkQ E (xsem xT E d) 0 0 bX1_readFactor (pc := 84) rfl [(0, .ref x0), (3, .int x3)] [] σ 0 0
theorem eX1_readFactor (E : xEn) (d : Nat) (x0 : Nat) (x1 : Nat) (x2 : Int32) (σ : xH) : xsem xT E (d + 1) kX1_readFactor [.ref x0, .ref x1, .int x2] σ = qX1_readFactor_0 E d x0 x1 x2 σ := rfl
noncomputable def qX1_variableOf_0 (E : xEn) (d : Nat) (x0 : Nat) (σ : xH) : Option xR := xval E (xsem xT E d) 0 0 bX1_variableOf (0, [(0, .ref x0)], [], σ, 0, 0)
noncomputable def qX1_variableOf_10 (E : xEn) (d : Nat) (x0 : Nat) (σ : xH) : Option xR := xval E (xsem xT E d) 0 0 bX1_variableOf (10, [(0, .ref x0)], [], σ, 0, 0)
noncomputable def qX1_variableOf_20 (E : xEn) (d : Nat) (x0 : Nat) (σ : xH) : Option xR := xval E (xsem xT E d) 0 0 bX1_variableOf (20, [(0, .ref x0)], [], σ, 0, 0)
noncomputable def qX1_variableOf_30 (E : xEn) (d : Nat) (x0 : Nat) (σ : xH) : Option xR := xval E (xsem xT E d) 0 0 bX1_variableOf (30, [(0, .ref x0)], [], σ, 0, 0)
noncomputable def qX1_variableOf_42 (E : xEn) (d : Nat) (σ : xH) : Option xR := xval E (xsem xT E d) 0 0 bX1_variableOf (42, [], [], σ, 0, 0)
noncomputable def qX1_variableOf_43 (E : xEn) (d : Nat) (s0 : Int32) (σ : xH) : Option xR := xval E (xsem xT E d) 0 0 bX1_variableOf (43, [], [.int s0], σ, 0, 0)
set_option maxRecDepth 100000 in
theorem QX1_variableOf_0 (E : xEn) (d : Nat) (x0 : Nat) (σ : xH) : qX1_variableOf_0 E d x0 σ = bif Nat.beq x0 (E.1 10) then some (.inl (some (.int (-5 : Int32))), σ) else qX1_variableOf_10 E d x0 σ := xval_blkQ E (xsem xT E d) 0 0 bX1_variableOf (pc := 0) rfl [(0, .ref x0)] [] σ 0 0
set_option maxRecDepth 100000 in
theorem QX1_variableOf_10 (E : xEn) (d : Nat) (x0 : Nat) (σ : xH) : qX1_variableOf_10 E d x0 σ = bif Nat.beq x0 (E.1 11) then some (.inl (some (.int (-6 : Int32))), σ) else qX1_variableOf_20 E d x0 σ := xval_blkQ E (xsem xT E d) 0 0 bX1_variableOf (pc := 10) rfl [(0, .ref x0)] [] σ 0 0
set_option maxRecDepth 100000 in
theorem QX1_variableOf_20 (E : xEn) (d : Nat) (x0 : Nat) (σ : xH) : qX1_variableOf_20 E d x0 σ = bif Nat.beq x0 (E.1 12) then some (.inl (some (.int (-7 : Int32))), σ) else qX1_variableOf_30 E d x0 σ := xval_blkQ E (xsem xT E d) 0 0 bX1_variableOf (pc := 20) rfl [(0, .ref x0)] [] σ 0 0
set_option maxRecDepth 100000 in
theorem QX1_variableOf_30 (E : xEn) (d : Nat) (x0 : Nat) (σ : xH) : qX1_variableOf_30 E d x0 σ = bif Nat.beq x0 (E.1 13) then qX1_variableOf_43 E d (-8 : Int32) σ else qX1_variableOf_42 E d σ := xval_blkQ E (xsem xT E d) 0 0 bX1_variableOf (pc := 30) rfl [(0, .ref x0)] [] σ 0 0
set_option maxRecDepth 100000 in
theorem QX1_variableOf_42 (E : xEn) (d : Nat) (σ : xH) : qX1_variableOf_42 E d σ = qX1_variableOf_43 E d (nI 0) σ := xval_blkQ E (xsem xT E d) 0 0 bX1_variableOf (pc := 42) rfl [] [] σ 0 0
set_option maxRecDepth 100000 in
theorem QX1_variableOf_43 (E : xEn) (d : Nat) (s0 : Int32) (σ : xH) : qX1_variableOf_43 E d s0 σ = some (.inl (some (.int s0)), σ) := xval_blkQ E (xsem xT E d) 0 0 bX1_variableOf (pc := 43) rfl [] [.int s0] σ 0 0
theorem eX1_variableOf (E : xEn) (d : Nat) (x0 : Nat) (σ : xH) : xsem xT E (d + 1) kX1_variableOf [.ref x0] σ = qX1_variableOf_0 E d x0 σ := rfl
noncomputable def qX2_init_0 (E : xEn) (d : Nat) (bc bs : Nat) (x0 : Nat) (σ : xH) : Option xR := xval E (xsem xT E d) 11 568 bX2_init (0, [(0, .ref x0)], [], σ, bc, bs)
set_option maxRecDepth 100000 in
theorem QX2_init_0 (E : xEn) (d : Nat) (bc bs : Nat) (x0 : Nat) (σ : xH) : qX2_init_0 E d bc bs x0 σ = bif Nat.ble (bc + 1) 11 && Nat.ble (bs + 5) 568 then nwO σ 5 5 (fun v1 σ1 => bif Nat.ble ((bc + 1) + 2) 11 && Nat.ble ((bs + 5) + 16) 568 then gO E σ1 5 v1 (cV (xthr 4 some) (xsem xT E d kX5_init [.ref v1] σ1) (fun σ2 => gP σ2 2 0 x0 (.ref v1) (fun σ3 => bif Nat.ble (((bc + 1) + 2) + 1) 11 && Nat.ble (((bs + 5) + 16) + 5) 568 then nwO σ3 4 5 (fun v2 σ4 => bif Nat.ble ((((bc + 1) + 2) + 1) + 1) 11 && Nat.ble ((((bs + 5) + 16) + 5) + 9) 568 then gO E σ4 4 v2 (cV (xthr 4 some) (xsem xT E d kX4_init [.ref v2] σ4) (fun σ5 => gP σ5 2 1 x0 (.ref v2) (fun σ6 => bif Nat.ble (((((bc + 1) + 2) + 1) + 1) + 1) 11 && Nat.ble (((((bs + 5) + 16) + 5) + 9) + 3) 568 then nwO σ6 0 3 (fun v3 σ7 => bif Nat.ble ((((((bc + 1) + 2) + 1) + 1) + 1) + 2) 11 && Nat.ble ((((((bs + 5) + 16) + 5) + 9) + 3) + 16) 568 then gO E σ7 0 v3 (cV (xthr 4 some) (xsem xT E d kX0_init [.ref v3] σ7) (fun σ8 => gP σ8 2 2 x0 (.ref v3) (fun σ9 => bif Nat.ble (((((((bc + 1) + 2) + 1) + 1) + 1) + 2) + 1) 11 && Nat.ble (((((((bs + 5) + 16) + 5) + 9) + 3) + 16) + 3) 568 then nwO σ9 1 3 (fun v4 σ10 => bif Nat.ble ((((((((bc + 1) + 2) + 1) + 1) + 1) + 2) + 1) + 2) 11 && Nat.ble ((((((((bs + 5) + 16) + 5) + 9) + 3) + 16) + 3) + 511) 568 then gO E σ10 1 v4 (cV (xthr 4 some) (xsem xT E d kX1_init [.ref v4] σ10) (fun σ11 => gP σ11 2 3 x0 (.ref v4) (fun σ12 => bif Nat.ble ((((((((bc + 1) + 2) + 1) + 1) + 1) + 2) + 1) + 2) 11 && Nat.ble ((((((((bs + 5) + 16) + 5) + 9) + 3) + 16) + 3) + 511) 568 then gO E σ12 2 x0 (cV (xthr 1 some) (xsem xT E d kX2_reset [.ref x0, .int (nI 3)] σ12) (fun σ13 => some (.inl none, σ13))) else none))) else none) else none))) else none) else none))) else none) else none))) else none) else none := xval_blkQ E (xsem xT E d) 11 568 bX2_init (pc := 0) rfl [(0, .ref x0)] [] σ bc bs
theorem eX2_init (E : xEn) (d : Nat) (x0 : Nat) (σ : xH) : xsem xT E (d + 1) kX2_init [.ref x0] σ = qX2_init_0 E d 0 0 x0 σ := rfl
noncomputable def qX2_reset_0 (E : xEn) (d : Nat) (x0 : Nat) (x1 : Int32) (σ : xH) : Option xR := xval E (xsem xT E d) 0 0 bX2_reset (0, [(0, .ref x0), (1, .int x1)], [], σ, 0, 0)
set_option maxRecDepth 100000 in
theorem QX2_reset_0 (E : xEn) (d : Nat) (x0 : Nat) (x1 : Int32) (σ : xH) : qX2_reset_0 E d x0 x1 σ = gR σ 2 0 x0 (fun v1 => gO E σ 5 v1 (cV (xthr 1 some) (xsem xT E d kX5_reset [.ref v1, .int x1] σ) (fun σ1 => gR σ1 2 1 x0 (fun v2 => gO E σ1 4 v2 (cV (xthr 1 some) (xsem xT E d kX4_reset [.ref v2, .int x1] σ1) (fun σ2 => gR σ2 2 2 x0 (fun v3 => gO E σ2 0 v3 (cV (xthr 1 some) (xsem xT E d kX0_clear [.ref v3] σ2) (fun σ3 => gR σ3 2 3 x0 (fun v4 => gO E σ3 1 v4 (cV (xthr 1 some) (xsem xT E d kX1_reset [.ref v4] σ3) (fun σ4 => gP σ4 2 4 x0 (.int (nI 0)) (fun σ5 => gP σ5 2 5 x0 (.int (nI 0)) (fun σ6 => gP σ6 2 6 x0 (.int (nI 100)) (fun σ7 => gP σ7 2 7 x0 (.int (nI 0)) (fun σ8 => gP σ8 2 8 x0 (.int (nI 0)) (fun σ9 => some (.inl none, σ9)))))))))))))))))) := xval_blkQ E (xsem xT E d) 0 0 bX2_reset (pc := 0) rfl [(0, .ref x0), (1, .int x1)] [] σ 0 0
theorem eX2_reset (E : xEn) (d : Nat) (x0 : Nat) (x1 : Int32) (σ : xH) : xsem xT E (d + 1) kX2_reset [.ref x0, .int x1] σ = qX2_reset_0 E d x0 x1 σ := rfl
noncomputable def qX2_copyFrom_0 (E : xEn) (d : Nat) (x0 : Nat) (x1 : Nat) (σ : xH) : Option xR := xval E (xsem xT E d) 0 0 bX2_copyFrom (0, [(0, .ref x0), (1, .ref x1)], [], σ, 0, 0)
set_option maxRecDepth 100000 in
theorem QX2_copyFrom_0 (E : xEn) (d : Nat) (x0 : Nat) (x1 : Nat) (σ : xH) : qX2_copyFrom_0 E d x0 x1 σ = gR σ 2 0 x0 (fun v1 => gR σ 2 0 x1 (fun v2 => gO E σ 5 v1 (cV (xthr 1 some) (xsem xT E d kX5_copyFrom [.ref v1, .ref v2] σ) (fun σ1 => gR σ1 2 1 x0 (fun v3 => gR σ1 2 1 x1 (fun v4 => gO E σ1 4 v3 (cV (xthr 1 some) (xsem xT E d kX4_copyFrom [.ref v3, .ref v4] σ1) (fun σ2 => gR σ2 2 2 x0 (fun v5 => gR σ2 2 2 x1 (fun v6 => gO E σ2 0 v5 (cV (xthr 1 some) (xsem xT E d kX0_copyFrom [.ref v5, .ref v6] σ2) (fun σ3 => gR σ3 2 3 x0 (fun v7 => gR σ3 2 3 x1 (fun v8 => gO E σ3 1 v7 (cV (xthr 1 some) (xsem xT E d kX1_copyFrom [.ref v7, .ref v8] σ3) (fun σ4 => gI σ4 2 4 x1 (fun v9 => gP σ4 2 4 x0 (.int v9) (fun σ5 => gI σ5 2 5 x1 (fun v10 => gP σ5 2 5 x0 (.int v10) (fun σ6 => gI σ6 2 6 x1 (fun v11 => gP σ6 2 6 x0 (.int v11) (fun σ7 => gI σ7 2 7 x1 (fun v12 => gP σ7 2 7 x0 (.int v12) (fun σ8 => gI σ8 2 8 x1 (fun v13 => gP σ8 2 8 x0 (.int v13) (fun σ9 => some (.inl none, σ9))))))))))))))))))))))))))) := xval_blkQ E (xsem xT E d) 0 0 bX2_copyFrom (pc := 0) rfl [(0, .ref x0), (1, .ref x1)] [] σ 0 0
theorem eX2_copyFrom (E : xEn) (d : Nat) (x0 : Nat) (x1 : Nat) (σ : xH) : xsem xT E (d + 1) kX2_copyFrom [.ref x0, .ref x1] σ = qX2_copyFrom_0 E d x0 x1 σ := rfl
noncomputable def qX2_number_0 (E : xEn) (d : Nat) (x0 : Nat) (x1 : Int32) (σ : xH) : Option xR := xval E (xsem xT E d) 0 0 bX2_number (0, [(0, .ref x0), (1, .int x1)], [], σ, 0, 0)
noncomputable def qX2_number_64 (E : xEn) (d : Nat) (x0 : Nat) (σ : xH) : Option xR := xval E (xsem xT E d) 0 0 bX2_number (64, [(0, .ref x0)], [], σ, 0, 0)
noncomputable def qX2_number_72 (E : xEn) (d : Nat) (x0 : Nat) (σ : xH) : Option xR := xval E (xsem xT E d) 0 0 bX2_number (72, [(0, .ref x0)], [], σ, 0, 0)
noncomputable def qX2_number_77 (E : xEn) (d : Nat) (x0 : Nat) (σ : xH) : Option xR := xval E (xsem xT E d) 0 0 bX2_number (77, [(0, .ref x0)], [], σ, 0, 0)
noncomputable def qX2_number_85 (E : xEn) (d : Nat) (x0 : Nat) (σ : xH) : Option xR := xval E (xsem xT E d) 0 0 bX2_number (85, [(0, .ref x0)], [], σ, 0, 0)
noncomputable def qX2_number_90 (E : xEn) (d : Nat) (x0 : Nat) (σ : xH) : Option xR := xval E (xsem xT E d) 0 0 bX2_number (90, [(0, .ref x0)], [], σ, 0, 0)
noncomputable def qX2_number_98 (E : xEn) (d : Nat) (x0 : Nat) (σ : xH) : Option xR := xval E (xsem xT E d) 0 0 bX2_number (98, [(0, .ref x0)], [], σ, 0, 0)
noncomputable def qX2_number_106 (E : xEn) (d : Nat) (x0 : Nat) (σ : xH) : Option xR := xval E (xsem xT E d) 0 0 bX2_number (106, [(0, .ref x0)], [], σ, 0, 0)
noncomputable def qX2_number_114 (E : xEn) (d : Nat) (x0 : Nat) (σ : xH) : Option xR := xval E (xsem xT E d) 0 0 bX2_number (114, [(0, .ref x0)], [], σ, 0, 0)
noncomputable def qX2_number_119 (E : xEn) (d : Nat) (x0 : Nat) (σ : xH) : Option xR := xval E (xsem xT E d) 0 0 bX2_number (119, [(0, .ref x0)], [], σ, 0, 0)
noncomputable def qX2_number_124 (E : xEn) (d : Nat) (x0 : Nat) (σ : xH) : Option xR := xval E (xsem xT E d) 0 0 bX2_number (124, [(0, .ref x0)], [], σ, 0, 0)
noncomputable def qX2_number_129 (E : xEn) (d : Nat) (x0 : Nat) (σ : xH) : Option xR := xval E (xsem xT E d) 0 0 bX2_number (129, [(0, .ref x0)], [], σ, 0, 0)
noncomputable def qX2_number_137 (E : xEn) (d : Nat) (x0 : Nat) (σ : xH) : Option xR := xval E (xsem xT E d) 0 0 bX2_number (137, [(0, .ref x0)], [], σ, 0, 0)
noncomputable def qX2_number_145 (E : xEn) (d : Nat) (x0 : Nat) (σ : xH) : Option xR := xval E (xsem xT E d) 0 0 bX2_number (145, [(0, .ref x0)], [], σ, 0, 0)
set_option maxRecDepth 100000 in
theorem QX2_number_0 (E : xEn) (d : Nat) (x0 : Nat) (x1 : Int32) (σ : xH) : qX2_number_0 E d x0 x1 σ = if x1 = (nI 0) then qX2_number_64 E d x0 σ else if x1 = (nI 1) then qX2_number_72 E d x0 σ else if x1 = (nI 2) then qX2_number_77 E d x0 σ else if x1 = (nI 3) then qX2_number_85 E d x0 σ else if x1 = (nI 4) then qX2_number_90 E d x0 σ else if x1 = (nI 5) then qX2_number_98 E d x0 σ else if x1 = (nI 6) then qX2_number_106 E d x0 σ else if x1 = (nI 7) then qX2_number_114 E d x0 σ else if x1 = (nI 8) then qX2_number_119 E d x0 σ else if x1 = (nI 9) then qX2_number_124 E d x0 σ else if x1 = (nI 10) then qX2_number_129 E d x0 σ else if x1 = (nI 11) then qX2_number_137 E d x0 σ else qX2_number_145 E d x0 σ := xval_blkQ E (xsem xT E d) 0 0 bX2_number (pc := 0) rfl [(0, .ref x0), (1, .int x1)] [] σ 0 0
set_option maxRecDepth 100000 in
theorem QX2_number_64 (E : xEn) (d : Nat) (x0 : Nat) (σ : xH) : qX2_number_64 E d x0 σ = gR σ 2 0 x0 (fun v1 => gI σ 5 0 v1 (fun v2 => some (.inl (some (.int v2)), σ))) := xval_blkQ E (xsem xT E d) 0 0 bX2_number (pc := 64) rfl [(0, .ref x0)] [] σ 0 0
set_option maxRecDepth 100000 in
theorem QX2_number_72 (E : xEn) (d : Nat) (x0 : Nat) (σ : xH) : qX2_number_72 E d x0 σ = gI σ 2 4 x0 (fun v1 => some (.inl (some (.int v1)), σ)) := xval_blkQ E (xsem xT E d) 0 0 bX2_number (pc := 72) rfl [(0, .ref x0)] [] σ 0 0
set_option maxRecDepth 100000 in
theorem QX2_number_77 (E : xEn) (d : Nat) (x0 : Nat) (σ : xH) : qX2_number_77 E d x0 σ = gR σ 2 0 x0 (fun v1 => gI σ 5 1 v1 (fun v2 => some (.inl (some (.int v2)), σ))) := xval_blkQ E (xsem xT E d) 0 0 bX2_number (pc := 77) rfl [(0, .ref x0)] [] σ 0 0
set_option maxRecDepth 100000 in
theorem QX2_number_85 (E : xEn) (d : Nat) (x0 : Nat) (σ : xH) : qX2_number_85 E d x0 σ = gI σ 2 5 x0 (fun v1 => some (.inl (some (.int v1)), σ)) := xval_blkQ E (xsem xT E d) 0 0 bX2_number (pc := 85) rfl [(0, .ref x0)] [] σ 0 0
set_option maxRecDepth 100000 in
theorem QX2_number_90 (E : xEn) (d : Nat) (x0 : Nat) (σ : xH) : qX2_number_90 E d x0 σ = gR σ 2 1 x0 (fun v1 => gI σ 4 2 v1 (fun v2 => some (.inl (some (.int v2)), σ))) := xval_blkQ E (xsem xT E d) 0 0 bX2_number (pc := 90) rfl [(0, .ref x0)] [] σ 0 0
set_option maxRecDepth 100000 in
theorem QX2_number_98 (E : xEn) (d : Nat) (x0 : Nat) (σ : xH) : qX2_number_98 E d x0 σ = gR σ 2 1 x0 (fun v1 => gI σ 4 3 v1 (fun v2 => some (.inl (some (.int v2)), σ))) := xval_blkQ E (xsem xT E d) 0 0 bX2_number (pc := 98) rfl [(0, .ref x0)] [] σ 0 0
set_option maxRecDepth 100000 in
theorem QX2_number_106 (E : xEn) (d : Nat) (x0 : Nat) (σ : xH) : qX2_number_106 E d x0 σ = gR σ 2 1 x0 (fun v1 => gI σ 4 4 v1 (fun v2 => some (.inl (some (.int v2)), σ))) := xval_blkQ E (xsem xT E d) 0 0 bX2_number (pc := 106) rfl [(0, .ref x0)] [] σ 0 0
set_option maxRecDepth 100000 in
theorem QX2_number_114 (E : xEn) (d : Nat) (x0 : Nat) (σ : xH) : qX2_number_114 E d x0 σ = gI σ 2 6 x0 (fun v1 => some (.inl (some (.int v1)), σ)) := xval_blkQ E (xsem xT E d) 0 0 bX2_number (pc := 114) rfl [(0, .ref x0)] [] σ 0 0
set_option maxRecDepth 100000 in
theorem QX2_number_119 (E : xEn) (d : Nat) (x0 : Nat) (σ : xH) : qX2_number_119 E d x0 σ = gI σ 2 7 x0 (fun v1 => some (.inl (some (.int v1)), σ)) := xval_blkQ E (xsem xT E d) 0 0 bX2_number (pc := 119) rfl [(0, .ref x0)] [] σ 0 0
set_option maxRecDepth 100000 in
theorem QX2_number_124 (E : xEn) (d : Nat) (x0 : Nat) (σ : xH) : qX2_number_124 E d x0 σ = gI σ 2 8 x0 (fun v1 => some (.inl (some (.int v1)), σ)) := xval_blkQ E (xsem xT E d) 0 0 bX2_number (pc := 124) rfl [(0, .ref x0)] [] σ 0 0
set_option maxRecDepth 100000 in
theorem QX2_number_129 (E : xEn) (d : Nat) (x0 : Nat) (σ : xH) : qX2_number_129 E d x0 σ = gR σ 2 1 x0 (fun v1 => gO E σ 4 v1 (cI (xthr 1 some) (xsem xT E d kX4_sum [.ref v1] σ) (fun v2 σ1 => some (.inl (some (.int v2)), σ1)))) := xval_blkQ E (xsem xT E d) 0 0 bX2_number (pc := 129) rfl [(0, .ref x0)] [] σ 0 0
set_option maxRecDepth 100000 in
theorem QX2_number_137 (E : xEn) (d : Nat) (x0 : Nat) (σ : xH) : qX2_number_137 E d x0 σ = gR σ 2 1 x0 (fun v1 => gO E σ 4 v1 (cI (xthr 1 some) (xsem xT E d kX4_countBelieved [.ref v1] σ) (fun v2 σ1 => some (.inl (some (.int v2)), σ1)))) := xval_blkQ E (xsem xT E d) 0 0 bX2_number (pc := 137) rfl [(0, .ref x0)] [] σ 0 0
set_option maxRecDepth 100000 in
theorem QX2_number_145 (E : xEn) (d : Nat) (x0 : Nat) (σ : xH) : qX2_number_145 E d x0 σ = gR σ 2 2 x0 (fun v1 => gI σ 0 2 v1 (fun v2 => some (.inl (some (.int v2)), σ))) := xval_blkQ E (xsem xT E d) 0 0 bX2_number (pc := 145) rfl [(0, .ref x0)] [] σ 0 0
theorem eX2_number (E : xEn) (d : Nat) (x0 : Nat) (x1 : Int32) (σ : xH) : xsem xT E (d + 1) kX2_number [.ref x0, .int x1] σ = qX2_number_0 E d x0 x1 σ := rfl
noncomputable def qX2_isBlinkNext_0 (E : xEn) (d : Nat) (x0 : Nat) (σ : xH) : Option xR := xval E (xsem xT E d) 0 0 bX2_isBlinkNext (0, [(0, .ref x0)], [], σ, 0, 0)
set_option maxRecDepth 100000 in
theorem QX2_isBlinkNext_0 (E : xEn) (d : Nat) (x0 : Nat) (σ : xH) : qX2_isBlinkNext_0 E d x0 σ = gR σ 2 2 x0 (fun v1 => gI σ 2 4 x0 (fun v2 => gO E σ 0 v1 (cI (xthr 1 some) (xsem xT E d kX0_has [.ref v1, .int v2] σ) (fun v3 σ1 => xiret [5] v3 (some (.inl (some (.int v3)), σ1)))))) := xval_blkQ E (xsem xT E d) 0 0 bX2_isBlinkNext (pc := 0) rfl [(0, .ref x0)] [] σ 0 0
theorem eX2_isBlinkNext (E : xEn) (d : Nat) (x0 : Nat) (σ : xH) : xsem xT E (d + 1) kX2_isBlinkNext [.ref x0] σ = qX2_isBlinkNext_0 E d x0 σ := rfl
noncomputable def qX2_canSteal_0 (E : xEn) (d : Nat) (x0 : Nat) (x1 : Int32) (σ : xH) : Option xR := xval E (xsem xT E d) 0 0 bX2_canSteal (0, [(0, .ref x0), (1, .int x1)], [], σ, 0, 0)
noncomputable def qX2_canSteal_32 (E : xEn) (d : Nat) (σ : xH) : Option xR := xval E (xsem xT E d) 0 0 bX2_canSteal (32, [], [], σ, 0, 0)
noncomputable def qX2_canSteal_33 (E : xEn) (d : Nat) (s0 : Int32) (σ : xH) : Option xR := xval E (xsem xT E d) 0 0 bX2_canSteal (33, [], [.int s0], σ, 0, 0)
set_option maxRecDepth 100000 in
theorem QX2_canSteal_0 (E : xEn) (d : Nat) (x0 : Nat) (x1 : Int32) (σ : xH) : qX2_canSteal_0 E d x0 x1 σ = gO E σ 2 x0 (cI (xthr 1 some) (xsem xT E d kX2_isBlinkNext [.ref x0] σ) (fun v1 σ1 => if v1 = (nI 0) then qX2_canSteal_32 E d σ1 else gR σ1 2 1 x0 (fun v2 => gI σ1 4 4 v2 (fun v3 => if v3 ≤ (nI 0) then qX2_canSteal_32 E d σ1 else gR σ1 2 0 x0 (fun v4 => gI σ1 5 1 v4 (fun v5 => if v5 = x1 then qX2_canSteal_33 E d (nI 1) σ1 else qX2_canSteal_32 E d σ1)))))) := xval_blkQ E (xsem xT E d) 0 0 bX2_canSteal (pc := 0) rfl [(0, .ref x0), (1, .int x1)] [] σ 0 0
set_option maxRecDepth 100000 in
theorem QX2_canSteal_32 (E : xEn) (d : Nat) (σ : xH) : qX2_canSteal_32 E d σ = qX2_canSteal_33 E d (nI 0) σ := xval_blkQ E (xsem xT E d) 0 0 bX2_canSteal (pc := 32) rfl [] [] σ 0 0
set_option maxRecDepth 100000 in
theorem QX2_canSteal_33 (E : xEn) (d : Nat) (s0 : Int32) (σ : xH) : qX2_canSteal_33 E d s0 σ = xiret [5] s0 (some (.inl (some (.int s0)), σ)) := xval_blkQ E (xsem xT E d) 0 0 bX2_canSteal (pc := 33) rfl [] [.int s0] σ 0 0
theorem eX2_canSteal (E : xEn) (d : Nat) (x0 : Nat) (x1 : Int32) (σ : xH) : xsem xT E (d + 1) kX2_canSteal [.ref x0, .int x1] σ = qX2_canSteal_0 E d x0 x1 σ := rfl
noncomputable def qX2_canPlant_0 (E : xEn) (d : Nat) (x0 : Nat) (σ : xH) : Option xR := xval E (xsem xT E d) 0 0 bX2_canPlant (0, [(0, .ref x0)], [], σ, 0, 0)
noncomputable def qX2_canPlant_38 (E : xEn) (d : Nat) (σ : xH) : Option xR := xval E (xsem xT E d) 0 0 bX2_canPlant (38, [], [], σ, 0, 0)
noncomputable def qX2_canPlant_39 (E : xEn) (d : Nat) (s0 : Int32) (σ : xH) : Option xR := xval E (xsem xT E d) 0 0 bX2_canPlant (39, [], [.int s0], σ, 0, 0)
set_option maxRecDepth 100000 in
theorem QX2_canPlant_0 (E : xEn) (d : Nat) (x0 : Nat) (σ : xH) : qX2_canPlant_0 E d x0 σ = gO E σ 2 x0 (cI (xthr 1 some) (xsem xT E d kX2_isBlinkNext [.ref x0] σ) (fun v1 σ1 => if v1 = (nI 0) then qX2_canPlant_38 E d σ1 else gR σ1 2 1 x0 (fun v2 => gI σ1 4 4 v2 (fun v3 => if v3 ≤ (nI 0) then qX2_canPlant_38 E d σ1 else gR σ1 2 0 x0 (fun v4 => gI σ1 5 1 v4 (fun v5 => gR σ1 2 0 x0 (fun v6 => gI σ1 5 0 v6 (fun v7 => if v5 = v7 then qX2_canPlant_39 E d (nI 1) σ1 else qX2_canPlant_38 E d σ1)))))))) := xval_blkQ E (xsem xT E d) 0 0 bX2_canPlant (pc := 0) rfl [(0, .ref x0)] [] σ 0 0
set_option maxRecDepth 100000 in
theorem QX2_canPlant_38 (E : xEn) (d : Nat) (σ : xH) : qX2_canPlant_38 E d σ = qX2_canPlant_39 E d (nI 0) σ := xval_blkQ E (xsem xT E d) 0 0 bX2_canPlant (pc := 38) rfl [] [] σ 0 0
set_option maxRecDepth 100000 in
theorem QX2_canPlant_39 (E : xEn) (d : Nat) (s0 : Int32) (σ : xH) : qX2_canPlant_39 E d s0 σ = xiret [5] s0 (some (.inl (some (.int s0)), σ)) := xval_blkQ E (xsem xT E d) 0 0 bX2_canPlant (pc := 39) rfl [] [.int s0] σ 0 0
theorem eX2_canPlant (E : xEn) (d : Nat) (x0 : Nat) (σ : xH) : xsem xT E (d + 1) kX2_canPlant [.ref x0] σ = qX2_canPlant_0 E d x0 σ := rfl
noncomputable def qX2_makeMove_0 (E : xEn) (d : Nat) (x0 : Nat) (x1 : Int32) (x2 : Int32) (x3 : Int32) (σ : xH) : Option xR := xval E (xsem xT E d) 0 0 bX2_makeMove (0, [(0, .ref x0), (1, .int x1), (2, .int x2), (3, .int x3)], [], σ, 0, 0)
noncomputable def qX2_makeMove_35 (E : xEn) (d : Nat) (x0 : Nat) (x4 : Int32) (σ : xH) : Option xR := xval E (xsem xT E d) 0 0 bX2_makeMove (35, [(0, .ref x0), (4, .int x4)], [], σ, 0, 0)
set_option maxRecDepth 100000 in
theorem QX2_makeMove_0 (E : xEn) (d : Nat) (x0 : Nat) (x1 : Int32) (x2 : Int32) (x3 : Int32) (σ : xH) : qX2_makeMove_0 E d x0 x1 x2 x3 σ = gO E σ 2 x0 (cI (xthr 1 some) (xsem xT E d kX2_isBlinkNext [.ref x0] σ) (fun v1 σ1 => gR σ1 2 1 x0 (fun v2 => gR σ1 2 0 x0 (fun v3 => gO E σ1 4 v2 (cV (xthr 1 some) (xsem xT E d kX4_followMove [.ref v2, .ref v3, .int x1, .int x2, .int x3, .int v1] σ1) (fun σ2 => if x1 = (nI 0) then qX2_makeMove_35 E d x0 v1 σ2 else gR σ2 2 0 x0 (fun v4 => gO E σ2 5 v4 (cV (xthr 1 some) (xsem xT E d kX5_exchange [.ref v4, .int x2, .int x3] σ2) (fun σ3 => qX2_makeMove_35 E d x0 v1 σ3))))))))) := xval_blkQ E (xsem xT E d) 0 0 bX2_makeMove (pc := 0) rfl [(0, .ref x0), (1, .int x1), (2, .int x2), (3, .int x3)] [] σ 0 0
set_option maxRecDepth 100000 in
theorem QX2_makeMove_35 (E : xEn) (d : Nat) (x0 : Nat) (x4 : Int32) (σ : xH) : qX2_makeMove_35 E d x0 x4 σ = gO E σ 2 x0 (cV (xthr 1 some) (xsem xT E d kX2_countStep [.ref x0, .int x4] σ) (fun σ1 => xiret [5] x4 (some (.inl (some (.int x4)), σ1)))) := xval_blkQ E (xsem xT E d) 0 0 bX2_makeMove (pc := 35) rfl [(0, .ref x0), (4, .int x4)] [] σ 0 0
theorem eX2_makeMove (E : xEn) (d : Nat) (x0 : Nat) (x1 : Int32) (x2 : Int32) (x3 : Int32) (σ : xH) : xsem xT E (d + 1) kX2_makeMove [.ref x0, .int x1, .int x2, .int x3] σ = qX2_makeMove_0 E d x0 x1 x2 x3 σ := rfl
noncomputable def qX2_makeStill_0 (E : xEn) (d : Nat) (x0 : Nat) (x1 : Int32) (σ : xH) : Option xR := xval E (xsem xT E d) 0 0 bX2_makeStill (0, [(0, .ref x0), (1, .int x1)], [], σ, 0, 0)
set_option maxRecDepth 100000 in
theorem QX2_makeStill_0 (E : xEn) (d : Nat) (x0 : Nat) (x1 : Int32) (σ : xH) : qX2_makeStill_0 E d x0 x1 σ = gO E σ 2 x0 (cI (xthr 1 some) (xsem xT E d kX2_isBlinkNext [.ref x0] σ) (fun v1 σ1 => gR σ1 2 1 x0 (fun v2 => gR σ1 2 0 x0 (fun v3 => gO E σ1 4 v2 (cV (xthr 1 some) (xsem xT E d kX4_followStill [.ref v2, .ref v3, .int v1] σ1) (fun σ2 => gR σ2 2 0 x0 (fun v4 => gP σ2 5 1 v4 (.int x1) (fun σ3 => gO E σ3 2 x0 (cV (xthr 1 some) (xsem xT E d kX2_countStep [.ref x0, .int v1] σ3) (fun σ4 => xiret [5] v1 (some (.inl (some (.int v1)), σ4)))))))))))) := xval_blkQ E (xsem xT E d) 0 0 bX2_makeStill (pc := 0) rfl [(0, .ref x0), (1, .int x1)] [] σ 0 0
theorem eX2_makeStill (E : xEn) (d : Nat) (x0 : Nat) (x1 : Int32) (σ : xH) : xsem xT E (d + 1) kX2_makeStill [.ref x0, .int x1] σ = qX2_makeStill_0 E d x0 x1 σ := rfl
noncomputable def qX2_countStep_0 (E : xEn) (d : Nat) (x0 : Nat) (x1 : Int32) (σ : xH) : Option xR := xval E (xsem xT E d) 0 0 bX2_countStep (0, [(0, .ref x0), (1, .int x1)], [], σ, 0, 0)
noncomputable def qX2_countStep_24 (E : xEn) (d : Nat) (σ : xH) : Option xR := xval E (xsem xT E d) 0 0 bX2_countStep (24, [], [], σ, 0, 0)
set_option maxRecDepth 100000 in
theorem QX2_countStep_0 (E : xEn) (d : Nat) (x0 : Nat) (x1 : Int32) (σ : xH) : qX2_countStep_0 E d x0 x1 σ = gI σ 2 4 x0 (fun v1 => gP σ 2 4 x0 (.int (v1 + (nI 1))) (fun σ1 => if x1 = (nI 0) then qX2_countStep_24 E d σ1 else gI σ1 2 5 x0 (fun v2 => gP σ1 2 5 x0 (.int (v2 + (nI 1))) (fun σ2 => qX2_countStep_24 E d σ2)))) := xval_blkQ E (xsem xT E d) 0 0 bX2_countStep (pc := 0) rfl [(0, .ref x0), (1, .int x1)] [] σ 0 0
set_option maxRecDepth 100000 in
theorem QX2_countStep_24 (E : xEn) (d : Nat) (σ : xH) : qX2_countStep_24 E d σ = some (.inl none, σ) := xval_blkQ E (xsem xT E d) 0 0 bX2_countStep (pc := 24) rfl [] [] σ 0 0
theorem eX2_countStep (E : xEn) (d : Nat) (x0 : Nat) (x1 : Int32) (σ : xH) : xsem xT E (d + 1) kX2_countStep [.ref x0, .int x1] σ = qX2_countStep_0 E d x0 x1 σ := rfl
noncomputable def qX2_lookUnder_0 (E : xEn) (d : Nat) (x0 : Nat) (x1 : Int32) (σ : xH) : Option xR := xval E (xsem xT E d) 0 0 bX2_lookUnder (0, [(0, .ref x0), (1, .int x1)], [], σ, 0, 0)
noncomputable def qX2_lookUnder_15 (E : xEn) (d : Nat) (x0 : Nat) (x1 : Int32) (σ : xH) : Option xR := xval E (xsem xT E d) 0 0 bX2_lookUnder (15, [(0, .ref x0), (1, .int x1)], [], σ, 0, 0)
noncomputable def qX2_lookUnder_16 (E : xEn) (d : Nat) (x0 : Nat) (x1 : Int32) (s0 : Int32) (σ : xH) : Option xR := xval E (xsem xT E d) 0 0 bX2_lookUnder (16, [(0, .ref x0), (1, .int x1)], [.int s0], σ, 0, 0)
noncomputable def qX2_lookUnder_32 (E : xEn) (d : Nat) (x0 : Nat) (x1 : Int32) (x2 : Int32) (σ : xH) : Option xR := xval E (xsem xT E d) 0 0 bX2_lookUnder (32, [(0, .ref x0), (1, .int x1), (2, .int x2)], [], σ, 0, 0)
noncomputable def qX2_lookUnder_40 (E : xEn) (d : Nat) (x2 : Int32) (σ : xH) : Option xR := xval E (xsem xT E d) 0 0 bX2_lookUnder (40, [(2, .int x2)], [], σ, 0, 0)
set_option maxRecDepth 100000 in
theorem QX2_lookUnder_0 (E : xEn) (d : Nat) (x0 : Nat) (x1 : Int32) (σ : xH) : qX2_lookUnder_0 E d x0 x1 σ = gR σ 2 0 x0 (fun v1 => gI σ 5 1 v1 (fun v2 => if v2 = x1 then qX2_lookUnder_16 E d x0 x1 (nI 1) σ else qX2_lookUnder_15 E d x0 x1 σ)) := xval_blkQ E (xsem xT E d) 0 0 bX2_lookUnder (pc := 0) rfl [(0, .ref x0), (1, .int x1)] [] σ 0 0
set_option maxRecDepth 100000 in
theorem QX2_lookUnder_15 (E : xEn) (d : Nat) (x0 : Nat) (x1 : Int32) (σ : xH) : qX2_lookUnder_15 E d x0 x1 σ = qX2_lookUnder_16 E d x0 x1 (nI 0) σ := xval_blkQ E (xsem xT E d) 0 0 bX2_lookUnder (pc := 15) rfl [(0, .ref x0), (1, .int x1)] [] σ 0 0
set_option maxRecDepth 100000 in
theorem QX2_lookUnder_16 (E : xEn) (d : Nat) (x0 : Nat) (x1 : Int32) (s0 : Int32) (σ : xH) : qX2_lookUnder_16 E d x0 x1 s0 σ = if s0 = (nI 0) then qX2_lookUnder_32 E d x0 x1 s0 σ else gR σ 2 1 x0 (fun v1 => gO E σ 4 v1 (cV (xthr 1 some) (xsem xT E d kX4_know [.ref v1, .int x1] σ) (fun σ1 => qX2_lookUnder_40 E d s0 σ1))) := xval_blkQ E (xsem xT E d) 0 0 bX2_lookUnder (pc := 16) rfl [(0, .ref x0), (1, .int x1)] [.int s0] σ 0 0
set_option maxRecDepth 100000 in
theorem QX2_lookUnder_32 (E : xEn) (d : Nat) (x0 : Nat) (x1 : Int32) (x2 : Int32) (σ : xH) : qX2_lookUnder_32 E d x0 x1 x2 σ = gR σ 2 1 x0 (fun v1 => gO E σ 4 v1 (cV (xthr 1 some) (xsem xT E d kX4_ruleOut [.ref v1, .int x1] σ) (fun σ1 => qX2_lookUnder_40 E d x2 σ1))) := xval_blkQ E (xsem xT E d) 0 0 bX2_lookUnder (pc := 32) rfl [(0, .ref x0), (1, .int x1), (2, .int x2)] [] σ 0 0
set_option maxRecDepth 100000 in
theorem QX2_lookUnder_40 (E : xEn) (d : Nat) (x2 : Int32) (σ : xH) : qX2_lookUnder_40 E d x2 σ = xiret [5] x2 (some (.inl (some (.int x2)), σ)) := xval_blkQ E (xsem xT E d) 0 0 bX2_lookUnder (pc := 40) rfl [(2, .int x2)] [] σ 0 0
theorem eX2_lookUnder (E : xEn) (d : Nat) (x0 : Nat) (x1 : Int32) (σ : xH) : xsem xT E (d + 1) kX2_lookUnder [.ref x0, .int x1] σ = qX2_lookUnder_0 E d x0 x1 σ := rfl
end
section
/-! EQUATIONS OF THE BLOCKS, written by wip/p31/geneq.py. -/
noncomputable def qX3_init_0 (E : xEn) (d : Nat) (bc bs : Nat) (x0 : Nat) (σ : xH) : Option xR := xval E (xsem xT E d) 4 2003 bX3_init (0, [(0, .ref x0)], [], σ, bc, bs)
set_option maxRecDepth 100000 in
theorem QX3_init_0 (E : xEn) (d : Nat) (bc bs : Nat) (x0 : Nat) (σ : xH) : qX3_init_0 E d bc bs x0 σ = bif Nat.ble (bc + 1) 4 && (Nat.ble (bs + 500) 2003 && Nat.ble 500 100000) then nwA σ 1 500 (fun v1 σ1 => gP σ1 3 0 x0 (.ref v1) (fun σ2 => bif Nat.ble ((bc + 1) + 1) 4 && (Nat.ble ((bs + 500) + 501) 2003 && Nat.ble 501 100000) then nwQ σ2 4 501 (fun v2 σ3 => gP σ3 3 3 x0 (.ref v2) (fun σ4 => bif Nat.ble (((bc + 1) + 1) + 1) 4 && (Nat.ble (((bs + 500) + 501) + 501) 2003 && Nat.ble 501 100000) then nwA σ4 0 501 (fun v3 σ5 => gP σ5 3 4 x0 (.ref v3) (fun σ6 => bif Nat.ble ((((bc + 1) + 1) + 1) + 1) 4 && (Nat.ble ((((bs + 500) + 501) + 501) + 501) 2003 && Nat.ble 501 100000) then nwA σ6 0 501 (fun v4 σ7 => gP σ7 3 5 x0 (.ref v4) (fun σ8 => gP σ8 3 9 x0 (.int (-1 : Int32)) (fun σ9 => some (.inl none, σ9)))) else none)) else none)) else none)) else none := xval_blkQ E (xsem xT E d) 4 2003 bX3_init (pc := 0) rfl [(0, .ref x0)] [] σ bc bs
theorem eX3_init (E : xEn) (d : Nat) (x0 : Nat) (σ : xH) : xsem xT E (d + 1) kX3_init [.ref x0] σ = qX3_init_0 E d 0 0 x0 σ := rfl
noncomputable def qX3_hasRoom_0 (E : xEn) (d : Nat) (x0 : Nat) (x1 : Int32) (σ : xH) : Option xR := xval E (xsem xT E d) 0 0 bX3_hasRoom (0, [(0, .ref x0), (1, .int x1)], [], σ, 0, 0)
noncomputable def qX3_hasRoom_18 (E : xEn) (d : Nat) (σ : xH) : Option xR := xval E (xsem xT E d) 0 0 bX3_hasRoom (18, [], [], σ, 0, 0)
noncomputable def qX3_hasRoom_19 (E : xEn) (d : Nat) (s0 : Int32) (σ : xH) : Option xR := xval E (xsem xT E d) 0 0 bX3_hasRoom (19, [], [.int s0], σ, 0, 0)
set_option maxRecDepth 100000 in
theorem QX3_hasRoom_0 (E : xEn) (d : Nat) (x0 : Nat) (x1 : Int32) (σ : xH) : qX3_hasRoom_0 E d x0 x1 σ = gI σ 3 1 x0 (fun v1 => gR σ 3 0 x0 (fun v2 => aN E σ v2 (fun v3 => if v3 < (v1 + x1) then qX3_hasRoom_18 E d σ else qX3_hasRoom_19 E d (nI 1) σ))) := xval_blkQ E (xsem xT E d) 0 0 bX3_hasRoom (pc := 0) rfl [(0, .ref x0), (1, .int x1)] [] σ 0 0
set_option maxRecDepth 100000 in
theorem QX3_hasRoom_18 (E : xEn) (d : Nat) (σ : xH) : qX3_hasRoom_18 E d σ = qX3_hasRoom_19 E d (nI 0) σ := xval_blkQ E (xsem xT E d) 0 0 bX3_hasRoom (pc := 18) rfl [] [] σ 0 0
set_option maxRecDepth 100000 in
theorem QX3_hasRoom_19 (E : xEn) (d : Nat) (s0 : Int32) (σ : xH) : qX3_hasRoom_19 E d s0 σ = xiret [5] s0 (some (.inl (some (.int s0)), σ)) := xval_blkQ E (xsem xT E d) 0 0 bX3_hasRoom (pc := 19) rfl [] [.int s0] σ 0 0
theorem eX3_hasRoom (E : xEn) (d : Nat) (x0 : Nat) (x1 : Int32) (σ : xH) : xsem xT E (d + 1) kX3_hasRoom [.ref x0, .int x1] σ = qX3_hasRoom_0 E d x0 x1 σ := rfl
noncomputable def qX3_putWord_0 (E : xEn) (d : Nat) (x0 : Nat) (x1 : Int32) (σ : xH) : Option xR := xval E (xsem xT E d) 0 0 bX3_putWord (0, [(0, .ref x0), (1, .int x1)], [], σ, 0, 0)
noncomputable def qX3_putWord_3 (E : xEn) (d : Nat) (x0 : Nat) (x1 : Int32) (x2 : Int32) (σ : xH) : Option xR := xval E (xsem xT E d) 0 0 bX3_putWord (3, [(0, .ref x0), (1, .int x1), (2, .int x2)], [], σ, 0, 0)
noncomputable def qX3_putWord_42 (E : xEn) (d : Nat) (x0 : Nat) (x1 : Int32) (x2 : Int32) (σ : xH) : Option xR := xval E (xsem xT E d) 0 0 bX3_putWord (42, [(0, .ref x0), (1, .int x1), (2, .int x2)], [], σ, 0, 0)
noncomputable def qX3_putWord_48 (E : xEn) (d : Nat) (σ : xH) : Option xR := xval E (xsem xT E d) 0 0 bX3_putWord (48, [], [], σ, 0, 0)
set_option maxRecDepth 100000 in
theorem QX3_putWord_0 (E : xEn) (d : Nat) (x0 : Nat) (x1 : Int32) (σ : xH) : qX3_putWord_0 E d x0 x1 σ = qX3_putWord_3 E d x0 x1 (nI 24) σ := xval_blkQ E (xsem xT E d) 0 0 bX3_putWord (pc := 0) rfl [(0, .ref x0), (1, .int x1)] [] σ 0 0
set_option maxRecDepth 100000 in
theorem QX3_putWord_3 (E : xEn) (d : Nat) (x0 : Nat) (x1 : Int32) (x2 : Int32) (σ : xH) : qX3_putWord_3 E d x0 x1 x2 σ = if x2 < (nI 0) then qX3_putWord_48 E d σ else gI σ 3 1 x0 (fun v1 => gR σ 3 0 x0 (fun v2 => aN E σ v2 (fun v3 => if v3 ≤ v1 then qX3_putWord_42 E d x0 x1 x2 σ else gR σ 3 0 x0 (fun v4 => gI σ 3 1 x0 (fun v5 => sB σ v4 v5 ((x1 >>> (x2 &&& 31)).toInt8.toInt32) (fun σ1 => gI σ1 3 1 x0 (fun v6 => gP σ1 3 1 x0 (.int (v6 + (nI 1))) (fun σ2 => qX3_putWord_42 E d x0 x1 x2 σ2)))))))) := xval_blkQ E (xsem xT E d) 0 0 bX3_putWord (pc := 3) rfl [(0, .ref x0), (1, .int x1), (2, .int x2)] [] σ 0 0
set_option maxRecDepth 100000 in
theorem QX3_putWord_42 (E : xEn) (d : Nat) (x0 : Nat) (x1 : Int32) (x2 : Int32) (σ : xH) : qX3_putWord_42 E d x0 x1 x2 σ = qX3_putWord_3 E d x0 x1 (x2 + (-8 : Int32)) σ := xval_blkQ E (xsem xT E d) 0 0 bX3_putWord (pc := 42) rfl [(0, .ref x0), (1, .int x1), (2, .int x2)] [] σ 0 0
set_option maxRecDepth 100000 in
theorem QX3_putWord_48 (E : xEn) (d : Nat) (σ : xH) : qX3_putWord_48 E d σ = some (.inl none, σ) := xval_blkQ E (xsem xT E d) 0 0 bX3_putWord (pc := 48) rfl [] [] σ 0 0
theorem eX3_putWord (E : xEn) (d : Nat) (x0 : Nat) (x1 : Int32) (σ : xH) : xsem xT E (d + 1) kX3_putWord [.ref x0, .int x1] σ = qX3_putWord_0 E d x0 x1 σ := rfl
noncomputable def qX3_begin_0 (E : xEn) (d : Nat) (x0 : Nat) (x1 : Int32) (σ : xH) : Option xR := xval E (xsem xT E d) 0 0 bX3_begin (0, [(0, .ref x0), (1, .int x1)], [], σ, 0, 0)
noncomputable def qX3_begin_40 (E : xEn) (d : Nat) (x0 : Nat) (x2 : Int32) (x3 : Int32) (σ : xH) : Option xR := xval E (xsem xT E d) 0 0 bX3_begin (40, [(0, .ref x0), (2, .int x2), (3, .int x3)], [], σ, 0, 0)
noncomputable def qX3_begin_72 (E : xEn) (d : Nat) (x0 : Nat) (x3 : Int32) (x4 : Int32) (σ : xH) : Option xR := xval E (xsem xT E d) 0 0 bX3_begin (72, [(0, .ref x0), (3, .int x3), (4, .int x4)], [], σ, 0, 0)
noncomputable def qX3_begin_79 (E : xEn) (d : Nat) (x0 : Nat) (x3 : Int32) (x4 : Int32) (σ : xH) : Option xR := xval E (xsem xT E d) 0 0 bX3_begin (79, [(0, .ref x0), (3, .int x3), (4, .int x4)], [], σ, 0, 0)
noncomputable def qX3_begin_88 (E : xEn) (d : Nat) (x0 : Nat) (σ : xH) : Option xR := xval E (xsem xT E d) 0 0 bX3_begin (88, [(0, .ref x0)], [], σ, 0, 0)
set_option maxRecDepth 100000 in
theorem QX3_begin_0 (E : xEn) (d : Nat) (x0 : Nat) (x1 : Int32) (σ : xH) : qX3_begin_0 E d x0 x1 σ = gI σ 3 1 x0 (fun v1 => gP σ 3 2 x0 (.int (mxI (nI 0) (mnI x1 v1))) (fun σ1 => gP σ1 3 6 x0 (.int (nI 0)) (fun σ2 => gP σ2 3 7 x0 (.int (nI 0)) (fun σ3 => gP σ3 3 8 x0 (.int (nI 0)) (fun σ4 => gP σ4 3 9 x0 (.int (-1 : Int32)) (fun σ5 => qX3_begin_40 E d x0 (nI 0) (nI 0) σ5)))))) := xval_blkQ E (xsem xT E d) 0 0 bX3_begin (pc := 0) rfl [(0, .ref x0), (1, .int x1)] [] σ 0 0
set_option maxRecDepth 100000 in
theorem QX3_begin_40 (E : xEn) (d : Nat) (x0 : Nat) (x2 : Int32) (x3 : Int32) (σ : xH) : qX3_begin_40 E d x0 x2 x3 σ = gI σ 3 2 x0 (fun v1 => if v1 ≤ x3 then qX3_begin_88 E d x0 σ else gO E σ 3 x0 (cI (xthr 1 some) (xsem xT E d kX3_kindAt [.ref x0, .int x3] σ) (fun v2 σ1 => if v2 = (nI 3) then qX3_begin_72 E d x0 x3 v2 σ1 else if v2 = (nI 0) then qX3_begin_79 E d x0 x3 v2 σ1 else if v2 = x2 then qX3_begin_79 E d x0 x3 v2 σ1 else qX3_begin_72 E d x0 x3 v2 σ1))) := xval_blkQ E (xsem xT E d) 0 0 bX3_begin (pc := 40) rfl [(0, .ref x0), (2, .int x2), (3, .int x3)] [] σ 0 0
set_option maxRecDepth 100000 in
theorem QX3_begin_72 (E : xEn) (d : Nat) (x0 : Nat) (x3 : Int32) (x4 : Int32) (σ : xH) : qX3_begin_72 E d x0 x3 x4 σ = gO E σ 3 x0 (cV (xthr 1 some) (xsem xT E d kX3_addToken [.ref x0, .int x3, .int x4] σ) (fun σ1 => qX3_begin_79 E d x0 x3 x4 σ1)) := xval_blkQ E (xsem xT E d) 0 0 bX3_begin (pc := 72) rfl [(0, .ref x0), (3, .int x3), (4, .int x4)] [] σ 0 0
set_option maxRecDepth 100000 in
theorem QX3_begin_79 (E : xEn) (d : Nat) (x0 : Nat) (x3 : Int32) (x4 : Int32) (σ : xH) : qX3_begin_79 E d x0 x3 x4 σ = qX3_begin_40 E d x0 x4 (x3 + (nI 1)) σ := xval_blkQ E (xsem xT E d) 0 0 bX3_begin (pc := 79) rfl [(0, .ref x0), (3, .int x3), (4, .int x4)] [] σ 0 0
set_option maxRecDepth 100000 in
theorem QX3_begin_88 (E : xEn) (d : Nat) (x0 : Nat) (σ : xH) : qX3_begin_88 E d x0 σ = gI σ 3 2 x0 (fun v1 => gO E σ 3 x0 (cV (xthr 1 some) (xsem xT E d kX3_put [.ref x0, .ref (E.1 0), .int v1, .int (nI 0)] σ) (fun σ1 => gP σ1 3 1 x0 (.int (nI 0)) (fun σ2 => some (.inl none, σ2))))) := xval_blkQ E (xsem xT E d) 0 0 bX3_begin (pc := 88) rfl [(0, .ref x0)] [] σ 0 0
theorem eX3_begin (E : xEn) (d : Nat) (x0 : Nat) (x1 : Int32) (σ : xH) : xsem xT E (d + 1) kX3_begin [.ref x0, .int x1] σ = qX3_begin_0 E d x0 x1 σ := rfl
noncomputable def qX3_kindAt_0 (E : xEn) (d : Nat) (x0 : Nat) (x1 : Int32) (σ : xH) : Option xR := xval E (xsem xT E d) 0 0 bX3_kindAt (0, [(0, .ref x0), (1, .int x1)], [], σ, 0, 0)
noncomputable def qX3_kindAt_15 (E : xEn) (d : Nat) (x2 : Int32) (σ : xH) : Option xR := xval E (xsem xT E d) 0 0 bX3_kindAt (15, [(2, .int x2)], [], σ, 0, 0)
noncomputable def qX3_kindAt_29 (E : xEn) (d : Nat) (x2 : Int32) (σ : xH) : Option xR := xval E (xsem xT E d) 0 0 bX3_kindAt (29, [(2, .int x2)], [], σ, 0, 0)
noncomputable def qX3_kindAt_45 (E : xEn) (d : Nat) (σ : xH) : Option xR := xval E (xsem xT E d) 0 0 bX3_kindAt (45, [], [], σ, 0, 0)
noncomputable def qX3_kindAt_46 (E : xEn) (d : Nat) (s0 : Int32) (σ : xH) : Option xR := xval E (xsem xT E d) 0 0 bX3_kindAt (46, [], [.int s0], σ, 0, 0)
set_option maxRecDepth 100000 in
theorem QX3_kindAt_0 (E : xEn) (d : Nat) (x0 : Nat) (x1 : Int32) (σ : xH) : qX3_kindAt_0 E d x0 x1 σ = gR σ 3 0 x0 (fun v1 => aB E σ v1 x1 (fun v2 => if v2 = (nI 32) then some (.inl (some (.int (nI 0))), σ) else qX3_kindAt_15 E d v2 σ)) := xval_blkQ E (xsem xT E d) 0 0 bX3_kindAt (pc := 0) rfl [(0, .ref x0), (1, .int x1)] [] σ 0 0
set_option maxRecDepth 100000 in
theorem QX3_kindAt_15 (E : xEn) (d : Nat) (x2 : Int32) (σ : xH) : qX3_kindAt_15 E d x2 σ = if x2 < (nI 48) then qX3_kindAt_29 E d x2 σ else if (nI 57) < x2 then qX3_kindAt_29 E d x2 σ else some (.inl (some (.int (nI 1))), σ) := xval_blkQ E (xsem xT E d) 0 0 bX3_kindAt (pc := 15) rfl [(2, .int x2)] [] σ 0 0
set_option maxRecDepth 100000 in
theorem QX3_kindAt_29 (E : xEn) (d : Nat) (x2 : Int32) (σ : xH) : qX3_kindAt_29 E d x2 σ = if x2 < (nI 97) then qX3_kindAt_45 E d σ else if (nI 122) < x2 then qX3_kindAt_45 E d σ else qX3_kindAt_46 E d (nI 2) σ := xval_blkQ E (xsem xT E d) 0 0 bX3_kindAt (pc := 29) rfl [(2, .int x2)] [] σ 0 0
set_option maxRecDepth 100000 in
theorem QX3_kindAt_45 (E : xEn) (d : Nat) (σ : xH) : qX3_kindAt_45 E d σ = qX3_kindAt_46 E d (nI 3) σ := xval_blkQ E (xsem xT E d) 0 0 bX3_kindAt (pc := 45) rfl [] [] σ 0 0
set_option maxRecDepth 100000 in
theorem QX3_kindAt_46 (E : xEn) (d : Nat) (s0 : Int32) (σ : xH) : qX3_kindAt_46 E d s0 σ = some (.inl (some (.int s0)), σ) := xval_blkQ E (xsem xT E d) 0 0 bX3_kindAt (pc := 46) rfl [] [.int s0] σ 0 0
theorem eX3_kindAt (E : xEn) (d : Nat) (x0 : Nat) (x1 : Int32) (σ : xH) : xsem xT E (d + 1) kX3_kindAt [.ref x0, .int x1] σ = qX3_kindAt_0 E d x0 x1 σ := rfl
noncomputable def qX3_addToken_0 (E : xEn) (d : Nat) (x0 : Nat) (x1 : Int32) (x2 : Int32) (σ : xH) : Option xR := xval E (xsem xT E d) 0 0 bX3_addToken (0, [(0, .ref x0), (1, .int x1), (2, .int x2)], [], σ, 0, 0)
noncomputable def qX3_addToken_4 (E : xEn) (d : Nat) (x0 : Nat) (x1 : Int32) (x2 : Int32) (x3 : Int32) (σ : xH) : Option xR := xval E (xsem xT E d) 0 0 bX3_addToken (4, [(0, .ref x0), (1, .int x1), (2, .int x2), (3, .int x3)], [], σ, 0, 0)
noncomputable def qX3_addToken_32 (E : xEn) (d : Nat) (x0 : Nat) (x1 : Int32) (x2 : Int32) (x3 : Int32) (σ : xH) : Option xR := xval E (xsem xT E d) 0 0 bX3_addToken (32, [(0, .ref x0), (1, .int x1), (2, .int x2), (3, .int x3)], [], σ, 0, 0)
noncomputable def qX3_addToken_54 (E : xEn) (d : Nat) (x0 : Nat) (x1 : Int32) (x3 : Int32) (σ : xH) : Option xR := xval E (xsem xT E d) 0 0 bX3_addToken (54, [(0, .ref x0), (1, .int x1), (3, .int x3)], [], σ, 0, 0)
noncomputable def qX3_addToken_66 (E : xEn) (d : Nat) (σ : xH) : Option xR := xval E (xsem xT E d) 0 0 bX3_addToken (66, [], [], σ, 0, 0)
set_option maxRecDepth 100000 in
theorem QX3_addToken_0 (E : xEn) (d : Nat) (x0 : Nat) (x1 : Int32) (x2 : Int32) (σ : xH) : qX3_addToken_0 E d x0 x1 x2 σ = qX3_addToken_4 E d x0 x1 x2 (x1 + (nI 1)) σ := xval_blkQ E (xsem xT E d) 0 0 bX3_addToken (pc := 0) rfl [(0, .ref x0), (1, .int x1), (2, .int x2)] [] σ 0 0
set_option maxRecDepth 100000 in
theorem QX3_addToken_4 (E : xEn) (d : Nat) (x0 : Nat) (x1 : Int32) (x2 : Int32) (x3 : Int32) (σ : xH) : qX3_addToken_4 E d x0 x1 x2 x3 σ = if x2 = (nI 3) then qX3_addToken_32 E d x0 x1 x2 x3 σ else gI σ 3 2 x0 (fun v1 => if v1 ≤ x3 then qX3_addToken_32 E d x0 x1 x2 x3 σ else gO E σ 3 x0 (cI (xthr 1 some) (xsem xT E d kX3_kindAt [.ref x0, .int x3] σ) (fun v2 σ1 => if v2 = x2 then qX3_addToken_4 E d x0 x1 x2 (x3 + (nI 1)) σ1 else qX3_addToken_32 E d x0 x1 x2 x3 σ1))) := xval_blkQ E (xsem xT E d) 0 0 bX3_addToken (pc := 4) rfl [(0, .ref x0), (1, .int x1), (2, .int x2), (3, .int x3)] [] σ 0 0
set_option maxRecDepth 100000 in
theorem QX3_addToken_32 (E : xEn) (d : Nat) (x0 : Nat) (x1 : Int32) (x2 : Int32) (x3 : Int32) (σ : xH) : qX3_addToken_32 E d x0 x1 x2 x3 σ = if x2 = (nI 1) then gO E σ 3 x0 (cI (xthr 1 some) (xsem xT E d kX3_numberIn [.ref x0, .int x1, .int x3] σ) (fun v1 σ1 => gO E σ1 3 x0 (cV (xthr 1 some) (xsem xT E d kX3_put [.ref x0, .ref (E.1 1), .int x1, .int v1] σ1) (fun σ2 => qX3_addToken_66 E d σ2)))) else qX3_addToken_54 E d x0 x1 x3 σ := xval_blkQ E (xsem xT E d) 0 0 bX3_addToken (pc := 32) rfl [(0, .ref x0), (1, .int x1), (2, .int x2), (3, .int x3)] [] σ 0 0
set_option maxRecDepth 100000 in
theorem QX3_addToken_54 (E : xEn) (d : Nat) (x0 : Nat) (x1 : Int32) (x3 : Int32) (σ : xH) : qX3_addToken_54 E d x0 x1 x3 σ = gO E σ 3 x0 (cA (xthr 1 some) (xsem xT E d kX3_tokenIn [.ref x0, .int x1, .int x3] σ) (fun v1 σ1 => gO E σ1 3 x0 (cV (xthr 1 some) (xsem xT E d kX3_put [.ref x0, .ref v1, .int x1, .int (nI 0)] σ1) (fun σ2 => qX3_addToken_66 E d σ2)))) := xval_blkQ E (xsem xT E d) 0 0 bX3_addToken (pc := 54) rfl [(0, .ref x0), (1, .int x1), (3, .int x3)] [] σ 0 0
set_option maxRecDepth 100000 in
theorem QX3_addToken_66 (E : xEn) (d : Nat) (σ : xH) : qX3_addToken_66 E d σ = some (.inl none, σ) := xval_blkQ E (xsem xT E d) 0 0 bX3_addToken (pc := 66) rfl [] [] σ 0 0
theorem eX3_addToken (E : xEn) (d : Nat) (x0 : Nat) (x1 : Int32) (x2 : Int32) (σ : xH) : xsem xT E (d + 1) kX3_addToken [.ref x0, .int x1, .int x2] σ = qX3_addToken_0 E d x0 x1 x2 σ := rfl
noncomputable def qX3_numberIn_0 (E : xEn) (d : Nat) (x0 : Nat) (x1 : Int32) (x2 : Int32) (σ : xH) : Option xR := xval E (xsem xT E d) 0 0 bX3_numberIn (0, [(0, .ref x0), (1, .int x1), (2, .int x2)], [], σ, 0, 0)
noncomputable def qX3_numberIn_5 (E : xEn) (d : Nat) (x0 : Nat) (x2 : Int32) (x3 : Int32) (x4 : Int32) (σ : xH) : Option xR := xval E (xsem xT E d) 0 0 bX3_numberIn (5, [(0, .ref x0), (2, .int x2), (3, .int x3), (4, .int x4)], [], σ, 0, 0)
noncomputable def qX3_numberIn_39 (E : xEn) (d : Nat) (x3 : Int32) (σ : xH) : Option xR := xval E (xsem xT E d) 0 0 bX3_numberIn (39, [(3, .int x3)], [], σ, 0, 0)
set_option maxRecDepth 100000 in
theorem QX3_numberIn_0 (E : xEn) (d : Nat) (x0 : Nat) (x1 : Int32) (x2 : Int32) (σ : xH) : qX3_numberIn_0 E d x0 x1 x2 σ = qX3_numberIn_5 E d x0 x2 (nI 0) x1 σ := xval_blkQ E (xsem xT E d) 0 0 bX3_numberIn (pc := 0) rfl [(0, .ref x0), (1, .int x1), (2, .int x2)] [] σ 0 0
set_option maxRecDepth 100000 in
theorem QX3_numberIn_5 (E : xEn) (d : Nat) (x0 : Nat) (x2 : Int32) (x3 : Int32) (x4 : Int32) (σ : xH) : qX3_numberIn_5 E d x0 x2 x3 x4 σ = if x2 ≤ x4 then qX3_numberIn_39 E d x3 σ else gR σ 3 0 x0 (fun v1 => aB E σ v1 x4 (fun v2 => qX3_numberIn_5 E d x0 x2 (mnI ((x3 * (nI 10)) + (v2 - (nI 48))) (nI 10000)) (x4 + (nI 1)) σ)) := xval_blkQ E (xsem xT E d) 0 0 bX3_numberIn (pc := 5) rfl [(0, .ref x0), (2, .int x2), (3, .int x3), (4, .int x4)] [] σ 0 0
set_option maxRecDepth 100000 in
theorem QX3_numberIn_39 (E : xEn) (d : Nat) (x3 : Int32) (σ : xH) : qX3_numberIn_39 E d x3 σ = some (.inl (some (.int x3)), σ) := xval_blkQ E (xsem xT E d) 0 0 bX3_numberIn (pc := 39) rfl [(3, .int x3)] [] σ 0 0
theorem eX3_numberIn (E : xEn) (d : Nat) (x0 : Nat) (x1 : Int32) (x2 : Int32) (σ : xH) : xsem xT E (d + 1) kX3_numberIn [.ref x0, .int x1, .int x2] σ = qX3_numberIn_0 E d x0 x1 x2 σ := rfl
noncomputable def qX3_tokenIn_0 (E : xEn) (d : Nat) (x0 : Nat) (x1 : Int32) (x2 : Int32) (σ : xH) : Option xR := xval E (xsem xT E d) 0 0 bX3_tokenIn (0, [(0, .ref x0), (1, .int x1), (2, .int x2)], [], σ, 0, 0)
noncomputable def qX3_tokenIn_11 (E : xEn) (d : Nat) (x0 : Nat) (x1 : Int32) (x2 : Int32) (x3 : Nat) (x4 : Int32) (x5 : Int32) (σ : xH) : Option xR := xval E (xsem xT E d) 0 0 bX3_tokenIn (11, [(0, .ref x0), (1, .int x1), (2, .int x2), (3, .ref x3), (4, .int x4), (5, .int x5)], [], σ, 0, 0)
noncomputable def qX3_tokenIn_41 (E : xEn) (d : Nat) (x0 : Nat) (x1 : Int32) (x2 : Int32) (x3 : Nat) (x4 : Int32) (x5 : Int32) (σ : xH) : Option xR := xval E (xsem xT E d) 0 0 bX3_tokenIn (41, [(0, .ref x0), (1, .int x1), (2, .int x2), (3, .ref x3), (4, .int x4), (5, .int x5)], [], σ, 0, 0)
noncomputable def qX3_tokenIn_47 (E : xEn) (d : Nat) (σ : xH) : Option xR := xval E (xsem xT E d) 0 0 bX3_tokenIn (47, [], [], σ, 0, 0)
set_option maxRecDepth 100000 in
theorem QX3_tokenIn_0 (E : xEn) (d : Nat) (x0 : Nat) (x1 : Int32) (x2 : Int32) (σ : xH) : qX3_tokenIn_0 E d x0 x1 x2 σ = aN E σ E.2.2.2.1 (fun v1 => qX3_tokenIn_11 E d x0 x1 x2 E.2.2.2.1 v1 (nI 0) σ) := xval_blkQ E (xsem xT E d) 0 0 bX3_tokenIn (pc := 0) rfl [(0, .ref x0), (1, .int x1), (2, .int x2)] [] σ 0 0
set_option maxRecDepth 100000 in
theorem QX3_tokenIn_11 (E : xEn) (d : Nat) (x0 : Nat) (x1 : Int32) (x2 : Int32) (x3 : Nat) (x4 : Int32) (x5 : Int32) (σ : xH) : qX3_tokenIn_11 E d x0 x1 x2 x3 x4 x5 σ = if x4 ≤ x5 then qX3_tokenIn_47 E d σ else aQ E σ x3 x5 (fun v1 => gT E v1 (fun v2 => gO E σ 3 x0 (cI (xthr 1 some) (xsem xT E d kX3_isSpelled [.ref x0, .ref v2, .int x1, .int x2] σ) (fun v3 σ1 => if v3 = (nI 0) then qX3_tokenIn_41 E d x0 x1 x2 x3 x4 x5 σ1 else some (.inl (some (.ref v1)), σ1))))) := xval_blkQ E (xsem xT E d) 0 0 bX3_tokenIn (pc := 11) rfl [(0, .ref x0), (1, .int x1), (2, .int x2), (3, .ref x3), (4, .int x4), (5, .int x5)] [] σ 0 0
set_option maxRecDepth 100000 in
theorem QX3_tokenIn_41 (E : xEn) (d : Nat) (x0 : Nat) (x1 : Int32) (x2 : Int32) (x3 : Nat) (x4 : Int32) (x5 : Int32) (σ : xH) : qX3_tokenIn_41 E d x0 x1 x2 x3 x4 x5 σ = qX3_tokenIn_11 E d x0 x1 x2 x3 x4 (x5 + (nI 1)) σ := xval_blkQ E (xsem xT E d) 0 0 bX3_tokenIn (pc := 41) rfl [(0, .ref x0), (1, .int x1), (2, .int x2), (3, .ref x3), (4, .int x4), (5, .int x5)] [] σ 0 0
set_option maxRecDepth 100000 in
theorem QX3_tokenIn_47 (E : xEn) (d : Nat) (σ : xH) : qX3_tokenIn_47 E d σ = some (.inl (some (.ref (E.1 2))), σ) := xval_blkQ E (xsem xT E d) 0 0 bX3_tokenIn (pc := 47) rfl [] [] σ 0 0
theorem eX3_tokenIn (E : xEn) (d : Nat) (x0 : Nat) (x1 : Int32) (x2 : Int32) (σ : xH) : xsem xT E (d + 1) kX3_tokenIn [.ref x0, .int x1, .int x2] σ = qX3_tokenIn_0 E d x0 x1 x2 σ := rfl
noncomputable def qX3_isSpelled_0 (E : xEn) (d : Nat) (x0 : Nat) (x1 : Nat) (x2 : Int32) (x3 : Int32) (σ : xH) : Option xR := xval E (xsem xT E d) 0 0 bX3_isSpelled (0, [(0, .ref x0), (1, .ref x1), (2, .int x2), (3, .int x3)], [], σ, 0, 0)
noncomputable def qX3_isSpelled_12 (E : xEn) (d : Nat) (x0 : Nat) (x1 : Nat) (x2 : Int32) (σ : xH) : Option xR := xval E (xsem xT E d) 0 0 bX3_isSpelled (12, [(0, .ref x0), (1, .ref x1), (2, .int x2)], [], σ, 0, 0)
noncomputable def qX3_isSpelled_15 (E : xEn) (d : Nat) (x0 : Nat) (x1 : Nat) (x2 : Int32) (x4 : Int32) (σ : xH) : Option xR := xval E (xsem xT E d) 0 0 bX3_isSpelled (15, [(0, .ref x0), (1, .ref x1), (2, .int x2), (4, .int x4)], [], σ, 0, 0)
noncomputable def qX3_isSpelled_44 (E : xEn) (d : Nat) (x0 : Nat) (x1 : Nat) (x2 : Int32) (x4 : Int32) (σ : xH) : Option xR := xval E (xsem xT E d) 0 0 bX3_isSpelled (44, [(0, .ref x0), (1, .ref x1), (2, .int x2), (4, .int x4)], [], σ, 0, 0)
noncomputable def qX3_isSpelled_50 (E : xEn) (d : Nat) (σ : xH) : Option xR := xval E (xsem xT E d) 0 0 bX3_isSpelled (50, [], [], σ, 0, 0)
set_option maxRecDepth 100000 in
theorem QX3_isSpelled_0 (E : xEn) (d : Nat) (x0 : Nat) (x1 : Nat) (x2 : Int32) (x3 : Int32) (σ : xH) : qX3_isSpelled_0 E d x0 x1 x2 x3 σ = gO E σ 99 x1 (cI (xthr 1 some) (xsem xT E d kJ0_length_8abf5 [.ref x1] σ) (fun v1 σ1 => if v1 = (x3 - x2) then qX3_isSpelled_12 E d x0 x1 x2 σ1 else xiret [5] (nI 0) (some (.inl (some (.int (nI 0))), σ1)))) := xval_blkQ E (xsem xT E d) 0 0 bX3_isSpelled (pc := 0) rfl [(0, .ref x0), (1, .ref x1), (2, .int x2), (3, .int x3)] [] σ 0 0
set_option maxRecDepth 100000 in
theorem QX3_isSpelled_12 (E : xEn) (d : Nat) (x0 : Nat) (x1 : Nat) (x2 : Int32) (σ : xH) : qX3_isSpelled_12 E d x0 x1 x2 σ = qX3_isSpelled_15 E d x0 x1 x2 (nI 0) σ := xval_blkQ E (xsem xT E d) 0 0 bX3_isSpelled (pc := 12) rfl [(0, .ref x0), (1, .ref x1), (2, .int x2)] [] σ 0 0
set_option maxRecDepth 100000 in
theorem QX3_isSpelled_15 (E : xEn) (d : Nat) (x0 : Nat) (x1 : Nat) (x2 : Int32) (x4 : Int32) (σ : xH) : qX3_isSpelled_15 E d x0 x1 x2 x4 σ = gO E σ 99 x1 (cI (xthr 1 some) (xsem xT E d kJ0_length_8abf5 [.ref x1] σ) (fun v1 σ1 => if v1 ≤ x4 then qX3_isSpelled_50 E d σ1 else gR σ1 3 0 x0 (fun v2 => aB E σ1 v2 (x2 + x4) (fun v3 => gO E σ1 99 x1 (cI (xthr 1 some) (xsem xT E d kJ0_charAt_5068e [.ref x1, .int x4] σ1) (fun v4 σ2 => if v3 = v4 then qX3_isSpelled_44 E d x0 x1 x2 x4 σ2 else xiret [5] (nI 0) (some (.inl (some (.int (nI 0))), σ2)))))))) := xval_blkQ E (xsem xT E d) 0 0 bX3_isSpelled (pc := 15) rfl [(0, .ref x0), (1, .ref x1), (2, .int x2), (4, .int x4)] [] σ 0 0
set_option maxRecDepth 100000 in
theorem QX3_isSpelled_44 (E : xEn) (d : Nat) (x0 : Nat) (x1 : Nat) (x2 : Int32) (x4 : Int32) (σ : xH) : qX3_isSpelled_44 E d x0 x1 x2 x4 σ = qX3_isSpelled_15 E d x0 x1 x2 (x4 + (nI 1)) σ := xval_blkQ E (xsem xT E d) 0 0 bX3_isSpelled (pc := 44) rfl [(0, .ref x0), (1, .ref x1), (2, .int x2), (4, .int x4)] [] σ 0 0
set_option maxRecDepth 100000 in
theorem QX3_isSpelled_50 (E : xEn) (d : Nat) (σ : xH) : qX3_isSpelled_50 E d σ = xiret [5] (nI 1) (some (.inl (some (.int (nI 1))), σ)) := xval_blkQ E (xsem xT E d) 0 0 bX3_isSpelled (pc := 50) rfl [] [] σ 0 0
theorem eX3_isSpelled (E : xEn) (d : Nat) (x0 : Nat) (x1 : Nat) (x2 : Int32) (x3 : Int32) (σ : xH) : xsem xT E (d + 1) kX3_isSpelled [.ref x0, .ref x1, .int x2, .int x3] σ = qX3_isSpelled_0 E d x0 x1 x2 x3 σ := rfl
noncomputable def qX3_put_0 (E : xEn) (d : Nat) (x0 : Nat) (x1 : Nat) (x2 : Int32) (x3 : Int32) (σ : xH) : Option xR := xval E (xsem xT E d) 0 0 bX3_put (0, [(0, .ref x0), (1, .ref x1), (2, .int x2), (3, .int x3)], [], σ, 0, 0)
noncomputable def qX3_put_52 (E : xEn) (d : Nat) (σ : xH) : Option xR := xval E (xsem xT E d) 0 0 bX3_put (52, [], [], σ, 0, 0)
set_option maxRecDepth 100000 in
theorem QX3_put_0 (E : xEn) (d : Nat) (x0 : Nat) (x1 : Nat) (x2 : Int32) (x3 : Int32) (σ : xH) : qX3_put_0 E d x0 x1 x2 x3 σ = gI σ 3 6 x0 (fun v1 => gR σ 3 3 x0 (fun v2 => aN E σ v2 (fun v3 => if v3 ≤ v1 then qX3_put_52 E d σ else gR σ 3 3 x0 (fun v4 => gI σ 3 6 x0 (fun v5 => sQ E σ v4 v5 x1 (fun σ1 => gR σ1 3 4 x0 (fun v6 => gI σ1 3 6 x0 (fun v7 => sI σ1 v6 v7 x2 (fun σ2 => gR σ2 3 5 x0 (fun v8 => gI σ2 3 6 x0 (fun v9 => sI σ2 v8 v9 x3 (fun σ3 => gI σ3 3 6 x0 (fun v10 => gP σ3 3 6 x0 (.int (v10 + (nI 1))) (fun σ4 => qX3_put_52 E d σ4)))))))))))))) := xval_blkQ E (xsem xT E d) 0 0 bX3_put (pc := 0) rfl [(0, .ref x0), (1, .ref x1), (2, .int x2), (3, .int x3)] [] σ 0 0
set_option maxRecDepth 100000 in
theorem QX3_put_52 (E : xEn) (d : Nat) (σ : xH) : qX3_put_52 E d σ = some (.inl none, σ) := xval_blkQ E (xsem xT E d) 0 0 bX3_put (pc := 52) rfl [] [] σ 0 0
theorem eX3_put (E : xEn) (d : Nat) (x0 : Nat) (x1 : Nat) (x2 : Int32) (x3 : Int32) (σ : xH) : xsem xT E (d + 1) kX3_put [.ref x0, .ref x1, .int x2, .int x3] σ = qX3_put_0 E d x0 x1 x2 x3 σ := rfl
noncomputable def qX3_token_0 (E : xEn) (d : Nat) (x0 : Nat) (σ : xH) : Option xR := xval E (xsem xT E d) 0 0 bX3_token (0, [(0, .ref x0)], [], σ, 0, 0)
set_option maxRecDepth 100000 in
theorem QX3_token_0 (E : xEn) (d : Nat) (x0 : Nat) (σ : xH) : qX3_token_0 E d x0 σ = gR σ 3 3 x0 (fun v1 => gI σ 3 7 x0 (fun v2 => aQ E σ v1 v2 (fun v3 => some (.inl (some (.ref v3)), σ)))) := xval_blkQ E (xsem xT E d) 0 0 bX3_token (pc := 0) rfl [(0, .ref x0)] [] σ 0 0
theorem eX3_token (E : xEn) (d : Nat) (x0 : Nat) (σ : xH) : xsem xT E (d + 1) kX3_token [.ref x0] σ = qX3_token_0 E d x0 σ := rfl
noncomputable def qX3_number_0 (E : xEn) (d : Nat) (x0 : Nat) (σ : xH) : Option xR := xval E (xsem xT E d) 0 0 bX3_number (0, [(0, .ref x0)], [], σ, 0, 0)
set_option maxRecDepth 100000 in
theorem QX3_number_0 (E : xEn) (d : Nat) (x0 : Nat) (σ : xH) : qX3_number_0 E d x0 σ = gR σ 3 5 x0 (fun v1 => gI σ 3 7 x0 (fun v2 => aI E σ v1 v2 (fun v3 => some (.inl (some (.int v3)), σ)))) := xval_blkQ E (xsem xT E d) 0 0 bX3_number (pc := 0) rfl [(0, .ref x0)] [] σ 0 0
theorem eX3_number (E : xEn) (d : Nat) (x0 : Nat) (σ : xH) : xsem xT E (d + 1) kX3_number [.ref x0] σ = qX3_number_0 E d x0 σ := rfl
noncomputable def qX3_is_0 (E : xEn) (d : Nat) (x0 : Nat) (x1 : Nat) (σ : xH) : Option xR := xval E (xsem xT E d) 0 0 bX3_is (0, [(0, .ref x0), (1, .ref x1)], [], σ, 0, 0)
noncomputable def qX3_is_17 (E : xEn) (d : Nat) (σ : xH) : Option xR := xval E (xsem xT E d) 0 0 bX3_is (17, [], [], σ, 0, 0)
noncomputable def qX3_is_18 (E : xEn) (d : Nat) (s0 : Int32) (σ : xH) : Option xR := xval E (xsem xT E d) 0 0 bX3_is (18, [], [.int s0], σ, 0, 0)
set_option maxRecDepth 100000 in
theorem QX3_is_0 (E : xEn) (d : Nat) (x0 : Nat) (x1 : Nat) (σ : xH) : qX3_is_0 E d x0 x1 σ = gR σ 3 3 x0 (fun v1 => gI σ 3 7 x0 (fun v2 => aQ E σ v1 v2 (fun v3 => bif Nat.beq v3 x1 then qX3_is_18 E d (nI 1) σ else qX3_is_17 E d σ))) := xval_blkQ E (xsem xT E d) 0 0 bX3_is (pc := 0) rfl [(0, .ref x0), (1, .ref x1)] [] σ 0 0
set_option maxRecDepth 100000 in
theorem QX3_is_17 (E : xEn) (d : Nat) (σ : xH) : qX3_is_17 E d σ = qX3_is_18 E d (nI 0) σ := xval_blkQ E (xsem xT E d) 0 0 bX3_is (pc := 17) rfl [] [] σ 0 0
set_option maxRecDepth 100000 in
theorem QX3_is_18 (E : xEn) (d : Nat) (s0 : Int32) (σ : xH) : qX3_is_18 E d s0 σ = xiret [5] s0 (some (.inl (some (.int s0)), σ)) := xval_blkQ E (xsem xT E d) 0 0 bX3_is (pc := 18) rfl [] [.int s0] σ 0 0
theorem eX3_is (E : xEn) (d : Nat) (x0 : Nat) (x1 : Nat) (σ : xH) : xsem xT E (d + 1) kX3_is [.ref x0, .ref x1] σ = qX3_is_0 E d x0 x1 σ := rfl
noncomputable def qX3_advance_0 (E : xEn) (d : Nat) (x0 : Nat) (σ : xH) : Option xR := xval E (xsem xT E d) 0 0 bX3_advance (0, [(0, .ref x0)], [], σ, 0, 0)
noncomputable def qX3_advance_23 (E : xEn) (d : Nat) (σ : xH) : Option xR := xval E (xsem xT E d) 0 0 bX3_advance (23, [], [], σ, 0, 0)
set_option maxRecDepth 100000 in
theorem QX3_advance_0 (E : xEn) (d : Nat) (x0 : Nat) (σ : xH) : qX3_advance_0 E d x0 σ = gI σ 3 7 x0 (fun v1 => gI σ 3 6 x0 (fun v2 => if v2 ≤ (v1 + (nI 1)) then qX3_advance_23 E d σ else gI σ 3 7 x0 (fun v3 => gP σ 3 7 x0 (.int (v3 + (nI 1))) (fun σ1 => qX3_advance_23 E d σ1)))) := xval_blkQ E (xsem xT E d) 0 0 bX3_advance (pc := 0) rfl [(0, .ref x0)] [] σ 0 0
set_option maxRecDepth 100000 in
theorem QX3_advance_23 (E : xEn) (d : Nat) (σ : xH) : qX3_advance_23 E d σ = some (.inl none, σ) := xval_blkQ E (xsem xT E d) 0 0 bX3_advance (pc := 23) rfl [] [] σ 0 0
theorem eX3_advance (E : xEn) (d : Nat) (x0 : Nat) (σ : xH) : xsem xT E (d + 1) kX3_advance [.ref x0] σ = qX3_advance_0 E d x0 σ := rfl
noncomputable def qX3_take_0 (E : xEn) (d : Nat) (x0 : Nat) (x1 : Nat) (σ : xH) : Option xR := xval E (xsem xT E d) 0 0 bX3_take (0, [(0, .ref x0), (1, .ref x1)], [], σ, 0, 0)
noncomputable def qX3_take_20 (E : xEn) (d : Nat) (x0 : Nat) (σ : xH) : Option xR := xval E (xsem xT E d) 0 0 bX3_take (20, [(0, .ref x0)], [], σ, 0, 0)
set_option maxRecDepth 100000 in
theorem QX3_take_0 (E : xEn) (d : Nat) (x0 : Nat) (x1 : Nat) (σ : xH) : qX3_take_0 E d x0 x1 σ = gR σ 3 3 x0 (fun v1 => gI σ 3 7 x0 (fun v2 => aQ E σ v1 v2 (fun v3 => bif Nat.beq v3 x1 then qX3_take_20 E d x0 σ else gO E σ 3 x0 (cI (xthr 1 some) (xsem xT E d kX3_fail [.ref x0, .int (-2 : Int32)] σ) (fun v4 σ1 => xiret [5] v4 (some (.inl (some (.int v4)), σ1))))))) := xval_blkQ E (xsem xT E d) 0 0 bX3_take (pc := 0) rfl [(0, .ref x0), (1, .ref x1)] [] σ 0 0
set_option maxRecDepth 100000 in
theorem QX3_take_20 (E : xEn) (d : Nat) (x0 : Nat) (σ : xH) : qX3_take_20 E d x0 σ = gO E σ 3 x0 (cV (xthr 1 some) (xsem xT E d kX3_advance [.ref x0] σ) (fun σ1 => xiret [5] (nI 1) (some (.inl (some (.int (nI 1))), σ1)))) := xval_blkQ E (xsem xT E d) 0 0 bX3_take (pc := 20) rfl [(0, .ref x0)] [] σ 0 0
theorem eX3_take (E : xEn) (d : Nat) (x0 : Nat) (x1 : Nat) (σ : xH) : xsem xT E (d + 1) kX3_take [.ref x0, .ref x1] σ = qX3_take_0 E d x0 x1 σ := rfl
noncomputable def qX3_takeNumber_0 (E : xEn) (d : Nat) (x0 : Nat) (x1 : Int32) (x2 : Int32) (σ : xH) : Option xR := xval E (xsem xT E d) 0 0 bX3_takeNumber (0, [(0, .ref x0), (1, .int x1), (2, .int x2)], [], σ, 0, 0)
noncomputable def qX3_takeNumber_34 (E : xEn) (d : Nat) (x0 : Nat) (x1 : Int32) (x2 : Int32) (x3 : Int32) (σ : xH) : Option xR := xval E (xsem xT E d) 0 0 bX3_takeNumber (34, [(0, .ref x0), (1, .int x1), (2, .int x2), (3, .int x3)], [], σ, 0, 0)
noncomputable def qX3_takeNumber_44 (E : xEn) (d : Nat) (x0 : Nat) (σ : xH) : Option xR := xval E (xsem xT E d) 0 0 bX3_takeNumber (44, [(0, .ref x0)], [], σ, 0, 0)
noncomputable def qX3_takeNumber_53 (E : xEn) (d : Nat) (x0 : Nat) (x3 : Int32) (σ : xH) : Option xR := xval E (xsem xT E d) 0 0 bX3_takeNumber (53, [(0, .ref x0), (3, .int x3)], [], σ, 0, 0)
set_option maxRecDepth 100000 in
theorem QX3_takeNumber_0 (E : xEn) (d : Nat) (x0 : Nat) (x1 : Int32) (x2 : Int32) (σ : xH) : qX3_takeNumber_0 E d x0 x1 x2 σ = gR σ 3 5 x0 (fun v1 => gI σ 3 7 x0 (fun v2 => aI E σ v1 v2 (fun v3 => gR σ 3 3 x0 (fun v4 => gI σ 3 7 x0 (fun v5 => aQ E σ v4 v5 (fun v6 => bif Nat.beq v6 (E.1 1) then qX3_takeNumber_34 E d x0 x1 x2 v3 σ else gO E σ 3 x0 (cI (xthr 1 some) (xsem xT E d kX3_fail [.ref x0, .int (-2 : Int32)] σ) (fun v7 σ1 => some (.inl (some (.int (-1 : Int32))), σ1))))))))) := xval_blkQ E (xsem xT E d) 0 0 bX3_takeNumber (pc := 0) rfl [(0, .ref x0), (1, .int x1), (2, .int x2)] [] σ 0 0
set_option maxRecDepth 100000 in
theorem QX3_takeNumber_34 (E : xEn) (d : Nat) (x0 : Nat) (x1 : Int32) (x2 : Int32) (x3 : Int32) (σ : xH) : qX3_takeNumber_34 E d x0 x1 x2 x3 σ = if x3 < x1 then qX3_takeNumber_44 E d x0 σ else if x3 ≤ x2 then qX3_takeNumber_53 E d x0 x3 σ else qX3_takeNumber_44 E d x0 σ := xval_blkQ E (xsem xT E d) 0 0 bX3_takeNumber (pc := 34) rfl [(0, .ref x0), (1, .int x1), (2, .int x2), (3, .int x3)] [] σ 0 0
set_option maxRecDepth 100000 in
theorem QX3_takeNumber_44 (E : xEn) (d : Nat) (x0 : Nat) (σ : xH) : qX3_takeNumber_44 E d x0 σ = gO E σ 3 x0 (cI (xthr 1 some) (xsem xT E d kX3_fail [.ref x0, .int (-3 : Int32)] σ) (fun v1 σ1 => some (.inl (some (.int (-1 : Int32))), σ1))) := xval_blkQ E (xsem xT E d) 0 0 bX3_takeNumber (pc := 44) rfl [(0, .ref x0)] [] σ 0 0
set_option maxRecDepth 100000 in
theorem QX3_takeNumber_53 (E : xEn) (d : Nat) (x0 : Nat) (x3 : Int32) (σ : xH) : qX3_takeNumber_53 E d x0 x3 σ = gO E σ 3 x0 (cV (xthr 1 some) (xsem xT E d kX3_advance [.ref x0] σ) (fun σ1 => some (.inl (some (.int x3)), σ1))) := xval_blkQ E (xsem xT E d) 0 0 bX3_takeNumber (pc := 53) rfl [(0, .ref x0), (3, .int x3)] [] σ 0 0
theorem eX3_takeNumber (E : xEn) (d : Nat) (x0 : Nat) (x1 : Int32) (x2 : Int32) (σ : xH) : xsem xT E (d + 1) kX3_takeNumber [.ref x0, .int x1, .int x2] σ = qX3_takeNumber_0 E d x0 x1 x2 σ := rfl
noncomputable def qX3_fail_0 (E : xEn) (d : Nat) (x0 : Nat) (x1 : Int32) (σ : xH) : Option xR := xval E (xsem xT E d) 0 0 bX3_fail (0, [(0, .ref x0), (1, .int x1)], [], σ, 0, 0)
set_option maxRecDepth 100000 in
theorem QX3_fail_0 (E : xEn) (d : Nat) (x0 : Nat) (x1 : Int32) (σ : xH) : qX3_fail_0 E d x0 x1 σ = gP σ 3 8 x0 (.int x1) (fun σ1 => gR σ1 3 4 x0 (fun v1 => gI σ1 3 7 x0 (fun v2 => aI E σ1 v1 v2 (fun v3 => gP σ1 3 9 x0 (.int v3) (fun σ2 => xiret [5] (nI 0) (some (.inl (some (.int (nI 0))), σ2))))))) := xval_blkQ E (xsem xT E d) 0 0 bX3_fail (pc := 0) rfl [(0, .ref x0), (1, .int x1)] [] σ 0 0
theorem eX3_fail (E : xEn) (d : Nat) (x0 : Nat) (x1 : Int32) (σ : xH) : xsem xT E (d + 1) kX3_fail [.ref x0, .int x1] σ = qX3_fail_0 E d x0 x1 σ := rfl
noncomputable def qX4_init_0 (E : xEn) (d : Nat) (bc bs : Nat) (x0 : Nat) (σ : xH) : Option xR := xval E (xsem xT E d) 1 9 bX4_init (0, [(0, .ref x0)], [], σ, bc, bs)
set_option maxRecDepth 100000 in
theorem QX4_init_0 (E : xEn) (d : Nat) (bc bs : Nat) (x0 : Nat) (σ : xH) : qX4_init_0 E d bc bs x0 σ = bif Nat.ble (bc + 1) 1 && (Nat.ble (bs + 9) 9 && Nat.ble 9 100000) then nwA σ 0 9 (fun v1 σ1 => gP σ1 4 0 x0 (.ref v1) (fun σ2 => some (.inl none, σ2))) else none := xval_blkQ E (xsem xT E d) 1 9 bX4_init (pc := 0) rfl [(0, .ref x0)] [] σ bc bs
theorem eX4_init (E : xEn) (d : Nat) (x0 : Nat) (σ : xH) : xsem xT E (d + 1) kX4_init [.ref x0] σ = qX4_init_0 E d 0 0 x0 σ := rfl
noncomputable def qX4_reset_0 (E : xEn) (d : Nat) (x0 : Nat) (x1 : Int32) (σ : xH) : Option xR := xval E (xsem xT E d) 0 0 bX4_reset (0, [(0, .ref x0), (1, .int x1)], [], σ, 0, 0)
set_option maxRecDepth 100000 in
theorem QX4_reset_0 (E : xEn) (d : Nat) (x0 : Nat) (x1 : Int32) (σ : xH) : qX4_reset_0 E d x0 x1 σ = gP σ 4 1 x0 (.int (x1 + (nI 1))) (fun σ1 => gP σ1 4 2 x0 (.int (nI 80)) (fun σ2 => gP σ2 4 3 x0 (.int (nI 1)) (fun σ3 => gP σ3 4 4 x0 (.int (nI 0)) (fun σ4 => gO E σ4 4 x0 (cV (xthr 1 some) (xsem xT E d kX4_know [.ref x0, .int (nI 0)] σ4) (fun σ5 => some (.inl none, σ5))))))) := xval_blkQ E (xsem xT E d) 0 0 bX4_reset (pc := 0) rfl [(0, .ref x0), (1, .int x1)] [] σ 0 0
theorem eX4_reset (E : xEn) (d : Nat) (x0 : Nat) (x1 : Int32) (σ : xH) : xsem xT E (d + 1) kX4_reset [.ref x0, .int x1] σ = qX4_reset_0 E d x0 x1 σ := rfl
noncomputable def qX4_copyFrom_0 (E : xEn) (d : Nat) (x0 : Nat) (x1 : Nat) (σ : xH) : Option xR := xval E (xsem xT E d) 0 0 bX4_copyFrom (0, [(0, .ref x0), (1, .ref x1)], [], σ, 0, 0)
set_option maxRecDepth 100000 in
theorem QX4_copyFrom_0 (E : xEn) (d : Nat) (x0 : Nat) (x1 : Nat) (σ : xH) : qX4_copyFrom_0 E d x0 x1 σ = gR σ 4 0 x1 (fun v1 => gR σ 4 0 x0 (fun v2 => gR σ 4 0 x0 (fun v3 => aN E σ v3 (fun v4 => cpI E σ v1 (nI 0) v2 (nI 0) v4 (fun σ1 => gI σ1 4 1 x1 (fun v5 => gP σ1 4 1 x0 (.int v5) (fun σ2 => gI σ2 4 2 x1 (fun v6 => gP σ2 4 2 x0 (.int v6) (fun σ3 => gI σ3 4 3 x1 (fun v7 => gP σ3 4 3 x0 (.int v7) (fun σ4 => gI σ4 4 4 x1 (fun v8 => gP σ4 4 4 x0 (.int v8) (fun σ5 => some (.inl none, σ5)))))))))))))) := xval_blkQ E (xsem xT E d) 0 0 bX4_copyFrom (pc := 0) rfl [(0, .ref x0), (1, .ref x1)] [] σ 0 0
theorem eX4_copyFrom (E : xEn) (d : Nat) (x0 : Nat) (x1 : Nat) (σ : xH) : xsem xT E (d + 1) kX4_copyFrom [.ref x0, .ref x1] σ = qX4_copyFrom_0 E d x0 x1 σ := rfl
noncomputable def qX4_know_0 (E : xEn) (d : Nat) (x0 : Nat) (x1 : Int32) (σ : xH) : Option xR := xval E (xsem xT E d) 0 0 bX4_know (0, [(0, .ref x0), (1, .int x1)], [], σ, 0, 0)
set_option maxRecDepth 100000 in
theorem QX4_know_0 (E : xEn) (d : Nat) (x0 : Nat) (x1 : Int32) (σ : xH) : qX4_know_0 E d x0 x1 σ = gR σ 4 0 x0 (fun v1 => cV (xthr 0 some) (xsem xT E d kJ7_fill_53178 [.ref v1, .int (nI 0)] σ) (fun σ1 => gR σ1 4 0 x0 (fun v2 => sI σ1 v2 x1 (nI 1) (fun σ2 => some (.inl none, σ2))))) := xval_blkQ E (xsem xT E d) 0 0 bX4_know (pc := 0) rfl [(0, .ref x0), (1, .int x1)] [] σ 0 0
theorem eX4_know (E : xEn) (d : Nat) (x0 : Nat) (x1 : Int32) (σ : xH) : xsem xT E (d + 1) kX4_know [.ref x0, .int x1] σ = qX4_know_0 E d x0 x1 σ := rfl
noncomputable def qX4_ruleOut_0 (E : xEn) (d : Nat) (x0 : Nat) (x1 : Int32) (σ : xH) : Option xR := xval E (xsem xT E d) 0 0 bX4_ruleOut (0, [(0, .ref x0), (1, .int x1)], [], σ, 0, 0)
set_option maxRecDepth 100000 in
theorem QX4_ruleOut_0 (E : xEn) (d : Nat) (x0 : Nat) (x1 : Int32) (σ : xH) : qX4_ruleOut_0 E d x0 x1 σ = gR σ 4 0 x0 (fun v1 => sI σ v1 x1 (nI 0) (fun σ1 => gO E σ1 4 x0 (cV (xthr 1 some) (xsem xT E d kX4_divideByCommonDivisor [.ref x0] σ1) (fun σ2 => some (.inl none, σ2))))) := xval_blkQ E (xsem xT E d) 0 0 bX4_ruleOut (pc := 0) rfl [(0, .ref x0), (1, .int x1)] [] σ 0 0
theorem eX4_ruleOut (E : xEn) (d : Nat) (x0 : Nat) (x1 : Int32) (σ : xH) : xsem xT E (d + 1) kX4_ruleOut [.ref x0, .int x1] σ = qX4_ruleOut_0 E d x0 x1 σ := rfl
noncomputable def qX4_sum_0 (E : xEn) (d : Nat) (x0 : Nat) (σ : xH) : Option xR := xval E (xsem xT E d) 0 0 bX4_sum (0, [(0, .ref x0)], [], σ, 0, 0)
noncomputable def qX4_sum_4 (E : xEn) (d : Nat) (x0 : Nat) (x1 : Int32) (x2 : Int32) (σ : xH) : Option xR := xval E (xsem xT E d) 0 0 bX4_sum (4, [(0, .ref x0), (1, .int x1), (2, .int x2)], [], σ, 0, 0)
noncomputable def qX4_sum_27 (E : xEn) (d : Nat) (x1 : Int32) (σ : xH) : Option xR := xval E (xsem xT E d) 0 0 bX4_sum (27, [(1, .int x1)], [], σ, 0, 0)
set_option maxRecDepth 100000 in
theorem QX4_sum_0 (E : xEn) (d : Nat) (x0 : Nat) (σ : xH) : qX4_sum_0 E d x0 σ = qX4_sum_4 E d x0 (nI 0) (nI 0) σ := xval_blkQ E (xsem xT E d) 0 0 bX4_sum (pc := 0) rfl [(0, .ref x0)] [] σ 0 0
set_option maxRecDepth 100000 in
theorem QX4_sum_4 (E : xEn) (d : Nat) (x0 : Nat) (x1 : Int32) (x2 : Int32) (σ : xH) : qX4_sum_4 E d x0 x1 x2 σ = gI σ 4 1 x0 (fun v1 => if v1 ≤ x2 then qX4_sum_27 E d x1 σ else gR σ 4 0 x0 (fun v2 => aI E σ v2 x2 (fun v3 => qX4_sum_4 E d x0 (x1 + v3) (x2 + (nI 1)) σ))) := xval_blkQ E (xsem xT E d) 0 0 bX4_sum (pc := 4) rfl [(0, .ref x0), (1, .int x1), (2, .int x2)] [] σ 0 0
set_option maxRecDepth 100000 in
theorem QX4_sum_27 (E : xEn) (d : Nat) (x1 : Int32) (σ : xH) : qX4_sum_27 E d x1 σ = some (.inl (some (.int x1)), σ) := xval_blkQ E (xsem xT E d) 0 0 bX4_sum (pc := 27) rfl [(1, .int x1)] [] σ 0 0
theorem eX4_sum (E : xEn) (d : Nat) (x0 : Nat) (σ : xH) : xsem xT E (d + 1) kX4_sum [.ref x0] σ = qX4_sum_0 E d x0 σ := rfl
noncomputable def qX4_greatest_0 (E : xEn) (d : Nat) (x0 : Nat) (σ : xH) : Option xR := xval E (xsem xT E d) 0 0 bX4_greatest (0, [(0, .ref x0)], [], σ, 0, 0)
noncomputable def qX4_greatest_4 (E : xEn) (d : Nat) (x0 : Nat) (x1 : Int32) (x2 : Int32) (σ : xH) : Option xR := xval E (xsem xT E d) 0 0 bX4_greatest (4, [(0, .ref x0), (1, .int x1), (2, .int x2)], [], σ, 0, 0)
noncomputable def qX4_greatest_29 (E : xEn) (d : Nat) (x1 : Int32) (σ : xH) : Option xR := xval E (xsem xT E d) 0 0 bX4_greatest (29, [(1, .int x1)], [], σ, 0, 0)
set_option maxRecDepth 100000 in
theorem QX4_greatest_0 (E : xEn) (d : Nat) (x0 : Nat) (σ : xH) : qX4_greatest_0 E d x0 σ = qX4_greatest_4 E d x0 (nI 0) (nI 0) σ := xval_blkQ E (xsem xT E d) 0 0 bX4_greatest (pc := 0) rfl [(0, .ref x0)] [] σ 0 0
set_option maxRecDepth 100000 in
theorem QX4_greatest_4 (E : xEn) (d : Nat) (x0 : Nat) (x1 : Int32) (x2 : Int32) (σ : xH) : qX4_greatest_4 E d x0 x1 x2 σ = gI σ 4 1 x0 (fun v1 => if v1 ≤ x2 then qX4_greatest_29 E d x1 σ else gR σ 4 0 x0 (fun v2 => aI E σ v2 x2 (fun v3 => qX4_greatest_4 E d x0 (mxI x1 v3) (x2 + (nI 1)) σ))) := xval_blkQ E (xsem xT E d) 0 0 bX4_greatest (pc := 4) rfl [(0, .ref x0), (1, .int x1), (2, .int x2)] [] σ 0 0
set_option maxRecDepth 100000 in
theorem QX4_greatest_29 (E : xEn) (d : Nat) (x1 : Int32) (σ : xH) : qX4_greatest_29 E d x1 σ = some (.inl (some (.int x1)), σ) := xval_blkQ E (xsem xT E d) 0 0 bX4_greatest (pc := 29) rfl [(1, .int x1)] [] σ 0 0
theorem eX4_greatest (E : xEn) (d : Nat) (x0 : Nat) (σ : xH) : xsem xT E (d + 1) kX4_greatest [.ref x0] σ = qX4_greatest_0 E d x0 σ := rfl
noncomputable def qX4_countBelieved_0 (E : xEn) (d : Nat) (x0 : Nat) (σ : xH) : Option xR := xval E (xsem xT E d) 0 0 bX4_countBelieved (0, [(0, .ref x0)], [], σ, 0, 0)
noncomputable def qX4_countBelieved_4 (E : xEn) (d : Nat) (x0 : Nat) (x1 : Int32) (x2 : Int32) (σ : xH) : Option xR := xval E (xsem xT E d) 0 0 bX4_countBelieved (4, [(0, .ref x0), (1, .int x1), (2, .int x2)], [], σ, 0, 0)
noncomputable def qX4_countBelieved_24 (E : xEn) (d : Nat) (x0 : Nat) (x1 : Int32) (x2 : Int32) (σ : xH) : Option xR := xval E (xsem xT E d) 0 0 bX4_countBelieved (24, [(0, .ref x0), (1, .int x1), (2, .int x2)], [], σ, 0, 0)
noncomputable def qX4_countBelieved_30 (E : xEn) (d : Nat) (x1 : Int32) (σ : xH) : Option xR := xval E (xsem xT E d) 0 0 bX4_countBelieved (30, [(1, .int x1)], [], σ, 0, 0)
set_option maxRecDepth 100000 in
theorem QX4_countBelieved_0 (E : xEn) (d : Nat) (x0 : Nat) (σ : xH) : qX4_countBelieved_0 E d x0 σ = qX4_countBelieved_4 E d x0 (nI 0) (nI 0) σ := xval_blkQ E (xsem xT E d) 0 0 bX4_countBelieved (pc := 0) rfl [(0, .ref x0)] [] σ 0 0
set_option maxRecDepth 100000 in
theorem QX4_countBelieved_4 (E : xEn) (d : Nat) (x0 : Nat) (x1 : Int32) (x2 : Int32) (σ : xH) : qX4_countBelieved_4 E d x0 x1 x2 σ = gI σ 4 1 x0 (fun v1 => if v1 ≤ x2 then qX4_countBelieved_30 E d x1 σ else gR σ 4 0 x0 (fun v2 => aI E σ v2 x2 (fun v3 => if v3 ≤ (nI 0) then qX4_countBelieved_24 E d x0 x1 x2 σ else qX4_countBelieved_24 E d x0 (x1 + (nI 1)) x2 σ))) := xval_blkQ E (xsem xT E d) 0 0 bX4_countBelieved (pc := 4) rfl [(0, .ref x0), (1, .int x1), (2, .int x2)] [] σ 0 0
set_option maxRecDepth 100000 in
theorem QX4_countBelieved_24 (E : xEn) (d : Nat) (x0 : Nat) (x1 : Int32) (x2 : Int32) (σ : xH) : qX4_countBelieved_24 E d x0 x1 x2 σ = qX4_countBelieved_4 E d x0 x1 (x2 + (nI 1)) σ := xval_blkQ E (xsem xT E d) 0 0 bX4_countBelieved (pc := 24) rfl [(0, .ref x0), (1, .int x1), (2, .int x2)] [] σ 0 0
set_option maxRecDepth 100000 in
theorem QX4_countBelieved_30 (E : xEn) (d : Nat) (x1 : Int32) (σ : xH) : qX4_countBelieved_30 E d x1 σ = some (.inl (some (.int x1)), σ) := xval_blkQ E (xsem xT E d) 0 0 bX4_countBelieved (pc := 30) rfl [(1, .int x1)] [] σ 0 0
theorem eX4_countBelieved (E : xEn) (d : Nat) (x0 : Nat) (σ : xH) : xsem xT E (d + 1) kX4_countBelieved [.ref x0] σ = qX4_countBelieved_0 E d x0 σ := rfl
noncomputable def qX4_likeliestShell_0 (E : xEn) (d : Nat) (x0 : Nat) (σ : xH) : Option xR := xval E (xsem xT E d) 0 0 bX4_likeliestShell (0, [(0, .ref x0)], [], σ, 0, 0)
noncomputable def qX4_likeliestShell_4 (E : xEn) (d : Nat) (x0 : Nat) (x1 : Int32) (x2 : Int32) (σ : xH) : Option xR := xval E (xsem xT E d) 0 0 bX4_likeliestShell (4, [(0, .ref x0), (1, .int x1), (2, .int x2)], [], σ, 0, 0)
noncomputable def qX4_likeliestShell_31 (E : xEn) (d : Nat) (x0 : Nat) (x1 : Int32) (x2 : Int32) (σ : xH) : Option xR := xval E (xsem xT E d) 0 0 bX4_likeliestShell (31, [(0, .ref x0), (1, .int x1), (2, .int x2)], [], σ, 0, 0)
noncomputable def qX4_likeliestShell_37 (E : xEn) (d : Nat) (x1 : Int32) (σ : xH) : Option xR := xval E (xsem xT E d) 0 0 bX4_likeliestShell (37, [(1, .int x1)], [], σ, 0, 0)
set_option maxRecDepth 100000 in
theorem QX4_likeliestShell_0 (E : xEn) (d : Nat) (x0 : Nat) (σ : xH) : qX4_likeliestShell_0 E d x0 σ = qX4_likeliestShell_4 E d x0 (nI 0) (nI 1) σ := xval_blkQ E (xsem xT E d) 0 0 bX4_likeliestShell (pc := 0) rfl [(0, .ref x0)] [] σ 0 0
set_option maxRecDepth 100000 in
theorem QX4_likeliestShell_4 (E : xEn) (d : Nat) (x0 : Nat) (x1 : Int32) (x2 : Int32) (σ : xH) : qX4_likeliestShell_4 E d x0 x1 x2 σ = gI σ 4 1 x0 (fun v1 => if (v1 - (nI 1)) ≤ x2 then qX4_likeliestShell_37 E d x1 σ else gR σ 4 0 x0 (fun v2 => aI E σ v2 x2 (fun v3 => gR σ 4 0 x0 (fun v4 => aI E σ v4 x1 (fun v5 => if v3 ≤ v5 then qX4_likeliestShell_31 E d x0 x1 x2 σ else qX4_likeliestShell_31 E d x0 x2 x2 σ))))) := xval_blkQ E (xsem xT E d) 0 0 bX4_likeliestShell (pc := 4) rfl [(0, .ref x0), (1, .int x1), (2, .int x2)] [] σ 0 0
set_option maxRecDepth 100000 in
theorem QX4_likeliestShell_31 (E : xEn) (d : Nat) (x0 : Nat) (x1 : Int32) (x2 : Int32) (σ : xH) : qX4_likeliestShell_31 E d x0 x1 x2 σ = qX4_likeliestShell_4 E d x0 x1 (x2 + (nI 1)) σ := xval_blkQ E (xsem xT E d) 0 0 bX4_likeliestShell (pc := 31) rfl [(0, .ref x0), (1, .int x1), (2, .int x2)] [] σ 0 0
set_option maxRecDepth 100000 in
theorem QX4_likeliestShell_37 (E : xEn) (d : Nat) (x1 : Int32) (σ : xH) : qX4_likeliestShell_37 E d x1 σ = some (.inl (some (.int x1)), σ) := xval_blkQ E (xsem xT E d) 0 0 bX4_likeliestShell (pc := 37) rfl [(1, .int x1)] [] σ 0 0
theorem eX4_likeliestShell (E : xEn) (d : Nat) (x0 : Nat) (σ : xH) : xsem xT E (d + 1) kX4_likeliestShell [.ref x0] σ = qX4_likeliestShell_0 E d x0 σ := rfl
noncomputable def qX4_followMove_0 (E : xEn) (d : Nat) (x0 : Nat) (x1 : Nat) (x2 : Int32) (x3 : Int32) (x4 : Int32) (x5 : Int32) (σ : xH) : Option xR := xval E (xsem xT E d) 0 0 bX4_followMove (0, [(0, .ref x0), (1, .ref x1), (2, .int x2), (3, .int x3), (4, .int x4), (5, .int x5)], [], σ, 0, 0)
noncomputable def qX4_followMove_18 (E : xEn) (d : Nat) (x0 : Nat) (x1 : Nat) (x2 : Int32) (x3 : Int32) (x4 : Int32) (x5 : Int32) (σ : xH) : Option xR := xval E (xsem xT E d) 0 0 bX4_followMove (18, [(0, .ref x0), (1, .ref x1), (2, .int x2), (3, .int x3), (4, .int x4), (5, .int x5)], [], σ, 0, 0)
noncomputable def qX4_followMove_19 (E : xEn) (d : Nat) (x0 : Nat) (x1 : Nat) (x2 : Int32) (x3 : Int32) (x4 : Int32) (x5 : Int32) (s0 : Int32) (σ : xH) : Option xR := xval E (xsem xT E d) 0 0 bX4_followMove (19, [(0, .ref x0), (1, .ref x1), (2, .int x2), (3, .int x3), (4, .int x4), (5, .int x5)], [.int s0], σ, 0, 0)
noncomputable def qX4_followMove_40 (E : xEn) (d : Nat) (x0 : Nat) (x1 : Nat) (x3 : Int32) (x4 : Int32) (x5 : Int32) (x6 : Int32) (σ : xH) : Option xR := xval E (xsem xT E d) 0 0 bX4_followMove (40, [(0, .ref x0), (1, .ref x1), (3, .int x3), (4, .int x4), (5, .int x5), (6, .int x6)], [], σ, 0, 0)
noncomputable def qX4_followMove_53 (E : xEn) (d : Nat) (x0 : Nat) (x3 : Int32) (x4 : Int32) (x6 : Int32) (σ : xH) : Option xR := xval E (xsem xT E d) 0 0 bX4_followMove (53, [(0, .ref x0), (3, .int x3), (4, .int x4), (6, .int x6)], [], σ, 0, 0)
noncomputable def qX4_followMove_65 (E : xEn) (d : Nat) (x0 : Nat) (σ : xH) : Option xR := xval E (xsem xT E d) 0 0 bX4_followMove (65, [(0, .ref x0)], [], σ, 0, 0)
set_option maxRecDepth 100000 in
theorem QX4_followMove_0 (E : xEn) (d : Nat) (x0 : Nat) (x1 : Nat) (x2 : Int32) (x3 : Int32) (x4 : Int32) (x5 : Int32) (σ : xH) : qX4_followMove_0 E d x0 x1 x2 x3 x4 x5 σ = gO E σ 5 x1 (cI (xthr 1 some) (xsem xT E d kX5_isScratched [.ref x1, .int x3] σ) (fun v1 σ1 => gO E σ1 5 x1 (cI (xthr 1 some) (xsem xT E d kX5_isScratched [.ref x1, .int x4] σ1) (fun v2 σ2 => if v1 = v2 then qX4_followMove_18 E d x0 x1 x2 x3 x4 x5 σ2 else qX4_followMove_19 E d x0 x1 x2 x3 x4 x5 (nI 1) σ2)))) := xval_blkQ E (xsem xT E d) 0 0 bX4_followMove (pc := 0) rfl [(0, .ref x0), (1, .ref x1), (2, .int x2), (3, .int x3), (4, .int x4), (5, .int x5)] [] σ 0 0
set_option maxRecDepth 100000 in
theorem QX4_followMove_18 (E : xEn) (d : Nat) (x0 : Nat) (x1 : Nat) (x2 : Int32) (x3 : Int32) (x4 : Int32) (x5 : Int32) (σ : xH) : qX4_followMove_18 E d x0 x1 x2 x3 x4 x5 σ = qX4_followMove_19 E d x0 x1 x2 x3 x4 x5 (nI 0) σ := xval_blkQ E (xsem xT E d) 0 0 bX4_followMove (pc := 18) rfl [(0, .ref x0), (1, .ref x1), (2, .int x2), (3, .int x3), (4, .int x4), (5, .int x5)] [] σ 0 0
set_option maxRecDepth 100000 in
theorem QX4_followMove_19 (E : xEn) (d : Nat) (x0 : Nat) (x1 : Nat) (x2 : Int32) (x3 : Int32) (x4 : Int32) (x5 : Int32) (s0 : Int32) (σ : xH) : qX4_followMove_19 E d x0 x1 x2 x3 x4 x5 s0 σ = if s0 = (nI 0) then qX4_followMove_40 E d x0 x1 x3 x4 x5 s0 σ else if x2 = (nI 0) then qX4_followMove_40 E d x0 x1 x3 x4 x5 s0 σ else gO E σ 4 x0 (cV (xthr 1 some) (xsem xT E d kX4_exchange [.ref x0, .int x3, .int x4] σ) (fun σ1 => qX4_followMove_65 E d x0 σ1)) := xval_blkQ E (xsem xT E d) 0 0 bX4_followMove (pc := 19) rfl [(0, .ref x0), (1, .ref x1), (2, .int x2), (3, .int x3), (4, .int x4), (5, .int x5)] [.int s0] σ 0 0
set_option maxRecDepth 100000 in
theorem QX4_followMove_40 (E : xEn) (d : Nat) (x0 : Nat) (x1 : Nat) (x3 : Int32) (x4 : Int32) (x5 : Int32) (x6 : Int32) (σ : xH) : qX4_followMove_40 E d x0 x1 x3 x4 x5 x6 σ = if x5 = (nI 0) then qX4_followMove_53 E d x0 x3 x4 x6 σ else gO E σ 4 x0 (cV (xthr 1 some) (xsem xT E d kX4_wonder [.ref x0, .ref x1] σ) (fun σ1 => qX4_followMove_65 E d x0 σ1)) := xval_blkQ E (xsem xT E d) 0 0 bX4_followMove (pc := 40) rfl [(0, .ref x0), (1, .ref x1), (3, .int x3), (4, .int x4), (5, .int x5), (6, .int x6)] [] σ 0 0
set_option maxRecDepth 100000 in
theorem QX4_followMove_53 (E : xEn) (d : Nat) (x0 : Nat) (x3 : Int32) (x4 : Int32) (x6 : Int32) (σ : xH) : qX4_followMove_53 E d x0 x3 x4 x6 σ = if x6 = (nI 0) then gO E σ 4 x0 (cV (xthr 1 some) (xsem xT E d kX4_mix [.ref x0, .int x3, .int x4] σ) (fun σ1 => qX4_followMove_65 E d x0 σ1)) else qX4_followMove_65 E d x0 σ := xval_blkQ E (xsem xT E d) 0 0 bX4_followMove (pc := 53) rfl [(0, .ref x0), (3, .int x3), (4, .int x4), (6, .int x6)] [] σ 0 0
set_option maxRecDepth 100000 in
theorem QX4_followMove_65 (E : xEn) (d : Nat) (x0 : Nat) (σ : xH) : qX4_followMove_65 E d x0 σ = gO E σ 4 x0 (cV (xthr 1 some) (xsem xT E d kX4_settle [.ref x0] σ) (fun σ1 => some (.inl none, σ1))) := xval_blkQ E (xsem xT E d) 0 0 bX4_followMove (pc := 65) rfl [(0, .ref x0)] [] σ 0 0
theorem eX4_followMove (E : xEn) (d : Nat) (x0 : Nat) (x1 : Nat) (x2 : Int32) (x3 : Int32) (x4 : Int32) (x5 : Int32) (σ : xH) : xsem xT E (d + 1) kX4_followMove [.ref x0, .ref x1, .int x2, .int x3, .int x4, .int x5] σ = qX4_followMove_0 E d x0 x1 x2 x3 x4 x5 σ := rfl
noncomputable def qX4_followStill_0 (E : xEn) (d : Nat) (x0 : Nat) (x1 : Nat) (x2 : Int32) (σ : xH) : Option xR := xval E (xsem xT E d) 0 0 bX4_followStill (0, [(0, .ref x0), (1, .ref x1), (2, .int x2)], [], σ, 0, 0)
noncomputable def qX4_followStill_9 (E : xEn) (d : Nat) (x0 : Nat) (σ : xH) : Option xR := xval E (xsem xT E d) 0 0 bX4_followStill (9, [(0, .ref x0)], [], σ, 0, 0)
set_option maxRecDepth 100000 in
theorem QX4_followStill_0 (E : xEn) (d : Nat) (x0 : Nat) (x1 : Nat) (x2 : Int32) (σ : xH) : qX4_followStill_0 E d x0 x1 x2 σ = if x2 = (nI 0) then qX4_followStill_9 E d x0 σ else gO E σ 4 x0 (cV (xthr 1 some) (xsem xT E d kX4_wonder [.ref x0, .ref x1] σ) (fun σ1 => qX4_followStill_9 E d x0 σ1)) := xval_blkQ E (xsem xT E d) 0 0 bX4_followStill (pc := 0) rfl [(0, .ref x0), (1, .ref x1), (2, .int x2)] [] σ 0 0
set_option maxRecDepth 100000 in
theorem QX4_followStill_9 (E : xEn) (d : Nat) (x0 : Nat) (σ : xH) : qX4_followStill_9 E d x0 σ = gO E σ 4 x0 (cV (xthr 1 some) (xsem xT E d kX4_settle [.ref x0] σ) (fun σ1 => some (.inl none, σ1))) := xval_blkQ E (xsem xT E d) 0 0 bX4_followStill (pc := 9) rfl [(0, .ref x0)] [] σ 0 0
theorem eX4_followStill (E : xEn) (d : Nat) (x0 : Nat) (x1 : Nat) (x2 : Int32) (σ : xH) : xsem xT E (d + 1) kX4_followStill [.ref x0, .ref x1, .int x2] σ = qX4_followStill_0 E d x0 x1 x2 σ := rfl
noncomputable def qX4_exchange_0 (E : xEn) (d : Nat) (x0 : Nat) (x1 : Int32) (x2 : Int32) (σ : xH) : Option xR := xval E (xsem xT E d) 0 0 bX4_exchange (0, [(0, .ref x0), (1, .int x1), (2, .int x2)], [], σ, 0, 0)
set_option maxRecDepth 100000 in
theorem QX4_exchange_0 (E : xEn) (d : Nat) (x0 : Nat) (x1 : Int32) (x2 : Int32) (σ : xH) : qX4_exchange_0 E d x0 x1 x2 σ = gR σ 4 0 x0 (fun v1 => aI E σ v1 x1 (fun v2 => gR σ 4 0 x0 (fun v3 => gR σ 4 0 x0 (fun v4 => aI E σ v4 x2 (fun v5 => sI σ v3 x1 v5 (fun σ1 => gR σ1 4 0 x0 (fun v6 => sI σ1 v6 x2 v2 (fun σ2 => some (.inl none, σ2))))))))) := xval_blkQ E (xsem xT E d) 0 0 bX4_exchange (pc := 0) rfl [(0, .ref x0), (1, .int x1), (2, .int x2)] [] σ 0 0
theorem eX4_exchange (E : xEn) (d : Nat) (x0 : Nat) (x1 : Int32) (x2 : Int32) (σ : xH) : xsem xT E (d + 1) kX4_exchange [.ref x0, .int x1, .int x2] σ = qX4_exchange_0 E d x0 x1 x2 σ := rfl
noncomputable def qX4_mix_0 (E : xEn) (d : Nat) (x0 : Nat) (x1 : Int32) (x2 : Int32) (σ : xH) : Option xR := xval E (xsem xT E d) 0 0 bX4_mix (0, [(0, .ref x0), (1, .int x1), (2, .int x2)], [], σ, 0, 0)
noncomputable def qX4_mix_18 (E : xEn) (d : Nat) (x0 : Nat) (x1 : Int32) (x2 : Int32) (x3 : Int32) (x4 : Int32) (x5 : Int32) (σ : xH) : Option xR := xval E (xsem xT E d) 0 0 bX4_mix (18, [(0, .ref x0), (1, .int x1), (2, .int x2), (3, .int x3), (4, .int x4), (5, .int x5)], [], σ, 0, 0)
noncomputable def qX4_mix_45 (E : xEn) (d : Nat) (x0 : Nat) (x1 : Int32) (x2 : Int32) (x3 : Int32) (x4 : Int32) (σ : xH) : Option xR := xval E (xsem xT E d) 0 0 bX4_mix (45, [(0, .ref x0), (1, .int x1), (2, .int x2), (3, .int x3), (4, .int x4)], [], σ, 0, 0)
set_option maxRecDepth 100000 in
theorem QX4_mix_0 (E : xEn) (d : Nat) (x0 : Nat) (x1 : Int32) (x2 : Int32) (σ : xH) : qX4_mix_0 E d x0 x1 x2 σ = gR σ 4 0 x0 (fun v1 => aI E σ v1 x1 (fun v2 => gR σ 4 0 x0 (fun v3 => aI E σ v3 x2 (fun v4 => qX4_mix_18 E d x0 x1 x2 v2 v4 (nI 0) σ)))) := xval_blkQ E (xsem xT E d) 0 0 bX4_mix (pc := 0) rfl [(0, .ref x0), (1, .int x1), (2, .int x2)] [] σ 0 0
set_option maxRecDepth 100000 in
theorem QX4_mix_18 (E : xEn) (d : Nat) (x0 : Nat) (x1 : Int32) (x2 : Int32) (x3 : Int32) (x4 : Int32) (x5 : Int32) (σ : xH) : qX4_mix_18 E d x0 x1 x2 x3 x4 x5 σ = gI σ 4 1 x0 (fun v1 => if v1 ≤ x5 then qX4_mix_45 E d x0 x1 x2 x3 x4 σ else gR σ 4 0 x0 (fun v2 => aI E σ v2 x5 (fun v3 => sI σ v2 x5 (v3 * (nI 100)) (fun σ1 => qX4_mix_18 E d x0 x1 x2 x3 x4 (x5 + (nI 1)) σ1)))) := xval_blkQ E (xsem xT E d) 0 0 bX4_mix (pc := 18) rfl [(0, .ref x0), (1, .int x1), (2, .int x2), (3, .int x3), (4, .int x4), (5, .int x5)] [] σ 0 0
set_option maxRecDepth 100000 in
theorem QX4_mix_45 (E : xEn) (d : Nat) (x0 : Nat) (x1 : Int32) (x2 : Int32) (x3 : Int32) (x4 : Int32) (σ : xH) : qX4_mix_45 E d x0 x1 x2 x3 x4 σ = gR σ 4 0 x0 (fun v1 => gI σ 4 2 x0 (fun v2 => gI σ 4 2 x0 (fun v3 => sI σ v1 x1 ((x3 * ((nI 100) - v2)) + (x4 * v3)) (fun σ1 => gR σ1 4 0 x0 (fun v4 => gI σ1 4 2 x0 (fun v5 => gI σ1 4 2 x0 (fun v6 => sI σ1 v4 x2 ((x4 * ((nI 100) - v5)) + (x3 * v6)) (fun σ2 => some (.inl none, σ2))))))))) := xval_blkQ E (xsem xT E d) 0 0 bX4_mix (pc := 45) rfl [(0, .ref x0), (1, .int x1), (2, .int x2), (3, .int x3), (4, .int x4)] [] σ 0 0
theorem eX4_mix (E : xEn) (d : Nat) (x0 : Nat) (x1 : Int32) (x2 : Int32) (σ : xH) : xsem xT E (d + 1) kX4_mix [.ref x0, .int x1, .int x2] σ = qX4_mix_0 E d x0 x1 x2 σ := rfl
noncomputable def qX4_wonder_0 (E : xEn) (d : Nat) (x0 : Nat) (x1 : Nat) (σ : xH) : Option xR := xval E (xsem xT E d) 0 0 bX4_wonder (0, [(0, .ref x0), (1, .ref x1)], [], σ, 0, 0)
noncomputable def qX4_wonder_18 (E : xEn) (d : Nat) (x0 : Nat) (x1 : Nat) (x2 : Int32) (x3 : Int32) (x4 : Int32) (x5 : Int32) (x6 : Int32) (σ : xH) : Option xR := xval E (xsem xT E d) 0 0 bX4_wonder (18, [(0, .ref x0), (1, .ref x1), (2, .int x2), (3, .int x3), (4, .int x4), (5, .int x5), (6, .int x6)], [], σ, 0, 0)
noncomputable def qX4_wonder_60 (E : xEn) (d : Nat) (x0 : Nat) (x1 : Nat) (x2 : Int32) (x3 : Int32) (x4 : Int32) (x5 : Int32) (x6 : Int32) (σ : xH) : Option xR := xval E (xsem xT E d) 0 0 bX4_wonder (60, [(0, .ref x0), (1, .ref x1), (2, .int x2), (3, .int x3), (4, .int x4), (5, .int x5), (6, .int x6)], [], σ, 0, 0)
noncomputable def qX4_wonder_66 (E : xEn) (d : Nat) (x0 : Nat) (x1 : Nat) (x2 : Int32) (x3 : Int32) (x4 : Int32) (x5 : Int32) (σ : xH) : Option xR := xval E (xsem xT E d) 0 0 bX4_wonder (66, [(0, .ref x0), (1, .ref x1), (2, .int x2), (3, .int x3), (4, .int x4), (5, .int x5)], [], σ, 0, 0)
noncomputable def qX4_wonder_94 (E : xEn) (d : Nat) (x0 : Nat) (x1 : Nat) (x2 : Int32) (x3 : Int32) (x4 : Int32) (x5 : Int32) (x6 : Int32) (x7 : Int32) (x8 : Int32) (x9 : Int32) (σ : xH) : Option xR := xval E (xsem xT E d) 0 0 bX4_wonder (94, [(0, .ref x0), (1, .ref x1), (2, .int x2), (3, .int x3), (4, .int x4), (5, .int x5), (6, .int x6), (7, .int x7), (8, .int x8), (9, .int x9)], [], σ, 0, 0)
noncomputable def qX4_wonder_117 (E : xEn) (d : Nat) (x0 : Nat) (x1 : Nat) (x2 : Int32) (x3 : Int32) (x4 : Int32) (x5 : Int32) (x6 : Int32) (x7 : Int32) (x8 : Int32) (x9 : Int32) (x10 : Int32) (σ : xH) : Option xR := xval E (xsem xT E d) 0 0 bX4_wonder (117, [(0, .ref x0), (1, .ref x1), (2, .int x2), (3, .int x3), (4, .int x4), (5, .int x5), (6, .int x6), (7, .int x7), (8, .int x8), (9, .int x9), (10, .int x10)], [], σ, 0, 0)
noncomputable def qX4_wonder_119 (E : xEn) (d : Nat) (x0 : Nat) (x1 : Nat) (x2 : Int32) (x3 : Int32) (x4 : Int32) (x5 : Int32) (x6 : Int32) (x7 : Int32) (x8 : Int32) (x9 : Int32) (x10 : Int32) (s0 : Int32) (σ : xH) : Option xR := xval E (xsem xT E d) 0 0 bX4_wonder (119, [(0, .ref x0), (1, .ref x1), (2, .int x2), (3, .int x3), (4, .int x4), (5, .int x5), (6, .int x6), (7, .int x7), (8, .int x8), (9, .int x9), (10, .int x10)], [.int s0], σ, 0, 0)
noncomputable def qX4_wonder_133 (E : xEn) (d : Nat) (x0 : Nat) (x1 : Nat) (x2 : Int32) (x3 : Int32) (x4 : Int32) (x5 : Int32) (x6 : Int32) (x7 : Int32) (x8 : Int32) (x9 : Int32) (x11 : Int32) (σ : xH) : Option xR := xval E (xsem xT E d) 0 0 bX4_wonder (133, [(0, .ref x0), (1, .ref x1), (2, .int x2), (3, .int x3), (4, .int x4), (5, .int x5), (6, .int x6), (7, .int x7), (8, .int x8), (9, .int x9), (11, .int x11)], [], σ, 0, 0)
noncomputable def qX4_wonder_138 (E : xEn) (d : Nat) (x0 : Nat) (x1 : Nat) (x2 : Int32) (x3 : Int32) (x4 : Int32) (x5 : Int32) (x6 : Int32) (x7 : Int32) (x8 : Int32) (x9 : Int32) (x11 : Int32) (s0 : Int32) (σ : xH) : Option xR := xval E (xsem xT E d) 0 0 bX4_wonder (138, [(0, .ref x0), (1, .ref x1), (2, .int x2), (3, .int x3), (4, .int x4), (5, .int x5), (6, .int x6), (7, .int x7), (8, .int x8), (9, .int x9), (11, .int x11)], [.int s0], σ, 0, 0)
noncomputable def qX4_wonder_210 (E : xEn) (d : Nat) (x0 : Nat) (x2 : Int32) (x5 : Int32) (x7 : Int32) (x8 : Int32) (σ : xH) : Option xR := xval E (xsem xT E d) 0 0 bX4_wonder (210, [(0, .ref x0), (2, .int x2), (5, .int x5), (7, .int x7), (8, .int x8)], [], σ, 0, 0)
set_option maxRecDepth 100000 in
theorem QX4_wonder_0 (E : xEn) (d : Nat) (x0 : Nat) (x1 : Nat) (σ : xH) : qX4_wonder_0 E d x0 x1 σ = gI σ 4 1 x0 (fun v1 => qX4_wonder_18 E d x0 x1 (v1 - (nI 1)) (nI 0) (nI 0) (nI 0) (nI 0) σ) := xval_blkQ E (xsem xT E d) 0 0 bX4_wonder (pc := 0) rfl [(0, .ref x0), (1, .ref x1)] [] σ 0 0
set_option maxRecDepth 100000 in
theorem QX4_wonder_18 (E : xEn) (d : Nat) (x0 : Nat) (x1 : Nat) (x2 : Int32) (x3 : Int32) (x4 : Int32) (x5 : Int32) (x6 : Int32) (σ : xH) : qX4_wonder_18 E d x0 x1 x2 x3 x4 x5 x6 σ = if x2 ≤ x6 then qX4_wonder_66 E d x0 x1 x2 x3 x4 x5 σ else gR σ 4 0 x0 (fun v1 => aI E σ v1 x6 (fun v2 => gO E σ 5 x1 (cI (xthr 1 some) (xsem xT E d kX5_isScratched [.ref x1, .int x6] σ) (fun v3 σ1 => if v3 = (nI 0) then qX4_wonder_60 E d x0 x1 x2 x3 x4 (x5 + v2) x6 σ1 else gR σ1 4 0 x0 (fun v4 => aI E σ1 v4 x6 (fun v5 => qX4_wonder_60 E d x0 x1 x2 (x3 + (nI 1)) (x4 + v5) (x5 + v2) x6 σ1)))))) := xval_blkQ E (xsem xT E d) 0 0 bX4_wonder (pc := 18) rfl [(0, .ref x0), (1, .ref x1), (2, .int x2), (3, .int x3), (4, .int x4), (5, .int x5), (6, .int x6)] [] σ 0 0
set_option maxRecDepth 100000 in
theorem QX4_wonder_60 (E : xEn) (d : Nat) (x0 : Nat) (x1 : Nat) (x2 : Int32) (x3 : Int32) (x4 : Int32) (x5 : Int32) (x6 : Int32) (σ : xH) : qX4_wonder_60 E d x0 x1 x2 x3 x4 x5 x6 σ = qX4_wonder_18 E d x0 x1 x2 x3 x4 x5 (x6 + (nI 1)) σ := xval_blkQ E (xsem xT E d) 0 0 bX4_wonder (pc := 60) rfl [(0, .ref x0), (1, .ref x1), (2, .int x2), (3, .int x3), (4, .int x4), (5, .int x5), (6, .int x6)] [] σ 0 0
set_option maxRecDepth 100000 in
theorem QX4_wonder_66 (E : xEn) (d : Nat) (x0 : Nat) (x1 : Nat) (x2 : Int32) (x3 : Int32) (x4 : Int32) (x5 : Int32) (σ : xH) : qX4_wonder_66 E d x0 x1 x2 x3 x4 x5 σ = cI (xthr 0 some) (xsem xT E d kX4_pairsOf [.int x3] σ) (fun v1 σ1 => cI (xthr 0 some) (xsem xT E d kX4_pairsOf [.int (x2 - x3)] σ1) (fun v2 σ2 => gR σ2 4 0 x0 (fun v3 => aI E σ2 v3 x2 (fun v4 => qX4_wonder_94 E d x0 x1 x2 x3 x4 x5 (x2 - x3) (v1 + v2) v4 (nI 0) σ2)))) := xval_blkQ E (xsem xT E d) 0 0 bX4_wonder (pc := 66) rfl [(0, .ref x0), (1, .ref x1), (2, .int x2), (3, .int x3), (4, .int x4), (5, .int x5)] [] σ 0 0
set_option maxRecDepth 100000 in
theorem QX4_wonder_94 (E : xEn) (d : Nat) (x0 : Nat) (x1 : Nat) (x2 : Int32) (x3 : Int32) (x4 : Int32) (x5 : Int32) (x6 : Int32) (x7 : Int32) (x8 : Int32) (x9 : Int32) (σ : xH) : qX4_wonder_94 E d x0 x1 x2 x3 x4 x5 x6 x7 x8 x9 σ = if x2 ≤ x9 then qX4_wonder_210 E d x0 x2 x5 x7 x8 σ else gO E σ 5 x1 (cI (xthr 1 some) (xsem xT E d kX5_isScratched [.ref x1, .int x9] σ) (fun v1 σ1 => if v1 = (nI 0) then qX4_wonder_117 E d x0 x1 x2 x3 x4 x5 x6 x7 x8 x9 v1 σ1 else qX4_wonder_119 E d x0 x1 x2 x3 x4 x5 x6 x7 x8 x9 v1 x3 σ1)) := xval_blkQ E (xsem xT E d) 0 0 bX4_wonder (pc := 94) rfl [(0, .ref x0), (1, .ref x1), (2, .int x2), (3, .int x3), (4, .int x4), (5, .int x5), (6, .int x6), (7, .int x7), (8, .int x8), (9, .int x9)] [] σ 0 0
set_option maxRecDepth 100000 in
theorem QX4_wonder_117 (E : xEn) (d : Nat) (x0 : Nat) (x1 : Nat) (x2 : Int32) (x3 : Int32) (x4 : Int32) (x5 : Int32) (x6 : Int32) (x7 : Int32) (x8 : Int32) (x9 : Int32) (x10 : Int32) (σ : xH) : qX4_wonder_117 E d x0 x1 x2 x3 x4 x5 x6 x7 x8 x9 x10 σ = qX4_wonder_119 E d x0 x1 x2 x3 x4 x5 x6 x7 x8 x9 x10 x6 σ := xval_blkQ E (xsem xT E d) 0 0 bX4_wonder (pc := 117) rfl [(0, .ref x0), (1, .ref x1), (2, .int x2), (3, .int x3), (4, .int x4), (5, .int x5), (6, .int x6), (7, .int x7), (8, .int x8), (9, .int x9), (10, .int x10)] [] σ 0 0
set_option maxRecDepth 100000 in
theorem QX4_wonder_119 (E : xEn) (d : Nat) (x0 : Nat) (x1 : Nat) (x2 : Int32) (x3 : Int32) (x4 : Int32) (x5 : Int32) (x6 : Int32) (x7 : Int32) (x8 : Int32) (x9 : Int32) (x10 : Int32) (s0 : Int32) (σ : xH) : qX4_wonder_119 E d x0 x1 x2 x3 x4 x5 x6 x7 x8 x9 x10 s0 σ = if x10 = (nI 0) then qX4_wonder_133 E d x0 x1 x2 x3 x4 x5 x6 x7 x8 x9 (s0 - (nI 1)) σ else qX4_wonder_138 E d x0 x1 x2 x3 x4 x5 x6 x7 x8 x9 (s0 - (nI 1)) x4 σ := xval_blkQ E (xsem xT E d) 0 0 bX4_wonder (pc := 119) rfl [(0, .ref x0), (1, .ref x1), (2, .int x2), (3, .int x3), (4, .int x4), (5, .int x5), (6, .int x6), (7, .int x7), (8, .int x8), (9, .int x9), (10, .int x10)] [.int s0] σ 0 0
set_option maxRecDepth 100000 in
theorem QX4_wonder_133 (E : xEn) (d : Nat) (x0 : Nat) (x1 : Nat) (x2 : Int32) (x3 : Int32) (x4 : Int32) (x5 : Int32) (x6 : Int32) (x7 : Int32) (x8 : Int32) (x9 : Int32) (x11 : Int32) (σ : xH) : qX4_wonder_133 E d x0 x1 x2 x3 x4 x5 x6 x7 x8 x9 x11 σ = qX4_wonder_138 E d x0 x1 x2 x3 x4 x5 x6 x7 x8 x9 x11 (x5 - x4) σ := xval_blkQ E (xsem xT E d) 0 0 bX4_wonder (pc := 133) rfl [(0, .ref x0), (1, .ref x1), (2, .int x2), (3, .int x3), (4, .int x4), (5, .int x5), (6, .int x6), (7, .int x7), (8, .int x8), (9, .int x9), (11, .int x11)] [] σ 0 0
set_option maxRecDepth 100000 in
theorem QX4_wonder_138 (E : xEn) (d : Nat) (x0 : Nat) (x1 : Nat) (x2 : Int32) (x3 : Int32) (x4 : Int32) (x5 : Int32) (x6 : Int32) (x7 : Int32) (x8 : Int32) (x9 : Int32) (x11 : Int32) (s0 : Int32) (σ : xH) : qX4_wonder_138 E d x0 x1 x2 x3 x4 x5 x6 x7 x8 x9 x11 s0 σ = gR σ 4 0 x0 (fun v1 => aI E σ v1 x9 (fun v2 => gI σ 4 3 x0 (fun v3 => gI σ 4 4 x0 (fun v4 => gI σ 4 4 x0 (fun v5 => gR σ 4 0 x0 (fun v6 => gR σ 4 0 x0 (fun v7 => aI E σ v7 x9 (fun v8 => gI σ 4 4 x0 (fun v9 => sI σ v6 x9 (((v8 * ((((x7 - x11) + v3) + (v4 * (x2 - (nI 1)))) + (v5 * x2))) + (s0 - v2)) + (x8 * v9)) (fun σ1 => qX4_wonder_94 E d x0 x1 x2 x3 x4 x5 x6 x7 x8 (x9 + (nI 1)) σ1)))))))))) := xval_blkQ E (xsem xT E d) 0 0 bX4_wonder (pc := 138) rfl [(0, .ref x0), (1, .ref x1), (2, .int x2), (3, .int x3), (4, .int x4), (5, .int x5), (6, .int x6), (7, .int x7), (8, .int x8), (9, .int x9), (11, .int x11)] [.int s0] σ 0 0
set_option maxRecDepth 100000 in
theorem QX4_wonder_210 (E : xEn) (d : Nat) (x0 : Nat) (x2 : Int32) (x5 : Int32) (x7 : Int32) (x8 : Int32) (σ : xH) : qX4_wonder_210 E d x0 x2 x5 x7 x8 σ = gR σ 4 0 x0 (fun v1 => gI σ 4 3 x0 (fun v2 => gI σ 4 4 x0 (fun v3 => gI σ 4 4 x0 (fun v4 => sI σ v1 x2 ((x8 * ((x7 + v2) + (v3 * x2))) + (x5 * v4)) (fun σ1 => some (.inl none, σ1)))))) := xval_blkQ E (xsem xT E d) 0 0 bX4_wonder (pc := 210) rfl [(0, .ref x0), (2, .int x2), (5, .int x5), (7, .int x7), (8, .int x8)] [] σ 0 0
theorem eX4_wonder (E : xEn) (d : Nat) (x0 : Nat) (x1 : Nat) (σ : xH) : xsem xT E (d + 1) kX4_wonder [.ref x0, .ref x1] σ = qX4_wonder_0 E d x0 x1 σ := rfl
noncomputable def qX4_pairsOf_0 (E : xEn) (d : Nat) (x0 : Int32) (σ : xH) : Option xR := xval E (xsem xT E d) 0 0 bX4_pairsOf (0, [(0, .int x0)], [], σ, 0, 0)
set_option maxRecDepth 100000 in
theorem QX4_pairsOf_0 (E : xEn) (d : Nat) (x0 : Int32) (σ : xH) : qX4_pairsOf_0 E d x0 σ = nz (decide (¬ (nI 2) = 0)) (some (.inl (some (.int ((x0 * (x0 - (nI 1))) / (nI 2)))), σ)) := xval_blkQ E (xsem xT E d) 0 0 bX4_pairsOf (pc := 0) rfl [(0, .int x0)] [] σ 0 0
theorem eX4_pairsOf (E : xEn) (d : Nat) (x0 : Int32) (σ : xH) : xsem xT E (d + 1) kX4_pairsOf [.int x0] σ = qX4_pairsOf_0 E d x0 σ := rfl
noncomputable def qX4_settle_0 (E : xEn) (d : Nat) (x0 : Nat) (σ : xH) : Option xR := xval E (xsem xT E d) 0 0 bX4_settle (0, [(0, .ref x0)], [], σ, 0, 0)
noncomputable def qX4_settle_6 (E : xEn) (d : Nat) (x0 : Nat) (x1 : Int32) (σ : xH) : Option xR := xval E (xsem xT E d) 0 0 bX4_settle (6, [(0, .ref x0), (1, .int x1)], [], σ, 0, 0)
noncomputable def qX4_settle_31 (E : xEn) (d : Nat) (σ : xH) : Option xR := xval E (xsem xT E d) 0 0 bX4_settle (31, [], [], σ, 0, 0)
set_option maxRecDepth 100000 in
theorem QX4_settle_0 (E : xEn) (d : Nat) (x0 : Nat) (σ : xH) : qX4_settle_0 E d x0 σ = gO E σ 4 x0 (cV (xthr 1 some) (xsem xT E d kX4_divideByCommonDivisor [.ref x0] σ) (fun σ1 => qX4_settle_6 E d x0 (nI 0) σ1)) := xval_blkQ E (xsem xT E d) 0 0 bX4_settle (pc := 0) rfl [(0, .ref x0)] [] σ 0 0
set_option maxRecDepth 100000 in
theorem QX4_settle_6 (E : xEn) (d : Nat) (x0 : Nat) (x1 : Int32) (σ : xH) : qX4_settle_6 E d x0 x1 σ = if (nI 32) ≤ x1 then qX4_settle_31 E d σ else gO E σ 4 x0 (cI (xthr 1 some) (xsem xT E d kX4_greatest [.ref x0] σ) (fun v1 σ1 => if v1 ≤ (nI 1000000) then qX4_settle_31 E d σ1 else gO E σ1 4 x0 (cV (xthr 1 some) (xsem xT E d kX4_halve [.ref x0] σ1) (fun σ2 => qX4_settle_6 E d x0 (x1 + (nI 1)) σ2)))) := xval_blkQ E (xsem xT E d) 0 0 bX4_settle (pc := 6) rfl [(0, .ref x0), (1, .int x1)] [] σ 0 0
set_option maxRecDepth 100000 in
theorem QX4_settle_31 (E : xEn) (d : Nat) (σ : xH) : qX4_settle_31 E d σ = some (.inl none, σ) := xval_blkQ E (xsem xT E d) 0 0 bX4_settle (pc := 31) rfl [] [] σ 0 0
theorem eX4_settle (E : xEn) (d : Nat) (x0 : Nat) (σ : xH) : xsem xT E (d + 1) kX4_settle [.ref x0] σ = qX4_settle_0 E d x0 σ := rfl
noncomputable def qX4_halve_0 (E : xEn) (d : Nat) (x0 : Nat) (σ : xH) : Option xR := xval E (xsem xT E d) 0 0 bX4_halve (0, [(0, .ref x0)], [], σ, 0, 0)
noncomputable def qX4_halve_2 (E : xEn) (d : Nat) (x0 : Nat) (x1 : Int32) (σ : xH) : Option xR := xval E (xsem xT E d) 0 0 bX4_halve (2, [(0, .ref x0), (1, .int x1)], [], σ, 0, 0)
noncomputable def qX4_halve_32 (E : xEn) (d : Nat) (σ : xH) : Option xR := xval E (xsem xT E d) 0 0 bX4_halve (32, [], [], σ, 0, 0)
set_option maxRecDepth 100000 in
theorem QX4_halve_0 (E : xEn) (d : Nat) (x0 : Nat) (σ : xH) : qX4_halve_0 E d x0 σ = qX4_halve_2 E d x0 (nI 0) σ := xval_blkQ E (xsem xT E d) 0 0 bX4_halve (pc := 0) rfl [(0, .ref x0)] [] σ 0 0
set_option maxRecDepth 100000 in
theorem QX4_halve_2 (E : xEn) (d : Nat) (x0 : Nat) (x1 : Int32) (σ : xH) : qX4_halve_2 E d x0 x1 σ = gI σ 4 1 x0 (fun v1 => if v1 ≤ x1 then qX4_halve_32 E d σ else gR σ 4 0 x0 (fun v2 => gR σ 4 0 x0 (fun v3 => aI E σ v3 x1 (fun v4 => nz (decide (¬ (nI 2) = 0)) (sI σ v2 x1 ((v4 + (nI 1)) / (nI 2)) (fun σ1 => qX4_halve_2 E d x0 (x1 + (nI 1)) σ1)))))) := xval_blkQ E (xsem xT E d) 0 0 bX4_halve (pc := 2) rfl [(0, .ref x0), (1, .int x1)] [] σ 0 0
set_option maxRecDepth 100000 in
theorem QX4_halve_32 (E : xEn) (d : Nat) (σ : xH) : qX4_halve_32 E d σ = some (.inl none, σ) := xval_blkQ E (xsem xT E d) 0 0 bX4_halve (pc := 32) rfl [] [] σ 0 0
theorem eX4_halve (E : xEn) (d : Nat) (x0 : Nat) (σ : xH) : xsem xT E (d + 1) kX4_halve [.ref x0] σ = qX4_halve_0 E d x0 σ := rfl
noncomputable def qX4_divideByCommonDivisor_0 (E : xEn) (d : Nat) (x0 : Nat) (σ : xH) : Option xR := xval E (xsem xT E d) 0 0 bX4_divideByCommonDivisor (0, [(0, .ref x0)], [], σ, 0, 0)
noncomputable def qX4_divideByCommonDivisor_4 (E : xEn) (d : Nat) (x0 : Nat) (x1 : Int32) (x2 : Int32) (σ : xH) : Option xR := xval E (xsem xT E d) 0 0 bX4_divideByCommonDivisor (4, [(0, .ref x0), (1, .int x1), (2, .int x2)], [], σ, 0, 0)
noncomputable def qX4_divideByCommonDivisor_29 (E : xEn) (d : Nat) (x0 : Nat) (x1 : Int32) (σ : xH) : Option xR := xval E (xsem xT E d) 0 0 bX4_divideByCommonDivisor (29, [(0, .ref x0), (1, .int x1)], [], σ, 0, 0)
noncomputable def qX4_divideByCommonDivisor_31 (E : xEn) (d : Nat) (x0 : Nat) (x1 : Int32) (x2 : Int32) (σ : xH) : Option xR := xval E (xsem xT E d) 0 0 bX4_divideByCommonDivisor (31, [(0, .ref x0), (1, .int x1), (2, .int x2)], [], σ, 0, 0)
noncomputable def qX4_divideByCommonDivisor_60 (E : xEn) (d : Nat) (σ : xH) : Option xR := xval E (xsem xT E d) 0 0 bX4_divideByCommonDivisor (60, [], [], σ, 0, 0)
set_option maxRecDepth 100000 in
theorem QX4_divideByCommonDivisor_0 (E : xEn) (d : Nat) (x0 : Nat) (σ : xH) : qX4_divideByCommonDivisor_0 E d x0 σ = qX4_divideByCommonDivisor_4 E d x0 (nI 0) (nI 0) σ := xval_blkQ E (xsem xT E d) 0 0 bX4_divideByCommonDivisor (pc := 0) rfl [(0, .ref x0)] [] σ 0 0
set_option maxRecDepth 100000 in
theorem QX4_divideByCommonDivisor_4 (E : xEn) (d : Nat) (x0 : Nat) (x1 : Int32) (x2 : Int32) (σ : xH) : qX4_divideByCommonDivisor_4 E d x0 x1 x2 σ = gI σ 4 1 x0 (fun v1 => if v1 ≤ x2 then qX4_divideByCommonDivisor_29 E d x0 x1 σ else gR σ 4 0 x0 (fun v2 => aI E σ v2 x2 (fun v3 => cI (xthr 0 some) (xsem xT E d kX4_commonDivisor [.int v3, .int x1] σ) (fun v4 σ1 => qX4_divideByCommonDivisor_4 E d x0 v4 (x2 + (nI 1)) σ1)))) := xval_blkQ E (xsem xT E d) 0 0 bX4_divideByCommonDivisor (pc := 4) rfl [(0, .ref x0), (1, .int x1), (2, .int x2)] [] σ 0 0
set_option maxRecDepth 100000 in
theorem QX4_divideByCommonDivisor_29 (E : xEn) (d : Nat) (x0 : Nat) (x1 : Int32) (σ : xH) : qX4_divideByCommonDivisor_29 E d x0 x1 σ = qX4_divideByCommonDivisor_31 E d x0 x1 (nI 0) σ := xval_blkQ E (xsem xT E d) 0 0 bX4_divideByCommonDivisor (pc := 29) rfl [(0, .ref x0), (1, .int x1)] [] σ 0 0
set_option maxRecDepth 100000 in
theorem QX4_divideByCommonDivisor_31 (E : xEn) (d : Nat) (x0 : Nat) (x1 : Int32) (x2 : Int32) (σ : xH) : qX4_divideByCommonDivisor_31 E d x0 x1 x2 σ = gI σ 4 1 x0 (fun v1 => if v1 ≤ x2 then qX4_divideByCommonDivisor_60 E d σ else if x1 ≤ (nI 1) then qX4_divideByCommonDivisor_60 E d σ else gR σ 4 0 x0 (fun v2 => aI E σ v2 x2 (fun v3 => nz (decide (¬ x1 = 0)) (sI σ v2 x2 (v3 / x1) (fun σ1 => qX4_divideByCommonDivisor_31 E d x0 x1 (x2 + (nI 1)) σ1))))) := xval_blkQ E (xsem xT E d) 0 0 bX4_divideByCommonDivisor (pc := 31) rfl [(0, .ref x0), (1, .int x1), (2, .int x2)] [] σ 0 0
set_option maxRecDepth 100000 in
theorem QX4_divideByCommonDivisor_60 (E : xEn) (d : Nat) (σ : xH) : qX4_divideByCommonDivisor_60 E d σ = some (.inl none, σ) := xval_blkQ E (xsem xT E d) 0 0 bX4_divideByCommonDivisor (pc := 60) rfl [] [] σ 0 0
theorem eX4_divideByCommonDivisor (E : xEn) (d : Nat) (x0 : Nat) (σ : xH) : xsem xT E (d + 1) kX4_divideByCommonDivisor [.ref x0] σ = qX4_divideByCommonDivisor_0 E d x0 σ := rfl
noncomputable def qX4_commonDivisor_0 (E : xEn) (d : Nat) (x0 : Int32) (x1 : Int32) (σ : xH) : Option xR := xval E (xsem xT E d) 0 0 bX4_commonDivisor (0, [(0, .int x0), (1, .int x1)], [], σ, 0, 0)
noncomputable def qX4_commonDivisor_7 (E : xEn) (d : Nat) (x2 : Int32) (x3 : Int32) (x4 : Int32) (σ : xH) : Option xR := xval E (xsem xT E d) 0 0 bX4_commonDivisor (7, [(2, .int x2), (3, .int x3), (4, .int x4)], [], σ, 0, 0)
noncomputable def qX4_commonDivisor_34 (E : xEn) (d : Nat) (x2 : Int32) (σ : xH) : Option xR := xval E (xsem xT E d) 0 0 bX4_commonDivisor (34, [(2, .int x2)], [], σ, 0, 0)
set_option maxRecDepth 100000 in
theorem QX4_commonDivisor_0 (E : xEn) (d : Nat) (x0 : Int32) (x1 : Int32) (σ : xH) : qX4_commonDivisor_0 E d x0 x1 σ = qX4_commonDivisor_7 E d x0 x1 (nI 0) σ := xval_blkQ E (xsem xT E d) 0 0 bX4_commonDivisor (pc := 0) rfl [(0, .int x0), (1, .int x1)] [] σ 0 0
set_option maxRecDepth 100000 in
theorem QX4_commonDivisor_7 (E : xEn) (d : Nat) (x2 : Int32) (x3 : Int32) (x4 : Int32) (σ : xH) : qX4_commonDivisor_7 E d x2 x3 x4 σ = if (nI 64) ≤ x4 then qX4_commonDivisor_34 E d x2 σ else if x3 = (nI 0) then qX4_commonDivisor_34 E d x2 σ else nz (decide (¬ x3 = 0)) (qX4_commonDivisor_7 E d x3 (x2 - x2 / x3 * x3) (x4 + (nI 1)) σ) := xval_blkQ E (xsem xT E d) 0 0 bX4_commonDivisor (pc := 7) rfl [(2, .int x2), (3, .int x3), (4, .int x4)] [] σ 0 0
set_option maxRecDepth 100000 in
theorem QX4_commonDivisor_34 (E : xEn) (d : Nat) (x2 : Int32) (σ : xH) : qX4_commonDivisor_34 E d x2 σ = some (.inl (some (.int x2)), σ) := xval_blkQ E (xsem xT E d) 0 0 bX4_commonDivisor (pc := 34) rfl [(2, .int x2)] [] σ 0 0
theorem eX4_commonDivisor (E : xEn) (d : Nat) (x0 : Int32) (x1 : Int32) (σ : xH) : xsem xT E (d + 1) kX4_commonDivisor [.int x0, .int x1] σ = qX4_commonDivisor_0 E d x0 x1 σ := rfl
end
section
/-! EQUATIONS OF THE BLOCKS, written by wip/p31/geneq.py. -/
noncomputable def qX5_init_0 (E : xEn) (d : Nat) (bc bs : Nat) (x0 : Nat) (σ : xH) : Option xR := xval E (xsem xT E d) 2 16 bX5_init (0, [(0, .ref x0)], [], σ, bc, bs)
set_option maxRecDepth 100000 in
theorem QX5_init_0 (E : xEn) (d : Nat) (bc bs : Nat) (x0 : Nat) (σ : xH) : qX5_init_0 E d bc bs x0 σ = bif Nat.ble (bc + 1) 2 && (Nat.ble (bs + 8) 16 && Nat.ble 8 100000) then nwA σ 0 8 (fun v1 σ1 => gP σ1 5 3 x0 (.ref v1) (fun σ2 => bif Nat.ble ((bc + 1) + 1) 2 && (Nat.ble ((bs + 8) + 8) 16 && Nat.ble 8 100000) then nwA σ2 0 8 (fun v2 σ3 => gP σ3 5 4 x0 (.ref v2) (fun σ4 => some (.inl none, σ4))) else none)) else none := xval_blkQ E (xsem xT E d) 2 16 bX5_init (pc := 0) rfl [(0, .ref x0)] [] σ bc bs
theorem eX5_init (E : xEn) (d : Nat) (x0 : Nat) (σ : xH) : xsem xT E (d + 1) kX5_init [.ref x0] σ = qX5_init_0 E d 0 0 x0 σ := rfl
noncomputable def qX5_reset_0 (E : xEn) (d : Nat) (x0 : Nat) (x1 : Int32) (σ : xH) : Option xR := xval E (xsem xT E d) 0 0 bX5_reset (0, [(0, .ref x0), (1, .int x1)], [], σ, 0, 0)
noncomputable def qX5_reset_17 (E : xEn) (d : Nat) (x0 : Nat) (x2 : Int32) (σ : xH) : Option xR := xval E (xsem xT E d) 0 0 bX5_reset (17, [(0, .ref x0), (2, .int x2)], [], σ, 0, 0)
noncomputable def qX5_reset_46 (E : xEn) (d : Nat) (σ : xH) : Option xR := xval E (xsem xT E d) 0 0 bX5_reset (46, [], [], σ, 0, 0)
set_option maxRecDepth 100000 in
theorem QX5_reset_0 (E : xEn) (d : Nat) (x0 : Nat) (x1 : Int32) (σ : xH) : qX5_reset_0 E d x0 x1 σ = gP σ 5 0 x0 (.int x1) (fun σ1 => gP σ1 5 1 x0 (.int (nI 0)) (fun σ2 => gP σ2 5 2 x0 (.int (nI 0)) (fun σ3 => qX5_reset_17 E d x0 (nI 0) σ3))) := xval_blkQ E (xsem xT E d) 0 0 bX5_reset (pc := 0) rfl [(0, .ref x0), (1, .int x1)] [] σ 0 0
set_option maxRecDepth 100000 in
theorem QX5_reset_17 (E : xEn) (d : Nat) (x0 : Nat) (x2 : Int32) (σ : xH) : qX5_reset_17 E d x0 x2 σ = gR σ 5 3 x0 (fun v1 => aN E σ v1 (fun v2 => if v2 ≤ x2 then qX5_reset_46 E d σ else gR σ 5 3 x0 (fun v3 => sI σ v3 x2 x2 (fun σ1 => gR σ1 5 4 x0 (fun v4 => sI σ1 v4 x2 (nI 0) (fun σ2 => qX5_reset_17 E d x0 (x2 + (nI 1)) σ2)))))) := xval_blkQ E (xsem xT E d) 0 0 bX5_reset (pc := 17) rfl [(0, .ref x0), (2, .int x2)] [] σ 0 0
set_option maxRecDepth 100000 in
theorem QX5_reset_46 (E : xEn) (d : Nat) (σ : xH) : qX5_reset_46 E d σ = some (.inl none, σ) := xval_blkQ E (xsem xT E d) 0 0 bX5_reset (pc := 46) rfl [] [] σ 0 0
theorem eX5_reset (E : xEn) (d : Nat) (x0 : Nat) (x1 : Int32) (σ : xH) : xsem xT E (d + 1) kX5_reset [.ref x0, .int x1] σ = qX5_reset_0 E d x0 x1 σ := rfl
noncomputable def qX5_copyFrom_0 (E : xEn) (d : Nat) (x0 : Nat) (x1 : Nat) (σ : xH) : Option xR := xval E (xsem xT E d) 0 0 bX5_copyFrom (0, [(0, .ref x0), (1, .ref x1)], [], σ, 0, 0)
set_option maxRecDepth 100000 in
theorem QX5_copyFrom_0 (E : xEn) (d : Nat) (x0 : Nat) (x1 : Nat) (σ : xH) : qX5_copyFrom_0 E d x0 x1 σ = gI σ 5 0 x1 (fun v1 => gP σ 5 0 x0 (.int v1) (fun σ1 => gI σ1 5 1 x1 (fun v2 => gP σ1 5 1 x0 (.int v2) (fun σ2 => gI σ2 5 2 x1 (fun v3 => gP σ2 5 2 x0 (.int v3) (fun σ3 => gR σ3 5 3 x1 (fun v4 => gR σ3 5 3 x0 (fun v5 => cpI E σ3 v4 (nI 0) v5 (nI 0) (nI 8) (fun σ4 => gR σ4 5 4 x1 (fun v6 => gR σ4 5 4 x0 (fun v7 => cpI E σ4 v6 (nI 0) v7 (nI 0) (nI 8) (fun σ5 => some (.inl none, σ5))))))))))))) := xval_blkQ E (xsem xT E d) 0 0 bX5_copyFrom (pc := 0) rfl [(0, .ref x0), (1, .ref x1)] [] σ 0 0
theorem eX5_copyFrom (E : xEn) (d : Nat) (x0 : Nat) (x1 : Nat) (σ : xH) : xsem xT E (d + 1) kX5_copyFrom [.ref x0, .ref x1] σ = qX5_copyFrom_0 E d x0 x1 σ := rfl
noncomputable def qX5_hasPlace_0 (E : xEn) (d : Nat) (x0 : Nat) (x1 : Int32) (σ : xH) : Option xR := xval E (xsem xT E d) 0 0 bX5_hasPlace (0, [(0, .ref x0), (1, .int x1)], [], σ, 0, 0)
noncomputable def qX5_hasPlace_16 (E : xEn) (d : Nat) (σ : xH) : Option xR := xval E (xsem xT E d) 0 0 bX5_hasPlace (16, [], [], σ, 0, 0)
noncomputable def qX5_hasPlace_17 (E : xEn) (d : Nat) (s0 : Int32) (σ : xH) : Option xR := xval E (xsem xT E d) 0 0 bX5_hasPlace (17, [], [.int s0], σ, 0, 0)
set_option maxRecDepth 100000 in
theorem QX5_hasPlace_0 (E : xEn) (d : Nat) (x0 : Nat) (x1 : Int32) (σ : xH) : qX5_hasPlace_0 E d x0 x1 σ = if x1 < (nI 0) then qX5_hasPlace_16 E d σ else gI σ 5 0 x0 (fun v1 => if v1 ≤ x1 then qX5_hasPlace_16 E d σ else qX5_hasPlace_17 E d (nI 1) σ) := xval_blkQ E (xsem xT E d) 0 0 bX5_hasPlace (pc := 0) rfl [(0, .ref x0), (1, .int x1)] [] σ 0 0
set_option maxRecDepth 100000 in
theorem QX5_hasPlace_16 (E : xEn) (d : Nat) (σ : xH) : qX5_hasPlace_16 E d σ = qX5_hasPlace_17 E d (nI 0) σ := xval_blkQ E (xsem xT E d) 0 0 bX5_hasPlace (pc := 16) rfl [] [] σ 0 0
set_option maxRecDepth 100000 in
theorem QX5_hasPlace_17 (E : xEn) (d : Nat) (s0 : Int32) (σ : xH) : qX5_hasPlace_17 E d s0 σ = xiret [5] s0 (some (.inl (some (.int s0)), σ)) := xval_blkQ E (xsem xT E d) 0 0 bX5_hasPlace (pc := 17) rfl [] [.int s0] σ 0 0
theorem eX5_hasPlace (E : xEn) (d : Nat) (x0 : Nat) (x1 : Int32) (σ : xH) : xsem xT E (d + 1) kX5_hasPlace [.ref x0, .int x1] σ = qX5_hasPlace_0 E d x0 x1 σ := rfl
noncomputable def qX5_isScratched_0 (E : xEn) (d : Nat) (x0 : Nat) (x1 : Int32) (σ : xH) : Option xR := xval E (xsem xT E d) 0 0 bX5_isScratched (0, [(0, .ref x0), (1, .int x1)], [], σ, 0, 0)
noncomputable def qX5_isScratched_24 (E : xEn) (d : Nat) (σ : xH) : Option xR := xval E (xsem xT E d) 0 0 bX5_isScratched (24, [], [], σ, 0, 0)
noncomputable def qX5_isScratched_25 (E : xEn) (d : Nat) (s0 : Int32) (σ : xH) : Option xR := xval E (xsem xT E d) 0 0 bX5_isScratched (25, [], [.int s0], σ, 0, 0)
set_option maxRecDepth 100000 in
theorem QX5_isScratched_0 (E : xEn) (d : Nat) (x0 : Nat) (x1 : Int32) (σ : xH) : qX5_isScratched_0 E d x0 x1 σ = gO E σ 5 x0 (cI (xthr 1 some) (xsem xT E d kX5_hasPlace [.ref x0, .int x1] σ) (fun v1 σ1 => if v1 = (nI 0) then qX5_isScratched_24 E d σ1 else gI σ1 5 2 x0 (fun v2 => if ((v2 >>> (x1 &&& 31)) &&& (nI 1)) = (nI 1) then qX5_isScratched_25 E d (nI 1) σ1 else qX5_isScratched_24 E d σ1))) := xval_blkQ E (xsem xT E d) 0 0 bX5_isScratched (pc := 0) rfl [(0, .ref x0), (1, .int x1)] [] σ 0 0
set_option maxRecDepth 100000 in
theorem QX5_isScratched_24 (E : xEn) (d : Nat) (σ : xH) : qX5_isScratched_24 E d σ = qX5_isScratched_25 E d (nI 0) σ := xval_blkQ E (xsem xT E d) 0 0 bX5_isScratched (pc := 24) rfl [] [] σ 0 0
set_option maxRecDepth 100000 in
theorem QX5_isScratched_25 (E : xEn) (d : Nat) (s0 : Int32) (σ : xH) : qX5_isScratched_25 E d s0 σ = xiret [5] s0 (some (.inl (some (.int s0)), σ)) := xval_blkQ E (xsem xT E d) 0 0 bX5_isScratched (pc := 25) rfl [] [.int s0] σ 0 0
theorem eX5_isScratched (E : xEn) (d : Nat) (x0 : Nat) (x1 : Int32) (σ : xH) : xsem xT E (d + 1) kX5_isScratched [.ref x0, .int x1] σ = qX5_isScratched_0 E d x0 x1 σ := rfl
noncomputable def qX5_setScratched_0 (E : xEn) (d : Nat) (x0 : Nat) (x1 : Int32) (x2 : Int32) (σ : xH) : Option xR := xval E (xsem xT E d) 0 0 bX5_setScratched (0, [(0, .ref x0), (1, .int x1), (2, .int x2)], [], σ, 0, 0)
noncomputable def qX5_setScratched_24 (E : xEn) (d : Nat) (x0 : Nat) (x1 : Int32) (s0 : Nat) (σ : xH) : Option xR := xval E (xsem xT E d) 0 0 bX5_setScratched (24, [(0, .ref x0), (1, .int x1)], [.ref s0], σ, 0, 0)
noncomputable def qX5_setScratched_34 (E : xEn) (d : Nat) (s0 : Nat) (s1 : Int32) (σ : xH) : Option xR := xval E (xsem xT E d) 0 0 bX5_setScratched (34, [], [.int s1, .ref s0], σ, 0, 0)
noncomputable def qX5_setScratched_37 (E : xEn) (d : Nat) (σ : xH) : Option xR := xval E (xsem xT E d) 0 0 bX5_setScratched (37, [], [], σ, 0, 0)
set_option maxRecDepth 100000 in
theorem QX5_setScratched_0 (E : xEn) (d : Nat) (x0 : Nat) (x1 : Int32) (x2 : Int32) (σ : xH) : qX5_setScratched_0 E d x0 x1 x2 σ = gO E σ 5 x0 (cI (xthr 1 some) (xsem xT E d kX5_hasPlace [.ref x0, .int x1] σ) (fun v1 σ1 => if v1 = (nI 0) then qX5_setScratched_37 E d σ1 else if x2 = (nI 0) then qX5_setScratched_24 E d x0 x1 x0 σ1 else gI σ1 5 2 x0 (fun v2 => qX5_setScratched_34 E d x0 (v2 ||| ((nI 1) <<< (x1 &&& 31))) σ1))) := xval_blkQ E (xsem xT E d) 0 0 bX5_setScratched (pc := 0) rfl [(0, .ref x0), (1, .int x1), (2, .int x2)] [] σ 0 0
set_option maxRecDepth 100000 in
theorem QX5_setScratched_24 (E : xEn) (d : Nat) (x0 : Nat) (x1 : Int32) (s0 : Nat) (σ : xH) : qX5_setScratched_24 E d x0 x1 s0 σ = gI σ 5 2 x0 (fun v1 => qX5_setScratched_34 E d s0 (v1 &&& (((nI 1) <<< (x1 &&& 31)) ^^^ (-1 : Int32))) σ) := xval_blkQ E (xsem xT E d) 0 0 bX5_setScratched (pc := 24) rfl [(0, .ref x0), (1, .int x1)] [.ref s0] σ 0 0
set_option maxRecDepth 100000 in
theorem QX5_setScratched_34 (E : xEn) (d : Nat) (s0 : Nat) (s1 : Int32) (σ : xH) : qX5_setScratched_34 E d s0 s1 σ = gP σ 5 2 s0 (.int s1) (fun σ1 => qX5_setScratched_37 E d σ1) := xval_blkQ E (xsem xT E d) 0 0 bX5_setScratched (pc := 34) rfl [] [.int s1, .ref s0] σ 0 0
set_option maxRecDepth 100000 in
theorem QX5_setScratched_37 (E : xEn) (d : Nat) (σ : xH) : qX5_setScratched_37 E d σ = some (.inl none, σ) := xval_blkQ E (xsem xT E d) 0 0 bX5_setScratched (pc := 37) rfl [] [] σ 0 0
theorem eX5_setScratched (E : xEn) (d : Nat) (x0 : Nat) (x1 : Int32) (x2 : Int32) (σ : xH) : xsem xT E (d + 1) kX5_setScratched [.ref x0, .int x1, .int x2] σ = qX5_setScratched_0 E d x0 x1 x2 σ := rfl
noncomputable def qX5_exchange_0 (E : xEn) (d : Nat) (x0 : Nat) (x1 : Int32) (x2 : Int32) (σ : xH) : Option xR := xval E (xsem xT E d) 0 0 bX5_exchange (0, [(0, .ref x0), (1, .int x1), (2, .int x2)], [], σ, 0, 0)
set_option maxRecDepth 100000 in
theorem QX5_exchange_0 (E : xEn) (d : Nat) (x0 : Nat) (x1 : Int32) (x2 : Int32) (σ : xH) : qX5_exchange_0 E d x0 x1 x2 σ = gR σ 5 3 x0 (fun v1 => aI E σ v1 x1 (fun v2 => gR σ 5 3 x0 (fun v3 => gR σ 5 3 x0 (fun v4 => aI E σ v4 x2 (fun v5 => sI σ v3 x1 v5 (fun σ1 => gR σ1 5 3 x0 (fun v6 => sI σ1 v6 x2 v2 (fun σ2 => gR σ2 5 4 x0 (fun v7 => aI E σ2 v7 x1 (fun v8 => gR σ2 5 4 x0 (fun v9 => gR σ2 5 4 x0 (fun v10 => aI E σ2 v10 x2 (fun v11 => sI σ2 v9 x1 (v11 + (nI 1)) (fun σ3 => gR σ3 5 4 x0 (fun v12 => sI σ3 v12 x2 (v8 + (nI 1)) (fun σ4 => gO E σ4 5 x0 (cI (xthr 1 some) (xsem xT E d kX5_isScratched [.ref x0, .int x1] σ4) (fun v13 σ5 => gO E σ5 5 x0 (cI (xthr 1 some) (xsem xT E d kX5_isScratched [.ref x0, .int x2] σ5) (fun v14 σ6 => gO E σ6 5 x0 (cV (xthr 1 some) (xsem xT E d kX5_setScratched [.ref x0, .int x1, .int v14] σ6) (fun σ7 => gO E σ7 5 x0 (cV (xthr 1 some) (xsem xT E d kX5_setScratched [.ref x0, .int x2, .int v13] σ7) (fun σ8 => gI σ8 5 1 x0 (fun v15 => cI (xthr 0 some) (xsem xT E d kX5_placeBehind [.int v15, .int x1, .int x2] σ8) (fun v16 σ9 => gP σ9 5 1 x0 (.int v16) (fun σ10 => some (.inl none, σ10)))))))))))))))))))))))))))) := xval_blkQ E (xsem xT E d) 0 0 bX5_exchange (pc := 0) rfl [(0, .ref x0), (1, .int x1), (2, .int x2)] [] σ 0 0
theorem eX5_exchange (E : xEn) (d : Nat) (x0 : Nat) (x1 : Int32) (x2 : Int32) (σ : xH) : xsem xT E (d + 1) kX5_exchange [.ref x0, .int x1, .int x2] σ = qX5_exchange_0 E d x0 x1 x2 σ := rfl
noncomputable def qX5_placeBehind_0 (E : xEn) (d : Nat) (x0 : Int32) (x1 : Int32) (x2 : Int32) (σ : xH) : Option xR := xval E (xsem xT E d) 0 0 bX5_placeBehind (0, [(0, .int x0), (1, .int x1), (2, .int x2)], [], σ, 0, 0)
noncomputable def qX5_placeBehind_7 (E : xEn) (d : Nat) (x0 : Int32) (x1 : Int32) (x2 : Int32) (σ : xH) : Option xR := xval E (xsem xT E d) 0 0 bX5_placeBehind (7, [(0, .int x0), (1, .int x1), (2, .int x2)], [], σ, 0, 0)
noncomputable def qX5_placeBehind_16 (E : xEn) (d : Nat) (x0 : Int32) (σ : xH) : Option xR := xval E (xsem xT E d) 0 0 bX5_placeBehind (16, [(0, .int x0)], [], σ, 0, 0)
noncomputable def qX5_placeBehind_17 (E : xEn) (d : Nat) (s0 : Int32) (σ : xH) : Option xR := xval E (xsem xT E d) 0 0 bX5_placeBehind (17, [], [.int s0], σ, 0, 0)
set_option maxRecDepth 100000 in
theorem QX5_placeBehind_0 (E : xEn) (d : Nat) (x0 : Int32) (x1 : Int32) (x2 : Int32) (σ : xH) : qX5_placeBehind_0 E d x0 x1 x2 σ = if x0 = x1 then some (.inl (some (.int x2)), σ) else qX5_placeBehind_7 E d x0 x1 x2 σ := xval_blkQ E (xsem xT E d) 0 0 bX5_placeBehind (pc := 0) rfl [(0, .int x0), (1, .int x1), (2, .int x2)] [] σ 0 0
set_option maxRecDepth 100000 in
theorem QX5_placeBehind_7 (E : xEn) (d : Nat) (x0 : Int32) (x1 : Int32) (x2 : Int32) (σ : xH) : qX5_placeBehind_7 E d x0 x1 x2 σ = if x0 = x2 then qX5_placeBehind_17 E d x1 σ else qX5_placeBehind_16 E d x0 σ := xval_blkQ E (xsem xT E d) 0 0 bX5_placeBehind (pc := 7) rfl [(0, .int x0), (1, .int x1), (2, .int x2)] [] σ 0 0
set_option maxRecDepth 100000 in
theorem QX5_placeBehind_16 (E : xEn) (d : Nat) (x0 : Int32) (σ : xH) : qX5_placeBehind_16 E d x0 σ = qX5_placeBehind_17 E d x0 σ := xval_blkQ E (xsem xT E d) 0 0 bX5_placeBehind (pc := 16) rfl [(0, .int x0)] [] σ 0 0
set_option maxRecDepth 100000 in
theorem QX5_placeBehind_17 (E : xEn) (d : Nat) (s0 : Int32) (σ : xH) : qX5_placeBehind_17 E d s0 σ = some (.inl (some (.int s0)), σ) := xval_blkQ E (xsem xT E d) 0 0 bX5_placeBehind (pc := 17) rfl [] [.int s0] σ 0 0
theorem eX5_placeBehind (E : xEn) (d : Nat) (x0 : Int32) (x1 : Int32) (x2 : Int32) (σ : xH) : xsem xT E (d + 1) kX5_placeBehind [.int x0, .int x1, .int x2] σ = qX5_placeBehind_0 E d x0 x1 x2 σ := rfl
noncomputable def qX6_init_0 (E : xEn) (d : Nat) (bc bs : Nat) (x0 : Nat) (σ : xH) : Option xR := xval E (xsem xT E d) 4 240 bX6_init (0, [(0, .ref x0)], [], σ, bc, bs)
set_option maxRecDepth 100000 in
theorem QX6_init_0 (E : xEn) (d : Nat) (bc bs : Nat) (x0 : Nat) (σ : xH) : qX6_init_0 E d bc bs x0 σ = bif Nat.ble (bc + 1) 4 && (Nat.ble (bs + 60) 240 && Nat.ble 60 100000) then nwQ σ 4 60 (fun v1 σ1 => gP σ1 6 0 x0 (.ref v1) (fun σ2 => bif Nat.ble ((bc + 1) + 1) 4 && (Nat.ble ((bs + 60) + 60) 240 && Nat.ble 60 100000) then nwA σ2 0 60 (fun v2 σ3 => gP σ3 6 1 x0 (.ref v2) (fun σ4 => bif Nat.ble (((bc + 1) + 1) + 1) 4 && (Nat.ble (((bs + 60) + 60) + 60) 240 && Nat.ble 60 100000) then nwA σ4 0 60 (fun v3 σ5 => gP σ5 6 2 x0 (.ref v3) (fun σ6 => bif Nat.ble ((((bc + 1) + 1) + 1) + 1) 4 && (Nat.ble ((((bs + 60) + 60) + 60) + 60) 240 && Nat.ble 60 100000) then nwA σ6 0 60 (fun v4 σ7 => gP σ7 6 3 x0 (.ref v4) (fun σ8 => some (.inl none, σ8))) else none)) else none)) else none)) else none := xval_blkQ E (xsem xT E d) 4 240 bX6_init (pc := 0) rfl [(0, .ref x0)] [] σ bc bs
theorem eX6_init (E : xEn) (d : Nat) (x0 : Nat) (σ : xH) : xsem xT E (d + 1) kX6_init [.ref x0] σ = qX6_init_0 E d 0 0 x0 σ := rfl
end
section
/-! EQUATIONS OF THE BLOCKS, written by wip/p31/geneq.py. -/
noncomputable def qX7_read_0 (E : xEn) (d : Nat) (x0 : Nat) (x1 : Nat) (σ : xH) : Option xR := xval E (xsem xT E d) 0 0 bX7_read (0, [(0, .ref x0), (1, .ref x1)], [], σ, 0, 0)
noncomputable def qX7_read_12 (E : xEn) (d : Nat) (x0 : Nat) (x1 : Nat) (σ : xH) : Option xR := xval E (xsem xT E d) 0 0 bX7_read (12, [(0, .ref x0), (1, .ref x1)], [], σ, 0, 0)
noncomputable def qX7_read_34 (E : xEn) (d : Nat) (σ : xH) : Option xR := xval E (xsem xT E d) 0 0 bX7_read (34, [], [], σ, 0, 0)
noncomputable def qX7_read_36 (E : xEn) (d : Nat) (x0 : Nat) (x1 : Nat) (x2 : Int32) (σ : xH) : Option xR := xval E (xsem xT E d) 0 0 bX7_read (36, [(0, .ref x0), (1, .ref x1), (2, .int x2)], [], σ, 0, 0)
noncomputable def qX7_read_46 (E : xEn) (d : Nat) (x0 : Nat) (x1 : Nat) (x3 : Int32) (x4 : Int32) (σ : xH) : Option xR := xval E (xsem xT E d) 0 0 bX7_read (46, [(0, .ref x0), (1, .ref x1), (3, .int x3), (4, .int x4)], [], σ, 0, 0)
noncomputable def qX7_read_87 (E : xEn) (d : Nat) (x0 : Nat) (x1 : Nat) (x3 : Int32) (x4 : Int32) (x5 : Int32) (σ : xH) : Option xR := xval E (xsem xT E d) 0 0 bX7_read (87, [(0, .ref x0), (1, .ref x1), (3, .int x3), (4, .int x4), (5, .int x5)], [], σ, 0, 0)
noncomputable def qX7_read_110 (E : xEn) (d : Nat) (σ : xH) : Option xR := xval E (xsem xT E d) 0 0 bX7_read (110, [], [], σ, 0, 0)
noncomputable def qX7_read_112 (E : xEn) (d : Nat) (x0 : Nat) (x1 : Nat) (x3 : Int32) (x4 : Int32) (σ : xH) : Option xR := xval E (xsem xT E d) 0 0 bX7_read (112, [(0, .ref x0), (1, .ref x1), (3, .int x3), (4, .int x4)], [], σ, 0, 0)
noncomputable def qX7_read_118 (E : xEn) (d : Nat) (σ : xH) : Option xR := xval E (xsem xT E d) 0 0 bX7_read (118, [], [], σ, 0, 0)
set_option maxRecDepth 100000 in
theorem QX7_read_0 (E : xEn) (d : Nat) (x0 : Nat) (x1 : Nat) (σ : xH) : qX7_read_0 E d x0 x1 σ = gO E σ 3 x0 (cI (xthr 1 some) (xsem xT E d kX3_take [.ref x0, .ref (E.1 10)] σ) (fun v1 σ1 => if v1 = (nI 0) then xiret [5] (nI 0) (some (.inl (some (.int (nI 0))), σ1)) else qX7_read_12 E d x0 x1 σ1)) := xval_blkQ E (xsem xT E d) 0 0 bX7_read (pc := 0) rfl [(0, .ref x0), (1, .ref x1)] [] σ 0 0
set_option maxRecDepth 100000 in
theorem QX7_read_12 (E : xEn) (d : Nat) (x0 : Nat) (x1 : Nat) (σ : xH) : qX7_read_12 E d x0 x1 σ = gO E σ 3 x0 (cI (xthr 1 some) (xsem xT E d kX3_takeNumber [.ref x0, .int (nI 2), .int (nI 8)] σ) (fun v1 σ1 => if v1 < (nI 0) then qX7_read_34 E d σ1 else gO E σ1 3 x0 (cI (xthr 1 some) (xsem xT E d kX3_take [.ref x0, .ref (E.1 3)] σ1) (fun v2 σ2 => if v2 = (nI 0) then qX7_read_34 E d σ2 else qX7_read_36 E d x0 x1 v1 σ2)))) := xval_blkQ E (xsem xT E d) 0 0 bX7_read (pc := 12) rfl [(0, .ref x0), (1, .ref x1)] [] σ 0 0
set_option maxRecDepth 100000 in
theorem QX7_read_34 (E : xEn) (d : Nat) (σ : xH) : qX7_read_34 E d σ = xiret [5] (nI 0) (some (.inl (some (.int (nI 0))), σ)) := xval_blkQ E (xsem xT E d) 0 0 bX7_read (pc := 34) rfl [] [] σ 0 0
set_option maxRecDepth 100000 in
theorem QX7_read_36 (E : xEn) (d : Nat) (x0 : Nat) (x1 : Nat) (x2 : Int32) (σ : xH) : qX7_read_36 E d x0 x1 x2 σ = gO E σ 2 x1 (cV (xthr 1 some) (xsem xT E d kX2_reset [.ref x1, .int x2] σ) (fun σ1 => qX7_read_46 E d x0 x1 (nI 0) (nI 0) σ1)) := xval_blkQ E (xsem xT E d) 0 0 bX7_read (pc := 36) rfl [(0, .ref x0), (1, .ref x1), (2, .int x2)] [] σ 0 0
set_option maxRecDepth 100000 in
theorem QX7_read_46 (E : xEn) (d : Nat) (x0 : Nat) (x1 : Nat) (x3 : Int32) (x4 : Int32) (σ : xH) : qX7_read_46 E d x0 x1 x3 x4 σ = if (nI 500) ≤ x4 then qX7_read_118 E d σ else gO E σ 3 x0 (cI (xthr 1 some) (xsem xT E d kX3_is [.ref x0, .ref (E.1 0)] σ) (fun v1 σ1 => if v1 = (nI 0) then gO E σ1 3 x0 (cA (xthr 1 some) (xsem xT E d kX3_token [.ref x0] σ1) (fun v2 σ2 => cI (xthr 0 some) (xsem xT E d kX7_bitOfSingle [.ref v2] σ2) (fun v3 σ3 => if (x3 &&& v3) = (nI 0) then qX7_read_87 E d x0 x1 x3 x4 v3 σ3 else gO E σ3 3 x0 (cI (xthr 1 some) (xsem xT E d kX3_fail [.ref x0, .int (-2 : Int32)] σ3) (fun v4 σ4 => xiret [5] v4 (some (.inl (some (.int v4)), σ4))))))) else qX7_read_118 E d σ1)) := xval_blkQ E (xsem xT E d) 0 0 bX7_read (pc := 46) rfl [(0, .ref x0), (1, .ref x1), (3, .int x3), (4, .int x4)] [] σ 0 0
set_option maxRecDepth 100000 in
theorem QX7_read_87 (E : xEn) (d : Nat) (x0 : Nat) (x1 : Nat) (x3 : Int32) (x4 : Int32) (x5 : Int32) (σ : xH) : qX7_read_87 E d x0 x1 x3 x4 x5 σ = cI (xthr 0 some) (xsem xT E d kX7_readStatement [.ref x0, .ref x1] σ) (fun v1 σ1 => if v1 = (nI 0) then qX7_read_110 E d σ1 else gO E σ1 3 x0 (cI (xthr 1 some) (xsem xT E d kX3_take [.ref x0, .ref (E.1 3)] σ1) (fun v2 σ2 => if v2 = (nI 0) then qX7_read_110 E d σ2 else qX7_read_112 E d x0 x1 (x3 ||| x5) x4 σ2))) := xval_blkQ E (xsem xT E d) 0 0 bX7_read (pc := 87) rfl [(0, .ref x0), (1, .ref x1), (3, .int x3), (4, .int x4), (5, .int x5)] [] σ 0 0
set_option maxRecDepth 100000 in
theorem QX7_read_110 (E : xEn) (d : Nat) (σ : xH) : qX7_read_110 E d σ = xiret [5] (nI 0) (some (.inl (some (.int (nI 0))), σ)) := xval_blkQ E (xsem xT E d) 0 0 bX7_read (pc := 110) rfl [] [] σ 0 0
set_option maxRecDepth 100000 in
theorem QX7_read_112 (E : xEn) (d : Nat) (x0 : Nat) (x1 : Nat) (x3 : Int32) (x4 : Int32) (σ : xH) : qX7_read_112 E d x0 x1 x3 x4 σ = qX7_read_46 E d x0 x1 x3 (x4 + (nI 1)) σ := xval_blkQ E (xsem xT E d) 0 0 bX7_read (pc := 112) rfl [(0, .ref x0), (1, .ref x1), (3, .int x3), (4, .int x4)] [] σ 0 0
set_option maxRecDepth 100000 in
theorem QX7_read_118 (E : xEn) (d : Nat) (σ : xH) : qX7_read_118 E d σ = xiret [5] (nI 1) (some (.inl (some (.int (nI 1))), σ)) := xval_blkQ E (xsem xT E d) 0 0 bX7_read (pc := 118) rfl [] [] σ 0 0
theorem eX7_read (E : xEn) (d : Nat) (x0 : Nat) (x1 : Nat) (σ : xH) : xsem xT E (d + 1) kX7_read [.ref x0, .ref x1] σ = qX7_read_0 E d x0 x1 σ := rfl
noncomputable def qX7_bitOfSingle_0 (E : xEn) (d : Nat) (x0 : Nat) (σ : xH) : Option xR := xval E (xsem xT E d) 0 0 bX7_bitOfSingle (0, [(0, .ref x0)], [], σ, 0, 0)
noncomputable def qX7_bitOfSingle_9 (E : xEn) (d : Nat) (x0 : Nat) (σ : xH) : Option xR := xval E (xsem xT E d) 0 0 bX7_bitOfSingle (9, [(0, .ref x0)], [], σ, 0, 0)
noncomputable def qX7_bitOfSingle_18 (E : xEn) (d : Nat) (x0 : Nat) (σ : xH) : Option xR := xval E (xsem xT E d) 0 0 bX7_bitOfSingle (18, [(0, .ref x0)], [], σ, 0, 0)
noncomputable def qX7_bitOfSingle_27 (E : xEn) (d : Nat) (x0 : Nat) (σ : xH) : Option xR := xval E (xsem xT E d) 0 0 bX7_bitOfSingle (27, [(0, .ref x0)], [], σ, 0, 0)
noncomputable def qX7_bitOfSingle_37 (E : xEn) (d : Nat) (x0 : Nat) (σ : xH) : Option xR := xval E (xsem xT E d) 0 0 bX7_bitOfSingle (37, [(0, .ref x0)], [], σ, 0, 0)
noncomputable def qX7_bitOfSingle_47 (E : xEn) (d : Nat) (x0 : Nat) (σ : xH) : Option xR := xval E (xsem xT E d) 0 0 bX7_bitOfSingle (47, [(0, .ref x0)], [], σ, 0, 0)
noncomputable def qX7_bitOfSingle_59 (E : xEn) (d : Nat) (σ : xH) : Option xR := xval E (xsem xT E d) 0 0 bX7_bitOfSingle (59, [], [], σ, 0, 0)
noncomputable def qX7_bitOfSingle_60 (E : xEn) (d : Nat) (s0 : Int32) (σ : xH) : Option xR := xval E (xsem xT E d) 0 0 bX7_bitOfSingle (60, [], [.int s0], σ, 0, 0)
set_option maxRecDepth 100000 in
theorem QX7_bitOfSingle_0 (E : xEn) (d : Nat) (x0 : Nat) (σ : xH) : qX7_bitOfSingle_0 E d x0 σ = bif Nat.beq x0 (E.1 14) then some (.inl (some (.int (nI 1))), σ) else qX7_bitOfSingle_9 E d x0 σ := xval_blkQ E (xsem xT E d) 0 0 bX7_bitOfSingle (pc := 0) rfl [(0, .ref x0)] [] σ 0 0
set_option maxRecDepth 100000 in
theorem QX7_bitOfSingle_9 (E : xEn) (d : Nat) (x0 : Nat) (σ : xH) : qX7_bitOfSingle_9 E d x0 σ = bif Nat.beq x0 (E.1 16) then some (.inl (some (.int (nI 2))), σ) else qX7_bitOfSingle_18 E d x0 σ := xval_blkQ E (xsem xT E d) 0 0 bX7_bitOfSingle (pc := 9) rfl [(0, .ref x0)] [] σ 0 0
set_option maxRecDepth 100000 in
theorem QX7_bitOfSingle_18 (E : xEn) (d : Nat) (x0 : Nat) (σ : xH) : qX7_bitOfSingle_18 E d x0 σ = bif Nat.beq x0 (E.1 17) then some (.inl (some (.int (nI 4))), σ) else qX7_bitOfSingle_27 E d x0 σ := xval_blkQ E (xsem xT E d) 0 0 bX7_bitOfSingle (pc := 18) rfl [(0, .ref x0)] [] σ 0 0
set_option maxRecDepth 100000 in
theorem QX7_bitOfSingle_27 (E : xEn) (d : Nat) (x0 : Nat) (σ : xH) : qX7_bitOfSingle_27 E d x0 σ = bif Nat.beq x0 (E.1 18) then some (.inl (some (.int (nI 8))), σ) else qX7_bitOfSingle_37 E d x0 σ := xval_blkQ E (xsem xT E d) 0 0 bX7_bitOfSingle (pc := 27) rfl [(0, .ref x0)] [] σ 0 0
set_option maxRecDepth 100000 in
theorem QX7_bitOfSingle_37 (E : xEn) (d : Nat) (x0 : Nat) (σ : xH) : qX7_bitOfSingle_37 E d x0 σ = bif Nat.beq x0 (E.1 19) then some (.inl (some (.int (nI 16))), σ) else qX7_bitOfSingle_47 E d x0 σ := xval_blkQ E (xsem xT E d) 0 0 bX7_bitOfSingle (pc := 37) rfl [(0, .ref x0)] [] σ 0 0
set_option maxRecDepth 100000 in
theorem QX7_bitOfSingle_47 (E : xEn) (d : Nat) (x0 : Nat) (σ : xH) : qX7_bitOfSingle_47 E d x0 σ = bif Nat.beq x0 (E.1 21) then qX7_bitOfSingle_60 E d (nI 32) σ else qX7_bitOfSingle_59 E d σ := xval_blkQ E (xsem xT E d) 0 0 bX7_bitOfSingle (pc := 47) rfl [(0, .ref x0)] [] σ 0 0
set_option maxRecDepth 100000 in
theorem QX7_bitOfSingle_59 (E : xEn) (d : Nat) (σ : xH) : qX7_bitOfSingle_59 E d σ = qX7_bitOfSingle_60 E d (nI 0) σ := xval_blkQ E (xsem xT E d) 0 0 bX7_bitOfSingle (pc := 59) rfl [] [] σ 0 0
set_option maxRecDepth 100000 in
theorem QX7_bitOfSingle_60 (E : xEn) (d : Nat) (s0 : Int32) (σ : xH) : qX7_bitOfSingle_60 E d s0 σ = some (.inl (some (.int s0)), σ) := xval_blkQ E (xsem xT E d) 0 0 bX7_bitOfSingle (pc := 60) rfl [] [.int s0] σ 0 0
theorem eX7_bitOfSingle (E : xEn) (d : Nat) (x0 : Nat) (σ : xH) : xsem xT E (d + 1) kX7_bitOfSingle [.ref x0] σ = qX7_bitOfSingle_0 E d x0 σ := rfl
noncomputable def qX7_readStatement_0 (E : xEn) (d : Nat) (x0 : Nat) (x1 : Nat) (σ : xH) : Option xR := xval E (xsem xT E d) 0 0 bX7_readStatement (0, [(0, .ref x0), (1, .ref x1)], [], σ, 0, 0)
noncomputable def qX7_readStatement_19 (E : xEn) (d : Nat) (x0 : Nat) (x1 : Nat) (σ : xH) : Option xR := xval E (xsem xT E d) 0 0 bX7_readStatement (19, [(0, .ref x0), (1, .ref x1)], [], σ, 0, 0)
noncomputable def qX7_readStatement_38 (E : xEn) (d : Nat) (x0 : Nat) (x1 : Nat) (σ : xH) : Option xR := xval E (xsem xT E d) 0 0 bX7_readStatement (38, [(0, .ref x0), (1, .ref x1)], [], σ, 0, 0)
noncomputable def qX7_readStatement_69 (E : xEn) (d : Nat) (x0 : Nat) (x1 : Nat) (σ : xH) : Option xR := xval E (xsem xT E d) 0 0 bX7_readStatement (69, [(0, .ref x0), (1, .ref x1)], [], σ, 0, 0)
set_option maxRecDepth 100000 in
theorem QX7_readStatement_0 (E : xEn) (d : Nat) (x0 : Nat) (x1 : Nat) (σ : xH) : qX7_readStatement_0 E d x0 x1 σ = gO E σ 3 x0 (cI (xthr 1 some) (xsem xT E d kX3_is [.ref x0, .ref (E.1 15)] σ) (fun v1 σ1 => if v1 = (nI 0) then qX7_readStatement_19 E d x0 x1 σ1 else gR σ1 2 0 x1 (fun v2 => cI (xthr 0 some) (xsem xT E d kX7_readScratches [.ref x0, .ref v2] σ1) (fun v3 σ2 => xiret [5] v3 (some (.inl (some (.int v3)), σ2)))))) := xval_blkQ E (xsem xT E d) 0 0 bX7_readStatement (pc := 0) rfl [(0, .ref x0), (1, .ref x1)] [] σ 0 0
set_option maxRecDepth 100000 in
theorem QX7_readStatement_19 (E : xEn) (d : Nat) (x0 : Nat) (x1 : Nat) (σ : xH) : qX7_readStatement_19 E d x0 x1 σ = gO E σ 3 x0 (cI (xthr 1 some) (xsem xT E d kX3_is [.ref x0, .ref (E.1 20)] σ) (fun v1 σ1 => if v1 = (nI 0) then qX7_readStatement_38 E d x0 x1 σ1 else gR σ1 2 2 x1 (fun v2 => cI (xthr 0 some) (xsem xT E d kX7_readBlink [.ref x0, .ref v2] σ1) (fun v3 σ2 => xiret [5] v3 (some (.inl (some (.int v3)), σ2)))))) := xval_blkQ E (xsem xT E d) 0 0 bX7_readStatement (pc := 19) rfl [(0, .ref x0), (1, .ref x1)] [] σ 0 0
set_option maxRecDepth 100000 in
theorem QX7_readStatement_38 (E : xEn) (d : Nat) (x0 : Nat) (x1 : Nat) (σ : xH) : qX7_readStatement_38 E d x0 x1 σ = gO E σ 3 x0 (cI (xthr 1 some) (xsem xT E d kX3_is [.ref x0, .ref (E.1 21)] σ) (fun v1 σ1 => if v1 = (nI 0) then qX7_readStatement_69 E d x0 x1 σ1 else gO E σ1 3 x0 (cV (xthr 1 some) (xsem xT E d kX3_advance [.ref x0] σ1) (fun σ2 => gR σ2 2 3 x1 (fun v2 => gO E σ2 1 v2 (cV (xthr 1 some) (xsem xT E d kX1_clear [.ref v2] σ2) (fun σ3 => gR σ3 2 3 x1 (fun v3 => gO E σ3 1 v3 (cI (xthr 3 some) (xsem xT E d kX1_readSum [.ref v3, .ref x0, .int (nI 0)] σ3) (fun v4 σ4 => xiret [5] v4 (some (.inl (some (.int v4)), σ4)))))))))))) := xval_blkQ E (xsem xT E d) 0 0 bX7_readStatement (pc := 38) rfl [(0, .ref x0), (1, .ref x1)] [] σ 0 0
set_option maxRecDepth 100000 in
theorem QX7_readStatement_69 (E : xEn) (d : Nat) (x0 : Nat) (x1 : Nat) (σ : xH) : qX7_readStatement_69 E d x0 x1 σ = cI (xthr 0 some) (xsem xT E d kX7_readSetting [.ref x0, .ref x1] σ) (fun v1 σ1 => xiret [5] v1 (some (.inl (some (.int v1)), σ1))) := xval_blkQ E (xsem xT E d) 0 0 bX7_readStatement (pc := 69) rfl [(0, .ref x0), (1, .ref x1)] [] σ 0 0
theorem eX7_readStatement (E : xEn) (d : Nat) (x0 : Nat) (x1 : Nat) (σ : xH) : xsem xT E (d + 1) kX7_readStatement [.ref x0, .ref x1] σ = qX7_readStatement_0 E d x0 x1 σ := rfl
noncomputable def qX7_readScratches_0 (E : xEn) (d : Nat) (x0 : Nat) (x1 : Nat) (σ : xH) : Option xR := xval E (xsem xT E d) 0 0 bX7_readScratches (0, [(0, .ref x0), (1, .ref x1)], [], σ, 0, 0)
noncomputable def qX7_readScratches_14 (E : xEn) (d : Nat) (x0 : Nat) (x1 : Nat) (σ : xH) : Option xR := xval E (xsem xT E d) 0 0 bX7_readScratches (14, [(0, .ref x0), (1, .ref x1)], [], σ, 0, 0)
noncomputable def qX7_readScratches_16 (E : xEn) (d : Nat) (x0 : Nat) (x1 : Nat) (x2 : Int32) (σ : xH) : Option xR := xval E (xsem xT E d) 0 0 bX7_readScratches (16, [(0, .ref x0), (1, .ref x1), (2, .int x2)], [], σ, 0, 0)
noncomputable def qX7_readScratches_43 (E : xEn) (d : Nat) (x0 : Nat) (x1 : Nat) (x2 : Int32) (σ : xH) : Option xR := xval E (xsem xT E d) 0 0 bX7_readScratches (43, [(0, .ref x0), (1, .ref x1), (2, .int x2)], [], σ, 0, 0)
noncomputable def qX7_readScratches_49 (E : xEn) (d : Nat) (σ : xH) : Option xR := xval E (xsem xT E d) 0 0 bX7_readScratches (49, [], [], σ, 0, 0)
set_option maxRecDepth 100000 in
theorem QX7_readScratches_0 (E : xEn) (d : Nat) (x0 : Nat) (x1 : Nat) (σ : xH) : qX7_readScratches_0 E d x0 x1 σ = gO E σ 3 x0 (cV (xthr 1 some) (xsem xT E d kX3_advance [.ref x0] σ) (fun σ1 => cI (xthr 0 some) (xsem xT E d kX7_readScratch [.ref x0, .ref x1] σ1) (fun v1 σ2 => if v1 = (nI 0) then xiret [5] (nI 0) (some (.inl (some (.int (nI 0))), σ2)) else qX7_readScratches_14 E d x0 x1 σ2))) := xval_blkQ E (xsem xT E d) 0 0 bX7_readScratches (pc := 0) rfl [(0, .ref x0), (1, .ref x1)] [] σ 0 0
set_option maxRecDepth 100000 in
theorem QX7_readScratches_14 (E : xEn) (d : Nat) (x0 : Nat) (x1 : Nat) (σ : xH) : qX7_readScratches_14 E d x0 x1 σ = qX7_readScratches_16 E d x0 x1 (nI 0) σ := xval_blkQ E (xsem xT E d) 0 0 bX7_readScratches (pc := 14) rfl [(0, .ref x0), (1, .ref x1)] [] σ 0 0
set_option maxRecDepth 100000 in
theorem QX7_readScratches_16 (E : xEn) (d : Nat) (x0 : Nat) (x1 : Nat) (x2 : Int32) (σ : xH) : qX7_readScratches_16 E d x0 x1 x2 σ = if (nI 500) ≤ x2 then qX7_readScratches_49 E d σ else gO E σ 3 x0 (cI (xthr 1 some) (xsem xT E d kX3_is [.ref x0, .ref (E.1 1)] σ) (fun v1 σ1 => if v1 = (nI 0) then qX7_readScratches_49 E d σ1 else cI (xthr 0 some) (xsem xT E d kX7_readScratch [.ref x0, .ref x1] σ1) (fun v2 σ2 => if v2 = (nI 0) then xiret [5] (nI 0) (some (.inl (some (.int (nI 0))), σ2)) else qX7_readScratches_43 E d x0 x1 x2 σ2))) := xval_blkQ E (xsem xT E d) 0 0 bX7_readScratches (pc := 16) rfl [(0, .ref x0), (1, .ref x1), (2, .int x2)] [] σ 0 0
set_option maxRecDepth 100000 in
theorem QX7_readScratches_43 (E : xEn) (d : Nat) (x0 : Nat) (x1 : Nat) (x2 : Int32) (σ : xH) : qX7_readScratches_43 E d x0 x1 x2 σ = qX7_readScratches_16 E d x0 x1 (x2 + (nI 1)) σ := xval_blkQ E (xsem xT E d) 0 0 bX7_readScratches (pc := 43) rfl [(0, .ref x0), (1, .ref x1), (2, .int x2)] [] σ 0 0
set_option maxRecDepth 100000 in
theorem QX7_readScratches_49 (E : xEn) (d : Nat) (σ : xH) : qX7_readScratches_49 E d σ = xiret [5] (nI 1) (some (.inl (some (.int (nI 1))), σ)) := xval_blkQ E (xsem xT E d) 0 0 bX7_readScratches (pc := 49) rfl [] [] σ 0 0
theorem eX7_readScratches (E : xEn) (d : Nat) (x0 : Nat) (x1 : Nat) (σ : xH) : xsem xT E (d + 1) kX7_readScratches [.ref x0, .ref x1] σ = qX7_readScratches_0 E d x0 x1 σ := rfl
noncomputable def qX7_readScratch_0 (E : xEn) (d : Nat) (x0 : Nat) (x1 : Nat) (σ : xH) : Option xR := xval E (xsem xT E d) 0 0 bX7_readScratch (0, [(0, .ref x0), (1, .ref x1)], [], σ, 0, 0)
noncomputable def qX7_readScratch_28 (E : xEn) (d : Nat) (x0 : Nat) (x1 : Nat) (σ : xH) : Option xR := xval E (xsem xT E d) 0 0 bX7_readScratch (28, [(0, .ref x0), (1, .ref x1)], [], σ, 0, 0)
noncomputable def qX7_readScratch_46 (E : xEn) (d : Nat) (x1 : Nat) (x2 : Int32) (σ : xH) : Option xR := xval E (xsem xT E d) 0 0 bX7_readScratch (46, [(1, .ref x1), (2, .int x2)], [], σ, 0, 0)
set_option maxRecDepth 100000 in
theorem QX7_readScratch_0 (E : xEn) (d : Nat) (x0 : Nat) (x1 : Nat) (σ : xH) : qX7_readScratch_0 E d x0 x1 σ = gO E σ 3 x0 (cI (xthr 1 some) (xsem xT E d kX3_is [.ref x0, .ref (E.1 1)] σ) (fun v1 σ1 => if v1 = (nI 0) then qX7_readScratch_28 E d x0 x1 σ1 else gO E σ1 3 x0 (cI (xthr 1 some) (xsem xT E d kX3_number [.ref x0] σ1) (fun v2 σ2 => gO E σ2 5 x1 (cI (xthr 1 some) (xsem xT E d kX5_isScratched [.ref x1, .int v2] σ2) (fun v3 σ3 => if v3 = (nI 0) then qX7_readScratch_28 E d x0 x1 σ3 else gO E σ3 3 x0 (cI (xthr 1 some) (xsem xT E d kX3_fail [.ref x0, .int (-4 : Int32)] σ3) (fun v4 σ4 => xiret [5] v4 (some (.inl (some (.int v4)), σ4)))))))))) := xval_blkQ E (xsem xT E d) 0 0 bX7_readScratch (pc := 0) rfl [(0, .ref x0), (1, .ref x1)] [] σ 0 0
set_option maxRecDepth 100000 in
theorem QX7_readScratch_28 (E : xEn) (d : Nat) (x0 : Nat) (x1 : Nat) (σ : xH) : qX7_readScratch_28 E d x0 x1 σ = gI σ 5 0 x1 (fun v1 => gO E σ 3 x0 (cI (xthr 1 some) (xsem xT E d kX3_takeNumber [.ref x0, .int (nI 0), .int (v1 - (nI 1))] σ) (fun v2 σ1 => if (nI 0) ≤ v2 then qX7_readScratch_46 E d x1 v2 σ1 else xiret [5] (nI 0) (some (.inl (some (.int (nI 0))), σ1))))) := xval_blkQ E (xsem xT E d) 0 0 bX7_readScratch (pc := 28) rfl [(0, .ref x0), (1, .ref x1)] [] σ 0 0
set_option maxRecDepth 100000 in
theorem QX7_readScratch_46 (E : xEn) (d : Nat) (x1 : Nat) (x2 : Int32) (σ : xH) : qX7_readScratch_46 E d x1 x2 σ = gO E σ 5 x1 (cV (xthr 1 some) (xsem xT E d kX5_setScratched [.ref x1, .int x2, .int (nI 1)] σ) (fun σ1 => xiret [5] (nI 1) (some (.inl (some (.int (nI 1))), σ1)))) := xval_blkQ E (xsem xT E d) 0 0 bX7_readScratch (pc := 46) rfl [(1, .ref x1), (2, .int x2)] [] σ 0 0
theorem eX7_readScratch (E : xEn) (d : Nat) (x0 : Nat) (x1 : Nat) (σ : xH) : xsem xT E (d + 1) kX7_readScratch [.ref x0, .ref x1] σ = qX7_readScratch_0 E d x0 x1 σ := rfl
noncomputable def qX7_readBlink_0 (E : xEn) (d : Nat) (x0 : Nat) (x1 : Nat) (σ : xH) : Option xR := xval E (xsem xT E d) 0 0 bX7_readBlink (0, [(0, .ref x0), (1, .ref x1)], [], σ, 0, 0)
noncomputable def qX7_readBlink_14 (E : xEn) (d : Nat) (x0 : Nat) (x1 : Nat) (σ : xH) : Option xR := xval E (xsem xT E d) 0 0 bX7_readBlink (14, [(0, .ref x0), (1, .ref x1)], [], σ, 0, 0)
noncomputable def qX7_readBlink_33 (E : xEn) (d : Nat) (x0 : Nat) (x1 : Nat) (x2 : Int32) (σ : xH) : Option xR := xval E (xsem xT E d) 0 0 bX7_readBlink (33, [(0, .ref x0), (1, .ref x1), (2, .int x2)], [], σ, 0, 0)
noncomputable def qX7_readBlink_48 (E : xEn) (d : Nat) (x1 : Nat) (x2 : Int32) (x3 : Int32) (σ : xH) : Option xR := xval E (xsem xT E d) 0 0 bX7_readBlink (48, [(1, .ref x1), (2, .int x2), (3, .int x3)], [], σ, 0, 0)
set_option maxRecDepth 100000 in
theorem QX7_readBlink_0 (E : xEn) (d : Nat) (x0 : Nat) (x1 : Nat) (σ : xH) : qX7_readBlink_0 E d x0 x1 σ = gO E σ 0 x1 (cI (xthr 1 some) (xsem xT E d kX0_isFull [.ref x1] σ) (fun v1 σ1 => if v1 = (nI 0) then qX7_readBlink_14 E d x0 x1 σ1 else gO E σ1 3 x0 (cI (xthr 1 some) (xsem xT E d kX3_fail [.ref x0, .int (-5 : Int32)] σ1) (fun v2 σ2 => xiret [5] v2 (some (.inl (some (.int v2)), σ2)))))) := xval_blkQ E (xsem xT E d) 0 0 bX7_readBlink (pc := 0) rfl [(0, .ref x0), (1, .ref x1)] [] σ 0 0
set_option maxRecDepth 100000 in
theorem QX7_readBlink_14 (E : xEn) (d : Nat) (x0 : Nat) (x1 : Nat) (σ : xH) : qX7_readBlink_14 E d x0 x1 σ = gO E σ 3 x0 (cV (xthr 1 some) (xsem xT E d kX3_advance [.ref x0] σ) (fun σ1 => gO E σ1 3 x0 (cI (xthr 1 some) (xsem xT E d kX3_takeNumber [.ref x0, .int (nI 0), .int (nI 9999)] σ1) (fun v1 σ2 => if (nI 0) ≤ v1 then qX7_readBlink_33 E d x0 x1 v1 σ2 else xiret [5] (nI 0) (some (.inl (some (.int (nI 0))), σ2)))))) := xval_blkQ E (xsem xT E d) 0 0 bX7_readBlink (pc := 14) rfl [(0, .ref x0), (1, .ref x1)] [] σ 0 0
set_option maxRecDepth 100000 in
theorem QX7_readBlink_33 (E : xEn) (d : Nat) (x0 : Nat) (x1 : Nat) (x2 : Int32) (σ : xH) : qX7_readBlink_33 E d x0 x1 x2 σ = gO E σ 3 x0 (cI (xthr 1 some) (xsem xT E d kX3_takeNumber [.ref x0, .int x2, .int (nI 9999)] σ) (fun v1 σ1 => if (nI 0) ≤ v1 then qX7_readBlink_48 E d x1 x2 v1 σ1 else xiret [5] (nI 0) (some (.inl (some (.int (nI 0))), σ1)))) := xval_blkQ E (xsem xT E d) 0 0 bX7_readBlink (pc := 33) rfl [(0, .ref x0), (1, .ref x1), (2, .int x2)] [] σ 0 0
set_option maxRecDepth 100000 in
theorem QX7_readBlink_48 (E : xEn) (d : Nat) (x1 : Nat) (x2 : Int32) (x3 : Int32) (σ : xH) : qX7_readBlink_48 E d x1 x2 x3 σ = gO E σ 0 x1 (cV (xthr 1 some) (xsem xT E d kX0_tell [.ref x1, .int x2, .int x3] σ) (fun σ1 => xiret [5] (nI 1) (some (.inl (some (.int (nI 1))), σ1)))) := xval_blkQ E (xsem xT E d) 0 0 bX7_readBlink (pc := 48) rfl [(1, .ref x1), (2, .int x2), (3, .int x3)] [] σ 0 0
theorem eX7_readBlink (E : xEn) (d : Nat) (x0 : Nat) (x1 : Nat) (σ : xH) : xsem xT E (d + 1) kX7_readBlink [.ref x0, .ref x1] σ = qX7_readBlink_0 E d x0 x1 σ := rfl
noncomputable def qX7_readSetting_0 (E : xEn) (d : Nat) (x0 : Nat) (x1 : Nat) (σ : xH) : Option xR := xval E (xsem xT E d) 0 0 bX7_readSetting (0, [(0, .ref x0), (1, .ref x1)], [], σ, 0, 0)
noncomputable def qX7_readSetting_22 (E : xEn) (d : Nat) (x0 : Nat) (x1 : Nat) (x2 : Nat) (x3 : Int32) (σ : xH) : Option xR := xval E (xsem xT E d) 0 0 bX7_readSetting (22, [(0, .ref x0), (1, .ref x1), (2, .ref x2), (3, .int x3)], [], σ, 0, 0)
noncomputable def qX7_readSetting_40 (E : xEn) (d : Nat) (x0 : Nat) (x1 : Nat) (x2 : Nat) (x3 : Int32) (σ : xH) : Option xR := xval E (xsem xT E d) 0 0 bX7_readSetting (40, [(0, .ref x0), (1, .ref x1), (2, .ref x2), (3, .int x3)], [], σ, 0, 0)
noncomputable def qX7_readSetting_44 (E : xEn) (d : Nat) (x0 : Nat) (x1 : Nat) (x2 : Nat) (x3 : Int32) (σ : xH) : Option xR := xval E (xsem xT E d) 0 0 bX7_readSetting (44, [(0, .ref x0), (1, .ref x1), (2, .ref x2), (3, .int x3)], [], σ, 0, 0)
noncomputable def qX7_readSetting_45 (E : xEn) (d : Nat) (x0 : Nat) (x1 : Nat) (x2 : Nat) (x3 : Int32) (s0 : Int32) (σ : xH) : Option xR := xval E (xsem xT E d) 0 0 bX7_readSetting (45, [(0, .ref x0), (1, .ref x1), (2, .ref x2), (3, .int x3)], [.int s0], σ, 0, 0)
noncomputable def qX7_readSetting_63 (E : xEn) (d : Nat) (x1 : Nat) (x2 : Nat) (x5 : Int32) (σ : xH) : Option xR := xval E (xsem xT E d) 0 0 bX7_readSetting (63, [(1, .ref x1), (2, .ref x2), (5, .int x5)], [], σ, 0, 0)
set_option maxRecDepth 100000 in
theorem QX7_readSetting_0 (E : xEn) (d : Nat) (x0 : Nat) (x1 : Nat) (σ : xH) : qX7_readSetting_0 E d x0 x1 σ = gO E σ 3 x0 (cA (xthr 1 some) (xsem xT E d kX3_token [.ref x0] σ) (fun v1 σ1 => cI (xthr 0 some) (xsem xT E d kX7_greatestOf [.ref v1, .ref x1] σ1) (fun v2 σ2 => if (nI 0) ≤ v2 then qX7_readSetting_22 E d x0 x1 v1 v2 σ2 else gO E σ2 3 x0 (cI (xthr 1 some) (xsem xT E d kX3_fail [.ref x0, .int (-2 : Int32)] σ2) (fun v3 σ3 => xiret [5] v3 (some (.inl (some (.int v3)), σ3))))))) := xval_blkQ E (xsem xT E d) 0 0 bX7_readSetting (pc := 0) rfl [(0, .ref x0), (1, .ref x1)] [] σ 0 0
set_option maxRecDepth 100000 in
theorem QX7_readSetting_22 (E : xEn) (d : Nat) (x0 : Nat) (x1 : Nat) (x2 : Nat) (x3 : Int32) (σ : xH) : qX7_readSetting_22 E d x0 x1 x2 x3 σ = gO E σ 3 x0 (cV (xthr 1 some) (xsem xT E d kX3_advance [.ref x0] σ) (fun σ1 => bif Nat.beq x2 (E.1 16) then qX7_readSetting_40 E d x0 x1 x2 x3 σ1 else bif Nat.beq x2 (E.1 17) then qX7_readSetting_40 E d x0 x1 x2 x3 σ1 else qX7_readSetting_44 E d x0 x1 x2 x3 σ1)) := xval_blkQ E (xsem xT E d) 0 0 bX7_readSetting (pc := 22) rfl [(0, .ref x0), (1, .ref x1), (2, .ref x2), (3, .int x3)] [] σ 0 0
set_option maxRecDepth 100000 in
theorem QX7_readSetting_40 (E : xEn) (d : Nat) (x0 : Nat) (x1 : Nat) (x2 : Nat) (x3 : Int32) (σ : xH) : qX7_readSetting_40 E d x0 x1 x2 x3 σ = qX7_readSetting_45 E d x0 x1 x2 x3 (nI 1) σ := xval_blkQ E (xsem xT E d) 0 0 bX7_readSetting (pc := 40) rfl [(0, .ref x0), (1, .ref x1), (2, .ref x2), (3, .int x3)] [] σ 0 0
set_option maxRecDepth 100000 in
theorem QX7_readSetting_44 (E : xEn) (d : Nat) (x0 : Nat) (x1 : Nat) (x2 : Nat) (x3 : Int32) (σ : xH) : qX7_readSetting_44 E d x0 x1 x2 x3 σ = qX7_readSetting_45 E d x0 x1 x2 x3 (nI 0) σ := xval_blkQ E (xsem xT E d) 0 0 bX7_readSetting (pc := 44) rfl [(0, .ref x0), (1, .ref x1), (2, .ref x2), (3, .int x3)] [] σ 0 0
set_option maxRecDepth 100000 in
theorem QX7_readSetting_45 (E : xEn) (d : Nat) (x0 : Nat) (x1 : Nat) (x2 : Nat) (x3 : Int32) (s0 : Int32) (σ : xH) : qX7_readSetting_45 E d x0 x1 x2 x3 s0 σ = gO E σ 3 x0 (cI (xthr 1 some) (xsem xT E d kX3_takeNumber [.ref x0, .int s0, .int x3] σ) (fun v1 σ1 => if (nI 0) ≤ v1 then qX7_readSetting_63 E d x1 x2 v1 σ1 else xiret [5] (nI 0) (some (.inl (some (.int (nI 0))), σ1)))) := xval_blkQ E (xsem xT E d) 0 0 bX7_readSetting (pc := 45) rfl [(0, .ref x0), (1, .ref x1), (2, .ref x2), (3, .int x3)] [.int s0] σ 0 0
set_option maxRecDepth 100000 in
theorem QX7_readSetting_63 (E : xEn) (d : Nat) (x1 : Nat) (x2 : Nat) (x5 : Int32) (σ : xH) : qX7_readSetting_63 E d x1 x2 x5 σ = cV (xthr 0 some) (xsem xT E d kX7_set [.ref x1, .ref x2, .int x5] σ) (fun σ1 => xiret [5] (nI 1) (some (.inl (some (.int (nI 1))), σ1))) := xval_blkQ E (xsem xT E d) 0 0 bX7_readSetting (pc := 63) rfl [(1, .ref x1), (2, .ref x2), (5, .int x5)] [] σ 0 0
theorem eX7_readSetting (E : xEn) (d : Nat) (x0 : Nat) (x1 : Nat) (σ : xH) : xsem xT E (d + 1) kX7_readSetting [.ref x0, .ref x1] σ = qX7_readSetting_0 E d x0 x1 σ := rfl
noncomputable def qX7_greatestOf_0 (E : xEn) (d : Nat) (x0 : Nat) (x1 : Nat) (σ : xH) : Option xR := xval E (xsem xT E d) 0 0 bX7_greatestOf (0, [(0, .ref x0), (1, .ref x1)], [], σ, 0, 0)
noncomputable def qX7_greatestOf_17 (E : xEn) (d : Nat) (x0 : Nat) (σ : xH) : Option xR := xval E (xsem xT E d) 0 0 bX7_greatestOf (17, [(0, .ref x0)], [], σ, 0, 0)
noncomputable def qX7_greatestOf_27 (E : xEn) (d : Nat) (x0 : Nat) (σ : xH) : Option xR := xval E (xsem xT E d) 0 0 bX7_greatestOf (27, [(0, .ref x0)], [], σ, 0, 0)
noncomputable def qX7_greatestOf_37 (E : xEn) (d : Nat) (x0 : Nat) (σ : xH) : Option xR := xval E (xsem xT E d) 0 0 bX7_greatestOf (37, [(0, .ref x0)], [], σ, 0, 0)
noncomputable def qX7_greatestOf_47 (E : xEn) (d : Nat) (x0 : Nat) (σ : xH) : Option xR := xval E (xsem xT E d) 0 0 bX7_greatestOf (47, [(0, .ref x0)], [], σ, 0, 0)
noncomputable def qX7_greatestOf_60 (E : xEn) (d : Nat) (σ : xH) : Option xR := xval E (xsem xT E d) 0 0 bX7_greatestOf (60, [], [], σ, 0, 0)
noncomputable def qX7_greatestOf_61 (E : xEn) (d : Nat) (s0 : Int32) (σ : xH) : Option xR := xval E (xsem xT E d) 0 0 bX7_greatestOf (61, [], [.int s0], σ, 0, 0)
set_option maxRecDepth 100000 in
theorem QX7_greatestOf_0 (E : xEn) (d : Nat) (x0 : Nat) (x1 : Nat) (σ : xH) : qX7_greatestOf_0 E d x0 x1 σ = bif Nat.beq x0 (E.1 14) then gR σ 2 0 x1 (fun v1 => gI σ 5 0 v1 (fun v2 => some (.inl (some (.int (v2 - (nI 1)))), σ))) else qX7_greatestOf_17 E d x0 σ := xval_blkQ E (xsem xT E d) 0 0 bX7_greatestOf (pc := 0) rfl [(0, .ref x0), (1, .ref x1)] [] σ 0 0
set_option maxRecDepth 100000 in
theorem QX7_greatestOf_17 (E : xEn) (d : Nat) (x0 : Nat) (σ : xH) : qX7_greatestOf_17 E d x0 σ = bif Nat.beq x0 (E.1 16) then some (.inl (some (.int (nI 99))), σ) else qX7_greatestOf_27 E d x0 σ := xval_blkQ E (xsem xT E d) 0 0 bX7_greatestOf (pc := 17) rfl [(0, .ref x0)] [] σ 0 0
set_option maxRecDepth 100000 in
theorem QX7_greatestOf_27 (E : xEn) (d : Nat) (x0 : Nat) (σ : xH) : qX7_greatestOf_27 E d x0 σ = bif Nat.beq x0 (E.1 17) then some (.inl (some (.int (nI 9))), σ) else qX7_greatestOf_37 E d x0 σ := xval_blkQ E (xsem xT E d) 0 0 bX7_greatestOf (pc := 27) rfl [(0, .ref x0)] [] σ 0 0
set_option maxRecDepth 100000 in
theorem QX7_greatestOf_37 (E : xEn) (d : Nat) (x0 : Nat) (σ : xH) : qX7_greatestOf_37 E d x0 σ = bif Nat.beq x0 (E.1 18) then some (.inl (some (.int (nI 9))), σ) else qX7_greatestOf_47 E d x0 σ := xval_blkQ E (xsem xT E d) 0 0 bX7_greatestOf (pc := 37) rfl [(0, .ref x0)] [] σ 0 0
set_option maxRecDepth 100000 in
theorem QX7_greatestOf_47 (E : xEn) (d : Nat) (x0 : Nat) (σ : xH) : qX7_greatestOf_47 E d x0 σ = bif Nat.beq x0 (E.1 19) then qX7_greatestOf_61 E d (nI 9999) σ else qX7_greatestOf_60 E d σ := xval_blkQ E (xsem xT E d) 0 0 bX7_greatestOf (pc := 47) rfl [(0, .ref x0)] [] σ 0 0
set_option maxRecDepth 100000 in
theorem QX7_greatestOf_60 (E : xEn) (d : Nat) (σ : xH) : qX7_greatestOf_60 E d σ = qX7_greatestOf_61 E d (-1 : Int32) σ := xval_blkQ E (xsem xT E d) 0 0 bX7_greatestOf (pc := 60) rfl [] [] σ 0 0
set_option maxRecDepth 100000 in
theorem QX7_greatestOf_61 (E : xEn) (d : Nat) (s0 : Int32) (σ : xH) : qX7_greatestOf_61 E d s0 σ = some (.inl (some (.int s0)), σ) := xval_blkQ E (xsem xT E d) 0 0 bX7_greatestOf (pc := 61) rfl [] [.int s0] σ 0 0
theorem eX7_greatestOf (E : xEn) (d : Nat) (x0 : Nat) (x1 : Nat) (σ : xH) : xsem xT E (d + 1) kX7_greatestOf [.ref x0, .ref x1] σ = qX7_greatestOf_0 E d x0 x1 σ := rfl
noncomputable def qX7_set_0 (E : xEn) (d : Nat) (x0 : Nat) (x1 : Nat) (x2 : Int32) (σ : xH) : Option xR := xval E (xsem xT E d) 0 0 bX7_set (0, [(0, .ref x0), (1, .ref x1), (2, .int x2)], [], σ, 0, 0)
noncomputable def qX7_set_26 (E : xEn) (d : Nat) (x0 : Nat) (x1 : Nat) (x2 : Int32) (σ : xH) : Option xR := xval E (xsem xT E d) 0 0 bX7_set (26, [(0, .ref x0), (1, .ref x1), (2, .int x2)], [], σ, 0, 0)
noncomputable def qX7_set_44 (E : xEn) (d : Nat) (x0 : Nat) (x1 : Nat) (x2 : Int32) (σ : xH) : Option xR := xval E (xsem xT E d) 0 0 bX7_set (44, [(0, .ref x0), (1, .ref x1), (2, .int x2)], [], σ, 0, 0)
noncomputable def qX7_set_62 (E : xEn) (d : Nat) (x0 : Nat) (x1 : Nat) (x2 : Int32) (σ : xH) : Option xR := xval E (xsem xT E d) 0 0 bX7_set (62, [(0, .ref x0), (1, .ref x1), (2, .int x2)], [], σ, 0, 0)
noncomputable def qX7_set_80 (E : xEn) (d : Nat) (x0 : Nat) (x1 : Nat) (x2 : Int32) (σ : xH) : Option xR := xval E (xsem xT E d) 0 0 bX7_set (80, [(0, .ref x0), (1, .ref x1), (2, .int x2)], [], σ, 0, 0)
noncomputable def qX7_set_92 (E : xEn) (d : Nat) (σ : xH) : Option xR := xval E (xsem xT E d) 0 0 bX7_set (92, [], [], σ, 0, 0)
set_option maxRecDepth 100000 in
theorem QX7_set_0 (E : xEn) (d : Nat) (x0 : Nat) (x1 : Nat) (x2 : Int32) (σ : xH) : qX7_set_0 E d x0 x1 x2 σ = bif Nat.beq x1 (E.1 14) then gR σ 2 0 x0 (fun v1 => gP σ 5 1 v1 (.int x2) (fun σ1 => gR σ1 2 1 x0 (fun v2 => gO E σ1 4 v2 (cV (xthr 1 some) (xsem xT E d kX4_know [.ref v2, .int x2] σ1) (fun σ2 => qX7_set_92 E d σ2))))) else qX7_set_26 E d x0 x1 x2 σ := xval_blkQ E (xsem xT E d) 0 0 bX7_set (pc := 0) rfl [(0, .ref x0), (1, .ref x1), (2, .int x2)] [] σ 0 0
set_option maxRecDepth 100000 in
theorem QX7_set_26 (E : xEn) (d : Nat) (x0 : Nat) (x1 : Nat) (x2 : Int32) (σ : xH) : qX7_set_26 E d x0 x1 x2 σ = bif Nat.beq x1 (E.1 16) then gR σ 2 1 x0 (fun v1 => gP σ 4 2 v1 (.int x2) (fun σ1 => qX7_set_92 E d σ1)) else qX7_set_44 E d x0 x1 x2 σ := xval_blkQ E (xsem xT E d) 0 0 bX7_set (pc := 26) rfl [(0, .ref x0), (1, .ref x1), (2, .int x2)] [] σ 0 0
set_option maxRecDepth 100000 in
theorem QX7_set_44 (E : xEn) (d : Nat) (x0 : Nat) (x1 : Nat) (x2 : Int32) (σ : xH) : qX7_set_44 E d x0 x1 x2 σ = bif Nat.beq x1 (E.1 17) then gR σ 2 1 x0 (fun v1 => gP σ 4 3 v1 (.int x2) (fun σ1 => qX7_set_92 E d σ1)) else qX7_set_62 E d x0 x1 x2 σ := xval_blkQ E (xsem xT E d) 0 0 bX7_set (pc := 44) rfl [(0, .ref x0), (1, .ref x1), (2, .int x2)] [] σ 0 0
set_option maxRecDepth 100000 in
theorem QX7_set_62 (E : xEn) (d : Nat) (x0 : Nat) (x1 : Nat) (x2 : Int32) (σ : xH) : qX7_set_62 E d x0 x1 x2 σ = bif Nat.beq x1 (E.1 18) then gR σ 2 1 x0 (fun v1 => gP σ 4 4 v1 (.int x2) (fun σ1 => qX7_set_92 E d σ1)) else qX7_set_80 E d x0 x1 x2 σ := xval_blkQ E (xsem xT E d) 0 0 bX7_set (pc := 62) rfl [(0, .ref x0), (1, .ref x1), (2, .int x2)] [] σ 0 0
set_option maxRecDepth 100000 in
theorem QX7_set_80 (E : xEn) (d : Nat) (x0 : Nat) (x1 : Nat) (x2 : Int32) (σ : xH) : qX7_set_80 E d x0 x1 x2 σ = bif Nat.beq x1 (E.1 19) then gP σ 2 6 x0 (.int x2) (fun σ1 => qX7_set_92 E d σ1) else qX7_set_92 E d σ := xval_blkQ E (xsem xT E d) 0 0 bX7_set (pc := 80) rfl [(0, .ref x0), (1, .ref x1), (2, .int x2)] [] σ 0 0
set_option maxRecDepth 100000 in
theorem QX7_set_92 (E : xEn) (d : Nat) (σ : xH) : qX7_set_92 E d σ = some (.inl none, σ) := xval_blkQ E (xsem xT E d) 0 0 bX7_set (pc := 92) rfl [] [] σ 0 0
theorem eX7_set (E : xEn) (d : Nat) (x0 : Nat) (x1 : Nat) (x2 : Int32) (σ : xH) : xsem xT E (d + 1) kX7_set [.ref x0, .ref x1, .int x2] σ = qX7_set_0 E d x0 x1 x2 σ := rfl
noncomputable def qX9_init_0 (E : xEn) (d : Nat) (bc bs : Nat) (x0 : Nat) (σ : xH) : Option xR := xval E (xsem xT E d) 2 14 bX9_init (0, [(0, .ref x0)], [], σ, bc, bs)
set_option maxRecDepth 100000 in
theorem QX9_init_0 (E : xEn) (d : Nat) (bc bs : Nat) (x0 : Nat) (σ : xH) : qX9_init_0 E d bc bs x0 σ = bif Nat.ble (bc + 1) 2 && Nat.ble (bs + 5) 14 then nwO σ 4 5 (fun v1 σ1 => bif Nat.ble ((bc + 1) + 1) 2 && Nat.ble ((bs + 5) + 9) 14 then gO E σ1 4 v1 (cV (xthr 4 some) (xsem xT E d kX4_init [.ref v1] σ1) (fun σ2 => gP σ2 7 0 x0 (.ref v1) (fun σ3 => some (.inl none, σ3)))) else none) else none := xval_blkQ E (xsem xT E d) 2 14 bX9_init (pc := 0) rfl [(0, .ref x0)] [] σ bc bs
theorem eX9_init (E : xEn) (d : Nat) (x0 : Nat) (σ : xH) : xsem xT E (d + 1) kX9_init [.ref x0] σ = qX9_init_0 E d 0 0 x0 σ := rfl
end
section
/-! EQUATIONS OF THE BLOCKS, written by wip/p31/geneq.py. -/
noncomputable def qX10_init_0 (E : xEn) (d : Nat) (bc bs : Nat) (x0 : Nat) (σ : xH) : Option xR := xval E (xsem xT E d) 134 8058 bX10_init (0, [(0, .ref x0)], [], σ, bc, bs)
noncomputable def qX10_init_59 (E : xEn) (d : Nat) (bc bs : Nat) (x0 : Nat) (x1 : Int32) (σ : xH) : Option xR := xval E (xsem xT E d) 134 8058 bX10_init (59, [(0, .ref x0), (1, .int x1)], [], σ, bc, bs)
noncomputable def qX10_init_87 (E : xEn) (d : Nat) (bc bs : Nat) (σ : xH) : Option xR := xval E (xsem xT E d) 134 8058 bX10_init (87, [], [], σ, bc, bs)
set_option maxRecDepth 100000 in
theorem QX10_init_0 (E : xEn) (d : Nat) (bc bs : Nat) (x0 : Nat) (σ : xH) : qX10_init_0 E d bc bs x0 σ = bif Nat.ble (bc + 1) 134 && Nat.ble (bs + 10) 8058 then nwO σ 3 10 (fun v1 σ1 => bif Nat.ble ((bc + 1) + 4) 134 && Nat.ble ((bs + 10) + 2003) 8058 then gO E σ1 3 v1 (cV (xthr 4 some) (xsem xT E d kX3_init [.ref v1] σ1) (fun σ2 => gP σ2 8 0 x0 (.ref v1) (fun σ3 => bif Nat.ble (((bc + 1) + 4) + 1) 134 && Nat.ble (((bs + 10) + 2003) + 6) 8058 then nwO σ3 6 6 (fun v2 σ4 => bif Nat.ble ((((bc + 1) + 4) + 1) + 4) 134 && Nat.ble ((((bs + 10) + 2003) + 6) + 240) 8058 then gO E σ4 6 v2 (cV (xthr 4 some) (xsem xT E d kX6_init [.ref v2] σ4) (fun σ5 => gP σ5 8 1 x0 (.ref v2) (fun σ6 => bif Nat.ble (((((bc + 1) + 4) + 1) + 4) + 1) 134 && Nat.ble (((((bs + 10) + 2003) + 6) + 240) + 6) 8058 then nwO σ6 7 6 (fun v3 σ7 => bif Nat.ble ((((((bc + 1) + 4) + 1) + 4) + 1) + 2) 134 && Nat.ble ((((((bs + 10) + 2003) + 6) + 240) + 6) + 14) 8058 then gO E σ7 7 v3 (cV (xthr 4 some) (xsem xT E d kX9_init [.ref v3] σ7) (fun σ8 => gP σ8 8 2 x0 (.ref v3) (fun σ9 => bif Nat.ble (((((((bc + 1) + 4) + 1) + 4) + 1) + 2) + 1) 134 && Nat.ble (((((((bs + 10) + 2003) + 6) + 240) + 6) + 14) + 9) 8058 then nwO σ9 2 9 (fun v4 σ10 => bif Nat.ble ((((((((bc + 1) + 4) + 1) + 4) + 1) + 2) + 1) + 11) 134 && Nat.ble ((((((((bs + 10) + 2003) + 6) + 240) + 6) + 14) + 9) + 568) 8058 then gO E σ10 2 v4 (cV (xthr 2 some) (xsem xT E d kX2_init [.ref v4] σ10) (fun σ11 => gP σ11 8 3 x0 (.ref v4) (fun σ12 => bif Nat.ble (((((((((bc + 1) + 4) + 1) + 4) + 1) + 2) + 1) + 11) + 1) 134 && (Nat.ble (((((((((bs + 10) + 2003) + 6) + 240) + 6) + 14) + 9) + 568) + 9) 8058 && Nat.ble 9 100000) then nwQ σ12 5 9 (fun v5 σ13 => gP σ13 8 4 x0 (.ref v5) (fun σ14 => qX10_init_59 E d (((((((((bc + 1) + 4) + 1) + 4) + 1) + 2) + 1) + 11) + 1) (((((((((bs + 10) + 2003) + 6) + 240) + 6) + 14) + 9) + 568) + 9) x0 (nI 0) σ14)) else none))) else none) else none))) else none) else none))) else none) else none))) else none) else none := xval_blkQ E (xsem xT E d) 134 8058 bX10_init (pc := 0) rfl [(0, .ref x0)] [] σ bc bs
set_option maxRecDepth 100000 in
theorem QX10_init_59 (E : xEn) (d : Nat) (bc bs : Nat) (x0 : Nat) (x1 : Int32) (σ : xH) : qX10_init_59 E d bc bs x0 x1 σ = gR σ 8 4 x0 (fun v1 => aN E σ v1 (fun v2 => if v2 ≤ x1 then qX10_init_87 E d bc bs σ else gR σ 8 4 x0 (fun v3 => bif Nat.ble (bc + 1) 134 && Nat.ble (bs + 9) 8058 then nwO σ 2 9 (fun v4 σ1 => bif Nat.ble ((bc + 1) + 11) 134 && Nat.ble ((bs + 9) + 568) 8058 then gO E σ1 2 v4 (cV (xthr 2 some) (xsem xT E d kX2_init [.ref v4] σ1) (fun σ2 => sQ E σ2 v3 x1 v4 (fun σ3 => qX10_init_59 E d ((bc + 1) + 11) ((bs + 9) + 568) x0 (x1 + (nI 1)) σ3))) else none) else none))) := xval_blkQ E (xsem xT E d) 134 8058 bX10_init (pc := 59) rfl [(0, .ref x0), (1, .int x1)] [] σ bc bs
set_option maxRecDepth 100000 in
theorem QX10_init_87 (E : xEn) (d : Nat) (bc bs : Nat) (σ : xH) : qX10_init_87 E d bc bs σ = some (.inl none, σ) := xval_blkQ E (xsem xT E d) 134 8058 bX10_init (pc := 87) rfl [] [] σ bc bs
theorem eX10_init (E : xEn) (d : Nat) (x0 : Nat) (σ : xH) : xsem xT E (d + 1) kX10_init [.ref x0] σ = qX10_init_0 E d 0 0 x0 σ := rfl
noncomputable def qX10_append_0 (E : xEn) (d : Nat) (x0 : Nat) (x1 : Int32) (x2 : Int32) (x3 : Int32) (x4 : Int32) (x5 : Int32) (σ : xH) : Option xR := xval E (xsem xT E d) 0 0 bX10_append (0, [(0, .ref x0), (1, .int x1), (2, .int x2), (3, .int x3), (4, .int x4), (5, .int x5)], [], σ, 0, 0)
noncomputable def qX10_append_14 (E : xEn) (d : Nat) (x0 : Nat) (x1 : Int32) (x2 : Int32) (x3 : Int32) (x4 : Int32) (x5 : Int32) (σ : xH) : Option xR := xval E (xsem xT E d) 0 0 bX10_append (14, [(0, .ref x0), (1, .int x1), (2, .int x2), (3, .int x3), (4, .int x4), (5, .int x5)], [], σ, 0, 0)
set_option maxRecDepth 100000 in
theorem QX10_append_0 (E : xEn) (d : Nat) (x0 : Nat) (x1 : Int32) (x2 : Int32) (x3 : Int32) (x4 : Int32) (x5 : Int32) (σ : xH) : qX10_append_0 E d x0 x1 x2 x3 x4 x5 σ = gR σ 8 0 x0 (fun v1 => gO E σ 3 v1 (cI (xthr 1 some) (xsem xT E d kX3_hasRoom [.ref v1, .int (nI 20)] σ) (fun v2 σ1 => if v2 = (nI 0) then some (.inl (some (.int (-1 : Int32))), σ1) else qX10_append_14 E d x0 x1 x2 x3 x4 x5 σ1))) := xval_blkQ E (xsem xT E d) 0 0 bX10_append (pc := 0) rfl [(0, .ref x0), (1, .int x1), (2, .int x2), (3, .int x3), (4, .int x4), (5, .int x5)] [] σ 0 0
set_option maxRecDepth 100000 in
theorem QX10_append_14 (E : xEn) (d : Nat) (x0 : Nat) (x1 : Int32) (x2 : Int32) (x3 : Int32) (x4 : Int32) (x5 : Int32) (σ : xH) : qX10_append_14 E d x0 x1 x2 x3 x4 x5 σ = gR σ 8 0 x0 (fun v1 => gO E σ 3 v1 (cV (xthr 1 some) (xsem xT E d kX3_putWord [.ref v1, .int x1] σ) (fun σ1 => gR σ1 8 0 x0 (fun v2 => gO E σ1 3 v2 (cV (xthr 1 some) (xsem xT E d kX3_putWord [.ref v2, .int x2] σ1) (fun σ2 => gR σ2 8 0 x0 (fun v3 => gO E σ2 3 v3 (cV (xthr 1 some) (xsem xT E d kX3_putWord [.ref v3, .int x3] σ2) (fun σ3 => gR σ3 8 0 x0 (fun v4 => gO E σ3 3 v4 (cV (xthr 1 some) (xsem xT E d kX3_putWord [.ref v4, .int x4] σ3) (fun σ4 => gR σ4 8 0 x0 (fun v5 => gO E σ4 3 v5 (cV (xthr 1 some) (xsem xT E d kX3_putWord [.ref v5, .int x5] σ4) (fun σ5 => gR σ5 8 0 x0 (fun v6 => gI σ5 3 1 v6 (fun v7 => some (.inl (some (.int v7)), σ5)))))))))))))))))) := xval_blkQ E (xsem xT E d) 0 0 bX10_append (pc := 14) rfl [(0, .ref x0), (1, .int x1), (2, .int x2), (3, .int x3), (4, .int x4), (5, .int x5)] [] σ 0 0
theorem eX10_append (E : xEn) (d : Nat) (x0 : Nat) (x1 : Int32) (x2 : Int32) (x3 : Int32) (x4 : Int32) (x5 : Int32) (σ : xH) : xsem xT E (d + 1) kX10_append [.ref x0, .int x1, .int x2, .int x3, .int x4, .int x5] σ = qX10_append_0 E d x0 x1 x2 x3 x4 x5 σ := rfl
noncomputable def qX10_load_0 (E : xEn) (d : Nat) (bc bs : Nat) (x0 : Nat) (x1 : Int32) (σ : xH) : Option xR := xval E (xsem xT E d) 1 6 bX10_load (0, [(0, .ref x0), (1, .int x1)], [], σ, bc, bs)
noncomputable def qX10_load_35 (E : xEn) (d : Nat) (bc bs : Nat) (x0 : Nat) (σ : xH) : Option xR := xval E (xsem xT E d) 1 6 bX10_load (35, [(0, .ref x0)], [], σ, bc, bs)
set_option maxRecDepth 100000 in
theorem QX10_load_0 (E : xEn) (d : Nat) (bc bs : Nat) (x0 : Nat) (x1 : Int32) (σ : xH) : qX10_load_0 E d bc bs x0 x1 σ = bif Nat.ble (bc + 1) 1 && Nat.ble (bs + 6) 6 then gO E σ 8 x0 (cV (xthr 5 some) (xsem xT E d kX10_requireLength [.ref x0, .int x1] σ) (fun σ1 => gR σ1 8 0 x0 (fun v1 => bif Nat.ble (bc + 1) 1 && Nat.ble (bs + 6) 6 then gO E σ1 3 v1 (cV (xthr 1 some) (xsem xT E d kX3_begin [.ref v1, .int x1] σ1) (fun σ2 => gR σ2 8 0 x0 (fun v2 => gR σ2 8 3 x0 (fun v3 => bif Nat.ble (bc + 1) 1 && Nat.ble (bs + 6) 6 then cI (xthr 0 some) (xsem xT E d kX7_read [.ref v2, .ref v3] σ2) (fun v4 σ3 => if v4 = (nI 0) then gR σ3 8 0 x0 (fun v5 => gI σ3 3 8 v5 (fun v6 => some (.inl (some (.int v6)), σ3))) else qX10_load_35 E d (bc + 1) (bs + 6) x0 σ3) else none)))) else none))) else none := xval_blkQ E (xsem xT E d) 1 6 bX10_load (pc := 0) rfl [(0, .ref x0), (1, .int x1)] [] σ bc bs
set_option maxRecDepth 100000 in
theorem QX10_load_35 (E : xEn) (d : Nat) (bc bs : Nat) (x0 : Nat) (σ : xH) : qX10_load_35 E d bc bs x0 σ = bif Nat.ble bc 1 && Nat.ble bs 6 then gO E σ 8 x0 (cA (xthr 1 some) (xsem xT E d kX10_change [.ref x0] σ) (fun v1 σ1 => gR σ1 8 3 x0 (fun v2 => bif Nat.ble bc 1 && Nat.ble bs 6 then gO E σ1 2 v1 (cV (xthr 1 some) (xsem xT E d kX2_copyFrom [.ref v1, .ref v2] σ1) (fun σ2 => gR σ2 8 3 x0 (fun v3 => gR σ2 2 0 v3 (fun v4 => gI σ2 5 0 v4 (fun v5 => some (.inl (some (.int v5)), σ2)))))) else none))) else none := xval_blkQ E (xsem xT E d) 1 6 bX10_load (pc := 35) rfl [(0, .ref x0)] [] σ bc bs
theorem eX10_load (E : xEn) (d : Nat) (x0 : Nat) (x1 : Int32) (σ : xH) : xsem xT E (d + 1) kX10_load [.ref x0, .int x1] σ = qX10_load_0 E d 0 0 x0 x1 σ := rfl
noncomputable def qX10_state_0 (E : xEn) (d : Nat) (bc bs : Nat) (x0 : Nat) (x1 : Int32) (σ : xH) : Option xR := xval E (xsem xT E d) 1 6 bX10_state (0, [(0, .ref x0), (1, .int x1)], [], σ, bc, bs)
set_option maxRecDepth 100000 in
theorem QX10_state_0 (E : xEn) (d : Nat) (bc bs : Nat) (x0 : Nat) (x1 : Int32) (σ : xH) : qX10_state_0 E d bc bs x0 x1 σ = bif Nat.ble (bc + 1) 1 && Nat.ble (bs + 6) 6 then gO E σ 8 x0 (cV (xthr 5 some) (xsem xT E d kX10_requireWhat [.ref x0, .int x1, .int (nI 12)] σ) (fun σ1 => bif Nat.ble (bc + 1) 1 && Nat.ble (bs + 6) 6 then gO E σ1 8 x0 (cA (xthr 1 some) (xsem xT E d kX10_game [.ref x0] σ1) (fun v1 σ2 => bif Nat.ble (bc + 1) 1 && Nat.ble (bs + 6) 6 then gO E σ2 2 v1 (cI (xthr 1 some) (xsem xT E d kX2_number [.ref v1, .int x1] σ2) (fun v2 σ3 => some (.inl (some (.int v2)), σ3))) else none)) else none)) else none := xval_blkQ E (xsem xT E d) 1 6 bX10_state (pc := 0) rfl [(0, .ref x0), (1, .int x1)] [] σ bc bs
theorem eX10_state (E : xEn) (d : Nat) (x0 : Nat) (x1 : Int32) (σ : xH) : xsem xT E (d + 1) kX10_state [.ref x0, .int x1] σ = qX10_state_0 E d 0 0 x0 x1 σ := rfl
noncomputable def qX10_belief_0 (E : xEn) (d : Nat) (bc bs : Nat) (x0 : Nat) (x1 : Int32) (σ : xH) : Option xR := xval E (xsem xT E d) 1 6 bX10_belief (0, [(0, .ref x0), (1, .int x1)], [], σ, bc, bs)
set_option maxRecDepth 100000 in
theorem QX10_belief_0 (E : xEn) (d : Nat) (bc bs : Nat) (x0 : Nat) (x1 : Int32) (σ : xH) : qX10_belief_0 E d bc bs x0 x1 σ = bif Nat.ble (bc + 1) 1 && Nat.ble (bs + 6) 6 then gO E σ 8 x0 (cV (xthr 5 some) (xsem xT E d kX10_requirePlaceOrHand [.ref x0, .int x1] σ) (fun σ1 => bif Nat.ble (bc + 1) 1 && Nat.ble (bs + 6) 6 then gO E σ1 8 x0 (cA (xthr 1 some) (xsem xT E d kX10_game [.ref x0] σ1) (fun v1 σ2 => gR σ2 2 1 v1 (fun v2 => gR σ2 4 0 v2 (fun v3 => aI E σ2 v3 x1 (fun v4 => some (.inl (some (.int v4)), σ2)))))) else none)) else none := xval_blkQ E (xsem xT E d) 1 6 bX10_belief (pc := 0) rfl [(0, .ref x0), (1, .int x1)] [] σ bc bs
theorem eX10_belief (E : xEn) (d : Nat) (x0 : Nat) (x1 : Int32) (σ : xH) : xsem xT E (d + 1) kX10_belief [.ref x0, .int x1] σ = qX10_belief_0 E d 0 0 x0 x1 σ := rfl
noncomputable def qX10_guess_0 (E : xEn) (d : Nat) (x0 : Nat) (σ : xH) : Option xR := xval E (xsem xT E d) 0 0 bX10_guess (0, [(0, .ref x0)], [], σ, 0, 0)
set_option maxRecDepth 100000 in
theorem QX10_guess_0 (E : xEn) (d : Nat) (x0 : Nat) (σ : xH) : qX10_guess_0 E d x0 σ = gO E σ 8 x0 (cA (xthr 1 some) (xsem xT E d kX10_game [.ref x0] σ) (fun v1 σ1 => gR σ1 2 1 v1 (fun v2 => gO E σ1 4 v2 (cI (xthr 1 some) (xsem xT E d kX4_likeliestShell [.ref v2] σ1) (fun v3 σ2 => some (.inl (some (.int v3)), σ2)))))) := xval_blkQ E (xsem xT E d) 0 0 bX10_guess (pc := 0) rfl [(0, .ref x0)] [] σ 0 0
theorem eX10_guess (E : xEn) (d : Nat) (x0 : Nat) (σ : xH) : xsem xT E (d + 1) kX10_guess [.ref x0] σ = qX10_guess_0 E d x0 σ := rfl
noncomputable def qX10_blinks_0 (E : xEn) (d : Nat) (bc bs : Nat) (x0 : Nat) (x1 : Int32) (σ : xH) : Option xR := xval E (xsem xT E d) 1 6 bX10_blinks (0, [(0, .ref x0), (1, .int x1)], [], σ, bc, bs)
noncomputable def qX10_blinks_11 (E : xEn) (d : Nat) (bc bs : Nat) (σ : xH) : Option xR := xval E (xsem xT E d) 1 6 bX10_blinks (11, [], [], σ, bc, bs)
noncomputable def qX10_blinks_21 (E : xEn) (d : Nat) (bc bs : Nat) (x0 : Nat) (x1 : Int32) (σ : xH) : Option xR := xval E (xsem xT E d) 1 6 bX10_blinks (21, [(0, .ref x0), (1, .int x1)], [], σ, bc, bs)
set_option maxRecDepth 100000 in
theorem QX10_blinks_0 (E : xEn) (d : Nat) (bc bs : Nat) (x0 : Nat) (x1 : Int32) (σ : xH) : qX10_blinks_0 E d bc bs x0 x1 σ = if x1 < (nI 0) then qX10_blinks_11 E d bc bs σ else if x1 ≤ (nI 20000) then qX10_blinks_21 E d bc bs x0 x1 σ else qX10_blinks_11 E d bc bs σ := xval_blkQ E (xsem xT E d) 1 6 bX10_blinks (pc := 0) rfl [(0, .ref x0), (1, .int x1)] [] σ bc bs
set_option maxRecDepth 100000 in
theorem QX10_blinks_11 (E : xEn) (d : Nat) (bc bs : Nat) (σ : xH) : qX10_blinks_11 E d bc bs σ = bif Nat.ble (bc + 1) 1 && (Nat.ble (bs + 6) 6 && Nat.ble 0 8) then some (.inr (xexc 0), σ) else none := xval_blkQ E (xsem xT E d) 1 6 bX10_blinks (pc := 11) rfl [] [] σ bc bs
set_option maxRecDepth 100000 in
theorem QX10_blinks_21 (E : xEn) (d : Nat) (bc bs : Nat) (x0 : Nat) (x1 : Int32) (σ : xH) : qX10_blinks_21 E d bc bs x0 x1 σ = bif Nat.ble bc 1 && Nat.ble bs 6 then gO E σ 8 x0 (cA (xthr 1 some) (xsem xT E d kX10_game [.ref x0] σ) (fun v1 σ1 => gR σ1 2 2 v1 (fun v2 => bif Nat.ble bc 1 && Nat.ble bs 6 then gO E σ1 0 v2 (cI (xthr 1 some) (xsem xT E d kX0_has [.ref v2, .int x1] σ1) (fun v3 σ2 => xiret [5] v3 (some (.inl (some (.int v3)), σ2)))) else none))) else none := xval_blkQ E (xsem xT E d) 1 6 bX10_blinks (pc := 21) rfl [(0, .ref x0), (1, .int x1)] [] σ bc bs
theorem eX10_blinks (E : xEn) (d : Nat) (x0 : Nat) (x1 : Int32) (σ : xH) : xsem xT E (d + 1) kX10_blinks [.ref x0, .int x1] σ = qX10_blinks_0 E d 0 0 x0 x1 σ := rfl
noncomputable def qX10_swap_0 (E : xEn) (d : Nat) (bc bs : Nat) (x0 : Nat) (x1 : Int32) (x2 : Int32) (σ : xH) : Option xR := xval E (xsem xT E d) 3 18 bX10_swap (0, [(0, .ref x0), (1, .int x1), (2, .int x2)], [], σ, bc, bs)
set_option maxRecDepth 100000 in
theorem QX10_swap_0 (E : xEn) (d : Nat) (bc bs : Nat) (x0 : Nat) (x1 : Int32) (x2 : Int32) (σ : xH) : qX10_swap_0 E d bc bs x0 x1 x2 σ = bif Nat.ble (bc + 3) 3 && Nat.ble (bs + 18) 18 then gO E σ 8 x0 (cV (xthr 5 some) (xsem xT E d kX10_requireTwoPlaces [.ref x0, .int x1, .int x2] σ) (fun σ1 => bif Nat.ble (bc + 3) 3 && Nat.ble (bs + 18) 18 then gO E σ1 8 x0 (cA (xthr 1 some) (xsem xT E d kX10_change [.ref x0] σ1) (fun v1 σ2 => bif Nat.ble (bc + 3) 3 && Nat.ble (bs + 18) 18 then gO E σ2 2 v1 (cI (xthr 1 some) (xsem xT E d kX2_makeMove [.ref v1, .int (nI 1), .int x1, .int x2] σ2) (fun v2 σ3 => xiret [5] v2 (some (.inl (some (.int v2)), σ3)))) else none)) else none)) else none := xval_blkQ E (xsem xT E d) 3 18 bX10_swap (pc := 0) rfl [(0, .ref x0), (1, .int x1), (2, .int x2)] [] σ bc bs
theorem eX10_swap (E : xEn) (d : Nat) (x0 : Nat) (x1 : Int32) (x2 : Int32) (σ : xH) : xsem xT E (d + 1) kX10_swap [.ref x0, .int x1, .int x2] σ = qX10_swap_0 E d 0 0 x0 x1 x2 σ := rfl
noncomputable def qX10_feint_0 (E : xEn) (d : Nat) (bc bs : Nat) (x0 : Nat) (x1 : Int32) (x2 : Int32) (σ : xH) : Option xR := xval E (xsem xT E d) 3 18 bX10_feint (0, [(0, .ref x0), (1, .int x1), (2, .int x2)], [], σ, bc, bs)
set_option maxRecDepth 100000 in
theorem QX10_feint_0 (E : xEn) (d : Nat) (bc bs : Nat) (x0 : Nat) (x1 : Int32) (x2 : Int32) (σ : xH) : qX10_feint_0 E d bc bs x0 x1 x2 σ = bif Nat.ble (bc + 3) 3 && Nat.ble (bs + 18) 18 then gO E σ 8 x0 (cV (xthr 5 some) (xsem xT E d kX10_requireTwoPlaces [.ref x0, .int x1, .int x2] σ) (fun σ1 => bif Nat.ble (bc + 3) 3 && Nat.ble (bs + 18) 18 then gO E σ1 8 x0 (cA (xthr 1 some) (xsem xT E d kX10_change [.ref x0] σ1) (fun v1 σ2 => bif Nat.ble (bc + 3) 3 && Nat.ble (bs + 18) 18 then gO E σ2 2 v1 (cI (xthr 1 some) (xsem xT E d kX2_makeMove [.ref v1, .int (nI 0), .int x1, .int x2] σ2) (fun v2 σ3 => xiret [5] v2 (some (.inl (some (.int v2)), σ3)))) else none)) else none)) else none := xval_blkQ E (xsem xT E d) 3 18 bX10_feint (pc := 0) rfl [(0, .ref x0), (1, .int x1), (2, .int x2)] [] σ bc bs
theorem eX10_feint (E : xEn) (d : Nat) (x0 : Nat) (x1 : Int32) (x2 : Int32) (σ : xH) : xsem xT E (d + 1) kX10_feint [.ref x0, .int x1, .int x2] σ = qX10_feint_0 E d 0 0 x0 x1 x2 σ := rfl
noncomputable def qX10_rest_0 (E : xEn) (d : Nat) (x0 : Nat) (σ : xH) : Option xR := xval E (xsem xT E d) 0 0 bX10_rest (0, [(0, .ref x0)], [], σ, 0, 0)
set_option maxRecDepth 100000 in
theorem QX10_rest_0 (E : xEn) (d : Nat) (x0 : Nat) (σ : xH) : qX10_rest_0 E d x0 σ = gO E σ 8 x0 (cA (xthr 1 some) (xsem xT E d kX10_change [.ref x0] σ) (fun v1 σ1 => gO E σ1 8 x0 (cA (xthr 1 some) (xsem xT E d kX10_game [.ref x0] σ1) (fun v2 σ2 => gR σ2 2 0 v2 (fun v3 => gI σ2 5 1 v3 (fun v4 => gO E σ2 2 v1 (cI (xthr 1 some) (xsem xT E d kX2_makeStill [.ref v1, .int v4] σ2) (fun v5 σ3 => xiret [5] v5 (some (.inl (some (.int v5)), σ3)))))))))) := xval_blkQ E (xsem xT E d) 0 0 bX10_rest (pc := 0) rfl [(0, .ref x0)] [] σ 0 0
theorem eX10_rest (E : xEn) (d : Nat) (x0 : Nat) (σ : xH) : xsem xT E (d + 1) kX10_rest [.ref x0] σ = qX10_rest_0 E d x0 σ := rfl
noncomputable def qX10_steal_0 (E : xEn) (d : Nat) (bc bs : Nat) (x0 : Nat) (x1 : Int32) (σ : xH) : Option xR := xval E (xsem xT E d) 2 12 bX10_steal (0, [(0, .ref x0), (1, .int x1)], [], σ, bc, bs)
noncomputable def qX10_steal_26 (E : xEn) (d : Nat) (bc bs : Nat) (x0 : Nat) (σ : xH) : Option xR := xval E (xsem xT E d) 2 12 bX10_steal (26, [(0, .ref x0)], [], σ, bc, bs)
set_option maxRecDepth 100000 in
theorem QX10_steal_0 (E : xEn) (d : Nat) (bc bs : Nat) (x0 : Nat) (x1 : Int32) (σ : xH) : qX10_steal_0 E d bc bs x0 x1 σ = bif Nat.ble (bc + 1) 2 && Nat.ble (bs + 6) 12 then gO E σ 8 x0 (cV (xthr 5 some) (xsem xT E d kX10_requirePlace [.ref x0, .int x1] σ) (fun σ1 => bif Nat.ble (bc + 1) 2 && Nat.ble (bs + 6) 12 then gO E σ1 8 x0 (cA (xthr 1 some) (xsem xT E d kX10_game [.ref x0] σ1) (fun v1 σ2 => bif Nat.ble (bc + 1) 2 && Nat.ble (bs + 6) 12 then gO E σ2 2 v1 (cI (xthr 1 some) (xsem xT E d kX2_canSteal [.ref v1, .int x1] σ2) (fun v2 σ3 => if v2 = (nI 0) then bif Nat.ble ((bc + 1) + 1) 2 && (Nat.ble ((bs + 6) + 6) 12 && Nat.ble 0 8) then some (.inr (xexc 2), σ3) else none else qX10_steal_26 E d (bc + 1) (bs + 6) x0 σ3)) else none)) else none)) else none := xval_blkQ E (xsem xT E d) 2 12 bX10_steal (pc := 0) rfl [(0, .ref x0), (1, .int x1)] [] σ bc bs
set_option maxRecDepth 100000 in
theorem QX10_steal_26 (E : xEn) (d : Nat) (bc bs : Nat) (x0 : Nat) (σ : xH) : qX10_steal_26 E d bc bs x0 σ = bif Nat.ble bc 2 && Nat.ble bs 12 then gO E σ 8 x0 (cA (xthr 1 some) (xsem xT E d kX10_game [.ref x0] σ) (fun v1 σ1 => gR σ1 2 0 v1 (fun v2 => gI σ1 5 0 v2 (fun v3 => bif Nat.ble bc 2 && Nat.ble bs 12 then gO E σ1 8 x0 (cI (xthr 1 some) (xsem xT E d kX10_moveBall [.ref x0, .int v3] σ1) (fun v4 σ2 => some (.inl (some (.int v4)), σ2))) else none)))) else none := xval_blkQ E (xsem xT E d) 2 12 bX10_steal (pc := 26) rfl [(0, .ref x0)] [] σ bc bs
theorem eX10_steal (E : xEn) (d : Nat) (x0 : Nat) (x1 : Int32) (σ : xH) : xsem xT E (d + 1) kX10_steal [.ref x0, .int x1] σ = qX10_steal_0 E d 0 0 x0 x1 σ := rfl
noncomputable def qX10_plant_0 (E : xEn) (d : Nat) (bc bs : Nat) (x0 : Nat) (x1 : Int32) (σ : xH) : Option xR := xval E (xsem xT E d) 2 12 bX10_plant (0, [(0, .ref x0), (1, .int x1)], [], σ, bc, bs)
noncomputable def qX10_plant_25 (E : xEn) (d : Nat) (bc bs : Nat) (x0 : Nat) (x1 : Int32) (σ : xH) : Option xR := xval E (xsem xT E d) 2 12 bX10_plant (25, [(0, .ref x0), (1, .int x1)], [], σ, bc, bs)
set_option maxRecDepth 100000 in
theorem QX10_plant_0 (E : xEn) (d : Nat) (bc bs : Nat) (x0 : Nat) (x1 : Int32) (σ : xH) : qX10_plant_0 E d bc bs x0 x1 σ = bif Nat.ble (bc + 1) 2 && Nat.ble (bs + 6) 12 then gO E σ 8 x0 (cV (xthr 5 some) (xsem xT E d kX10_requirePlace [.ref x0, .int x1] σ) (fun σ1 => bif Nat.ble (bc + 1) 2 && Nat.ble (bs + 6) 12 then gO E σ1 8 x0 (cA (xthr 1 some) (xsem xT E d kX10_game [.ref x0] σ1) (fun v1 σ2 => bif Nat.ble (bc + 1) 2 && Nat.ble (bs + 6) 12 then gO E σ2 2 v1 (cI (xthr 1 some) (xsem xT E d kX2_canPlant [.ref v1] σ2) (fun v2 σ3 => if v2 = (nI 0) then bif Nat.ble ((bc + 1) + 1) 2 && (Nat.ble ((bs + 6) + 6) 12 && Nat.ble 0 8) then some (.inr (xexc 2), σ3) else none else qX10_plant_25 E d (bc + 1) (bs + 6) x0 x1 σ3)) else none)) else none)) else none := xval_blkQ E (xsem xT E d) 2 12 bX10_plant (pc := 0) rfl [(0, .ref x0), (1, .int x1)] [] σ bc bs
set_option maxRecDepth 100000 in
theorem QX10_plant_25 (E : xEn) (d : Nat) (bc bs : Nat) (x0 : Nat) (x1 : Int32) (σ : xH) : qX10_plant_25 E d bc bs x0 x1 σ = bif Nat.ble bc 2 && Nat.ble bs 12 then gO E σ 8 x0 (cI (xthr 1 some) (xsem xT E d kX10_moveBall [.ref x0, .int x1] σ) (fun v1 σ1 => some (.inl (some (.int v1)), σ1))) else none := xval_blkQ E (xsem xT E d) 2 12 bX10_plant (pc := 25) rfl [(0, .ref x0), (1, .int x1)] [] σ bc bs
theorem eX10_plant (E : xEn) (d : Nat) (x0 : Nat) (x1 : Int32) (σ : xH) : xsem xT E (d + 1) kX10_plant [.ref x0, .int x1] σ = qX10_plant_0 E d 0 0 x0 x1 σ := rfl
noncomputable def qX10_peek_0 (E : xEn) (d : Nat) (bc bs : Nat) (x0 : Nat) (x1 : Int32) (σ : xH) : Option xR := xval E (xsem xT E d) 1 6 bX10_peek (0, [(0, .ref x0), (1, .int x1)], [], σ, bc, bs)
set_option maxRecDepth 100000 in
theorem QX10_peek_0 (E : xEn) (d : Nat) (bc bs : Nat) (x0 : Nat) (x1 : Int32) (σ : xH) : qX10_peek_0 E d bc bs x0 x1 σ = bif Nat.ble (bc + 1) 1 && Nat.ble (bs + 6) 6 then gO E σ 8 x0 (cV (xthr 5 some) (xsem xT E d kX10_requirePlace [.ref x0, .int x1] σ) (fun σ1 => bif Nat.ble (bc + 1) 1 && Nat.ble (bs + 6) 6 then gO E σ1 8 x0 (cA (xthr 1 some) (xsem xT E d kX10_change [.ref x0] σ1) (fun v1 σ2 => bif Nat.ble (bc + 1) 1 && Nat.ble (bs + 6) 6 then gO E σ2 2 v1 (cI (xthr 1 some) (xsem xT E d kX2_lookUnder [.ref v1, .int x1] σ2) (fun v2 σ3 => xiret [5] v2 (some (.inl (some (.int v2)), σ3)))) else none)) else none)) else none := xval_blkQ E (xsem xT E d) 1 6 bX10_peek (pc := 0) rfl [(0, .ref x0), (1, .int x1)] [] σ bc bs
theorem eX10_peek (E : xEn) (d : Nat) (x0 : Nat) (x1 : Int32) (σ : xH) : xsem xT E (d + 1) kX10_peek [.ref x0, .int x1] σ = qX10_peek_0 E d 0 0 x0 x1 σ := rfl
noncomputable def qX10_game_0 (E : xEn) (d : Nat) (x0 : Nat) (σ : xH) : Option xR := xval E (xsem xT E d) 0 0 bX10_game (0, [(0, .ref x0)], [], σ, 0, 0)
set_option maxRecDepth 100000 in
theorem QX10_game_0 (E : xEn) (d : Nat) (x0 : Nat) (σ : xH) : qX10_game_0 E d x0 σ = gR σ 8 4 x0 (fun v1 => gI σ 8 5 x0 (fun v2 => aQ E σ v1 v2 (fun v3 => some (.inl (some (.ref v3)), σ)))) := xval_blkQ E (xsem xT E d) 0 0 bX10_game (pc := 0) rfl [(0, .ref x0)] [] σ 0 0
theorem eX10_game (E : xEn) (d : Nat) (x0 : Nat) (σ : xH) : xsem xT E (d + 1) kX10_game [.ref x0] σ = qX10_game_0 E d x0 σ := rfl
noncomputable def qX10_change_0 (E : xEn) (d : Nat) (x0 : Nat) (σ : xH) : Option xR := xval E (xsem xT E d) 0 0 bX10_change (0, [(0, .ref x0)], [], σ, 0, 0)
noncomputable def qX10_change_31 (E : xEn) (d : Nat) (x0 : Nat) (x1 : Nat) (s0 : Nat) (σ : xH) : Option xR := xval E (xsem xT E d) 0 0 bX10_change (31, [(0, .ref x0), (1, .ref x1)], [.ref s0], σ, 0, 0)
noncomputable def qX10_change_32 (E : xEn) (d : Nat) (x0 : Nat) (x1 : Nat) (s0 : Nat) (s1 : Int32) (σ : xH) : Option xR := xval E (xsem xT E d) 0 0 bX10_change (32, [(0, .ref x0), (1, .ref x1)], [.int s1, .ref s0], σ, 0, 0)
set_option maxRecDepth 100000 in
theorem QX10_change_0 (E : xEn) (d : Nat) (x0 : Nat) (σ : xH) : qX10_change_0 E d x0 σ = gR σ 8 4 x0 (fun v1 => gI σ 8 5 x0 (fun v2 => aQ E σ v1 v2 (fun v3 => gI σ 8 5 x0 (fun v4 => if (nI 9) ≤ (v4 + (nI 1)) then qX10_change_31 E d x0 v3 x0 σ else gI σ 8 5 x0 (fun v5 => qX10_change_32 E d x0 v3 x0 (v5 + (nI 1)) σ))))) := xval_blkQ E (xsem xT E d) 0 0 bX10_change (pc := 0) rfl [(0, .ref x0)] [] σ 0 0
set_option maxRecDepth 100000 in
theorem QX10_change_31 (E : xEn) (d : Nat) (x0 : Nat) (x1 : Nat) (s0 : Nat) (σ : xH) : qX10_change_31 E d x0 x1 s0 σ = qX10_change_32 E d x0 x1 s0 (nI 0) σ := xval_blkQ E (xsem xT E d) 0 0 bX10_change (pc := 31) rfl [(0, .ref x0), (1, .ref x1)] [.ref s0] σ 0 0
set_option maxRecDepth 100000 in
theorem QX10_change_32 (E : xEn) (d : Nat) (x0 : Nat) (x1 : Nat) (s0 : Nat) (s1 : Int32) (σ : xH) : qX10_change_32 E d x0 x1 s0 s1 σ = gP σ 8 5 s0 (.int s1) (fun σ1 => gI σ1 8 6 x0 (fun v1 => gP σ1 8 6 x0 (.int (mnI (v1 + (nI 1)) (nI 8))) (fun σ2 => gR σ2 8 4 x0 (fun v2 => gI σ2 8 5 x0 (fun v3 => aQ E σ2 v2 v3 (fun v4 => gO E σ2 2 v4 (cV (xthr 1 some) (xsem xT E d kX2_copyFrom [.ref v4, .ref x1] σ2) (fun σ3 => gR σ3 8 4 x0 (fun v5 => gI σ3 8 5 x0 (fun v6 => aQ E σ3 v5 v6 (fun v7 => some (.inl (some (.ref v7)), σ3)))))))))))) := xval_blkQ E (xsem xT E d) 0 0 bX10_change (pc := 32) rfl [(0, .ref x0), (1, .ref x1)] [.int s1, .ref s0] σ 0 0
theorem eX10_change (E : xEn) (d : Nat) (x0 : Nat) (σ : xH) : xsem xT E (d + 1) kX10_change [.ref x0] σ = qX10_change_0 E d x0 σ := rfl
noncomputable def qX10_moveBall_0 (E : xEn) (d : Nat) (x0 : Nat) (x1 : Int32) (σ : xH) : Option xR := xval E (xsem xT E d) 0 0 bX10_moveBall (0, [(0, .ref x0), (1, .int x1)], [], σ, 0, 0)
set_option maxRecDepth 100000 in
theorem QX10_moveBall_0 (E : xEn) (d : Nat) (x0 : Nat) (x1 : Int32) (σ : xH) : qX10_moveBall_0 E d x0 x1 σ = gO E σ 8 x0 (cA (xthr 1 some) (xsem xT E d kX10_change [.ref x0] σ) (fun v1 σ1 => gO E σ1 2 v1 (cI (xthr 1 some) (xsem xT E d kX2_makeStill [.ref v1, .int x1] σ1) (fun v2 σ2 => gR σ2 2 1 v1 (fun v3 => gO E σ2 4 v3 (cI (xthr 1 some) (xsem xT E d kX4_sum [.ref v3] σ2) (fun v4 σ3 => some (.inl (some (.int v4)), σ3)))))))) := xval_blkQ E (xsem xT E d) 0 0 bX10_moveBall (pc := 0) rfl [(0, .ref x0), (1, .int x1)] [] σ 0 0
theorem eX10_moveBall (E : xEn) (d : Nat) (x0 : Nat) (x1 : Int32) (σ : xH) : xsem xT E (d + 1) kX10_moveBall [.ref x0, .int x1] σ = qX10_moveBall_0 E d x0 x1 σ := rfl
noncomputable def qX10_requireLength_0 (E : xEn) (d : Nat) (bc bs : Nat) (x0 : Nat) (x1 : Int32) (σ : xH) : Option xR := xval E (xsem xT E d) 1 6 bX10_requireLength (0, [(0, .ref x0), (1, .int x1)], [], σ, bc, bs)
noncomputable def qX10_requireLength_15 (E : xEn) (d : Nat) (bc bs : Nat) (σ : xH) : Option xR := xval E (xsem xT E d) 1 6 bX10_requireLength (15, [], [], σ, bc, bs)
noncomputable def qX10_requireLength_26 (E : xEn) (d : Nat) (bc bs : Nat) (σ : xH) : Option xR := xval E (xsem xT E d) 1 6 bX10_requireLength (26, [], [], σ, bc, bs)
set_option maxRecDepth 100000 in
theorem QX10_requireLength_0 (E : xEn) (d : Nat) (bc bs : Nat) (x0 : Nat) (x1 : Int32) (σ : xH) : qX10_requireLength_0 E d bc bs x0 x1 σ = if x1 < (nI 0) then qX10_requireLength_15 E d bc bs σ else gR σ 8 0 x0 (fun v1 => gI σ 3 1 v1 (fun v2 => if x1 ≤ v2 then qX10_requireLength_26 E d bc bs σ else qX10_requireLength_15 E d bc bs σ)) := xval_blkQ E (xsem xT E d) 1 6 bX10_requireLength (pc := 0) rfl [(0, .ref x0), (1, .int x1)] [] σ bc bs
set_option maxRecDepth 100000 in
theorem QX10_requireLength_15 (E : xEn) (d : Nat) (bc bs : Nat) (σ : xH) : qX10_requireLength_15 E d bc bs σ = bif Nat.ble (bc + 1) 1 && (Nat.ble (bs + 6) 6 && Nat.ble 0 8) then some (.inr (xexc 0), σ) else none := xval_blkQ E (xsem xT E d) 1 6 bX10_requireLength (pc := 15) rfl [] [] σ bc bs
set_option maxRecDepth 100000 in
theorem QX10_requireLength_26 (E : xEn) (d : Nat) (bc bs : Nat) (σ : xH) : qX10_requireLength_26 E d bc bs σ = some (.inl none, σ) := xval_blkQ E (xsem xT E d) 1 6 bX10_requireLength (pc := 26) rfl [] [] σ bc bs
theorem eX10_requireLength (E : xEn) (d : Nat) (x0 : Nat) (x1 : Int32) (σ : xH) : xsem xT E (d + 1) kX10_requireLength [.ref x0, .int x1] σ = qX10_requireLength_0 E d 0 0 x0 x1 σ := rfl
noncomputable def qX10_requirePlace_0 (E : xEn) (d : Nat) (bc bs : Nat) (x0 : Nat) (x1 : Int32) (σ : xH) : Option xR := xval E (xsem xT E d) 1 6 bX10_requirePlace (0, [(0, .ref x0), (1, .int x1)], [], σ, bc, bs)
noncomputable def qX10_requirePlace_25 (E : xEn) (d : Nat) (bc bs : Nat) (σ : xH) : Option xR := xval E (xsem xT E d) 1 6 bX10_requirePlace (25, [], [], σ, bc, bs)
set_option maxRecDepth 100000 in
theorem QX10_requirePlace_0 (E : xEn) (d : Nat) (bc bs : Nat) (x0 : Nat) (x1 : Int32) (σ : xH) : qX10_requirePlace_0 E d bc bs x0 x1 σ = bif Nat.ble bc 1 && Nat.ble bs 6 then gO E σ 8 x0 (cA (xthr 1 some) (xsem xT E d kX10_game [.ref x0] σ) (fun v1 σ1 => gR σ1 2 0 v1 (fun v2 => bif Nat.ble bc 1 && Nat.ble bs 6 then gO E σ1 5 v2 (cI (xthr 1 some) (xsem xT E d kX5_hasPlace [.ref v2, .int x1] σ1) (fun v3 σ2 => if v3 = (nI 0) then bif Nat.ble (bc + 1) 1 && (Nat.ble (bs + 6) 6 && Nat.ble 0 8) then some (.inr (xexc 1), σ2) else none else qX10_requirePlace_25 E d bc bs σ2)) else none))) else none := xval_blkQ E (xsem xT E d) 1 6 bX10_requirePlace (pc := 0) rfl [(0, .ref x0), (1, .int x1)] [] σ bc bs
set_option maxRecDepth 100000 in
theorem QX10_requirePlace_25 (E : xEn) (d : Nat) (bc bs : Nat) (σ : xH) : qX10_requirePlace_25 E d bc bs σ = some (.inl none, σ) := xval_blkQ E (xsem xT E d) 1 6 bX10_requirePlace (pc := 25) rfl [] [] σ bc bs
theorem eX10_requirePlace (E : xEn) (d : Nat) (x0 : Nat) (x1 : Int32) (σ : xH) : xsem xT E (d + 1) kX10_requirePlace [.ref x0, .int x1] σ = qX10_requirePlace_0 E d 0 0 x0 x1 σ := rfl
noncomputable def qX10_requireTwoPlaces_0 (E : xEn) (d : Nat) (bc bs : Nat) (x0 : Nat) (x1 : Int32) (x2 : Int32) (σ : xH) : Option xR := xval E (xsem xT E d) 3 18 bX10_requireTwoPlaces (0, [(0, .ref x0), (1, .int x1), (2, .int x2)], [], σ, bc, bs)
noncomputable def qX10_requireTwoPlaces_26 (E : xEn) (d : Nat) (bc bs : Nat) (σ : xH) : Option xR := xval E (xsem xT E d) 3 18 bX10_requireTwoPlaces (26, [], [], σ, bc, bs)
set_option maxRecDepth 100000 in
theorem QX10_requireTwoPlaces_0 (E : xEn) (d : Nat) (bc bs : Nat) (x0 : Nat) (x1 : Int32) (x2 : Int32) (σ : xH) : qX10_requireTwoPlaces_0 E d bc bs x0 x1 x2 σ = bif Nat.ble (bc + 1) 3 && Nat.ble (bs + 6) 18 then gO E σ 8 x0 (cV (xthr 5 some) (xsem xT E d kX10_requirePlace [.ref x0, .int x1] σ) (fun σ1 => bif Nat.ble ((bc + 1) + 1) 3 && Nat.ble ((bs + 6) + 6) 18 then gO E σ1 8 x0 (cV (xthr 5 some) (xsem xT E d kX10_requirePlace [.ref x0, .int x2] σ1) (fun σ2 => if x1 = x2 then bif Nat.ble (((bc + 1) + 1) + 1) 3 && (Nat.ble (((bs + 6) + 6) + 6) 18 && Nat.ble 0 8) then some (.inr (xexc 0), σ2) else none else qX10_requireTwoPlaces_26 E d ((bc + 1) + 1) ((bs + 6) + 6) σ2)) else none)) else none := xval_blkQ E (xsem xT E d) 3 18 bX10_requireTwoPlaces (pc := 0) rfl [(0, .ref x0), (1, .int x1), (2, .int x2)] [] σ bc bs
set_option maxRecDepth 100000 in
theorem QX10_requireTwoPlaces_26 (E : xEn) (d : Nat) (bc bs : Nat) (σ : xH) : qX10_requireTwoPlaces_26 E d bc bs σ = some (.inl none, σ) := xval_blkQ E (xsem xT E d) 3 18 bX10_requireTwoPlaces (pc := 26) rfl [] [] σ bc bs
theorem eX10_requireTwoPlaces (E : xEn) (d : Nat) (x0 : Nat) (x1 : Int32) (x2 : Int32) (σ : xH) : xsem xT E (d + 1) kX10_requireTwoPlaces [.ref x0, .int x1, .int x2] σ = qX10_requireTwoPlaces_0 E d 0 0 x0 x1 x2 σ := rfl
noncomputable def qX10_requirePlaceOrHand_0 (E : xEn) (d : Nat) (bc bs : Nat) (x0 : Nat) (x1 : Int32) (σ : xH) : Option xR := xval E (xsem xT E d) 1 6 bX10_requirePlaceOrHand (0, [(0, .ref x0), (1, .int x1)], [], σ, bc, bs)
noncomputable def qX10_requirePlaceOrHand_18 (E : xEn) (d : Nat) (bc bs : Nat) (σ : xH) : Option xR := xval E (xsem xT E d) 1 6 bX10_requirePlaceOrHand (18, [], [], σ, bc, bs)
noncomputable def qX10_requirePlaceOrHand_29 (E : xEn) (d : Nat) (bc bs : Nat) (σ : xH) : Option xR := xval E (xsem xT E d) 1 6 bX10_requirePlaceOrHand (29, [], [], σ, bc, bs)
set_option maxRecDepth 100000 in
theorem QX10_requirePlaceOrHand_0 (E : xEn) (d : Nat) (bc bs : Nat) (x0 : Nat) (x1 : Int32) (σ : xH) : qX10_requirePlaceOrHand_0 E d bc bs x0 x1 σ = if x1 < (nI 0) then qX10_requirePlaceOrHand_18 E d bc bs σ else bif Nat.ble bc 1 && Nat.ble bs 6 then gO E σ 8 x0 (cA (xthr 1 some) (xsem xT E d kX10_game [.ref x0] σ) (fun v1 σ1 => gR σ1 2 0 v1 (fun v2 => gI σ1 5 0 v2 (fun v3 => if x1 ≤ v3 then qX10_requirePlaceOrHand_29 E d bc bs σ1 else qX10_requirePlaceOrHand_18 E d bc bs σ1)))) else none := xval_blkQ E (xsem xT E d) 1 6 bX10_requirePlaceOrHand (pc := 0) rfl [(0, .ref x0), (1, .int x1)] [] σ bc bs
set_option maxRecDepth 100000 in
theorem QX10_requirePlaceOrHand_18 (E : xEn) (d : Nat) (bc bs : Nat) (σ : xH) : qX10_requirePlaceOrHand_18 E d bc bs σ = bif Nat.ble (bc + 1) 1 && (Nat.ble (bs + 6) 6 && Nat.ble 0 8) then some (.inr (xexc 0), σ) else none := xval_blkQ E (xsem xT E d) 1 6 bX10_requirePlaceOrHand (pc := 18) rfl [] [] σ bc bs
set_option maxRecDepth 100000 in
theorem QX10_requirePlaceOrHand_29 (E : xEn) (d : Nat) (bc bs : Nat) (σ : xH) : qX10_requirePlaceOrHand_29 E d bc bs σ = some (.inl none, σ) := xval_blkQ E (xsem xT E d) 1 6 bX10_requirePlaceOrHand (pc := 29) rfl [] [] σ bc bs
theorem eX10_requirePlaceOrHand (E : xEn) (d : Nat) (x0 : Nat) (x1 : Int32) (σ : xH) : xsem xT E (d + 1) kX10_requirePlaceOrHand [.ref x0, .int x1] σ = qX10_requirePlaceOrHand_0 E d 0 0 x0 x1 σ := rfl
noncomputable def qX10_requireWhat_0 (E : xEn) (d : Nat) (bc bs : Nat) (x0 : Nat) (x1 : Int32) (x2 : Int32) (σ : xH) : Option xR := xval E (xsem xT E d) 1 6 bX10_requireWhat (0, [(0, .ref x0), (1, .int x1), (2, .int x2)], [], σ, bc, bs)
noncomputable def qX10_requireWhat_9 (E : xEn) (d : Nat) (bc bs : Nat) (σ : xH) : Option xR := xval E (xsem xT E d) 1 6 bX10_requireWhat (9, [], [], σ, bc, bs)
noncomputable def qX10_requireWhat_20 (E : xEn) (d : Nat) (bc bs : Nat) (σ : xH) : Option xR := xval E (xsem xT E d) 1 6 bX10_requireWhat (20, [], [], σ, bc, bs)
set_option maxRecDepth 100000 in
theorem QX10_requireWhat_0 (E : xEn) (d : Nat) (bc bs : Nat) (x0 : Nat) (x1 : Int32) (x2 : Int32) (σ : xH) : qX10_requireWhat_0 E d bc bs x0 x1 x2 σ = if x1 < (nI 0) then qX10_requireWhat_9 E d bc bs σ else if x1 ≤ x2 then qX10_requireWhat_20 E d bc bs σ else qX10_requireWhat_9 E d bc bs σ := xval_blkQ E (xsem xT E d) 1 6 bX10_requireWhat (pc := 0) rfl [(0, .ref x0), (1, .int x1), (2, .int x2)] [] σ bc bs
set_option maxRecDepth 100000 in
theorem QX10_requireWhat_9 (E : xEn) (d : Nat) (bc bs : Nat) (σ : xH) : qX10_requireWhat_9 E d bc bs σ = bif Nat.ble (bc + 1) 1 && (Nat.ble (bs + 6) 6 && Nat.ble 0 8) then some (.inr (xexc 0), σ) else none := xval_blkQ E (xsem xT E d) 1 6 bX10_requireWhat (pc := 9) rfl [] [] σ bc bs
set_option maxRecDepth 100000 in
theorem QX10_requireWhat_20 (E : xEn) (d : Nat) (bc bs : Nat) (σ : xH) : qX10_requireWhat_20 E d bc bs σ = some (.inl none, σ) := xval_blkQ E (xsem xT E d) 1 6 bX10_requireWhat (pc := 20) rfl [] [] σ bc bs
theorem eX10_requireWhat (E : xEn) (d : Nat) (x0 : Nat) (x1 : Int32) (x2 : Int32) (σ : xH) : xsem xT E (d + 1) kX10_requireWhat [.ref x0, .int x1, .int x2] σ = qX10_requireWhat_0 E d 0 0 x0 x1 x2 σ := rfl
end
section
/-! EQUATIONS OF THE BLOCKS, written by wip/p31/geneq.py. -/
noncomputable def qJ7_fill_53178_0 (E : xEn) (d : Nat) (x0 : Nat) (x1 : Int32) (σ : xH) : Option xR := xval E (xsem xT E d) 0 0 bJ7_fill_53178 (0, [(0, .ref x0), (1, .int x1)], [], σ, 0, 0)
noncomputable def qJ7_fill_53178_5 (E : xEn) (d : Nat) (x0 : Nat) (x1 : Int32) (x2 : Int32) (x3 : Int32) (σ : xH) : Option xR := xval E (xsem xT E d) 0 0 bJ7_fill_53178 (5, [(0, .ref x0), (1, .int x1), (2, .int x2), (3, .int x3)], [], σ, 0, 0)
noncomputable def qJ7_fill_53178_20 (E : xEn) (d : Nat) (σ : xH) : Option xR := xval E (xsem xT E d) 0 0 bJ7_fill_53178 (20, [], [], σ, 0, 0)
set_option maxRecDepth 100000 in
theorem QJ7_fill_53178_0 (E : xEn) (d : Nat) (x0 : Nat) (x1 : Int32) (σ : xH) : qJ7_fill_53178_0 E d x0 x1 σ = aN E σ x0 (fun v1 => qJ7_fill_53178_5 E d x0 x1 (nI 0) v1 σ) := xval_blkQ E (xsem xT E d) 0 0 bJ7_fill_53178 (pc := 0) rfl [(0, .ref x0), (1, .int x1)] [] σ 0 0
set_option maxRecDepth 100000 in
theorem QJ7_fill_53178_5 (E : xEn) (d : Nat) (x0 : Nat) (x1 : Int32) (x2 : Int32) (x3 : Int32) (σ : xH) : qJ7_fill_53178_5 E d x0 x1 x2 x3 σ = if x3 ≤ x2 then qJ7_fill_53178_20 E d σ else sI σ x0 x2 x1 (fun σ1 => qJ7_fill_53178_5 E d x0 x1 (x2 + (nI 1)) x3 σ1) := xval_blkQ E (xsem xT E d) 0 0 bJ7_fill_53178 (pc := 5) rfl [(0, .ref x0), (1, .int x1), (2, .int x2), (3, .int x3)] [] σ 0 0
set_option maxRecDepth 100000 in
theorem QJ7_fill_53178_20 (E : xEn) (d : Nat) (σ : xH) : qJ7_fill_53178_20 E d σ = some (.inl none, σ) := xval_blkQ E (xsem xT E d) 0 0 bJ7_fill_53178 (pc := 20) rfl [] [] σ 0 0
theorem eJ7_fill_53178 (E : xEn) (d : Nat) (x0 : Nat) (x1 : Int32) (σ : xH) : xsem xT E (d + 1) kJ7_fill_53178 [.ref x0, .int x1] σ = qJ7_fill_53178_0 E d x0 x1 σ := rfl
noncomputable def qJ0_length_8abf5_0 (E : xEn) (d : Nat) (x0 : Nat) (σ : xH) : Option xR := xval E (xsem xT E d) 0 0 bJ0_length_8abf5 (0, [(0, .ref x0)], [], σ, 0, 0)
set_option maxRecDepth 100000 in
theorem QJ0_length_8abf5_0 (E : xEn) (d : Nat) (x0 : Nat) (σ : xH) : qJ0_length_8abf5_0 E d x0 σ = gU E σ x0 (fun v1 => aN E σ v1 (fun v2 => gO E σ 99 x0 (cI (xthr 1 some) (xsem xT E d kJ0_coder_7d493 [.ref x0] σ) (fun v3 σ1 => some (.inl (some (.int (v2 >>> (v3 &&& 31)))), σ1))))) := xval_blkQ E (xsem xT E d) 0 0 bJ0_length_8abf5 (pc := 0) rfl [(0, .ref x0)] [] σ 0 0
theorem eJ0_length_8abf5 (E : xEn) (d : Nat) (x0 : Nat) (σ : xH) : xsem xT E (d + 1) kJ0_length_8abf5 [.ref x0] σ = qJ0_length_8abf5_0 E d x0 σ := rfl
noncomputable def qJ0_charAt_5068e_0 (E : xEn) (d : Nat) (x0 : Nat) (x1 : Int32) (σ : xH) : Option xR := xval E (xsem xT E d) 0 0 bJ0_charAt_5068e (0, [(0, .ref x0), (1, .int x1)], [], σ, 0, 0)
set_option maxRecDepth 100000 in
theorem QJ0_charAt_5068e_0 (E : xEn) (d : Nat) (x0 : Nat) (x1 : Int32) (σ : xH) : qJ0_charAt_5068e_0 E d x0 x1 σ = gO E σ 99 x0 (cI (xthr 1 some) (xsem xT E d kJ0_isLatin1_aae02 [.ref x0] σ) (fun v1 σ1 => if v1 = (nI 0) then none else gU E σ1 x0 (fun v2 => cI (xthr 0 some) (xsem xT E d kJ1_charAt_3b067 [.ref v2, .int x1] σ1) (fun v3 σ2 => xiret [7] v3 (some (.inl (some (.int v3)), σ2)))))) := xval_blkQ E (xsem xT E d) 0 0 bJ0_charAt_5068e (pc := 0) rfl [(0, .ref x0), (1, .int x1)] [] σ 0 0
theorem eJ0_charAt_5068e (E : xEn) (d : Nat) (x0 : Nat) (x1 : Int32) (σ : xH) : xsem xT E (d + 1) kJ0_charAt_5068e [.ref x0, .int x1] σ = qJ0_charAt_5068e_0 E d x0 x1 σ := rfl
noncomputable def qJ0_coder_7d493_0 (E : xEn) (d : Nat) (x0 : Nat) (σ : xH) : Option xR := xval E (xsem xT E d) 0 0 bJ0_coder_7d493 (0, [(0, .ref x0)], [], σ, 0, 0)
noncomputable def qJ0_coder_7d493_14 (E : xEn) (d : Nat) (s0 : Int32) (σ : xH) : Option xR := xval E (xsem xT E d) 0 0 bJ0_coder_7d493 (14, [], [.int s0], σ, 0, 0)
set_option maxRecDepth 100000 in
theorem QJ0_coder_7d493_0 (E : xEn) (d : Nat) (x0 : Nat) (σ : xH) : qJ0_coder_7d493_0 E d x0 σ = if (nI 1) = (nI 0) then none else gC E σ x0 (fun v1 => qJ0_coder_7d493_14 E d v1 σ) := xval_blkQ E (xsem xT E d) 0 0 bJ0_coder_7d493 (pc := 0) rfl [(0, .ref x0)] [] σ 0 0
set_option maxRecDepth 100000 in
theorem QJ0_coder_7d493_14 (E : xEn) (d : Nat) (s0 : Int32) (σ : xH) : qJ0_coder_7d493_14 E d s0 σ = xiret [6] s0 (some (.inl (some (.int s0)), σ)) := xval_blkQ E (xsem xT E d) 0 0 bJ0_coder_7d493 (pc := 14) rfl [] [.int s0] σ 0 0
theorem eJ0_coder_7d493 (E : xEn) (d : Nat) (x0 : Nat) (σ : xH) : xsem xT E (d + 1) kJ0_coder_7d493 [.ref x0] σ = qJ0_coder_7d493_0 E d x0 σ := rfl
noncomputable def qJ0_isLatin1_aae02_0 (E : xEn) (d : Nat) (x0 : Nat) (σ : xH) : Option xR := xval E (xsem xT E d) 0 0 bJ0_isLatin1_aae02 (0, [(0, .ref x0)], [], σ, 0, 0)
noncomputable def qJ0_isLatin1_aae02_18 (E : xEn) (d : Nat) (s0 : Int32) (σ : xH) : Option xR := xval E (xsem xT E d) 0 0 bJ0_isLatin1_aae02 (18, [], [.int s0], σ, 0, 0)
set_option maxRecDepth 100000 in
theorem QJ0_isLatin1_aae02_0 (E : xEn) (d : Nat) (x0 : Nat) (σ : xH) : qJ0_isLatin1_aae02_0 E d x0 σ = if (nI 1) = (nI 0) then none else gC E σ x0 (fun v1 => if v1 = (nI 0) then qJ0_isLatin1_aae02_18 E d (nI 1) σ else none) := xval_blkQ E (xsem xT E d) 0 0 bJ0_isLatin1_aae02 (pc := 0) rfl [(0, .ref x0)] [] σ 0 0
set_option maxRecDepth 100000 in
theorem QJ0_isLatin1_aae02_18 (E : xEn) (d : Nat) (s0 : Int32) (σ : xH) : qJ0_isLatin1_aae02_18 E d s0 σ = xiret [5] s0 (some (.inl (some (.int s0)), σ)) := xval_blkQ E (xsem xT E d) 0 0 bJ0_isLatin1_aae02 (pc := 18) rfl [] [.int s0] σ 0 0
theorem eJ0_isLatin1_aae02 (E : xEn) (d : Nat) (x0 : Nat) (σ : xH) : xsem xT E (d + 1) kJ0_isLatin1_aae02 [.ref x0] σ = qJ0_isLatin1_aae02_0 E d x0 σ := rfl
noncomputable def qJ0_checkIndex_df160_0 (E : xEn) (d : Nat) (x0 : Int32) (x1 : Int32) (σ : xH) : Option xR := xval E (xsem xT E d) 0 0 bJ0_checkIndex_df160 (0, [(0, .int x0), (1, .int x1)], [], σ, 0, 0)
set_option maxRecDepth 100000 in
theorem QJ0_checkIndex_df160_0 (E : xEn) (d : Nat) (x0 : Int32) (x1 : Int32) (σ : xH) : qJ0_checkIndex_df160_0 E d x0 x1 σ = cI (xthr 0 some) (xsem xT E d kJ3_checkIndex_8e157 [.int x0, .int x1, (eFm E)] σ) (fun v1 σ1 => some (.inl none, σ1)) := xval_blkQ E (xsem xT E d) 0 0 bJ0_checkIndex_df160 (pc := 0) rfl [(0, .int x0), (1, .int x1)] [] σ 0 0
theorem eJ0_checkIndex_df160 (E : xEn) (d : Nat) (x0 : Int32) (x1 : Int32) (σ : xH) : xsem xT E (d + 1) kJ0_checkIndex_df160 [.int x0, .int x1] σ = qJ0_checkIndex_df160_0 E d x0 x1 σ := rfl
noncomputable def qJ1_charAt_3b067_0 (E : xEn) (d : Nat) (x0 : Nat) (x1 : Int32) (σ : xH) : Option xR := xval E (xsem xT E d) 0 0 bJ1_charAt_3b067 (0, [(0, .ref x0), (1, .int x1)], [], σ, 0, 0)
set_option maxRecDepth 100000 in
theorem QJ1_charAt_3b067_0 (E : xEn) (d : Nat) (x0 : Nat) (x1 : Int32) (σ : xH) : qJ1_charAt_3b067_0 E d x0 x1 σ = aN E σ x0 (fun v1 => cV (xthr 0 some) (xsem xT E d kJ0_checkIndex_df160 [.int x1, .int v1] σ) (fun σ1 => aB E σ1 x0 x1 (fun v2 => xiret [7] (((v2 &&& (nI 255)).toUInt32 % 65536).toInt32) (some (.inl (some (.int (((v2 &&& (nI 255)).toUInt32 % 65536).toInt32))), σ1))))) := xval_blkQ E (xsem xT E d) 0 0 bJ1_charAt_3b067 (pc := 0) rfl [(0, .ref x0), (1, .int x1)] [] σ 0 0
theorem eJ1_charAt_3b067 (E : xEn) (d : Nat) (x0 : Nat) (x1 : Int32) (σ : xH) : xsem xT E (d + 1) kJ1_charAt_3b067 [.ref x0, .int x1] σ = qJ1_charAt_3b067_0 E d x0 x1 σ := rfl
noncomputable def qJ3_checkIndex_8e157_0 (E : xEn) (d : Nat) (x0 : Int32) (x1 : Int32) (x2 : Value) (σ : xH) : Option xR := xval E (xsem xT E d) 0 0 bJ3_checkIndex_8e157 (0, [(0, .int x0), (1, .int x1), (2, x2)], [], σ, 0, 0)
noncomputable def qJ3_checkIndex_8e157_16 (E : xEn) (d : Nat) (x0 : Int32) (σ : xH) : Option xR := xval E (xsem xT E d) 0 0 bJ3_checkIndex_8e157 (16, [(0, .int x0)], [], σ, 0, 0)
set_option maxRecDepth 100000 in
theorem QJ3_checkIndex_8e157_0 (E : xEn) (d : Nat) (x0 : Int32) (x1 : Int32) (x2 : Value) (σ : xH) : qJ3_checkIndex_8e157_0 E d x0 x1 x2 σ = if x0 < (nI 0) then none else if x0 < x1 then qJ3_checkIndex_8e157_16 E d x0 σ else none := xval_blkQ E (xsem xT E d) 0 0 bJ3_checkIndex_8e157 (pc := 0) rfl [(0, .int x0), (1, .int x1), (2, x2)] [] σ 0 0
set_option maxRecDepth 100000 in
theorem QJ3_checkIndex_8e157_16 (E : xEn) (d : Nat) (x0 : Int32) (σ : xH) : qJ3_checkIndex_8e157_16 E d x0 σ = some (.inl (some (.int x0)), σ) := xval_blkQ E (xsem xT E d) 0 0 bJ3_checkIndex_8e157 (pc := 16) rfl [(0, .int x0)] [] σ 0 0
theorem eJ3_checkIndex_8e157 (E : xEn) (d : Nat) (x0 : Int32) (x1 : Int32) (x2 : Value) (hv : x2.category = 1) (σ : xH) : xsem xT E (d + 1) kJ3_checkIndex_8e157 [.int x0, .int x1, x2] σ = qJ3_checkIndex_8e157_0 E d x0 x1 x2 σ := by
  show (bif Nat.ble (1 + (1 + (x2.category + 0))) 3 then _ else _) = _
  rw [hv]
  rfl
noncomputable def qJ5_init_d00df_0 (E : xEn) (d : Nat) (bc bs : Nat) (x0 : Nat) (x1 : Int32) (σ : xH) : Option xR := xval E (xsem xT E d) 1 16 bJ5_init_d00df (0, [(0, .ref x0), (1, .int x1)], [], σ, bc, bs)
noncomputable def qJ5_init_d00df_38 (E : xEn) (d : Nat) (bc bs : Nat) (σ : xH) : Option xR := xval E (xsem xT E d) 1 16 bJ5_init_d00df (38, [], [], σ, bc, bs)
set_option maxRecDepth 100000 in
theorem QJ5_init_d00df_0 (E : xEn) (d : Nat) (bc bs : Nat) (x0 : Nat) (x1 : Int32) (σ : xH) : qJ5_init_d00df_0 E d bc bs x0 x1 σ = if (nI 1) = (nI 0) then none else bif decide (¬ x1 < 0) && (Nat.ble (bc + 1) 1 && (Nat.ble (bs + x1.toNatClampNeg) 16 && Nat.ble x1.toNatClampNeg 100000)) then nwA σ 1 x1.toNatClampNeg (fun v1 σ1 => gP σ1 12 0 x0 (.ref v1) (fun σ2 => if narrow .byte (.int (nI 0)) = Value.int (nI 0) then gP σ2 12 1 x0 (.int (nI 0)) (fun σ3 => qJ5_init_d00df_38 E d (bc + 1) (bs + x1.toNatClampNeg) σ3) else none)) else none := xval_blkQ E (xsem xT E d) 1 16 bJ5_init_d00df (pc := 0) rfl [(0, .ref x0), (1, .int x1)] [] σ bc bs
set_option maxRecDepth 100000 in
theorem QJ5_init_d00df_38 (E : xEn) (d : Nat) (bc bs : Nat) (σ : xH) : qJ5_init_d00df_38 E d bc bs σ = some (.inl none, σ) := xval_blkQ E (xsem xT E d) 1 16 bJ5_init_d00df (pc := 38) rfl [] [] σ bc bs
theorem eJ5_init_d00df (E : xEn) (d : Nat) (x0 : Nat) (x1 : Int32) (σ : xH) : xsem xT E (d + 1) kJ5_init_d00df [.ref x0, .int x1] σ = qJ5_init_d00df_0 E d 0 0 x0 x1 σ := rfl
noncomputable def qJ5_init_a7421_0 (E : xEn) (d : Nat) (bc bs : Nat) (x0 : Nat) (x1 : Nat) (σ : xH) : Option xR := xval E (xsem xT E d) 2 310 bJ5_init_a7421 (0, [(0, .ref x0), (1, .ref x1)], [], σ, bc, bs)
noncomputable def qJ5_init_a7421_24 (E : xEn) (d : Nat) (bc bs : Nat) (x0 : Nat) (x1 : Nat) (s0 : Int32) (σ : xH) : Option xR := xval E (xsem xT E d) 2 310 bJ5_init_a7421 (24, [(0, .ref x0), (1, .ref x1)], [.int s0], σ, bc, bs)
noncomputable def qJ5_init_a7421_53 (E : xEn) (d : Nat) (bc bs : Nat) (x0 : Nat) (x1 : Nat) (s0 : Nat) (s1 : Nat) (σ : xH) : Option xR := xval E (xsem xT E d) 2 310 bJ5_init_a7421 (53, [(0, .ref x0), (1, .ref x1)], [.ref s1, .ref s0], σ, bc, bs)
set_option maxRecDepth 100000 in
theorem QJ5_init_a7421_0 (E : xEn) (d : Nat) (bc bs : Nat) (x0 : Nat) (x1 : Nat) (σ : xH) : qJ5_init_a7421_0 E d bc bs x0 x1 σ = bif Nat.ble bc 2 && Nat.ble bs 310 then gO E σ 99 x1 (cI (xthr 1 some) (xsem xT E d kJ0_length_8abf5 [.ref x1] σ) (fun v1 σ1 => if (nI 2147483631) ≤ v1 then none else qJ5_init_a7421_24 E d bc bs x0 x1 (v1 + (nI 16)) σ1)) else none := xval_blkQ E (xsem xT E d) 2 310 bJ5_init_a7421 (pc := 0) rfl [(0, .ref x0), (1, .ref x1)] [] σ bc bs
set_option maxRecDepth 100000 in
theorem QJ5_init_a7421_24 (E : xEn) (d : Nat) (bc bs : Nat) (x0 : Nat) (x1 : Nat) (s0 : Int32) (σ : xH) : qJ5_init_a7421_24 E d bc bs x0 x1 s0 σ = bif Nat.ble bc 2 && Nat.ble bs 310 then gO E σ 99 x1 (cI (xthr 1 some) (xsem xT E d kJ0_coder_7d493 [.ref x1] σ) (fun v1 σ1 => if narrow .byte (.int v1) = Value.int v1 then gP σ1 12 1 x0 (.int v1) (fun σ2 => if v1 = (nI 0) then bif decide (¬ s0 < 0) && (Nat.ble (bc + 1) 2 && (Nat.ble (bs + s0.toNatClampNeg) 310 && Nat.ble s0.toNatClampNeg 100000)) then nwA σ2 1 s0.toNatClampNeg (fun v2 σ3 => qJ5_init_a7421_53 E d (bc + 1) (bs + s0.toNatClampNeg) x0 x1 x0 v2 σ3) else none else none) else none)) else none := xval_blkQ E (xsem xT E d) 2 310 bJ5_init_a7421 (pc := 24) rfl [(0, .ref x0), (1, .ref x1)] [.int s0] σ bc bs
set_option maxRecDepth 100000 in
theorem QJ5_init_a7421_53 (E : xEn) (d : Nat) (bc bs : Nat) (x0 : Nat) (x1 : Nat) (s0 : Nat) (s1 : Nat) (σ : xH) : qJ5_init_a7421_53 E d bc bs x0 x1 s0 s1 σ = gP σ 12 0 s0 (.ref s1) (fun σ1 => bif Nat.ble (bc + 1) 2 && Nat.ble (bs + 250) 310 then gO E σ1 12 x0 (cA (xthr 9 some) (xsem xT E d kJ4_append_cf1ce [.ref x0, .ref x1] σ1) (fun v1 σ2 => some (.inl none, σ2))) else none) := xval_blkQ E (xsem xT E d) 2 310 bJ5_init_a7421 (pc := 53) rfl [(0, .ref x0), (1, .ref x1)] [.ref s1, .ref s0] σ bc bs
theorem eJ5_init_a7421 (E : xEn) (d : Nat) (x0 : Nat) (x1 : Nat) (σ : xH) : xsem xT E (d + 1) kJ5_init_a7421 [.ref x0, .ref x1] σ = qJ5_init_a7421_0 E d 0 0 x0 x1 σ := rfl
noncomputable def qJ5_append_cf1ce_0 (E : xEn) (d : Nat) (bc bs : Nat) (x0 : Nat) (x1 : Nat) (σ : xH) : Option xR := xval E (xsem xT E d) 1 250 bJ5_append_cf1ce (0, [(0, .ref x0), (1, .ref x1)], [], σ, bc, bs)
noncomputable def qJ5_append_cf1ce_9 (E : xEn) (d : Nat) (bc bs : Nat) (x0 : Nat) (x1 : Nat) (σ : xH) : Option xR := xval E (xsem xT E d) 1 250 bJ5_append_cf1ce (9, [(0, .ref x0), (1, .ref x1)], [], σ, bc, bs)
set_option maxRecDepth 100000 in
theorem QJ5_append_cf1ce_0 (E : xEn) (d : Nat) (bc bs : Nat) (x0 : Nat) (x1 : Nat) (σ : xH) : qJ5_append_cf1ce_0 E d bc bs x0 x1 σ = qJ5_append_cf1ce_9 E d bc bs x0 x1 σ := xval_blkQ E (xsem xT E d) 1 250 bJ5_append_cf1ce (pc := 0) rfl [(0, .ref x0), (1, .ref x1)] [] σ bc bs
set_option maxRecDepth 100000 in
theorem QJ5_append_cf1ce_9 (E : xEn) (d : Nat) (bc bs : Nat) (x0 : Nat) (x1 : Nat) (σ : xH) : qJ5_append_cf1ce_9 E d bc bs x0 x1 σ = bif Nat.ble bc 1 && Nat.ble bs 250 then gO E σ 99 x1 (cI (xthr 1 some) (xsem xT E d kJ0_length_8abf5 [.ref x1] σ) (fun v1 σ1 => gI σ1 12 3 x0 (fun v2 => bif Nat.ble (bc + 1) 1 && Nat.ble (bs + 250) 250 then gO E σ1 12 x0 (cV (xthr 6 some) (xsem xT E d kJ5_ensureCapacityInternal_d00df [.ref x0, .int (v2 + v1)] σ1) (fun σ2 => gI σ2 12 3 x0 (fun v3 => bif Nat.ble (bc + 1) 1 && Nat.ble (bs + 250) 250 then gO E σ2 12 x0 (cV (xthr 6 some) (xsem xT E d kJ5_putStringAt_47b60 [.ref x0, .int v3, .ref x1] σ2) (fun σ3 => gI σ3 12 3 x0 (fun v4 => gP σ3 12 3 x0 (.int (v4 + v1)) (fun σ4 => some (.inl (some (.ref x0)), σ4))))) else none))) else none))) else none := xval_blkQ E (xsem xT E d) 1 250 bJ5_append_cf1ce (pc := 9) rfl [(0, .ref x0), (1, .ref x1)] [] σ bc bs
theorem eJ5_append_cf1ce (E : xEn) (d : Nat) (x0 : Nat) (x1 : Nat) (σ : xH) : xsem xT E (d + 1) kJ5_append_cf1ce [.ref x0, .ref x1] σ = qJ5_append_cf1ce_0 E d 0 0 x0 x1 σ := rfl
noncomputable def qJ5_append_3fe6f_0 (E : xEn) (d : Nat) (bc bs : Nat) (x0 : Nat) (x1 : Int32) (σ : xH) : Option xR := xval E (xsem xT E d) 1 250 bJ5_append_3fe6f (0, [(0, .ref x0), (1, .int x1)], [], σ, bc, bs)
noncomputable def qJ5_append_3fe6f_75 (E : xEn) (d : Nat) (bc bs : Nat) (x0 : Nat) (σ : xH) : Option xR := xval E (xsem xT E d) 1 250 bJ5_append_3fe6f (75, [(0, .ref x0)], [], σ, bc, bs)
set_option maxRecDepth 100000 in
theorem QJ5_append_3fe6f_0 (E : xEn) (d : Nat) (bc bs : Nat) (x0 : Nat) (x1 : Int32) (σ : xH) : qJ5_append_3fe6f_0 E d bc bs x0 x1 σ = gI σ 12 3 x0 (fun v1 => bif Nat.ble (bc + 1) 1 && Nat.ble (bs + 250) 250 then gO E σ 12 x0 (cV (xthr 6 some) (xsem xT E d kJ5_ensureCapacityInternal_d00df [.ref x0, .int (v1 + (nI 1))] σ) (fun σ1 => bif Nat.ble (bc + 1) 1 && Nat.ble (bs + 250) 250 then gO E σ1 12 x0 (cI (xthr 6 some) (xsem xT E d kJ5_isLatin1_aae02 [.ref x0] σ1) (fun v2 σ2 => if v2 = (nI 0) then none else bif Nat.ble (bc + 1) 1 && Nat.ble (bs + 250) 250 then cI (xthr 0 some) (xsem xT E d kJ1_canEncode_fc78d [.int x1] σ2) (fun v3 σ3 => if v3 = (nI 0) then none else gR σ3 12 0 x0 (fun v4 => gI σ3 12 3 x0 (fun v5 => gP σ3 12 3 x0 (.int (v5 + (nI 1))) (fun σ4 => sB σ4 v4 v5 x1.toInt8.toInt32 (fun σ5 => qJ5_append_3fe6f_75 E d (bc + 1) (bs + 250) x0 σ5))))) else none)) else none)) else none) := xval_blkQ E (xsem xT E d) 1 250 bJ5_append_3fe6f (pc := 0) rfl [(0, .ref x0), (1, .int x1)] [] σ bc bs
set_option maxRecDepth 100000 in
theorem QJ5_append_3fe6f_75 (E : xEn) (d : Nat) (bc bs : Nat) (x0 : Nat) (σ : xH) : qJ5_append_3fe6f_75 E d bc bs x0 σ = some (.inl (some (.ref x0)), σ) := xval_blkQ E (xsem xT E d) 1 250 bJ5_append_3fe6f (pc := 75) rfl [(0, .ref x0)] [] σ bc bs
theorem eJ5_append_3fe6f (E : xEn) (d : Nat) (x0 : Nat) (x1 : Int32) (σ : xH) : xsem xT E (d + 1) kJ5_append_3fe6f [.ref x0, .int x1] σ = qJ5_append_3fe6f_0 E d 0 0 x0 x1 σ := rfl
noncomputable def qJ5_append_c97b9_0 (E : xEn) (d : Nat) (bc bs : Nat) (x0 : Nat) (x1 : Int32) (σ : xH) : Option xR := xval E (xsem xT E d) 1 250 bJ5_append_c97b9 (0, [(0, .ref x0), (1, .int x1)], [], σ, bc, bs)
noncomputable def qJ5_append_c97b9_48 (E : xEn) (d : Nat) (bc bs : Nat) (x0 : Nat) (x3 : Int32) (σ : xH) : Option xR := xval E (xsem xT E d) 1 250 bJ5_append_c97b9 (48, [(0, .ref x0), (3, .int x3)], [], σ, bc, bs)
set_option maxRecDepth 100000 in
theorem QJ5_append_c97b9_0 (E : xEn) (d : Nat) (bc bs : Nat) (x0 : Nat) (x1 : Int32) (σ : xH) : qJ5_append_c97b9_0 E d bc bs x0 x1 σ = gI σ 12 3 x0 (fun v1 => bif Nat.ble bc 1 && Nat.ble bs 250 then cI (xthr 0 some) (xsem xT E d kJ6_stringSize_0f7a4 [.int x1] σ) (fun v2 σ1 => bif Nat.ble (bc + 1) 1 && Nat.ble (bs + 250) 250 then gO E σ1 12 x0 (cV (xthr 6 some) (xsem xT E d kJ5_ensureCapacityInternal_d00df [.ref x0, .int (v1 + v2)] σ1) (fun σ2 => bif Nat.ble (bc + 1) 1 && Nat.ble (bs + 250) 250 then gO E σ2 12 x0 (cI (xthr 6 some) (xsem xT E d kJ5_isLatin1_aae02 [.ref x0] σ2) (fun v3 σ3 => if v3 = (nI 0) then none else gR σ3 12 0 x0 (fun v4 => bif Nat.ble (bc + 1) 1 && Nat.ble (bs + 250) 250 then cI (xthr 0 some) (xsem xT E d kJ6_getChars_ba4f3 [.int x1, .int (v1 + v2), .ref v4] σ3) (fun v5 σ4 => qJ5_append_c97b9_48 E d (bc + 1) (bs + 250) x0 (v1 + v2) σ4) else none))) else none)) else none) else none) := xval_blkQ E (xsem xT E d) 1 250 bJ5_append_c97b9 (pc := 0) rfl [(0, .ref x0), (1, .int x1)] [] σ bc bs
set_option maxRecDepth 100000 in
theorem QJ5_append_c97b9_48 (E : xEn) (d : Nat) (bc bs : Nat) (x0 : Nat) (x3 : Int32) (σ : xH) : qJ5_append_c97b9_48 E d bc bs x0 x3 σ = gP σ 12 3 x0 (.int x3) (fun σ1 => some (.inl (some (.ref x0)), σ1)) := xval_blkQ E (xsem xT E d) 1 250 bJ5_append_c97b9 (pc := 48) rfl [(0, .ref x0), (3, .int x3)] [] σ bc bs
theorem eJ5_append_c97b9 (E : xEn) (d : Nat) (x0 : Nat) (x1 : Int32) (σ : xH) : xsem xT E (d + 1) kJ5_append_c97b9 [.ref x0, .int x1] σ = qJ5_append_c97b9_0 E d 0 0 x0 x1 σ := rfl
noncomputable def qJ5_ensureCapacityInternal_d00df_0 (E : xEn) (d : Nat) (bc bs : Nat) (x0 : Nat) (x1 : Int32) (σ : xH) : Option xR := xval E (xsem xT E d) 1 250 bJ5_ensureCapacityInternal_d00df (0, [(0, .ref x0), (1, .int x1)], [], σ, bc, bs)
noncomputable def qJ5_ensureCapacityInternal_d00df_38 (E : xEn) (d : Nat) (bc bs : Nat) (σ : xH) : Option xR := xval E (xsem xT E d) 1 250 bJ5_ensureCapacityInternal_d00df (38, [], [], σ, bc, bs)
set_option maxRecDepth 100000 in
theorem QJ5_ensureCapacityInternal_d00df_0 (E : xEn) (d : Nat) (bc bs : Nat) (x0 : Nat) (x1 : Int32) (σ : xH) : qJ5_ensureCapacityInternal_d00df_0 E d bc bs x0 x1 σ = gR σ 12 0 x0 (fun v1 => aN E σ v1 (fun v2 => gI σ 12 1 x0 (fun v3 => if (x1 - (v2 >>> (v3 &&& 31))) ≤ (nI 0) then qJ5_ensureCapacityInternal_d00df_38 E d bc bs σ else gR σ 12 0 x0 (fun v4 => bif Nat.ble bc 1 && Nat.ble bs 250 then gO E σ 12 x0 (cI (xthr 6 some) (xsem xT E d kJ5_newCapacity_0f7a4 [.ref x0, .int x1] σ) (fun v5 σ1 => gI σ1 12 1 x0 (fun v6 => bif Nat.ble (bc + 1) 1 && Nat.ble (bs + 250) 250 then cA (xthr 0 some) (xsem xT E d kJ7_copyOf_9075b [.ref v4, .int (v5 <<< (v6 &&& 31))] σ1) (fun v7 σ2 => gP σ2 12 0 x0 (.ref v7) (fun σ3 => qJ5_ensureCapacityInternal_d00df_38 E d (bc + 1) (bs + 250) σ3)) else none))) else none)))) := xval_blkQ E (xsem xT E d) 1 250 bJ5_ensureCapacityInternal_d00df (pc := 0) rfl [(0, .ref x0), (1, .int x1)] [] σ bc bs
set_option maxRecDepth 100000 in
theorem QJ5_ensureCapacityInternal_d00df_38 (E : xEn) (d : Nat) (bc bs : Nat) (σ : xH) : qJ5_ensureCapacityInternal_d00df_38 E d bc bs σ = some (.inl none, σ) := xval_blkQ E (xsem xT E d) 1 250 bJ5_ensureCapacityInternal_d00df (pc := 38) rfl [] [] σ bc bs
theorem eJ5_ensureCapacityInternal_d00df (E : xEn) (d : Nat) (x0 : Nat) (x1 : Int32) (σ : xH) : xsem xT E (d + 1) kJ5_ensureCapacityInternal_d00df [.ref x0, .int x1] σ = qJ5_ensureCapacityInternal_d00df_0 E d 0 0 x0 x1 σ := rfl
noncomputable def qJ5_newCapacity_0f7a4_0 (E : xEn) (d : Nat) (x0 : Nat) (x1 : Int32) (σ : xH) : Option xR := xval E (xsem xT E d) 0 0 bJ5_newCapacity_0f7a4 (0, [(0, .ref x0), (1, .int x1)], [], σ, 0, 0)
noncomputable def qJ5_newCapacity_0f7a4_51 (E : xEn) (d : Nat) (x0 : Nat) (x5 : Int32) (σ : xH) : Option xR := xval E (xsem xT E d) 0 0 bJ5_newCapacity_0f7a4 (51, [(0, .ref x0), (5, .int x5)], [], σ, 0, 0)
set_option maxRecDepth 100000 in
theorem QJ5_newCapacity_0f7a4_0 (E : xEn) (d : Nat) (x0 : Nat) (x1 : Int32) (σ : xH) : qJ5_newCapacity_0f7a4_0 E d x0 x1 σ = gR σ 12 0 x0 (fun v1 => aN E σ v1 (fun v2 => gI σ 12 1 x0 (fun v3 => gI σ 12 1 x0 (fun v4 => cI (xthr 0 some) (xsem xT E d kJ8_newLength_cabcc [.int v2, .int ((x1 <<< (v3 &&& 31)) - v2), .int (v2 + ((nI 2) <<< (v4 &&& 31)))] σ) (fun v5 σ1 => if v5 = (nI 2147483647) then none else qJ5_newCapacity_0f7a4_51 E d x0 v5 σ1))))) := xval_blkQ E (xsem xT E d) 0 0 bJ5_newCapacity_0f7a4 (pc := 0) rfl [(0, .ref x0), (1, .int x1)] [] σ 0 0
set_option maxRecDepth 100000 in
theorem QJ5_newCapacity_0f7a4_51 (E : xEn) (d : Nat) (x0 : Nat) (x5 : Int32) (σ : xH) : qJ5_newCapacity_0f7a4_51 E d x0 x5 σ = gI σ 12 1 x0 (fun v1 => some (.inl (some (.int (x5 >>> (v1 &&& 31)))), σ)) := xval_blkQ E (xsem xT E d) 0 0 bJ5_newCapacity_0f7a4 (pc := 51) rfl [(0, .ref x0), (5, .int x5)] [] σ 0 0
theorem eJ5_newCapacity_0f7a4 (E : xEn) (d : Nat) (x0 : Nat) (x1 : Int32) (σ : xH) : xsem xT E (d + 1) kJ5_newCapacity_0f7a4 [.ref x0, .int x1] σ = qJ5_newCapacity_0f7a4_0 E d x0 x1 σ := rfl
noncomputable def qJ5_isLatin1_aae02_0 (E : xEn) (d : Nat) (x0 : Nat) (σ : xH) : Option xR := xval E (xsem xT E d) 0 0 bJ5_isLatin1_aae02 (0, [(0, .ref x0)], [], σ, 0, 0)
noncomputable def qJ5_isLatin1_aae02_18 (E : xEn) (d : Nat) (s0 : Int32) (σ : xH) : Option xR := xval E (xsem xT E d) 0 0 bJ5_isLatin1_aae02 (18, [], [.int s0], σ, 0, 0)
set_option maxRecDepth 100000 in
theorem QJ5_isLatin1_aae02_0 (E : xEn) (d : Nat) (x0 : Nat) (σ : xH) : qJ5_isLatin1_aae02_0 E d x0 σ = if (nI 1) = (nI 0) then none else gI σ 12 1 x0 (fun v1 => if v1 = (nI 0) then qJ5_isLatin1_aae02_18 E d (nI 1) σ else none) := xval_blkQ E (xsem xT E d) 0 0 bJ5_isLatin1_aae02 (pc := 0) rfl [(0, .ref x0)] [] σ 0 0
set_option maxRecDepth 100000 in
theorem QJ5_isLatin1_aae02_18 (E : xEn) (d : Nat) (s0 : Int32) (σ : xH) : qJ5_isLatin1_aae02_18 E d s0 σ = xiret [5] s0 (some (.inl (some (.int s0)), σ)) := xval_blkQ E (xsem xT E d) 0 0 bJ5_isLatin1_aae02 (pc := 18) rfl [] [.int s0] σ 0 0
theorem eJ5_isLatin1_aae02 (E : xEn) (d : Nat) (x0 : Nat) (σ : xH) : xsem xT E (d + 1) kJ5_isLatin1_aae02 [.ref x0] σ = qJ5_isLatin1_aae02_0 E d x0 σ := rfl
noncomputable def qJ5_inflateIfNeededFor_a7421_0 (E : xEn) (d : Nat) (x0 : Nat) (x1 : Nat) (σ : xH) : Option xR := xval E (xsem xT E d) 0 0 bJ5_inflateIfNeededFor_a7421 (0, [(0, .ref x0), (1, .ref x1)], [], σ, 0, 0)
noncomputable def qJ5_inflateIfNeededFor_a7421_21 (E : xEn) (d : Nat) (σ : xH) : Option xR := xval E (xsem xT E d) 0 0 bJ5_inflateIfNeededFor_a7421 (21, [], [], σ, 0, 0)
set_option maxRecDepth 100000 in
theorem QJ5_inflateIfNeededFor_a7421_0 (E : xEn) (d : Nat) (x0 : Nat) (x1 : Nat) (σ : xH) : qJ5_inflateIfNeededFor_a7421_0 E d x0 x1 σ = if (nI 1) = (nI 0) then qJ5_inflateIfNeededFor_a7421_21 E d σ else gI σ 12 1 x0 (fun v1 => gO E σ 99 x1 (cI (xthr 1 some) (xsem xT E d kJ0_coder_7d493 [.ref x1] σ) (fun v2 σ1 => if v1 = v2 then qJ5_inflateIfNeededFor_a7421_21 E d σ1 else none))) := xval_blkQ E (xsem xT E d) 0 0 bJ5_inflateIfNeededFor_a7421 (pc := 0) rfl [(0, .ref x0), (1, .ref x1)] [] σ 0 0
set_option maxRecDepth 100000 in
theorem QJ5_inflateIfNeededFor_a7421_21 (E : xEn) (d : Nat) (σ : xH) : qJ5_inflateIfNeededFor_a7421_21 E d σ = some (.inl none, σ) := xval_blkQ E (xsem xT E d) 0 0 bJ5_inflateIfNeededFor_a7421 (pc := 21) rfl [] [] σ 0 0
theorem eJ5_inflateIfNeededFor_a7421 (E : xEn) (d : Nat) (x0 : Nat) (x1 : Nat) (σ : xH) : xsem xT E (d + 1) kJ5_inflateIfNeededFor_a7421 [.ref x0, .ref x1] σ = qJ5_inflateIfNeededFor_a7421_0 E d x0 x1 σ := rfl
noncomputable def qJ5_putStringAt_47b60_0 (E : xEn) (d : Nat) (x0 : Nat) (x1 : Int32) (x2 : Nat) (σ : xH) : Option xR := xval E (xsem xT E d) 0 0 bJ5_putStringAt_47b60 (0, [(0, .ref x0), (1, .int x1), (2, .ref x2)], [], σ, 0, 0)
set_option maxRecDepth 100000 in
theorem QJ5_putStringAt_47b60_0 (E : xEn) (d : Nat) (x0 : Nat) (x1 : Int32) (x2 : Nat) (σ : xH) : qJ5_putStringAt_47b60_0 E d x0 x1 x2 σ = gO E σ 12 x0 (cV (xthr 6 some) (xsem xT E d kJ5_inflateIfNeededFor_a7421 [.ref x0, .ref x2] σ) (fun σ1 => gR σ1 12 0 x0 (fun v1 => gI σ1 12 1 x0 (fun v2 => gO E σ1 99 x2 (cV (xthr 1 some) (xsem xT E d kJ0_getBytes_840e7 [.ref x2, .ref v1, .int x1, .int v2] σ1) (fun σ2 => some (.inl none, σ2))))))) := xval_blkQ E (xsem xT E d) 0 0 bJ5_putStringAt_47b60 (pc := 0) rfl [(0, .ref x0), (1, .int x1), (2, .ref x2)] [] σ 0 0
theorem eJ5_putStringAt_47b60 (E : xEn) (d : Nat) (x0 : Nat) (x1 : Int32) (x2 : Nat) (σ : xH) : xsem xT E (d + 1) kJ5_putStringAt_47b60 [.ref x0, .int x1, .ref x2] σ = qJ5_putStringAt_47b60_0 E d x0 x1 x2 σ := rfl
noncomputable def qJ5_getValue_6d5f1_0 (E : xEn) (d : Nat) (x0 : Nat) (σ : xH) : Option xR := xval E (xsem xT E d) 0 0 bJ5_getValue_6d5f1 (0, [(0, .ref x0)], [], σ, 0, 0)
set_option maxRecDepth 100000 in
theorem QJ5_getValue_6d5f1_0 (E : xEn) (d : Nat) (x0 : Nat) (σ : xH) : qJ5_getValue_6d5f1_0 E d x0 σ = gR σ 12 0 x0 (fun v1 => some (.inl (some (.ref v1)), σ)) := xval_blkQ E (xsem xT E d) 0 0 bJ5_getValue_6d5f1 (pc := 0) rfl [(0, .ref x0)] [] σ 0 0
theorem eJ5_getValue_6d5f1 (E : xEn) (d : Nat) (x0 : Nat) (σ : xH) : xsem xT E (d + 1) kJ5_getValue_6d5f1 [.ref x0] σ = qJ5_getValue_6d5f1_0 E d x0 σ := rfl
noncomputable def qJ5_length_8abf5_0 (E : xEn) (d : Nat) (x0 : Nat) (σ : xH) : Option xR := xval E (xsem xT E d) 0 0 bJ5_length_8abf5 (0, [(0, .ref x0)], [], σ, 0, 0)
set_option maxRecDepth 100000 in
theorem QJ5_length_8abf5_0 (E : xEn) (d : Nat) (x0 : Nat) (σ : xH) : qJ5_length_8abf5_0 E d x0 σ = gI σ 12 3 x0 (fun v1 => some (.inl (some (.int v1)), σ)) := xval_blkQ E (xsem xT E d) 0 0 bJ5_length_8abf5 (pc := 0) rfl [(0, .ref x0)] [] σ 0 0
theorem eJ5_length_8abf5 (E : xEn) (d : Nat) (x0 : Nat) (σ : xH) : xsem xT E (d + 1) kJ5_length_8abf5 [.ref x0] σ = qJ5_length_8abf5_0 E d x0 σ := rfl
noncomputable def qJ8_newLength_cabcc_0 (E : xEn) (d : Nat) (x0 : Int32) (x1 : Int32) (x2 : Int32) (σ : xH) : Option xR := xval E (xsem xT E d) 0 0 bJ8_newLength_cabcc (0, [(0, .int x0), (1, .int x1), (2, .int x2)], [], σ, 0, 0)
set_option maxRecDepth 100000 in
theorem QJ8_newLength_cabcc_0 (E : xEn) (d : Nat) (x0 : Int32) (x1 : Int32) (x2 : Int32) (σ : xH) : qJ8_newLength_cabcc_0 E d x0 x1 x2 σ = if (x0 + (mxI x1 x2)) ≤ (nI 0) then none else if (nI 2147483639) < (x0 + (mxI x1 x2)) then none else some (.inl (some (.int (x0 + (mxI x1 x2)))), σ) := xval_blkQ E (xsem xT E d) 0 0 bJ8_newLength_cabcc (pc := 0) rfl [(0, .int x0), (1, .int x1), (2, .int x2)] [] σ 0 0
theorem eJ8_newLength_cabcc (E : xEn) (d : Nat) (x0 : Int32) (x1 : Int32) (x2 : Int32) (σ : xH) : xsem xT E (d + 1) kJ8_newLength_cabcc [.int x0, .int x1, .int x2] σ = qJ8_newLength_cabcc_0 E d x0 x1 x2 σ := rfl
noncomputable def qJ7_copyOf_9075b_0 (E : xEn) (d : Nat) (bc bs : Nat) (x0 : Nat) (x1 : Int32) (σ : xH) : Option xR := xval E (xsem xT E d) 1 250 bJ7_copyOf_9075b (0, [(0, .ref x0), (1, .int x1)], [], σ, bc, bs)
noncomputable def qJ7_copyOf_9075b_14 (E : xEn) (d : Nat) (bc bs : Nat) (x0 : Nat) (x1 : Int32) (σ : xH) : Option xR := xval E (xsem xT E d) 1 250 bJ7_copyOf_9075b (14, [(0, .ref x0), (1, .int x1)], [], σ, bc, bs)
set_option maxRecDepth 100000 in
theorem QJ7_copyOf_9075b_0 (E : xEn) (d : Nat) (bc bs : Nat) (x0 : Nat) (x1 : Int32) (σ : xH) : qJ7_copyOf_9075b_0 E d bc bs x0 x1 σ = aN E σ x0 (fun v1 => if x1 = v1 then none else qJ7_copyOf_9075b_14 E d bc bs x0 x1 σ) := xval_blkQ E (xsem xT E d) 1 250 bJ7_copyOf_9075b (pc := 0) rfl [(0, .ref x0), (1, .int x1)] [] σ bc bs
set_option maxRecDepth 100000 in
theorem QJ7_copyOf_9075b_14 (E : xEn) (d : Nat) (bc bs : Nat) (x0 : Nat) (x1 : Int32) (σ : xH) : qJ7_copyOf_9075b_14 E d bc bs x0 x1 σ = bif decide (¬ x1 < 0) && (Nat.ble (bc + 1) 1 && (Nat.ble (bs + x1.toNatClampNeg) 250 && Nat.ble x1.toNatClampNeg 100000)) then nwA σ 1 x1.toNatClampNeg (fun v1 σ1 => aN E σ1 x0 (fun v2 => cpI E σ1 x0 (nI 0) v1 (nI 0) (mnI v2 x1) (fun σ2 => some (.inl (some (.ref v1)), σ2)))) else none := xval_blkQ E (xsem xT E d) 1 250 bJ7_copyOf_9075b (pc := 14) rfl [(0, .ref x0), (1, .int x1)] [] σ bc bs
theorem eJ7_copyOf_9075b (E : xEn) (d : Nat) (x0 : Nat) (x1 : Int32) (σ : xH) : xsem xT E (d + 1) kJ7_copyOf_9075b [.ref x0, .int x1] σ = qJ7_copyOf_9075b_0 E d 0 0 x0 x1 σ := rfl
noncomputable def qJ7_copyOfRange_39247_0 (E : xEn) (d : Nat) (bc bs : Nat) (x0 : Nat) (x1 : Int32) (x2 : Int32) (σ : xH) : Option xR := xval E (xsem xT E d) 1 120 bJ7_copyOfRange_39247 (0, [(0, .ref x0), (1, .int x1), (2, .int x2)], [], σ, bc, bs)
noncomputable def qJ7_copyOfRange_39247_10 (E : xEn) (d : Nat) (bc bs : Nat) (x0 : Nat) (x1 : Int32) (x2 : Int32) (σ : xH) : Option xR := xval E (xsem xT E d) 1 120 bJ7_copyOfRange_39247 (10, [(0, .ref x0), (1, .int x1), (2, .int x2)], [], σ, bc, bs)
set_option maxRecDepth 100000 in
theorem QJ7_copyOfRange_39247_0 (E : xEn) (d : Nat) (bc bs : Nat) (x0 : Nat) (x1 : Int32) (x2 : Int32) (σ : xH) : qJ7_copyOfRange_39247_0 E d bc bs x0 x1 x2 σ = if x1 = (nI 0) then aN E σ x0 (fun v1 => if x2 = v1 then none else qJ7_copyOfRange_39247_10 E d bc bs x0 x1 x2 σ) else qJ7_copyOfRange_39247_10 E d bc bs x0 x1 x2 σ := xval_blkQ E (xsem xT E d) 1 120 bJ7_copyOfRange_39247 (pc := 0) rfl [(0, .ref x0), (1, .int x1), (2, .int x2)] [] σ bc bs
set_option maxRecDepth 100000 in
theorem QJ7_copyOfRange_39247_10 (E : xEn) (d : Nat) (bc bs : Nat) (x0 : Nat) (x1 : Int32) (x2 : Int32) (σ : xH) : qJ7_copyOfRange_39247_10 E d bc bs x0 x1 x2 σ = bif Nat.ble (bc + 1) 1 && Nat.ble (bs + 120) 120 then cA (xthr 0 some) (xsem xT E d kJ7_copyOfRangeByte_39247 [.ref x0, .int x1, .int x2] σ) (fun v1 σ1 => some (.inl (some (.ref v1)), σ1)) else none := xval_blkQ E (xsem xT E d) 1 120 bJ7_copyOfRange_39247 (pc := 10) rfl [(0, .ref x0), (1, .int x1), (2, .int x2)] [] σ bc bs
theorem eJ7_copyOfRange_39247 (E : xEn) (d : Nat) (x0 : Nat) (x1 : Int32) (x2 : Int32) (σ : xH) : xsem xT E (d + 1) kJ7_copyOfRange_39247 [.ref x0, .int x1, .int x2] σ = qJ7_copyOfRange_39247_0 E d 0 0 x0 x1 x2 σ := rfl
noncomputable def qJ7_copyOfRangeByte_39247_0 (E : xEn) (d : Nat) (bc bs : Nat) (x0 : Nat) (x1 : Int32) (x2 : Int32) (σ : xH) : Option xR := xval E (xsem xT E d) 1 120 bJ7_copyOfRangeByte_39247 (0, [(0, .ref x0), (1, .int x1), (2, .int x2)], [], σ, bc, bs)
set_option maxRecDepth 100000 in
theorem QJ7_copyOfRangeByte_39247_0 (E : xEn) (d : Nat) (bc bs : Nat) (x0 : Nat) (x1 : Int32) (x2 : Int32) (σ : xH) : qJ7_copyOfRangeByte_39247_0 E d bc bs x0 x1 x2 σ = bif Nat.ble bc 1 && Nat.ble bs 120 then cV (xthr 0 some) (xsem xT E d kJ7_checkLength_df160 [.int x1, .int x2] σ) (fun σ1 => bif decide (¬ (x2 - x1) < 0) && (Nat.ble (bc + 1) 1 && (Nat.ble (bs + (x2 - x1).toNatClampNeg) 120 && Nat.ble (x2 - x1).toNatClampNeg 100000)) then nwA σ1 1 (x2 - x1).toNatClampNeg (fun v1 σ2 => aN E σ2 x0 (fun v2 => cpI E σ2 x0 x1 v1 (nI 0) (mnI (v2 - x1) (x2 - x1)) (fun σ3 => some (.inl (some (.ref v1)), σ3)))) else none) else none := xval_blkQ E (xsem xT E d) 1 120 bJ7_copyOfRangeByte_39247 (pc := 0) rfl [(0, .ref x0), (1, .int x1), (2, .int x2)] [] σ bc bs
theorem eJ7_copyOfRangeByte_39247 (E : xEn) (d : Nat) (x0 : Nat) (x1 : Int32) (x2 : Int32) (σ : xH) : xsem xT E (d + 1) kJ7_copyOfRangeByte_39247 [.ref x0, .int x1, .int x2] σ = qJ7_copyOfRangeByte_39247_0 E d 0 0 x0 x1 x2 σ := rfl
noncomputable def qJ7_checkLength_df160_0 (E : xEn) (d : Nat) (x0 : Int32) (x1 : Int32) (σ : xH) : Option xR := xval E (xsem xT E d) 0 0 bJ7_checkLength_df160 (0, [(0, .int x0), (1, .int x1)], [], σ, 0, 0)
noncomputable def qJ7_checkLength_df160_37 (E : xEn) (d : Nat) (σ : xH) : Option xR := xval E (xsem xT E d) 0 0 bJ7_checkLength_df160 (37, [], [], σ, 0, 0)
set_option maxRecDepth 100000 in
theorem QJ7_checkLength_df160_0 (E : xEn) (d : Nat) (x0 : Int32) (x1 : Int32) (σ : xH) : qJ7_checkLength_df160_0 E d x0 x1 σ = if x0 ≤ x1 then qJ7_checkLength_df160_37 E d σ else none := xval_blkQ E (xsem xT E d) 0 0 bJ7_checkLength_df160 (pc := 0) rfl [(0, .int x0), (1, .int x1)] [] σ 0 0
set_option maxRecDepth 100000 in
theorem QJ7_checkLength_df160_37 (E : xEn) (d : Nat) (σ : xH) : qJ7_checkLength_df160_37 E d σ = some (.inl none, σ) := xval_blkQ E (xsem xT E d) 0 0 bJ7_checkLength_df160 (pc := 37) rfl [] [] σ 0 0
theorem eJ7_checkLength_df160 (E : xEn) (d : Nat) (x0 : Int32) (x1 : Int32) (σ : xH) : xsem xT E (d + 1) kJ7_checkLength_df160 [.int x0, .int x1] σ = qJ7_checkLength_df160_0 E d x0 x1 σ := rfl
noncomputable def qJ0_init_81219_0 (E : xEn) (d : Nat) (bc bs : Nat) (x0 : Nat) (x1 : Nat) (σ : xH) : Option xR := xval E (xsem xT E d) 1 120 bJ0_init_81219 (0, [(0, .ref x0), (1, .ref x1)], [], σ, bc, bs)
set_option maxRecDepth 100000 in
theorem QJ0_init_81219_0 (E : xEn) (d : Nat) (bc bs : Nat) (x0 : Nat) (x1 : Nat) (σ : xH) : qJ0_init_81219_0 E d bc bs x0 x1 σ = bif Nat.ble (bc + 1) 1 && Nat.ble (bs + 120) 120 then gO E σ 11 x0 (cV (xthr 2 some) (xsem xT E d kJ0_init_db425 [.ref x0, .ref x1, Value.null] σ) (fun σ1 => some (.inl none, σ1))) else none := xval_blkQ E (xsem xT E d) 1 120 bJ0_init_81219 (pc := 0) rfl [(0, .ref x0), (1, .ref x1)] [] σ bc bs
theorem eJ0_init_81219 (E : xEn) (d : Nat) (x0 : Nat) (x1 : Nat) (σ : xH) : xsem xT E (d + 1) kJ0_init_81219 [.ref x0, .ref x1] σ = qJ0_init_81219_0 E d 0 0 x0 x1 σ := rfl
noncomputable def qJ0_init_db425_0 (E : xEn) (d : Nat) (bc bs : Nat) (x0 : Nat) (x1 : Nat) (x2 : Value) (σ : xH) : Option xR := xval E (xsem xT E d) 1 120 bJ0_init_db425 (0, [(0, .ref x0), (1, .ref x1), (2, x2)], [], σ, bc, bs)
noncomputable def qJ0_init_db425_97 (E : xEn) (d : Nat) (bc bs : Nat) (σ : xH) : Option xR := xval E (xsem xT E d) 1 120 bJ0_init_db425 (97, [], [], σ, bc, bs)
set_option maxRecDepth 100000 in
theorem QJ0_init_db425_0 (E : xEn) (d : Nat) (bc bs : Nat) (x0 : Nat) (x1 : Nat) (x2 : Value) (σ : xH) : qJ0_init_db425_0 E d bc bs x0 x1 x2 σ = bif Nat.ble bc 1 && Nat.ble bs 120 then gO E σ 12 x1 (cA (xthr 6 some) (xsem xT E d kJ5_getValue_6d5f1 [.ref x1] σ) (fun v1 σ1 => bif Nat.ble bc 1 && Nat.ble bs 120 then gO E σ1 12 x1 (cI (xthr 9 some) (xsem xT E d kJ4_length_8abf5 [.ref x1] σ1) (fun v2 σ2 => bif Nat.ble bc 1 && Nat.ble bs 120 then gO E σ2 12 x1 (cI (xthr 6 some) (xsem xT E d kJ5_isLatin1_aae02 [.ref x1] σ2) (fun v3 σ3 => if v3 = (nI 0) then none else if narrow .byte (.int (nI 0)) = Value.int (nI 0) then gP σ3 11 1 x0 (.int (nI 0)) (fun σ4 => bif Nat.ble (bc + 1) 1 && Nat.ble (bs + 120) 120 then cA (xthr 0 some) (xsem xT E d kJ7_copyOfRange_39247 [.ref v1, .int (nI 0), .int v2] σ4) (fun v4 σ5 => gP σ5 11 0 x0 (.ref v4) (fun σ6 => qJ0_init_db425_97 E d (bc + 1) (bs + 120) σ6)) else none) else none)) else none)) else none)) else none := xval_blkQ E (xsem xT E d) 1 120 bJ0_init_db425 (pc := 0) rfl [(0, .ref x0), (1, .ref x1), (2, x2)] [] σ bc bs
set_option maxRecDepth 100000 in
theorem QJ0_init_db425_97 (E : xEn) (d : Nat) (bc bs : Nat) (σ : xH) : qJ0_init_db425_97 E d bc bs σ = some (.inl none, σ) := xval_blkQ E (xsem xT E d) 1 120 bJ0_init_db425 (pc := 97) rfl [] [] σ bc bs
theorem eJ0_init_db425 (E : xEn) (d : Nat) (x0 : Nat) (x1 : Nat) (x2 : Value) (hv : x2.category = 1) (σ : xH) : xsem xT E (d + 1) kJ0_init_db425 [.ref x0, .ref x1, x2] σ = qJ0_init_db425_0 E d 0 0 x0 x1 x2 σ := by
  show (bif Nat.ble (1 + (1 + (x2.category + 0))) 5 then _ else _) = _
  rw [hv]
  rfl
noncomputable def qJ0_getBytes_840e7_0 (E : xEn) (d : Nat) (x0 : Nat) (x1 : Nat) (x2 : Int32) (x3 : Int32) (σ : xH) : Option xR := xval E (xsem xT E d) 0 0 bJ0_getBytes_840e7 (0, [(0, .ref x0), (1, .ref x1), (2, .int x2), (3, .int x3)], [], σ, 0, 0)
noncomputable def qJ0_getBytes_840e7_43 (E : xEn) (d : Nat) (σ : xH) : Option xR := xval E (xsem xT E d) 0 0 bJ0_getBytes_840e7 (43, [], [], σ, 0, 0)
set_option maxRecDepth 100000 in
theorem QJ0_getBytes_840e7_0 (E : xEn) (d : Nat) (x0 : Nat) (x1 : Nat) (x2 : Int32) (x3 : Int32) (σ : xH) : qJ0_getBytes_840e7_0 E d x0 x1 x2 x3 σ = gO E σ 99 x0 (cI (xthr 1 some) (xsem xT E d kJ0_coder_7d493 [.ref x0] σ) (fun v1 σ1 => if v1 = x3 then gU E σ1 x0 (fun v2 => gU E σ1 x0 (fun v3 => aN E σ1 v3 (fun v4 => cpI E σ1 v2 (nI 0) x1 (x2 <<< (x3 &&& 31)) v4 (fun σ2 => qJ0_getBytes_840e7_43 E d σ2)))) else none)) := xval_blkQ E (xsem xT E d) 0 0 bJ0_getBytes_840e7 (pc := 0) rfl [(0, .ref x0), (1, .ref x1), (2, .int x2), (3, .int x3)] [] σ 0 0
set_option maxRecDepth 100000 in
theorem QJ0_getBytes_840e7_43 (E : xEn) (d : Nat) (σ : xH) : qJ0_getBytes_840e7_43 E d σ = some (.inl none, σ) := xval_blkQ E (xsem xT E d) 0 0 bJ0_getBytes_840e7 (pc := 43) rfl [] [] σ 0 0
theorem eJ0_getBytes_840e7 (E : xEn) (d : Nat) (x0 : Nat) (x1 : Nat) (x2 : Int32) (x3 : Int32) (σ : xH) : xsem xT E (d + 1) kJ0_getBytes_840e7 [.ref x0, .ref x1, .int x2, .int x3] σ = qJ0_getBytes_840e7_0 E d x0 x1 x2 x3 σ := rfl
noncomputable def qJ4_init_da8c8_0 (E : xEn) (d : Nat) (bc bs : Nat) (x0 : Nat) (σ : xH) : Option xR := xval E (xsem xT E d) 1 16 bJ4_init_da8c8 (0, [(0, .ref x0)], [], σ, bc, bs)
set_option maxRecDepth 100000 in
theorem QJ4_init_da8c8_0 (E : xEn) (d : Nat) (bc bs : Nat) (x0 : Nat) (σ : xH) : qJ4_init_da8c8_0 E d bc bs x0 σ = bif Nat.ble (bc + 1) 1 && Nat.ble (bs + 16) 16 then gO E σ 12 x0 (cV (xthr 2 some) (xsem xT E d kJ5_init_d00df [.ref x0, .int (nI 16)] σ) (fun σ1 => some (.inl none, σ1))) else none := xval_blkQ E (xsem xT E d) 1 16 bJ4_init_da8c8 (pc := 0) rfl [(0, .ref x0)] [] σ bc bs
theorem eJ4_init_da8c8 (E : xEn) (d : Nat) (x0 : Nat) (σ : xH) : xsem xT E (d + 1) kJ4_init_da8c8 [.ref x0] σ = qJ4_init_da8c8_0 E d 0 0 x0 σ := rfl
noncomputable def qJ4_init_a7421_0 (E : xEn) (d : Nat) (bc bs : Nat) (x0 : Nat) (x1 : Nat) (σ : xH) : Option xR := xval E (xsem xT E d) 2 310 bJ4_init_a7421 (0, [(0, .ref x0), (1, .ref x1)], [], σ, bc, bs)
set_option maxRecDepth 100000 in
theorem QJ4_init_a7421_0 (E : xEn) (d : Nat) (bc bs : Nat) (x0 : Nat) (x1 : Nat) (σ : xH) : qJ4_init_a7421_0 E d bc bs x0 x1 σ = bif Nat.ble (bc + 2) 2 && Nat.ble (bs + 310) 310 then gO E σ 12 x0 (cV (xthr 2 some) (xsem xT E d kJ5_init_a7421 [.ref x0, .ref x1] σ) (fun σ1 => some (.inl none, σ1))) else none := xval_blkQ E (xsem xT E d) 2 310 bJ4_init_a7421 (pc := 0) rfl [(0, .ref x0), (1, .ref x1)] [] σ bc bs
theorem eJ4_init_a7421 (E : xEn) (d : Nat) (x0 : Nat) (x1 : Nat) (σ : xH) : xsem xT E (d + 1) kJ4_init_a7421 [.ref x0, .ref x1] σ = qJ4_init_a7421_0 E d 0 0 x0 x1 σ := rfl
noncomputable def qJ4_append_15ec4_0 (E : xEn) (d : Nat) (bc bs : Nat) (x0 : Nat) (x1 : Nat) (σ : xH) : Option xR := xval E (xsem xT E d) 1 250 bJ4_append_15ec4 (0, [(0, .ref x0), (1, .ref x1)], [], σ, bc, bs)
set_option maxRecDepth 100000 in
theorem QJ4_append_15ec4_0 (E : xEn) (d : Nat) (bc bs : Nat) (x0 : Nat) (x1 : Nat) (σ : xH) : qJ4_append_15ec4_0 E d bc bs x0 x1 σ = bif Nat.ble (bc + 1) 1 && Nat.ble (bs + 250) 250 then gO E σ 12 x0 (cA (xthr 7 some) (xsem xT E d kJ5_append_cf1ce [.ref x0, .ref x1] σ) (fun v1 σ1 => some (.inl (some (.ref x0)), σ1))) else none := xval_blkQ E (xsem xT E d) 1 250 bJ4_append_15ec4 (pc := 0) rfl [(0, .ref x0), (1, .ref x1)] [] σ bc bs
theorem eJ4_append_15ec4 (E : xEn) (d : Nat) (x0 : Nat) (x1 : Nat) (σ : xH) : xsem xT E (d + 1) kJ4_append_15ec4 [.ref x0, .ref x1] σ = qJ4_append_15ec4_0 E d 0 0 x0 x1 σ := rfl
noncomputable def qJ4_append_cf468_0 (E : xEn) (d : Nat) (bc bs : Nat) (x0 : Nat) (x1 : Int32) (σ : xH) : Option xR := xval E (xsem xT E d) 1 250 bJ4_append_cf468 (0, [(0, .ref x0), (1, .int x1)], [], σ, bc, bs)
set_option maxRecDepth 100000 in
theorem QJ4_append_cf468_0 (E : xEn) (d : Nat) (bc bs : Nat) (x0 : Nat) (x1 : Int32) (σ : xH) : qJ4_append_cf468_0 E d bc bs x0 x1 σ = bif Nat.ble (bc + 1) 1 && Nat.ble (bs + 250) 250 then gO E σ 12 x0 (cA (xthr 7 some) (xsem xT E d kJ5_append_3fe6f [.ref x0, .int x1] σ) (fun v1 σ1 => some (.inl (some (.ref x0)), σ1))) else none := xval_blkQ E (xsem xT E d) 1 250 bJ4_append_cf468 (pc := 0) rfl [(0, .ref x0), (1, .int x1)] [] σ bc bs
theorem eJ4_append_cf468 (E : xEn) (d : Nat) (x0 : Nat) (x1 : Int32) (σ : xH) : xsem xT E (d + 1) kJ4_append_cf468 [.ref x0, .int x1] σ = qJ4_append_cf468_0 E d 0 0 x0 x1 σ := rfl
noncomputable def qJ4_append_bf812_0 (E : xEn) (d : Nat) (bc bs : Nat) (x0 : Nat) (x1 : Int32) (σ : xH) : Option xR := xval E (xsem xT E d) 1 250 bJ4_append_bf812 (0, [(0, .ref x0), (1, .int x1)], [], σ, bc, bs)
set_option maxRecDepth 100000 in
theorem QJ4_append_bf812_0 (E : xEn) (d : Nat) (bc bs : Nat) (x0 : Nat) (x1 : Int32) (σ : xH) : qJ4_append_bf812_0 E d bc bs x0 x1 σ = bif Nat.ble (bc + 1) 1 && Nat.ble (bs + 250) 250 then gO E σ 12 x0 (cA (xthr 7 some) (xsem xT E d kJ5_append_c97b9 [.ref x0, .int x1] σ) (fun v1 σ1 => some (.inl (some (.ref x0)), σ1))) else none := xval_blkQ E (xsem xT E d) 1 250 bJ4_append_bf812 (pc := 0) rfl [(0, .ref x0), (1, .int x1)] [] σ bc bs
theorem eJ4_append_bf812 (E : xEn) (d : Nat) (x0 : Nat) (x1 : Int32) (σ : xH) : xsem xT E (d + 1) kJ4_append_bf812 [.ref x0, .int x1] σ = qJ4_append_bf812_0 E d 0 0 x0 x1 σ := rfl
noncomputable def qJ4_toString_0e30d_0 (E : xEn) (d : Nat) (bc bs : Nat) (x0 : Nat) (σ : xH) : Option xR := xval E (xsem xT E d) 2 124 bJ4_toString_0e30d (0, [(0, .ref x0)], [], σ, bc, bs)
set_option maxRecDepth 100000 in
theorem QJ4_toString_0e30d_0 (E : xEn) (d : Nat) (bc bs : Nat) (x0 : Nat) (σ : xH) : qJ4_toString_0e30d_0 E d bc bs x0 σ = bif Nat.ble (bc + 1) 2 && Nat.ble (bs + 4) 124 then nwO σ 11 4 (fun v1 σ1 => bif Nat.ble ((bc + 1) + 1) 2 && Nat.ble ((bs + 4) + 120) 124 then gO E σ1 11 v1 (cV (xthr 2 some) (xsem xT E d kJ0_init_81219 [.ref v1, .ref x0] σ1) (fun σ2 => some (.inl (some (.ref v1)), σ2))) else none) else none := xval_blkQ E (xsem xT E d) 2 124 bJ4_toString_0e30d (pc := 0) rfl [(0, .ref x0)] [] σ bc bs
theorem eJ4_toString_0e30d (E : xEn) (d : Nat) (x0 : Nat) (σ : xH) : xsem xT E (d + 1) kJ4_toString_0e30d [.ref x0] σ = qJ4_toString_0e30d_0 E d 0 0 x0 σ := rfl
noncomputable def qJ4_append_cf1ce_0 (E : xEn) (d : Nat) (bc bs : Nat) (x0 : Nat) (x1 : Nat) (σ : xH) : Option xR := xval E (xsem xT E d) 1 250 bJ4_append_cf1ce (0, [(0, .ref x0), (1, .ref x1)], [], σ, bc, bs)
set_option maxRecDepth 100000 in
theorem QJ4_append_cf1ce_0 (E : xEn) (d : Nat) (bc bs : Nat) (x0 : Nat) (x1 : Nat) (σ : xH) : qJ4_append_cf1ce_0 E d bc bs x0 x1 σ = bif Nat.ble (bc + 1) 1 && Nat.ble (bs + 250) 250 then gO E σ 12 x0 (cA (xthr 1 some) (xsem xT E d kJ4_append_15ec4 [.ref x0, .ref x1] σ) (fun v1 σ1 => some (.inl (some (.ref v1)), σ1))) else none := xval_blkQ E (xsem xT E d) 1 250 bJ4_append_cf1ce (pc := 0) rfl [(0, .ref x0), (1, .ref x1)] [] σ bc bs
theorem eJ4_append_cf1ce (E : xEn) (d : Nat) (x0 : Nat) (x1 : Nat) (σ : xH) : xsem xT E (d + 1) kJ4_append_cf1ce [.ref x0, .ref x1] σ = qJ4_append_cf1ce_0 E d 0 0 x0 x1 σ := rfl
noncomputable def qJ4_length_8abf5_0 (E : xEn) (d : Nat) (x0 : Nat) (σ : xH) : Option xR := xval E (xsem xT E d) 0 0 bJ4_length_8abf5 (0, [(0, .ref x0)], [], σ, 0, 0)
set_option maxRecDepth 100000 in
theorem QJ4_length_8abf5_0 (E : xEn) (d : Nat) (x0 : Nat) (σ : xH) : qJ4_length_8abf5_0 E d x0 σ = gO E σ 12 x0 (cI (xthr 7 some) (xsem xT E d kJ5_length_8abf5 [.ref x0] σ) (fun v1 σ1 => some (.inl (some (.int v1)), σ1))) := xval_blkQ E (xsem xT E d) 0 0 bJ4_length_8abf5 (pc := 0) rfl [(0, .ref x0)] [] σ 0 0
theorem eJ4_length_8abf5 (E : xEn) (d : Nat) (x0 : Nat) (σ : xH) : xsem xT E (d + 1) kJ4_length_8abf5 [.ref x0] σ = qJ4_length_8abf5_0 E d x0 σ := rfl
noncomputable def qJ1_canEncode_fc78d_0 (E : xEn) (d : Nat) (x0 : Int32) (σ : xH) : Option xR := xval E (xsem xT E d) 0 0 bJ1_canEncode_fc78d (0, [(0, .int x0)], [], σ, 0, 0)
noncomputable def qJ1_canEncode_fc78d_12 (E : xEn) (d : Nat) (s0 : Int32) (σ : xH) : Option xR := xval E (xsem xT E d) 0 0 bJ1_canEncode_fc78d (12, [], [.int s0], σ, 0, 0)
set_option maxRecDepth 100000 in
theorem QJ1_canEncode_fc78d_0 (E : xEn) (d : Nat) (x0 : Int32) (σ : xH) : qJ1_canEncode_fc78d_0 E d x0 σ = if (nI 255) < x0 then none else qJ1_canEncode_fc78d_12 E d (nI 1) σ := xval_blkQ E (xsem xT E d) 0 0 bJ1_canEncode_fc78d (pc := 0) rfl [(0, .int x0)] [] σ 0 0
set_option maxRecDepth 100000 in
theorem QJ1_canEncode_fc78d_12 (E : xEn) (d : Nat) (s0 : Int32) (σ : xH) : qJ1_canEncode_fc78d_12 E d s0 σ = xiret [5] s0 (some (.inl (some (.int s0)), σ)) := xval_blkQ E (xsem xT E d) 0 0 bJ1_canEncode_fc78d (pc := 12) rfl [] [.int s0] σ 0 0
theorem eJ1_canEncode_fc78d (E : xEn) (d : Nat) (x0 : Int32) (σ : xH) : xsem xT E (d + 1) kJ1_canEncode_fc78d [.int x0] σ = qJ1_canEncode_fc78d_0 E d x0 σ := rfl
noncomputable def qJ6_stringSize_0f7a4_0 (E : xEn) (d : Nat) (x0 : Int32) (σ : xH) : Option xR := xval E (xsem xT E d) 0 0 bJ6_stringSize_0f7a4 (0, [(0, .int x0)], [], σ, 0, 0)
noncomputable def qJ6_stringSize_0f7a4_11 (E : xEn) (d : Nat) (x0 : Int32) (x1 : Int32) (σ : xH) : Option xR := xval E (xsem xT E d) 0 0 bJ6_stringSize_0f7a4 (11, [(0, .int x0), (1, .int x1)], [], σ, 0, 0)
noncomputable def qJ6_stringSize_0f7a4_16 (E : xEn) (d : Nat) (x0 : Int32) (x1 : Int32) (x2 : Int32) (x3 : Int32) (σ : xH) : Option xR := xval E (xsem xT E d) 0 0 bJ6_stringSize_0f7a4 (16, [(0, .int x0), (1, .int x1), (2, .int x2), (3, .int x3)], [], σ, 0, 0)
noncomputable def qJ6_stringSize_0f7a4_31 (E : xEn) (d : Nat) (x0 : Int32) (x1 : Int32) (x2 : Int32) (x3 : Int32) (σ : xH) : Option xR := xval E (xsem xT E d) 0 0 bJ6_stringSize_0f7a4 (31, [(0, .int x0), (1, .int x1), (2, .int x2), (3, .int x3)], [], σ, 0, 0)
set_option maxRecDepth 100000 in
theorem QJ6_stringSize_0f7a4_0 (E : xEn) (d : Nat) (x0 : Int32) (σ : xH) : qJ6_stringSize_0f7a4_0 E d x0 σ = if x0 < (nI 0) then qJ6_stringSize_0f7a4_11 E d x0 (nI 1) σ else qJ6_stringSize_0f7a4_11 E d (-x0) (nI 0) σ := xval_blkQ E (xsem xT E d) 0 0 bJ6_stringSize_0f7a4 (pc := 0) rfl [(0, .int x0)] [] σ 0 0
set_option maxRecDepth 100000 in
theorem QJ6_stringSize_0f7a4_11 (E : xEn) (d : Nat) (x0 : Int32) (x1 : Int32) (σ : xH) : qJ6_stringSize_0f7a4_11 E d x0 x1 σ = qJ6_stringSize_0f7a4_16 E d x0 x1 (-10 : Int32) (nI 1) σ := xval_blkQ E (xsem xT E d) 0 0 bJ6_stringSize_0f7a4 (pc := 11) rfl [(0, .int x0), (1, .int x1)] [] σ 0 0
set_option maxRecDepth 100000 in
theorem QJ6_stringSize_0f7a4_16 (E : xEn) (d : Nat) (x0 : Int32) (x1 : Int32) (x2 : Int32) (x3 : Int32) (σ : xH) : qJ6_stringSize_0f7a4_16 E d x0 x1 x2 x3 σ = if (nI 10) ≤ x3 then none else if x0 ≤ x2 then qJ6_stringSize_0f7a4_31 E d x0 x1 x2 x3 σ else some (.inl (some (.int (x3 + x1))), σ) := xval_blkQ E (xsem xT E d) 0 0 bJ6_stringSize_0f7a4 (pc := 16) rfl [(0, .int x0), (1, .int x1), (2, .int x2), (3, .int x3)] [] σ 0 0
set_option maxRecDepth 100000 in
theorem QJ6_stringSize_0f7a4_31 (E : xEn) (d : Nat) (x0 : Int32) (x1 : Int32) (x2 : Int32) (x3 : Int32) (σ : xH) : qJ6_stringSize_0f7a4_31 E d x0 x1 x2 x3 σ = qJ6_stringSize_0f7a4_16 E d x0 x1 ((nI 10) * x2) (x3 + (nI 1)) σ := xval_blkQ E (xsem xT E d) 0 0 bJ6_stringSize_0f7a4 (pc := 31) rfl [(0, .int x0), (1, .int x1), (2, .int x2), (3, .int x3)] [] σ 0 0
theorem eJ6_stringSize_0f7a4 (E : xEn) (d : Nat) (x0 : Int32) (σ : xH) : xsem xT E (d + 1) kJ6_stringSize_0f7a4 [.int x0] σ = qJ6_stringSize_0f7a4_0 E d x0 σ := rfl
noncomputable def qJ6_getChars_ba4f3_0 (E : xEn) (d : Nat) (x0 : Int32) (x1 : Int32) (x2 : Nat) (σ : xH) : Option xR := xval E (xsem xT E d) 0 0 bJ6_getChars_ba4f3 (0, [(0, .int x0), (1, .int x1), (2, .ref x2)], [], σ, 0, 0)
noncomputable def qJ6_getChars_ba4f3_11 (E : xEn) (d : Nat) (x0 : Int32) (x2 : Nat) (x5 : Int32) (σ : xH) : Option xR := xval E (xsem xT E d) 0 0 bJ6_getChars_ba4f3 (11, [(0, .int x0), (2, .ref x2), (5, .int x5)], [], σ, 0, 0)
noncomputable def qJ6_getChars_ba4f3_12 (E : xEn) (d : Nat) (x0 : Int32) (x2 : Nat) (x5 : Int32) (s0 : Int32) (σ : xH) : Option xR := xval E (xsem xT E d) 0 0 bJ6_getChars_ba4f3 (12, [(0, .int x0), (2, .ref x2), (5, .int x5)], [.int s0], σ, 0, 0)
noncomputable def qJ6_getChars_ba4f3_22 (E : xEn) (d : Nat) (x0 : Int32) (x2 : Nat) (x5 : Int32) (x6 : Int32) (σ : xH) : Option xR := xval E (xsem xT E d) 0 0 bJ6_getChars_ba4f3 (22, [(0, .int x0), (2, .ref x2), (5, .int x5), (6, .int x6)], [], σ, 0, 0)
noncomputable def qJ6_getChars_ba4f3_72 (E : xEn) (d : Nat) (x0 : Int32) (x2 : Nat) (x5 : Int32) (x6 : Int32) (σ : xH) : Option xR := xval E (xsem xT E d) 0 0 bJ6_getChars_ba4f3 (72, [(0, .int x0), (2, .ref x2), (5, .int x5), (6, .int x6)], [], σ, 0, 0)
noncomputable def qJ6_getChars_ba4f3_104 (E : xEn) (d : Nat) (x5 : Int32) (x6 : Int32) (σ : xH) : Option xR := xval E (xsem xT E d) 0 0 bJ6_getChars_ba4f3 (104, [(5, .int x5), (6, .int x6)], [], σ, 0, 0)
noncomputable def qJ6_getChars_ba4f3_118 (E : xEn) (d : Nat) (x5 : Int32) (σ : xH) : Option xR := xval E (xsem xT E d) 0 0 bJ6_getChars_ba4f3 (118, [(5, .int x5)], [], σ, 0, 0)
set_option maxRecDepth 100000 in
theorem QJ6_getChars_ba4f3_0 (E : xEn) (d : Nat) (x0 : Int32) (x1 : Int32) (x2 : Nat) (σ : xH) : qJ6_getChars_ba4f3_0 E d x0 x1 x2 σ = if (nI 0) ≤ x0 then qJ6_getChars_ba4f3_11 E d x0 x2 x1 σ else qJ6_getChars_ba4f3_12 E d x0 x2 x1 (nI 1) σ := xval_blkQ E (xsem xT E d) 0 0 bJ6_getChars_ba4f3 (pc := 0) rfl [(0, .int x0), (1, .int x1), (2, .ref x2)] [] σ 0 0
set_option maxRecDepth 100000 in
theorem QJ6_getChars_ba4f3_11 (E : xEn) (d : Nat) (x0 : Int32) (x2 : Nat) (x5 : Int32) (σ : xH) : qJ6_getChars_ba4f3_11 E d x0 x2 x5 σ = qJ6_getChars_ba4f3_12 E d x0 x2 x5 (nI 0) σ := xval_blkQ E (xsem xT E d) 0 0 bJ6_getChars_ba4f3 (pc := 11) rfl [(0, .int x0), (2, .ref x2), (5, .int x5)] [] σ 0 0
set_option maxRecDepth 100000 in
theorem QJ6_getChars_ba4f3_12 (E : xEn) (d : Nat) (x0 : Int32) (x2 : Nat) (x5 : Int32) (s0 : Int32) (σ : xH) : qJ6_getChars_ba4f3_12 E d x0 x2 x5 s0 σ = if s0 = (nI 0) then qJ6_getChars_ba4f3_22 E d (-x0) x2 x5 s0 σ else qJ6_getChars_ba4f3_22 E d x0 x2 x5 s0 σ := xval_blkQ E (xsem xT E d) 0 0 bJ6_getChars_ba4f3 (pc := 12) rfl [(0, .int x0), (2, .ref x2), (5, .int x5)] [.int s0] σ 0 0
set_option maxRecDepth 100000 in
theorem QJ6_getChars_ba4f3_22 (E : xEn) (d : Nat) (x0 : Int32) (x2 : Nat) (x5 : Int32) (x6 : Int32) (σ : xH) : qJ6_getChars_ba4f3_22 E d x0 x2 x5 x6 σ = if (-100 : Int32) < x0 then qJ6_getChars_ba4f3_72 E d x0 x2 x5 x6 σ else none := xval_blkQ E (xsem xT E d) 0 0 bJ6_getChars_ba4f3 (pc := 22) rfl [(0, .int x0), (2, .ref x2), (5, .int x5), (6, .int x6)] [] σ 0 0
set_option maxRecDepth 100000 in
theorem QJ6_getChars_ba4f3_72 (E : xEn) (d : Nat) (x0 : Int32) (x2 : Nat) (x5 : Int32) (x6 : Int32) (σ : xH) : qJ6_getChars_ba4f3_72 E d x0 x2 x5 x6 σ = aB E σ (eD1 E) (-x0) (fun v1 => sB σ x2 (x5 + (-1 : Int32)) v1 (fun σ1 => if (-9 : Int32) ≤ x0 then qJ6_getChars_ba4f3_104 E d (x5 + (-1 : Int32)) x6 σ1 else aB E σ1 (eD2 E) (-x0) (fun v2 => sB σ1 x2 ((x5 + (-1 : Int32)) + (-1 : Int32)) v2 (fun σ2 => qJ6_getChars_ba4f3_104 E d ((x5 + (-1 : Int32)) + (-1 : Int32)) x6 σ2)))) := xval_blkQ E (xsem xT E d) 0 0 bJ6_getChars_ba4f3 (pc := 72) rfl [(0, .int x0), (2, .ref x2), (5, .int x5), (6, .int x6)] [] σ 0 0
set_option maxRecDepth 100000 in
theorem QJ6_getChars_ba4f3_104 (E : xEn) (d : Nat) (x5 : Int32) (x6 : Int32) (σ : xH) : qJ6_getChars_ba4f3_104 E d x5 x6 σ = if x6 = (nI 0) then qJ6_getChars_ba4f3_118 E d x5 σ else none := xval_blkQ E (xsem xT E d) 0 0 bJ6_getChars_ba4f3 (pc := 104) rfl [(5, .int x5), (6, .int x6)] [] σ 0 0
set_option maxRecDepth 100000 in
theorem QJ6_getChars_ba4f3_118 (E : xEn) (d : Nat) (x5 : Int32) (σ : xH) : qJ6_getChars_ba4f3_118 E d x5 σ = some (.inl (some (.int x5)), σ) := xval_blkQ E (xsem xT E d) 0 0 bJ6_getChars_ba4f3 (pc := 118) rfl [(5, .int x5)] [] σ 0 0
theorem eJ6_getChars_ba4f3 (E : xEn) (d : Nat) (x0 : Int32) (x1 : Int32) (x2 : Nat) (σ : xH) : xsem xT E (d + 1) kJ6_getChars_ba4f3 [.int x0, .int x1, .ref x2] σ = qJ6_getChars_ba4f3_0 E d x0 x1 x2 σ := rfl
noncomputable def qJx4a65c_init_da8c8_0 (E : xEn) (d : Nat) (x0 : Nat) (σ : xH) : Option xR := xval E (xsem xT E d) 0 0 bJx4a65c_init_da8c8 (0, [(0, .ref x0)], [], σ, 0, 0)
set_option maxRecDepth 100000 in
theorem QJx4a65c_init_da8c8_0 (E : xEn) (d : Nat) (x0 : Nat) (σ : xH) : qJx4a65c_init_da8c8_0 E d x0 σ = gO E σ 13 x0 (cV (xthr 2 some) (xsem xT E d kJxc12de_init_da8c8 [.ref x0] σ) (fun σ1 => gP σ1 13 1 x0 (.ref (eDc E)) (fun σ2 => some (.inl none, σ2)))) := xval_blkQ E (xsem xT E d) 0 0 bJx4a65c_init_da8c8 (pc := 0) rfl [(0, .ref x0)] [] σ 0 0
theorem eJx4a65c_init_da8c8 (E : xEn) (d : Nat) (x0 : Nat) (σ : xH) : xsem xT E (d + 1) kJx4a65c_init_da8c8 [.ref x0] σ = qJx4a65c_init_da8c8_0 E d x0 σ := rfl
noncomputable def qJxc12de_init_da8c8_0 (E : xEn) (d : Nat) (x0 : Nat) (σ : xH) : Option xR := xval E (xsem xT E d) 0 0 bJxc12de_init_da8c8 (0, [(0, .ref x0)], [], σ, 0, 0)
set_option maxRecDepth 100000 in
theorem QJxc12de_init_da8c8_0 (E : xEn) (d : Nat) (x0 : Nat) (σ : xH) : qJxc12de_init_da8c8_0 E d x0 σ = gO E σ 13 x0 (cV (xthr 2 some) (xsem xT E d kJxa1e45_init_da8c8 [.ref x0] σ) (fun σ1 => gP σ1 13 0 x0 (.int (nI 0)) (fun σ2 => some (.inl none, σ2)))) := xval_blkQ E (xsem xT E d) 0 0 bJxc12de_init_da8c8 (pc := 0) rfl [(0, .ref x0)] [] σ 0 0
theorem eJxc12de_init_da8c8 (E : xEn) (d : Nat) (x0 : Nat) (σ : xH) : xsem xT E (d + 1) kJxc12de_init_da8c8 [.ref x0] σ = qJxc12de_init_da8c8_0 E d x0 σ := rfl
noncomputable def qJxa1e45_init_da8c8_0 (E : xEn) (d : Nat) (x0 : Nat) (σ : xH) : Option xR := xval E (xsem xT E d) 0 0 bJxa1e45_init_da8c8 (0, [(0, .ref x0)], [], σ, 0, 0)
set_option maxRecDepth 100000 in
theorem QJxa1e45_init_da8c8_0 (E : xEn) (d : Nat) (x0 : Nat) (σ : xH) : qJxa1e45_init_da8c8_0 E d x0 σ = some (.inl none, σ) := xval_blkQ E (xsem xT E d) 0 0 bJxa1e45_init_da8c8 (pc := 0) rfl [(0, .ref x0)] [] σ 0 0
theorem eJxa1e45_init_da8c8 (E : xEn) (d : Nat) (x0 : Nat) (σ : xH) : xsem xT E (d + 1) kJxa1e45_init_da8c8 [.ref x0] σ = qJxa1e45_init_da8c8_0 E d x0 σ := rfl
noncomputable def qJx4a65c_add_9ea2d_0 (E : xEn) (d : Nat) (bc bs : Nat) (x0 : Nat) (x1 : Nat) (σ : xH) : Option xR := xval E (xsem xT E d) 1 10 bJx4a65c_add_9ea2d (0, [(0, .ref x0), (1, .ref x1)], [], σ, bc, bs)
set_option maxRecDepth 100000 in
theorem QJx4a65c_add_9ea2d_0 (E : xEn) (d : Nat) (bc bs : Nat) (x0 : Nat) (x1 : Nat) (σ : xH) : qJx4a65c_add_9ea2d_0 E d bc bs x0 x1 σ = gI σ 13 0 x0 (fun v1 => gP σ 13 0 x0 (.int (v1 + (nI 1))) (fun σ1 => gR σ1 13 1 x0 (fun v2 => gI σ1 13 2 x0 (fun v3 => bif Nat.ble (bc + 1) 1 && Nat.ble (bs + 10) 10 then gO E σ1 13 x0 (cV (xthr 1 some) (xsem xT E d kJx4a65c_add_72be8 [.ref x0, .ref x1, .ref v2, .int v3] σ1) (fun σ2 => xiret [5] (nI 1) (some (.inl (some (.int (nI 1))), σ2)))) else none)))) := xval_blkQ E (xsem xT E d) 1 10 bJx4a65c_add_9ea2d (pc := 0) rfl [(0, .ref x0), (1, .ref x1)] [] σ bc bs
theorem eJx4a65c_add_9ea2d (E : xEn) (d : Nat) (x0 : Nat) (x1 : Nat) (σ : xH) : xsem xT E (d + 1) kJx4a65c_add_9ea2d [.ref x0, .ref x1] σ = qJx4a65c_add_9ea2d_0 E d 0 0 x0 x1 σ := rfl
noncomputable def qJx4a65c_add_72be8_0 (E : xEn) (d : Nat) (bc bs : Nat) (x0 : Nat) (x1 : Nat) (x2 : Nat) (x3 : Int32) (σ : xH) : Option xR := xval E (xsem xT E d) 1 10 bJx4a65c_add_72be8 (0, [(0, .ref x0), (1, .ref x1), (2, .ref x2), (3, .int x3)], [], σ, bc, bs)
noncomputable def qJx4a65c_add_72be8_11 (E : xEn) (d : Nat) (bc bs : Nat) (x0 : Nat) (x1 : Nat) (x2 : Nat) (x3 : Int32) (σ : xH) : Option xR := xval E (xsem xT E d) 1 10 bJx4a65c_add_72be8 (11, [(0, .ref x0), (1, .ref x1), (2, .ref x2), (3, .int x3)], [], σ, bc, bs)
set_option maxRecDepth 100000 in
theorem QJx4a65c_add_72be8_0 (E : xEn) (d : Nat) (bc bs : Nat) (x0 : Nat) (x1 : Nat) (x2 : Nat) (x3 : Int32) (σ : xH) : qJx4a65c_add_72be8_0 E d bc bs x0 x1 x2 x3 σ = aN E σ x2 (fun v1 => if x3 = v1 then bif Nat.ble (bc + 1) 1 && Nat.ble (bs + 10) 10 then gO E σ 13 x0 (cA (xthr 1 some) (xsem xT E d kJx4a65c_grow_d5877 [.ref x0] σ) (fun v2 σ1 => qJx4a65c_add_72be8_11 E d (bc + 1) (bs + 10) x0 x1 v2 x3 σ1)) else none else qJx4a65c_add_72be8_11 E d bc bs x0 x1 x2 x3 σ) := xval_blkQ E (xsem xT E d) 1 10 bJx4a65c_add_72be8 (pc := 0) rfl [(0, .ref x0), (1, .ref x1), (2, .ref x2), (3, .int x3)] [] σ bc bs
set_option maxRecDepth 100000 in
theorem QJx4a65c_add_72be8_11 (E : xEn) (d : Nat) (bc bs : Nat) (x0 : Nat) (x1 : Nat) (x2 : Nat) (x3 : Int32) (σ : xH) : qJx4a65c_add_72be8_11 E d bc bs x0 x1 x2 x3 σ = sQ E σ x2 x3 x1 (fun σ1 => gP σ1 13 2 x0 (.int (x3 + (nI 1))) (fun σ2 => some (.inl none, σ2))) := xval_blkQ E (xsem xT E d) 1 10 bJx4a65c_add_72be8 (pc := 11) rfl [(0, .ref x0), (1, .ref x1), (2, .ref x2), (3, .int x3)] [] σ bc bs
theorem eJx4a65c_add_72be8 (E : xEn) (d : Nat) (x0 : Nat) (x1 : Nat) (x2 : Nat) (x3 : Int32) (σ : xH) : xsem xT E (d + 1) kJx4a65c_add_72be8 [.ref x0, .ref x1, .ref x2, .int x3] σ = qJx4a65c_add_72be8_0 E d 0 0 x0 x1 x2 x3 σ := rfl
noncomputable def qJx4a65c_grow_d5877_0 (E : xEn) (d : Nat) (bc bs : Nat) (x0 : Nat) (σ : xH) : Option xR := xval E (xsem xT E d) 1 10 bJx4a65c_grow_d5877 (0, [(0, .ref x0)], [], σ, bc, bs)
set_option maxRecDepth 100000 in
theorem QJx4a65c_grow_d5877_0 (E : xEn) (d : Nat) (bc bs : Nat) (x0 : Nat) (σ : xH) : qJx4a65c_grow_d5877_0 E d bc bs x0 σ = gI σ 13 2 x0 (fun v1 => bif Nat.ble (bc + 1) 1 && Nat.ble (bs + 10) 10 then gO E σ 13 x0 (cA (xthr 1 some) (xsem xT E d kJx4a65c_grow_92f84 [.ref x0, .int (v1 + (nI 1))] σ) (fun v2 σ1 => some (.inl (some (.ref v2)), σ1))) else none) := xval_blkQ E (xsem xT E d) 1 10 bJx4a65c_grow_d5877 (pc := 0) rfl [(0, .ref x0)] [] σ bc bs
theorem eJx4a65c_grow_d5877 (E : xEn) (d : Nat) (x0 : Nat) (σ : xH) : xsem xT E (d + 1) kJx4a65c_grow_d5877 [.ref x0] σ = qJx4a65c_grow_d5877_0 E d 0 0 x0 σ := rfl
noncomputable def qJx4a65c_grow_92f84_0 (E : xEn) (d : Nat) (bc bs : Nat) (x0 : Nat) (x1 : Int32) (σ : xH) : Option xR := xval E (xsem xT E d) 1 10 bJx4a65c_grow_92f84 (0, [(0, .ref x0), (1, .int x1)], [], σ, bc, bs)
noncomputable def qJx4a65c_grow_92f84_45 (E : xEn) (d : Nat) (bc bs : Nat) (x0 : Nat) (x1 : Int32) (σ : xH) : Option xR := xval E (xsem xT E d) 1 10 bJx4a65c_grow_92f84 (45, [(0, .ref x0), (1, .int x1)], [], σ, bc, bs)
set_option maxRecDepth 100000 in
theorem QJx4a65c_grow_92f84_0 (E : xEn) (d : Nat) (bc bs : Nat) (x0 : Nat) (x1 : Int32) (σ : xH) : qJx4a65c_grow_92f84_0 E d bc bs x0 x1 σ = gR σ 13 1 x0 (fun v1 => aN E σ v1 (fun v2 => if (nI 0) < v2 then none else gR σ 13 1 x0 (fun v3 => bif Nat.beq v3 (eDc E) then qJx4a65c_grow_92f84_45 E d bc bs x0 x1 σ else none))) := xval_blkQ E (xsem xT E d) 1 10 bJx4a65c_grow_92f84 (pc := 0) rfl [(0, .ref x0), (1, .int x1)] [] σ bc bs
set_option maxRecDepth 100000 in
theorem QJx4a65c_grow_92f84_45 (E : xEn) (d : Nat) (bc bs : Nat) (x0 : Nat) (x1 : Int32) (σ : xH) : qJx4a65c_grow_92f84_45 E d bc bs x0 x1 σ = bif decide (¬ (mxI (nI 10) x1) < 0) && (Nat.ble (bc + 1) 1 && (Nat.ble (bs + (mxI (nI 10) x1).toNatClampNeg) 10 && Nat.ble (mxI (nI 10) x1).toNatClampNeg 100000)) then nwQ σ 6 (mxI (nI 10) x1).toNatClampNeg (fun v1 σ1 => gP σ1 13 1 x0 (.ref v1) (fun σ2 => some (.inl (some (.ref v1)), σ2))) else none := xval_blkQ E (xsem xT E d) 1 10 bJx4a65c_grow_92f84 (pc := 45) rfl [(0, .ref x0), (1, .int x1)] [] σ bc bs
theorem eJx4a65c_grow_92f84 (E : xEn) (d : Nat) (x0 : Nat) (x1 : Int32) (σ : xH) : xsem xT E (d + 1) kJx4a65c_grow_92f84 [.ref x0, .int x1] σ = qJx4a65c_grow_92f84_0 E d 0 0 x0 x1 σ := rfl
noncomputable def qJx4a65c_get_915e3_0 (E : xEn) (d : Nat) (x0 : Nat) (x1 : Int32) (σ : xH) : Option xR := xval E (xsem xT E d) 0 0 bJx4a65c_get_915e3 (0, [(0, .ref x0), (1, .int x1)], [], σ, 0, 0)
set_option maxRecDepth 100000 in
theorem QJx4a65c_get_915e3_0 (E : xEn) (d : Nat) (x0 : Nat) (x1 : Int32) (σ : xH) : qJx4a65c_get_915e3_0 E d x0 x1 σ = gI σ 13 2 x0 (fun v1 => cI (xthr 0 some) (xsem xT E d kJ15_checkIndex_7cf53 [.int x1, .int v1] σ) (fun v2 σ1 => gO E σ1 13 x0 (cA (xthr 1 some) (xsem xT E d kJx4a65c_elementData_915e3 [.ref x0, .int x1] σ1) (fun v3 σ2 => some (.inl (some (.ref v3)), σ2))))) := xval_blkQ E (xsem xT E d) 0 0 bJx4a65c_get_915e3 (pc := 0) rfl [(0, .ref x0), (1, .int x1)] [] σ 0 0
theorem eJx4a65c_get_915e3 (E : xEn) (d : Nat) (x0 : Nat) (x1 : Int32) (σ : xH) : xsem xT E (d + 1) kJx4a65c_get_915e3 [.ref x0, .int x1] σ = qJx4a65c_get_915e3_0 E d x0 x1 σ := rfl
noncomputable def qJx4a65c_elementData_915e3_0 (E : xEn) (d : Nat) (x0 : Nat) (x1 : Int32) (σ : xH) : Option xR := xval E (xsem xT E d) 0 0 bJx4a65c_elementData_915e3 (0, [(0, .ref x0), (1, .int x1)], [], σ, 0, 0)
set_option maxRecDepth 100000 in
theorem QJx4a65c_elementData_915e3_0 (E : xEn) (d : Nat) (x0 : Nat) (x1 : Int32) (σ : xH) : qJx4a65c_elementData_915e3_0 E d x0 x1 σ = gR σ 13 1 x0 (fun v1 => aQ E σ v1 x1 (fun v2 => some (.inl (some (.ref v2)), σ))) := xval_blkQ E (xsem xT E d) 0 0 bJx4a65c_elementData_915e3 (pc := 0) rfl [(0, .ref x0), (1, .int x1)] [] σ 0 0
theorem eJx4a65c_elementData_915e3 (E : xEn) (d : Nat) (x0 : Nat) (x1 : Int32) (σ : xH) : xsem xT E (d + 1) kJx4a65c_elementData_915e3 [.ref x0, .int x1] σ = qJx4a65c_elementData_915e3_0 E d x0 x1 σ := rfl
noncomputable def qJx4a65c_size_8abf5_0 (E : xEn) (d : Nat) (x0 : Nat) (σ : xH) : Option xR := xval E (xsem xT E d) 0 0 bJx4a65c_size_8abf5 (0, [(0, .ref x0)], [], σ, 0, 0)
set_option maxRecDepth 100000 in
theorem QJx4a65c_size_8abf5_0 (E : xEn) (d : Nat) (x0 : Nat) (σ : xH) : qJx4a65c_size_8abf5_0 E d x0 σ = gI σ 13 2 x0 (fun v1 => some (.inl (some (.int v1)), σ)) := xval_blkQ E (xsem xT E d) 0 0 bJx4a65c_size_8abf5 (pc := 0) rfl [(0, .ref x0)] [] σ 0 0
theorem eJx4a65c_size_8abf5 (E : xEn) (d : Nat) (x0 : Nat) (σ : xH) : xsem xT E (d + 1) kJx4a65c_size_8abf5 [.ref x0] σ = qJx4a65c_size_8abf5_0 E d x0 σ := rfl
noncomputable def qJ15_checkIndex_7cf53_0 (E : xEn) (d : Nat) (x0 : Int32) (x1 : Int32) (σ : xH) : Option xR := xval E (xsem xT E d) 0 0 bJ15_checkIndex_7cf53 (0, [(0, .int x0), (1, .int x1)], [], σ, 0, 0)
set_option maxRecDepth 100000 in
theorem QJ15_checkIndex_7cf53_0 (E : xEn) (d : Nat) (x0 : Int32) (x1 : Int32) (σ : xH) : qJ15_checkIndex_7cf53_0 E d x0 x1 σ = cI (xthr 0 some) (xsem xT E d kJ3_checkIndex_8e157 [.int x0, .int x1, Value.null] σ) (fun v1 σ1 => some (.inl (some (.int v1)), σ1)) := xval_blkQ E (xsem xT E d) 0 0 bJ15_checkIndex_7cf53 (pc := 0) rfl [(0, .int x0), (1, .int x1)] [] σ 0 0
theorem eJ15_checkIndex_7cf53 (E : xEn) (d : Nat) (x0 : Int32) (x1 : Int32) (σ : xH) : xsem xT E (d + 1) kJ15_checkIndex_7cf53 [.int x0, .int x1] σ = qJ15_checkIndex_7cf53_0 E d x0 x1 σ := rfl
end
section
/-! EQUATIONS OF THE BLOCKS, written by wip/p31/geneq.py. -/
noncomputable def qX11_init_0 (E : xEn) (d : Nat) (x0 : Nat) (x1 : Int32) (x2 : Int32) (x3 : Int32) (x4 : Int32) (x5 : Int32) (x6 : Int32) (σ : xH) : Option xR := xval E (xsem xT E d) 0 0 bX11_init (0, [(0, .ref x0), (1, .int x1), (2, .int x2), (3, .int x3), (4, .int x4), (5, .int x5), (6, .int x6)], [], σ, 0, 0)
set_option maxRecDepth 100000 in
theorem QX11_init_0 (E : xEn) (d : Nat) (x0 : Nat) (x1 : Int32) (x2 : Int32) (x3 : Int32) (x4 : Int32) (x5 : Int32) (x6 : Int32) (σ : xH) : qX11_init_0 E d x0 x1 x2 x3 x4 x5 x6 σ = gP σ 9 0 x0 (.int x1) (fun σ1 => gP σ1 9 1 x0 (.int x2) (fun σ2 => gP σ2 9 2 x0 (.int x3) (fun σ3 => gP σ3 9 3 x0 (.int x4) (fun σ4 => gP σ4 9 4 x0 (.int x5) (fun σ5 => if narrow .boolean (.int x6) = Value.int x6 then gP σ5 9 5 x0 (.int x6) (fun σ6 => some (.inl none, σ6)) else none))))) := xval_blkQ E (xsem xT E d) 0 0 bX11_init (pc := 0) rfl [(0, .ref x0), (1, .int x1), (2, .int x2), (3, .int x3), (4, .int x4), (5, .int x5), (6, .int x6)] [] σ 0 0
theorem eX11_init (E : xEn) (d : Nat) (x0 : Nat) (x1 : Int32) (x2 : Int32) (x3 : Int32) (x4 : Int32) (x5 : Int32) (x6 : Int32) (σ : xH) : xsem xT E (d + 1) kX11_init [.ref x0, .int x1, .int x2, .int x3, .int x4, .int x5, .int x6] σ = qX11_init_0 E d x0 x1 x2 x3 x4 x5 x6 σ := rfl
noncomputable def qX12_init_0 (E : xEn) (d : Nat) (bc bs : Nat) (x0 : Nat) (x1 : Int32) (x2 : Int32) (x3 : Int32) (x4 : Int32) (x5 : Int32) (σ : xH) : Option xR := xval E (xsem xT E d) 1 3 bX12_init (0, [(0, .ref x0), (1, .int x1), (2, .int x2), (3, .int x3), (4, .int x4), (5, .int x5)], [], σ, bc, bs)
set_option maxRecDepth 100000 in
theorem QX12_init_0 (E : xEn) (d : Nat) (bc bs : Nat) (x0 : Nat) (x1 : Int32) (x2 : Int32) (x3 : Int32) (x4 : Int32) (x5 : Int32) (σ : xH) : qX12_init_0 E d bc bs x0 x1 x2 x3 x4 x5 σ = bif Nat.ble (bc + 1) 1 && Nat.ble (bs + 3) 3 then nwO σ 13 3 (fun v1 σ1 => bif Nat.ble (bc + 1) 1 && Nat.ble (bs + 3) 3 then gO E σ1 13 v1 (cV (xthr 2 some) (xsem xT E d kJx4a65c_init_da8c8 [.ref v1] σ1) (fun σ2 => gP σ2 10 0 x0 (.ref v1) (fun σ3 => gP σ3 10 1 x0 (.int x1) (fun σ4 => gP σ4 10 2 x0 (.int x2) (fun σ5 => gP σ5 10 3 x0 (.int x3) (fun σ6 => gP σ6 10 4 x0 (.int x4) (fun σ7 => gP σ7 10 5 x0 (.int x5) (fun σ8 => some (.inl none, σ8))))))))) else none) else none := xval_blkQ E (xsem xT E d) 1 3 bX12_init (pc := 0) rfl [(0, .ref x0), (1, .int x1), (2, .int x2), (3, .int x3), (4, .int x4), (5, .int x5)] [] σ bc bs
theorem eX12_init (E : xEn) (d : Nat) (x0 : Nat) (x1 : Int32) (x2 : Int32) (x3 : Int32) (x4 : Int32) (x5 : Int32) (σ : xH) : xsem xT E (d + 1) kX12_init [.ref x0, .int x1, .int x2, .int x3, .int x4, .int x5] σ = qX12_init_0 E d 0 0 x0 x1 x2 x3 x4 x5 σ := rfl
noncomputable def qX12_by_0 (E : xEn) (d : Nat) (x0 : Int32) (x1 : Int32) (x2 : Int32) (σ : xH) : Option xR := xval E (xsem xT E d) 0 0 bX12_by (0, [(0, .int x0), (1, .int x1), (2, .int x2)], [], σ, 0, 0)
noncomputable def qX12_by_9 (E : xEn) (d : Nat) (x0 : Int32) (x1 : Int32) (x2 : Int32) (σ : xH) : Option xR := xval E (xsem xT E d) 0 0 bX12_by (9, [(0, .int x0), (1, .int x1), (2, .int x2)], [], σ, 0, 0)
noncomputable def qX12_by_18 (E : xEn) (d : Nat) (x0 : Int32) (σ : xH) : Option xR := xval E (xsem xT E d) 0 0 bX12_by (18, [(0, .int x0)], [], σ, 0, 0)
noncomputable def qX12_by_19 (E : xEn) (d : Nat) (s0 : Int32) (σ : xH) : Option xR := xval E (xsem xT E d) 0 0 bX12_by (19, [], [.int s0], σ, 0, 0)
set_option maxRecDepth 100000 in
theorem QX12_by_0 (E : xEn) (d : Nat) (x0 : Int32) (x1 : Int32) (x2 : Int32) (σ : xH) : qX12_by_0 E d x0 x1 x2 σ = if x0 = x1 then qX12_by_19 E d x2 σ else qX12_by_9 E d x0 x1 x2 σ := xval_blkQ E (xsem xT E d) 0 0 bX12_by (pc := 0) rfl [(0, .int x0), (1, .int x1), (2, .int x2)] [] σ 0 0
set_option maxRecDepth 100000 in
theorem QX12_by_9 (E : xEn) (d : Nat) (x0 : Int32) (x1 : Int32) (x2 : Int32) (σ : xH) : qX12_by_9 E d x0 x1 x2 σ = if x0 = x2 then qX12_by_19 E d x1 σ else qX12_by_18 E d x0 σ := xval_blkQ E (xsem xT E d) 0 0 bX12_by (pc := 9) rfl [(0, .int x0), (1, .int x1), (2, .int x2)] [] σ 0 0
set_option maxRecDepth 100000 in
theorem QX12_by_18 (E : xEn) (d : Nat) (x0 : Int32) (σ : xH) : qX12_by_18 E d x0 σ = qX12_by_19 E d x0 σ := xval_blkQ E (xsem xT E d) 0 0 bX12_by (pc := 18) rfl [(0, .int x0)] [] σ 0 0
set_option maxRecDepth 100000 in
theorem QX12_by_19 (E : xEn) (d : Nat) (s0 : Int32) (σ : xH) : qX12_by_19 E d s0 σ = some (.inl (some (.int s0)), σ) := xval_blkQ E (xsem xT E d) 0 0 bX12_by (pc := 19) rfl [] [.int s0] σ 0 0
theorem eX12_by (E : xEn) (d : Nat) (x0 : Int32) (x1 : Int32) (x2 : Int32) (σ : xH) : xsem xT E (d + 1) kX12_by [.int x0, .int x1, .int x2] σ = qX12_by_0 E d x0 x1 x2 σ := rfl
noncomputable def qX12_moved_0 (E : xEn) (d : Nat) (x0 : Int32) (x1 : Int32) (x2 : Int32) (σ : xH) : Option xR := xval E (xsem xT E d) 0 0 bX12_moved (0, [(0, .int x0), (1, .int x1), (2, .int x2)], [], σ, 0, 0)
noncomputable def qX12_moved_5 (E : xEn) (d : Nat) (x0 : Int32) (x1 : Int32) (x2 : Int32) (x3 : Int32) (x4 : Int32) (σ : xH) : Option xR := xval E (xsem xT E d) 0 0 bX12_moved (5, [(0, .int x0), (1, .int x1), (2, .int x2), (3, .int x3), (4, .int x4)], [], σ, 0, 0)
noncomputable def qX12_moved_35 (E : xEn) (d : Nat) (x3 : Int32) (σ : xH) : Option xR := xval E (xsem xT E d) 0 0 bX12_moved (35, [(3, .int x3)], [], σ, 0, 0)
set_option maxRecDepth 100000 in
theorem QX12_moved_0 (E : xEn) (d : Nat) (x0 : Int32) (x1 : Int32) (x2 : Int32) (σ : xH) : qX12_moved_0 E d x0 x1 x2 σ = qX12_moved_5 E d x0 x1 x2 (nI 0) (nI 0) σ := xval_blkQ E (xsem xT E d) 0 0 bX12_moved (pc := 0) rfl [(0, .int x0), (1, .int x1), (2, .int x2)] [] σ 0 0
set_option maxRecDepth 100000 in
theorem QX12_moved_5 (E : xEn) (d : Nat) (x0 : Int32) (x1 : Int32) (x2 : Int32) (x3 : Int32) (x4 : Int32) (σ : xH) : qX12_moved_5 E d x0 x1 x2 x3 x4 σ = if (nI 8) ≤ x4 then qX12_moved_35 E d x3 σ else cI (xthr 0 some) (xsem xT E d kX12_by [.int x4, .int x1, .int x2] σ) (fun v1 σ1 => qX12_moved_5 E d x0 x1 x2 (x3 ||| (((x0 >>> (x4 &&& 31)) &&& (nI 1)) <<< (v1 &&& 31))) (x4 + (nI 1)) σ1) := xval_blkQ E (xsem xT E d) 0 0 bX12_moved (pc := 5) rfl [(0, .int x0), (1, .int x1), (2, .int x2), (3, .int x3), (4, .int x4)] [] σ 0 0
set_option maxRecDepth 100000 in
theorem QX12_moved_35 (E : xEn) (d : Nat) (x3 : Int32) (σ : xH) : qX12_moved_35 E d x3 σ = some (.inl (some (.int x3)), σ) := xval_blkQ E (xsem xT E d) 0 0 bX12_moved (pc := 35) rfl [(3, .int x3)] [] σ 0 0
theorem eX12_moved (E : xEn) (d : Nat) (x0 : Int32) (x1 : Int32) (x2 : Int32) (σ : xH) : xsem xT E (d + 1) kX12_moved [.int x0, .int x1, .int x2] σ = qX12_moved_0 E d x0 x1 x2 σ := rfl
noncomputable def qX12_weight_0 (E : xEn) (d : Nat) (x0 : Nat) (x1 : Int32) (x2 : Int32) (σ : xH) : Option xR := xval E (xsem xT E d) 0 0 bX12_weight (0, [(0, .ref x0), (1, .int x1), (2, .int x2)], [], σ, 0, 0)
noncomputable def qX12_weight_16 (E : xEn) (d : Nat) (σ : xH) : Option xR := xval E (xsem xT E d) 0 0 bX12_weight (16, [], [], σ, 0, 0)
noncomputable def qX12_weight_17 (E : xEn) (d : Nat) (s0 : Int64) (σ : xH) : Option xR := xval E (xsem xT E d) 0 0 bX12_weight (17, [], [.long s0], σ, 0, 0)
noncomputable def qX12_weight_18 (E : xEn) (d : Nat) (x0 : Nat) (x1 : Int32) (x2 : Int32) (σ : xH) : Option xR := xval E (xsem xT E d) 0 0 bX12_weight (18, [(0, .ref x0), (1, .int x1), (2, .int x2)], [], σ, 0, 0)
noncomputable def qX12_weight_49 (E : xEn) (d : Nat) (x0 : Nat) (x1 : Int32) (x2 : Int32) (x3 : Nat) (σ : xH) : Option xR := xval E (xsem xT E d) 0 0 bX12_weight (49, [(0, .ref x0), (1, .int x1), (2, .int x2), (3, .ref x3)], [], σ, 0, 0)
noncomputable def qX12_weight_56 (E : xEn) (d : Nat) (s0 : Int64) (σ : xH) : Option xR := xval E (xsem xT E d) 0 0 bX12_weight (56, [], [.long s0], σ, 0, 0)
set_option maxRecDepth 100000 in
theorem QX12_weight_0 (E : xEn) (d : Nat) (x0 : Nat) (x1 : Int32) (x2 : Int32) (σ : xH) : qX12_weight_0 E d x0 x1 x2 σ = if x1 = (nI 0) then gI σ 10 5 x0 (fun v1 => if x2 = v1 then qX12_weight_17 E d (lN 1) σ else qX12_weight_16 E d σ) else qX12_weight_18 E d x0 x1 x2 σ := xval_blkQ E (xsem xT E d) 0 0 bX12_weight (pc := 0) rfl [(0, .ref x0), (1, .int x1), (2, .int x2)] [] σ 0 0
set_option maxRecDepth 100000 in
theorem QX12_weight_16 (E : xEn) (d : Nat) (σ : xH) : qX12_weight_16 E d σ = qX12_weight_17 E d (lN 0) σ := xval_blkQ E (xsem xT E d) 0 0 bX12_weight (pc := 16) rfl [] [] σ 0 0
set_option maxRecDepth 100000 in
theorem QX12_weight_17 (E : xEn) (d : Nat) (s0 : Int64) (σ : xH) : qX12_weight_17 E d s0 σ = some (.inl (some (.long s0)), σ) := xval_blkQ E (xsem xT E d) 0 0 bX12_weight (pc := 17) rfl [] [.long s0] σ 0 0
set_option maxRecDepth 100000 in
theorem QX12_weight_18 (E : xEn) (d : Nat) (x0 : Nat) (x1 : Int32) (x2 : Int32) (σ : xH) : qX12_weight_18 E d x0 x1 x2 σ = gR σ 10 0 x0 (fun v1 => gO E σ 13 v1 (cA (xthr 1 some) (xsem xT E d kJx4a65c_get_915e3 [.ref v1, .int (x1 - (nI 1))] σ) (fun v2 σ1 => xck σ1 9 v2 (gI σ1 9 5 v2 (fun v3 => if v3 = (nI 0) then qX12_weight_49 E d x0 x1 x2 v2 σ1 else gO E σ1 10 x0 (cL (xthr 1 some) (xsem xT E d kX12_blind [.ref x0, .ref v2, .int x1, .int x2] σ1) (fun v4 σ2 => qX12_weight_56 E d v4 σ2))))))) := xval_blkQ E (xsem xT E d) 0 0 bX12_weight (pc := 18) rfl [(0, .ref x0), (1, .int x1), (2, .int x2)] [] σ 0 0
set_option maxRecDepth 100000 in
theorem QX12_weight_49 (E : xEn) (d : Nat) (x0 : Nat) (x1 : Int32) (x2 : Int32) (x3 : Nat) (σ : xH) : qX12_weight_49 E d x0 x1 x2 x3 σ = gO E σ 10 x0 (cL (xthr 1 some) (xsem xT E d kX12_open [.ref x0, .ref x3, .int x1, .int x2] σ) (fun v1 σ1 => qX12_weight_56 E d v1 σ1)) := xval_blkQ E (xsem xT E d) 0 0 bX12_weight (pc := 49) rfl [(0, .ref x0), (1, .int x1), (2, .int x2), (3, .ref x3)] [] σ 0 0
set_option maxRecDepth 100000 in
theorem QX12_weight_56 (E : xEn) (d : Nat) (s0 : Int64) (σ : xH) : qX12_weight_56 E d s0 σ = some (.inl (some (.long s0)), σ) := xval_blkQ E (xsem xT E d) 0 0 bX12_weight (pc := 56) rfl [] [.long s0] σ 0 0
theorem eX12_weight (E : xEn) (d : Nat) (x0 : Nat) (x1 : Int32) (x2 : Int32) (σ : xH) : xsem xT E (d + 1) kX12_weight [.ref x0, .int x1, .int x2] σ = qX12_weight_0 E d x0 x1 x2 σ := rfl
noncomputable def qX12_open_0 (E : xEn) (d : Nat) (x0 : Nat) (x1 : Nat) (x2 : Int32) (x3 : Int32) (σ : xH) : Option xR := xval E (xsem xT E d) 0 0 bX12_open (0, [(0, .ref x0), (1, .ref x1), (2, .int x2), (3, .int x3)], [], σ, 0, 0)
noncomputable def qX12_open_21 (E : xEn) (d : Nat) (x0 : Nat) (x1 : Nat) (x2 : Int32) (x3 : Int32) (x4 : Int64) (σ : xH) : Option xR := xval E (xsem xT E d) 0 0 bX12_open (21, [(0, .ref x0), (1, .ref x1), (2, .int x2), (3, .int x3), (4, .long x4)], [], σ, 0, 0)
noncomputable def qX12_open_79 (E : xEn) (d : Nat) (x4 : Int64) (σ : xH) : Option xR := xval E (xsem xT E d) 0 0 bX12_open (79, [(4, .long x4)], [], σ, 0, 0)
noncomputable def qX12_open_81 (E : xEn) (d : Nat) (s0 : Int64) (σ : xH) : Option xR := xval E (xsem xT E d) 0 0 bX12_open (81, [], [.long s0], σ, 0, 0)
noncomputable def qX12_open_82 (E : xEn) (d : Nat) (x0 : Nat) (x1 : Nat) (x3 : Int32) (x4 : Int64) (x6 : Int64) (σ : xH) : Option xR := xval E (xsem xT E d) 0 0 bX12_open (82, [(0, .ref x0), (1, .ref x1), (3, .int x3), (4, .long x4), (6, .long x6)], [], σ, 0, 0)
noncomputable def qX12_open_98 (E : xEn) (d : Nat) (x0 : Nat) (x4 : Int64) (x6 : Int64) (σ : xH) : Option xR := xval E (xsem xT E d) 0 0 bX12_open (98, [(0, .ref x0), (4, .long x4), (6, .long x6)], [], σ, 0, 0)
noncomputable def qX12_open_121 (E : xEn) (d : Nat) (x4 : Int64) (σ : xH) : Option xR := xval E (xsem xT E d) 0 0 bX12_open (121, [(4, .long x4)], [], σ, 0, 0)
noncomputable def qX12_open_127 (E : xEn) (d : Nat) (s0 : Int64) (σ : xH) : Option xR := xval E (xsem xT E d) 0 0 bX12_open (127, [], [.long s0], σ, 0, 0)
set_option maxRecDepth 100000 in
theorem QX12_open_0 (E : xEn) (d : Nat) (x0 : Nat) (x1 : Nat) (x2 : Int32) (x3 : Int32) (σ : xH) : qX12_open_0 E d x0 x1 x2 x3 σ = gO E σ 10 x0 (cL (xthr 1 some) (xsem xT E d kX12_weight [.ref x0, .int (x2 - (nI 1)), .int x3] σ) (fun v1 σ1 => gI σ1 9 0 x1 (fun v2 => if v2 = (nI 2) then some (.inl (some (.long v1)), σ1) else qX12_open_21 E d x0 x1 x2 x3 v1 σ1))) := xval_blkQ E (xsem xT E d) 0 0 bX12_open (pc := 0) rfl [(0, .ref x0), (1, .ref x1), (2, .int x2), (3, .int x3)] [] σ 0 0
set_option maxRecDepth 100000 in
theorem QX12_open_21 (E : xEn) (d : Nat) (x0 : Nat) (x1 : Nat) (x2 : Int32) (x3 : Int32) (x4 : Int64) (σ : xH) : qX12_open_21 E d x0 x1 x2 x3 x4 σ = gI σ 9 1 x1 (fun v1 => gI σ 9 2 x1 (fun v2 => cI (xthr 0 some) (xsem xT E d kX12_by [.int x3, .int v1, .int v2] σ) (fun v3 σ1 => gO E σ1 10 x0 (cL (xthr 1 some) (xsem xT E d kX12_weight [.ref x0, .int (x2 - (nI 1)), .int v3] σ1) (fun v4 σ2 => gI σ2 9 3 x1 (fun v5 => gI σ2 9 1 x1 (fun v6 => gI σ2 9 3 x1 (fun v7 => gI σ2 9 2 x1 (fun v8 => if ((v5 >>> (v6 &&& 31)) &&& (nI 1)) = ((v7 >>> (v8 &&& 31)) &&& (nI 1)) then qX12_open_82 E d x0 x1 x3 x4 v4 σ2 else gI σ2 9 0 x1 (fun v9 => if v9 = (nI 0) then qX12_open_81 E d v4 σ2 else qX12_open_79 E d x4 σ2)))))))))) := xval_blkQ E (xsem xT E d) 0 0 bX12_open (pc := 21) rfl [(0, .ref x0), (1, .ref x1), (2, .int x2), (3, .int x3), (4, .long x4)] [] σ 0 0
set_option maxRecDepth 100000 in
theorem QX12_open_79 (E : xEn) (d : Nat) (x4 : Int64) (σ : xH) : qX12_open_79 E d x4 σ = qX12_open_81 E d x4 σ := xval_blkQ E (xsem xT E d) 0 0 bX12_open (pc := 79) rfl [(4, .long x4)] [] σ 0 0
set_option maxRecDepth 100000 in
theorem QX12_open_81 (E : xEn) (d : Nat) (s0 : Int64) (σ : xH) : qX12_open_81 E d s0 σ = some (.inl (some (.long s0)), σ) := xval_blkQ E (xsem xT E d) 0 0 bX12_open (pc := 81) rfl [] [.long s0] σ 0 0
set_option maxRecDepth 100000 in
theorem QX12_open_82 (E : xEn) (d : Nat) (x0 : Nat) (x1 : Nat) (x3 : Int32) (x4 : Int64) (x6 : Int64) (σ : xH) : qX12_open_82 E d x0 x1 x3 x4 x6 σ = gI σ 9 1 x1 (fun v1 => if x3 = v1 then qX12_open_98 E d x0 x4 x6 σ else gI σ 9 2 x1 (fun v2 => if x3 = v2 then qX12_open_98 E d x0 x4 x6 σ else qX12_open_121 E d x4 σ)) := xval_blkQ E (xsem xT E d) 0 0 bX12_open (pc := 82) rfl [(0, .ref x0), (1, .ref x1), (3, .int x3), (4, .long x4), (6, .long x6)] [] σ 0 0
set_option maxRecDepth 100000 in
theorem QX12_open_98 (E : xEn) (d : Nat) (x0 : Nat) (x4 : Int64) (x6 : Int64) (σ : xH) : qX12_open_98 E d x0 x4 x6 σ = gI σ 10 2 x0 (fun v1 => gI σ 10 2 x0 (fun v2 => qX12_open_127 E d (((((nI 100) - v1).toInt64) * x4) + (v2.toInt64 * x6)) σ)) := xval_blkQ E (xsem xT E d) 0 0 bX12_open (pc := 98) rfl [(0, .ref x0), (4, .long x4), (6, .long x6)] [] σ 0 0
set_option maxRecDepth 100000 in
theorem QX12_open_121 (E : xEn) (d : Nat) (x4 : Int64) (σ : xH) : qX12_open_121 E d x4 σ = qX12_open_127 E d ((lN 100) * x4) σ := xval_blkQ E (xsem xT E d) 0 0 bX12_open (pc := 121) rfl [(4, .long x4)] [] σ 0 0
set_option maxRecDepth 100000 in
theorem QX12_open_127 (E : xEn) (d : Nat) (s0 : Int64) (σ : xH) : qX12_open_127 E d s0 σ = some (.inl (some (.long s0)), σ) := xval_blkQ E (xsem xT E d) 0 0 bX12_open (pc := 127) rfl [] [.long s0] σ 0 0
theorem eX12_open (E : xEn) (d : Nat) (x0 : Nat) (x1 : Nat) (x2 : Int32) (x3 : Int32) (σ : xH) : xsem xT E (d + 1) kX12_open [.ref x0, .ref x1, .int x2, .int x3] σ = qX12_open_0 E d x0 x1 x2 x3 σ := rfl
noncomputable def qX12_blind_0 (E : xEn) (d : Nat) (x0 : Nat) (x1 : Nat) (x2 : Int32) (x3 : Int32) (σ : xH) : Option xR := xval E (xsem xT E d) 0 0 bX12_blind (0, [(0, .ref x0), (1, .ref x1), (2, .int x2), (3, .int x3)], [], σ, 0, 0)
noncomputable def qX12_blind_6 (E : xEn) (d : Nat) (x0 : Nat) (x1 : Nat) (x2 : Int32) (x3 : Int32) (x4 : Int64) (x6 : Int32) (σ : xH) : Option xR := xval E (xsem xT E d) 0 0 bX12_blind (6, [(0, .ref x0), (1, .ref x1), (2, .int x2), (3, .int x3), (4, .long x4), (6, .int x6)], [], σ, 0, 0)
noncomputable def qX12_blind_18 (E : xEn) (d : Nat) (x0 : Nat) (x1 : Nat) (x2 : Int32) (x3 : Int32) (x4 : Int64) (x6 : Int32) (x7 : Int32) (σ : xH) : Option xR := xval E (xsem xT E d) 0 0 bX12_blind (18, [(0, .ref x0), (1, .ref x1), (2, .int x2), (3, .int x3), (4, .long x4), (6, .int x6), (7, .int x7)], [], σ, 0, 0)
noncomputable def qX12_blind_63 (E : xEn) (d : Nat) (x0 : Nat) (x1 : Nat) (x2 : Int32) (x3 : Int32) (x4 : Int64) (x6 : Int32) (x7 : Int32) (σ : xH) : Option xR := xval E (xsem xT E d) 0 0 bX12_blind (63, [(0, .ref x0), (1, .ref x1), (2, .int x2), (3, .int x3), (4, .long x4), (6, .int x6), (7, .int x7)], [], σ, 0, 0)
noncomputable def qX12_blind_69 (E : xEn) (d : Nat) (x0 : Nat) (x1 : Nat) (x2 : Int32) (x3 : Int32) (x4 : Int64) (x6 : Int32) (σ : xH) : Option xR := xval E (xsem xT E d) 0 0 bX12_blind (69, [(0, .ref x0), (1, .ref x1), (2, .int x2), (3, .int x3), (4, .long x4), (6, .int x6)], [], σ, 0, 0)
noncomputable def qX12_blind_75 (E : xEn) (d : Nat) (x0 : Nat) (x1 : Nat) (x2 : Int32) (x3 : Int32) (x4 : Int64) (σ : xH) : Option xR := xval E (xsem xT E d) 0 0 bX12_blind (75, [(0, .ref x0), (1, .ref x1), (2, .int x2), (3, .int x3), (4, .long x4)], [], σ, 0, 0)
noncomputable def qX12_blind_89 (E : xEn) (d : Nat) (x0 : Nat) (x2 : Int32) (x3 : Int32) (x4 : Int64) (σ : xH) : Option xR := xval E (xsem xT E d) 0 0 bX12_blind (89, [(0, .ref x0), (2, .int x2), (3, .int x3), (4, .long x4)], [], σ, 0, 0)
noncomputable def qX12_blind_128 (E : xEn) (d : Nat) (x0 : Nat) (x2 : Int32) (x3 : Int32) (x4 : Int64) (x6 : Int64) (x8 : Int64) (x10 : Int32) (σ : xH) : Option xR := xval E (xsem xT E d) 0 0 bX12_blind (128, [(0, .ref x0), (2, .int x2), (3, .int x3), (4, .long x4), (6, .long x6), (8, .long x8), (10, .int x10)], [], σ, 0, 0)
noncomputable def qX12_blind_171 (E : xEn) (d : Nat) (x0 : Nat) (x2 : Int32) (x3 : Int32) (x4 : Int64) (x6 : Int64) (x8 : Int64) (x10 : Int32) (σ : xH) : Option xR := xval E (xsem xT E d) 0 0 bX12_blind (171, [(0, .ref x0), (2, .int x2), (3, .int x3), (4, .long x4), (6, .long x6), (8, .long x8), (10, .int x10)], [], σ, 0, 0)
noncomputable def qX12_blind_192 (E : xEn) (d : Nat) (x0 : Nat) (x2 : Int32) (x3 : Int32) (x6 : Int64) (x8 : Int64) (x10 : Int32) (s0 : Int64) (s1 : Int64) (σ : xH) : Option xR := xval E (xsem xT E d) 0 0 bX12_blind (192, [(0, .ref x0), (2, .int x2), (3, .int x3), (6, .long x6), (8, .long x8), (10, .int x10)], [.long s1, .long s0], σ, 0, 0)
noncomputable def qX12_blind_198 (E : xEn) (d : Nat) (x0 : Nat) (x2 : Int32) (x3 : Int32) (x6 : Int64) (x8 : Int64) (x10 : Int32) (s0 : Int64) (s1 : Int64) (s2 : Int64) (σ : xH) : Option xR := xval E (xsem xT E d) 0 0 bX12_blind (198, [(0, .ref x0), (2, .int x2), (3, .int x3), (6, .long x6), (8, .long x8), (10, .int x10)], [.long s2, .long s1, .long s0], σ, 0, 0)
noncomputable def qX12_blind_202 (E : xEn) (d : Nat) (x0 : Nat) (x2 : Int32) (x3 : Int32) (x4 : Int64) (x6 : Int64) (x8 : Int64) (x10 : Int32) (σ : xH) : Option xR := xval E (xsem xT E d) 0 0 bX12_blind (202, [(0, .ref x0), (2, .int x2), (3, .int x3), (4, .long x4), (6, .long x6), (8, .long x8), (10, .int x10)], [], σ, 0, 0)
noncomputable def qX12_blind_208 (E : xEn) (d : Nat) (x4 : Int64) (σ : xH) : Option xR := xval E (xsem xT E d) 0 0 bX12_blind (208, [(4, .long x4)], [], σ, 0, 0)
set_option maxRecDepth 100000 in
theorem QX12_blind_0 (E : xEn) (d : Nat) (x0 : Nat) (x1 : Nat) (x2 : Int32) (x3 : Int32) (σ : xH) : qX12_blind_0 E d x0 x1 x2 x3 σ = qX12_blind_6 E d x0 x1 x2 x3 (lN 0) (nI 0) σ := xval_blkQ E (xsem xT E d) 0 0 bX12_blind (pc := 0) rfl [(0, .ref x0), (1, .ref x1), (2, .int x2), (3, .int x3)] [] σ 0 0
set_option maxRecDepth 100000 in
theorem QX12_blind_6 (E : xEn) (d : Nat) (x0 : Nat) (x1 : Nat) (x2 : Int32) (x3 : Int32) (x4 : Int64) (x6 : Int32) (σ : xH) : qX12_blind_6 E d x0 x1 x2 x3 x4 x6 σ = gI σ 10 1 x0 (fun v1 => if v1 ≤ x6 then qX12_blind_75 E d x0 x1 x2 x3 x4 σ else qX12_blind_18 E d x0 x1 x2 x3 x4 x6 (nI 0) σ) := xval_blkQ E (xsem xT E d) 0 0 bX12_blind (pc := 6) rfl [(0, .ref x0), (1, .ref x1), (2, .int x2), (3, .int x3), (4, .long x4), (6, .int x6)] [] σ 0 0
set_option maxRecDepth 100000 in
theorem QX12_blind_18 (E : xEn) (d : Nat) (x0 : Nat) (x1 : Nat) (x2 : Int32) (x3 : Int32) (x4 : Int64) (x6 : Int32) (x7 : Int32) (σ : xH) : qX12_blind_18 E d x0 x1 x2 x3 x4 x6 x7 σ = if x6 ≤ x7 then qX12_blind_69 E d x0 x1 x2 x3 x4 x6 σ else gI σ 9 3 x1 (fun v1 => cI (xthr 0 some) (xsem xT E d kX12_moved [.int v1, .int x6, .int x7] σ) (fun v2 σ1 => gI σ1 9 4 x1 (fun v3 => if v2 = v3 then cI (xthr 0 some) (xsem xT E d kX12_by [.int x3, .int x6, .int x7] σ1) (fun v4 σ2 => gO E σ2 10 x0 (cL (xthr 1 some) (xsem xT E d kX12_weight [.ref x0, .int (x2 - (nI 1)), .int v4] σ2) (fun v5 σ3 => qX12_blind_63 E d x0 x1 x2 x3 (x4 + v5) x6 x7 σ3))) else qX12_blind_63 E d x0 x1 x2 x3 x4 x6 x7 σ1))) := xval_blkQ E (xsem xT E d) 0 0 bX12_blind (pc := 18) rfl [(0, .ref x0), (1, .ref x1), (2, .int x2), (3, .int x3), (4, .long x4), (6, .int x6), (7, .int x7)] [] σ 0 0
set_option maxRecDepth 100000 in
theorem QX12_blind_63 (E : xEn) (d : Nat) (x0 : Nat) (x1 : Nat) (x2 : Int32) (x3 : Int32) (x4 : Int64) (x6 : Int32) (x7 : Int32) (σ : xH) : qX12_blind_63 E d x0 x1 x2 x3 x4 x6 x7 σ = qX12_blind_18 E d x0 x1 x2 x3 x4 x6 (x7 + (nI 1)) σ := xval_blkQ E (xsem xT E d) 0 0 bX12_blind (pc := 63) rfl [(0, .ref x0), (1, .ref x1), (2, .int x2), (3, .int x3), (4, .long x4), (6, .int x6), (7, .int x7)] [] σ 0 0
set_option maxRecDepth 100000 in
theorem QX12_blind_69 (E : xEn) (d : Nat) (x0 : Nat) (x1 : Nat) (x2 : Int32) (x3 : Int32) (x4 : Int64) (x6 : Int32) (σ : xH) : qX12_blind_69 E d x0 x1 x2 x3 x4 x6 σ = qX12_blind_6 E d x0 x1 x2 x3 x4 (x6 + (nI 1)) σ := xval_blkQ E (xsem xT E d) 0 0 bX12_blind (pc := 69) rfl [(0, .ref x0), (1, .ref x1), (2, .int x2), (3, .int x3), (4, .long x4), (6, .int x6)] [] σ 0 0
set_option maxRecDepth 100000 in
theorem QX12_blind_75 (E : xEn) (d : Nat) (x0 : Nat) (x1 : Nat) (x2 : Int32) (x3 : Int32) (x4 : Int64) (σ : xH) : qX12_blind_75 E d x0 x1 x2 x3 x4 σ = gI σ 9 3 x1 (fun v1 => gI σ 9 4 x1 (fun v2 => if v1 = v2 then qX12_blind_89 E d x0 x2 x3 x4 σ else some (.inl (some (.long x4)), σ))) := xval_blkQ E (xsem xT E d) 0 0 bX12_blind (pc := 75) rfl [(0, .ref x0), (1, .ref x1), (2, .int x2), (3, .int x3), (4, .long x4)] [] σ 0 0
set_option maxRecDepth 100000 in
theorem QX12_blind_89 (E : xEn) (d : Nat) (x0 : Nat) (x2 : Int32) (x3 : Int32) (x4 : Int64) (σ : xH) : qX12_blind_89 E d x0 x2 x3 x4 σ = gO E σ 10 x0 (cL (xthr 1 some) (xsem xT E d kX12_weight [.ref x0, .int (x2 - (nI 1)), .int x3] σ) (fun v1 σ1 => gI σ1 10 1 x0 (fun v2 => gO E σ1 10 x0 (cL (xthr 1 some) (xsem xT E d kX12_weight [.ref x0, .int (x2 - (nI 1)), .int v2] σ1) (fun v3 σ2 => gI σ2 10 3 x0 (fun v4 => qX12_blind_128 E d x0 x2 x3 (x4 + (v4.toInt64 * v1)) v1 v3 (nI 0) σ2)))))) := xval_blkQ E (xsem xT E d) 0 0 bX12_blind (pc := 89) rfl [(0, .ref x0), (2, .int x2), (3, .int x3), (4, .long x4)] [] σ 0 0
set_option maxRecDepth 100000 in
theorem QX12_blind_128 (E : xEn) (d : Nat) (x0 : Nat) (x2 : Int32) (x3 : Int32) (x4 : Int64) (x6 : Int64) (x8 : Int64) (x10 : Int32) (σ : xH) : qX12_blind_128 E d x0 x2 x3 x4 x6 x8 x10 σ = gI σ 10 1 x0 (fun v1 => if v1 ≤ x10 then qX12_blind_208 E d x4 σ else gI σ 10 1 x0 (fun v2 => if x3 = v2 then gI σ 10 4 x0 (fun v3 => gO E σ 10 x0 (cL (xthr 1 some) (xsem xT E d kX12_weight [.ref x0, .int (x2 - (nI 1)), .int x10] σ) (fun v4 σ1 => qX12_blind_202 E d x0 x2 x3 (x4 + (v3.toInt64 * (x8 + v4))) x6 x8 x10 σ1))) else qX12_blind_171 E d x0 x2 x3 x4 x6 x8 x10 σ)) := xval_blkQ E (xsem xT E d) 0 0 bX12_blind (pc := 128) rfl [(0, .ref x0), (2, .int x2), (3, .int x3), (4, .long x4), (6, .long x6), (8, .long x8), (10, .int x10)] [] σ 0 0
set_option maxRecDepth 100000 in
theorem QX12_blind_171 (E : xEn) (d : Nat) (x0 : Nat) (x2 : Int32) (x3 : Int32) (x4 : Int64) (x6 : Int64) (x8 : Int64) (x10 : Int32) (σ : xH) : qX12_blind_171 E d x0 x2 x3 x4 x6 x8 x10 σ = gI σ 10 4 x0 (fun v1 => if x10 = x3 then qX12_blind_198 E d x0 x2 x3 x6 x8 x10 x4 v1.toInt64 (x6 + x8) σ else qX12_blind_192 E d x0 x2 x3 x6 x8 x10 x4 v1.toInt64 σ) := xval_blkQ E (xsem xT E d) 0 0 bX12_blind (pc := 171) rfl [(0, .ref x0), (2, .int x2), (3, .int x3), (4, .long x4), (6, .long x6), (8, .long x8), (10, .int x10)] [] σ 0 0
set_option maxRecDepth 100000 in
theorem QX12_blind_192 (E : xEn) (d : Nat) (x0 : Nat) (x2 : Int32) (x3 : Int32) (x6 : Int64) (x8 : Int64) (x10 : Int32) (s0 : Int64) (s1 : Int64) (σ : xH) : qX12_blind_192 E d x0 x2 x3 x6 x8 x10 s0 s1 σ = qX12_blind_198 E d x0 x2 x3 x6 x8 x10 s0 s1 ((lN 2) * x6) σ := xval_blkQ E (xsem xT E d) 0 0 bX12_blind (pc := 192) rfl [(0, .ref x0), (2, .int x2), (3, .int x3), (6, .long x6), (8, .long x8), (10, .int x10)] [.long s1, .long s0] σ 0 0
set_option maxRecDepth 100000 in
theorem QX12_blind_198 (E : xEn) (d : Nat) (x0 : Nat) (x2 : Int32) (x3 : Int32) (x6 : Int64) (x8 : Int64) (x10 : Int32) (s0 : Int64) (s1 : Int64) (s2 : Int64) (σ : xH) : qX12_blind_198 E d x0 x2 x3 x6 x8 x10 s0 s1 s2 σ = qX12_blind_202 E d x0 x2 x3 (s0 + (s1 * s2)) x6 x8 x10 σ := xval_blkQ E (xsem xT E d) 0 0 bX12_blind (pc := 198) rfl [(0, .ref x0), (2, .int x2), (3, .int x3), (6, .long x6), (8, .long x8), (10, .int x10)] [.long s2, .long s1, .long s0] σ 0 0
set_option maxRecDepth 100000 in
theorem QX12_blind_202 (E : xEn) (d : Nat) (x0 : Nat) (x2 : Int32) (x3 : Int32) (x4 : Int64) (x6 : Int64) (x8 : Int64) (x10 : Int32) (σ : xH) : qX12_blind_202 E d x0 x2 x3 x4 x6 x8 x10 σ = qX12_blind_128 E d x0 x2 x3 x4 x6 x8 (x10 + (nI 1)) σ := xval_blkQ E (xsem xT E d) 0 0 bX12_blind (pc := 202) rfl [(0, .ref x0), (2, .int x2), (3, .int x3), (4, .long x4), (6, .long x6), (8, .long x8), (10, .int x10)] [] σ 0 0
set_option maxRecDepth 100000 in
theorem QX12_blind_208 (E : xEn) (d : Nat) (x4 : Int64) (σ : xH) : qX12_blind_208 E d x4 σ = some (.inl (some (.long x4)), σ) := xval_blkQ E (xsem xT E d) 0 0 bX12_blind (pc := 208) rfl [(4, .long x4)] [] σ 0 0
theorem eX12_blind (E : xEn) (d : Nat) (x0 : Nat) (x1 : Nat) (x2 : Int32) (x3 : Int32) (σ : xH) : xsem xT E (d + 1) kX12_blind [.ref x0, .ref x1, .int x2, .int x3] σ = qX12_blind_0 E d x0 x1 x2 x3 σ := rfl
noncomputable def qX12_isLike_0 (E : xEn) (d : Nat) (bc bs : Nat) (x0 : Nat) (x1 : Nat) (σ : xH) : Option xR := xval E (xsem xT E d) 3 17 bX12_isLike (0, [(0, .ref x0), (1, .ref x1)], [], σ, bc, bs)
noncomputable def qX12_isLike_14 (E : xEn) (d : Nat) (bc bs : Nat) (x0 : Nat) (x1 : Nat) (x2 : Nat) (x3 : Int64) (x5 : Int32) (σ : xH) : Option xR := xval E (xsem xT E d) 3 17 bX12_isLike (14, [(0, .ref x0), (1, .ref x1), (2, .ref x2), (3, .long x3), (5, .int x5)], [], σ, bc, bs)
noncomputable def qX12_isLike_53 (E : xEn) (d : Nat) (bc bs : Nat) (x0 : Nat) (x1 : Nat) (x2 : Nat) (x3 : Int64) (σ : xH) : Option xR := xval E (xsem xT E d) 3 17 bX12_isLike (53, [(0, .ref x0), (1, .ref x1), (2, .ref x2), (3, .long x3)], [], σ, bc, bs)
noncomputable def qX12_isLike_59 (E : xEn) (d : Nat) (bc bs : Nat) (x0 : Nat) (x1 : Nat) (x2 : Nat) (x3 : Int64) (x5 : Int32) (x6 : Int32) (σ : xH) : Option xR := xval E (xsem xT E d) 3 17 bX12_isLike (59, [(0, .ref x0), (1, .ref x1), (2, .ref x2), (3, .long x3), (5, .int x5), (6, .int x6)], [], σ, bc, bs)
noncomputable def qX12_isLike_95 (E : xEn) (d : Nat) (bc bs : Nat) (x0 : Nat) (x1 : Nat) (x2 : Nat) (x3 : Int64) (x5 : Int32) (x6 : Int32) (σ : xH) : Option xR := xval E (xsem xT E d) 3 17 bX12_isLike (95, [(0, .ref x0), (1, .ref x1), (2, .ref x2), (3, .long x3), (5, .int x5), (6, .int x6)], [], σ, bc, bs)
noncomputable def qX12_isLike_120 (E : xEn) (d : Nat) (bc bs : Nat) (x0 : Nat) (x1 : Nat) (x2 : Nat) (x3 : Int64) (x5 : Int32) (x6 : Int32) (σ : xH) : Option xR := xval E (xsem xT E d) 3 17 bX12_isLike (120, [(0, .ref x0), (1, .ref x1), (2, .ref x2), (3, .long x3), (5, .int x5), (6, .int x6)], [], σ, bc, bs)
noncomputable def qX12_isLike_126 (E : xEn) (d : Nat) (bc bs : Nat) (x1 : Nat) (x5 : Int32) (σ : xH) : Option xR := xval E (xsem xT E d) 3 17 bX12_isLike (126, [(1, .ref x1), (5, .int x5)], [], σ, bc, bs)
noncomputable def qX12_isLike_139 (E : xEn) (d : Nat) (bc bs : Nat) (σ : xH) : Option xR := xval E (xsem xT E d) 3 17 bX12_isLike (139, [], [], σ, bc, bs)
noncomputable def qX12_isLike_140 (E : xEn) (d : Nat) (bc bs : Nat) (s0 : Int32) (σ : xH) : Option xR := xval E (xsem xT E d) 3 17 bX12_isLike (140, [], [.int s0], σ, bc, bs)
set_option maxRecDepth 100000 in
theorem QX12_isLike_0 (E : xEn) (d : Nat) (bc bs : Nat) (x0 : Nat) (x1 : Nat) (σ : xH) : qX12_isLike_0 E d bc bs x0 x1 σ = gI σ 10 1 x0 (fun v1 => bif decide (¬ (v1 + (nI 1)) < 0) && (Nat.ble (bc + 1) 3 && (Nat.ble (bs + (v1 + (nI 1)).toNatClampNeg) 17 && Nat.ble (v1 + (nI 1)).toNatClampNeg 100000)) then nwA σ 2 (v1 + (nI 1)).toNatClampNeg (fun v2 σ1 => qX12_isLike_14 E d (bc + 1) (bs + (v1 + (nI 1)).toNatClampNeg) x0 x1 v2 (lN 0) (nI 0) σ1) else none) := xval_blkQ E (xsem xT E d) 3 17 bX12_isLike (pc := 0) rfl [(0, .ref x0), (1, .ref x1)] [] σ bc bs
set_option maxRecDepth 100000 in
theorem QX12_isLike_14 (E : xEn) (d : Nat) (bc bs : Nat) (x0 : Nat) (x1 : Nat) (x2 : Nat) (x3 : Int64) (x5 : Int32) (σ : xH) : qX12_isLike_14 E d bc bs x0 x1 x2 x3 x5 σ = gI σ 10 1 x0 (fun v1 => if v1 < x5 then qX12_isLike_53 E d bc bs x0 x1 x2 x3 σ else gR σ 10 0 x0 (fun v2 => bif Nat.ble bc 3 && Nat.ble bs 17 then gO E σ 13 v2 (cI (xthr 1 some) (xsem xT E d kJx4a65c_size_8abf5 [.ref v2] σ) (fun v3 σ1 => bif Nat.ble bc 3 && Nat.ble bs 17 then gO E σ1 10 x0 (cL (xthr 1 some) (xsem xT E d kX12_weight [.ref x0, .int v3, .int x5] σ1) (fun v4 σ2 => sL σ2 x2 x5 v4 (fun σ3 => aL σ3 x2 x5 (fun v5 => qX12_isLike_14 E d bc bs x0 x1 x2 (x3 + v5) (x5 + (nI 1)) σ3)))) else none)) else none)) := xval_blkQ E (xsem xT E d) 3 17 bX12_isLike (pc := 14) rfl [(0, .ref x0), (1, .ref x1), (2, .ref x2), (3, .long x3), (5, .int x5)] [] σ bc bs
set_option maxRecDepth 100000 in
theorem QX12_isLike_53 (E : xEn) (d : Nat) (bc bs : Nat) (x0 : Nat) (x1 : Nat) (x2 : Nat) (x3 : Int64) (σ : xH) : qX12_isLike_53 E d bc bs x0 x1 x2 x3 σ = qX12_isLike_59 E d bc bs x0 x1 x2 x3 (nI 0) (nI 0) σ := xval_blkQ E (xsem xT E d) 3 17 bX12_isLike (pc := 53) rfl [(0, .ref x0), (1, .ref x1), (2, .ref x2), (3, .long x3)] [] σ bc bs
set_option maxRecDepth 100000 in
theorem QX12_isLike_59 (E : xEn) (d : Nat) (bc bs : Nat) (x0 : Nat) (x1 : Nat) (x2 : Nat) (x3 : Int64) (x5 : Int32) (x6 : Int32) (σ : xH) : qX12_isLike_59 E d bc bs x0 x1 x2 x3 x5 x6 σ = gI σ 10 1 x0 (fun v1 => if v1 < x6 then qX12_isLike_126 E d bc bs x1 x5 σ else bif Nat.ble (bc + 1) 3 && Nat.ble (bs + 6) 17 then gO E σ 8 x1 (cI (xthr 5 some) (xsem xT E d kX10_belief [.ref x1, .int x6] σ) (fun v2 σ1 => aL σ1 x2 x6 (fun v3 => bif Nat.ble ((bc + 1) + 1) 3 && Nat.ble ((bs + 6) + 6) 17 then gO E σ1 8 x1 (cI (xthr 5 some) (xsem xT E d kX10_state [.ref x1, .int (nI 10)] σ1) (fun v4 σ2 => if (lg_cmp (v2.toInt64 * x3) (v3 * v4.toInt64)) = (nI 0) then qX12_isLike_95 E d ((bc + 1) + 1) ((bs + 6) + 6) x0 x1 x2 x3 x5 x6 σ2 else xiret [5] (nI 0) (some (.inl (some (.int (nI 0))), σ2)))) else none))) else none) := xval_blkQ E (xsem xT E d) 3 17 bX12_isLike (pc := 59) rfl [(0, .ref x0), (1, .ref x1), (2, .ref x2), (3, .long x3), (5, .int x5), (6, .int x6)] [] σ bc bs
set_option maxRecDepth 100000 in
theorem QX12_isLike_95 (E : xEn) (d : Nat) (bc bs : Nat) (x0 : Nat) (x1 : Nat) (x2 : Nat) (x3 : Int64) (x5 : Int32) (x6 : Int32) (σ : xH) : qX12_isLike_95 E d bc bs x0 x1 x2 x3 x5 x6 σ = gI σ 10 1 x0 (fun v1 => if v1 ≤ x6 then qX12_isLike_120 E d bc bs x0 x1 x2 x3 x5 x6 σ else aL σ x2 x6 (fun v2 => aL σ x2 x5 (fun v3 => if (lg_cmp v2 v3) ≤ (nI 0) then qX12_isLike_120 E d bc bs x0 x1 x2 x3 x5 x6 σ else qX12_isLike_120 E d bc bs x0 x1 x2 x3 x6 x6 σ))) := xval_blkQ E (xsem xT E d) 3 17 bX12_isLike (pc := 95) rfl [(0, .ref x0), (1, .ref x1), (2, .ref x2), (3, .long x3), (5, .int x5), (6, .int x6)] [] σ bc bs
set_option maxRecDepth 100000 in
theorem QX12_isLike_120 (E : xEn) (d : Nat) (bc bs : Nat) (x0 : Nat) (x1 : Nat) (x2 : Nat) (x3 : Int64) (x5 : Int32) (x6 : Int32) (σ : xH) : qX12_isLike_120 E d bc bs x0 x1 x2 x3 x5 x6 σ = qX12_isLike_59 E d bc bs x0 x1 x2 x3 x5 (x6 + (nI 1)) σ := xval_blkQ E (xsem xT E d) 3 17 bX12_isLike (pc := 120) rfl [(0, .ref x0), (1, .ref x1), (2, .ref x2), (3, .long x3), (5, .int x5), (6, .int x6)] [] σ bc bs
set_option maxRecDepth 100000 in
theorem QX12_isLike_126 (E : xEn) (d : Nat) (bc bs : Nat) (x1 : Nat) (x5 : Int32) (σ : xH) : qX12_isLike_126 E d bc bs x1 x5 σ = bif Nat.ble bc 3 && Nat.ble bs 17 then gO E σ 8 x1 (cI (xthr 1 some) (xsem xT E d kX10_guess [.ref x1] σ) (fun v1 σ1 => if v1 = x5 then qX12_isLike_140 E d bc bs (nI 1) σ1 else qX12_isLike_139 E d bc bs σ1)) else none := xval_blkQ E (xsem xT E d) 3 17 bX12_isLike (pc := 126) rfl [(1, .ref x1), (5, .int x5)] [] σ bc bs
set_option maxRecDepth 100000 in
theorem QX12_isLike_139 (E : xEn) (d : Nat) (bc bs : Nat) (σ : xH) : qX12_isLike_139 E d bc bs σ = qX12_isLike_140 E d bc bs (nI 0) σ := xval_blkQ E (xsem xT E d) 3 17 bX12_isLike (pc := 139) rfl [] [] σ bc bs
set_option maxRecDepth 100000 in
theorem QX12_isLike_140 (E : xEn) (d : Nat) (bc bs : Nat) (s0 : Int32) (σ : xH) : qX12_isLike_140 E d bc bs s0 σ = xiret [5] s0 (some (.inl (some (.int s0)), σ)) := xval_blkQ E (xsem xT E d) 3 17 bX12_isLike (pc := 140) rfl [] [.int s0] σ bc bs
theorem eX12_isLike (E : xEn) (d : Nat) (x0 : Nat) (x1 : Nat) (σ : xH) : xsem xT E (d + 1) kX12_isLike [.ref x0, .ref x1] σ = qX12_isLike_0 E d 0 0 x0 x1 σ := rfl
end
section
/-! EQUATIONS OF THE BLOCKS, written by wip/p31/geneq.py. -/
noncomputable def qL_steals_0 (E : xEn) (d : Nat) (bc bs : Nat) (x0 : Nat) (x1 : Int32) (σ : xH) : Option xR := xval E (xsem xT E d) 2 12 bL_steals (0, [(0, .ref x0), (1, .int x1)], [], σ, bc, bs)
set_option maxRecDepth 100000 in
theorem QL_steals_0 (E : xEn) (d : Nat) (bc bs : Nat) (x0 : Nat) (x1 : Int32) (σ : xH) : qL_steals_0 E d bc bs x0 x1 σ = bif Nat.ble (bc + 2) 2 && Nat.ble (bs + 12) 12 then gO E σ 8 x0 (cI (xthr 5 some) (xsem xT E d kX10_steal [.ref x0, .int x1] σ) (fun v1 σ1 => some (.inl (some (.int v1)), σ1))) else none := xval_blkQ E (xsem xT E d) 2 12 bL_steals (pc := 0) rfl [(0, .ref x0), (1, .int x1)] [] σ bc bs
theorem eL_steals (E : xEn) (d : Nat) (x0 : Nat) (x1 : Int32) (σ : xH) : xsem xT E (d + 1) kL_steals [.ref x0, .int x1] σ = xcat1 (qL_steals_0 E d 0 0 x0 x1 σ) := rfl
noncomputable def qL_plants_0 (E : xEn) (d : Nat) (bc bs : Nat) (x0 : Nat) (x1 : Int32) (σ : xH) : Option xR := xval E (xsem xT E d) 2 12 bL_plants (0, [(0, .ref x0), (1, .int x1)], [], σ, bc, bs)
set_option maxRecDepth 100000 in
theorem QL_plants_0 (E : xEn) (d : Nat) (bc bs : Nat) (x0 : Nat) (x1 : Int32) (σ : xH) : qL_plants_0 E d bc bs x0 x1 σ = bif Nat.ble (bc + 2) 2 && Nat.ble (bs + 12) 12 then gO E σ 8 x0 (cI (xthr 5 some) (xsem xT E d kX10_plant [.ref x0, .int x1] σ) (fun v1 σ1 => some (.inl (some (.int v1)), σ1))) else none := xval_blkQ E (xsem xT E d) 2 12 bL_plants (pc := 0) rfl [(0, .ref x0), (1, .int x1)] [] σ bc bs
theorem eL_plants (E : xEn) (d : Nat) (x0 : Nat) (x1 : Int32) (σ : xH) : xsem xT E (d + 1) kL_plants [.ref x0, .int x1] σ = xcat1 (qL_plants_0 E d 0 0 x0 x1 σ) := rfl
noncomputable def qL_cell_0 (E : xEn) (d : Nat) (x0 : Nat) (x1 : Int32) (σ : xH) : Option xR := xval E (xsem xT E d) 0 0 bL_cell (0, [(0, .ref x0), (1, .int x1)], [], σ, 0, 0)
noncomputable def qL_cell_12 (E : xEn) (d : Nat) (σ : xH) : Option xR := xval E (xsem xT E d) 0 0 bL_cell (12, [], [], σ, 0, 0)
noncomputable def qL_cell_13 (E : xEn) (d : Nat) (s0 : Int32) (σ : xH) : Option xR := xval E (xsem xT E d) 0 0 bL_cell (13, [], [.int s0], σ, 0, 0)
set_option maxRecDepth 100000 in
theorem QL_cell_0 (E : xEn) (d : Nat) (x0 : Nat) (x1 : Int32) (σ : xH) : qL_cell_0 E d x0 x1 σ = aN E σ x0 (fun v1 => if v1 ≤ x1 then qL_cell_12 E d σ else aI E σ x0 x1 (fun v2 => qL_cell_13 E d v2 σ)) := xval_blkQ E (xsem xT E d) 0 0 bL_cell (pc := 0) rfl [(0, .ref x0), (1, .int x1)] [] σ 0 0
set_option maxRecDepth 100000 in
theorem QL_cell_12 (E : xEn) (d : Nat) (σ : xH) : qL_cell_12 E d σ = qL_cell_13 E d (nI 0) σ := xval_blkQ E (xsem xT E d) 0 0 bL_cell (pc := 12) rfl [] [] σ 0 0
set_option maxRecDepth 100000 in
theorem QL_cell_13 (E : xEn) (d : Nat) (s0 : Int32) (σ : xH) : qL_cell_13 E d s0 σ = some (.inl (some (.int s0)), σ) := xval_blkQ E (xsem xT E d) 0 0 bL_cell (pc := 13) rfl [] [.int s0] σ 0 0
theorem eL_cell (E : xEn) (d : Nat) (x0 : Nat) (x1 : Int32) (σ : xH) : xsem xT E (d + 1) kL_cell [.ref x0, .int x1] σ = qL_cell_0 E d x0 x1 σ := rfl
noncomputable def qL_bound_0 (E : xEn) (d : Nat) (x0 : Int32) (x1 : Int32) (σ : xH) : Option xR := xval E (xsem xT E d) 0 0 bL_bound (0, [(0, .int x0), (1, .int x1)], [], σ, 0, 0)
set_option maxRecDepth 100000 in
theorem QL_bound_0 (E : xEn) (d : Nat) (x0 : Int32) (x1 : Int32) (σ : xH) : qL_bound_0 E d x0 x1 σ = nz (decide (¬ x1 = 0)) (some (.inl (some (.int ((x0 &&& (nI 2147483647)) - (x0 &&& (nI 2147483647)) / x1 * x1))), σ)) := xval_blkQ E (xsem xT E d) 0 0 bL_bound (pc := 0) rfl [(0, .int x0), (1, .int x1)] [] σ 0 0
theorem eL_bound (E : xEn) (d : Nat) (x0 : Int32) (x1 : Int32) (σ : xH) : xsem xT E (d + 1) kL_bound [.int x0, .int x1] σ = qL_bound_0 E d x0 x1 σ := rfl
noncomputable def qL_feeds_0 (E : xEn) (d : Nat) (bc bs : Nat) (x0 : Nat) (x1 : Nat) (σ : xH) : Option xR := xval E (xsem xT E d) 40 200 bL_feeds (0, [(0, .ref x0), (1, .ref x1)], [], σ, bc, bs)
noncomputable def qL_feeds_4 (E : xEn) (d : Nat) (bc bs : Nat) (x0 : Nat) (x1 : Nat) (x2 : Int32) (x3 : Int32) (σ : xH) : Option xR := xval E (xsem xT E d) 40 200 bL_feeds (4, [(0, .ref x0), (1, .ref x1), (2, .int x2), (3, .int x3)], [], σ, bc, bs)
noncomputable def qL_feeds_20 (E : xEn) (d : Nat) (bc bs : Nat) (x0 : Nat) (x1 : Nat) (x3 : Int32) (x4 : Nat) (x5 : Int32) (σ : xH) : Option xR := xval E (xsem xT E d) 40 200 bL_feeds (20, [(0, .ref x0), (1, .ref x1), (3, .int x3), (4, .ref x4), (5, .int x5)], [], σ, bc, bs)
noncomputable def qL_feeds_65 (E : xEn) (d : Nat) (bc bs : Nat) (x0 : Nat) (x1 : Nat) (x3 : Int32) (x4 : Nat) (x5 : Int32) (s0 : Nat) (s1 : Int32) (s2 : Int32) (σ : xH) : Option xR := xval E (xsem xT E d) 40 200 bL_feeds (65, [(0, .ref x0), (1, .ref x1), (3, .int x3), (4, .ref x4), (5, .int x5)], [.int s2, .int s1, .ref s0], σ, bc, bs)
noncomputable def qL_feeds_67 (E : xEn) (d : Nat) (bc bs : Nat) (x0 : Nat) (x1 : Nat) (x3 : Int32) (x4 : Nat) (x5 : Int32) (s0 : Nat) (s1 : Int32) (s2 : Int32) (s3 : Int32) (σ : xH) : Option xR := xval E (xsem xT E d) 40 200 bL_feeds (67, [(0, .ref x0), (1, .ref x1), (3, .int x3), (4, .ref x4), (5, .int x5)], [.int s3, .int s2, .int s1, .ref s0], σ, bc, bs)
noncomputable def qL_feeds_75 (E : xEn) (d : Nat) (bc bs : Nat) (x0 : Nat) (x1 : Nat) (x3 : Int32) (x4 : Nat) (σ : xH) : Option xR := xval E (xsem xT E d) 40 200 bL_feeds (75, [(0, .ref x0), (1, .ref x1), (3, .int x3), (4, .ref x4)], [], σ, bc, bs)
noncomputable def qL_feeds_106 (E : xEn) (d : Nat) (bc bs : Nat) (x2 : Int32) (σ : xH) : Option xR := xval E (xsem xT E d) 40 200 bL_feeds (106, [(2, .int x2)], [], σ, bc, bs)
set_option maxRecDepth 100000 in
theorem QL_feeds_0 (E : xEn) (d : Nat) (bc bs : Nat) (x0 : Nat) (x1 : Nat) (σ : xH) : qL_feeds_0 E d bc bs x0 x1 σ = qL_feeds_4 E d bc bs x0 x1 (nI 0) (nI 0) σ := xval_blkQ E (xsem xT E d) 40 200 bL_feeds (pc := 0) rfl [(0, .ref x0), (1, .ref x1)] [] σ bc bs
set_option maxRecDepth 100000 in
theorem QL_feeds_4 (E : xEn) (d : Nat) (bc bs : Nat) (x0 : Nat) (x1 : Nat) (x2 : Int32) (x3 : Int32) (σ : xH) : qL_feeds_4 E d bc bs x0 x1 x2 x3 σ = bif Nat.ble bc 40 && Nat.ble bs 200 then gO E σ 99 x1 (cI (xthr 1 some) (xsem xT E d kJ0_length_8abf5 [.ref x1] σ) (fun v1 σ1 => if v1 ≤ x3 then qL_feeds_106 E d bc bs x2 σ1 else bif Nat.ble (bc + 1) 40 && (Nat.ble (bs + 5) 200 && Nat.ble 5 100000) then nwA σ1 0 5 (fun v2 σ2 => qL_feeds_20 E d (bc + 1) (bs + 5) x0 x1 x3 v2 (nI 0) σ2) else none)) else none := xval_blkQ E (xsem xT E d) 40 200 bL_feeds (pc := 4) rfl [(0, .ref x0), (1, .ref x1), (2, .int x2), (3, .int x3)] [] σ bc bs
set_option maxRecDepth 100000 in
theorem QL_feeds_20 (E : xEn) (d : Nat) (bc bs : Nat) (x0 : Nat) (x1 : Nat) (x3 : Int32) (x4 : Nat) (x5 : Int32) (σ : xH) : qL_feeds_20 E d bc bs x0 x1 x3 x4 x5 σ = if (nI 20) ≤ x5 then qL_feeds_75 E d bc bs x0 x1 x3 x4 σ else nz (decide (¬ (nI 4) = 0)) (nz (decide (¬ (nI 4) = 0)) (aI E σ x4 (x5 / (nI 4)) (fun v1 => bif Nat.ble bc 40 && Nat.ble bs 200 then gO E σ 99 x1 (cI (xthr 1 some) (xsem xT E d kJ0_length_8abf5 [.ref x1] σ) (fun v2 σ1 => if v2 ≤ (x3 + x5) then qL_feeds_65 E d bc bs x0 x1 x3 x4 x5 x4 (x5 / (nI 4)) (v1 <<< ((nI 8) &&& 31)) σ1 else bif Nat.ble bc 40 && Nat.ble bs 200 then gO E σ1 99 x1 (cI (xthr 1 some) (xsem xT E d kJ0_charAt_5068e [.ref x1, .int (x3 + x5)] σ1) (fun v3 σ2 => qL_feeds_67 E d bc bs x0 x1 x3 x4 x5 x4 (x5 / (nI 4)) (v1 <<< ((nI 8) &&& 31)) v3 σ2)) else none)) else none))) := xval_blkQ E (xsem xT E d) 40 200 bL_feeds (pc := 20) rfl [(0, .ref x0), (1, .ref x1), (3, .int x3), (4, .ref x4), (5, .int x5)] [] σ bc bs
set_option maxRecDepth 100000 in
theorem QL_feeds_65 (E : xEn) (d : Nat) (bc bs : Nat) (x0 : Nat) (x1 : Nat) (x3 : Int32) (x4 : Nat) (x5 : Int32) (s0 : Nat) (s1 : Int32) (s2 : Int32) (σ : xH) : qL_feeds_65 E d bc bs x0 x1 x3 x4 x5 s0 s1 s2 σ = qL_feeds_67 E d bc bs x0 x1 x3 x4 x5 s0 s1 s2 (nI 32) σ := xval_blkQ E (xsem xT E d) 40 200 bL_feeds (pc := 65) rfl [(0, .ref x0), (1, .ref x1), (3, .int x3), (4, .ref x4), (5, .int x5)] [.int s2, .int s1, .ref s0] σ bc bs
set_option maxRecDepth 100000 in
theorem QL_feeds_67 (E : xEn) (d : Nat) (bc bs : Nat) (x0 : Nat) (x1 : Nat) (x3 : Int32) (x4 : Nat) (x5 : Int32) (s0 : Nat) (s1 : Int32) (s2 : Int32) (s3 : Int32) (σ : xH) : qL_feeds_67 E d bc bs x0 x1 x3 x4 x5 s0 s1 s2 s3 σ = sI σ s0 s1 (s2 ||| s3) (fun σ1 => qL_feeds_20 E d bc bs x0 x1 x3 x4 (x5 + (nI 1)) σ1) := xval_blkQ E (xsem xT E d) 40 200 bL_feeds (pc := 67) rfl [(0, .ref x0), (1, .ref x1), (3, .int x3), (4, .ref x4), (5, .int x5)] [.int s3, .int s2, .int s1, .ref s0] σ bc bs
set_option maxRecDepth 100000 in
theorem QL_feeds_75 (E : xEn) (d : Nat) (bc bs : Nat) (x0 : Nat) (x1 : Nat) (x3 : Int32) (x4 : Nat) (σ : xH) : qL_feeds_75 E d bc bs x0 x1 x3 x4 σ = aI E σ x4 (nI 0) (fun v1 => aI E σ x4 (nI 1) (fun v2 => aI E σ x4 (nI 2) (fun v3 => aI E σ x4 (nI 3) (fun v4 => aI E σ x4 (nI 4) (fun v5 => bif Nat.ble bc 40 && Nat.ble bs 200 then gO E σ 8 x0 (cI (xthr 5 some) (xsem xT E d kX10_append [.ref x0, .int v1, .int v2, .int v3, .int v4, .int v5] σ) (fun v6 σ1 => qL_feeds_4 E d bc bs x0 x1 v6 (x3 + (nI 20)) σ1)) else none))))) := xval_blkQ E (xsem xT E d) 40 200 bL_feeds (pc := 75) rfl [(0, .ref x0), (1, .ref x1), (3, .int x3), (4, .ref x4)] [] σ bc bs
set_option maxRecDepth 100000 in
theorem QL_feeds_106 (E : xEn) (d : Nat) (bc bs : Nat) (x2 : Int32) (σ : xH) : qL_feeds_106 E d bc bs x2 σ = some (.inl (some (.int x2)), σ) := xval_blkQ E (xsem xT E d) 40 200 bL_feeds (pc := 106) rfl [(2, .int x2)] [] σ bc bs
theorem eL_feeds (E : xEn) (d : Nat) (x0 : Nat) (x1 : Nat) (σ : xH) : xsem xT E (d + 1) kL_feeds [.ref x0, .ref x1] σ = qL_feeds_0 E d 0 0 x0 x1 σ := rfl
noncomputable def qL_read_0 (E : xEn) (d : Nat) (bc bs : Nat) (x0 : Nat) (x1 : Nat) (σ : xH) : Option xR := xval E (xsem xT E d) 41 206 bL_read (0, [(0, .ref x0), (1, .ref x1)], [], σ, bc, bs)
noncomputable def qL_read_13 (E : xEn) (d : Nat) (bc bs : Nat) (x0 : Nat) (x1 : Nat) (σ : xH) : Option xR := xval E (xsem xT E d) 41 206 bL_read (13, [(0, .ref x0), (1, .ref x1)], [], σ, bc, bs)
noncomputable def qL_read_21 (E : xEn) (d : Nat) (bc bs : Nat) (s0 : Int32) (σ : xH) : Option xR := xval E (xsem xT E d) 41 206 bL_read (21, [], [.int s0], σ, bc, bs)
set_option maxRecDepth 100000 in
theorem QL_read_0 (E : xEn) (d : Nat) (bc bs : Nat) (x0 : Nat) (x1 : Nat) (σ : xH) : qL_read_0 E d bc bs x0 x1 σ = bif Nat.ble (bc + 40) 41 && Nat.ble (bs + 200) 206 then cI (xthr 0 some) (xsem xT E d kL_feeds [.ref x0, .ref x1] σ) (fun v1 σ1 => if (nI 0) ≤ v1 then qL_read_13 E d (bc + 40) (bs + 200) x0 x1 σ1 else qL_read_21 E d (bc + 40) (bs + 200) (-99 : Int32) σ1) else none := xval_blkQ E (xsem xT E d) 41 206 bL_read (pc := 0) rfl [(0, .ref x0), (1, .ref x1)] [] σ bc bs
set_option maxRecDepth 100000 in
theorem QL_read_13 (E : xEn) (d : Nat) (bc bs : Nat) (x0 : Nat) (x1 : Nat) (σ : xH) : qL_read_13 E d bc bs x0 x1 σ = bif Nat.ble bc 41 && Nat.ble bs 206 then gO E σ 99 x1 (cI (xthr 1 some) (xsem xT E d kJ0_length_8abf5 [.ref x1] σ) (fun v1 σ1 => bif Nat.ble (bc + 1) 41 && Nat.ble (bs + 6) 206 then gO E σ1 8 x0 (cI (xthr 5 some) (xsem xT E d kX10_load [.ref x0, .int v1] σ1) (fun v2 σ2 => qL_read_21 E d (bc + 1) (bs + 6) v2 σ2)) else none)) else none := xval_blkQ E (xsem xT E d) 41 206 bL_read (pc := 13) rfl [(0, .ref x0), (1, .ref x1)] [] σ bc bs
set_option maxRecDepth 100000 in
theorem QL_read_21 (E : xEn) (d : Nat) (bc bs : Nat) (s0 : Int32) (σ : xH) : qL_read_21 E d bc bs s0 σ = some (.inl (some (.int s0)), σ) := xval_blkQ E (xsem xT E d) 41 206 bL_read (pc := 21) rfl [] [.int s0] σ bc bs
theorem eL_read (E : xEn) (d : Nat) (x0 : Nat) (x1 : Nat) (σ : xH) : xsem xT E (d + 1) kL_read [.ref x0, .ref x1] σ = qL_read_0 E d 0 0 x0 x1 σ := rfl
noncomputable def qL_law_0 (E : xEn) (d : Nat) (bc bs : Nat) (x0 : Nat) (σ : xH) : Option xR := xval E (xsem xT E d) 3000 60000 bL_law (0, [(0, .ref x0)], [], σ, bc, bs)
noncomputable def qL_law_168 (E : xEn) (d : Nat) (bc bs : Nat) (x0 : Nat) (x1 : Int32) (x2 : Int32) (x3 : Int32) (x4 : Int32) (x5 : Int32) (x6 : Int32) (x7 : Int32) (x8 : Nat) (x9 : Int32) (σ : xH) : Option xR := xval E (xsem xT E d) 3000 60000 bL_law (168, [(0, .ref x0), (1, .int x1), (2, .int x2), (3, .int x3), (4, .int x4), (5, .int x5), (6, .int x6), (7, .int x7), (8, .ref x8), (9, .int x9)], [], σ, bc, bs)
noncomputable def qL_law_203 (E : xEn) (d : Nat) (bc bs : Nat) (x0 : Nat) (x1 : Int32) (x2 : Int32) (x3 : Int32) (x4 : Int32) (x5 : Int32) (x6 : Int32) (x7 : Int32) (x8 : Nat) (x9 : Int32) (σ : xH) : Option xR := xval E (xsem xT E d) 3000 60000 bL_law (203, [(0, .ref x0), (1, .int x1), (2, .int x2), (3, .int x3), (4, .int x4), (5, .int x5), (6, .int x6), (7, .int x7), (8, .ref x8), (9, .int x9)], [], σ, bc, bs)
noncomputable def qL_law_209 (E : xEn) (d : Nat) (bc bs : Nat) (x0 : Nat) (x1 : Int32) (x2 : Int32) (x3 : Int32) (x4 : Int32) (x5 : Int32) (x6 : Int32) (x7 : Int32) (x8 : Nat) (σ : xH) : Option xR := xval E (xsem xT E d) 3000 60000 bL_law (209, [(0, .ref x0), (1, .int x1), (2, .int x2), (3, .int x3), (4, .int x4), (5, .int x5), (6, .int x6), (7, .int x7), (8, .ref x8)], [], σ, bc, bs)
noncomputable def qL_law_212 (E : xEn) (d : Nat) (bc bs : Nat) (x0 : Nat) (x1 : Int32) (x2 : Int32) (x3 : Int32) (x4 : Int32) (x5 : Int32) (x6 : Int32) (x7 : Int32) (x8 : Nat) (x9 : Int32) (σ : xH) : Option xR := xval E (xsem xT E d) 3000 60000 bL_law (212, [(0, .ref x0), (1, .int x1), (2, .int x2), (3, .int x3), (4, .int x4), (5, .int x5), (6, .int x6), (7, .int x7), (8, .ref x8), (9, .int x9)], [], σ, bc, bs)
noncomputable def qL_law_257 (E : xEn) (d : Nat) (bc bs : Nat) (x0 : Nat) (x1 : Int32) (x2 : Int32) (x3 : Int32) (x4 : Int32) (x5 : Int32) (x6 : Int32) (x7 : Int32) (x8 : Nat) (x9 : Int32) (σ : xH) : Option xR := xval E (xsem xT E d) 3000 60000 bL_law (257, [(0, .ref x0), (1, .int x1), (2, .int x2), (3, .int x3), (4, .int x4), (5, .int x5), (6, .int x6), (7, .int x7), (8, .ref x8), (9, .int x9)], [], σ, bc, bs)
noncomputable def qL_law_263 (E : xEn) (d : Nat) (bc bs : Nat) (x0 : Nat) (x1 : Int32) (x2 : Int32) (x3 : Int32) (x4 : Int32) (x5 : Int32) (x6 : Int32) (x7 : Int32) (x8 : Nat) (σ : xH) : Option xR := xval E (xsem xT E d) 3000 60000 bL_law (263, [(0, .ref x0), (1, .int x1), (2, .int x2), (3, .int x3), (4, .int x4), (5, .int x5), (6, .int x6), (7, .int x7), (8, .ref x8)], [], σ, bc, bs)
noncomputable def qL_law_288 (E : xEn) (d : Nat) (bc bs : Nat) (x0 : Nat) (x1 : Int32) (x2 : Int32) (x3 : Int32) (x4 : Int32) (x5 : Int32) (x6 : Int32) (x7 : Int32) (x9 : Nat) (σ : xH) : Option xR := xval E (xsem xT E d) 3000 60000 bL_law (288, [(0, .ref x0), (1, .int x1), (2, .int x2), (3, .int x3), (4, .int x4), (5, .int x5), (6, .int x6), (7, .int x7), (9, .ref x9)], [], σ, bc, bs)
noncomputable def qL_law_311 (E : xEn) (d : Nat) (bc bs : Nat) (x0 : Nat) (x1 : Int32) (x4 : Int32) (x6 : Int32) (x7 : Int32) (x9 : Nat) (x10 : Nat) (x11 : Int32) (x12 : Int32) (σ : xH) : Option xR := xval E (xsem xT E d) 3000 60000 bL_law (311, [(0, .ref x0), (1, .int x1), (4, .int x4), (6, .int x6), (7, .int x7), (9, .ref x9), (10, .ref x10), (11, .int x11), (12, .int x12)], [], σ, bc, bs)
noncomputable def qL_law_369 (E : xEn) (d : Nat) (bc bs : Nat) (x0 : Nat) (x1 : Int32) (x4 : Int32) (x6 : Int32) (x7 : Int32) (x9 : Nat) (x10 : Nat) (x11 : Int32) (x12 : Int32) (x13 : Int32) (x14 : Int32) (x15 : Int32) (σ : xH) : Option xR := xval E (xsem xT E d) 3000 60000 bL_law (369, [(0, .ref x0), (1, .int x1), (4, .int x4), (6, .int x6), (7, .int x7), (9, .ref x9), (10, .ref x10), (11, .int x11), (12, .int x12), (13, .int x13), (14, .int x14), (15, .int x15)], [], σ, bc, bs)
noncomputable def qL_law_370 (E : xEn) (d : Nat) (bc bs : Nat) (x0 : Nat) (x1 : Int32) (x4 : Int32) (x6 : Int32) (x7 : Int32) (x9 : Nat) (x10 : Nat) (x11 : Int32) (x12 : Int32) (x13 : Int32) (x14 : Int32) (x15 : Int32) (s0 : Int32) (σ : xH) : Option xR := xval E (xsem xT E d) 3000 60000 bL_law (370, [(0, .ref x0), (1, .int x1), (4, .int x4), (6, .int x6), (7, .int x7), (9, .ref x9), (10, .ref x10), (11, .int x11), (12, .int x12), (13, .int x13), (14, .int x14), (15, .int x15)], [.int s0], σ, bc, bs)
noncomputable def qL_law_386 (E : xEn) (d : Nat) (bc bs : Nat) (x0 : Nat) (x1 : Int32) (x4 : Int32) (x6 : Int32) (x7 : Int32) (x9 : Nat) (x10 : Nat) (x11 : Int32) (x12 : Int32) (x13 : Int32) (x14 : Int32) (x15 : Int32) (x16 : Int32) (σ : xH) : Option xR := xval E (xsem xT E d) 3000 60000 bL_law (386, [(0, .ref x0), (1, .int x1), (4, .int x4), (6, .int x6), (7, .int x7), (9, .ref x9), (10, .ref x10), (11, .int x11), (12, .int x12), (13, .int x13), (14, .int x14), (15, .int x15), (16, .int x16)], [], σ, bc, bs)
noncomputable def qL_law_413 (E : xEn) (d : Nat) (bc bs : Nat) (x0 : Nat) (x1 : Int32) (x4 : Int32) (x6 : Int32) (x7 : Int32) (x9 : Nat) (x10 : Nat) (x11 : Int32) (x12 : Int32) (x14 : Int32) (x15 : Int32) (x16 : Int32) (x17 : Int32) (σ : xH) : Option xR := xval E (xsem xT E d) 3000 60000 bL_law (413, [(0, .ref x0), (1, .int x1), (4, .int x4), (6, .int x6), (7, .int x7), (9, .ref x9), (10, .ref x10), (11, .int x11), (12, .int x12), (14, .int x14), (15, .int x15), (16, .int x16), (17, .int x17)], [], σ, bc, bs)
noncomputable def qL_law_429 (E : xEn) (d : Nat) (bc bs : Nat) (x0 : Nat) (x1 : Int32) (x4 : Int32) (x6 : Int32) (x7 : Int32) (x9 : Nat) (x10 : Nat) (x11 : Int32) (x12 : Int32) (x14 : Int32) (x15 : Int32) (x16 : Int32) (x17 : Int32) (σ : xH) : Option xR := xval E (xsem xT E d) 3000 60000 bL_law (429, [(0, .ref x0), (1, .int x1), (4, .int x4), (6, .int x6), (7, .int x7), (9, .ref x9), (10, .ref x10), (11, .int x11), (12, .int x12), (14, .int x14), (15, .int x15), (16, .int x16), (17, .int x17)], [], σ, bc, bs)
noncomputable def qL_law_452 (E : xEn) (d : Nat) (bc bs : Nat) (x0 : Nat) (x1 : Int32) (x4 : Int32) (x6 : Int32) (x7 : Int32) (x9 : Nat) (x10 : Nat) (x11 : Int32) (x12 : Int32) (x14 : Int32) (x15 : Int32) (x16 : Int32) (s0 : Int32) (σ : xH) : Option xR := xval E (xsem xT E d) 3000 60000 bL_law (452, [(0, .ref x0), (1, .int x1), (4, .int x4), (6, .int x6), (7, .int x7), (9, .ref x9), (10, .ref x10), (11, .int x11), (12, .int x12), (14, .int x14), (15, .int x15), (16, .int x16)], [.int s0], σ, bc, bs)
noncomputable def qL_law_453 (E : xEn) (d : Nat) (bc bs : Nat) (x0 : Nat) (x1 : Int32) (x4 : Int32) (x6 : Int32) (x7 : Int32) (x9 : Nat) (x10 : Nat) (x11 : Int32) (x12 : Int32) (x14 : Int32) (x15 : Int32) (x16 : Int32) (s0 : Int32) (s1 : Int32) (σ : xH) : Option xR := xval E (xsem xT E d) 3000 60000 bL_law (453, [(0, .ref x0), (1, .int x1), (4, .int x4), (6, .int x6), (7, .int x7), (9, .ref x9), (10, .ref x10), (11, .int x11), (12, .int x12), (14, .int x14), (15, .int x15), (16, .int x16)], [.int s1, .int s0], σ, bc, bs)
noncomputable def qL_law_460 (E : xEn) (d : Nat) (bc bs : Nat) (x0 : Nat) (x1 : Int32) (x4 : Int32) (x6 : Int32) (x7 : Int32) (x9 : Nat) (x10 : Nat) (x11 : Int32) (x12 : Int32) (x14 : Int32) (x15 : Int32) (x16 : Int32) (σ : xH) : Option xR := xval E (xsem xT E d) 3000 60000 bL_law (460, [(0, .ref x0), (1, .int x1), (4, .int x4), (6, .int x6), (7, .int x7), (9, .ref x9), (10, .ref x10), (11, .int x11), (12, .int x12), (14, .int x14), (15, .int x15), (16, .int x16)], [], σ, bc, bs)
noncomputable def qL_law_461 (E : xEn) (d : Nat) (bc bs : Nat) (x0 : Nat) (x1 : Int32) (x4 : Int32) (x6 : Int32) (x7 : Int32) (x9 : Nat) (x10 : Nat) (x11 : Int32) (x12 : Int32) (x14 : Int32) (x15 : Int32) (x16 : Int32) (s0 : Int32) (σ : xH) : Option xR := xval E (xsem xT E d) 3000 60000 bL_law (461, [(0, .ref x0), (1, .int x1), (4, .int x4), (6, .int x6), (7, .int x7), (9, .ref x9), (10, .ref x10), (11, .int x11), (12, .int x12), (14, .int x14), (15, .int x15), (16, .int x16)], [.int s0], σ, bc, bs)
noncomputable def qL_law_479 (E : xEn) (d : Nat) (bc bs : Nat) (σ : xH) : Option xR := xval E (xsem xT E d) 3000 60000 bL_law (479, [], [], σ, bc, bs)
noncomputable def qL_law_481 (E : xEn) (d : Nat) (bc bs : Nat) (x0 : Nat) (x1 : Int32) (x4 : Int32) (x6 : Int32) (x7 : Int32) (x9 : Nat) (x10 : Nat) (x11 : Int32) (x12 : Int32) (x14 : Int32) (x15 : Int32) (x16 : Int32) (σ : xH) : Option xR := xval E (xsem xT E d) 3000 60000 bL_law (481, [(0, .ref x0), (1, .int x1), (4, .int x4), (6, .int x6), (7, .int x7), (9, .ref x9), (10, .ref x10), (11, .int x11), (12, .int x12), (14, .int x14), (15, .int x15), (16, .int x16)], [], σ, bc, bs)
noncomputable def qL_law_484 (E : xEn) (d : Nat) (bc bs : Nat) (x0 : Nat) (x1 : Int32) (x4 : Int32) (x6 : Int32) (x7 : Int32) (x9 : Nat) (x10 : Nat) (x11 : Int32) (x12 : Int32) (x14 : Int32) (x15 : Int32) (x16 : Int32) (x17 : Int32) (σ : xH) : Option xR := xval E (xsem xT E d) 3000 60000 bL_law (484, [(0, .ref x0), (1, .int x1), (4, .int x4), (6, .int x6), (7, .int x7), (9, .ref x9), (10, .ref x10), (11, .int x11), (12, .int x12), (14, .int x14), (15, .int x15), (16, .int x16), (17, .int x17)], [], σ, bc, bs)
noncomputable def qL_law_503 (E : xEn) (d : Nat) (bc bs : Nat) (x0 : Nat) (x1 : Int32) (x4 : Int32) (x6 : Int32) (x7 : Int32) (x9 : Nat) (x10 : Nat) (x11 : Int32) (x12 : Int32) (x14 : Int32) (x15 : Int32) (x16 : Int32) (x17 : Int32) (σ : xH) : Option xR := xval E (xsem xT E d) 3000 60000 bL_law (503, [(0, .ref x0), (1, .int x1), (4, .int x4), (6, .int x6), (7, .int x7), (9, .ref x9), (10, .ref x10), (11, .int x11), (12, .int x12), (14, .int x14), (15, .int x15), (16, .int x16), (17, .int x17)], [], σ, bc, bs)
noncomputable def qL_law_523 (E : xEn) (d : Nat) (bc bs : Nat) (x0 : Nat) (x1 : Int32) (x4 : Int32) (x6 : Int32) (x7 : Int32) (x9 : Nat) (x10 : Nat) (x11 : Int32) (x12 : Int32) (x14 : Int32) (x15 : Int32) (x16 : Int32) (x17 : Int32) (σ : xH) : Option xR := xval E (xsem xT E d) 3000 60000 bL_law (523, [(0, .ref x0), (1, .int x1), (4, .int x4), (6, .int x6), (7, .int x7), (9, .ref x9), (10, .ref x10), (11, .int x11), (12, .int x12), (14, .int x14), (15, .int x15), (16, .int x16), (17, .int x17)], [], σ, bc, bs)
noncomputable def qL_law_539 (E : xEn) (d : Nat) (bc bs : Nat) (σ : xH) : Option xR := xval E (xsem xT E d) 3000 60000 bL_law (539, [], [], σ, bc, bs)
noncomputable def qL_law_541 (E : xEn) (d : Nat) (bc bs : Nat) (x0 : Nat) (x1 : Int32) (x4 : Int32) (x6 : Int32) (x7 : Int32) (x9 : Nat) (x10 : Nat) (x11 : Int32) (x12 : Int32) (x14 : Int32) (x15 : Int32) (x16 : Int32) (x17 : Int32) (σ : xH) : Option xR := xval E (xsem xT E d) 3000 60000 bL_law (541, [(0, .ref x0), (1, .int x1), (4, .int x4), (6, .int x6), (7, .int x7), (9, .ref x9), (10, .ref x10), (11, .int x11), (12, .int x12), (14, .int x14), (15, .int x15), (16, .int x16), (17, .int x17)], [], σ, bc, bs)
noncomputable def qL_law_558 (E : xEn) (d : Nat) (bc bs : Nat) (x0 : Nat) (x1 : Int32) (x4 : Int32) (x6 : Int32) (x7 : Int32) (x9 : Nat) (x10 : Nat) (x11 : Int32) (x12 : Int32) (x14 : Int32) (x15 : Int32) (x16 : Int32) (x17 : Int32) (σ : xH) : Option xR := xval E (xsem xT E d) 3000 60000 bL_law (558, [(0, .ref x0), (1, .int x1), (4, .int x4), (6, .int x6), (7, .int x7), (9, .ref x9), (10, .ref x10), (11, .int x11), (12, .int x12), (14, .int x14), (15, .int x15), (16, .int x16), (17, .int x17)], [], σ, bc, bs)
noncomputable def qL_law_560 (E : xEn) (d : Nat) (bc bs : Nat) (x0 : Nat) (x1 : Int32) (x4 : Int32) (x6 : Int32) (x7 : Int32) (x9 : Nat) (x10 : Nat) (x11 : Int32) (x12 : Int32) (x14 : Int32) (x15 : Int32) (x16 : Int32) (x17 : Int32) (s0 : Int32) (σ : xH) : Option xR := xval E (xsem xT E d) 3000 60000 bL_law (560, [(0, .ref x0), (1, .int x1), (4, .int x4), (6, .int x6), (7, .int x7), (9, .ref x9), (10, .ref x10), (11, .int x11), (12, .int x12), (14, .int x14), (15, .int x15), (16, .int x16), (17, .int x17)], [.int s0], σ, bc, bs)
noncomputable def qL_law_611 (E : xEn) (d : Nat) (bc bs : Nat) (x0 : Nat) (x1 : Int32) (x4 : Int32) (x6 : Int32) (x7 : Int32) (x9 : Nat) (x10 : Nat) (x11 : Int32) (x12 : Int32) (x14 : Int32) (x17 : Int32) (σ : xH) : Option xR := xval E (xsem xT E d) 3000 60000 bL_law (611, [(0, .ref x0), (1, .int x1), (4, .int x4), (6, .int x6), (7, .int x7), (9, .ref x9), (10, .ref x10), (11, .int x11), (12, .int x12), (14, .int x14), (17, .int x17)], [], σ, bc, bs)
noncomputable def qL_law_621 (E : xEn) (d : Nat) (bc bs : Nat) (x0 : Nat) (x1 : Int32) (x4 : Int32) (x6 : Int32) (x7 : Int32) (x9 : Nat) (x10 : Nat) (x11 : Int32) (x12 : Int32) (x14 : Int32) (x17 : Int32) (σ : xH) : Option xR := xval E (xsem xT E d) 3000 60000 bL_law (621, [(0, .ref x0), (1, .int x1), (4, .int x4), (6, .int x6), (7, .int x7), (9, .ref x9), (10, .ref x10), (11, .int x11), (12, .int x12), (14, .int x14), (17, .int x17)], [], σ, bc, bs)
noncomputable def qL_law_632 (E : xEn) (d : Nat) (bc bs : Nat) (x0 : Nat) (x1 : Int32) (x4 : Int32) (x6 : Int32) (x7 : Int32) (x9 : Nat) (x10 : Nat) (x11 : Int32) (x12 : Int32) (σ : xH) : Option xR := xval E (xsem xT E d) 3000 60000 bL_law (632, [(0, .ref x0), (1, .int x1), (4, .int x4), (6, .int x6), (7, .int x7), (9, .ref x9), (10, .ref x10), (11, .int x11), (12, .int x12)], [], σ, bc, bs)
noncomputable def qL_law_634 (E : xEn) (d : Nat) (bc bs : Nat) (x0 : Nat) (x1 : Int32) (x4 : Int32) (x6 : Int32) (x7 : Int32) (x9 : Nat) (x10 : Nat) (x12 : Int32) (s0 : Int32) (σ : xH) : Option xR := xval E (xsem xT E d) 3000 60000 bL_law (634, [(0, .ref x0), (1, .int x1), (4, .int x4), (6, .int x6), (7, .int x7), (9, .ref x9), (10, .ref x10), (12, .int x12)], [.int s0], σ, bc, bs)
noncomputable def qL_law_670 (E : xEn) (d : Nat) (bc bs : Nat) (σ : xH) : Option xR := xval E (xsem xT E d) 3000 60000 bL_law (670, [], [], σ, bc, bs)
noncomputable def qL_law_672 (E : xEn) (d : Nat) (bc bs : Nat) (x0 : Nat) (x1 : Int32) (x4 : Int32) (x6 : Int32) (x7 : Int32) (x9 : Nat) (x10 : Nat) (x11 : Int32) (x12 : Int32) (σ : xH) : Option xR := xval E (xsem xT E d) 3000 60000 bL_law (672, [(0, .ref x0), (1, .int x1), (4, .int x4), (6, .int x6), (7, .int x7), (9, .ref x9), (10, .ref x10), (11, .int x11), (12, .int x12)], [], σ, bc, bs)
noncomputable def qL_law_678 (E : xEn) (d : Nat) (bc bs : Nat) (x0 : Nat) (x1 : Int32) (x9 : Nat) (x11 : Int32) (σ : xH) : Option xR := xval E (xsem xT E d) 3000 60000 bL_law (678, [(0, .ref x0), (1, .int x1), (9, .ref x9), (11, .int x11)], [], σ, bc, bs)
noncomputable def qL_law_711 (E : xEn) (d : Nat) (bc bs : Nat) (x9 : Nat) (x11 : Int32) (x12 : Int32) (x13 : Int32) (s0 : Int32) (σ : xH) : Option xR := xval E (xsem xT E d) 3000 60000 bL_law (711, [(9, .ref x9), (11, .int x11), (12, .int x12), (13, .int x13)], [.int s0], σ, bc, bs)
noncomputable def qL_law_712 (E : xEn) (d : Nat) (bc bs : Nat) (x9 : Nat) (x11 : Int32) (x12 : Int32) (x13 : Int32) (s0 : Int32) (s1 : Int32) (σ : xH) : Option xR := xval E (xsem xT E d) 3000 60000 bL_law (712, [(9, .ref x9), (11, .int x11), (12, .int x12), (13, .int x13)], [.int s1, .int s0], σ, bc, bs)
noncomputable def qL_law_745 (E : xEn) (d : Nat) (bc bs : Nat) (x9 : Nat) (x11 : Int32) (x12 : Int32) (σ : xH) : Option xR := xval E (xsem xT E d) 3000 60000 bL_law (745, [(9, .ref x9), (11, .int x11), (12, .int x12)], [], σ, bc, bs)
noncomputable def qL_law_765 (E : xEn) (d : Nat) (bc bs : Nat) (σ : xH) : Option xR := xval E (xsem xT E d) 3000 60000 bL_law (765, [], [], σ, bc, bs)
noncomputable def qL_law_769 (E : xEn) (d : Nat) (bc bs : Nat) (σ : xH) : Option xR := xval E (xsem xT E d) 3000 60000 bL_law (769, [], [], σ, bc, bs)
noncomputable def qL_law_770 (E : xEn) (d : Nat) (bc bs : Nat) (s0 : Int32) (σ : xH) : Option xR := xval E (xsem xT E d) 3000 60000 bL_law (770, [], [.int s0], σ, bc, bs)
set_option maxRecDepth 100000 in
theorem QL_law_0 (E : xEn) (d : Nat) (bc bs : Nat) (x0 : Nat) (σ : xH) : qL_law_0 E d bc bs x0 σ = bif Nat.ble bc 3000 && Nat.ble bs 60000 then cI (xthr 0 some) (xsem xT E d kL_cell [.ref x0, .int (nI 0)] σ) (fun v1 σ1 => bif Nat.ble bc 3000 && Nat.ble bs 60000 then cI (xthr 0 some) (xsem xT E d kL_bound [.int v1, .int (nI 3)] σ1) (fun v2 σ2 => bif Nat.ble bc 3000 && Nat.ble bs 60000 then cI (xthr 0 some) (xsem xT E d kL_cell [.ref x0, .int (nI 0)] σ2) (fun v3 σ3 => bif Nat.ble bc 3000 && Nat.ble bs 60000 then cI (xthr 0 some) (xsem xT E d kL_bound [.int (v3 >>> ((nI 4) &&& 31)), .int (nI 99)] σ3) (fun v4 σ4 => bif Nat.ble bc 3000 && Nat.ble bs 60000 then cI (xthr 0 some) (xsem xT E d kL_cell [.ref x0, .int (nI 0)] σ4) (fun v5 σ5 => bif Nat.ble bc 3000 && Nat.ble bs 60000 then cI (xthr 0 some) (xsem xT E d kL_bound [.int (v5 >>> ((nI 12) &&& 31)), .int (nI 9)] σ5) (fun v6 σ6 => bif Nat.ble bc 3000 && Nat.ble bs 60000 then cI (xthr 0 some) (xsem xT E d kL_cell [.ref x0, .int (nI 0)] σ6) (fun v7 σ7 => bif Nat.ble bc 3000 && Nat.ble bs 60000 then cI (xthr 0 some) (xsem xT E d kL_bound [.int (v7 >>> ((nI 16) &&& 31)), .int (nI 10)] σ7) (fun v8 σ8 => bif Nat.ble bc 3000 && Nat.ble bs 60000 then cI (xthr 0 some) (xsem xT E d kL_cell [.ref x0, .int (nI 1)] σ8) (fun v9 σ9 => bif Nat.ble bc 3000 && Nat.ble bs 60000 then cI (xthr 0 some) (xsem xT E d kL_bound [.int v9, .int ((nI 2) + v2)] σ9) (fun v10 σ10 => bif Nat.ble bc 3000 && Nat.ble bs 60000 then cI (xthr 0 some) (xsem xT E d kL_cell [.ref x0, .int (nI 1)] σ10) (fun v11 σ11 => bif Nat.ble bc 3000 && Nat.ble bs 60000 then cI (xthr 0 some) (xsem xT E d kL_bound [.int (v11 >>> ((nI 4) &&& 31)), .int ((nI 1) <<< (((nI 2) + v2) &&& 31))] σ11) (fun v12 σ12 => bif Nat.ble bc 3000 && Nat.ble bs 60000 then cI (xthr 0 some) (xsem xT E d kL_cell [.ref x0, .int (nI 1)] σ12) (fun v13 σ13 => bif Nat.ble (bc + 1) 3000 && Nat.ble (bs + 4) 60000 then nwO σ13 12 4 (fun v14 σ14 => bif Nat.ble ((bc + 1) + 1) 3000 && Nat.ble ((bs + 4) + 4) 60000 then nwO σ14 12 4 (fun v15 σ15 => bif Nat.ble (((bc + 1) + 1) + 1) 3000 && Nat.ble (((bs + 4) + 4) + 16) 60000 then gO E σ15 12 v15 (cV (xthr 2 some) (xsem xT E d kJ4_init_da8c8 [.ref v15] σ15) (fun σ16 => bif Nat.ble ((((bc + 1) + 1) + 1) + 1) 3000 && Nat.ble ((((bs + 4) + 4) + 16) + 250) 60000 then gO E σ16 12 v15 (cA (xthr 1 some) (xsem xT E d kJ4_append_15ec4 [.ref v15, .ref (E.2.1 27)] σ16) (fun v16 σ17 => bif Nat.ble (((((bc + 1) + 1) + 1) + 1) + 1) 3000 && Nat.ble (((((bs + 4) + 4) + 16) + 250) + 250) 60000 then gO E σ17 12 v16 (cA (xthr 1 some) (xsem xT E d kJ4_append_bf812 [.ref v16, .int ((nI 2) + v2)] σ17) (fun v17 σ18 => bif Nat.ble ((((((bc + 1) + 1) + 1) + 1) + 1) + 1) 3000 && Nat.ble ((((((bs + 4) + 4) + 16) + 250) + 250) + 250) 60000 then gO E σ18 12 v17 (cA (xthr 1 some) (xsem xT E d kJ4_append_15ec4 [.ref v17, .ref (E.2.1 28)] σ18) (fun v18 σ19 => bif Nat.ble (((((((bc + 1) + 1) + 1) + 1) + 1) + 1) + 1) 3000 && Nat.ble (((((((bs + 4) + 4) + 16) + 250) + 250) + 250) + 250) 60000 then gO E σ19 12 v18 (cA (xthr 1 some) (xsem xT E d kJ4_append_bf812 [.ref v18, .int v10] σ19) (fun v19 σ20 => bif Nat.ble ((((((((bc + 1) + 1) + 1) + 1) + 1) + 1) + 1) + 1) 3000 && Nat.ble ((((((((bs + 4) + 4) + 16) + 250) + 250) + 250) + 250) + 250) 60000 then gO E σ20 12 v19 (cA (xthr 1 some) (xsem xT E d kJ4_append_15ec4 [.ref v19, .ref (E.2.1 29)] σ20) (fun v20 σ21 => bif Nat.ble (((((((((bc + 1) + 1) + 1) + 1) + 1) + 1) + 1) + 1) + 1) 3000 && Nat.ble (((((((((bs + 4) + 4) + 16) + 250) + 250) + 250) + 250) + 250) + 250) 60000 then gO E σ21 12 v20 (cA (xthr 1 some) (xsem xT E d kJ4_append_bf812 [.ref v20, .int ((nI 1) + v4)] σ21) (fun v21 σ22 => bif Nat.ble ((((((((((bc + 1) + 1) + 1) + 1) + 1) + 1) + 1) + 1) + 1) + 1) 3000 && Nat.ble ((((((((((bs + 4) + 4) + 16) + 250) + 250) + 250) + 250) + 250) + 250) + 250) 60000 then gO E σ22 12 v21 (cA (xthr 1 some) (xsem xT E d kJ4_append_15ec4 [.ref v21, .ref (E.2.1 30)] σ22) (fun v22 σ23 => bif Nat.ble (((((((((((bc + 1) + 1) + 1) + 1) + 1) + 1) + 1) + 1) + 1) + 1) + 1) 3000 && Nat.ble (((((((((((bs + 4) + 4) + 16) + 250) + 250) + 250) + 250) + 250) + 250) + 250) + 250) 60000 then gO E σ23 12 v22 (cA (xthr 1 some) (xsem xT E d kJ4_append_bf812 [.ref v22, .int ((nI 1) + v6)] σ23) (fun v23 σ24 => bif Nat.ble ((((((((((((bc + 1) + 1) + 1) + 1) + 1) + 1) + 1) + 1) + 1) + 1) + 1) + 1) 3000 && Nat.ble ((((((((((((bs + 4) + 4) + 16) + 250) + 250) + 250) + 250) + 250) + 250) + 250) + 250) + 250) 60000 then gO E σ24 12 v23 (cA (xthr 1 some) (xsem xT E d kJ4_append_15ec4 [.ref v23, .ref (E.2.1 31)] σ24) (fun v24 σ25 => bif Nat.ble (((((((((((((bc + 1) + 1) + 1) + 1) + 1) + 1) + 1) + 1) + 1) + 1) + 1) + 1) + 1) 3000 && Nat.ble (((((((((((((bs + 4) + 4) + 16) + 250) + 250) + 250) + 250) + 250) + 250) + 250) + 250) + 250) + 250) 60000 then gO E σ25 12 v24 (cA (xthr 1 some) (xsem xT E d kJ4_append_bf812 [.ref v24, .int v8] σ25) (fun v25 σ26 => bif Nat.ble ((((((((((((((bc + 1) + 1) + 1) + 1) + 1) + 1) + 1) + 1) + 1) + 1) + 1) + 1) + 1) + 1) 3000 && Nat.ble ((((((((((((((bs + 4) + 4) + 16) + 250) + 250) + 250) + 250) + 250) + 250) + 250) + 250) + 250) + 250) + 250) 60000 then gO E σ26 12 v25 (cA (xthr 1 some) (xsem xT E d kJ4_append_15ec4 [.ref v25, .ref (E.2.1 1)] σ26) (fun v26 σ27 => bif Nat.ble (((((((((((((((bc + 1) + 1) + 1) + 1) + 1) + 1) + 1) + 1) + 1) + 1) + 1) + 1) + 1) + 1) + 2) 3000 && Nat.ble (((((((((((((((bs + 4) + 4) + 16) + 250) + 250) + 250) + 250) + 250) + 250) + 250) + 250) + 250) + 250) + 250) + 124) 60000 then gO E σ27 12 v26 (cA (xthr 1 some) (xsem xT E d kJ4_toString_0e30d [.ref v26] σ27) (fun v27 σ28 => bif Nat.ble ((((((((((((((((bc + 1) + 1) + 1) + 1) + 1) + 1) + 1) + 1) + 1) + 1) + 1) + 1) + 1) + 1) + 2) + 2) 3000 && Nat.ble ((((((((((((((((bs + 4) + 4) + 16) + 250) + 250) + 250) + 250) + 250) + 250) + 250) + 250) + 250) + 250) + 250) + 124) + 310) 60000 then gO E σ28 12 v14 (cV (xthr 2 some) (xsem xT E d kJ4_init_a7421 [.ref v14, .ref v27] σ28) (fun σ29 => qL_law_168 E d ((((((((((((((((bc + 1) + 1) + 1) + 1) + 1) + 1) + 1) + 1) + 1) + 1) + 1) + 1) + 1) + 1) + 2) + 2) ((((((((((((((((bs + 4) + 4) + 16) + 250) + 250) + 250) + 250) + 250) + 250) + 250) + 250) + 250) + 250) + 250) + 124) + 310) x0 ((nI 2) + v2) ((nI 1) + v4) ((nI 1) + v6) v8 v10 v12 (v13 >>> ((nI 12) &&& 31)) v14 (nI 0) σ29)) else none)) else none)) else none)) else none)) else none)) else none)) else none)) else none)) else none)) else none)) else none)) else none)) else none)) else none) else none) else none) else none) else none) else none) else none) else none) else none) else none) else none) else none) else none) else none) else none) else none := xval_blkQ E (xsem xT E d) 3000 60000 bL_law (pc := 0) rfl [(0, .ref x0)] [] σ bc bs
set_option maxRecDepth 100000 in
theorem QL_law_168 (E : xEn) (d : Nat) (bc bs : Nat) (x0 : Nat) (x1 : Int32) (x2 : Int32) (x3 : Int32) (x4 : Int32) (x5 : Int32) (x6 : Int32) (x7 : Int32) (x8 : Nat) (x9 : Int32) (σ : xH) : qL_law_168 E d bc bs x0 x1 x2 x3 x4 x5 x6 x7 x8 x9 σ = if x1 ≤ x9 then qL_law_209 E d bc bs x0 x1 x2 x3 x4 x5 x6 x7 x8 σ else if ((x6 >>> (x9 &&& 31)) &&& (nI 1)) = (nI 1) then bif Nat.ble (bc + 1) 3000 && Nat.ble (bs + 250) 60000 then gO E σ 12 x8 (cA (xthr 1 some) (xsem xT E d kJ4_append_15ec4 [.ref x8, .ref (E.2.1 32)] σ) (fun v1 σ1 => bif Nat.ble ((bc + 1) + 1) 3000 && Nat.ble ((bs + 250) + 250) 60000 then gO E σ1 12 v1 (cA (xthr 1 some) (xsem xT E d kJ4_append_bf812 [.ref v1, .int x9] σ1) (fun v2 σ2 => bif Nat.ble (((bc + 1) + 1) + 1) 3000 && Nat.ble (((bs + 250) + 250) + 250) 60000 then gO E σ2 12 v2 (cA (xthr 1 some) (xsem xT E d kJ4_append_cf468 [.ref v2, .int (nI 59)] σ2) (fun v3 σ3 => qL_law_203 E d (((bc + 1) + 1) + 1) (((bs + 250) + 250) + 250) x0 x1 x2 x3 x4 x5 x6 x7 x8 x9 σ3)) else none)) else none)) else none else qL_law_203 E d bc bs x0 x1 x2 x3 x4 x5 x6 x7 x8 x9 σ := xval_blkQ E (xsem xT E d) 3000 60000 bL_law (pc := 168) rfl [(0, .ref x0), (1, .int x1), (2, .int x2), (3, .int x3), (4, .int x4), (5, .int x5), (6, .int x6), (7, .int x7), (8, .ref x8), (9, .int x9)] [] σ bc bs
set_option maxRecDepth 100000 in
theorem QL_law_203 (E : xEn) (d : Nat) (bc bs : Nat) (x0 : Nat) (x1 : Int32) (x2 : Int32) (x3 : Int32) (x4 : Int32) (x5 : Int32) (x6 : Int32) (x7 : Int32) (x8 : Nat) (x9 : Int32) (σ : xH) : qL_law_203 E d bc bs x0 x1 x2 x3 x4 x5 x6 x7 x8 x9 σ = qL_law_168 E d bc bs x0 x1 x2 x3 x4 x5 x6 x7 x8 (x9 + (nI 1)) σ := xval_blkQ E (xsem xT E d) 3000 60000 bL_law (pc := 203) rfl [(0, .ref x0), (1, .int x1), (2, .int x2), (3, .int x3), (4, .int x4), (5, .int x5), (6, .int x6), (7, .int x7), (8, .ref x8), (9, .int x9)] [] σ bc bs
set_option maxRecDepth 100000 in
theorem QL_law_209 (E : xEn) (d : Nat) (bc bs : Nat) (x0 : Nat) (x1 : Int32) (x2 : Int32) (x3 : Int32) (x4 : Int32) (x5 : Int32) (x6 : Int32) (x7 : Int32) (x8 : Nat) (σ : xH) : qL_law_209 E d bc bs x0 x1 x2 x3 x4 x5 x6 x7 x8 σ = qL_law_212 E d bc bs x0 x1 x2 x3 x4 x5 x6 x7 x8 (nI 0) σ := xval_blkQ E (xsem xT E d) 3000 60000 bL_law (pc := 209) rfl [(0, .ref x0), (1, .int x1), (2, .int x2), (3, .int x3), (4, .int x4), (5, .int x5), (6, .int x6), (7, .int x7), (8, .ref x8)] [] σ bc bs
set_option maxRecDepth 100000 in
theorem QL_law_212 (E : xEn) (d : Nat) (bc bs : Nat) (x0 : Nat) (x1 : Int32) (x2 : Int32) (x3 : Int32) (x4 : Int32) (x5 : Int32) (x6 : Int32) (x7 : Int32) (x8 : Nat) (x9 : Int32) (σ : xH) : qL_law_212 E d bc bs x0 x1 x2 x3 x4 x5 x6 x7 x8 x9 σ = if (nI 3) ≤ x9 then qL_law_263 E d bc bs x0 x1 x2 x3 x4 x5 x6 x7 x8 σ else if ((x7 >>> (x9 &&& 31)) &&& (nI 1)) = (nI 1) then bif Nat.ble (bc + 1) 3000 && Nat.ble (bs + 250) 60000 then gO E σ 12 x8 (cA (xthr 1 some) (xsem xT E d kJ4_append_15ec4 [.ref x8, .ref (E.2.1 33)] σ) (fun v1 σ1 => bif Nat.ble ((bc + 1) + 1) 3000 && Nat.ble ((bs + 250) + 250) 60000 then gO E σ1 12 v1 (cA (xthr 1 some) (xsem xT E d kJ4_append_bf812 [.ref v1, .int x9] σ1) (fun v2 σ2 => bif Nat.ble (((bc + 1) + 1) + 1) 3000 && Nat.ble (((bs + 250) + 250) + 250) 60000 then gO E σ2 12 v2 (cA (xthr 1 some) (xsem xT E d kJ4_append_cf468 [.ref v2, .int (nI 32)] σ2) (fun v3 σ3 => bif Nat.ble ((((bc + 1) + 1) + 1) + 1) 3000 && Nat.ble ((((bs + 250) + 250) + 250) + 250) 60000 then gO E σ3 12 v3 (cA (xthr 1 some) (xsem xT E d kJ4_append_bf812 [.ref v3, .int x9] σ3) (fun v4 σ4 => bif Nat.ble (((((bc + 1) + 1) + 1) + 1) + 1) 3000 && Nat.ble (((((bs + 250) + 250) + 250) + 250) + 250) 60000 then gO E σ4 12 v4 (cA (xthr 1 some) (xsem xT E d kJ4_append_cf468 [.ref v4, .int (nI 59)] σ4) (fun v5 σ5 => qL_law_257 E d (((((bc + 1) + 1) + 1) + 1) + 1) (((((bs + 250) + 250) + 250) + 250) + 250) x0 x1 x2 x3 x4 x5 x6 x7 x8 x9 σ5)) else none)) else none)) else none)) else none)) else none else qL_law_257 E d bc bs x0 x1 x2 x3 x4 x5 x6 x7 x8 x9 σ := xval_blkQ E (xsem xT E d) 3000 60000 bL_law (pc := 212) rfl [(0, .ref x0), (1, .int x1), (2, .int x2), (3, .int x3), (4, .int x4), (5, .int x5), (6, .int x6), (7, .int x7), (8, .ref x8), (9, .int x9)] [] σ bc bs
set_option maxRecDepth 100000 in
theorem QL_law_257 (E : xEn) (d : Nat) (bc bs : Nat) (x0 : Nat) (x1 : Int32) (x2 : Int32) (x3 : Int32) (x4 : Int32) (x5 : Int32) (x6 : Int32) (x7 : Int32) (x8 : Nat) (x9 : Int32) (σ : xH) : qL_law_257 E d bc bs x0 x1 x2 x3 x4 x5 x6 x7 x8 x9 σ = qL_law_212 E d bc bs x0 x1 x2 x3 x4 x5 x6 x7 x8 (x9 + (nI 1)) σ := xval_blkQ E (xsem xT E d) 3000 60000 bL_law (pc := 257) rfl [(0, .ref x0), (1, .int x1), (2, .int x2), (3, .int x3), (4, .int x4), (5, .int x5), (6, .int x6), (7, .int x7), (8, .ref x8), (9, .int x9)] [] σ bc bs
set_option maxRecDepth 100000 in
theorem QL_law_263 (E : xEn) (d : Nat) (bc bs : Nat) (x0 : Nat) (x1 : Int32) (x2 : Int32) (x3 : Int32) (x4 : Int32) (x5 : Int32) (x6 : Int32) (x7 : Int32) (x8 : Nat) (σ : xH) : qL_law_263 E d bc bs x0 x1 x2 x3 x4 x5 x6 x7 x8 σ = bif Nat.ble (bc + 1) 3000 && Nat.ble (bs + 7) 60000 then nwO σ 8 7 (fun v1 σ1 => bif Nat.ble ((bc + 1) + 134) 3000 && Nat.ble ((bs + 7) + 8058) 60000 then gO E σ1 8 v1 (cV (xthr 2 some) (xsem xT E d kX10_init [.ref v1] σ1) (fun σ2 => bif Nat.ble (((bc + 1) + 134) + 2) 3000 && Nat.ble (((bs + 7) + 8058) + 124) 60000 then gO E σ2 12 x8 (cA (xthr 1 some) (xsem xT E d kJ4_toString_0e30d [.ref x8] σ2) (fun v2 σ3 => bif Nat.ble ((((bc + 1) + 134) + 2) + 41) 3000 && Nat.ble ((((bs + 7) + 8058) + 124) + 206) 60000 then cI (xthr 0 some) (xsem xT E d kL_read [.ref v1, .ref v2] σ3) (fun v3 σ4 => if v3 = x1 then qL_law_288 E d ((((bc + 1) + 134) + 2) + 41) ((((bs + 7) + 8058) + 124) + 206) x0 x1 x2 x3 x4 x5 x6 x7 v1 σ4 else xiret [5] (nI 0) (some (.inl (some (.int (nI 0))), σ4))) else none)) else none)) else none) else none := xval_blkQ E (xsem xT E d) 3000 60000 bL_law (pc := 263) rfl [(0, .ref x0), (1, .int x1), (2, .int x2), (3, .int x3), (4, .int x4), (5, .int x5), (6, .int x6), (7, .int x7), (8, .ref x8)] [] σ bc bs
set_option maxRecDepth 100000 in
theorem QL_law_288 (E : xEn) (d : Nat) (bc bs : Nat) (x0 : Nat) (x1 : Int32) (x2 : Int32) (x3 : Int32) (x4 : Int32) (x5 : Int32) (x6 : Int32) (x7 : Int32) (x9 : Nat) (σ : xH) : qL_law_288 E d bc bs x0 x1 x2 x3 x4 x5 x6 x7 x9 σ = bif Nat.ble (bc + 1) 3000 && Nat.ble (bs + 6) 60000 then nwO σ 10 6 (fun v1 σ1 => bif Nat.ble ((bc + 1) + 1) 3000 && Nat.ble ((bs + 6) + 3) 60000 then gO E σ1 10 v1 (cV (xthr 2 some) (xsem xT E d kX12_init [.ref v1, .int x1, .int x2, .int x3, .int x4, .int x5] σ1) (fun σ2 => qL_law_311 E d ((bc + 1) + 1) ((bs + 6) + 3) x0 x1 x4 x6 x7 x9 v1 x5 (nI 0) σ2)) else none) else none := xval_blkQ E (xsem xT E d) 3000 60000 bL_law (pc := 288) rfl [(0, .ref x0), (1, .int x1), (2, .int x2), (3, .int x3), (4, .int x4), (5, .int x5), (6, .int x6), (7, .int x7), (9, .ref x9)] [] σ bc bs
set_option maxRecDepth 100000 in
theorem QL_law_311 (E : xEn) (d : Nat) (bc bs : Nat) (x0 : Nat) (x1 : Int32) (x4 : Int32) (x6 : Int32) (x7 : Int32) (x9 : Nat) (x10 : Nat) (x11 : Int32) (x12 : Int32) (σ : xH) : qL_law_311 E d bc bs x0 x1 x4 x6 x7 x9 x10 x11 x12 σ = if (nI 3) ≤ x12 then qL_law_678 E d bc bs x0 x1 x9 x11 σ else bif Nat.ble bc 3000 && Nat.ble bs 60000 then cI (xthr 0 some) (xsem xT E d kL_cell [.ref x0, .int ((nI 2) + x12)] σ) (fun v1 σ1 => bif Nat.ble bc 3000 && Nat.ble bs 60000 then cI (xthr 0 some) (xsem xT E d kL_bound [.int v1, .int x1] σ1) (fun v2 σ2 => bif Nat.ble bc 3000 && Nat.ble bs 60000 then cI (xthr 0 some) (xsem xT E d kL_bound [.int (v1 >>> ((nI 4) &&& 31)), .int (x1 - (nI 1))] σ2) (fun v3 σ3 => nz (decide (¬ x1 = 0)) (if ((x7 >>> (x12 &&& 31)) &&& (nI 1)) = (nI 1) then qL_law_370 E d bc bs x0 x1 x4 x6 x7 x9 x10 x11 x12 v1 v2 (((v2 + (nI 1)) + v3) - ((v2 + (nI 1)) + v3) / x1 * x1) (nI 1) σ3 else qL_law_369 E d bc bs x0 x1 x4 x6 x7 x9 x10 x11 x12 v1 v2 (((v2 + (nI 1)) + v3) - ((v2 + (nI 1)) + v3) / x1 * x1) σ3)) else none) else none) else none := xval_blkQ E (xsem xT E d) 3000 60000 bL_law (pc := 311) rfl [(0, .ref x0), (1, .int x1), (4, .int x4), (6, .int x6), (7, .int x7), (9, .ref x9), (10, .ref x10), (11, .int x11), (12, .int x12)] [] σ bc bs
set_option maxRecDepth 100000 in
theorem QL_law_369 (E : xEn) (d : Nat) (bc bs : Nat) (x0 : Nat) (x1 : Int32) (x4 : Int32) (x6 : Int32) (x7 : Int32) (x9 : Nat) (x10 : Nat) (x11 : Int32) (x12 : Int32) (x13 : Int32) (x14 : Int32) (x15 : Int32) (σ : xH) : qL_law_369 E d bc bs x0 x1 x4 x6 x7 x9 x10 x11 x12 x13 x14 x15 σ = qL_law_370 E d bc bs x0 x1 x4 x6 x7 x9 x10 x11 x12 x13 x14 x15 (nI 0) σ := xval_blkQ E (xsem xT E d) 3000 60000 bL_law (pc := 369) rfl [(0, .ref x0), (1, .int x1), (4, .int x4), (6, .int x6), (7, .int x7), (9, .ref x9), (10, .ref x10), (11, .int x11), (12, .int x12), (13, .int x13), (14, .int x14), (15, .int x15)] [] σ bc bs
set_option maxRecDepth 100000 in
theorem QL_law_370 (E : xEn) (d : Nat) (bc bs : Nat) (x0 : Nat) (x1 : Int32) (x4 : Int32) (x6 : Int32) (x7 : Int32) (x9 : Nat) (x10 : Nat) (x11 : Int32) (x12 : Int32) (x13 : Int32) (x14 : Int32) (x15 : Int32) (s0 : Int32) (σ : xH) : qL_law_370 E d bc bs x0 x1 x4 x6 x7 x9 x10 x11 x12 x13 x14 x15 s0 σ = bif Nat.ble (bc + 1) 3000 && Nat.ble (bs + 6) 60000 then gO E σ 8 x9 (cI (xthr 5 some) (xsem xT E d kX10_blinks [.ref x9, .int x12] σ) (fun v1 σ1 => if v1 = s0 then qL_law_386 E d (bc + 1) (bs + 6) x0 x1 x4 x6 x7 x9 x10 x11 x12 x13 x14 x15 s0 σ1 else xiret [5] (nI 0) (some (.inl (some (.int (nI 0))), σ1)))) else none := xval_blkQ E (xsem xT E d) 3000 60000 bL_law (pc := 370) rfl [(0, .ref x0), (1, .int x1), (4, .int x4), (6, .int x6), (7, .int x7), (9, .ref x9), (10, .ref x10), (11, .int x11), (12, .int x12), (13, .int x13), (14, .int x14), (15, .int x15)] [.int s0] σ bc bs
set_option maxRecDepth 100000 in
theorem QL_law_386 (E : xEn) (d : Nat) (bc bs : Nat) (x0 : Nat) (x1 : Int32) (x4 : Int32) (x6 : Int32) (x7 : Int32) (x9 : Nat) (x10 : Nat) (x11 : Int32) (x12 : Int32) (x13 : Int32) (x14 : Int32) (x15 : Int32) (x16 : Int32) (σ : xH) : qL_law_386 E d bc bs x0 x1 x4 x6 x7 x9 x10 x11 x12 x13 x14 x15 x16 σ = bif Nat.ble bc 3000 && Nat.ble bs 60000 then cI (xthr 0 some) (xsem xT E d kL_bound [.int (x13 >>> ((nI 8) &&& 31)), .int (nI 5)] σ) (fun v1 σ1 => if v1 = (nI 3) then bif Nat.ble (bc + 2) 3000 && Nat.ble (bs + 12) 60000 then cI (xthr 10 some) (xsem xT E d kL_steals [.ref x9, .int x14] σ1) (fun v2 σ2 => if v2 < (nI 0) then qL_law_429 E d (bc + 2) (bs + 12) x0 x1 x4 x6 x7 x9 x10 x11 x12 x14 x15 x16 v1 σ2 else qL_law_413 E d (bc + 2) (bs + 12) x0 x1 x4 x6 x7 x9 x10 x11 x12 x14 x15 x16 v1 σ2) else none else qL_law_413 E d bc bs x0 x1 x4 x6 x7 x9 x10 x11 x12 x14 x15 x16 v1 σ1) else none := xval_blkQ E (xsem xT E d) 3000 60000 bL_law (pc := 386) rfl [(0, .ref x0), (1, .int x1), (4, .int x4), (6, .int x6), (7, .int x7), (9, .ref x9), (10, .ref x10), (11, .int x11), (12, .int x12), (13, .int x13), (14, .int x14), (15, .int x15), (16, .int x16)] [] σ bc bs
set_option maxRecDepth 100000 in
theorem QL_law_413 (E : xEn) (d : Nat) (bc bs : Nat) (x0 : Nat) (x1 : Int32) (x4 : Int32) (x6 : Int32) (x7 : Int32) (x9 : Nat) (x10 : Nat) (x11 : Int32) (x12 : Int32) (x14 : Int32) (x15 : Int32) (x16 : Int32) (x17 : Int32) (σ : xH) : qL_law_413 E d bc bs x0 x1 x4 x6 x7 x9 x10 x11 x12 x14 x15 x16 x17 σ = if x17 = (nI 4) then bif Nat.ble (bc + 2) 3000 && Nat.ble (bs + 12) 60000 then cI (xthr 10 some) (xsem xT E d kL_plants [.ref x9, .int x14] σ) (fun v1 σ1 => if (nI 0) ≤ v1 then qL_law_484 E d (bc + 2) (bs + 12) x0 x1 x4 x6 x7 x9 x10 x11 x12 x14 x15 x16 x17 σ1 else qL_law_429 E d (bc + 2) (bs + 12) x0 x1 x4 x6 x7 x9 x10 x11 x12 x14 x15 x16 x17 σ1) else none else qL_law_484 E d bc bs x0 x1 x4 x6 x7 x9 x10 x11 x12 x14 x15 x16 x17 σ := xval_blkQ E (xsem xT E d) 3000 60000 bL_law (pc := 413) rfl [(0, .ref x0), (1, .int x1), (4, .int x4), (6, .int x6), (7, .int x7), (9, .ref x9), (10, .ref x10), (11, .int x11), (12, .int x12), (14, .int x14), (15, .int x15), (16, .int x16), (17, .int x17)] [] σ bc bs
set_option maxRecDepth 100000 in
theorem QL_law_429 (E : xEn) (d : Nat) (bc bs : Nat) (x0 : Nat) (x1 : Int32) (x4 : Int32) (x6 : Int32) (x7 : Int32) (x9 : Nat) (x10 : Nat) (x11 : Int32) (x12 : Int32) (x14 : Int32) (x15 : Int32) (x16 : Int32) (x17 : Int32) (σ : xH) : qL_law_429 E d bc bs x0 x1 x4 x6 x7 x9 x10 x11 x12 x14 x15 x16 x17 σ = if x16 = (nI 0) then qL_law_460 E d bc bs x0 x1 x4 x6 x7 x9 x10 x11 x12 x14 x15 x16 σ else if x4 ≤ (nI 0) then qL_law_460 E d bc bs x0 x1 x4 x6 x7 x9 x10 x11 x12 x14 x15 x16 σ else if x17 = (nI 3) then qL_law_453 E d bc bs x0 x1 x4 x6 x7 x9 x10 x11 x12 x14 x15 x16 x11 x14 σ else qL_law_452 E d bc bs x0 x1 x4 x6 x7 x9 x10 x11 x12 x14 x15 x16 x11 σ := xval_blkQ E (xsem xT E d) 3000 60000 bL_law (pc := 429) rfl [(0, .ref x0), (1, .int x1), (4, .int x4), (6, .int x6), (7, .int x7), (9, .ref x9), (10, .ref x10), (11, .int x11), (12, .int x12), (14, .int x14), (15, .int x15), (16, .int x16), (17, .int x17)] [] σ bc bs
set_option maxRecDepth 100000 in
theorem QL_law_452 (E : xEn) (d : Nat) (bc bs : Nat) (x0 : Nat) (x1 : Int32) (x4 : Int32) (x6 : Int32) (x7 : Int32) (x9 : Nat) (x10 : Nat) (x11 : Int32) (x12 : Int32) (x14 : Int32) (x15 : Int32) (x16 : Int32) (s0 : Int32) (σ : xH) : qL_law_452 E d bc bs x0 x1 x4 x6 x7 x9 x10 x11 x12 x14 x15 x16 s0 σ = qL_law_453 E d bc bs x0 x1 x4 x6 x7 x9 x10 x11 x12 x14 x15 x16 s0 x1 σ := xval_blkQ E (xsem xT E d) 3000 60000 bL_law (pc := 452) rfl [(0, .ref x0), (1, .int x1), (4, .int x4), (6, .int x6), (7, .int x7), (9, .ref x9), (10, .ref x10), (11, .int x11), (12, .int x12), (14, .int x14), (15, .int x15), (16, .int x16)] [.int s0] σ bc bs
set_option maxRecDepth 100000 in
theorem QL_law_453 (E : xEn) (d : Nat) (bc bs : Nat) (x0 : Nat) (x1 : Int32) (x4 : Int32) (x6 : Int32) (x7 : Int32) (x9 : Nat) (x10 : Nat) (x11 : Int32) (x12 : Int32) (x14 : Int32) (x15 : Int32) (x16 : Int32) (s0 : Int32) (s1 : Int32) (σ : xH) : qL_law_453 E d bc bs x0 x1 x4 x6 x7 x9 x10 x11 x12 x14 x15 x16 s0 s1 σ = if s0 = s1 then qL_law_461 E d bc bs x0 x1 x4 x6 x7 x9 x10 x11 x12 x14 x15 x16 (nI 1) σ else qL_law_460 E d bc bs x0 x1 x4 x6 x7 x9 x10 x11 x12 x14 x15 x16 σ := xval_blkQ E (xsem xT E d) 3000 60000 bL_law (pc := 453) rfl [(0, .ref x0), (1, .int x1), (4, .int x4), (6, .int x6), (7, .int x7), (9, .ref x9), (10, .ref x10), (11, .int x11), (12, .int x12), (14, .int x14), (15, .int x15), (16, .int x16)] [.int s1, .int s0] σ bc bs
set_option maxRecDepth 100000 in
theorem QL_law_460 (E : xEn) (d : Nat) (bc bs : Nat) (x0 : Nat) (x1 : Int32) (x4 : Int32) (x6 : Int32) (x7 : Int32) (x9 : Nat) (x10 : Nat) (x11 : Int32) (x12 : Int32) (x14 : Int32) (x15 : Int32) (x16 : Int32) (σ : xH) : qL_law_460 E d bc bs x0 x1 x4 x6 x7 x9 x10 x11 x12 x14 x15 x16 σ = qL_law_461 E d bc bs x0 x1 x4 x6 x7 x9 x10 x11 x12 x14 x15 x16 (nI 0) σ := xval_blkQ E (xsem xT E d) 3000 60000 bL_law (pc := 460) rfl [(0, .ref x0), (1, .int x1), (4, .int x4), (6, .int x6), (7, .int x7), (9, .ref x9), (10, .ref x10), (11, .int x11), (12, .int x12), (14, .int x14), (15, .int x15), (16, .int x16)] [] σ bc bs
set_option maxRecDepth 100000 in
theorem QL_law_461 (E : xEn) (d : Nat) (bc bs : Nat) (x0 : Nat) (x1 : Int32) (x4 : Int32) (x6 : Int32) (x7 : Int32) (x9 : Nat) (x10 : Nat) (x11 : Int32) (x12 : Int32) (x14 : Int32) (x15 : Int32) (x16 : Int32) (s0 : Int32) (σ : xH) : qL_law_461 E d bc bs x0 x1 x4 x6 x7 x9 x10 x11 x12 x14 x15 x16 s0 σ = if s0 = (nI 0) then bif Nat.ble (bc + 1) 3000 && Nat.ble (bs + 6) 60000 then gO E σ 8 x9 (cI (xthr 5 some) (xsem xT E d kX10_state [.ref x9, .int (nI 1)] σ) (fun v1 σ1 => if v1 = x12 then qL_law_481 E d (bc + 1) (bs + 6) x0 x1 x4 x6 x7 x9 x10 x11 x12 x14 x15 x16 σ1 else qL_law_479 E d (bc + 1) (bs + 6) σ1)) else none else qL_law_479 E d bc bs σ := xval_blkQ E (xsem xT E d) 3000 60000 bL_law (pc := 461) rfl [(0, .ref x0), (1, .int x1), (4, .int x4), (6, .int x6), (7, .int x7), (9, .ref x9), (10, .ref x10), (11, .int x11), (12, .int x12), (14, .int x14), (15, .int x15), (16, .int x16)] [.int s0] σ bc bs
set_option maxRecDepth 100000 in
theorem QL_law_479 (E : xEn) (d : Nat) (bc bs : Nat) (σ : xH) : qL_law_479 E d bc bs σ = xiret [5] (nI 0) (some (.inl (some (.int (nI 0))), σ)) := xval_blkQ E (xsem xT E d) 3000 60000 bL_law (pc := 479) rfl [] [] σ bc bs
set_option maxRecDepth 100000 in
theorem QL_law_481 (E : xEn) (d : Nat) (bc bs : Nat) (x0 : Nat) (x1 : Int32) (x4 : Int32) (x6 : Int32) (x7 : Int32) (x9 : Nat) (x10 : Nat) (x11 : Int32) (x12 : Int32) (x14 : Int32) (x15 : Int32) (x16 : Int32) (σ : xH) : qL_law_481 E d bc bs x0 x1 x4 x6 x7 x9 x10 x11 x12 x14 x15 x16 σ = qL_law_484 E d bc bs x0 x1 x4 x6 x7 x9 x10 x11 x12 x14 x15 x16 (nI 2) σ := xval_blkQ E (xsem xT E d) 3000 60000 bL_law (pc := 481) rfl [(0, .ref x0), (1, .int x1), (4, .int x4), (6, .int x6), (7, .int x7), (9, .ref x9), (10, .ref x10), (11, .int x11), (12, .int x12), (14, .int x14), (15, .int x15), (16, .int x16)] [] σ bc bs
set_option maxRecDepth 100000 in
theorem QL_law_484 (E : xEn) (d : Nat) (bc bs : Nat) (x0 : Nat) (x1 : Int32) (x4 : Int32) (x6 : Int32) (x7 : Int32) (x9 : Nat) (x10 : Nat) (x11 : Int32) (x12 : Int32) (x14 : Int32) (x15 : Int32) (x16 : Int32) (x17 : Int32) (σ : xH) : qL_law_484 E d bc bs x0 x1 x4 x6 x7 x9 x10 x11 x12 x14 x15 x16 x17 σ = if x17 = (nI 0) then bif Nat.ble (bc + 3) 3000 && Nat.ble (bs + 18) 60000 then gO E σ 8 x9 (cI (xthr 5 some) (xsem xT E d kX10_swap [.ref x9, .int x14, .int x15] σ) (fun v1 σ1 => if v1 = x16 then qL_law_503 E d (bc + 3) (bs + 18) x0 x1 x4 x6 x7 x9 x10 x11 x12 x14 x15 x16 x17 σ1 else qL_law_539 E d (bc + 3) (bs + 18) σ1)) else none else qL_law_503 E d bc bs x0 x1 x4 x6 x7 x9 x10 x11 x12 x14 x15 x16 x17 σ := xval_blkQ E (xsem xT E d) 3000 60000 bL_law (pc := 484) rfl [(0, .ref x0), (1, .int x1), (4, .int x4), (6, .int x6), (7, .int x7), (9, .ref x9), (10, .ref x10), (11, .int x11), (12, .int x12), (14, .int x14), (15, .int x15), (16, .int x16), (17, .int x17)] [] σ bc bs
set_option maxRecDepth 100000 in
theorem QL_law_503 (E : xEn) (d : Nat) (bc bs : Nat) (x0 : Nat) (x1 : Int32) (x4 : Int32) (x6 : Int32) (x7 : Int32) (x9 : Nat) (x10 : Nat) (x11 : Int32) (x12 : Int32) (x14 : Int32) (x15 : Int32) (x16 : Int32) (x17 : Int32) (σ : xH) : qL_law_503 E d bc bs x0 x1 x4 x6 x7 x9 x10 x11 x12 x14 x15 x16 x17 σ = if x17 = (nI 1) then bif Nat.ble (bc + 3) 3000 && Nat.ble (bs + 18) 60000 then gO E σ 8 x9 (cI (xthr 5 some) (xsem xT E d kX10_feint [.ref x9, .int x14, .int x15] σ) (fun v1 σ1 => if v1 = x16 then qL_law_523 E d (bc + 3) (bs + 18) x0 x1 x4 x6 x7 x9 x10 x11 x12 x14 x15 x16 x17 σ1 else qL_law_539 E d (bc + 3) (bs + 18) σ1)) else none else qL_law_523 E d bc bs x0 x1 x4 x6 x7 x9 x10 x11 x12 x14 x15 x16 x17 σ := xval_blkQ E (xsem xT E d) 3000 60000 bL_law (pc := 503) rfl [(0, .ref x0), (1, .int x1), (4, .int x4), (6, .int x6), (7, .int x7), (9, .ref x9), (10, .ref x10), (11, .int x11), (12, .int x12), (14, .int x14), (15, .int x15), (16, .int x16), (17, .int x17)] [] σ bc bs
set_option maxRecDepth 100000 in
theorem QL_law_523 (E : xEn) (d : Nat) (bc bs : Nat) (x0 : Nat) (x1 : Int32) (x4 : Int32) (x6 : Int32) (x7 : Int32) (x9 : Nat) (x10 : Nat) (x11 : Int32) (x12 : Int32) (x14 : Int32) (x15 : Int32) (x16 : Int32) (x17 : Int32) (σ : xH) : qL_law_523 E d bc bs x0 x1 x4 x6 x7 x9 x10 x11 x12 x14 x15 x16 x17 σ = if x17 = (nI 2) then bif Nat.ble bc 3000 && Nat.ble bs 60000 then gO E σ 8 x9 (cI (xthr 1 some) (xsem xT E d kX10_rest [.ref x9] σ) (fun v1 σ1 => if v1 = x16 then qL_law_541 E d bc bs x0 x1 x4 x6 x7 x9 x10 x11 x12 x14 x15 x16 x17 σ1 else qL_law_539 E d bc bs σ1)) else none else qL_law_541 E d bc bs x0 x1 x4 x6 x7 x9 x10 x11 x12 x14 x15 x16 x17 σ := xval_blkQ E (xsem xT E d) 3000 60000 bL_law (pc := 523) rfl [(0, .ref x0), (1, .int x1), (4, .int x4), (6, .int x6), (7, .int x7), (9, .ref x9), (10, .ref x10), (11, .int x11), (12, .int x12), (14, .int x14), (15, .int x15), (16, .int x16), (17, .int x17)] [] σ bc bs
set_option maxRecDepth 100000 in
theorem QL_law_539 (E : xEn) (d : Nat) (bc bs : Nat) (σ : xH) : qL_law_539 E d bc bs σ = xiret [5] (nI 0) (some (.inl (some (.int (nI 0))), σ)) := xval_blkQ E (xsem xT E d) 3000 60000 bL_law (pc := 539) rfl [] [] σ bc bs
set_option maxRecDepth 100000 in
theorem QL_law_541 (E : xEn) (d : Nat) (bc bs : Nat) (x0 : Nat) (x1 : Int32) (x4 : Int32) (x6 : Int32) (x7 : Int32) (x9 : Nat) (x10 : Nat) (x11 : Int32) (x12 : Int32) (x14 : Int32) (x15 : Int32) (x16 : Int32) (x17 : Int32) (σ : xH) : qL_law_541 E d bc bs x0 x1 x4 x6 x7 x9 x10 x11 x12 x14 x15 x16 x17 σ = if x17 = (nI 0) then bif Nat.ble bc 3000 && Nat.ble bs 60000 then cI (xthr 8 some) (xsem xT E d kX12_moved [.int x6, .int x14, .int x15] σ) (fun v1 σ1 => qL_law_560 E d bc bs x0 x1 x4 x6 x7 x9 x10 x11 x12 x14 x15 x16 x17 v1 σ1) else none else qL_law_558 E d bc bs x0 x1 x4 x6 x7 x9 x10 x11 x12 x14 x15 x16 x17 σ := xval_blkQ E (xsem xT E d) 3000 60000 bL_law (pc := 541) rfl [(0, .ref x0), (1, .int x1), (4, .int x4), (6, .int x6), (7, .int x7), (9, .ref x9), (10, .ref x10), (11, .int x11), (12, .int x12), (14, .int x14), (15, .int x15), (16, .int x16), (17, .int x17)] [] σ bc bs
set_option maxRecDepth 100000 in
theorem QL_law_558 (E : xEn) (d : Nat) (bc bs : Nat) (x0 : Nat) (x1 : Int32) (x4 : Int32) (x6 : Int32) (x7 : Int32) (x9 : Nat) (x10 : Nat) (x11 : Int32) (x12 : Int32) (x14 : Int32) (x15 : Int32) (x16 : Int32) (x17 : Int32) (σ : xH) : qL_law_558 E d bc bs x0 x1 x4 x6 x7 x9 x10 x11 x12 x14 x15 x16 x17 σ = qL_law_560 E d bc bs x0 x1 x4 x6 x7 x9 x10 x11 x12 x14 x15 x16 x17 x6 σ := xval_blkQ E (xsem xT E d) 3000 60000 bL_law (pc := 558) rfl [(0, .ref x0), (1, .int x1), (4, .int x4), (6, .int x6), (7, .int x7), (9, .ref x9), (10, .ref x10), (11, .int x11), (12, .int x12), (14, .int x14), (15, .int x15), (16, .int x16), (17, .int x17)] [] σ bc bs
set_option maxRecDepth 100000 in
theorem QL_law_560 (E : xEn) (d : Nat) (bc bs : Nat) (x0 : Nat) (x1 : Int32) (x4 : Int32) (x6 : Int32) (x7 : Int32) (x9 : Nat) (x10 : Nat) (x11 : Int32) (x12 : Int32) (x14 : Int32) (x15 : Int32) (x16 : Int32) (x17 : Int32) (s0 : Int32) (σ : xH) : qL_law_560 E d bc bs x0 x1 x4 x6 x7 x9 x10 x11 x12 x14 x15 x16 x17 s0 σ = gR σ 10 0 x10 (fun v1 => bif Nat.ble (bc + 1) 3000 && Nat.ble (bs + 6) 60000 then nwO σ 9 6 (fun v2 σ1 => bif Nat.ble (bc + 1) 3000 && Nat.ble (bs + 6) 60000 then gO E σ1 9 v2 (cV (xthr 2 some) (xsem xT E d kX11_init [.ref v2, .int x17, .int x14, .int x15, .int x6, .int s0, .int x16] σ1) (fun σ2 => bif Nat.ble ((bc + 1) + 1) 3000 && Nat.ble ((bs + 6) + 10) 60000 then gO E σ2 13 v1 (cI (xthr 3 some) (xsem xT E d kJx4a65c_add_9ea2d [.ref v1, .ref v2] σ2) (fun v3 σ3 => if x17 = (nI 0) then bif Nat.ble ((bc + 1) + 1) 3000 && Nat.ble ((bs + 6) + 10) 60000 then cI (xthr 8 some) (xsem xT E d kX12_by [.int x11, .int x14, .int x15] σ3) (fun v4 σ4 => qL_law_634 E d ((bc + 1) + 1) ((bs + 6) + 10) x0 x1 x4 s0 x7 x9 x10 x12 v4 σ4) else none else qL_law_611 E d ((bc + 1) + 1) ((bs + 6) + 10) x0 x1 x4 s0 x7 x9 x10 x11 x12 x14 x17 σ3)) else none)) else none) else none) := xval_blkQ E (xsem xT E d) 3000 60000 bL_law (pc := 560) rfl [(0, .ref x0), (1, .int x1), (4, .int x4), (6, .int x6), (7, .int x7), (9, .ref x9), (10, .ref x10), (11, .int x11), (12, .int x12), (14, .int x14), (15, .int x15), (16, .int x16), (17, .int x17)] [.int s0] σ bc bs
set_option maxRecDepth 100000 in
theorem QL_law_611 (E : xEn) (d : Nat) (bc bs : Nat) (x0 : Nat) (x1 : Int32) (x4 : Int32) (x6 : Int32) (x7 : Int32) (x9 : Nat) (x10 : Nat) (x11 : Int32) (x12 : Int32) (x14 : Int32) (x17 : Int32) (σ : xH) : qL_law_611 E d bc bs x0 x1 x4 x6 x7 x9 x10 x11 x12 x14 x17 σ = if x17 = (nI 3) then qL_law_634 E d bc bs x0 x1 x4 x6 x7 x9 x10 x12 x1 σ else qL_law_621 E d bc bs x0 x1 x4 x6 x7 x9 x10 x11 x12 x14 x17 σ := xval_blkQ E (xsem xT E d) 3000 60000 bL_law (pc := 611) rfl [(0, .ref x0), (1, .int x1), (4, .int x4), (6, .int x6), (7, .int x7), (9, .ref x9), (10, .ref x10), (11, .int x11), (12, .int x12), (14, .int x14), (17, .int x17)] [] σ bc bs
set_option maxRecDepth 100000 in
theorem QL_law_621 (E : xEn) (d : Nat) (bc bs : Nat) (x0 : Nat) (x1 : Int32) (x4 : Int32) (x6 : Int32) (x7 : Int32) (x9 : Nat) (x10 : Nat) (x11 : Int32) (x12 : Int32) (x14 : Int32) (x17 : Int32) (σ : xH) : qL_law_621 E d bc bs x0 x1 x4 x6 x7 x9 x10 x11 x12 x14 x17 σ = if x17 = (nI 4) then qL_law_634 E d bc bs x0 x1 x4 x6 x7 x9 x10 x12 x14 σ else qL_law_632 E d bc bs x0 x1 x4 x6 x7 x9 x10 x11 x12 σ := xval_blkQ E (xsem xT E d) 3000 60000 bL_law (pc := 621) rfl [(0, .ref x0), (1, .int x1), (4, .int x4), (6, .int x6), (7, .int x7), (9, .ref x9), (10, .ref x10), (11, .int x11), (12, .int x12), (14, .int x14), (17, .int x17)] [] σ bc bs
set_option maxRecDepth 100000 in
theorem QL_law_632 (E : xEn) (d : Nat) (bc bs : Nat) (x0 : Nat) (x1 : Int32) (x4 : Int32) (x6 : Int32) (x7 : Int32) (x9 : Nat) (x10 : Nat) (x11 : Int32) (x12 : Int32) (σ : xH) : qL_law_632 E d bc bs x0 x1 x4 x6 x7 x9 x10 x11 x12 σ = qL_law_634 E d bc bs x0 x1 x4 x6 x7 x9 x10 x12 x11 σ := xval_blkQ E (xsem xT E d) 3000 60000 bL_law (pc := 632) rfl [(0, .ref x0), (1, .int x1), (4, .int x4), (6, .int x6), (7, .int x7), (9, .ref x9), (10, .ref x10), (11, .int x11), (12, .int x12)] [] σ bc bs
set_option maxRecDepth 100000 in
theorem QL_law_634 (E : xEn) (d : Nat) (bc bs : Nat) (x0 : Nat) (x1 : Int32) (x4 : Int32) (x6 : Int32) (x7 : Int32) (x9 : Nat) (x10 : Nat) (x12 : Int32) (s0 : Int32) (σ : xH) : qL_law_634 E d bc bs x0 x1 x4 x6 x7 x9 x10 x12 s0 σ = bif Nat.ble (bc + 1) 3000 && Nat.ble (bs + 6) 60000 then gO E σ 8 x9 (cI (xthr 5 some) (xsem xT E d kX10_state [.ref x9, .int (nI 2)] σ) (fun v1 σ1 => if v1 = s0 then bif Nat.ble ((bc + 1) + 1) 3000 && Nat.ble ((bs + 6) + 6) 60000 then gO E σ1 8 x9 (cI (xthr 5 some) (xsem xT E d kX10_state [.ref x9, .int (nI 1)] σ1) (fun v2 σ2 => if v2 = (x12 + (nI 1)) then bif Nat.ble (((bc + 1) + 1) + 3) 3000 && Nat.ble (((bs + 6) + 6) + 17) 60000 then gO E σ2 10 x10 (cI (xthr 1 some) (xsem xT E d kX12_isLike [.ref x10, .ref x9] σ2) (fun v3 σ3 => if v3 = (nI 0) then qL_law_670 E d (((bc + 1) + 1) + 3) (((bs + 6) + 6) + 17) σ3 else qL_law_672 E d (((bc + 1) + 1) + 3) (((bs + 6) + 6) + 17) x0 x1 x4 x6 x7 x9 x10 s0 x12 σ3)) else none else qL_law_670 E d ((bc + 1) + 1) ((bs + 6) + 6) σ2)) else none else qL_law_670 E d (bc + 1) (bs + 6) σ1)) else none := xval_blkQ E (xsem xT E d) 3000 60000 bL_law (pc := 634) rfl [(0, .ref x0), (1, .int x1), (4, .int x4), (6, .int x6), (7, .int x7), (9, .ref x9), (10, .ref x10), (12, .int x12)] [.int s0] σ bc bs
set_option maxRecDepth 100000 in
theorem QL_law_670 (E : xEn) (d : Nat) (bc bs : Nat) (σ : xH) : qL_law_670 E d bc bs σ = xiret [5] (nI 0) (some (.inl (some (.int (nI 0))), σ)) := xval_blkQ E (xsem xT E d) 3000 60000 bL_law (pc := 670) rfl [] [] σ bc bs
set_option maxRecDepth 100000 in
theorem QL_law_672 (E : xEn) (d : Nat) (bc bs : Nat) (x0 : Nat) (x1 : Int32) (x4 : Int32) (x6 : Int32) (x7 : Int32) (x9 : Nat) (x10 : Nat) (x11 : Int32) (x12 : Int32) (σ : xH) : qL_law_672 E d bc bs x0 x1 x4 x6 x7 x9 x10 x11 x12 σ = qL_law_311 E d bc bs x0 x1 x4 x6 x7 x9 x10 x11 (x12 + (nI 1)) σ := xval_blkQ E (xsem xT E d) 3000 60000 bL_law (pc := 672) rfl [(0, .ref x0), (1, .int x1), (4, .int x4), (6, .int x6), (7, .int x7), (9, .ref x9), (10, .ref x10), (11, .int x11), (12, .int x12)] [] σ bc bs
set_option maxRecDepth 100000 in
theorem QL_law_678 (E : xEn) (d : Nat) (bc bs : Nat) (x0 : Nat) (x1 : Int32) (x9 : Nat) (x11 : Int32) (σ : xH) : qL_law_678 E d bc bs x0 x1 x9 x11 σ = bif Nat.ble bc 3000 && Nat.ble bs 60000 then cI (xthr 0 some) (xsem xT E d kL_cell [.ref x0, .int (nI 5)] σ) (fun v1 σ1 => bif Nat.ble bc 3000 && Nat.ble bs 60000 then cI (xthr 0 some) (xsem xT E d kL_bound [.int v1, .int x1] σ1) (fun v2 σ2 => bif Nat.ble (bc + 1) 3000 && Nat.ble (bs + 6) 60000 then gO E σ2 8 x9 (cI (xthr 5 some) (xsem xT E d kX10_peek [.ref x9, .int v2] σ2) (fun v3 σ3 => if x11 = v2 then qL_law_712 E d (bc + 1) (bs + 6) x9 x11 v2 v3 v3 (nI 1) σ3 else qL_law_711 E d (bc + 1) (bs + 6) x9 x11 v2 v3 v3 σ3)) else none) else none) else none := xval_blkQ E (xsem xT E d) 3000 60000 bL_law (pc := 678) rfl [(0, .ref x0), (1, .int x1), (9, .ref x9), (11, .int x11)] [] σ bc bs
set_option maxRecDepth 100000 in
theorem QL_law_711 (E : xEn) (d : Nat) (bc bs : Nat) (x9 : Nat) (x11 : Int32) (x12 : Int32) (x13 : Int32) (s0 : Int32) (σ : xH) : qL_law_711 E d bc bs x9 x11 x12 x13 s0 σ = qL_law_712 E d bc bs x9 x11 x12 x13 s0 (nI 0) σ := xval_blkQ E (xsem xT E d) 3000 60000 bL_law (pc := 711) rfl [(9, .ref x9), (11, .int x11), (12, .int x12), (13, .int x13)] [.int s0] σ bc bs
set_option maxRecDepth 100000 in
theorem QL_law_712 (E : xEn) (d : Nat) (bc bs : Nat) (x9 : Nat) (x11 : Int32) (x12 : Int32) (x13 : Int32) (s0 : Int32) (s1 : Int32) (σ : xH) : qL_law_712 E d bc bs x9 x11 x12 x13 s0 s1 σ = if s0 = s1 then if x13 = (nI 0) then qL_law_745 E d bc bs x9 x11 x12 σ else bif Nat.ble (bc + 1) 3000 && Nat.ble (bs + 6) 60000 then gO E σ 8 x9 (cI (xthr 5 some) (xsem xT E d kX10_state [.ref x9, .int (nI 10)] σ) (fun v1 σ1 => if v1 = (nI 1) then bif Nat.ble ((bc + 1) + 1) 3000 && Nat.ble ((bs + 6) + 6) 60000 then gO E σ1 8 x9 (cI (xthr 5 some) (xsem xT E d kX10_belief [.ref x9, .int x12] σ1) (fun v2 σ2 => if v2 = (nI 1) then qL_law_765 E d ((bc + 1) + 1) ((bs + 6) + 6) σ2 else qL_law_769 E d ((bc + 1) + 1) ((bs + 6) + 6) σ2)) else none else qL_law_769 E d (bc + 1) (bs + 6) σ1)) else none else qL_law_769 E d bc bs σ := xval_blkQ E (xsem xT E d) 3000 60000 bL_law (pc := 712) rfl [(9, .ref x9), (11, .int x11), (12, .int x12), (13, .int x13)] [.int s1, .int s0] σ bc bs
set_option maxRecDepth 100000 in
theorem QL_law_745 (E : xEn) (d : Nat) (bc bs : Nat) (x9 : Nat) (x11 : Int32) (x12 : Int32) (σ : xH) : qL_law_745 E d bc bs x9 x11 x12 σ = bif Nat.ble (bc + 1) 3000 && Nat.ble (bs + 6) 60000 then gO E σ 8 x9 (cI (xthr 5 some) (xsem xT E d kX10_belief [.ref x9, .int x12] σ) (fun v1 σ1 => if v1 = (nI 0) then bif Nat.ble ((bc + 1) + 1) 3000 && Nat.ble ((bs + 6) + 6) 60000 then gO E σ1 8 x9 (cI (xthr 5 some) (xsem xT E d kX10_belief [.ref x9, .int x11] σ1) (fun v2 σ2 => if v2 ≤ (nI 0) then qL_law_769 E d ((bc + 1) + 1) ((bs + 6) + 6) σ2 else qL_law_765 E d ((bc + 1) + 1) ((bs + 6) + 6) σ2)) else none else qL_law_769 E d (bc + 1) (bs + 6) σ1)) else none := xval_blkQ E (xsem xT E d) 3000 60000 bL_law (pc := 745) rfl [(9, .ref x9), (11, .int x11), (12, .int x12)] [] σ bc bs
set_option maxRecDepth 100000 in
theorem QL_law_765 (E : xEn) (d : Nat) (bc bs : Nat) (σ : xH) : qL_law_765 E d bc bs σ = qL_law_770 E d bc bs (nI 1) σ := xval_blkQ E (xsem xT E d) 3000 60000 bL_law (pc := 765) rfl [] [] σ bc bs
set_option maxRecDepth 100000 in
theorem QL_law_769 (E : xEn) (d : Nat) (bc bs : Nat) (σ : xH) : qL_law_769 E d bc bs σ = qL_law_770 E d bc bs (nI 0) σ := xval_blkQ E (xsem xT E d) 3000 60000 bL_law (pc := 769) rfl [] [] σ bc bs
set_option maxRecDepth 100000 in
theorem QL_law_770 (E : xEn) (d : Nat) (bc bs : Nat) (s0 : Int32) (σ : xH) : qL_law_770 E d bc bs s0 σ = xiret [5] s0 (some (.inl (some (.int s0)), σ)) := xval_blkQ E (xsem xT E d) 3000 60000 bL_law (pc := 770) rfl [] [.int s0] σ bc bs
theorem eL_law (E : xEn) (d : Nat) (x0 : Nat) (σ : xH) : xsem xT E (d + 1) kL_law [.ref x0] σ = qL_law_0 E d 0 0 x0 σ := rfl
end
