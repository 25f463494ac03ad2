section
-- ===== PART A: goes FIRST, ahead of the names: the tables' words, and 'selects' of the private methods out of them =====
/-- a private method of a class that the tables say can be made, by its rows of tables_1 -/
def lw_okq (q : MethodName × Nat) : Prop := (q.1.cls ≠ "java/lang/invoke/MethodHandle" ∧ q.1.cls ≠ "java/lang/invoke/VarHandle") ∧ Cond.instantiable q.1.cls q.2 ∈ tables_1 ∧ Cond.privateMethod q.1 ∈ tables_1 ∧ Cond.instanceMethod q.1 ∈ tables_1
theorem lw_p0 : lw_okq (⟨"ShellWatch$Formula", "put", "(I)V"⟩, 3) := ⟨⟨by decide +kernel, by decide +kernel⟩, List.mem_of_getElem? (i := 227) (by decide +kernel), List.mem_of_getElem? (i := 274) (by decide +kernel), List.mem_of_getElem? (i := 275) (by decide +kernel)⟩
theorem lw_p1 : lw_okq (⟨"ShellWatch", "game", "()LShellWatch$Game;"⟩, 7) := ⟨⟨by decide +kernel, by decide +kernel⟩, List.mem_of_getElem? (i := 29) (by decide +kernel), List.mem_of_getElem? (i := 366) (by decide +kernel), List.mem_of_getElem? (i := 367) (by decide +kernel)⟩
theorem lw_p2 : lw_okq (⟨"ShellWatch", "change", "()LShellWatch$Game;"⟩, 7) := ⟨⟨by decide +kernel, by decide +kernel⟩, List.mem_of_getElem? (i := 29) (by decide +kernel), List.mem_of_getElem? (i := 401) (by decide +kernel), List.mem_of_getElem? (i := 402) (by decide +kernel)⟩
theorem lw_p3 : lw_okq (⟨"ShellWatch$Mind", "wonder", "(LShellWatch$Row;)V"⟩, 5) := ⟨⟨by decide +kernel, by decide +kernel⟩, List.mem_of_getElem? (i := 115) (by decide +kernel), List.mem_of_getElem? (i := 450) (by decide +kernel), List.mem_of_getElem? (i := 451) (by decide +kernel)⟩
theorem lw_p4 : lw_okq (⟨"ShellWatch$Mind", "settle", "()V"⟩, 5) := ⟨⟨by decide +kernel, by decide +kernel⟩, List.mem_of_getElem? (i := 115) (by decide +kernel), List.mem_of_getElem? (i := 465) (by decide +kernel), List.mem_of_getElem? (i := 466) (by decide +kernel)⟩
theorem lw_p5 : lw_okq (⟨"ShellWatch$Mind", "divideByCommonDivisor", "()V"⟩, 5) := ⟨⟨by decide +kernel, by decide +kernel⟩, List.mem_of_getElem? (i := 115) (by decide +kernel), List.mem_of_getElem? (i := 469) (by decide +kernel), List.mem_of_getElem? (i := 470) (by decide +kernel)⟩
theorem lw_p6 : lw_okq (⟨"ShellWatch$Mind", "halve", "()V"⟩, 5) := ⟨⟨by decide +kernel, by decide +kernel⟩, List.mem_of_getElem? (i := 115) (by decide +kernel), List.mem_of_getElem? (i := 478) (by decide +kernel), List.mem_of_getElem? (i := 479) (by decide +kernel)⟩
theorem lw_p7 : lw_okq (⟨"ShellWatch$Game", "countStep", "(Z)V"⟩, 9) := ⟨⟨by decide +kernel, by decide +kernel⟩, List.mem_of_getElem? (i := 168) (by decide +kernel), List.mem_of_getElem? (i := 482) (by decide +kernel), List.mem_of_getElem? (i := 483) (by decide +kernel)⟩
theorem lw_p8 : lw_okq (⟨"ShellWatch", "requireLength", "(I)V"⟩, 7) := ⟨⟨by decide +kernel, by decide +kernel⟩, List.mem_of_getElem? (i := 29) (by decide +kernel), List.mem_of_getElem? (i := 517) (by decide +kernel), List.mem_of_getElem? (i := 518) (by decide +kernel)⟩
theorem lw_p9 : lw_okq (⟨"java/lang/Throwable", "fillInStackTrace", "(I)Ljava/lang/Throwable;"⟩, 6) := ⟨⟨by decide +kernel, by decide +kernel⟩, List.mem_of_getElem? (i := 560) (by decide +kernel), List.mem_of_getElem? (i := 558) (by decide +kernel), List.mem_of_getElem? (i := 559) (by decide +kernel)⟩
theorem lw_p10 : lw_okq (⟨"ShellWatch$Input", "kindAt", "(I)I"⟩, 10) := ⟨⟨by decide +kernel, by decide +kernel⟩, List.mem_of_getElem? (i := 37) (by decide +kernel), List.mem_of_getElem? (i := 595) (by decide +kernel), List.mem_of_getElem? (i := 596) (by decide +kernel)⟩
theorem lw_p11 : lw_okq (⟨"ShellWatch$Input", "addToken", "(II)V"⟩, 10) := ⟨⟨by decide +kernel, by decide +kernel⟩, List.mem_of_getElem? (i := 37) (by decide +kernel), List.mem_of_getElem? (i := 599) (by decide +kernel), List.mem_of_getElem? (i := 600) (by decide +kernel)⟩
theorem lw_p12 : lw_okq (⟨"ShellWatch$Input", "numberIn", "(II)I"⟩, 10) := ⟨⟨by decide +kernel, by decide +kernel⟩, List.mem_of_getElem? (i := 37) (by decide +kernel), List.mem_of_getElem? (i := 605) (by decide +kernel), List.mem_of_getElem? (i := 606) (by decide +kernel)⟩
theorem lw_p13 : lw_okq (⟨"ShellWatch$Input", "put", "(LShellWatch$Token;II)V"⟩, 10) := ⟨⟨by decide +kernel, by decide +kernel⟩, List.mem_of_getElem? (i := 37) (by decide +kernel), List.mem_of_getElem? (i := 609) (by decide +kernel), List.mem_of_getElem? (i := 610) (by decide +kernel)⟩
theorem lw_p14 : lw_okq (⟨"ShellWatch$Input", "tokenIn", "(II)LShellWatch$Token;"⟩, 10) := ⟨⟨by decide +kernel, by decide +kernel⟩, List.mem_of_getElem? (i := 37) (by decide +kernel), List.mem_of_getElem? (i := 613) (by decide +kernel), List.mem_of_getElem? (i := 614) (by decide +kernel)⟩
theorem lw_p15 : lw_okq (⟨"ShellWatch$Input", "isSpelled", "(Ljava/lang/String;II)Z"⟩, 10) := ⟨⟨by decide +kernel, by decide +kernel⟩, List.mem_of_getElem? (i := 37) (by decide +kernel), List.mem_of_getElem? (i := 619) (by decide +kernel), List.mem_of_getElem? (i := 620) (by decide +kernel)⟩
def lw_privs_1 : List (MethodName × Nat) := [(⟨"ShellWatch$Formula", "put", "(I)V"⟩, 3), (⟨"ShellWatch", "game", "()LShellWatch$Game;"⟩, 7), (⟨"ShellWatch", "change", "()LShellWatch$Game;"⟩, 7), (⟨"ShellWatch$Mind", "wonder", "(LShellWatch$Row;)V"⟩, 5), (⟨"ShellWatch$Mind", "settle", "()V"⟩, 5), (⟨"ShellWatch$Mind", "divideByCommonDivisor", "()V"⟩, 5), (⟨"ShellWatch$Mind", "halve", "()V"⟩, 5), (⟨"ShellWatch$Game", "countStep", "(Z)V"⟩, 9), (⟨"ShellWatch", "requireLength", "(I)V"⟩, 7), (⟨"java/lang/Throwable", "fillInStackTrace", "(I)Ljava/lang/Throwable;"⟩, 6), (⟨"ShellWatch$Input", "kindAt", "(I)I"⟩, 10), (⟨"ShellWatch$Input", "addToken", "(II)V"⟩, 10), (⟨"ShellWatch$Input", "numberIn", "(II)I"⟩, 10), (⟨"ShellWatch$Input", "put", "(LShellWatch$Token;II)V"⟩, 10), (⟨"ShellWatch$Input", "tokenIn", "(II)LShellWatch$Token;"⟩, 10), (⟨"ShellWatch$Input", "isSpelled", "(Ljava/lang/String;II)Z"⟩, 10)]
theorem lw_r1 : ∀ q ∈ lw_privs_1, lw_okq q := List.forall_mem_cons.mpr ⟨lw_p0, List.forall_mem_cons.mpr ⟨lw_p1, List.forall_mem_cons.mpr ⟨lw_p2, List.forall_mem_cons.mpr ⟨lw_p3, List.forall_mem_cons.mpr ⟨lw_p4, List.forall_mem_cons.mpr ⟨lw_p5, List.forall_mem_cons.mpr ⟨lw_p6, List.forall_mem_cons.mpr ⟨lw_p7, List.forall_mem_cons.mpr ⟨lw_p8, List.forall_mem_cons.mpr ⟨lw_p9, List.forall_mem_cons.mpr ⟨lw_p10, List.forall_mem_cons.mpr ⟨lw_p11, List.forall_mem_cons.mpr ⟨lw_p12, List.forall_mem_cons.mpr ⟨lw_p13, List.forall_mem_cons.mpr ⟨lw_p14, List.forall_mem_cons.mpr ⟨lw_p15, fun _ h => absurd h List.not_mem_nil⟩⟩⟩⟩⟩⟩⟩⟩⟩⟩⟩⟩⟩⟩⟩⟩
theorem lw_p16 : lw_okq (⟨"ShellWatch$Formula", "readSum", "(LShellWatch$Input;I)Z"⟩, 3) := ⟨⟨by decide +kernel, by decide +kernel⟩, List.mem_of_getElem? (i := 227) (by decide +kernel), List.mem_of_getElem? (i := 760) (by decide +kernel), List.mem_of_getElem? (i := 761) (by decide +kernel)⟩
theorem lw_p17 : lw_okq (⟨"ShellWatch$Formula", "readTerm", "(LShellWatch$Input;I)Z"⟩, 3) := ⟨⟨by decide +kernel, by decide +kernel⟩, List.mem_of_getElem? (i := 227) (by decide +kernel), List.mem_of_getElem? (i := 764) (by decide +kernel), List.mem_of_getElem? (i := 765) (by decide +kernel)⟩
theorem lw_p18 : lw_okq (⟨"ShellWatch$Formula", "readFactor", "(LShellWatch$Input;I)Z"⟩, 3) := ⟨⟨by decide +kernel, by decide +kernel⟩, List.mem_of_getElem? (i := 227) (by decide +kernel), List.mem_of_getElem? (i := 768) (by decide +kernel), List.mem_of_getElem? (i := 769) (by decide +kernel)⟩
theorem lw_p19 : lw_okq (⟨"ShellWatch$Script", "readCommands", "(LShellWatch$Input;I)Z"⟩, 6) := ⟨⟨by decide +kernel, by decide +kernel⟩, List.mem_of_getElem? (i := 81) (by decide +kernel), List.mem_of_getElem? (i := 822) (by decide +kernel), List.mem_of_getElem? (i := 823) (by decide +kernel)⟩
theorem lw_p20 : lw_okq (⟨"ShellWatch$Script", "readRepeat", "(LShellWatch$Input;I)Z"⟩, 6) := ⟨⟨by decide +kernel, by decide +kernel⟩, List.mem_of_getElem? (i := 81) (by decide +kernel), List.mem_of_getElem? (i := 846) (by decide +kernel), List.mem_of_getElem? (i := 847) (by decide +kernel)⟩
theorem lw_p21 : lw_okq (⟨"ShellWatch$Script", "put", "(LShellWatch$Token;II)V"⟩, 6) := ⟨⟨by decide +kernel, by decide +kernel⟩, List.mem_of_getElem? (i := 81) (by decide +kernel), List.mem_of_getElem? (i := 852) (by decide +kernel), List.mem_of_getElem? (i := 853) (by decide +kernel)⟩
theorem lw_p22 : lw_okq (⟨"ShellWatch$Script", "readCommand", "(LShellWatch$Input;)Z"⟩, 6) := ⟨⟨by decide +kernel, by decide +kernel⟩, List.mem_of_getElem? (i := 81) (by decide +kernel), List.mem_of_getElem? (i := 860) (by decide +kernel), List.mem_of_getElem? (i := 861) (by decide +kernel)⟩
theorem lw_p23 : lw_okq (⟨"ShellWatch$Script", "performRange", "(LShellWatch$Game;III)Z"⟩, 6) := ⟨⟨by decide +kernel, by decide +kernel⟩, List.mem_of_getElem? (i := 81) (by decide +kernel), List.mem_of_getElem? (i := 867) (by decide +kernel), List.mem_of_getElem? (i := 868) (by decide +kernel)⟩
theorem lw_p24 : lw_okq (⟨"ShellWatch$Script", "performRepeat", "(LShellWatch$Game;II)Z"⟩, 6) := ⟨⟨by decide +kernel, by decide +kernel⟩, List.mem_of_getElem? (i := 81) (by decide +kernel), List.mem_of_getElem? (i := 871) (by decide +kernel), List.mem_of_getElem? (i := 872) (by decide +kernel)⟩
theorem lw_p25 : lw_okq (⟨"ShellWatch$Script", "performOne", "(LShellWatch$Game;I)Z"⟩, 6) := ⟨⟨by decide +kernel, by decide +kernel⟩, List.mem_of_getElem? (i := 81) (by decide +kernel), List.mem_of_getElem? (i := 876) (by decide +kernel), List.mem_of_getElem? (i := 877) (by decide +kernel)⟩
theorem lw_p26 : lw_okq (⟨"ShellWatch$Mind", "exchange", "(II)V"⟩, 5) := ⟨⟨by decide +kernel, by decide +kernel⟩, List.mem_of_getElem? (i := 115) (by decide +kernel), List.mem_of_getElem? (i := 904) (by decide +kernel), List.mem_of_getElem? (i := 905) (by decide +kernel)⟩
theorem lw_p27 : lw_okq (⟨"ShellWatch$Mind", "mix", "(II)V"⟩, 5) := ⟨⟨by decide +kernel, by decide +kernel⟩, List.mem_of_getElem? (i := 115) (by decide +kernel), List.mem_of_getElem? (i := 908) (by decide +kernel), List.mem_of_getElem? (i := 909) (by decide +kernel)⟩
theorem lw_p28 : lw_okq (⟨"ShellWatch", "requireWhat", "(II)V"⟩, 7) := ⟨⟨by decide +kernel, by decide +kernel⟩, List.mem_of_getElem? (i := 29) (by decide +kernel), List.mem_of_getElem? (i := 937) (by decide +kernel), List.mem_of_getElem? (i := 938) (by decide +kernel)⟩
theorem lw_p29 : lw_okq (⟨"ShellWatch", "requirePlace", "(I)V"⟩, 7) := ⟨⟨by decide +kernel, by decide +kernel⟩, List.mem_of_getElem? (i := 29) (by decide +kernel), List.mem_of_getElem? (i := 950) (by decide +kernel), List.mem_of_getElem? (i := 951) (by decide +kernel)⟩
theorem lw_p30 : lw_okq (⟨"ShellWatch", "requirePlaceOrHand", "(I)V"⟩, 7) := ⟨⟨by decide +kernel, by decide +kernel⟩, List.mem_of_getElem? (i := 29) (by decide +kernel), List.mem_of_getElem? (i := 978) (by decide +kernel), List.mem_of_getElem? (i := 979) (by decide +kernel)⟩
theorem lw_p31 : lw_okq (⟨"ShellWatch$Trick", "tryAll", "(LShellWatch$Game;ZZ)V"⟩, 6) := ⟨⟨by decide +kernel, by decide +kernel⟩, List.mem_of_getElem? (i := 109) (by decide +kernel), List.mem_of_getElem? (i := 1050) (by decide +kernel), List.mem_of_getElem? (i := 1051) (by decide +kernel)⟩
def lw_privs_2 : List (MethodName × Nat) := [(⟨"ShellWatch$Formula", "readSum", "(LShellWatch$Input;I)Z"⟩, 3), (⟨"ShellWatch$Formula", "readTerm", "(LShellWatch$Input;I)Z"⟩, 3), (⟨"ShellWatch$Formula", "readFactor", "(LShellWatch$Input;I)Z"⟩, 3), (⟨"ShellWatch$Script", "readCommands", "(LShellWatch$Input;I)Z"⟩, 6), (⟨"ShellWatch$Script", "readRepeat", "(LShellWatch$Input;I)Z"⟩, 6), (⟨"ShellWatch$Script", "put", "(LShellWatch$Token;II)V"⟩, 6), (⟨"ShellWatch$Script", "readCommand", "(LShellWatch$Input;)Z"⟩, 6), (⟨"ShellWatch$Script", "performRange", "(LShellWatch$Game;III)Z"⟩, 6), (⟨"ShellWatch$Script", "performRepeat", "(LShellWatch$Game;II)Z"⟩, 6), (⟨"ShellWatch$Script", "performOne", "(LShellWatch$Game;I)Z"⟩, 6), (⟨"ShellWatch$Mind", "exchange", "(II)V"⟩, 5), (⟨"ShellWatch$Mind", "mix", "(II)V"⟩, 5), (⟨"ShellWatch", "requireWhat", "(II)V"⟩, 7), (⟨"ShellWatch", "requirePlace", "(I)V"⟩, 7), (⟨"ShellWatch", "requirePlaceOrHand", "(I)V"⟩, 7), (⟨"ShellWatch$Trick", "tryAll", "(LShellWatch$Game;ZZ)V"⟩, 6)]
theorem lw_r2 : ∀ q ∈ lw_privs_2, lw_okq q := List.forall_mem_cons.mpr ⟨lw_p16, List.forall_mem_cons.mpr ⟨lw_p17, List.forall_mem_cons.mpr ⟨lw_p18, List.forall_mem_cons.mpr ⟨lw_p19, List.forall_mem_cons.mpr ⟨lw_p20, List.forall_mem_cons.mpr ⟨lw_p21, List.forall_mem_cons.mpr ⟨lw_p22, List.forall_mem_cons.mpr ⟨lw_p23, List.forall_mem_cons.mpr ⟨lw_p24, List.forall_mem_cons.mpr ⟨lw_p25, List.forall_mem_cons.mpr ⟨lw_p26, List.forall_mem_cons.mpr ⟨lw_p27, List.forall_mem_cons.mpr ⟨lw_p28, List.forall_mem_cons.mpr ⟨lw_p29, List.forall_mem_cons.mpr ⟨lw_p30, List.forall_mem_cons.mpr ⟨lw_p31, fun _ h => absurd h List.not_mem_nil⟩⟩⟩⟩⟩⟩⟩⟩⟩⟩⟩⟩⟩⟩⟩⟩
theorem lw_p32 : lw_okq (⟨"ShellWatch$Trick", "takeIfLess", "(ZIII)V"⟩, 6) := ⟨⟨by decide +kernel, by decide +kernel⟩, List.mem_of_getElem? (i := 109) (by decide +kernel), List.mem_of_getElem? (i := 1057) (by decide +kernel), List.mem_of_getElem? (i := 1058) (by decide +kernel)⟩
theorem lw_p33 : lw_okq (⟨"ShellWatch", "requireTwoPlaces", "(II)V"⟩, 7) := ⟨⟨by decide +kernel, by decide +kernel⟩, List.mem_of_getElem? (i := 29) (by decide +kernel), List.mem_of_getElem? (i := 1082) (by decide +kernel), List.mem_of_getElem? (i := 1083) (by decide +kernel)⟩
theorem lw_p34 : lw_okq (⟨"ShellWatch", "moveBall", "(I)I"⟩, 7) := ⟨⟨by decide +kernel, by decide +kernel⟩, List.mem_of_getElem? (i := 29) (by decide +kernel), List.mem_of_getElem? (i := 1119) (by decide +kernel), List.mem_of_getElem? (i := 1120) (by decide +kernel)⟩
theorem lw_p35 : lw_okq (⟨"ShellWatch$Mind", "countAheadOf", "(I)I"⟩, 5) := ⟨⟨by decide +kernel, by decide +kernel⟩, List.mem_of_getElem? (i := 115) (by decide +kernel), List.mem_of_getElem? (i := 1189) (by decide +kernel), List.mem_of_getElem? (i := 1190) (by decide +kernel)⟩
theorem lw_p36 : lw_okq (⟨"ShellWatchModel", "begins", "(I)V"⟩, 31) := ⟨⟨by decide +kernel, by decide +kernel⟩, List.mem_of_getElem? (i := 1209) (by decide +kernel), List.mem_of_getElem? (i := 1215) (by decide +kernel), List.mem_of_getElem? (i := 1216) (by decide +kernel)⟩
theorem lw_p37 : lw_okq (⟨"ShellWatchModel", "put", "(II)V"⟩, 31) := ⟨⟨by decide +kernel, by decide +kernel⟩, List.mem_of_getElem? (i := 1209) (by decide +kernel), List.mem_of_getElem? (i := 1219) (by decide +kernel), List.mem_of_getElem? (i := 1220) (by decide +kernel)⟩
theorem lw_p38 : lw_okq (⟨"ShellWatchModel", "four", "(I)V"⟩, 31) := ⟨⟨by decide +kernel, by decide +kernel⟩, List.mem_of_getElem? (i := 1209) (by decide +kernel), List.mem_of_getElem? (i := 1326) (by decide +kernel), List.mem_of_getElem? (i := 1327) (by decide +kernel)⟩
theorem lw_p39 : lw_okq (⟨"ShellWatchModel", "starts", "(I)Z"⟩, 31) := ⟨⟨by decide +kernel, by decide +kernel⟩, List.mem_of_getElem? (i := 1209) (by decide +kernel), List.mem_of_getElem? (i := 1338) (by decide +kernel), List.mem_of_getElem? (i := 1339) (by decide +kernel)⟩
theorem lw_p40 : lw_okq (⟨"ShellWatchModel", "right", "(ZI)Z"⟩, 31) := ⟨⟨by decide +kernel, by decide +kernel⟩, List.mem_of_getElem? (i := 1209) (by decide +kernel), List.mem_of_getElem? (i := 1345) (by decide +kernel), List.mem_of_getElem? (i := 1346) (by decide +kernel)⟩
theorem lw_p41 : lw_okq (⟨"ShellWatchModel", "readsSetup", "()Z"⟩, 31) := ⟨⟨by decide +kernel, by decide +kernel⟩, List.mem_of_getElem? (i := 1209) (by decide +kernel), List.mem_of_getElem? (i := 1349) (by decide +kernel), List.mem_of_getElem? (i := 1350) (by decide +kernel)⟩
theorem lw_p42 : lw_okq (⟨"ShellWatchModel", "takes", "(Ljava/lang/String;)Z"⟩, 31) := ⟨⟨by decide +kernel, by decide +kernel⟩, List.mem_of_getElem? (i := 1209) (by decide +kernel), List.mem_of_getElem? (i := 1354) (by decide +kernel), List.mem_of_getElem? (i := 1355) (by decide +kernel)⟩
theorem lw_p43 : lw_okq (⟨"ShellWatchModel", "here", "()I"⟩, 31) := ⟨⟨by decide +kernel, by decide +kernel⟩, List.mem_of_getElem? (i := 1209) (by decide +kernel), List.mem_of_getElem? (i := 1358) (by decide +kernel), List.mem_of_getElem? (i := 1359) (by decide +kernel)⟩
theorem lw_p44 : lw_okq (⟨"ShellWatchModel", "fails", "(II)Z"⟩, 31) := ⟨⟨by decide +kernel, by decide +kernel⟩, List.mem_of_getElem? (i := 1209) (by decide +kernel), List.mem_of_getElem? (i := 1367) (by decide +kernel), List.mem_of_getElem? (i := 1368) (by decide +kernel)⟩
theorem lw_p45 : lw_okq (⟨"ShellWatchModel", "reads", "(II)Z"⟩, 31) := ⟨⟨by decide +kernel, by decide +kernel⟩, List.mem_of_getElem? (i := 1209) (by decide +kernel), List.mem_of_getElem? (i := 1371) (by decide +kernel), List.mem_of_getElem? (i := 1372) (by decide +kernel)⟩
theorem lw_p46 : lw_okq (⟨"ShellWatchModel", "sign", "(I)Z"⟩, 31) := ⟨⟨by decide +kernel, by decide +kernel⟩, List.mem_of_getElem? (i := 1209) (by decide +kernel), List.mem_of_getElem? (i := 1379) (by decide +kernel), List.mem_of_getElem? (i := 1380) (by decide +kernel)⟩
theorem lw_p47 : lw_okq (⟨"ShellWatchModel", "readsStatement", "()Z"⟩, 31) := ⟨⟨by decide +kernel, by decide +kernel⟩, List.mem_of_getElem? (i := 1209) (by decide +kernel), List.mem_of_getElem? (i := 1383) (by decide +kernel), List.mem_of_getElem? (i := 1384) (by decide +kernel)⟩
def lw_privs_3 : List (MethodName × Nat) := [(⟨"ShellWatch$Trick", "takeIfLess", "(ZIII)V"⟩, 6), (⟨"ShellWatch", "requireTwoPlaces", "(II)V"⟩, 7), (⟨"ShellWatch", "moveBall", "(I)I"⟩, 7), (⟨"ShellWatch$Mind", "countAheadOf", "(I)I"⟩, 5), (⟨"ShellWatchModel", "begins", "(I)V"⟩, 31), (⟨"ShellWatchModel", "put", "(II)V"⟩, 31), (⟨"ShellWatchModel", "four", "(I)V"⟩, 31), (⟨"ShellWatchModel", "starts", "(I)Z"⟩, 31), (⟨"ShellWatchModel", "right", "(ZI)Z"⟩, 31), (⟨"ShellWatchModel", "readsSetup", "()Z"⟩, 31), (⟨"ShellWatchModel", "takes", "(Ljava/lang/String;)Z"⟩, 31), (⟨"ShellWatchModel", "here", "()I"⟩, 31), (⟨"ShellWatchModel", "fails", "(II)Z"⟩, 31), (⟨"ShellWatchModel", "reads", "(II)Z"⟩, 31), (⟨"ShellWatchModel", "sign", "(I)Z"⟩, 31), (⟨"ShellWatchModel", "readsStatement", "()Z"⟩, 31)]
theorem lw_r3 : ∀ q ∈ lw_privs_3, lw_okq q := List.forall_mem_cons.mpr ⟨lw_p32, List.forall_mem_cons.mpr ⟨lw_p33, List.forall_mem_cons.mpr ⟨lw_p34, List.forall_mem_cons.mpr ⟨lw_p35, List.forall_mem_cons.mpr ⟨lw_p36, List.forall_mem_cons.mpr ⟨lw_p37, List.forall_mem_cons.mpr ⟨lw_p38, List.forall_mem_cons.mpr ⟨lw_p39, List.forall_mem_cons.mpr ⟨lw_p40, List.forall_mem_cons.mpr ⟨lw_p41, List.forall_mem_cons.mpr ⟨lw_p42, List.forall_mem_cons.mpr ⟨lw_p43, List.forall_mem_cons.mpr ⟨lw_p44, List.forall_mem_cons.mpr ⟨lw_p45, List.forall_mem_cons.mpr ⟨lw_p46, List.forall_mem_cons.mpr ⟨lw_p47, fun _ h => absurd h List.not_mem_nil⟩⟩⟩⟩⟩⟩⟩⟩⟩⟩⟩⟩⟩⟩⟩⟩
theorem lw_p48 : lw_okq (⟨"ShellWatchModel", "readsScratch", "()Z"⟩, 31) := ⟨⟨by decide +kernel, by decide +kernel⟩, List.mem_of_getElem? (i := 1209) (by decide +kernel), List.mem_of_getElem? (i := 1388) (by decide +kernel), List.mem_of_getElem? (i := 1389) (by decide +kernel)⟩
theorem lw_p49 : lw_okq (⟨"ShellWatchModel", "readsBlink", "(I)Z"⟩, 31) := ⟨⟨by decide +kernel, by decide +kernel⟩, List.mem_of_getElem? (i := 1209) (by decide +kernel), List.mem_of_getElem? (i := 1393) (by decide +kernel), List.mem_of_getElem? (i := 1394) (by decide +kernel)⟩
theorem lw_p50 : lw_okq (⟨"ShellWatchModel", "once", "(II)Z"⟩, 31) := ⟨⟨by decide +kernel, by decide +kernel⟩, List.mem_of_getElem? (i := 1209) (by decide +kernel), List.mem_of_getElem? (i := 1398) (by decide +kernel), List.mem_of_getElem? (i := 1399) (by decide +kernel)⟩
theorem lw_p51 : lw_okq (⟨"ShellWatchModel", "readsOne", "(III)Z"⟩, 31) := ⟨⟨by decide +kernel, by decide +kernel⟩, List.mem_of_getElem? (i := 1209) (by decide +kernel), List.mem_of_getElem? (i := 1402) (by decide +kernel), List.mem_of_getElem? (i := 1403) (by decide +kernel)⟩
theorem lw_p52 : lw_okq (⟨"ShellWatchModel", "readsSum", "()Z"⟩, 31) := ⟨⟨by decide +kernel, by decide +kernel⟩, List.mem_of_getElem? (i := 1209) (by decide +kernel), List.mem_of_getElem? (i := 1411) (by decide +kernel), List.mem_of_getElem? (i := 1412) (by decide +kernel)⟩
theorem lw_p53 : lw_okq (⟨"ShellWatchModel", "readsTerm", "()Z"⟩, 31) := ⟨⟨by decide +kernel, by decide +kernel⟩, List.mem_of_getElem? (i := 1209) (by decide +kernel), List.mem_of_getElem? (i := 1415) (by decide +kernel), List.mem_of_getElem? (i := 1416) (by decide +kernel)⟩
theorem lw_p54 : lw_okq (⟨"ShellWatchModel", "readsFactor", "()Z"⟩, 31) := ⟨⟨by decide +kernel, by decide +kernel⟩, List.mem_of_getElem? (i := 1209) (by decide +kernel), List.mem_of_getElem? (i := 1419) (by decide +kernel), List.mem_of_getElem? (i := 1420) (by decide +kernel)⟩
theorem lw_p55 : lw_okq (⟨"ShellWatchModel", "emits", "(II)V"⟩, 31) := ⟨⟨by decide +kernel, by decide +kernel⟩, List.mem_of_getElem? (i := 1209) (by decide +kernel), List.mem_of_getElem? (i := 1423) (by decide +kernel), List.mem_of_getElem? (i := 1424) (by decide +kernel)⟩
theorem lw_p56 : lw_okq (⟨"ShellWatchModel", "change", "()V"⟩, 31) := ⟨⟨by decide +kernel, by decide +kernel⟩, List.mem_of_getElem? (i := 1209) (by decide +kernel), List.mem_of_getElem? (i := 1430) (by decide +kernel), List.mem_of_getElem? (i := 1431) (by decide +kernel)⟩
theorem lw_p57 : lw_okq (⟨"ShellWatchModel", "get", "(I)I"⟩, 31) := ⟨⟨by decide +kernel, by decide +kernel⟩, List.mem_of_getElem? (i := 1209) (by decide +kernel), List.mem_of_getElem? (i := 1434) (by decide +kernel), List.mem_of_getElem? (i := 1435) (by decide +kernel)⟩
theorem lw_p58 : lw_okq (⟨"ShellWatchModel", "shells", "()I"⟩, 31) := ⟨⟨by decide +kernel, by decide +kernel⟩, List.mem_of_getElem? (i := 1209) (by decide +kernel), List.mem_of_getElem? (i := 1438) (by decide +kernel), List.mem_of_getElem? (i := 1439) (by decide +kernel)⟩
theorem lw_p59 : lw_okq (⟨"ShellWatchModel", "readsScript", "()Z"⟩, 31) := ⟨⟨by decide +kernel, by decide +kernel⟩, List.mem_of_getElem? (i := 1209) (by decide +kernel), List.mem_of_getElem? (i := 1446) (by decide +kernel), List.mem_of_getElem? (i := 1447) (by decide +kernel)⟩
theorem lw_p60 : lw_okq (⟨"ShellWatchModel", "readsCommand", "()Z"⟩, 31) := ⟨⟨by decide +kernel, by decide +kernel⟩, List.mem_of_getElem? (i := 1209) (by decide +kernel), List.mem_of_getElem? (i := 1450) (by decide +kernel), List.mem_of_getElem? (i := 1451) (by decide +kernel)⟩
theorem lw_p61 : lw_okq (⟨"ShellWatchModel", "kindHere", "()I"⟩, 31) := ⟨⟨by decide +kernel, by decide +kernel⟩, List.mem_of_getElem? (i := 1209) (by decide +kernel), List.mem_of_getElem? (i := 1454) (by decide +kernel), List.mem_of_getElem? (i := 1455) (by decide +kernel)⟩
theorem lw_p62 : lw_okq (⟨"ShellWatchModel", "readsRepeat", "(I)Z"⟩, 31) := ⟨⟨by decide +kernel, by decide +kernel⟩, List.mem_of_getElem? (i := 1209) (by decide +kernel), List.mem_of_getElem? (i := 1465) (by decide +kernel), List.mem_of_getElem? (i := 1466) (by decide +kernel)⟩
theorem lw_p63 : lw_okq (⟨"ShellWatchModel", "runs", "(II)V"⟩, 31) := ⟨⟨by decide +kernel, by decide +kernel⟩, List.mem_of_getElem? (i := 1209) (by decide +kernel), List.mem_of_getElem? (i := 1469) (by decide +kernel), List.mem_of_getElem? (i := 1470) (by decide +kernel)⟩
def lw_privs_4 : List (MethodName × Nat) := [(⟨"ShellWatchModel", "readsScratch", "()Z"⟩, 31), (⟨"ShellWatchModel", "readsBlink", "(I)Z"⟩, 31), (⟨"ShellWatchModel", "once", "(II)Z"⟩, 31), (⟨"ShellWatchModel", "readsOne", "(III)Z"⟩, 31), (⟨"ShellWatchModel", "readsSum", "()Z"⟩, 31), (⟨"ShellWatchModel", "readsTerm", "()Z"⟩, 31), (⟨"ShellWatchModel", "readsFactor", "()Z"⟩, 31), (⟨"ShellWatchModel", "emits", "(II)V"⟩, 31), (⟨"ShellWatchModel", "change", "()V"⟩, 31), (⟨"ShellWatchModel", "get", "(I)I"⟩, 31), (⟨"ShellWatchModel", "shells", "()I"⟩, 31), (⟨"ShellWatchModel", "readsScript", "()Z"⟩, 31), (⟨"ShellWatchModel", "readsCommand", "()Z"⟩, 31), (⟨"ShellWatchModel", "kindHere", "()I"⟩, 31), (⟨"ShellWatchModel", "readsRepeat", "(I)Z"⟩, 31), (⟨"ShellWatchModel", "runs", "(II)V"⟩, 31)]
theorem lw_r4 : ∀ q ∈ lw_privs_4, lw_okq q := List.forall_mem_cons.mpr ⟨lw_p48, List.forall_mem_cons.mpr ⟨lw_p49, List.forall_mem_cons.mpr ⟨lw_p50, List.forall_mem_cons.mpr ⟨lw_p51, List.forall_mem_cons.mpr ⟨lw_p52, List.forall_mem_cons.mpr ⟨lw_p53, List.forall_mem_cons.mpr ⟨lw_p54, List.forall_mem_cons.mpr ⟨lw_p55, List.forall_mem_cons.mpr ⟨lw_p56, List.forall_mem_cons.mpr ⟨lw_p57, List.forall_mem_cons.mpr ⟨lw_p58, List.forall_mem_cons.mpr ⟨lw_p59, List.forall_mem_cons.mpr ⟨lw_p60, List.forall_mem_cons.mpr ⟨lw_p61, List.forall_mem_cons.mpr ⟨lw_p62, List.forall_mem_cons.mpr ⟨lw_p63, fun _ h => absurd h List.not_mem_nil⟩⟩⟩⟩⟩⟩⟩⟩⟩⟩⟩⟩⟩⟩⟩⟩
theorem lw_p64 : lw_okq (⟨"ShellWatchModel", "does", "(I)Z"⟩, 31) := ⟨⟨by decide +kernel, by decide +kernel⟩, List.mem_of_getElem? (i := 1209) (by decide +kernel), List.mem_of_getElem? (i := 1473) (by decide +kernel), List.mem_of_getElem? (i := 1474) (by decide +kernel)⟩
theorem lw_p65 : lw_okq (⟨"ShellWatchModel", "isPlace", "(I)Z"⟩, 31) := ⟨⟨by decide +kernel, by decide +kernel⟩, List.mem_of_getElem? (i := 1209) (by decide +kernel), List.mem_of_getElem? (i := 1477) (by decide +kernel), List.mem_of_getElem? (i := 1478) (by decide +kernel)⟩
theorem lw_p66 : lw_okq (⟨"ShellWatchModel", "steps", "(III)Z"⟩, 31) := ⟨⟨by decide +kernel, by decide +kernel⟩, List.mem_of_getElem? (i := 1209) (by decide +kernel), List.mem_of_getElem? (i := 1481) (by decide +kernel), List.mem_of_getElem? (i := 1482) (by decide +kernel)⟩
theorem lw_p67 : lw_okq (⟨"ShellWatchModel", "blinksNow", "()Z"⟩, 31) := ⟨⟨by decide +kernel, by decide +kernel⟩, List.mem_of_getElem? (i := 1209) (by decide +kernel), List.mem_of_getElem? (i := 1485) (by decide +kernel), List.mem_of_getElem? (i := 1486) (by decide +kernel)⟩
theorem lw_p68 : lw_okq (⟨"ShellWatchModel", "blinksAt", "(I)Z"⟩, 31) := ⟨⟨by decide +kernel, by decide +kernel⟩, List.mem_of_getElem? (i := 1209) (by decide +kernel), List.mem_of_getElem? (i := 1489) (by decide +kernel), List.mem_of_getElem? (i := 1490) (by decide +kernel)⟩
theorem lw_p69 : lw_okq (⟨"ShellWatchModel", "thinks", "(III)V"⟩, 31) := ⟨⟨by decide +kernel, by decide +kernel⟩, List.mem_of_getElem? (i := 1209) (by decide +kernel), List.mem_of_getElem? (i := 1493) (by decide +kernel), List.mem_of_getElem? (i := 1494) (by decide +kernel)⟩
theorem lw_p70 : lw_okq (⟨"ShellWatchModel", "unseen", "(III)V"⟩, 31) := ⟨⟨by decide +kernel, by decide +kernel⟩, List.mem_of_getElem? (i := 1209) (by decide +kernel), List.mem_of_getElem? (i := 1497) (by decide +kernel), List.mem_of_getElem? (i := 1498) (by decide +kernel)⟩
theorem lw_p71 : lw_okq (⟨"ShellWatchModel", "rough", "()I"⟩, 31) := ⟨⟨by decide +kernel, by decide +kernel⟩, List.mem_of_getElem? (i := 1209) (by decide +kernel), List.mem_of_getElem? (i := 1501) (by decide +kernel), List.mem_of_getElem? (i := 1502) (by decide +kernel)⟩
theorem lw_p72 : lw_okq (⟨"ShellWatchModel", "stays", "(J)V"⟩, 31) := ⟨⟨by decide +kernel, by decide +kernel⟩, List.mem_of_getElem? (i := 1209) (by decide +kernel), List.mem_of_getElem? (i := 1508) (by decide +kernel), List.mem_of_getElem? (i := 1509) (by decide +kernel)⟩
theorem lw_p73 : lw_okq (⟨"ShellWatchModel", "had", "(I)J"⟩, 31) := ⟨⟨by decide +kernel, by decide +kernel⟩, List.mem_of_getElem? (i := 1209) (by decide +kernel), List.mem_of_getElem? (i := 1512) (by decide +kernel), List.mem_of_getElem? (i := 1513) (by decide +kernel)⟩
theorem lw_p74 : lw_okq (⟨"ShellWatchModel", "seen", "(III)V"⟩, 31) := ⟨⟨by decide +kernel, by decide +kernel⟩, List.mem_of_getElem? (i := 1209) (by decide +kernel), List.mem_of_getElem? (i := 1517) (by decide +kernel), List.mem_of_getElem? (i := 1518) (by decide +kernel)⟩
theorem lw_p75 : lw_okq (⟨"ShellWatchModel", "reduces", "()V"⟩, 31) := ⟨⟨by decide +kernel, by decide +kernel⟩, List.mem_of_getElem? (i := 1209) (by decide +kernel), List.mem_of_getElem? (i := 1522) (by decide +kernel), List.mem_of_getElem? (i := 1523) (by decide +kernel)⟩
theorem lw_p76 : lw_okq (⟨"ShellWatchModel", "ballBehind", "(III)I"⟩, 31) := ⟨⟨by decide +kernel, by decide +kernel⟩, List.mem_of_getElem? (i := 1209) (by decide +kernel), List.mem_of_getElem? (i := 1531) (by decide +kernel), List.mem_of_getElem? (i := 1532) (by decide +kernel)⟩
theorem lw_p77 : lw_okq (⟨"ShellWatchModel", "believes", "()V"⟩, 31) := ⟨⟨by decide +kernel, by decide +kernel⟩, List.mem_of_getElem? (i := 1209) (by decide +kernel), List.mem_of_getElem? (i := 1535) (by decide +kernel), List.mem_of_getElem? (i := 1536) (by decide +kernel)⟩
theorem lw_p78 : lw_okq (⟨"ShellWatchModel", "canSteal", "(I)Z"⟩, 31) := ⟨⟨by decide +kernel, by decide +kernel⟩, List.mem_of_getElem? (i := 1209) (by decide +kernel), List.mem_of_getElem? (i := 1539) (by decide +kernel), List.mem_of_getElem? (i := 1540) (by decide +kernel)⟩
theorem lw_p79 : lw_okq (⟨"ShellWatchModel", "canPlant", "()Z"⟩, 31) := ⟨⟨by decide +kernel, by decide +kernel⟩, List.mem_of_getElem? (i := 1209) (by decide +kernel), List.mem_of_getElem? (i := 1543) (by decide +kernel), List.mem_of_getElem? (i := 1544) (by decide +kernel)⟩
def lw_privs_5 : List (MethodName × Nat) := [(⟨"ShellWatchModel", "does", "(I)Z"⟩, 31), (⟨"ShellWatchModel", "isPlace", "(I)Z"⟩, 31), (⟨"ShellWatchModel", "steps", "(III)Z"⟩, 31), (⟨"ShellWatchModel", "blinksNow", "()Z"⟩, 31), (⟨"ShellWatchModel", "blinksAt", "(I)Z"⟩, 31), (⟨"ShellWatchModel", "thinks", "(III)V"⟩, 31), (⟨"ShellWatchModel", "unseen", "(III)V"⟩, 31), (⟨"ShellWatchModel", "rough", "()I"⟩, 31), (⟨"ShellWatchModel", "stays", "(J)V"⟩, 31), (⟨"ShellWatchModel", "had", "(I)J"⟩, 31), (⟨"ShellWatchModel", "seen", "(III)V"⟩, 31), (⟨"ShellWatchModel", "reduces", "()V"⟩, 31), (⟨"ShellWatchModel", "ballBehind", "(III)I"⟩, 31), (⟨"ShellWatchModel", "believes", "()V"⟩, 31), (⟨"ShellWatchModel", "canSteal", "(I)Z"⟩, 31), (⟨"ShellWatchModel", "canPlant", "()Z"⟩, 31)]
theorem lw_r5 : ∀ q ∈ lw_privs_5, lw_okq q := List.forall_mem_cons.mpr ⟨lw_p64, List.forall_mem_cons.mpr ⟨lw_p65, List.forall_mem_cons.mpr ⟨lw_p66, List.forall_mem_cons.mpr ⟨lw_p67, List.forall_mem_cons.mpr ⟨lw_p68, List.forall_mem_cons.mpr ⟨lw_p69, List.forall_mem_cons.mpr ⟨lw_p70, List.forall_mem_cons.mpr ⟨lw_p71, List.forall_mem_cons.mpr ⟨lw_p72, List.forall_mem_cons.mpr ⟨lw_p73, List.forall_mem_cons.mpr ⟨lw_p74, List.forall_mem_cons.mpr ⟨lw_p75, List.forall_mem_cons.mpr ⟨lw_p76, List.forall_mem_cons.mpr ⟨lw_p77, List.forall_mem_cons.mpr ⟨lw_p78, List.forall_mem_cons.mpr ⟨lw_p79, fun _ h => absurd h List.not_mem_nil⟩⟩⟩⟩⟩⟩⟩⟩⟩⟩⟩⟩⟩⟩⟩⟩
theorem lw_p80 : lw_okq (⟨"ShellWatchModel", "looks", "(I)Z"⟩, 31) := ⟨⟨by decide +kernel, by decide +kernel⟩, List.mem_of_getElem? (i := 1209) (by decide +kernel), List.mem_of_getElem? (i := 1547) (by decide +kernel), List.mem_of_getElem? (i := 1548) (by decide +kernel)⟩
theorem lw_p81 : lw_okq (⟨"ShellWatchModel", "toldOf", "(I)I"⟩, 31) := ⟨⟨by decide +kernel, by decide +kernel⟩, List.mem_of_getElem? (i := 1209) (by decide +kernel), List.mem_of_getElem? (i := 1555) (by decide +kernel), List.mem_of_getElem? (i := 1556) (by decide +kernel)⟩
theorem lw_p82 : lw_okq (⟨"ShellWatchModel", "sum", "()J"⟩, 31) := ⟨⟨by decide +kernel, by decide +kernel⟩, List.mem_of_getElem? (i := 1209) (by decide +kernel), List.mem_of_getElem? (i := 1559) (by decide +kernel), List.mem_of_getElem? (i := 1560) (by decide +kernel)⟩
theorem lw_p83 : lw_okq (⟨"ShellWatchModel", "believed", "()I"⟩, 31) := ⟨⟨by decide +kernel, by decide +kernel⟩, List.mem_of_getElem? (i := 1209) (by decide +kernel), List.mem_of_getElem? (i := 1563) (by decide +kernel), List.mem_of_getElem? (i := 1564) (by decide +kernel)⟩
theorem lw_p84 : lw_okq (⟨"ShellWatchModel", "toldOfShell", "(II)I"⟩, 31) := ⟨⟨by decide +kernel, by decide +kernel⟩, List.mem_of_getElem? (i := 1209) (by decide +kernel), List.mem_of_getElem? (i := 1571) (by decide +kernel), List.mem_of_getElem? (i := 1572) (by decide +kernel)⟩
theorem lw_p85 : lw_okq (⟨"ShellWatchModel", "guessed", "()I"⟩, 31) := ⟨⟨by decide +kernel, by decide +kernel⟩, List.mem_of_getElem? (i := 1209) (by decide +kernel), List.mem_of_getElem? (i := 1591) (by decide +kernel), List.mem_of_getElem? (i := 1592) (by decide +kernel)⟩
theorem lw_p86 : lw_okq (⟨"ShellWatchModel", "oddsOf", "(I)I"⟩, 31) := ⟨⟨by decide +kernel, by decide +kernel⟩, List.mem_of_getElem? (i := 1209) (by decide +kernel), List.mem_of_getElem? (i := 1603) (by decide +kernel), List.mem_of_getElem? (i := 1604) (by decide +kernel)⟩
theorem lw_p87 : lw_okq (⟨"ShellWatchModel", "factOf", "(II)J"⟩, 31) := ⟨⟨by decide +kernel, by decide +kernel⟩, List.mem_of_getElem? (i := 1209) (by decide +kernel), List.mem_of_getElem? (i := 1607) (by decide +kernel), List.mem_of_getElem? (i := 1608) (by decide +kernel)⟩
theorem lw_p88 : lw_okq (⟨"ShellWatchModel", "fools", "()V"⟩, 31) := ⟨⟨by decide +kernel, by decide +kernel⟩, List.mem_of_getElem? (i := 1209) (by decide +kernel), List.mem_of_getElem? (i := 1625) (by decide +kernel), List.mem_of_getElem? (i := 1626) (by decide +kernel)⟩
theorem lw_p89 : lw_okq (⟨"ShellWatchModel", "tries", "(III)V"⟩, 31) := ⟨⟨by decide +kernel, by decide +kernel⟩, List.mem_of_getElem? (i := 1209) (by decide +kernel), List.mem_of_getElem? (i := 1629) (by decide +kernel), List.mem_of_getElem? (i := 1630) (by decide +kernel)⟩
theorem lw_p90 : lw_okq (⟨"ShellWatchModel", "areTwo", "(II)Z"⟩, 31) := ⟨⟨by decide +kernel, by decide +kernel⟩, List.mem_of_getElem? (i := 1209) (by decide +kernel), List.mem_of_getElem? (i := 1641) (by decide +kernel), List.mem_of_getElem? (i := 1642) (by decide +kernel)⟩
def lw_privs_6 : List (MethodName × Nat) := [(⟨"ShellWatchModel", "looks", "(I)Z"⟩, 31), (⟨"ShellWatchModel", "toldOf", "(I)I"⟩, 31), (⟨"ShellWatchModel", "sum", "()J"⟩, 31), (⟨"ShellWatchModel", "believed", "()I"⟩, 31), (⟨"ShellWatchModel", "toldOfShell", "(II)I"⟩, 31), (⟨"ShellWatchModel", "guessed", "()I"⟩, 31), (⟨"ShellWatchModel", "oddsOf", "(I)I"⟩, 31), (⟨"ShellWatchModel", "factOf", "(II)J"⟩, 31), (⟨"ShellWatchModel", "fools", "()V"⟩, 31), (⟨"ShellWatchModel", "tries", "(III)V"⟩, 31), (⟨"ShellWatchModel", "areTwo", "(II)Z"⟩, 31)]
theorem lw_r6 : ∀ q ∈ lw_privs_6, lw_okq q := List.forall_mem_cons.mpr ⟨lw_p80, List.forall_mem_cons.mpr ⟨lw_p81, List.forall_mem_cons.mpr ⟨lw_p82, List.forall_mem_cons.mpr ⟨lw_p83, List.forall_mem_cons.mpr ⟨lw_p84, List.forall_mem_cons.mpr ⟨lw_p85, List.forall_mem_cons.mpr ⟨lw_p86, List.forall_mem_cons.mpr ⟨lw_p87, List.forall_mem_cons.mpr ⟨lw_p88, List.forall_mem_cons.mpr ⟨lw_p89, List.forall_mem_cons.mpr ⟨lw_p90, fun _ h => absurd h List.not_mem_nil⟩⟩⟩⟩⟩⟩⟩⟩⟩⟩⟩
def lw_privs : List (MethodName × Nat) := lw_privs_1 ++ (lw_privs_2 ++ (lw_privs_3 ++ (lw_privs_4 ++ (lw_privs_5 ++ (lw_privs_6)))))
def lw_tbl : List Cond := k2_sels lw_privs ++ tables_1
theorem lw_privs_ok : ∀ q ∈ lw_privs, lw_okq q := by
  show ∀ q ∈ lw_privs_1 ++ (lw_privs_2 ++ (lw_privs_3 ++ (lw_privs_4 ++ (lw_privs_5 ++ (lw_privs_6))))), lw_okq q
  exact List.forall_mem_append.mpr ⟨lw_r1, List.forall_mem_append.mpr ⟨lw_r2, List.forall_mem_append.mpr ⟨lw_r3, List.forall_mem_append.mpr ⟨lw_r4, List.forall_mem_append.mpr ⟨lw_r5, lw_r6⟩⟩⟩⟩⟩
/-- the streams that the claim lets the run draw from -/
abbrev lw_cs : List Choice := [Jvm.Choice.named "NaN.bits"]
theorem lw_bits : nanBits ∈ lw_cs := by first | decide | exact List.mem_cons_self | simp [lw_cs, nanBits]
-- ===== end of PART A; then your names; then what follows =====
/-! ===== BEGIN words of one list among another's, by their places ===== -/
theorem goodIn_r {big : List Cond} (ws : List Cond) (ps : List Nat) (hp : ws = ps.filterMap (fun i => big[i]?)) (h : ws.all goodWord = true) : GoodIn big ws := by
  intro w hw
  have h1 := List.all_eq_true.mp h w hw
  rw [hp] at hw
  obtain ⟨i, -, hi⟩ := List.mem_filterMap.mp hw
  have hm : w ∈ big := by first | exact List.mem_of_getElem? hi | exact List.getElem?_mem hi
  exact ⟨hm, good_of_word h1⟩
theorem goodIn_app {big a b : List Cond} (ha : GoodIn big a) (hb : GoodIn big b) : GoodIn big (a ++ b) := fun w h => (List.mem_append.mp h).elim (ha w) (hb w)
theorem goodIn_ca {big a b : List Cond} {c : Cond} (ha : GoodIn big (c :: a)) (hb : GoodIn big b) : GoodIn big (c :: (a ++ b)) := fun w h => (List.mem_cons.mp h).elim (fun e => ha w (List.mem_cons.mpr (Or.inl e))) (fun h => (List.mem_append.mp h).elim (fun h => ha w (List.mem_cons.mpr (Or.inr h))) (hb w))
theorem goodIn_sub {big ws : List Cond} (hm : ∀ w ∈ ws, w ∈ big) (h : ws.all goodWord = true) : GoodIn big ws := fun w hw => ⟨hm w hw, good_of_word (List.all_eq_true.mp h w hw)⟩
/-! ===== END ===== -/

/-! ===== BEGIN exceptions that leave a method, and their catching by the caller (launches without stack traces) ===== -/
section VXA
/-! The laws vx_back, vx_callV, vx_callS, vx_callSW, vx_throw0, vx_throwS follow proofs of the library, with one case more: JvmDerived/Free/Laws.lean (Back.of_free), Shelf42/LK1.lean (callV, callS), Shelf/KitTraced.lean (throwNew0V, throwNewS). -/
/-- where a method has thrown q: the class by its name, the cell, what was written, the world -/
def vx_T (XC : String → State → State → Prop) (st : State) (q : Addr) (t : State) (mc ms : Nat) (free : Addr → Prop) : Prop :=
  ∃ (E : String) (ce : Cell) (L : List Loc), XC E st t ∧ t.heap[q]? = some ce ∧ ce.vm = .none ∧ st.vm.findClass E = some ce.cls ∧ st.WarmedH t.vm ∧ st.sameButNew ({ t with vm := st.vm } : State) L mc ms ∧ ∀ z ∈ L, free z.base
def vx_Q (Qc : Array Value → State → Outcome → State → Prop) (XC : String → State → State → Prop) (mc ms : Nat) (free : Addr → Prop) : Array Value → State → Outcome → State → Prop := fun a st o t =>
  (Qc a st o t ∧ ∃ L, FrameEnd st o t L mc ms ∧ ∀ q ∈ L, free q.base) ∨ ∃ q, o = .threw q ∧ vx_T XC st q t mc ms free
/-- a callee that returns or throws -/
def vx_Met (l : Launch) (y : MethodName) (ws : List Cond) (rm : Room) (Pc : Array Value → State → Prop) (Qc : Array Value → State → Outcome → State → Prop) (XC : String → State → State → Prop) (mc ms : Nat) (free : Addr → Prop) : Prop :=
  MetFree l y (headSpec ws rm) Pc (fun _ _ _ _ _ => True) (vx_Q Qc XC mc ms free)
def vx_Post (XC : String → State → State → Prop) (mc ms : Nat) (free : Addr → Prop) : Pt → Array Value → Addr → Pt → Prop := fun A a q B =>
  ∃ (g : JFrame) (mk : MethodId) (t : State) (L : List Loc) (E : String) (ce : Cell), B.U.heap = t.heap ∧ B.U.vm = t.vm ∧ XC E (A.U.calling g mk a) t ∧ t.heap[q]? = some ce ∧ ce.vm = .none ∧ A.U.vm.findClass E = some ce.cls ∧ B.locs = A.locs ++ L ∧ (∀ z ∈ L, free z.base) ∧ B.cells = A.cells + mc ∧ B.slots = A.slots + ms
def vx_Back (l : Launch) (R : Room) (p : Program) (e : Env) (below : List Frame) (s : State) (sargs : Array Value) (y : MethodName) (len W9 : Nat)
    (Pre : Pt → Array Value → Prop) (Post : Pt → Array Value → Option Value → Pt → Prop) (PostX : Pt → Array Value → Addr → Pt → Prop) : Prop :=
  ∀ (m : MethodId) (meth : Method) (c : Code) (A : Pt) (g : JFrame) (ig : Instr) (mk : MethodId) (a : Array Value),
    Stand p l e R s m sargs below meth c A.U A.locs A.cells A.slots → g.method = m → g.locals.size = c.maxLocals → decode c.code g.pc = .ok (ig, len) →
    2 * g.monitorRoom + (g.stack.map fun v => v.category).sum ≤ W9 → A.U.methodNamed? y = some mk → Pre A a →
    (∃ (v : Option Value) (B : Pt), Stand p l e R s m sargs below meth c B.U B.locs B.cells B.slots ∧ Post A a v B ∧
      Steps p.tables e below (doInvoke e (A.U.setTop g) [] mk a).1 (B.U.setTop { g with pc := g.pc + len, stack := v.toList ++ g.stack })) ∨
    (∃ (q : Addr) (B : Pt), Stand p l e R s m sargs below meth c B.U B.locs B.cells B.slots ∧ PostX A a q B ∧
      Steps p.tables e below (doInvoke e (A.U.setTop g) [] mk a).1 ((B.U.setTop g).pushFrame (.throwing q)))
section Payer
variable {l : Launch} {R : Room} {p : Program} {e : Env} {below : List Frame} {s : State} {sargs : Array Value} {y : MethodName} {len W9 : Nat}
theorem vx_back {ws : List Cond} {rm : Room} {Pc : Array Value → State → Prop} {Qc : Array Value → State → Outcome → State → Prop} {XC : String → State → State → Prop} {mc ms : Nat} {free : Addr → Prop} {bytes : ByteArray} {maxL : Nat} {ret : Option FieldType}
    (hM : vx_Met l y ws rm Pc Qc XC mc ms free) (hblind : FrameBlind Pc) (hrc : rm.cells = mc) (hrs : rm.slots = ms)
    (hframes : rm.frames + 1 ≤ R.frames) (hlocals : W9 + (maxL + 11) + rm.locals ≤ R.locals)
    (hws : ∀ w ∈ ws, ∀ a' U, s.WarmedH U.vm → w.before a' U = true) (hcode : Cond.code y bytes maxL ret ∈ ws) (hinit : ∀ a' U, s.WarmedH U.vm → (Cond.initialized y.cls).before a' U = true) :
    vx_Back l R p e below s sargs y len W9 (PreOf R mc ms Pc) (PostOf Qc mc ms free) (vx_Post XC mc ms free) := by
  intro m meth c A g ig mk a X hg hsize hdg hW hn hp
  have h1 : (headSpec ws rm).pre.before a A.U = true := atoms_intro fun w hw => hws w hw _ _ X.warmed
  have h2 : (Cond.code y bytes maxL ret).before a A.U = true := hws _ hcode _ _ X.warmed
  have h3 : (Cond.initialized y.cls).before a A.U = true := hinit _ _ X.warmed
  have h4 : A.cells + (headSpec ws rm).room.cells ≤ R.cells := by rw [show (headSpec ws rm).room.cells = mc from hrc]; exact hp.1
  have h5 : A.slots + (headSpec ws rm).room.slots ≤ R.slots := by rw [show (headSpec ws rm).room.slots = ms from hrs]; exact hp.2.1
  have hPc : Pc a (A.U.calling g mk a) := hblind _ _ _ _ hp.2.2
  obtain ⟨U, Ls, c0, s0⟩ := A
  dsimp only [Pt.U, Pt.locs, Pt.cells, Pt.slots] at h1 h2 h3 h4 h5 X hn hPc ⊢
  obtain ⟨methY, cY, hmY, hcY, -, hlY, -, -, -, -⟩ := Cond.code_spec hn h2
  obtain ⟨kY, hkY, -⟩ := className_of_methodNamed hn
  have hinitY : kY.init = .initialized := Cond.initialized_spec (findClass_of_methodNamed hn) hkY h3
  have h : At U g.method c below := by rw [hg]; exact X.here
  have hlocals9 : W9 + (maxL + 11) + (headSpec ws rm).room.locals ≤ R.locals := hlocals
  have happ : (headSpec ws rm).appliesLoose y e.platform (U.calling g mk a) = true :=
    Spec.appliesLoose_calling (g := g) h hdg hn hkY hinitY
      (X.room_calling (g := g) (R' := (headSpec ws rm).room) hsize hmY hcY hframes (by rw [hlY]; omega) h4 h5) h1
  obtain ⟨mid, hmid⟩ := h.above
  have hfr : (U.setTop g).frames = (.java g :: mid) ++ below := by rw [State.frames_setTop' g h.top, hmid]; rfl
  obtain ⟨o, s₂, hsteps, -, hend, hq⟩ := Steps.callFree hM p X.admits X.cas X.clock (acts := []) hfr happ hPc trivial
  have hq' : vx_Q Qc XC mc ms free a (U.calling g mk a) o s₂ := hq
  rw [State.frames_setTop' g h.top] at hend
  obtain ⟨g₀, hg0⟩ := Option.isSome_iff_exists.mp h.top
  obtain ⟨r, hr⟩ := State.topJava?_eq_some.mp hg0
  have hr' : (({ U with heap := s₂.heap, slotsUsed := s₂.slotsUsed } : State).setVm s₂.vm).frames = .java g₀ :: r := hr
  rcases hq' with ⟨hqc, L, hfe, hL⟩ | ⟨q, rfl, E, ce, L, hx, hce, hcv, hcl, hW₂, hsm, hL⟩
  · obtain ⟨⟨v, rfl⟩, hW₂, e2, q2, q3, q4, q5, q6⟩ := id hfe
    have e3 : s₂ = ({ (U.calling g mk a).setFrames s₂.frames with heap := s₂.heap, slotsUsed := s₂.slotsUsed } : State).setVm s₂.vm := by
      have : s₂ = ({ s₂ with vm := (U.calling g mk a).vm } : State).setVm s₂.vm := rfl
      rw [e2] at this
      exact this
    obtain ⟨c₂, i₂, len₂, hc₂, hd₂, hf₂⟩ := hend
    have hW' : U.WarmedH s₂.vm := hW₂
    have hcc : c₂ = c := by
      have h1 : s₂.code? g.method = U.code? g.method := by
        rw [State.code?_eq, State.code?_eq, hW'.alike.method?]
      exact Option.some.inj (hc₂.symm.trans (h1.trans h.code))
    subst hcc
    have hlen : len₂ = len := by rw [hdg] at hd₂; cases hd₂; rfl
    subst hlen
    have hs₂ : s₂ = (({ U with heap := s₂.heap, slotsUsed := s₂.slotsUsed } : State).setVm s₂.vm).setTop { g with pc := g.pc + len₂, stack := v.toList ++ g.stack } := by
      refine e3.trans ?_
      rw [hf₂, State.calling_eq h.top, State.setFrames_setFrames, State.setTop_of_frames _ hr', hr]
      rfl
    have hsame : U.sameButNew ({ U with heap := s₂.heap, slotsUsed := s₂.slotsUsed } : State) L mc ms := by
      refine ⟨?_, q2, q3, q4, q5, q6⟩
      obtain ⟨t, ht, -⟩ := State.frames_cons hr
      show ({ U with heap := s₂.heap, slotsUsed := s₂.slotsUsed } : State) = { U.setFrames U.frames with heap := s₂.heap, slotsUsed := s₂.slotsUsed }
      rw [State.setFrames_self ht]
    subst hg
    refine Or.inl ⟨v, ⟨(({ U with heap := s₂.heap, slotsUsed := s₂.slotsUsed } : State).setVm s₂.vm), Ls ++ L, c0 + mc, s0 + ms⟩,
      ⟨X.admits, X.cas, X.clock, X.frames, X.room, X.hears, X.method, X.code, (X.here.setHeapUsed s₂.heap s₂.slotsUsed).setVm hW'.alike, X.tail, State.WarmedH.trans X.warmed hW', X.limits, X.bytes, X.same.trans (hsame.setVm s.vm)⟩,
      ⟨g, mk, s₂, L, rfl, rfl, hqc, rfl, hL, rfl, rfl⟩, ?_⟩
    show Steps p.tables e below _ ((({ U with heap := s₂.heap, slotsUsed := s₂.slotsUsed } : State).setVm s₂.vm).setTop { g with pc := g.pc + len₂, stack := v.toList ++ g.stack })
    rw [← hs₂]
    exact hsteps
  · obtain ⟨e2, q2, q3, q4, q5, q6⟩ := id hsm
    have e3 : s₂ = ({ (U.calling g mk a).setFrames s₂.frames with heap := s₂.heap, slotsUsed := s₂.slotsUsed } : State).setVm s₂.vm := by
      have : s₂ = ({ s₂ with vm := (U.calling g mk a).vm } : State).setVm s₂.vm := rfl
      rw [e2] at this
      exact this
    have hf₂ : s₂.frames = .throwing q :: .java g :: U.frames.tail := hend
    have hW' : U.WarmedH s₂.vm := hW₂
    have hs₂ : s₂ = ((({ U with heap := s₂.heap, slotsUsed := s₂.slotsUsed } : State).setVm s₂.vm).setTop g).pushFrame (.throwing q) := by
      refine e3.trans ?_
      rw [hf₂, State.calling_eq h.top, State.setFrames_setFrames, State.pushFrame, State.frames_setTop _ hr', State.setTop_of_frames _ hr', State.setFrames_setFrames, hr]
      rfl
    have hsame : U.sameButNew ({ U with heap := s₂.heap, slotsUsed := s₂.slotsUsed } : State) L mc ms := by
      refine ⟨?_, q2, q3, q4, q5, q6⟩
      obtain ⟨t, ht, -⟩ := State.frames_cons hr
      show ({ U with heap := s₂.heap, slotsUsed := s₂.slotsUsed } : State) = { U.setFrames U.frames with heap := s₂.heap, slotsUsed := s₂.slotsUsed }
      rw [State.setFrames_self ht]
    subst hg
    refine Or.inr ⟨q, ⟨(({ U with heap := s₂.heap, slotsUsed := s₂.slotsUsed } : State).setVm s₂.vm), Ls ++ L, c0 + mc, s0 + ms⟩,
      ⟨X.admits, X.cas, X.clock, X.frames, X.room, X.hears, X.method, X.code, (X.here.setHeapUsed s₂.heap s₂.slotsUsed).setVm hW'.alike, X.tail, State.WarmedH.trans X.warmed hW', X.limits, X.bytes, X.same.trans (hsame.setVm s.vm)⟩,
      ⟨g, mk, s₂, L, E, ce, rfl, rfl, hx, hce, hcv, hcl, rfl, hL, rfl, rfl⟩, ?_⟩
    show Steps p.tables e below _ (((({ U with heap := s₂.heap, slotsUsed := s₂.slotsUsed } : State).setVm s₂.vm).setTop g).pushFrame (.throwing q))
    rw [← hs₂]
    exact hsteps
end Payer
section Calls
variable {p : Program} {l : Launch} {e : Env} {R : Room} {s : State} {m : MethodId} {args : Array Value} {below : List Frame} {meth : Method} {c : Code} {T : State} {locs : List Loc} {cells slots : Nat}
theorem vx_callV (X : Stand p l e R s m args below meth c T locs cells slots) (hexec : p.tables.exec = Jvm.exec) {own C : String} {index : Nat} {y : MethodName} {bytes : ByteArray} {maxL : Nat} {ret : Option FieldType}
    (hown : s.vm.findClass own = some m.cls) (hlink : (Cond.methodLink own index y).before args s = true) (hinst : (Cond.instanceMethod y).before args s = true) (hsel : (Cond.selects C y y).before args s = true)
    (hcode : (Cond.code y bytes maxL ret).before args s = true) (hy : y.cls ≠ "java/lang/invoke/MethodHandle" ∧ y.cls ≠ "java/lang/invoke/VarHandle")
    {W9 : Nat} {Pre : Pt → Array Value → Prop} {Post : Pt → Array Value → Option Value → Pt → Prop} {PostX : Pt → Array Value → Addr → Pt → Prop} (hK : vx_Back l R p e below s args y 3 W9 Pre Post PostX)
    {b : Addr} {cellB : Cell} (hcell : T.heap[b]? = some cellB) (hobj : cellB.vm.isStatics = false) (hcls : s.vm.findClass C = some cellB.cls)
    {g : JFrame} (hg : g.method = m) (hsize : g.locals.size = c.maxLocals) {argsL rest : List Value} (hlen : ∀ sig, parseMethodDescriptor y.desc = some sig → argsL.length = sig.parameters.length)
    (hstack : g.stack = argsL.reverse ++ .ref b :: rest) (hW : 2 * g.monitorRoom + (rest.map fun v => v.category).sum ≤ W9) (hdg : decode c.code g.pc = .ok (.invokevirtual index, 3))
    (hpre : ∀ vm₁, s.WarmedH vm₁ → Pre ⟨T.setVm vm₁, locs, cells, slots⟩ (Value.ref b :: argsL).toArray) :
    (∃ (v : Option Value) (vm₁ : Vm) (B : Pt), s.WarmedH vm₁ ∧ Stand p l e R s m args below meth c B.U B.locs B.cells B.slots ∧ Post ⟨T.setVm vm₁, locs, cells, slots⟩ (Value.ref b :: argsL).toArray v B ∧
      ∀ target, Steps p.tables e below (B.U.setTop { g with pc := g.pc + 3, stack := v.toList ++ rest }) target → Steps p.tables e below (T.setTop g) target) ∨
    (∃ (q : Addr) (vm₁ : Vm) (B : Pt), s.WarmedH vm₁ ∧ Stand p l e R s m args below meth c B.U B.locs B.cells B.slots ∧ PostX ⟨T.setVm vm₁, locs, cells, slots⟩ (Value.ref b :: argsL).toArray q B ∧
      Steps p.tables e below (T.setTop g) ((B.U.setTop { g with stack := rest }).pushFrame (.throwing q))) := by
  obtain ⟨mk, methM, hnamed, hmethM, hstM, habM⟩ := Cond.instanceMethod_spec hinst
  obtain ⟨methM', cM, hmethM', -, -, -, -, -, -, hsigM⟩ := Cond.code_spec hnamed hcode
  cases hmethM.symm.trans hmethM'
  obtain ⟨c2, r2, m2, q1, q2, q3, q4, kP, hkP, hkPi⟩ := Cond.selects_spec hsel
  cases hcls.symm.trans q1
  cases (State.methodFound?_of_named hnamed hy).symm.trans q2
  cases hnamed.symm.trans q3
  have hselP : selectMethod e.platform s.vm cellB.cls mk = .method mk := by rw [Launch.admits_selectMethod X.admits]; exact q4
  obtain ⟨vm₁, X₁, hstep₁⟩ := X.invokevirtual hexec hown hlink hnamed hmethM hstM hkP hkPi hy (a := b) (cell := cellB) hcell
    (fun z h => by rw [h] at hobj; cases hobj) hselP hmethM habM hkP hkPi (g := g) hg (argsL := argsL) (rest := rest) (hlen _ hsigM) hstack hdg
  rcases hK m meth c ⟨T.setVm vm₁, locs, cells, slots⟩ { g with stack := rest } (.invokevirtual index) mk (Value.ref b :: argsL).toArray X₁ hg hsize hdg hW (X₁.named hnamed) (hpre vm₁ X₁.warmed) with ⟨v, B, X', hpost, hsteps⟩ | ⟨q, B, X', hpost, hsteps⟩
  · exact Or.inl ⟨v, vm₁, B, X₁.warmed, X', hpost, fun target h => hstep₁ _ fun acts => by rw [doInvoke_state]; exact hsteps.trans h⟩
  · exact Or.inr ⟨q, vm₁, B, X₁.warmed, X', hpost, hstep₁ _ fun acts => by rw [doInvoke_state]; exact hsteps⟩
theorem vx_callS (X : Stand p l e R s m args below meth c T locs cells slots) (hexec : p.tables.exec = Jvm.exec) {own : String} {index : Nat} {y : MethodName} {bytes : ByteArray} {maxL : Nat} {ret : Option FieldType}
    (hown : s.vm.findClass own = some m.cls) (hlink : (Cond.methodLink own index y).before args s = true) (hstat : (Cond.static y).before args s = true) (hinit : (Cond.initialized y.cls).before args s = true)
    (hcode : (Cond.code y bytes maxL ret).before args s = true) (hy : y.cls ≠ "java/lang/invoke/MethodHandle" ∧ y.cls ≠ "java/lang/invoke/VarHandle")
    {W9 : Nat} {Pre : Pt → Array Value → Prop} {Post : Pt → Array Value → Option Value → Pt → Prop} {PostX : Pt → Array Value → Addr → Pt → Prop} (hK : vx_Back l R p e below s args y 3 W9 Pre Post PostX)
    {g : JFrame} (hg : g.method = m) (hsize : g.locals.size = c.maxLocals) {argsL rest : List Value} (hlen : ∀ sig, parseMethodDescriptor y.desc = some sig → argsL.length = sig.parameters.length)
    (hstack : g.stack = argsL.reverse ++ rest) (hW : 2 * g.monitorRoom + (rest.map fun v => v.category).sum ≤ W9) (hdg : decode c.code g.pc = .ok (.invokestatic index, 3))
    (hpre : ∀ vm₁, s.WarmedH vm₁ → Pre ⟨T.setVm vm₁, locs, cells, slots⟩ argsL.toArray) :
    (∃ (v : Option Value) (vm₁ : Vm) (B : Pt), s.WarmedH vm₁ ∧ Stand p l e R s m args below meth c B.U B.locs B.cells B.slots ∧ Post ⟨T.setVm vm₁, locs, cells, slots⟩ argsL.toArray v B ∧
      ∀ target, Steps p.tables e below (B.U.setTop { g with pc := g.pc + 3, stack := v.toList ++ rest }) target → Steps p.tables e below (T.setTop g) target) ∨
    (∃ (q : Addr) (vm₁ : Vm) (B : Pt), s.WarmedH vm₁ ∧ Stand p l e R s m args below meth c B.U B.locs B.cells B.slots ∧ PostX ⟨T.setVm vm₁, locs, cells, slots⟩ argsL.toArray q B ∧
      Steps p.tables e below (T.setTop g) ((B.U.setTop { g with stack := rest }).pushFrame (.throwing q))) := by
  obtain ⟨mk, hnamed⟩ := Cond.code_named hcode
  obtain ⟨methM, cM, hmethM, -, -, -, -, -, -, hsigM⟩ := Cond.code_spec hnamed hcode
  have hstatic : methM.isStatic = true := Cond.static_spec hnamed hmethM hstat
  obtain ⟨kP, hkP, -⟩ := className_of_methodNamed hnamed
  have hinitP : kP.init = .initialized := Cond.initialized_spec (findClass_of_methodNamed hnamed) hkP hinit
  obtain ⟨vm₁, X₁, hstep₁⟩ := X.invokestatic hexec hown hlink hnamed hmethM hstatic hkP hinitP hy (g := g) hg (argsL := argsL) (rest := rest) (hlen _ hsigM) hstack hdg
  rcases hK m meth c ⟨T.setVm vm₁, locs, cells, slots⟩ { g with stack := rest } (.invokestatic index) mk argsL.toArray X₁ hg hsize hdg hW (X₁.named hnamed) (hpre vm₁ X₁.warmed) with ⟨v, B, X', hpost, hsteps⟩ | ⟨q, B, X', hpost, hsteps⟩
  · exact Or.inl ⟨v, vm₁, B, X₁.warmed, X', hpost, fun target h => hstep₁ _ fun acts => by rw [doInvoke_state]; exact hsteps.trans h⟩
  · exact Or.inr ⟨q, vm₁, B, X₁.warmed, X', hpost, hstep₁ _ fun acts => by rw [doInvoke_state]; exact hsteps⟩
end Calls
theorem vx_cls {s : State} {T : State} {vm₁ : Vm} {E : String} {k : ClassId} (hW : s.WarmedH vm₁) (h : (T.setVm vm₁).vm.findClass E = some k) : s.vm.findClass E = some k := by
  have h1 : vm₁.findClass E = some k := h
  rw [hW.alike.findClass] at h1
  exact h1
/-- the method's frame g, with q thrown over it -/
def vx_W (p : Program) (l : Launch) (e : Env) (R : Room) (s : State) (m : MethodId) (args : Array Value) (below : List Frame) (meth : Method) (c : Code) (H : Heap) (locs : List Loc) (cells slots : Nat) (Q : State → Prop) (g : JFrame) (q : Addr) : Prop :=
  ∀ T : State, T.heap = H → Stand p l e R s m args below meth c T locs cells slots → ∃ t, Steps p.tables e below ((T.setTop g).pushFrame (.throwing q)) t ∧ Q t
def vx_Run (p : Program) (l : Launch) (e : Env) (R : Room) (s : State) (m : MethodId) (args : Array Value) (below : List Frame) (meth : Method) (c : Code) (H : Heap) (locs : List Loc) (cells slots mc ms : Nat) (g : JFrame) (rest : List Value) (Qa : State → Outcome → State → Prop) (XC : String → State → State → Prop) (free : Addr → Prop) : Prop :=
  ∀ T : State, T.heap = H → Stand p l e R s m args below meth c T locs cells slots →
    (∃ (v : Option Value) (st₀ t T' : State) (L : List Loc), st₀.heap = H ∧ Stand p l e R s m args below meth c T' (locs ++ L) (cells + mc) (slots + ms) ∧ (∀ q ∈ L, free q.base) ∧ T'.heap = t.heap ∧ T'.vm = t.vm ∧ Qa st₀ (.returned v) t ∧
      Goes p e below T g T' { g with pc := g.pc + 3, stack := v.toList ++ rest }) ∨
    (∃ (q : Addr) (st₀ t T' : State) (L : List Loc) (E : String) (ce : Cell), st₀.heap = H ∧ Stand p l e R s m args below meth c T' (locs ++ L) (cells + mc) (slots + ms) ∧ (∀ z ∈ L, free z.base) ∧ T'.heap = t.heap ∧ T'.vm = t.vm ∧ XC E st₀ t ∧ t.heap[q]? = some ce ∧ ce.vm = .none ∧ s.vm.findClass E = some ce.cls ∧
      Steps p.tables e below (T.setTop g) ((T'.setTop { g with stack := rest }).pushFrame (.throwing q)))
def vx_X {S : Type} (px : S → Prop) (B : String → S → State → Prop) (A : Nat → Prop) : String → State → State → Prop := fun E st t => ∃ u : S, px u ∧ B E u t ∧ va_F A st t
section Runs
variable {p : Program} {l : Launch} {e : Env} {R : Room} {s : State} {m : MethodId} {args : Array Value} {below : List Frame} {meth : Method} {c : Code} {H : Heap} {locs : List Loc} {cells slots : Nat}
variable {y : MethodName} {bytes cc : ByteArray} {maxL nL mc ms n index : Nat} {ret : Option FieldType} {ws : List Cond} {rm : Room} {Pc : Array Value → State → Prop} {Qc : Array Value → State → Outcome → State → Prop} {XC : String → State → State → Prop} {free : Addr → Prop} {Ts : List Cond} {own C : String} {b : Addr} {As rest : List Value} {g : JFrame}
theorem vx_callBack (cb : CallB R s args own index y bytes maxL ret ws rm mc ms n) (hM : vx_Met l y ws rm Pc Qc XC mc ms free) (hbl : FrameBlind Pc) : vx_Back l R p e below s args y 3 8 (PreOf R mc ms Pc) (PostOf Qc mc ms free) (vx_Post XC mc ms free) := by
  obtain ⟨hrc, hrs, hfr, hlo, hws, hcw, -, hini, -⟩ := cb
  exact vx_back (bytes := bytes) (maxL := maxL) (ret := ret) hM hbl hrc hrs hfr hlo hws hcw (fun a' U hW => word_at hW (Or.inl (by first | rfl | simp [Cond.onTables, Cond.keeps, Cond.steady])) hini)
theorem vx_runV (S : CallFix p m c cc nL s args Ts own) (hM : vx_Met l y ws rm Pc Qc XC mc ms free) (cw : CallW R s args own C index y bytes maxL ret ws rm mc ms n) (hp : PreV s H C b Pc As)
    (hg : g.method = m) (hn : As.length = n) (hsize : g.locals.size = nL) (hstack : g.stack = As.reverse ++ .ref b :: rest) (hW : 2 * g.monitorRoom + (rest.map fun v => v.category).sum ≤ 8) (hdg : decode cc g.pc = .ok (.invokevirtual index, 3)) (hf : cells + mc ≤ R.cells ∧ slots + ms ≤ R.slots) :
    vx_Run p l e R s m args below meth c H locs cells slots mc ms g rest (Qc (Value.ref b :: As).toArray) XC free := by
  have hK : vx_Back l R p e below s args y 3 8 (PreOf R mc ms Pc) (PostOf Qc mc ms free) (vx_Post XC mc ms free) := vx_callBack cw.1 hM hp.1
  obtain ⟨⟨-, -, -, -, -, -, hcode, -, hy, hlen, hl⟩, hin, hse⟩ := cw
  obtain ⟨hx, hb, hml, ho, -⟩ := S
  obtain ⟨-, ⟨cellB, hcB, hoB, hclB⟩, hPc⟩ := hp
  intro T hT X
  rcases vx_callV X hx (C := C) (bytes := bytes) (maxL := maxL) (ret := ret) ho hl hin hse hcode hy hK (by rw [hT]; exact hcB) hoB hclB hg (hsize.trans hml.symm) (argsL := As) (rest := rest) (fun sig h => hn.trans (hlen sig h)) hstack hW (by rw [hb]; exact hdg)
    (fun vm₁ hW₁ => ⟨hf.1, hf.2, hPc (T.setVm vm₁) hT hW₁⟩) with ⟨v, vm₁, ⟨U', l2, c2, s2⟩, hW₁, X', ⟨g', mk, t, L, e1, e2, hq, h1, hL, h2, h3⟩, st⟩ | ⟨q, vm₁, ⟨U', l2, c2, s2⟩, hW₁, X', ⟨g', mk, t, L, E, ce, e1, e2, hq, hce, hcv, hcl, h1, hL, h2, h3⟩, st⟩
  · dsimp only [Pt.U, Pt.locs, Pt.cells, Pt.slots] at X' e1 e2 h1 h2 h3 st
    subst h1; subst h2; subst h3
    exact Or.inl ⟨v, (T.setVm vm₁).calling g' mk (Value.ref b :: As).toArray, t, U', L, hT, X', hL, e1, e2, hq, st⟩
  · dsimp only [Pt.U, Pt.locs, Pt.cells, Pt.slots] at X' e1 e2 h1 h2 h3 st hcl
    subst h1; subst h2; subst h3
    exact Or.inr ⟨q, (T.setVm vm₁).calling g' mk (Value.ref b :: As).toArray, t, U', L, E, ce, hT, X', hL, e1, e2, hq, hce, hcv, vx_cls hW₁ hcl, st⟩
theorem vx_runS (S : CallFix p m c cc nL s args Ts own) (hM : vx_Met l y ws rm Pc Qc XC mc ms free) (cw : CallB R s args own index y bytes maxL ret ws rm mc ms n ∧ (Cond.static y).before args s = true) (hp : PreS s H Pc As)
    (hg : g.method = m) (hn : As.length = n) (hsize : g.locals.size = nL) (hstack : g.stack = As.reverse ++ rest) (hW : 2 * g.monitorRoom + (rest.map fun v => v.category).sum ≤ 8) (hdg : decode cc g.pc = .ok (.invokestatic index, 3)) (hf : cells + mc ≤ R.cells ∧ slots + ms ≤ R.slots) :
    vx_Run p l e R s m args below meth c H locs cells slots mc ms g rest (Qc As.toArray) XC free := by
  have hK : vx_Back l R p e below s args y 3 8 (PreOf R mc ms Pc) (PostOf Qc mc ms free) (vx_Post XC mc ms free) := vx_callBack cw.1 hM hp.1
  obtain ⟨⟨-, -, -, -, -, -, hcode, hini, hy, hlen, hl⟩, hstt⟩ := cw
  obtain ⟨hx, hb, hml, ho, -⟩ := S
  intro T hT X
  rcases vx_callS X hx (bytes := bytes) (maxL := maxL) (ret := ret) ho hl hstt hini hcode hy hK hg (hsize.trans hml.symm) (argsL := As) (rest := rest) (fun sig h => hn.trans (hlen sig h)) hstack hW (by rw [hb]; exact hdg)
    (fun vm₁ hW₁ => ⟨hf.1, hf.2, hp.2 (T.setVm vm₁) hT hW₁⟩) with ⟨v, vm₁, ⟨U', l2, c2, s2⟩, hW₁, X', ⟨g', mk, t, L, e1, e2, hq, h1, hL, h2, h3⟩, st⟩ | ⟨q, vm₁, ⟨U', l2, c2, s2⟩, hW₁, X', ⟨g', mk, t, L, E, ce, e1, e2, hq, hce, hcv, hcl, h1, hL, h2, h3⟩, st⟩
  · dsimp only [Pt.U, Pt.locs, Pt.cells, Pt.slots] at X' e1 e2 h1 h2 h3 st
    subst h1; subst h2; subst h3
    exact Or.inl ⟨v, (T.setVm vm₁).calling g' mk As.toArray, t, U', L, hT, X', hL, e1, e2, hq, st⟩
  · dsimp only [Pt.U, Pt.locs, Pt.cells, Pt.slots] at X' e1 e2 h1 h2 h3 st hcl
    subst h1; subst h2; subst h3
    exact Or.inr ⟨q, (T.setVm vm₁).calling g' mk As.toArray, t, U', L, E, ce, hT, X', hL, e1, e2, hq, hce, hcv, vx_cls hW₁ hcl, st⟩
end Runs
section Rows
variable {p : Program} {l : Launch} {e : Env} {R : Room} {s : State} {m : MethodId} {args : Array Value} {below : List Frame} {meth : Method} {c : Code} {H : Heap} {locs : List Loc} {cells slots : Nat} {Q : State → Prop}
variable {mc ms : Nat} {free : Addr → Prop} {A0 A1 : Nat → Prop} {H0 : Heap} {a : Array Value} {pc : Nat} {ls : Array Slot} {st0 rest : List Value}
theorem vx_keep {st₀ t T' : State} {L : List Loc} (h0 : st₀.heap = H) (e1 : T'.heap = t.heap) (hS : va_S A0 H0 H locs) (hA : ∀ q, q < H.size → A1 q → A0 q) (hf : ∀ q, free q → A0 q) (hL : ∀ q ∈ L, free q.base) (hF : va_F A1 st₀ t) :
    H.size ≤ T'.heap.size ∧ (∀ q : Nat, q < H.size → ¬ A1 q → T'.heap[q]? = H[q]?) ∧ va_S A0 H0 T'.heap (locs ++ L) := by
  obtain ⟨hz, hk⟩ := hF
  rw [h0] at hz hk
  exact ⟨by rw [e1]; exact hz, fun q h1 h2 => by rw [e1]; exact hk q h1 h2,
    ⟨Nat.le_trans hS.1 (by rw [e1]; exact hz), fun q h1 h2 => by rw [e1, hk q (Nat.lt_of_lt_of_le h1 hS.1) (fun z => h2 (hA q (Nat.lt_of_lt_of_le h1 hS.1) z))]; exact hS.2.1 q h1 h2, fun q hq => by
      rcases List.mem_append.mp hq with h | h
      · exact hS.2.2 q h
      · exact hf _ (hL q h)⟩⟩
theorem vx_calli {S SX : Type} {post : Int32 → S → Prop} {px : SX → Prop} {B : S → State → Prop} {BX : String → SX → State → Prop} {AX : Nat → Prop} (hr : vx_Run p l e R s m args below meth c H locs cells slots mc ms (F0 m pc ls st0) rest (va_Qi post B A1 a) (vx_X px BX AX) free) (hS : va_S A0 H0 H locs) (hA : ∀ q, q < H.size → A1 q → A0 q) (hf : ∀ q, free q → A0 q) (hAX : ∀ q, q < H.size → AX q → A0 q)
    (kx : ∀ (E : String) (ce : Cell) (q9 : Addr) (u : SX) (t : State) (H1 : Heap) (locs1 : List Loc), t.heap = H1 → s.vm.Alike t.vm → px u → BX E u t → H.size ≤ H1.size → (∀ q : Nat, q < H.size → ¬ AX q → H1[q]? = H[q]?) → va_S A0 H0 H1 locs1 → H1[q9]? = some ce → ce.vm = .none → s.vm.findClass E = some ce.cls → vx_W p l e R s m args below meth c H1 locs1 (cells + mc) (slots + ms) Q (F0 m pc ls rest) q9)
    (kk : ∀ (r : Int32) (u : S) (t : State) (H1 : Heap) (locs1 : List Loc), t.heap = H1 → s.vm.Alike t.vm → post r u → B u t → H.size ≤ H1.size → (∀ q : Nat, q < H.size → ¬ A1 q → H1[q]? = H[q]?) → va_S A0 H0 H1 locs1 → W p l e R s m args below meth c H1 locs1 (cells + mc) (slots + ms) Q (F0 m (pc + 3) ls (.int r :: rest))) : W p l e R s m args below meth c H locs cells slots Q (F0 m pc ls st0) := by
  intro T hT X
  rcases hr T hT X with ⟨v, st₀, t, T', L, h0, X', hL, e1, e2, ⟨⟨r, u, hv, hp, hb⟩, hF⟩, st⟩ | ⟨q, st₀, t, T', L, E, ce, h0, X', hL, e1, e2, ⟨u, hp, hb, hF⟩, hce, hcv, hcl, st⟩
  · cases hv
    obtain ⟨k1, k2, k3⟩ := vx_keep h0 e1 hS hA hf hL hF
    obtain ⟨t2, a1, b1⟩ := kk r u t T'.heap (locs ++ L) e1.symm (by rw [← e2]; exact X'.warmed.alike) hp hb k1 k2 k3 T' rfl X'
    exact ⟨t2, st t2 a1, b1⟩
  · obtain ⟨k1, k2, k3⟩ := vx_keep h0 e1 hS hAX hf hL hF
    obtain ⟨t2, a1, b1⟩ := kx E ce q u t T'.heap (locs ++ L) e1.symm (by rw [← e2]; exact X'.warmed.alike) hp hb k1 k2 k3 (by rw [e1]; exact hce) hcv hcl T' rfl X'
    exact ⟨t2, st.trans a1, b1⟩
theorem vx_calll {S SX : Type} {post : Int64 → S → Prop} {px : SX → Prop} {B : S → State → Prop} {BX : String → SX → State → Prop} {AX : Nat → Prop} (hr : vx_Run p l e R s m args below meth c H locs cells slots mc ms (F0 m pc ls st0) rest (va_Ql post B A1 a) (vx_X px BX AX) free) (hS : va_S A0 H0 H locs) (hA : ∀ q, q < H.size → A1 q → A0 q) (hf : ∀ q, free q → A0 q) (hAX : ∀ q, q < H.size → AX q → A0 q)
    (kx : ∀ (E : String) (ce : Cell) (q9 : Addr) (u : SX) (t : State) (H1 : Heap) (locs1 : List Loc), t.heap = H1 → s.vm.Alike t.vm → px u → BX E u t → H.size ≤ H1.size → (∀ q : Nat, q < H.size → ¬ AX q → H1[q]? = H[q]?) → va_S A0 H0 H1 locs1 → H1[q9]? = some ce → ce.vm = .none → s.vm.findClass E = some ce.cls → vx_W p l e R s m args below meth c H1 locs1 (cells + mc) (slots + ms) Q (F0 m pc ls rest) q9)
    (kk : ∀ (r : Int64) (u : S) (t : State) (H1 : Heap) (locs1 : List Loc), t.heap = H1 → s.vm.Alike t.vm → post r u → B u t → H.size ≤ H1.size → (∀ q : Nat, q < H.size → ¬ A1 q → H1[q]? = H[q]?) → va_S A0 H0 H1 locs1 → W p l e R s m args below meth c H1 locs1 (cells + mc) (slots + ms) Q (F0 m (pc + 3) ls (.long r :: rest))) : W p l e R s m args below meth c H locs cells slots Q (F0 m pc ls st0) := by
  intro T hT X
  rcases hr T hT X with ⟨v, st₀, t, T', L, h0, X', hL, e1, e2, ⟨⟨r, u, hv, hp, hb⟩, hF⟩, st⟩ | ⟨q, st₀, t, T', L, E, ce, h0, X', hL, e1, e2, ⟨u, hp, hb, hF⟩, hce, hcv, hcl, st⟩
  · cases hv
    obtain ⟨k1, k2, k3⟩ := vx_keep h0 e1 hS hA hf hL hF
    obtain ⟨t2, a1, b1⟩ := kk r u t T'.heap (locs ++ L) e1.symm (by rw [← e2]; exact X'.warmed.alike) hp hb k1 k2 k3 T' rfl X'
    exact ⟨t2, st t2 a1, b1⟩
  · obtain ⟨k1, k2, k3⟩ := vx_keep h0 e1 hS hAX hf hL hF
    obtain ⟨t2, a1, b1⟩ := kx E ce q u t T'.heap (locs ++ L) e1.symm (by rw [← e2]; exact X'.warmed.alike) hp hb k1 k2 k3 (by rw [e1]; exact hce) hcv hcl T' rfl X'
    exact ⟨t2, st.trans a1, b1⟩
theorem vx_callf {S SX : Type} {post : UInt32 → S → Prop} {px : SX → Prop} {B : S → State → Prop} {BX : String → SX → State → Prop} {AX : Nat → Prop} (hr : vx_Run p l e R s m args below meth c H locs cells slots mc ms (F0 m pc ls st0) rest (va_Qf post B A1 a) (vx_X px BX AX) free) (hS : va_S A0 H0 H locs) (hA : ∀ q, q < H.size → A1 q → A0 q) (hf : ∀ q, free q → A0 q) (hAX : ∀ q, q < H.size → AX q → A0 q)
    (kx : ∀ (E : String) (ce : Cell) (q9 : Addr) (u : SX) (t : State) (H1 : Heap) (locs1 : List Loc), t.heap = H1 → s.vm.Alike t.vm → px u → BX E u t → H.size ≤ H1.size → (∀ q : Nat, q < H.size → ¬ AX q → H1[q]? = H[q]?) → va_S A0 H0 H1 locs1 → H1[q9]? = some ce → ce.vm = .none → s.vm.findClass E = some ce.cls → vx_W p l e R s m args below meth c H1 locs1 (cells + mc) (slots + ms) Q (F0 m pc ls rest) q9)
    (kk : ∀ (r : UInt32) (u : S) (t : State) (H1 : Heap) (locs1 : List Loc), t.heap = H1 → s.vm.Alike t.vm → post r u → B u t → H.size ≤ H1.size → (∀ q : Nat, q < H.size → ¬ A1 q → H1[q]? = H[q]?) → va_S A0 H0 H1 locs1 → W p l e R s m args below meth c H1 locs1 (cells + mc) (slots + ms) Q (F0 m (pc + 3) ls (.float r :: rest))) : W p l e R s m args below meth c H locs cells slots Q (F0 m pc ls st0) := by
  intro T hT X
  rcases hr T hT X with ⟨v, st₀, t, T', L, h0, X', hL, e1, e2, ⟨⟨r, u, hv, hp, hb⟩, hF⟩, st⟩ | ⟨q, st₀, t, T', L, E, ce, h0, X', hL, e1, e2, ⟨u, hp, hb, hF⟩, hce, hcv, hcl, st⟩
  · cases hv
    obtain ⟨k1, k2, k3⟩ := vx_keep h0 e1 hS hA hf hL hF
    obtain ⟨t2, a1, b1⟩ := kk r u t T'.heap (locs ++ L) e1.symm (by rw [← e2]; exact X'.warmed.alike) hp hb k1 k2 k3 T' rfl X'
    exact ⟨t2, st t2 a1, b1⟩
  · obtain ⟨k1, k2, k3⟩ := vx_keep h0 e1 hS hAX hf hL hF
    obtain ⟨t2, a1, b1⟩ := kx E ce q u t T'.heap (locs ++ L) e1.symm (by rw [← e2]; exact X'.warmed.alike) hp hb k1 k2 k3 (by rw [e1]; exact hce) hcv hcl T' rfl X'
    exact ⟨t2, st.trans a1, b1⟩
theorem vx_calld {S SX : Type} {post : UInt64 → S → Prop} {px : SX → Prop} {B : S → State → Prop} {BX : String → SX → State → Prop} {AX : Nat → Prop} (hr : vx_Run p l e R s m args below meth c H locs cells slots mc ms (F0 m pc ls st0) rest (va_Qd post B A1 a) (vx_X px BX AX) free) (hS : va_S A0 H0 H locs) (hA : ∀ q, q < H.size → A1 q → A0 q) (hf : ∀ q, free q → A0 q) (hAX : ∀ q, q < H.size → AX q → A0 q)
    (kx : ∀ (E : String) (ce : Cell) (q9 : Addr) (u : SX) (t : State) (H1 : Heap) (locs1 : List Loc), t.heap = H1 → s.vm.Alike t.vm → px u → BX E u t → H.size ≤ H1.size → (∀ q : Nat, q < H.size → ¬ AX q → H1[q]? = H[q]?) → va_S A0 H0 H1 locs1 → H1[q9]? = some ce → ce.vm = .none → s.vm.findClass E = some ce.cls → vx_W p l e R s m args below meth c H1 locs1 (cells + mc) (slots + ms) Q (F0 m pc ls rest) q9)
    (kk : ∀ (r : UInt64) (u : S) (t : State) (H1 : Heap) (locs1 : List Loc), t.heap = H1 → s.vm.Alike t.vm → post r u → B u t → H.size ≤ H1.size → (∀ q : Nat, q < H.size → ¬ A1 q → H1[q]? = H[q]?) → va_S A0 H0 H1 locs1 → W p l e R s m args below meth c H1 locs1 (cells + mc) (slots + ms) Q (F0 m (pc + 3) ls (.double r :: rest))) : W p l e R s m args below meth c H locs cells slots Q (F0 m pc ls st0) := by
  intro T hT X
  rcases hr T hT X with ⟨v, st₀, t, T', L, h0, X', hL, e1, e2, ⟨⟨r, u, hv, hp, hb⟩, hF⟩, st⟩ | ⟨q, st₀, t, T', L, E, ce, h0, X', hL, e1, e2, ⟨u, hp, hb, hF⟩, hce, hcv, hcl, st⟩
  · cases hv
    obtain ⟨k1, k2, k3⟩ := vx_keep h0 e1 hS hA hf hL hF
    obtain ⟨t2, a1, b1⟩ := kk r u t T'.heap (locs ++ L) e1.symm (by rw [← e2]; exact X'.warmed.alike) hp hb k1 k2 k3 T' rfl X'
    exact ⟨t2, st t2 a1, b1⟩
  · obtain ⟨k1, k2, k3⟩ := vx_keep h0 e1 hS hAX hf hL hF
    obtain ⟨t2, a1, b1⟩ := kx E ce q u t T'.heap (locs ++ L) e1.symm (by rw [← e2]; exact X'.warmed.alike) hp hb k1 k2 k3 (by rw [e1]; exact hce) hcv hcl T' rfl X'
    exact ⟨t2, st.trans a1, b1⟩
theorem vx_callv {S SX : Type} {post : S → Prop} {px : SX → Prop} {B : S → State → Prop} {BX : String → SX → State → Prop} {AX : Nat → Prop} (hr : vx_Run p l e R s m args below meth c H locs cells slots mc ms (F0 m pc ls st0) rest (va_Qv post B A1 a) (vx_X px BX AX) free) (hS : va_S A0 H0 H locs) (hA : ∀ q, q < H.size → A1 q → A0 q) (hf : ∀ q, free q → A0 q) (hAX : ∀ q, q < H.size → AX q → A0 q)
    (kx : ∀ (E : String) (ce : Cell) (q9 : Addr) (u : SX) (t : State) (H1 : Heap) (locs1 : List Loc), t.heap = H1 → s.vm.Alike t.vm → px u → BX E u t → H.size ≤ H1.size → (∀ q : Nat, q < H.size → ¬ AX q → H1[q]? = H[q]?) → va_S A0 H0 H1 locs1 → H1[q9]? = some ce → ce.vm = .none → s.vm.findClass E = some ce.cls → vx_W p l e R s m args below meth c H1 locs1 (cells + mc) (slots + ms) Q (F0 m pc ls rest) q9)
    (kk : ∀ (u : S) (t : State) (H1 : Heap) (locs1 : List Loc), t.heap = H1 → s.vm.Alike t.vm → post u → B u t → H.size ≤ H1.size → (∀ q : Nat, q < H.size → ¬ A1 q → H1[q]? = H[q]?) → va_S A0 H0 H1 locs1 → W p l e R s m args below meth c H1 locs1 (cells + mc) (slots + ms) Q (F0 m (pc + 3) ls (rest))) : W p l e R s m args below meth c H locs cells slots Q (F0 m pc ls st0) := by
  intro T hT X
  rcases hr T hT X with ⟨v, st₀, t, T', L, h0, X', hL, e1, e2, ⟨⟨u, hv, hp, hb⟩, hF⟩, st⟩ | ⟨q, st₀, t, T', L, E, ce, h0, X', hL, e1, e2, ⟨u, hp, hb, hF⟩, hce, hcv, hcl, st⟩
  · cases hv
    obtain ⟨k1, k2, k3⟩ := vx_keep h0 e1 hS hA hf hL hF
    obtain ⟨t2, a1, b1⟩ := kk u t T'.heap (locs ++ L) e1.symm (by rw [← e2]; exact X'.warmed.alike) hp hb k1 k2 k3 T' rfl X'
    exact ⟨t2, st t2 a1, b1⟩
  · obtain ⟨k1, k2, k3⟩ := vx_keep h0 e1 hS hAX hf hL hF
    obtain ⟨t2, a1, b1⟩ := kx E ce q u t T'.heap (locs ++ L) e1.symm (by rw [← e2]; exact X'.warmed.alike) hp hb k1 k2 k3 (by rw [e1]; exact hce) hcv hcl T' rfl X'
    exact ⟨t2, st.trans a1, b1⟩
/-- caught by the row x of this method's table; the rows ahead don't take it -/
theorem vx_catch {own name : String} {E : String} {ce : Cell} {q : Addr} (hown : s.vm.findClass own = some m.cls) (pre : List ExceptionTableEntry) (x : ExceptionTableEntry) (suf : List ExceptionTableEntry) (hsplit : c.exceptionTable.toList = pre ++ x :: suf)
    (hpass : ∀ z ∈ pre, covers z pc = false ∨ (z.catchType ≠ 0 ∧ ∃ nm : String, (Cond.classLink own z.catchType nm).before args s = true ∧ va_Nc E nm s)) (hx : covers x pc = true) (h0 : x.catchType ≠ 0)
    (hlink : (Cond.classLink own x.catchType name).before args s = true) (hcast : (Cond.castable E name).before args s = true) (hcell : H[q]? = some ce) (hv : ce.vm = .none) (hcl : s.vm.findClass E = some ce.cls)
    (kk : W p l e R s m args below meth c H locs cells slots Q (F0 m x.handlerPc ls [.ref q])) : vx_W p l e R s m args below meth c H locs cells slots Q (F0 m pc ls rest) q := by
  intro T hT X
  have hpl : e.platform.magicAccessors = ({} : Platform).magicAccessors := by rw [X.admits.platform]
  obtain ⟨c3, c4, hc3, hc4, hasg⟩ := Cond.castable_spec hcast
  cases Option.some.inj (hc3.symm.trans hcl)
  obtain ⟨c5, hc5, hcl5⟩ := Cond.classLink_spec hown hlink e.platform hpl
  cases Option.some.inj (hc4.symm.trans hc5)
  obtain ⟨vm', X', st⟩ := X.thenCaughtThrough q (g := F0 m pc ls rest) rfl (Steps.refl _) (by rw [hT]; exact hcell) (by rw [hv]; rfl) (by obtain ⟨k9, h9, -⟩ := Vm.findClass_spec hcl; exact ⟨k9, h9⟩) pre x suf hsplit
    (fun z hz => by
      rcases hpass z hz with h | ⟨hz0, nm, hl1, hn1⟩
      · exact Or.inl h
      · obtain ⟨c6, hc6, hcl6⟩ := Cond.classLink_spec hown hl1 e.platform hpl
        obtain ⟨a8, b8, h1, h2, h3⟩ := hn1
        cases Option.some.inj (h1.symm.trans hcl)
        cases Option.some.inj (h2.symm.trans hc6)
        exact Or.inr ⟨hz0, _, hcl6, h3⟩) hx (Or.inr ⟨h0, c4, hcl5, hasg⟩)
  obtain ⟨t, a1, b1⟩ := kk (T.setVm vm') hT X'
  exact ⟨t, st.trans a1, b1⟩
end Rows
section Ends
variable {p : Program} {l : Launch} {e : Env} {R : Room} {s : State} {m : MethodId} {args : Array Value} {below : List Frame} {meth : Method} {c : Code} {H : Heap} {locs : List Loc} {cells slots : Nat} {Q : State → Prop}
variable {mc ms : Nat} {free : Addr → Prop} {A0 A1 : Nat → Prop} {H0 : Heap} {a : Array Value} {ls : Array Slot} {st0 rest : List Value}
variable {Qc : Array Value → State → Outcome → State → Prop} {XC : String → State → State → Prop}
/-- what a body that may throw owes at its end -/
def vx_MQ (below : List Frame) (Qc : Array Value → State → Outcome → State → Prop) (XC : String → State → State → Prop) (a : Array Value) (s : State) (mc ms : Nat) (free : Addr → Prop) : State → Prop := fun t =>
  ∃ o, t.status = .running ∧ Ended t below o ∧ vx_Q Qc XC mc ms free a s o t
theorem vx_ret {g : JFrame} {mc ms : Nat} (k : W p l e R s m args below meth c H locs cells slots (MQ below Qc args s mc ms free) g) : W p l e R s m args below meth c H locs cells slots (vx_MQ below Qc XC args s mc ms free) g := by
  intro T hT X
  obtain ⟨t, a1, o, b1, b2, b3, b4⟩ := k T hT X
  exact ⟨t, a1, o, b1, b2, Or.inl ⟨b3, b4⟩⟩
/-- not caught here: it goes on to the caller -/
theorem vx_widen {g : JFrame} {q : Addr} {k n : Nat} (h1 : cells ≤ k) (h2 : slots ≤ n) (kk : vx_W p l e R s m args below meth c H locs k n Q g q) : vx_W p l e R s m args below meth c H locs cells slots Q g q := fun T hT X => kk T hT (stand_widen X h1 h2)
theorem vx_out {pc : Nat} {E : String} {ce : Cell} {q : Addr} {mc ms : Nat} (hout : ∀ x ∈ c.exceptionTable.toList, covers x pc = false) (hlocks : meth.locks = false) (hcell : H[q]? = some ce) (hv : ce.vm = .none) (hcl : s.vm.findClass E = some ce.cls)
    (hx : ∀ t : State, t.heap = H → s.vm.Alike t.vm → XC E s t) (hf : ∀ z ∈ locs, free z.base) (hc : cells ≤ mc) (hs : slots ≤ ms) :
    vx_W p l e R s m args below meth c H locs cells slots (vx_MQ below Qc XC args s mc ms free) (F0 m pc ls rest) q := by
  intro T hT X
  obtain ⟨st1, hrun, hend, hW, hsm⟩ := X.leaveThrown q (g := F0 m pc ls rest) rfl rfl rfl hout hlocks
  have hcell9 : (T.setFrames (.throwing q :: below)).heap[q]? = some ce := by
    show T.heap[q]? = some ce
    rw [hT]; exact hcell
  exact ⟨_, st1, .threw q, hrun, hend, Or.inr ⟨q, rfl, E, ce, locs, hx _ hT hW.alike, hcell9, hv, hcl, hW, hsm.mono hc hs, hf⟩⟩
theorem vx_frame {U : State} {k n : Nat} (h : s.sameButNew ({ U with vm := s.vm } : State) locs k n) : s.heap.size ≤ U.heap.size ∧ ∀ q : Nat, q < s.heap.size → (∀ z ∈ locs, z.base ≠ q) → U.heap[q]? = s.heap[q]? := by
  obtain ⟨-, h2, -, -, -, h6⟩ := h
  refine ⟨h2, fun q hq hz => ?_⟩
  obtain ⟨c9, e1, e2, e3, e4⟩ := h6 q _ (Array.getElem?_eq_getElem hq)
  have hs : c9.slots = (s.heap[q]).slots := Array.ext_getElem? fun i => e4 i fun hm => hz _ hm rfl
  have h9 : c9 = s.heap[q] := by
    rw [hs] at e2
    exact e2
  have e5 : U.heap[q]? = some c9 := e1
  rw [e5, h9, Array.getElem?_eq_getElem hq]
/-- the words of a throw but the four that speak of the heap -/
def vx_no (w : Cond) : Bool := decide (w ≠ .isRef (.static Bundle.tN "UNASSIGNED_STACK" Bundle.steD)) && decide (w ≠ .isRef (.static Bundle.tN "SUPPRESSED_SENTINEL" Bundle.listD)) && decide (w ≠ .laysStatic Bundle.tN "UNASSIGNED_STACK" Bundle.steD) && decide (w ≠ .laysStatic Bundle.tN "SUPPRESSED_SENTINEL" Bundle.listD)
def vx_at0 (own : String) (ic : Nat) (X : String) (names : List String) : List Cond := (Bundle.ownAtoms0 own ic X names).filter vx_no
def vx_atS (own : String) (ic : Nat) (X : String) (names : List String) : List Cond := (Bundle.ownAtoms own ic X names).filter vx_no
/-- a word that the tables alone decide, or a good one -/
def vx_ot (w : Cond) : Bool := w.onTables || goodWord w
theorem vx_ot_at {args a' : Array Value} {s U : State} {w : Cond} (hW : s.WarmedH U.vm) (hvm : s.vm = U.vm) (hg : vx_ot w = true) (h : w.before args s = true) : w.before a' U = true := by
  simp only [vx_ot, Bool.or_eq_true] at hg
  rcases hg with hg | hg
  · exact va_tabs hg hvm h
  · exact word_at hW (good_of_word hg) h
/-- a list's words: the good ones out of the method's own list, the others by premises of their own -/
theorem vx_hat {args : Array Value} {s : State} {L B : List Cond} (h1 : ∀ w ∈ L.filter goodWord, w.before args s = true) (h2 : ∀ w ∈ L.filter (fun w => !goodWord w), w ∈ B) (h3 : ∀ w ∈ B, w.before args s = true) : ∀ w ∈ L, w.before args s = true := by
  intro w hw
  by_cases g : goodWord w = true
  · exact h1 w (List.mem_filter.mpr ⟨hw, g⟩)
  · refine h3 w (h2 w (List.mem_filter.mpr ⟨hw, ?_⟩))
    show (!goodWord w) = true
    cases hgw : goodWord w
    · rfl
    · exact absurd hgw g
theorem vx_c {args : Array Value} {s : State} {w : Cond} {B : List Cond} (h : w.before args s = true) (t : ∀ w ∈ B, w.before args s = true) : ∀ w' ∈ w :: B, w'.before args s = true := fun w' h' => (List.mem_cons.mp h').elim (fun e => by rw [e]; exact h) (t w')
theorem vx_n {args : Array Value} {s : State} : ∀ w ∈ ([] : List Cond), w.before args s = true := fun _ h => nomatch h
theorem vx_own {args : Array Value} {s : State} {L : List Cond} (h1 : ∀ w ∈ L.filter vx_no, w.before args s = true)
    (hU : (Cond.isRef (.static Bundle.tN "UNASSIGNED_STACK" Bundle.steD)).before args s = true) (hN : (Cond.isRef (.static Bundle.tN "SUPPRESSED_SENTINEL" Bundle.listD)).before args s = true)
    (lU : (Cond.laysStatic Bundle.tN "UNASSIGNED_STACK" Bundle.steD).before args s = true) (lN : (Cond.laysStatic Bundle.tN "SUPPRESSED_SENTINEL" Bundle.listD).before args s = true) : ∀ w ∈ L, w.before args s = true := by
  intro w hw
  by_cases e1 : w = .isRef (.static Bundle.tN "UNASSIGNED_STACK" Bundle.steD)
  · rw [e1]; exact hU
  · by_cases e2 : w = .isRef (.static Bundle.tN "SUPPRESSED_SENTINEL" Bundle.listD)
    · rw [e2]; exact hN
    · by_cases e3 : w = .laysStatic Bundle.tN "UNASSIGNED_STACK" Bundle.steD
      · rw [e3]; exact lU
      · by_cases e4 : w = .laysStatic Bundle.tN "SUPPRESSED_SENTINEL" Bundle.listD
        · rw [e4]; exact lN
        · exact h1 w (List.mem_filter.mpr ⟨hw, by unfold vx_no; rw [decide_eq_true e1, decide_eq_true e2, decide_eq_true e3, decide_eq_true e4]; rfl⟩)
/-- where a static field lies, its class's statics cell in H -/
def vx_L (C n d : String) (A : Nat → Prop) (U : State) (H : Heap) : Prop := ∃ (c : ClassId) (k : Class) (i : Nat) (f : Field) (a : Nat) (cell : Cell), U.vm.findClass C = some c ∧ U.fieldFound? C n d = some (c, k, i, f) ∧ f.isStatic = true ∧ k.statics = some a ∧ H[a]? = some cell ∧ cell.vm.isStatics = true ∧ cell.cls = c ∧ f.slot < cell.slots.size ∧ k.staticTypes[f.slot]? = some f.type ∧ ¬ A a
theorem vx_L.moved {C n d : String} {A : Nat → Prop} {u U : State} {H : Heap} (hvm : u.vm.Alike U.vm) (h : vx_L C n d A u H) : vx_L C n d A U H := by
  obtain ⟨c, k, i, f, a, cell, h1, h2, h3, h4, h5, h6, h7, h8, h9, h10⟩ := h
  obtain ⟨k', hi', he⟩ := State.fieldFound?_setVm hvm h2
  exact ⟨c, k', i, f, a, cell, by rw [hvm.findClass]; exact h1, hi', h3, by rw [he]; exact h4, h5, h6, h7, h8, by rw [he]; exact h9, h10⟩
theorem vx_L.kept {C n d : String} {A : Nat → Prop} {U : State} {H H1 : Heap} (h : vx_L C n d A U H) (hq : ∀ a : Nat, a < H.size → ¬ A a → H1[a]? = H[a]?) : vx_L C n d A U H1 := by
  obtain ⟨c, k, i, f, a, cell, h1, h2, h3, h4, h5, h6, h7, h8, h9, h10⟩ := h
  exact ⟨c, k, i, f, a, cell, h1, h2, h3, h4, by rw [hq a (Array.getElem?_eq_some_iff.mp h5).1 h10]; exact h5, h6, h7, h8, h9, h10⟩
theorem vx_L.narrow {C n d : String} {A B : Nat → Prop} {U : State} {H : Heap} (h : vx_L C n d A U H) (hAB : ∀ q, B q → A q) : vx_L C n d B U H := by
  obtain ⟨c, k, i, f, a, cell, h1, h2, h3, h4, h5, h6, h7, h8, h9, h10⟩ := h
  exact ⟨c, k, i, f, a, cell, h1, h2, h3, h4, h5, h6, h7, h8, h9, fun z => h10 (hAB _ z)⟩
theorem vx_L.word {C n d : String} {A : Nat → Prop} {s : State} {args : Array Value} (h : vx_L C n d A s s.heap) : (Cond.laysStatic C n d).before args s = true := by
  obtain ⟨c, k, i, f, a, cell, h1, h2, h3, h4, h5, h6, h7, h8, h9, -⟩ := h
  show (Cond.laysStatic C n d).holds args s none s [] = true
  exact Cond.laysStatic_of h1 h2 h3 h4 h5 h6 h7 h8 h9
/-- .. and what it holds: null or some reference -/
def vx_Zq (C n d : String) (A : Nat → Prop) (U : State) (H : Heap) : Prop := va_Zq C n d A U H ∧ vx_L C n d A U H
theorem vx_Zq.moved {C n d : String} {A : Nat → Prop} {u U : State} {H : Heap} (hvm : u.vm.Alike U.vm) (h : vx_Zq C n d A u H) : vx_Zq C n d A U H := ⟨va_Zq.moved hvm h.1, vx_L.moved hvm h.2⟩
theorem vx_Zq.kept {C n d : String} {A : Nat → Prop} {U : State} {H H1 : Heap} (h : vx_Zq C n d A U H) (hq : ∀ a : Nat, a < H.size → ¬ A a → H1[a]? = H[a]?) : vx_Zq C n d A U H1 := ⟨va_Zq.kept h.1 hq, vx_L.kept h.2 hq⟩
theorem vx_Zq.narrow {C n d : String} {A B : Nat → Prop} {U : State} {H : Heap} (h : vx_Zq C n d A U H) (hAB : ∀ q, B q → A q) : vx_Zq C n d B U H := ⟨va_Zq.narrow h.1 hAB, vx_L.narrow h.2 hAB⟩
theorem vx_Zqof {args : Array Value} {s : State} {C n d : String} {A : Nat → Prop} (hl : (Cond.laysStatic C n d).before args s = true) (hini : (Cond.initialized C).before args s = true) (h : (Cond.isRef (.static C n d)).before args s = true) (hA : ∀ a : Nat, a < s.heap.size → ¬ A a) : vx_Zq C n d A s s.heap := by
  refine ⟨va_Zqof hl hini h hA, ?_⟩
  obtain ⟨c, k, i, f, a, cell, h1, h2, h3, h4, h5, h6, h7, h8, h9⟩ := Cond.laysStatic_spec hl
  exact ⟨c, k, i, f, a, cell, h1, h2, h3, h4, h5, h6, h7, h8, h9, hA a (Array.getElem?_eq_some_iff.mp h5).1⟩
theorem vx_isRef {C n d : String} {v : Value} {A : Nat → Prop} {s : State} {args : Array Value} (h : va_Z C n d v A s s.heap) (hv : v.isRef = true) : (Cond.isRef (.static C n d)).before args s = true := by
  obtain ⟨cf, kf, fi, f, a, cell, h1, h2, h3, h4, h5, h6, h7, -⟩ := h
  have he : (Term.static C n d).eval args s none [] s = some v := by
    simp [Term.eval, State.fieldNamed?, h1, h2, h4, h5, h6, h7]
  simp only [Cond.before, Cond.holds, Cond.value, he]
  cases v <;> simp_all [Value.isRef]
theorem vx_isRefq {C n d : String} {A : Nat → Prop} {s : State} {args : Array Value} (h : va_Zq C n d A s s.heap) : (Cond.isRef (.static C n d)).before args s = true := by
  rcases h with h | ⟨t, h⟩
  · exact vx_isRef h rfl
  · exact vx_isRef h rfl
/-- the same frame, seen from here: as if the method were called anew in this heap -/
theorem vx_rebase {T : State} (X : Stand p l e R s m args below meth c T locs cells slots) {R' : Room} (hf : R'.frames ≤ R.frames) (hl : R'.locals ≤ R.locals) (hc : cells + R'.cells ≤ R.cells) (hs : slots + R'.slots ≤ R.slots) :
    Stand p l e R' ((T.setVm s.vm).setFrames (.invoking m args :: below)) m args below meth c T [] 0 0 := by
  have htop : (T.setVm s.vm).topJava?.isSome := X.here.top
  have hF : ((T.setVm s.vm).setFrames (.invoking m args :: below)).frames = .invoking m args :: below := State.frames_setFrames _ (State.cur_lt_of_top htop)
  obtain ⟨g₀, hg0⟩ := Option.isSome_iff_exists.mp htop
  obtain ⟨r, hr⟩ := State.topJava?_eq_some.mp hg0
  have hl9 : e.platform.stackLimits (T.setVm s.vm).me = e.platform.stackLimits s.me := X.limits
  have hb9 : (T.setVm s.vm).me.stackBytes = s.me.stackBytes := X.bytes
  refine ⟨X.admits, X.cas, X.clock, hF, ?_, X.hears, X.method, X.code, X.here, X.tail, X.warmed, ?_, ?_, ?_⟩
  · have h := X.room
    have hU : ((T.setVm s.vm).setFrames (.invoking m args :: below)).localsInUse = s.localsInUse := by
      rw [State.localsInUse_invoking hF (meth := meth) (c := c) X.method X.code, State.localsInUse_invoking X.frames X.method X.code]
    simp only [State.hasRoom, Bool.and_eq_true, decide_eq_true_eq] at h ⊢
    obtain ⟨⟨⟨⟨h1, h2, h3, h4, h5, h6⟩, h7⟩, h8⟩, h9⟩ := h
    rw [X.frames, List.length_cons] at h2 h3
    have q1 := X.heapSize
    have q2 := X.used
    simp only [hF, hU, List.length_cons, State.stackLimits_setFrames, State.stackBytes_setFrames, hl9, hb9]
    refine ⟨⟨⟨⟨by omega, by omega, by omega, by omega, by omega, h6⟩, ?_⟩, ?_⟩, X.book⟩
    · show T.heap.size + R'.cells ≤ e.platform.maxCells
      omega
    · show T.slotsUsed + R'.slots ≤ e.platform.maxSlots
      omega
  · rw [State.stackLimits_setFrames]; rfl
  · rw [State.stackBytes_setFrames]; rfl
  · refine ⟨?_, Nat.le_refl _, Nat.le_refl _, ?_, ?_, fun a c9 h9 => ⟨c9, h9, rfl, rfl, fun _ _ => rfl⟩⟩
    · obtain ⟨t, ht, -⟩ := State.frames_cons hr
      show T.setVm s.vm = { ((T.setVm s.vm).setFrames (.invoking m args :: below)).setFrames (T.setVm s.vm).frames with heap := T.heap, slotsUsed := T.slotsUsed }
      rw [State.setFrames_setFrames, State.setFrames_self ht]
      rfl
    · show T.slotsUsed = T.slotsUsed + ((T.heap.toList.drop T.heap.size).map (·.slots.size)).sum
      rw [List.drop_eq_nil_of_le (Nat.le_of_eq Array.length_toList)]
      rfl
    · show ((T.heap.toList.drop T.heap.size).map (·.slots.size)).sum ≤ 0
      rw [List.drop_eq_nil_of_le (Nat.le_of_eq Array.length_toList)]
      exact Nat.le_refl _
/-- 'throw new E()': new; dup; invokespecial; athrow -/
theorem vx_throw0 {cc : ByteArray} {pc : Nat} (hexec : p.tables.exec = Jvm.exec) (hb : c.code = cc) (hl : l.stackTraces = false) {own cls : String} {names : List String} {ik ic mc ms : Nat} {A : Nat → Prop}
    (hown : s.vm.findClass own = some m.cls) (hcls : Bundle.fit cls = true) (hnames : ∀ n ∈ names, Bundle.fit n = true)
    (hk : (Cond.classLink own ik cls).before args s = true) (hini : (Cond.initialized cls).before args s = true) (hat : ∀ w ∈ vx_at0 own ic cls names, w.before args s = true)
    (hgood : ∀ w ∈ Cond.classLink own ik cls :: Cond.initialized cls :: vx_at0 own ic cls names, vx_ot w = true)
    (hU : vx_Zq Bundle.tN "UNASSIGNED_STACK" Bundle.steD A s s.heap) (hN : vx_Zq Bundle.tN "SUPPRESSED_SENTINEL" Bundle.listD A s s.heap) (hS : va_S A s.heap H locs) (hsize : ls.size = c.maxLocals)
    (d0 : decode cc pc = .ok (.new ik, 3)) (d3 : decode cc (pc + 3) = .ok (.dup, 1)) (d4 : decode cc (pc + 4) = .ok (.invokespecial ic, 3)) (d7 : decode cc (pc + 7) = .ok (.athrow, 1))
    (hout : ∀ x ∈ c.exceptionTable.toList, covers x (pc + 7) = false)
    (hRframes : names.length + 3 < R.frames) (hRlocals : (rest.map fun v => v.category).sum + (13 * (names.length + 1) + 42) ≤ R.locals) (hRcells : cells + 1 ≤ R.cells) (hRslots : slots + 6 ≤ R.slots) (hlocks : meth.locks = false)
    (hx : ∀ t : State, s.vm.Alike t.vm → H.size ≤ t.heap.size → (∀ q : Nat, q < H.size → t.heap[q]? = H[q]?) → XC cls s t)
    (hf : ∀ z ∈ locs, free z.base) (hc : cells + 1 ≤ mc) (hs : slots + 6 ≤ ms) :
    W p l e R s m args below meth c H locs cells slots (vx_MQ below Qc XC args s mc ms free) (F0 m pc ls rest) := by
  intro T hT X
  have htr : e.platform.stackTraces = false := (show e.platform.stackTraces = l.stackTraces by rw [X.admits.platform]).trans hl
  have Y := vx_rebase X (R' := { frames := R.frames, locals := R.locals, cells := 1, slots := 6 }) (Nat.le_refl _) (Nat.le_refl _) hRcells hRslots
  obtain ⟨s', hA⟩ : ∃ z, z = (T.setVm s.vm).setFrames (.invoking m args :: below) := ⟨_, rfl⟩
  rw [← hA] at Y
  have hvm : s'.vm = s.vm := by rw [hA]; rfl
  have hhp : s'.heap = H := by rw [hA]; exact hT
  have hW0 : s.WarmedH s'.vm := by rw [hvm]; exact State.WarmedH.refl s
  have hat' : ∀ w ∈ vx_at0 own ic cls names, w.before args s' = true := fun w hw => vx_ot_at hW0 hvm.symm (hgood w (List.mem_cons_of_mem _ (List.mem_cons_of_mem _ hw))) (hat w hw)
  have hk' : (Cond.classLink own ik cls).before args s' = true := vx_ot_at hW0 hvm.symm (hgood _ List.mem_cons_self) hk
  have hini' : (Cond.initialized cls).before args s' = true := vx_ot_at hW0 hvm.symm (hgood _ (List.mem_cons_of_mem _ List.mem_cons_self)) hini
  have hU' : vx_Zq Bundle.tN "UNASSIGNED_STACK" Bundle.steD A s' s'.heap := by rw [hhp]; exact vx_Zq.moved hW0.alike (hU.kept hS.2.1)
  have hN' : vx_Zq Bundle.tN "SUPPRESSED_SENTINEL" Bundle.listD A s' s'.heap := by rw [hhp]; exact vx_Zq.moved hW0.alike (hN.kept hS.2.1)
  have h : ∀ w ∈ Bundle.ownAtoms0 own ic cls names, w.before args s' = true := vx_own hat' (vx_isRefq hU'.1) (vx_isRefq hN'.1) hU'.2.word hN'.2.word
  have hown' : s'.vm.findClass own = some m.cls := by rw [hvm]; exact hown
  have hins : (Cond.instantiable cls 6).before args s' = true := h _ (by simp [Bundle.ownAtoms0])
  obtain ⟨vm₁, cX, kX, hfX, hkX, -, -, X₁, st1⟩ := Y.newCold hexec (own := own) (C := cls) (index := ik) (n := 6) hown' hk' hins hini'
    (g := F0 m pc ls rest) rfl (by rw [hb]; exact d0) (Nat.le_refl _) (Nat.le_refl _)
  generalize hT1 : (T.setVm vm₁).pushCell { cls := cX, slots := kX.instanceTypes.map defaultValue, vm := .none } = T1 at X₁ st1
  have hcat : (Value.ref T.heap.size).category = 1 := rfl
  have hcellA : T1.heap[T.heap.size]? = some (freshCell cX kX) := by rw [← hT1]; exact State.heap_pushCell_size _ _
  have d3' : decode c.code (pc + 3) = .ok (.dup, 1) := by rw [hb]; exact d3
  obtain ⟨U, hsteps, hrun, hend, hW, hsame, ce, hce, hO⟩ := X₁.ctorThrow0 hexec htr (own := own) (cls := cls) (names := names) (ic := ic) hown' hcls hnames h (fun x hx => nomatch hx) hfX hkX hcellA (by rw [hhp, hT]; exact Nat.le_refl _)
    (g := { method := m, pc := pc + 4, locals := ls, stack := .ref T.heap.size :: .ref T.heap.size :: rest, locked := none }) rfl hsize rfl rfl (rest := rest) rfl
    (by rw [hb]; exact d4) (by rw [hb]; exact d7) hout hRframes (by simp only [List.map_cons, List.sum_cons, hcat]; omega) hlocks
  obtain ⟨f1, f2⟩ := vx_frame hsame
  rw [hhp] at f1 f2
  have hWs : s.WarmedH U.vm := State.WarmedH.trans hW0 hW
  have hcl : s.vm.findClass cls = some ce.cls := by
    have h9 := hO.cls
    rw [hvm] at h9
    exact h9
  have hall : s.sameButNew ({ U with vm := s.vm } : State) locs mc ms := by
    subst hA
    obtain ⟨e1, e2⟩ := hsame
    rw [State.setFrames_setFrames] at e1
    have h2 : (T.setVm s.vm).sameButNew ({ U with vm := s.vm } : State) [] (0 + 1) (0 + 6) := ⟨e1, e2⟩
    have h3 := X.same.trans h2
    rw [List.append_nil] at h3
    exact h3.mono hc hs
  refine ⟨U, ?_, .threw T.heap.size, hrun, hend, Or.inr ⟨T.heap.size, rfl, cls, ce, locs, hx U hWs.alike f1 (fun q hq => f2 q hq (fun z hz => nomatch hz)), hce, hO.vm, hcl, hWs, hall, hf⟩⟩
  refine st1 _ ?_
  show Steps p.tables e below (T1.setTop { method := m, pc := pc + 3, locals := ls, stack := .ref T.heap.size :: rest, locked := none }) _
  jvm_step X₁.here [X₁.here.top, hexec, d3', Value.category]
  exact hsteps
/-- 'throw new E("text")': new; dup; ldc; invokespecial; athrow -/
theorem vx_throwS {cc : ByteArray} {pc : Nat} (hexec : p.tables.exec = Jvm.exec) (hb : c.code = cc) (hl : l.stackTraces = false) {own cls text : String} {names : List String} {ik is ic mc ms sa : Nat} {A : Nat → Prop}
    (hown : s.vm.findClass own = some m.cls) (hcls : Bundle.fit cls = true) (hnames : ∀ n ∈ names, Bundle.fit n = true)
    (hk : (Cond.classLink own ik cls).before args s = true) (hini : (Cond.initialized cls).before args s = true) (hstr : vk_R own is text sa s) (hat : ∀ w ∈ vx_atS own ic cls names, w.before args s = true)
    (hgood : ∀ w ∈ Cond.classLink own ik cls :: Cond.initialized cls :: vx_atS own ic cls names, vx_ot w = true)
    (hU : vx_Zq Bundle.tN "UNASSIGNED_STACK" Bundle.steD A s s.heap) (hN : vx_Zq Bundle.tN "SUPPRESSED_SENTINEL" Bundle.listD A s s.heap) (hS : va_S A s.heap H locs) (hsize : ls.size = c.maxLocals)
    (d0 : decode cc pc = .ok (.new ik, 3)) (d3 : decode cc (pc + 3) = .ok (.dup, 1)) (d4 : decode cc (pc + 4) = .ok (.ldc is, 2)) (d6 : decode cc (pc + 6) = .ok (.invokespecial ic, 3)) (d9 : decode cc (pc + 9) = .ok (.athrow, 1))
    (hout : ∀ x ∈ c.exceptionTable.toList, covers x (pc + 9) = false)
    (hRframes : names.length + 3 < R.frames) (hRlocals : (rest.map fun v => v.category).sum + (13 * (names.length + 1) + 43) ≤ R.locals) (hRcells : cells + 1 ≤ R.cells) (hRslots : slots + 6 ≤ R.slots) (hlocks : meth.locks = false)
    (hx : ∀ t : State, s.vm.Alike t.vm → H.size ≤ t.heap.size → (∀ q : Nat, q < H.size → t.heap[q]? = H[q]?) → XC cls s t)
    (hf : ∀ z ∈ locs, free z.base) (hc : cells + 1 ≤ mc) (hs : slots + 6 ≤ ms) :
    W p l e R s m args below meth c H locs cells slots (vx_MQ below Qc XC args s mc ms free) (F0 m pc ls rest) := by
  intro T hT X
  have htr : e.platform.stackTraces = false := (show e.platform.stackTraces = l.stackTraces by rw [X.admits.platform]).trans hl
  have Y := vx_rebase X (R' := { frames := R.frames, locals := R.locals, cells := 1, slots := 6 }) (Nat.le_refl _) (Nat.le_refl _) hRcells hRslots
  obtain ⟨s', hA⟩ : ∃ z, z = (T.setVm s.vm).setFrames (.invoking m args :: below) := ⟨_, rfl⟩
  rw [← hA] at Y
  have hvm : s'.vm = s.vm := by rw [hA]; rfl
  have hhp : s'.heap = H := by rw [hA]; exact hT
  have hW0 : s.WarmedH s'.vm := by rw [hvm]; exact State.WarmedH.refl s
  have hat' : ∀ w ∈ vx_atS own ic cls names, w.before args s' = true := fun w hw => vx_ot_at hW0 hvm.symm (hgood w (List.mem_cons_of_mem _ (List.mem_cons_of_mem _ hw))) (hat w hw)
  have hk' : (Cond.classLink own ik cls).before args s' = true := vx_ot_at hW0 hvm.symm (hgood _ List.mem_cons_self) hk
  have hini' : (Cond.initialized cls).before args s' = true := vx_ot_at hW0 hvm.symm (hgood _ (List.mem_cons_of_mem _ List.mem_cons_self)) hini
  have hU' : vx_Zq Bundle.tN "UNASSIGNED_STACK" Bundle.steD A s' s'.heap := by rw [hhp]; exact vx_Zq.moved hW0.alike (hU.kept hS.2.1)
  have hN' : vx_Zq Bundle.tN "SUPPRESSED_SENTINEL" Bundle.listD A s' s'.heap := by rw [hhp]; exact vx_Zq.moved hW0.alike (hN.kept hS.2.1)
  have h : ∀ w ∈ Bundle.ownAtoms own ic cls names, w.before args s' = true := vx_own hat' (vx_isRefq hU'.1) (vx_isRefq hN'.1) hU'.2.word hN'.2.word
  have hown' : s'.vm.findClass own = some m.cls := by rw [hvm]; exact hown
  have hins : (Cond.instantiable cls 6).before args s' = true := h _ (by simp [Bundle.ownAtoms])
  obtain ⟨vm₁, cX, kX, hfX, hkX, -, -, X₁, st1⟩ := Y.newCold hexec (own := own) (C := cls) (index := ik) (n := 6) hown' hk' hins hini'
    (g := F0 m pc ls rest) rfl (by rw [hb]; exact d0) (Nat.le_refl _) (Nat.le_refl _)
  generalize hT1 : (T.setVm vm₁).pushCell { cls := cX, slots := kX.instanceTypes.map defaultValue, vm := .none } = T1 at X₁ st1
  have hcat : (Value.ref T.heap.size).category = 1 := rfl
  have hcellA : T1.heap[T.heap.size]? = some (freshCell cX kX) := by rw [← hT1]; exact State.heap_pushCell_size _ _
  have d3' : decode c.code (pc + 3) = .ok (.dup, 1) := by rw [hb]; exact d3
  have d4' : decode c.code (pc + 4) = .ok (.ldc is, 2) := by rw [hb]; exact d4
  have hstr' : vk_R own is text sa s' := vk_R.warm hW0 hstr
  obtain ⟨U, hsteps, hrun, hend, hW, hsame, ce, hce, hO⟩ := X₁.ctorThrowS hexec htr (own := own) (cls := cls) (names := names) (ic := ic) hown' hcls hnames h (fun x hx => nomatch hx) hfX hkX hcellA (by rw [hhp, hT]; exact Nat.le_refl _) (msg := .ref sa) rfl
    (g := { method := m, pc := pc + 6, locals := ls, stack := .ref sa :: .ref T.heap.size :: .ref T.heap.size :: rest, locked := none }) rfl hsize rfl rfl (rest := rest) rfl
    (by rw [hb]; exact d6) (by rw [hb]; exact d9) hout hRframes (by simp only [List.map_cons, List.sum_cons, hcat]; omega) hlocks
  obtain ⟨f1, f2⟩ := vx_frame hsame
  rw [hhp] at f1 f2
  have hWs : s.WarmedH U.vm := State.WarmedH.trans hW0 hW
  have hcl : s.vm.findClass cls = some ce.cls := by
    have h9 := hO.cls
    rw [hvm] at h9
    exact h9
  have hall : s.sameButNew ({ U with vm := s.vm } : State) locs mc ms := by
    subst hA
    obtain ⟨e1, e2⟩ := hsame
    rw [State.setFrames_setFrames] at e1
    have h2 : (T.setVm s.vm).sameButNew ({ U with vm := s.vm } : State) [] (0 + 1) (0 + 6) := ⟨e1, e2⟩
    have h3 := X.same.trans h2
    rw [List.append_nil] at h3
    exact h3.mono hc hs
  refine ⟨U, ?_, .threw T.heap.size, hrun, hend, Or.inr ⟨T.heap.size, rfl, cls, ce, locs, hx U hWs.alike f1 (fun q hq => f2 q hq (fun z hz => nomatch hz)), hce, hO.vm, hcl, hWs, hall, hf⟩⟩
  refine st1 _ ?_
  show Steps p.tables e below (T1.setTop { method := m, pc := pc + 3, locals := ls, stack := .ref T.heap.size :: rest, locked := none }) _
  jvm_step X₁.here [X₁.here.top, hexec, d3', Value.category]
  exact X₁.ldcString hexec (own := own) (text := text) (index := is) (a := sa) hown' hstr'.1 hstr'.2
    (g := { method := m, pc := pc + 4, locals := ls, stack := .ref T.heap.size :: .ref T.heap.size :: rest, locked := none }) rfl d4' _ hsteps
/-- 'throw new E("text")', the text by a wide index -/
theorem vx_throwSW {cc : ByteArray} {pc : Nat} (hexec : p.tables.exec = Jvm.exec) (hb : c.code = cc) (hl : l.stackTraces = false) {own cls text : String} {names : List String} {ik is ic mc ms sa : Nat} {A : Nat → Prop}
    (hown : s.vm.findClass own = some m.cls) (hcls : Bundle.fit cls = true) (hnames : ∀ n ∈ names, Bundle.fit n = true)
    (hk : (Cond.classLink own ik cls).before args s = true) (hini : (Cond.initialized cls).before args s = true) (hstr : vk_R own is text sa s) (hat : ∀ w ∈ vx_atS own ic cls names, w.before args s = true)
    (hgood : ∀ w ∈ Cond.classLink own ik cls :: Cond.initialized cls :: vx_atS own ic cls names, vx_ot w = true)
    (hU : vx_Zq Bundle.tN "UNASSIGNED_STACK" Bundle.steD A s s.heap) (hN : vx_Zq Bundle.tN "SUPPRESSED_SENTINEL" Bundle.listD A s s.heap) (hS : va_S A s.heap H locs) (hsize : ls.size = c.maxLocals)
    (d0 : decode cc pc = .ok (.new ik, 3)) (d3 : decode cc (pc + 3) = .ok (.dup, 1)) (d4 : decode cc (pc + 4) = .ok (.ldc_w is, 3)) (d7 : decode cc (pc + 7) = .ok (.invokespecial ic, 3)) (d10 : decode cc (pc + 10) = .ok (.athrow, 1))
    (hout : ∀ x ∈ c.exceptionTable.toList, covers x (pc + 10) = false)
    (hRframes : names.length + 3 < R.frames) (hRlocals : (rest.map fun v => v.category).sum + (13 * (names.length + 1) + 43) ≤ R.locals) (hRcells : cells + 1 ≤ R.cells) (hRslots : slots + 6 ≤ R.slots) (hlocks : meth.locks = false)
    (hx : ∀ t : State, s.vm.Alike t.vm → H.size ≤ t.heap.size → (∀ q : Nat, q < H.size → t.heap[q]? = H[q]?) → XC cls s t)
    (hf : ∀ z ∈ locs, free z.base) (hc : cells + 1 ≤ mc) (hs : slots + 6 ≤ ms) :
    W p l e R s m args below meth c H locs cells slots (vx_MQ below Qc XC args s mc ms free) (F0 m pc ls rest) := by
  intro T hT X
  have htr : e.platform.stackTraces = false := (show e.platform.stackTraces = l.stackTraces by rw [X.admits.platform]).trans hl
  have Y := vx_rebase X (R' := { frames := R.frames, locals := R.locals, cells := 1, slots := 6 }) (Nat.le_refl _) (Nat.le_refl _) hRcells hRslots
  obtain ⟨s', hA⟩ : ∃ z, z = (T.setVm s.vm).setFrames (.invoking m args :: below) := ⟨_, rfl⟩
  rw [← hA] at Y
  have hvm : s'.vm = s.vm := by rw [hA]; rfl
  have hhp : s'.heap = H := by rw [hA]; exact hT
  have hW0 : s.WarmedH s'.vm := by rw [hvm]; exact State.WarmedH.refl s
  have hat' : ∀ w ∈ vx_atS own ic cls names, w.before args s' = true := fun w hw => vx_ot_at hW0 hvm.symm (hgood w (List.mem_cons_of_mem _ (List.mem_cons_of_mem _ hw))) (hat w hw)
  have hk' : (Cond.classLink own ik cls).before args s' = true := vx_ot_at hW0 hvm.symm (hgood _ List.mem_cons_self) hk
  have hini' : (Cond.initialized cls).before args s' = true := vx_ot_at hW0 hvm.symm (hgood _ (List.mem_cons_of_mem _ List.mem_cons_self)) hini
  have hU' : vx_Zq Bundle.tN "UNASSIGNED_STACK" Bundle.steD A s' s'.heap := by rw [hhp]; exact vx_Zq.moved hW0.alike (hU.kept hS.2.1)
  have hN' : vx_Zq Bundle.tN "SUPPRESSED_SENTINEL" Bundle.listD A s' s'.heap := by rw [hhp]; exact vx_Zq.moved hW0.alike (hN.kept hS.2.1)
  have h : ∀ w ∈ Bundle.ownAtoms own ic cls names, w.before args s' = true := vx_own hat' (vx_isRefq hU'.1) (vx_isRefq hN'.1) hU'.2.word hN'.2.word
  have hown' : s'.vm.findClass own = some m.cls := by rw [hvm]; exact hown
  have hins : (Cond.instantiable cls 6).before args s' = true := h _ (by simp [Bundle.ownAtoms])
  obtain ⟨vm₁, cX, kX, hfX, hkX, -, -, X₁, st1⟩ := Y.newCold hexec (own := own) (C := cls) (index := ik) (n := 6) hown' hk' hins hini'
    (g := F0 m pc ls rest) rfl (by rw [hb]; exact d0) (Nat.le_refl _) (Nat.le_refl _)
  generalize hT1 : (T.setVm vm₁).pushCell { cls := cX, slots := kX.instanceTypes.map defaultValue, vm := .none } = T1 at X₁ st1
  have hcat : (Value.ref T.heap.size).category = 1 := rfl
  have hcellA : T1.heap[T.heap.size]? = some (freshCell cX kX) := by rw [← hT1]; exact State.heap_pushCell_size _ _
  have d3' : decode c.code (pc + 3) = .ok (.dup, 1) := by rw [hb]; exact d3
  have d4' : decode c.code (pc + 4) = .ok (.ldc_w is, 3) := by rw [hb]; exact d4
  have hstr' : vk_R own is text sa s' := vk_R.warm hW0 hstr
  obtain ⟨U, hsteps, hrun, hend, hW, hsame, ce, hce, hO⟩ := X₁.ctorThrowS hexec htr (own := own) (cls := cls) (names := names) (ic := ic) hown' hcls hnames h (fun x hx => nomatch hx) hfX hkX hcellA (by rw [hhp, hT]; exact Nat.le_refl _) (msg := .ref sa) rfl
    (g := { method := m, pc := pc + 7, locals := ls, stack := .ref sa :: .ref T.heap.size :: .ref T.heap.size :: rest, locked := none }) rfl hsize rfl rfl (rest := rest) rfl
    (by rw [hb]; exact d7) (by rw [hb]; exact d10) hout hRframes (by simp only [List.map_cons, List.sum_cons, hcat]; omega) hlocks
  obtain ⟨f1, f2⟩ := vx_frame hsame
  rw [hhp] at f1 f2
  have hWs : s.WarmedH U.vm := State.WarmedH.trans hW0 hW
  have hcl : s.vm.findClass cls = some ce.cls := by
    have h9 := hO.cls
    rw [hvm] at h9
    exact h9
  have hall : s.sameButNew ({ U with vm := s.vm } : State) locs mc ms := by
    subst hA
    obtain ⟨e1, e2⟩ := hsame
    rw [State.setFrames_setFrames] at e1
    have h2 : (T.setVm s.vm).sameButNew ({ U with vm := s.vm } : State) [] (0 + 1) (0 + 6) := ⟨e1, e2⟩
    have h3 := X.same.trans h2
    rw [List.append_nil] at h3
    exact h3.mono hc hs
  refine ⟨U, ?_, .threw T.heap.size, hrun, hend, Or.inr ⟨T.heap.size, rfl, cls, ce, locs, hx U hWs.alike f1 (fun q hq => f2 q hq (fun z hz => nomatch hz)), hce, hO.vm, hcl, hWs, hall, hf⟩⟩
  refine st1 _ ?_
  show Steps p.tables e below (T1.setTop { method := m, pc := pc + 3, locals := ls, stack := .ref T.heap.size :: rest, locked := none }) _
  jvm_step X₁.here [X₁.here.top, hexec, d3', Value.category]
  exact X₁.ldcStringW hexec (own := own) (text := text) (index := is) (a := sa) hown' hstr'.1 hstr'.2
    (g := { method := m, pc := pc + 4, locals := ls, stack := .ref T.heap.size :: .ref T.heap.size :: rest, locked := none }) rfl d4' _ hsteps
end Ends
section Bodies
variable {l : Launch}
theorem vx_ofW {y : MethodName} {ws ws' : List Cond} {rm : Room} {Pc : Array Value → State → Prop} {Qc : Array Value → State → Outcome → State → Prop} {XC : String → State → State → Prop} {mc ms : Nat} {free : Addr → Prop} {cc : ByteArray} {maxL : Nat} {ret : Option FieldType}
    (hy : plainName y.cls = true) (hw : ws = Cond.code y cc maxL ret :: ws')
    (body : ∀ p e s m args below meth c s₁, BodyLoose p l y (headSpec ws rm) cc maxL ret e s m args below meth c s₁ → c.maxLocals = maxL → (∀ x ∈ c.exceptionTable.toList, False) → Pc args s →
      W p l e (headSpec ws rm).room s m args below meth c s.heap [] 0 0 (vx_MQ below Qc XC args s mc ms free) (entryFrame m args maxL)) : vx_Met l y ws rm Pc Qc XC mc ms free := by
  refine MetFree.of_bodyS (code := cc) (maxLocals := maxL) (ret := ret) hy ?_ ?_
  · intro args s m h hn
    obtain ⟨meth, c, h1, h2, h3, h4, h5, h6, -, -⟩ := Cond.code_spec hn (atoms_spec (ws := ws) h _ (by rw [hw]; exact List.mem_cons_self))
    exact ⟨meth, c, h1, h2, h3, h4, h5, h6⟩
  · intro p e s m args below meth c s₁ B hml hP _
    have hh0 : s₁.heap = s.heap := by rw [B.state]; rfl
    have ht : ∀ x ∈ c.exceptionTable.toList, False := by
      obtain ⟨meth9, c9, h1, h2, -, -, -, -, h7, -⟩ := Cond.code_spec B.named (atoms_spec (ws := ws) B.pre _ (by rw [hw]; exact List.mem_cons_self))
      cases Option.some.inj (h1.symm.trans B.method)
      cases Option.some.inj (h2.symm.trans (Stand.of_body B).code)
      intro x hx
      rw [Array.isEmpty_iff.mp h7] at hx
      cases hx
    obtain ⟨t, a1, o, b1, b2, b3⟩ := body p e s m args below meth c s₁ B hml ht hP s₁ hh0 (Stand.of_body B)
    exact ⟨t, o, a1, b1, b2, b3⟩
/-- the table of a body with handlers -/
theorem vx_table {p : Program} {x y : MethodName} {S : Spec} {cc bytes : ByteArray} {maxL maxL' : Nat} {ret ret' : Option FieldType} {e : Env} {s s₁ : State} {m : MethodId} {args : Array Value} {below : List Frame} {meth : Method} {c : Code} {hh : List (Nat × Nat × Nat × Nat)}
    (B : BodyLoose p l y S cc maxL ret e s m args below meth c s₁) (h : (Cond.codeWith y bytes maxL' ret' hh).before args s = true) : c.exceptionTable.toList = tableOf hh := by
  obtain ⟨m9, meth9, c9, hn9, h1, h2, -, -, h6, -⟩ := Cond.codeWith_spec h
  cases Option.some.inj (hn9.symm.trans B.named)
  cases Option.some.inj (h1.symm.trans B.method)
  cases Option.some.inj (h2.symm.trans (Stand.of_body B).code)
  rw [← h6, table_eq]
end Bodies
end VXA
/-! ===== END ===== -/
/-! ===== BEGIN a static call of a method with an exception table ===== -/
section VXS
variable {p : Program} {l : Launch} {e : Env} {R : Room} {s : State} {m : MethodId} {args : Array Value} {below : List Frame} {meth : Method} {c : Code} {T : State} {H : Heap} {locs : List Loc} {cells slots : Nat}
abbrev vx_CSW (R : Room) (s : State) (args : Array Value) (own : String) (index : Nat) (y : MethodName) (bytes : ByteArray) (maxL : Nat) (ret : Option FieldType) (hh : List (Nat × Nat × Nat × Nat)) (ws : List Cond) (rm : Room) (mc ms n : Nat) : Prop :=
  (rm.cells = mc ∧ rm.slots = ms ∧ rm.frames + 1 ≤ R.frames ∧ 8 + (maxL + 11) + rm.locals ≤ R.locals ∧ (∀ w ∈ ws, ∀ (a' : Array Value) (U : State), s.WarmedH U.vm → w.before a' U = true) ∧ Cond.codeWith y bytes maxL ret hh ∈ ws) ∧
  (Cond.codeWith y bytes maxL ret hh).before args s = true ∧ (Cond.initialized y.cls).before args s = true ∧ (y.cls ≠ "java/lang/invoke/MethodHandle" ∧ y.cls ≠ "java/lang/invoke/VarHandle") ∧
  (∀ sig, parseMethodDescriptor y.desc = some sig → n = sig.parameters.length) ∧ (Cond.methodLink own index y).before args s = true ∧ (Cond.static y).before args s = true
theorem vx_cwSW {own : String} {index maxL mc ms : Nat} {y : MethodName} {bytes : ByteArray} {ret : Option FieldType} {hh : List (Nat × Nat × Nat × Nat)} {Ts ws ws' : List Cond} {rm : Room} (n : Nat) (ht : ∀ w ∈ Ts, w.before args s = true) (hT : GoodIn Ts (va_wsS own index y ws)) (hw : ws = Cond.codeWith y bytes maxL ret hh :: ws') (hrc : rm.cells = mc) (hrs : rm.slots = ms)
    (hd : y.cls ≠ "java/lang/invoke/MethodHandle" ∧ y.cls ≠ "java/lang/invoke/VarHandle" ∧ (parseMethodDescriptor y.desc).map (fun d => d.parameters.length) = some n) (hR : rm.frames + 1 ≤ R.frames ∧ 8 + (maxL + 11) + rm.locals ≤ R.locals) :
    vx_CSW R s args own index y bytes maxL ret hh ws rm mc ms n := by
  have ok : ∀ w ∈ va_wsS own index y ws, w.before args s = true := fun w h => ht w (hT w h).1
  have hG : GoodIn Ts ws := fun w h => hT w (by unfold va_wsS; exact List.mem_append_right _ h)
  have hc : Cond.codeWith y bytes maxL ret hh ∈ ws := by rw [hw]; exact List.mem_cons_self
  refine ⟨⟨hrc, hrs, hR.1, hR.2, pay_in ht hG, hc⟩, ht _ (hG _ hc).1, ok _ (by simp [va_wsS]), ⟨hd.1, hd.2.1⟩, fun sig h => ?_, ok _ (by simp [va_wsS]), ok _ (by simp [va_wsS])⟩
  have h2 := hd.2.2
  rw [h] at h2
  exact (Option.some.inj h2).symm
theorem vx_callSW (X : Stand p l e R s m args below meth c T locs cells slots) (hexec : p.tables.exec = Jvm.exec) {own : String} {index : Nat} {y : MethodName} {bytes : ByteArray} {maxL : Nat} {ret : Option FieldType} {hh : List (Nat × Nat × Nat × Nat)}
    (hown : s.vm.findClass own = some m.cls) (hlink : (Cond.methodLink own index y).before args s = true) (hstat : (Cond.static y).before args s = true) (hinit : (Cond.initialized y.cls).before args s = true)
    (hcode : (Cond.codeWith y bytes maxL ret hh).before args s = true) (hy : y.cls ≠ "java/lang/invoke/MethodHandle" ∧ y.cls ≠ "java/lang/invoke/VarHandle")
    {W9 : Nat} {Pre : Pt → Array Value → Prop} {Post : Pt → Array Value → Option Value → Pt → Prop} (hK : Back l R p e below s args y 3 W9 Pre Post)
    {g : JFrame} (hg : g.method = m) (hsize : g.locals.size = c.maxLocals) {argsL rest : List Value} (hlen : ∀ sig, parseMethodDescriptor y.desc = some sig → argsL.length = sig.parameters.length)
    (hstack : g.stack = argsL.reverse ++ rest) (hW : 2 * g.monitorRoom + (rest.map fun v => v.category).sum ≤ W9) (hdg : decode c.code g.pc = .ok (.invokestatic index, 3))
    (hpre : ∀ vm₁, s.WarmedH vm₁ → Pre ⟨T.setVm vm₁, locs, cells, slots⟩ argsL.toArray) :
    ∃ (v : Option Value) (vm₁ : Vm) (B : Pt), s.WarmedH vm₁ ∧ Stand p l e R s m args below meth c B.U B.locs B.cells B.slots ∧ Post ⟨T.setVm vm₁, locs, cells, slots⟩ argsL.toArray v B ∧
      ∀ target, Steps p.tables e below (B.U.setTop { g with pc := g.pc + 3, stack := v.toList ++ rest }) target → Steps p.tables e below (T.setTop g) target := by
  obtain ⟨mk, methM, cM, hnamed, hmethM, -, -, -, -, -, -, hsigM⟩ := Cond.codeWith_spec hcode
  have hstatic : methM.isStatic = true := Cond.static_spec hnamed hmethM hstat
  obtain ⟨kP, hkP, -⟩ := className_of_methodNamed hnamed
  have hinitP : kP.init = .initialized := Cond.initialized_spec (findClass_of_methodNamed hnamed) hkP hinit
  obtain ⟨vm₁, X₁, hstep₁⟩ := X.invokestatic hexec hown hlink hnamed hmethM hstatic hkP hinitP hy (g := g) hg (argsL := argsL) (rest := rest) (hlen _ hsigM) hstack hdg
  obtain ⟨v, B, X', hpost, hsteps⟩ := hK m meth c ⟨T.setVm vm₁, locs, cells, slots⟩ { g with stack := rest } (.invokestatic index) mk argsL.toArray X₁ hg hsize hdg hW (X₁.named hnamed) (hpre vm₁ X₁.warmed)
  exact ⟨v, vm₁, B, X₁.warmed, X', hpost, fun target h => hstep₁ _ fun acts => by rw [doInvoke_state]; exact hsteps.trans h⟩
theorem vx_runSW {y : MethodName} {bytes cc : ByteArray} {maxL nL mc ms n index : Nat} {ret : Option FieldType} {hh : List (Nat × Nat × Nat × Nat)} {ws : List Cond} {rm : Room} {Pc : Array Value → State → Prop} {Qc : Array Value → State → Outcome → State → Prop} {free : Addr → Prop} {Ts : List Cond} {own : String} {As rest : List Value} {g : JFrame}
    (S : CallFix p m c cc nL s args Ts own) (hM : Met l y ws rm Pc Qc mc ms free) (cw : vx_CSW R s args own index y bytes maxL ret hh ws rm mc ms n) (hp : PreS s H Pc As)
    (hg : g.method = m) (hn : As.length = n) (hsize : g.locals.size = nL) (hstack : g.stack = As.reverse ++ rest) (hW : 2 * g.monitorRoom + (rest.map fun v => v.category).sum ≤ 8) (hdg : decode cc g.pc = .ok (.invokestatic index, 3)) (hf : cells + mc ≤ R.cells ∧ slots + ms ≤ R.slots) :
    va_Run p l e R s m args below meth c H locs cells slots mc ms g rest (Qc As.toArray) (free) := by
  obtain ⟨⟨hrc, hrs, hfr, hlo, hws, hcw⟩, hcode, hini, hy, hlen, hl, hstt⟩ := cw
  have hK : Back l R p e below s args y 3 8 (PreOf R mc ms Pc) (PostOf Qc mc ms free) := va_backW (hh := hh) (bytes := bytes) (maxL := maxL) (ret := ret) hM hp.1 hrc hrs hfr hlo hws hcw (fun a' U hW => word_at hW (Or.inl (by first | rfl | simp [Cond.onTables, Cond.keeps, Cond.steady])) hini)
  obtain ⟨hx, hb, hml, ho, -⟩ := S
  intro T hT X
  obtain ⟨v, vm₁, ⟨U', l2, c2, s2⟩, hW₁, X', ⟨g', mk, t, L, e1, e2, hq, h1, hL, h2, h3⟩, st⟩ := vx_callSW X hx (hh := hh) (bytes := bytes) (maxL := maxL) (ret := ret) ho hl hstt hini hcode hy hK hg (hsize.trans hml.symm) (argsL := As) (rest := rest) (fun sig h => hn.trans (hlen sig h)) hstack hW (by rw [hb]; exact hdg)
    (fun vm₁ hW₁ => ⟨hf.1, hf.2, hp.2 (T.setVm vm₁) hT hW₁⟩)
  dsimp only [Pt.U, Pt.locs, Pt.cells, Pt.slots] at X' e1 e2 h1 h2 h3 st
  subst h1; subst h2; subst h3
  exact ⟨v, (T.setVm vm₁).calling g' mk As.toArray, t, U', L, hT, X', hL, e1, e2, hq, st⟩
/-- not caught here, past rows that name other classes: it goes on to the caller -/
theorem vx_outP {p : Program} {l : Launch} {e : Env} {R : Room} {s : State} {m : MethodId} {args : Array Value} {below : List Frame} {meth : Method} {c : Code} {H : Heap} {locs : List Loc} {cells slots : Nat} {free : Addr → Prop} {ls : Array Slot} {rest : List Value} {Qc : Array Value → State → Outcome → State → Prop} {XC : String → State → State → Prop}
    {pc : Nat} {own E : String} {ce : Cell} {q : Addr} {mc ms : Nat} (hown : s.vm.findClass own = some m.cls) (hlocks : meth.locks = false)
    (hpass : ∀ z ∈ c.exceptionTable.toList, covers z pc = false ∨ (z.catchType ≠ 0 ∧ ∃ nm : String, (Cond.classLink own z.catchType nm).before args s = true ∧ va_Nc E nm s)) (hcell : H[q]? = some ce) (hv : ce.vm = .none) (hcl : s.vm.findClass E = some ce.cls)
    (hx : ∀ t : State, t.heap = H → s.vm.Alike t.vm → XC E s t) (hf : ∀ z ∈ locs, free z.base) (hc : cells ≤ mc) (hs : slots ≤ ms) :
    vx_W p l e R s m args below meth c H locs cells slots (vx_MQ below Qc XC args s mc ms free) (F0 m pc ls rest) q := by
  intro T hT X
  have hpl : e.platform.magicAccessors = ({} : Platform).magicAccessors := by rw [X.admits.platform]
  obtain ⟨vm', hW', X', st⟩ := X.outThrough hlocks q (g := F0 m pc ls rest) rfl rfl rfl (cell := ce) (by rw [hT]; exact hcell) (by rw [hv]; rfl)
    (by obtain ⟨k9, h9, -⟩ := Vm.findClass_spec hcl; exact ⟨k9, h9⟩) (fun z hz => by
      rcases hpass z hz with h | ⟨hz0, nm, hl1, hn1⟩
      · exact Or.inl h
      · obtain ⟨c6, hc6, hcl6⟩ := Cond.classLink_spec hown hl1 e.platform hpl
        obtain ⟨a8, b8, h1, h2, h3⟩ := hn1
        cases Option.some.inj (h1.symm.trans hcl)
        cases Option.some.inj (h2.symm.trans hc6)
        exact Or.inr ⟨hz0, _, hcl6, h3⟩)
  obtain ⟨g₀, hfr⟩ := X'.frames_eq
  have hcell9 : ((T.setVm vm').setFrames (.throwing q :: below)).heap[q]? = some ce := by
    show T.heap[q]? = some ce
    rw [hT]; exact hcell
  have hend : Ended ((T.setVm vm').setFrames (.throwing q :: below)) below (.threw q) := State.frames_setFrames _ (State.cur_lt_of_frames hfr)
  refine ⟨(T.setVm vm').setFrames (.throwing q :: below), ?_, .threw q, X'.here.running, hend, Or.inr ⟨q, rfl, E, ce, locs, hx _ hT (X'.ends _).1.alike, hcell9, hv, hcl, (X'.ends _).1, (X'.ends _).2.mono hc hs, hf⟩⟩
  rw [X.pushThrowing_eq]
  exact st
/-- a thing of a world lies in the heap -/
theorem vx_lt {D : va_G} {cl : List vw_C} {ws : va_W} {H1 : Heap} (h : va_P D cl ws H1) {k : Nat} {q : Nat × va_E} (hk : ws[k]? = some q) : q.1 < H1.size := (h k q hk).lt
end VXS
/-! ===== END ===== -/
/-! ===== BEGIN methods with a table of their own: called by a name, returning or throwing ===== -/
section VXH
/-! vx_backW, vx_callVX, vx_callSX, vx_callVW, vx_runVW, vx_runVX, vx_runSX, vx_ofWH follow the same proofs as their sisters above (Free/Laws.lean, Shelf42/LK1.lean); vx_outP calls Shelf42/NT130.lean (outThrough). -/
section
variable {l : Launch} {R : Room} {p : Program} {e : Env} {below : List Frame} {s : State} {sargs : Array Value} {y : MethodName} {len W9 : Nat}
theorem vx_backW {ws : List Cond} {rm : Room} {Pc : Array Value → State → Prop} {Qc : Array Value → State → Outcome → State → Prop} {XC : String → State → State → Prop} {mc ms : Nat} {free : Addr → Prop} {bytes : ByteArray} {maxL : Nat} {ret : Option FieldType} {hh : List (Nat × Nat × Nat × Nat)}
    (hM : vx_Met l y ws rm Pc Qc XC mc ms free) (hblind : FrameBlind Pc) (hrc : rm.cells = mc) (hrs : rm.slots = ms)
    (hframes : rm.frames + 1 ≤ R.frames) (hlocals : W9 + (maxL + 11) + rm.locals ≤ R.locals)
    (hws : ∀ w ∈ ws, ∀ a' U, s.WarmedH U.vm → w.before a' U = true) (hcode : Cond.codeWith y bytes maxL ret hh ∈ ws) (hinit : ∀ a' U, s.WarmedH U.vm → (Cond.initialized y.cls).before a' U = true) :
    vx_Back l R p e below s sargs y len W9 (PreOf R mc ms Pc) (PostOf Qc mc ms free) (vx_Post XC mc ms free) := by
  intro m meth c A g ig mk a X hg hsize hdg hW hn hp
  have h1 : (headSpec ws rm).pre.before a A.U = true := atoms_intro fun w hw => hws w hw _ _ X.warmed
  have h2 : (Cond.codeWith y bytes maxL ret hh).before a A.U = true := hws _ hcode _ _ X.warmed
  have h3 : (Cond.initialized y.cls).before a A.U = true := hinit _ _ X.warmed
  have h4 : A.cells + (headSpec ws rm).room.cells ≤ R.cells := by rw [show (headSpec ws rm).room.cells = mc from hrc]; exact hp.1
  have h5 : A.slots + (headSpec ws rm).room.slots ≤ R.slots := by rw [show (headSpec ws rm).room.slots = ms from hrs]; exact hp.2.1
  have hPc : Pc a (A.U.calling g mk a) := hblind _ _ _ _ hp.2.2
  obtain ⟨U, Ls, c0, s0⟩ := A
  dsimp only [Pt.U, Pt.locs, Pt.cells, Pt.slots] at h1 h2 h3 h4 h5 X hn hPc ⊢
  obtain ⟨m9, methY, cY, hn9, hmY, hcY, -, hlY, -⟩ := Cond.codeWith_spec h2
  cases Option.some.inj (hn9.symm.trans hn)
  obtain ⟨kY, hkY, -⟩ := className_of_methodNamed hn
  have hinitY : kY.init = .initialized := Cond.initialized_spec (findClass_of_methodNamed hn) hkY h3
  have h : At U g.method c below := by rw [hg]; exact X.here
  have hlocals9 : W9 + (maxL + 11) + (headSpec ws rm).room.locals ≤ R.locals := hlocals
  have happ : (headSpec ws rm).appliesLoose y e.platform (U.calling g mk a) = true :=
    Spec.appliesLoose_calling (g := g) h hdg hn hkY hinitY
      (X.room_calling (g := g) (R' := (headSpec ws rm).room) hsize hmY hcY hframes (by rw [hlY]; omega) h4 h5) h1
  obtain ⟨mid, hmid⟩ := h.above
  have hfr : (U.setTop g).frames = (.java g :: mid) ++ below := by rw [State.frames_setTop' g h.top, hmid]; rfl
  obtain ⟨o, s₂, hsteps, -, hend, hq⟩ := Steps.callFree hM p X.admits X.cas X.clock (acts := []) hfr happ hPc trivial
  have hq' : vx_Q Qc XC mc ms free a (U.calling g mk a) o s₂ := hq
  rw [State.frames_setTop' g h.top] at hend
  obtain ⟨g₀, hg0⟩ := Option.isSome_iff_exists.mp h.top
  obtain ⟨r, hr⟩ := State.topJava?_eq_some.mp hg0
  have hr' : (({ U with heap := s₂.heap, slotsUsed := s₂.slotsUsed } : State).setVm s₂.vm).frames = .java g₀ :: r := hr
  rcases hq' with ⟨hqc, L, hfe, hL⟩ | ⟨q, rfl, E, ce, L, hx, hce, hcv, hcl, hW₂, hsm, hL⟩
  · obtain ⟨⟨v, rfl⟩, hW₂, e2, q2, q3, q4, q5, q6⟩ := id hfe
    have e3 : s₂ = ({ (U.calling g mk a).setFrames s₂.frames with heap := s₂.heap, slotsUsed := s₂.slotsUsed } : State).setVm s₂.vm := by
      have : s₂ = ({ s₂ with vm := (U.calling g mk a).vm } : State).setVm s₂.vm := rfl
      rw [e2] at this
      exact this
    obtain ⟨c₂, i₂, len₂, hc₂, hd₂, hf₂⟩ := hend
    have hW' : U.WarmedH s₂.vm := hW₂
    have hcc : c₂ = c := by
      have h1 : s₂.code? g.method = U.code? g.method := by
        rw [State.code?_eq, State.code?_eq, hW'.alike.method?]
      exact Option.some.inj (hc₂.symm.trans (h1.trans h.code))
    subst hcc
    have hlen : len₂ = len := by rw [hdg] at hd₂; cases hd₂; rfl
    subst hlen
    have hs₂ : s₂ = (({ U with heap := s₂.heap, slotsUsed := s₂.slotsUsed } : State).setVm s₂.vm).setTop { g with pc := g.pc + len₂, stack := v.toList ++ g.stack } := by
      refine e3.trans ?_
      rw [hf₂, State.calling_eq h.top, State.setFrames_setFrames, State.setTop_of_frames _ hr', hr]
      rfl
    have hsame : U.sameButNew ({ U with heap := s₂.heap, slotsUsed := s₂.slotsUsed } : State) L mc ms := by
      refine ⟨?_, q2, q3, q4, q5, q6⟩
      obtain ⟨t, ht, -⟩ := State.frames_cons hr
      show ({ U with heap := s₂.heap, slotsUsed := s₂.slotsUsed } : State) = { U.setFrames U.frames with heap := s₂.heap, slotsUsed := s₂.slotsUsed }
      rw [State.setFrames_self ht]
    subst hg
    refine Or.inl ⟨v, ⟨(({ U with heap := s₂.heap, slotsUsed := s₂.slotsUsed } : State).setVm s₂.vm), Ls ++ L, c0 + mc, s0 + ms⟩,
      ⟨X.admits, X.cas, X.clock, X.frames, X.room, X.hears, X.method, X.code, (X.here.setHeapUsed s₂.heap s₂.slotsUsed).setVm hW'.alike, X.tail, State.WarmedH.trans X.warmed hW', X.limits, X.bytes, X.same.trans (hsame.setVm s.vm)⟩,
      ⟨g, mk, s₂, L, rfl, rfl, hqc, rfl, hL, rfl, rfl⟩, ?_⟩
    show Steps p.tables e below _ ((({ U with heap := s₂.heap, slotsUsed := s₂.slotsUsed } : State).setVm s₂.vm).setTop { g with pc := g.pc + len₂, stack := v.toList ++ g.stack })
    rw [← hs₂]
    exact hsteps
  · obtain ⟨e2, q2, q3, q4, q5, q6⟩ := id hsm
    have e3 : s₂ = ({ (U.calling g mk a).setFrames s₂.frames with heap := s₂.heap, slotsUsed := s₂.slotsUsed } : State).setVm s₂.vm := by
      have : s₂ = ({ s₂ with vm := (U.calling g mk a).vm } : State).setVm s₂.vm := rfl
      rw [e2] at this
      exact this
    have hf₂ : s₂.frames = .throwing q :: .java g :: U.frames.tail := hend
    have hW' : U.WarmedH s₂.vm := hW₂
    have hs₂ : s₂ = ((({ U with heap := s₂.heap, slotsUsed := s₂.slotsUsed } : State).setVm s₂.vm).setTop g).pushFrame (.throwing q) := by
      refine e3.trans ?_
      rw [hf₂, State.calling_eq h.top, State.setFrames_setFrames, State.pushFrame, State.frames_setTop _ hr', State.setTop_of_frames _ hr', State.setFrames_setFrames, hr]
      rfl
    have hsame : U.sameButNew ({ U with heap := s₂.heap, slotsUsed := s₂.slotsUsed } : State) L mc ms := by
      refine ⟨?_, q2, q3, q4, q5, q6⟩
      obtain ⟨t, ht, -⟩ := State.frames_cons hr
      show ({ U with heap := s₂.heap, slotsUsed := s₂.slotsUsed } : State) = { U.setFrames U.frames with heap := s₂.heap, slotsUsed := s₂.slotsUsed }
      rw [State.setFrames_self ht]
    subst hg
    refine Or.inr ⟨q, ⟨(({ U with heap := s₂.heap, slotsUsed := s₂.slotsUsed } : State).setVm s₂.vm), Ls ++ L, c0 + mc, s0 + ms⟩,
      ⟨X.admits, X.cas, X.clock, X.frames, X.room, X.hears, X.method, X.code, (X.here.setHeapUsed s₂.heap s₂.slotsUsed).setVm hW'.alike, X.tail, State.WarmedH.trans X.warmed hW', X.limits, X.bytes, X.same.trans (hsame.setVm s.vm)⟩,
      ⟨g, mk, s₂, L, E, ce, rfl, rfl, hx, hce, hcv, hcl, rfl, hL, rfl, rfl⟩, ?_⟩
    show Steps p.tables e below _ (((({ U with heap := s₂.heap, slotsUsed := s₂.slotsUsed } : State).setVm s₂.vm).setTop g).pushFrame (.throwing q))
    rw [← hs₂]
    exact hsteps
end
variable {p : Program} {l : Launch} {e : Env} {R : Room} {s : State} {m : MethodId} {args : Array Value} {below : List Frame} {meth : Method} {c : Code} {T : State} {H : Heap} {locs : List Loc} {cells slots : Nat}
theorem vx_callVX (X : Stand p l e R s m args below meth c T locs cells slots) (hexec : p.tables.exec = Jvm.exec) {own C : String} {index : Nat} {y : MethodName} {bytes : ByteArray} {maxL : Nat} {ret : Option FieldType} {hh : List (Nat × Nat × Nat × Nat)}
    (hown : s.vm.findClass own = some m.cls) (hlink : (Cond.methodLink own index y).before args s = true) (hinst : (Cond.instanceMethod y).before args s = true) (hsel : (Cond.selects C y y).before args s = true)
    (hcode : (Cond.codeWith y bytes maxL ret hh).before args s = true) (hy : y.cls ≠ "java/lang/invoke/MethodHandle" ∧ y.cls ≠ "java/lang/invoke/VarHandle")
    {W9 : Nat} {Pre : Pt → Array Value → Prop} {Post : Pt → Array Value → Option Value → Pt → Prop} {PostX : Pt → Array Value → Addr → Pt → Prop} (hK : vx_Back l R p e below s args y 3 W9 Pre Post PostX)
    {b : Addr} {cellB : Cell} (hcell : T.heap[b]? = some cellB) (hobj : cellB.vm.isStatics = false) (hcls : s.vm.findClass C = some cellB.cls)
    {g : JFrame} (hg : g.method = m) (hsize : g.locals.size = c.maxLocals) {argsL rest : List Value} (hlen : ∀ sig, parseMethodDescriptor y.desc = some sig → argsL.length = sig.parameters.length)
    (hstack : g.stack = argsL.reverse ++ .ref b :: rest) (hW : 2 * g.monitorRoom + (rest.map fun v => v.category).sum ≤ W9) (hdg : decode c.code g.pc = .ok (.invokevirtual index, 3))
    (hpre : ∀ vm₁, s.WarmedH vm₁ → Pre ⟨T.setVm vm₁, locs, cells, slots⟩ (Value.ref b :: argsL).toArray) :
    (∃ (v : Option Value) (vm₁ : Vm) (B : Pt), s.WarmedH vm₁ ∧ Stand p l e R s m args below meth c B.U B.locs B.cells B.slots ∧ Post ⟨T.setVm vm₁, locs, cells, slots⟩ (Value.ref b :: argsL).toArray v B ∧
      ∀ target, Steps p.tables e below (B.U.setTop { g with pc := g.pc + 3, stack := v.toList ++ rest }) target → Steps p.tables e below (T.setTop g) target) ∨
    (∃ (q : Addr) (vm₁ : Vm) (B : Pt), s.WarmedH vm₁ ∧ Stand p l e R s m args below meth c B.U B.locs B.cells B.slots ∧ PostX ⟨T.setVm vm₁, locs, cells, slots⟩ (Value.ref b :: argsL).toArray q B ∧
      Steps p.tables e below (T.setTop g) ((B.U.setTop { g with stack := rest }).pushFrame (.throwing q))) := by
  obtain ⟨mk, methM, hnamed, hmethM, hstM, habM⟩ := Cond.instanceMethod_spec hinst
  obtain ⟨m8, methM', cM, hn8, hmethM', -, -, -, -, -, -, hsigM⟩ := Cond.codeWith_spec hcode
  cases Option.some.inj (hn8.symm.trans hnamed)
  cases hmethM.symm.trans hmethM'
  obtain ⟨c2, r2, m2, q1, q2, q3, q4, kP, hkP, hkPi⟩ := Cond.selects_spec hsel
  cases hcls.symm.trans q1
  cases (State.methodFound?_of_named hnamed hy).symm.trans q2
  cases hnamed.symm.trans q3
  have hselP : selectMethod e.platform s.vm cellB.cls mk = .method mk := by rw [Launch.admits_selectMethod X.admits]; exact q4
  obtain ⟨vm₁, X₁, hstep₁⟩ := X.invokevirtual hexec hown hlink hnamed hmethM hstM hkP hkPi hy (a := b) (cell := cellB) hcell
    (fun z h => by rw [h] at hobj; cases hobj) hselP hmethM habM hkP hkPi (g := g) hg (argsL := argsL) (rest := rest) (hlen _ hsigM) hstack hdg
  rcases hK m meth c ⟨T.setVm vm₁, locs, cells, slots⟩ { g with stack := rest } (.invokevirtual index) mk (Value.ref b :: argsL).toArray X₁ hg hsize hdg hW (X₁.named hnamed) (hpre vm₁ X₁.warmed) with ⟨v, B, X', hpost, hsteps⟩ | ⟨q, B, X', hpost, hsteps⟩
  · exact Or.inl ⟨v, vm₁, B, X₁.warmed, X', hpost, fun target h => hstep₁ _ fun acts => by rw [doInvoke_state]; exact hsteps.trans h⟩
  · exact Or.inr ⟨q, vm₁, B, X₁.warmed, X', hpost, hstep₁ _ fun acts => by rw [doInvoke_state]; exact hsteps⟩
theorem vx_callSX (X : Stand p l e R s m args below meth c T locs cells slots) (hexec : p.tables.exec = Jvm.exec) {own : String} {index : Nat} {y : MethodName} {bytes : ByteArray} {maxL : Nat} {ret : Option FieldType} {hh : List (Nat × Nat × Nat × Nat)}
    (hown : s.vm.findClass own = some m.cls) (hlink : (Cond.methodLink own index y).before args s = true) (hstat : (Cond.static y).before args s = true) (hinit : (Cond.initialized y.cls).before args s = true)
    (hcode : (Cond.codeWith y bytes maxL ret hh).before args s = true) (hy : y.cls ≠ "java/lang/invoke/MethodHandle" ∧ y.cls ≠ "java/lang/invoke/VarHandle")
    {W9 : Nat} {Pre : Pt → Array Value → Prop} {Post : Pt → Array Value → Option Value → Pt → Prop} {PostX : Pt → Array Value → Addr → Pt → Prop} (hK : vx_Back l R p e below s args y 3 W9 Pre Post PostX)
    {g : JFrame} (hg : g.method = m) (hsize : g.locals.size = c.maxLocals) {argsL rest : List Value} (hlen : ∀ sig, parseMethodDescriptor y.desc = some sig → argsL.length = sig.parameters.length)
    (hstack : g.stack = argsL.reverse ++ rest) (hW : 2 * g.monitorRoom + (rest.map fun v => v.category).sum ≤ W9) (hdg : decode c.code g.pc = .ok (.invokestatic index, 3))
    (hpre : ∀ vm₁, s.WarmedH vm₁ → Pre ⟨T.setVm vm₁, locs, cells, slots⟩ argsL.toArray) :
    (∃ (v : Option Value) (vm₁ : Vm) (B : Pt), s.WarmedH vm₁ ∧ Stand p l e R s m args below meth c B.U B.locs B.cells B.slots ∧ Post ⟨T.setVm vm₁, locs, cells, slots⟩ argsL.toArray v B ∧
      ∀ target, Steps p.tables e below (B.U.setTop { g with pc := g.pc + 3, stack := v.toList ++ rest }) target → Steps p.tables e below (T.setTop g) target) ∨
    (∃ (q : Addr) (vm₁ : Vm) (B : Pt), s.WarmedH vm₁ ∧ Stand p l e R s m args below meth c B.U B.locs B.cells B.slots ∧ PostX ⟨T.setVm vm₁, locs, cells, slots⟩ argsL.toArray q B ∧
      Steps p.tables e below (T.setTop g) ((B.U.setTop { g with stack := rest }).pushFrame (.throwing q))) := by
  obtain ⟨mk, methM, cM, hnamed, hmethM, -, -, -, -, -, -, hsigM⟩ := Cond.codeWith_spec hcode
  have hstatic : methM.isStatic = true := Cond.static_spec hnamed hmethM hstat
  obtain ⟨kP, hkP, -⟩ := className_of_methodNamed hnamed
  have hinitP : kP.init = .initialized := Cond.initialized_spec (findClass_of_methodNamed hnamed) hkP hinit
  obtain ⟨vm₁, X₁, hstep₁⟩ := X.invokestatic hexec hown hlink hnamed hmethM hstatic hkP hinitP hy (g := g) hg (argsL := argsL) (rest := rest) (hlen _ hsigM) hstack hdg
  rcases hK m meth c ⟨T.setVm vm₁, locs, cells, slots⟩ { g with stack := rest } (.invokestatic index) mk argsL.toArray X₁ hg hsize hdg hW (X₁.named hnamed) (hpre vm₁ X₁.warmed) with ⟨v, B, X', hpost, hsteps⟩ | ⟨q, B, X', hpost, hsteps⟩
  · exact Or.inl ⟨v, vm₁, B, X₁.warmed, X', hpost, fun target h => hstep₁ _ fun acts => by rw [doInvoke_state]; exact hsteps.trans h⟩
  · exact Or.inr ⟨q, vm₁, B, X₁.warmed, X', hpost, hstep₁ _ fun acts => by rw [doInvoke_state]; exact hsteps⟩
theorem vx_callVW (X : Stand p l e R s m args below meth c T locs cells slots) (hexec : p.tables.exec = Jvm.exec) {own C : String} {index : Nat} {y : MethodName} {bytes : ByteArray} {maxL : Nat} {ret : Option FieldType} {hh : List (Nat × Nat × Nat × Nat)}
    (hown : s.vm.findClass own = some m.cls) (hlink : (Cond.methodLink own index y).before args s = true) (hinst : (Cond.instanceMethod y).before args s = true) (hsel : (Cond.selects C y y).before args s = true)
    (hcode : (Cond.codeWith y bytes maxL ret hh).before args s = true) (hy : y.cls ≠ "java/lang/invoke/MethodHandle" ∧ y.cls ≠ "java/lang/invoke/VarHandle")
    {W9 : Nat} {Pre : Pt → Array Value → Prop} {Post : Pt → Array Value → Option Value → Pt → Prop} (hK : Back l R p e below s args y 3 W9 Pre Post)
    {b : Addr} {cellB : Cell} (hcell : T.heap[b]? = some cellB) (hobj : cellB.vm.isStatics = false) (hcls : s.vm.findClass C = some cellB.cls)
    {g : JFrame} (hg : g.method = m) (hsize : g.locals.size = c.maxLocals) {argsL rest : List Value} (hlen : ∀ sig, parseMethodDescriptor y.desc = some sig → argsL.length = sig.parameters.length)
    (hstack : g.stack = argsL.reverse ++ .ref b :: rest) (hW : 2 * g.monitorRoom + (rest.map fun v => v.category).sum ≤ W9) (hdg : decode c.code g.pc = .ok (.invokevirtual index, 3))
    (hpre : ∀ vm₁, s.WarmedH vm₁ → Pre ⟨T.setVm vm₁, locs, cells, slots⟩ (Value.ref b :: argsL).toArray) :
    ∃ (v : Option Value) (vm₁ : Vm) (B : Pt), s.WarmedH vm₁ ∧ Stand p l e R s m args below meth c B.U B.locs B.cells B.slots ∧ Post ⟨T.setVm vm₁, locs, cells, slots⟩ (Value.ref b :: argsL).toArray v B ∧
      ∀ target, Steps p.tables e below (B.U.setTop { g with pc := g.pc + 3, stack := v.toList ++ rest }) target → Steps p.tables e below (T.setTop g) target := by
  obtain ⟨mk, methM, hnamed, hmethM, hstM, habM⟩ := Cond.instanceMethod_spec hinst
  obtain ⟨m8, methM', cM, hn8, hmethM', -, -, -, -, -, -, hsigM⟩ := Cond.codeWith_spec hcode
  cases Option.some.inj (hn8.symm.trans hnamed)
  cases hmethM.symm.trans hmethM'
  obtain ⟨c2, r2, m2, q1, q2, q3, q4, kP, hkP, hkPi⟩ := Cond.selects_spec hsel
  cases hcls.symm.trans q1
  cases (State.methodFound?_of_named hnamed hy).symm.trans q2
  cases hnamed.symm.trans q3
  have hselP : selectMethod e.platform s.vm cellB.cls mk = .method mk := by rw [Launch.admits_selectMethod X.admits]; exact q4
  obtain ⟨vm₁, X₁, hstep₁⟩ := X.invokevirtual hexec hown hlink hnamed hmethM hstM hkP hkPi hy (a := b) (cell := cellB) hcell
    (fun z h => by rw [h] at hobj; cases hobj) hselP hmethM habM hkP hkPi (g := g) hg (argsL := argsL) (rest := rest) (hlen _ hsigM) hstack hdg
  obtain ⟨v, B, X', hpost, hsteps⟩ := hK m meth c ⟨T.setVm vm₁, locs, cells, slots⟩ { g with stack := rest } (.invokevirtual index) mk (Value.ref b :: argsL).toArray X₁ hg hsize hdg hW (X₁.named hnamed) (hpre vm₁ X₁.warmed)
  exact ⟨v, vm₁, B, X₁.warmed, X', hpost, fun target h => hstep₁ _ fun acts => by rw [doInvoke_state]; exact hsteps.trans h⟩
abbrev vx_CVW (R : Room) (s : State) (args : Array Value) (own C : String) (index : Nat) (y : MethodName) (bytes : ByteArray) (maxL : Nat) (ret : Option FieldType) (hh : List (Nat × Nat × Nat × Nat)) (ws : List Cond) (rm : Room) (mc ms n : Nat) : Prop :=
  (rm.cells = mc ∧ rm.slots = ms ∧ rm.frames + 1 ≤ R.frames ∧ 8 + (maxL + 11) + rm.locals ≤ R.locals ∧ (∀ w ∈ ws, ∀ (a' : Array Value) (U : State), s.WarmedH U.vm → w.before a' U = true) ∧ Cond.codeWith y bytes maxL ret hh ∈ ws) ∧
  (Cond.codeWith y bytes maxL ret hh).before args s = true ∧ (Cond.initialized y.cls).before args s = true ∧ (y.cls ≠ "java/lang/invoke/MethodHandle" ∧ y.cls ≠ "java/lang/invoke/VarHandle") ∧
  (∀ sig, parseMethodDescriptor y.desc = some sig → n = sig.parameters.length) ∧ (Cond.methodLink own index y).before args s = true ∧ (Cond.instanceMethod y).before args s = true ∧ (Cond.selects C y y).before args s = true
theorem vx_cwVW {own C : String} {index maxL mc ms : Nat} {y : MethodName} {bytes : ByteArray} {ret : Option FieldType} {hh : List (Nat × Nat × Nat × Nat)} {Ts ws ws' : List Cond} {rm : Room} (n : Nat) (ht : ∀ w ∈ Ts, w.before args s = true) (hT : GoodIn Ts (wsV own index C y ws)) (hw : ws = Cond.codeWith y bytes maxL ret hh :: ws') (hrc : rm.cells = mc) (hrs : rm.slots = ms)
    (hd : y.cls = C ∧ y.cls ≠ "java/lang/invoke/MethodHandle" ∧ y.cls ≠ "java/lang/invoke/VarHandle" ∧ (parseMethodDescriptor y.desc).map (fun d => d.parameters.length) = some n) (hR : rm.frames + 1 ≤ R.frames ∧ 8 + (maxL + 11) + rm.locals ≤ R.locals) :
    vx_CVW R s args own C index y bytes maxL ret hh ws rm mc ms n := by
  obtain ⟨hC, hd⟩ := hd
  subst hC
  have ok : ∀ w ∈ wsV own index y.cls y ws, w.before args s = true := fun w h => ht w (hT w h).1
  have hG : GoodIn Ts ws := fun w h => hT w (by unfold wsV; exact List.mem_append_right _ h)
  have hc : Cond.codeWith y bytes maxL ret hh ∈ ws := by rw [hw]; exact List.mem_cons_self
  refine ⟨⟨hrc, hrs, hR.1, hR.2, pay_in ht hG, hc⟩, ht _ (hG _ hc).1, ok _ (by simp [wsV]), ⟨hd.1, hd.2.1⟩, fun sig h => ?_, ok _ (by simp [wsV]), ok _ (by simp [wsV]), ok _ (by simp [wsV])⟩
  have h2 := hd.2.2
  rw [h] at h2
  exact (Option.some.inj h2).symm
theorem vx_runVW {y : MethodName} {bytes cc : ByteArray} {maxL nL mc ms n index : Nat} {ret : Option FieldType} {hh : List (Nat × Nat × Nat × Nat)} {ws : List Cond} {rm : Room} {Pc : Array Value → State → Prop} {Qc : Array Value → State → Outcome → State → Prop} {free : Addr → Prop} {Ts : List Cond} {own C : String} {b : Addr} {As rest : List Value} {g : JFrame}
    (S : CallFix p m c cc nL s args Ts own) (hM : Met l y ws rm Pc Qc mc ms free) (cw : vx_CVW R s args own C index y bytes maxL ret hh ws rm mc ms n) (hp : PreV s H C b Pc As)
    (hg : g.method = m) (hn : As.length = n) (hsize : g.locals.size = nL) (hstack : g.stack = As.reverse ++ .ref b :: rest) (hW : 2 * g.monitorRoom + (rest.map fun v => v.category).sum ≤ 8) (hdg : decode cc g.pc = .ok (.invokevirtual index, 3)) (hf : cells + mc ≤ R.cells ∧ slots + ms ≤ R.slots) :
    va_Run p l e R s m args below meth c H locs cells slots mc ms g rest (Qc (Value.ref b :: As).toArray) free := by
  obtain ⟨⟨hrc, hrs, hfr, hlo, hws, hcw⟩, hcode, hini, hy, hlen, hl, hin, hse⟩ := cw
  have hK : Back l R p e below s args y 3 8 (PreOf R mc ms Pc) (PostOf Qc mc ms free) := va_backW (hh := hh) (bytes := bytes) (maxL := maxL) (ret := ret) hM hp.1 hrc hrs hfr hlo hws hcw (fun a' U hW => word_at hW (Or.inl (by first | rfl | simp [Cond.onTables, Cond.keeps, Cond.steady])) hini)
  obtain ⟨hx, hb, hml, ho, -⟩ := S
  obtain ⟨-, ⟨cellB, hcB, hoB, hclB⟩, hPc⟩ := hp
  intro T hT X
  obtain ⟨v, vm₁, ⟨U', l2, c2, s2⟩, hW₁, X', ⟨g', mk, t, L, e1, e2, hq, h1, hL, h2, h3⟩, st⟩ := vx_callVW X hx (C := C) (hh := hh) (bytes := bytes) (maxL := maxL) (ret := ret) ho hl hin hse hcode hy hK (by rw [hT]; exact hcB) hoB hclB hg (hsize.trans hml.symm) (argsL := As) (rest := rest) (fun sig h => hn.trans (hlen sig h)) hstack hW (by rw [hb]; exact hdg)
    (fun vm₁ hW₁ => ⟨hf.1, hf.2, hPc (T.setVm vm₁) hT hW₁⟩)
  dsimp only [Pt.U, Pt.locs, Pt.cells, Pt.slots] at X' e1 e2 h1 h2 h3 st
  subst h1; subst h2; subst h3
  exact ⟨v, (T.setVm vm₁).calling g' mk (Value.ref b :: As).toArray, t, U', L, hT, X', hL, e1, e2, hq, st⟩
section
variable {y : MethodName} {bytes cc : ByteArray} {maxL nL mc ms n index : Nat} {ret : Option FieldType} {ws : List Cond} {rm : Room} {Pc : Array Value → State → Prop} {Qc : Array Value → State → Outcome → State → Prop} {XC : String → State → State → Prop} {free : Addr → Prop} {Ts : List Cond} {own C : String} {b : Addr} {As rest : List Value} {g : JFrame}
theorem vx_runVX {hh : List (Nat × Nat × Nat × Nat)} (S : CallFix p m c cc nL s args Ts own) (hM : vx_Met l y ws rm Pc Qc XC mc ms free) (cw : vx_CVW R s args own C index y bytes maxL ret hh ws rm mc ms n) (hp : PreV s H C b Pc As)
    (hg : g.method = m) (hn : As.length = n) (hsize : g.locals.size = nL) (hstack : g.stack = As.reverse ++ .ref b :: rest) (hW : 2 * g.monitorRoom + (rest.map fun v => v.category).sum ≤ 8) (hdg : decode cc g.pc = .ok (.invokevirtual index, 3)) (hf : cells + mc ≤ R.cells ∧ slots + ms ≤ R.slots) :
    vx_Run p l e R s m args below meth c H locs cells slots mc ms g rest (Qc (Value.ref b :: As).toArray) XC free := by
  obtain ⟨⟨hrc, hrs, hfr, hlo, hws, hcw⟩, hcode, hini, hy, hlen, hl, hin, hse⟩ := cw
  have hK : vx_Back l R p e below s args y 3 8 (PreOf R mc ms Pc) (PostOf Qc mc ms free) (vx_Post XC mc ms free) := vx_backW (hh := hh) (bytes := bytes) (maxL := maxL) (ret := ret) hM hp.1 hrc hrs hfr hlo hws hcw (fun a' U hW => word_at hW (Or.inl (by first | rfl | simp [Cond.onTables, Cond.keeps, Cond.steady])) hini)
  obtain ⟨hx, hb, hml, ho, -⟩ := S
  obtain ⟨-, ⟨cellB, hcB, hoB, hclB⟩, hPc⟩ := hp
  intro T hT X
  rcases vx_callVX X hx (C := C) (hh := hh) (bytes := bytes) (maxL := maxL) (ret := ret) ho hl hin hse hcode hy hK (by rw [hT]; exact hcB) hoB hclB hg (hsize.trans hml.symm) (argsL := As) (rest := rest) (fun sig h => hn.trans (hlen sig h)) hstack hW (by rw [hb]; exact hdg)
    (fun vm₁ hW₁ => ⟨hf.1, hf.2, hPc (T.setVm vm₁) hT hW₁⟩) with ⟨v, vm₁, ⟨U', l2, c2, s2⟩, hW₁, X', ⟨g', mk, t, L, e1, e2, hq, h1, hL, h2, h3⟩, st⟩ | ⟨q, vm₁, ⟨U', l2, c2, s2⟩, hW₁, X', ⟨g', mk, t, L, E, ce, e1, e2, hq, hce, hcv, hcl, h1, hL, h2, h3⟩, st⟩
  · dsimp only [Pt.U, Pt.locs, Pt.cells, Pt.slots] at X' e1 e2 h1 h2 h3 st
    subst h1; subst h2; subst h3
    exact Or.inl ⟨v, (T.setVm vm₁).calling g' mk (Value.ref b :: As).toArray, t, U', L, hT, X', hL, e1, e2, hq, st⟩
  · dsimp only [Pt.U, Pt.locs, Pt.cells, Pt.slots] at X' e1 e2 h1 h2 h3 st hcl
    subst h1; subst h2; subst h3
    exact Or.inr ⟨q, (T.setVm vm₁).calling g' mk (Value.ref b :: As).toArray, t, U', L, E, ce, hT, X', hL, e1, e2, hq, hce, hcv, vx_cls hW₁ hcl, st⟩
theorem vx_runSX {hh : List (Nat × Nat × Nat × Nat)} (S : CallFix p m c cc nL s args Ts own) (hM : vx_Met l y ws rm Pc Qc XC mc ms free) (cw : vx_CSW R s args own index y bytes maxL ret hh ws rm mc ms n) (hp : PreS s H Pc As)
    (hg : g.method = m) (hn : As.length = n) (hsize : g.locals.size = nL) (hstack : g.stack = As.reverse ++ rest) (hW : 2 * g.monitorRoom + (rest.map fun v => v.category).sum ≤ 8) (hdg : decode cc g.pc = .ok (.invokestatic index, 3)) (hf : cells + mc ≤ R.cells ∧ slots + ms ≤ R.slots) :
    vx_Run p l e R s m args below meth c H locs cells slots mc ms g rest (Qc As.toArray) XC free := by
  obtain ⟨⟨hrc, hrs, hfr, hlo, hws, hcw⟩, hcode, hini, hy, hlen, hl, hstt⟩ := cw
  have hK : vx_Back l R p e below s args y 3 8 (PreOf R mc ms Pc) (PostOf Qc mc ms free) (vx_Post XC mc ms free) := vx_backW (hh := hh) (bytes := bytes) (maxL := maxL) (ret := ret) hM hp.1 hrc hrs hfr hlo hws hcw (fun a' U hW => word_at hW (Or.inl (by first | rfl | simp [Cond.onTables, Cond.keeps, Cond.steady])) hini)
  obtain ⟨hx, hb, hml, ho, -⟩ := S
  intro T hT X
  rcases vx_callSX X hx (hh := hh) (bytes := bytes) (maxL := maxL) (ret := ret) ho hl hstt hini hcode hy hK hg (hsize.trans hml.symm) (argsL := As) (rest := rest) (fun sig h => hn.trans (hlen sig h)) hstack hW (by rw [hb]; exact hdg)
    (fun vm₁ hW₁ => ⟨hf.1, hf.2, hp.2 (T.setVm vm₁) hT hW₁⟩) with ⟨v, vm₁, ⟨U', l2, c2, s2⟩, hW₁, X', ⟨g', mk, t, L, e1, e2, hq, h1, hL, h2, h3⟩, st⟩ | ⟨q, vm₁, ⟨U', l2, c2, s2⟩, hW₁, X', ⟨g', mk, t, L, E, ce, e1, e2, hq, hce, hcv, hcl, h1, hL, h2, h3⟩, st⟩
  · dsimp only [Pt.U, Pt.locs, Pt.cells, Pt.slots] at X' e1 e2 h1 h2 h3 st
    subst h1; subst h2; subst h3
    exact Or.inl ⟨v, (T.setVm vm₁).calling g' mk As.toArray, t, U', L, hT, X', hL, e1, e2, hq, st⟩
  · dsimp only [Pt.U, Pt.locs, Pt.cells, Pt.slots] at X' e1 e2 h1 h2 h3 st hcl
    subst h1; subst h2; subst h3
    exact Or.inr ⟨q, (T.setVm vm₁).calling g' mk As.toArray, t, U', L, E, ce, hT, X', hL, e1, e2, hq, hce, hcv, vx_cls hW₁ hcl, st⟩
end
end VXH
theorem vx_ofWH {l : Launch} {y : MethodName} {ws ws' : List Cond} {rm : Room} {Pc : Array Value → State → Prop} {Qc : Array Value → State → Outcome → State → Prop} {XC : String → State → State → Prop} {mc ms : Nat} {free : Addr → Prop} {cc : ByteArray} {maxL : Nat} {ret : Option FieldType} {hh : List (Nat × Nat × Nat × Nat)}
    (hy : plainName y.cls = true) (hw : ws = Cond.codeWith y cc maxL ret hh :: ws')
    (body : ∀ p e s m args below meth c s₁, BodyLoose p l y (headSpec ws rm) cc maxL ret e s m args below meth c s₁ → c.maxLocals = maxL → Pc args s →
      W p l e (headSpec ws rm).room s m args below meth c s.heap [] 0 0 (vx_MQ below Qc XC args s mc ms free) (entryFrame m args maxL)) : vx_Met l y ws rm Pc Qc XC mc ms free := by
  refine MetFree.of_bodyS (code := cc) (maxLocals := maxL) (ret := ret) hy ?_ ?_
  · intro args s m h hn
    obtain ⟨m9, meth, c, hn9, h1, h2, h3, h4, -, h5, h6, -⟩ := Cond.codeWith_spec (atoms_spec (ws := ws) h _ (by rw [hw]; exact List.mem_cons_self))
    cases hn.symm.trans hn9
    exact ⟨meth, c, h1, h2, h3, h4, h5, h6⟩
  · intro p e s m args below meth c s₁ B hml hP _
    have hh0 : s₁.heap = s.heap := by rw [B.state]; rfl
    obtain ⟨t, a1, o, b1, b2, b3⟩ := body p e s m args below meth c s₁ B hml hP s₁ hh0 (Stand.of_body B)
    exact ⟨t, o, a1, b1, b2, b3⟩
/-! ===== END ===== -/

/-! ===== BEGIN printed: names, fields, word lists, decode rows ===== -/
def RX0 : String := "ShellWatch$Blinks"
def TX0 : u_T := fun k => match k with
  | 0 => ("ShellWatch$Blinks", "first", "[I", true)
  | 1 => ("ShellWatch$Blinks", "last", "[I", true)
  | _ => ("ShellWatch$Blinks", "count", "I", false)
def tyX0 : Nat → FieldType := fun k => match k with
  | 0 => .array .int
  | 1 => .array .int
  | _ => .int
abbrev wsX00 : List Cond := u_ws RX0 TX0 3
theorem nmX0 : ∀ a, a < 3 → ∀ b, b < 3 → a ≠ b → (TX0 a).2.1 ≠ (TX0 b).2.1 := by decide +kernel
theorem tyX0_ok : ∀ k, k < 3 → parseFieldDescriptor (TX0 k).2.2.1 = some (tyX0 k) := by decide +kernel
abbrev cX0_init : ByteArray := prog_2_method_1_code
def yX0_init : MethodName := ⟨RX0, "<init>", "()V"⟩
abbrev cX0_clear : ByteArray := prog_2_method_2_code
def yX0_clear : MethodName := ⟨RX0, "clear", "()V"⟩
abbrev cX0_copyFrom : ByteArray := prog_2_method_3_code
def yX0_copyFrom : MethodName := ⟨RX0, "copyFrom", "(LShellWatch$Blinks;)V"⟩
abbrev cX0_isFull : ByteArray := prog_2_method_4_code
def yX0_isFull : MethodName := ⟨RX0, "isFull", "()Z"⟩
abbrev cX0_tell : ByteArray := prog_2_method_5_code
def yX0_tell : MethodName := ⟨RX0, "tell", "(II)V"⟩
abbrev cX0_has : ByteArray := prog_2_method_6_code
def yX0_has : MethodName := ⟨RX0, "has", "(I)Z"⟩
def RX1 : String := "ShellWatch$Formula"
def TX1 : u_T := fun k => match k with
  | 0 => ("ShellWatch$Formula", "parts", "[I", true)
  | 1 => ("ShellWatch$Formula", "length", "I", false)
  | _ => ("ShellWatch$Formula", "waiting", "[I", true)
def tyX1 : Nat → FieldType := fun k => match k with
  | 0 => .array .int
  | 1 => .int
  | _ => .array .int
abbrev wsX10 : List Cond := u_ws RX1 TX1 3
theorem nmX1 : ∀ a, a < 3 → ∀ b, b < 3 → a ≠ b → (TX1 a).2.1 ≠ (TX1 b).2.1 := by decide +kernel
theorem tyX1_ok : ∀ k, k < 3 → parseFieldDescriptor (TX1 k).2.2.1 = some (tyX1 k) := by decide +kernel
abbrev cX1_init : ByteArray := prog_3_method_1_code
def yX1_init : MethodName := ⟨RX1, "<init>", "()V"⟩
abbrev cX1_clear : ByteArray := prog_3_method_2_code
def yX1_clear : MethodName := ⟨RX1, "clear", "()V"⟩
abbrev cX1_reset : ByteArray := prog_3_method_3_code
def yX1_reset : MethodName := ⟨RX1, "reset", "()V"⟩
abbrev cX1_copyFrom : ByteArray := prog_3_method_4_code
def yX1_copyFrom : MethodName := ⟨RX1, "copyFrom", "(LShellWatch$Formula;)V"⟩
abbrev cX1_put : ByteArray := prog_3_method_5_code
def yX1_put : MethodName := ⟨RX1, "put", "(I)V"⟩
abbrev cX1_readSum : ByteArray := prog_3_method_6_code
def yX1_readSum : MethodName := ⟨RX1, "readSum", "(LShellWatch$Input;I)Z"⟩
abbrev cX1_readTerm : ByteArray := prog_3_method_7_code
def yX1_readTerm : MethodName := ⟨RX1, "readTerm", "(LShellWatch$Input;I)Z"⟩
abbrev cX1_readFactor : ByteArray := prog_3_method_8_code
def yX1_readFactor : MethodName := ⟨RX1, "readFactor", "(LShellWatch$Input;I)Z"⟩
abbrev cX1_variableOf : ByteArray := prog_3_method_9_code
def yX1_variableOf : MethodName := ⟨RX1, "variableOf", "(LShellWatch$Token;)I"⟩
abbrev cX1_value : ByteArray := prog_3_method_10_code
def yX1_value : MethodName := ⟨RX1, "value", "(LShellWatch$Game;I)I"⟩
abbrev cX1_result : ByteArray := prog_3_method_11_code
def yX1_result : MethodName := ⟨RX1, "result", "(III)I"⟩
abbrev cX1_variable : ByteArray := prog_3_method_12_code
def yX1_variable : MethodName := ⟨RX1, "variable", "(ILShellWatch$Game;I)I"⟩
def RX2 : String := "ShellWatch$Game"
def TX2 : u_T := fun k => match k with
  | 0 => ("ShellWatch$Game", "row", "LShellWatch$Row;", true)
  | 1 => ("ShellWatch$Game", "mind", "LShellWatch$Mind;", true)
  | 2 => ("ShellWatch$Game", "blinks", "LShellWatch$Blinks;", true)
  | 3 => ("ShellWatch$Game", "formula", "LShellWatch$Formula;", true)
  | 4 => ("ShellWatch$Game", "steps", "I", false)
  | 5 => ("ShellWatch$Game", "blinked", "I", false)
  | 6 => ("ShellWatch$Game", "purse", "I", false)
  | 7 => ("ShellWatch$Game", "won", "I", false)
  | _ => ("ShellWatch$Game", "lost", "I", false)
def tyX2 : Nat → FieldType := fun k => match k with
  | 0 => .object "ShellWatch$Row"
  | 1 => .object "ShellWatch$Mind"
  | 2 => .object "ShellWatch$Blinks"
  | 3 => .object "ShellWatch$Formula"
  | 4 => .int
  | 5 => .int
  | 6 => .int
  | 7 => .int
  | _ => .int
abbrev wsX20 : List Cond := u_ws RX2 TX2 9
theorem nmX2 : ∀ a, a < 9 → ∀ b, b < 9 → a ≠ b → (TX2 a).2.1 ≠ (TX2 b).2.1 := by decide +kernel
theorem tyX2_ok : ∀ k, k < 9 → parseFieldDescriptor (TX2 k).2.2.1 = some (tyX2 k) := by decide +kernel
abbrev cX2_init : ByteArray := prog_4_method_1_code
def yX2_init : MethodName := ⟨RX2, "<init>", "()V"⟩
abbrev cX2_reset : ByteArray := prog_4_method_2_code
def yX2_reset : MethodName := ⟨RX2, "reset", "(I)V"⟩
abbrev cX2_copyFrom : ByteArray := prog_4_method_3_code
def yX2_copyFrom : MethodName := ⟨RX2, "copyFrom", "(LShellWatch$Game;)V"⟩
abbrev cX2_number : ByteArray := prog_4_method_4_code
def yX2_number : MethodName := ⟨RX2, "number", "(I)I"⟩
abbrev cX2_isBlinkNext : ByteArray := prog_4_method_5_code
def yX2_isBlinkNext : MethodName := ⟨RX2, "isBlinkNext", "()Z"⟩
abbrev cX2_canSteal : ByteArray := prog_4_method_6_code
def yX2_canSteal : MethodName := ⟨RX2, "canSteal", "(I)Z"⟩
abbrev cX2_canPlant : ByteArray := prog_4_method_7_code
def yX2_canPlant : MethodName := ⟨RX2, "canPlant", "()Z"⟩
abbrev cX2_makeMove : ByteArray := prog_4_method_8_code
def yX2_makeMove : MethodName := ⟨RX2, "makeMove", "(ZII)Z"⟩
abbrev cX2_makeStill : ByteArray := prog_4_method_9_code
def yX2_makeStill : MethodName := ⟨RX2, "makeStill", "(I)Z"⟩
abbrev cX2_countStep : ByteArray := prog_4_method_10_code
def yX2_countStep : MethodName := ⟨RX2, "countStep", "(Z)V"⟩
abbrev cX2_lookUnder : ByteArray := prog_4_method_11_code
def yX2_lookUnder : MethodName := ⟨RX2, "lookUnder", "(I)Z"⟩
abbrev cX2_playBet : ByteArray := prog_4_method_12_code
def yX2_playBet : MethodName := ⟨RX2, "playBet", "(II)I"⟩
def RX3 : String := "ShellWatch$Input"
def TX3 : u_T := fun k => match k with
  | 0 => ("ShellWatch$Input", "bytes", "[B", true)
  | 1 => ("ShellWatch$Input", "length", "I", false)
  | 2 => ("ShellWatch$Input", "textLength", "I", false)
  | 3 => ("ShellWatch$Input", "tokens", "[LShellWatch$Token;", true)
  | 4 => ("ShellWatch$Input", "starts", "[I", true)
  | 5 => ("ShellWatch$Input", "numbers", "[I", true)
  | 6 => ("ShellWatch$Input", "size", "I", false)
  | 7 => ("ShellWatch$Input", "current", "I", false)
  | 8 => ("ShellWatch$Input", "error", "I", false)
  | _ => ("ShellWatch$Input", "errorAt", "I", false)
def tyX3 : Nat → FieldType := fun k => match k with
  | 0 => .array .byte
  | 1 => .int
  | 2 => .int
  | 3 => .array (.object "ShellWatch$Token")
  | 4 => .array .int
  | 5 => .array .int
  | 6 => .int
  | 7 => .int
  | 8 => .int
  | _ => .int
abbrev wsX30 : List Cond := u_ws RX3 TX3 10
theorem nmX3 : ∀ a, a < 10 → ∀ b, b < 10 → a ≠ b → (TX3 a).2.1 ≠ (TX3 b).2.1 := by decide +kernel
theorem tyX3_ok : ∀ k, k < 10 → parseFieldDescriptor (TX3 k).2.2.1 = some (tyX3 k) := by decide +kernel
abbrev cX3_init : ByteArray := prog_5_method_1_code
def yX3_init : MethodName := ⟨RX3, "<init>", "()V"⟩
abbrev cX3_hasRoom : ByteArray := prog_5_method_2_code
def yX3_hasRoom : MethodName := ⟨RX3, "hasRoom", "(I)Z"⟩
abbrev cX3_putWord : ByteArray := prog_5_method_3_code
def yX3_putWord : MethodName := ⟨RX3, "putWord", "(I)V"⟩
abbrev cX3_begin : ByteArray := prog_5_method_4_code
def yX3_begin : MethodName := ⟨RX3, "begin", "(I)V"⟩
abbrev cX3_kindAt : ByteArray := prog_5_method_5_code
def yX3_kindAt : MethodName := ⟨RX3, "kindAt", "(I)I"⟩
abbrev cX3_addToken : ByteArray := prog_5_method_6_code
def yX3_addToken : MethodName := ⟨RX3, "addToken", "(II)V"⟩
abbrev cX3_numberIn : ByteArray := prog_5_method_7_code
def yX3_numberIn : MethodName := ⟨RX3, "numberIn", "(II)I"⟩
abbrev cX3_tokenIn : ByteArray := prog_5_method_8_code
def yX3_tokenIn : MethodName := ⟨RX3, "tokenIn", "(II)LShellWatch$Token;"⟩
abbrev cX3_isSpelled : ByteArray := prog_5_method_9_code
def yX3_isSpelled : MethodName := ⟨RX3, "isSpelled", "(Ljava/lang/String;II)Z"⟩
abbrev cX3_put : ByteArray := prog_5_method_10_code
def yX3_put : MethodName := ⟨RX3, "put", "(LShellWatch$Token;II)V"⟩
abbrev cX3_token : ByteArray := prog_5_method_11_code
def yX3_token : MethodName := ⟨RX3, "token", "()LShellWatch$Token;"⟩
abbrev cX3_number : ByteArray := prog_5_method_12_code
def yX3_number : MethodName := ⟨RX3, "number", "()I"⟩
abbrev cX3_is : ByteArray := prog_5_method_13_code
def yX3_is : MethodName := ⟨RX3, "is", "(LShellWatch$Token;)Z"⟩
abbrev cX3_advance : ByteArray := prog_5_method_14_code
def yX3_advance : MethodName := ⟨RX3, "advance", "()V"⟩
abbrev cX3_take : ByteArray := prog_5_method_15_code
def yX3_take : MethodName := ⟨RX3, "take", "(LShellWatch$Token;)Z"⟩
abbrev cX3_takeNumber : ByteArray := prog_5_method_16_code
def yX3_takeNumber : MethodName := ⟨RX3, "takeNumber", "(II)I"⟩
abbrev cX3_fail : ByteArray := prog_5_method_17_code
def yX3_fail : MethodName := ⟨RX3, "fail", "(I)Z"⟩
def RX4 : String := "ShellWatch$Mind"
def TX4 : u_T := fun k => match k with
  | 0 => ("ShellWatch$Mind", "belief", "[I", true)
  | 1 => ("ShellWatch$Mind", "places", "I", false)
  | 2 => ("ShellWatch$Mind", "trust", "I", false)
  | 3 => ("ShellWatch$Mind", "calm", "I", false)
  | _ => ("ShellWatch$Mind", "sly", "I", false)
def tyX4 : Nat → FieldType := fun k => match k with
  | 0 => .array .int
  | 1 => .int
  | 2 => .int
  | 3 => .int
  | _ => .int
abbrev wsX40 : List Cond := u_ws RX4 TX4 5
theorem nmX4 : ∀ a, a < 5 → ∀ b, b < 5 → a ≠ b → (TX4 a).2.1 ≠ (TX4 b).2.1 := by decide +kernel
theorem tyX4_ok : ∀ k, k < 5 → parseFieldDescriptor (TX4 k).2.2.1 = some (tyX4 k) := by decide +kernel
abbrev cX4_init : ByteArray := prog_6_method_1_code
def yX4_init : MethodName := ⟨RX4, "<init>", "()V"⟩
abbrev cX4_reset : ByteArray := prog_6_method_2_code
def yX4_reset : MethodName := ⟨RX4, "reset", "(I)V"⟩
abbrev cX4_copyFrom : ByteArray := prog_6_method_3_code
def yX4_copyFrom : MethodName := ⟨RX4, "copyFrom", "(LShellWatch$Mind;)V"⟩
abbrev cX4_know : ByteArray := prog_6_method_4_code
def yX4_know : MethodName := ⟨RX4, "know", "(I)V"⟩
abbrev cX4_ruleOut : ByteArray := prog_6_method_5_code
def yX4_ruleOut : MethodName := ⟨RX4, "ruleOut", "(I)V"⟩
abbrev cX4_sum : ByteArray := prog_6_method_6_code
def yX4_sum : MethodName := ⟨RX4, "sum", "()I"⟩
abbrev cX4_greatest : ByteArray := prog_6_method_7_code
def yX4_greatest : MethodName := ⟨RX4, "greatest", "()I"⟩
abbrev cX4_countBelieved : ByteArray := prog_6_method_8_code
def yX4_countBelieved : MethodName := ⟨RX4, "countBelieved", "()I"⟩
abbrev cX4_likeliestShell : ByteArray := prog_6_method_9_code
def yX4_likeliestShell : MethodName := ⟨RX4, "likeliestShell", "()I"⟩
abbrev cX4_placeOfRank : ByteArray := prog_6_method_10_code
def yX4_placeOfRank : MethodName := ⟨RX4, "placeOfRank", "(I)I"⟩
abbrev cX4_countAheadOf : ByteArray := prog_6_method_11_code
def yX4_countAheadOf : MethodName := ⟨RX4, "countAheadOf", "(I)I"⟩
abbrev cX4_followMove : ByteArray := prog_6_method_12_code
def yX4_followMove : MethodName := ⟨RX4, "followMove", "(LShellWatch$Row;ZIIZ)V"⟩
abbrev cX4_followStill : ByteArray := prog_6_method_13_code
def yX4_followStill : MethodName := ⟨RX4, "followStill", "(LShellWatch$Row;Z)V"⟩
abbrev cX4_exchange : ByteArray := prog_6_method_14_code
def yX4_exchange : MethodName := ⟨RX4, "exchange", "(II)V"⟩
abbrev cX4_mix : ByteArray := prog_6_method_15_code
def yX4_mix : MethodName := ⟨RX4, "mix", "(II)V"⟩
abbrev cX4_wonder : ByteArray := prog_6_method_16_code
def yX4_wonder : MethodName := ⟨RX4, "wonder", "(LShellWatch$Row;)V"⟩
abbrev cX4_pairsOf : ByteArray := prog_6_method_17_code
def yX4_pairsOf : MethodName := ⟨RX4, "pairsOf", "(I)I"⟩
abbrev cX4_settle : ByteArray := prog_6_method_18_code
def yX4_settle : MethodName := ⟨RX4, "settle", "()V"⟩
abbrev cX4_halve : ByteArray := prog_6_method_19_code
def yX4_halve : MethodName := ⟨RX4, "halve", "()V"⟩
abbrev cX4_divideByCommonDivisor : ByteArray := prog_6_method_20_code
def yX4_divideByCommonDivisor : MethodName := ⟨RX4, "divideByCommonDivisor", "()V"⟩
abbrev cX4_commonDivisor : ByteArray := prog_6_method_21_code
def yX4_commonDivisor : MethodName := ⟨RX4, "commonDivisor", "(II)I"⟩
def RX5 : String := "ShellWatch$Row"
def TX5 : u_T := fun k => match k with
  | 0 => ("ShellWatch$Row", "shells", "I", false)
  | 1 => ("ShellWatch$Row", "ball", "I", false)
  | 2 => ("ShellWatch$Row", "scratches", "I", false)
  | 3 => ("ShellWatch$Row", "shellAt", "[I", true)
  | _ => ("ShellWatch$Row", "moves", "[I", true)
def tyX5 : Nat → FieldType := fun k => match k with
  | 0 => .int
  | 1 => .int
  | 2 => .int
  | 3 => .array .int
  | _ => .array .int
abbrev wsX50 : List Cond := u_ws RX5 TX5 5
theorem nmX5 : ∀ a, a < 5 → ∀ b, b < 5 → a ≠ b → (TX5 a).2.1 ≠ (TX5 b).2.1 := by decide +kernel
theorem tyX5_ok : ∀ k, k < 5 → parseFieldDescriptor (TX5 k).2.2.1 = some (tyX5 k) := by decide +kernel
abbrev cX5_init : ByteArray := prog_7_method_1_code
def yX5_init : MethodName := ⟨RX5, "<init>", "()V"⟩
abbrev cX5_reset : ByteArray := prog_7_method_2_code
def yX5_reset : MethodName := ⟨RX5, "reset", "(I)V"⟩
abbrev cX5_copyFrom : ByteArray := prog_7_method_3_code
def yX5_copyFrom : MethodName := ⟨RX5, "copyFrom", "(LShellWatch$Row;)V"⟩
abbrev cX5_hasPlace : ByteArray := prog_7_method_4_code
def yX5_hasPlace : MethodName := ⟨RX5, "hasPlace", "(I)Z"⟩
abbrev cX5_hasTwoPlaces : ByteArray := prog_7_method_5_code
def yX5_hasTwoPlaces : MethodName := ⟨RX5, "hasTwoPlaces", "(II)Z"⟩
abbrev cX5_isScratched : ByteArray := prog_7_method_6_code
def yX5_isScratched : MethodName := ⟨RX5, "isScratched", "(I)Z"⟩
abbrev cX5_setScratched : ByteArray := prog_7_method_7_code
def yX5_setScratched : MethodName := ⟨RX5, "setScratched", "(IZ)V"⟩
abbrev cX5_number : ByteArray := prog_7_method_8_code
def yX5_number : MethodName := ⟨RX5, "number", "(II)I"⟩
abbrev cX5_exchange : ByteArray := prog_7_method_9_code
def yX5_exchange : MethodName := ⟨RX5, "exchange", "(II)V"⟩
abbrev cX5_placeBehind : ByteArray := prog_7_method_10_code
def yX5_placeBehind : MethodName := ⟨RX5, "placeBehind", "(III)I"⟩
abbrev cX5_swapsToFirst : ByteArray := prog_7_method_11_code
def yX5_swapsToFirst : MethodName := ⟨RX5, "swapsToFirst", "()I"⟩
def RX6 : String := "ShellWatch$Script"
def TX6 : u_T := fun k => match k with
  | 0 => ("ShellWatch$Script", "words", "[LShellWatch$Token;", true)
  | 1 => ("ShellWatch$Script", "firsts", "[I", true)
  | 2 => ("ShellWatch$Script", "seconds", "[I", true)
  | 3 => ("ShellWatch$Script", "ends", "[I", true)
  | 4 => ("ShellWatch$Script", "size", "I", false)
  | _ => ("ShellWatch$Script", "done", "I", false)
def tyX6 : Nat → FieldType := fun k => match k with
  | 0 => .array (.object "ShellWatch$Token")
  | 1 => .array .int
  | 2 => .array .int
  | 3 => .array .int
  | 4 => .int
  | _ => .int
abbrev wsX60 : List Cond := u_ws RX6 TX6 6
theorem nmX6 : ∀ a, a < 6 → ∀ b, b < 6 → a ≠ b → (TX6 a).2.1 ≠ (TX6 b).2.1 := by decide +kernel
theorem tyX6_ok : ∀ k, k < 6 → parseFieldDescriptor (TX6 k).2.2.1 = some (tyX6 k) := by decide +kernel
abbrev cX6_init : ByteArray := prog_8_method_1_code
def yX6_init : MethodName := ⟨RX6, "<init>", "()V"⟩
abbrev cX6_clear : ByteArray := prog_8_method_2_code
def yX6_clear : MethodName := ⟨RX6, "clear", "()V"⟩
abbrev cX6_readCommands : ByteArray := prog_8_method_3_code
def yX6_readCommands : MethodName := ⟨RX6, "readCommands", "(LShellWatch$Input;I)Z"⟩
abbrev cX6_numbersOf : ByteArray := prog_8_method_4_code
def yX6_numbersOf : MethodName := ⟨RX6, "numbersOf", "(LShellWatch$Token;)I"⟩
abbrev cX6_readCommand : ByteArray := prog_8_method_5_code
def yX6_readCommand : MethodName := ⟨RX6, "readCommand", "(LShellWatch$Input;)Z"⟩
abbrev cX6_readRepeat : ByteArray := prog_8_method_6_code
def yX6_readRepeat : MethodName := ⟨RX6, "readRepeat", "(LShellWatch$Input;I)Z"⟩
abbrev cX6_put : ByteArray := prog_8_method_7_code
def yX6_put : MethodName := ⟨RX6, "put", "(LShellWatch$Token;II)V"⟩
abbrev cX6_performRange : ByteArray := prog_8_method_8_code
def yX6_performRange : MethodName := ⟨RX6, "performRange", "(LShellWatch$Game;III)Z"⟩
abbrev cX6_performRepeat : ByteArray := prog_8_method_9_code
def yX6_performRepeat : MethodName := ⟨RX6, "performRepeat", "(LShellWatch$Game;II)Z"⟩
abbrev cX6_performOne : ByteArray := prog_8_method_10_code
def yX6_performOne : MethodName := ⟨RX6, "performOne", "(LShellWatch$Game;I)Z"⟩
abbrev cX6_isAllowed : ByteArray := prog_8_method_11_code
def yX6_isAllowed : MethodName := ⟨RX6, "isAllowed", "(LShellWatch$Game;LShellWatch$Token;II)Z"⟩
def RX7 : String := "ShellWatch$SetupReader"
def TX7 : u_T := fun k => match k with
  | _ => ("", "", "", false)
def tyX7 : Nat → FieldType := fun k => match k with
  | _ => .int
abbrev wsX70 : List Cond := u_ws RX7 TX7 0
theorem nmX7 : ∀ a, a < 0 → ∀ b, b < 0 → a ≠ b → (TX7 a).2.1 ≠ (TX7 b).2.1 := by decide +kernel
theorem tyX7_ok : ∀ k, k < 0 → parseFieldDescriptor (TX7 k).2.2.1 = some (tyX7 k) := by decide +kernel
abbrev cX7_read : ByteArray := prog_9_method_2_code
def yX7_read : MethodName := ⟨RX7, "read", "(LShellWatch$Input;LShellWatch$Game;)Z"⟩
abbrev cX7_bitOfSingle : ByteArray := prog_9_method_3_code
def yX7_bitOfSingle : MethodName := ⟨RX7, "bitOfSingle", "(LShellWatch$Token;)I"⟩
abbrev cX7_readStatement : ByteArray := prog_9_method_4_code
def yX7_readStatement : MethodName := ⟨RX7, "readStatement", "(LShellWatch$Input;LShellWatch$Game;)Z"⟩
abbrev cX7_readScratches : ByteArray := prog_9_method_5_code
def yX7_readScratches : MethodName := ⟨RX7, "readScratches", "(LShellWatch$Input;LShellWatch$Row;)Z"⟩
abbrev cX7_readScratch : ByteArray := prog_9_method_6_code
def yX7_readScratch : MethodName := ⟨RX7, "readScratch", "(LShellWatch$Input;LShellWatch$Row;)Z"⟩
abbrev cX7_readBlink : ByteArray := prog_9_method_7_code
def yX7_readBlink : MethodName := ⟨RX7, "readBlink", "(LShellWatch$Input;LShellWatch$Blinks;)Z"⟩
abbrev cX7_readSetting : ByteArray := prog_9_method_8_code
def yX7_readSetting : MethodName := ⟨RX7, "readSetting", "(LShellWatch$Input;LShellWatch$Game;)Z"⟩
abbrev cX7_greatestOf : ByteArray := prog_9_method_9_code
def yX7_greatestOf : MethodName := ⟨RX7, "greatestOf", "(LShellWatch$Token;LShellWatch$Game;)I"⟩
abbrev cX7_set : ByteArray := prog_9_method_10_code
def yX7_set : MethodName := ⟨RX7, "set", "(LShellWatch$Game;LShellWatch$Token;I)V"⟩
def RX8 : String := "ShellWatch$Token"
def TX8 : u_T := fun k => match k with
  | _ => ("", "", "", false)
def tyX8 : Nat → FieldType := fun k => match k with
  | _ => .int
abbrev wsX80 : List Cond := u_ws RX8 TX8 0
theorem nmX8 : ∀ a, a < 0 → ∀ b, b < 0 → a ≠ b → (TX8 a).2.1 ≠ (TX8 b).2.1 := by decide +kernel
theorem tyX8_ok : ∀ k, k < 0 → parseFieldDescriptor (TX8 k).2.2.1 = some (tyX8 k) := by decide +kernel
def RX9 : String := "ShellWatch$Trick"
def TX9 : u_T := fun k => match k with
  | 0 => ("ShellWatch$Trick", "trial", "LShellWatch$Mind;", true)
  | 1 => ("ShellWatch$Trick", "isSwap", "Z", false)
  | 2 => ("ShellWatch$Trick", "a", "I", false)
  | 3 => ("ShellWatch$Trick", "b", "I", false)
  | 4 => ("ShellWatch$Trick", "belief", "I", false)
  | _ => ("ShellWatch$Trick", "sum", "I", false)
def tyX9 : Nat → FieldType := fun k => match k with
  | 0 => .object "ShellWatch$Mind"
  | 1 => .boolean
  | 2 => .int
  | 3 => .int
  | 4 => .int
  | _ => .int
abbrev wsX90 : List Cond := u_ws RX9 TX9 6
theorem nmX9 : ∀ a, a < 6 → ∀ b, b < 6 → a ≠ b → (TX9 a).2.1 ≠ (TX9 b).2.1 := by decide +kernel
theorem tyX9_ok : ∀ k, k < 6 → parseFieldDescriptor (TX9 k).2.2.1 = some (tyX9 k) := by decide +kernel
abbrev cX9_init : ByteArray := prog_11_method_1_code
def yX9_init : MethodName := ⟨RX9, "<init>", "()V"⟩
abbrev cX9_find : ByteArray := prog_11_method_2_code
def yX9_find : MethodName := ⟨RX9, "find", "(LShellWatch$Game;)V"⟩
abbrev cX9_tryAll : ByteArray := prog_11_method_3_code
def yX9_tryAll : MethodName := ⟨RX9, "tryAll", "(LShellWatch$Game;ZZ)V"⟩
abbrev cX9_takeIfLess : ByteArray := prog_11_method_4_code
def yX9_takeIfLess : MethodName := ⟨RX9, "takeIfLess", "(ZIII)V"⟩
abbrev cX9_number : ByteArray := prog_11_method_5_code
def yX9_number : MethodName := ⟨RX9, "number", "(I)I"⟩
def RX10 : String := "ShellWatch"
def TX10 : u_T := fun k => match k with
  | 0 => ("ShellWatch", "input", "LShellWatch$Input;", true)
  | 1 => ("ShellWatch", "script", "LShellWatch$Script;", true)
  | 2 => ("ShellWatch", "trick", "LShellWatch$Trick;", true)
  | 3 => ("ShellWatch", "draft", "LShellWatch$Game;", true)
  | 4 => ("ShellWatch", "games", "[LShellWatch$Game;", true)
  | 5 => ("ShellWatch", "present", "I", false)
  | _ => ("ShellWatch", "undoable", "I", false)
def tyX10 : Nat → FieldType := fun k => match k with
  | 0 => .object "ShellWatch$Input"
  | 1 => .object "ShellWatch$Script"
  | 2 => .object "ShellWatch$Trick"
  | 3 => .object "ShellWatch$Game"
  | 4 => .array (.object "ShellWatch$Game")
  | 5 => .int
  | _ => .int
abbrev wsX100 : List Cond := u_ws RX10 TX10 7
theorem nmX10 : ∀ a, a < 7 → ∀ b, b < 7 → a ≠ b → (TX10 a).2.1 ≠ (TX10 b).2.1 := by decide +kernel
theorem tyX10_ok : ∀ k, k < 7 → parseFieldDescriptor (TX10 k).2.2.1 = some (tyX10 k) := by decide +kernel
abbrev cX10_init : ByteArray := prog_1_method_1_code
def yX10_init : MethodName := ⟨RX10, "<init>", "()V"⟩
abbrev cX10_append : ByteArray := prog_1_method_2_code
def yX10_append : MethodName := ⟨RX10, "append", "(IIIII)I"⟩
abbrev cX10_load : ByteArray := prog_1_method_3_code
def yX10_load : MethodName := ⟨RX10, "load", "(I)I"⟩
abbrev cX10_run : ByteArray := prog_1_method_4_code
def yX10_run : MethodName := ⟨RX10, "run", "(I)I"⟩
abbrev cX10_errorOffset : ByteArray := prog_1_method_5_code
def yX10_errorOffset : MethodName := ⟨RX10, "errorOffset", "()I"⟩
abbrev cX10_state : ByteArray := prog_1_method_6_code
def yX10_state : MethodName := ⟨RX10, "state", "(I)I"⟩
abbrev cX10_shell : ByteArray := prog_1_method_7_code
def yX10_shell : MethodName := ⟨RX10, "shell", "(II)I"⟩
abbrev cX10_belief : ByteArray := prog_1_method_8_code
def yX10_belief : MethodName := ⟨RX10, "belief", "(I)I"⟩
abbrev cX10_chance : ByteArray := prog_1_method_9_code
def yX10_chance : MethodName := ⟨RX10, "chance", "(I)D"⟩
abbrev cX10_doubt : ByteArray := prog_1_method_10_code
def yX10_doubt : MethodName := ⟨RX10, "doubt", "()F"⟩
abbrev cX10_guess : ByteArray := prog_1_method_11_code
def yX10_guess : MethodName := ⟨RX10, "guess", "()I"⟩
abbrev cX10_blinks : ByteArray := prog_1_method_12_code
def yX10_blinks : MethodName := ⟨RX10, "blinks", "(I)Z"⟩
abbrev cX10_odds : ByteArray := prog_1_method_13_code
def yX10_odds : MethodName := ⟨RX10, "odds", "(I)I"⟩
abbrev cX10_fewest : ByteArray := prog_1_method_14_code
def yX10_fewest : MethodName := ⟨RX10, "fewest", "()I"⟩
abbrev cX10_rows : ByteArray := prog_1_method_15_code
def yX10_rows : MethodName := ⟨RX10, "rows", "(I)I"⟩
abbrev cX10_fool : ByteArray := prog_1_method_16_code
def yX10_fool : MethodName := ⟨RX10, "fool", "(I)I"⟩
abbrev cX10_caught : ByteArray := prog_1_method_17_code
def yX10_caught : MethodName := ⟨RX10, "caught", "(I)I"⟩
abbrev cX10_swap : ByteArray := prog_1_method_18_code
def yX10_swap : MethodName := ⟨RX10, "swap", "(II)Z"⟩
abbrev cX10_feint : ByteArray := prog_1_method_19_code
def yX10_feint : MethodName := ⟨RX10, "feint", "(II)Z"⟩
abbrev cX10_rest : ByteArray := prog_1_method_20_code
def yX10_rest : MethodName := ⟨RX10, "rest", "()Z"⟩
abbrev cX10_steal : ByteArray := prog_1_method_21_code
def yX10_steal : MethodName := ⟨RX10, "steal", "(I)I"⟩
abbrev cX10_plant : ByteArray := prog_1_method_22_code
def yX10_plant : MethodName := ⟨RX10, "plant", "(I)I"⟩
abbrev cX10_peek : ByteArray := prog_1_method_23_code
def yX10_peek : MethodName := ⟨RX10, "peek", "(I)Z"⟩
abbrev cX10_bet : ByteArray := prog_1_method_24_code
def yX10_bet : MethodName := ⟨RX10, "bet", "(II)I"⟩
abbrev cX10_scratch : ByteArray := prog_1_method_25_code
def yX10_scratch : MethodName := ⟨RX10, "scratch", "(IZ)Z"⟩
abbrev cX10_blink : ByteArray := prog_1_method_26_code
def yX10_blink : MethodName := ⟨RX10, "blink", "(II)I"⟩
abbrev cX10_suspect : ByteArray := prog_1_method_27_code
def yX10_suspect : MethodName := ⟨RX10, "suspect", "(I)I"⟩
abbrev cX10_undo : ByteArray := prog_1_method_28_code
def yX10_undo : MethodName := ⟨RX10, "undo", "()I"⟩
abbrev cX10_checksum : ByteArray := prog_1_method_29_code
def yX10_checksum : MethodName := ⟨RX10, "checksum", "()J"⟩
abbrev cX10_game : ByteArray := prog_1_method_30_code
def yX10_game : MethodName := ⟨RX10, "game", "()LShellWatch$Game;"⟩
abbrev cX10_change : ByteArray := prog_1_method_31_code
def yX10_change : MethodName := ⟨RX10, "change", "()LShellWatch$Game;"⟩
abbrev cX10_moveBall : ByteArray := prog_1_method_32_code
def yX10_moveBall : MethodName := ⟨RX10, "moveBall", "(I)I"⟩
abbrev cX10_requireLength : ByteArray := prog_1_method_33_code
def yX10_requireLength : MethodName := ⟨RX10, "requireLength", "(I)V"⟩
abbrev cX10_requirePlace : ByteArray := prog_1_method_34_code
def yX10_requirePlace : MethodName := ⟨RX10, "requirePlace", "(I)V"⟩
abbrev cX10_requireTwoPlaces : ByteArray := prog_1_method_35_code
def yX10_requireTwoPlaces : MethodName := ⟨RX10, "requireTwoPlaces", "(II)V"⟩
abbrev cX10_requirePlaceOrHand : ByteArray := prog_1_method_36_code
def yX10_requirePlaceOrHand : MethodName := ⟨RX10, "requirePlaceOrHand", "(I)V"⟩
abbrev cX10_requireWhat : ByteArray := prog_1_method_37_code
def yX10_requireWhat : MethodName := ⟨RX10, "requireWhat", "(II)V"⟩
abbrev cX10_countRows : ByteArray := prog_1_method_38_code
def yX10_countRows : MethodName := ⟨RX10, "countRows", "(II)I"⟩
def RX11 : String := "ShellWatchModel"
def TX11 : u_T := fun k => match k with
  | 0 => ("ShellWatchModel", "thrown", "I", false)
  | 1 => ("ShellWatchModel", "rows", "[I", true)
  | 2 => ("ShellWatchModel", "read", "[I", true)
  | 3 => ("ShellWatchModel", "now", "I", false)
  | 4 => ("ShellWatchModel", "undoable", "I", false)
  | 5 => ("ShellWatchModel", "then", "[J", true)
  | 6 => ("ShellWatchModel", "pile", "[J", true)
  | 7 => ("ShellWatchModel", "text", "[I", true)
  | 8 => ("ShellWatchModel", "fed", "I", false)
  | 9 => ("ShellWatchModel", "length", "I", false)
  | 10 => ("ShellWatchModel", "at", "I", false)
  | 11 => ("ShellWatchModel", "fault", "I", false)
  | 12 => ("ShellWatchModel", "faultAt", "I", false)
  | 13 => ("ShellWatchModel", "number", "I", false)
  | 14 => ("ShellWatchModel", "from", "I", false)
  | 15 => ("ShellWatchModel", "nested", "I", false)
  | 16 => ("ShellWatchModel", "told", "I", false)
  | 17 => ("ShellWatchModel", "what", "[I", true)
  | 18 => ("ShellWatchModel", "first", "[I", true)
  | 19 => ("ShellWatchModel", "second", "[I", true)
  | 20 => ("ShellWatchModel", "end", "[I", true)
  | 21 => ("ShellWatchModel", "commands", "I", false)
  | 22 => ("ShellWatchModel", "open", "I", false)
  | 23 => ("ShellWatchModel", "done", "I", false)
  | 24 => ("ShellWatchModel", "isOver", "Z", false)
  | 25 => ("ShellWatchModel", "need", "[I", true)
  | 26 => ("ShellWatchModel", "foolKind", "I", false)
  | 27 => ("ShellWatchModel", "foolA", "I", false)
  | 28 => ("ShellWatchModel", "foolB", "I", false)
  | 29 => ("ShellWatchModel", "foolBelief", "J", false)
  | _ => ("ShellWatchModel", "foolSum", "J", false)
def tyX11 : Nat → FieldType := fun k => match k with
  | 0 => .int
  | 1 => .array .int
  | 2 => .array .int
  | 3 => .int
  | 4 => .int
  | 5 => .array .long
  | 6 => .array .long
  | 7 => .array .int
  | 8 => .int
  | 9 => .int
  | 10 => .int
  | 11 => .int
  | 12 => .int
  | 13 => .int
  | 14 => .int
  | 15 => .int
  | 16 => .int
  | 17 => .array .int
  | 18 => .array .int
  | 19 => .array .int
  | 20 => .array .int
  | 21 => .int
  | 22 => .int
  | 23 => .int
  | 24 => .boolean
  | 25 => .array .int
  | 26 => .int
  | 27 => .int
  | 28 => .int
  | 29 => .long
  | _ => .long
abbrev wsX110 : List Cond := u_ws RX11 TX11 31
theorem nmX11 : ∀ a, a < 31 → ∀ b, b < 31 → a ≠ b → (TX11 a).2.1 ≠ (TX11 b).2.1 := by decide +kernel
theorem tyX11_ok : ∀ k, k < 31 → parseFieldDescriptor (TX11 k).2.2.1 = some (tyX11 k) := by decide +kernel
abbrev cX11_init : ByteArray := prog_13_method_1_code
def yX11_init : MethodName := ⟨RX11, "<init>", "()V"⟩
abbrev cX11_thrown : ByteArray := prog_13_method_2_code
def yX11_thrown : MethodName := ⟨RX11, "thrown", "()I"⟩
abbrev cX11_isIn : ByteArray := prog_13_method_3_code
def yX11_isIn : MethodName := ⟨RX11, "isIn", "(III)Z"⟩
abbrev cX11_get : ByteArray := prog_13_method_4_code
def yX11_get : MethodName := ⟨RX11, "get", "(I)I"⟩
abbrev cX11_put : ByteArray := prog_13_method_5_code
def yX11_put : MethodName := ⟨RX11, "put", "(II)V"⟩
abbrev cX11_change : ByteArray := prog_13_method_6_code
def yX11_change : MethodName := ⟨RX11, "change", "()V"⟩
abbrev cX11_right : ByteArray := prog_13_method_7_code
def yX11_right : MethodName := ⟨RX11, "right", "(ZI)Z"⟩
abbrev cX11_begins : ByteArray := prog_13_method_8_code
def yX11_begins : MethodName := ⟨RX11, "begins", "(I)V"⟩
abbrev cX11_shells : ByteArray := prog_13_method_9_code
def yX11_shells : MethodName := ⟨RX11, "shells", "()I"⟩
abbrev cX11_blinksAt : ByteArray := prog_13_method_10_code
def yX11_blinksAt : MethodName := ⟨RX11, "blinksAt", "(I)Z"⟩
abbrev cX11_blinksNow : ByteArray := prog_13_method_11_code
def yX11_blinksNow : MethodName := ⟨RX11, "blinksNow", "()Z"⟩
abbrev cX11_rough : ByteArray := prog_13_method_12_code
def yX11_rough : MethodName := ⟨RX11, "rough", "()I"⟩
abbrev cX11_exchanged : ByteArray := prog_13_method_13_code
def yX11_exchanged : MethodName := ⟨RX11, "exchanged", "(III)I"⟩
abbrev cX11_had : ByteArray := prog_13_method_14_code
def yX11_had : MethodName := ⟨RX11, "had", "(I)J"⟩
abbrev cX11_stays : ByteArray := prog_13_method_15_code
def yX11_stays : MethodName := ⟨RX11, "stays", "(J)V"⟩
abbrev cX11_seen : ByteArray := prog_13_method_16_code
def yX11_seen : MethodName := ⟨RX11, "seen", "(III)V"⟩
abbrev cX11_unseen : ByteArray := prog_13_method_17_code
def yX11_unseen : MethodName := ⟨RX11, "unseen", "(III)V"⟩
abbrev cX11_common : ByteArray := prog_13_method_18_code
def yX11_common : MethodName := ⟨RX11, "common", "(JJ)J"⟩
abbrev cX11_reduces : ByteArray := prog_13_method_19_code
def yX11_reduces : MethodName := ⟨RX11, "reduces", "()V"⟩
abbrev cX11_thinks : ByteArray := prog_13_method_20_code
def yX11_thinks : MethodName := ⟨RX11, "thinks", "(III)V"⟩
abbrev cX11_believes : ByteArray := prog_13_method_21_code
def yX11_believes : MethodName := ⟨RX11, "believes", "()V"⟩
abbrev cX11_sum : ByteArray := prog_13_method_22_code
def yX11_sum : MethodName := ⟨RX11, "sum", "()J"⟩
abbrev cX11_ballBehind : ByteArray := prog_13_method_23_code
def yX11_ballBehind : MethodName := ⟨RX11, "ballBehind", "(III)I"⟩
abbrev cX11_steps : ByteArray := prog_13_method_24_code
def yX11_steps : MethodName := ⟨RX11, "steps", "(III)Z"⟩
abbrev cX11_looks : ByteArray := prog_13_method_25_code
def yX11_looks : MethodName := ⟨RX11, "looks", "(I)Z"⟩
abbrev cX11_canSteal : ByteArray := prog_13_method_26_code
def yX11_canSteal : MethodName := ⟨RX11, "canSteal", "(I)Z"⟩
abbrev cX11_canPlant : ByteArray := prog_13_method_27_code
def yX11_canPlant : MethodName := ⟨RX11, "canPlant", "()Z"⟩
abbrev cX11_factOf : ByteArray := prog_13_method_28_code
def yX11_factOf : MethodName := ⟨RX11, "factOf", "(II)J"⟩
abbrev cX11_oddsOf : ByteArray := prog_13_method_29_code
def yX11_oddsOf : MethodName := ⟨RX11, "oddsOf", "(I)I"⟩
abbrev cX11_append : ByteArray := prog_13_method_30_code
def yX11_append : MethodName := ⟨RX11, "append", "(IIIII)I"⟩
abbrev cX11_four : ByteArray := prog_13_method_31_code
def yX11_four : MethodName := ⟨RX11, "four", "(I)V"⟩
abbrev cX11_errorOffset : ByteArray := prog_13_method_32_code
def yX11_errorOffset : MethodName := ⟨RX11, "errorOffset", "()I"⟩
abbrev cX11_fails : ByteArray := prog_13_method_33_code
def yX11_fails : MethodName := ⟨RX11, "fails", "(II)Z"⟩
abbrev cX11_here : ByteArray := prog_13_method_34_code
def yX11_here : MethodName := ⟨RX11, "here", "()I"⟩
abbrev cX11_isLetter : ByteArray := prog_13_method_35_code
def yX11_isLetter : MethodName := ⟨RX11, "isLetter", "(I)Z"⟩
abbrev cX11_isDigit : ByteArray := prog_13_method_36_code
def yX11_isDigit : MethodName := ⟨RX11, "isDigit", "(I)Z"⟩
abbrev cX11_takes : ByteArray := prog_13_method_37_code
def yX11_takes : MethodName := ⟨RX11, "takes", "(Ljava/lang/String;)Z"⟩
abbrev cX11_sign : ByteArray := prog_13_method_38_code
def yX11_sign : MethodName := ⟨RX11, "sign", "(I)Z"⟩
abbrev cX11_reads : ByteArray := prog_13_method_39_code
def yX11_reads : MethodName := ⟨RX11, "reads", "(II)Z"⟩
abbrev cX11_emits : ByteArray := prog_13_method_40_code
def yX11_emits : MethodName := ⟨RX11, "emits", "(II)V"⟩
abbrev cX11_readsFactor : ByteArray := prog_13_method_41_code
def yX11_readsFactor : MethodName := ⟨RX11, "readsFactor", "()Z"⟩
abbrev cX11_readsTerm : ByteArray := prog_13_method_42_code
def yX11_readsTerm : MethodName := ⟨RX11, "readsTerm", "()Z"⟩
abbrev cX11_readsSum : ByteArray := prog_13_method_43_code
def yX11_readsSum : MethodName := ⟨RX11, "readsSum", "()Z"⟩
abbrev cX11_once : ByteArray := prog_13_method_44_code
def yX11_once : MethodName := ⟨RX11, "once", "(II)Z"⟩
abbrev cX11_readsScratch : ByteArray := prog_13_method_45_code
def yX11_readsScratch : MethodName := ⟨RX11, "readsScratch", "()Z"⟩
abbrev cX11_readsBlink : ByteArray := prog_13_method_46_code
def yX11_readsBlink : MethodName := ⟨RX11, "readsBlink", "(I)Z"⟩
abbrev cX11_readsOne : ByteArray := prog_13_method_47_code
def yX11_readsOne : MethodName := ⟨RX11, "readsOne", "(III)Z"⟩
abbrev cX11_readsStatement : ByteArray := prog_13_method_48_code
def yX11_readsStatement : MethodName := ⟨RX11, "readsStatement", "()Z"⟩
abbrev cX11_readsSetup : ByteArray := prog_13_method_49_code
def yX11_readsSetup : MethodName := ⟨RX11, "readsSetup", "()Z"⟩
abbrev cX11_starts : ByteArray := prog_13_method_50_code
def yX11_starts : MethodName := ⟨RX11, "starts", "(I)Z"⟩
abbrev cX11_load : ByteArray := prog_13_method_51_code
def yX11_load : MethodName := ⟨RX11, "load", "(I)I"⟩
abbrev cX11_kindHere : ByteArray := prog_13_method_52_code
def yX11_kindHere : MethodName := ⟨RX11, "kindHere", "()I"⟩
abbrev cX11_readsRepeat : ByteArray := prog_13_method_53_code
def yX11_readsRepeat : MethodName := ⟨RX11, "readsRepeat", "(I)Z"⟩
abbrev cX11_readsCommand : ByteArray := prog_13_method_54_code
def yX11_readsCommand : MethodName := ⟨RX11, "readsCommand", "()Z"⟩
abbrev cX11_readsScript : ByteArray := prog_13_method_55_code
def yX11_readsScript : MethodName := ⟨RX11, "readsScript", "()Z"⟩
abbrev cX11_isPlace : ByteArray := prog_13_method_56_code
def yX11_isPlace : MethodName := ⟨RX11, "isPlace", "(I)Z"⟩
abbrev cX11_does : ByteArray := prog_13_method_57_code
def yX11_does : MethodName := ⟨RX11, "does", "(I)Z"⟩
abbrev cX11_runs : ByteArray := prog_13_method_58_code
def yX11_runs : MethodName := ⟨RX11, "runs", "(II)V"⟩
abbrev cX11_run : ByteArray := prog_13_method_59_code
def yX11_run : MethodName := ⟨RX11, "run", "(I)I"⟩
abbrev cX11_believed : ByteArray := prog_13_method_60_code
def yX11_believed : MethodName := ⟨RX11, "believed", "()I"⟩
abbrev cX11_toldOf : ByteArray := prog_13_method_61_code
def yX11_toldOf : MethodName := ⟨RX11, "toldOf", "(I)I"⟩
abbrev cX11_toldOfShell : ByteArray := prog_13_method_62_code
def yX11_toldOfShell : MethodName := ⟨RX11, "toldOfShell", "(II)I"⟩
abbrev cX11_state : ByteArray := prog_13_method_63_code
def yX11_state : MethodName := ⟨RX11, "state", "(I)I"⟩
abbrev cX11_shell : ByteArray := prog_13_method_64_code
def yX11_shell : MethodName := ⟨RX11, "shell", "(II)I"⟩
abbrev cX11_belief : ByteArray := prog_13_method_65_code
def yX11_belief : MethodName := ⟨RX11, "belief", "(I)I"⟩
abbrev cX11_chance : ByteArray := prog_13_method_66_code
def yX11_chance : MethodName := ⟨RX11, "chance", "(I)D"⟩
abbrev cX11_doubt : ByteArray := prog_13_method_67_code
def yX11_doubt : MethodName := ⟨RX11, "doubt", "()F"⟩
abbrev cX11_guessed : ByteArray := prog_13_method_68_code
def yX11_guessed : MethodName := ⟨RX11, "guessed", "()I"⟩
abbrev cX11_guess : ByteArray := prog_13_method_69_code
def yX11_guess : MethodName := ⟨RX11, "guess", "()I"⟩
abbrev cX11_blinks : ByteArray := prog_13_method_70_code
def yX11_blinks : MethodName := ⟨RX11, "blinks", "(I)Z"⟩
abbrev cX11_odds : ByteArray := prog_13_method_71_code
def yX11_odds : MethodName := ⟨RX11, "odds", "(I)I"⟩
abbrev cX11_fewest : ByteArray := prog_13_method_72_code
def yX11_fewest : MethodName := ⟨RX11, "fewest", "()I"⟩
abbrev cX11_rows : ByteArray := prog_13_method_73_code
def yX11_rows : MethodName := ⟨RX11, "rows", "(I)I"⟩
abbrev cX11_fools : ByteArray := prog_13_method_74_code
def yX11_fools : MethodName := ⟨RX11, "fools", "()V"⟩
abbrev cX11_tries : ByteArray := prog_13_method_75_code
def yX11_tries : MethodName := ⟨RX11, "tries", "(III)V"⟩
abbrev cX11_fool : ByteArray := prog_13_method_76_code
def yX11_fool : MethodName := ⟨RX11, "fool", "(I)I"⟩
abbrev cX11_caught : ByteArray := prog_13_method_77_code
def yX11_caught : MethodName := ⟨RX11, "caught", "(I)I"⟩
abbrev cX11_areTwo : ByteArray := prog_13_method_78_code
def yX11_areTwo : MethodName := ⟨RX11, "areTwo", "(II)Z"⟩
abbrev cX11_swap : ByteArray := prog_13_method_79_code
def yX11_swap : MethodName := ⟨RX11, "swap", "(II)Z"⟩
abbrev cX11_feint : ByteArray := prog_13_method_80_code
def yX11_feint : MethodName := ⟨RX11, "feint", "(II)Z"⟩
abbrev cX11_rest : ByteArray := prog_13_method_81_code
def yX11_rest : MethodName := ⟨RX11, "rest", "()Z"⟩
abbrev cX11_steal : ByteArray := prog_13_method_82_code
def yX11_steal : MethodName := ⟨RX11, "steal", "(I)I"⟩
abbrev cX11_plant : ByteArray := prog_13_method_83_code
def yX11_plant : MethodName := ⟨RX11, "plant", "(I)I"⟩
abbrev cX11_peek : ByteArray := prog_13_method_84_code
def yX11_peek : MethodName := ⟨RX11, "peek", "(I)Z"⟩
abbrev cX11_bet : ByteArray := prog_13_method_85_code
def yX11_bet : MethodName := ⟨RX11, "bet", "(II)I"⟩
abbrev cX11_scratch : ByteArray := prog_13_method_86_code
def yX11_scratch : MethodName := ⟨RX11, "scratch", "(IZ)Z"⟩
abbrev cX11_blink : ByteArray := prog_13_method_87_code
def yX11_blink : MethodName := ⟨RX11, "blink", "(II)I"⟩
abbrev cX11_suspect : ByteArray := prog_13_method_88_code
def yX11_suspect : MethodName := ⟨RX11, "suspect", "(I)I"⟩
abbrev cX11_undo : ByteArray := prog_13_method_89_code
def yX11_undo : MethodName := ⟨RX11, "undo", "()I"⟩
abbrev cX11_joins : ByteArray := prog_13_method_90_code
def yX11_joins : MethodName := ⟨RX11, "joins", "(JJ)J"⟩
abbrev cX11_checksum : ByteArray := prog_13_method_91_code
def yX11_checksum : MethodName := ⟨RX11, "checksum", "()J"⟩
def RJx145de : String := "java/io/Serializable"
def TJx145de : u_T := fun k => match k with
  | _ => ("", "", "", false)
def tyJx145de : Nat → FieldType := fun k => match k with
  | _ => .int
abbrev wsJx145de0 : List Cond := u_ws RJx145de TJx145de 0
theorem nmJx145de : ∀ a, a < 0 → ∀ b, b < 0 → a ≠ b → (TJx145de a).2.1 ≠ (TJx145de b).2.1 := by decide +kernel
theorem tyJx145de_ok : ∀ k, k < 0 → parseFieldDescriptor (TJx145de k).2.2.1 = some (tyJx145de k) := by decide +kernel
def RJx9f9b0 : String := "java/lang/CharSequence"
def TJx9f9b0 : u_T := fun k => match k with
  | _ => ("", "", "", false)
def tyJx9f9b0 : Nat → FieldType := fun k => match k with
  | _ => .int
abbrev wsJx9f9b00 : List Cond := u_ws RJx9f9b0 TJx9f9b0 0
theorem nmJx9f9b0 : ∀ a, a < 0 → ∀ b, b < 0 → a ≠ b → (TJx9f9b0 a).2.1 ≠ (TJx9f9b0 b).2.1 := by decide +kernel
theorem tyJx9f9b0_ok : ∀ k, k < 0 → parseFieldDescriptor (TJx9f9b0 k).2.2.1 = some (tyJx9f9b0 k) := by decide +kernel
def RJxb160c : String := "java/lang/Comparable"
def TJxb160c : u_T := fun k => match k with
  | _ => ("", "", "", false)
def tyJxb160c : Nat → FieldType := fun k => match k with
  | _ => .int
abbrev wsJxb160c0 : List Cond := u_ws RJxb160c TJxb160c 0
theorem nmJxb160c : ∀ a, a < 0 → ∀ b, b < 0 → a ≠ b → (TJxb160c a).2.1 ≠ (TJxb160c b).2.1 := by decide +kernel
theorem tyJxb160c_ok : ∀ k, k < 0 → parseFieldDescriptor (TJxb160c k).2.2.1 = some (tyJxb160c k) := by decide +kernel
def RJx29ce0 : String := "java/lang/Enum"
def TJx29ce0 : u_T := fun k => match k with
  | _ => ("", "", "", false)
def tyJx29ce0 : Nat → FieldType := fun k => match k with
  | _ => .int
abbrev wsJx29ce00 : List Cond := u_ws RJx29ce0 TJx29ce0 0
theorem nmJx29ce0 : ∀ a, a < 0 → ∀ b, b < 0 → a ≠ b → (TJx29ce0 a).2.1 ≠ (TJx29ce0 b).2.1 := by decide +kernel
theorem tyJx29ce0_ok : ∀ k, k < 0 → parseFieldDescriptor (TJx29ce0 k).2.2.1 = some (tyJx29ce0 k) := by decide +kernel
def RJ9 : String := "java/lang/Math"
def TJ9 : u_T := fun k => match k with
  | _ => ("", "", "", false)
def tyJ9 : Nat → FieldType := fun k => match k with
  | _ => .int
abbrev wsJ90 : List Cond := u_ws RJ9 TJ9 0
theorem nmJ9 : ∀ a, a < 0 → ∀ b, b < 0 → a ≠ b → (TJ9 a).2.1 ≠ (TJ9 b).2.1 := by decide +kernel
theorem tyJ9_ok : ∀ k, k < 0 → parseFieldDescriptor (TJ9 k).2.2.1 = some (tyJ9 k) := by decide +kernel
abbrev cJ9_max_7cf53 : ByteArray := prog_22_method_65_code
def yJ9_max_7cf53 : MethodName := ⟨RJ9, "max", "(II)I"⟩
abbrev cJ9_max_f86c9 : ByteArray := prog_22_method_66_code
def yJ9_max_f86c9 : MethodName := ⟨RJ9, "max", "(JJ)J"⟩
abbrev cJ9_min_7cf53 : ByteArray := prog_22_method_69_code
def yJ9_min_7cf53 : MethodName := ⟨RJ9, "min", "(II)I"⟩
abbrev cJ9_min_f86c9 : ByteArray := prog_22_method_70_code
def yJ9_min_f86c9 : MethodName := ⟨RJ9, "min", "(JJ)J"⟩
def RJ0 : String := "java/lang/String"
def TJ0 : u_T := fun k => match k with
  | _ => ("", "", "", false)
def tyJ0 : Nat → FieldType := fun k => match k with
  | _ => .int
abbrev wsJ00 : List Cond := u_ws RJ0 TJ0 0
theorem nmJ0 : ∀ a, a < 0 → ∀ b, b < 0 → a ≠ b → (TJ0 a).2.1 ≠ (TJ0 b).2.1 := by decide +kernel
theorem tyJ0_ok : ∀ k, k < 0 → parseFieldDescriptor (TJ0 k).2.2.1 = some (tyJ0 k) := by decide +kernel
abbrev cJ0_length_8abf5 : ByteArray := prog_24_method_54_code
def yJ0_length_8abf5 : MethodName := ⟨RJ0, "length", "()I"⟩
abbrev cJ0_charAt_5068e : ByteArray := prog_24_method_56_code
def yJ0_charAt_5068e : MethodName := ⟨RJ0, "charAt", "(I)C"⟩
abbrev cJ0_coder_7d493 : ByteArray := prog_24_method_152_code
def yJ0_coder_7d493 : MethodName := ⟨RJ0, "coder", "()B"⟩
abbrev cJ0_isLatin1_aae02 : ByteArray := prog_24_method_154_code
def yJ0_isLatin1_aae02 : MethodName := ⟨RJ0, "isLatin1", "()Z"⟩
abbrev cJ0_checkIndex_df160 : ByteArray := prog_24_method_155_code
def yJ0_checkIndex_df160 : MethodName := ⟨RJ0, "checkIndex", "(II)V"⟩
def RJ1 : String := "java/lang/StringLatin1"
def TJ1 : u_T := fun k => match k with
  | _ => ("", "", "", false)
def tyJ1 : Nat → FieldType := fun k => match k with
  | _ => .int
abbrev wsJ10 : List Cond := u_ws RJ1 TJ1 0
theorem nmJ1 : ∀ a, a < 0 → ∀ b, b < 0 → a ≠ b → (TJ1 a).2.1 ≠ (TJ1 b).2.1 := by decide +kernel
theorem tyJ1_ok : ∀ k, k < 0 → parseFieldDescriptor (TJ1 k).2.2.1 = some (tyJ1 k) := by decide +kernel
abbrev cJ1_charAt_3b067 : ByteArray := prog_25_method_2_code
def yJ1_charAt_3b067 : MethodName := ⟨RJ1, "charAt", "([BI)C"⟩
def RJ2 : String := "java/lang/StringUTF16"
def TJ2 : u_T := fun k => match k with
  | _ => ("", "", "", false)
def tyJ2 : Nat → FieldType := fun k => match k with
  | _ => .int
abbrev wsJ20 : List Cond := u_ws RJ2 TJ2 0
theorem nmJ2 : ∀ a, a < 0 → ∀ b, b < 0 → a ≠ b → (TJ2 a).2.1 ≠ (TJ2 b).2.1 := by decide +kernel
theorem tyJ2_ok : ∀ k, k < 0 → parseFieldDescriptor (TJ2 k).2.2.1 = some (tyJ2 k) := by decide +kernel
abbrev cJ2_getChar_3b067 : ByteArray := prog_26_method_5_code
def yJ2_getChar_3b067 : MethodName := ⟨RJ2, "getChar", "([BI)C"⟩
abbrev cJ2_length_9d52b : ByteArray := prog_26_method_6_code
def yJ2_length_9d52b : MethodName := ⟨RJ2, "length", "([B)I"⟩
abbrev cJ2_charAt_3b067 : ByteArray := prog_26_method_83_code
def yJ2_charAt_3b067 : MethodName := ⟨RJ2, "charAt", "([BI)C"⟩
abbrev cJ2_checkIndex_2214a : ByteArray := prog_26_method_91_code
def yJ2_checkIndex_2214a : MethodName := ⟨RJ2, "checkIndex", "(I[B)V"⟩
def RJ10 : String := "java/lang/System"
def TJ10 : u_T := fun k => match k with
  | _ => ("", "", "", false)
def tyJ10 : Nat → FieldType := fun k => match k with
  | _ => .int
abbrev wsJ100 : List Cond := u_ws RJ10 TJ10 0
theorem nmJ10 : ∀ a, a < 0 → ∀ b, b < 0 → a ≠ b → (TJ10 a).2.1 ≠ (TJ10 b).2.1 := by decide +kernel
theorem tyJ10_ok : ∀ k, k < 0 → parseFieldDescriptor (TJ10 k).2.2.1 = some (tyJ10 k) := by decide +kernel
def RJxfd54e : String := "java/lang/constant/Constable"
def TJxfd54e : u_T := fun k => match k with
  | _ => ("", "", "", false)
def tyJxfd54e : Nat → FieldType := fun k => match k with
  | _ => .int
abbrev wsJxfd54e0 : List Cond := u_ws RJxfd54e TJxfd54e 0
theorem nmJxfd54e : ∀ a, a < 0 → ∀ b, b < 0 → a ≠ b → (TJxfd54e a).2.1 ≠ (TJxfd54e b).2.1 := by decide +kernel
theorem tyJxfd54e_ok : ∀ k, k < 0 → parseFieldDescriptor (TJxfd54e k).2.2.1 = some (tyJxfd54e k) := by decide +kernel
def RJx3cf43 : String := "java/lang/constant/ConstantDesc"
def TJx3cf43 : u_T := fun k => match k with
  | _ => ("", "", "", false)
def tyJx3cf43 : Nat → FieldType := fun k => match k with
  | _ => .int
abbrev wsJx3cf430 : List Cond := u_ws RJx3cf43 TJx3cf43 0
theorem nmJx3cf43 : ∀ a, a < 0 → ∀ b, b < 0 → a ≠ b → (TJx3cf43 a).2.1 ≠ (TJx3cf43 b).2.1 := by decide +kernel
theorem tyJx3cf43_ok : ∀ k, k < 0 → parseFieldDescriptor (TJx3cf43 k).2.2.1 = some (tyJx3cf43 k) := by decide +kernel
def RJ7 : String := "java/util/Arrays"
def TJ7 : u_T := fun k => match k with
  | _ => ("", "", "", false)
def tyJ7 : Nat → FieldType := fun k => match k with
  | _ => .int
abbrev wsJ70 : List Cond := u_ws RJ7 TJ7 0
theorem nmJ7 : ∀ a, a < 0 → ∀ b, b < 0 → a ≠ b → (TJ7 a).2.1 ≠ (TJ7 b).2.1 := by decide +kernel
theorem tyJ7_ok : ∀ k, k < 0 → parseFieldDescriptor (TJ7 k).2.2.1 = some (tyJ7 k) := by decide +kernel
abbrev cJ7_fill_53178 : ByteArray := prog_31_method_103_code
def yJ7_fill_53178 : MethodName := ⟨RJ7, "fill", "([II)V"⟩
def RJ3 : String := "jdk/internal/util/Preconditions"
def TJ3 : u_T := fun k => match k with
  | _ => ("", "", "", false)
def tyJ3 : Nat → FieldType := fun k => match k with
  | _ => .int
abbrev wsJ30 : List Cond := u_ws RJ3 TJ3 0
theorem nmJ3 : ∀ a, a < 0 → ∀ b, b < 0 → a ≠ b → (TJ3 a).2.1 ≠ (TJ3 b).2.1 := by decide +kernel
theorem tyJ3_ok : ∀ k, k < 0 → parseFieldDescriptor (TJ3 k).2.2.1 = some (tyJ3 k) := by decide +kernel
abbrev cJ3_checkIndex_8e157 : ByteArray := prog_33_method_11_code
def yJ3_checkIndex_8e157 : MethodName := ⟨RJ3, "checkIndex", "(IILjava/util/function/BiFunction;)I"⟩
def RL : String := "ShellWatchLaw"
abbrev cL_load : ByteArray := method_3_code
def yL_load : MethodName := ⟨RL, "load", "(LShellWatch;I[J)I"⟩
abbrev cL_run : ByteArray := method_4_code
def yL_run : MethodName := ⟨RL, "run", "(LShellWatch;I[J)I"⟩
abbrev cL_state : ByteArray := method_5_code
def yL_state : MethodName := ⟨RL, "state", "(LShellWatch;I[J)I"⟩
abbrev cL_shell : ByteArray := method_6_code
def yL_shell : MethodName := ⟨RL, "shell", "(LShellWatch;II[J)I"⟩
abbrev cL_belief : ByteArray := method_7_code
def yL_belief : MethodName := ⟨RL, "belief", "(LShellWatch;I[J)I"⟩
abbrev cL_chance : ByteArray := method_8_code
def yL_chance : MethodName := ⟨RL, "chance", "(LShellWatch;I[D)I"⟩
abbrev cL_blinks : ByteArray := method_9_code
def yL_blinks : MethodName := ⟨RL, "blinks", "(LShellWatch;I[J)I"⟩
abbrev cL_odds : ByteArray := method_10_code
def yL_odds : MethodName := ⟨RL, "odds", "(LShellWatch;I[J)I"⟩
abbrev cL_rows : ByteArray := method_11_code
def yL_rows : MethodName := ⟨RL, "rows", "(LShellWatch;I[J)I"⟩
abbrev cL_fool : ByteArray := method_12_code
def yL_fool : MethodName := ⟨RL, "fool", "(LShellWatch;I[J)I"⟩
abbrev cL_caught : ByteArray := method_13_code
def yL_caught : MethodName := ⟨RL, "caught", "(LShellWatch;I[J)I"⟩
abbrev cL_swap : ByteArray := method_14_code
def yL_swap : MethodName := ⟨RL, "swap", "(LShellWatch;II[J)I"⟩
abbrev cL_feint : ByteArray := method_15_code
def yL_feint : MethodName := ⟨RL, "feint", "(LShellWatch;II[J)I"⟩
abbrev cL_steal : ByteArray := method_16_code
def yL_steal : MethodName := ⟨RL, "steal", "(LShellWatch;I[J)I"⟩
abbrev cL_plant : ByteArray := method_17_code
def yL_plant : MethodName := ⟨RL, "plant", "(LShellWatch;I[J)I"⟩
abbrev cL_peek : ByteArray := method_18_code
def yL_peek : MethodName := ⟨RL, "peek", "(LShellWatch;I[J)I"⟩
abbrev cL_bet : ByteArray := method_19_code
def yL_bet : MethodName := ⟨RL, "bet", "(LShellWatch;II[J)I"⟩
abbrev cL_scratch : ByteArray := method_20_code
def yL_scratch : MethodName := ⟨RL, "scratch", "(LShellWatch;IZ[J)I"⟩
abbrev cL_blink : ByteArray := method_21_code
def yL_blink : MethodName := ⟨RL, "blink", "(LShellWatch;II[J)I"⟩
abbrev cL_suspect : ByteArray := method_22_code
def yL_suspect : MethodName := ⟨RL, "suspect", "(LShellWatch;I[J)I"⟩
abbrev cL_law : ByteArray := code
end
section
/-! WHAT A METHOD'S CODE DOES, as a function: a small interpreter over the decoded instructions, on a world of cells.
A cell of the world: .inl (kind of array: 0 int, 1 byte, 2 long, 3 double, 4 Token rows, 5 Game rows, length, contents) or .inr (class, fields). -/
abbrev xH : Type := (Nat → Option va_E) × Nat
abbrev xR : Type := (Option Value ⊕ String) × xH
abbrev xL : Type := List (Nat × Value)
abbrev xJ : Type := Nat × xL × List Value × xH × Nat × Nat
abbrev xI : Type := Nat × Instr × List Nat
def xup (w : Nat → Option va_E) (a : Nat) (e : va_E) : Nat → Option va_E := fun q => bif Nat.beq q a then some e else w q
def xget : xL → Nat → Option Value
  | [], _ => none
  | q :: L, i => bif Nat.beq q.1 i then some q.2 else xget L i
def xset1 (L : xL) (i : Nat) (v : Value) : xL := (i, v) :: L.filter (fun q => !(q.1 == i) && !(q.1 + 1 == i && q.2.category == 2))
def xset2 (L : xL) (i : Nat) (v : Value) : xL := (i, v) :: L.filter (fun q => !(q.1 == i) && (!(q.1 == i + 1) && !(q.1 + 1 == i && q.2.category == 2)))
def xpick (L : xL) : List Nat → xL
  | [] => []
  | i :: is => match xget L i with
    | some v => (i, v) :: xpick L is
    | none => xpick L is
def xfind (f : Nat → Nat) (a : Nat) : Nat → Option Nat
  | 0 => none
  | n + 1 => match xfind f a n with
    | some i => some i
    | none => bif Nat.beq (f n) a then some n else none
def xin (i : Int32) (n : Nat) : Bool := decide (¬ (i < 0 ∨ n ≤ i.toNatClampNeg))
/-- the literals, each text once, and which is a Token's -/
def xbyt : List (List Int32) := [[], [59], [43], [45], [42], [47], [40], [41], [115, 104, 101, 108, 108, 115], [115, 116, 101, 112, 115], [98, 108, 105, 110, 107, 115], [99, 104, 97, 110, 99, 101], [98, 97, 108, 108], [115, 99, 114, 97, 116, 99, 104], [116, 114, 117, 115, 116], [99, 97, 108, 109], [115, 108, 121], [112, 117, 114, 115, 101], [98, 108, 105, 110, 107], [111, 100, 100, 115], [115, 119, 97, 112], [102, 101, 105, 110, 116], [114, 101, 115, 116], [115, 116, 101, 97, 108], [112, 108, 97, 110, 116], [112, 101, 101, 107], [114, 101, 112, 101, 97, 116]]
def xtx (i : Nat) : List Int32 := xbyt.getD i []
def xNS : Nat := 27
def xtt (i : Nat) : Nat := ([0, 0, 0, 1, 2, 3, 4, 5, 6, 7, 8, 9, 10, 11, 12, 13, 14, 15, 16, 17, 18, 19, 20, 21, 22, 23, 24, 25, 26] : List Nat).getD i 0
/-- addresses: the Tokens, the literals, their bytes, Token.ALL; the value of Preconditions' formatter -/
abbrev xEn : Type := (Nat → Nat) × (Nat → Nat) × (Nat → Nat) × Nat × Value
section SEM
variable {ρ : Type}
-- fields
def gV (σ : xH) (ci k a : Nat) (K : Value → Option ρ) : Option ρ := match σ.1 a with
  | some (.inr (c, fs)) => bif Nat.beq c ci then (match fs[k]? with
    | some v => K v
    | none => none) else none
  | _ => none
def gI (σ : xH) (ci k a : Nat) (K : Int32 → Option ρ) : Option ρ := gV σ ci k a (fun v => match v with
  | .int x => K x
  | _ => none)
def gL (σ : xH) (ci k a : Nat) (K : Int64 → Option ρ) : Option ρ := gV σ ci k a (fun v => match v with
  | .long x => K x
  | _ => none)
def gR (σ : xH) (ci k a : Nat) (K : Nat → Option ρ) : Option ρ := gV σ ci k a (fun v => match v with
  | .ref x => K x
  | _ => none)
def gP (σ : xH) (ci k a : Nat) (v : Value) (K : xH → Option ρ) : Option ρ := match σ.1 a with
  | some (.inr (c, fs)) => bif Nat.beq c ci && Nat.blt k fs.length then K (xup σ.1 a (.inr (c, fs.set k v)), σ.2) else none
  | _ => none
/-- the receiver's class; 99 is String -/
def gO (E : xEn) (σ : xH) (ci a : Nat) (K : Option ρ) : Option ρ := match σ.1 a with
  | some (.inr (c, _)) => bif Nat.beq c ci then K else none
  | none => bif Nat.beq ci 99 && (xfind E.2.1 a xNS).isSome then K else none
  | _ => none
-- arrays
def aI (σ : xH) (a : Nat) (i : Int32) (K : Int32 → Option ρ) : Option ρ := match σ.1 a with
  | some (.inl (k, n, .inl f)) => bif Nat.beq k 0 && xin i n then K (f i.toNatClampNeg) else none
  | _ => none
def aB (E : xEn) (σ : xH) (a : Nat) (i : Int32) (K : Int32 → Option ρ) : Option ρ := match σ.1 a with
  | some (.inl (k, n, .inl f)) => bif Nat.beq k 1 && xin i n then K (f i.toNatClampNeg) else none
  | none => match xfind E.2.2.1 a xNS with
    | some s => bif xin i (xtx s).length then K ((xtx s).getD i.toNatClampNeg 0) else none
    | none => none
  | _ => none
def aL (σ : xH) (a : Nat) (i : Int32) (K : Int64 → Option ρ) : Option ρ := match σ.1 a with
  | some (.inl (k, n, .inr (.inl f))) => bif Nat.beq k 2 && xin i n then K (f i.toNatClampNeg) else none
  | _ => none
def aD (σ : xH) (a : Nat) (i : Int32) (K : UInt64 → Option ρ) : Option ρ := match σ.1 a with
  | some (.inl (k, n, .inr (.inr (.inr (.inl f))))) => bif Nat.beq k 3 && xin i n then K (f i.toNatClampNeg) else none
  | _ => none
def aQ (E : xEn) (σ : xH) (a : Nat) (i : Int32) (K : Nat → Option ρ) : Option ρ := match σ.1 a with
  | some (.inl (k, n, .inr (.inr (.inr (.inr f))))) => bif Nat.ble 4 k && (Nat.ble k 5 && xin i n) then (match f i.toNatClampNeg with
    | some b => K b
    | none => none) else none
  | none => bif Nat.beq a E.2.2.2.1 && xin i 29 then K (E.1 i.toNatClampNeg) else none
  | _ => none
def aN (E : xEn) (σ : xH) (a : Nat) (K : Int32 → Option ρ) : Option ρ := match σ.1 a with
  | some (.inl (k, n, _)) => bif Nat.ble k 5 then K (nI n) else none
  | none => bif Nat.beq a E.2.2.2.1 then K 29 else match xfind E.2.2.1 a xNS with
    | some s => K (nI (xtx s).length)
    | none => none
  | _ => none
def sI (σ : xH) (a : Nat) (i x : Int32) (K : xH → Option ρ) : Option ρ := match σ.1 a with
  | some (.inl (k, n, .inl f)) => bif Nat.beq k 0 && xin i n then K (xup σ.1 a (.inl (k, n, .inl (upd f i.toNatClampNeg x))), σ.2) else none
  | _ => none
def sB (σ : xH) (a : Nat) (i x : Int32) (K : xH → Option ρ) : Option ρ := match σ.1 a with
  | some (.inl (k, n, .inl f)) => bif Nat.beq k 1 && xin i n then K (xup σ.1 a (.inl (k, n, .inl (upd f i.toNatClampNeg (vp_nar .byte x)))), σ.2) else none
  | _ => none
def sL (σ : xH) (a : Nat) (i : Int32) (x : Int64) (K : xH → Option ρ) : Option ρ := match σ.1 a with
  | some (.inl (k, n, .inr (.inl f))) => bif Nat.beq k 2 && xin i n then K (xup σ.1 a (.inl (k, n, .inr (.inl (vp_updL f i.toNatClampNeg x)))), σ.2) else none
  | _ => none
def sD (σ : xH) (a : Nat) (i : Int32) (x : UInt64) (K : xH → Option ρ) : Option ρ := match σ.1 a with
  | some (.inl (k, n, .inr (.inr (.inr (.inl f))))) => bif Nat.beq k 3 && xin i n then K (xup σ.1 a (.inl (k, n, .inr (.inr (.inr (.inl (vf_upd f i.toNatClampNeg x)))))), σ.2) else none
  | _ => none
/-- what may lie in a row of references: a Token in kind 4, a Game (class 2) in kind 5 -/
def xfits (E : xEn) (σ : xH) (k b : Nat) : Bool := bif Nat.beq k 4 then (xfind E.1 b 29).isSome else bif Nat.beq k 5 then (match σ.1 b with
  | some (.inr (c, _)) => Nat.beq c 2
  | _ => false) else false
def sQ (E : xEn) (σ : xH) (a : Nat) (i : Int32) (b : Nat) (K : xH → Option ρ) : Option ρ := match σ.1 a with
  | some (.inl (k, n, .inr (.inr (.inr (.inr f))))) => bif xin i n && xfits E σ k b then K (xup σ.1 a (.inl (k, n, .inr (.inr (.inr (.inr (va_up f i.toNatClampNeg (some b))))))), σ.2) else none
  | _ => none
-- System.arraycopy of ints
def cpI (σ : xH) (a : Nat) (i : Int32) (b : Nat) (j n : Int32) (K : xH → Option ρ) : Option ρ := match σ.1 a, σ.1 b with
  | some (.inl (k, m, .inl f)), some (.inl (k', m', .inl g)) => bif Nat.beq k 0 && (Nat.beq k' 0 && (!(Nat.beq a b) && (decide (0 ≤ i.toInt ∧ 0 ≤ j.toInt ∧ 0 ≤ n.toInt ∧ i.toInt + n.toInt ≤ m ∧ j.toInt + n.toInt ≤ m'))))
    then K (xup σ.1 b (.inl (k', m', .inl (va_cpy f g i.toNatClampNeg j.toNatClampNeg n.toNatClampNeg))), σ.2) else none
  | _, _ => none
-- a callee's answer
def cI (T : xR → Option ρ) (r : Option xR) (K : Int32 → xH → Option ρ) : Option ρ := match r with
  | some (.inl (some (.int x)), σ) => K x σ
  | some (.inr E, σ) => T (.inr E, σ)
  | _ => none
def cL (T : xR → Option ρ) (r : Option xR) (K : Int64 → xH → Option ρ) : Option ρ := match r with
  | some (.inl (some (.long x)), σ) => K x σ
  | some (.inr E, σ) => T (.inr E, σ)
  | _ => none
def cF (T : xR → Option ρ) (r : Option xR) (K : UInt32 → xH → Option ρ) : Option ρ := match r with
  | some (.inl (some (.float x)), σ) => K x σ
  | some (.inr E, σ) => T (.inr E, σ)
  | _ => none
def cD (T : xR → Option ρ) (r : Option xR) (K : UInt64 → xH → Option ρ) : Option ρ := match r with
  | some (.inl (some (.double x)), σ) => K x σ
  | some (.inr E, σ) => T (.inr E, σ)
  | _ => none
def cA (T : xR → Option ρ) (r : Option xR) (K : Nat → xH → Option ρ) : Option ρ := match r with
  | some (.inl (some (.ref x)), σ) => K x σ
  | some (.inr E, σ) => T (.inr E, σ)
  | _ => none
def cV (T : xR → Option ρ) (r : Option xR) (K : xH → Option ρ) : Option ρ := match r with
  | some (.inl none, σ) => K σ
  | some (.inr E, σ) => T (.inr E, σ)
  | _ => none
def xsw (x : Int32) (dflt : Nat) (K : Nat → Option ρ) : Nat → List Nat → Option ρ
  | _, [] => K dflt
  | lo, t :: ts => if x = nI lo then K t else xsw x dflt K (lo + 1) ts
def xcc (c : ClassFile.Cond) (x y : Int32) (t f : Option ρ) : Option ρ := match c with
  | .eq => if x = y then t else f
  | .ne => if x = y then f else t
  | .lt => if x < y then t else f
  | .ge => if y ≤ x then t else f
  | .gt => if y < x then t else f
  | .le => if x ≤ y then t else f
end SEM
end
section
/-! ONE INSTRUCTION. 'info' is what the constant pool says of it (checked against the pool elsewhere):
branches [target]; getfield, putfield [class, field, 0 int 1 long 2 ref 5 boolean, 0 own 1 nest mate 2 final in a constructor]; text of a Token [77]; getstatic [token, or 29 for ALL];
calls [0, prim] or [kind, key, how many arguments, answer, cells, slots, class + 1 or 0 (static)]; new [0, class, fields] or [1, exception]; newarray, anewarray [kind]; ldc [0, c], [1, minus c], [2, string]; returns [0] or [5] (boolean). -/
def xexc : Nat → String
  | 0 => "java/lang/IllegalArgumentException"
  | 1 => "java/lang/IndexOutOfBoundsException"
  | 2 => "java/lang/IllegalStateException"
  | _ => "java/util/NoSuchElementException"
def xcat (st : List Value) : Nat := (st.map fun v => v.category).sum
/-- the fields of a new object: by the types of its fields -/
def xdv : FieldType → Value
  | .long => .long 0
  | .float => .float 0
  | .double => .double 0
  | .object _ => .null
  | .array _ => .null
  | _ => .int 0
def xtyp (ci : Nat) : Nat → FieldType := match ci with
  | 0 => tyX0
  | 1 => tyX1
  | 2 => tyX2
  | 3 => tyX3
  | 4 => tyX4
  | 5 => tyX5
  | 6 => tyX6
  | 7 => tyX9
  | 8 => tyX10
  | _ => tyX11
def xdef (ci n : Nat) : List Value := (List.range n).map fun k => xdv (xtyp ci k)
def xarr (k : Nat) : (Nat → Int32) ⊕ (Nat → Int64) ⊕ (Nat → UInt32) ⊕ (Nat → UInt64) ⊕ (Nat → Option Nat) := match k with
  | 2 => .inr (.inl fun _ => 0)
  | 3 => .inr (.inr (.inr (.inl fun _ => 0)))
  | _ => .inl fun _ => 0
section STEP
variable {ρ : Type}
def xfld (σ : xH) (info : List Nat) (a : Nat) (k : Value → Option ρ) : Option ρ := match info with
  | [ci, i, 0, _] => gI σ ci i a (fun x => k (.int x))
  | [ci, i, 5, _] => gI σ ci i a (fun x => k (.int x))
  | [ci, i, 1, _] => gL σ ci i a (fun x => k (.long x))
  | [ci, i, 2, _] => gR σ ci i a (fun x => k (.ref x))
  | _ => none
def xput (σ : xH) (info : List Nat) (a : Nat) (v : Value) (k : xH → Option ρ) : Option ρ := match info, v with
  | [ci, i, 0, _], .int x => gP σ ci i a (.int x) k
  | [ci, i, 5, _], .int x => if narrow .boolean (.int x) = .int x then gP σ ci i a (.int x) k else none
  | [ci, i, 1, _], .long x => gP σ ci i a (.long x) k
  | [ci, i, 2, _], .ref x => gP σ ci i a (.ref x) k
  | _, _ => none
def xans (T : xR → Option ρ) (tag : Nat) (r : Option xR) (k : List Value → xH → Option ρ) : Option ρ := match tag with
  | 0 => cI T r (fun x σ => k [.int x] σ)
  | 1 => cL T r (fun x σ => k [.long x] σ)
  | 2 => cA T r (fun x σ => k [.ref x] σ)
  | 3 => cF T r (fun x σ => k [.float x] σ)
  | 4 => cD T r (fun x σ => k [.double x] σ)
  | 9 => cV T r (fun σ => k [] σ)
  | _ => none
/-- of the calls only kind 5 may come back by a throw -/
def xthr (k : Nat) (T : xR → Option ρ) (r : xR) : Option ρ := bif Nat.beq k 5 then T r else none
/-- a call of a method of the table: the stack is cut, the receiver's class looked at, the room booked; kinds: 0 static, 1 virtual, 2 constructor, 3 virtual of a nest mate, 4 constructor of a nest mate, 5 virtual that may throw -/
def xcall (E : xEn) (call : Nat → List Value → xH → Option xR) (MC MS : Nat) (T : xR → Option ρ) (info : List Nat) (st : List Value) (σ : xH) (bc bs : Nat) (nx : List Value → xH → Nat → Nat → Option ρ) : Option ρ := match info with
  | [kd, key, n, tag, mc, ms, ci] => bif Nat.ble n st.length && (Nat.ble (xcat (st.drop n)) 8 && (Nat.ble (bc + mc) MC && Nat.ble (bs + ms) MS)) then
      match ci with
      | 0 => xans (xthr kd T) tag (call key (st.take n).reverse σ) (fun v σ' => nx (v ++ st.drop n) σ' (bc + mc) (bs + ms))
      | c + 1 => match (st.take n).reverse with
        | .ref b :: As => gO E σ c b (xans (xthr kd T) tag (call key (.ref b :: As) σ) (fun v σ' => nx (v ++ st.drop n) σ' (bc + mc) (bs + ms)))
        | _ => none
    else none
  | _ => none
def xprim (prim : Nat) (st : List Value) (σ : xH) (nx : List Value → xH → Option ρ) : Option ρ := match prim, st with
  | 0, .int y :: .int x :: st => nx (.int (if x < y then y else x) :: st) σ
  | 1, .int y :: .int x :: st => nx (.int (if y < x then y else x) :: st) σ
  | 2, .long y :: .long x :: st => nx (.long (if y < x then x else y) :: st) σ
  | 3, .long y :: .long x :: st => nx (.long (if y < x then y else x) :: st) σ
  | 6, .int n :: .int j :: .ref b :: .int i :: .ref a :: st => cpI σ a i b j n (fun σ' => nx st σ')
  | _, _ => none
-- combinators: what lies on the stack, in a place of the locals, in 'info'
def kkI (o : Option Value) (k : Int32 → Option ρ) : Option ρ := match o with
  | some (.int x) => k x
  | _ => none
def t1I (st : List Value) (k : Int32 → List Value → Option ρ) : Option ρ := match st with
  | .int x :: st => k x st
  | _ => none
def t2I (st : List Value) (k : Int32 → Int32 → List Value → Option ρ) : Option ρ := match st with
  | .int y :: .int x :: st => k x y st
  | _ => none
def kkL (o : Option Value) (k : Int64 → Option ρ) : Option ρ := match o with
  | some (.long x) => k x
  | _ => none
def t1L (st : List Value) (k : Int64 → List Value → Option ρ) : Option ρ := match st with
  | .long x :: st => k x st
  | _ => none
def t2L (st : List Value) (k : Int64 → Int64 → List Value → Option ρ) : Option ρ := match st with
  | .long y :: .long x :: st => k x y st
  | _ => none
def kkF (o : Option Value) (k : UInt32 → Option ρ) : Option ρ := match o with
  | some (.float x) => k x
  | _ => none
def t1F (st : List Value) (k : UInt32 → List Value → Option ρ) : Option ρ := match st with
  | .float x :: st => k x st
  | _ => none
def t2F (st : List Value) (k : UInt32 → UInt32 → List Value → Option ρ) : Option ρ := match st with
  | .float y :: .float x :: st => k x y st
  | _ => none
def kkD (o : Option Value) (k : UInt64 → Option ρ) : Option ρ := match o with
  | some (.double x) => k x
  | _ => none
def t1D (st : List Value) (k : UInt64 → List Value → Option ρ) : Option ρ := match st with
  | .double x :: st => k x st
  | _ => none
def t2D (st : List Value) (k : UInt64 → UInt64 → List Value → Option ρ) : Option ρ := match st with
  | .double y :: .double x :: st => k x y st
  | _ => none
def kkA (o : Option Value) (k : Nat → Option ρ) : Option ρ := match o with
  | some (.ref x) => k x
  | _ => none
def t1A (st : List Value) (k : Nat → List Value → Option ρ) : Option ρ := match st with
  | .ref x :: st => k x st
  | _ => none
def t2A (st : List Value) (k : Nat → Nat → List Value → Option ρ) : Option ρ := match st with
  | .ref y :: .ref x :: st => k x y st
  | _ => none
def t3I (st : List Value) (k : Int32 → Int32 → Nat → List Value → Option ρ) : Option ρ := match st with
  | .int x :: .int i :: .ref a :: st => k x i a st
  | _ => none
def t3L (st : List Value) (k : Int64 → Int32 → Nat → List Value → Option ρ) : Option ρ := match st with
  | .long x :: .int i :: .ref a :: st => k x i a st
  | _ => none
def t3D (st : List Value) (k : UInt64 → Int32 → Nat → List Value → Option ρ) : Option ρ := match st with
  | .double x :: .int i :: .ref a :: st => k x i a st
  | _ => none
def t3A (st : List Value) (k : Nat → Int32 → Nat → List Value → Option ρ) : Option ρ := match st with
  | .ref x :: .int i :: .ref a :: st => k x i a st
  | _ => none
def t2X (st : List Value) (k : Int32 → Nat → List Value → Option ρ) : Option ρ := match st with
  | .int i :: .ref a :: st => k i a st
  | _ => none
def tV (st : List Value) (k : Value → List Value → Option ρ) : Option ρ := match st with
  | v :: st => bif Nat.beq v.category 1 then k v st else none
  | _ => none
def tVA (st : List Value) (k : Value → Nat → List Value → Option ρ) : Option ρ := match st with
  | v :: .ref a :: st => k v a st
  | _ => none
def t0 (st : List Value) (k : Option ρ) : Option ρ := match st with
  | [] => k
  | _ => none
def i1 (info : List Nat) (k : Nat → Option ρ) : Option ρ := match info with
  | [t] => k t
  | _ => none
def iSw (info : List Nat) (k : Nat → Nat → List Nat → Option ρ) : Option ρ := match info with
  | d :: lo :: ts => k d lo ts
  | _ => none
def nz (b : Bool) (k : Option ρ) : Option ρ := bif b then k else none
def iK (E : xEn) (info : List Nat) (k : Value → Option ρ) : Option ρ := match info with
  | [0, c] => k (.int (nI c))
  | [1, c] => k (.int (- nI c))
  | [2, i] => bif Nat.blt i xNS then k (.ref (E.2.1 i)) else none
  | _ => none
def iK2 (info : List Nat) (k : Int64 → Option ρ) : Option ρ := match info with
  | [0, c] => k (lN c)
  | [1, c] => k (- lN c)
  | _ => none
def iD (info : List Nat) (k : UInt64 → Option ρ) : Option ρ := match info with
  | [0] => k FP.dconst0
  | _ => none
def iF (info : List Nat) (k : UInt32 → Option ρ) : Option ρ := match info with
  | [0] => k FP.fconst0
  | [1] => k FP.fconst1
  | _ => none
def xgf (E : xEn) (σ : xH) (info : List Nat) (a : Nat) (k : Value → Option ρ) : Option ρ := match info with
  | [77] => match xfind E.1 a 29 with
    | some i => k (.ref (E.2.1 (xtt i)))
    | none => none
  | [78] => match xfind E.2.1 a xNS with
    | some i => k (.ref (E.2.2.1 i))
    | none => none
  | [79] => match xfind E.2.1 a xNS with
    | some _ => k (.int 0)
    | none => none
  | info => xfld σ info a k
def xgs (E : xEn) (info : List Nat) (k : Value → Option ρ) : Option ρ := match info with
  | [0, i] => bif Nat.blt i 29 then k (.ref (E.1 i)) else none
  | [1] => k (.ref E.2.2.2.1)
  | [2] => k (.int 1)
  | [3] => k E.2.2.2.2
  | _ => none
def xnew (MC MS : Nat) (fin : xR → Option ρ) (info : List Nat) (st : List Value) (σ : xH) (bc bs : Nat) (nx : List Value → xH → Nat → Nat → Option ρ) : Option ρ := match info with
  | [0, ci, n] => bif Nat.ble (bc + 1) MC && Nat.ble (bs + n) MS then nx (.ref σ.2 :: st) (xup σ.1 σ.2 (.inr (ci, xdef ci n)), σ.2 + 1) (bc + 1) (bs + n) else none
  | [1, e, _, _] => bif Nat.ble (bc + 1) MC && (Nat.ble (bs + 6) MS && Nat.ble (xcat st) 8) then fin (.inr (xexc e), σ) else none
  | _ => none
def xnewa (MC MS : Nat) (x : Nat → (Nat → Int32) ⊕ (Nat → Int64) ⊕ (Nat → UInt32) ⊕ (Nat → UInt64) ⊕ (Nat → Option Nat)) (info : List Nat) (st : List Value) (σ : xH) (bc bs : Nat) (nx : List Value → xH → Nat → Nat → Option ρ) : Option ρ := t1I st (fun n st => i1 info (fun k => bif decide (¬ n < 0) && (Nat.ble (bc + 1) MC && (Nat.ble (bs + n.toNatClampNeg) MS && Nat.ble n.toNatClampNeg 100000)) then nx (.ref σ.2 :: st) (xup σ.1 σ.2 (.inl (k, n.toNatClampNeg, x k)), σ.2 + 1) (bc + 1) (bs + n.toNatClampNeg) else none))
def xinv (E : xEn) (call : Nat → List Value → xH → Option xR) (MC MS : Nat) (fin : xR → Option ρ) (info : List Nat) (st : List Value) (σ : xH) (bc bs : Nat) (pr : Nat → Option ρ) (nx : List Value → xH → Nat → Nat → Option ρ) : Option ρ := match info with
  | [_, p] => pr p
  | info => xcall E call MC MS fin info st σ bc bs nx
def xinit (E : xEn) (call : Nat → List Value → xH → Option xR) (MC MS : Nat) (fin : xR → Option ρ) (info : List Nat) (st : List Value) (σ : xH) (bc bs : Nat) (nx : List Value → xH → Nat → Nat → Option ρ) : Option ρ := match info with
  | [_] => t1A st (fun _ st => bif Nat.ble (xcat st) 8 then nx st σ bc bs else none)
  | info => xcall E call MC MS fin info st σ bc bs nx
def xty (t : Nat) : FieldType := match t with
  | 5 => .boolean
  | 6 => .byte
  | 7 => .char
  | _ => .int
def xiret (info : List Nat) (x : Int32) (k : Option ρ) : Option ρ := match info with
  | [0] => k
  | [t] => bif decide (narrow (xty t) (.int x) = .int x) then k else none
  | _ => none
def xac (c : ACond) (b : Bool) (t f : Option ρ) : Option ρ := match c with
  | .eq => bif b then t else f
  | .ne => bif b then f else t
def xstep (E : xEn) (call : Nat → List Value → xH → Option xR) (MC MS : Nat) (fin : xR → Option ρ) (K : Nat → xL → List Value → xH → Nat → Nat → Option ρ) (nx : xL → List Value → xH → Nat → Nat → Option ρ) (ins : Instr) (info : List Nat) (L : xL) (st : List Value) (σ : xH) (bc bs : Nat) : Option ρ := match ins with
  | .iconst i => nx L (.int (Int32.ofInt i) :: st) σ bc bs
  | .bipush i => nx L (.int (Int8.ofInt i).toInt32 :: st) σ bc bs
  | .sipush i => nx L (.int (Int16.ofInt i).toInt32 :: st) σ bc bs
  | .lconst i => nx L (.long (Int64.ofNat (i : Nat)) :: st) σ bc bs
  | .dconst i => iD info (fun v => nx L (.double v :: st) σ bc bs)
  | .fconst i => iF info (fun v => nx L (.float v :: st) σ bc bs)
  | .ldc i => iK E info (fun v => nx L (v :: st) σ bc bs)
  | .ldc_w i => iK E info (fun v => nx L (v :: st) σ bc bs)
  | .ldc2_w i => iK2 info (fun v => nx L (.long v :: st) σ bc bs)
  | .iload i => kkI (xget L i) (fun x => nx L (.int x :: st) σ bc bs)
  | .iload_n i => kkI (xget L i) (fun x => nx L (.int x :: st) σ bc bs)
  | .lload i => kkL (xget L i) (fun x => nx L (.long x :: st) σ bc bs)
  | .lload_n i => kkL (xget L i) (fun x => nx L (.long x :: st) σ bc bs)
  | .dload i => kkD (xget L i) (fun x => nx L (.double x :: st) σ bc bs)
  | .aload i => kkA (xget L i) (fun x => nx L (.ref x :: st) σ bc bs)
  | .aload_n i => kkA (xget L i) (fun x => nx L (.ref x :: st) σ bc bs)
  | .istore i => t1I st (fun x st => nx (xset1 L i (.int x)) st σ bc bs)
  | .istore_n i => t1I st (fun x st => nx (xset1 L i (.int x)) st σ bc bs)
  | .lstore i => t1L st (fun x st => nx (xset2 L i (.long x)) st σ bc bs)
  | .lstore_n i => t1L st (fun x st => nx (xset2 L i (.long x)) st σ bc bs)
  | .dstore i => t1D st (fun x st => nx (xset2 L i (.double x)) st σ bc bs)
  | .astore i => t1A st (fun x st => nx (xset1 L i (.ref x)) st σ bc bs)
  | .astore_n i => t1A st (fun x st => nx (xset1 L i (.ref x)) st σ bc bs)
  | .iinc i c => kkI (xget L i) (fun x => nx (xset1 L i (.int (x + Int32.ofInt c))) st σ bc bs)
  | .iadd => t2I st (fun x y st => nx L (.int (x + y) :: st) σ bc bs)
  | .isub => t2I st (fun x y st => nx L (.int (x - y) :: st) σ bc bs)
  | .imul => t2I st (fun x y st => nx L (.int (x * y) :: st) σ bc bs)
  | .iand => t2I st (fun x y st => nx L (.int (x &&& y) :: st) σ bc bs)
  | .ior => t2I st (fun x y st => nx L (.int (x ||| y) :: st) σ bc bs)
  | .ixor => t2I st (fun x y st => nx L (.int (x ^^^ y) :: st) σ bc bs)
  | .ishl => t2I st (fun x y st => nx L (.int (x <<< (y &&& 31)) :: st) σ bc bs)
  | .ishr => t2I st (fun x y st => nx L (.int (x >>> (y &&& 31)) :: st) σ bc bs)
  | .idiv => t2I st (fun x y st => nz (decide (¬ y = 0)) (nx L (.int (x / y) :: st) σ bc bs))
  | .irem => t2I st (fun x y st => nz (decide (¬ y = 0)) (nx L (.int (x - x / y * y) :: st) σ bc bs))
  | .ladd => t2L st (fun x y st => nx L (.long (x + y) :: st) σ bc bs)
  | .lsub => t2L st (fun x y st => nx L (.long (x - y) :: st) σ bc bs)
  | .lmul => t2L st (fun x y st => nx L (.long (x * y) :: st) σ bc bs)
  | .ldiv => t2L st (fun x y st => nz (decide (¬ y = 0)) (nx L (.long (x / y) :: st) σ bc bs))
  | .lrem => t2L st (fun x y st => nz (decide (¬ y = 0)) (nx L (.long (x - x / y * y) :: st) σ bc bs))
  | .lcmp => t2L st (fun x y st => nx L (.int (lg_cmp x y) :: st) σ bc bs)
  | .i2l => t1I st (fun x st => nx L (.long x.toInt64 :: st) σ bc bs)
  | .l2i => t1L st (fun x st => nx L (.int x.toInt32 :: st) σ bc bs)
  | .i2b => t1I st (fun x st => nx L (.int x.toInt8.toInt32 :: st) σ bc bs)
  | .i2c => t1I st (fun x st => nx L (.int (x.toUInt32 % 65536).toInt32 :: st) σ bc bs)
  | .i2d => t1I st (fun x st => nx L (.double (FP.i2d x) :: st) σ bc bs)
  | .l2d => t1L st (fun x st => nx L (.double (FP.l2d x) :: st) σ bc bs)
  | .i2f => t1I st (fun x st => nx L (.float (FP.i2f x) :: st) σ bc bs)
  | .l2f => t1L st (fun x st => nx L (.float (FP.l2f x) :: st) σ bc bs)
  | .f2d => t1F st (fun x st => nz (decide (FP.f2d x &&& 0x7fffffffffffffff ≤ 0x7ff0000000000000)) (nx L (.double (FP.f2d x) :: st) σ bc bs))
  | .fdiv => t2F st (fun x y st => nz (decide (FP.fdiv x y &&& 0x7fffffff ≤ 0x7f800000)) (nx L (.float (FP.fdiv x y) :: st) σ bc bs))
  | .fsub => t2F st (fun x y st => nz (decide (FP.fsub x y &&& 0x7fffffff ≤ 0x7f800000)) (nx L (.float (FP.fsub x y) :: st) σ bc bs))
  | .ddiv => t2D st (fun x y st => nz (decide (FP.ddiv x y &&& 0x7fffffffffffffff ≤ 0x7ff0000000000000)) (nx L (.double (FP.ddiv x y) :: st) σ bc bs))
  | .dcmp o => t2D st (fun x y st => nx L (.int (Op.cmpValue (FP.dcmp x y) o) :: st) σ bc bs)
  | .dup => tV st (fun v st => nx L (v :: v :: st) σ bc bs)
  | .dup2 => tV st (fun v st => tV st (fun u st => nx L (v :: u :: v :: u :: st) σ bc bs))
  | .pop => tV st (fun _ st => nx L st σ bc bs)
  | .ifCond c o => t1I st (fun x st => i1 info (fun t => xcc c x 0 (K t L st σ bc bs) (nx L st σ bc bs)))
  | .if_icmp c o => t2I st (fun x y st => i1 info (fun t => xcc c x y (K t L st σ bc bs) (nx L st σ bc bs)))
  | .if_acmp c o => t2A st (fun x y st => i1 info (fun t => xac c (Nat.beq x y) (K t L st σ bc bs) (nx L st σ bc bs)))
  | .goto o => i1 info (fun t => K t L st σ bc bs)
  | .tableswitch a b c d => t1I st (fun x st => iSw info (fun d lo ts => xsw x d (fun t => K t L st σ bc bs) lo ts))
  | .getfield i => t1A st (fun a st => xgf E σ info a (fun v => nx L (v :: st) σ bc bs))
  | .putfield i => tVA st (fun v a st => xput σ info a v (fun σ => nx L st σ bc bs))
  | .getstatic i => xgs E info (fun v => nx L (v :: st) σ bc bs)
  | .iaload => t2X st (fun i a st => aI σ a i (fun x => nx L (.int x :: st) σ bc bs))
  | .baload => t2X st (fun i a st => aB E σ a i (fun x => nx L (.int x :: st) σ bc bs))
  | .laload => t2X st (fun i a st => aL σ a i (fun x => nx L (.long x :: st) σ bc bs))
  | .daload => t2X st (fun i a st => aD σ a i (fun x => nx L (.double x :: st) σ bc bs))
  | .aaload => t2X st (fun i a st => aQ E σ a i (fun x => nx L (.ref x :: st) σ bc bs))
  | .arraylength => t1A st (fun a st => aN E σ a (fun x => nx L (.int x :: st) σ bc bs))
  | .iastore => t3I st (fun x i a st => sI σ a i x (fun σ => nx L st σ bc bs))
  | .bastore => t3I st (fun x i a st => sB σ a i x (fun σ => nx L st σ bc bs))
  | .lastore => t3L st (fun x i a st => sL σ a i x (fun σ => nx L st σ bc bs))
  | .dastore => t3D st (fun x i a st => sD σ a i x (fun σ => nx L st σ bc bs))
  | .aastore => t3A st (fun x i a st => sQ E σ a i x (fun σ => nx L st σ bc bs))
  | .new i => xnew MC MS fin info st σ bc bs (fun st σ bc bs => nx L st σ bc bs)
  | .newarray i => xnewa MC MS xarr info st σ bc bs (fun st σ bc bs => nx L st σ bc bs)
  | .anewarray i => xnewa MC MS (fun _ => .inr (.inr (.inr (.inr fun _ => none)))) info st σ bc bs (fun st σ bc bs => nx L st σ bc bs)
  | .invokespecial i => xinit E call MC MS fin info st σ bc bs (fun st σ bc bs => nx L st σ bc bs)
  | .invokevirtual i => xinv E call MC MS fin info st σ bc bs (fun p => nz (Nat.ble (xcat st) 16) (xprim p st σ (fun st σ => nx L st σ bc bs))) (fun st σ bc bs => nx L st σ bc bs)
  | .invokestatic i => xinv E call MC MS fin info st σ bc bs (fun p => nz (Nat.ble (xcat st) 16) (xprim p st σ (fun st σ => nx L st σ bc bs))) (fun st σ bc bs => nx L st σ bc bs)
  | .ireturn => t1I st (fun x st => t0 st (xiret info x (fin (.inl (some (.int x)), σ))))
  | .lreturn => t1L st (fun x st => t0 st (fin (.inl (some (.long x)), σ)))
  | .freturn => t1F st (fun x st => t0 st (fin (.inl (some (.float x)), σ)))
  | .dreturn => t1D st (fun x st => t0 st (fin (.inl (some (.double x)), σ)))
  | .areturn => t1A st (fun x st => t0 st (fin (.inl (some (.ref x)), σ)))
  | .return_ => t0 st (fin (.inl none, σ))
  | _ => none
end STEP
end
section
/-! A step with its ways out as continuations is the step with its ways out as data, bound. -/
section PAR
variable {ρ ρ' : Type} {G : ρ' → Option ρ}
theorem xb_gV {σ : xH} {ci k a : Nat} {K : Value → Option ρ} {K' : Value → Option ρ'} (h : ∀ v, K v = (K' v).bind G) : gV σ ci k a K = (gV σ ci k a K').bind G := by
  unfold gV
  split
  · cases Nat.beq _ _
    · rfl
    · dsimp only [cond]
      split
      · exact h _
      · rfl
  · rfl
theorem xb_gI {σ : xH} {ci k a : Nat} {K : Int32 → Option ρ} {K' : Int32 → Option ρ'} (h : ∀ v, K v = (K' v).bind G) : gI σ ci k a K = (gI σ ci k a K').bind G := by
  refine xb_gV (fun v => ?_)
  cases v <;> first | exact h _ | rfl
theorem xb_gL {σ : xH} {ci k a : Nat} {K : Int64 → Option ρ} {K' : Int64 → Option ρ'} (h : ∀ v, K v = (K' v).bind G) : gL σ ci k a K = (gL σ ci k a K').bind G := by
  refine xb_gV (fun v => ?_)
  cases v <;> first | exact h _ | rfl
theorem xb_gR {σ : xH} {ci k a : Nat} {K : Nat → Option ρ} {K' : Nat → Option ρ'} (h : ∀ v, K v = (K' v).bind G) : gR σ ci k a K = (gR σ ci k a K').bind G := by
  refine xb_gV (fun v => ?_)
  cases v <;> first | exact h _ | rfl
theorem xb_if {b : Bool} {x : Option ρ} {y : Option ρ'} (h : x = y.bind G) : (bif b then x else none) = (bif b then y else none).bind G := by
  cases b
  · rfl
  · exact h
theorem xb_gP {σ : xH} {ci k a : Nat} {v : Value} {K : xH → Option ρ} {K' : xH → Option ρ'} (h : ∀ v, K v = (K' v).bind G) : gP σ ci k a v K = (gP σ ci k a v K').bind G := by
  unfold gP
  split
  · exact xb_if (h _)
  · rfl
theorem xb_gO {E : xEn} {σ : xH} {ci a : Nat} {K : Option ρ} {K' : Option ρ'} (h : K = K'.bind G) : gO E σ ci a K = (gO E σ ci a K').bind G := by
  unfold gO
  split
  · exact xb_if h
  · exact xb_if h
  · rfl
theorem xb_aI {σ : xH} {a : Nat} {i : Int32} {K : Int32 → Option ρ} {K' : Int32 → Option ρ'} (h : ∀ v, K v = (K' v).bind G) : aI σ a i K = (aI σ a i K').bind G := by
  unfold aI
  split
  · exact xb_if (h _)
  · rfl
theorem xb_aL {σ : xH} {a : Nat} {i : Int32} {K : Int64 → Option ρ} {K' : Int64 → Option ρ'} (h : ∀ v, K v = (K' v).bind G) : aL σ a i K = (aL σ a i K').bind G := by
  unfold aL
  split
  · exact xb_if (h _)
  · rfl
theorem xb_aD {σ : xH} {a : Nat} {i : Int32} {K : UInt64 → Option ρ} {K' : UInt64 → Option ρ'} (h : ∀ v, K v = (K' v).bind G) : aD σ a i K = (aD σ a i K').bind G := by
  unfold aD
  split
  · exact xb_if (h _)
  · rfl
theorem xb_aB {E : xEn} {σ : xH} {a : Nat} {i : Int32} {K : Int32 → Option ρ} {K' : Int32 → Option ρ'} (h : ∀ v, K v = (K' v).bind G) : aB E σ a i K = (aB E σ a i K').bind G := by
  unfold aB
  split
  · exact xb_if (h _)
  · split
    · exact xb_if (h _)
    · rfl
  · rfl
theorem xb_aQ {E : xEn} {σ : xH} {a : Nat} {i : Int32} {K : Nat → Option ρ} {K' : Nat → Option ρ'} (h : ∀ v, K v = (K' v).bind G) : aQ E σ a i K = (aQ E σ a i K').bind G := by
  unfold aQ
  split
  · refine xb_if ?_
    split
    · exact h _
    · rfl
  · exact xb_if (h _)
  · rfl
theorem xb_aN {E : xEn} {σ : xH} {a : Nat} {K : Int32 → Option ρ} {K' : Int32 → Option ρ'} (h : ∀ v, K v = (K' v).bind G) : aN E σ a K = (aN E σ a K').bind G := by
  unfold aN
  split
  · exact xb_if (h _)
  · cases Nat.beq a E.2.2.2.1
    · dsimp only [cond]
      split
      · exact h _
      · rfl
    · exact h _
  · rfl
theorem xb_sI {σ : xH} {a : Nat} {i x : Int32} {K : xH → Option ρ} {K' : xH → Option ρ'} (h : ∀ v, K v = (K' v).bind G) : sI σ a i x K = (sI σ a i x K').bind G := by
  unfold sI
  split
  · exact xb_if (h _)
  · rfl
theorem xb_sB {σ : xH} {a : Nat} {i x : Int32} {K : xH → Option ρ} {K' : xH → Option ρ'} (h : ∀ v, K v = (K' v).bind G) : sB σ a i x K = (sB σ a i x K').bind G := by
  unfold sB
  split
  · exact xb_if (h _)
  · rfl
theorem xb_sL {σ : xH} {a : Nat} {i : Int32} {x : Int64} {K : xH → Option ρ} {K' : xH → Option ρ'} (h : ∀ v, K v = (K' v).bind G) : sL σ a i x K = (sL σ a i x K').bind G := by
  unfold sL
  split
  · exact xb_if (h _)
  · rfl
theorem xb_sD {σ : xH} {a : Nat} {i : Int32} {x : UInt64} {K : xH → Option ρ} {K' : xH → Option ρ'} (h : ∀ v, K v = (K' v).bind G) : sD σ a i x K = (sD σ a i x K').bind G := by
  unfold sD
  split
  · exact xb_if (h _)
  · rfl
theorem xb_sQ {E : xEn} {σ : xH} {a : Nat} {i : Int32} {b : Nat} {K : xH → Option ρ} {K' : xH → Option ρ'} (h : ∀ v, K v = (K' v).bind G) : sQ E σ a i b K = (sQ E σ a i b K').bind G := by
  unfold sQ
  split
  · exact xb_if (h _)
  · rfl
theorem xb_cpI {σ : xH} {a b : Nat} {i j n : Int32} {K : xH → Option ρ} {K' : xH → Option ρ'} (h : ∀ v, K v = (K' v).bind G) : cpI σ a i b j n K = (cpI σ a i b j n K').bind G := by
  unfold cpI
  split
  · exact xb_if (h _)
  · rfl
theorem xb_xans {T : xR → Option ρ} {T' : xR → Option ρ'} (hT : ∀ r, T r = (T' r).bind G) {tag : Nat} {r : Option xR} {k : List Value → xH → Option ρ} {k' : List Value → xH → Option ρ'} (h : ∀ v σ, k v σ = (k' v σ).bind G) : xans T tag r k = (xans T' tag r k').bind G := by
  unfold xans
  split
  · unfold cI; split <;> first | exact h _ _ | exact hT _ | rfl
  · unfold cL; split <;> first | exact h _ _ | exact hT _ | rfl
  · unfold cA; split <;> first | exact h _ _ | exact hT _ | rfl
  · unfold cF; split <;> first | exact h _ _ | exact hT _ | rfl
  · unfold cD; split <;> first | exact h _ _ | exact hT _ | rfl
  · unfold cV; split <;> first | exact h _ _ | exact hT _ | rfl
  · rfl
theorem xb_xfld {σ : xH} {info : List Nat} {a : Nat} {k : Value → Option ρ} {k' : Value → Option ρ'} (h : ∀ v, k v = (k' v).bind G) : xfld σ info a k = (xfld σ info a k').bind G := by
  unfold xfld
  split
  · exact xb_gI (fun _ => h _)
  · exact xb_gI (fun _ => h _)
  · exact xb_gL (fun _ => h _)
  · exact xb_gR (fun _ => h _)
  · rfl
theorem xb_xput {σ : xH} {info : List Nat} {a : Nat} {v : Value} {k : xH → Option ρ} {k' : xH → Option ρ'} (h : ∀ v, k v = (k' v).bind G) : xput σ info a v k = (xput σ info a v k').bind G := by
  unfold xput
  split
  · exact xb_gP h
  · split
    · exact xb_gP h
    · rfl
  · exact xb_gP h
  · exact xb_gP h
  · rfl
theorem xb_xthr {k : Nat} {T : xR → Option ρ} {T' : xR → Option ρ'} (hT : ∀ r, T r = (T' r).bind G) (r : xR) : xthr k T r = (xthr k T' r).bind G := xb_if (hT r)
theorem xb_xcall {E : xEn} {call : Nat → List Value → xH → Option xR} {MC MS : Nat} {T : xR → Option ρ} {T' : xR → Option ρ'} (hT : ∀ r, T r = (T' r).bind G) {info : List Nat} {st : List Value} {σ : xH} {bc bs : Nat} {k : List Value → xH → Nat → Nat → Option ρ} {k' : List Value → xH → Nat → Nat → Option ρ'} (h : ∀ st σ bc bs, k st σ bc bs = (k' st σ bc bs).bind G) : xcall E call MC MS T info st σ bc bs k = (xcall E call MC MS T' info st σ bc bs k').bind G := by
  unfold xcall
  split
  · refine xb_if ?_
    split
    · exact xb_xans (xb_xthr hT) (fun _ _ => h _ _ _ _)
    · split
      · exact xb_gO (xb_xans (xb_xthr hT) (fun _ _ => h _ _ _ _))
      · rfl
  · rfl
theorem xb_xprim {prim : Nat} {st : List Value} {σ : xH} {k : List Value → xH → Option ρ} {k' : List Value → xH → Option ρ'} (h : ∀ st σ, k st σ = (k' st σ).bind G) : xprim prim st σ k = (xprim prim st σ k').bind G := by
  unfold xprim
  split <;> first | exact h _ _ | exact xb_cpI (fun _ => h _ _) | rfl
theorem xb_xcc {c : ClassFile.Cond} {x y : Int32} {t f : Option ρ} {t' f' : Option ρ'} (ht : t = t'.bind G) (hf : f = f'.bind G) : xcc c x y t f = (xcc c x y t' f').bind G := by
  unfold xcc
  cases c <;> dsimp only <;> split <;> assumption
theorem xb_xsw {x : Int32} {d : Nat} {K : Nat → Option ρ} {K' : Nat → Option ρ'} (h : ∀ t, K t = (K' t).bind G) : ∀ (ts : List Nat) (lo : Nat), xsw x d K lo ts = (xsw x d K' lo ts).bind G := by
  intro ts
  induction ts with
  | nil => exact fun lo => h d
  | cons t ts ih =>
    intro lo
    unfold xsw
    split
    · exact h t
    · exact ih _
theorem xb_ite {c : Prop} [Decidable c] {x y : Option ρ} {x' y' : Option ρ'} (hx : x = x'.bind G) (hy : y = y'.bind G) : (if c then x else y) = (if c then x' else y').bind G := by
  split <;> assumption
theorem xb_kkI {o : Option Value} {k : Int32 → Option ρ} {k' : Int32 → Option ρ'} (h : ∀ x, k x = (k' x).bind G) : kkI o k = (kkI o k').bind G := by
  unfold kkI; split <;> first | exact h _ | rfl
theorem xb_t1I {st : List Value} {k : Int32 → List Value → Option ρ} {k' : Int32 → List Value → Option ρ'} (h : ∀ x st, k x st = (k' x st).bind G) : t1I st k = (t1I st k').bind G := by
  unfold t1I; split <;> first | exact h _ _ | rfl
theorem xb_t2I {st : List Value} {k : Int32 → Int32 → List Value → Option ρ} {k' : Int32 → Int32 → List Value → Option ρ'} (h : ∀ x y st, k x y st = (k' x y st).bind G) : t2I st k = (t2I st k').bind G := by
  unfold t2I; split <;> first | exact h _ _ _ | rfl
theorem xb_kkL {o : Option Value} {k : Int64 → Option ρ} {k' : Int64 → Option ρ'} (h : ∀ x, k x = (k' x).bind G) : kkL o k = (kkL o k').bind G := by
  unfold kkL; split <;> first | exact h _ | rfl
theorem xb_t1L {st : List Value} {k : Int64 → List Value → Option ρ} {k' : Int64 → List Value → Option ρ'} (h : ∀ x st, k x st = (k' x st).bind G) : t1L st k = (t1L st k').bind G := by
  unfold t1L; split <;> first | exact h _ _ | rfl
theorem xb_t2L {st : List Value} {k : Int64 → Int64 → List Value → Option ρ} {k' : Int64 → Int64 → List Value → Option ρ'} (h : ∀ x y st, k x y st = (k' x y st).bind G) : t2L st k = (t2L st k').bind G := by
  unfold t2L; split <;> first | exact h _ _ _ | rfl
theorem xb_kkF {o : Option Value} {k : UInt32 → Option ρ} {k' : UInt32 → Option ρ'} (h : ∀ x, k x = (k' x).bind G) : kkF o k = (kkF o k').bind G := by
  unfold kkF; split <;> first | exact h _ | rfl
theorem xb_t1F {st : List Value} {k : UInt32 → List Value → Option ρ} {k' : UInt32 → List Value → Option ρ'} (h : ∀ x st, k x st = (k' x st).bind G) : t1F st k = (t1F st k').bind G := by
  unfold t1F; split <;> first | exact h _ _ | rfl
theorem xb_t2F {st : List Value} {k : UInt32 → UInt32 → List Value → Option ρ} {k' : UInt32 → UInt32 → List Value → Option ρ'} (h : ∀ x y st, k x y st = (k' x y st).bind G) : t2F st k = (t2F st k').bind G := by
  unfold t2F; split <;> first | exact h _ _ _ | rfl
theorem xb_kkD {o : Option Value} {k : UInt64 → Option ρ} {k' : UInt64 → Option ρ'} (h : ∀ x, k x = (k' x).bind G) : kkD o k = (kkD o k').bind G := by
  unfold kkD; split <;> first | exact h _ | rfl
theorem xb_t1D {st : List Value} {k : UInt64 → List Value → Option ρ} {k' : UInt64 → List Value → Option ρ'} (h : ∀ x st, k x st = (k' x st).bind G) : t1D st k = (t1D st k').bind G := by
  unfold t1D; split <;> first | exact h _ _ | rfl
theorem xb_t2D {st : List Value} {k : UInt64 → UInt64 → List Value → Option ρ} {k' : UInt64 → UInt64 → List Value → Option ρ'} (h : ∀ x y st, k x y st = (k' x y st).bind G) : t2D st k = (t2D st k').bind G := by
  unfold t2D; split <;> first | exact h _ _ _ | rfl
theorem xb_kkA {o : Option Value} {k : Nat → Option ρ} {k' : Nat → Option ρ'} (h : ∀ x, k x = (k' x).bind G) : kkA o k = (kkA o k').bind G := by
  unfold kkA; split <;> first | exact h _ | rfl
theorem xb_t1A {st : List Value} {k : Nat → List Value → Option ρ} {k' : Nat → List Value → Option ρ'} (h : ∀ x st, k x st = (k' x st).bind G) : t1A st k = (t1A st k').bind G := by
  unfold t1A; split <;> first | exact h _ _ | rfl
theorem xb_t2A {st : List Value} {k : Nat → Nat → List Value → Option ρ} {k' : Nat → Nat → List Value → Option ρ'} (h : ∀ x y st, k x y st = (k' x y st).bind G) : t2A st k = (t2A st k').bind G := by
  unfold t2A; split <;> first | exact h _ _ _ | rfl
theorem xb_t3I {st : List Value} {k : Int32 → Int32 → Nat → List Value → Option ρ} {k' : Int32 → Int32 → Nat → List Value → Option ρ'} (h : ∀ x i a st, k x i a st = (k' x i a st).bind G) : t3I st k = (t3I st k').bind G := by
  unfold t3I; split <;> first | exact h _ _ _ _ | rfl
theorem xb_t3L {st : List Value} {k : Int64 → Int32 → Nat → List Value → Option ρ} {k' : Int64 → Int32 → Nat → List Value → Option ρ'} (h : ∀ x i a st, k x i a st = (k' x i a st).bind G) : t3L st k = (t3L st k').bind G := by
  unfold t3L; split <;> first | exact h _ _ _ _ | rfl
theorem xb_t3D {st : List Value} {k : UInt64 → Int32 → Nat → List Value → Option ρ} {k' : UInt64 → Int32 → Nat → List Value → Option ρ'} (h : ∀ x i a st, k x i a st = (k' x i a st).bind G) : t3D st k = (t3D st k').bind G := by
  unfold t3D; split <;> first | exact h _ _ _ _ | rfl
theorem xb_t3A {st : List Value} {k : Nat → Int32 → Nat → List Value → Option ρ} {k' : Nat → Int32 → Nat → List Value → Option ρ'} (h : ∀ x i a st, k x i a st = (k' x i a st).bind G) : t3A st k = (t3A st k').bind G := by
  unfold t3A; split <;> first | exact h _ _ _ _ | rfl
theorem xb_t2X {st : List Value} {k : Int32 → Nat → List Value → Option ρ} {k' : Int32 → Nat → List Value → Option ρ'} (h : ∀ i a st, k i a st = (k' i a st).bind G) : t2X st k = (t2X st k').bind G := by
  unfold t2X; split <;> first | exact h _ _ _ | rfl
theorem xb_tV {st : List Value} {k : Value → List Value → Option ρ} {k' : Value → List Value → Option ρ'} (h : ∀ v st, k v st = (k' v st).bind G) : tV st k = (tV st k').bind G := by
  unfold tV; split <;> first | exact xb_if (h _ _) | rfl
theorem xb_tVA {st : List Value} {k : Value → Nat → List Value → Option ρ} {k' : Value → Nat → List Value → Option ρ'} (h : ∀ v a st, k v a st = (k' v a st).bind G) : tVA st k = (tVA st k').bind G := by
  unfold tVA; split <;> first | exact h _ _ _ | rfl
theorem xb_t0 {st : List Value} {k : Option ρ} {k' : Option ρ'} (h : k = k'.bind G) : t0 st k = (t0 st k').bind G := by
  unfold t0; split <;> first | exact h | rfl
theorem xb_i1 {info : List Nat} {k : Nat → Option ρ} {k' : Nat → Option ρ'} (h : ∀ t, k t = (k' t).bind G) : i1 info k = (i1 info k').bind G := by
  unfold i1; split <;> first | exact h _ | rfl
theorem xb_iSw {info : List Nat} {k : Nat → Nat → List Nat → Option ρ} {k' : Nat → Nat → List Nat → Option ρ'} (h : ∀ d lo ts, k d lo ts = (k' d lo ts).bind G) : iSw info k = (iSw info k').bind G := by
  unfold iSw; split <;> first | exact h _ _ _ | rfl
theorem xb_nz {b : Bool} {x : Option ρ} {y : Option ρ'} (h : x = y.bind G) : nz b x = (nz b y).bind G := xb_if h
theorem xb_iK {E : xEn} {info : List Nat} {k : Value → Option ρ} {k' : Value → Option ρ'} (h : ∀ v, k v = (k' v).bind G) : iK E info k = (iK E info k').bind G := by
  unfold iK; split <;> first | exact h _ | exact xb_if (h _) | rfl
theorem xb_iK2 {info : List Nat} {k : Int64 → Option ρ} {k' : Int64 → Option ρ'} (h : ∀ v, k v = (k' v).bind G) : iK2 info k = (iK2 info k').bind G := by
  unfold iK2; split <;> first | exact h _ | rfl
theorem xb_iD {info : List Nat} {k : UInt64 → Option ρ} {k' : UInt64 → Option ρ'} (h : ∀ v, k v = (k' v).bind G) : iD info k = (iD info k').bind G := by
  unfold iD; split <;> first | exact h _ | rfl
theorem xb_iF {info : List Nat} {k : UInt32 → Option ρ} {k' : UInt32 → Option ρ'} (h : ∀ v, k v = (k' v).bind G) : iF info k = (iF info k').bind G := by
  unfold iF; split <;> first | exact h _ | rfl
theorem xb_xgf {E : xEn} {σ : xH} {info : List Nat} {a : Nat} {k : Value → Option ρ} {k' : Value → Option ρ'} (h : ∀ v, k v = (k' v).bind G) : xgf E σ info a k = (xgf E σ info a k').bind G := by
  unfold xgf
  split
  · split <;> first | exact h _ | rfl
  · split <;> first | exact h _ | rfl
  · split <;> first | exact h _ | rfl
  · exact xb_xfld h
theorem xb_xgs {E : xEn} {info : List Nat} {k : Value → Option ρ} {k' : Value → Option ρ'} (h : ∀ v, k v = (k' v).bind G) : xgs E info k = (xgs E info k').bind G := by
  unfold xgs
  split <;> first | exact h _ | exact xb_if (h _) | rfl
theorem xb_xnew {MC MS : Nat} {fin : xR → Option ρ} {fin' : xR → Option ρ'} (hfin : ∀ r, fin r = (fin' r).bind G) {info : List Nat} {st : List Value} {σ : xH} {bc bs : Nat} {k : List Value → xH → Nat → Nat → Option ρ} {k' : List Value → xH → Nat → Nat → Option ρ'} (h : ∀ st σ bc bs, k st σ bc bs = (k' st σ bc bs).bind G) : xnew MC MS fin info st σ bc bs k = (xnew MC MS fin' info st σ bc bs k').bind G := by
  unfold xnew; split <;> first | exact xb_if (h _ _ _ _) | exact xb_if (hfin _) | rfl
theorem xb_xnewa {MC MS : Nat} {x : Nat → (Nat → Int32) ⊕ (Nat → Int64) ⊕ (Nat → UInt32) ⊕ (Nat → UInt64) ⊕ (Nat → Option Nat)} {info : List Nat} {st : List Value} {σ : xH} {bc bs : Nat} {k : List Value → xH → Nat → Nat → Option ρ} {k' : List Value → xH → Nat → Nat → Option ρ'} (h : ∀ st σ bc bs, k st σ bc bs = (k' st σ bc bs).bind G) : xnewa MC MS x info st σ bc bs k = (xnewa MC MS x info st σ bc bs k').bind G := xb_t1I fun _ _ => xb_i1 fun _ => xb_if (h _ _ _ _)
theorem xb_xinv {E : xEn} {call : Nat → List Value → xH → Option xR} {MC MS : Nat} {fin : xR → Option ρ} {fin' : xR → Option ρ'} (hfin : ∀ r, fin r = (fin' r).bind G) {info : List Nat} {st : List Value} {σ : xH} {bc bs : Nat} {pr : Nat → Option ρ} {pr' : Nat → Option ρ'} (hp : ∀ p, pr p = (pr' p).bind G) {k : List Value → xH → Nat → Nat → Option ρ} {k' : List Value → xH → Nat → Nat → Option ρ'} (h : ∀ st σ bc bs, k st σ bc bs = (k' st σ bc bs).bind G) : xinv E call MC MS fin info st σ bc bs pr k = (xinv E call MC MS fin' info st σ bc bs pr' k').bind G := by
  unfold xinv; split <;> first | exact hp _ | exact xb_xcall hfin h
theorem xb_xinit {E : xEn} {call : Nat → List Value → xH → Option xR} {MC MS : Nat} {fin : xR → Option ρ} {fin' : xR → Option ρ'} (hfin : ∀ r, fin r = (fin' r).bind G) {info : List Nat} {st : List Value} {σ : xH} {bc bs : Nat} {k : List Value → xH → Nat → Nat → Option ρ} {k' : List Value → xH → Nat → Nat → Option ρ'} (h : ∀ st σ bc bs, k st σ bc bs = (k' st σ bc bs).bind G) : xinit E call MC MS fin info st σ bc bs k = (xinit E call MC MS fin' info st σ bc bs k').bind G := by
  unfold xinit; split <;> first | exact xb_t1A (fun _ _ => xb_if (h _ _ _ _)) | exact xb_xcall hfin h
theorem xb_xiret {info : List Nat} {x : Int32} {k : Option ρ} {k' : Option ρ'} (h : k = k'.bind G) : xiret info x k = (xiret info x k').bind G := by
  unfold xiret; split <;> first | exact h | exact xb_if h | rfl
theorem xb_xac {c : ACond} {b : Bool} {t f : Option ρ} {t' f' : Option ρ'} (ht : t = t'.bind G) (hf : f = f'.bind G) : xac c b t f = (xac c b t' f').bind G := by
  unfold xac; cases c <;> cases b <;> assumption
theorem xb_step {E : xEn} {call : Nat → List Value → xH → Option xR} {MC MS : Nat} {fin : xR → Option ρ} {fin' : xR → Option ρ'} (hfin : ∀ r, fin r = (fin' r).bind G)
    {K : Nat → xL → List Value → xH → Nat → Nat → Option ρ} {K' : Nat → xL → List Value → xH → Nat → Nat → Option ρ'} (hK : ∀ t L st σ bc bs, K t L st σ bc bs = (K' t L st σ bc bs).bind G)
    {nx : xL → List Value → xH → Nat → Nat → Option ρ} {nx' : xL → List Value → xH → Nat → Nat → Option ρ'} (hnx : ∀ L st σ bc bs, nx L st σ bc bs = (nx' L st σ bc bs).bind G)
    (ins : Instr) (info : List Nat) (L : xL) (st : List Value) (σ : xH) (bc bs : Nat) :
    xstep E call MC MS fin K nx ins info L st σ bc bs = (xstep E call MC MS fin' K' nx' ins info L st σ bc bs).bind G := by
  cases ins with
  | iconst i => exact hnx _ _ _ _ _
  | bipush i => exact hnx _ _ _ _ _
  | sipush i => exact hnx _ _ _ _ _
  | lconst i => exact hnx _ _ _ _ _
  | dconst i => exact xb_iD (fun _ => hnx _ _ _ _ _)
  | fconst i => show (iF info (fun v => nx L (.float v :: st) σ bc bs)) = (iF info (fun v => nx' L (.float v :: st) σ bc bs)).bind G; exact xb_iF (fun _ => hnx _ _ _ _ _)
  | ldc i => show (iK E info (fun v => nx L (v :: st) σ bc bs)) = (iK E info (fun v => nx' L (v :: st) σ bc bs)).bind G; exact xb_iK (fun _ => hnx _ _ _ _ _)
  | ldc_w i => show (iK E info (fun v => nx L (v :: st) σ bc bs)) = (iK E info (fun v => nx' L (v :: st) σ bc bs)).bind G; exact xb_iK (fun _ => hnx _ _ _ _ _)
  | ldc2_w i => show (iK2 info (fun v => nx L (.long v :: st) σ bc bs)) = (iK2 info (fun v => nx' L (.long v :: st) σ bc bs)).bind G; exact xb_iK2 (fun _ => hnx _ _ _ _ _)
  | iload i => exact xb_kkI (fun _ => hnx _ _ _ _ _)
  | iload_n i => exact xb_kkI (fun _ => hnx _ _ _ _ _)
  | lload i => exact xb_kkL (fun _ => hnx _ _ _ _ _)
  | lload_n i => exact xb_kkL (fun _ => hnx _ _ _ _ _)
  | dload i => exact xb_kkD (fun _ => hnx _ _ _ _ _)
  | aload i => exact xb_kkA (fun _ => hnx _ _ _ _ _)
  | aload_n i => exact xb_kkA (fun _ => hnx _ _ _ _ _)
  | istore i => exact xb_t1I (fun _ _ => hnx _ _ _ _ _)
  | istore_n i => exact xb_t1I (fun _ _ => hnx _ _ _ _ _)
  | lstore i => exact xb_t1L (fun _ _ => hnx _ _ _ _ _)
  | lstore_n i => exact xb_t1L (fun _ _ => hnx _ _ _ _ _)
  | dstore i => exact xb_t1D (fun _ _ => hnx _ _ _ _ _)
  | astore i => exact xb_t1A (fun _ _ => hnx _ _ _ _ _)
  | astore_n i => exact xb_t1A (fun _ _ => hnx _ _ _ _ _)
  | iinc i c => exact xb_kkI (fun _ => hnx _ _ _ _ _)
  | iadd => exact xb_t2I (fun _ _ _ => hnx _ _ _ _ _)
  | isub => exact xb_t2I (fun _ _ _ => hnx _ _ _ _ _)
  | imul => exact xb_t2I (fun _ _ _ => hnx _ _ _ _ _)
  | iand => exact xb_t2I (fun _ _ _ => hnx _ _ _ _ _)
  | ior => exact xb_t2I (fun _ _ _ => hnx _ _ _ _ _)
  | ixor => exact xb_t2I (fun _ _ _ => hnx _ _ _ _ _)
  | ishl => exact xb_t2I (fun _ _ _ => hnx _ _ _ _ _)
  | ishr => exact xb_t2I (fun _ _ _ => hnx _ _ _ _ _)
  | idiv => exact xb_t2I (fun _ _ _ => xb_nz (hnx _ _ _ _ _))
  | irem => exact xb_t2I (fun _ _ _ => xb_nz (hnx _ _ _ _ _))
  | ladd => exact xb_t2L (fun _ _ _ => hnx _ _ _ _ _)
  | lsub => exact xb_t2L (fun _ _ _ => hnx _ _ _ _ _)
  | lmul => exact xb_t2L (fun _ _ _ => hnx _ _ _ _ _)
  | ldiv => exact xb_t2L (fun _ _ _ => xb_nz (hnx _ _ _ _ _))
  | lrem => exact xb_t2L (fun _ _ _ => xb_nz (hnx _ _ _ _ _))
  | lcmp => exact xb_t2L (fun _ _ _ => hnx _ _ _ _ _)
  | i2l => exact xb_t1I (fun _ _ => hnx _ _ _ _ _)
  | l2i => exact xb_t1L (fun _ _ => hnx _ _ _ _ _)
  | i2b => exact xb_t1I (fun _ _ => hnx _ _ _ _ _)
  | i2c => exact xb_t1I (fun _ _ => hnx _ _ _ _ _)
  | i2d => exact xb_t1I (fun _ _ => hnx _ _ _ _ _)
  | l2d => exact xb_t1L (fun _ _ => hnx _ _ _ _ _)
  | i2f => exact xb_t1I (fun _ _ => hnx _ _ _ _ _)
  | l2f => exact xb_t1L (fun _ _ => hnx _ _ _ _ _)
  | f2d => exact xb_t1F (fun _ _ => xb_nz (hnx _ _ _ _ _))
  | fdiv => exact xb_t2F (fun _ _ _ => xb_nz (hnx _ _ _ _ _))
  | fsub => exact xb_t2F (fun _ _ _ => xb_nz (hnx _ _ _ _ _))
  | ddiv => exact xb_t2D (fun _ _ _ => xb_nz (hnx _ _ _ _ _))
  | dcmp o => exact xb_t2D (fun _ _ _ => hnx _ _ _ _ _)
  | dup => exact xb_tV (fun _ _ => hnx _ _ _ _ _)
  | dup2 => exact xb_tV (fun _ _ => xb_tV (fun _ _ => hnx _ _ _ _ _))
  | pop => exact xb_tV (fun _ _ => hnx _ _ _ _ _)
  | ifCond c o => exact xb_t1I (fun _ _ => xb_i1 (fun _ => xb_xcc (hK _ _ _ _ _ _) (hnx _ _ _ _ _)))
  | if_icmp c o => exact xb_t2I (fun _ _ _ => xb_i1 (fun _ => xb_xcc (hK _ _ _ _ _ _) (hnx _ _ _ _ _)))
  | if_acmp c o => exact xb_t2A (fun _ _ _ => xb_i1 (fun _ => xb_xac (hK _ _ _ _ _ _) (hnx _ _ _ _ _)))
  | goto o => exact xb_i1 (fun _ => hK _ _ _ _ _ _)
  | tableswitch a b c d => exact xb_t1I (fun _ _ => xb_iSw (fun _ _ _ => xb_xsw (fun _ => hK _ _ _ _ _ _) _ _))
  | getfield i => exact xb_t1A (fun _ _ => xb_xgf (fun _ => hnx _ _ _ _ _))
  | putfield i => exact xb_tVA (fun _ _ _ => xb_xput (fun _ => hnx _ _ _ _ _))
  | getstatic i => show (xgs E info (fun v => nx L (v :: st) σ bc bs)) = (xgs E info (fun v => nx' L (v :: st) σ bc bs)).bind G; exact xb_xgs (fun _ => hnx _ _ _ _ _)
  | iaload => exact xb_t2X (fun _ _ _ => xb_aI (fun _ => hnx _ _ _ _ _))
  | baload => exact xb_t2X (fun _ _ _ => xb_aB (fun _ => hnx _ _ _ _ _))
  | laload => exact xb_t2X (fun _ _ _ => xb_aL (fun _ => hnx _ _ _ _ _))
  | daload => exact xb_t2X (fun _ _ _ => xb_aD (fun _ => hnx _ _ _ _ _))
  | aaload => exact xb_t2X (fun _ _ _ => xb_aQ (fun _ => hnx _ _ _ _ _))
  | arraylength => exact xb_t1A (fun _ _ => xb_aN (fun _ => hnx _ _ _ _ _))
  | iastore => exact xb_t3I (fun _ _ _ _ => xb_sI (fun _ => hnx _ _ _ _ _))
  | bastore => exact xb_t3I (fun _ _ _ _ => xb_sB (fun _ => hnx _ _ _ _ _))
  | lastore => exact xb_t3L (fun _ _ _ _ => xb_sL (fun _ => hnx _ _ _ _ _))
  | dastore => exact xb_t3D (fun _ _ _ _ => xb_sD (fun _ => hnx _ _ _ _ _))
  | aastore => exact xb_t3A (fun _ _ _ _ => xb_sQ (fun _ => hnx _ _ _ _ _))
  | new i => exact xb_xnew hfin (fun _ _ _ _ => hnx _ _ _ _ _)
  | newarray i => exact xb_xnewa (fun _ _ _ _ => hnx _ _ _ _ _)
  | anewarray i => exact xb_xnewa (fun _ _ _ _ => hnx _ _ _ _ _)
  | invokespecial i => exact xb_xinit hfin (fun _ _ _ _ => hnx _ _ _ _ _)
  | invokevirtual i => exact xb_xinv hfin (fun _ => xb_nz (xb_xprim (fun _ _ => hnx _ _ _ _ _))) (fun _ _ _ _ => hnx _ _ _ _ _)
  | invokestatic i => exact xb_xinv hfin (fun _ => xb_nz (xb_xprim (fun _ _ => hnx _ _ _ _ _))) (fun _ _ _ _ => hnx _ _ _ _ _)
  | ireturn => exact xb_t1I (fun _ _ => xb_t0 (xb_xiret (hfin _)))
  | lreturn => exact xb_t1L (fun _ _ => xb_t0 (hfin _))
  | freturn => exact xb_t1F (fun _ _ => xb_t0 (hfin _))
  | dreturn => exact xb_t1D (fun _ _ => xb_t0 (hfin _))
  | areturn => exact xb_t1A (fun _ _ => xb_t0 (hfin _))
  | return_ => exact xb_t0 (hfin _)
  | _ => rfl
end PAR
/-! a block: instructions one behind another -/
section BLK
variable {ρ : Type}
def exB (E : xEn) (call : Nat → List Value → xH → Option xR) (MC MS : Nat) (fin : xR → Option ρ) (K : Nat → xL → List Value → xH → Nat → Nat → Option ρ) (ep : Nat) : List xI → xL → List Value → xH → Nat → Nat → Option ρ
  | [] => fun L st σ bc bs => K ep L st σ bc bs
  | i :: r => fun L st σ bc bs => xstep E call MC MS fin K (exB E call MC MS fin K ep r) i.2.1 i.2.2 L st σ bc bs
end BLK
theorem xb_exB {ρ ρ' : Type} {G : ρ' → Option ρ} {E : xEn} {call : Nat → List Value → xH → Option xR} {MC MS : Nat} {fin : xR → Option ρ} {fin' : xR → Option ρ'} (hfin : ∀ r, fin r = (fin' r).bind G)
    {K : Nat → xL → List Value → xH → Nat → Nat → Option ρ} {K' : Nat → xL → List Value → xH → Nat → Nat → Option ρ'} (hK : ∀ t L st σ bc bs, K t L st σ bc bs = (K' t L st σ bc bs).bind G) (ep : Nat) :
    ∀ (is : List xI) (L : xL) (st : List Value) (σ : xH) (bc bs : Nat), exB E call MC MS fin K ep is L st σ bc bs = (exB E call MC MS fin' K' ep is L st σ bc bs).bind G := by
  intro is
  induction is with
  | nil => exact fun _ _ _ _ _ => hK _ _ _ _ _ _
  | cons i r ih => exact fun L st σ bc bs => xb_step hfin hK ih _ _ _ _ _ _ _
end
section
/-! A METHOD'S RUN: block by block; its value is what some number of blocks comes to. -/
abbrev xBl : Type := List (Nat × List Nat × List xI × Nat)
def xlk : xBl → Nat → Option (List Nat × List xI × Nat)
  | [], _ => none
  | b :: bs, pc => bif Nat.beq b.1 pc then some b.2 else xlk bs pc
noncomputable def xli {α : Type} (f : Nat → Option α) : Option α := @dite _ (∃ r, ∃ n, f n = some r) (Classical.propDecidable _) (fun h => some h.choose) (fun _ => none)
theorem xli_some {α : Type} {f : Nat → Option α} (hm : ∀ n r, f n = some r → f (n + 1) = some r) {n : Nat} {r : α} (h : f n = some r) : xli f = some r := by
  have up : ∀ k m r, f m = some r → f (m + k) = some r := by
    intro k
    induction k with
    | zero => exact fun _ _ h => h
    | succ k ih => exact fun m r h => hm _ _ (ih m r h)
  have hx : ∃ r, ∃ n, f n = some r := ⟨r, n, h⟩
  unfold xli
  rw [dif_pos hx]
  obtain ⟨n', h'⟩ := hx.choose_spec
  have h1 := up n' n r h
  have h2 := up n n' _ h'
  rw [Nat.add_comm] at h2
  rw [h2] at h1
  exact h1
theorem xli_of {α : Type} {f : Nat → Option α} {r : α} (h : xli f = some r) : ∃ n, f n = some r := by
  unfold xli at h
  split at h
  · next hx =>
    obtain ⟨n, h'⟩ := hx.choose_spec
    exact ⟨n, by rw [← Option.some.inj h]; exact h'⟩
  · cases h
theorem xli_none {α : Type} {f : Nat → Option α} (h : ∀ n r, f n ≠ some r) : xli f = none := by
  unfold xli
  rw [dif_neg]
  rintro ⟨r, n, hn⟩
  exact h n r hn
section RUN
variable (E : xEn) (call : Nat → List Value → xH → Option xR) (MC MS : Nat) (bl : xBl)
/-- one block, its ways out as data -/
def xex (j : xJ) : Option (xR ⊕ xJ) := match xlk bl j.1 with
  | some b => exB E call MC MS (fun r => some (.inl r)) (fun t L st σ bc bs => some (.inr (t, L, st, σ, bc, bs))) b.2.2 b.2.1 (xpick j.2.1 b.1) j.2.2.1 j.2.2.2.1 j.2.2.2.2.1 j.2.2.2.2.2
  | none => none
def xrn : Nat → xJ → Option xR
  | 0, _ => none
  | n + 1, j => (xex E call MC MS bl j).bind (Sum.elim some (xrn n))
noncomputable def xval (j : xJ) : Option xR := xli (fun n => xrn E call MC MS bl n j)
theorem xrn_mono : ∀ (n : Nat) (j : xJ) (r : xR), xrn E call MC MS bl n j = some r → xrn E call MC MS bl (n + 1) j = some r := by
  intro n
  induction n with
  | zero => exact fun _ _ h => by cases h
  | succ n ih =>
    intro j r h
    unfold xrn at h ⊢
    cases hx : xex E call MC MS bl j with
    | none => rw [hx] at h; cases h
    | some x =>
      rw [hx] at h
      cases x with
      | inl q => exact h
      | inr j' => exact ih j' r h
theorem xval_some {n : Nat} {j : xJ} {r : xR} (h : xrn E call MC MS bl n j = some r) : xval E call MC MS bl j = some r := xli_some (fun n r => xrn_mono E call MC MS bl n j r) h
theorem xval_eq (j : xJ) : xval E call MC MS bl j = (xex E call MC MS bl j).bind (Sum.elim some (xval E call MC MS bl)) := by
  cases hx : xex E call MC MS bl j with
  | none =>
    refine xli_none (fun n r h => ?_)
    cases n with
    | zero => cases h
    | succ n => unfold xrn at h; rw [hx] at h; cases h
  | some x =>
    cases x with
    | inl q => exact xval_some E call MC MS bl (n := 1) (by unfold xrn; rw [hx]; rfl)
    | inr j' =>
      show _ = xval E call MC MS bl j'
      cases hv : xval E call MC MS bl j' with
      | none =>
        refine xli_none (fun n r h => ?_)
        cases n with
        | zero => cases h
        | succ n =>
          unfold xrn at h
          rw [hx] at h
          have h1 : xval E call MC MS bl j' = some r := xval_some E call MC MS bl (n := n) h
          rw [hv] at h1
          cases h1
      | some r =>
        obtain ⟨n, hn⟩ := xli_of hv
        exact xval_some E call MC MS bl (n := n + 1) (by unfold xrn; rw [hx]; exact hn)
/-- from a block's head, its ways out as continuations -/
theorem xval_blk {pc : Nat} {b : List Nat × List xI × Nat} (hb : xlk bl pc = some b) (L : xL) (st : List Value) (σ : xH) (bc bs : Nat) :
    xval E call MC MS bl (pc, L, st, σ, bc, bs) = exB E call MC MS some (fun t L st σ bc bs => xval E call MC MS bl (t, L, st, σ, bc, bs)) b.2.2 b.2.1 (xpick L b.1) st σ bc bs := by
  rw [xval_eq]
  unfold xex
  dsimp only
  rw [hb]
  exact (xb_exB (G := Sum.elim some (xval E call MC MS bl)) (fun _ => rfl) (fun _ _ _ _ _ _ => rfl) _ _ _ _ _ _ _).symm
end RUN
/-- a method: its name, its bytes, how many locals, what it answers, the cells and slots that it may make; the table: its blocks and its class's pool -/
abbrev xMth : Type := MethodName × ByteArray × Nat × Option FieldType × Nat × Nat
abbrev xTab : Type := Nat → Option (xMth × xBl × List (Nat × Nat × List Nat))
/-- the methods' values, calls nested at most d deep -/
noncomputable def xsem (T : xTab) (E : xEn) : Nat → Nat → List Value → xH → Option xR
  | 0 => fun _ _ _ => none
  | d + 1 => fun key args σ => match T key with
    | some (M, bl, _) => bif Nat.ble (xcat args) M.2.2.1 then xval E (xsem T E d) M.2.2.2.2.1 M.2.2.2.2.2 bl (0, lv_args 0 args, [], σ, 0, 0) else none
    | none => none
end
section
/-! What an answer of a step's arms tells of stack, locals, 'info'. -/
section INV
variable {ρ : Type} {z : ρ}
theorem iv_if {b : Bool} {k : Option ρ} (h : (bif b then k else none) = some z) : b = true ∧ k = some z := by
  cases b
  · cases h
  · exact ⟨rfl, h⟩
theorem iv_nz {b : Bool} {k : Option ρ} (h : nz b k = some z) : b = true ∧ k = some z := iv_if h
theorem iv_kkI {q : Option Value} {k : Int32 → Option ρ} (h : kkI q k = some z) : ∃ x, q = some (.int x) ∧ k x = some z := by
  unfold kkI at h
  split at h
  · exact ⟨_, rfl, h⟩
  · cases h
theorem iv_t1I {st : List Value} {k : Int32 → List Value → Option ρ} (h : t1I st k = some z) : ∃ x r, st = .int x :: r ∧ k x r = some z := by
  unfold t1I at h
  split at h
  · exact ⟨_, _, rfl, h⟩
  · cases h
theorem iv_t2I {st : List Value} {k : Int32 → Int32 → List Value → Option ρ} (h : t2I st k = some z) : ∃ x y r, st = .int y :: .int x :: r ∧ k x y r = some z := by
  unfold t2I at h
  split at h
  · exact ⟨_, _, _, rfl, h⟩
  · cases h
theorem iv_kkL {q : Option Value} {k : Int64 → Option ρ} (h : kkL q k = some z) : ∃ x, q = some (.long x) ∧ k x = some z := by
  unfold kkL at h
  split at h
  · exact ⟨_, rfl, h⟩
  · cases h
theorem iv_t1L {st : List Value} {k : Int64 → List Value → Option ρ} (h : t1L st k = some z) : ∃ x r, st = .long x :: r ∧ k x r = some z := by
  unfold t1L at h
  split at h
  · exact ⟨_, _, rfl, h⟩
  · cases h
theorem iv_t2L {st : List Value} {k : Int64 → Int64 → List Value → Option ρ} (h : t2L st k = some z) : ∃ x y r, st = .long y :: .long x :: r ∧ k x y r = some z := by
  unfold t2L at h
  split at h
  · exact ⟨_, _, _, rfl, h⟩
  · cases h
theorem iv_kkF {q : Option Value} {k : UInt32 → Option ρ} (h : kkF q k = some z) : ∃ x, q = some (.float x) ∧ k x = some z := by
  unfold kkF at h
  split at h
  · exact ⟨_, rfl, h⟩
  · cases h
theorem iv_t1F {st : List Value} {k : UInt32 → List Value → Option ρ} (h : t1F st k = some z) : ∃ x r, st = .float x :: r ∧ k x r = some z := by
  unfold t1F at h
  split at h
  · exact ⟨_, _, rfl, h⟩
  · cases h
theorem iv_t2F {st : List Value} {k : UInt32 → UInt32 → List Value → Option ρ} (h : t2F st k = some z) : ∃ x y r, st = .float y :: .float x :: r ∧ k x y r = some z := by
  unfold t2F at h
  split at h
  · exact ⟨_, _, _, rfl, h⟩
  · cases h
theorem iv_kkD {q : Option Value} {k : UInt64 → Option ρ} (h : kkD q k = some z) : ∃ x, q = some (.double x) ∧ k x = some z := by
  unfold kkD at h
  split at h
  · exact ⟨_, rfl, h⟩
  · cases h
theorem iv_t1D {st : List Value} {k : UInt64 → List Value → Option ρ} (h : t1D st k = some z) : ∃ x r, st = .double x :: r ∧ k x r = some z := by
  unfold t1D at h
  split at h
  · exact ⟨_, _, rfl, h⟩
  · cases h
theorem iv_t2D {st : List Value} {k : UInt64 → UInt64 → List Value → Option ρ} (h : t2D st k = some z) : ∃ x y r, st = .double y :: .double x :: r ∧ k x y r = some z := by
  unfold t2D at h
  split at h
  · exact ⟨_, _, _, rfl, h⟩
  · cases h
theorem iv_kkA {q : Option Value} {k : Nat → Option ρ} (h : kkA q k = some z) : ∃ x, q = some (.ref x) ∧ k x = some z := by
  unfold kkA at h
  split at h
  · exact ⟨_, rfl, h⟩
  · cases h
theorem iv_t1A {st : List Value} {k : Nat → List Value → Option ρ} (h : t1A st k = some z) : ∃ x r, st = .ref x :: r ∧ k x r = some z := by
  unfold t1A at h
  split at h
  · exact ⟨_, _, rfl, h⟩
  · cases h
theorem iv_t2A {st : List Value} {k : Nat → Nat → List Value → Option ρ} (h : t2A st k = some z) : ∃ x y r, st = .ref y :: .ref x :: r ∧ k x y r = some z := by
  unfold t2A at h
  split at h
  · exact ⟨_, _, _, rfl, h⟩
  · cases h
theorem iv_t3I {st : List Value} {k : Int32 → Int32 → Nat → List Value → Option ρ} (h : t3I st k = some z) : ∃ x i a r, st = .int x :: .int i :: .ref a :: r ∧ k x i a r = some z := by
  unfold t3I at h
  split at h
  · exact ⟨_, _, _, _, rfl, h⟩
  · cases h
theorem iv_t3L {st : List Value} {k : Int64 → Int32 → Nat → List Value → Option ρ} (h : t3L st k = some z) : ∃ x i a r, st = .long x :: .int i :: .ref a :: r ∧ k x i a r = some z := by
  unfold t3L at h
  split at h
  · exact ⟨_, _, _, _, rfl, h⟩
  · cases h
theorem iv_t3D {st : List Value} {k : UInt64 → Int32 → Nat → List Value → Option ρ} (h : t3D st k = some z) : ∃ x i a r, st = .double x :: .int i :: .ref a :: r ∧ k x i a r = some z := by
  unfold t3D at h
  split at h
  · exact ⟨_, _, _, _, rfl, h⟩
  · cases h
theorem iv_t3A {st : List Value} {k : Nat → Int32 → Nat → List Value → Option ρ} (h : t3A st k = some z) : ∃ x i a r, st = .ref x :: .int i :: .ref a :: r ∧ k x i a r = some z := by
  unfold t3A at h
  split at h
  · exact ⟨_, _, _, _, rfl, h⟩
  · cases h
theorem iv_t2X {st : List Value} {k : Int32 → Nat → List Value → Option ρ} (h : t2X st k = some z) : ∃ i a r, st = .int i :: .ref a :: r ∧ k i a r = some z := by
  unfold t2X at h
  split at h
  · exact ⟨_, _, _, rfl, h⟩
  · cases h
theorem iv_tV {st : List Value} {k : Value → List Value → Option ρ} (h : tV st k = some z) : ∃ v r, st = v :: r ∧ v.category = 1 ∧ k v r = some z := by
  unfold tV at h
  split at h
  · obtain ⟨h1, h2⟩ := iv_if h
    exact ⟨_, _, rfl, Nat.eq_of_beq_eq_true h1, h2⟩
  · cases h
theorem iv_tVA {st : List Value} {k : Value → Nat → List Value → Option ρ} (h : tVA st k = some z) : ∃ v a r, st = v :: .ref a :: r ∧ k v a r = some z := by
  unfold tVA at h
  split at h
  · exact ⟨_, _, _, rfl, h⟩
  · cases h
theorem iv_t0 {st : List Value} {k : Option ρ} (h : t0 st k = some z) : st = [] ∧ k = some z := by
  unfold t0 at h
  split at h
  · exact ⟨rfl, h⟩
  · cases h
theorem iv_i1 {info : List Nat} {k : Nat → Option ρ} (h : i1 info k = some z) : ∃ t, info = [t] ∧ k t = some z := by
  unfold i1 at h
  split at h
  · exact ⟨_, rfl, h⟩
  · cases h
theorem iv_iSw {info : List Nat} {k : Nat → Nat → List Nat → Option ρ} (h : iSw info k = some z) : ∃ d lo ts, info = d :: lo :: ts ∧ k d lo ts = some z := by
  unfold iSw at h
  split at h
  · exact ⟨_, _, _, rfl, h⟩
  · cases h
theorem iv_xsw {x : Int32} {d : Nat} {K : Nat → Option ρ} : ∀ (ts : List Nat) (lo : Nat), xsw x d K lo ts = some z → (∃ j t, ts[j]? = some t ∧ x = nI (lo + j) ∧ K t = some z) ∨ ((∀ j, j < ts.length → ¬ x = nI (lo + j)) ∧ K d = some z) := by
  intro ts
  induction ts with
  | nil => exact fun lo h => Or.inr ⟨fun j hj => absurd hj (Nat.not_lt_zero j), h⟩
  | cons t ts ih =>
    intro lo h
    unfold xsw at h
    split at h
    · next hx => exact Or.inl ⟨0, t, rfl, hx, h⟩
    · next hx =>
      rcases ih (lo + 1) h with ⟨j, t', h1, h2, h3⟩ | ⟨h1, h2⟩
      · exact Or.inl ⟨j + 1, t', by simpa using h1, by rw [h2]; congr 1; omega, h3⟩
      · refine Or.inr ⟨fun j hj => ?_, h2⟩
        cases j with
        | zero => exact hx
        | succ j =>
          have h3 := h1 j (by simpa using hj)
          rwa [show lo + 1 + j = lo + (j + 1) by omega] at h3
theorem iv_gV {σ : xH} {ci k a : Nat} {K : Value → Option ρ} (h : gV σ ci k a K = some z) : ∃ fs v, σ.1 a = some (.inr (ci, fs)) ∧ fs[k]? = some v ∧ K v = some z := by
  unfold gV at h
  split at h
  · next c fs he =>
    obtain ⟨h1, h2⟩ := iv_if h
    have hc := Nat.eq_of_beq_eq_true h1
    subst hc
    split at h2
    · next v hv => exact ⟨fs, v, he, hv, h2⟩
    · cases h2
  · cases h
theorem iv_gI {σ : xH} {ci k a : Nat} {K : Int32 → Option ρ} (h : gI σ ci k a K = some z) : ∃ fs x, σ.1 a = some (.inr (ci, fs)) ∧ fs[k]? = some (.int x) ∧ K x = some z := by
  obtain ⟨fs, v, h1, h2, h3⟩ := iv_gV h
  cases v <;> first | exact ⟨fs, _, h1, h2, h3⟩ | cases h3
theorem iv_gL {σ : xH} {ci k a : Nat} {K : Int64 → Option ρ} (h : gL σ ci k a K = some z) : ∃ fs x, σ.1 a = some (.inr (ci, fs)) ∧ fs[k]? = some (.long x) ∧ K x = some z := by
  obtain ⟨fs, v, h1, h2, h3⟩ := iv_gV h
  cases v <;> first | exact ⟨fs, _, h1, h2, h3⟩ | cases h3
theorem iv_gR {σ : xH} {ci k a : Nat} {K : Nat → Option ρ} (h : gR σ ci k a K = some z) : ∃ fs x, σ.1 a = some (.inr (ci, fs)) ∧ fs[k]? = some (.ref x) ∧ K x = some z := by
  obtain ⟨fs, v, h1, h2, h3⟩ := iv_gV h
  cases v <;> first | exact ⟨fs, _, h1, h2, h3⟩ | cases h3
theorem iv_gP {σ : xH} {ci k a : Nat} {v : Value} {K : xH → Option ρ} (h : gP σ ci k a v K = some z) : ∃ fs, σ.1 a = some (.inr (ci, fs)) ∧ k < fs.length ∧ K (xup σ.1 a (.inr (ci, fs.set k v)), σ.2) = some z := by
  unfold gP at h
  split at h
  · next c fs he =>
    obtain ⟨h1, h2⟩ := iv_if h
    rw [Bool.and_eq_true] at h1
    have hc := Nat.eq_of_beq_eq_true h1.1
    subst hc
    exact ⟨fs, he, Nat.le_of_ble_eq_true h1.2, h2⟩
  · cases h
/-- a field's read: the class, the place, what lies there, by the tag -/
theorem iv_xfld {σ : xH} {info : List Nat} {a : Nat} {k : Value → Option ρ} (h : xfld σ info a k = some z) : ∃ ci i t n fs v, info = [ci, i, t, n] ∧ σ.1 a = some (.inr (ci, fs)) ∧ fs[i]? = some v ∧ k v = some z := by
  unfold xfld at h
  split at h
  · obtain ⟨fs, x, h1, h2, h3⟩ := iv_gI h
    exact ⟨_, _, _, _, fs, _, rfl, h1, h2, h3⟩
  · obtain ⟨fs, x, h1, h2, h3⟩ := iv_gI h
    exact ⟨_, _, _, _, fs, _, rfl, h1, h2, h3⟩
  · obtain ⟨fs, x, h1, h2, h3⟩ := iv_gL h
    exact ⟨_, _, _, _, fs, _, rfl, h1, h2, h3⟩
  · obtain ⟨fs, x, h1, h2, h3⟩ := iv_gR h
    exact ⟨_, _, _, _, fs, _, rfl, h1, h2, h3⟩
  · cases h
/-- the type that a tag names, of what may be put there -/
def xfit (t : Nat) (v : Value) : Prop := (t = 0 ∧ ∃ x, v = .int x) ∨ (t = 5 ∧ ∃ x, v = .int x ∧ narrow .boolean (.int x) = .int x) ∨ (t = 1 ∧ ∃ x, v = .long x) ∨ (t = 2 ∧ ∃ x, v = .ref x)
theorem iv_xput {σ : xH} {info : List Nat} {a : Nat} {v : Value} {k : xH → Option ρ} (h : xput σ info a v k = some z) : ∃ ci i t n fs, info = [ci, i, t, n] ∧ σ.1 a = some (.inr (ci, fs)) ∧ i < fs.length ∧ xfit t v ∧ k (xup σ.1 a (.inr (ci, fs.set i v)), σ.2) = some z := by
  unfold xput at h
  split at h
  · obtain ⟨fs, h1, h2, h3⟩ := iv_gP h
    exact ⟨_, _, _, _, fs, rfl, h1, h2, Or.inl ⟨rfl, _, rfl⟩, h3⟩
  · split at h
    · next hn =>
      obtain ⟨fs, h1, h2, h3⟩ := iv_gP h
      exact ⟨_, _, _, _, fs, rfl, h1, h2, Or.inr (Or.inl ⟨rfl, _, rfl, hn⟩), h3⟩
    · cases h
  · obtain ⟨fs, h1, h2, h3⟩ := iv_gP h
    exact ⟨_, _, _, _, fs, rfl, h1, h2, Or.inr (Or.inr (Or.inl ⟨rfl, _, rfl⟩)), h3⟩
  · obtain ⟨fs, h1, h2, h3⟩ := iv_gP h
    exact ⟨_, _, _, _, fs, rfl, h1, h2, Or.inr (Or.inr (Or.inr ⟨rfl, _, rfl⟩)), h3⟩
  · cases h
theorem iv_gO {E : xEn} {σ : xH} {ci a : Nat} {K : Option ρ} (h : gO E σ ci a K = some z) : ((∃ fs, σ.1 a = some (.inr (ci, fs))) ∨ (ci = 99 ∧ ∃ i, xfind E.2.1 a xNS = some i)) ∧ K = some z := by
  unfold gO at h
  split at h
  · next c fs he =>
    obtain ⟨h1, h2⟩ := iv_if h
    have hc := Nat.eq_of_beq_eq_true h1
    subst hc
    exact ⟨Or.inl ⟨_, he⟩, h2⟩
  · obtain ⟨h1, h2⟩ := iv_if h
    rw [Bool.and_eq_true] at h1
    exact ⟨Or.inr ⟨Nat.eq_of_beq_eq_true h1.1, Option.isSome_iff_exists.mp h1.2⟩, h2⟩
  · cases h
theorem iv_xfind {f : Nat → Nat} {a i : Nat} : ∀ {n : Nat}, xfind f a n = some i → i < n ∧ f i = a := by
  intro n
  induction n with
  | zero => intro h; cases h
  | succ n ih =>
    intro h
    unfold xfind at h
    split at h
    · next j hj =>
      cases h
      obtain ⟨h1, h2⟩ := ih hj
      exact ⟨by omega, h2⟩
    · obtain ⟨h1, h2⟩ := iv_if h
      cases h2
      exact ⟨Nat.lt_succ_self _, Nat.eq_of_beq_eq_true h1⟩
theorem iv_xin {i : Int32} {n : Nat} (h : xin i n = true) : vp_in i n := by
  unfold xin at h
  unfold vp_in
  exact of_decide_eq_true h
theorem iv_aI {σ : xH} {a : Nat} {i : Int32} {K : Int32 → Option ρ} (h : aI σ a i K = some z) : ∃ n f, σ.1 a = some (.inl (0, n, .inl f)) ∧ vp_in i n ∧ K (f i.toNatClampNeg) = some z := by
  unfold aI at h
  split at h
  · next k n f he =>
    obtain ⟨h1, h2⟩ := iv_if h
    rw [Bool.and_eq_true] at h1
    have hc := Nat.eq_of_beq_eq_true h1.1
    subst hc
    exact ⟨n, f, he, iv_xin h1.2, h2⟩
  · cases h
theorem iv_aL {σ : xH} {a : Nat} {i : Int32} {K : Int64 → Option ρ} (h : aL σ a i K = some z) : ∃ n f, σ.1 a = some (.inl (2, n, .inr (.inl f))) ∧ vp_in i n ∧ K (f i.toNatClampNeg) = some z := by
  unfold aL at h
  split at h
  · next k n f he =>
    obtain ⟨h1, h2⟩ := iv_if h
    rw [Bool.and_eq_true] at h1
    have hc := Nat.eq_of_beq_eq_true h1.1
    subst hc
    exact ⟨n, f, he, iv_xin h1.2, h2⟩
  · cases h
theorem iv_aD {σ : xH} {a : Nat} {i : Int32} {K : UInt64 → Option ρ} (h : aD σ a i K = some z) : ∃ n f, σ.1 a = some (.inl (3, n, .inr (.inr (.inr (.inl f))))) ∧ vp_in i n ∧ K (f i.toNatClampNeg) = some z := by
  unfold aD at h
  split at h
  · next k n f he =>
    obtain ⟨h1, h2⟩ := iv_if h
    rw [Bool.and_eq_true] at h1
    have hc := Nat.eq_of_beq_eq_true h1.1
    subst hc
    exact ⟨n, f, he, iv_xin h1.2, h2⟩
  · cases h
theorem iv_aB {E : xEn} {σ : xH} {a : Nat} {i : Int32} {K : Int32 → Option ρ} (h : aB E σ a i K = some z) : (∃ n f, σ.1 a = some (.inl (1, n, .inl f)) ∧ vp_in i n ∧ K (f i.toNatClampNeg) = some z) ∨ ∃ j, xfind E.2.2.1 a xNS = some j ∧ vp_in i (xtx j).length ∧ K ((xtx j).getD i.toNatClampNeg 0) = some z := by
  unfold aB at h
  split at h
  · next k n f he =>
    obtain ⟨h1, h2⟩ := iv_if h
    rw [Bool.and_eq_true] at h1
    have hc := Nat.eq_of_beq_eq_true h1.1
    subst hc
    exact Or.inl ⟨n, f, he, iv_xin h1.2, h2⟩
  · split at h
    · next j hj =>
      obtain ⟨h1, h2⟩ := iv_if h
      exact Or.inr ⟨j, hj, iv_xin h1, h2⟩
    · cases h
  · cases h
theorem iv_aQ {E : xEn} {σ : xH} {a : Nat} {i : Int32} {K : Nat → Option ρ} (h : aQ E σ a i K = some z) : (∃ k n f b, σ.1 a = some (.inl (k, n, .inr (.inr (.inr (.inr f))))) ∧ (k = 4 ∨ k = 5) ∧ vp_in i n ∧ f i.toNatClampNeg = some b ∧ K b = some z) ∨ (a = E.2.2.2.1 ∧ vp_in i 29 ∧ K (E.1 i.toNatClampNeg) = some z) := by
  unfold aQ at h
  split at h
  · next k n f he =>
    obtain ⟨h1, h2⟩ := iv_if h
    rw [Bool.and_eq_true, Bool.and_eq_true] at h1
    split at h2
    · next b hb =>
      have k1 := Nat.le_of_ble_eq_true h1.1
      have k2 := Nat.le_of_ble_eq_true h1.2.1
      exact Or.inl ⟨k, n, f, b, he, (Nat.lt_or_ge k 5).elim (fun q => Or.inl (Nat.le_antisymm (Nat.le_of_lt_succ q) k1)) (fun q => Or.inr (Nat.le_antisymm k2 q)), iv_xin h1.2.2, hb, h2⟩
    · cases h2
  · obtain ⟨h1, h2⟩ := iv_if h
    rw [Bool.and_eq_true] at h1
    exact Or.inr ⟨Nat.eq_of_beq_eq_true h1.1, iv_xin h1.2, h2⟩
  · cases h
theorem iv_aN {E : xEn} {σ : xH} {a : Nat} {K : Int32 → Option ρ} (h : aN E σ a K = some z) : (∃ k n x, σ.1 a = some (.inl (k, n, x)) ∧ k ≤ 5 ∧ K (nI n) = some z) ∨ (a = E.2.2.2.1 ∧ K 29 = some z) ∨ ∃ j, xfind E.2.2.1 a xNS = some j ∧ K (nI (xtx j).length) = some z := by
  unfold aN at h
  split at h
  · next k n x he =>
    obtain ⟨h1, h2⟩ := iv_if h
    exact Or.inl ⟨k, n, x, he, Nat.le_of_ble_eq_true h1, h2⟩
  · cases hb : Nat.beq a E.2.2.2.1
    · rw [hb] at h
      dsimp only [cond] at h
      split at h
      · next j hj => exact Or.inr (Or.inr ⟨j, hj, h⟩)
      · cases h
    · rw [hb] at h
      exact Or.inr (Or.inl ⟨Nat.eq_of_beq_eq_true hb, h⟩)
  · cases h
theorem iv_sI {σ : xH} {a : Nat} {i : Int32} {x : Int32} {K : xH → Option ρ} (h : sI σ a i x K = some z) : ∃ n f, σ.1 a = some (.inl (0, n, .inl f)) ∧ vp_in i n ∧ K (xup σ.1 a (.inl (0, n, .inl (upd f i.toNatClampNeg x))), σ.2) = some z := by
  unfold sI at h
  split at h
  · next k n f he =>
    obtain ⟨h1, h2⟩ := iv_if h
    rw [Bool.and_eq_true] at h1
    have hc := Nat.eq_of_beq_eq_true h1.1
    subst hc
    exact ⟨n, f, he, iv_xin h1.2, h2⟩
  · cases h
theorem iv_sB {σ : xH} {a : Nat} {i : Int32} {x : Int32} {K : xH → Option ρ} (h : sB σ a i x K = some z) : ∃ n f, σ.1 a = some (.inl (1, n, .inl f)) ∧ vp_in i n ∧ K (xup σ.1 a (.inl (1, n, .inl (upd f i.toNatClampNeg (vp_nar .byte x)))), σ.2) = some z := by
  unfold sB at h
  split at h
  · next k n f he =>
    obtain ⟨h1, h2⟩ := iv_if h
    rw [Bool.and_eq_true] at h1
    have hc := Nat.eq_of_beq_eq_true h1.1
    subst hc
    exact ⟨n, f, he, iv_xin h1.2, h2⟩
  · cases h
theorem iv_sL {σ : xH} {a : Nat} {i : Int32} {x : Int64} {K : xH → Option ρ} (h : sL σ a i x K = some z) : ∃ n f, σ.1 a = some (.inl (2, n, .inr (.inl f))) ∧ vp_in i n ∧ K (xup σ.1 a (.inl (2, n, .inr (.inl (vp_updL f i.toNatClampNeg x)))), σ.2) = some z := by
  unfold sL at h
  split at h
  · next k n f he =>
    obtain ⟨h1, h2⟩ := iv_if h
    rw [Bool.and_eq_true] at h1
    have hc := Nat.eq_of_beq_eq_true h1.1
    subst hc
    exact ⟨n, f, he, iv_xin h1.2, h2⟩
  · cases h
theorem iv_sD {σ : xH} {a : Nat} {i : Int32} {x : UInt64} {K : xH → Option ρ} (h : sD σ a i x K = some z) : ∃ n f, σ.1 a = some (.inl (3, n, .inr (.inr (.inr (.inl f))))) ∧ vp_in i n ∧ K (xup σ.1 a (.inl (3, n, .inr (.inr (.inr (.inl (vf_upd f i.toNatClampNeg x)))))), σ.2) = some z := by
  unfold sD at h
  split at h
  · next k n f he =>
    obtain ⟨h1, h2⟩ := iv_if h
    rw [Bool.and_eq_true] at h1
    have hc := Nat.eq_of_beq_eq_true h1.1
    subst hc
    exact ⟨n, f, he, iv_xin h1.2, h2⟩
  · cases h
theorem iv_sQ {E : xEn} {σ : xH} {a : Nat} {i : Int32} {b : Nat} {K : xH → Option ρ} (h : sQ E σ a i b K = some z) : ∃ k n f, σ.1 a = some (.inl (k, n, .inr (.inr (.inr (.inr f))))) ∧ vp_in i n ∧ ((k = 4 ∧ ∃ j, xfind E.1 b 29 = some j) ∨ (k = 5 ∧ ∃ fs, σ.1 b = some (.inr (2, fs)))) ∧ K (xup σ.1 a (.inl (k, n, .inr (.inr (.inr (.inr (va_up f i.toNatClampNeg (some b))))))), σ.2) = some z := by
  unfold sQ at h
  split at h
  · next k n f he =>
    obtain ⟨h1, h2⟩ := iv_if h
    rw [Bool.and_eq_true] at h1
    refine ⟨k, n, f, he, iv_xin h1.1, ?_, h2⟩
    have h3 := h1.2
    unfold xfits at h3
    cases h4 : Nat.beq k 4
    · rw [h4] at h3
      cases h5 : Nat.beq k 5
      · rw [h5] at h3; cases h3
      · rw [h5] at h3
        dsimp only [cond] at h3
        split at h3
        · next c fs hb =>
          have hc := Nat.eq_of_beq_eq_true h3
          subst hc
          exact Or.inr ⟨Nat.eq_of_beq_eq_true h5, fs, hb⟩
        · cases h3
    · rw [h4] at h3
      exact Or.inl ⟨Nat.eq_of_beq_eq_true h4, Option.isSome_iff_exists.mp h3⟩
  · cases h
theorem iv_cpI {σ : xH} {a b : Nat} {i j n : Int32} {K : xH → Option ρ} (h : cpI σ a i b j n K = some z) : ∃ m f m' g, σ.1 a = some (.inl (0, m, .inl f)) ∧ σ.1 b = some (.inl (0, m', .inl g)) ∧ a ≠ b ∧ 0 ≤ i.toInt ∧ 0 ≤ j.toInt ∧ 0 ≤ n.toInt ∧ i.toInt + n.toInt ≤ m ∧ j.toInt + n.toInt ≤ m' ∧ K (xup σ.1 b (.inl (0, m', .inl (va_cpy f g i.toNatClampNeg j.toNatClampNeg n.toNatClampNeg))), σ.2) = some z := by
  unfold cpI at h
  split at h
  · next k m f k' m' g he hg =>
    obtain ⟨h1, h2⟩ := iv_if h
    simp only [Bool.and_eq_true, Bool.not_eq_true', decide_eq_true_eq] at h1
    obtain ⟨q1, q2, q3, q4, q5, q6, q7, q8⟩ := h1
    have e1 := Nat.eq_of_beq_eq_true q1
    have e2 := Nat.eq_of_beq_eq_true q2
    subst e1; subst e2
    exact ⟨m, f, m', g, he, hg, Nat.ne_of_beq_eq_false q3, q4, q5, q6, q7, q8, h2⟩
  · cases h
theorem iv_iK {E : xEn} {info : List Nat} {k : Value → Option ρ} (h : iK E info k = some z) : (∃ c, info = [0, c] ∧ k (.int (nI c)) = some z) ∨ (∃ c, info = [1, c] ∧ k (.int (- nI c)) = some z) ∨ ∃ i, info = [2, i] ∧ i < xNS ∧ k (.ref (E.2.1 i)) = some z := by
  unfold iK at h
  split at h
  · exact Or.inl ⟨_, rfl, h⟩
  · exact Or.inr (Or.inl ⟨_, rfl, h⟩)
  · obtain ⟨h1, h2⟩ := iv_if h
    exact Or.inr (Or.inr ⟨_, rfl, Nat.le_of_ble_eq_true h1, h2⟩)
  · cases h
theorem iv_iK2 {info : List Nat} {k : Int64 → Option ρ} (h : iK2 info k = some z) : (∃ c, info = [0, c] ∧ k (lN c) = some z) ∨ ∃ c, info = [1, c] ∧ k (- lN c) = some z := by
  unfold iK2 at h
  split at h
  · exact Or.inl ⟨_, rfl, h⟩
  · exact Or.inr ⟨_, rfl, h⟩
  · cases h
theorem iv_iD {info : List Nat} {k : UInt64 → Option ρ} (h : iD info k = some z) : info = [0] ∧ k FP.dconst0 = some z := by
  unfold iD at h
  split at h
  · exact ⟨rfl, h⟩
  · cases h
theorem iv_iF {info : List Nat} {k : UInt32 → Option ρ} (h : iF info k = some z) : (info = [0] ∧ k FP.fconst0 = some z) ∨ (info = [1] ∧ k FP.fconst1 = some z) := by
  unfold iF at h
  split at h
  · exact Or.inl ⟨rfl, h⟩
  · exact Or.inr ⟨rfl, h⟩
  · cases h
theorem iv_xgf {E : xEn} {σ : xH} {info : List Nat} {a : Nat} {k : Value → Option ρ} (h : xgf E σ info a k = some z) : (info = [77] ∧ ∃ i, xfind E.1 a 29 = some i ∧ k (.ref (E.2.1 (xtt i))) = some z) ∨ (info = [78] ∧ ∃ i, xfind E.2.1 a xNS = some i ∧ k (.ref (E.2.2.1 i)) = some z) ∨ (info = [79] ∧ (∃ i, xfind E.2.1 a xNS = some i) ∧ k (.int 0) = some z) ∨ xfld σ info a k = some z := by
  unfold xgf at h
  split at h
  · split at h
    · next i hi => exact Or.inl ⟨rfl, i, hi, h⟩
    · cases h
  · split at h
    · next i hi => exact Or.inr (Or.inl ⟨rfl, i, hi, h⟩)
    · cases h
  · split at h
    · next i hi => exact Or.inr (Or.inr (Or.inl ⟨rfl, ⟨i, hi⟩, h⟩))
    · cases h
  · exact Or.inr (Or.inr (Or.inr h))
theorem iv_xgs {E : xEn} {info : List Nat} {k : Value → Option ρ} (h : xgs E info k = some z) : (∃ i, info = [0, i] ∧ i < 29 ∧ k (.ref (E.1 i)) = some z) ∨ (info = [1] ∧ k (.ref E.2.2.2.1) = some z) ∨ (info = [2] ∧ k (.int 1) = some z) ∨ (info = [3] ∧ k E.2.2.2.2 = some z) := by
  unfold xgs at h
  split at h
  · obtain ⟨h1, h2⟩ := iv_if h
    exact Or.inl ⟨_, rfl, Nat.le_of_ble_eq_true h1, h2⟩
  · exact Or.inr (Or.inl ⟨rfl, h⟩)
  · exact Or.inr (Or.inr (Or.inl ⟨rfl, h⟩))
  · exact Or.inr (Or.inr (Or.inr ⟨rfl, h⟩))
  · cases h
theorem iv_xiret {info : List Nat} {x : Int32} {k : Option ρ} (h : xiret info x k = some z) : ∃ t, info = [t] ∧ (t = 0 ∨ narrow (xty t) (.int x) = .int x) ∧ k = some z := by
  unfold xiret at h
  split at h
  · exact ⟨0, rfl, Or.inl rfl, h⟩
  · obtain ⟨h1, h2⟩ := iv_if h
    exact ⟨_, rfl, Or.inr (of_decide_eq_true h1), h2⟩
  · cases h
end INV
end
section
/-! THE WORLD ON THE HEAP, and the rows of the machine that read and write it. -/
abbrev vwCl : List vw_C := [(RX0, TX0, 3), (RX1, TX1, 3), (RX2, TX2, 9), (RX3, TX3, 10), (RX4, TX4, 5), (RX5, TX5, 5), (RX6, TX6, 6), (RX9, TX9, 6), (RX10, TX10, 7), (RX11, TX11, 31)]
abbrev xG : Type := va_G × (Nat → ClassId)
def xce (ar : Nat → ClassId) (e : va_E) : va_E := match e with
  | .inl x => .inl (ar x.1, x.2)
  | .inr o => .inr o
def xtys (ar : Nat → ClassId) : List (ClassId × FieldType) := [(ar 0, .int), (ar 1, .byte), (ar 2, .long), (ar 3, .double), (ar 4, .object "ShellWatch$Token"), (ar 5, .object "ShellWatch$Game")]
/-- the cells of the world lie in H -/
def xWo (G : xG) (w : Nat → Option va_E) (H : Heap) : Prop := ∀ (a : Nat) (e : va_E), w a = some e → va_at G.1 vwCl (a, xce G.2 e) H
/-- where a walk stands: the heap is as long as told, it holds the world, the world lies in A, outside A it is as at the start -/
def xS (G : xG) (A : Nat → Prop) (H0 : Heap) (σ : xH) (H : Heap) (locs : List Loc) : Prop := H.size = σ.2 ∧ xWo G σ.1 H ∧ (∀ a, σ.1 a ≠ none → A a) ∧ va_S A H0 H locs
theorem xWo.one {G : xG} {w : Nat → Option va_E} {H : Heap} (h : xWo G w H) {a : Nat} {e : va_E} (he : w a = some e) : va_P G.1 vwCl [(a, xce G.2 e)] H := by
  intro k q hk
  match k, hk with
  | 0, hk => cases hk; exact h a e he
theorem xup_same {w : Nat → Option va_E} {a : Nat} {e : va_E} : xup w a e a = some e := by
  unfold xup
  rw [Nat.beq_refl]
  rfl
theorem xup_ne {w : Nat → Option va_E} {a b : Nat} {e : va_E} (h : b ≠ a) : xup w a e b = w b := by
  unfold xup
  cases hb : Nat.beq b a
  · rfl
  · exact absurd (Nat.eq_of_beq_eq_true hb) h
theorem xS.put {G : xG} {A : Nat → Prop} {H0 H H' : Heap} {σ : xH} {locs : List Loc} {a i : Nat} {e e' : va_E} (hS : xS G A H0 σ H locs) (he : σ.1 a = some e) (e1 : va_at G.1 vwCl (a, xce G.2 e') H') (e2 : H'.size = H.size) (e3 : ∀ q, q ≠ a → H'[q]? = H[q]?) : xS G A H0 (xup σ.1 a e', σ.2) H' (locs ++ [⟨a, i⟩]) := by
  obtain ⟨h1, h2, h3, h4⟩ := hS
  refine ⟨e2.trans h1, fun b x hb => ?_, fun b hb => ?_, h4.put e2 e3 (h3 a (by rw [he]; exact fun h => by cases h))⟩
  · by_cases hab : b = a
    · subst hab
      dsimp only at hb
      rw [xup_same] at hb
      cases hb
      exact e1
    · dsimp only at hb
      rw [xup_ne hab] at hb
      exact (h2 b x hb).kept (e3 b hab)
  · by_cases hab : b = a
    · subst hab
      exact h3 b (by rw [he]; exact fun h => by cases h)
    · dsimp only at hb
      rw [xup_ne hab] at hb
      exact h3 b hb
def xWs : List Cond := lw_tbl.filter goodWord
def xnest (w : Cond) : Bool := match w with
  | .fieldLinkNest .. => true
  | .methodLinkNest .. => true
  | .castable .. => true
  | .declares _ => true
  | _ => false
/-- what the tables say beside the good words -/
def xNw (U : State) : Prop := ∀ w ∈ lw_tbl, xnest w = true → va_Nw w U
theorem xNw.warm {s U : State} (hW : s.WarmedH U.vm) (h : xNw s) : xNw U := by
  intro w hw hn
  have h1 := h w hw hn
  cases w <;> first | exact va_Nw.warmF hW h1 | exact va_Nw.warmM hW h1 | exact va_Nw.warmC hW h1 | exact va_Nw.warmD hW h1 | cases hn
/-- a field of the world's classes, as the pool names it: own (0), of a nest mate (1), own and final (2) -/
def xokF (own : String) (idx ci k nest : Nat) : Bool := match vwCl[ci]? with
  | some r => Nat.blt k r.2.2 && (bif Nat.beq nest 1 then decide (Cond.fieldLinkNest own idx (r.2.1 k).1 (r.2.1 k).2.1 (r.2.1 k).2.2.1 "ShellWatch" ∈ lw_tbl) else decide (Cond.fieldLink own idx (r.2.1 k).1 (r.2.1 k).2.1 (r.2.1 k).2.2.1 ∈ xWs))
  | none => false
theorem xin0 : ∀ w ∈ wsX00, w ∈ xWs := by decide +kernel
theorem xin1 : ∀ w ∈ wsX10, w ∈ xWs := by decide +kernel
theorem xin2 : ∀ w ∈ wsX20, w ∈ xWs := by decide +kernel
theorem xin3 : ∀ w ∈ wsX30, w ∈ xWs := by decide +kernel
theorem xin4 : ∀ w ∈ wsX40, w ∈ xWs := by decide +kernel
theorem xin5 : ∀ w ∈ wsX50, w ∈ xWs := by decide +kernel
theorem xin6 : ∀ w ∈ wsX60, w ∈ xWs := by decide +kernel
theorem xin7 : ∀ w ∈ wsX90, w ∈ xWs := by decide +kernel
theorem xin8 : ∀ w ∈ wsX100, w ∈ xWs := by decide +kernel
theorem xin9 : ∀ w ∈ wsX110, w ∈ xWs := by decide +kernel
theorem xcl_ok {ci : Nat} {r : vw_C} (h : vwCl[ci]? = some r) : (∀ w ∈ u_ws r.1 r.2.1 r.2.2, w ∈ xWs) ∧ (∀ k, k < r.2.2 → parseFieldDescriptor (r.2.1 k).2.2.1 = some (xtyp ci k)) ∧ (∀ a, a < r.2.2 → ∀ b, b < r.2.2 → a ≠ b → (r.2.1 a).2.1 ≠ (r.2.1 b).2.1) := by
  match ci, h with
  | 0, h => cases h; exact ⟨xin0, tyX0_ok, nmX0⟩
  | 1, h => cases h; exact ⟨xin1, tyX1_ok, nmX1⟩
  | 2, h => cases h; exact ⟨xin2, tyX2_ok, nmX2⟩
  | 3, h => cases h; exact ⟨xin3, tyX3_ok, nmX3⟩
  | 4, h => cases h; exact ⟨xin4, tyX4_ok, nmX4⟩
  | 5, h => cases h; exact ⟨xin5, tyX5_ok, nmX5⟩
  | 6, h => cases h; exact ⟨xin6, tyX6_ok, nmX6⟩
  | 7, h => cases h; exact ⟨xin7, tyX9_ok, nmX9⟩
  | 8, h => cases h; exact ⟨xin8, tyX10_ok, nmX10⟩
  | 9, h => cases h; exact ⟨xin9, tyX11_ok, nmX11⟩
  | k + 10, h => simp [vwCl] at h
section ROWS
variable {p : Program} {l : Launch} {e : Env} {R : Room} {s : State} {m : MethodId} {args : Array Value} {below : List Frame} {meth : Method} {c : Code} {H : Heap} {locs : List Loc} {cells slots : Nat} {Q : State → Prop}
variable {cc : ByteArray} {pc : Nat} {ls : Array Slot} {rest : List Value} {G : xG} {A : Nat → Prop} {σ : xH} {H0 : Heap} {own : String} {a : Nat}
theorem x_get (hx : p.tables.exec = Jvm.exec) (hb : c.code = cc) (hts : ∀ w ∈ xWs, w.before args s = true) (hnw : xNw s) (hown : s.vm.findClass own = some m.cls) (hK : va_K G.1 vwCl (xtys G.2) s) (hS : xS G A H0 σ H locs)
    {idx ci k nest : Nat} {fs : List Value} {v : Value} (hok : xokF own idx ci k nest = true) (he : σ.1 a = some (.inr (ci, fs))) (hv : fs[k]? = some v) (hdg : decode cc pc = .ok (.getfield idx, 3))
    (kk : W p l e R s m args below meth c H locs cells slots Q (F0 m (pc + 3) ls (v :: rest))) : W p l e R s m args below meth c H locs cells slots Q (F0 m pc ls (.ref a :: rest)) := by
  unfold xokF at hok
  split at hok
  · next r hr =>
    rw [Bool.and_eq_true] at hok
    have hk := Nat.le_of_ble_eq_true hok.1
    have hP := hS.2.1.one he
    have hin := (xcl_ok hr).1
    cases hn : Nat.beq nest 1
    · rw [hn] at hok
      exact va_get (ws := [(a, .inr (ci, fs))]) hx hb hts hin hown hK hP 0 rfl hr k hk (hts _ (of_decide_eq_true hok.2)) (fun _ h => h) hv hdg kk
    · rw [hn] at hok
      exact va_getN (ws := [(a, .inr (ci, fs))]) hx hb hts hin hown hK hP 0 rfl hr k hk (va_Nw.use rfl (hnw _ (of_decide_eq_true hok.2) rfl)) (fun _ h => h) hv hdg kk
  · cases hok
/-- of the put: the type that the tag names, and that the field is no final one, or one of a constructor's own class -/
def xokP (own : String) (ci k t nest : Nat) : Bool := match vwCl[ci]? with
  | some r => decide (xtyp ci k = bif Nat.beq t 5 then .boolean else bif Nat.beq t 1 then .long else bif Nat.beq t 0 then .int else xtyp ci k) && ((bif Nat.beq t 2 then (match xtyp ci k with
    | .object _ => true
    | .array _ => true
    | _ => false) else true) && (bif Nat.beq nest 2 then (r.2.1 k).2.2.2 && decide ((r.2.1 k).1 = own) else !(r.2.1 k).2.2.2))
  | none => false
end ROWS
end
section
/-! The rows that write, each with the heap's length told. -/
section ROWS2
variable {p : Program} {l : Launch} {e : Env} {R : Room} {s : State} {m : MethodId} {args : Array Value} {below : List Frame} {meth : Method} {c : Code} {H : Heap} {locs : List Loc} {cells slots : Nat} {Q : State → Prop}
variable {cc : ByteArray} {pc : Nat} {ls : Array Slot} {rest : List Value} {G : xG} {A : Nat → Prop} {σ : xH} {H0 : Heap} {own : String} {a : Nat}
theorem xfit_ok {ci k t : Nat} {r : vw_C} {nest : Nat} {v : Value} (hr : vwCl[ci]? = some r) (hok : xokP own ci k t nest = true) (h : xfit t v) : narrow (xtyp ci k) v = v ∧ fits (xtyp ci k) v = true := by
  unfold xokP at hok
  rw [hr] at hok
  simp only [Bool.and_eq_true, decide_eq_true_eq] at hok
  obtain ⟨h1, h2, -⟩ := hok
  rcases h with ⟨rfl, x, rfl⟩ | ⟨rfl, x, rfl, hn⟩ | ⟨rfl, x, rfl⟩ | ⟨rfl, x, rfl⟩
  · have h3 : xtyp ci k = .int := h1
    rw [h3]
    exact ⟨rfl, rfl⟩
  · have h3 : xtyp ci k = .boolean := h1
    rw [h3]
    refine ⟨hn, ?_⟩
    have h4 : x &&& 1 = x := by
      have := hn
      simpa [narrow] using this
    have h5 : x = 0 ∨ x = 1 := by
      obtain ⟨j, hj, hxj⟩ := pk_andE x (m := 1) 1 rfl
      rw [← h4, hxj]
      match j, hj with
      | 0, _ => exact Or.inl rfl
      | 1, _ => exact Or.inr rfl
    rcases h5 with rfl | rfl <;> rfl
  · have h3 : xtyp ci k = .long := h1
    rw [h3]
    exact ⟨rfl, rfl⟩
  · have h3 : (match xtyp ci k with
      | .object _ => true
      | .array _ => true
      | _ => false) = true := h2
    split at h3
    · next C hC => rw [hC]; exact ⟨rfl, rfl⟩
    · next C hC => rw [hC]; exact ⟨rfl, rfl⟩
    · cases h3
theorem x_put (hx : p.tables.exec = Jvm.exec) (hb : c.code = cc) (hts : ∀ w ∈ xWs, w.before args s = true) (hnw : xNw s) (hown : s.vm.findClass own = some m.cls) (hK : va_K G.1 vwCl (xtys G.2) s) (hS : xS G A H0 σ H locs)
    {idx ci k t nest : Nat} {fs : List Value} {v : Value} (hok : xokF own idx ci k nest = true) (hokP : xokP own ci k t nest = true) (hini : nest = 2 → meth.name = "<init>") (he : σ.1 a = some (.inr (ci, fs))) (hl : k < fs.length) (hf : xfit t v) (hdg : decode cc pc = .ok (.putfield idx, 3))
    (kk : ∀ (H1 : Heap) (locs1 : List Loc), xS G A H0 (xup σ.1 a (.inr (ci, fs.set k v)), σ.2) H1 locs1 → W p l e R s m args below meth c H1 locs1 cells slots Q (F0 m (pc + 3) ls rest)) : W p l e R s m args below meth c H locs cells slots Q (F0 m pc ls (v :: .ref a :: rest)) := by
  unfold xokF at hok
  split at hok
  · next r hr =>
    rw [Bool.and_eq_true] at hok
    have hk := Nat.le_of_ble_eq_true hok.1
    obtain ⟨hin, hty, hnm⟩ := xcl_ok hr
    obtain ⟨hn, hft⟩ := xfit_ok hr hokP hf
    obtain ⟨C, T, N⟩ := r
    dsimp only at hin hty hnm hk hok
    have hap := va_apart (own := own) hts hin (xtyp ci) hty hnm hK hr
    obtain ⟨r, h1, cell, q1, q2, q3, q4⟩ := hS.2.1 a _ he
    have hrr : r = (C, T, N) := Option.some.inj (h1.symm.trans hr)
    subst hrr
    obtain ⟨hSl, hfc, kC, hkC, hkind⟩ := hK.1 ci _ hr
    obtain ⟨cf, kf, fi, f, hi, hsl⟩ := hSl k hk
    have hst := (u_facts hfc hkC (u_lays hts hin hk) hi).1
    have hP1 : xokP own ci k t nest = true := hokP
    unfold xokP at hP1
    rw [hr] at hP1
    simp only [Bool.and_eq_true] at hP1
    have hfin := hP1.2.2
    have fin : ∀ (H' : Heap), H'[a]? = some (cell.setSlot (G.1.2 ci k) v) → H'.size = H.size → (∀ q, q ≠ a → H'[q]? = H[q]?) → W p l e R s m args below meth c H' (locs ++ [⟨a, G.1.2 ci k⟩]) cells slots Q (F0 m (pc + 3) ls rest) := by
      intro H' e1 e2 e3
      refine kk H' _ (hS.put he ?_ e2 e3)
      exact ⟨(C, T, N), hr, t_OB.to (V := updV (vp_V fs) k v) ⟨_, e1, q2, q3, t_set q4 hap hk v⟩ (fun j _ => vp_updV_set hl v j)⟩
    have hslot : G.1.2 ci k < cell.slots.size := k2_hasslot (q4 k hk)
    cases h2 : Nat.beq nest 2
    · rw [h2] at hfin
      have hfin0 : (T k).2.2.2 = false := by
        have : (!(T k).2.2.2) = true := hfin
        simpa using this
      have hlay := hts _ (hin _ (u_in_lay hk))
      unfold u_lay at hlay
      rw [if_neg (by rw [hfin0]; decide)] at hlay
      have h6 := u_store hfc hkC hkind hlay hi (hty k hk) hn hft
      cases hne : Nat.beq nest 1
      · rw [hne] at hok
        have hlink := hts _ (of_decide_eq_true hok.2)
        refine W.putK hx hb (f := f) ⟨hown, hlink, ⟨_, _, _, hi⟩, hst⟩ (by rw [q2]; exact h6) q1 q3 (by rw [hsl]; exact hslot) rfl rfl hdg fun H' e1 e2 e3 => ?_
        rw [hsl] at e1 ⊢
        exact fin H' e1 e2 e3
      · rw [hne] at hok
        have hlink := va_Nw.use (A := args) rfl (hnw _ (of_decide_eq_true hok.2) rfl)
        refine va_WputK hx hb (f := f) hown hlink hi hst (by rw [q2]; exact h6) q1 q3 (by rw [hsl]; exact hslot) rfl rfl hdg fun H' e1 e2 e3 => ?_
        rw [hsl] at e1 ⊢
        exact fin H' e1 e2 e3
    · have hn2 := Nat.eq_of_beq_eq_true h2
      subst hn2
      rw [h2] at hfin
      have hfin1 : ((T k).2.2.2 && decide ((T k).1 = own)) = true := hfin
      rw [Bool.and_eq_true, decide_eq_true_eq] at hfin1
      have hlink := hts _ (of_decide_eq_true (show decide (Cond.fieldLink own idx (T k).1 (T k).2.1 (T k).2.2.1 ∈ xWs) = true from hok.2))
      have hlay := hts _ (hin _ (u_in_lay hk))
      unfold u_lay at hlay
      rw [if_pos hfin1.1] at hlay
      have hcf : m.cls = cf := by
        obtain ⟨_, _, c', _, _, _, -, -, hf', -, -, -, hown2, -⟩ := Cond.laysFinal_spec hlay
        have e1 : c' = cf := by have := hi.symm.trans hf'; simp at this; exact this.1.symm
        rw [hfin1.2] at hown2
        rw [← e1]; exact Option.some.inj (hown.symm.trans hown2)
      have h6 := u_fits hfc hkC hkind (Or.inr hlay) hi (hty k hk) hn hft
      refine W.putFinK hx hb hown hlink hi hst hcf (hini rfl) (by rw [q2]; exact h6) q1 q3 (by rw [hsl]; exact hslot) rfl rfl hdg fun H' e1 e2 e3 => ?_
      rw [hsl] at e1 ⊢
      exact fin H' e1 e2 e3
  · cases hok
theorem x_iast (hx : p.tables.exec = Jvm.exec) (hb : c.code = cc) (hK : va_K G.1 vwCl (xtys G.2) s) (hS : xS G A H0 σ H locs) {n : Nat} {f : Nat → Int32} (he : σ.1 a = some (.inl (0, n, .inl f))) {i x : Int32} (hin : vp_in i n) (hdg : decode cc pc = .ok (.iastore, 1))
    (kk : ∀ (H1 : Heap) (locs1 : List Loc), xS G A H0 (xup σ.1 a (.inl (0, n, .inl (upd f i.toNatClampNeg x))), σ.2) H1 locs1 → W p l e R s m args below meth c H1 locs1 cells slots Q (F0 m (pc + 1) ls rest)) : W p l e R s m args below meth c H locs cells slots Q (F0 m pc ls (.int x :: .int i :: .ref a :: rest)) := by
  refine W.iast hx hb (hS.2.1 a _ he) ((hK.2 0 _ rfl).1 n (fun j => .int (f j))) (fun q => by cases q) (by show ¬ (i < 0 ∨ (arrV _ _ _).slots.size ≤ _); rw [arrV_size]; exact hin) rfl rfl hdg fun H1 e1 z oq => ?_
  refine kk H1 _ (hS.put he ?_ z oq)
  show H1[a]? = some (vp_cell _ _)
  rw [e1]
  dsimp only [xce]
  rw [vp_cell_i, vp_cell_i, arrV_store]
  congr 2
  funext q
  by_cases hq : q = i.toNatClampNeg
  · subst hq
    simp [updV, upd]
  · simp [updV, upd, hq]
theorem x_bast (hx : p.tables.exec = Jvm.exec) (hb : c.code = cc) (hK : va_K G.1 vwCl (xtys G.2) s) (hS : xS G A H0 σ H locs) {n : Nat} {f : Nat → Int32} (he : σ.1 a = some (.inl (1, n, .inl f))) {i x : Int32} (hin : vp_in i n) (hdg : decode cc pc = .ok (.bastore, 1))
    (kk : ∀ (H1 : Heap) (locs1 : List Loc), xS G A H0 (xup σ.1 a (.inl (1, n, .inl (upd f i.toNatClampNeg (vp_nar .byte x)))), σ.2) H1 locs1 → W p l e R s m args below meth c H1 locs1 cells slots Q (F0 m (pc + 1) ls rest)) : W p l e R s m args below meth c H locs cells slots Q (F0 m pc ls (.int x :: .int i :: .ref a :: rest)) := by
  refine W.bast hx hb (hS.2.1 a _ he) ((hK.2 1 _ rfl).1 n (fun j => .int (f j))) (fun q => by cases q) (by show ¬ (i < 0 ∨ (arrV _ _ _).slots.size ≤ _); rw [arrV_size]; exact hin) rfl rfl hdg fun H1 e1 z oq => ?_
  refine kk H1 _ (hS.put he ?_ z oq)
  show H1[a]? = some (vp_cell _ _)
  rw [e1]
  dsimp only [xce]
  rw [vp_cell_i, vp_cell_i, arrV_store]
  congr 2
  funext q
  by_cases hq : q = i.toNatClampNeg
  · subst hq
    simp [updV, upd, vp_nar, narrow]
  · simp [updV, upd, hq]
theorem x_last (hx : p.tables.exec = Jvm.exec) (hb : c.code = cc) (hK : va_K G.1 vwCl (xtys G.2) s) (hS : xS G A H0 σ H locs) {n : Nat} {f : Nat → Int64} (he : σ.1 a = some (.inl (2, n, .inr (.inl f)))) {i : Int32} {x : Int64} (hin : vp_in i n) (hdg : decode cc pc = .ok (.lastore, 1))
    (kk : ∀ (H1 : Heap) (locs1 : List Loc), xS G A H0 (xup σ.1 a (.inl (2, n, .inr (.inl (vp_updL f i.toNatClampNeg x)))), σ.2) H1 locs1 → W p l e R s m args below meth c H1 locs1 cells slots Q (F0 m (pc + 1) ls rest)) : W p l e R s m args below meth c H locs cells slots Q (F0 m pc ls (.long x :: .int i :: .ref a :: rest)) := by
  refine W.last hx hb (hS.2.1 a _ he) ((hK.2 2 _ rfl).1 n (fun j => .long (f j))) (fun q => by cases q) (by show ¬ (i < 0 ∨ (arrV _ _ _).slots.size ≤ _); rw [arrV_size]; exact hin) rfl rfl hdg fun H1 e1 z oq => ?_
  refine kk H1 _ (hS.put he ?_ z oq)
  show H1[a]? = some (vp_cell _ _)
  rw [e1]
  dsimp only [xce]
  rw [vp_cell_l, vp_cell_l, arrV_store]
  congr 2
  funext q
  by_cases hq : q = i.toNatClampNeg
  · subst hq
    simp [updV, vp_updL]
  · simp [updV, vp_updL, hq]
theorem x_dast (hx : p.tables.exec = Jvm.exec) (hb : c.code = cc) (hK : va_K G.1 vwCl (xtys G.2) s) (hS : xS G A H0 σ H locs) {n : Nat} {f : Nat → UInt64} (he : σ.1 a = some (.inl (3, n, .inr (.inr (.inr (.inl f)))))) {i : Int32} {x : UInt64} (hin : vp_in i n) (hdg : decode cc pc = .ok (.dastore, 1))
    (kk : ∀ (H1 : Heap) (locs1 : List Loc), xS G A H0 (xup σ.1 a (.inl (3, n, .inr (.inr (.inr (.inl (vf_upd f i.toNatClampNeg x)))))), σ.2) H1 locs1 → W p l e R s m args below meth c H1 locs1 cells slots Q (F0 m (pc + 1) ls rest)) : W p l e R s m args below meth c H locs cells slots Q (F0 m pc ls (.double x :: .int i :: .ref a :: rest)) := by
  refine W.dast hx hb (hS.2.1 a _ he) ((hK.2 3 _ rfl).1 n (fun j => .double (f j))) (fun q => by cases q) (by show ¬ (i < 0 ∨ (arrV _ _ _).slots.size ≤ _); rw [arrV_size]; exact hin) rfl rfl hdg fun H1 e1 z oq => ?_
  refine kk H1 _ (hS.put he ?_ z oq)
  show H1[a]? = some (vp_cell _ _)
  rw [e1]
  dsimp only [xce]
  rw [vp_cell_d, vp_cell_d, arrV_store]
  congr 2
  funext q
  by_cases hq : q = i.toNatClampNeg
  · subst hq
    simp [updV, vf_upd]
  · simp [updV, vf_upd, hq]
end ROWS2
end
section
/-! WHAT STAYS: the Tokens, the literals, the statics; a method's contract in the interpreter's words; calls. -/
def xtn (i : Nat) : String := (["END", "NUMBER", "UNKNOWN", "SEMICOLON", "PLUS", "MINUS", "TIMES", "OVER", "OPEN", "CLOSE", "SHELLS", "STEPS", "BLINKS", "CHANCE", "BALL", "SCRATCH", "TRUST", "CALM", "SLY", "PURSE", "BLINK", "ODDS", "SWAP", "FEINT", "REST", "STEAL", "PLANT", "PEEK", "REPEAT"] : List String).getD i ""
/-- the sites of text constants: class, place in its pool, text, which literal -/
def xK (lds : List (String × Nat × String × Nat)) (exs : List (String × Nat × String)) (E : xEn) (A : Nat → Prop) (U : State) (H : Heap) : Prop :=
  (∀ i, i < 29 → va_Z RX8 (xtn i) "LShellWatch$Token;" (.ref (E.1 i)) A U H) ∧
  va_Z RX8 "ALL" "[LShellWatch$Token;" (.ref E.2.2.2.1) A U H ∧
  va_T (.object RX8) E.2.2.2.1 29 (fun j => .ref (E.1 j)) A U H ∧
  (∀ i, i < 29 → va_O RX8 (E.1 i) A U H ∧ va_OF RX8 "text" "Ljava/lang/String;" (.ref (E.2.1 (xtt i))) (E.1 i) A U H) ∧
  vk_S xNS (xbyt.map List.length) xbyt E.2.1 E.2.2.1 A U H ∧
  va_Z RJ0 "COMPACT_STRINGS" "Z" (.int 1) A U H ∧
  va_Z RJ3 "SIOOBE_FORMATTER" "Ljava/util/function/BiFunction;" E.2.2.2.2 A U H ∧
  vx_Zq Bundle.tN "UNASSIGNED_STACK" Bundle.steD A U H ∧ vx_Zq Bundle.tN "SUPPRESSED_SENTINEL" Bundle.listD A U H ∧
  xNw U ∧ va_AO "ShellWatch$Token" U ∧ va_AO "ShellWatch$Game" U ∧
  (∀ q ∈ lds, vk_R q.1 q.2.1 q.2.2.1 (E.2.1 q.2.2.2) U) ∧ ∀ q ∈ exs, ∃ sa, vk_R q.1 q.2.1 q.2.2 sa U
theorem xK.to {lds : List (String × Nat × String × Nat)} {exs : List (String × Nat × String)} {E : xEn} {A B : Nat → Prop} {s U : State} {H0 H : Heap} (hW : s.WarmedH U.vm) (h : xK lds exs E A s H0) (hq : ∀ a : Nat, a < H0.size → ¬ A a → H[a]? = H0[a]?) (hB : ∀ q, B q → A q) : xK lds exs E B U H := by
  have hv := hW.alike
  obtain ⟨h1, h2, h3, h4, h5, h6, h7, h8, h9, h10, h11, h12, h13, h14⟩ := h
  exact ⟨fun i hi => ((h1 i hi).kept hq).narrow hB |>.moved hv, ((h2.kept hq).narrow hB).moved hv, ((h3.kept hq).narrow hB).moved hv,
    fun i hi => ⟨(((h4 i hi).1.kept hq).narrow hB).moved hv, (((h4 i hi).2.kept hq).narrow hB).moved hv⟩, ((h5.kept hq).narrow hB).moved hv,
    ((h6.kept hq).narrow hB).moved hv, ((h7.kept hq).narrow hB).moved hv, ((h8.kept hq).narrow hB).moved hv, ((h9.kept hq).narrow hB).moved hv,
    h10.warm hW, h11.moved hv, h12.moved hv, fun q hq9 => (h13 q hq9).warm hW, fun q hq9 => (h14 q hq9).imp fun sa h => h.warm hW⟩
def xA (σ : xH) : Nat → Prop := fun q => σ.1 q ≠ none ∨ σ.2 ≤ q
def xPre (lds : List (String × Nat × String × Nat)) (exs : List (String × Nat × String)) (G : xG) (E : xEn) (av : List Value) (σ : xH) : Array Value → State → Prop := va_Pc av (fun U => U.heap.size = σ.2 ∧ xWo G σ.1 U.heap ∧ va_K G.1 vwCl (xtys G.2) U ∧ xK lds exs E (xA σ) U U.heap)
def xEnd (G : xG) (A : Nat → Prop) (w : Nat → Option va_E) (st t : State) : Prop := xWo G w t.heap ∧ (∀ a, w a ≠ none → A a) ∧ va_F A st t
def xQc (G : xG) (A : Nat → Prop) (r : xR) : Array Value → State → Outcome → State → Prop := fun _ st oc t => ∃ v, r.1 = .inl v ∧ oc = .returned v ∧ t.heap.size = r.2.2 ∧ xEnd G A r.2.1 st t
def xXC (G : xG) (A : Nat → Prop) (r : xR) : String → State → State → Prop := fun E st t => r.1 = .inr E ∧ xEnd G A r.2.1 st t
def xrm (d mc ms : Nat) : Room := { frames := d + 12, cells := mc, slots := ms, locals := 40 * d + 200 }
def xws (M : xMth) : List Cond := .code M.1 M.2.1 M.2.2.1 M.2.2.2.1 :: xWs
/-- the contract of a method: where its code's value is r, it comes to r -/
def xMet (lds : List (String × Nat × String × Nat)) (exs : List (String × Nat × String)) (l : Launch) (G : xG) (E : xEn) (d : Nat) (M : xMth) (f : List Value → xH → Option xR) : Prop :=
  ∀ (av : List Value) (σ : xH) (r : xR), f av σ = some r → vx_Met l M.1 (xws M) (xrm d M.2.2.2.2.1 M.2.2.2.2.2) (xPre lds exs G E av σ) (xQc G (xA σ) r) (xXC G (xA σ) r) M.2.2.2.2.1 M.2.2.2.2.2 (xA σ)
theorem xPre_blind {lds : List (String × Nat × String × Nat)} {exs : List (String × Nat × String)} {G : xG} {E : xEn} {av : List Value} {σ : xH} : FrameBlind (xPre lds exs G E av σ) := by
  intro a U g mk h
  obtain ⟨h1, h2, h3, h4, h5⟩ := h
  exact ⟨h1, h2, h3, va_K.moved (u := U) (U := U.calling g mk a) (Vm.Alike.refl U.vm) h4, xK.to (s := U) (U := U.calling g mk a) (State.WarmedH.refl U) h5 (fun _ _ _ => rfl) (fun _ h => h)⟩
theorem xMet_plain {l : Launch} {y : MethodName} {ws : List Cond} {rm : Room} {Pc : Array Value → State → Prop} {Qc : Array Value → State → Outcome → State → Prop} {XC : String → State → State → Prop} {mc ms : Nat} {free : Addr → Prop} (h : vx_Met l y ws rm Pc Qc XC mc ms free) (hx : ∀ E st t, ¬ XC E st t) : Met l y ws rm Pc Qc mc ms free := by
  intro p e h1 h2 h3 s m args below h4 h5 h6 h7
  obtain ⟨n, o, q1, q2, q3, q4⟩ := h p e h1 h2 h3 s m args below h4 h5 h6 h7
  refine ⟨n, o, q1, q2, q3, ?_⟩
  rcases q4 with q | ⟨q, -, E, ce, L, hE, -⟩
  · exact q
  · exact absurd hE (hx _ _ _)
section CALLS
variable {p : Program} {l : Launch} {e : Env} {R : Room} {s : State} {m : MethodId} {args : Array Value} {below : List Frame} {meth : Method} {c : Code} {H : Heap} {locs : List Loc} {bc bs mc ms : Nat} {Q : State → Prop}
variable {cc : ByteArray} {pc : Nat} {ls : Array Slot} {st0 rest : List Value} {G : xG} {E : xEn} {A : Nat → Prop} {σ : xH} {own : String} {r : xR}
variable {lds : List (String × Nat × String × Nat)} {exs : List (String × Nat × String)}
theorem xS.sub (hS : xS G A s.heap σ H locs) (hA : ∀ q, s.heap.size ≤ q → A q) : ∀ q, xA σ q → A q := by
  intro q h
  rcases h with h | h
  · exact hS.2.2.1 q h
  · refine hA q (Nat.le_trans hS.2.2.2.1 ?_)
    rw [hS.1]
    exact h
theorem xS.next {st₀ t T' : State} {L : List Loc} (hS : xS G A s.heap σ H locs) (hA : ∀ q, s.heap.size ≤ q → A q) (h0 : st₀.heap = H) (e1 : T'.heap = t.heap) (hL : ∀ q ∈ L, xA σ q.base) (hend : xEnd G (xA σ) r.2.1 st₀ t) {z : Nat} (hz : t.heap.size = z) : xS G A s.heap (r.2.1, z) T'.heap (locs ++ L) := by
  have hsub := hS.sub hA
  obtain ⟨h1, h2, h3⟩ := hend
  refine ⟨by rw [e1]; exact hz, by rw [e1]; exact h1, fun a ha => hsub a (h2 a ha), ?_⟩
  exact (vx_keep h0 e1 hS.2.2.2 (fun q _ h => hsub q h) hsub hL h3).2.2
/-- behind a call that answers or throws -/
theorem x_ran {av : Array Value} (hr : vx_Run p l e R s m args below meth c H locs bc bs mc ms (F0 m pc ls st0) rest (xQc G (xA σ) r av) (xXC G (xA σ) r) (xA σ)) (hS : xS G A s.heap σ H locs) (hA : ∀ q, s.heap.size ≤ q → A q)
    (kx : ∀ (X : String) (ce : Cell) (q9 : Addr) (z : Nat) (H1 : Heap) (locs1 : List Loc), r.1 = .inr X → xS G A s.heap (r.2.1, z) H1 locs1 → H1[q9]? = some ce → ce.vm = .none → s.vm.findClass X = some ce.cls → vx_W p l e R s m args below meth c H1 locs1 (bc + mc) (bs + ms) Q (F0 m pc ls rest) q9)
    (kk : ∀ (v : Option Value) (H1 : Heap) (locs1 : List Loc), r.1 = .inl v → xS G A s.heap r.2 H1 locs1 → W p l e R s m args below meth c H1 locs1 (bc + mc) (bs + ms) Q (F0 m (pc + 3) ls (v.toList ++ rest))) : W p l e R s m args below meth c H locs bc bs Q (F0 m pc ls st0) := by
  intro T hT X
  rcases hr T hT X with ⟨v, st₀, t, T', L, h0, X', hL, e1, e2, ⟨v', hv, hv2, hz, hend⟩, st⟩ | ⟨q, st₀, t, T', L, E9, ce, h0, X', hL, e1, e2, ⟨hE, hend⟩, hce, hcv, hcl, st⟩
  · cases hv2
    obtain ⟨t2, a1, b1⟩ := kk v T'.heap (locs ++ L) hv (hS.next hA h0 e1 hL hend hz) T' rfl X'
    exact ⟨t2, st t2 a1, b1⟩
  · obtain ⟨t2, a1, b1⟩ := kx E9 ce q _ T'.heap (locs ++ L) hE (hS.next hA h0 e1 hL hend rfl) (by rw [e1]; exact hce) hcv hcl T' rfl X'
    exact ⟨t2, st.trans a1, b1⟩
/-- behind a call that answers -/
theorem x_ranM {av : Array Value} (hr : va_Run p l e R s m args below meth c H locs bc bs mc ms (F0 m pc ls st0) rest (xQc G (xA σ) r av) (xA σ)) (hS : xS G A s.heap σ H locs) (hA : ∀ q, s.heap.size ≤ q → A q)
    (kk : ∀ (v : Option Value) (H1 : Heap) (locs1 : List Loc), r.1 = .inl v → xS G A s.heap r.2 H1 locs1 → W p l e R s m args below meth c H1 locs1 (bc + mc) (bs + ms) Q (F0 m (pc + 3) ls (v.toList ++ rest))) : W p l e R s m args below meth c H locs bc bs Q (F0 m pc ls st0) := by
  intro T hT X
  obtain ⟨v, st₀, t, T', L, h0, X', hL, e1, e2, ⟨v', hv, hv2, hz, hend⟩, st⟩ := hr T hT X
  cases hv2
  obtain ⟨t2, a1, b1⟩ := kk v T'.heap (locs ++ L) hv (hS.next hA h0 e1 hL hend hz) T' rfl X'
  exact ⟨t2, st t2 a1, b1⟩
/-- the premise of a call out of the caller's world -/
theorem x_pre (hK : va_K G.1 vwCl (xtys G.2) s) (hKK : xK lds exs E A s s.heap) (hS : xS G A s.heap σ H locs) (hA : ∀ q, s.heap.size ≤ q → A q) (av : List Value) : ∀ U : State, U.heap = H → s.WarmedH U.vm → xPre lds exs G E av σ av.toArray U := by
  intro U hU hW
  refine ⟨rfl, by rw [hU]; exact hS.1, by rw [hU]; exact hS.2.1, hK.moved hW.alike, ?_⟩
  rw [hU]
  exact hKK.to hW (fun a h1 h2 => hS.2.2.2.2.1 a h1 h2) (hS.sub hA)
end CALLS
end
section
/-! The calls of the interpreter, by kinds. -/
def xclsN (c : Nat) : String := bif Nat.beq c 99 then RJ0 else match vwCl[c]? with
  | some r => r.1
  | none => ""
def xokC (own : String) (kd idx n ci : Nat) (M : xMth) : Bool :=
  Nat.ble M.2.2.1 21 && (decide (Cond.code M.1 M.2.1 M.2.2.1 M.2.2.2.1 ∈ xWs) && (decide (M.1.cls ≠ "java/lang/invoke/MethodHandle" ∧ M.1.cls ≠ "java/lang/invoke/VarHandle") && (decide (Cond.initialized M.1.cls ∈ xWs) &&
  match kd with
  | 0 => Nat.beq ci 0 && (decide ((parseMethodDescriptor M.1.desc).map (fun d => d.parameters.length) = some n) && (decide (Cond.methodLink own idx M.1 ∈ xWs) && decide (Cond.static M.1 ∈ xWs)))
  | 1 => decide ((parseMethodDescriptor M.1.desc).map (fun d => d.parameters.length + 1) = some n) && (decide (Cond.instanceMethod M.1 ∈ xWs) && (decide (Cond.methodLink own idx M.1 ∈ xWs) && (decide (Cond.selects M.1.cls M.1 M.1 ∈ xWs) && (Nat.blt 0 ci && decide (xclsN (ci - 1) = M.1.cls)))))
  | 2 => decide ((parseMethodDescriptor M.1.desc).map (fun d => d.parameters.length + 1) = some n) && (decide (Cond.instanceMethod M.1 ∈ xWs) && (decide (Cond.methodLink own idx M.1 ∈ xWs) && (decide (M.1.name = "<init>") && (decide (M.2.2.2.1 = none) && Nat.blt 0 ci))))
  | 3 => decide ((parseMethodDescriptor M.1.desc).map (fun d => d.parameters.length + 1) = some n) && (decide (Cond.instanceMethod M.1 ∈ xWs) && (decide (Cond.methodLinkNest own idx M.1 "ShellWatch" ∈ lw_tbl) && (decide (Cond.selects M.1.cls M.1 M.1 ∈ xWs) && (Nat.blt 0 ci && decide (xclsN (ci - 1) = M.1.cls)))))
  | 4 => decide ((parseMethodDescriptor M.1.desc).map (fun d => d.parameters.length + 1) = some n) && (decide (Cond.instanceMethod M.1 ∈ xWs) && (decide (Cond.methodLinkNest own idx M.1 "ShellWatch" ∈ lw_tbl) && (decide (M.1.name = "<init>") && (decide (M.2.2.2.1 = none) && Nat.blt 0 ci))))
  | 5 => decide ((parseMethodDescriptor M.1.desc).map (fun d => d.parameters.length + 1) = some n) && (decide (Cond.instanceMethod M.1 ∈ xWs) && (decide (Cond.methodLink own idx M.1 ∈ xWs) && (decide (Cond.selects M.1.cls M.1 M.1 ∈ xWs) && (Nat.blt 0 ci && decide (xclsN (ci - 1) = M.1.cls)))))
  | _ => false)))
/-- how an instruction calls, by the kind -/
def xins (kd idx : Nat) : Instr := match kd with
  | 0 => .invokestatic idx
  | 2 => .invokespecial idx
  | 4 => .invokespecial idx
  | _ => .invokevirtual idx
theorem xgood : ∀ w ∈ xWs, goodWord w = true := fun w h => (List.mem_filter.mp h).2
theorem xGI {ws : List Cond} (h : ∀ w ∈ ws, w ∈ xWs) : GoodIn xWs ws := fun w hw => ⟨h w hw, good_of_word (xgood w (h w hw))⟩
section INVOKE
variable {p : Program} {l : Launch} {e : Env} {s : State} {m : MethodId} {args : Array Value} {below : List Frame} {meth : Method} {c : Code} {H : Heap} {locs : List Loc} {bc bs d MC MS : Nat} {Q : State → Prop}
variable {cc : ByteArray} {pc nL : Nat} {ls : Array Slot} {rest : List Value} {G : xG} {E : xEn} {A : Nat → Prop} {σ : xH} {own : String} {r : xR}
variable {lds : List (String × Nat × String × Nat)} {exs : List (String × Nat × String)}
/-- the receiver's cell -/
theorem x_recv (hK : va_K G.1 vwCl (xtys G.2) s) (hKK : xK lds exs E A s s.heap) (hS : xS G A s.heap σ H locs) {ci b : Nat} (h : (∃ fs, σ.1 b = some (.inr (ci, fs))) ∨ (ci = 99 ∧ ∃ i, xfind E.2.1 b xNS = some i)) : ∃ cellB : Cell, H[b]? = some cellB ∧ cellB.vm.isStatics = false ∧ s.vm.findClass (xclsN ci) = some cellB.cls := by
  rcases h with ⟨fs, hb⟩ | ⟨rfl, i, hi⟩
  · obtain ⟨q, hq, -⟩ := hS.2.1 b _ hb
    have h99 : Nat.beq ci 99 = false := by
      cases h9 : Nat.beq ci 99
      · rfl
      · have := Nat.eq_of_beq_eq_true h9
        subst this
        simp [vwCl] at hq
    have hn : xclsN ci = q.1 := by
      unfold xclsN
      rw [h99, hq]
      rfl
    rw [hn]
    exact va_recv hK (hS.2.1.one hb) (ci := ci) (q0 := 0) hq rfl
  · obtain ⟨h1, h2⟩ := iv_xfind hi
    subst h2
    exact vk_recv hKK.2.2.2.2.1 h1 hS.2.2.2
theorem x_invoke (hx : p.tables.exec = Jvm.exec) (hb : c.code = cc) (hml : c.maxLocals = nL) (hts : ∀ w ∈ xWs, w.before args s = true) (hown : s.vm.findClass own = some m.cls)
  (hK : va_K G.1 vwCl (xtys G.2) s) (hKK : xK lds exs E A s s.heap) (hS : xS G A s.heap σ H locs) (hA : ∀ q, s.heap.size ≤ q → A q) (hsz : ls.size = nL)
    {kd idx n ci : Nat} {M : xMth} {f : List Value → xH → Option xR} (hok : xokC own kd idx n ci M = true) (hM : xMet lds exs l G E d M f) {av st : List Value} (hn : av.length = n) (hst : st = av.reverse ++ rest) (hf : f av σ = some r)
    (hrecv : ci ≠ 0 → ∃ b As, av = .ref b :: As ∧ ((∃ fs, σ.1 b = some (.inr (ci - 1, fs))) ∨ (ci - 1 = 99 ∧ ∃ i, xfind E.2.1 b xNS = some i)))
    (hW : xcat rest ≤ 8) (hbc : bc + M.2.2.2.2.1 ≤ MC) (hbs : bs + M.2.2.2.2.2 ≤ MS) (hdg : decode cc pc = .ok (xins kd idx, 3))
    (hnt : kd ≠ 5 → ∃ v, r.1 = .inl v)
    (kx : ∀ (X : String) (ce : Cell) (q9 : Addr) (z : Nat) (H1 : Heap) (locs1 : List Loc), r.1 = .inr X → xS G A s.heap (r.2.1, z) H1 locs1 → H1[q9]? = some ce → ce.vm = .none → s.vm.findClass X = some ce.cls → vx_W p l e (xrm (d + 1) MC MS) s m args below meth c H1 locs1 (bc + M.2.2.2.2.1) (bs + M.2.2.2.2.2) Q (F0 m pc ls rest) q9)
    (kk : ∀ (v : Option Value) (H1 : Heap) (locs1 : List Loc), r.1 = .inl v → xS G A s.heap r.2 H1 locs1 → W p l e (xrm (d + 1) MC MS) s m args below meth c H1 locs1 (bc + M.2.2.2.2.1) (bs + M.2.2.2.2.2) Q (F0 m (pc + 3) ls (v.toList ++ rest))) :
    W p l e (xrm (d + 1) MC MS) s m args below meth c H locs bc bs Q (F0 m pc ls st) := by
  subst hst
  obtain ⟨y, bytes, maxL, ret, mc, ms⟩ := M
  dsimp only at hbc hbs kx kk
  have hC := hM av σ r hf
  have hCF : CallFix p m c cc nL s args xWs own := ⟨hx, hb, hml, hown, hts⟩
  unfold xokC at hok
  simp only [Bool.and_eq_true, decide_eq_true_eq] at hok
  obtain ⟨h21, hcode, hy, hini, hrest⟩ := hok
  have h21 : maxL ≤ 21 := Nat.le_of_ble_eq_true h21
  have hR : (xrm d mc ms).frames + 1 ≤ (xrm (d + 1) MC MS).frames ∧ 8 + (maxL + 11) + (xrm d mc ms).locals ≤ (xrm (d + 1) MC MS).locals := by
    unfold xrm
    dsimp only
    omega
  have hws : ∀ w ∈ xws (y, bytes, maxL, ret, mc, ms), w ∈ xWs := fun w h => (List.mem_cons.mp h).elim (fun e => by rw [e]; exact hcode) id
  have hpre := x_pre hK hKK hS hA av
  match kd, hdg, hrest, hnt with
  | 0, hdg, hrest, hnt =>
    simp only [Bool.and_eq_true, decide_eq_true_eq] at hrest
    obtain ⟨-, hd, hl, hs9⟩ := hrest
    have hd : (parseMethodDescriptor y.desc).map (fun d => d.parameters.length) = some n := hd
    refine x_ran (vx_runS hCF hC (va_cwS n hts (xGI ?_) rfl rfl rfl ⟨hy.1, hy.2, hd⟩ hR) ⟨xPre_blind, hpre⟩ rfl hn hsz rfl (by simpa [xcat] using hW) hdg ⟨hbc, hbs⟩) hS hA (fun X ce q9 z H1 locs1 q1 q2 q3 q4 q5 => ?_) kk
    · intro w hw
      rcases List.mem_append.mp hw with hw | hw
      · simp only [List.mem_cons, List.not_mem_nil, or_false] at hw
        rcases hw with rfl | rfl | rfl
        · exact hl
        · exact hs9
        · exact hini
      · exact hws w hw
    · obtain ⟨v, hv⟩ := hnt (by decide)
      rw [hv] at q1
      cases q1
  | 1, hdg, hrest, hnt =>
    simp only [Bool.and_eq_true, decide_eq_true_eq] at hrest
    obtain ⟨hd, hin, hl, hs9, hci, hcl⟩ := hrest
    obtain ⟨b, As, rfl, hrv⟩ := hrecv (by intro h; rw [h] at hci; cases hci)
    obtain ⟨n', rfl⟩ : ∃ n', n = n' + 1 := ⟨As.length, by rw [← hn]; rfl⟩
    have hd : (parseMethodDescriptor y.desc).map (fun d => d.parameters.length) = some n' := by
      cases hp : parseMethodDescriptor y.desc with
      | none => rw [hp] at hd; cases hd
      | some g => rw [hp] at hd; simpa using hd
    have hcell := x_recv hK hKK hS hrv
    rw [hcl] at hcell
    refine x_ran (vx_runV hCF hC (cwV n' hts (xGI ?_) rfl rfl rfl ⟨rfl, hy.1, hy.2, hd⟩ hR) ⟨xPre_blind, hcell, hpre⟩ rfl (by simpa using hn) hsz (by simp) (by simpa [xcat] using hW) hdg ⟨hbc, hbs⟩) hS hA (fun X ce q9 z H1 locs1 q1 q2 q3 q4 q5 => ?_) kk
    · intro w hw
      rcases List.mem_append.mp hw with hw | hw
      · simp only [List.mem_cons, List.not_mem_nil, or_false] at hw
        rcases hw with rfl | rfl | rfl | rfl
        · exact hl
        · exact hin
        · exact hs9
        · exact hini
      · exact hws w hw
    · obtain ⟨v, hv⟩ := hnt (by decide)
      rw [hv] at q1
      cases q1
  | 2, hdg, hrest, hnt =>
    simp only [Bool.and_eq_true, decide_eq_true_eq] at hrest
    obtain ⟨hd, hin, hl, hy1, hrt, hci⟩ := hrest
    have hrt : ret = none := hrt
    subst hrt
    obtain ⟨b, As, rfl, hrv⟩ := hrecv (by intro h; rw [h] at hci; cases hci)
    obtain ⟨n', rfl⟩ : ∃ n', n = n' + 1 := ⟨As.length, by rw [← hn]; rfl⟩
    have hd : (parseMethodDescriptor y.desc).map (fun d => d.parameters.length) = some n' := by
      cases hp : parseMethodDescriptor y.desc with
      | none => rw [hp] at hd; cases hd
      | some g => rw [hp] at hd; simpa using hd
    obtain ⟨v0, hv0⟩ := hnt (by decide)
    have hC' := xMet_plain hC (fun X st t h => by have := h.1; rw [hv0] at this; cases this)
    exact x_ranM (va_runI hCF hC' (cwI n' hts (xGI hws) rfl rfl rfl (hts _ hini) (hts _ hl) (hts _ hin) hy1 ⟨hy.1, hy.2, hd⟩ hR) ⟨xPre_blind, hpre⟩ rfl (by simpa using hn) hsz (by simp) (by simpa [xcat] using hW) hdg ⟨hbc, hbs⟩) hS hA kk
  | 3, hdg, hrest, hnt =>
    simp only [Bool.and_eq_true, decide_eq_true_eq] at hrest
    obtain ⟨hd, hin, hl, hs9, hci, hcl⟩ := hrest
    obtain ⟨b, As, rfl, hrv⟩ := hrecv (by intro h; rw [h] at hci; cases hci)
    obtain ⟨n', rfl⟩ : ∃ n', n = n' + 1 := ⟨As.length, by rw [← hn]; rfl⟩
    have hd : (parseMethodDescriptor y.desc).map (fun d => d.parameters.length) = some n' := by
      cases hp : parseMethodDescriptor y.desc with
      | none => rw [hp] at hd; cases hd
      | some g => rw [hp] at hd; simpa using hd
    have hcell := x_recv hK hKK hS hrv
    rw [hcl] at hcell
    obtain ⟨v0, hv0⟩ := hnt (by decide)
    have hC' := xMet_plain hC (fun X st t h => by have := h.1; rw [hv0] at this; cases this)
    exact x_ranM (va_runVN hCF hC' ⟨va_cnB n' hts (xGI hws) rfl rfl rfl (hKK.2.2.2.2.2.2.2.2.2.1 _ hl rfl) (hts _ hini) ⟨hy.1, hy.2, hd⟩ hR, hts _ hin, hts _ hs9⟩ ⟨xPre_blind, hcell, hpre⟩ rfl (by simpa using hn) hsz (by simp) (by simpa [xcat] using hW) hdg ⟨hbc, hbs⟩) hS hA kk
  | 4, hdg, hrest, hnt =>
    simp only [Bool.and_eq_true, decide_eq_true_eq] at hrest
    obtain ⟨hd, hin, hl, hy1, hrt, hci⟩ := hrest
    have hrt : ret = none := hrt
    subst hrt
    obtain ⟨b, As, rfl, hrv⟩ := hrecv (by intro h; rw [h] at hci; cases hci)
    obtain ⟨n', rfl⟩ : ∃ n', n = n' + 1 := ⟨As.length, by rw [← hn]; rfl⟩
    have hd : (parseMethodDescriptor y.desc).map (fun d => d.parameters.length) = some n' := by
      cases hp : parseMethodDescriptor y.desc with
      | none => rw [hp] at hd; cases hd
      | some g => rw [hp] at hd; simpa using hd
    obtain ⟨v0, hv0⟩ := hnt (by decide)
    have hC' := xMet_plain hC (fun X st t h => by have := h.1; rw [hv0] at this; cases this)
    exact x_ranM (va_runIN hCF hC' ⟨va_cnB n' hts (xGI hws) rfl rfl rfl (hKK.2.2.2.2.2.2.2.2.2.1 _ hl rfl) (hts _ hini) ⟨hy.1, hy.2, hd⟩ hR, hy1, hts _ hin⟩ ⟨xPre_blind, hpre⟩ rfl (by simpa using hn) hsz (by simp) (by simpa [xcat] using hW) hdg ⟨hbc, hbs⟩) hS hA kk
  | 5, hdg, hrest, hnt =>
    simp only [Bool.and_eq_true, decide_eq_true_eq] at hrest
    obtain ⟨hd, hin, hl, hs9, hci, hcl⟩ := hrest
    obtain ⟨b, As, rfl, hrv⟩ := hrecv (by intro h; rw [h] at hci; cases hci)
    obtain ⟨n', rfl⟩ : ∃ n', n = n' + 1 := ⟨As.length, by rw [← hn]; rfl⟩
    have hd : (parseMethodDescriptor y.desc).map (fun d => d.parameters.length) = some n' := by
      cases hp : parseMethodDescriptor y.desc with
      | none => rw [hp] at hd; cases hd
      | some g => rw [hp] at hd; simpa using hd
    have hcell := x_recv hK hKK hS hrv
    rw [hcl] at hcell
    refine x_ran (vx_runV hCF hC (cwV n' hts (xGI ?_) rfl rfl rfl ⟨rfl, hy.1, hy.2, hd⟩ hR) ⟨xPre_blind, hcell, hpre⟩ rfl (by simpa using hn) hsz (by simp) (by simpa [xcat] using hW) hdg ⟨hbc, hbs⟩) hS hA kx kk
    intro w hw
    rcases List.mem_append.mp hw with hw | hw
    · simp only [List.mem_cons, List.not_mem_nil, or_false] at hw
      rcases hw with rfl | rfl | rfl | rfl
      · exact hl
      · exact hin
      · exact hs9
      · exact hini
    · exact hws w hw
  | k + 6, hdg, hrest, hnt => cases hrest
end INVOKE
end
section
/-! New objects and rows, rows of references, System.arraycopy, a throw. -/
def xkty (k : Nat) : FieldType := match k with
  | 0 => .int
  | 1 => .byte
  | 2 => .long
  | _ => .double
def xN (C : String) : String := C
section ROWS3
variable {p : Program} {l : Launch} {e : Env} {R : Room} {s : State} {m : MethodId} {args : Array Value} {below : List Frame} {meth : Method} {c : Code} {H : Heap} {locs : List Loc} {cells slots : Nat} {Q : State → Prop}
variable {cc : ByteArray} {pc : Nat} {ls : Array Slot} {rest : List Value} {G : xG} {A : Nat → Prop} {σ : xH} {H0 : Heap} {own : String} {a : Nat} {E : xEn}
variable {lds : List (String × Nat × String × Nat)} {exs : List (String × Nat × String)}
theorem xS.push {H1 : Heap} {x : va_E} (hS : xS G A H0 σ H locs) (hA : ∀ q, H0.size ≤ q → A q) (e1 : va_at G.1 vwCl (H.size, xce G.2 x) H1) (z1 : H1.size = H.size + 1) (o1 : ∀ q, q < H.size → H1[q]? = H[q]?) : xS G A H0 (xup σ.1 σ.2 x, σ.2 + 1) H1 locs := by
  obtain ⟨h1, h2, h3, h4⟩ := hS
  rw [h1] at e1
  refine ⟨by rw [z1, h1], fun b y hb => ?_, fun b hb => ?_, Nat.le_trans h4.1 (by omega), fun q g1 g2 => (o1 q (Nat.lt_of_lt_of_le g1 h4.1)).trans (h4.2.1 q g1 g2), h4.2.2⟩
  · dsimp only at hb
    by_cases hab : b = σ.2
    · subst hab
      rw [xup_same] at hb
      cases hb
      exact e1
    · rw [xup_ne hab] at hb
      have h5 := h2 b y hb
      exact h5.kept (o1 b h5.lt)
  · dsimp only at hb
    by_cases hab : b = σ.2
    · subst hab
      exact hA _ (by rw [← h1]; exact h4.1)
    · rw [xup_ne hab] at hb
      exact h3 b hb
theorem xS.ref (hS : xS G A H0 σ H locs) : σ.2 = H.size := hS.1.symm
theorem xdv_ok {ty : FieldType} : defaultValue ty = xdv ty := by
  cases ty <;> rfl
theorem xdef_ok {ci n j : Nat} (h : j < n) : defaultValue (xtyp ci j) = vp_V (xdef ci n) j := by
  unfold vp_V xdef
  rw [xdv_ok]
  simp [h]
theorem x_new (hx : p.tables.exec = Jvm.exec) (hb : c.code = cc) (hts : ∀ w ∈ xWs, w.before args s = true) (hown : s.vm.findClass own = some m.cls) (hK : va_K G.1 vwCl (xtys G.2) s) (hS : xS G A H0 σ H locs) (hA : ∀ q, H0.size ≤ q → A q)
    {idx ci : Nat} {r : vw_C} (hr : vwCl[ci]? = some r) (h1 : Cond.classLink own idx r.1 ∈ xWs) (h2 : Cond.instantiable r.1 r.2.2 ∈ xWs) (h3 : Cond.initialized r.1 ∈ xWs) (hcells : cells + 1 ≤ R.cells) (hslots : slots + r.2.2 ≤ R.slots) (hdg : decode cc pc = .ok (.new idx, 3))
    (kk : ∀ (H1 : Heap), xS G A H0 (xup σ.1 σ.2 (.inr (ci, xdef ci r.2.2)), σ.2 + 1) H1 locs → W p l e R s m args below meth c H1 locs (cells + 1) (slots + r.2.2) Q (F0 m (pc + 3) ls (.ref σ.2 :: rest))) : W p l e R s m args below meth c H locs cells slots Q (F0 m pc ls rest) := by
  have hKn := hK.1 ci _ hr
  obtain ⟨hin, hty, hnm⟩ := xcl_ok hr
  refine W.newcK hx hb hown (hts _ h1) (hts _ h2) (hts _ h3) rfl hdg hcells hslots hKn.2.1 rfl fun H1 kC hkC e1 z1 o1 => ?_
  have h9 := kk H1 (hS.push hA (x := .inr (ci, xdef ci r.2.2)) ⟨r, hr, (u_born (xtyp ci) hts hin hKn hkC e1 hty).to (fun j hj => xdef_ok hj)⟩ z1 o1)
  rw [hS.ref] at h9
  exact h9
theorem xarr_ok {k n : Nat} {cA : ClassId} (hk : k < 4) : vp_cell cA (n, xarr k) = arrV cA n (fun _ => defaultValue (xkty k)) := by
  match k, hk with
  | 0, _ => rfl
  | 1, _ => rfl
  | 2, _ => rfl
  | 3, _ => rfl
theorem x_newa (hx : p.tables.exec = Jvm.exec) (hb : c.code = cc) (hts : ∀ w ∈ xWs, w.before args s = true) (hK : va_K G.1 vwCl (xtys G.2) s) (hS : xS G A H0 σ H locs) (hA : ∀ q, H0.size ≤ q → A q)
    {k : Nat} (hk : k < 4) {atype : ArrayType} (hty : newarray.typeOf atype = xkty k) (hw : Cond.arrayClass (xkty k) ∈ xWs) {n : Int32} (hn : ¬ n < 0) (h5 : n.toNatClampNeg ≤ 100000) (hcells : cells + 1 ≤ R.cells) (hslots : slots + n.toNatClampNeg ≤ R.slots) (hdg : decode cc pc = .ok (.newarray atype, 2))
    (kk : ∀ (H1 : Heap), xS G A H0 (xup σ.1 σ.2 (.inl (k, n.toNatClampNeg, xarr k)), σ.2 + 1) H1 locs → W p l e R s m args below meth c H1 locs (cells + 1) (slots + n.toNatClampNeg) Q (F0 m (pc + 2) ls (.ref σ.2 :: rest))) : W p l e R s m args below meth c H locs cells slots Q (F0 m pc ls (.int n :: rest)) := by
  have hby : n.toNatClampNeg * componentBytes (newarray.typeOf atype) ≤ 536870912 := by
    rw [hty]
    match k, hk with
    | 0, _ => show n.toNatClampNeg * 4 ≤ _; omega
    | 1, _ => show n.toNatClampNeg * 1 ≤ _; omega
    | 2, _ => show n.toNatClampNeg * 8 ≤ _; omega
    | 3, _ => show n.toNatClampNeg * 8 ≤ _; omega
  refine va_newaK hx hb (by rw [hty]; exact hts _ hw) rfl hdg rfl hn rfl hby hcells hslots rfl fun H1 cA e1 z1 o1 hAr hNm => ?_
  have hcA : cA = G.2 k := by
    rw [hty] at hNm
    match k, hk, hNm with
    | 0, _, hNm => exact Option.some.inj (hNm.symm.trans (hK.2 0 _ rfl).2)
    | 1, _, hNm => exact Option.some.inj (hNm.symm.trans (hK.2 1 _ rfl).2)
    | 2, _, hNm => exact Option.some.inj (hNm.symm.trans (hK.2 2 _ rfl).2)
    | 3, _, hNm => exact Option.some.inj (hNm.symm.trans (hK.2 3 _ rfl).2)
  subst hcA
  have h9 := kk H1 (hS.push hA (x := .inl (k, n.toNatClampNeg, xarr k)) (by show H1[H.size]? = some (vp_cell (G.2 k) _); rw [xarr_ok hk, e1, hty]) z1 o1)
  rw [hS.ref] at h9
  exact h9
theorem x_newq (hx : p.tables.exec = Jvm.exec) (hb : c.code = cc) (hts : ∀ w ∈ xWs, w.before args s = true) (hown : s.vm.findClass own = some m.cls) (hK : va_K G.1 vwCl (xtys G.2) s) (hS : xS G A H0 σ H locs) (hA : ∀ q, H0.size ≤ q → A q)
    {k idx : Nat} {C : String} (hty : (xtys G.2)[k]? = some (G.2 k, .object C)) (hover : va_AO C s) (hw : Cond.classLink own idx C ∈ xWs) {n : Int32} (hn : ¬ n < 0) (h5 : n.toNatClampNeg ≤ 100000) (hcells : cells + 1 ≤ R.cells) (hslots : slots + n.toNatClampNeg ≤ R.slots) (hdg : decode cc pc = .ok (.anewarray idx, 3))
    (kk : ∀ (H1 : Heap), xS G A H0 (xup σ.1 σ.2 (.inl (k, n.toNatClampNeg, .inr (.inr (.inr (.inr fun _ => none))))), σ.2 + 1) H1 locs → W p l e R s m args below meth c H1 locs (cells + 1) (slots + n.toNatClampNeg) Q (F0 m (pc + 3) ls (.ref σ.2 :: rest))) : W p l e R s m args below meth c H locs cells slots Q (F0 m pc ls (.int n :: rest)) := by
  refine W.anew hx hb hown (hts _ hw) (va_AO.use hover) rfl hdg rfl hn (by omega) hcells hslots fun cA kA comp f1 f2 f3 f4 => ?_
  have hcA : cA = G.2 k := by
    obtain ⟨-, -, -, -, -, -, hNm⟩ := hK.2 k _ hty
    exact Option.some.inj (f1.symm.trans hNm)
  subst hcA
  generalize hH1 : H.push ({ cls := G.2 k, slots := Array.replicate n.toNatClampNeg .null, vm := .none } : Cell) = H1
  have z1 : H1.size = H.size + 1 := by rw [← hH1, Array.size_push]
  have e1 : H1[H.size]? = some (arrV (G.2 k) n.toNatClampNeg (fun _ => .null)) := by rw [← hH1, Array.getElem?_push_size, ← arrV_new]
  have o1 : ∀ q : Nat, q < H.size → H1[q]? = H[q]? := fun q hq => by rw [← hH1, Array.getElem?_push, if_neg (Nat.ne_of_lt hq)]
  have h9 := kk H1 (hS.push hA (x := .inl (k, n.toNatClampNeg, .inr (.inr (.inr (.inr fun _ => none))))) e1 z1 o1)
  rw [hS.ref] at h9
  exact h9
theorem x_astq (hx : p.tables.exec = Jvm.exec) (hb : c.code = cc) (hK : va_K G.1 vwCl (xtys G.2) s) (hS : xS G A H0 σ H locs) {k n v : Nat} {f : Nat → Option Nat} {C : String} (he : σ.1 a = some (.inl (k, n, .inr (.inr (.inr (.inr f)))))) (hty : (xtys G.2)[k]? = some (G.2 k, .object C))
    (hr : ∃ cellV : Cell, H[v]? = some cellV ∧ cellV.vm.isStatics = false ∧ s.vm.findClass C = some cellV.cls) {i : Int32} (hin : vp_in i n) (hdg : decode cc pc = .ok (.aastore, 1))
    (kk : ∀ (H1 : Heap) (locs1 : List Loc), xS G A H0 (xup σ.1 a (.inl (k, n, .inr (.inr (.inr (.inr (va_up f i.toNatClampNeg (some v))))))), σ.2) H1 locs1 → W p l e R s m args below meth c H1 locs1 cells slots Q (F0 m (pc + 1) ls rest)) : W p l e R s m args below meth c H locs cells slots Q (F0 m pc ls (.ref v :: .int i :: .ref a :: rest)) := by
  have hlt : i.toNatClampNeg < n := Nat.not_le.mp fun q => hin (Or.inr q)
  have h0 : ¬ i < 0 := fun q => hin (Or.inl q)
  obtain ⟨cellV, g1, g2, g3⟩ := hr
  obtain ⟨kA, comp, k1, k2, k3, -⟩ := (hK.2 k _ hty).2
  have hcv : cellV.cls = comp := Option.some.inj (g3.symm.trans k3)
  obtain ⟨kE, hkE, -⟩ := Vm.findClass_spec k3
  refine W.aast hx hb (hS.2.1 a _ he) (fun q h => by cases h) (fun h => by cases h) k1 k2 rfl hkE ⟨h0, by show _ < (arrV _ _ _).slots.size; rw [arrV_size]; exact hlt⟩ g1 (fun q h => by rw [h] at g2; cases g2) (by rw [hcv]; exact hkE) (by rw [hcv]; exact vb_asgS (C := C) _ _ k3 k3) rfl rfl hdg fun H1 e1 z oq => ?_
  refine kk H1 _ (hS.put he ?_ z oq)
  show H1[a]? = some (vp_cell _ _)
  rw [e1]
  dsimp only [xce]
  rw [vp_cell_q, vp_cell_q, arrV_store]
  congr 2
  funext q
  by_cases hq : q = i.toNatClampNeg
  · subst hq
    simp [updV, va_up, va_rf]
  · simp [updV, va_up, hq]
theorem x_copy (hx : p.tables.exec = Jvm.exec) (hb : c.code = cc) (hml : c.maxLocals = ls.size) (hown : s.vm.findClass own = some m.cls) (hts : ∀ w ∈ xWs, w.before args s = true) {idx : Nat} (hw1 : Cond.methodLink own idx arraycopyName ∈ xWs) (hw2 : Cond.native arraycopyName ∈ xWs) (hw3 : Cond.static arraycopyName ∈ xWs) (hw4 : Cond.initialized "java/lang/System" ∈ xWs)
    (hK : va_K G.1 vwCl (xtys G.2) s) (hS : xS G A H0 σ H locs) {a0 n0 n1 : Nat} {f g : Nat → Int32} (he0 : σ.1 a0 = some (.inl (0, n0, .inl f))) (he1 : σ.1 a = some (.inl (0, n1, .inl g)))
    {sp dp n : Int32} (h1 : 0 ≤ sp.toInt) (h2 : 0 ≤ dp.toInt) (h3 : 0 ≤ n.toInt) (h4 : sp.toInt + n.toInt ≤ n0) (h5 : dp.toInt + n.toInt ≤ n1)
    (hframes : 1 ≤ R.frames) (hlocals : (rest.map fun v => v.category).sum + 40 ≤ R.locals) (hdg : decode cc pc = .ok (.invokestatic idx, 3))
    (kk : ∀ (H1 : Heap) (locs1 : List Loc), xS G A H0 (xup σ.1 a (.inl (0, n1, .inl (va_cpy f g sp.toNatClampNeg dp.toNatClampNeg n.toNatClampNeg))), σ.2) H1 locs1 → W p l e R s m args below meth c H1 locs1 cells slots Q (F0 m (pc + 3) ls rest)) : W p l e R s m args below meth c H locs cells slots Q (F0 m pc ls (.int n :: .int dp :: .ref a :: .int sp :: .ref a0 :: rest)) := by
  have nn : ∀ z : Int32, 0 ≤ z.toInt → z.toInt = (z.toNatClampNeg : Int) := by
    intro z hz
    show z.toInt = ((z.toInt.toNat : Nat) : Int)
    omega
  have ng : ∀ z : Int32, 0 ≤ z.toInt → ¬ z < 0 := by
    intro z hz h
    have := Int32.lt_iff_toInt_lt.mp h
    simp at this
    omega
  have e4 : sp.toNatClampNeg + n.toNatClampNeg ≤ n0 := by have := nn sp h1; have := nn n h3; omega
  have e5 : dp.toNatClampNeg + n.toNatClampNeg ≤ n1 := by have := nn dp h2; have := nn n h3; omega
  have hlc : (rest.map fun v => v.category).sum + (nativeFrameWords "java/lang/System" "arraycopy" 5 + 11) ≤ R.locals := by
    have h : nativeFrameWords "java/lang/System" "arraycopy" 5 = 7 := by decide +kernel
    rw [h]
    omega
  intro T hT X
  have hc0 : H[a0]? = some (vp_cell (G.2 0) (n0, .inl f)) := hS.2.1 a0 _ he0
  have hc1 : H[a]? = some (vp_cell (G.2 0) (n1, .inl g)) := hS.2.1 a _ he1
  obtain ⟨-, k0, hk0, cm0, hkk0⟩ := (hK.2 0 _ rfl).1 n0 (fun j => .int (f j))
  obtain ⟨-, k1, hk1, cm1, hkk1⟩ := (hK.2 0 _ rfl).1 n1 (fun j => .int (g j))
  obtain ⟨vm', X', step⟩ := X.arraycopy hx hown (hts _ hw1) (hts _ hw2) (hts _ hw3) (hts _ hw4) (src := a0) (dst := a) (cs := vp_cell (G.2 0) (n0, .inl f)) (cd := vp_cell (G.2 0) (n1, .inl g)) (srcPos := sp) (destPos := dp) (n := n) (by rw [hT]; exact hc0) (by rw [hT]; exact hc1)
    (fun _ h => by cases h) (fun _ h => by cases h) (fun h => by cases h) (fun h => by cases h) hk0 hk1 hkk0 hkk1 (by simp [refKind]) (ng sp h1) (ng dp h2) (ng n h3)
    (by show ¬ _ > ((arrV (G.2 0) n0 (fun j => .int (f j))).slots.size : Int); rw [arrV_size]; omega)
    (by show ¬ _ > ((arrV (G.2 0) n1 (fun j => .int (g j))).slots.size : Int); rw [arrV_size]; omega)
    (fun vm₁ _ i hi => by
      have e : (vp_cell (G.2 0) (n0, .inl f)).slots.getD (sp.toNatClampNeg + i) .null = .int (f (sp.toNatClampNeg + i)) := by
        show (arrV (G.2 0) n0 (fun j => .int (f j))).slots.getD _ _ = _
        rw [Array.getD_eq_getD_getElem?, arrV_read _ _ (by omega)]
        rfl
      refine ⟨?_, ?_⟩
      · rw [e]
        rfl
      · rw [e]
        exact trivial)
    (g := F0 m pc ls (.int n :: .int dp :: .ref a :: .int sp :: .ref a0 :: rest)) rfl (by rw [hml]) (rest := rest) rfl (by rw [hb]; exact hdg) hframes (by show 2 * 0 + _ + _ ≤ _; omega)
  have e1 : copied (vp_cell (G.2 0) (n0, .inl f)) (vp_cell (G.2 0) (n1, .inl g)) sp dp n = vp_cell (G.2 0) (n1, .inl (va_cpy f g sp.toNatClampNeg dp.toNatClampNeg n.toNatClampNeg)) := va_copied (fun z => .int z) (G.2 0) (G.2 0) f g e4
  rw [e1] at X' step
  have hl : a < H.size := (Array.getElem?_eq_some_iff.mp hc1).1
  obtain ⟨t, a1, b1⟩ := kk (H.setIfInBounds a (vp_cell (G.2 0) (n1, .inl (va_cpy f g sp.toNatClampNeg dp.toNatClampNeg n.toNatClampNeg)))) _ (by
    obtain ⟨g1, g2, g3, g4⟩ := hS
    refine ⟨by simp; exact g1, fun b y hb => ?_, fun b hb => ?_, by simp; exact g4.1, fun q q1 q2 => ?_, fun q hq => ?_⟩
    · dsimp only at hb
      by_cases hab : b = a
      · subst hab
        rw [xup_same] at hb
        cases hb
        show (H.setIfInBounds b _)[b]? = some _
        simp [Array.getElem?_setIfInBounds, hl]
      · rw [xup_ne hab] at hb
        exact (g2 b y hb).kept (by simp [Array.getElem?_setIfInBounds, Ne.symm hab])
    · dsimp only at hb
      by_cases hab : b = a
      · subst hab
        exact g3 b (by rw [he1]; exact fun h => by cases h)
      · rw [xup_ne hab] at hb
        exact g3 b hb
    · have hqa : q ≠ a := fun h => q2 (by rw [h]; exact g3 a (by rw [he1]; exact fun h => by cases h))
      rw [show (H.setIfInBounds a (vp_cell (G.2 0) (n1, .inl (va_cpy f g sp.toNatClampNeg dp.toNatClampNeg n.toNatClampNeg))))[q]? = H[q]? by simp [Array.getElem?_setIfInBounds, Ne.symm hqa]]
      exact g4.2.1 q q1 q2
    · rcases List.mem_append.mp hq with h | h
      · exact g4.2.2 q h
      · obtain ⟨z, -, hz⟩ := List.mem_map.mp h
        rw [← hz]
        exact g3 a (by rw [he1]; exact fun h => by cases h)) _ (by rw [← hT]; rfl) X'
  exact ⟨t, step t a1, b1⟩
end ROWS3
end
section
/-! WHAT A PROGRAM CHECKS of an instruction: that it is what the bytes decode to, and that 'info' is what the pool and the tables say. -/
def xlen : Instr → Nat
  | .bipush _ => 2
  | .sipush _ => 3
  | .ldc _ => 2
  | .ldc_w _ => 3
  | .ldc2_w _ => 3
  | .iload _ => 2
  | .lload _ => 2
  | .dload _ => 2
  | .aload _ => 2
  | .istore _ => 2
  | .lstore _ => 2
  | .dstore _ => 2
  | .astore _ => 2
  | .iinc _ _ => 3
  | .ifCond _ _ => 3
  | .if_icmp _ _ => 3
  | .if_acmp _ _ => 3
  | .goto _ => 3
  | .getfield _ => 3
  | .putfield _ => 3
  | .getstatic _ => 3
  | .new _ => 3
  | .newarray _ => 2
  | .anewarray _ => 3
  | .invokespecial _ => 3
  | .invokevirtual _ => 3
  | .invokestatic _ => 3
  | _ => 1
abbrev xPool : Type := List (Nat × Nat × List Nat)
abbrev xLds : Type := List (String × Nat × String × Nat)
/-- an entry of a class's pool: kinds 0 field, 1 static, 2 call, 3 new, 4 row of references, 6 a Token's text and a String's fields, 7 a throw -/
def xokQ (own : String) (Mt : Nat → Option xMth) (q : Nat × Nat × List Nat) : Bool := match q with
  | (0, idx, [ci, k, _, n]) => xokF own idx ci k n
  | (6, idx, [77]) => decide (Cond.fieldLinkNest own idx RX8 "text" "Ljava/lang/String;" "ShellWatch" ∈ lw_tbl)
  | (6, idx, [78]) => decide (Cond.fieldLink own idx RJ0 "value" "[B" ∈ xWs)
  | (6, idx, [79]) => decide (Cond.fieldLink own idx RJ0 "coder" "B" ∈ xWs)
  | (1, idx, [0, i]) => decide (Cond.fieldLink own idx RX8 (xtn i) "LShellWatch$Token;" ∈ xWs)
  | (1, idx, [1]) => decide (Cond.fieldLinkNest own idx RX8 "ALL" "[LShellWatch$Token;" "ShellWatch" ∈ lw_tbl)
  | (1, idx, [2]) => decide (Cond.fieldLink own idx RJ0 "COMPACT_STRINGS" "Z" ∈ xWs)
  | (1, idx, [3]) => decide (Cond.fieldLink own idx RJ3 "SIOOBE_FORMATTER" "Ljava/util/function/BiFunction;" ∈ xWs)
  | (2, idx, [kd, key, n, _, mc, ms, ci]) => match Mt key with
    | some M => xokC own kd idx n ci M && (Nat.beq M.2.2.2.2.1 mc && Nat.beq M.2.2.2.2.2 ms)
    | none => false
  | (3, idx, [0, ci, n]) => match vwCl[ci]? with
    | some r => decide (Cond.classLink own idx r.1 ∈ xWs) && (decide (Cond.instantiable r.1 r.2.2 ∈ xWs) && (decide (Cond.initialized r.1 ∈ xWs) && Nat.beq r.2.2 n))
    | none => false
  | (4, idx, [4]) => decide (Cond.classLink own idx "ShellWatch$Token" ∈ xWs)
  | (4, idx, [5]) => decide (Cond.classLink own idx "ShellWatch$Game" ∈ xWs)
  | _ => false
def xnm (e : Nat) : List String := match e with
  | 3 => ["java/lang/RuntimeException", "java/lang/Exception"]
  | _ => ["java/lang/RuntimeException", "java/lang/Exception"]
/-- of a throw: the class, its text, its constructor, by their places in the pool -/
def xokT (own : String) (cc : ByteArray) (exs : List (String × Nat × String)) (pc idx e is ic : Nat) : Bool :=
  Bundle.fit (xexc e) && ((xnm e).all Bundle.fit && (decide (Cond.classLink own idx (xexc e) ∈ xWs) && (decide (Cond.initialized (xexc e) ∈ xWs) && ((vx_atS own ic (xexc e) (xnm e)).all (fun w => decide (w ∈ lw_tbl) && (goodWord w || xnest w)) && (exs.any (fun q => decide (q.1 = own) && Nat.beq q.2.1 is) &&
  (decide (decode cc (pc + 3) = .ok (.dup, 1)) && ((decide (decode cc (pc + 4) = .ok (.ldc is, 2)) && (decide (decode cc (pc + 6) = .ok (.invokespecial ic, 3)) && decide (decode cc (pc + 9) = .ok (.athrow, 1)))) || (decide (decode cc (pc + 4) = .ok (.ldc_w is, 3)) && (decide (decode cc (pc + 7) = .ok (.invokespecial ic, 3)) && decide (decode cc (pc + 10) = .ok (.athrow, 1)))))))))))
def xtgt (pc : Nat) (off : Int) (info : List Nat) : Bool := match info with
  | [t] => decide ((pc : Int) + off = (t : Int))
  | _ => false
def xtab (pc : Nat) (offs : Array Int) : Nat → List Nat → Bool
  | _, [] => true
  | j, t :: ts => (match offs[j]? with
    | some off => decide ((pc : Int) + off = (t : Int))
    | none => false) && xtab pc offs (j + 1) ts
def xspecP (own : String) (idx k : Nat) : Bool := match k with
  | 0 => decide (Cond.methodLink own idx Lib.Math.max.name ∈ xWs) && (decide (Cond.static Lib.Math.max.name ∈ xWs) && (decide (Cond.initialized "java/lang/Math" ∈ xWs) && decide (Cond.code Lib.Math.max.name Lib.Math.max.code 2 (some .int) ∈ xWs)))
  | 1 => decide (Cond.methodLink own idx Lib.Math.min.name ∈ xWs) && (decide (Cond.static Lib.Math.min.name ∈ xWs) && (decide (Cond.initialized "java/lang/Math" ∈ xWs) && decide (Cond.code Lib.Math.min.name Lib.Math.min.code 2 (some .int) ∈ xWs)))
  | 2 => decide (Cond.methodLink own idx Lib.MathLoose.max_long.x ∈ xWs) && (decide (Cond.static Lib.MathLoose.max_long.x ∈ xWs) && (decide (Cond.initialized "java/lang/Math" ∈ xWs) && decide (Cond.code Lib.MathLoose.max_long.x Lib.MathLoose.max_long.code 4 (some .long) ∈ xWs)))
  | 3 => decide (Cond.methodLink own idx Lib.MathLoose.min_long.x ∈ xWs) && (decide (Cond.static Lib.MathLoose.min_long.x ∈ xWs) && (decide (Cond.initialized "java/lang/Math" ∈ xWs) && decide (Cond.code Lib.MathLoose.min_long.x Lib.MathLoose.min_long.code 4 (some .long) ∈ xWs)))
  | 6 => decide (Cond.methodLink own idx arraycopyName ∈ xWs) && (decide (Cond.native arraycopyName ∈ xWs) && (decide (Cond.static arraycopyName ∈ xWs) && decide (Cond.initialized "java/lang/System" ∈ xWs)))
  | _ => false
def xisr (ret : Option FieldType) : Bool := match ret with
  | some (.object _) => true
  | some (.array _) => true
  | _ => false
theorem xisr_ok {ret : Option FieldType} (h : xisr ret = true) : ∃ rt, ret = some rt ∧ ((∃ n, rt = .object n) ∨ ∃ t, rt = .array t) := by
  unfold xisr at h
  split at h
  · exact ⟨_, rfl, Or.inl ⟨_, rfl⟩⟩
  · exact ⟨_, rfl, Or.inr ⟨_, rfl⟩⟩
  · cases h
def xspec (own : String) (ini : Bool) (cc : ByteArray) (nL : Nat) (ret : Option FieldType) (PO : xPool) (lds : xLds) (exs : List (String × Nat × String)) (pc : Nat) (ins : Instr) (info : List Nat) : Bool := match ins with
  | .istore i => Nat.blt i nL
  | .istore_n i => Nat.blt i nL
  | .astore i => Nat.blt i nL
  | .astore_n i => Nat.blt i nL
  | .iinc i _ => Nat.blt i nL
  | .lstore i => Nat.blt (i + 1) nL
  | .lstore_n i => Nat.blt (i + 1) nL
  | .dstore i => Nat.blt (i + 1) nL
  | .ifCond _ off => xtgt pc off info
  | .if_icmp _ off => xtgt pc off info
  | .if_acmp _ off => xtgt pc off info
  | .goto off => xtgt pc off info
  | .tableswitch dflt lo hi offs => match info with
    | d :: l0 :: ts => decide (lo = (l0 : Int)) && (decide (hi = (l0 : Int) + ts.length - 1) && (decide ((pc : Int) + dflt = (d : Int)) && (xtab pc offs 0 ts && Nat.ble (l0 + ts.length) 100000)))
    | _ => false
  | .getfield idx => decide ((0, idx, info) ∈ PO) || decide ((6, idx, info) ∈ PO)
  | .putfield idx => decide ((0, idx, info) ∈ PO) && match info with
    | [ci, k, t, n] => xokP own ci k t n && (!(Nat.beq n 2) || ini)
    | _ => false
  | .getstatic idx => decide ((1, idx, info) ∈ PO)
  | .new idx => match info with
    | [1, e, is, ic] => xokT own cc exs pc idx e is ic
    | _ => decide ((3, idx, info) ∈ PO)
  | .newarray a => match info with
    | [k] => Nat.blt k 4 && (decide (newarray.typeOf a = xkty k) && decide (Cond.arrayClass (xkty k) ∈ xWs))
    | _ => false
  | .anewarray idx => decide ((4, idx, info) ∈ PO)
  | .ldc idx => match info with
    | [0, k] => decide (Cond.constant own idx (nI k) ∈ xWs)
    | [1, k] => decide (Cond.constant own idx (- nI k) ∈ xWs)
    | [2, i] => lds.any (fun q => decide (q.1 = own) && (Nat.beq q.2.1 idx && Nat.beq q.2.2.2 i))
    | _ => false
  | .ldc_w idx => match info with
    | [0, k] => decide (Cond.constant own idx (nI k) ∈ xWs)
    | [1, k] => decide (Cond.constant own idx (- nI k) ∈ xWs)
    | [2, i] => lds.any (fun q => decide (q.1 = own) && (Nat.beq q.2.1 idx && Nat.beq q.2.2.2 i))
    | _ => false
  | .ldc2_w idx => match info with
    | [0, k] => decide (Cond.constantLong own idx (lN k) ∈ xWs)
    | [1, k] => decide (Cond.constantLong own idx (- lN k) ∈ xWs)
    | _ => false
  | .lconst _ => true
  | .dconst d => decide (d = 0)
  | .fconst f => (decide (info = [0]) && decide (f = 0)) || (decide (info = [1]) && decide (f = 1))
  | .invokespecial idx => match info with
    | [_] => decide (Cond.methodLink own idx objectInit ∈ xWs) && (decide (Cond.instanceMethod objectInit ∈ xWs) && decide (Cond.code objectInit ⟨#[0xb1]⟩ 1 none ∈ xWs))
    | kd :: _ => decide ((2, idx, info) ∈ PO) && (Nat.beq kd 2 || Nat.beq kd 4)
    | _ => false
  | .invokevirtual idx => match info with
    | [_, _] => false
    | kd :: _ => decide ((2, idx, info) ∈ PO) && (Nat.beq kd 1 || (Nat.beq kd 3 || Nat.beq kd 5))
    | _ => false
  | .invokestatic idx => match info with
    | [_, k] => xspecP own idx k
    | kd :: _ => decide ((2, idx, info) ∈ PO) && Nat.beq kd 0
    | _ => false
  | .ireturn => match info with
    | [t] => decide (ret = some (xty t))
    | _ => false
  | .lreturn => decide (ret = some .long)
  | .freturn => decide (ret = some .float)
  | .dreturn => decide (ret = some .double)
  | .areturn => xisr ret
  | .return_ => decide (ret = none)
  | _ => true
def xokI (own : String) (ini : Bool) (cc : ByteArray) (nL : Nat) (ret : Option FieldType) (PO : xPool) (lds : xLds) (exs : List (String × Nat × String)) (i : xI) (np : Nat) : Bool :=
  decide (decode cc i.1 = .ok (i.2.1, np - i.1)) && (Nat.ble i.1 np && ((match i.2.1 with
    | .tableswitch .. => true
    | ins => Nat.beq (np - i.1) (xlen ins)) && xspec own ini cc nL ret PO lds exs i.1 i.2.1 i.2.2))
/-- the instructions of a block, one behind another, up to ep -/
def xokB (own : String) (ini : Bool) (cc : ByteArray) (nL : Nat) (ret : Option FieldType) (PO : xPool) (lds : xLds) (exs : List (String × Nat × String)) (ep : Nat) : Nat → List xI → Bool
  | pc, [] => Nat.beq pc ep
  | pc, [i] => Nat.beq pc i.1 && xokI own ini cc nL ret PO lds exs i ep
  | pc, i :: j :: r => Nat.beq pc i.1 && (xokI own ini cc nL ret PO lds exs i j.1 && xokB own ini cc nL ret PO lds exs ep j.1 (j :: r))
end
section
/-! A STEP OF THE INTERPRETER IS A STEP OF THE MACHINE. -/
theorem xget_has {ls : Array Slot} {nL i : Nat} {v : Value} : ∀ {L : xL}, lv_has ls nL L → xget L i = some v → ls[i]? = some (.val v) := by
  intro L hl h
  have hm : (i, v) ∈ L := by
    clear hl
    induction L with
    | nil => cases h
    | cons q L ih =>
      unfold xget at h
      cases hb : Nat.beq q.1 i
      · rw [hb] at h
        exact List.mem_cons_of_mem _ (ih h)
      · rw [hb] at h
        have := Nat.eq_of_beq_eq_true hb
        subst this
        cases h
        exact List.mem_cons_self
  exact hl.2.2 _ hm
theorem iv_xans {ρ : Type} {z : ρ} {T : xR → Option ρ} {tag : Nat} {r : Option xR} {k : List Value → xH → Option ρ} (h : xans T tag r k = some z) : ∃ r', r = some r' ∧ ((∃ v, r'.1 = .inl v ∧ k v.toList r'.2 = some z) ∨ ∃ X, r'.1 = .inr X ∧ T (.inr X, r'.2) = some z) := by
  unfold xans at h
  split at h
  · unfold cI at h
    split at h
    · exact ⟨_, rfl, Or.inl ⟨_, rfl, h⟩⟩
    · exact ⟨_, rfl, Or.inr ⟨_, rfl, h⟩⟩
    · cases h
  · unfold cL at h
    split at h
    · exact ⟨_, rfl, Or.inl ⟨_, rfl, h⟩⟩
    · exact ⟨_, rfl, Or.inr ⟨_, rfl, h⟩⟩
    · cases h
  · unfold cA at h
    split at h
    · exact ⟨_, rfl, Or.inl ⟨_, rfl, h⟩⟩
    · exact ⟨_, rfl, Or.inr ⟨_, rfl, h⟩⟩
    · cases h
  · unfold cF at h
    split at h
    · exact ⟨_, rfl, Or.inl ⟨_, rfl, h⟩⟩
    · exact ⟨_, rfl, Or.inr ⟨_, rfl, h⟩⟩
    · cases h
  · unfold cD at h
    split at h
    · exact ⟨_, rfl, Or.inl ⟨_, rfl, h⟩⟩
    · exact ⟨_, rfl, Or.inr ⟨_, rfl, h⟩⟩
    · cases h
  · unfold cV at h
    split at h
    · exact ⟨_, rfl, Or.inl ⟨_, rfl, h⟩⟩
    · exact ⟨_, rfl, Or.inr ⟨_, rfl, h⟩⟩
    · cases h
  · cases h
theorem iv_xcall {ρ : Type} {z : ρ} {E : xEn} {call : Nat → List Value → xH → Option xR} {MC MS : Nat} {T : xR → Option ρ} {info : List Nat} {st : List Value} {σ : xH} {bc bs : Nat} {nx : List Value → xH → Nat → Nat → Option ρ} (h : xcall E call MC MS T info st σ bc bs nx = some z) :
    ∃ kd key n tag mc ms ci r, info = [kd, key, n, tag, mc, ms, ci] ∧ n ≤ st.length ∧ xcat (st.drop n) ≤ 8 ∧ bc + mc ≤ MC ∧ bs + ms ≤ MS ∧
      (ci ≠ 0 → ∃ b As, (st.take n).reverse = .ref b :: As ∧ ((∃ fs, σ.1 b = some (.inr (ci - 1, fs))) ∨ (ci - 1 = 99 ∧ ∃ i, xfind E.2.1 b xNS = some i))) ∧ call key (st.take n).reverse σ = some r ∧
      ((∃ v, r.1 = .inl v ∧ nx (v.toList ++ st.drop n) r.2 (bc + mc) (bs + ms) = some z) ∨ (kd = 5 ∧ ∃ X, r.1 = .inr X ∧ T (.inr X, r.2) = some z)) := by
  unfold xcall at h
  split at h
  · next kd key n tag mc ms ci =>
    obtain ⟨h1, h2⟩ := iv_if h
    simp only [Bool.and_eq_true] at h1
    obtain ⟨g1, g2, g3, g4⟩ := h1
    have g1 := Nat.le_of_ble_eq_true g1
    have g2 := Nat.le_of_ble_eq_true g2
    have g3 := Nat.le_of_ble_eq_true g3
    have g4 := Nat.le_of_ble_eq_true g4
    split at h2
    · obtain ⟨r, hr, hv⟩ := iv_xans h2
      refine ⟨_, _, _, _, _, _, _, r, rfl, g1, g2, g3, g4, fun h => absurd rfl h, hr, ?_⟩
      rcases hv with ⟨v, hv1, hv2⟩ | ⟨X, hv1, hv2⟩
      · exact Or.inl ⟨v, hv1, hv2⟩
      · obtain ⟨k1, k2⟩ := iv_if hv2
        exact Or.inr ⟨Nat.eq_of_beq_eq_true k1, X, hv1, k2⟩
    · split at h2
      · next c b As hAs =>
        obtain ⟨hO, h3⟩ := iv_gO h2
        obtain ⟨r, hr, hv⟩ := iv_xans h3
        refine ⟨_, _, _, _, _, _, _, r, rfl, g1, g2, g3, g4, fun _ => ⟨b, As, hAs, hO⟩, by rw [hAs]; exact hr, ?_⟩
        rcases hv with ⟨v, hv1, hv2⟩ | ⟨X, hv1, hv2⟩
        · exact Or.inl ⟨v, hv1, hv2⟩
        · obtain ⟨k1, k2⟩ := iv_if hv2
          exact Or.inr ⟨Nat.eq_of_beq_eq_true k1, X, hv1, k2⟩
      · cases h2
  · cases h
/-- what a method's walk stands on -/
def xCx (p : Program) (l : Launch) (s : State) (m : MethodId) (args : Array Value) (meth : Method) (c : Code) (lds : xLds) (exs : List (String × Nat × String)) (G : xG) (E : xEn) (A : Nat → Prop) (d : Nat) (call : Nat → List Value → xH → Option xR) (Mt : Nat → Option xMth) (own : String) (ini : Bool) (cc : ByteArray) (nL : Nat) (ret : Option FieldType) (PO : xPool) : Prop :=
  p.tables.exec = Jvm.exec ∧ c.code = cc ∧ c.maxLocals = nL ∧ (∀ w ∈ xWs, w.before args s = true) ∧ s.vm.findClass own = some m.cls ∧ va_K G.1 vwCl (xtys G.2) s ∧ xK lds exs E A s s.heap ∧ (∀ q, s.heap.size ≤ q → A q) ∧
  (∀ x ∈ c.exceptionTable.toList, False) ∧ meth.locks = false ∧ meth.sig.returnType = ret ∧ l.stackTraces = false ∧ (ini = true → meth.name = "<init>") ∧ (∀ q ∈ PO, xokQ own Mt q = true) ∧ ∀ key M, Mt key = some M → xMet lds exs l G E d M (call key)
/-- from here the machine comes to Q -/
def xTg (p : Program) (l : Launch) (e : Env) (s : State) (m : MethodId) (args : Array Value) (below : List Frame) (meth : Method) (c : Code) (d MC MS : Nat) (Q : State → Prop) (G : xG) (A : Nat → Prop) (nL : Nat) (pc : Nat) (L : xL) (st : List Value) (σ : xH) (bc bs : Nat) : Prop :=
  bc ≤ MC → bs ≤ MS → ∀ (ls : Array Slot) (H : Heap) (locs : List Loc), lv_has ls nL L → xS G A s.heap σ H locs → W p l e (xrm (d + 1) MC MS) s m args below meth c H locs bc bs Q (F0 m pc ls st)
section STEPS
variable {p : Program} {l : Launch} {e : Env} {s : State} {m : MethodId} {args : Array Value} {below : List Frame} {meth : Method} {c : Code}
variable {lds : xLds} {exs : List (String × Nat × String)} {G : xG} {E : xEn} {A : Nat → Prop} {d MC MS nL : Nat} {call : Nat → List Value → xH → Option xR} {Mt : Nat → Option xMth} {own : String} {ini : Bool} {cc : ByteArray} {ret : Option FieldType} {PO : xPool} {r0 : xR}
theorem x_fin {H : Heap} {locs : List Loc} {σ : xH} {v : Option Value} (hS : xS G A s.heap σ H locs) (hr : r0 = (.inl v, σ)) : (∀ t : State, t.heap = H → s.WarmedH t.vm → xQc G A r0 args s (.returned v) t) ∧ ∀ q ∈ locs, A q.base := by
  subst hr
  exact ⟨fun t ht _ => ⟨v, rfl, rfl, by rw [ht]; exact hS.1, by rw [ht]; exact hS.2.1, hS.2.2.1, hS.2.2.2.F ht⟩, hS.2.2.2.2.2⟩
theorem x_thr {pc : Nat} {ls : Array Slot} {rest : List Value} {H : Heap} {locs : List Loc} {bc bs : Nat} {w : Nat → Option va_E} {z : Nat} {X : String} {ce : Cell} {q9 : Addr} (C : xCx p l s m args meth c lds exs G E A d call Mt own ini cc nL ret PO) (hS : xS G A s.heap (w, z) H locs) (hr1 : r0.1 = .inr X) (hr2 : r0.2.1 = w) (h3 : H[q9]? = some ce) (h4 : ce.vm = .none) (h5 : s.vm.findClass X = some ce.cls) (hbc : bc ≤ MC) (hbs : bs ≤ MS) :
    vx_W p l e (xrm (d + 1) MC MS) s m args below meth c H locs bc bs (vx_MQ below (xQc G A r0) (xXC G A r0) args s MC MS A) (F0 m pc ls rest) q9 :=
  vx_out (fun x hx => (C.2.2.2.2.2.2.2.2.1 x hx).elim) C.2.2.2.2.2.2.2.2.2.1 h3 h4 h5 (fun t ht _ => ⟨hr1, by rw [hr2, ht]; exact hS.2.1, by rw [hr2]; exact hS.2.2.1, hS.2.2.2.F ht⟩) hS.2.2.2.2.2 hbc hbs
theorem xlen_ok : ∀ j, j < xNS → (xbyt.map List.length).getD j 0 = (xtx j).length := by decide +kernel
theorem xtab_at {pc : Nat} {offs : Array Int} : ∀ {ts : List Nat} {j0 j t : Nat}, xtab pc offs j0 ts = true → ts[j]? = some t → ∃ off, offs[j0 + j]? = some off ∧ (pc : Int) + off = (t : Int) := by
  intro ts
  induction ts with
  | nil => intro j0 j t _ h; simp at h
  | cons t0 ts ih =>
    intro j0 j t h hj
    unfold xtab at h
    rw [Bool.and_eq_true] at h
    cases j with
    | zero =>
      simp at hj
      subst hj
      have h1 := h.1
      split at h1
      · next off ho => exact ⟨off, ho, of_decide_eq_true h1⟩
      · cases h1
    | succ j =>
      obtain ⟨off, ho, ht⟩ := ih h.2 (by simpa using hj)
      exact ⟨off, by rw [← ho]; congr 1; omega, ht⟩
theorem iv_xnew {ρ : Type} {z : ρ} {fin : xR → Option ρ} {info : List Nat} {st : List Value} {σ : xH} {bc bs : Nat} {nx : List Value → xH → Nat → Nat → Option ρ} (h : xnew MC MS fin info st σ bc bs nx = some z) :
    (∃ ci n, info = [0, ci, n] ∧ bc + 1 ≤ MC ∧ bs + n ≤ MS ∧ nx (.ref σ.2 :: st) (xup σ.1 σ.2 (.inr (ci, xdef ci n)), σ.2 + 1) (bc + 1) (bs + n) = some z) ∨ ∃ k is ic, info = [1, k, is, ic] ∧ bc + 1 ≤ MC ∧ bs + 6 ≤ MS ∧ xcat st ≤ 8 ∧ fin (.inr (xexc k), σ) = some z := by
  unfold xnew at h
  split at h
  · obtain ⟨h1, h2⟩ := iv_if h
    rw [Bool.and_eq_true] at h1
    exact Or.inl ⟨_, _, rfl, Nat.le_of_ble_eq_true h1.1, Nat.le_of_ble_eq_true h1.2, h2⟩
  · obtain ⟨h1, h2⟩ := iv_if h
    rw [Bool.and_eq_true, Bool.and_eq_true] at h1
    exact Or.inr ⟨_, _, _, rfl, Nat.le_of_ble_eq_true h1.1, Nat.le_of_ble_eq_true h1.2.1, Nat.le_of_ble_eq_true h1.2.2, h2⟩
  · cases h
theorem iv_xnewa {ρ : Type} {z : ρ} {x : Nat → (Nat → Int32) ⊕ (Nat → Int64) ⊕ (Nat → UInt32) ⊕ (Nat → UInt64) ⊕ (Nat → Option Nat)} {info : List Nat} {st : List Value} {σ : xH} {bc bs : Nat} {nx : List Value → xH → Nat → Nat → Option ρ} (h : xnewa MC MS x info st σ bc bs nx = some z) :
    ∃ n r k, st = .int n :: r ∧ info = [k] ∧ ¬ n < 0 ∧ bc + 1 ≤ MC ∧ bs + n.toNatClampNeg ≤ MS ∧ n.toNatClampNeg ≤ 100000 ∧ nx (.ref σ.2 :: r) (xup σ.1 σ.2 (.inl (k, n.toNatClampNeg, x k)), σ.2 + 1) (bc + 1) (bs + n.toNatClampNeg) = some z := by
  unfold xnewa at h
  obtain ⟨n, r, rfl, h⟩ := iv_t1I h
  obtain ⟨k, rfl, h⟩ := iv_i1 h
  obtain ⟨h1, h2⟩ := iv_if h
  simp only [Bool.and_eq_true, decide_eq_true_eq] at h1
  exact ⟨n, r, k, rfl, rfl, h1.1, Nat.le_of_ble_eq_true h1.2.1, Nat.le_of_ble_eq_true h1.2.2.1, Nat.le_of_ble_eq_true h1.2.2.2, h2⟩
theorem iv_xinit {ρ : Type} {z : ρ} {fin : xR → Option ρ} {info : List Nat} {st : List Value} {σ : xH} {bc bs : Nat} {nx : List Value → xH → Nat → Nat → Option ρ} (h : xinit E call MC MS fin info st σ bc bs nx = some z) :
    (∃ q, info = [q] ∧ ∃ a r, st = .ref a :: r ∧ xcat r ≤ 8 ∧ nx r σ bc bs = some z) ∨ xcall E call MC MS fin info st σ bc bs nx = some z := by
  unfold xinit at h
  split at h
  · obtain ⟨a, r, rfl, h⟩ := iv_t1A h
    obtain ⟨h1, h2⟩ := iv_if h
    exact Or.inl ⟨_, rfl, a, r, rfl, Nat.le_of_ble_eq_true h1, h2⟩
  · exact Or.inr h
theorem iv_xinv {ρ : Type} {z : ρ} {fin : xR → Option ρ} {info : List Nat} {st : List Value} {σ : xH} {bc bs : Nat} {pr : Nat → Option ρ} {nx : List Value → xH → Nat → Nat → Option ρ} (h : xinv E call MC MS fin info st σ bc bs pr nx = some z) :
    (∃ q k, info = [q, k] ∧ pr k = some z) ∨ xcall E call MC MS fin info st σ bc bs nx = some z := by
  unfold xinv at h
  split at h
  · exact Or.inl ⟨_, _, rfl, h⟩
  · exact Or.inr h
theorem iv_xprim {ρ : Type} {z : ρ} {k : Nat} {st : List Value} {σ : xH} {nx : List Value → xH → Option ρ} (h : xprim k st σ nx = some z) :
    (k = 0 ∧ ∃ x y r, st = .int y :: .int x :: r ∧ nx (.int (if x < y then y else x) :: r) σ = some z) ∨ (k = 1 ∧ ∃ x y r, st = .int y :: .int x :: r ∧ nx (.int (if y < x then y else x) :: r) σ = some z) ∨
    (k = 2 ∧ ∃ x y r, st = .long y :: .long x :: r ∧ nx (.long (if y < x then x else y) :: r) σ = some z) ∨ (k = 3 ∧ ∃ x y r, st = .long y :: .long x :: r ∧ nx (.long (if y < x then y else x) :: r) σ = some z) ∨
    (k = 6 ∧ ∃ n j b i a r, st = .int n :: .int j :: .ref b :: .int i :: .ref a :: r ∧ cpI σ a i b j n (fun σ' => nx r σ') = some z) := by
  unfold xprim at h
  split at h
  · exact Or.inl ⟨rfl, _, _, _, rfl, h⟩
  · exact Or.inr (Or.inl ⟨rfl, _, _, _, rfl, h⟩)
  · exact Or.inr (Or.inr (Or.inl ⟨rfl, _, _, _, rfl, h⟩))
  · exact Or.inr (Or.inr (Or.inr (Or.inl ⟨rfl, _, _, _, rfl, h⟩)))
  · exact Or.inr (Or.inr (Or.inr (Or.inr ⟨rfl, _, _, _, _, _, _, rfl, h⟩)))
  · cases h
section LIT
variable {R : Room} {H : Heap} {locs : List Loc} {cells slots : Nat} {Q : State → Prop} {pc : Nat} {ls : Array Slot} {rest : List Value}
theorem x_iinc (hx : p.tables.exec = Jvm.exec) (hb : c.code = cc) {i : Nat} {k : Int} {x : Int32} {L : xL} (hdg : decode cc pc = .ok (.iinc i k, 3)) (hl : lv_has ls nL L) (hg : xget L i = some (.int x)) (hn : i < nL)
    (kk : ∀ ls' : Array Slot, lv_has ls' nL (xset1 L i (.int (x + Int32.ofInt k))) → W p l e R s m args below meth c H locs cells slots Q (F0 m (pc + 3) ls' rest)) : W p l e R s m args below meth c H locs cells slots Q (F0 m pc ls rest) := by
  have hm : ∃ j : Nat, L[j]? = some (i, Value.int x) := by
    clear kk hl
    induction L with
    | nil => cases hg
    | cons q L ih =>
      unfold xget at hg
      cases hb : Nat.beq q.1 i
      · rw [hb] at hg
        obtain ⟨j, hj⟩ := ih hg
        exact ⟨j + 1, by simpa using hj⟩
      · rw [hb] at hg
        have := Nat.eq_of_beq_eq_true hb
        subst this
        refine ⟨0, ?_⟩
        have h2 : q.2 = .int x := by
          have : some q.2 = some (.int x) := hg
          exact Option.some.inj this
        rw [← h2]
        rfl
  obtain ⟨j, hj⟩ := hm
  exact lv_iinc hx hb hdg hl hj rfl hn rfl kk
theorem x_ldcwS (hx : p.tables.exec = Jvm.exec) (hb : c.code = cc) {tx : String} {index q : Nat} (hown : s.vm.findClass own = some m.cls) (hZ : vk_R own index tx q s) (hdg : decode cc pc = .ok (.ldc_w index, 3))
    (kk : W p l e R s m args below meth c H locs cells slots Q (F0 m (pc + 3) ls (.ref q :: rest))) : W p l e R s m args below meth c H locs cells slots Q (F0 m pc ls rest) := by
  intro T hT X
  obtain ⟨t, a1, b1⟩ := kk T hT X
  refine ⟨t, ?_, b1⟩
  obtain ⟨k, cf, i, a', hk, hcf, hcp, -, hr, hev'⟩ := Cond.stringRef_spec hown hZ.1
  cases hZ.2.symm.trans hev'
  obtain ⟨k', hk', he⟩ := X.warmed.alike.2.2 _ _ hk
  have hr' : k'.resolved[index]? = some (some (.string q)) := by
    rcases X.warmed.entry hk hk' index with h | ⟨h, -⟩
    · rw [h]; exact hr
    · rw [hr] at h; cases h
  jvm_step X.here [hx, hb, hdg, ldc_w.wp_string (e := e) (s := T) (f := F0 m pc ls rest) X.here.top hk' (by rw [he]; exact hcf) hcp hr']
  exact a1
theorem x_tokText (hx : p.tables.exec = Jvm.exec) (hb : c.code = cc) (hown : s.vm.findClass own = some m.cls) {idx q : Nat} {v : Value} {o n d : String} {host : String} (hlink : (Cond.fieldLinkNest own idx o n d host).before args s = true) (hE : va_OF o n d v q A s s.heap) (hS : va_S A s.heap H locs) (hdg : decode cc pc = .ok (.getfield idx, 3))
    (kk : W p l e R s m args below meth c H locs cells slots Q (F0 m (pc + 3) ls (v :: rest))) : W p l e R s m args below meth c H locs cells slots Q (F0 m pc ls (.ref q :: rest)) := by
  obtain ⟨cf, k, i, f, cell, h1, h2, h3, h4, h5, h6⟩ := hE.kept hS.2.1
  exact va_Wgetf hx hb hown hlink h1 h2 h3 h4 h5 rfl rfl hdg kk
end LIT
theorem x_callI (C : xCx p l s m args meth c lds exs G E A d call Mt own ini cc nL ret PO) {pc i : Nat} {z : xR ⊕ xJ} {nx : xL → List Value → xH → Nat → Nat → Option (xR ⊕ xJ)} {L : xL}
    (hnx : ∀ L st σ bc bs, nx L st σ bc bs = some z → xTg p l e s m args below meth c d MC MS (vx_MQ below (xQc G A r0) (xXC G A r0) args s MC MS A) G A nL (pc + 3) L st σ bc bs) (hfin : ∀ r, z = .inl r → r0 = r)
    {kd key n tag mc ms ci : Nat} {r : xR} {st : List Value} {σ : xH} {bc bs : Nat} (hq : xokQ own Mt (2, i, [kd, key, n, tag, mc, ms, ci]) = true) (g1 : n ≤ st.length) (g2 : xcat (st.drop n) ≤ 8) (g3 : bc + mc ≤ MC) (g4 : bs + ms ≤ MS)
    (hrv : ci ≠ 0 → ∃ b As, (st.take n).reverse = .ref b :: As ∧ ((∃ fs, σ.1 b = some (.inr (ci - 1, fs))) ∨ (ci - 1 = 99 ∧ ∃ i, xfind E.2.1 b xNS = some i))) (hcl : call key (st.take n).reverse σ = some r)
    (hz : (∃ v, r.1 = .inl v ∧ nx L (v.toList ++ st.drop n) r.2 (bc + mc) (bs + ms) = some z) ∨ (kd = 5 ∧ ∃ X, r.1 = .inr X ∧ some (Sum.inl (Sum.inr X, r.2)) = some z))
    {ls : Array Slot} {H : Heap} {locs : List Loc} (hl : lv_has ls nL L) (hS : xS G A s.heap σ H locs) (hd : decode cc pc = .ok (xins kd i, 3)) :
    W p l e (xrm (d + 1) MC MS) s m args below meth c H locs bc bs (vx_MQ below (xQc G A r0) (xXC G A r0) args s MC MS A) (F0 m pc ls st) := by
  obtain ⟨hx, hb, hml, hts, hown, hK, hKK, hA, hexc, hlocks, hret, htr, hini, hPO, hM⟩ := id C
  simp only [xokQ] at hq
  split at hq
  · next M hMt =>
    simp only [Bool.and_eq_true] at hq
    obtain ⟨hokC, e1, e2⟩ := hq
    have e1 := Nat.eq_of_beq_eq_true e1
    have e2 := Nat.eq_of_beq_eq_true e2
    subst e1
    subst e2
    refine x_invoke (r := r) (rest := st.drop n) hx hb hml hts hown hK hKK hS hA hl.1 hokC (hM key M hMt) (av := (st.take n).reverse) (by simp; omega) (by rw [List.reverse_reverse, List.take_append_drop]) hcl hrv g2 g3 g4 hd ?_ ?_ ?_
    · intro hk
      rcases hz with ⟨v, hv, -⟩ | ⟨hk5, -⟩
      · exact ⟨v, hv⟩
      · exact absurd hk5 hk
    · intro X ce q9 z9 H1 locs1 q1 q2 q3 q4 q5
      rcases hz with ⟨v, hv, -⟩ | ⟨-, X', hX', hz⟩
      · rw [hv] at q1; cases q1
      · rw [hX'] at q1
        cases q1
        have hr9 := hfin _ (Option.some.inj hz).symm
        exact x_thr C q2 (by rw [hr9]) (by rw [hr9]) q3 q4 q5 g3 g4
    · intro v H1 locs1 hv hS1
      rcases hz with ⟨v', hv', hz⟩ | ⟨-, X', hX', -⟩
      · rw [hv] at hv'
        cases hv'
        exact hnx _ _ _ _ _ hz g3 g4 ls H1 locs1 hl hS1
      · rw [hX'] at hv; cases hv
  · cases hq
theorem x_throw (C : xCx p l s m args meth c lds exs G E A d call Mt own ini cc nL ret PO) {pc i k is ic : Nat} (hsp : xspec own ini cc nL ret PO lds exs pc (.new i) [1, k, is, ic] = true) {ls : Array Slot} {H : Heap} {locs : List Loc} {σ : xH} {st : List Value} {bc bs : Nat} (hS : xS G A s.heap σ H locs) (hr : r0 = (.inr (xexc k), σ))
    (hd : decode cc pc = .ok (.new i, 3)) (hnL : ls.size = nL) (hcat : xcat st ≤ 8) (hc9 : bc + 1 ≤ MC) (hs9 : bs + 6 ≤ MS) :
    W p l e (xrm (d + 1) MC MS) s m args below meth c H locs bc bs (vx_MQ below (xQc G A r0) (xXC G A r0) args s MC MS A) (F0 m pc ls st) := by
  obtain ⟨hx, hb, hml, hts, hown, hK, hKK, hA, hexc, hlocks, hret, htr, hini, hPO, hM⟩ := id C
  have hsp : xokT own cc exs pc i k is ic = true := hsp
  unfold xokT at hsp
  simp only [Bool.and_eq_true, Bool.or_eq_true, decide_eq_true_eq] at hsp
  obtain ⟨w1, w2, w3, w4, w5, w6, d3, hds⟩ := hsp
  obtain ⟨q, hq, hq1⟩ := List.any_eq_true.mp w6
  rw [Bool.and_eq_true, decide_eq_true_eq] at hq1
  obtain ⟨g1, g2⟩ := hq1
  have g2 := Nat.eq_of_beq_eq_true g2
  obtain ⟨sa, hstr⟩ := hKK.2.2.2.2.2.2.2.2.2.2.2.2.2 q hq
  rw [g1, g2] at hstr
  have hw : ∀ w ∈ vx_atS own ic (xexc k) (xnm k), w ∈ lw_tbl ∧ (goodWord w = true ∨ xnest w = true) := by
    intro w hw
    have h := List.all_eq_true.mp w5 w hw
    rw [Bool.and_eq_true, decide_eq_true_eq, Bool.or_eq_true] at h
    exact h
  have hnt : ∀ w : Cond, xnest w = true → w.onTables = true := by
    intro w h
    cases w <;> first | rfl | cases h
  have hlen : (xnm k).length = 2 := by
    unfold xnm
    split <;> rfl
  subst hr
  have hat : ∀ w ∈ vx_atS own ic (xexc k) (xnm k), w.before args s = true := by
    intro w h
    obtain ⟨h1, h2⟩ := hw w h
    rcases h2 with h2 | h2
    · exact hts _ (List.mem_filter.mpr ⟨h1, h2⟩)
    · exact va_Nw.use (hnt w h2) (hKK.2.2.2.2.2.2.2.2.2.1 w h1 h2)
  have hgd : ∀ w ∈ Cond.classLink own i (xexc k) :: Cond.initialized (xexc k) :: vx_atS own ic (xexc k) (xnm k), vx_ot w = true := by
    intro w h
    unfold vx_ot
    rcases List.mem_cons.mp h with rfl | h
    · rfl
    · rcases List.mem_cons.mp h with rfl | h
      · rfl
      · obtain ⟨-, h2⟩ := hw w h
        rcases h2 with h2 | h2
        · rw [h2, Bool.or_true]
        · rw [hnt w h2, Bool.true_or]
  have hfr : (xnm k).length + 3 < (xrm (d + 1) MC MS).frames := by
    rw [hlen]
    show 2 + 3 < d + 1 + 12
    omega
  have hlo : (st.map fun v => v.category).sum + (13 * ((xnm k).length + 1) + 43) ≤ (xrm (d + 1) MC MS).locals := by
    rw [hlen]
    show xcat st + (13 * (2 + 1) + 43) ≤ 40 * (d + 1) + 200
    omega
  have hxx : ∀ t : State, s.vm.Alike t.vm → H.size ≤ t.heap.size → (∀ q : Nat, q < H.size → t.heap[q]? = H[q]?) → xXC G A (.inr (xexc k), σ) (xexc k) s t := by
    intro t _ hsz hq9
    refine ⟨rfl, fun a x ha => ?_, hS.2.2.1, Nat.le_trans hS.2.2.2.1 hsz, fun q h1 h2 => (hq9 q (Nat.lt_of_lt_of_le h1 hS.2.2.2.1)).trans (hS.2.2.2.2.1 q h1 h2)⟩
    have h9 := hS.2.1 a x ha
    exact h9.kept (hq9 a h9.lt)
  rcases hds with ⟨d4, d6, d9⟩ | ⟨d4, d6, d9⟩
  · exact vx_throwS (A := A) hx hb htr hown w1 (fun n hn => List.all_eq_true.mp w2 n hn) (hts _ w3) (hts _ w4) hstr hat hgd hKK.2.2.2.2.2.2.2.1 hKK.2.2.2.2.2.2.2.2.1 hS.2.2.2 (hnL.trans hml.symm) hd d3 d4 d6 d9 (fun x hx9 => (hexc x hx9).elim) hfr hlo hc9 hs9 hlocks hxx hS.2.2.2.2.2 hc9 hs9
  · exact vx_throwSW (A := A) hx hb htr hown w1 (fun n hn => List.all_eq_true.mp w2 n hn) (hts _ w3) (hts _ w4) hstr hat hgd hKK.2.2.2.2.2.2.2.1 hKK.2.2.2.2.2.2.2.2.1 hS.2.2.2 (hnL.trans hml.symm) hd d3 d4 d6 d9 (fun x hx9 => (hexc x hx9).elim) hfr hlo hc9 hs9 hlocks hxx hS.2.2.2.2.2 hc9 hs9
set_option maxHeartbeats 4000000 in
theorem x_step (C : xCx p l s m args meth c lds exs G E A d call Mt own ini cc nL ret PO) {pc np : Nat} {ins : Instr} {info : List Nat} (hok : xokI own ini cc nL ret PO lds exs (pc, ins, info) np = true) {z : xR ⊕ xJ} (hfin : ∀ r, z = .inl r → r0 = r)
    (hj : ∀ t L st σ bc bs, z = .inr (t, L, st, σ, bc, bs) → xTg p l e s m args below meth c d MC MS (vx_MQ below (xQc G A r0) (xXC G A r0) args s MC MS A) G A nL t L st σ bc bs)
    {nx : xL → List Value → xH → Nat → Nat → Option (xR ⊕ xJ)} (hnx : ∀ L st σ bc bs, nx L st σ bc bs = some z → xTg p l e s m args below meth c d MC MS (vx_MQ below (xQc G A r0) (xXC G A r0) args s MC MS A) G A nL np L st σ bc bs)
    {L : xL} {st : List Value} {σ : xH} {bc bs : Nat} (h : xstep E call MC MS (fun r => some (.inl r)) (fun t L st σ bc bs => some (.inr (t, L, st, σ, bc, bs))) nx ins info L st σ bc bs = some z) :
    xTg p l e s m args below meth c d MC MS (vx_MQ below (xQc G A r0) (xXC G A r0) args s MC MS A) G A nL pc L st σ bc bs := by
  intro hbc hbs ls H locs hl hS
  obtain ⟨hx, hb, hml, hts, hown, hK, hKK, hA, hexc, hlocks, hret, htr, hini, hPO, hM⟩ := id C
  unfold xokI at hok
  simp only [Bool.and_eq_true] at hok
  obtain ⟨hd0, hle, hlen, hsp⟩ := hok
  have hd := of_decide_eq_true hd0
  clear hd0
  have hle : pc ≤ np := Nat.le_of_ble_eq_true hle
  have hnL : ls.size = nL := hl.1
  cases ins with
  | iconst i =>
    dsimp only [xstep] at h
    have e9 : np - pc = 1 := Nat.eq_of_beq_eq_true hlen
    rw [e9] at hd
    obtain rfl : np = pc + 1 := by omega
    exact lv_iconst hx hb hd rfl (hnx _ _ _ _ _ h hbc hbs ls H locs hl hS)
  | bipush i =>
    dsimp only [xstep] at h
    have e9 : np - pc = 2 := Nat.eq_of_beq_eq_true hlen
    rw [e9] at hd
    obtain rfl : np = pc + 2 := by omega
    exact lv_bipush hx hb hd rfl (hnx _ _ _ _ _ h hbc hbs ls H locs hl hS)
  | sipush i =>
    dsimp only [xstep] at h
    have e9 : np - pc = 3 := Nat.eq_of_beq_eq_true hlen
    rw [e9] at hd
    obtain rfl : np = pc + 3 := by omega
    exact lv_sipush hx hb hd rfl (hnx _ _ _ _ _ h hbc hbs ls H locs hl hS)
  | lconst i =>
    dsimp only [xstep] at h
    have e9 : np - pc = 1 := Nat.eq_of_beq_eq_true hlen
    rw [e9] at hd
    obtain rfl : np = pc + 1 := by omega
    exact lv_lconst hx hb hd rfl (hnx _ _ _ _ _ h hbc hbs ls H locs hl hS)
  | dconst i =>
    dsimp only [xstep] at h
    have e9 : np - pc = 1 := Nat.eq_of_beq_eq_true hlen
    rw [e9] at hd
    obtain rfl : np = pc + 1 := by omega
    have q9 := iv_iD h
    clear h
    obtain ⟨-, h⟩ := q9
    obtain rfl := of_decide_eq_true hsp
    exact lv_dconst0 hx hb hd (hnx _ _ _ _ _ h hbc hbs ls H locs hl hS)
  | fconst i =>
    dsimp only [xstep] at h
    have e9 : np - pc = 1 := Nat.eq_of_beq_eq_true hlen
    rw [e9] at hd
    obtain rfl : np = pc + 1 := by omega
    have q9 := iv_iF h
    clear h
    rcases q9 with ⟨rfl, h⟩ | ⟨rfl, h⟩
    · have hi : i = 0 := by simpa [xspec] using hsp
      subst hi
      exact lv_fconst0 hx hb hd (hnx _ _ _ _ _ h hbc hbs ls H locs hl hS)
    · have hi : i = 1 := by simpa [xspec] using hsp
      subst hi
      exact lv_fconst1 hx hb hd (hnx _ _ _ _ _ h hbc hbs ls H locs hl hS)
  | ldc i =>
    dsimp only [xstep] at h
    have e9 : np - pc = 2 := Nat.eq_of_beq_eq_true hlen
    rw [e9] at hd
    obtain rfl : np = pc + 2 := by omega
    have q9 := iv_iK h
    clear h
    rcases q9 with ⟨k, rfl, h⟩ | ⟨k, rfl, h⟩ | ⟨j, rfl, hj9, h⟩
    · have w1 : decide (Cond.constant own i (nI k) ∈ xWs) = true := hsp
      exact lv_ldc hx hb hown (hts _ (of_decide_eq_true w1)) hd (hnx _ _ _ _ _ h hbc hbs ls H locs hl hS)
    · have w1 : decide (Cond.constant own i (- nI k) ∈ xWs) = true := hsp
      exact lv_ldc hx hb hown (hts _ (of_decide_eq_true w1)) hd (hnx _ _ _ _ _ h hbc hbs ls H locs hl hS)
    · obtain ⟨q, hq, hq1⟩ := List.any_eq_true.mp hsp
      simp only [Bool.and_eq_true, decide_eq_true_eq] at hq1
      obtain ⟨g1, g2, g3⟩ := hq1
      have g2 := Nat.eq_of_beq_eq_true g2
      have g3 := Nat.eq_of_beq_eq_true g3
      have hR := hKK.2.2.2.2.2.2.2.2.2.2.2.2.1 q hq
      rw [g1, g2, g3] at hR
      exact va_ldcS hx hb hown hR hd (hnx _ _ _ _ _ h hbc hbs ls H locs hl hS)
  | ldc_w i =>
    dsimp only [xstep] at h
    have e9 : np - pc = 3 := Nat.eq_of_beq_eq_true hlen
    rw [e9] at hd
    obtain rfl : np = pc + 3 := by omega
    have q9 := iv_iK h
    clear h
    rcases q9 with ⟨k, rfl, h⟩ | ⟨k, rfl, h⟩ | ⟨j, rfl, hj9, h⟩
    · have w1 : decide (Cond.constant own i (nI k) ∈ xWs) = true := hsp
      exact lv_ldcw hx hb hown (hts _ (of_decide_eq_true w1)) hd (hnx _ _ _ _ _ h hbc hbs ls H locs hl hS)
    · have w1 : decide (Cond.constant own i (- nI k) ∈ xWs) = true := hsp
      exact lv_ldcw hx hb hown (hts _ (of_decide_eq_true w1)) hd (hnx _ _ _ _ _ h hbc hbs ls H locs hl hS)
    · obtain ⟨q, hq, hq1⟩ := List.any_eq_true.mp hsp
      simp only [Bool.and_eq_true, decide_eq_true_eq] at hq1
      obtain ⟨g1, g2, g3⟩ := hq1
      have g2 := Nat.eq_of_beq_eq_true g2
      have g3 := Nat.eq_of_beq_eq_true g3
      have hR := hKK.2.2.2.2.2.2.2.2.2.2.2.2.1 q hq
      rw [g1, g2, g3] at hR
      exact x_ldcwS hx hb hown hR hd (hnx _ _ _ _ _ h hbc hbs ls H locs hl hS)
  | ldc2_w i =>
    dsimp only [xstep] at h
    have e9 : np - pc = 3 := Nat.eq_of_beq_eq_true hlen
    rw [e9] at hd
    obtain rfl : np = pc + 3 := by omega
    have q9 := iv_iK2 h
    clear h
    rcases q9 with ⟨k, rfl, h⟩ | ⟨k, rfl, h⟩
    · have w1 : decide (Cond.constantLong own i (lN k) ∈ xWs) = true := hsp
      exact lv_ldc2 hx hb hown (hts _ (of_decide_eq_true w1)) hd (hnx _ _ _ _ _ h hbc hbs ls H locs hl hS)
    · have w1 : decide (Cond.constantLong own i (- lN k) ∈ xWs) = true := hsp
      exact lv_ldc2 hx hb hown (hts _ (of_decide_eq_true w1)) hd (hnx _ _ _ _ _ h hbc hbs ls H locs hl hS)
  | iload i =>
    dsimp only [xstep] at h
    have e9 : np - pc = 2 := Nat.eq_of_beq_eq_true hlen
    rw [e9] at hd
    obtain rfl : np = pc + 2 := by omega
    have q9 := iv_kkI h
    clear h
    obtain ⟨x, hg, h⟩ := q9
    exact lv_iload hx hb hd (xget_has hl hg) (hnx _ _ _ _ _ h hbc hbs ls H locs hl hS)
  | iload_n i =>
    dsimp only [xstep] at h
    have e9 : np - pc = 1 := Nat.eq_of_beq_eq_true hlen
    rw [e9] at hd
    obtain rfl : np = pc + 1 := by omega
    have q9 := iv_kkI h
    clear h
    obtain ⟨x, hg, h⟩ := q9
    exact lv_iload_n hx hb hd rfl (xget_has hl hg) (hnx _ _ _ _ _ h hbc hbs ls H locs hl hS)
  | lload i =>
    dsimp only [xstep] at h
    have e9 : np - pc = 2 := Nat.eq_of_beq_eq_true hlen
    rw [e9] at hd
    obtain rfl : np = pc + 2 := by omega
    have q9 := iv_kkL h
    clear h
    obtain ⟨x, hg, h⟩ := q9
    exact lv_lload hx hb hd (xget_has hl hg) (hnx _ _ _ _ _ h hbc hbs ls H locs hl hS)
  | lload_n i =>
    dsimp only [xstep] at h
    have e9 : np - pc = 1 := Nat.eq_of_beq_eq_true hlen
    rw [e9] at hd
    obtain rfl : np = pc + 1 := by omega
    have q9 := iv_kkL h
    clear h
    obtain ⟨x, hg, h⟩ := q9
    exact lv_lload_n hx hb hd rfl (xget_has hl hg) (hnx _ _ _ _ _ h hbc hbs ls H locs hl hS)
  | dload i =>
    dsimp only [xstep] at h
    have e9 : np - pc = 2 := Nat.eq_of_beq_eq_true hlen
    rw [e9] at hd
    obtain rfl : np = pc + 2 := by omega
    have q9 := iv_kkD h
    clear h
    obtain ⟨x, hg, h⟩ := q9
    exact lv_dload hx hb hd (xget_has hl hg) (hnx _ _ _ _ _ h hbc hbs ls H locs hl hS)
  | aload i =>
    dsimp only [xstep] at h
    have e9 : np - pc = 2 := Nat.eq_of_beq_eq_true hlen
    rw [e9] at hd
    obtain rfl : np = pc + 2 := by omega
    have q9 := iv_kkA h
    clear h
    obtain ⟨x, hg, h⟩ := q9
    exact lv_aload hx hb hd (xget_has hl hg) (hnx _ _ _ _ _ h hbc hbs ls H locs hl hS)
  | aload_n i =>
    dsimp only [xstep] at h
    have e9 : np - pc = 1 := Nat.eq_of_beq_eq_true hlen
    rw [e9] at hd
    obtain rfl : np = pc + 1 := by omega
    have q9 := iv_kkA h
    clear h
    obtain ⟨x, hg, h⟩ := q9
    exact lv_aload_n hx hb hd rfl (xget_has hl hg) (hnx _ _ _ _ _ h hbc hbs ls H locs hl hS)
  | istore i =>
    dsimp only [xstep] at h
    have e9 : np - pc = 2 := Nat.eq_of_beq_eq_true hlen
    rw [e9] at hd
    obtain rfl : np = pc + 2 := by omega
    have q9 := iv_t1I h
    clear h
    obtain ⟨x, r, rfl, h⟩ := q9
    exact lv_istore hx hb hd hl (Nat.le_of_ble_eq_true hsp) rfl (fun ls' hl' => hnx _ _ _ _ _ h hbc hbs ls' H locs hl' hS)
  | istore_n i =>
    dsimp only [xstep] at h
    have e9 : np - pc = 1 := Nat.eq_of_beq_eq_true hlen
    rw [e9] at hd
    obtain rfl : np = pc + 1 := by omega
    have q9 := iv_t1I h
    clear h
    obtain ⟨x, r, rfl, h⟩ := q9
    exact lv_istore_n hx hb hd rfl hl (Nat.le_of_ble_eq_true hsp) rfl (fun ls' hl' => hnx _ _ _ _ _ h hbc hbs ls' H locs hl' hS)
  | lstore i =>
    dsimp only [xstep] at h
    have e9 : np - pc = 2 := Nat.eq_of_beq_eq_true hlen
    rw [e9] at hd
    obtain rfl : np = pc + 2 := by omega
    have q9 := iv_t1L h
    clear h
    obtain ⟨x, r, rfl, h⟩ := q9
    exact lv_lstore hx hb hd hl (Nat.le_of_ble_eq_true hsp) rfl (fun ls' hl' => hnx _ _ _ _ _ h hbc hbs ls' H locs hl' hS)
  | lstore_n i =>
    dsimp only [xstep] at h
    have e9 : np - pc = 1 := Nat.eq_of_beq_eq_true hlen
    rw [e9] at hd
    obtain rfl : np = pc + 1 := by omega
    have q9 := iv_t1L h
    clear h
    obtain ⟨x, r, rfl, h⟩ := q9
    exact lv_lstore_n hx hb hd rfl hl (Nat.le_of_ble_eq_true hsp) rfl (fun ls' hl' => hnx _ _ _ _ _ h hbc hbs ls' H locs hl' hS)
  | dstore i =>
    dsimp only [xstep] at h
    have e9 : np - pc = 2 := Nat.eq_of_beq_eq_true hlen
    rw [e9] at hd
    obtain rfl : np = pc + 2 := by omega
    have q9 := iv_t1D h
    clear h
    obtain ⟨x, r, rfl, h⟩ := q9
    exact lv_dstore hx hb hd hl (Nat.le_of_ble_eq_true hsp) rfl (fun ls' hl' => hnx _ _ _ _ _ h hbc hbs ls' H locs hl' hS)
  | astore i =>
    dsimp only [xstep] at h
    have e9 : np - pc = 2 := Nat.eq_of_beq_eq_true hlen
    rw [e9] at hd
    obtain rfl : np = pc + 2 := by omega
    have q9 := iv_t1A h
    clear h
    obtain ⟨x, r, rfl, h⟩ := q9
    exact lv_astore hx hb hd hl (Nat.le_of_ble_eq_true hsp) rfl (fun ls' hl' => hnx _ _ _ _ _ h hbc hbs ls' H locs hl' hS)
  | astore_n i =>
    dsimp only [xstep] at h
    have e9 : np - pc = 1 := Nat.eq_of_beq_eq_true hlen
    rw [e9] at hd
    obtain rfl : np = pc + 1 := by omega
    have q9 := iv_t1A h
    clear h
    obtain ⟨x, r, rfl, h⟩ := q9
    exact lv_astore_n hx hb hd rfl hl (Nat.le_of_ble_eq_true hsp) rfl (fun ls' hl' => hnx _ _ _ _ _ h hbc hbs ls' H locs hl' hS)
  | iinc i k =>
    dsimp only [xstep] at h
    have e9 : np - pc = 3 := Nat.eq_of_beq_eq_true hlen
    rw [e9] at hd
    obtain rfl : np = pc + 3 := by omega
    have q9 := iv_kkI h
    clear h
    obtain ⟨x, hg, h⟩ := q9
    exact x_iinc hx hb hd hl hg (Nat.le_of_ble_eq_true hsp) (fun ls' hl' => hnx _ _ _ _ _ h hbc hbs ls' H locs hl' hS)
  | iadd =>
    dsimp only [xstep] at h
    have e9 : np - pc = 1 := Nat.eq_of_beq_eq_true hlen
    rw [e9] at hd
    obtain rfl : np = pc + 1 := by omega
    have q9 := iv_t2I h
    clear h
    obtain ⟨x, y, r, rfl, h⟩ := q9
    exact lv_iadd hx hb hd (hnx _ _ _ _ _ h hbc hbs ls H locs hl hS)
  | isub =>
    dsimp only [xstep] at h
    have e9 : np - pc = 1 := Nat.eq_of_beq_eq_true hlen
    rw [e9] at hd
    obtain rfl : np = pc + 1 := by omega
    have q9 := iv_t2I h
    clear h
    obtain ⟨x, y, r, rfl, h⟩ := q9
    exact lv_isub hx hb hd (hnx _ _ _ _ _ h hbc hbs ls H locs hl hS)
  | imul =>
    dsimp only [xstep] at h
    have e9 : np - pc = 1 := Nat.eq_of_beq_eq_true hlen
    rw [e9] at hd
    obtain rfl : np = pc + 1 := by omega
    have q9 := iv_t2I h
    clear h
    obtain ⟨x, y, r, rfl, h⟩ := q9
    exact lv_imul hx hb hd (hnx _ _ _ _ _ h hbc hbs ls H locs hl hS)
  | iand =>
    dsimp only [xstep] at h
    have e9 : np - pc = 1 := Nat.eq_of_beq_eq_true hlen
    rw [e9] at hd
    obtain rfl : np = pc + 1 := by omega
    have q9 := iv_t2I h
    clear h
    obtain ⟨x, y, r, rfl, h⟩ := q9
    exact lv_iand hx hb hd (hnx _ _ _ _ _ h hbc hbs ls H locs hl hS)
  | ior =>
    dsimp only [xstep] at h
    have e9 : np - pc = 1 := Nat.eq_of_beq_eq_true hlen
    rw [e9] at hd
    obtain rfl : np = pc + 1 := by omega
    have q9 := iv_t2I h
    clear h
    obtain ⟨x, y, r, rfl, h⟩ := q9
    exact lv_ior hx hb hd (hnx _ _ _ _ _ h hbc hbs ls H locs hl hS)
  | ixor =>
    dsimp only [xstep] at h
    have e9 : np - pc = 1 := Nat.eq_of_beq_eq_true hlen
    rw [e9] at hd
    obtain rfl : np = pc + 1 := by omega
    have q9 := iv_t2I h
    clear h
    obtain ⟨x, y, r, rfl, h⟩ := q9
    exact lv_ixor hx hb hd (hnx _ _ _ _ _ h hbc hbs ls H locs hl hS)
  | ishl =>
    dsimp only [xstep] at h
    have e9 : np - pc = 1 := Nat.eq_of_beq_eq_true hlen
    rw [e9] at hd
    obtain rfl : np = pc + 1 := by omega
    have q9 := iv_t2I h
    clear h
    obtain ⟨x, y, r, rfl, h⟩ := q9
    exact lv_ishl hx hb hd (hnx _ _ _ _ _ h hbc hbs ls H locs hl hS)
  | ishr =>
    dsimp only [xstep] at h
    have e9 : np - pc = 1 := Nat.eq_of_beq_eq_true hlen
    rw [e9] at hd
    obtain rfl : np = pc + 1 := by omega
    have q9 := iv_t2I h
    clear h
    obtain ⟨x, y, r, rfl, h⟩ := q9
    exact lv_ishr hx hb hd (hnx _ _ _ _ _ h hbc hbs ls H locs hl hS)
  | idiv =>
    dsimp only [xstep] at h
    have e9 : np - pc = 1 := Nat.eq_of_beq_eq_true hlen
    rw [e9] at hd
    obtain rfl : np = pc + 1 := by omega
    have q9 := iv_t2I h
    clear h
    obtain ⟨x, y, r, rfl, h⟩ := q9
    have q9 := iv_nz h
    clear h
    obtain ⟨hz, h⟩ := q9
    exact lv_idiv hx hb hd (of_decide_eq_true hz) (hnx _ _ _ _ _ h hbc hbs ls H locs hl hS)
  | irem =>
    dsimp only [xstep] at h
    have e9 : np - pc = 1 := Nat.eq_of_beq_eq_true hlen
    rw [e9] at hd
    obtain rfl : np = pc + 1 := by omega
    have q9 := iv_t2I h
    clear h
    obtain ⟨x, y, r, rfl, h⟩ := q9
    have q9 := iv_nz h
    clear h
    obtain ⟨hz, h⟩ := q9
    exact lv_irem hx hb hd (of_decide_eq_true hz) (hnx _ _ _ _ _ h hbc hbs ls H locs hl hS)
  | ldiv =>
    dsimp only [xstep] at h
    have e9 : np - pc = 1 := Nat.eq_of_beq_eq_true hlen
    rw [e9] at hd
    obtain rfl : np = pc + 1 := by omega
    have q9 := iv_t2L h
    clear h
    obtain ⟨x, y, r, rfl, h⟩ := q9
    have q9 := iv_nz h
    clear h
    obtain ⟨hz, h⟩ := q9
    exact lv_ldiv hx hb hd (of_decide_eq_true hz) (hnx _ _ _ _ _ h hbc hbs ls H locs hl hS)
  | lrem =>
    dsimp only [xstep] at h
    have e9 : np - pc = 1 := Nat.eq_of_beq_eq_true hlen
    rw [e9] at hd
    obtain rfl : np = pc + 1 := by omega
    have q9 := iv_t2L h
    clear h
    obtain ⟨x, y, r, rfl, h⟩ := q9
    have q9 := iv_nz h
    clear h
    obtain ⟨hz, h⟩ := q9
    exact lv_lrem hx hb hd (of_decide_eq_true hz) (hnx _ _ _ _ _ h hbc hbs ls H locs hl hS)
  | ladd =>
    dsimp only [xstep] at h
    have e9 : np - pc = 1 := Nat.eq_of_beq_eq_true hlen
    rw [e9] at hd
    obtain rfl : np = pc + 1 := by omega
    have q9 := iv_t2L h
    clear h
    obtain ⟨x, y, r, rfl, h⟩ := q9
    exact lv_ladd hx hb hd (hnx _ _ _ _ _ h hbc hbs ls H locs hl hS)
  | lsub =>
    dsimp only [xstep] at h
    have e9 : np - pc = 1 := Nat.eq_of_beq_eq_true hlen
    rw [e9] at hd
    obtain rfl : np = pc + 1 := by omega
    have q9 := iv_t2L h
    clear h
    obtain ⟨x, y, r, rfl, h⟩ := q9
    exact lv_lsub hx hb hd (hnx _ _ _ _ _ h hbc hbs ls H locs hl hS)
  | lmul =>
    dsimp only [xstep] at h
    have e9 : np - pc = 1 := Nat.eq_of_beq_eq_true hlen
    rw [e9] at hd
    obtain rfl : np = pc + 1 := by omega
    have q9 := iv_t2L h
    clear h
    obtain ⟨x, y, r, rfl, h⟩ := q9
    exact lv_lmul hx hb hd (hnx _ _ _ _ _ h hbc hbs ls H locs hl hS)
  | lcmp =>
    dsimp only [xstep] at h
    have e9 : np - pc = 1 := Nat.eq_of_beq_eq_true hlen
    rw [e9] at hd
    obtain rfl : np = pc + 1 := by omega
    have q9 := iv_t2L h
    clear h
    obtain ⟨x, y, r, rfl, h⟩ := q9
    exact W.lcmp hx hb hd (hnx _ _ _ _ _ h hbc hbs ls H locs hl hS)
  | i2l =>
    dsimp only [xstep] at h
    have e9 : np - pc = 1 := Nat.eq_of_beq_eq_true hlen
    rw [e9] at hd
    obtain rfl : np = pc + 1 := by omega
    have q9 := iv_t1I h
    clear h
    obtain ⟨x, r, rfl, h⟩ := q9
    exact lv_i2l hx hb hd rfl (hnx _ _ _ _ _ h hbc hbs ls H locs hl hS)
  | l2i =>
    dsimp only [xstep] at h
    have e9 : np - pc = 1 := Nat.eq_of_beq_eq_true hlen
    rw [e9] at hd
    obtain rfl : np = pc + 1 := by omega
    have q9 := iv_t1L h
    clear h
    obtain ⟨x, r, rfl, h⟩ := q9
    exact lv_l2i hx hb hd rfl (hnx _ _ _ _ _ h hbc hbs ls H locs hl hS)
  | i2b =>
    dsimp only [xstep] at h
    have e9 : np - pc = 1 := Nat.eq_of_beq_eq_true hlen
    rw [e9] at hd
    obtain rfl : np = pc + 1 := by omega
    have q9 := iv_t1I h
    clear h
    obtain ⟨x, r, rfl, h⟩ := q9
    exact lv_i2b hx hb hd rfl (hnx _ _ _ _ _ h hbc hbs ls H locs hl hS)
  | i2c =>
    dsimp only [xstep] at h
    have e9 : np - pc = 1 := Nat.eq_of_beq_eq_true hlen
    rw [e9] at hd
    obtain rfl : np = pc + 1 := by omega
    have q9 := iv_t1I h
    clear h
    obtain ⟨x, r, rfl, h⟩ := q9
    exact lv_i2c hx hb hd rfl (hnx _ _ _ _ _ h hbc hbs ls H locs hl hS)
  | i2d =>
    dsimp only [xstep] at h
    have e9 : np - pc = 1 := Nat.eq_of_beq_eq_true hlen
    rw [e9] at hd
    obtain rfl : np = pc + 1 := by omega
    have q9 := iv_t1I h
    clear h
    obtain ⟨x, r, rfl, h⟩ := q9
    exact lv_i2d hx hb hd (hnx _ _ _ _ _ h hbc hbs ls H locs hl hS)
  | l2d =>
    dsimp only [xstep] at h
    have e9 : np - pc = 1 := Nat.eq_of_beq_eq_true hlen
    rw [e9] at hd
    obtain rfl : np = pc + 1 := by omega
    have q9 := iv_t1L h
    clear h
    obtain ⟨x, r, rfl, h⟩ := q9
    exact lv_l2d hx hb hd (hnx _ _ _ _ _ h hbc hbs ls H locs hl hS)
  | i2f =>
    dsimp only [xstep] at h
    have e9 : np - pc = 1 := Nat.eq_of_beq_eq_true hlen
    rw [e9] at hd
    obtain rfl : np = pc + 1 := by omega
    have q9 := iv_t1I h
    clear h
    obtain ⟨x, r, rfl, h⟩ := q9
    exact lv_i2f hx hb hd (hnx _ _ _ _ _ h hbc hbs ls H locs hl hS)
  | l2f =>
    dsimp only [xstep] at h
    have e9 : np - pc = 1 := Nat.eq_of_beq_eq_true hlen
    rw [e9] at hd
    obtain rfl : np = pc + 1 := by omega
    have q9 := iv_t1L h
    clear h
    obtain ⟨x, r, rfl, h⟩ := q9
    exact lv_l2f hx hb hd (hnx _ _ _ _ _ h hbc hbs ls H locs hl hS)
  | f2d =>
    dsimp only [xstep] at h
    have e9 : np - pc = 1 := Nat.eq_of_beq_eq_true hlen
    rw [e9] at hd
    obtain rfl : np = pc + 1 := by omega
    have q9 := iv_t1F h
    clear h
    obtain ⟨x, r, rfl, h⟩ := q9
    have q9 := iv_nz h
    clear h
    obtain ⟨hz, h⟩ := q9
    have hz9 : FP.f2d x &&& 0x7fffffffffffffff ≤ 0x7ff0000000000000 := of_decide_eq_true hz
    exact lv_f2d hx hb hd hz9 (hnx _ _ _ _ _ h hbc hbs ls H locs hl hS)
  | fdiv =>
    dsimp only [xstep] at h
    have e9 : np - pc = 1 := Nat.eq_of_beq_eq_true hlen
    rw [e9] at hd
    obtain rfl : np = pc + 1 := by omega
    have q9 := iv_t2F h
    clear h
    obtain ⟨x, y, r, rfl, h⟩ := q9
    have q9 := iv_nz h
    clear h
    obtain ⟨hz, h⟩ := q9
    have hz9 : FP.fdiv x y &&& 0x7fffffff ≤ 0x7f800000 := of_decide_eq_true hz
    exact lv_fdiv hx hb hd hz9 (hnx _ _ _ _ _ h hbc hbs ls H locs hl hS)
  | fsub =>
    dsimp only [xstep] at h
    have e9 : np - pc = 1 := Nat.eq_of_beq_eq_true hlen
    rw [e9] at hd
    obtain rfl : np = pc + 1 := by omega
    have q9 := iv_t2F h
    clear h
    obtain ⟨x, y, r, rfl, h⟩ := q9
    have q9 := iv_nz h
    clear h
    obtain ⟨hz, h⟩ := q9
    have hz9 : FP.fsub x y &&& 0x7fffffff ≤ 0x7f800000 := of_decide_eq_true hz
    exact lv_fsub hx hb hd hz9 (hnx _ _ _ _ _ h hbc hbs ls H locs hl hS)
  | ddiv =>
    dsimp only [xstep] at h
    have e9 : np - pc = 1 := Nat.eq_of_beq_eq_true hlen
    rw [e9] at hd
    obtain rfl : np = pc + 1 := by omega
    have q9 := iv_t2D h
    clear h
    obtain ⟨x, y, r, rfl, h⟩ := q9
    have q9 := iv_nz h
    clear h
    obtain ⟨hz, h⟩ := q9
    have hz9 : FP.ddiv x y &&& 0x7fffffffffffffff ≤ 0x7ff0000000000000 := of_decide_eq_true hz
    exact lv_ddiv hx hb hd hz9 (hnx _ _ _ _ _ h hbc hbs ls H locs hl hS)
  | dcmp o =>
    dsimp only [xstep] at h
    have e9 : np - pc = 1 := Nat.eq_of_beq_eq_true hlen
    rw [e9] at hd
    obtain rfl : np = pc + 1 := by omega
    have q9 := iv_t2D h
    clear h
    obtain ⟨x, y, r, rfl, h⟩ := q9
    exact lv_dcmp hx hb hd (hnx _ _ _ _ _ h hbc hbs ls H locs hl hS)
  | dup =>
    dsimp only [xstep] at h
    have e9 : np - pc = 1 := Nat.eq_of_beq_eq_true hlen
    rw [e9] at hd
    obtain rfl : np = pc + 1 := by omega
    have q9 := iv_tV h
    clear h
    obtain ⟨v, r, rfl, hc, h⟩ := q9
    exact lv_dup hx hb hd hc (hnx _ _ _ _ _ h hbc hbs ls H locs hl hS)
  | dup2 =>
    dsimp only [xstep] at h
    have e9 : np - pc = 1 := Nat.eq_of_beq_eq_true hlen
    rw [e9] at hd
    obtain rfl : np = pc + 1 := by omega
    have q9 := iv_tV h
    clear h
    obtain ⟨v, r, rfl, hc, h⟩ := q9
    have q9 := iv_tV h
    clear h
    obtain ⟨u, r, rfl, hc2, h⟩ := q9
    exact lv_dup2_11 hx hb hd hc hc2 (hnx _ _ _ _ _ h hbc hbs ls H locs hl hS)
  | pop =>
    dsimp only [xstep] at h
    have e9 : np - pc = 1 := Nat.eq_of_beq_eq_true hlen
    rw [e9] at hd
    obtain rfl : np = pc + 1 := by omega
    have q9 := iv_tV h
    clear h
    obtain ⟨v, r, rfl, hc, h⟩ := q9
    exact lv_pop hx hb hd hc (hnx _ _ _ _ _ h hbc hbs ls H locs hl hS)
  | ifCond k o =>
    dsimp only [xstep] at h
    have e9 : np - pc = 3 := Nat.eq_of_beq_eq_true hlen
    rw [e9] at hd
    obtain rfl : np = pc + 3 := by omega
    have q9 := iv_t1I h
    clear h
    obtain ⟨x, r, rfl, h⟩ := q9
    have q9 := iv_i1 h
    clear h
    obtain ⟨t, rfl, h⟩ := q9
    have ht9 : (pc : Int) + o = (t : Int) := of_decide_eq_true hsp
    cases k
    · exact lv_if_eq hx hb hd ht9 (fun hc => by
        have h : (if x = 0 then some (.inr (t, L, r, σ, bc, bs)) else nx L r σ bc bs) = some z := h
        rw [if_pos hc] at h
        exact hj _ _ _ _ _ _ (Option.some.inj h).symm hbc hbs ls H locs hl hS) (fun hc => by
        have h : (if x = 0 then some (.inr (t, L, r, σ, bc, bs)) else nx L r σ bc bs) = some z := h
        rw [if_neg hc] at h
        exact hnx _ _ _ _ _ h hbc hbs ls H locs hl hS)
    · exact lv_if_ne hx hb hd ht9 (fun hc => by
        have h : (if x = 0 then nx L r σ bc bs else some (.inr (t, L, r, σ, bc, bs))) = some z := h
        rw [if_neg hc] at h
        exact hj _ _ _ _ _ _ (Option.some.inj h).symm hbc hbs ls H locs hl hS) (fun hc => by
        have h : (if x = 0 then nx L r σ bc bs else some (.inr (t, L, r, σ, bc, bs))) = some z := h
        rw [if_pos hc] at h
        exact hnx _ _ _ _ _ h hbc hbs ls H locs hl hS)
    · exact lv_if_lt hx hb hd ht9 (fun hc => by
        have h : (if x < 0 then some (.inr (t, L, r, σ, bc, bs)) else nx L r σ bc bs) = some z := h
        rw [if_pos hc] at h
        exact hj _ _ _ _ _ _ (Option.some.inj h).symm hbc hbs ls H locs hl hS) (fun hc => by
        have h : (if x < 0 then some (.inr (t, L, r, σ, bc, bs)) else nx L r σ bc bs) = some z := h
        rw [if_neg hc] at h
        exact hnx _ _ _ _ _ h hbc hbs ls H locs hl hS)
    · exact lv_if_ge hx hb hd ht9 (fun hc => by
        have h : (if 0 ≤ x then some (.inr (t, L, r, σ, bc, bs)) else nx L r σ bc bs) = some z := h
        rw [if_pos hc] at h
        exact hj _ _ _ _ _ _ (Option.some.inj h).symm hbc hbs ls H locs hl hS) (fun hc => by
        have h : (if 0 ≤ x then some (.inr (t, L, r, σ, bc, bs)) else nx L r σ bc bs) = some z := h
        rw [if_neg hc] at h
        exact hnx _ _ _ _ _ h hbc hbs ls H locs hl hS)
    · exact lv_if_gt hx hb hd ht9 (fun hc => by
        have h : (if 0 < x then some (.inr (t, L, r, σ, bc, bs)) else nx L r σ bc bs) = some z := h
        rw [if_pos hc] at h
        exact hj _ _ _ _ _ _ (Option.some.inj h).symm hbc hbs ls H locs hl hS) (fun hc => by
        have h : (if 0 < x then some (.inr (t, L, r, σ, bc, bs)) else nx L r σ bc bs) = some z := h
        rw [if_neg hc] at h
        exact hnx _ _ _ _ _ h hbc hbs ls H locs hl hS)
    · exact lv_if_le hx hb hd ht9 (fun hc => by
        have h : (if x ≤ 0 then some (.inr (t, L, r, σ, bc, bs)) else nx L r σ bc bs) = some z := h
        rw [if_pos hc] at h
        exact hj _ _ _ _ _ _ (Option.some.inj h).symm hbc hbs ls H locs hl hS) (fun hc => by
        have h : (if x ≤ 0 then some (.inr (t, L, r, σ, bc, bs)) else nx L r σ bc bs) = some z := h
        rw [if_neg hc] at h
        exact hnx _ _ _ _ _ h hbc hbs ls H locs hl hS)
  | if_icmp k o =>
    dsimp only [xstep] at h
    have e9 : np - pc = 3 := Nat.eq_of_beq_eq_true hlen
    rw [e9] at hd
    obtain rfl : np = pc + 3 := by omega
    have q9 := iv_t2I h
    clear h
    obtain ⟨x, y, r, rfl, h⟩ := q9
    have q9 := iv_i1 h
    clear h
    obtain ⟨t, rfl, h⟩ := q9
    have ht9 : (pc : Int) + o = (t : Int) := of_decide_eq_true hsp
    cases k
    · exact lv_icmp_eq hx hb hd ht9 (fun hc => by
        have h : (if x = y then some (.inr (t, L, r, σ, bc, bs)) else nx L r σ bc bs) = some z := h
        rw [if_pos hc] at h
        exact hj _ _ _ _ _ _ (Option.some.inj h).symm hbc hbs ls H locs hl hS) (fun hc => by
        have h : (if x = y then some (.inr (t, L, r, σ, bc, bs)) else nx L r σ bc bs) = some z := h
        rw [if_neg hc] at h
        exact hnx _ _ _ _ _ h hbc hbs ls H locs hl hS)
    · exact lv_icmp_ne hx hb hd ht9 (fun hc => by
        have h : (if x = y then nx L r σ bc bs else some (.inr (t, L, r, σ, bc, bs))) = some z := h
        rw [if_neg hc] at h
        exact hj _ _ _ _ _ _ (Option.some.inj h).symm hbc hbs ls H locs hl hS) (fun hc => by
        have h : (if x = y then nx L r σ bc bs else some (.inr (t, L, r, σ, bc, bs))) = some z := h
        rw [if_pos hc] at h
        exact hnx _ _ _ _ _ h hbc hbs ls H locs hl hS)
    · exact lv_icmp_lt hx hb hd ht9 (fun hc => by
        have h : (if x < y then some (.inr (t, L, r, σ, bc, bs)) else nx L r σ bc bs) = some z := h
        rw [if_pos hc] at h
        exact hj _ _ _ _ _ _ (Option.some.inj h).symm hbc hbs ls H locs hl hS) (fun hc => by
        have h : (if x < y then some (.inr (t, L, r, σ, bc, bs)) else nx L r σ bc bs) = some z := h
        rw [if_neg hc] at h
        exact hnx _ _ _ _ _ h hbc hbs ls H locs hl hS)
    · exact lv_icmp_ge hx hb hd ht9 (fun hc => by
        have h : (if y ≤ x then some (.inr (t, L, r, σ, bc, bs)) else nx L r σ bc bs) = some z := h
        rw [if_pos hc] at h
        exact hj _ _ _ _ _ _ (Option.some.inj h).symm hbc hbs ls H locs hl hS) (fun hc => by
        have h : (if y ≤ x then some (.inr (t, L, r, σ, bc, bs)) else nx L r σ bc bs) = some z := h
        rw [if_neg hc] at h
        exact hnx _ _ _ _ _ h hbc hbs ls H locs hl hS)
    · exact lv_icmp_gt hx hb hd ht9 (fun hc => by
        have h : (if y < x then some (.inr (t, L, r, σ, bc, bs)) else nx L r σ bc bs) = some z := h
        rw [if_pos hc] at h
        exact hj _ _ _ _ _ _ (Option.some.inj h).symm hbc hbs ls H locs hl hS) (fun hc => by
        have h : (if y < x then some (.inr (t, L, r, σ, bc, bs)) else nx L r σ bc bs) = some z := h
        rw [if_neg hc] at h
        exact hnx _ _ _ _ _ h hbc hbs ls H locs hl hS)
    · exact lv_icmp_le hx hb hd ht9 (fun hc => by
        have h : (if x ≤ y then some (.inr (t, L, r, σ, bc, bs)) else nx L r σ bc bs) = some z := h
        rw [if_pos hc] at h
        exact hj _ _ _ _ _ _ (Option.some.inj h).symm hbc hbs ls H locs hl hS) (fun hc => by
        have h : (if x ≤ y then some (.inr (t, L, r, σ, bc, bs)) else nx L r σ bc bs) = some z := h
        rw [if_neg hc] at h
        exact hnx _ _ _ _ _ h hbc hbs ls H locs hl hS)
  | if_acmp k o =>
    dsimp only [xstep] at h
    have e9 : np - pc = 3 := Nat.eq_of_beq_eq_true hlen
    rw [e9] at hd
    obtain rfl : np = pc + 3 := by omega
    have q9 := iv_t2A h
    clear h
    obtain ⟨x, y, r, rfl, h⟩ := q9
    have q9 := iv_i1 h
    clear h
    obtain ⟨t, rfl, h⟩ := q9
    have ht9 : (pc : Int) + o = (t : Int) := of_decide_eq_true hsp
    cases k
    · refine lv_acmp_eq (rx := some x) (ry := some y) hx hb hd ht9 (fun hc => ?_) (fun hc => ?_)
      · have hxy : Nat.beq x y = true := by rw [Option.some.inj hc]; exact Nat.beq_refl y
        have h : (bif Nat.beq x y then some (.inr (t, L, r, σ, bc, bs)) else nx L r σ bc bs) = some z := h
        rw [hxy] at h
        exact hj _ _ _ _ _ _ (Option.some.inj h).symm hbc hbs ls H locs hl hS
      · have hxy : Nat.beq x y = false := by
          cases h9 : Nat.beq x y
          · rfl
          · exact absurd (congrArg some (Nat.eq_of_beq_eq_true h9)) hc
        have h : (bif Nat.beq x y then some (.inr (t, L, r, σ, bc, bs)) else nx L r σ bc bs) = some z := h
        rw [hxy] at h
        exact hnx _ _ _ _ _ h hbc hbs ls H locs hl hS
    · refine lv_acmp_ne (rx := some x) (ry := some y) hx hb hd ht9 (fun hc => ?_) (fun hc => ?_)
      · have hxy : Nat.beq x y = false := by
          cases h9 : Nat.beq x y
          · rfl
          · exact absurd (congrArg some (Nat.eq_of_beq_eq_true h9)) hc
        have h : (bif Nat.beq x y then nx L r σ bc bs else some (.inr (t, L, r, σ, bc, bs))) = some z := h
        rw [hxy] at h
        exact hj _ _ _ _ _ _ (Option.some.inj h).symm hbc hbs ls H locs hl hS
      · have hxy : Nat.beq x y = true := by rw [Option.some.inj hc]; exact Nat.beq_refl y
        have h : (bif Nat.beq x y then nx L r σ bc bs else some (.inr (t, L, r, σ, bc, bs))) = some z := h
        rw [hxy] at h
        exact hnx _ _ _ _ _ h hbc hbs ls H locs hl hS
  | goto o =>
    dsimp only [xstep] at h
    have e9 : np - pc = 3 := Nat.eq_of_beq_eq_true hlen
    rw [e9] at hd
    obtain rfl : np = pc + 3 := by omega
    have q9 := iv_i1 h
    clear h
    obtain ⟨t, rfl, h⟩ := q9
    have ht9 : (pc : Int) + o = (t : Int) := of_decide_eq_true hsp
    exact lv_goto hx hb hd ht9 (hj _ _ _ _ _ _ (Option.some.inj h).symm hbc hbs ls H locs hl hS)
  | tableswitch df lo hi offs =>
    dsimp only [xstep] at h
    have q9 := iv_t1I h
    clear h
    obtain ⟨x, r, rfl, h⟩ := q9
    have q9 := iv_iSw h
    clear h
    obtain ⟨d9, l0, ts, rfl, h⟩ := q9
    have hsp : (decide (lo = (l0 : Int)) && (decide (hi = (l0 : Int) + ts.length - 1) && (decide ((pc : Int) + df = (d9 : Int)) && (xtab pc offs 0 ts && Nat.ble (l0 + ts.length) 100000)))) = true := hsp
    simp only [Bool.and_eq_true, decide_eq_true_eq] at hsp
    obtain ⟨rfl, rfl, hdf, htab, hbd⟩ := hsp
    have hbd := Nat.le_of_ble_eq_true hbd
    have q9 := iv_xsw _ _ h
    clear h
    rcases q9 with ⟨j, t, hj9, hx9, h⟩ | ⟨hno, h⟩
    · have hjl : j < ts.length := (List.getElem?_eq_some_iff.mp hj9).1
      obtain ⟨off, ho, ht⟩ := xtab_at htab hj9
      have hxi : x.toInt = (l0 + j : Nat) := by rw [hx9]; exact nI_toInt (by omega)
      refine lv_tableIn (off := off) (tgt := t) hx hb hd (by omega) (by omega) ?_ ht (hj _ _ _ _ _ _ (Option.some.inj h).symm hbc hbs ls H locs hl hS)
      rw [hxi]
      rw [show ((l0 + j : Nat) : Int) - (l0 : Int) = (j : Int) by omega]
      simpa using ho
    · refine lv_tableOut (tgt := d9) hx hb hd ?_ hdf (hj _ _ _ _ _ _ (Option.some.inj h).symm hbc hbs ls H locs hl hS)
      by_cases h1 : x.toInt < l0
      · exact Or.inl h1
      · by_cases h2 : (l0 : Int) + ts.length - 1 < x.toInt
        · exact Or.inr h2
        · refine absurd ?_ (hno (x.toInt - l0).toNat (by omega))
          apply Int32.toInt_inj.mp
          rw [nI_toInt (by omega)]
          omega
  | getfield i =>
    dsimp only [xstep] at h
    have e9 : np - pc = 3 := Nat.eq_of_beq_eq_true hlen
    rw [e9] at hd
    obtain rfl : np = pc + 3 := by omega
    have q9 := iv_t1A h
    clear h
    obtain ⟨a, r, rfl, h⟩ := q9
    have hsp : (decide ((0, i, info) ∈ PO) || decide ((6, i, info) ∈ PO)) = true := hsp
    rw [Bool.or_eq_true, decide_eq_true_eq, decide_eq_true_eq] at hsp
    have q9 := iv_xgf h
    clear h
    rcases q9 with ⟨rfl, j, hj9, h⟩ | ⟨rfl, j, hj9, h⟩ | ⟨rfl, ⟨j, hj9⟩, h⟩ | h
    · obtain ⟨g1, rfl⟩ := iv_xfind hj9
      rcases hsp with hp | hp
      · exact absurd (hPO _ hp) (by simp [xokQ])
      · exact x_tokText hx hb hown (va_Nw.use rfl (hKK.2.2.2.2.2.2.2.2.2.1 _ (of_decide_eq_true (hPO _ hp)) rfl)) (hKK.2.2.2.1 j g1).2 hS.2.2.2 hd (hnx _ _ _ _ _ h hbc hbs ls H locs hl hS)
    · obtain ⟨g1, rfl⟩ := iv_xfind hj9
      rcases hsp with hp | hp
      · exact absurd (hPO _ hp) (by simp [xokQ])
      · exact vk_getf hx hb (hKK.2.2.2.2.1.1 j g1).2.2.1 hS.2.2.2 hown (hts _ (of_decide_eq_true (hPO _ hp))) (fun _ h => h) hd (hnx _ _ _ _ _ h hbc hbs ls H locs hl hS)
    · obtain ⟨g1, rfl⟩ := iv_xfind hj9
      rcases hsp with hp | hp
      · exact absurd (hPO _ hp) (by simp [xokQ])
      · exact vk_getf hx hb (hKK.2.2.2.2.1.1 j g1).2.1 hS.2.2.2 hown (hts _ (of_decide_eq_true (hPO _ hp))) (fun _ h => h) hd (hnx _ _ _ _ _ h hbc hbs ls H locs hl hS)
    · have q9 := iv_xfld h
      clear h
      obtain ⟨ci, k, t, n, fs, v, rfl, he, hv, h⟩ := q9
      rcases hsp with hp | hp
      · exact x_get hx hb hts hKK.2.2.2.2.2.2.2.2.2.1 hown hK hS (hPO _ hp) he hv hd (hnx _ _ _ _ _ h hbc hbs ls H locs hl hS)
      · exact absurd (hPO _ hp) (by simp [xokQ])
  | putfield i =>
    dsimp only [xstep] at h
    have e9 : np - pc = 3 := Nat.eq_of_beq_eq_true hlen
    rw [e9] at hd
    obtain rfl : np = pc + 3 := by omega
    have q9 := iv_tVA h
    clear h
    obtain ⟨v, a, r, rfl, h⟩ := q9
    have q9 := iv_xput h
    clear h
    obtain ⟨ci, k, t, n, fs, rfl, he, hlt, hf, h⟩ := q9
    have hsp : (decide ((0, i, [ci, k, t, n]) ∈ PO) && (xokP own ci k t n && (!(Nat.beq n 2) || ini))) = true := hsp
    simp only [Bool.and_eq_true, decide_eq_true_eq] at hsp
    obtain ⟨hp, hP, hi9⟩ := hsp
    refine x_put hx hb hts hKK.2.2.2.2.2.2.2.2.2.1 hown hK hS (hPO _ hp) hP (fun hn => hini ?_) he hlt hf hd (fun H1 locs1 hS1 => hnx _ _ _ _ _ h hbc hbs ls H1 locs1 hl hS1)
    subst hn
    simpa using hi9
  | getstatic i =>
    dsimp only [xstep] at h
    have e9 : np - pc = 3 := Nat.eq_of_beq_eq_true hlen
    rw [e9] at hd
    obtain rfl : np = pc + 3 := by omega
    have hsp := hPO _ (of_decide_eq_true hsp)
    have q9 := iv_xgs h
    clear h
    rcases q9 with ⟨j, rfl, hj9, h⟩ | ⟨rfl, h⟩ | ⟨rfl, h⟩ | ⟨rfl, h⟩
    · exact va_gets hx hb (hKK.1 j hj9) hS.2.2.2 hown (hts _ (of_decide_eq_true hsp)) (fun _ h => h) hd (hnx _ _ _ _ _ h hbc hbs ls H locs hl hS)
    · exact va_getsN hx hb hKK.2.1 hS.2.2.2 hown (va_Nw.use rfl (hKK.2.2.2.2.2.2.2.2.2.1 _ (of_decide_eq_true hsp) rfl)) (fun _ h => h) hd (hnx _ _ _ _ _ h hbc hbs ls H locs hl hS)
    · exact va_gets hx hb hKK.2.2.2.2.2.1 hS.2.2.2 hown (hts _ (of_decide_eq_true hsp)) (fun _ h => h) hd (hnx _ _ _ _ _ h hbc hbs ls H locs hl hS)
    · exact va_gets hx hb hKK.2.2.2.2.2.2.1 hS.2.2.2 hown (hts _ (of_decide_eq_true hsp)) (fun _ h => h) hd (hnx _ _ _ _ _ h hbc hbs ls H locs hl hS)
  | iaload =>
    dsimp only [xstep] at h
    have e9 : np - pc = 1 := Nat.eq_of_beq_eq_true hlen
    rw [e9] at hd
    obtain rfl : np = pc + 1 := by omega
    have q9 := iv_t2X h
    clear h
    obtain ⟨i, a, r, rfl, h⟩ := q9
    have q9 := iv_aI h
    clear h
    obtain ⟨n, f, he, hin, h⟩ := q9
    exact va_iald hx hb hK (hS.2.1.one he) 0 0 rfl rfl hin hd (hnx _ _ _ _ _ h hbc hbs ls H locs hl hS)
  | laload =>
    dsimp only [xstep] at h
    have e9 : np - pc = 1 := Nat.eq_of_beq_eq_true hlen
    rw [e9] at hd
    obtain rfl : np = pc + 1 := by omega
    have q9 := iv_t2X h
    clear h
    obtain ⟨i, a, r, rfl, h⟩ := q9
    have q9 := iv_aL h
    clear h
    obtain ⟨n, f, he, hin, h⟩ := q9
    exact va_lald hx hb hK (hS.2.1.one he) 0 2 rfl rfl hin hd (hnx _ _ _ _ _ h hbc hbs ls H locs hl hS)
  | daload =>
    dsimp only [xstep] at h
    have e9 : np - pc = 1 := Nat.eq_of_beq_eq_true hlen
    rw [e9] at hd
    obtain rfl : np = pc + 1 := by omega
    have q9 := iv_t2X h
    clear h
    obtain ⟨i, a, r, rfl, h⟩ := q9
    have q9 := iv_aD h
    clear h
    obtain ⟨n, f, he, hin, h⟩ := q9
    exact va_dald hx hb hK (hS.2.1.one he) 0 3 rfl rfl hin hd (hnx _ _ _ _ _ h hbc hbs ls H locs hl hS)
  | baload =>
    dsimp only [xstep] at h
    have e9 : np - pc = 1 := Nat.eq_of_beq_eq_true hlen
    rw [e9] at hd
    obtain rfl : np = pc + 1 := by omega
    have q9 := iv_t2X h
    clear h
    obtain ⟨i, a, r, rfl, h⟩ := q9
    have q9 := iv_aB h
    clear h
    rcases q9 with ⟨n, f, he, hin, h⟩ | ⟨j, hj9, hin, h⟩
    · exact va_bald hx hb hK (hS.2.1.one he) 0 1 rfl rfl hin hd (hnx _ _ _ _ _ h hbc hbs ls H locs hl hS)
    · obtain ⟨g1, rfl⟩ := iv_xfind hj9
      have hT := (hKK.2.2.2.2.1.1 j g1).2.2.2
      rw [xlen_ok j g1] at hT
      exact va_tb hx hb hT hS.2.2.2 hin rfl hd (hnx _ _ _ _ _ h hbc hbs ls H locs hl hS)
  | aaload =>
    dsimp only [xstep] at h
    have e9 : np - pc = 1 := Nat.eq_of_beq_eq_true hlen
    rw [e9] at hd
    obtain rfl : np = pc + 1 := by omega
    have q9 := iv_t2X h
    clear h
    obtain ⟨i, a, r, rfl, h⟩ := q9
    have q9 := iv_aQ h
    clear h
    rcases q9 with ⟨k, n, f, b, he, hk, hin, hf, h⟩ | ⟨rfl, hin, h⟩
    · have hv : va_rf (f i.toNatClampNeg) = .ref b := by rw [hf]; rfl
      rcases hk with rfl | rfl
      · refine va_aldq hx hb hK (hS.2.1.one he) 0 4 rfl rfl hin hd ?_
        rw [hv]
        exact hnx _ _ _ _ _ h hbc hbs ls H locs hl hS
      · refine va_aldq hx hb hK (hS.2.1.one he) 0 5 rfl rfl hin hd ?_
        rw [hv]
        exact hnx _ _ _ _ _ h hbc hbs ls H locs hl hS
    · exact vb_tq hx hb hKK.2.2.1 hS.2.2.2 hin rfl hd (hnx _ _ _ _ _ h hbc hbs ls H locs hl hS)
  | arraylength =>
    dsimp only [xstep] at h
    have e9 : np - pc = 1 := Nat.eq_of_beq_eq_true hlen
    rw [e9] at hd
    obtain rfl : np = pc + 1 := by omega
    have q9 := iv_t1A h
    clear h
    obtain ⟨a, r, rfl, h⟩ := q9
    have q9 := iv_aN h
    clear h
    rcases q9 with ⟨k, n, x, he, hk, h⟩ | ⟨rfl, h⟩ | ⟨j, hj9, h⟩
    · obtain ⟨ty, hty⟩ : ∃ ty, (xtys G.2)[k]? = some (G.2 k, ty) := by
        match k, hk with
        | 0, _ => exact ⟨_, rfl⟩
        | 1, _ => exact ⟨_, rfl⟩
        | 2, _ => exact ⟨_, rfl⟩
        | 3, _ => exact ⟨_, rfl⟩
        | 4, _ => exact ⟨_, rfl⟩
        | 5, _ => exact ⟨_, rfl⟩
      exact va_alen hx hb hK (hS.2.1.one he) 0 k rfl hty rfl hd (hnx _ _ _ _ _ h hbc hbs ls H locs hl hS)
    · exact va_tlen hx hb hKK.2.2.1 hS.2.2.2 rfl hd (hnx _ _ _ _ _ h hbc hbs ls H locs hl hS)
    · obtain ⟨g1, rfl⟩ := iv_xfind hj9
      have hT := (hKK.2.2.2.2.1.1 j g1).2.2.2
      rw [xlen_ok j g1] at hT
      exact va_tlen hx hb hT hS.2.2.2 rfl hd (hnx _ _ _ _ _ h hbc hbs ls H locs hl hS)
  | iastore =>
    dsimp only [xstep] at h
    have e9 : np - pc = 1 := Nat.eq_of_beq_eq_true hlen
    rw [e9] at hd
    obtain rfl : np = pc + 1 := by omega
    have q9 := iv_t3I h
    clear h
    obtain ⟨x, i, a, r, rfl, h⟩ := q9
    have q9 := iv_sI h
    clear h
    obtain ⟨n, f, he, hin, h⟩ := q9
    exact x_iast hx hb hK hS he hin hd (fun H1 locs1 hS1 => hnx _ _ _ _ _ h hbc hbs ls H1 locs1 hl hS1)
  | bastore =>
    dsimp only [xstep] at h
    have e9 : np - pc = 1 := Nat.eq_of_beq_eq_true hlen
    rw [e9] at hd
    obtain rfl : np = pc + 1 := by omega
    have q9 := iv_t3I h
    clear h
    obtain ⟨x, i, a, r, rfl, h⟩ := q9
    have q9 := iv_sB h
    clear h
    obtain ⟨n, f, he, hin, h⟩ := q9
    exact x_bast hx hb hK hS he hin hd (fun H1 locs1 hS1 => hnx _ _ _ _ _ h hbc hbs ls H1 locs1 hl hS1)
  | lastore =>
    dsimp only [xstep] at h
    have e9 : np - pc = 1 := Nat.eq_of_beq_eq_true hlen
    rw [e9] at hd
    obtain rfl : np = pc + 1 := by omega
    have q9 := iv_t3L h
    clear h
    obtain ⟨x, i, a, r, rfl, h⟩ := q9
    have q9 := iv_sL h
    clear h
    obtain ⟨n, f, he, hin, h⟩ := q9
    exact x_last hx hb hK hS he hin hd (fun H1 locs1 hS1 => hnx _ _ _ _ _ h hbc hbs ls H1 locs1 hl hS1)
  | dastore =>
    dsimp only [xstep] at h
    have e9 : np - pc = 1 := Nat.eq_of_beq_eq_true hlen
    rw [e9] at hd
    obtain rfl : np = pc + 1 := by omega
    have q9 := iv_t3D h
    clear h
    obtain ⟨x, i, a, r, rfl, h⟩ := q9
    have q9 := iv_sD h
    clear h
    obtain ⟨n, f, he, hin, h⟩ := q9
    exact x_dast hx hb hK hS he hin hd (fun H1 locs1 hS1 => hnx _ _ _ _ _ h hbc hbs ls H1 locs1 hl hS1)
  | aastore =>
    dsimp only [xstep] at h
    have e9 : np - pc = 1 := Nat.eq_of_beq_eq_true hlen
    rw [e9] at hd
    obtain rfl : np = pc + 1 := by omega
    have q9 := iv_t3A h
    clear h
    obtain ⟨x, i, a, r, rfl, h⟩ := q9
    have q9 := iv_sQ h
    clear h
    obtain ⟨k, n, f, he, hin, hk, h⟩ := q9
    rcases hk with ⟨rfl, j, hj9⟩ | ⟨rfl, fs, hb9⟩
    · obtain ⟨g1, rfl⟩ := iv_xfind hj9
      obtain ⟨cell, q1, q2, q3, q4⟩ := (hKK.2.2.2.1 j g1).1.kept hS.2.2.2.2.1
      exact x_astq hx hb hK hS he rfl ⟨cell, q1, q2, q3⟩ hin hd (fun H1 locs1 hS1 => hnx _ _ _ _ _ h hbc hbs ls H1 locs1 hl hS1)
    · exact x_astq hx hb hK hS he rfl (x_recv (ci := 2) hK hKK hS (Or.inl ⟨fs, hb9⟩)) hin hd (fun H1 locs1 hS1 => hnx _ _ _ _ _ h hbc hbs ls H1 locs1 hl hS1)
  | new i =>
    dsimp only [xstep] at h
    have e9 : np - pc = 3 := Nat.eq_of_beq_eq_true hlen
    rw [e9] at hd
    obtain rfl : np = pc + 3 := by omega
    have q9 := iv_xnew h
    clear h
    rcases q9 with ⟨ci, n, rfl, hc9, hs9, h⟩ | ⟨k, is, ic, rfl, hc9, hs9, hcat, h⟩
    · have hq := hPO _ (of_decide_eq_true hsp)
      simp only [xokQ] at hq
      split at hq
      · next r hr =>
        simp only [Bool.and_eq_true, decide_eq_true_eq] at hq
        obtain ⟨w1, w2, w3, w4⟩ := hq
        have w4 := Nat.eq_of_beq_eq_true w4
        subst w4
        exact x_new hx hb hts hown hK hS hA hr w1 w2 w3 hc9 hs9 hd (fun H1 hS1 => hnx _ _ _ _ _ h hc9 hs9 ls H1 locs hl hS1)
      · cases hq
    · have hr9 := hfin _ (Option.some.inj h).symm
      exact x_throw C hsp hS hr9 hd hnL hcat hc9 hs9
  | newarray a =>
    dsimp only [xstep] at h
    have e9 : np - pc = 2 := Nat.eq_of_beq_eq_true hlen
    rw [e9] at hd
    obtain rfl : np = pc + 2 := by omega
    have q9 := iv_xnewa h
    clear h
    obtain ⟨n, r, k, rfl, rfl, hn, hc9, hs9, h5, h⟩ := q9
    have hsp : (Nat.blt k 4 && (decide (newarray.typeOf a = xkty k) && decide (Cond.arrayClass (xkty k) ∈ xWs))) = true := hsp
    simp only [Bool.and_eq_true, decide_eq_true_eq] at hsp
    obtain ⟨w1, w2, w3⟩ := hsp
    exact x_newa hx hb hts hK hS hA (Nat.le_of_ble_eq_true w1) w2 w3 hn h5 hc9 hs9 hd (fun H1 hS1 => hnx _ _ _ _ _ h hc9 hs9 ls H1 locs hl hS1)
  | anewarray i =>
    dsimp only [xstep] at h
    have e9 : np - pc = 3 := Nat.eq_of_beq_eq_true hlen
    rw [e9] at hd
    obtain rfl : np = pc + 3 := by omega
    have q9 := iv_xnewa h
    clear h
    obtain ⟨n, r, k, rfl, rfl, hn, hc9, hs9, h5, h⟩ := q9
    have hq := hPO _ (of_decide_eq_true hsp)
    match k, hq, h with
    | 4, hq, h => exact x_newq (k := 4) hx hb hts hown hK hS hA rfl hKK.2.2.2.2.2.2.2.2.2.2.1 (of_decide_eq_true hq) hn h5 hc9 hs9 hd (fun H1 hS1 => hnx _ _ _ _ _ h hc9 hs9 ls H1 locs hl hS1)
    | 5, hq, h => exact x_newq (k := 5) hx hb hts hown hK hS hA rfl hKK.2.2.2.2.2.2.2.2.2.2.2.1 (of_decide_eq_true hq) hn h5 hc9 hs9 hd (fun H1 hS1 => hnx _ _ _ _ _ h hc9 hs9 ls H1 locs hl hS1)
    | 0, hq, h => cases hq
    | 1, hq, h => cases hq
    | 2, hq, h => cases hq
    | 3, hq, h => cases hq
    | k + 6, hq, h => simp [xokQ] at hq
  | invokespecial i =>
    dsimp only [xstep] at h
    have e9 : np - pc = 3 := Nat.eq_of_beq_eq_true hlen
    rw [e9] at hd
    obtain rfl : np = pc + 3 := by omega
    have q9 := iv_xinit h
    clear h
    rcases q9 with ⟨q, rfl, a, r, rfl, hcat, h⟩ | h
    · have hsp : (decide (Cond.methodLink own i objectInit ∈ xWs) && (decide (Cond.instanceMethod objectInit ∈ xWs) && decide (Cond.code objectInit ⟨#[0xb1]⟩ 1 none ∈ xWs))) = true := hsp
      simp only [Bool.and_eq_true, decide_eq_true_eq] at hsp
      obtain ⟨w1, w2, w3⟩ := hsp
      refine W.objInit hx hb hown (hts _ w1) (hts _ w2) (hts _ w3) rfl (by rw [hml]; exact hnL) rfl hd (by show 1 ≤ d + 1 + 12; omega) (by show 2 * 0 + xcat r + 12 ≤ 40 * (d + 1) + 200; omega) (hnx _ _ _ _ _ h hbc hbs ls H locs hl hS)
    · have q9 := iv_xcall h
      clear h
      obtain ⟨kd, key, n, tag, mc, ms, ci, r, rfl, g1, g2, g3, g4, hrv, hcl, hz⟩ := q9
      have hsp : (decide ((2, i, [kd, key, n, tag, mc, ms, ci]) ∈ PO) && (Nat.beq kd 2 || Nat.beq kd 4)) = true := hsp
      rw [Bool.and_eq_true, decide_eq_true_eq] at hsp
      have hk : kd = 2 ∨ kd = 4 := by simpa using hsp.2
      have hins : Instr.invokespecial i = xins kd i := by rcases hk with rfl | rfl <;> rfl
      rw [hins] at hd
      exact x_callI C hnx hfin (hPO _ hsp.1) g1 g2 g3 g4 hrv hcl hz hl hS hd
  | invokevirtual i =>
    dsimp only [xstep] at h
    have e9 : np - pc = 3 := Nat.eq_of_beq_eq_true hlen
    rw [e9] at hd
    obtain rfl : np = pc + 3 := by omega
    have q9 := iv_xinv h
    clear h
    rcases q9 with ⟨q, k, rfl, h⟩ | h
    · cases hsp
    · have q9 := iv_xcall h
      clear h
      obtain ⟨kd, key, n, tag, mc, ms, ci, r, rfl, g1, g2, g3, g4, hrv, hcl, hz⟩ := q9
      have hsp : (decide ((2, i, [kd, key, n, tag, mc, ms, ci]) ∈ PO) && (Nat.beq kd 1 || (Nat.beq kd 3 || Nat.beq kd 5))) = true := hsp
      rw [Bool.and_eq_true, decide_eq_true_eq] at hsp
      have hk : kd = 1 ∨ kd = 3 ∨ kd = 5 := by simpa using hsp.2
      have hins : Instr.invokevirtual i = xins kd i := by rcases hk with rfl | rfl | rfl <;> rfl
      rw [hins] at hd
      exact x_callI C hnx hfin (hPO _ hsp.1) g1 g2 g3 g4 hrv hcl hz hl hS hd
  | invokestatic i =>
    dsimp only [xstep] at h
    have e9 : np - pc = 3 := Nat.eq_of_beq_eq_true hlen
    rw [e9] at hd
    obtain rfl : np = pc + 3 := by omega
    have q9 := iv_xinv h
    clear h
    rcases q9 with ⟨q, k, rfl, h⟩ | h
    · have q9 := iv_nz h
      clear h
      obtain ⟨hcat, h⟩ := q9
      have hcat := Nat.le_of_ble_eq_true hcat
      have q9 := iv_xprim h
      clear h
      rcases q9 with ⟨rfl, x, y, r, rfl, h⟩ | ⟨rfl, x, y, r, rfl, h⟩ | ⟨rfl, x, y, r, rfl, h⟩ | ⟨rfl, x, y, r, rfl, h⟩ | ⟨rfl, k, j, b, i9, a, r, rfl, h⟩
      · have hc9 : xcat r ≤ 16 := by simp [xcat, Value.category] at hcat ⊢; omega
        simp only [xspec, xspecP, Bool.and_eq_true, decide_eq_true_eq] at hsp
        obtain ⟨w1, w2, w3, w4⟩ := hsp
        exact va_mmax hx hb (by rw [hml, hnL]) hown (hts _ w1) (hts _ w2) (hts _ w3) (hts _ w4) (by show 1 ≤ d + 1 + 12; omega) (by show xcat r + 13 ≤ 40 * (d + 1) + 200; omega) hbc hbs hd (hnx _ _ _ _ _ h hbc hbs ls H locs hl hS)
      · have hc9 : xcat r ≤ 16 := by simp [xcat, Value.category] at hcat ⊢; omega
        simp only [xspec, xspecP, Bool.and_eq_true, decide_eq_true_eq] at hsp
        obtain ⟨w1, w2, w3, w4⟩ := hsp
        exact va_mmin hx hb (by rw [hml, hnL]) hown (hts _ w1) (hts _ w2) (hts _ w3) (hts _ w4) (by show 1 ≤ d + 1 + 12; omega) (by show xcat r + 13 ≤ 40 * (d + 1) + 200; omega) hbc hbs hd (hnx _ _ _ _ _ h hbc hbs ls H locs hl hS)
      · have hc9 : xcat r ≤ 16 := by simp [xcat, Value.category] at hcat ⊢; omega
        simp only [xspec, xspecP, Bool.and_eq_true, decide_eq_true_eq] at hsp
        obtain ⟨w1, w2, w3, w4⟩ := hsp
        exact va_mmax_long hx hb (by rw [hml, hnL]) hown (hts _ w1) (hts _ w2) (hts _ w3) (hts _ w4) (by show 1 ≤ d + 1 + 12; omega) (by show xcat r + 15 ≤ 40 * (d + 1) + 200; omega) hbc hbs hd (hnx _ _ _ _ _ h hbc hbs ls H locs hl hS)
      · have hc9 : xcat r ≤ 16 := by simp [xcat, Value.category] at hcat ⊢; omega
        simp only [xspec, xspecP, Bool.and_eq_true, decide_eq_true_eq] at hsp
        obtain ⟨w1, w2, w3, w4⟩ := hsp
        exact va_mmin_long hx hb (by rw [hml, hnL]) hown (hts _ w1) (hts _ w2) (hts _ w3) (hts _ w4) (by show 1 ≤ d + 1 + 12; omega) (by show xcat r + 15 ≤ 40 * (d + 1) + 200; omega) hbc hbs hd (hnx _ _ _ _ _ h hbc hbs ls H locs hl hS)
      · have hc9 : xcat r ≤ 16 := by simp [xcat, Value.category] at hcat ⊢; omega
        simp only [xspec, xspecP, Bool.and_eq_true, decide_eq_true_eq] at hsp
        obtain ⟨w1, w2, w3, w4⟩ := hsp
        have q9 := iv_cpI h
        clear h
        obtain ⟨n0, f, n1, g, he0, he1, -, k1, k2, k3, k4, k5, h⟩ := q9
        exact x_copy hx hb (by rw [hml, hnL]) hown hts w1 w2 w3 w4 hK hS he0 he1 k1 k2 k3 k4 k5 (by show 1 ≤ d + 1 + 12; omega) (by show xcat r + 40 ≤ 40 * (d + 1) + 200; omega) hd (fun H1 locs1 hS1 => hnx _ _ _ _ _ h hbc hbs ls H1 locs1 hl hS1)
    · have q9 := iv_xcall h
      clear h
      obtain ⟨kd, key, n, tag, mc, ms, ci, r, rfl, g1, g2, g3, g4, hrv, hcl, hz⟩ := q9
      have hsp : (decide ((2, i, [kd, key, n, tag, mc, ms, ci]) ∈ PO) && Nat.beq kd 0) = true := hsp
      rw [Bool.and_eq_true, decide_eq_true_eq] at hsp
      obtain rfl := Nat.eq_of_beq_eq_true hsp.2
      exact x_callI C hnx hfin (hPO _ hsp.1) g1 g2 g3 g4 hrv hcl hz hl hS hd
  | ireturn =>
    dsimp only [xstep] at h
    have e9 : np - pc = 1 := Nat.eq_of_beq_eq_true hlen
    rw [e9] at hd
    obtain rfl : np = pc + 1 := by omega
    have q9 := iv_t1I h
    clear h
    obtain ⟨x, r, rfl, h⟩ := q9
    have q9 := iv_t0 h
    clear h
    obtain ⟨rfl, h⟩ := q9
    have q9 := iv_xiret h
    clear h
    obtain ⟨t, rfl, ht, h⟩ := q9
    obtain ⟨k1, k2⟩ := x_fin (args := args) hS (hfin _ (Option.some.inj h).symm)
    have hn : narrow (xty t) (.int x) = .int x := by
      rcases ht with rfl | ht
      · rfl
      · exact ht
    exact vx_ret (W.widen hbc hbs (W.zret hx hb (by rw [hret]; exact of_decide_eq_true hsp) hn k1 k2 hd hlocks))
  | lreturn =>
    dsimp only [xstep] at h
    have e9 : np - pc = 1 := Nat.eq_of_beq_eq_true hlen
    rw [e9] at hd
    obtain rfl : np = pc + 1 := by omega
    have q9 := iv_t1L h
    clear h
    obtain ⟨x, r, rfl, h⟩ := q9
    have q9 := iv_t0 h
    clear h
    obtain ⟨rfl, h⟩ := q9
    obtain ⟨k1, k2⟩ := x_fin (args := args) hS (hfin _ (Option.some.inj h).symm)
    exact vx_ret (W.widen hbc hbs (W.lret hx hb (by rw [hret]; exact of_decide_eq_true hsp) k1 k2 hd hlocks))
  | freturn =>
    dsimp only [xstep] at h
    have e9 : np - pc = 1 := Nat.eq_of_beq_eq_true hlen
    rw [e9] at hd
    obtain rfl : np = pc + 1 := by omega
    have q9 := iv_t1F h
    clear h
    obtain ⟨x, r, rfl, h⟩ := q9
    have q9 := iv_t0 h
    clear h
    obtain ⟨rfl, h⟩ := q9
    obtain ⟨k1, k2⟩ := x_fin (args := args) hS (hfin _ (Option.some.inj h).symm)
    exact vx_ret (W.widen hbc hbs (W.fret hx hb (by rw [hret]; exact of_decide_eq_true hsp) k1 k2 hd hlocks))
  | dreturn =>
    dsimp only [xstep] at h
    have e9 : np - pc = 1 := Nat.eq_of_beq_eq_true hlen
    rw [e9] at hd
    obtain rfl : np = pc + 1 := by omega
    have q9 := iv_t1D h
    clear h
    obtain ⟨x, r, rfl, h⟩ := q9
    have q9 := iv_t0 h
    clear h
    obtain ⟨rfl, h⟩ := q9
    obtain ⟨k1, k2⟩ := x_fin (args := args) hS (hfin _ (Option.some.inj h).symm)
    exact vx_ret (W.widen hbc hbs (W.dret hx hb (by rw [hret]; exact of_decide_eq_true hsp) k1 k2 hd hlocks))
  | areturn =>
    dsimp only [xstep] at h
    have e9 : np - pc = 1 := Nat.eq_of_beq_eq_true hlen
    rw [e9] at hd
    obtain rfl : np = pc + 1 := by omega
    have q9 := iv_t1A h
    clear h
    obtain ⟨x, r, rfl, h⟩ := q9
    have q9 := iv_t0 h
    clear h
    obtain ⟨rfl, h⟩ := q9
    obtain ⟨k1, k2⟩ := x_fin (args := args) hS (hfin _ (Option.some.inj h).symm)
    obtain ⟨rt, hrt, hrr⟩ := xisr_ok (show xisr ret = true from hsp)
    exact vx_ret (W.widen hbc hbs (W.aret hx hb (by rw [hret]; exact hrt) hrr (Or.inr ⟨_, rfl⟩) k1 k2 hd hlocks))
  | return_ =>
    dsimp only [xstep] at h
    have e9 : np - pc = 1 := Nat.eq_of_beq_eq_true hlen
    rw [e9] at hd
    obtain rfl : np = pc + 1 := by omega
    have q9 := iv_t0 h
    clear h
    obtain ⟨rfl, h⟩ := q9
    obtain ⟨k1, k2⟩ := x_fin (args := args) hS (hfin _ (Option.some.inj h).symm)
    exact vx_ret (W.widen hbc hbs (W.vret hx hb (by rw [hret]; exact of_decide_eq_true hsp) k1 k2 hd hlocks))
  | _ => cases h
end STEPS
end
section
/-! BLOCKS, RUNS, METHODS: what the interpreter says of a method is its contract. -/
theorem xpick_has {ls : Array Slot} {nL : Nat} {L : xL} (hl : lv_has ls nL L) (is : List Nat) : lv_has ls nL (xpick L is) := by
  refine ⟨hl.1, hl.2.1, ?_⟩
  induction is with
  | nil => exact fun q hq => absurd hq List.not_mem_nil
  | cons i is ih =>
    intro q hq
    unfold xpick at hq
    split at hq
    · next v hv =>
      rcases List.mem_cons.mp hq with rfl | hq
      · exact xget_has hl hv
      · exact ih q hq
    · exact ih q hq
section SOUND
variable {p : Program} {l : Launch} {e : Env} {s : State} {m : MethodId} {args : Array Value} {below : List Frame} {meth : Method} {c : Code}
variable {lds : xLds} {exs : List (String × Nat × String)} {G : xG} {E : xEn} {A : Nat → Prop} {d MC MS nL : Nat} {call : Nat → List Value → xH → Option xR} {Mt : Nat → Option xMth} {own : String} {ini : Bool} {cc : ByteArray} {ret : Option FieldType} {PO : xPool} {r0 : xR}
theorem x_blk (C : xCx p l s m args meth c lds exs G E A d call Mt own ini cc nL ret PO) {z : xR ⊕ xJ} (hfin : ∀ r, z = .inl r → r0 = r)
    (hj : ∀ t L st σ bc bs, z = .inr (t, L, st, σ, bc, bs) → xTg p l e s m args below meth c d MC MS (vx_MQ below (xQc G A r0) (xXC G A r0) args s MC MS A) G A nL t L st σ bc bs) {ep : Nat} :
    ∀ (is : List xI) (pc : Nat) (L : xL) (st : List Value) (σ : xH) (bc bs : Nat), xokB own ini cc nL ret PO lds exs ep pc is = true →
      exB E call MC MS (fun r => some (.inl r)) (fun t L st σ bc bs => some (.inr (t, L, st, σ, bc, bs))) ep is L st σ bc bs = some z →
      xTg p l e s m args below meth c d MC MS (vx_MQ below (xQc G A r0) (xXC G A r0) args s MC MS A) G A nL pc L st σ bc bs := by
  intro is
  induction is with
  | nil =>
    intro pc L st σ bc bs hok h
    have hpc : pc = ep := Nat.eq_of_beq_eq_true hok
    subst hpc
    exact hj _ _ _ _ _ _ (Option.some.inj h).symm
  | cons i r ih =>
    intro pc L st σ bc bs hok h
    obtain ⟨pc', ins, info⟩ := i
    match r, ih, hok, h with
    | [], ih, hok, h =>
      unfold xokB at hok
      rw [Bool.and_eq_true] at hok
      have hpc : pc = pc' := Nat.eq_of_beq_eq_true hok.1
      subst hpc
      exact x_step C hok.2 hfin hj (fun L st σ bc bs h => hj _ _ _ _ _ _ (Option.some.inj h).symm) h
    | j :: r, ih, hok, h =>
      unfold xokB at hok
      rw [Bool.and_eq_true, Bool.and_eq_true] at hok
      have hpc : pc = pc' := Nat.eq_of_beq_eq_true hok.1
      subst hpc
      exact x_step C hok.2.1 hfin hj (fun L st σ bc bs h => ih j.1 L st σ bc bs hok.2.2 h) h
theorem xlk_mem {bl : xBl} {pc : Nat} {b : List Nat × List xI × Nat} (h : xlk bl pc = some b) : (pc, b) ∈ bl := by
  induction bl with
  | nil => cases h
  | cons q bl ih =>
    unfold xlk at h
    cases hb : Nat.beq q.1 pc
    · rw [hb] at h
      exact List.mem_cons_of_mem _ (ih h)
    · rw [hb] at h
      have := Nat.eq_of_beq_eq_true hb
      subst this
      cases h
      exact List.mem_cons_self
theorem x_rn (C : xCx p l s m args meth c lds exs G E A d call Mt own ini cc nL ret PO) {bl : xBl} (hbl : ∀ b ∈ bl, xokB own ini cc nL ret PO lds exs b.2.2.2 b.1 b.2.2.1 = true) :
    ∀ (n : Nat) (pc : Nat) (L : xL) (st : List Value) (σ : xH) (bc bs : Nat), xrn E call MC MS bl n (pc, L, st, σ, bc, bs) = some r0 →
      xTg p l e s m args below meth c d MC MS (vx_MQ below (xQc G A r0) (xXC G A r0) args s MC MS A) G A nL pc L st σ bc bs := by
  intro n
  induction n with
  | zero => exact fun _ _ _ _ _ _ h => by cases h
  | succ n ih =>
    intro pc L st σ bc bs h
    unfold xrn at h
    cases hx : xex E call MC MS bl (pc, L, st, σ, bc, bs) with
    | none => rw [hx] at h; cases h
    | some z =>
      rw [hx] at h
      unfold xex at hx
      split at hx
      · next b hb =>
        have hok := hbl _ (xlk_mem hb)
        have h1 := x_blk (e := e) (below := below) (r0 := r0) (MC := MC) (MS := MS) C (z := z) (fun r hr => by subst hr; exact (Option.some.inj h).symm) (fun t L st σ bc bs hz => by subst hz; exact ih _ _ _ _ _ _ h) _ _ _ _ _ _ _ hok hx
        exact fun g1 g2 ls H locs hl hS => h1 g1 g2 ls H locs (xpick_has hl _) hS
      · cases hx
end SOUND
theorem lg_sl_len (vs : List Value) : (lg_sl vs).length = xcat vs := by
  induction vs with
  | nil => rfl
  | cons v vs ih =>
    have h : xcat (v :: vs) = v.category + xcat vs := by simp [xcat]
    rw [h, ← ih]
    cases v <;> simp [lg_sl, Value.category] <;> omega
/-- a table's row holds: its blocks are its bytes, its pool is the tables' -/
def xokR (T : xTab) (lds : xLds) (exs : List (String × Nat × String)) (r : xMth × xBl × List (Nat × Nat × List Nat)) : Prop :=
  plainName r.1.1.cls = true ∧ (∀ b ∈ r.2.1, xokB r.1.1.cls (decide (r.1.1.name = "<init>")) r.1.2.1 r.1.2.2.1 r.1.2.2.2.1 r.2.2 lds exs b.2.2.2 b.1 b.2.2.1 = true) ∧ ∀ q ∈ r.2.2, xokQ r.1.1.cls (fun k => (T k).map (fun r => r.1)) q = true
theorem x_sem {T : xTab} {lds : xLds} {exs : List (String × Nat × String)} (hT : ∀ key r, T key = some r → xokR T lds exs r) {l : Launch} (htr : l.stackTraces = false) (G : xG) (E : xEn) :
    ∀ (d key : Nat) (M : xMth), (T key).map (fun r => r.1) = some M → xMet lds exs l G E d M (xsem T E d key) := by
  intro d
  induction d with
  | zero => intro key M _ av σ r h; cases h
  | succ d ih =>
    intro key M hM av σ r h
    cases hk : T key with
    | none => rw [hk] at hM; cases hM
    | some row =>
      rw [hk] at hM
      cases hM
      obtain ⟨hpl, hbl, hPO⟩ := hT key row hk
      obtain ⟨⟨y, cc, nL, ret, mc, ms⟩, bl, PO⟩ := row
      unfold xsem at h
      rw [hk] at h
      obtain ⟨hnl, h⟩ := iv_if h
      have hnl : xcat av ≤ nL := Nat.le_of_ble_eq_true hnl
      obtain ⟨n, hn⟩ := xli_of h
      refine vx_ofW (cc := cc) (maxL := nL) (ret := ret) hpl rfl ?_
      intro p e s m args below meth c s₁ B hml hexc hv
      obtain ⟨rfl, hsz, hWo, hK, hKK⟩ := hv
      have hx := B.exec
      have hb := B.bytes
      have hr := B.returns
      have hts0 := atoms_spec (ws := xws (y, cc, nL, ret, mc, ms)) B.pre
      have hts : ∀ w ∈ xWs, w.before av.toArray s = true := fun w h => hts0 w (List.mem_cons_of_mem _ h)
      have hown : s.vm.findClass y.cls = some m.cls := findClass_of_methodNamed B.named
      have hlocks := B.notSynchronized
      have hname : meth.name = y.name := (name_of_methodNamed B.named B.method).1
      have hA : ∀ q, s.heap.size ≤ q → xA σ q := fun q hq => Or.inr (by rw [← hsz]; exact hq)
      have C : xCx p l s m av.toArray meth c lds exs G E (xA σ) d (xsem T E d) (fun k => (T k).map (fun r => r.1)) y.cls (decide (y.name = "<init>")) cc nL ret PO :=
        ⟨hx, hb, hml, hts, hown, hK, hKK, hA, hexc, hlocks, hr, htr, fun hi => by rw [hname]; exact of_decide_eq_true hi, hPO, fun key M hM => ih key M hM⟩
      have hl := lv_entry av (n := nL) (by rw [lg_sl_len]; exact hnl)
      rw [lg_entry_eq]
      generalize (lg_sl av ++ List.replicate (nL - (lg_sl av).length) Slot.unset).toArray = ls at hl ⊢
      exact x_rn (e := e) (below := below) C hbl n 0 (lv_args 0 av) [] σ 0 0 hn (Nat.zero_le _) (Nat.zero_le _) ls s.heap [] hl ⟨hsz, hWo, fun a ha => Or.inl ha, va_S.rf⟩
end
section
/-! THE TABLE (X0, X1, X2, X3, X4): blocks of the methods as the class file has them, written by wip/whole/gentab.py. -/
abbrev xRow : Type := xMth × xBl × List (Nat × Nat × List Nat)
def pX0 : xPool := [(0, 9, [0, 0, 2, 2]), (0, 13, [0, 1, 2, 2]), (0, 16, [0, 2, 0, 0]), (0, 9, [0, 0, 2, 0]), (0, 13, [0, 1, 2, 0])]
def bX0_init : xBl := [
  (0, [0], [(0, .aload_n 0, []), (1, .invokespecial 1, [0]), (4, .aload_n 0, []), (5, .bipush 8, []), (7, .newarray .int, [0]), (9, .putfield 9, [0, 0, 2, 2]), (12, .aload_n 0, []), (13, .bipush 8, []), (15, .newarray .int, [0]), (17, .putfield 13, [0, 1, 2, 2]), (20, .return_, [])], 21)]
def rX0_init : xRow := ((yX0_init, cX0_init, 1, none, 2, 16), bX0_init, pX0)
def bX0_clear : xBl := [
  (0, [0], [(0, .aload_n 0, []), (1, .iconst 0, []), (2, .putfield 16, [0, 2, 0, 0]), (5, .return_, [])], 6)]
def rX0_clear : xRow := ((yX0_clear, cX0_clear, 1, none, 0, 0), bX0_clear, pX0)
def bX0_copyFrom : xBl := [
  (0, [0, 1], [(0, .aload_n 0, []), (1, .aload_n 1, []), (2, .getfield 16, [0, 2, 0, 0]), (5, .putfield 16, [0, 2, 0, 0]), (8, .aload_n 1, []), (9, .getfield 9, [0, 0, 2, 0]), (12, .iconst 0, []), (13, .aload_n 0, []), (14, .getfield 9, [0, 0, 2, 0]), (17, .iconst 0, []), (18, .aload_n 0, []), (19, .getfield 16, [0, 2, 0, 0]), (22, .invokestatic 20, [0, 6]), (25, .aload_n 1, []), (26, .getfield 13, [0, 1, 2, 0]), (29, .iconst 0, []), (30, .aload_n 0, []), (31, .getfield 13, [0, 1, 2, 0]), (34, .iconst 0, []), (35, .aload_n 0, []), (36, .getfield 16, [0, 2, 0, 0]), (39, .invokestatic 20, [0, 6]), (42, .return_, [])], 43)]
def rX0_copyFrom : xRow := ((yX0_copyFrom, cX0_copyFrom, 2, none, 0, 0), bX0_copyFrom, pX0)
def bX0_isFull : xBl := [
  (0, [0], [(0, .aload_n 0, []), (1, .getfield 16, [0, 2, 0, 0]), (4, .bipush 8, []), (6, .if_icmp .lt 7, [13]), (9, .iconst 1, []), (10, .goto 4, [14])], 13),
  (13, [], [(13, .iconst 0, [])], 14),
  (14, [], [(14, .ireturn, [5])], 15)]
def rX0_isFull : xRow := ((yX0_isFull, cX0_isFull, 1, (some .boolean), 0, 0), bX0_isFull, pX0)
def bX0_tell : xBl := [
  (0, [0, 1, 2], [(0, .aload_n 0, []), (1, .getfield 16, [0, 2, 0, 0]), (4, .aload_n 0, []), (5, .getfield 9, [0, 0, 2, 0]), (8, .arraylength, []), (9, .if_icmp .ge 33, [42]), (12, .aload_n 0, []), (13, .getfield 9, [0, 0, 2, 0]), (16, .aload_n 0, []), (17, .getfield 16, [0, 2, 0, 0]), (20, .iload_n 1, []), (21, .iastore, []), (22, .aload_n 0, []), (23, .getfield 13, [0, 1, 2, 0]), (26, .aload_n 0, []), (27, .getfield 16, [0, 2, 0, 0]), (30, .iload_n 2, []), (31, .iastore, []), (32, .aload_n 0, []), (33, .dup, []), (34, .getfield 16, [0, 2, 0, 0]), (37, .iconst 1, []), (38, .iadd, []), (39, .putfield 16, [0, 2, 0, 0])], 42),
  (42, [], [(42, .return_, [])], 43)]
def rX0_tell : xRow := ((yX0_tell, cX0_tell, 3, none, 0, 0), bX0_tell, pX0)
def bX0_has : xBl := [
  (0, [0, 1], [(0, .iconst 0, []), (1, .istore_n 2, [])], 2),
  (2, [0, 1, 2], [(2, .iload_n 2, []), (3, .aload_n 0, []), (4, .getfield 16, [0, 2, 0, 0]), (7, .if_icmp .ge 31, [38]), (10, .iload_n 1, []), (11, .aload_n 0, []), (12, .getfield 9, [0, 0, 2, 0]), (15, .iload_n 2, []), (16, .iaload, []), (17, .if_icmp .lt 15, [32]), (20, .iload_n 1, []), (21, .aload_n 0, []), (22, .getfield 13, [0, 1, 2, 0]), (25, .iload_n 2, []), (26, .iaload, []), (27, .if_icmp .gt 5, [32]), (30, .iconst 1, []), (31, .ireturn, [5])], 32),
  (32, [0, 1, 2], [(32, .iinc 2 1, []), (35, .goto (-33), [2])], 38),
  (38, [], [(38, .iconst 0, []), (39, .ireturn, [5])], 40)]
def rX0_has : xRow := ((yX0_has, cX0_has, 3, (some .boolean), 0, 0), bX0_has, pX0)
def pX1 : xPool := [(0, 11, [1, 0, 2, 2]), (0, 15, [1, 2, 2, 2]), (0, 18, [1, 1, 0, 0]), (2, 22, [1, 7, 1, 9, 0, 0, 2]), (2, 25, [1, 10, 2, 9, 0, 0, 2]), (0, 11, [1, 0, 2, 0]), (2, 35, [1, 12, 3, 0, 0, 0, 2]), (1, 39, [0, 4]), (2, 45, [1, 42, 2, 0, 0, 0, 4]), (1, 51, [0, 5]), (2, 54, [1, 43, 1, 9, 0, 0, 4]), (2, 57, [1, 13, 3, 0, 0, 0, 2]), (1, 60, [0, 6]), (1, 63, [0, 7]), (1, 66, [0, 8]), (2, 69, [1, 46, 2, 0, 0, 0, 4]), (2, 73, [1, 11, 3, 0, 0, 0, 2]), (1, 76, [0, 9]), (2, 79, [1, 44, 2, 0, 0, 0, 4]), (2, 82, [1, 40, 1, 2, 0, 0, 4]), (2, 86, [0, 14, 1, 0, 0, 0, 0]), (2, 90, [1, 45, 3, 0, 0, 0, 4]), (1, 94, [0, 10]), (1, 97, [0, 11]), (1, 100, [0, 12]), (1, 103, [0, 13]), (0, 15, [1, 2, 2, 0]), (2, 106, [0, 16, 3, 0, 0, 0, 0]), (2, 110, [0, 17, 3, 0, 0, 0, 0]), (0, 131, [2, 0, 2, 1]), (0, 137, [5, 0, 0, 1]), (0, 142, [2, 4, 0, 1]), (0, 145, [2, 5, 0, 1]), (0, 148, [2, 1, 2, 1]), (2, 152, [1, 52, 1, 0, 0, 0, 5]), (0, 158, [4, 0, 2, 1])]
def bX1_init : xBl := [
  (0, [0], [(0, .aload_n 0, []), (1, .invokespecial 5, [0]), (4, .aload_n 0, []), (5, .sipush 500, []), (8, .newarray .int, [0]), (10, .putfield 11, [1, 0, 2, 2]), (13, .aload_n 0, []), (14, .bipush 11, []), (16, .newarray .int, [0]), (18, .putfield 15, [1, 2, 2, 2]), (21, .return_, [])], 22)]
def rX1_init : xRow := ((yX1_init, cX1_init, 1, none, 2, 511), bX1_init, pX1)
def bX1_clear : xBl := [
  (0, [0], [(0, .aload_n 0, []), (1, .iconst 0, []), (2, .putfield 18, [1, 1, 0, 0]), (5, .return_, [])], 6)]
def rX1_clear : xRow := ((yX1_clear, cX1_clear, 1, none, 0, 0), bX1_clear, pX1)
def bX1_reset : xBl := [
  (0, [0], [(0, .aload_n 0, []), (1, .invokevirtual 22, [1, 7, 1, 9, 0, 0, 2]), (4, .aload_n 0, []), (5, .bipush (-5), []), (7, .invokevirtual 25, [1, 10, 2, 9, 0, 0, 2]), (10, .aload_n 0, []), (11, .iconst 1, []), (12, .invokevirtual 25, [1, 10, 2, 9, 0, 0, 2]), (15, .aload_n 0, []), (16, .bipush (-2), []), (18, .invokevirtual 25, [1, 10, 2, 9, 0, 0, 2]), (21, .return_, [])], 22)]
def rX1_reset : xRow := ((yX1_reset, cX1_reset, 1, none, 0, 0), bX1_reset, pX1)
def bX1_copyFrom : xBl := [
  (0, [0, 1], [(0, .aload_n 0, []), (1, .aload_n 1, []), (2, .getfield 18, [1, 1, 0, 0]), (5, .putfield 18, [1, 1, 0, 0]), (8, .aload_n 1, []), (9, .getfield 11, [1, 0, 2, 0]), (12, .iconst 0, []), (13, .aload_n 0, []), (14, .getfield 11, [1, 0, 2, 0]), (17, .iconst 0, []), (18, .aload_n 0, []), (19, .getfield 18, [1, 1, 0, 0]), (22, .invokestatic 29, [0, 6]), (25, .return_, [])], 26)]
def rX1_copyFrom : xRow := ((yX1_copyFrom, cX1_copyFrom, 2, none, 0, 0), bX1_copyFrom, pX1)
def bX1_put : xBl := [
  (0, [0, 1], [(0, .aload_n 0, []), (1, .getfield 18, [1, 1, 0, 0]), (4, .aload_n 0, []), (5, .getfield 11, [1, 0, 2, 0]), (8, .arraylength, []), (9, .if_icmp .ge 23, [32]), (12, .aload_n 0, []), (13, .getfield 11, [1, 0, 2, 0]), (16, .aload_n 0, []), (17, .getfield 18, [1, 1, 0, 0]), (20, .iload_n 1, []), (21, .iastore, []), (22, .aload_n 0, []), (23, .dup, []), (24, .getfield 18, [1, 1, 0, 0]), (27, .iconst 1, []), (28, .iadd, []), (29, .putfield 18, [1, 1, 0, 0])], 32),
  (32, [], [(32, .return_, [])], 33)]
def rX1_put : xRow := ((yX1_put, cX1_put, 2, none, 0, 0), bX1_put, pX1)
def bX1_readSum : xBl := [
  (0, [0, 1, 2], [(0, .aload_n 0, []), (1, .aload_n 1, []), (2, .iload_n 2, []), (3, .invokevirtual 35, [1, 12, 3, 0, 0, 0, 2]), (6, .ifCond .ne 5, [11]), (9, .iconst 0, []), (10, .ireturn, [5])], 11),
  (11, [0, 1, 2], [(11, .iconst 0, []), (12, .istore_n 3, [])], 13),
  (13, [0, 1, 2, 3], [(13, .iload_n 3, []), (14, .sipush 500, []), (17, .if_icmp .ge 68, [85]), (20, .aload_n 1, []), (21, .getstatic 39, [0, 4]), (24, .invokevirtual 45, [1, 42, 2, 0, 0, 0, 4]), (27, .ifCond .ne 13, [40]), (30, .aload_n 1, []), (31, .getstatic 51, [0, 5]), (34, .invokevirtual 45, [1, 42, 2, 0, 0, 0, 4]), (37, .ifCond .eq 48, [85])], 40),
  (40, [0, 1, 2, 3], [(40, .aload_n 1, []), (41, .getstatic 39, [0, 4]), (44, .invokevirtual 45, [1, 42, 2, 0, 0, 0, 4]), (47, .ifCond .eq 7, [54]), (50, .iconst (-1), []), (51, .goto 5, [56])], 54),
  (54, [0, 1, 2, 3], [(54, .bipush (-2), [])], 56),
  (56, [0, 1, 2, 3], [(56, .istore 4, []), (58, .aload_n 1, []), (59, .invokevirtual 54, [1, 43, 1, 9, 0, 0, 4]), (62, .aload_n 0, []), (63, .aload_n 1, []), (64, .iload_n 2, []), (65, .invokevirtual 35, [1, 12, 3, 0, 0, 0, 2]), (68, .ifCond .ne 5, [73]), (71, .iconst 0, []), (72, .ireturn, [5])], 73),
  (73, [0, 1, 2, 3, 4], [(73, .aload_n 0, []), (74, .iload 4, []), (76, .invokevirtual 25, [1, 10, 2, 9, 0, 0, 2]), (79, .iinc 3 1, []), (82, .goto (-69), [13])], 85),
  (85, [], [(85, .iconst 1, []), (86, .ireturn, [5])], 87)]
def rX1_readSum : xRow := ((yX1_readSum, cX1_readSum, 5, (some .boolean), 0, 0), bX1_readSum, pX1)
def bX1_readTerm : xBl := [
  (0, [0, 1, 2], [(0, .aload_n 0, []), (1, .aload_n 1, []), (2, .iload_n 2, []), (3, .invokevirtual 57, [1, 13, 3, 0, 0, 0, 2]), (6, .ifCond .ne 5, [11]), (9, .iconst 0, []), (10, .ireturn, [5])], 11),
  (11, [0, 1, 2], [(11, .iconst 0, []), (12, .istore_n 3, [])], 13),
  (13, [0, 1, 2, 3], [(13, .iload_n 3, []), (14, .sipush 500, []), (17, .if_icmp .ge 69, [86]), (20, .aload_n 1, []), (21, .getstatic 60, [0, 6]), (24, .invokevirtual 45, [1, 42, 2, 0, 0, 0, 4]), (27, .ifCond .ne 13, [40]), (30, .aload_n 1, []), (31, .getstatic 63, [0, 7]), (34, .invokevirtual 45, [1, 42, 2, 0, 0, 0, 4]), (37, .ifCond .eq 49, [86])], 40),
  (40, [0, 1, 2, 3], [(40, .aload_n 1, []), (41, .getstatic 60, [0, 6]), (44, .invokevirtual 45, [1, 42, 2, 0, 0, 0, 4]), (47, .ifCond .eq 8, [55]), (50, .bipush (-3), []), (52, .goto 5, [57])], 55),
  (55, [0, 1, 2, 3], [(55, .bipush (-4), [])], 57),
  (57, [0, 1, 2, 3], [(57, .istore 4, []), (59, .aload_n 1, []), (60, .invokevirtual 54, [1, 43, 1, 9, 0, 0, 4]), (63, .aload_n 0, []), (64, .aload_n 1, []), (65, .iload_n 2, []), (66, .invokevirtual 57, [1, 13, 3, 0, 0, 0, 2]), (69, .ifCond .ne 5, [74]), (72, .iconst 0, []), (73, .ireturn, [5])], 74),
  (74, [0, 1, 2, 3, 4], [(74, .aload_n 0, []), (75, .iload 4, []), (77, .invokevirtual 25, [1, 10, 2, 9, 0, 0, 2]), (80, .iinc 3 1, []), (83, .goto (-70), [13])], 86),
  (86, [], [(86, .iconst 1, []), (87, .ireturn, [5])], 88)]
def rX1_readTerm : xRow := ((yX1_readTerm, cX1_readTerm, 5, (some .boolean), 0, 0), bX1_readTerm, pX1)
def bX1_readFactor : xBl := [
  (0, [0, 1, 2], [(0, .aload_n 1, []), (1, .getstatic 66, [0, 8]), (4, .invokevirtual 45, [1, 42, 2, 0, 0, 0, 4]), (7, .ifCond .eq 46, [53]), (10, .iload_n 2, []), (11, .iconst 4, []), (12, .if_icmp .lt 10, [22]), (15, .aload_n 1, []), (16, .bipush (-6), []), (18, .invokevirtual 69, [1, 46, 2, 0, 0, 0, 4]), (21, .ireturn, [5])], 22),
  (22, [0, 1, 2], [(22, .aload_n 1, []), (23, .invokevirtual 54, [1, 43, 1, 9, 0, 0, 4]), (26, .aload_n 0, []), (27, .aload_n 1, []), (28, .iload_n 2, []), (29, .iconst 1, []), (30, .iadd, []), (31, .invokevirtual 73, [1, 11, 3, 0, 0, 0, 2]), (34, .ifCond .eq 17, [51]), (37, .aload_n 1, []), (38, .getstatic 76, [0, 9]), (41, .invokevirtual 79, [1, 44, 2, 0, 0, 0, 4]), (44, .ifCond .eq 7, [51]), (47, .iconst 1, []), (48, .goto 4, [52])], 51),
  (51, [], [(51, .iconst 0, [])], 52),
  (52, [], [(52, .ireturn, [5])], 53),
  (53, [0, 1], [(53, .aload_n 1, []), (54, .invokevirtual 82, [1, 40, 1, 2, 0, 0, 4]), (57, .invokestatic 86, [0, 14, 1, 0, 0, 0, 0]), (60, .istore_n 3, []), (61, .iload_n 3, []), (62, .ifCond .ne 18, [80]), (65, .aload_n 1, []), (66, .iconst 0, []), (67, .sipush 9999, []), (70, .invokevirtual 90, [1, 45, 3, 0, 0, 0, 4]), (73, .istore_n 3, []), (74, .iload_n 3, []), (75, .ifCond .ge 9, [84]), (78, .iconst 0, []), (79, .ireturn, [5])], 80),
  (80, [0, 1, 3], [(80, .aload_n 1, []), (81, .invokevirtual 54, [1, 43, 1, 9, 0, 0, 4])], 84),
  (84, [0, 3], [(84, .aload_n 0, []), (85, .iload_n 3, []), (86, .invokevirtual 25, [1, 10, 2, 9, 0, 0, 2]), (89, .iconst 1, []), (90, .ireturn, [5])], 91)]
def rX1_readFactor : xRow := ((yX1_readFactor, cX1_readFactor, 4, (some .boolean), 0, 0), bX1_readFactor, pX1)
def bX1_variableOf : xBl := [
  (0, [0], [(0, .aload_n 0, []), (1, .getstatic 94, [0, 10]), (4, .if_acmp .ne 6, [10]), (7, .bipush (-5), []), (9, .ireturn, [0])], 10),
  (10, [0], [(10, .aload_n 0, []), (11, .getstatic 97, [0, 11]), (14, .if_acmp .ne 6, [20]), (17, .bipush (-6), []), (19, .ireturn, [0])], 20),
  (20, [0], [(20, .aload_n 0, []), (21, .getstatic 100, [0, 12]), (24, .if_acmp .ne 6, [30]), (27, .bipush (-7), []), (29, .ireturn, [0])], 30),
  (30, [0], [(30, .aload_n 0, []), (31, .getstatic 103, [0, 13]), (34, .if_acmp .ne 8, [42]), (37, .bipush (-8), []), (39, .goto 4, [43])], 42),
  (42, [], [(42, .iconst 0, [])], 43),
  (43, [], [(43, .ireturn, [0])], 44)]
def rX1_variableOf : xRow := ((yX1_variableOf, cX1_variableOf, 1, (some .int), 0, 0), bX1_variableOf, pX1)
def bX1_value : xBl := [
  (0, [0, 1, 2], [(0, .iconst 0, []), (1, .istore_n 3, []), (2, .iconst 0, []), (3, .istore 4, [])], 5),
  (5, [0, 1, 2, 3, 4], [(5, .iload 4, []), (7, .aload_n 0, []), (8, .getfield 18, [1, 1, 0, 0]), (11, .if_icmp .ge 121, [132]), (14, .aload_n 0, []), (15, .getfield 11, [1, 0, 2, 0]), (18, .iload 4, []), (20, .iaload, []), (21, .istore 5, []), (23, .iload 5, []), (25, .iconst (-1), []), (26, .if_icmp .gt 14, [40]), (29, .iload 5, []), (31, .bipush (-4), []), (33, .if_icmp .lt 7, [40]), (36, .iconst 1, []), (37, .goto 4, [41])], 40),
  (40, [0, 1, 2, 3, 4, 5], [(40, .iconst 0, [])], 41),
  (41, [0, 1, 2, 3, 4, 5], [(41, .istore 6, []), (43, .iload 6, []), (45, .ifCond .eq 41, [86]), (48, .iload_n 3, []), (49, .iconst 2, []), (50, .if_icmp .lt 36, [86]), (53, .iinc 3 (-1), []), (56, .aload_n 0, []), (57, .getfield 15, [1, 2, 2, 0]), (60, .iload_n 3, []), (61, .iconst 1, []), (62, .isub, []), (63, .iload 5, []), (65, .aload_n 0, []), (66, .getfield 15, [1, 2, 2, 0]), (69, .iload_n 3, []), (70, .iconst 1, []), (71, .isub, []), (72, .iaload, []), (73, .aload_n 0, []), (74, .getfield 15, [1, 2, 2, 0]), (77, .iload_n 3, []), (78, .iaload, []), (79, .invokestatic 106, [0, 16, 3, 0, 0, 0, 0]), (82, .iastore, []), (83, .goto 43, [126])], 86),
  (86, [0, 1, 2, 3, 4, 5, 6], [(86, .iload 6, []), (88, .ifCond .ne 38, [126]), (91, .iload_n 3, []), (92, .aload_n 0, []), (93, .getfield 15, [1, 2, 2, 0]), (96, .arraylength, []), (97, .if_icmp .ge 29, [126]), (100, .aload_n 0, []), (101, .getfield 15, [1, 2, 2, 0]), (104, .iload_n 3, []), (105, .iload 5, []), (107, .ifCond .lt 8, [115]), (110, .iload 5, []), (112, .goto 10, [122])], 115),
  (115, [0, 1, 2, 3, 4, 5], [(115, .iload 5, []), (117, .aload_n 1, []), (118, .iload_n 2, []), (119, .invokestatic 110, [0, 17, 3, 0, 0, 0, 0])], 122),
  (122, [0, 1, 2, 3, 4], [(122, .iastore, []), (123, .iinc 3 1, [])], 126),
  (126, [0, 1, 2, 3, 4], [(126, .iinc 4 1, []), (129, .goto (-124), [5])], 132),
  (132, [0], [(132, .iconst 0, []), (133, .aload_n 0, []), (134, .getfield 15, [1, 2, 2, 0]), (137, .iconst 0, []), (138, .iaload, []), (139, .bipush 9, []), (141, .invokestatic 114, [0, 1]), (144, .invokestatic 119, [0, 0]), (147, .ireturn, [0])], 148)]
def rX1_value : xRow := ((yX1_value, cX1_value, 7, (some .int), 0, 0), bX1_value, pX1)
def bX1_result : xBl := [
  (0, [0, 1, 2], [(0, .iload_n 0, []), (1, .iconst (-1), []), (2, .if_icmp .ne 12, [14]), (5, .iload_n 1, []), (6, .i2l, []), (7, .iload_n 2, []), (8, .i2l, []), (9, .ladd, []), (10, .lstore_n 3, []), (11, .goto 46, [57])], 14),
  (14, [0, 1, 2], [(14, .iload_n 0, []), (15, .bipush (-2), []), (17, .if_icmp .ne 12, [29]), (20, .iload_n 1, []), (21, .i2l, []), (22, .iload_n 2, []), (23, .i2l, []), (24, .lsub, []), (25, .lstore_n 3, []), (26, .goto 31, [57])], 29),
  (29, [0, 1, 2], [(29, .iload_n 0, []), (30, .bipush (-3), []), (32, .if_icmp .ne 12, [44]), (35, .iload_n 1, []), (36, .i2l, []), (37, .iload_n 2, []), (38, .i2l, []), (39, .lmul, []), (40, .lstore_n 3, []), (41, .goto 16, [57])], 44),
  (44, [1, 2], [(44, .iload_n 2, []), (45, .ifCond .ne 7, [52]), (48, .lconst 0, []), (49, .goto 7, [56])], 52),
  (52, [1, 2], [(52, .iload_n 1, []), (53, .iload_n 2, []), (54, .idiv, []), (55, .i2l, [])], 56),
  (56, [], [(56, .lstore_n 3, [])], 57),
  (57, [3], [(57, .ldc2_w 122, [1, 1000000]), (60, .lload_n 3, []), (61, .ldc2_w 124, [0, 1000000]), (64, .invokestatic 126, [0, 3]), (67, .invokestatic 129, [0, 2]), (70, .l2i, []), (71, .ireturn, [0])], 72)]
def rX1_result : xRow := ((yX1_result, cX1_result, 5, (some .int), 0, 0), bX1_result, pX1)
def bX1_variable : xBl := [
  (0, [0, 1, 2], [(0, .iload_n 0, []), (1, .bipush (-5), []), (3, .if_icmp .ne 11, [14]), (6, .aload_n 1, []), (7, .getfield 131, [2, 0, 2, 1]), (10, .getfield 137, [5, 0, 0, 1]), (13, .ireturn, [0])], 14),
  (14, [0, 1, 2], [(14, .iload_n 0, []), (15, .bipush (-6), []), (17, .if_icmp .ne 8, [25]), (20, .aload_n 1, []), (21, .getfield 142, [2, 4, 0, 1]), (24, .ireturn, [0])], 25),
  (25, [0, 1, 2], [(25, .iload_n 0, []), (26, .bipush (-7), []), (28, .if_icmp .ne 8, [36]), (31, .aload_n 1, []), (32, .getfield 145, [2, 5, 0, 1]), (35, .ireturn, [0])], 36),
  (36, [1, 2], [(36, .aload_n 1, []), (37, .getfield 148, [2, 1, 2, 1]), (40, .invokevirtual 152, [1, 52, 1, 0, 0, 0, 5]), (43, .istore_n 3, []), (44, .iload_n 3, []), (45, .ifCond .le 20, [65]), (48, .aload_n 1, []), (49, .getfield 148, [2, 1, 2, 1]), (52, .getfield 158, [4, 0, 2, 1]), (55, .iload_n 2, []), (56, .iaload, []), (57, .bipush 100, []), (59, .imul, []), (60, .iload_n 3, []), (61, .idiv, []), (62, .goto 4, [66])], 65),
  (65, [], [(65, .iconst 0, [])], 66),
  (66, [], [(66, .ireturn, [0])], 67)]
def rX1_variable : xRow := ((yX1_variable, cX1_variable, 4, (some .int), 0, 0), bX1_variable, pX1)
def pX2 : xPool := [(3, 9, [0, 5, 5]), (2, 11, [4, 68, 1, 9, 2, 16, 6]), (0, 12, [2, 0, 2, 2]), (3, 18, [0, 4, 5]), (2, 20, [4, 47, 1, 9, 1, 9, 5]), (0, 21, [2, 1, 2, 2]), (3, 25, [0, 0, 3]), (2, 27, [4, 0, 1, 9, 2, 16, 1]), (0, 28, [2, 2, 2, 2]), (3, 32, [0, 1, 3]), (2, 34, [4, 6, 1, 9, 2, 511, 2]), (0, 35, [2, 3, 2, 2]), (2, 39, [1, 19, 2, 9, 0, 0, 3]), (0, 12, [2, 0, 2, 0]), (2, 43, [1, 69, 2, 9, 0, 0, 6]), (0, 21, [2, 1, 2, 0]), (2, 44, [1, 48, 2, 9, 0, 0, 5]), (0, 28, [2, 2, 2, 0]), (2, 45, [1, 1, 1, 9, 0, 0, 1]), (0, 35, [2, 3, 2, 0]), (2, 48, [1, 8, 1, 9, 0, 0, 2]), (0, 50, [2, 4, 0, 0]), (0, 54, [2, 5, 0, 0]), (0, 57, [2, 6, 0, 0]), (0, 60, [2, 7, 0, 0]), (0, 63, [2, 8, 0, 0]), (2, 66, [1, 70, 2, 9, 0, 0, 6]), (2, 70, [1, 49, 2, 9, 0, 0, 5]), (2, 73, [1, 2, 2, 9, 0, 0, 1]), (2, 76, [1, 9, 2, 9, 0, 0, 2]), (0, 79, [5, 0, 0, 1]), (0, 82, [5, 1, 0, 1]), (0, 85, [4, 2, 0, 1]), (0, 88, [4, 3, 0, 1]), (0, 91, [4, 4, 0, 1]), (2, 94, [1, 52, 1, 0, 0, 0, 5]), (2, 98, [1, 54, 1, 0, 0, 0, 5]), (0, 101, [0, 2, 0, 1]), (2, 104, [1, 5, 2, 0, 0, 0, 1]), (2, 108, [1, 22, 1, 0, 0, 0, 3]), (2, 112, [1, 58, 6, 9, 0, 0, 5]), (2, 116, [1, 76, 3, 9, 0, 0, 6]), (2, 120, [1, 27, 2, 9, 0, 0, 3]), (2, 124, [1, 59, 3, 9, 0, 0, 5]), (2, 128, [1, 50, 2, 9, 0, 0, 5]), (2, 131, [1, 51, 2, 9, 0, 0, 5]), (2, 134, [1, 15, 3, 0, 0, 0, 2]), (2, 138, [1, 28, 2, 0, 0, 0, 3])]
def bX2_init : xBl := [
  (0, [0], [(0, .aload_n 0, []), (1, .invokespecial 3, [0]), (4, .aload_n 0, []), (5, .new 9, [0, 5, 5]), (8, .dup, []), (9, .invokespecial 11, [4, 68, 1, 9, 2, 16, 6]), (12, .putfield 12, [2, 0, 2, 2]), (15, .aload_n 0, []), (16, .new 18, [0, 4, 5]), (19, .dup, []), (20, .invokespecial 20, [4, 47, 1, 9, 1, 9, 5]), (23, .putfield 21, [2, 1, 2, 2]), (26, .aload_n 0, []), (27, .new 25, [0, 0, 3]), (30, .dup, []), (31, .invokespecial 27, [4, 0, 1, 9, 2, 16, 1]), (34, .putfield 28, [2, 2, 2, 2]), (37, .aload_n 0, []), (38, .new 32, [0, 1, 3]), (41, .dup, []), (42, .invokespecial 34, [4, 6, 1, 9, 2, 511, 2]), (45, .putfield 35, [2, 3, 2, 2]), (48, .aload_n 0, []), (49, .iconst 3, []), (50, .invokevirtual 39, [1, 19, 2, 9, 0, 0, 3]), (53, .return_, [])], 54)]
def rX2_init : xRow := ((yX2_init, cX2_init, 1, none, 11, 568), bX2_init, pX2)
def bX2_reset : xBl := [
  (0, [0, 1], [(0, .aload_n 0, []), (1, .getfield 12, [2, 0, 2, 0]), (4, .iload_n 1, []), (5, .invokevirtual 43, [1, 69, 2, 9, 0, 0, 6]), (8, .aload_n 0, []), (9, .getfield 21, [2, 1, 2, 0]), (12, .iload_n 1, []), (13, .invokevirtual 44, [1, 48, 2, 9, 0, 0, 5]), (16, .aload_n 0, []), (17, .getfield 28, [2, 2, 2, 0]), (20, .invokevirtual 45, [1, 1, 1, 9, 0, 0, 1]), (23, .aload_n 0, []), (24, .getfield 35, [2, 3, 2, 0]), (27, .invokevirtual 48, [1, 8, 1, 9, 0, 0, 2]), (30, .aload_n 0, []), (31, .iconst 0, []), (32, .putfield 50, [2, 4, 0, 0]), (35, .aload_n 0, []), (36, .iconst 0, []), (37, .putfield 54, [2, 5, 0, 0]), (40, .aload_n 0, []), (41, .bipush 100, []), (43, .putfield 57, [2, 6, 0, 0]), (46, .aload_n 0, []), (47, .iconst 0, []), (48, .putfield 60, [2, 7, 0, 0]), (51, .aload_n 0, []), (52, .iconst 0, []), (53, .putfield 63, [2, 8, 0, 0]), (56, .return_, [])], 57)]
def rX2_reset : xRow := ((yX2_reset, cX2_reset, 2, none, 0, 0), bX2_reset, pX2)
def bX2_copyFrom : xBl := [
  (0, [0, 1], [(0, .aload_n 0, []), (1, .getfield 12, [2, 0, 2, 0]), (4, .aload_n 1, []), (5, .getfield 12, [2, 0, 2, 0]), (8, .invokevirtual 66, [1, 70, 2, 9, 0, 0, 6]), (11, .aload_n 0, []), (12, .getfield 21, [2, 1, 2, 0]), (15, .aload_n 1, []), (16, .getfield 21, [2, 1, 2, 0]), (19, .invokevirtual 70, [1, 49, 2, 9, 0, 0, 5]), (22, .aload_n 0, []), (23, .getfield 28, [2, 2, 2, 0]), (26, .aload_n 1, []), (27, .getfield 28, [2, 2, 2, 0]), (30, .invokevirtual 73, [1, 2, 2, 9, 0, 0, 1]), (33, .aload_n 0, []), (34, .getfield 35, [2, 3, 2, 0]), (37, .aload_n 1, []), (38, .getfield 35, [2, 3, 2, 0]), (41, .invokevirtual 76, [1, 9, 2, 9, 0, 0, 2]), (44, .aload_n 0, []), (45, .aload_n 1, []), (46, .getfield 50, [2, 4, 0, 0]), (49, .putfield 50, [2, 4, 0, 0]), (52, .aload_n 0, []), (53, .aload_n 1, []), (54, .getfield 54, [2, 5, 0, 0]), (57, .putfield 54, [2, 5, 0, 0]), (60, .aload_n 0, []), (61, .aload_n 1, []), (62, .getfield 57, [2, 6, 0, 0]), (65, .putfield 57, [2, 6, 0, 0]), (68, .aload_n 0, []), (69, .aload_n 1, []), (70, .getfield 60, [2, 7, 0, 0]), (73, .putfield 60, [2, 7, 0, 0]), (76, .aload_n 0, []), (77, .aload_n 1, []), (78, .getfield 63, [2, 8, 0, 0]), (81, .putfield 63, [2, 8, 0, 0]), (84, .return_, [])], 85)]
def rX2_copyFrom : xRow := ((yX2_copyFrom, cX2_copyFrom, 2, none, 0, 0), bX2_copyFrom, pX2)
def bX2_number : xBl := [
  (0, [0, 1], [(0, .iload_n 1, []), (1, .tableswitch 144 0 11 #[63, 71, 76, 84, 89, 97, 105, 113, 118, 123, 128, 136], [145, 0, 64, 72, 77, 85, 90, 98, 106, 114, 119, 124, 129, 137])], 64),
  (64, [0], [(64, .aload_n 0, []), (65, .getfield 12, [2, 0, 2, 0]), (68, .getfield 79, [5, 0, 0, 1]), (71, .ireturn, [0])], 72),
  (72, [0], [(72, .aload_n 0, []), (73, .getfield 50, [2, 4, 0, 0]), (76, .ireturn, [0])], 77),
  (77, [0], [(77, .aload_n 0, []), (78, .getfield 12, [2, 0, 2, 0]), (81, .getfield 82, [5, 1, 0, 1]), (84, .ireturn, [0])], 85),
  (85, [0], [(85, .aload_n 0, []), (86, .getfield 54, [2, 5, 0, 0]), (89, .ireturn, [0])], 90),
  (90, [0], [(90, .aload_n 0, []), (91, .getfield 21, [2, 1, 2, 0]), (94, .getfield 85, [4, 2, 0, 1]), (97, .ireturn, [0])], 98),
  (98, [0], [(98, .aload_n 0, []), (99, .getfield 21, [2, 1, 2, 0]), (102, .getfield 88, [4, 3, 0, 1]), (105, .ireturn, [0])], 106),
  (106, [0], [(106, .aload_n 0, []), (107, .getfield 21, [2, 1, 2, 0]), (110, .getfield 91, [4, 4, 0, 1]), (113, .ireturn, [0])], 114),
  (114, [0], [(114, .aload_n 0, []), (115, .getfield 57, [2, 6, 0, 0]), (118, .ireturn, [0])], 119),
  (119, [0], [(119, .aload_n 0, []), (120, .getfield 60, [2, 7, 0, 0]), (123, .ireturn, [0])], 124),
  (124, [0], [(124, .aload_n 0, []), (125, .getfield 63, [2, 8, 0, 0]), (128, .ireturn, [0])], 129),
  (129, [0], [(129, .aload_n 0, []), (130, .getfield 21, [2, 1, 2, 0]), (133, .invokevirtual 94, [1, 52, 1, 0, 0, 0, 5]), (136, .ireturn, [0])], 137),
  (137, [0], [(137, .aload_n 0, []), (138, .getfield 21, [2, 1, 2, 0]), (141, .invokevirtual 98, [1, 54, 1, 0, 0, 0, 5]), (144, .ireturn, [0])], 145),
  (145, [0], [(145, .aload_n 0, []), (146, .getfield 28, [2, 2, 2, 0]), (149, .getfield 101, [0, 2, 0, 1]), (152, .ireturn, [0])], 153)]
def rX2_number : xRow := ((yX2_number, cX2_number, 2, (some .int), 0, 0), bX2_number, pX2)
def bX2_isBlinkNext : xBl := [
  (0, [0], [(0, .aload_n 0, []), (1, .getfield 28, [2, 2, 2, 0]), (4, .aload_n 0, []), (5, .getfield 50, [2, 4, 0, 0]), (8, .invokevirtual 104, [1, 5, 2, 0, 0, 0, 1]), (11, .ireturn, [5])], 12)]
def rX2_isBlinkNext : xRow := ((yX2_isBlinkNext, cX2_isBlinkNext, 1, (some .boolean), 0, 0), bX2_isBlinkNext, pX2)
def bX2_canSteal : xBl := [
  (0, [0, 1], [(0, .aload_n 0, []), (1, .invokevirtual 108, [1, 22, 1, 0, 0, 0, 3]), (4, .ifCond .eq 28, [32]), (7, .aload_n 0, []), (8, .getfield 21, [2, 1, 2, 0]), (11, .getfield 91, [4, 4, 0, 1]), (14, .ifCond .le 18, [32]), (17, .aload_n 0, []), (18, .getfield 12, [2, 0, 2, 0]), (21, .getfield 82, [5, 1, 0, 1]), (24, .iload_n 1, []), (25, .if_icmp .ne 7, [32]), (28, .iconst 1, []), (29, .goto 4, [33])], 32),
  (32, [], [(32, .iconst 0, [])], 33),
  (33, [], [(33, .ireturn, [5])], 34)]
def rX2_canSteal : xRow := ((yX2_canSteal, cX2_canSteal, 2, (some .boolean), 0, 0), bX2_canSteal, pX2)
def bX2_canPlant : xBl := [
  (0, [0], [(0, .aload_n 0, []), (1, .invokevirtual 108, [1, 22, 1, 0, 0, 0, 3]), (4, .ifCond .eq 34, [38]), (7, .aload_n 0, []), (8, .getfield 21, [2, 1, 2, 0]), (11, .getfield 91, [4, 4, 0, 1]), (14, .ifCond .le 24, [38]), (17, .aload_n 0, []), (18, .getfield 12, [2, 0, 2, 0]), (21, .getfield 82, [5, 1, 0, 1]), (24, .aload_n 0, []), (25, .getfield 12, [2, 0, 2, 0]), (28, .getfield 79, [5, 0, 0, 1]), (31, .if_icmp .ne 7, [38]), (34, .iconst 1, []), (35, .goto 4, [39])], 38),
  (38, [], [(38, .iconst 0, [])], 39),
  (39, [], [(39, .ireturn, [5])], 40)]
def rX2_canPlant : xRow := ((yX2_canPlant, cX2_canPlant, 1, (some .boolean), 0, 0), bX2_canPlant, pX2)
def bX2_makeMove : xBl := [
  (0, [0, 1, 2, 3], [(0, .aload_n 0, []), (1, .invokevirtual 108, [1, 22, 1, 0, 0, 0, 3]), (4, .istore 4, []), (6, .aload_n 0, []), (7, .getfield 21, [2, 1, 2, 0]), (10, .aload_n 0, []), (11, .getfield 12, [2, 0, 2, 0]), (14, .iload_n 1, []), (15, .iload_n 2, []), (16, .iload_n 3, []), (17, .iload 4, []), (19, .invokevirtual 112, [1, 58, 6, 9, 0, 0, 5]), (22, .iload_n 1, []), (23, .ifCond .eq 12, [35]), (26, .aload_n 0, []), (27, .getfield 12, [2, 0, 2, 0]), (30, .iload_n 2, []), (31, .iload_n 3, []), (32, .invokevirtual 116, [1, 76, 3, 9, 0, 0, 6])], 35),
  (35, [0, 4], [(35, .aload_n 0, []), (36, .iload 4, []), (38, .invokevirtual 120, [1, 27, 2, 9, 0, 0, 3]), (41, .iload 4, []), (43, .ireturn, [5])], 44)]
def rX2_makeMove : xRow := ((yX2_makeMove, cX2_makeMove, 5, (some .boolean), 0, 0), bX2_makeMove, pX2)
def bX2_makeStill : xBl := [
  (0, [0, 1], [(0, .aload_n 0, []), (1, .invokevirtual 108, [1, 22, 1, 0, 0, 0, 3]), (4, .istore_n 2, []), (5, .aload_n 0, []), (6, .getfield 21, [2, 1, 2, 0]), (9, .aload_n 0, []), (10, .getfield 12, [2, 0, 2, 0]), (13, .iload_n 2, []), (14, .invokevirtual 124, [1, 59, 3, 9, 0, 0, 5]), (17, .aload_n 0, []), (18, .getfield 12, [2, 0, 2, 0]), (21, .iload_n 1, []), (22, .putfield 82, [5, 1, 0, 1]), (25, .aload_n 0, []), (26, .iload_n 2, []), (27, .invokevirtual 120, [1, 27, 2, 9, 0, 0, 3]), (30, .iload_n 2, []), (31, .ireturn, [5])], 32)]
def rX2_makeStill : xRow := ((yX2_makeStill, cX2_makeStill, 3, (some .boolean), 0, 0), bX2_makeStill, pX2)
def bX2_countStep : xBl := [
  (0, [0, 1], [(0, .aload_n 0, []), (1, .dup, []), (2, .getfield 50, [2, 4, 0, 0]), (5, .iconst 1, []), (6, .iadd, []), (7, .putfield 50, [2, 4, 0, 0]), (10, .iload_n 1, []), (11, .ifCond .eq 13, [24]), (14, .aload_n 0, []), (15, .dup, []), (16, .getfield 54, [2, 5, 0, 0]), (19, .iconst 1, []), (20, .iadd, []), (21, .putfield 54, [2, 5, 0, 0])], 24),
  (24, [], [(24, .return_, [])], 25)]
def rX2_countStep : xRow := ((yX2_countStep, cX2_countStep, 2, none, 0, 0), bX2_countStep, pX2)
def bX2_lookUnder : xBl := [
  (0, [0, 1], [(0, .aload_n 0, []), (1, .getfield 12, [2, 0, 2, 0]), (4, .getfield 82, [5, 1, 0, 1]), (7, .iload_n 1, []), (8, .if_icmp .ne 7, [15]), (11, .iconst 1, []), (12, .goto 4, [16])], 15),
  (15, [0, 1], [(15, .iconst 0, [])], 16),
  (16, [0, 1], [(16, .istore_n 2, []), (17, .iload_n 2, []), (18, .ifCond .eq 14, [32]), (21, .aload_n 0, []), (22, .getfield 21, [2, 1, 2, 0]), (25, .iload_n 1, []), (26, .invokevirtual 128, [1, 50, 2, 9, 0, 0, 5]), (29, .goto 11, [40])], 32),
  (32, [0, 1, 2], [(32, .aload_n 0, []), (33, .getfield 21, [2, 1, 2, 0]), (36, .iload_n 1, []), (37, .invokevirtual 131, [1, 51, 2, 9, 0, 0, 5])], 40),
  (40, [2], [(40, .iload_n 2, []), (41, .ireturn, [5])], 42)]
def rX2_lookUnder : xRow := ((yX2_lookUnder, cX2_lookUnder, 3, (some .boolean), 0, 0), bX2_lookUnder, pX2)
def bX2_playBet : xBl := [
  (0, [0, 1, 2], [(0, .aload_n 0, []), (1, .getfield 35, [2, 3, 2, 0]), (4, .aload_n 0, []), (5, .iload_n 1, []), (6, .invokevirtual 134, [1, 15, 3, 0, 0, 0, 2]), (9, .istore_n 3, []), (10, .aload_n 0, []), (11, .iload_n 1, []), (12, .invokevirtual 138, [1, 28, 2, 0, 0, 0, 3]), (15, .ifCond .eq 33, [48]), (18, .aload_n 0, []), (19, .aload_n 0, []), (20, .getfield 57, [2, 6, 0, 0]), (23, .iload_n 2, []), (24, .iload_n 3, []), (25, .imul, []), (26, .iadd, []), (27, .ldc 141, [0, 1000000]), (29, .invokestatic 142, [0, 1]), (32, .putfield 57, [2, 6, 0, 0]), (35, .aload_n 0, []), (36, .dup, []), (37, .getfield 60, [2, 7, 0, 0]), (40, .iconst 1, []), (41, .iadd, []), (42, .putfield 60, [2, 7, 0, 0]), (45, .goto 23, [68])], 48),
  (48, [0, 2], [(48, .aload_n 0, []), (49, .dup, []), (50, .getfield 57, [2, 6, 0, 0]), (53, .iload_n 2, []), (54, .isub, []), (55, .putfield 57, [2, 6, 0, 0]), (58, .aload_n 0, []), (59, .dup, []), (60, .getfield 63, [2, 8, 0, 0]), (63, .iconst 1, []), (64, .iadd, []), (65, .putfield 63, [2, 8, 0, 0])], 68),
  (68, [0], [(68, .aload_n 0, []), (69, .getfield 57, [2, 6, 0, 0]), (72, .ireturn, [0])], 73)]
def rX2_playBet : xRow := ((yX2_playBet, cX2_playBet, 4, (some .int), 0, 0), bX2_playBet, pX2)
def pX3 : xPool := [(0, 9, [3, 0, 2, 2]), (4, 15, [4]), (0, 17, [3, 3, 2, 2]), (0, 21, [3, 4, 2, 2]), (0, 25, [3, 5, 2, 2]), (0, 28, [3, 9, 0, 0]), (0, 32, [3, 1, 0, 0]), (0, 9, [3, 0, 2, 0]), (0, 44, [3, 2, 0, 0]), (0, 47, [3, 6, 0, 0]), (0, 50, [3, 7, 0, 0]), (0, 53, [3, 8, 0, 0]), (2, 56, [1, 34, 2, 0, 0, 0, 4]), (2, 60, [1, 35, 3, 9, 0, 0, 4]), (1, 64, [0, 0]), (2, 68, [1, 39, 4, 9, 0, 0, 4]), (1, 72, [0, 1]), (2, 75, [1, 36, 3, 0, 0, 0, 4]), (2, 78, [1, 37, 3, 2, 0, 0, 4]), (1, 82, [1]), (6, 85, [77]), (2, 89, [1, 38, 4, 0, 0, 0, 4]), (1, 93, [0, 2]), (2, 96, [1, 234, 1, 0, 0, 0, 100]), (2, 101, [1, 235, 2, 0, 0, 0, 100]), (0, 17, [3, 3, 2, 0]), (0, 21, [3, 4, 2, 0]), (0, 25, [3, 5, 2, 0]), (2, 105, [1, 46, 2, 0, 0, 0, 4]), (2, 109, [1, 43, 1, 9, 0, 0, 4])]
def bX3_init : xBl := [
  (0, [0], [(0, .aload_n 0, []), (1, .invokespecial 3, [0]), (4, .aload_n 0, []), (5, .sipush 500, []), (8, .newarray .byte, [1]), (10, .putfield 9, [3, 0, 2, 2]), (13, .aload_n 0, []), (14, .sipush 501, []), (17, .anewarray 15, [4]), (20, .putfield 17, [3, 3, 2, 2]), (23, .aload_n 0, []), (24, .sipush 501, []), (27, .newarray .int, [0]), (29, .putfield 21, [3, 4, 2, 2]), (32, .aload_n 0, []), (33, .sipush 501, []), (36, .newarray .int, [0]), (38, .putfield 25, [3, 5, 2, 2]), (41, .aload_n 0, []), (42, .iconst (-1), []), (43, .putfield 28, [3, 9, 0, 0]), (46, .return_, [])], 47)]
def rX3_init : xRow := ((yX3_init, cX3_init, 1, none, 4, 2003), bX3_init, pX3)
def bX3_hasRoom : xBl := [
  (0, [0, 1], [(0, .aload_n 0, []), (1, .getfield 32, [3, 1, 0, 0]), (4, .iload_n 1, []), (5, .iadd, []), (6, .aload_n 0, []), (7, .getfield 9, [3, 0, 2, 0]), (10, .arraylength, []), (11, .if_icmp .gt 7, [18]), (14, .iconst 1, []), (15, .goto 4, [19])], 18),
  (18, [], [(18, .iconst 0, [])], 19),
  (19, [], [(19, .ireturn, [5])], 20)]
def rX3_hasRoom : xRow := ((yX3_hasRoom, cX3_hasRoom, 2, (some .boolean), 0, 0), bX3_hasRoom, pX3)
def bX3_putWord : xBl := [
  (0, [0, 1], [(0, .bipush 24, []), (2, .istore_n 2, [])], 3),
  (3, [0, 1, 2], [(3, .iload_n 2, []), (4, .ifCond .lt 44, [48]), (7, .aload_n 0, []), (8, .getfield 32, [3, 1, 0, 0]), (11, .aload_n 0, []), (12, .getfield 9, [3, 0, 2, 0]), (15, .arraylength, []), (16, .if_icmp .ge 26, [42]), (19, .aload_n 0, []), (20, .getfield 9, [3, 0, 2, 0]), (23, .aload_n 0, []), (24, .getfield 32, [3, 1, 0, 0]), (27, .iload_n 1, []), (28, .iload_n 2, []), (29, .ishr, []), (30, .i2b, []), (31, .bastore, []), (32, .aload_n 0, []), (33, .dup, []), (34, .getfield 32, [3, 1, 0, 0]), (37, .iconst 1, []), (38, .iadd, []), (39, .putfield 32, [3, 1, 0, 0])], 42),
  (42, [0, 1, 2], [(42, .iinc 2 (-8), []), (45, .goto (-42), [3])], 48),
  (48, [], [(48, .return_, [])], 49)]
def rX3_putWord : xRow := ((yX3_putWord, cX3_putWord, 3, none, 0, 0), bX3_putWord, pX3)
def bX3_begin : xBl := [
  (0, [0, 1], [(0, .aload_n 0, []), (1, .iconst 0, []), (2, .iload_n 1, []), (3, .aload_n 0, []), (4, .getfield 32, [3, 1, 0, 0]), (7, .invokestatic 35, [0, 1]), (10, .invokestatic 41, [0, 0]), (13, .putfield 44, [3, 2, 0, 0]), (16, .aload_n 0, []), (17, .iconst 0, []), (18, .putfield 47, [3, 6, 0, 0]), (21, .aload_n 0, []), (22, .iconst 0, []), (23, .putfield 50, [3, 7, 0, 0]), (26, .aload_n 0, []), (27, .iconst 0, []), (28, .putfield 53, [3, 8, 0, 0]), (31, .aload_n 0, []), (32, .iconst (-1), []), (33, .putfield 28, [3, 9, 0, 0]), (36, .iconst 0, []), (37, .istore_n 2, []), (38, .iconst 0, []), (39, .istore_n 3, [])], 40),
  (40, [0, 2, 3], [(40, .iload_n 3, []), (41, .aload_n 0, []), (42, .getfield 44, [3, 2, 0, 0]), (45, .if_icmp .ge 43, [88]), (48, .aload_n 0, []), (49, .iload_n 3, []), (50, .invokevirtual 56, [1, 34, 2, 0, 0, 0, 4]), (53, .istore 4, []), (55, .iload 4, []), (57, .iconst 3, []), (58, .if_icmp .eq 14, [72]), (61, .iload 4, []), (63, .ifCond .eq 16, [79]), (66, .iload 4, []), (68, .iload_n 2, []), (69, .if_icmp .eq 10, [79])], 72),
  (72, [0, 3, 4], [(72, .aload_n 0, []), (73, .iload_n 3, []), (74, .iload 4, []), (76, .invokevirtual 60, [1, 35, 3, 9, 0, 0, 4])], 79),
  (79, [0, 3, 4], [(79, .iload 4, []), (81, .istore_n 2, []), (82, .iinc 3 1, []), (85, .goto (-45), [40])], 88),
  (88, [0], [(88, .aload_n 0, []), (89, .getstatic 64, [0, 0]), (92, .aload_n 0, []), (93, .getfield 44, [3, 2, 0, 0]), (96, .iconst 0, []), (97, .invokevirtual 68, [1, 39, 4, 9, 0, 0, 4]), (100, .aload_n 0, []), (101, .iconst 0, []), (102, .putfield 32, [3, 1, 0, 0]), (105, .return_, [])], 106)]
def rX3_begin : xRow := ((yX3_begin, cX3_begin, 5, none, 0, 0), bX3_begin, pX3)
def bX3_kindAt : xBl := [
  (0, [0, 1], [(0, .aload_n 0, []), (1, .getfield 9, [3, 0, 2, 0]), (4, .iload_n 1, []), (5, .baload, []), (6, .istore_n 2, []), (7, .iload_n 2, []), (8, .bipush 32, []), (10, .if_icmp .ne 5, [15]), (13, .iconst 0, []), (14, .ireturn, [0])], 15),
  (15, [2], [(15, .iload_n 2, []), (16, .bipush 48, []), (18, .if_icmp .lt 11, [29]), (21, .iload_n 2, []), (22, .bipush 57, []), (24, .if_icmp .gt 5, [29]), (27, .iconst 1, []), (28, .ireturn, [0])], 29),
  (29, [2], [(29, .iload_n 2, []), (30, .bipush 97, []), (32, .if_icmp .lt 13, [45]), (35, .iload_n 2, []), (36, .bipush 122, []), (38, .if_icmp .gt 7, [45]), (41, .iconst 2, []), (42, .goto 4, [46])], 45),
  (45, [], [(45, .iconst 3, [])], 46),
  (46, [], [(46, .ireturn, [0])], 47)]
def rX3_kindAt : xRow := ((yX3_kindAt, cX3_kindAt, 3, (some .int), 0, 0), bX3_kindAt, pX3)
def bX3_addToken : xBl := [
  (0, [0, 1, 2], [(0, .iload_n 1, []), (1, .iconst 1, []), (2, .iadd, []), (3, .istore_n 3, [])], 4),
  (4, [0, 1, 2, 3], [(4, .iload_n 2, []), (5, .iconst 3, []), (6, .if_icmp .eq 26, [32]), (9, .iload_n 3, []), (10, .aload_n 0, []), (11, .getfield 44, [3, 2, 0, 0]), (14, .if_icmp .ge 18, [32]), (17, .aload_n 0, []), (18, .iload_n 3, []), (19, .invokevirtual 56, [1, 34, 2, 0, 0, 0, 4]), (22, .iload_n 2, []), (23, .if_icmp .ne 9, [32]), (26, .iinc 3 1, []), (29, .goto (-25), [4])], 32),
  (32, [0, 1, 2, 3], [(32, .iload_n 2, []), (33, .iconst 1, []), (34, .if_icmp .ne 20, [54]), (37, .aload_n 0, []), (38, .getstatic 72, [0, 1]), (41, .iload_n 1, []), (42, .aload_n 0, []), (43, .iload_n 1, []), (44, .iload_n 3, []), (45, .invokevirtual 75, [1, 36, 3, 0, 0, 0, 4]), (48, .invokevirtual 68, [1, 39, 4, 9, 0, 0, 4]), (51, .goto 15, [66])], 54),
  (54, [0, 1, 3], [(54, .aload_n 0, []), (55, .aload_n 0, []), (56, .iload_n 1, []), (57, .iload_n 3, []), (58, .invokevirtual 78, [1, 37, 3, 2, 0, 0, 4]), (61, .iload_n 1, []), (62, .iconst 0, []), (63, .invokevirtual 68, [1, 39, 4, 9, 0, 0, 4])], 66),
  (66, [], [(66, .return_, [])], 67)]
def rX3_addToken : xRow := ((yX3_addToken, cX3_addToken, 4, none, 0, 0), bX3_addToken, pX3)
def bX3_numberIn : xBl := [
  (0, [0, 1, 2], [(0, .iconst 0, []), (1, .istore_n 3, []), (2, .iload_n 1, []), (3, .istore 4, [])], 5),
  (5, [0, 2, 3, 4], [(5, .iload 4, []), (7, .iload_n 2, []), (8, .if_icmp .ge 31, [39]), (11, .iload_n 3, []), (12, .bipush 10, []), (14, .imul, []), (15, .aload_n 0, []), (16, .getfield 9, [3, 0, 2, 0]), (19, .iload 4, []), (21, .baload, []), (22, .bipush 48, []), (24, .isub, []), (25, .iadd, []), (26, .sipush 10000, []), (29, .invokestatic 35, [0, 1]), (32, .istore_n 3, []), (33, .iinc 4 1, []), (36, .goto (-31), [5])], 39),
  (39, [3], [(39, .iload_n 3, []), (40, .ireturn, [0])], 41)]
def rX3_numberIn : xRow := ((yX3_numberIn, cX3_numberIn, 5, (some .int), 0, 0), bX3_numberIn, pX3)
def bX3_tokenIn : xBl := [
  (0, [0, 1, 2], [(0, .getstatic 82, [1]), (3, .astore_n 3, []), (4, .aload_n 3, []), (5, .arraylength, []), (6, .istore 4, []), (8, .iconst 0, []), (9, .istore 5, [])], 11),
  (11, [0, 1, 2, 3, 4, 5], [(11, .iload 5, []), (13, .iload 4, []), (15, .if_icmp .ge 32, [47]), (18, .aload_n 3, []), (19, .iload 5, []), (21, .aaload, []), (22, .astore 6, []), (24, .aload_n 0, []), (25, .aload 6, []), (27, .getfield 85, [77]), (30, .iload_n 1, []), (31, .iload_n 2, []), (32, .invokevirtual 89, [1, 38, 4, 0, 0, 0, 4]), (35, .ifCond .eq 6, [41]), (38, .aload 6, []), (40, .areturn, [])], 41),
  (41, [0, 1, 2, 3, 4, 5], [(41, .iinc 5 1, []), (44, .goto (-33), [11])], 47),
  (47, [], [(47, .getstatic 93, [0, 2]), (50, .areturn, [])], 51)]
def rX3_tokenIn : xRow := ((yX3_tokenIn, cX3_tokenIn, 7, (some (.object "ShellWatch$Token")), 0, 0), bX3_tokenIn, pX3)
def bX3_isSpelled : xBl := [
  (0, [0, 1, 2, 3], [(0, .aload_n 1, []), (1, .invokevirtual 96, [1, 234, 1, 0, 0, 0, 100]), (4, .iload_n 3, []), (5, .iload_n 2, []), (6, .isub, []), (7, .if_icmp .eq 5, [12]), (10, .iconst 0, []), (11, .ireturn, [5])], 12),
  (12, [0, 1, 2], [(12, .iconst 0, []), (13, .istore 4, [])], 15),
  (15, [0, 1, 2, 4], [(15, .iload 4, []), (17, .aload_n 1, []), (18, .invokevirtual 96, [1, 234, 1, 0, 0, 0, 100]), (21, .if_icmp .ge 29, [50]), (24, .aload_n 0, []), (25, .getfield 9, [3, 0, 2, 0]), (28, .iload_n 2, []), (29, .iload 4, []), (31, .iadd, []), (32, .baload, []), (33, .aload_n 1, []), (34, .iload 4, []), (36, .invokevirtual 101, [1, 235, 2, 0, 0, 0, 100]), (39, .if_icmp .eq 5, [44]), (42, .iconst 0, []), (43, .ireturn, [5])], 44),
  (44, [0, 1, 2, 4], [(44, .iinc 4 1, []), (47, .goto (-32), [15])], 50),
  (50, [], [(50, .iconst 1, []), (51, .ireturn, [5])], 52)]
def rX3_isSpelled : xRow := ((yX3_isSpelled, cX3_isSpelled, 5, (some .boolean), 0, 0), bX3_isSpelled, pX3)
def bX3_put : xBl := [
  (0, [0, 1, 2, 3], [(0, .aload_n 0, []), (1, .getfield 47, [3, 6, 0, 0]), (4, .aload_n 0, []), (5, .getfield 17, [3, 3, 2, 0]), (8, .arraylength, []), (9, .if_icmp .ge 43, [52]), (12, .aload_n 0, []), (13, .getfield 17, [3, 3, 2, 0]), (16, .aload_n 0, []), (17, .getfield 47, [3, 6, 0, 0]), (20, .aload_n 1, []), (21, .aastore, []), (22, .aload_n 0, []), (23, .getfield 21, [3, 4, 2, 0]), (26, .aload_n 0, []), (27, .getfield 47, [3, 6, 0, 0]), (30, .iload_n 2, []), (31, .iastore, []), (32, .aload_n 0, []), (33, .getfield 25, [3, 5, 2, 0]), (36, .aload_n 0, []), (37, .getfield 47, [3, 6, 0, 0]), (40, .iload_n 3, []), (41, .iastore, []), (42, .aload_n 0, []), (43, .dup, []), (44, .getfield 47, [3, 6, 0, 0]), (47, .iconst 1, []), (48, .iadd, []), (49, .putfield 47, [3, 6, 0, 0])], 52),
  (52, [], [(52, .return_, [])], 53)]
def rX3_put : xRow := ((yX3_put, cX3_put, 4, none, 0, 0), bX3_put, pX3)
def bX3_token : xBl := [
  (0, [0], [(0, .aload_n 0, []), (1, .getfield 17, [3, 3, 2, 0]), (4, .aload_n 0, []), (5, .getfield 50, [3, 7, 0, 0]), (8, .aaload, []), (9, .areturn, [])], 10)]
def rX3_token : xRow := ((yX3_token, cX3_token, 1, (some (.object "ShellWatch$Token")), 0, 0), bX3_token, pX3)
def bX3_number : xBl := [
  (0, [0], [(0, .aload_n 0, []), (1, .getfield 25, [3, 5, 2, 0]), (4, .aload_n 0, []), (5, .getfield 50, [3, 7, 0, 0]), (8, .iaload, []), (9, .ireturn, [0])], 10)]
def rX3_number : xRow := ((yX3_number, cX3_number, 1, (some .int), 0, 0), bX3_number, pX3)
def bX3_is : xBl := [
  (0, [0, 1], [(0, .aload_n 0, []), (1, .getfield 17, [3, 3, 2, 0]), (4, .aload_n 0, []), (5, .getfield 50, [3, 7, 0, 0]), (8, .aaload, []), (9, .aload_n 1, []), (10, .if_acmp .ne 7, [17]), (13, .iconst 1, []), (14, .goto 4, [18])], 17),
  (17, [], [(17, .iconst 0, [])], 18),
  (18, [], [(18, .ireturn, [5])], 19)]
def rX3_is : xRow := ((yX3_is, cX3_is, 2, (some .boolean), 0, 0), bX3_is, pX3)
def bX3_advance : xBl := [
  (0, [0], [(0, .aload_n 0, []), (1, .getfield 50, [3, 7, 0, 0]), (4, .iconst 1, []), (5, .iadd, []), (6, .aload_n 0, []), (7, .getfield 47, [3, 6, 0, 0]), (10, .if_icmp .ge 13, [23]), (13, .aload_n 0, []), (14, .dup, []), (15, .getfield 50, [3, 7, 0, 0]), (18, .iconst 1, []), (19, .iadd, []), (20, .putfield 50, [3, 7, 0, 0])], 23),
  (23, [], [(23, .return_, [])], 24)]
def rX3_advance : xRow := ((yX3_advance, cX3_advance, 1, none, 0, 0), bX3_advance, pX3)
def bX3_take : xBl := [
  (0, [0, 1], [(0, .aload_n 0, []), (1, .getfield 17, [3, 3, 2, 0]), (4, .aload_n 0, []), (5, .getfield 50, [3, 7, 0, 0]), (8, .aaload, []), (9, .aload_n 1, []), (10, .if_acmp .eq 10, [20]), (13, .aload_n 0, []), (14, .bipush (-2), []), (16, .invokevirtual 105, [1, 46, 2, 0, 0, 0, 4]), (19, .ireturn, [5])], 20),
  (20, [0], [(20, .aload_n 0, []), (21, .invokevirtual 109, [1, 43, 1, 9, 0, 0, 4]), (24, .iconst 1, []), (25, .ireturn, [5])], 26)]
def rX3_take : xRow := ((yX3_take, cX3_take, 2, (some .boolean), 0, 0), bX3_take, pX3)
def bX3_takeNumber : xBl := [
  (0, [0, 1, 2], [(0, .aload_n 0, []), (1, .getfield 25, [3, 5, 2, 0]), (4, .aload_n 0, []), (5, .getfield 50, [3, 7, 0, 0]), (8, .iaload, []), (9, .istore_n 3, []), (10, .aload_n 0, []), (11, .getfield 17, [3, 3, 2, 0]), (14, .aload_n 0, []), (15, .getfield 50, [3, 7, 0, 0]), (18, .aaload, []), (19, .getstatic 72, [0, 1]), (22, .if_acmp .eq 12, [34]), (25, .aload_n 0, []), (26, .bipush (-2), []), (28, .invokevirtual 105, [1, 46, 2, 0, 0, 0, 4]), (31, .pop, []), (32, .iconst (-1), []), (33, .ireturn, [0])], 34),
  (34, [0, 1, 2, 3], [(34, .iload_n 3, []), (35, .iload_n 1, []), (36, .if_icmp .lt 8, [44]), (39, .iload_n 3, []), (40, .iload_n 2, []), (41, .if_icmp .le 12, [53])], 44),
  (44, [0], [(44, .aload_n 0, []), (45, .bipush (-3), []), (47, .invokevirtual 105, [1, 46, 2, 0, 0, 0, 4]), (50, .pop, []), (51, .iconst (-1), []), (52, .ireturn, [0])], 53),
  (53, [0, 3], [(53, .aload_n 0, []), (54, .invokevirtual 109, [1, 43, 1, 9, 0, 0, 4]), (57, .iload_n 3, []), (58, .ireturn, [0])], 59)]
def rX3_takeNumber : xRow := ((yX3_takeNumber, cX3_takeNumber, 4, (some .int), 0, 0), bX3_takeNumber, pX3)
def bX3_fail : xBl := [
  (0, [0, 1], [(0, .aload_n 0, []), (1, .iload_n 1, []), (2, .putfield 53, [3, 8, 0, 0]), (5, .aload_n 0, []), (6, .aload_n 0, []), (7, .getfield 21, [3, 4, 2, 0]), (10, .aload_n 0, []), (11, .getfield 50, [3, 7, 0, 0]), (14, .iaload, []), (15, .putfield 28, [3, 9, 0, 0]), (18, .iconst 0, []), (19, .ireturn, [5])], 20)]
def rX3_fail : xRow := ((yX3_fail, cX3_fail, 2, (some .boolean), 0, 0), bX3_fail, pX3)
def pX4 : xPool := [(0, 9, [4, 0, 2, 2]), (0, 15, [4, 1, 0, 0]), (0, 19, [4, 2, 0, 0]), (0, 22, [4, 3, 0, 0]), (0, 25, [4, 4, 0, 0]), (2, 28, [1, 50, 2, 9, 0, 0, 5]), (0, 9, [4, 0, 2, 0]), (2, 38, [0, 233, 2, 9, 0, 0, 0]), (2, 44, [1, 66, 1, 9, 0, 0, 5]), (2, 53, [1, 57, 2, 0, 0, 0, 5]), (2, 57, [1, 73, 2, 0, 0, 0, 6]), (2, 63, [1, 60, 3, 9, 0, 0, 5]), (2, 67, [1, 62, 2, 9, 0, 0, 5]), (2, 71, [1, 61, 3, 9, 0, 0, 5]), (2, 74, [1, 64, 1, 9, 0, 0, 5]), (2, 77, [0, 63, 1, 0, 0, 0, 0]), (2, 80, [1, 53, 1, 0, 0, 0, 5]), (2, 85, [1, 65, 1, 9, 0, 0, 5]), (2, 88, [0, 67, 2, 0, 0, 0, 0])]
def bX4_init : xBl := [
  (0, [0], [(0, .aload_n 0, []), (1, .invokespecial 3, [0]), (4, .aload_n 0, []), (5, .bipush 9, []), (7, .newarray .int, [0]), (9, .putfield 9, [4, 0, 2, 2]), (12, .return_, [])], 13)]
def rX4_init : xRow := ((yX4_init, cX4_init, 1, none, 1, 9), bX4_init, pX4)
def bX4_reset : xBl := [
  (0, [0, 1], [(0, .aload_n 0, []), (1, .iload_n 1, []), (2, .iconst 1, []), (3, .iadd, []), (4, .putfield 15, [4, 1, 0, 0]), (7, .aload_n 0, []), (8, .bipush 80, []), (10, .putfield 19, [4, 2, 0, 0]), (13, .aload_n 0, []), (14, .iconst 1, []), (15, .putfield 22, [4, 3, 0, 0]), (18, .aload_n 0, []), (19, .iconst 0, []), (20, .putfield 25, [4, 4, 0, 0]), (23, .aload_n 0, []), (24, .iconst 0, []), (25, .invokevirtual 28, [1, 50, 2, 9, 0, 0, 5]), (28, .return_, [])], 29)]
def rX4_reset : xRow := ((yX4_reset, cX4_reset, 2, none, 0, 0), bX4_reset, pX4)
def bX4_copyFrom : xBl := [
  (0, [0, 1], [(0, .aload_n 1, []), (1, .getfield 9, [4, 0, 2, 0]), (4, .iconst 0, []), (5, .aload_n 0, []), (6, .getfield 9, [4, 0, 2, 0]), (9, .iconst 0, []), (10, .aload_n 0, []), (11, .getfield 9, [4, 0, 2, 0]), (14, .arraylength, []), (15, .invokestatic 32, [0, 6]), (18, .aload_n 0, []), (19, .aload_n 1, []), (20, .getfield 15, [4, 1, 0, 0]), (23, .putfield 15, [4, 1, 0, 0]), (26, .aload_n 0, []), (27, .aload_n 1, []), (28, .getfield 19, [4, 2, 0, 0]), (31, .putfield 19, [4, 2, 0, 0]), (34, .aload_n 0, []), (35, .aload_n 1, []), (36, .getfield 22, [4, 3, 0, 0]), (39, .putfield 22, [4, 3, 0, 0]), (42, .aload_n 0, []), (43, .aload_n 1, []), (44, .getfield 25, [4, 4, 0, 0]), (47, .putfield 25, [4, 4, 0, 0]), (50, .return_, [])], 51)]
def rX4_copyFrom : xRow := ((yX4_copyFrom, cX4_copyFrom, 2, none, 0, 0), bX4_copyFrom, pX4)
def bX4_know : xBl := [
  (0, [0, 1], [(0, .aload_n 0, []), (1, .getfield 9, [4, 0, 2, 0]), (4, .iconst 0, []), (5, .invokestatic 38, [0, 233, 2, 9, 0, 0, 0]), (8, .aload_n 0, []), (9, .getfield 9, [4, 0, 2, 0]), (12, .iload_n 1, []), (13, .iconst 1, []), (14, .iastore, []), (15, .return_, [])], 16)]
def rX4_know : xRow := ((yX4_know, cX4_know, 2, none, 0, 0), bX4_know, pX4)
def bX4_ruleOut : xBl := [
  (0, [0, 1], [(0, .aload_n 0, []), (1, .getfield 9, [4, 0, 2, 0]), (4, .iload_n 1, []), (5, .iconst 0, []), (6, .iastore, []), (7, .aload_n 0, []), (8, .invokevirtual 44, [1, 66, 1, 9, 0, 0, 5]), (11, .return_, [])], 12)]
def rX4_ruleOut : xRow := ((yX4_ruleOut, cX4_ruleOut, 2, none, 0, 0), bX4_ruleOut, pX4)
def bX4_sum : xBl := [
  (0, [0], [(0, .iconst 0, []), (1, .istore_n 1, []), (2, .iconst 0, []), (3, .istore_n 2, [])], 4),
  (4, [0, 1, 2], [(4, .iload_n 2, []), (5, .aload_n 0, []), (6, .getfield 15, [4, 1, 0, 0]), (9, .if_icmp .ge 18, [27]), (12, .iload_n 1, []), (13, .aload_n 0, []), (14, .getfield 9, [4, 0, 2, 0]), (17, .iload_n 2, []), (18, .iaload, []), (19, .iadd, []), (20, .istore_n 1, []), (21, .iinc 2 1, []), (24, .goto (-20), [4])], 27),
  (27, [1], [(27, .iload_n 1, []), (28, .ireturn, [0])], 29)]
def rX4_sum : xRow := ((yX4_sum, cX4_sum, 3, (some .int), 0, 0), bX4_sum, pX4)
def bX4_greatest : xBl := [
  (0, [0], [(0, .iconst 0, []), (1, .istore_n 1, []), (2, .iconst 0, []), (3, .istore_n 2, [])], 4),
  (4, [0, 1, 2], [(4, .iload_n 2, []), (5, .aload_n 0, []), (6, .getfield 15, [4, 1, 0, 0]), (9, .if_icmp .ge 20, [29]), (12, .iload_n 1, []), (13, .aload_n 0, []), (14, .getfield 9, [4, 0, 2, 0]), (17, .iload_n 2, []), (18, .iaload, []), (19, .invokestatic 47, [0, 0]), (22, .istore_n 1, []), (23, .iinc 2 1, []), (26, .goto (-22), [4])], 29),
  (29, [1], [(29, .iload_n 1, []), (30, .ireturn, [0])], 31)]
def rX4_greatest : xRow := ((yX4_greatest, cX4_greatest, 3, (some .int), 0, 0), bX4_greatest, pX4)
def bX4_countBelieved : xBl := [
  (0, [0], [(0, .iconst 0, []), (1, .istore_n 1, []), (2, .iconst 0, []), (3, .istore_n 2, [])], 4),
  (4, [0, 1, 2], [(4, .iload_n 2, []), (5, .aload_n 0, []), (6, .getfield 15, [4, 1, 0, 0]), (9, .if_icmp .ge 21, [30]), (12, .aload_n 0, []), (13, .getfield 9, [4, 0, 2, 0]), (16, .iload_n 2, []), (17, .iaload, []), (18, .ifCond .le 6, [24]), (21, .iinc 1 1, [])], 24),
  (24, [0, 1, 2], [(24, .iinc 2 1, []), (27, .goto (-23), [4])], 30),
  (30, [1], [(30, .iload_n 1, []), (31, .ireturn, [0])], 32)]
def rX4_countBelieved : xRow := ((yX4_countBelieved, cX4_countBelieved, 3, (some .int), 0, 0), bX4_countBelieved, pX4)
def bX4_likeliestShell : xBl := [
  (0, [0], [(0, .iconst 0, []), (1, .istore_n 1, []), (2, .iconst 1, []), (3, .istore_n 2, [])], 4),
  (4, [0, 1, 2], [(4, .iload_n 2, []), (5, .aload_n 0, []), (6, .getfield 15, [4, 1, 0, 0]), (9, .iconst 1, []), (10, .isub, []), (11, .if_icmp .ge 26, [37]), (14, .aload_n 0, []), (15, .getfield 9, [4, 0, 2, 0]), (18, .iload_n 2, []), (19, .iaload, []), (20, .aload_n 0, []), (21, .getfield 9, [4, 0, 2, 0]), (24, .iload_n 1, []), (25, .iaload, []), (26, .if_icmp .le 5, [31]), (29, .iload_n 2, []), (30, .istore_n 1, [])], 31),
  (31, [0, 1, 2], [(31, .iinc 2 1, []), (34, .goto (-30), [4])], 37),
  (37, [1], [(37, .iload_n 1, []), (38, .ireturn, [0])], 39)]
def rX4_likeliestShell : xRow := ((yX4_likeliestShell, cX4_likeliestShell, 3, (some .int), 0, 0), bX4_likeliestShell, pX4)
def bX4_placeOfRank : xBl := [
  (0, [0, 1], [(0, .iconst 0, []), (1, .istore_n 2, [])], 2),
  (2, [0, 1, 2], [(2, .iload_n 2, []), (3, .aload_n 0, []), (4, .getfield 15, [4, 1, 0, 0]), (7, .if_icmp .ge 29, [36]), (10, .aload_n 0, []), (11, .getfield 9, [4, 0, 2, 0]), (14, .iload_n 2, []), (15, .iaload, []), (16, .ifCond .le 14, [30]), (19, .aload_n 0, []), (20, .iload_n 2, []), (21, .invokevirtual 53, [1, 57, 2, 0, 0, 0, 5]), (24, .iload_n 1, []), (25, .if_icmp .ne 5, [30]), (28, .iload_n 2, []), (29, .ireturn, [0])], 30),
  (30, [0, 1, 2], [(30, .iinc 2 1, []), (33, .goto (-31), [2])], 36),
  (36, [], [(36, .iconst (-1), []), (37, .ireturn, [0])], 38)]
def rX4_placeOfRank : xRow := ((yX4_placeOfRank, cX4_placeOfRank, 3, (some .int), 0, 0), bX4_placeOfRank, pX4)
def bX4_countAheadOf : xBl := [
  (0, [0, 1], [(0, .iconst 0, []), (1, .istore_n 2, []), (2, .iconst 0, []), (3, .istore_n 3, [])], 4),
  (4, [0, 1, 2, 3], [(4, .iload_n 3, []), (5, .aload_n 0, []), (6, .getfield 15, [4, 1, 0, 0]), (9, .if_icmp .ge 47, [56]), (12, .aload_n 0, []), (13, .getfield 9, [4, 0, 2, 0]), (16, .iload_n 3, []), (17, .iaload, []), (18, .aload_n 0, []), (19, .getfield 9, [4, 0, 2, 0]), (22, .iload_n 1, []), (23, .iaload, []), (24, .if_icmp .gt 23, [47]), (27, .aload_n 0, []), (28, .getfield 9, [4, 0, 2, 0]), (31, .iload_n 3, []), (32, .iaload, []), (33, .aload_n 0, []), (34, .getfield 9, [4, 0, 2, 0]), (37, .iload_n 1, []), (38, .iaload, []), (39, .if_icmp .ne 11, [50]), (42, .iload_n 3, []), (43, .iload_n 1, []), (44, .if_icmp .ge 6, [50])], 47),
  (47, [0, 1, 2, 3], [(47, .iinc 2 1, [])], 50),
  (50, [0, 1, 2, 3], [(50, .iinc 3 1, []), (53, .goto (-49), [4])], 56),
  (56, [2], [(56, .iload_n 2, []), (57, .ireturn, [0])], 58)]
def rX4_countAheadOf : xRow := ((yX4_countAheadOf, cX4_countAheadOf, 4, (some .int), 0, 0), bX4_countAheadOf, pX4)
def bX4_followMove : xBl := [
  (0, [0, 1, 2, 3, 4, 5], [(0, .aload_n 1, []), (1, .iload_n 3, []), (2, .invokevirtual 57, [1, 73, 2, 0, 0, 0, 6]), (5, .aload_n 1, []), (6, .iload 4, []), (8, .invokevirtual 57, [1, 73, 2, 0, 0, 0, 6]), (11, .if_icmp .eq 7, [18]), (14, .iconst 1, []), (15, .goto 4, [19])], 18),
  (18, [0, 1, 2, 3, 4, 5], [(18, .iconst 0, [])], 19),
  (19, [0, 1, 2, 3, 4, 5], [(19, .istore 6, []), (21, .iload 6, []), (23, .ifCond .eq 17, [40]), (26, .iload_n 2, []), (27, .ifCond .eq 13, [40]), (30, .aload_n 0, []), (31, .iload_n 3, []), (32, .iload 4, []), (34, .invokevirtual 63, [1, 60, 3, 9, 0, 0, 5]), (37, .goto 28, [65])], 40),
  (40, [0, 1, 3, 4, 5, 6], [(40, .iload 5, []), (42, .ifCond .eq 11, [53]), (45, .aload_n 0, []), (46, .aload_n 1, []), (47, .invokevirtual 67, [1, 62, 2, 9, 0, 0, 5]), (50, .goto 15, [65])], 53),
  (53, [0, 3, 4, 6], [(53, .iload 6, []), (55, .ifCond .ne 10, [65]), (58, .aload_n 0, []), (59, .iload_n 3, []), (60, .iload 4, []), (62, .invokevirtual 71, [1, 61, 3, 9, 0, 0, 5])], 65),
  (65, [0], [(65, .aload_n 0, []), (66, .invokevirtual 74, [1, 64, 1, 9, 0, 0, 5]), (69, .return_, [])], 70)]
def rX4_followMove : xRow := ((yX4_followMove, cX4_followMove, 7, none, 0, 0), bX4_followMove, pX4)
def bX4_followStill : xBl := [
  (0, [0, 1, 2], [(0, .iload_n 2, []), (1, .ifCond .eq 8, [9]), (4, .aload_n 0, []), (5, .aload_n 1, []), (6, .invokevirtual 67, [1, 62, 2, 9, 0, 0, 5])], 9),
  (9, [0], [(9, .aload_n 0, []), (10, .invokevirtual 74, [1, 64, 1, 9, 0, 0, 5]), (13, .return_, [])], 14)]
def rX4_followStill : xRow := ((yX4_followStill, cX4_followStill, 3, none, 0, 0), bX4_followStill, pX4)
def bX4_exchange : xBl := [
  (0, [0, 1, 2], [(0, .aload_n 0, []), (1, .getfield 9, [4, 0, 2, 0]), (4, .iload_n 1, []), (5, .iaload, []), (6, .istore_n 3, []), (7, .aload_n 0, []), (8, .getfield 9, [4, 0, 2, 0]), (11, .iload_n 1, []), (12, .aload_n 0, []), (13, .getfield 9, [4, 0, 2, 0]), (16, .iload_n 2, []), (17, .iaload, []), (18, .iastore, []), (19, .aload_n 0, []), (20, .getfield 9, [4, 0, 2, 0]), (23, .iload_n 2, []), (24, .iload_n 3, []), (25, .iastore, []), (26, .return_, [])], 27)]
def rX4_exchange : xRow := ((yX4_exchange, cX4_exchange, 4, none, 0, 0), bX4_exchange, pX4)
def bX4_mix : xBl := [
  (0, [0, 1, 2], [(0, .aload_n 0, []), (1, .getfield 9, [4, 0, 2, 0]), (4, .iload_n 1, []), (5, .iaload, []), (6, .istore_n 3, []), (7, .aload_n 0, []), (8, .getfield 9, [4, 0, 2, 0]), (11, .iload_n 2, []), (12, .iaload, []), (13, .istore 4, []), (15, .iconst 0, []), (16, .istore 5, [])], 18),
  (18, [0, 1, 2, 3, 4, 5], [(18, .iload 5, []), (20, .aload_n 0, []), (21, .getfield 15, [4, 1, 0, 0]), (24, .if_icmp .ge 21, [45]), (27, .aload_n 0, []), (28, .getfield 9, [4, 0, 2, 0]), (31, .iload 5, []), (33, .dup2, []), (34, .iaload, []), (35, .bipush 100, []), (37, .imul, []), (38, .iastore, []), (39, .iinc 5 1, []), (42, .goto (-24), [18])], 45),
  (45, [0, 1, 2, 3, 4], [(45, .aload_n 0, []), (46, .getfield 9, [4, 0, 2, 0]), (49, .iload_n 1, []), (50, .iload_n 3, []), (51, .bipush 100, []), (53, .aload_n 0, []), (54, .getfield 19, [4, 2, 0, 0]), (57, .isub, []), (58, .imul, []), (59, .iload 4, []), (61, .aload_n 0, []), (62, .getfield 19, [4, 2, 0, 0]), (65, .imul, []), (66, .iadd, []), (67, .iastore, []), (68, .aload_n 0, []), (69, .getfield 9, [4, 0, 2, 0]), (72, .iload_n 2, []), (73, .iload 4, []), (75, .bipush 100, []), (77, .aload_n 0, []), (78, .getfield 19, [4, 2, 0, 0]), (81, .isub, []), (82, .imul, []), (83, .iload_n 3, []), (84, .aload_n 0, []), (85, .getfield 19, [4, 2, 0, 0]), (88, .imul, []), (89, .iadd, []), (90, .iastore, []), (91, .return_, [])], 92)]
def rX4_mix : xRow := ((yX4_mix, cX4_mix, 6, none, 0, 0), bX4_mix, pX4)
def bX4_wonder : xBl := [
  (0, [0, 1], [(0, .aload_n 0, []), (1, .getfield 15, [4, 1, 0, 0]), (4, .iconst 1, []), (5, .isub, []), (6, .istore_n 2, []), (7, .iconst 0, []), (8, .istore_n 3, []), (9, .iconst 0, []), (10, .istore 4, []), (12, .iconst 0, []), (13, .istore 5, []), (15, .iconst 0, []), (16, .istore 6, [])], 18),
  (18, [0, 1, 2, 3, 4, 5, 6], [(18, .iload 6, []), (20, .iload_n 2, []), (21, .if_icmp .ge 45, [66]), (24, .iload 5, []), (26, .aload_n 0, []), (27, .getfield 9, [4, 0, 2, 0]), (30, .iload 6, []), (32, .iaload, []), (33, .iadd, []), (34, .istore 5, []), (36, .aload_n 1, []), (37, .iload 6, []), (39, .invokevirtual 57, [1, 73, 2, 0, 0, 0, 6]), (42, .ifCond .eq 18, [60]), (45, .iinc 3 1, []), (48, .iload 4, []), (50, .aload_n 0, []), (51, .getfield 9, [4, 0, 2, 0]), (54, .iload 6, []), (56, .iaload, []), (57, .iadd, []), (58, .istore 4, [])], 60),
  (60, [0, 1, 2, 3, 4, 5, 6], [(60, .iinc 6 1, []), (63, .goto (-45), [18])], 66),
  (66, [0, 1, 2, 3, 4, 5], [(66, .iload_n 2, []), (67, .iload_n 3, []), (68, .isub, []), (69, .istore 6, []), (71, .iload_n 3, []), (72, .invokestatic 77, [0, 63, 1, 0, 0, 0, 0]), (75, .iload 6, []), (77, .invokestatic 77, [0, 63, 1, 0, 0, 0, 0]), (80, .iadd, []), (81, .istore 7, []), (83, .aload_n 0, []), (84, .getfield 9, [4, 0, 2, 0]), (87, .iload_n 2, []), (88, .iaload, []), (89, .istore 8, []), (91, .iconst 0, []), (92, .istore 9, [])], 94),
  (94, [0, 1, 2, 3, 4, 5, 6, 7, 8, 9], [(94, .iload 9, []), (96, .iload_n 2, []), (97, .if_icmp .ge 113, [210]), (100, .aload_n 1, []), (101, .iload 9, []), (103, .invokevirtual 57, [1, 73, 2, 0, 0, 0, 6]), (106, .istore 10, []), (108, .iload 10, []), (110, .ifCond .eq 7, [117]), (113, .iload_n 3, []), (114, .goto 5, [119])], 117),
  (117, [0, 1, 2, 3, 4, 5, 6, 7, 8, 9, 10], [(117, .iload 6, [])], 119),
  (119, [0, 1, 2, 3, 4, 5, 6, 7, 8, 9, 10], [(119, .iconst 1, []), (120, .isub, []), (121, .istore 11, []), (123, .iload 10, []), (125, .ifCond .eq 8, [133]), (128, .iload 4, []), (130, .goto 8, [138])], 133),
  (133, [0, 1, 2, 3, 4, 5, 6, 7, 8, 9, 11], [(133, .iload 5, []), (135, .iload 4, []), (137, .isub, [])], 138),
  (138, [0, 1, 2, 3, 4, 5, 6, 7, 8, 9, 11], [(138, .aload_n 0, []), (139, .getfield 9, [4, 0, 2, 0]), (142, .iload 9, []), (144, .iaload, []), (145, .isub, []), (146, .istore 12, []), (148, .iload 7, []), (150, .iload 11, []), (152, .isub, []), (153, .aload_n 0, []), (154, .getfield 22, [4, 3, 0, 0]), (157, .iadd, []), (158, .aload_n 0, []), (159, .getfield 25, [4, 4, 0, 0]), (162, .iload_n 2, []), (163, .iconst 1, []), (164, .isub, []), (165, .imul, []), (166, .iadd, []), (167, .aload_n 0, []), (168, .getfield 25, [4, 4, 0, 0]), (171, .iload_n 2, []), (172, .imul, []), (173, .iadd, []), (174, .istore 13, []), (176, .aload_n 0, []), (177, .getfield 9, [4, 0, 2, 0]), (180, .iload 9, []), (182, .aload_n 0, []), (183, .getfield 9, [4, 0, 2, 0]), (186, .iload 9, []), (188, .iaload, []), (189, .iload 13, []), (191, .imul, []), (192, .iload 12, []), (194, .iadd, []), (195, .iload 8, []), (197, .aload_n 0, []), (198, .getfield 25, [4, 4, 0, 0]), (201, .imul, []), (202, .iadd, []), (203, .iastore, []), (204, .iinc 9 1, []), (207, .goto (-113), [94])], 210),
  (210, [0, 2, 5, 7, 8], [(210, .aload_n 0, []), (211, .getfield 9, [4, 0, 2, 0]), (214, .iload_n 2, []), (215, .iload 8, []), (217, .iload 7, []), (219, .aload_n 0, []), (220, .getfield 22, [4, 3, 0, 0]), (223, .iadd, []), (224, .aload_n 0, []), (225, .getfield 25, [4, 4, 0, 0]), (228, .iload_n 2, []), (229, .imul, []), (230, .iadd, []), (231, .imul, []), (232, .iload 5, []), (234, .aload_n 0, []), (235, .getfield 25, [4, 4, 0, 0]), (238, .imul, []), (239, .iadd, []), (240, .iastore, []), (241, .return_, [])], 242)]
def rX4_wonder : xRow := ((yX4_wonder, cX4_wonder, 14, none, 0, 0), bX4_wonder, pX4)
def bX4_pairsOf : xBl := [
  (0, [0], [(0, .iload_n 0, []), (1, .iload_n 0, []), (2, .iconst 1, []), (3, .isub, []), (4, .imul, []), (5, .iconst 2, []), (6, .idiv, []), (7, .ireturn, [0])], 8)]
def rX4_pairsOf : xRow := ((yX4_pairsOf, cX4_pairsOf, 1, (some .int), 0, 0), bX4_pairsOf, pX4)
def bX4_settle : xBl := [
  (0, [0], [(0, .aload_n 0, []), (1, .invokevirtual 44, [1, 66, 1, 9, 0, 0, 5]), (4, .iconst 0, []), (5, .istore_n 1, [])], 6),
  (6, [0, 1], [(6, .iload_n 1, []), (7, .bipush 32, []), (9, .if_icmp .ge 22, [31]), (12, .aload_n 0, []), (13, .invokevirtual 80, [1, 53, 1, 0, 0, 0, 5]), (16, .ldc 84, [0, 1000000]), (18, .if_icmp .le 13, [31]), (21, .aload_n 0, []), (22, .invokevirtual 85, [1, 65, 1, 9, 0, 0, 5]), (25, .iinc 1 1, []), (28, .goto (-22), [6])], 31),
  (31, [], [(31, .return_, [])], 32)]
def rX4_settle : xRow := ((yX4_settle, cX4_settle, 2, none, 0, 0), bX4_settle, pX4)
def bX4_halve : xBl := [
  (0, [0], [(0, .iconst 0, []), (1, .istore_n 1, [])], 2),
  (2, [0, 1], [(2, .iload_n 1, []), (3, .aload_n 0, []), (4, .getfield 15, [4, 1, 0, 0]), (7, .if_icmp .ge 25, [32]), (10, .aload_n 0, []), (11, .getfield 9, [4, 0, 2, 0]), (14, .iload_n 1, []), (15, .aload_n 0, []), (16, .getfield 9, [4, 0, 2, 0]), (19, .iload_n 1, []), (20, .iaload, []), (21, .iconst 1, []), (22, .iadd, []), (23, .iconst 2, []), (24, .idiv, []), (25, .iastore, []), (26, .iinc 1 1, []), (29, .goto (-27), [2])], 32),
  (32, [], [(32, .return_, [])], 33)]
def rX4_halve : xRow := ((yX4_halve, cX4_halve, 2, none, 0, 0), bX4_halve, pX4)
def bX4_divideByCommonDivisor : xBl := [
  (0, [0], [(0, .iconst 0, []), (1, .istore_n 1, []), (2, .iconst 0, []), (3, .istore_n 2, [])], 4),
  (4, [0, 1, 2], [(4, .iload_n 2, []), (5, .aload_n 0, []), (6, .getfield 15, [4, 1, 0, 0]), (9, .if_icmp .ge 20, [29]), (12, .aload_n 0, []), (13, .getfield 9, [4, 0, 2, 0]), (16, .iload_n 2, []), (17, .iaload, []), (18, .iload_n 1, []), (19, .invokestatic 88, [0, 67, 2, 0, 0, 0, 0]), (22, .istore_n 1, []), (23, .iinc 2 1, []), (26, .goto (-22), [4])], 29),
  (29, [0, 1], [(29, .iconst 0, []), (30, .istore_n 2, [])], 31),
  (31, [0, 1, 2], [(31, .iload_n 2, []), (32, .aload_n 0, []), (33, .getfield 15, [4, 1, 0, 0]), (36, .if_icmp .ge 24, [60]), (39, .iload_n 1, []), (40, .iconst 1, []), (41, .if_icmp .le 19, [60]), (44, .aload_n 0, []), (45, .getfield 9, [4, 0, 2, 0]), (48, .iload_n 2, []), (49, .dup2, []), (50, .iaload, []), (51, .iload_n 1, []), (52, .idiv, []), (53, .iastore, []), (54, .iinc 2 1, []), (57, .goto (-26), [31])], 60),
  (60, [], [(60, .return_, [])], 61)]
def rX4_divideByCommonDivisor : xRow := ((yX4_divideByCommonDivisor, cX4_divideByCommonDivisor, 3, none, 0, 0), bX4_divideByCommonDivisor, pX4)
def bX4_commonDivisor : xBl := [
  (0, [0, 1], [(0, .iload_n 0, []), (1, .istore_n 2, []), (2, .iload_n 1, []), (3, .istore_n 3, []), (4, .iconst 0, []), (5, .istore 4, [])], 7),
  (7, [2, 3, 4], [(7, .iload 4, []), (9, .bipush 64, []), (11, .if_icmp .ge 23, [34]), (14, .iload_n 3, []), (15, .ifCond .eq 19, [34]), (18, .iload_n 2, []), (19, .iload_n 3, []), (20, .irem, []), (21, .istore 5, []), (23, .iload_n 3, []), (24, .istore_n 2, []), (25, .iload 5, []), (27, .istore_n 3, []), (28, .iinc 4 1, []), (31, .goto (-24), [7])], 34),
  (34, [2], [(34, .iload_n 2, []), (35, .ireturn, [0])], 36)]
def rX4_commonDivisor : xRow := ((yX4_commonDivisor, cX4_commonDivisor, 6, (some .int), 0, 0), bX4_commonDivisor, pX4)
end
section
/-! THE TABLE (X5, X6, X7, X9): blocks of the methods as the class file has them, written by wip/whole/gentab.py. -/
def pX5 : xPool := [(0, 9, [5, 3, 2, 2]), (0, 15, [5, 4, 2, 2]), (0, 18, [5, 0, 0, 0]), (0, 22, [5, 1, 0, 0]), (0, 25, [5, 2, 0, 0]), (0, 9, [5, 3, 2, 0]), (0, 15, [5, 4, 2, 0]), (2, 34, [1, 71, 2, 0, 0, 0, 6]), (2, 38, [1, 73, 2, 0, 0, 0, 6]), (2, 41, [1, 74, 3, 9, 0, 0, 6]), (2, 45, [0, 77, 3, 0, 0, 0, 0])]
def bX5_init : xBl := [
  (0, [0], [(0, .aload_n 0, []), (1, .invokespecial 3, [0]), (4, .aload_n 0, []), (5, .bipush 8, []), (7, .newarray .int, [0]), (9, .putfield 9, [5, 3, 2, 2]), (12, .aload_n 0, []), (13, .bipush 8, []), (15, .newarray .int, [0]), (17, .putfield 15, [5, 4, 2, 2]), (20, .return_, [])], 21)]
def rX5_init : xRow := ((yX5_init, cX5_init, 1, none, 2, 16), bX5_init, pX5)
def bX5_reset : xBl := [
  (0, [0, 1], [(0, .aload_n 0, []), (1, .iload_n 1, []), (2, .putfield 18, [5, 0, 0, 0]), (5, .aload_n 0, []), (6, .iconst 0, []), (7, .putfield 22, [5, 1, 0, 0]), (10, .aload_n 0, []), (11, .iconst 0, []), (12, .putfield 25, [5, 2, 0, 0]), (15, .iconst 0, []), (16, .istore_n 2, [])], 17),
  (17, [0, 2], [(17, .iload_n 2, []), (18, .aload_n 0, []), (19, .getfield 9, [5, 3, 2, 0]), (22, .arraylength, []), (23, .if_icmp .ge 23, [46]), (26, .aload_n 0, []), (27, .getfield 9, [5, 3, 2, 0]), (30, .iload_n 2, []), (31, .iload_n 2, []), (32, .iastore, []), (33, .aload_n 0, []), (34, .getfield 15, [5, 4, 2, 0]), (37, .iload_n 2, []), (38, .iconst 0, []), (39, .iastore, []), (40, .iinc 2 1, []), (43, .goto (-26), [17])], 46),
  (46, [], [(46, .return_, [])], 47)]
def rX5_reset : xRow := ((yX5_reset, cX5_reset, 3, none, 0, 0), bX5_reset, pX5)
def bX5_copyFrom : xBl := [
  (0, [0, 1], [(0, .aload_n 0, []), (1, .aload_n 1, []), (2, .getfield 18, [5, 0, 0, 0]), (5, .putfield 18, [5, 0, 0, 0]), (8, .aload_n 0, []), (9, .aload_n 1, []), (10, .getfield 22, [5, 1, 0, 0]), (13, .putfield 22, [5, 1, 0, 0]), (16, .aload_n 0, []), (17, .aload_n 1, []), (18, .getfield 25, [5, 2, 0, 0]), (21, .putfield 25, [5, 2, 0, 0]), (24, .aload_n 1, []), (25, .getfield 9, [5, 3, 2, 0]), (28, .iconst 0, []), (29, .aload_n 0, []), (30, .getfield 9, [5, 3, 2, 0]), (33, .iconst 0, []), (34, .bipush 8, []), (36, .invokestatic 28, [0, 6]), (39, .aload_n 1, []), (40, .getfield 15, [5, 4, 2, 0]), (43, .iconst 0, []), (44, .aload_n 0, []), (45, .getfield 15, [5, 4, 2, 0]), (48, .iconst 0, []), (49, .bipush 8, []), (51, .invokestatic 28, [0, 6]), (54, .return_, [])], 55)]
def rX5_copyFrom : xRow := ((yX5_copyFrom, cX5_copyFrom, 2, none, 0, 0), bX5_copyFrom, pX5)
def bX5_hasPlace : xBl := [
  (0, [0, 1], [(0, .iload_n 1, []), (1, .ifCond .lt 15, [16]), (4, .iload_n 1, []), (5, .aload_n 0, []), (6, .getfield 18, [5, 0, 0, 0]), (9, .if_icmp .ge 7, [16]), (12, .iconst 1, []), (13, .goto 4, [17])], 16),
  (16, [], [(16, .iconst 0, [])], 17),
  (17, [], [(17, .ireturn, [5])], 18)]
def rX5_hasPlace : xRow := ((yX5_hasPlace, cX5_hasPlace, 2, (some .boolean), 0, 0), bX5_hasPlace, pX5)
def bX5_hasTwoPlaces : xBl := [
  (0, [0, 1, 2], [(0, .iload_n 1, []), (1, .iload_n 2, []), (2, .if_icmp .eq 23, [25]), (5, .aload_n 0, []), (6, .iload_n 1, []), (7, .invokevirtual 34, [1, 71, 2, 0, 0, 0, 6]), (10, .ifCond .eq 15, [25]), (13, .aload_n 0, []), (14, .iload_n 2, []), (15, .invokevirtual 34, [1, 71, 2, 0, 0, 0, 6]), (18, .ifCond .eq 7, [25]), (21, .iconst 1, []), (22, .goto 4, [26])], 25),
  (25, [], [(25, .iconst 0, [])], 26),
  (26, [], [(26, .ireturn, [5])], 27)]
def rX5_hasTwoPlaces : xRow := ((yX5_hasTwoPlaces, cX5_hasTwoPlaces, 3, (some .boolean), 0, 0), bX5_hasTwoPlaces, pX5)
def bX5_isScratched : xBl := [
  (0, [0, 1], [(0, .aload_n 0, []), (1, .iload_n 1, []), (2, .invokevirtual 34, [1, 71, 2, 0, 0, 0, 6]), (5, .ifCond .eq 19, [24]), (8, .aload_n 0, []), (9, .getfield 25, [5, 2, 0, 0]), (12, .iload_n 1, []), (13, .ishr, []), (14, .iconst 1, []), (15, .iand, []), (16, .iconst 1, []), (17, .if_icmp .ne 7, [24]), (20, .iconst 1, []), (21, .goto 4, [25])], 24),
  (24, [], [(24, .iconst 0, [])], 25),
  (25, [], [(25, .ireturn, [5])], 26)]
def rX5_isScratched : xRow := ((yX5_isScratched, cX5_isScratched, 2, (some .boolean), 0, 0), bX5_isScratched, pX5)
def bX5_setScratched : xBl := [
  (0, [0, 1, 2], [(0, .aload_n 0, []), (1, .iload_n 1, []), (2, .invokevirtual 34, [1, 71, 2, 0, 0, 0, 6]), (5, .ifCond .eq 32, [37]), (8, .aload_n 0, []), (9, .iload_n 2, []), (10, .ifCond .eq 14, [24]), (13, .aload_n 0, []), (14, .getfield 25, [5, 2, 0, 0]), (17, .iconst 1, []), (18, .iload_n 1, []), (19, .ishl, []), (20, .ior, []), (21, .goto 13, [34])], 24),
  (24, [0, 1], [(24, .aload_n 0, []), (25, .getfield 25, [5, 2, 0, 0]), (28, .iconst 1, []), (29, .iload_n 1, []), (30, .ishl, []), (31, .iconst (-1), []), (32, .ixor, []), (33, .iand, [])], 34),
  (34, [], [(34, .putfield 25, [5, 2, 0, 0])], 37),
  (37, [], [(37, .return_, [])], 38)]
def rX5_setScratched : xRow := ((yX5_setScratched, cX5_setScratched, 3, none, 0, 0), bX5_setScratched, pX5)
def bX5_number : xBl := [
  (0, [0, 1, 2], [(0, .iload_n 2, []), (1, .tableswitch 55 0 2 #[27, 34, 48], [56, 0, 28, 35, 49])], 28),
  (28, [0, 1], [(28, .aload_n 0, []), (29, .getfield 9, [5, 3, 2, 0]), (32, .iload_n 1, []), (33, .iaload, []), (34, .ireturn, [0])], 35),
  (35, [0, 1], [(35, .aload_n 0, []), (36, .iload_n 1, []), (37, .invokevirtual 38, [1, 73, 2, 0, 0, 0, 6]), (40, .ifCond .eq 7, [47]), (43, .iconst 1, []), (44, .goto 4, [48])], 47),
  (47, [], [(47, .iconst 0, [])], 48),
  (48, [], [(48, .ireturn, [0])], 49),
  (49, [0, 1], [(49, .aload_n 0, []), (50, .getfield 15, [5, 4, 2, 0]), (53, .iload_n 1, []), (54, .iaload, []), (55, .ireturn, [0])], 56),
  (56, [0, 1], [(56, .aload_n 0, []), (57, .getfield 22, [5, 1, 0, 0]), (60, .iload_n 1, []), (61, .if_icmp .ne 7, [68]), (64, .iconst 1, []), (65, .goto 4, [69])], 68),
  (68, [], [(68, .iconst 0, [])], 69),
  (69, [], [(69, .ireturn, [0])], 70)]
def rX5_number : xRow := ((yX5_number, cX5_number, 3, (some .int), 0, 0), bX5_number, pX5)
def bX5_exchange : xBl := [
  (0, [0, 1, 2], [(0, .aload_n 0, []), (1, .getfield 9, [5, 3, 2, 0]), (4, .iload_n 1, []), (5, .iaload, []), (6, .istore_n 3, []), (7, .aload_n 0, []), (8, .getfield 9, [5, 3, 2, 0]), (11, .iload_n 1, []), (12, .aload_n 0, []), (13, .getfield 9, [5, 3, 2, 0]), (16, .iload_n 2, []), (17, .iaload, []), (18, .iastore, []), (19, .aload_n 0, []), (20, .getfield 9, [5, 3, 2, 0]), (23, .iload_n 2, []), (24, .iload_n 3, []), (25, .iastore, []), (26, .aload_n 0, []), (27, .getfield 15, [5, 4, 2, 0]), (30, .iload_n 1, []), (31, .iaload, []), (32, .istore 4, []), (34, .aload_n 0, []), (35, .getfield 15, [5, 4, 2, 0]), (38, .iload_n 1, []), (39, .aload_n 0, []), (40, .getfield 15, [5, 4, 2, 0]), (43, .iload_n 2, []), (44, .iaload, []), (45, .iconst 1, []), (46, .iadd, []), (47, .iastore, []), (48, .aload_n 0, []), (49, .getfield 15, [5, 4, 2, 0]), (52, .iload_n 2, []), (53, .iload 4, []), (55, .iconst 1, []), (56, .iadd, []), (57, .iastore, []), (58, .aload_n 0, []), (59, .iload_n 1, []), (60, .invokevirtual 38, [1, 73, 2, 0, 0, 0, 6]), (63, .istore 5, []), (65, .aload_n 0, []), (66, .iload_n 1, []), (67, .aload_n 0, []), (68, .iload_n 2, []), (69, .invokevirtual 38, [1, 73, 2, 0, 0, 0, 6]), (72, .invokevirtual 41, [1, 74, 3, 9, 0, 0, 6]), (75, .aload_n 0, []), (76, .iload_n 2, []), (77, .iload 5, []), (79, .invokevirtual 41, [1, 74, 3, 9, 0, 0, 6]), (82, .aload_n 0, []), (83, .aload_n 0, []), (84, .getfield 22, [5, 1, 0, 0]), (87, .iload_n 1, []), (88, .iload_n 2, []), (89, .invokestatic 45, [0, 77, 3, 0, 0, 0, 0]), (92, .putfield 22, [5, 1, 0, 0]), (95, .return_, [])], 96)]
def rX5_exchange : xRow := ((yX5_exchange, cX5_exchange, 6, none, 0, 0), bX5_exchange, pX5)
def bX5_placeBehind : xBl := [
  (0, [0, 1, 2], [(0, .iload_n 0, []), (1, .iload_n 1, []), (2, .if_icmp .ne 5, [7]), (5, .iload_n 2, []), (6, .ireturn, [0])], 7),
  (7, [0, 1, 2], [(7, .iload_n 0, []), (8, .iload_n 2, []), (9, .if_icmp .ne 7, [16]), (12, .iload_n 1, []), (13, .goto 4, [17])], 16),
  (16, [0], [(16, .iload_n 0, [])], 17),
  (17, [], [(17, .ireturn, [0])], 18)]
def rX5_placeBehind : xRow := ((yX5_placeBehind, cX5_placeBehind, 3, (some .int), 0, 0), bX5_placeBehind, pX5)
def bX5_swapsToFirst : xBl := [
  (0, [0], [(0, .iconst 0, []), (1, .istore_n 1, []), (2, .iconst 0, []), (3, .istore_n 2, []), (4, .iconst 0, []), (5, .istore_n 3, [])], 6),
  (6, [0, 1, 2, 3], [(6, .iload_n 3, []), (7, .aload_n 0, []), (8, .getfield 18, [5, 0, 0, 0]), (11, .if_icmp .ge 66, [77]), (14, .iload_n 1, []), (15, .iload_n 3, []), (16, .ishr, []), (17, .iconst 1, []), (18, .iand, []), (19, .ifCond .ne 6, [25]), (22, .iinc 2 1, [])], 25),
  (25, [0, 1, 2, 3], [(25, .iload_n 3, []), (26, .istore 4, []), (28, .iconst 0, []), (29, .istore 5, [])], 31),
  (31, [0, 1, 2, 3, 4, 5], [(31, .iload 5, []), (33, .aload_n 0, []), (34, .getfield 18, [5, 0, 0, 0]), (37, .if_icmp .ge 34, [71]), (40, .iload_n 1, []), (41, .iload 4, []), (43, .ishr, []), (44, .iconst 1, []), (45, .iand, []), (46, .ifCond .ne 25, [71]), (49, .iload_n 1, []), (50, .iconst 1, []), (51, .iload 4, []), (53, .ishl, []), (54, .ior, []), (55, .istore_n 1, []), (56, .aload_n 0, []), (57, .getfield 9, [5, 3, 2, 0]), (60, .iload 4, []), (62, .iaload, []), (63, .istore 4, []), (65, .iinc 5 1, []), (68, .goto (-37), [31])], 71),
  (71, [0, 1, 2, 3], [(71, .iinc 3 1, []), (74, .goto (-68), [6])], 77),
  (77, [0, 2], [(77, .aload_n 0, []), (78, .getfield 18, [5, 0, 0, 0]), (81, .iload_n 2, []), (82, .isub, []), (83, .ireturn, [0])], 84)]
def rX5_swapsToFirst : xRow := ((yX5_swapsToFirst, cX5_swapsToFirst, 6, (some .int), 0, 0), bX5_swapsToFirst, pX5)
def pX6 : xPool := [(4, 11, [4]), (0, 13, [6, 0, 2, 2]), (0, 17, [6, 1, 2, 2]), (0, 21, [6, 2, 2, 2]), (0, 24, [6, 3, 2, 2]), (0, 27, [6, 4, 0, 0]), (0, 31, [6, 5, 0, 0]), (2, 34, [1, 40, 1, 2, 0, 0, 4]), (2, 40, [0, 82, 1, 0, 0, 0, 0]), (2, 44, [1, 46, 2, 0, 0, 0, 4]), (1, 48, [0, 28]), (2, 52, [1, 42, 2, 0, 0, 0, 4]), (2, 56, [1, 84, 3, 0, 0, 0, 7]), (2, 60, [1, 83, 2, 0, 0, 0, 7]), (1, 64, [0, 3]), (2, 67, [1, 44, 2, 0, 0, 0, 4]), (1, 70, [0, 22]), (1, 73, [0, 23]), (1, 76, [0, 25]), (1, 79, [0, 26]), (1, 82, [0, 27]), (1, 85, [0, 24]), (2, 88, [1, 43, 1, 9, 0, 0, 4]), (2, 91, [1, 45, 3, 0, 0, 0, 4]), (2, 95, [1, 85, 4, 9, 0, 0, 7]), (1, 99, [0, 8]), (2, 102, [1, 81, 3, 0, 0, 0, 7]), (1, 105, [0, 9]), (0, 24, [6, 3, 2, 0]), (0, 13, [6, 0, 2, 0]), (0, 17, [6, 1, 2, 0]), (0, 21, [6, 2, 2, 0]), (2, 108, [1, 87, 4, 0, 0, 0, 7]), (2, 112, [1, 88, 3, 0, 0, 0, 7]), (2, 116, [1, 86, 5, 0, 0, 0, 7]), (2, 120, [0, 89, 4, 0, 0, 0, 0]), (2, 124, [1, 25, 4, 0, 0, 0, 3]), (0, 130, [2, 0, 2, 1]), (0, 134, [5, 1, 0, 1]), (2, 139, [1, 26, 2, 0, 0, 0, 3]), (0, 142, [5, 0, 0, 1]), (2, 145, [1, 28, 2, 0, 0, 0, 3]), (2, 148, [1, 72, 3, 0, 0, 0, 6]), (2, 152, [1, 71, 2, 0, 0, 0, 6]), (2, 155, [1, 23, 2, 0, 0, 0, 3]), (2, 158, [1, 24, 1, 0, 0, 0, 3])]
def bX6_init : xBl := [
  (0, [0], [(0, .aload_n 0, []), (1, .invokespecial 3, [0]), (4, .aload_n 0, []), (5, .bipush 60, []), (7, .anewarray 11, [4]), (10, .putfield 13, [6, 0, 2, 2]), (13, .aload_n 0, []), (14, .bipush 60, []), (16, .newarray .int, [0]), (18, .putfield 17, [6, 1, 2, 2]), (21, .aload_n 0, []), (22, .bipush 60, []), (24, .newarray .int, [0]), (26, .putfield 21, [6, 2, 2, 2]), (29, .aload_n 0, []), (30, .bipush 60, []), (32, .newarray .int, [0]), (34, .putfield 24, [6, 3, 2, 2]), (37, .return_, [])], 38)]
def rX6_init : xRow := ((yX6_init, cX6_init, 1, none, 4, 240), bX6_init, pX6)
def bX6_clear : xBl := [
  (0, [0], [(0, .aload_n 0, []), (1, .iconst 0, []), (2, .putfield 27, [6, 4, 0, 0]), (5, .aload_n 0, []), (6, .iconst 0, []), (7, .putfield 31, [6, 5, 0, 0]), (10, .return_, [])], 11)]
def rX6_clear : xRow := ((yX6_clear, cX6_clear, 1, none, 0, 0), bX6_clear, pX6)
def bX6_readCommands : xBl := [
  (0, [0, 1, 2], [(0, .iconst 0, []), (1, .istore_n 3, [])], 2),
  (2, [0, 1, 2, 3], [(2, .iload_n 3, []), (3, .sipush 500, []), (6, .if_icmp .ge 78, [84]), (9, .aload_n 1, []), (10, .invokevirtual 34, [1, 40, 1, 2, 0, 0, 4]), (13, .invokestatic 40, [0, 82, 1, 0, 0, 0, 0]), (16, .ifCond .lt 68, [84]), (19, .aload_n 0, []), (20, .getfield 27, [6, 4, 0, 0]), (23, .bipush 60, []), (25, .if_icmp .lt 10, [35]), (28, .aload_n 1, []), (29, .bipush (-5), []), (31, .invokevirtual 44, [1, 46, 2, 0, 0, 0, 4]), (34, .ireturn, [5])], 35),
  (35, [0, 1, 2, 3], [(35, .aload_n 1, []), (36, .getstatic 48, [0, 28]), (39, .invokevirtual 52, [1, 42, 2, 0, 0, 0, 4]), (42, .ifCond .eq 12, [54]), (45, .aload_n 0, []), (46, .aload_n 1, []), (47, .iload_n 2, []), (48, .invokevirtual 56, [1, 84, 3, 0, 0, 0, 7]), (51, .goto 8, [59])], 54),
  (54, [0, 1, 2, 3], [(54, .aload_n 0, []), (55, .aload_n 1, []), (56, .invokevirtual 60, [1, 83, 2, 0, 0, 0, 7])], 59),
  (59, [0, 1, 2, 3], [(59, .istore 4, []), (61, .iload 4, []), (63, .ifCond .eq 13, [76]), (66, .aload_n 1, []), (67, .getstatic 64, [0, 3]), (70, .invokevirtual 67, [1, 44, 2, 0, 0, 0, 4]), (73, .ifCond .ne 5, [78])], 76),
  (76, [], [(76, .iconst 0, []), (77, .ireturn, [5])], 78),
  (78, [0, 1, 2, 3], [(78, .iinc 3 1, []), (81, .goto (-79), [2])], 84),
  (84, [], [(84, .iconst 1, []), (85, .ireturn, [5])], 86)]
def rX6_readCommands : xRow := ((yX6_readCommands, cX6_readCommands, 5, (some .boolean), 0, 0), bX6_readCommands, pX6)
def bX6_numbersOf : xBl := [
  (0, [0], [(0, .aload_n 0, []), (1, .getstatic 70, [0, 22]), (4, .if_acmp .eq 10, [14]), (7, .aload_n 0, []), (8, .getstatic 73, [0, 23]), (11, .if_acmp .ne 5, [16])], 14),
  (14, [], [(14, .iconst 2, []), (15, .ireturn, [0])], 16),
  (16, [0], [(16, .aload_n 0, []), (17, .getstatic 76, [0, 25]), (20, .if_acmp .eq 24, [44]), (23, .aload_n 0, []), (24, .getstatic 79, [0, 26]), (27, .if_acmp .eq 17, [44]), (30, .aload_n 0, []), (31, .getstatic 82, [0, 27]), (34, .if_acmp .eq 10, [44]), (37, .aload_n 0, []), (38, .getstatic 48, [0, 28]), (41, .if_acmp .ne 5, [46])], 44),
  (44, [], [(44, .iconst 1, []), (45, .ireturn, [0])], 46),
  (46, [0], [(46, .aload_n 0, []), (47, .getstatic 85, [0, 24]), (50, .if_acmp .ne 7, [57]), (53, .iconst 0, []), (54, .goto 4, [58])], 57),
  (57, [], [(57, .iconst (-1), [])], 58),
  (58, [], [(58, .ireturn, [0])], 59)]
def rX6_numbersOf : xRow := ((yX6_numbersOf, cX6_numbersOf, 1, (some .int), 0, 0), bX6_numbersOf, pX6)
def bX6_readCommand : xBl := [
  (0, [0, 1], [(0, .aload_n 1, []), (1, .invokevirtual 34, [1, 40, 1, 2, 0, 0, 4]), (4, .astore_n 2, []), (5, .aload_n 2, []), (6, .invokestatic 40, [0, 82, 1, 0, 0, 0, 0]), (9, .istore_n 3, []), (10, .aload_n 1, []), (11, .invokevirtual 88, [1, 43, 1, 9, 0, 0, 4]), (14, .iload_n 3, []), (15, .ifCond .le 14, [29]), (18, .aload_n 1, []), (19, .iconst 0, []), (20, .sipush 9999, []), (23, .invokevirtual 91, [1, 45, 3, 0, 0, 0, 4]), (26, .goto 4, [30])], 29),
  (29, [0, 1, 2, 3], [(29, .iconst 0, [])], 30),
  (30, [0, 1, 2, 3], [(30, .istore 4, []), (32, .iload 4, []), (34, .ifCond .ge 5, [39]), (37, .iconst 0, []), (38, .ireturn, [5])], 39),
  (39, [0, 1, 2, 3, 4], [(39, .iload_n 3, []), (40, .iconst 1, []), (41, .if_icmp .le 14, [55]), (44, .aload_n 1, []), (45, .iconst 0, []), (46, .sipush 9999, []), (49, .invokevirtual 91, [1, 45, 3, 0, 0, 0, 4]), (52, .goto 4, [56])], 55),
  (55, [0, 2, 4], [(55, .iconst 0, [])], 56),
  (56, [0, 2, 4], [(56, .istore 5, []), (58, .iload 5, []), (60, .ifCond .ge 5, [65]), (63, .iconst 0, []), (64, .ireturn, [5])], 65),
  (65, [0, 2, 4, 5], [(65, .aload_n 0, []), (66, .aload_n 2, []), (67, .iload 4, []), (69, .iload 5, []), (71, .invokevirtual 95, [1, 85, 4, 9, 0, 0, 7]), (74, .iconst 1, []), (75, .ireturn, [5])], 76)]
def rX6_readCommand : xRow := ((yX6_readCommand, cX6_readCommand, 6, (some .boolean), 0, 0), bX6_readCommand, pX6)
def bX6_readRepeat : xBl := [
  (0, [0, 1, 2], [(0, .iload_n 2, []), (1, .iconst 3, []), (2, .if_icmp .lt 10, [12]), (5, .aload_n 1, []), (6, .bipush (-6), []), (8, .invokevirtual 44, [1, 46, 2, 0, 0, 0, 4]), (11, .ireturn, [5])], 12),
  (12, [0, 1, 2], [(12, .aload_n 1, []), (13, .invokevirtual 88, [1, 43, 1, 9, 0, 0, 4]), (16, .aload_n 1, []), (17, .iconst 1, []), (18, .bipush 20, []), (20, .invokevirtual 91, [1, 45, 3, 0, 0, 0, 4]), (23, .istore_n 3, []), (24, .iload_n 3, []), (25, .ifCond .ge 5, [30]), (28, .iconst 0, []), (29, .ireturn, [5])], 30),
  (30, [0, 1, 2, 3], [(30, .aload_n 0, []), (31, .getfield 27, [6, 4, 0, 0]), (34, .istore 4, []), (36, .aload_n 0, []), (37, .getstatic 48, [0, 28]), (40, .iload_n 3, []), (41, .iconst 0, []), (42, .invokevirtual 95, [1, 85, 4, 9, 0, 0, 7]), (45, .aload_n 1, []), (46, .getstatic 99, [0, 8]), (49, .invokevirtual 67, [1, 44, 2, 0, 0, 0, 4]), (52, .ifCond .eq 24, [76]), (55, .aload_n 0, []), (56, .aload_n 1, []), (57, .iload_n 2, []), (58, .iconst 1, []), (59, .iadd, []), (60, .invokevirtual 102, [1, 81, 3, 0, 0, 0, 7]), (63, .ifCond .eq 13, [76]), (66, .aload_n 1, []), (67, .getstatic 105, [0, 9]), (70, .invokevirtual 67, [1, 44, 2, 0, 0, 0, 4]), (73, .ifCond .ne 5, [78])], 76),
  (76, [], [(76, .iconst 0, []), (77, .ireturn, [5])], 78),
  (78, [0, 4], [(78, .aload_n 0, []), (79, .getfield 24, [6, 3, 2, 0]), (82, .iload 4, []), (84, .aload_n 0, []), (85, .getfield 27, [6, 4, 0, 0]), (88, .iastore, []), (89, .iconst 1, []), (90, .ireturn, [5])], 91)]
def rX6_readRepeat : xRow := ((yX6_readRepeat, cX6_readRepeat, 5, (some .boolean), 0, 0), bX6_readRepeat, pX6)
def bX6_put : xBl := [
  (0, [0, 1, 2, 3], [(0, .aload_n 0, []), (1, .getfield 27, [6, 4, 0, 0]), (4, .aload_n 0, []), (5, .getfield 13, [6, 0, 2, 0]), (8, .arraylength, []), (9, .if_icmp .ge 43, [52]), (12, .aload_n 0, []), (13, .getfield 13, [6, 0, 2, 0]), (16, .aload_n 0, []), (17, .getfield 27, [6, 4, 0, 0]), (20, .aload_n 1, []), (21, .aastore, []), (22, .aload_n 0, []), (23, .getfield 17, [6, 1, 2, 0]), (26, .aload_n 0, []), (27, .getfield 27, [6, 4, 0, 0]), (30, .iload_n 2, []), (31, .iastore, []), (32, .aload_n 0, []), (33, .getfield 21, [6, 2, 2, 0]), (36, .aload_n 0, []), (37, .getfield 27, [6, 4, 0, 0]), (40, .iload_n 3, []), (41, .iastore, []), (42, .aload_n 0, []), (43, .dup, []), (44, .getfield 27, [6, 4, 0, 0]), (47, .iconst 1, []), (48, .iadd, []), (49, .putfield 27, [6, 4, 0, 0])], 52),
  (52, [], [(52, .return_, [])], 53)]
def rX6_put : xRow := ((yX6_put, cX6_put, 4, none, 0, 0), bX6_put, pX6)
def bX6_performRange : xBl := [
  (0, [0, 1, 2, 3, 4], [(0, .iload_n 2, []), (1, .istore 5, []), (3, .iconst 0, []), (4, .istore 6, [])], 6),
  (6, [0, 1, 3, 4, 5, 6], [(6, .iload 6, []), (8, .bipush 60, []), (10, .if_icmp .ge 89, [99]), (13, .iload 5, []), (15, .iload_n 3, []), (16, .if_icmp .ge 83, [99]), (19, .aload_n 0, []), (20, .getfield 13, [6, 0, 2, 0]), (23, .iload 5, []), (25, .aaload, []), (26, .getstatic 48, [0, 28]), (29, .if_acmp .ne 7, [36]), (32, .iconst 1, []), (33, .goto 4, [37])], 36),
  (36, [0, 1, 3, 4, 5, 6], [(36, .iconst 0, [])], 37),
  (37, [0, 1, 3, 4, 5, 6], [(37, .istore 7, []), (39, .iload 7, []), (41, .ifCond .eq 15, [56]), (44, .aload_n 0, []), (45, .aload_n 1, []), (46, .iload 5, []), (48, .iload 4, []), (50, .invokevirtual 108, [1, 87, 4, 0, 0, 0, 7]), (53, .goto 10, [63])], 56),
  (56, [0, 1, 3, 4, 5, 6, 7], [(56, .aload_n 0, []), (57, .aload_n 1, []), (58, .iload 5, []), (60, .invokevirtual 112, [1, 88, 3, 0, 0, 0, 7])], 63),
  (63, [0, 1, 3, 4, 5, 6, 7], [(63, .istore 8, []), (65, .iload 8, []), (67, .ifCond .ne 5, [72]), (70, .iconst 0, []), (71, .ireturn, [5])], 72),
  (72, [0, 1, 3, 4, 5, 6, 7], [(72, .iload 7, []), (74, .ifCond .eq 13, [87]), (77, .aload_n 0, []), (78, .getfield 24, [6, 3, 2, 0]), (81, .iload 5, []), (83, .iaload, []), (84, .goto 7, [91])], 87),
  (87, [0, 1, 3, 4, 5, 6], [(87, .iload 5, []), (89, .iconst 1, []), (90, .iadd, [])], 91),
  (91, [0, 1, 3, 4, 6], [(91, .istore 5, []), (93, .iinc 6 1, []), (96, .goto (-90), [6])], 99),
  (99, [], [(99, .iconst 1, []), (100, .ireturn, [5])], 101)]
def rX6_performRange : xRow := ((yX6_performRange, cX6_performRange, 9, (some .boolean), 0, 0), bX6_performRange, pX6)
def bX6_performRepeat : xBl := [
  (0, [0, 1, 2, 3], [(0, .iload_n 3, []), (1, .iconst 3, []), (2, .if_icmp .lt 5, [7]), (5, .iconst 0, []), (6, .ireturn, [5])], 7),
  (7, [0, 1, 2, 3], [(7, .iconst 0, []), (8, .istore 4, [])], 10),
  (10, [0, 1, 2, 3, 4], [(10, .iload 4, []), (12, .aload_n 0, []), (13, .getfield 17, [6, 1, 2, 0]), (16, .iload_n 2, []), (17, .iaload, []), (18, .if_icmp .ge 48, [66]), (21, .aload_n 0, []), (22, .getfield 31, [6, 5, 0, 0]), (25, .istore 5, []), (27, .aload_n 0, []), (28, .aload_n 1, []), (29, .iload_n 2, []), (30, .iconst 1, []), (31, .iadd, []), (32, .aload_n 0, []), (33, .getfield 24, [6, 3, 2, 0]), (36, .iload_n 2, []), (37, .iaload, []), (38, .iload_n 3, []), (39, .iconst 1, []), (40, .iadd, []), (41, .invokevirtual 116, [1, 86, 5, 0, 0, 0, 7]), (44, .ifCond .ne 5, [49]), (47, .iconst 0, []), (48, .ireturn, [5])], 49),
  (49, [0, 1, 2, 3, 4, 5], [(49, .aload_n 0, []), (50, .getfield 31, [6, 5, 0, 0]), (53, .iload 5, []), (55, .if_icmp .ne 5, [60]), (58, .iconst 1, []), (59, .ireturn, [5])], 60),
  (60, [0, 1, 2, 3, 4], [(60, .iinc 4 1, []), (63, .goto (-53), [10])], 66),
  (66, [], [(66, .iconst 1, []), (67, .ireturn, [5])], 68)]
def rX6_performRepeat : xRow := ((yX6_performRepeat, cX6_performRepeat, 6, (some .boolean), 0, 0), bX6_performRepeat, pX6)
def bX6_performOne : xBl := [
  (0, [0, 1, 2], [(0, .aload_n 0, []), (1, .getfield 13, [6, 0, 2, 0]), (4, .iload_n 2, []), (5, .aaload, []), (6, .astore_n 3, []), (7, .aload_n 0, []), (8, .getfield 17, [6, 1, 2, 0]), (11, .iload_n 2, []), (12, .iaload, []), (13, .istore 4, []), (15, .aload_n 0, []), (16, .getfield 21, [6, 2, 2, 0]), (19, .iload_n 2, []), (20, .iaload, []), (21, .istore 5, []), (23, .aload_n 0, []), (24, .getfield 31, [6, 5, 0, 0]), (27, .sipush 200, []), (30, .if_icmp .ge 15, [45]), (33, .aload_n 1, []), (34, .aload_n 3, []), (35, .iload 4, []), (37, .iload 5, []), (39, .invokestatic 120, [0, 89, 4, 0, 0, 0, 0]), (42, .ifCond .ne 5, [47])], 45),
  (45, [], [(45, .iconst 0, []), (46, .ireturn, [5])], 47),
  (47, [0, 1, 3, 4, 5], [(47, .aload_n 0, []), (48, .dup, []), (49, .getfield 31, [6, 5, 0, 0]), (52, .iconst 1, []), (53, .iadd, []), (54, .putfield 31, [6, 5, 0, 0]), (57, .aload_n 3, []), (58, .getstatic 70, [0, 22]), (61, .if_acmp .eq 10, [71]), (64, .aload_n 3, []), (65, .getstatic 73, [0, 23]), (68, .if_acmp .ne 27, [95])], 71),
  (71, [1, 3, 4, 5], [(71, .aload_n 1, []), (72, .aload_n 3, []), (73, .getstatic 70, [0, 22]), (76, .if_acmp .ne 7, [83]), (79, .iconst 1, []), (80, .goto 4, [84])], 83),
  (83, [4, 5], [(83, .iconst 0, [])], 84),
  (84, [4, 5], [(84, .iload 4, []), (86, .iload 5, []), (88, .invokevirtual 124, [1, 25, 4, 0, 0, 0, 3]), (91, .pop, []), (92, .goto 71, [163])], 95),
  (95, [1, 3, 4], [(95, .aload_n 3, []), (96, .getstatic 85, [0, 24]), (99, .if_acmp .ne 18, [117]), (102, .aload_n 1, []), (103, .aload_n 1, []), (104, .getfield 130, [2, 0, 2, 1]), (107, .getfield 134, [5, 1, 0, 1]), (110, .invokevirtual 139, [1, 26, 2, 0, 0, 0, 3]), (113, .pop, []), (114, .goto 49, [163])], 117),
  (117, [1, 3, 4], [(117, .aload_n 3, []), (118, .getstatic 76, [0, 25]), (121, .if_acmp .ne 18, [139]), (124, .aload_n 1, []), (125, .aload_n 1, []), (126, .getfield 130, [2, 0, 2, 1]), (129, .getfield 142, [5, 0, 0, 1]), (132, .invokevirtual 139, [1, 26, 2, 0, 0, 0, 3]), (135, .pop, []), (136, .goto 27, [163])], 139),
  (139, [1, 3, 4], [(139, .aload_n 3, []), (140, .getstatic 79, [0, 26]), (143, .if_acmp .ne 13, [156]), (146, .aload_n 1, []), (147, .iload 4, []), (149, .invokevirtual 139, [1, 26, 2, 0, 0, 0, 3]), (152, .pop, []), (153, .goto 10, [163])], 156),
  (156, [1, 4], [(156, .aload_n 1, []), (157, .iload 4, []), (159, .invokevirtual 145, [1, 28, 2, 0, 0, 0, 3]), (162, .pop, [])], 163),
  (163, [], [(163, .iconst 1, []), (164, .ireturn, [5])], 165)]
def rX6_performOne : xRow := ((yX6_performOne, cX6_performOne, 6, (some .boolean), 0, 0), bX6_performOne, pX6)
def bX6_isAllowed : xBl := [
  (0, [0, 1, 2, 3], [(0, .aload_n 1, []), (1, .getstatic 70, [0, 22]), (4, .if_acmp .eq 10, [14]), (7, .aload_n 1, []), (8, .getstatic 73, [0, 23]), (11, .if_acmp .ne 13, [24])], 14),
  (14, [0, 2, 3], [(14, .aload_n 0, []), (15, .getfield 130, [2, 0, 2, 1]), (18, .iload_n 2, []), (19, .iload_n 3, []), (20, .invokevirtual 148, [1, 72, 3, 0, 0, 0, 6]), (23, .ireturn, [5])], 24),
  (24, [0, 1, 2], [(24, .aload_n 1, []), (25, .getstatic 85, [0, 24]), (28, .if_acmp .ne 5, [33]), (31, .iconst 1, []), (32, .ireturn, [5])], 33),
  (33, [0, 1, 2], [(33, .aload_n 0, []), (34, .getfield 130, [2, 0, 2, 1]), (37, .iload_n 2, []), (38, .invokevirtual 152, [1, 71, 2, 0, 0, 0, 6]), (41, .ifCond .ne 5, [46]), (44, .iconst 0, []), (45, .ireturn, [5])], 46),
  (46, [0, 1, 2], [(46, .aload_n 1, []), (47, .getstatic 76, [0, 25]), (50, .if_acmp .ne 9, [59]), (53, .aload_n 0, []), (54, .iload_n 2, []), (55, .invokevirtual 155, [1, 23, 2, 0, 0, 0, 3]), (58, .ireturn, [5])], 59),
  (59, [0, 1], [(59, .aload_n 1, []), (60, .getstatic 82, [0, 27]), (63, .if_acmp .eq 10, [73]), (66, .aload_n 0, []), (67, .invokevirtual 158, [1, 24, 1, 0, 0, 0, 3]), (70, .ifCond .eq 7, [77])], 73),
  (73, [], [(73, .iconst 1, []), (74, .goto 4, [78])], 77),
  (77, [], [(77, .iconst 0, [])], 78),
  (78, [], [(78, .ireturn, [5])], 79)]
def rX6_isAllowed : xRow := ((yX6_isAllowed, cX6_isAllowed, 4, (some .boolean), 0, 0), bX6_isAllowed, pX6)
def pX7 : xPool := [(1, 9, [0, 10]), (2, 15, [1, 44, 2, 0, 0, 0, 4]), (2, 21, [1, 45, 3, 0, 0, 0, 4]), (1, 25, [0, 3]), (2, 28, [1, 19, 2, 9, 0, 0, 3]), (1, 34, [0, 0]), (2, 37, [1, 42, 2, 0, 0, 0, 4]), (2, 40, [1, 40, 1, 2, 0, 0, 4]), (2, 44, [0, 91, 1, 0, 0, 0, 0]), (2, 50, [1, 46, 2, 0, 0, 0, 4]), (2, 54, [0, 92, 2, 0, 0, 0, 0]), (1, 58, [0, 14]), (1, 61, [0, 16]), (1, 64, [0, 17]), (1, 67, [0, 18]), (1, 70, [0, 19]), (1, 73, [0, 21]), (1, 76, [0, 15]), (0, 79, [2, 0, 2, 1]), (2, 83, [0, 93, 2, 0, 0, 0, 0]), (1, 87, [0, 20]), (0, 90, [2, 2, 2, 1]), (2, 94, [0, 95, 2, 0, 0, 0, 0]), (2, 98, [1, 43, 1, 9, 0, 0, 4]), (0, 101, [2, 3, 2, 1]), (2, 105, [1, 7, 1, 9, 0, 0, 2]), (2, 110, [3, 11, 3, 0, 0, 0, 2]), (2, 114, [0, 96, 2, 0, 0, 0, 0]), (2, 117, [0, 94, 2, 0, 0, 0, 0]), (1, 120, [0, 1]), (2, 123, [1, 41, 1, 0, 0, 0, 4]), (2, 127, [1, 73, 2, 0, 0, 0, 6]), (0, 132, [5, 0, 0, 1]), (2, 136, [1, 74, 3, 9, 0, 0, 6]), (2, 140, [1, 3, 1, 0, 0, 0, 1]), (2, 146, [1, 4, 3, 9, 0, 0, 1]), (2, 150, [0, 97, 2, 0, 0, 0, 0]), (2, 154, [0, 98, 3, 9, 0, 0, 0]), (0, 158, [5, 1, 0, 1]), (0, 161, [2, 1, 2, 1]), (2, 165, [1, 50, 2, 9, 0, 0, 5]), (0, 170, [4, 2, 0, 1]), (0, 173, [4, 3, 0, 1]), (0, 176, [4, 4, 0, 1]), (0, 179, [2, 6, 0, 1])]
def bX7_read : xBl := [
  (0, [0, 1], [(0, .aload_n 0, []), (1, .getstatic 9, [0, 10]), (4, .invokevirtual 15, [1, 44, 2, 0, 0, 0, 4]), (7, .ifCond .ne 5, [12]), (10, .iconst 0, []), (11, .ireturn, [5])], 12),
  (12, [0, 1], [(12, .aload_n 0, []), (13, .iconst 2, []), (14, .bipush 8, []), (16, .invokevirtual 21, [1, 45, 3, 0, 0, 0, 4]), (19, .istore_n 2, []), (20, .iload_n 2, []), (21, .ifCond .lt 13, [34]), (24, .aload_n 0, []), (25, .getstatic 25, [0, 3]), (28, .invokevirtual 15, [1, 44, 2, 0, 0, 0, 4]), (31, .ifCond .ne 5, [36])], 34),
  (34, [], [(34, .iconst 0, []), (35, .ireturn, [5])], 36),
  (36, [0, 1, 2], [(36, .aload_n 1, []), (37, .iload_n 2, []), (38, .invokevirtual 28, [1, 19, 2, 9, 0, 0, 3]), (41, .iconst 0, []), (42, .istore_n 3, []), (43, .iconst 0, []), (44, .istore 4, [])], 46),
  (46, [0, 1, 3, 4], [(46, .iload 4, []), (48, .sipush 500, []), (51, .if_icmp .ge 67, [118]), (54, .aload_n 0, []), (55, .getstatic 34, [0, 0]), (58, .invokevirtual 37, [1, 42, 2, 0, 0, 0, 4]), (61, .ifCond .ne 57, [118]), (64, .aload_n 0, []), (65, .invokevirtual 40, [1, 40, 1, 2, 0, 0, 4]), (68, .invokestatic 44, [0, 91, 1, 0, 0, 0, 0]), (71, .istore 5, []), (73, .iload_n 3, []), (74, .iload 5, []), (76, .iand, []), (77, .ifCond .eq 10, [87]), (80, .aload_n 0, []), (81, .bipush (-2), []), (83, .invokevirtual 50, [1, 46, 2, 0, 0, 0, 4]), (86, .ireturn, [5])], 87),
  (87, [0, 1, 3, 4, 5], [(87, .iload_n 3, []), (88, .iload 5, []), (90, .ior, []), (91, .istore_n 3, []), (92, .aload_n 0, []), (93, .aload_n 1, []), (94, .invokestatic 54, [0, 92, 2, 0, 0, 0, 0]), (97, .ifCond .eq 13, [110]), (100, .aload_n 0, []), (101, .getstatic 25, [0, 3]), (104, .invokevirtual 15, [1, 44, 2, 0, 0, 0, 4]), (107, .ifCond .ne 5, [112])], 110),
  (110, [], [(110, .iconst 0, []), (111, .ireturn, [5])], 112),
  (112, [0, 1, 3, 4], [(112, .iinc 4 1, []), (115, .goto (-69), [46])], 118),
  (118, [], [(118, .iconst 1, []), (119, .ireturn, [5])], 120)]
def rX7_read : xRow := ((yX7_read, cX7_read, 6, (some .boolean), 0, 0), bX7_read, pX7)
def bX7_bitOfSingle : xBl := [
  (0, [0], [(0, .aload_n 0, []), (1, .getstatic 58, [0, 14]), (4, .if_acmp .ne 5, [9]), (7, .iconst 1, []), (8, .ireturn, [0])], 9),
  (9, [0], [(9, .aload_n 0, []), (10, .getstatic 61, [0, 16]), (13, .if_acmp .ne 5, [18]), (16, .iconst 2, []), (17, .ireturn, [0])], 18),
  (18, [0], [(18, .aload_n 0, []), (19, .getstatic 64, [0, 17]), (22, .if_acmp .ne 5, [27]), (25, .iconst 4, []), (26, .ireturn, [0])], 27),
  (27, [0], [(27, .aload_n 0, []), (28, .getstatic 67, [0, 18]), (31, .if_acmp .ne 6, [37]), (34, .bipush 8, []), (36, .ireturn, [0])], 37),
  (37, [0], [(37, .aload_n 0, []), (38, .getstatic 70, [0, 19]), (41, .if_acmp .ne 6, [47]), (44, .bipush 16, []), (46, .ireturn, [0])], 47),
  (47, [0], [(47, .aload_n 0, []), (48, .getstatic 73, [0, 21]), (51, .if_acmp .ne 8, [59]), (54, .bipush 32, []), (56, .goto 4, [60])], 59),
  (59, [], [(59, .iconst 0, [])], 60),
  (60, [], [(60, .ireturn, [0])], 61)]
def rX7_bitOfSingle : xRow := ((yX7_bitOfSingle, cX7_bitOfSingle, 1, (some .int), 0, 0), bX7_bitOfSingle, pX7)
def bX7_readStatement : xBl := [
  (0, [0, 1], [(0, .aload_n 0, []), (1, .getstatic 76, [0, 15]), (4, .invokevirtual 37, [1, 42, 2, 0, 0, 0, 4]), (7, .ifCond .eq 12, [19]), (10, .aload_n 0, []), (11, .aload_n 1, []), (12, .getfield 79, [2, 0, 2, 1]), (15, .invokestatic 83, [0, 93, 2, 0, 0, 0, 0]), (18, .ireturn, [5])], 19),
  (19, [0, 1], [(19, .aload_n 0, []), (20, .getstatic 87, [0, 20]), (23, .invokevirtual 37, [1, 42, 2, 0, 0, 0, 4]), (26, .ifCond .eq 12, [38]), (29, .aload_n 0, []), (30, .aload_n 1, []), (31, .getfield 90, [2, 2, 2, 1]), (34, .invokestatic 94, [0, 95, 2, 0, 0, 0, 0]), (37, .ireturn, [5])], 38),
  (38, [0, 1], [(38, .aload_n 0, []), (39, .getstatic 73, [0, 21]), (42, .invokevirtual 37, [1, 42, 2, 0, 0, 0, 4]), (45, .ifCond .eq 24, [69]), (48, .aload_n 0, []), (49, .invokevirtual 98, [1, 43, 1, 9, 0, 0, 4]), (52, .aload_n 1, []), (53, .getfield 101, [2, 3, 2, 1]), (56, .invokevirtual 105, [1, 7, 1, 9, 0, 0, 2]), (59, .aload_n 1, []), (60, .getfield 101, [2, 3, 2, 1]), (63, .aload_n 0, []), (64, .iconst 0, []), (65, .invokevirtual 110, [3, 11, 3, 0, 0, 0, 2]), (68, .ireturn, [5])], 69),
  (69, [0, 1], [(69, .aload_n 0, []), (70, .aload_n 1, []), (71, .invokestatic 114, [0, 96, 2, 0, 0, 0, 0]), (74, .ireturn, [5])], 75)]
def rX7_readStatement : xRow := ((yX7_readStatement, cX7_readStatement, 2, (some .boolean), 0, 0), bX7_readStatement, pX7)
def bX7_readScratches : xBl := [
  (0, [0, 1], [(0, .aload_n 0, []), (1, .invokevirtual 98, [1, 43, 1, 9, 0, 0, 4]), (4, .aload_n 0, []), (5, .aload_n 1, []), (6, .invokestatic 117, [0, 94, 2, 0, 0, 0, 0]), (9, .ifCond .ne 5, [14]), (12, .iconst 0, []), (13, .ireturn, [5])], 14),
  (14, [0, 1], [(14, .iconst 0, []), (15, .istore_n 2, [])], 16),
  (16, [0, 1, 2], [(16, .iload_n 2, []), (17, .sipush 500, []), (20, .if_icmp .ge 29, [49]), (23, .aload_n 0, []), (24, .getstatic 120, [0, 1]), (27, .invokevirtual 37, [1, 42, 2, 0, 0, 0, 4]), (30, .ifCond .eq 19, [49]), (33, .aload_n 0, []), (34, .aload_n 1, []), (35, .invokestatic 117, [0, 94, 2, 0, 0, 0, 0]), (38, .ifCond .ne 5, [43]), (41, .iconst 0, []), (42, .ireturn, [5])], 43),
  (43, [0, 1, 2], [(43, .iinc 2 1, []), (46, .goto (-30), [16])], 49),
  (49, [], [(49, .iconst 1, []), (50, .ireturn, [5])], 51)]
def rX7_readScratches : xRow := ((yX7_readScratches, cX7_readScratches, 3, (some .boolean), 0, 0), bX7_readScratches, pX7)
def bX7_readScratch : xBl := [
  (0, [0, 1], [(0, .aload_n 0, []), (1, .getstatic 120, [0, 1]), (4, .invokevirtual 37, [1, 42, 2, 0, 0, 0, 4]), (7, .ifCond .eq 21, [28]), (10, .aload_n 1, []), (11, .aload_n 0, []), (12, .invokevirtual 123, [1, 41, 1, 0, 0, 0, 4]), (15, .invokevirtual 127, [1, 73, 2, 0, 0, 0, 6]), (18, .ifCond .eq 10, [28]), (21, .aload_n 0, []), (22, .bipush (-4), []), (24, .invokevirtual 50, [1, 46, 2, 0, 0, 0, 4]), (27, .ireturn, [5])], 28),
  (28, [0, 1], [(28, .aload_n 0, []), (29, .iconst 0, []), (30, .aload_n 1, []), (31, .getfield 132, [5, 0, 0, 1]), (34, .iconst 1, []), (35, .isub, []), (36, .invokevirtual 21, [1, 45, 3, 0, 0, 0, 4]), (39, .istore_n 2, []), (40, .iload_n 2, []), (41, .ifCond .ge 5, [46]), (44, .iconst 0, []), (45, .ireturn, [5])], 46),
  (46, [1, 2], [(46, .aload_n 1, []), (47, .iload_n 2, []), (48, .iconst 1, []), (49, .invokevirtual 136, [1, 74, 3, 9, 0, 0, 6]), (52, .iconst 1, []), (53, .ireturn, [5])], 54)]
def rX7_readScratch : xRow := ((yX7_readScratch, cX7_readScratch, 3, (some .boolean), 0, 0), bX7_readScratch, pX7)
def bX7_readBlink : xBl := [
  (0, [0, 1], [(0, .aload_n 1, []), (1, .invokevirtual 140, [1, 3, 1, 0, 0, 0, 1]), (4, .ifCond .eq 10, [14]), (7, .aload_n 0, []), (8, .bipush (-5), []), (10, .invokevirtual 50, [1, 46, 2, 0, 0, 0, 4]), (13, .ireturn, [5])], 14),
  (14, [0, 1], [(14, .aload_n 0, []), (15, .invokevirtual 98, [1, 43, 1, 9, 0, 0, 4]), (18, .aload_n 0, []), (19, .iconst 0, []), (20, .sipush 9999, []), (23, .invokevirtual 21, [1, 45, 3, 0, 0, 0, 4]), (26, .istore_n 2, []), (27, .iload_n 2, []), (28, .ifCond .ge 5, [33]), (31, .iconst 0, []), (32, .ireturn, [5])], 33),
  (33, [0, 1, 2], [(33, .aload_n 0, []), (34, .iload_n 2, []), (35, .sipush 9999, []), (38, .invokevirtual 21, [1, 45, 3, 0, 0, 0, 4]), (41, .istore_n 3, []), (42, .iload_n 3, []), (43, .ifCond .ge 5, [48]), (46, .iconst 0, []), (47, .ireturn, [5])], 48),
  (48, [1, 2, 3], [(48, .aload_n 1, []), (49, .iload_n 2, []), (50, .iload_n 3, []), (51, .invokevirtual 146, [1, 4, 3, 9, 0, 0, 1]), (54, .iconst 1, []), (55, .ireturn, [5])], 56)]
def rX7_readBlink : xRow := ((yX7_readBlink, cX7_readBlink, 4, (some .boolean), 0, 0), bX7_readBlink, pX7)
def bX7_readSetting : xBl := [
  (0, [0, 1], [(0, .aload_n 0, []), (1, .invokevirtual 40, [1, 40, 1, 2, 0, 0, 4]), (4, .astore_n 2, []), (5, .aload_n 2, []), (6, .aload_n 1, []), (7, .invokestatic 150, [0, 97, 2, 0, 0, 0, 0]), (10, .istore_n 3, []), (11, .iload_n 3, []), (12, .ifCond .ge 10, [22]), (15, .aload_n 0, []), (16, .bipush (-2), []), (18, .invokevirtual 50, [1, 46, 2, 0, 0, 0, 4]), (21, .ireturn, [5])], 22),
  (22, [0, 1, 2, 3], [(22, .aload_n 0, []), (23, .invokevirtual 98, [1, 43, 1, 9, 0, 0, 4]), (26, .aload_n 2, []), (27, .getstatic 61, [0, 16]), (30, .if_acmp .eq 10, [40]), (33, .aload_n 2, []), (34, .getstatic 64, [0, 17]), (37, .if_acmp .ne 7, [44])], 40),
  (40, [0, 1, 2, 3], [(40, .iconst 1, []), (41, .goto 4, [45])], 44),
  (44, [0, 1, 2, 3], [(44, .iconst 0, [])], 45),
  (45, [0, 1, 2, 3], [(45, .istore 4, []), (47, .aload_n 0, []), (48, .iload 4, []), (50, .iload_n 3, []), (51, .invokevirtual 21, [1, 45, 3, 0, 0, 0, 4]), (54, .istore 5, []), (56, .iload 5, []), (58, .ifCond .ge 5, [63]), (61, .iconst 0, []), (62, .ireturn, [5])], 63),
  (63, [1, 2, 5], [(63, .aload_n 1, []), (64, .aload_n 2, []), (65, .iload 5, []), (67, .invokestatic 154, [0, 98, 3, 9, 0, 0, 0]), (70, .iconst 1, []), (71, .ireturn, [5])], 72)]
def rX7_readSetting : xRow := ((yX7_readSetting, cX7_readSetting, 6, (some .boolean), 0, 0), bX7_readSetting, pX7)
def bX7_greatestOf : xBl := [
  (0, [0, 1], [(0, .aload_n 0, []), (1, .getstatic 58, [0, 14]), (4, .if_acmp .ne 13, [17]), (7, .aload_n 1, []), (8, .getfield 79, [2, 0, 2, 1]), (11, .getfield 132, [5, 0, 0, 1]), (14, .iconst 1, []), (15, .isub, []), (16, .ireturn, [0])], 17),
  (17, [0], [(17, .aload_n 0, []), (18, .getstatic 61, [0, 16]), (21, .if_acmp .ne 6, [27]), (24, .bipush 99, []), (26, .ireturn, [0])], 27),
  (27, [0], [(27, .aload_n 0, []), (28, .getstatic 64, [0, 17]), (31, .if_acmp .ne 6, [37]), (34, .bipush 9, []), (36, .ireturn, [0])], 37),
  (37, [0], [(37, .aload_n 0, []), (38, .getstatic 67, [0, 18]), (41, .if_acmp .ne 6, [47]), (44, .bipush 9, []), (46, .ireturn, [0])], 47),
  (47, [0], [(47, .aload_n 0, []), (48, .getstatic 70, [0, 19]), (51, .if_acmp .ne 9, [60]), (54, .sipush 9999, []), (57, .goto 4, [61])], 60),
  (60, [], [(60, .iconst (-1), [])], 61),
  (61, [], [(61, .ireturn, [0])], 62)]
def rX7_greatestOf : xRow := ((yX7_greatestOf, cX7_greatestOf, 2, (some .int), 0, 0), bX7_greatestOf, pX7)
def bX7_set : xBl := [
  (0, [0, 1, 2], [(0, .aload_n 1, []), (1, .getstatic 58, [0, 14]), (4, .if_acmp .ne 22, [26]), (7, .aload_n 0, []), (8, .getfield 79, [2, 0, 2, 1]), (11, .iload_n 2, []), (12, .putfield 158, [5, 1, 0, 1]), (15, .aload_n 0, []), (16, .getfield 161, [2, 1, 2, 1]), (19, .iload_n 2, []), (20, .invokevirtual 165, [1, 50, 2, 9, 0, 0, 5]), (23, .goto 69, [92])], 26),
  (26, [0, 1, 2], [(26, .aload_n 1, []), (27, .getstatic 61, [0, 16]), (30, .if_acmp .ne 14, [44]), (33, .aload_n 0, []), (34, .getfield 161, [2, 1, 2, 1]), (37, .iload_n 2, []), (38, .putfield 170, [4, 2, 0, 1]), (41, .goto 51, [92])], 44),
  (44, [0, 1, 2], [(44, .aload_n 1, []), (45, .getstatic 64, [0, 17]), (48, .if_acmp .ne 14, [62]), (51, .aload_n 0, []), (52, .getfield 161, [2, 1, 2, 1]), (55, .iload_n 2, []), (56, .putfield 173, [4, 3, 0, 1]), (59, .goto 33, [92])], 62),
  (62, [0, 1, 2], [(62, .aload_n 1, []), (63, .getstatic 67, [0, 18]), (66, .if_acmp .ne 14, [80]), (69, .aload_n 0, []), (70, .getfield 161, [2, 1, 2, 1]), (73, .iload_n 2, []), (74, .putfield 176, [4, 4, 0, 1]), (77, .goto 15, [92])], 80),
  (80, [0, 1, 2], [(80, .aload_n 1, []), (81, .getstatic 70, [0, 19]), (84, .if_acmp .ne 8, [92]), (87, .aload_n 0, []), (88, .iload_n 2, []), (89, .putfield 179, [2, 6, 0, 1])], 92),
  (92, [], [(92, .return_, [])], 93)]
def rX7_set : xRow := ((yX7_set, cX7_set, 3, none, 0, 0), bX7_set, pX7)
def pX9 : xPool := [(3, 7, [0, 4, 5]), (2, 9, [4, 47, 1, 9, 1, 9, 5]), (0, 10, [7, 0, 2, 2]), (0, 16, [7, 4, 0, 0]), (0, 20, [7, 5, 0, 0]), (2, 23, [1, 22, 1, 0, 0, 0, 3]), (2, 29, [1, 101, 4, 9, 0, 0, 8]), (0, 33, [2, 0, 2, 1]), (0, 37, [5, 0, 0, 1]), (0, 10, [7, 0, 2, 0]), (0, 42, [2, 1, 2, 1]), (2, 45, [1, 49, 2, 9, 0, 0, 5]), (2, 49, [1, 58, 6, 9, 0, 0, 5]), (0, 53, [5, 1, 0, 1]), (2, 56, [0, 77, 3, 0, 0, 0, 0]), (0, 60, [4, 0, 2, 1]), (2, 63, [1, 102, 5, 9, 0, 0, 8]), (2, 67, [1, 52, 1, 0, 0, 0, 5]), (0, 70, [7, 1, 5, 0]), (0, 74, [7, 2, 0, 0]), (0, 77, [7, 3, 0, 0])]
def bX9_init : xBl := [
  (0, [0], [(0, .aload_n 0, []), (1, .invokespecial 1, [0]), (4, .aload_n 0, []), (5, .new 7, [0, 4, 5]), (8, .dup, []), (9, .invokespecial 9, [4, 47, 1, 9, 1, 9, 5]), (12, .putfield 10, [7, 0, 2, 2]), (15, .return_, [])], 16)]
def rX9_init : xRow := ((yX9_init, cX9_init, 1, none, 2, 14), bX9_init, pX9)
def bX9_find : xBl := [
  (0, [0, 1], [(0, .aload_n 0, []), (1, .iconst 1, []), (2, .putfield 16, [7, 4, 0, 0]), (5, .aload_n 0, []), (6, .iconst 0, []), (7, .putfield 20, [7, 5, 0, 0]), (10, .aload_n 1, []), (11, .invokevirtual 23, [1, 22, 1, 0, 0, 0, 3]), (14, .istore_n 2, []), (15, .aload_n 0, []), (16, .aload_n 1, []), (17, .iconst 1, []), (18, .iload_n 2, []), (19, .invokevirtual 29, [1, 101, 4, 9, 0, 0, 8]), (22, .aload_n 0, []), (23, .aload_n 1, []), (24, .iconst 0, []), (25, .iload_n 2, []), (26, .invokevirtual 29, [1, 101, 4, 9, 0, 0, 8]), (29, .return_, [])], 30)]
def rX9_find : xRow := ((yX9_find, cX9_find, 3, none, 0, 0), bX9_find, pX9)
def bX9_tryAll : xBl := [
  (0, [0, 1, 2, 3], [(0, .aload_n 1, []), (1, .getfield 33, [2, 0, 2, 1]), (4, .getfield 37, [5, 0, 0, 1]), (7, .istore 4, []), (9, .iconst 0, []), (10, .istore 5, [])], 12),
  (12, [0, 1, 2, 3, 4, 5], [(12, .iload 5, []), (14, .iload 4, []), (16, .if_icmp .ge 105, [121]), (19, .iload 5, []), (21, .iconst 1, []), (22, .iadd, []), (23, .istore 6, [])], 25),
  (25, [0, 1, 2, 3, 4, 5, 6], [(25, .iload 6, []), (27, .iload 4, []), (29, .if_icmp .ge 86, [115]), (32, .aload_n 0, []), (33, .getfield 10, [7, 0, 2, 0]), (36, .aload_n 1, []), (37, .getfield 42, [2, 1, 2, 1]), (40, .invokevirtual 45, [1, 49, 2, 9, 0, 0, 5]), (43, .aload_n 0, []), (44, .getfield 10, [7, 0, 2, 0]), (47, .aload_n 1, []), (48, .getfield 33, [2, 0, 2, 1]), (51, .iload_n 2, []), (52, .iload 5, []), (54, .iload 6, []), (56, .iload_n 3, []), (57, .invokevirtual 49, [1, 58, 6, 9, 0, 0, 5]), (60, .iload_n 2, []), (61, .ifCond .eq 20, [81]), (64, .aload_n 1, []), (65, .getfield 33, [2, 0, 2, 1]), (68, .getfield 53, [5, 1, 0, 1]), (71, .iload 5, []), (73, .iload 6, []), (75, .invokestatic 56, [0, 77, 3, 0, 0, 0, 0]), (78, .goto 10, [88])], 81),
  (81, [0, 1, 2, 3, 4, 5, 6], [(81, .aload_n 1, []), (82, .getfield 33, [2, 0, 2, 1]), (85, .getfield 53, [5, 1, 0, 1])], 88),
  (88, [0, 1, 2, 3, 4, 5, 6], [(88, .istore 7, []), (90, .aload_n 0, []), (91, .iload_n 2, []), (92, .iload 5, []), (94, .iload 6, []), (96, .aload_n 0, []), (97, .getfield 10, [7, 0, 2, 0]), (100, .getfield 60, [4, 0, 2, 1]), (103, .iload 7, []), (105, .iaload, []), (106, .invokevirtual 63, [1, 102, 5, 9, 0, 0, 8]), (109, .iinc 6 1, []), (112, .goto (-87), [25])], 115),
  (115, [0, 1, 2, 3, 4, 5], [(115, .iinc 5 1, []), (118, .goto (-106), [12])], 121),
  (121, [], [(121, .return_, [])], 122)]
def rX9_tryAll : xRow := ((yX9_tryAll, cX9_tryAll, 8, none, 0, 0), bX9_tryAll, pX9)
def bX9_takeIfLess : xBl := [
  (0, [0, 1, 2, 3, 4], [(0, .aload_n 0, []), (1, .getfield 10, [7, 0, 2, 0]), (4, .invokevirtual 67, [1, 52, 1, 0, 0, 0, 5]), (7, .istore 5, []), (9, .iload 4, []), (11, .i2l, []), (12, .aload_n 0, []), (13, .getfield 20, [7, 5, 0, 0]), (16, .i2l, []), (17, .lmul, []), (18, .aload_n 0, []), (19, .getfield 16, [7, 4, 0, 0]), (22, .i2l, []), (23, .iload 5, []), (25, .i2l, []), (26, .lmul, []), (27, .lcmp, []), (28, .ifCond .ge 30, [58]), (31, .aload_n 0, []), (32, .iload_n 1, []), (33, .putfield 70, [7, 1, 5, 0]), (36, .aload_n 0, []), (37, .iload_n 2, []), (38, .putfield 74, [7, 2, 0, 0]), (41, .aload_n 0, []), (42, .iload_n 3, []), (43, .putfield 77, [7, 3, 0, 0]), (46, .aload_n 0, []), (47, .iload 4, []), (49, .putfield 16, [7, 4, 0, 0]), (52, .aload_n 0, []), (53, .iload 5, []), (55, .putfield 20, [7, 5, 0, 0])], 58),
  (58, [], [(58, .return_, [])], 59)]
def rX9_takeIfLess : xRow := ((yX9_takeIfLess, cX9_takeIfLess, 6, none, 0, 0), bX9_takeIfLess, pX9)
def bX9_number : xBl := [
  (0, [0, 1], [(0, .iload_n 1, []), (1, .tableswitch 59 0 3 #[31, 44, 49, 54], [60, 0, 32, 45, 50, 55])], 32),
  (32, [0], [(32, .aload_n 0, []), (33, .getfield 70, [7, 1, 5, 0]), (36, .ifCond .eq 7, [43]), (39, .iconst 0, []), (40, .goto 4, [44])], 43),
  (43, [], [(43, .iconst 1, [])], 44),
  (44, [], [(44, .ireturn, [0])], 45),
  (45, [0], [(45, .aload_n 0, []), (46, .getfield 74, [7, 2, 0, 0]), (49, .ireturn, [0])], 50),
  (50, [0], [(50, .aload_n 0, []), (51, .getfield 77, [7, 3, 0, 0]), (54, .ireturn, [0])], 55),
  (55, [0], [(55, .aload_n 0, []), (56, .getfield 16, [7, 4, 0, 0]), (59, .ireturn, [0])], 60),
  (60, [0], [(60, .aload_n 0, []), (61, .getfield 20, [7, 5, 0, 0]), (64, .ireturn, [0])], 65)]
def rX9_number : xRow := ((yX9_number, cX9_number, 2, (some .int), 0, 0), bX9_number, pX9)
end
section
/-! THE TABLE (X10): blocks of the methods as the class file has them, written by wip/whole/gentab.py. -/
def pX10 : xPool := [(3, 9, [0, 3, 10]), (2, 11, [4, 30, 1, 9, 4, 2003, 4]), (0, 12, [8, 0, 2, 2]), (3, 16, [0, 6, 6]), (2, 18, [4, 79, 1, 9, 4, 240, 7]), (0, 19, [8, 1, 2, 2]), (3, 23, [0, 7, 6]), (2, 25, [4, 99, 1, 9, 2, 14, 8]), (0, 26, [8, 2, 2, 2]), (3, 30, [0, 2, 9]), (2, 32, [2, 18, 1, 9, 11, 568, 3]), (0, 33, [8, 3, 2, 2]), (4, 30, [5]), (0, 37, [8, 4, 2, 2]), (0, 37, [8, 4, 2, 0]), (0, 12, [8, 0, 2, 0]), (2, 41, [1, 31, 2, 0, 0, 0, 4]), (2, 45, [1, 32, 2, 9, 0, 0, 4]), (0, 49, [3, 1, 0, 1]), (2, 53, [5, 136, 2, 9, 1, 6, 9]), (2, 56, [1, 33, 2, 9, 0, 0, 4]), (0, 33, [8, 3, 2, 0]), (2, 59, [0, 90, 2, 0, 0, 0, 0]), (0, 65, [3, 8, 0, 1]), (2, 68, [1, 134, 1, 2, 0, 0, 9]), (2, 72, [1, 20, 2, 9, 0, 0, 3]), (0, 76, [2, 0, 2, 1]), (0, 80, [5, 0, 0, 1]), (0, 19, [8, 1, 2, 0]), (2, 85, [1, 80, 1, 9, 0, 0, 7]), (2, 88, [3, 81, 3, 0, 0, 0, 7]), (1, 92, [0, 0]), (2, 98, [1, 44, 2, 0, 0, 0, 4]), (0, 102, [6, 4, 0, 1]), (2, 105, [3, 86, 5, 0, 0, 0, 7]), (0, 109, [6, 5, 0, 1]), (0, 112, [3, 9, 0, 1]), (2, 115, [5, 140, 3, 9, 1, 6, 9]), (2, 119, [1, 133, 1, 2, 0, 0, 9]), (2, 122, [1, 21, 2, 0, 0, 0, 3]), (2, 126, [5, 137, 2, 9, 1, 6, 9]), (2, 129, [1, 75, 3, 0, 0, 0, 6]), (2, 132, [5, 139, 2, 9, 1, 6, 9]), (0, 135, [2, 1, 2, 1]), (0, 139, [4, 0, 2, 1]), (2, 145, [1, 52, 1, 0, 0, 0, 5]), (2, 149, [1, 53, 1, 0, 0, 0, 5]), (2, 152, [1, 55, 1, 0, 0, 0, 5]), (0, 162, [2, 2, 2, 1]), (2, 166, [1, 5, 2, 0, 0, 0, 1]), (0, 171, [2, 3, 2, 1]), (2, 175, [1, 15, 3, 0, 0, 0, 2]), (2, 181, [1, 78, 1, 0, 0, 0, 6]), (2, 186, [0, 141, 2, 0, 1, 7, 0]), (0, 26, [8, 2, 2, 0]), (2, 189, [1, 100, 2, 9, 0, 0, 8]), (2, 192, [1, 103, 2, 0, 0, 0, 8]), (0, 195, [7, 1, 5, 1]), (0, 199, [7, 2, 0, 1]), (0, 202, [7, 3, 0, 1]), (2, 205, [1, 25, 4, 0, 0, 0, 3]), (0, 209, [5, 1, 0, 1]), (2, 212, [5, 138, 3, 9, 3, 18, 9]), (2, 215, [1, 26, 2, 0, 0, 0, 3]), (2, 218, [1, 23, 2, 0, 0, 0, 3]), (2, 226, [1, 135, 2, 0, 0, 0, 9]), (2, 229, [1, 24, 1, 0, 0, 0, 3]), (2, 235, [1, 28, 2, 0, 0, 0, 3]), (0, 240, [2, 6, 0, 1]), (2, 245, [1, 29, 3, 0, 0, 0, 3]), (2, 248, [1, 73, 2, 0, 0, 0, 6]), (2, 251, [1, 74, 3, 9, 0, 0, 6]), (2, 257, [1, 3, 1, 0, 0, 0, 1]), (2, 262, [1, 4, 3, 9, 0, 0, 1]), (0, 265, [0, 2, 0, 1]), (2, 268, [1, 56, 2, 0, 0, 0, 5]), (0, 276, [8, 6, 0, 0]), (0, 279, [8, 5, 0, 0]), (2, 291, [1, 71, 2, 0, 0, 0, 6])]
def bX10_init : xBl := [
  (0, [0], [(0, .aload_n 0, []), (1, .invokespecial 3, [0]), (4, .aload_n 0, []), (5, .new 9, [0, 3, 10]), (8, .dup, []), (9, .invokespecial 11, [4, 30, 1, 9, 4, 2003, 4]), (12, .putfield 12, [8, 0, 2, 2]), (15, .aload_n 0, []), (16, .new 16, [0, 6, 6]), (19, .dup, []), (20, .invokespecial 18, [4, 79, 1, 9, 4, 240, 7]), (23, .putfield 19, [8, 1, 2, 2]), (26, .aload_n 0, []), (27, .new 23, [0, 7, 6]), (30, .dup, []), (31, .invokespecial 25, [4, 99, 1, 9, 2, 14, 8]), (34, .putfield 26, [8, 2, 2, 2]), (37, .aload_n 0, []), (38, .new 30, [0, 2, 9]), (41, .dup, []), (42, .invokespecial 32, [2, 18, 1, 9, 11, 568, 3]), (45, .putfield 33, [8, 3, 2, 2]), (48, .aload_n 0, []), (49, .bipush 9, []), (51, .anewarray 30, [5]), (54, .putfield 37, [8, 4, 2, 2]), (57, .iconst 0, []), (58, .istore_n 1, [])], 59),
  (59, [0, 1], [(59, .iload_n 1, []), (60, .aload_n 0, []), (61, .getfield 37, [8, 4, 2, 0]), (64, .arraylength, []), (65, .if_icmp .ge 22, [87]), (68, .aload_n 0, []), (69, .getfield 37, [8, 4, 2, 0]), (72, .iload_n 1, []), (73, .new 30, [0, 2, 9]), (76, .dup, []), (77, .invokespecial 32, [2, 18, 1, 9, 11, 568, 3]), (80, .aastore, []), (81, .iinc 1 1, []), (84, .goto (-25), [59])], 87),
  (87, [], [(87, .return_, [])], 88)]
def rX10_init : xRow := ((yX10_init, cX10_init, 2, none, 134, 8058), bX10_init, pX10)
def bX10_append : xBl := [
  (0, [0, 1, 2, 3, 4, 5], [(0, .aload_n 0, []), (1, .getfield 12, [8, 0, 2, 0]), (4, .bipush 20, []), (6, .invokevirtual 41, [1, 31, 2, 0, 0, 0, 4]), (9, .ifCond .ne 5, [14]), (12, .iconst (-1), []), (13, .ireturn, [0])], 14),
  (14, [0, 1, 2, 3, 4, 5], [(14, .aload_n 0, []), (15, .getfield 12, [8, 0, 2, 0]), (18, .iload_n 1, []), (19, .invokevirtual 45, [1, 32, 2, 9, 0, 0, 4]), (22, .aload_n 0, []), (23, .getfield 12, [8, 0, 2, 0]), (26, .iload_n 2, []), (27, .invokevirtual 45, [1, 32, 2, 9, 0, 0, 4]), (30, .aload_n 0, []), (31, .getfield 12, [8, 0, 2, 0]), (34, .iload_n 3, []), (35, .invokevirtual 45, [1, 32, 2, 9, 0, 0, 4]), (38, .aload_n 0, []), (39, .getfield 12, [8, 0, 2, 0]), (42, .iload 4, []), (44, .invokevirtual 45, [1, 32, 2, 9, 0, 0, 4]), (47, .aload_n 0, []), (48, .getfield 12, [8, 0, 2, 0]), (51, .iload 5, []), (53, .invokevirtual 45, [1, 32, 2, 9, 0, 0, 4]), (56, .aload_n 0, []), (57, .getfield 12, [8, 0, 2, 0]), (60, .getfield 49, [3, 1, 0, 1]), (63, .ireturn, [0])], 64)]
def rX10_append : xRow := ((yX10_append, cX10_append, 6, (some .int), 0, 0), bX10_append, pX10)
def bX10_load : xBl := [
  (0, [0, 1], [(0, .aload_n 0, []), (1, .iload_n 1, []), (2, .invokevirtual 53, [5, 136, 2, 9, 1, 6, 9]), (5, .aload_n 0, []), (6, .getfield 12, [8, 0, 2, 0]), (9, .iload_n 1, []), (10, .invokevirtual 56, [1, 33, 2, 9, 0, 0, 4]), (13, .aload_n 0, []), (14, .getfield 12, [8, 0, 2, 0]), (17, .aload_n 0, []), (18, .getfield 33, [8, 3, 2, 0]), (21, .invokestatic 59, [0, 90, 2, 0, 0, 0, 0]), (24, .ifCond .ne 11, [35]), (27, .aload_n 0, []), (28, .getfield 12, [8, 0, 2, 0]), (31, .getfield 65, [3, 8, 0, 1]), (34, .ireturn, [0])], 35),
  (35, [0], [(35, .aload_n 0, []), (36, .invokevirtual 68, [1, 134, 1, 2, 0, 0, 9]), (39, .aload_n 0, []), (40, .getfield 33, [8, 3, 2, 0]), (43, .invokevirtual 72, [1, 20, 2, 9, 0, 0, 3]), (46, .aload_n 0, []), (47, .getfield 33, [8, 3, 2, 0]), (50, .getfield 76, [2, 0, 2, 1]), (53, .getfield 80, [5, 0, 0, 1]), (56, .ireturn, [0])], 57)]
def rX10_load : xRow := ((yX10_load, cX10_load, 2, (some .int), 1, 6), bX10_load, pX10)
def bX10_run : xBl := [
  (0, [0, 1], [(0, .aload_n 0, []), (1, .iload_n 1, []), (2, .invokevirtual 53, [5, 136, 2, 9, 1, 6, 9]), (5, .aload_n 0, []), (6, .getfield 12, [8, 0, 2, 0]), (9, .iload_n 1, []), (10, .invokevirtual 56, [1, 33, 2, 9, 0, 0, 4]), (13, .aload_n 0, []), (14, .getfield 19, [8, 1, 2, 0]), (17, .invokevirtual 85, [1, 80, 1, 9, 0, 0, 7]), (20, .aload_n 0, []), (21, .getfield 19, [8, 1, 2, 0]), (24, .aload_n 0, []), (25, .getfield 12, [8, 0, 2, 0]), (28, .iconst 0, []), (29, .invokevirtual 88, [3, 81, 3, 0, 0, 0, 7]), (32, .ifCond .eq 16, [48]), (35, .aload_n 0, []), (36, .getfield 12, [8, 0, 2, 0]), (39, .getstatic 92, [0, 0]), (42, .invokevirtual 98, [1, 44, 2, 0, 0, 0, 4]), (45, .ifCond .ne 11, [56])], 48),
  (48, [0], [(48, .aload_n 0, []), (49, .getfield 12, [8, 0, 2, 0]), (52, .getfield 65, [3, 8, 0, 1]), (55, .ireturn, [0])], 56),
  (56, [0], [(56, .aload_n 0, []), (57, .getfield 19, [8, 1, 2, 0]), (60, .aload_n 0, []), (61, .invokevirtual 68, [1, 134, 1, 2, 0, 0, 9]), (64, .iconst 0, []), (65, .aload_n 0, []), (66, .getfield 19, [8, 1, 2, 0]), (69, .getfield 102, [6, 4, 0, 1]), (72, .iconst 0, []), (73, .invokevirtual 105, [3, 86, 5, 0, 0, 0, 7]), (76, .pop, []), (77, .aload_n 0, []), (78, .getfield 19, [8, 1, 2, 0]), (81, .getfield 109, [6, 5, 0, 1]), (84, .ireturn, [0])], 85)]
def rX10_run : xRow := ((yX10_run, cX10_run, 2, (some .int), 1, 6), bX10_run, pX10)
def bX10_errorOffset : xBl := [
  (0, [0], [(0, .aload_n 0, []), (1, .getfield 12, [8, 0, 2, 0]), (4, .getfield 112, [3, 9, 0, 1]), (7, .ireturn, [0])], 8)]
def rX10_errorOffset : xRow := ((yX10_errorOffset, cX10_errorOffset, 1, (some .int), 0, 0), bX10_errorOffset, pX10)
def bX10_state : xBl := [
  (0, [0, 1], [(0, .aload_n 0, []), (1, .iload_n 1, []), (2, .bipush 12, []), (4, .invokevirtual 115, [5, 140, 3, 9, 1, 6, 9]), (7, .aload_n 0, []), (8, .invokevirtual 119, [1, 133, 1, 2, 0, 0, 9]), (11, .iload_n 1, []), (12, .invokevirtual 122, [1, 21, 2, 0, 0, 0, 3]), (15, .ireturn, [0])], 16)]
def rX10_state : xRow := ((yX10_state, cX10_state, 2, (some .int), 1, 6), bX10_state, pX10)
def bX10_shell : xBl := [
  (0, [0, 1, 2], [(0, .aload_n 0, []), (1, .iload_n 1, []), (2, .invokevirtual 126, [5, 137, 2, 9, 1, 6, 9]), (5, .aload_n 0, []), (6, .iload_n 2, []), (7, .iconst 3, []), (8, .invokevirtual 115, [5, 140, 3, 9, 1, 6, 9]), (11, .aload_n 0, []), (12, .invokevirtual 119, [1, 133, 1, 2, 0, 0, 9]), (15, .getfield 76, [2, 0, 2, 1]), (18, .iload_n 1, []), (19, .iload_n 2, []), (20, .invokevirtual 129, [1, 75, 3, 0, 0, 0, 6]), (23, .ireturn, [0])], 24)]
def rX10_shell : xRow := ((yX10_shell, cX10_shell, 3, (some .int), 2, 12), bX10_shell, pX10)
def bX10_belief : xBl := [
  (0, [0, 1], [(0, .aload_n 0, []), (1, .iload_n 1, []), (2, .invokevirtual 132, [5, 139, 2, 9, 1, 6, 9]), (5, .aload_n 0, []), (6, .invokevirtual 119, [1, 133, 1, 2, 0, 0, 9]), (9, .getfield 135, [2, 1, 2, 1]), (12, .getfield 139, [4, 0, 2, 1]), (15, .iload_n 1, []), (16, .iaload, []), (17, .ireturn, [0])], 18)]
def rX10_belief : xRow := ((yX10_belief, cX10_belief, 2, (some .int), 1, 6), bX10_belief, pX10)
def bX10_chance : xBl := [
  (0, [0, 1], [(0, .aload_n 0, []), (1, .iload_n 1, []), (2, .invokevirtual 132, [5, 139, 2, 9, 1, 6, 9]), (5, .aload_n 0, []), (6, .invokevirtual 119, [1, 133, 1, 2, 0, 0, 9]), (9, .getfield 135, [2, 1, 2, 1]), (12, .astore_n 2, []), (13, .aload_n 2, []), (14, .invokevirtual 145, [1, 52, 1, 0, 0, 0, 5]), (17, .istore_n 3, []), (18, .iload_n 3, []), (19, .ifCond .le 16, [35]), (22, .aload_n 2, []), (23, .getfield 139, [4, 0, 2, 1]), (26, .iload_n 1, []), (27, .iaload, []), (28, .i2d, []), (29, .iload_n 3, []), (30, .i2d, []), (31, .ddiv, []), (32, .goto 4, [36])], 35),
  (35, [], [(35, .dconst 0, [0])], 36),
  (36, [], [(36, .dreturn, [])], 37)]
def rX10_chance : xRow := ((yX10_chance, cX10_chance, 4, (some .double), 1, 6), bX10_chance, pX10)
def bX10_doubt : xBl := [
  (0, [0], [(0, .aload_n 0, []), (1, .invokevirtual 119, [1, 133, 1, 2, 0, 0, 9]), (4, .getfield 135, [2, 1, 2, 1]), (7, .astore_n 1, []), (8, .aload_n 1, []), (9, .invokevirtual 145, [1, 52, 1, 0, 0, 0, 5]), (12, .istore_n 2, []), (13, .iload_n 2, []), (14, .ifCond .le 16, [30]), (17, .fconst 1, [1]), (18, .aload_n 1, []), (19, .invokevirtual 149, [1, 53, 1, 0, 0, 0, 5]), (22, .i2f, []), (23, .iload_n 2, []), (24, .i2f, []), (25, .fdiv, []), (26, .fsub, []), (27, .goto 4, [31])], 30),
  (30, [], [(30, .fconst 0, [0])], 31),
  (31, [], [(31, .freturn, [])], 32)]
def rX10_doubt : xRow := ((yX10_doubt, cX10_doubt, 3, (some .float), 0, 0), bX10_doubt, pX10)
def bX10_guess : xBl := [
  (0, [0], [(0, .aload_n 0, []), (1, .invokevirtual 119, [1, 133, 1, 2, 0, 0, 9]), (4, .getfield 135, [2, 1, 2, 1]), (7, .invokevirtual 152, [1, 55, 1, 0, 0, 0, 5]), (10, .ireturn, [0])], 11)]
def rX10_guess : xRow := ((yX10_guess, cX10_guess, 1, (some .int), 0, 0), bX10_guess, pX10)
def bX10_blinks : xBl := [
  (0, [0, 1], [(0, .iload_n 1, []), (1, .ifCond .lt 10, [11]), (4, .iload_n 1, []), (5, .sipush 20000, []), (8, .if_icmp .le 13, [21])], 11),
  (11, [], [(11, .new 155, [1, 0, 157, 159])], 14),
  (21, [0, 1], [(21, .aload_n 0, []), (22, .invokevirtual 119, [1, 133, 1, 2, 0, 0, 9]), (25, .getfield 162, [2, 2, 2, 1]), (28, .iload_n 1, []), (29, .invokevirtual 166, [1, 5, 2, 0, 0, 0, 1]), (32, .ireturn, [5])], 33)]
def rX10_blinks : xRow := ((yX10_blinks, cX10_blinks, 2, (some .boolean), 1, 6), bX10_blinks, pX10)
def bX10_odds : xBl := [
  (0, [0, 1], [(0, .aload_n 0, []), (1, .iload_n 1, []), (2, .invokevirtual 126, [5, 137, 2, 9, 1, 6, 9]), (5, .aload_n 0, []), (6, .invokevirtual 119, [1, 133, 1, 2, 0, 0, 9]), (9, .astore_n 2, []), (10, .aload_n 2, []), (11, .getfield 171, [2, 3, 2, 1]), (14, .aload_n 2, []), (15, .iload_n 1, []), (16, .invokevirtual 175, [1, 15, 3, 0, 0, 0, 2]), (19, .ireturn, [0])], 20)]
def rX10_odds : xRow := ((yX10_odds, cX10_odds, 3, (some .int), 1, 6), bX10_odds, pX10)
def bX10_fewest : xBl := [
  (0, [0], [(0, .aload_n 0, []), (1, .invokevirtual 119, [1, 133, 1, 2, 0, 0, 9]), (4, .getfield 76, [2, 0, 2, 1]), (7, .invokevirtual 181, [1, 78, 1, 0, 0, 0, 6]), (10, .ireturn, [0])], 11)]
def rX10_fewest : xRow := ((yX10_fewest, cX10_fewest, 1, (some .int), 0, 0), bX10_fewest, pX10)
def bX10_rows : xBl := [
  (0, [0, 1], [(0, .iload_n 1, []), (1, .ifCond .lt 9, [10]), (4, .iload_n 1, []), (5, .bipush 6, []), (7, .if_icmp .le 13, [20])], 10),
  (10, [], [(10, .new 155, [1, 0, 184, 159])], 13),
  (20, [0, 1], [(20, .aload_n 0, []), (21, .invokevirtual 119, [1, 133, 1, 2, 0, 0, 9]), (24, .getfield 76, [2, 0, 2, 1]), (27, .getfield 80, [5, 0, 0, 1]), (30, .istore_n 2, []), (31, .iload_n 2, []), (32, .bipush 6, []), (34, .if_icmp .le 8, [42]), (37, .bipush (-2), []), (39, .goto 8, [47])], 42),
  (42, [1, 2], [(42, .iload_n 2, []), (43, .iload_n 1, []), (44, .invokestatic 186, [0, 141, 2, 0, 1, 7, 0])], 47),
  (47, [], [(47, .ireturn, [0])], 48)]
def rX10_rows : xRow := ((yX10_rows, cX10_rows, 3, (some .int), 1, 7), bX10_rows, pX10)
def bX10_fool : xBl := [
  (0, [0, 1], [(0, .aload_n 0, []), (1, .iload_n 1, []), (2, .iconst 4, []), (3, .invokevirtual 115, [5, 140, 3, 9, 1, 6, 9]), (6, .aload_n 0, []), (7, .getfield 26, [8, 2, 2, 0]), (10, .aload_n 0, []), (11, .invokevirtual 119, [1, 133, 1, 2, 0, 0, 9]), (14, .invokevirtual 189, [1, 100, 2, 9, 0, 0, 8]), (17, .aload_n 0, []), (18, .getfield 26, [8, 2, 2, 0]), (21, .iload_n 1, []), (22, .invokevirtual 192, [1, 103, 2, 0, 0, 0, 8]), (25, .ireturn, [0])], 26)]
def rX10_fool : xRow := ((yX10_fool, cX10_fool, 2, (some .int), 1, 6), bX10_fool, pX10)
def bX10_caught : xBl := [
  (0, [0, 1], [(0, .iload_n 1, []), (1, .iconst 1, []), (2, .if_icmp .lt 9, [11]), (5, .iload_n 1, []), (6, .bipush 20, []), (8, .if_icmp .le 13, [21])], 11),
  (11, [], [(11, .new 155, [1, 0, 193, 159])], 14),
  (21, [0, 1], [(21, .aload_n 0, []), (22, .getfield 33, [8, 3, 2, 0]), (25, .aload_n 0, []), (26, .invokevirtual 119, [1, 133, 1, 2, 0, 0, 9]), (29, .invokevirtual 72, [1, 20, 2, 9, 0, 0, 3]), (32, .iconst 0, []), (33, .istore_n 2, []), (34, .iconst 0, []), (35, .istore_n 3, [])], 36),
  (36, [0, 1, 2, 3], [(36, .iload_n 3, []), (37, .iload_n 1, []), (38, .if_icmp .ge 75, [113]), (41, .aload_n 0, []), (42, .getfield 26, [8, 2, 2, 0]), (45, .aload_n 0, []), (46, .getfield 33, [8, 3, 2, 0]), (49, .invokevirtual 189, [1, 100, 2, 9, 0, 0, 8]), (52, .aload_n 0, []), (53, .getfield 33, [8, 3, 2, 0]), (56, .aload_n 0, []), (57, .getfield 26, [8, 2, 2, 0]), (60, .getfield 195, [7, 1, 5, 1]), (63, .aload_n 0, []), (64, .getfield 26, [8, 2, 2, 0]), (67, .getfield 199, [7, 2, 0, 1]), (70, .aload_n 0, []), (71, .getfield 26, [8, 2, 2, 0]), (74, .getfield 202, [7, 3, 0, 1]), (77, .invokevirtual 205, [1, 25, 4, 0, 0, 0, 3]), (80, .pop, []), (81, .aload_n 0, []), (82, .getfield 33, [8, 3, 2, 0]), (85, .getfield 76, [2, 0, 2, 1]), (88, .getfield 209, [5, 1, 0, 1]), (91, .aload_n 0, []), (92, .getfield 33, [8, 3, 2, 0]), (95, .getfield 135, [2, 1, 2, 1]), (98, .invokevirtual 152, [1, 55, 1, 0, 0, 0, 5]), (101, .if_icmp .ne 6, [107]), (104, .iinc 2 1, [])], 107),
  (107, [0, 1, 2, 3], [(107, .iinc 3 1, []), (110, .goto (-74), [36])], 113),
  (113, [2], [(113, .iload_n 2, []), (114, .ireturn, [0])], 115)]
def rX10_caught : xRow := ((yX10_caught, cX10_caught, 4, (some .int), 1, 6), bX10_caught, pX10)
def bX10_swap : xBl := [
  (0, [0, 1, 2], [(0, .aload_n 0, []), (1, .iload_n 1, []), (2, .iload_n 2, []), (3, .invokevirtual 212, [5, 138, 3, 9, 3, 18, 9]), (6, .aload_n 0, []), (7, .invokevirtual 68, [1, 134, 1, 2, 0, 0, 9]), (10, .iconst 1, []), (11, .iload_n 1, []), (12, .iload_n 2, []), (13, .invokevirtual 205, [1, 25, 4, 0, 0, 0, 3]), (16, .ireturn, [5])], 17)]
def rX10_swap : xRow := ((yX10_swap, cX10_swap, 3, (some .boolean), 3, 18), bX10_swap, pX10)
def bX10_feint : xBl := [
  (0, [0, 1, 2], [(0, .aload_n 0, []), (1, .iload_n 1, []), (2, .iload_n 2, []), (3, .invokevirtual 212, [5, 138, 3, 9, 3, 18, 9]), (6, .aload_n 0, []), (7, .invokevirtual 68, [1, 134, 1, 2, 0, 0, 9]), (10, .iconst 0, []), (11, .iload_n 1, []), (12, .iload_n 2, []), (13, .invokevirtual 205, [1, 25, 4, 0, 0, 0, 3]), (16, .ireturn, [5])], 17)]
def rX10_feint : xRow := ((yX10_feint, cX10_feint, 3, (some .boolean), 3, 18), bX10_feint, pX10)
def bX10_rest : xBl := [
  (0, [0], [(0, .aload_n 0, []), (1, .invokevirtual 68, [1, 134, 1, 2, 0, 0, 9]), (4, .aload_n 0, []), (5, .invokevirtual 119, [1, 133, 1, 2, 0, 0, 9]), (8, .getfield 76, [2, 0, 2, 1]), (11, .getfield 209, [5, 1, 0, 1]), (14, .invokevirtual 215, [1, 26, 2, 0, 0, 0, 3]), (17, .ireturn, [5])], 18)]
def rX10_rest : xRow := ((yX10_rest, cX10_rest, 1, (some .boolean), 0, 0), bX10_rest, pX10)
def bX10_steal : xBl := [
  (0, [0, 1], [(0, .aload_n 0, []), (1, .iload_n 1, []), (2, .invokevirtual 126, [5, 137, 2, 9, 1, 6, 9]), (5, .aload_n 0, []), (6, .invokevirtual 119, [1, 133, 1, 2, 0, 0, 9]), (9, .iload_n 1, []), (10, .invokevirtual 218, [1, 23, 2, 0, 0, 0, 3]), (13, .ifCond .ne 13, [26]), (16, .new 221, [1, 2, 223, 225])], 19),
  (26, [0], [(26, .aload_n 0, []), (27, .aload_n 0, []), (28, .invokevirtual 119, [1, 133, 1, 2, 0, 0, 9]), (31, .getfield 76, [2, 0, 2, 1]), (34, .getfield 80, [5, 0, 0, 1]), (37, .invokevirtual 226, [1, 135, 2, 0, 0, 0, 9]), (40, .ireturn, [0])], 41)]
def rX10_steal : xRow := ((yX10_steal, cX10_steal, 2, (some .int), 2, 12), bX10_steal, pX10)
def bX10_plant : xBl := [
  (0, [0, 1], [(0, .aload_n 0, []), (1, .iload_n 1, []), (2, .invokevirtual 126, [5, 137, 2, 9, 1, 6, 9]), (5, .aload_n 0, []), (6, .invokevirtual 119, [1, 133, 1, 2, 0, 0, 9]), (9, .invokevirtual 229, [1, 24, 1, 0, 0, 0, 3]), (12, .ifCond .ne 13, [25]), (15, .new 221, [1, 2, 233, 225])], 18),
  (25, [0, 1], [(25, .aload_n 0, []), (26, .iload_n 1, []), (27, .invokevirtual 226, [1, 135, 2, 0, 0, 0, 9]), (30, .ireturn, [0])], 31)]
def rX10_plant : xRow := ((yX10_plant, cX10_plant, 2, (some .int), 2, 12), bX10_plant, pX10)
def bX10_peek : xBl := [
  (0, [0, 1], [(0, .aload_n 0, []), (1, .iload_n 1, []), (2, .invokevirtual 126, [5, 137, 2, 9, 1, 6, 9]), (5, .aload_n 0, []), (6, .invokevirtual 68, [1, 134, 1, 2, 0, 0, 9]), (9, .iload_n 1, []), (10, .invokevirtual 235, [1, 28, 2, 0, 0, 0, 3]), (13, .ireturn, [5])], 14)]
def rX10_peek : xRow := ((yX10_peek, cX10_peek, 2, (some .boolean), 1, 6), bX10_peek, pX10)
def bX10_bet : xBl := [
  (0, [0, 1, 2], [(0, .aload_n 0, []), (1, .iload_n 1, []), (2, .invokevirtual 126, [5, 137, 2, 9, 1, 6, 9]), (5, .iload_n 2, []), (6, .iconst 1, []), (7, .if_icmp .lt 10, [17]), (10, .iload_n 2, []), (11, .sipush 999, []), (14, .if_icmp .le 13, [27])], 17),
  (17, [], [(17, .new 155, [1, 0, 238, 159])], 20),
  (27, [0, 1, 2], [(27, .aload_n 0, []), (28, .invokevirtual 119, [1, 133, 1, 2, 0, 0, 9]), (31, .getfield 240, [2, 6, 0, 1]), (34, .iload_n 2, []), (35, .if_icmp .ge 13, [48]), (38, .new 221, [1, 2, 243, 225])], 41),
  (48, [0, 1, 2], [(48, .aload_n 0, []), (49, .invokevirtual 68, [1, 134, 1, 2, 0, 0, 9]), (52, .iload_n 1, []), (53, .iload_n 2, []), (54, .invokevirtual 245, [1, 29, 3, 0, 0, 0, 3]), (57, .ireturn, [0])], 58)]
def rX10_bet : xRow := ((yX10_bet, cX10_bet, 3, (some .int), 2, 12), bX10_bet, pX10)
def bX10_scratch : xBl := [
  (0, [0, 1, 2], [(0, .aload_n 0, []), (1, .iload_n 1, []), (2, .invokevirtual 126, [5, 137, 2, 9, 1, 6, 9]), (5, .aload_n 0, []), (6, .invokevirtual 68, [1, 134, 1, 2, 0, 0, 9]), (9, .getfield 76, [2, 0, 2, 1]), (12, .astore_n 3, []), (13, .aload_n 3, []), (14, .iload_n 1, []), (15, .invokevirtual 248, [1, 73, 2, 0, 0, 0, 6]), (18, .istore 4, []), (20, .aload_n 3, []), (21, .iload_n 1, []), (22, .iload_n 2, []), (23, .invokevirtual 251, [1, 74, 3, 9, 0, 0, 6]), (26, .iload 4, []), (28, .ireturn, [5])], 29)]
def rX10_scratch : xRow := ((yX10_scratch, cX10_scratch, 5, (some .boolean), 1, 6), bX10_scratch, pX10)
def bX10_blink : xBl := [
  (0, [0, 1, 2], [(0, .iload_n 1, []), (1, .ifCond .lt 22, [23]), (4, .iload_n 1, []), (5, .sipush 9999, []), (8, .if_icmp .gt 15, [23]), (11, .iload_n 2, []), (12, .iload_n 1, []), (13, .if_icmp .lt 10, [23]), (16, .iload_n 2, []), (17, .sipush 9999, []), (20, .if_icmp .le 13, [33])], 23),
  (23, [], [(23, .new 155, [1, 0, 255, 159])], 26),
  (33, [0, 1, 2], [(33, .aload_n 0, []), (34, .invokevirtual 119, [1, 133, 1, 2, 0, 0, 9]), (37, .getfield 162, [2, 2, 2, 1]), (40, .invokevirtual 257, [1, 3, 1, 0, 0, 0, 1]), (43, .ifCond .eq 14, [57]), (46, .new 221, [1, 2, 260, 225])], 49),
  (57, [0, 1, 2], [(57, .aload_n 0, []), (58, .invokevirtual 68, [1, 134, 1, 2, 0, 0, 9]), (61, .getfield 162, [2, 2, 2, 1]), (64, .astore_n 3, []), (65, .aload_n 3, []), (66, .iload_n 1, []), (67, .iload_n 2, []), (68, .invokevirtual 262, [1, 4, 3, 9, 0, 0, 1]), (71, .aload_n 3, []), (72, .getfield 265, [0, 2, 0, 1]), (75, .ireturn, [0])], 76)]
def rX10_blink : xRow := ((yX10_blink, cX10_blink, 4, (some .int), 1, 6), bX10_blink, pX10)
def bX10_suspect : xBl := [
  (0, [0, 1], [(0, .aload_n 0, []), (1, .invokevirtual 119, [1, 133, 1, 2, 0, 0, 9]), (4, .getfield 135, [2, 1, 2, 1]), (7, .iload_n 1, []), (8, .invokevirtual 268, [1, 56, 2, 0, 0, 0, 5]), (11, .istore_n 2, []), (12, .iload_n 2, []), (13, .ifCond .ge 14, [27]), (16, .new 271, [1, 3, 273, 275])], 19),
  (27, [2], [(27, .iload_n 2, []), (28, .ireturn, [0])], 29)]
def rX10_suspect : xRow := ((yX10_suspect, cX10_suspect, 3, (some .int), 1, 6), bX10_suspect, pX10)
def bX10_undo : xBl := [
  (0, [0], [(0, .aload_n 0, []), (1, .getfield 276, [8, 6, 0, 0]), (4, .ifCond .ne 5, [9]), (7, .iconst (-1), []), (8, .ireturn, [0])], 9),
  (9, [0], [(9, .aload_n 0, []), (10, .aload_n 0, []), (11, .getfield 279, [8, 5, 0, 0]), (14, .ifCond .le 12, [26]), (17, .aload_n 0, []), (18, .getfield 279, [8, 5, 0, 0]), (21, .iconst 1, []), (22, .isub, []), (23, .goto 5, [28])], 26),
  (26, [0], [(26, .bipush 8, [])], 28),
  (28, [0], [(28, .putfield 279, [8, 5, 0, 0]), (31, .aload_n 0, []), (32, .dup, []), (33, .getfield 276, [8, 6, 0, 0]), (36, .iconst 1, []), (37, .isub, []), (38, .putfield 276, [8, 6, 0, 0]), (41, .aload_n 0, []), (42, .getfield 276, [8, 6, 0, 0]), (45, .ireturn, [0])], 46)]
def rX10_undo : xRow := ((yX10_undo, cX10_undo, 1, (some .int), 0, 0), bX10_undo, pX10)
def bX10_checksum : xBl := [
  (0, [0], [(0, .aload_n 0, []), (1, .invokevirtual 119, [1, 133, 1, 2, 0, 0, 9]), (4, .astore_n 1, []), (5, .lconst 0, []), (6, .lstore_n 2, []), (7, .iconst 0, []), (8, .istore 4, [])], 10),
  (10, [1, 2, 4], [(10, .iload 4, []), (12, .bipush 12, []), (14, .if_icmp .gt 23, [37]), (17, .ldc2_w 282, [0, 31]), (20, .lload_n 2, []), (21, .lmul, []), (22, .aload_n 1, []), (23, .iload 4, []), (25, .invokevirtual 122, [1, 21, 2, 0, 0, 0, 3]), (28, .i2l, []), (29, .ladd, []), (30, .lstore_n 2, []), (31, .iinc 4 1, []), (34, .goto (-24), [10])], 37),
  (37, [1, 2], [(37, .aload_n 1, []), (38, .getfield 76, [2, 0, 2, 1]), (41, .getfield 80, [5, 0, 0, 1]), (44, .istore 4, []), (46, .iconst 0, []), (47, .istore 5, [])], 49),
  (49, [1, 2, 4, 5], [(49, .iload 5, []), (51, .iload 4, []), (53, .if_icmp .ge 61, [114]), (56, .iconst 0, []), (57, .istore 6, [])], 59),
  (59, [1, 2, 4, 5, 6], [(59, .iload 6, []), (61, .iconst 3, []), (62, .if_icmp .gt 28, [90]), (65, .ldc2_w 282, [0, 31]), (68, .lload_n 2, []), (69, .lmul, []), (70, .aload_n 1, []), (71, .getfield 76, [2, 0, 2, 1]), (74, .iload 5, []), (76, .iload 6, []), (78, .invokevirtual 129, [1, 75, 3, 0, 0, 0, 6]), (81, .i2l, []), (82, .ladd, []), (83, .lstore_n 2, []), (84, .iinc 6 1, []), (87, .goto (-28), [59])], 90),
  (90, [1, 2, 4, 5], [(90, .ldc2_w 282, [0, 31]), (93, .lload_n 2, []), (94, .lmul, []), (95, .aload_n 1, []), (96, .getfield 135, [2, 1, 2, 1]), (99, .getfield 139, [4, 0, 2, 1]), (102, .iload 5, []), (104, .iaload, []), (105, .i2l, []), (106, .ladd, []), (107, .lstore_n 2, []), (108, .iinc 5 1, []), (111, .goto (-62), [49])], 114),
  (114, [1, 2, 4], [(114, .ldc2_w 282, [0, 31]), (117, .lload_n 2, []), (118, .lmul, []), (119, .aload_n 1, []), (120, .getfield 135, [2, 1, 2, 1]), (123, .getfield 139, [4, 0, 2, 1]), (126, .iload 4, []), (128, .iaload, []), (129, .i2l, []), (130, .ladd, []), (131, .lreturn, [])], 132)]
def rX10_checksum : xRow := ((yX10_checksum, cX10_checksum, 7, (some .long), 0, 0), bX10_checksum, pX10)
def bX10_game : xBl := [
  (0, [0], [(0, .aload_n 0, []), (1, .getfield 37, [8, 4, 2, 0]), (4, .aload_n 0, []), (5, .getfield 279, [8, 5, 0, 0]), (8, .aaload, []), (9, .areturn, [])], 10)]
def rX10_game : xRow := ((yX10_game, cX10_game, 1, (some (.object "ShellWatch$Game")), 0, 0), bX10_game, pX10)
def bX10_change : xBl := [
  (0, [0], [(0, .aload_n 0, []), (1, .getfield 37, [8, 4, 2, 0]), (4, .aload_n 0, []), (5, .getfield 279, [8, 5, 0, 0]), (8, .aaload, []), (9, .astore_n 1, []), (10, .aload_n 0, []), (11, .aload_n 0, []), (12, .getfield 279, [8, 5, 0, 0]), (15, .iconst 1, []), (16, .iadd, []), (17, .bipush 9, []), (19, .if_icmp .ge 12, [31]), (22, .aload_n 0, []), (23, .getfield 279, [8, 5, 0, 0]), (26, .iconst 1, []), (27, .iadd, []), (28, .goto 4, [32])], 31),
  (31, [0, 1], [(31, .iconst 0, [])], 32),
  (32, [0, 1], [(32, .putfield 279, [8, 5, 0, 0]), (35, .aload_n 0, []), (36, .aload_n 0, []), (37, .getfield 276, [8, 6, 0, 0]), (40, .iconst 1, []), (41, .iadd, []), (42, .bipush 8, []), (44, .invokestatic 284, [0, 1]), (47, .putfield 276, [8, 6, 0, 0]), (50, .aload_n 0, []), (51, .getfield 37, [8, 4, 2, 0]), (54, .aload_n 0, []), (55, .getfield 279, [8, 5, 0, 0]), (58, .aaload, []), (59, .aload_n 1, []), (60, .invokevirtual 72, [1, 20, 2, 9, 0, 0, 3]), (63, .aload_n 0, []), (64, .getfield 37, [8, 4, 2, 0]), (67, .aload_n 0, []), (68, .getfield 279, [8, 5, 0, 0]), (71, .aaload, []), (72, .areturn, [])], 73)]
def rX10_change : xRow := ((yX10_change, cX10_change, 2, (some (.object "ShellWatch$Game")), 0, 0), bX10_change, pX10)
def bX10_moveBall : xBl := [
  (0, [0, 1], [(0, .aload_n 0, []), (1, .invokevirtual 68, [1, 134, 1, 2, 0, 0, 9]), (4, .astore_n 2, []), (5, .aload_n 2, []), (6, .iload_n 1, []), (7, .invokevirtual 215, [1, 26, 2, 0, 0, 0, 3]), (10, .pop, []), (11, .aload_n 2, []), (12, .getfield 135, [2, 1, 2, 1]), (15, .invokevirtual 145, [1, 52, 1, 0, 0, 0, 5]), (18, .ireturn, [0])], 19)]
def rX10_moveBall : xRow := ((yX10_moveBall, cX10_moveBall, 3, (some .int), 0, 0), bX10_moveBall, pX10)
def bX10_requireLength : xBl := [
  (0, [0, 1], [(0, .iload_n 1, []), (1, .ifCond .lt 14, [15]), (4, .iload_n 1, []), (5, .aload_n 0, []), (6, .getfield 12, [8, 0, 2, 0]), (9, .getfield 49, [3, 1, 0, 1]), (12, .if_icmp .le 14, [26])], 15),
  (15, [], [(15, .new 155, [1, 0, 289, 159])], 18),
  (26, [], [(26, .return_, [])], 27)]
def rX10_requireLength : xRow := ((yX10_requireLength, cX10_requireLength, 2, none, 1, 6), bX10_requireLength, pX10)
def bX10_requirePlace : xBl := [
  (0, [0, 1], [(0, .aload_n 0, []), (1, .invokevirtual 119, [1, 133, 1, 2, 0, 0, 9]), (4, .getfield 76, [2, 0, 2, 1]), (7, .iload_n 1, []), (8, .invokevirtual 291, [1, 71, 2, 0, 0, 0, 6]), (11, .ifCond .ne 14, [25]), (14, .new 294, [1, 1, 296, 298])], 17),
  (25, [], [(25, .return_, [])], 26)]
def rX10_requirePlace : xRow := ((yX10_requirePlace, cX10_requirePlace, 2, none, 1, 6), bX10_requirePlace, pX10)
def bX10_requireTwoPlaces : xBl := [
  (0, [0, 1, 2], [(0, .aload_n 0, []), (1, .iload_n 1, []), (2, .invokevirtual 126, [5, 137, 2, 9, 1, 6, 9]), (5, .aload_n 0, []), (6, .iload_n 2, []), (7, .invokevirtual 126, [5, 137, 2, 9, 1, 6, 9]), (10, .iload_n 1, []), (11, .iload_n 2, []), (12, .if_icmp .ne 14, [26]), (15, .new 155, [1, 0, 299, 159])], 18),
  (26, [], [(26, .return_, [])], 27)]
def rX10_requireTwoPlaces : xRow := ((yX10_requireTwoPlaces, cX10_requireTwoPlaces, 3, none, 3, 18), bX10_requireTwoPlaces, pX10)
def bX10_requirePlaceOrHand : xBl := [
  (0, [0, 1], [(0, .iload_n 1, []), (1, .ifCond .lt 17, [18]), (4, .iload_n 1, []), (5, .aload_n 0, []), (6, .invokevirtual 119, [1, 133, 1, 2, 0, 0, 9]), (9, .getfield 76, [2, 0, 2, 1]), (12, .getfield 80, [5, 0, 0, 1]), (15, .if_icmp .le 14, [29])], 18),
  (18, [], [(18, .new 155, [1, 0, 301, 159])], 21),
  (29, [], [(29, .return_, [])], 30)]
def rX10_requirePlaceOrHand : xRow := ((yX10_requirePlaceOrHand, cX10_requirePlaceOrHand, 2, none, 1, 6), bX10_requirePlaceOrHand, pX10)
def bX10_requireWhat : xBl := [
  (0, [1, 2], [(0, .iload_n 1, []), (1, .ifCond .lt 8, [9]), (4, .iload_n 1, []), (5, .iload_n 2, []), (6, .if_icmp .le 14, [20])], 9),
  (9, [], [(9, .new 155, [1, 0, 303, 159])], 12),
  (20, [], [(20, .return_, [])], 21)]
def rX10_requireWhat : xRow := ((yX10_requireWhat, cX10_requireWhat, 3, none, 1, 6), bX10_requireWhat, pX10)
def bX10_countRows : xBl := [
  (0, [0, 1], [(0, .bipush 7, []), (2, .newarray .int, [0]), (4, .astore_n 2, []), (5, .aload_n 2, []), (6, .iconst 0, []), (7, .iconst 1, []), (8, .iastore, []), (9, .iconst 1, []), (10, .istore_n 3, [])], 11),
  (11, [0, 1, 2, 3], [(11, .iload_n 3, []), (12, .iload_n 0, []), (13, .if_icmp .ge 39, [52]), (16, .bipush 6, []), (18, .istore 4, [])], 20),
  (20, [0, 1, 2, 3, 4], [(20, .iload 4, []), (22, .ifCond .le 24, [46]), (25, .aload_n 2, []), (26, .iload 4, []), (28, .dup2, []), (29, .iaload, []), (30, .iload_n 3, []), (31, .aload_n 2, []), (32, .iload 4, []), (34, .iconst 1, []), (35, .isub, []), (36, .iaload, []), (37, .imul, []), (38, .iadd, []), (39, .iastore, []), (40, .iinc 4 (-1), []), (43, .goto (-23), [20])], 46),
  (46, [0, 1, 2, 3], [(46, .iinc 3 1, []), (49, .goto (-38), [11])], 52),
  (52, [1, 2], [(52, .iconst 0, []), (53, .istore_n 3, []), (54, .iload_n 1, []), (55, .istore 4, [])], 57),
  (57, [2, 3, 4], [(57, .iload 4, []), (59, .ifCond .lt 16, [75]), (62, .iload_n 3, []), (63, .aload_n 2, []), (64, .iload 4, []), (66, .iaload, []), (67, .iadd, []), (68, .istore_n 3, []), (69, .iinc 4 (-2), []), (72, .goto (-15), [57])], 75),
  (75, [3], [(75, .iload_n 3, []), (76, .ireturn, [0])], 77)]
def rX10_countRows : xRow := ((yX10_countRows, cX10_countRows, 5, (some .int), 1, 7), bX10_countRows, pX10)
end
section
/-! THE TABLE (X11): blocks of the methods as the class file has them, written by wip/whole/gentab.py. -/
def pX11 : xPool := [(0, 7, [9, 1, 2, 2]), (0, 13, [9, 2, 2, 2]), (0, 16, [9, 5, 2, 2]), (0, 20, [9, 6, 2, 2]), (0, 23, [9, 7, 2, 2]), (0, 26, [9, 12, 0, 0]), (0, 30, [9, 17, 2, 2]), (0, 33, [9, 18, 2, 2]), (0, 36, [9, 19, 2, 2]), (0, 39, [9, 20, 2, 2]), (0, 42, [9, 25, 2, 2]), (2, 45, [1, 149, 2, 9, 0, 0, 10]), (0, 13, [9, 2, 2, 0]), (2, 49, [1, 146, 3, 9, 0, 0, 10]), (0, 53, [9, 0, 0, 0]), (0, 7, [9, 1, 2, 0]), (0, 56, [9, 3, 0, 0]), (2, 59, [1, 145, 2, 0, 0, 0, 10]), (0, 63, [9, 4, 0, 0]), (2, 66, [0, 144, 3, 0, 0, 0, 0]), (2, 70, [1, 151, 2, 0, 0, 0, 10]), (2, 74, [1, 150, 1, 0, 0, 0, 10]), (0, 16, [9, 5, 2, 0]), (2, 78, [1, 155, 2, 1, 0, 0, 10]), (2, 82, [1, 156, 2, 9, 0, 0, 10]), (2, 86, [1, 153, 1, 0, 0, 0, 10]), (2, 91, [0, 154, 3, 0, 0, 0, 0]), (2, 97, [0, 159, 2, 1, 0, 0, 0]), (2, 108, [1, 152, 1, 0, 0, 0, 10]), (2, 112, [1, 158, 4, 9, 0, 0, 10]), (2, 116, [1, 157, 4, 9, 0, 0, 10]), (2, 119, [1, 160, 1, 9, 0, 0, 10]), (2, 122, [1, 161, 4, 9, 0, 0, 10]), (2, 125, [1, 164, 4, 0, 0, 0, 10]), (2, 128, [1, 162, 1, 9, 0, 0, 10]), (2, 131, [1, 163, 1, 1, 0, 0, 10]), (0, 20, [9, 6, 2, 0]), (2, 135, [1, 169, 3, 1, 0, 0, 10]), (0, 143, [9, 8, 0, 0]), (2, 146, [1, 172, 2, 9, 0, 0, 10]), (0, 23, [9, 7, 2, 0]), (0, 149, [9, 11, 0, 0]), (0, 152, [9, 10, 0, 0]), (0, 155, [9, 9, 0, 0]), (2, 158, [1, 175, 1, 0, 0, 0, 10]), (2, 161, [0, 176, 1, 0, 0, 0, 0]), (2, 164, [1, 234, 1, 0, 0, 0, 100]), (2, 168, [1, 235, 2, 0, 0, 0, 100]), (2, 172, [1, 174, 3, 0, 0, 0, 10]), (2, 176, [0, 177, 1, 0, 0, 0, 0]), (0, 179, [9, 14, 0, 0]), (0, 182, [9, 13, 0, 0]), (0, 186, [9, 15, 0, 0]), (2, 189, [1, 184, 1, 0, 0, 0, 10]), (2, 192, [1, 179, 2, 0, 0, 0, 10]), (2, 195, [1, 180, 3, 0, 0, 0, 10]), (2, 198, [1, 181, 3, 9, 0, 0, 10]), (2, 202, [1, 178, 2, 0, 0, 0, 10]), (2, 212, [1, 182, 1, 0, 0, 0, 10]), (2, 215, [1, 183, 1, 0, 0, 0, 10]), (0, 218, [9, 16, 0, 0]), (2, 223, [1, 186, 1, 0, 0, 0, 10]), (2, 228, [1, 187, 2, 0, 0, 0, 10]), (2, 233, [1, 185, 3, 0, 0, 0, 10]), (2, 236, [1, 188, 4, 0, 0, 0, 10]), (2, 249, [1, 189, 1, 0, 0, 0, 10]), (2, 252, [1, 148, 3, 0, 0, 0, 10]), (2, 256, [1, 191, 2, 0, 0, 0, 10]), (2, 259, [1, 190, 1, 0, 0, 0, 10]), (2, 262, [1, 147, 1, 9, 0, 0, 10]), (0, 279, [9, 22, 0, 0]), (0, 33, [9, 18, 2, 0]), (2, 282, [1, 196, 1, 0, 0, 0, 10]), (0, 39, [9, 20, 2, 0]), (0, 285, [9, 21, 0, 0]), (2, 288, [1, 193, 1, 0, 0, 0, 10]), (0, 30, [9, 17, 2, 0]), (2, 291, [1, 194, 2, 0, 0, 0, 10]), (0, 36, [9, 19, 2, 0]), (2, 294, [1, 195, 1, 0, 0, 0, 10]), (2, 297, [1, 197, 2, 0, 0, 0, 10]), (2, 300, [1, 165, 4, 0, 0, 0, 10]), (2, 302, [1, 167, 2, 0, 0, 0, 10]), (2, 305, [1, 168, 1, 0, 0, 0, 10]), (2, 308, [1, 166, 2, 0, 0, 0, 10]), (0, 311, [9, 24, 5, 0]), (2, 315, [1, 199, 3, 9, 0, 0, 10]), (0, 318, [9, 23, 0, 0]), (2, 321, [1, 198, 2, 0, 0, 0, 10]), (2, 324, [1, 201, 1, 0, 0, 0, 10]), (2, 327, [1, 202, 2, 0, 0, 0, 10]), (2, 330, [1, 203, 3, 0, 0, 0, 10]), (2, 334, [1, 209, 1, 0, 0, 0, 10]), (2, 337, [1, 170, 2, 0, 0, 0, 10]), (0, 42, [9, 25, 2, 0]), (0, 340, [9, 26, 0, 0]), (2, 343, [1, 216, 4, 9, 0, 0, 10]), (0, 346, [9, 30, 1, 0]), (0, 350, [9, 29, 1, 0]), (0, 353, [9, 27, 0, 0]), (0, 356, [9, 28, 0, 0]), (2, 359, [1, 215, 1, 9, 0, 0, 10]), (2, 362, [1, 219, 3, 0, 0, 0, 10]), (2, 371, [0, 231, 2, 1, 0, 0, 0])]
def bX11_init : xBl := [
  (0, [0], [(0, .aload_n 0, []), (1, .invokespecial 1, [0]), (4, .aload_n 0, []), (5, .sipush 11000, []), (8, .newarray .int, [0]), (10, .putfield 7, [9, 1, 2, 2]), (13, .aload_n 0, []), (14, .sipush 1100, []), (17, .newarray .int, [0]), (19, .putfield 13, [9, 2, 2, 2]), (22, .aload_n 0, []), (23, .bipush 9, []), (25, .newarray .long, [2]), (27, .putfield 16, [9, 5, 2, 2]), (30, .aload_n 0, []), (31, .sipush 501, []), (34, .newarray .long, [2]), (36, .putfield 20, [9, 6, 2, 2]), (39, .aload_n 0, []), (40, .sipush 500, []), (43, .newarray .int, [0]), (45, .putfield 23, [9, 7, 2, 2]), (48, .aload_n 0, []), (49, .iconst (-1), []), (50, .putfield 26, [9, 12, 0, 0]), (53, .aload_n 0, []), (54, .bipush 60, []), (56, .newarray .int, [0]), (58, .putfield 30, [9, 17, 2, 2]), (61, .aload_n 0, []), (62, .bipush 60, []), (64, .newarray .int, [0]), (66, .putfield 33, [9, 18, 2, 2]), (69, .aload_n 0, []), (70, .bipush 60, []), (72, .newarray .int, [0]), (74, .putfield 36, [9, 19, 2, 2]), (77, .aload_n 0, []), (78, .bipush 60, []), (80, .newarray .int, [0]), (82, .putfield 39, [9, 20, 2, 2]), (85, .aload_n 0, []), (86, .bipush 8, []), (88, .newarray .int, [0]), (90, .putfield 42, [9, 25, 2, 2]), (93, .aload_n 0, []), (94, .iconst 3, []), (95, .invokevirtual 45, [1, 149, 2, 9, 0, 0, 10]), (98, .iconst 0, []), (99, .istore_n 1, [])], 100),
  (100, [0, 1], [(100, .iload_n 1, []), (101, .sipush 1100, []), (104, .if_icmp .ge 20, [124]), (107, .aload_n 0, []), (108, .iload_n 1, []), (109, .aload_n 0, []), (110, .getfield 13, [9, 2, 2, 0]), (113, .iload_n 1, []), (114, .iaload, []), (115, .invokevirtual 49, [1, 146, 3, 9, 0, 0, 10]), (118, .iinc 1 1, []), (121, .goto (-21), [100])], 124),
  (124, [], [(124, .return_, [])], 125)]
def rX11_init : xRow := ((yX11_init, cX11_init, 2, none, 10, 13358), bX11_init, pX11)
def bX11_thrown : xBl := [
  (0, [0], [(0, .aload_n 0, []), (1, .getfield 53, [9, 0, 0, 0]), (4, .ireturn, [0])], 5)]
def rX11_thrown : xRow := ((yX11_thrown, cX11_thrown, 1, (some .int), 0, 0), bX11_thrown, pX11)
def bX11_isIn : xBl := [
  (0, [0, 1, 2], [(0, .iload_n 0, []), (1, .iload_n 1, []), (2, .if_icmp .lt 12, [14]), (5, .iload_n 0, []), (6, .iload_n 2, []), (7, .if_icmp .gt 7, [14]), (10, .iconst 1, []), (11, .goto 4, [15])], 14),
  (14, [], [(14, .iconst 0, [])], 15),
  (15, [], [(15, .ireturn, [5])], 16)]
def rX11_isIn : xRow := ((yX11_isIn, cX11_isIn, 3, (some .boolean), 0, 0), bX11_isIn, pX11)
def bX11_get : xBl := [
  (0, [0, 1], [(0, .aload_n 0, []), (1, .getfield 7, [9, 1, 2, 0]), (4, .sipush 1100, []), (7, .aload_n 0, []), (8, .getfield 56, [9, 3, 0, 0]), (11, .imul, []), (12, .iload_n 1, []), (13, .iadd, []), (14, .iaload, []), (15, .ireturn, [0])], 16)]
def rX11_get : xRow := ((yX11_get, cX11_get, 2, (some .int), 0, 0), bX11_get, pX11)
def bX11_put : xBl := [
  (0, [0, 1, 2], [(0, .aload_n 0, []), (1, .getfield 7, [9, 1, 2, 0]), (4, .sipush 1100, []), (7, .aload_n 0, []), (8, .getfield 56, [9, 3, 0, 0]), (11, .imul, []), (12, .iload_n 1, []), (13, .iadd, []), (14, .iload_n 2, []), (15, .iastore, []), (16, .return_, [])], 17)]
def rX11_put : xRow := ((yX11_put, cX11_put, 3, none, 0, 0), bX11_put, pX11)
def bX11_change : xBl := [
  (0, [0], [(0, .aload_n 0, []), (1, .getfield 56, [9, 3, 0, 0]), (4, .iconst 1, []), (5, .iadd, []), (6, .bipush 9, []), (8, .irem, []), (9, .istore_n 1, []), (10, .iconst 0, []), (11, .istore_n 2, [])], 12),
  (12, [0, 1, 2], [(12, .iload_n 2, []), (13, .sipush 1100, []), (16, .if_icmp .ge 26, [42]), (19, .aload_n 0, []), (20, .getfield 7, [9, 1, 2, 0]), (23, .sipush 1100, []), (26, .iload_n 1, []), (27, .imul, []), (28, .iload_n 2, []), (29, .iadd, []), (30, .aload_n 0, []), (31, .iload_n 2, []), (32, .invokevirtual 59, [1, 145, 2, 0, 0, 0, 10]), (35, .iastore, []), (36, .iinc 2 1, []), (39, .goto (-27), [12])], 42),
  (42, [0, 1], [(42, .aload_n 0, []), (43, .iload_n 1, []), (44, .putfield 56, [9, 3, 0, 0]), (47, .aload_n 0, []), (48, .aload_n 0, []), (49, .getfield 63, [9, 4, 0, 0]), (52, .bipush 8, []), (54, .if_icmp .ge 12, [66]), (57, .aload_n 0, []), (58, .getfield 63, [9, 4, 0, 0]), (61, .iconst 1, []), (62, .iadd, []), (63, .goto 7, [70])], 66),
  (66, [0], [(66, .aload_n 0, []), (67, .getfield 63, [9, 4, 0, 0])], 70),
  (70, [], [(70, .putfield 63, [9, 4, 0, 0]), (73, .return_, [])], 74)]
def rX11_change : xRow := ((yX11_change, cX11_change, 3, none, 0, 0), bX11_change, pX11)
def bX11_right : xBl := [
  (0, [0, 1, 2], [(0, .aload_n 0, []), (1, .getfield 53, [9, 0, 0, 0]), (4, .ifCond .ne 12, [16]), (7, .iload_n 1, []), (8, .ifCond .ne 8, [16]), (11, .aload_n 0, []), (12, .iload_n 2, []), (13, .putfield 53, [9, 0, 0, 0])], 16),
  (16, [0], [(16, .aload_n 0, []), (17, .getfield 53, [9, 0, 0, 0]), (20, .ifCond .ne 7, [27]), (23, .iconst 1, []), (24, .goto 4, [28])], 27),
  (27, [], [(27, .iconst 0, [])], 28),
  (28, [], [(28, .ireturn, [5])], 29)]
def rX11_right : xRow := ((yX11_right, cX11_right, 3, (some .boolean), 0, 0), bX11_right, pX11)
def bX11_begins : xBl := [
  (0, [0, 1], [(0, .iconst 0, []), (1, .istore_n 2, [])], 2),
  (2, [0, 1, 2], [(2, .iload_n 2, []), (3, .sipush 1100, []), (6, .if_icmp .ge 16, [22]), (9, .aload_n 0, []), (10, .getfield 13, [9, 2, 2, 0]), (13, .iload_n 2, []), (14, .iconst 0, []), (15, .iastore, []), (16, .iinc 2 1, []), (19, .goto (-17), [2])], 22),
  (22, [0, 1], [(22, .aload_n 0, []), (23, .getfield 13, [9, 2, 2, 0]), (26, .iconst 0, []), (27, .iload_n 1, []), (28, .iastore, []), (29, .aload_n 0, []), (30, .getfield 13, [9, 2, 2, 0]), (33, .iconst 4, []), (34, .bipush 80, []), (36, .iastore, []), (37, .aload_n 0, []), (38, .getfield 13, [9, 2, 2, 0]), (41, .iconst 5, []), (42, .iconst 1, []), (43, .iastore, []), (44, .aload_n 0, []), (45, .getfield 13, [9, 2, 2, 0]), (48, .bipush 7, []), (50, .bipush 100, []), (52, .iastore, []), (53, .iconst 0, []), (54, .istore_n 2, [])], 55),
  (55, [0, 2], [(55, .iload_n 2, []), (56, .bipush 8, []), (58, .if_icmp .ge 19, [77]), (61, .aload_n 0, []), (62, .getfield 13, [9, 2, 2, 0]), (65, .bipush 12, []), (67, .iload_n 2, []), (68, .iadd, []), (69, .iload_n 2, []), (70, .iastore, []), (71, .iinc 2 1, []), (74, .goto (-19), [55])], 77),
  (77, [0], [(77, .aload_n 0, []), (78, .getfield 13, [9, 2, 2, 0]), (81, .bipush 36, []), (83, .iconst 1, []), (84, .iastore, []), (85, .return_, [])], 86)]
def rX11_begins : xRow := ((yX11_begins, cX11_begins, 3, none, 0, 0), bX11_begins, pX11)
def bX11_shells : xBl := [
  (0, [0], [(0, .aload_n 0, []), (1, .iconst 0, []), (2, .invokevirtual 59, [1, 145, 2, 0, 0, 0, 10]), (5, .ireturn, [0])], 6)]
def rX11_shells : xRow := ((yX11_shells, cX11_shells, 1, (some .int), 0, 0), bX11_shells, pX11)
def bX11_blinksAt : xBl := [
  (0, [0, 1], [(0, .iconst 0, []), (1, .istore_n 2, [])], 2),
  (2, [0, 1, 2], [(2, .iload_n 2, []), (3, .aload_n 0, []), (4, .bipush 10, []), (6, .invokevirtual 59, [1, 145, 2, 0, 0, 0, 10]), (9, .if_icmp .ge 40, [49]), (12, .iload_n 1, []), (13, .aload_n 0, []), (14, .bipush 45, []), (16, .iconst 2, []), (17, .iload_n 2, []), (18, .imul, []), (19, .iadd, []), (20, .invokevirtual 59, [1, 145, 2, 0, 0, 0, 10]), (23, .aload_n 0, []), (24, .bipush 45, []), (26, .iconst 2, []), (27, .iload_n 2, []), (28, .imul, []), (29, .iadd, []), (30, .iconst 1, []), (31, .iadd, []), (32, .invokevirtual 59, [1, 145, 2, 0, 0, 0, 10]), (35, .invokestatic 66, [0, 144, 3, 0, 0, 0, 0]), (38, .ifCond .eq 5, [43]), (41, .iconst 1, []), (42, .ireturn, [5])], 43),
  (43, [0, 1, 2], [(43, .iinc 2 1, []), (46, .goto (-44), [2])], 49),
  (49, [], [(49, .iconst 0, []), (50, .ireturn, [5])], 51)]
def rX11_blinksAt : xRow := ((yX11_blinksAt, cX11_blinksAt, 3, (some .boolean), 0, 0), bX11_blinksAt, pX11)
def bX11_blinksNow : xBl := [
  (0, [0], [(0, .aload_n 0, []), (1, .aload_n 0, []), (2, .iconst 2, []), (3, .invokevirtual 59, [1, 145, 2, 0, 0, 0, 10]), (6, .invokevirtual 70, [1, 151, 2, 0, 0, 0, 10]), (9, .ireturn, [5])], 10)]
def rX11_blinksNow : xRow := ((yX11_blinksNow, cX11_blinksNow, 1, (some .boolean), 0, 0), bX11_blinksNow, pX11)
def bX11_rough : xBl := [
  (0, [0], [(0, .iconst 0, []), (1, .istore_n 1, []), (2, .iconst 0, []), (3, .istore_n 2, [])], 4),
  (4, [0, 1, 2], [(4, .iload_n 2, []), (5, .aload_n 0, []), (6, .invokevirtual 74, [1, 150, 1, 0, 0, 0, 10]), (9, .if_icmp .ge 29, [38]), (12, .iload_n 1, []), (13, .aload_n 0, []), (14, .bipush 28, []), (16, .aload_n 0, []), (17, .bipush 12, []), (19, .iload_n 2, []), (20, .iadd, []), (21, .invokevirtual 59, [1, 145, 2, 0, 0, 0, 10]), (24, .iadd, []), (25, .invokevirtual 59, [1, 145, 2, 0, 0, 0, 10]), (28, .iload_n 2, []), (29, .ishl, []), (30, .ior, []), (31, .istore_n 1, []), (32, .iinc 2 1, []), (35, .goto (-31), [4])], 38),
  (38, [1], [(38, .iload_n 1, []), (39, .ireturn, [0])], 40)]
def rX11_rough : xRow := ((yX11_rough, cX11_rough, 3, (some .int), 0, 0), bX11_rough, pX11)
def bX11_exchanged : xBl := [
  (0, [0, 1, 2], [(0, .iload_n 0, []), (1, .iload_n 1, []), (2, .ishr, []), (3, .iconst 1, []), (4, .iand, []), (5, .iload_n 0, []), (6, .iload_n 2, []), (7, .ishr, []), (8, .iconst 1, []), (9, .iand, []), (10, .if_icmp .ne 7, [17]), (13, .iload_n 0, []), (14, .goto 12, [26])], 17),
  (17, [0, 1, 2], [(17, .iload_n 0, []), (18, .iconst 1, []), (19, .iload_n 1, []), (20, .ishl, []), (21, .ixor, []), (22, .iconst 1, []), (23, .iload_n 2, []), (24, .ishl, []), (25, .ixor, [])], 26),
  (26, [], [(26, .ireturn, [0])], 27)]
def rX11_exchanged : xRow := ((yX11_exchanged, cX11_exchanged, 3, (some .int), 0, 0), bX11_exchanged, pX11)
def bX11_had : xBl := [
  (0, [0, 1], [(0, .aload_n 0, []), (1, .bipush 36, []), (3, .iload_n 1, []), (4, .iadd, []), (5, .invokevirtual 59, [1, 145, 2, 0, 0, 0, 10]), (8, .i2l, []), (9, .lreturn, [])], 10)]
def rX11_had : xRow := ((yX11_had, cX11_had, 2, (some .long), 0, 0), bX11_had, pX11)
def bX11_stays : xBl := [
  (0, [0, 1], [(0, .iconst 0, []), (1, .istore_n 3, [])], 2),
  (2, [0, 1, 3], [(2, .iload_n 3, []), (3, .aload_n 0, []), (4, .invokevirtual 74, [1, 150, 1, 0, 0, 0, 10]), (7, .if_icmp .gt 25, [32]), (10, .aload_n 0, []), (11, .getfield 16, [9, 5, 2, 0]), (14, .iload_n 3, []), (15, .dup2, []), (16, .laload, []), (17, .lload_n 1, []), (18, .aload_n 0, []), (19, .iload_n 3, []), (20, .invokevirtual 78, [1, 155, 2, 1, 0, 0, 10]), (23, .lmul, []), (24, .ladd, []), (25, .lastore, []), (26, .iinc 3 1, []), (29, .goto (-27), [2])], 32),
  (32, [], [(32, .return_, [])], 33)]
def rX11_stays : xRow := ((yX11_stays, cX11_stays, 4, none, 0, 0), bX11_stays, pX11)
def bX11_seen : xBl := [
  (0, [0, 1, 2, 3], [(0, .iload_n 1, []), (1, .iconst 2, []), (2, .if_icmp .ne 9, [11]), (5, .aload_n 0, []), (6, .lconst 1, []), (7, .invokevirtual 82, [1, 156, 2, 9, 0, 0, 10]), (10, .return_, [])], 11),
  (11, [0, 1, 2, 3], [(11, .aload_n 0, []), (12, .invokevirtual 86, [1, 153, 1, 0, 0, 0, 10]), (15, .istore 4, []), (17, .iload 4, []), (19, .iload_n 2, []), (20, .ishr, []), (21, .iconst 1, []), (22, .iand, []), (23, .iload 4, []), (25, .iload_n 3, []), (26, .ishr, []), (27, .iconst 1, []), (28, .iand, []), (29, .if_icmp .eq 7, [36]), (32, .iconst 1, []), (33, .goto 4, [37])], 36),
  (36, [0, 1, 2, 3], [(36, .iconst 0, [])], 37),
  (37, [0, 1, 2, 3], [(37, .istore 5, []), (39, .iload 5, []), (41, .ifCond .eq 15, [56]), (44, .iload_n 1, []), (45, .ifCond .ne 7, [52]), (48, .lconst 0, []), (49, .goto 16, [65])], 52),
  (52, [0, 2, 3, 5], [(52, .lconst 1, []), (53, .goto 12, [65])], 56),
  (56, [0, 2, 3, 5], [(56, .bipush 100, []), (58, .aload_n 0, []), (59, .iconst 4, []), (60, .invokevirtual 59, [1, 145, 2, 0, 0, 0, 10]), (63, .isub, []), (64, .i2l, [])], 65),
  (65, [0, 2, 3, 5], [(65, .lstore 6, []), (67, .iload 5, []), (69, .ifCond .eq 10, [79]), (72, .lconst 1, []), (73, .lload 6, []), (75, .lsub, []), (76, .goto 9, [85])], 79),
  (79, [0, 2, 3, 5, 6], [(79, .aload_n 0, []), (80, .iconst 4, []), (81, .invokevirtual 59, [1, 145, 2, 0, 0, 0, 10]), (84, .i2l, [])], 85),
  (85, [0, 2, 3, 5, 6], [(85, .lstore 8, []), (87, .aload_n 0, []), (88, .iload 5, []), (90, .ifCond .eq 7, [97]), (93, .lconst 1, []), (94, .goto 6, [100])], 97),
  (97, [0, 2, 3, 6, 8], [(97, .ldc2_w 89, [0, 100])], 100),
  (100, [0, 2, 3, 6, 8], [(100, .invokevirtual 82, [1, 156, 2, 9, 0, 0, 10]), (103, .aload_n 0, []), (104, .getfield 16, [9, 5, 2, 0]), (107, .iload_n 2, []), (108, .lload 6, []), (110, .aload_n 0, []), (111, .iload_n 2, []), (112, .invokevirtual 78, [1, 155, 2, 1, 0, 0, 10]), (115, .lmul, []), (116, .lload 8, []), (118, .aload_n 0, []), (119, .iload_n 3, []), (120, .invokevirtual 78, [1, 155, 2, 1, 0, 0, 10]), (123, .lmul, []), (124, .ladd, []), (125, .lastore, []), (126, .aload_n 0, []), (127, .getfield 16, [9, 5, 2, 0]), (130, .iload_n 3, []), (131, .lload 6, []), (133, .aload_n 0, []), (134, .iload_n 3, []), (135, .invokevirtual 78, [1, 155, 2, 1, 0, 0, 10]), (138, .lmul, []), (139, .lload 8, []), (141, .aload_n 0, []), (142, .iload_n 2, []), (143, .invokevirtual 78, [1, 155, 2, 1, 0, 0, 10]), (146, .lmul, []), (147, .ladd, []), (148, .lastore, []), (149, .return_, [])], 150)]
def rX11_seen : xRow := ((yX11_seen, cX11_seen, 10, none, 0, 0), bX11_seen, pX11)
def bX11_unseen : xBl := [
  (0, [0, 1, 2, 3], [(0, .aload_n 0, []), (1, .invokevirtual 86, [1, 153, 1, 0, 0, 0, 10]), (4, .istore 4, []), (6, .iload_n 1, []), (7, .ifCond .ne 13, [20]), (10, .iload 4, []), (12, .iload_n 2, []), (13, .iload_n 3, []), (14, .invokestatic 91, [0, 154, 3, 0, 0, 0, 0]), (17, .goto 5, [22])], 20),
  (20, [0, 4], [(20, .iload 4, [])], 22),
  (22, [0, 4], [(22, .istore 5, []), (24, .aload_n 0, []), (25, .invokevirtual 74, [1, 150, 1, 0, 0, 0, 10]), (28, .istore 6, []), (30, .iconst 0, []), (31, .istore 7, [])], 33),
  (33, [0, 4, 5, 6, 7], [(33, .iload 7, []), (35, .iload 6, []), (37, .if_icmp .ge 96, [133]), (40, .iload 7, []), (42, .iconst 1, []), (43, .iadd, []), (44, .istore 8, [])], 46),
  (46, [0, 4, 5, 6, 7, 8], [(46, .iload 8, []), (48, .iload 6, []), (50, .if_icmp .ge 77, [127]), (53, .iload 4, []), (55, .iload 7, []), (57, .iload 8, []), (59, .invokestatic 91, [0, 154, 3, 0, 0, 0, 0]), (62, .iload 5, []), (64, .if_icmp .eq 6, [70]), (67, .goto 54, [121])], 70),
  (70, [0, 4, 5, 6, 7, 8], [(70, .aload_n 0, []), (71, .lconst 1, []), (72, .invokevirtual 82, [1, 156, 2, 9, 0, 0, 10]), (75, .aload_n 0, []), (76, .getfield 16, [9, 5, 2, 0]), (79, .iload 7, []), (81, .dup2, []), (82, .laload, []), (83, .aload_n 0, []), (84, .iload 8, []), (86, .invokevirtual 78, [1, 155, 2, 1, 0, 0, 10]), (89, .aload_n 0, []), (90, .iload 7, []), (92, .invokevirtual 78, [1, 155, 2, 1, 0, 0, 10]), (95, .lsub, []), (96, .ladd, []), (97, .lastore, []), (98, .aload_n 0, []), (99, .getfield 16, [9, 5, 2, 0]), (102, .iload 8, []), (104, .dup2, []), (105, .laload, []), (106, .aload_n 0, []), (107, .iload 7, []), (109, .invokevirtual 78, [1, 155, 2, 1, 0, 0, 10]), (112, .aload_n 0, []), (113, .iload 8, []), (115, .invokevirtual 78, [1, 155, 2, 1, 0, 0, 10]), (118, .lsub, []), (119, .ladd, []), (120, .lastore, [])], 121),
  (121, [0, 4, 5, 6, 7, 8], [(121, .iinc 8 1, []), (124, .goto (-78), [46])], 127),
  (127, [0, 4, 5, 6, 7], [(127, .iinc 7 1, []), (130, .goto (-97), [33])], 133),
  (133, [0, 4, 5, 6], [(133, .iload 4, []), (135, .iload 5, []), (137, .if_icmp .eq 4, [141]), (140, .return_, [])], 141),
  (141, [0, 6], [(141, .aload_n 0, []), (142, .aload_n 0, []), (143, .iconst 5, []), (144, .invokevirtual 59, [1, 145, 2, 0, 0, 0, 10]), (147, .i2l, []), (148, .invokevirtual 82, [1, 156, 2, 9, 0, 0, 10]), (151, .iconst 0, []), (152, .istore 7, [])], 154),
  (154, [0, 6, 7], [(154, .iload 7, []), (156, .iload 6, []), (158, .if_icmp .ge 86, [244]), (161, .aload_n 0, []), (162, .ldc2_w 95, [0, 2]), (165, .aload_n 0, []), (166, .bipush 6, []), (168, .invokevirtual 59, [1, 145, 2, 0, 0, 0, 10]), (171, .i2l, []), (172, .lmul, []), (173, .invokevirtual 82, [1, 156, 2, 9, 0, 0, 10]), (176, .aload_n 0, []), (177, .getfield 16, [9, 5, 2, 0]), (180, .iload 6, []), (182, .dup2, []), (183, .laload, []), (184, .aload_n 0, []), (185, .bipush 6, []), (187, .invokevirtual 59, [1, 145, 2, 0, 0, 0, 10]), (190, .i2l, []), (191, .aload_n 0, []), (192, .iload 7, []), (194, .invokevirtual 78, [1, 155, 2, 1, 0, 0, 10]), (197, .aload_n 0, []), (198, .iload 6, []), (200, .invokevirtual 78, [1, 155, 2, 1, 0, 0, 10]), (203, .lsub, []), (204, .lmul, []), (205, .ladd, []), (206, .lastore, []), (207, .aload_n 0, []), (208, .getfield 16, [9, 5, 2, 0]), (211, .iload 7, []), (213, .dup2, []), (214, .laload, []), (215, .aload_n 0, []), (216, .bipush 6, []), (218, .invokevirtual 59, [1, 145, 2, 0, 0, 0, 10]), (221, .i2l, []), (222, .aload_n 0, []), (223, .iload 6, []), (225, .invokevirtual 78, [1, 155, 2, 1, 0, 0, 10]), (228, .aload_n 0, []), (229, .iload 7, []), (231, .invokevirtual 78, [1, 155, 2, 1, 0, 0, 10]), (234, .lsub, []), (235, .lmul, []), (236, .ladd, []), (237, .lastore, []), (238, .iinc 7 1, []), (241, .goto (-87), [154])], 244),
  (244, [], [(244, .return_, [])], 245)]
def rX11_unseen : xRow := ((yX11_unseen, cX11_unseen, 9, none, 0, 0), bX11_unseen, pX11)
def bX11_common : xBl := [
  (0, [0, 2], [(0, .lload_n 0, []), (1, .lstore 4, []), (3, .lload_n 2, []), (4, .lstore 6, [])], 6),
  (6, [4, 6], [(6, .lload 6, []), (8, .lconst 0, []), (9, .lcmp, []), (10, .ifCond .eq 21, [31]), (13, .lload 4, []), (15, .lload 6, []), (17, .lrem, []), (18, .lstore 8, []), (20, .lload 6, []), (22, .lstore 4, []), (24, .lload 8, []), (26, .lstore 6, []), (28, .goto (-22), [6])], 31),
  (31, [4], [(31, .lload 4, []), (33, .lreturn, [])], 34)]
def rX11_common : xRow := ((yX11_common, cX11_common, 10, (some .long), 0, 0), bX11_common, pX11)
def bX11_reduces : xBl := [
  (0, [0], [(0, .lconst 0, []), (1, .lstore_n 1, []), (2, .iconst 0, []), (3, .istore_n 3, [])], 4),
  (4, [0, 1, 3], [(4, .iload_n 3, []), (5, .aload_n 0, []), (6, .invokevirtual 74, [1, 150, 1, 0, 0, 0, 10]), (9, .if_icmp .gt 20, [29]), (12, .lload_n 1, []), (13, .aload_n 0, []), (14, .getfield 16, [9, 5, 2, 0]), (17, .iload_n 3, []), (18, .laload, []), (19, .invokestatic 97, [0, 159, 2, 1, 0, 0, 0]), (22, .lstore_n 1, []), (23, .iinc 3 1, []), (26, .goto (-22), [4])], 29),
  (29, [0, 1], [(29, .lconst 0, []), (30, .lstore_n 3, []), (31, .iconst 0, []), (32, .istore 5, [])], 34),
  (34, [0, 1, 3, 5], [(34, .iload 5, []), (36, .aload_n 0, []), (37, .invokevirtual 74, [1, 150, 1, 0, 0, 0, 10]), (40, .if_icmp .gt 47, [87]), (43, .aload_n 0, []), (44, .getfield 16, [9, 5, 2, 0]), (47, .iload 5, []), (49, .lload_n 1, []), (50, .lconst 0, []), (51, .lcmp, []), (52, .ifCond .ne 7, [59]), (55, .lconst 0, []), (56, .goto 12, [68])], 59),
  (59, [0, 1, 3, 5], [(59, .aload_n 0, []), (60, .getfield 16, [9, 5, 2, 0]), (63, .iload 5, []), (65, .laload, []), (66, .lload_n 1, []), (67, .ldiv, [])], 68),
  (68, [0, 1, 3, 5], [(68, .lastore, []), (69, .lload_n 3, []), (70, .aload_n 0, []), (71, .getfield 16, [9, 5, 2, 0]), (74, .iload 5, []), (76, .laload, []), (77, .invokestatic 101, [0, 2]), (80, .lstore_n 3, []), (81, .iinc 5 1, []), (84, .goto (-50), [34])], 87),
  (87, [0, 3], [(87, .lload_n 3, []), (88, .ldc2_w 106, [0, 1000000]), (91, .lcmp, []), (92, .ifCond .le 52, [144]), (95, .lload_n 3, []), (96, .lconst 1, []), (97, .ladd, []), (98, .ldc2_w 95, [0, 2]), (101, .ldiv, []), (102, .lstore_n 3, []), (103, .iconst 0, []), (104, .istore 5, [])], 106),
  (106, [0, 3, 5], [(106, .iload 5, []), (108, .aload_n 0, []), (109, .invokevirtual 74, [1, 150, 1, 0, 0, 0, 10]), (112, .if_icmp .gt 29, [141]), (115, .aload_n 0, []), (116, .getfield 16, [9, 5, 2, 0]), (119, .iload 5, []), (121, .aload_n 0, []), (122, .getfield 16, [9, 5, 2, 0]), (125, .iload 5, []), (127, .laload, []), (128, .lconst 1, []), (129, .ladd, []), (130, .ldc2_w 95, [0, 2]), (133, .ldiv, []), (134, .lastore, []), (135, .iinc 5 1, []), (138, .goto (-32), [106])], 141),
  (141, [0, 3], [(141, .goto (-54), [87])], 144),
  (144, [], [(144, .return_, [])], 145)]
def rX11_reduces : xRow := ((yX11_reduces, cX11_reduces, 6, none, 0, 0), bX11_reduces, pX11)
def bX11_thinks : xBl := [
  (0, [0, 1, 2, 3], [(0, .iconst 0, []), (1, .istore 4, [])], 3),
  (3, [0, 1, 2, 3, 4], [(3, .iload 4, []), (5, .bipush 9, []), (7, .if_icmp .ge 17, [24]), (10, .aload_n 0, []), (11, .getfield 16, [9, 5, 2, 0]), (14, .iload 4, []), (16, .lconst 0, []), (17, .lastore, []), (18, .iinc 4 1, []), (21, .goto (-18), [3])], 24),
  (24, [0, 1, 2, 3], [(24, .aload_n 0, []), (25, .invokevirtual 108, [1, 152, 1, 0, 0, 0, 10]), (28, .ifCond .eq 13, [41]), (31, .aload_n 0, []), (32, .iload_n 1, []), (33, .iload_n 2, []), (34, .iload_n 3, []), (35, .invokevirtual 112, [1, 158, 4, 9, 0, 0, 10]), (38, .goto 10, [48])], 41),
  (41, [0, 1, 2, 3], [(41, .aload_n 0, []), (42, .iload_n 1, []), (43, .iload_n 2, []), (44, .iload_n 3, []), (45, .invokevirtual 116, [1, 157, 4, 9, 0, 0, 10])], 48),
  (48, [0], [(48, .aload_n 0, []), (49, .invokevirtual 119, [1, 160, 1, 9, 0, 0, 10]), (52, .return_, [])], 53)]
def rX11_thinks : xRow := ((yX11_thinks, cX11_thinks, 5, none, 0, 0), bX11_thinks, pX11)
def bX11_believes : xBl := [
  (0, [0], [(0, .iconst 0, []), (1, .istore_n 1, [])], 2),
  (2, [0, 1], [(2, .iload_n 1, []), (3, .aload_n 0, []), (4, .invokevirtual 74, [1, 150, 1, 0, 0, 0, 10]), (7, .if_icmp .gt 24, [31]), (10, .aload_n 0, []), (11, .bipush 36, []), (13, .iload_n 1, []), (14, .iadd, []), (15, .aload_n 0, []), (16, .getfield 16, [9, 5, 2, 0]), (19, .iload_n 1, []), (20, .laload, []), (21, .l2i, []), (22, .invokevirtual 49, [1, 146, 3, 9, 0, 0, 10]), (25, .iinc 1 1, []), (28, .goto (-26), [2])], 31),
  (31, [], [(31, .return_, [])], 32)]
def rX11_believes : xRow := ((yX11_believes, cX11_believes, 2, none, 0, 0), bX11_believes, pX11)
def bX11_sum : xBl := [
  (0, [0], [(0, .lconst 0, []), (1, .lstore_n 1, []), (2, .iconst 0, []), (3, .istore_n 3, [])], 4),
  (4, [0, 1, 3], [(4, .iload_n 3, []), (5, .aload_n 0, []), (6, .invokevirtual 74, [1, 150, 1, 0, 0, 0, 10]), (9, .if_icmp .gt 17, [26]), (12, .lload_n 1, []), (13, .aload_n 0, []), (14, .iload_n 3, []), (15, .invokevirtual 78, [1, 155, 2, 1, 0, 0, 10]), (18, .ladd, []), (19, .lstore_n 1, []), (20, .iinc 3 1, []), (23, .goto (-19), [4])], 26),
  (26, [1], [(26, .lload_n 1, []), (27, .lreturn, [])], 28)]
def rX11_sum : xRow := ((yX11_sum, cX11_sum, 4, (some .long), 0, 0), bX11_sum, pX11)
def bX11_ballBehind : xBl := [
  (0, [0, 1, 2, 3], [(0, .aload_n 0, []), (1, .iconst 1, []), (2, .invokevirtual 59, [1, 145, 2, 0, 0, 0, 10]), (5, .istore 4, []), (7, .iload_n 1, []), (8, .iconst 3, []), (9, .if_icmp .ne 8, [17]), (12, .aload_n 0, []), (13, .invokevirtual 74, [1, 150, 1, 0, 0, 0, 10]), (16, .ireturn, [0])], 17),
  (17, [1, 2, 3, 4], [(17, .iload_n 1, []), (18, .iconst 4, []), (19, .if_icmp .ne 5, [24]), (22, .iload_n 2, []), (23, .ireturn, [0])], 24),
  (24, [1, 2, 3, 4], [(24, .iload_n 1, []), (25, .ifCond .eq 8, [33]), (28, .iload 4, []), (30, .goto 25, [55])], 33),
  (33, [2, 3, 4], [(33, .iload 4, []), (35, .iload_n 2, []), (36, .if_icmp .ne 7, [43]), (39, .iload_n 3, []), (40, .goto 15, [55])], 43),
  (43, [2, 3, 4], [(43, .iload 4, []), (45, .iload_n 3, []), (46, .if_icmp .ne 7, [53]), (49, .iload_n 2, []), (50, .goto 5, [55])], 53),
  (53, [4], [(53, .iload 4, [])], 55),
  (55, [], [(55, .ireturn, [0])], 56)]
def rX11_ballBehind : xRow := ((yX11_ballBehind, cX11_ballBehind, 5, (some .int), 0, 0), bX11_ballBehind, pX11)
def bX11_steps : xBl := [
  (0, [0, 1, 2, 3], [(0, .aload_n 0, []), (1, .invokevirtual 108, [1, 152, 1, 0, 0, 0, 10]), (4, .istore 4, []), (6, .aload_n 0, []), (7, .iload_n 1, []), (8, .iload_n 2, []), (9, .iload_n 3, []), (10, .invokevirtual 122, [1, 161, 4, 9, 0, 0, 10]), (13, .aload_n 0, []), (14, .iconst 1, []), (15, .aload_n 0, []), (16, .iload_n 1, []), (17, .iload_n 2, []), (18, .iload_n 3, []), (19, .invokevirtual 125, [1, 164, 4, 0, 0, 0, 10]), (22, .invokevirtual 49, [1, 146, 3, 9, 0, 0, 10]), (25, .iload_n 1, []), (26, .ifCond .ne 83, [109]), (29, .aload_n 0, []), (30, .bipush 12, []), (32, .iload_n 2, []), (33, .iadd, []), (34, .invokevirtual 59, [1, 145, 2, 0, 0, 0, 10]), (37, .istore 5, []), (39, .aload_n 0, []), (40, .bipush 12, []), (42, .iload_n 3, []), (43, .iadd, []), (44, .invokevirtual 59, [1, 145, 2, 0, 0, 0, 10]), (47, .istore 6, []), (49, .aload_n 0, []), (50, .bipush 12, []), (52, .iload_n 2, []), (53, .iadd, []), (54, .iload 6, []), (56, .invokevirtual 49, [1, 146, 3, 9, 0, 0, 10]), (59, .aload_n 0, []), (60, .bipush 12, []), (62, .iload_n 3, []), (63, .iadd, []), (64, .iload 5, []), (66, .invokevirtual 49, [1, 146, 3, 9, 0, 0, 10]), (69, .aload_n 0, []), (70, .bipush 20, []), (72, .iload 5, []), (74, .iadd, []), (75, .aload_n 0, []), (76, .bipush 20, []), (78, .iload 5, []), (80, .iadd, []), (81, .invokevirtual 59, [1, 145, 2, 0, 0, 0, 10]), (84, .iconst 1, []), (85, .iadd, []), (86, .invokevirtual 49, [1, 146, 3, 9, 0, 0, 10]), (89, .aload_n 0, []), (90, .bipush 20, []), (92, .iload 6, []), (94, .iadd, []), (95, .aload_n 0, []), (96, .bipush 20, []), (98, .iload 6, []), (100, .iadd, []), (101, .invokevirtual 59, [1, 145, 2, 0, 0, 0, 10]), (104, .iconst 1, []), (105, .iadd, []), (106, .invokevirtual 49, [1, 146, 3, 9, 0, 0, 10])], 109),
  (109, [0, 4], [(109, .aload_n 0, []), (110, .invokevirtual 128, [1, 162, 1, 9, 0, 0, 10]), (113, .aload_n 0, []), (114, .iconst 2, []), (115, .aload_n 0, []), (116, .iconst 2, []), (117, .invokevirtual 59, [1, 145, 2, 0, 0, 0, 10]), (120, .iconst 1, []), (121, .iadd, []), (122, .invokevirtual 49, [1, 146, 3, 9, 0, 0, 10]), (125, .aload_n 0, []), (126, .iconst 3, []), (127, .aload_n 0, []), (128, .iconst 3, []), (129, .invokevirtual 59, [1, 145, 2, 0, 0, 0, 10]), (132, .iload 4, []), (134, .ifCond .eq 7, [141]), (137, .iconst 1, []), (138, .goto 4, [142])], 141),
  (141, [4], [(141, .iconst 0, [])], 142),
  (142, [4], [(142, .iadd, []), (143, .invokevirtual 49, [1, 146, 3, 9, 0, 0, 10]), (146, .iload 4, []), (148, .ireturn, [5])], 149)]
def rX11_steps : xRow := ((yX11_steps, cX11_steps, 7, (some .boolean), 0, 0), bX11_steps, pX11)
def bX11_looks : xBl := [
  (0, [0, 1], [(0, .aload_n 0, []), (1, .iconst 1, []), (2, .invokevirtual 59, [1, 145, 2, 0, 0, 0, 10]), (5, .iload_n 1, []), (6, .if_icmp .ne 7, [13]), (9, .iconst 1, []), (10, .goto 4, [14])], 13),
  (13, [0, 1], [(13, .iconst 0, [])], 14),
  (14, [0, 1], [(14, .istore_n 2, []), (15, .iconst 0, []), (16, .istore_n 3, [])], 17),
  (17, [0, 1, 2, 3], [(17, .iload_n 3, []), (18, .aload_n 0, []), (19, .invokevirtual 74, [1, 150, 1, 0, 0, 0, 10]), (22, .if_icmp .gt 46, [68]), (25, .aload_n 0, []), (26, .getfield 16, [9, 5, 2, 0]), (29, .iload_n 3, []), (30, .iload_n 2, []), (31, .ifCond .eq 16, [47]), (34, .iload_n 3, []), (35, .iload_n 1, []), (36, .if_icmp .ne 7, [43]), (39, .lconst 1, []), (40, .goto 21, [61])], 43),
  (43, [0, 1, 2, 3], [(43, .lconst 0, []), (44, .goto 17, [61])], 47),
  (47, [0, 1, 2, 3], [(47, .iload_n 3, []), (48, .iload_n 1, []), (49, .if_icmp .ne 7, [56]), (52, .lconst 0, []), (53, .goto 8, [61])], 56),
  (56, [0, 1, 2, 3], [(56, .aload_n 0, []), (57, .iload_n 3, []), (58, .invokevirtual 78, [1, 155, 2, 1, 0, 0, 10])], 61),
  (61, [0, 1, 2, 3], [(61, .lastore, []), (62, .iinc 3 1, []), (65, .goto (-48), [17])], 68),
  (68, [0, 2], [(68, .lconst 0, []), (69, .lstore_n 3, []), (70, .iconst 0, []), (71, .istore 5, [])], 73),
  (73, [0, 2, 3, 5], [(73, .iload 5, []), (75, .aload_n 0, []), (76, .invokevirtual 74, [1, 150, 1, 0, 0, 0, 10]), (79, .if_icmp .gt 21, [100]), (82, .lload_n 3, []), (83, .aload_n 0, []), (84, .getfield 16, [9, 5, 2, 0]), (87, .iload 5, []), (89, .laload, []), (90, .invokestatic 97, [0, 159, 2, 1, 0, 0, 0]), (93, .lstore_n 3, []), (94, .iinc 5 1, []), (97, .goto (-24), [73])], 100),
  (100, [0, 2, 3], [(100, .iconst 0, []), (101, .istore 5, [])], 103),
  (103, [0, 2, 3, 5], [(103, .iload 5, []), (105, .aload_n 0, []), (106, .invokevirtual 74, [1, 150, 1, 0, 0, 0, 10]), (109, .if_icmp .gt 26, [135]), (112, .lload_n 3, []), (113, .lconst 0, []), (114, .lcmp, []), (115, .ifCond .le 20, [135]), (118, .aload_n 0, []), (119, .getfield 16, [9, 5, 2, 0]), (122, .iload 5, []), (124, .dup2, []), (125, .laload, []), (126, .lload_n 3, []), (127, .ldiv, []), (128, .lastore, []), (129, .iinc 5 1, []), (132, .goto (-29), [103])], 135),
  (135, [0, 2], [(135, .aload_n 0, []), (136, .invokevirtual 128, [1, 162, 1, 9, 0, 0, 10]), (139, .iload_n 2, []), (140, .ireturn, [5])], 141)]
def rX11_looks : xRow := ((yX11_looks, cX11_looks, 6, (some .boolean), 0, 0), bX11_looks, pX11)
def bX11_canSteal : xBl := [
  (0, [0, 1], [(0, .aload_n 0, []), (1, .invokevirtual 108, [1, 152, 1, 0, 0, 0, 10]), (4, .ifCond .eq 25, [29]), (7, .aload_n 0, []), (8, .bipush 6, []), (10, .invokevirtual 59, [1, 145, 2, 0, 0, 0, 10]), (13, .ifCond .le 16, [29]), (16, .aload_n 0, []), (17, .iconst 1, []), (18, .invokevirtual 59, [1, 145, 2, 0, 0, 0, 10]), (21, .iload_n 1, []), (22, .if_icmp .ne 7, [29]), (25, .iconst 1, []), (26, .goto 4, [30])], 29),
  (29, [], [(29, .iconst 0, [])], 30),
  (30, [], [(30, .ireturn, [5])], 31)]
def rX11_canSteal : xRow := ((yX11_canSteal, cX11_canSteal, 2, (some .boolean), 0, 0), bX11_canSteal, pX11)
def bX11_canPlant : xBl := [
  (0, [0], [(0, .aload_n 0, []), (1, .invokevirtual 108, [1, 152, 1, 0, 0, 0, 10]), (4, .ifCond .eq 28, [32]), (7, .aload_n 0, []), (8, .bipush 6, []), (10, .invokevirtual 59, [1, 145, 2, 0, 0, 0, 10]), (13, .ifCond .le 19, [32]), (16, .aload_n 0, []), (17, .iconst 1, []), (18, .invokevirtual 59, [1, 145, 2, 0, 0, 0, 10]), (21, .aload_n 0, []), (22, .invokevirtual 74, [1, 150, 1, 0, 0, 0, 10]), (25, .if_icmp .ne 7, [32]), (28, .iconst 1, []), (29, .goto 4, [33])], 32),
  (32, [], [(32, .iconst 0, [])], 33),
  (33, [], [(33, .ireturn, [5])], 34)]
def rX11_canPlant : xRow := ((yX11_canPlant, cX11_canPlant, 1, (some .boolean), 0, 0), bX11_canPlant, pX11)
def bX11_factOf : xBl := [
  (0, [0, 1, 2], [(0, .iload_n 1, []), (1, .tableswitch 47 0 2 #[27, 33, 40], [48, 0, 28, 34, 41])], 28),
  (28, [0], [(28, .aload_n 0, []), (29, .invokevirtual 74, [1, 150, 1, 0, 0, 0, 10]), (32, .i2l, []), (33, .lreturn, [])], 34),
  (34, [0], [(34, .aload_n 0, []), (35, .iconst 2, []), (36, .invokevirtual 59, [1, 145, 2, 0, 0, 0, 10]), (39, .i2l, []), (40, .lreturn, [])], 41),
  (41, [0], [(41, .aload_n 0, []), (42, .iconst 3, []), (43, .invokevirtual 59, [1, 145, 2, 0, 0, 0, 10]), (46, .i2l, []), (47, .lreturn, [])], 48),
  (48, [0, 2], [(48, .aload_n 0, []), (49, .iload_n 2, []), (50, .invokevirtual 78, [1, 155, 2, 1, 0, 0, 10]), (53, .ldc2_w 89, [0, 100]), (56, .lmul, []), (57, .aload_n 0, []), (58, .invokevirtual 131, [1, 163, 1, 1, 0, 0, 10]), (61, .ldiv, []), (62, .lreturn, [])], 63)]
def rX11_factOf : xRow := ((yX11_factOf, cX11_factOf, 3, (some .long), 0, 0), bX11_factOf, pX11)
def bX11_oddsOf : xBl := [
  (0, [0, 1], [(0, .aload_n 0, []), (1, .bipush 11, []), (3, .invokevirtual 59, [1, 145, 2, 0, 0, 0, 10]), (6, .ifCond .ne 10, [16]), (9, .aload_n 0, []), (10, .invokevirtual 74, [1, 150, 1, 0, 0, 0, 10]), (13, .iconst 1, []), (14, .isub, []), (15, .ireturn, [0])], 16),
  (16, [0, 1], [(16, .iconst 0, []), (17, .istore_n 2, []), (18, .iconst 0, []), (19, .istore_n 3, [])], 20),
  (20, [0, 1, 2, 3], [(20, .iload_n 3, []), (21, .aload_n 0, []), (22, .bipush 11, []), (24, .invokevirtual 59, [1, 145, 2, 0, 0, 0, 10]), (27, .if_icmp .ge 192, [219]), (30, .aload_n 0, []), (31, .bipush 61, []), (33, .iconst 2, []), (34, .iload_n 3, []), (35, .imul, []), (36, .iadd, []), (37, .invokevirtual 59, [1, 145, 2, 0, 0, 0, 10]), (40, .istore 4, []), (42, .aload_n 0, []), (43, .bipush 61, []), (45, .iconst 2, []), (46, .iload_n 3, []), (47, .imul, []), (48, .iadd, []), (49, .iconst 1, []), (50, .iadd, []), (51, .invokevirtual 59, [1, 145, 2, 0, 0, 0, 10]), (54, .istore 5, []), (56, .iload 4, []), (58, .iconst 1, []), (59, .if_icmp .gt 33, [92]), (62, .aload_n 0, []), (63, .getfield 20, [9, 6, 2, 0]), (66, .iload_n 2, []), (67, .iload 4, []), (69, .ifCond .ne 9, [78]), (72, .iload 5, []), (74, .i2l, []), (75, .goto 10, [85])], 78),
  (78, [0, 1, 2, 3, 5], [(78, .aload_n 0, []), (79, .iload 5, []), (81, .iload_n 1, []), (82, .invokevirtual 135, [1, 169, 3, 1, 0, 0, 10])], 85),
  (85, [0, 1, 2, 3], [(85, .lastore, []), (86, .iinc 2 1, []), (89, .goto 124, [213])], 92),
  (92, [0, 1, 2, 3, 4], [(92, .iinc 2 (-1), []), (95, .aload_n 0, []), (96, .getfield 20, [9, 6, 2, 0]), (99, .iload_n 2, []), (100, .laload, []), (101, .lstore 6, []), (103, .aload_n 0, []), (104, .getfield 20, [9, 6, 2, 0]), (107, .iload_n 2, []), (108, .iconst 1, []), (109, .isub, []), (110, .laload, []), (111, .lstore 8, []), (113, .iload 4, []), (115, .iconst 2, []), (116, .if_icmp .ne 11, [127]), (119, .lload 8, []), (121, .lload 6, []), (123, .ladd, []), (124, .goto 47, [171])], 127),
  (127, [0, 1, 2, 3, 4, 6, 8], [(127, .iload 4, []), (129, .iconst 3, []), (130, .if_icmp .ne 11, [141]), (133, .lload 8, []), (135, .lload 6, []), (137, .lsub, []), (138, .goto 33, [171])], 141),
  (141, [0, 1, 2, 3, 4, 6, 8], [(141, .iload 4, []), (143, .iconst 4, []), (144, .if_icmp .ne 11, [155]), (147, .lload 8, []), (149, .lload 6, []), (151, .lmul, []), (152, .goto 19, [171])], 155),
  (155, [0, 1, 2, 3, 6, 8], [(155, .lload 6, []), (157, .lconst 0, []), (158, .lcmp, []), (159, .ifCond .ne 7, [166]), (162, .lconst 0, []), (163, .goto 8, [171])], 166),
  (166, [0, 1, 2, 3, 6, 8], [(166, .lload 8, []), (168, .lload 6, []), (170, .ldiv, [])], 171),
  (171, [0, 1, 2, 3], [(171, .lstore 10, []), (173, .aload_n 0, []), (174, .getfield 20, [9, 6, 2, 0]), (177, .iload_n 2, []), (178, .iconst 1, []), (179, .isub, []), (180, .lload 10, []), (182, .ldc2_w 106, [0, 1000000]), (185, .lcmp, []), (186, .ifCond .le 9, [195]), (189, .ldc2_w 106, [0, 1000000]), (192, .goto 20, [212])], 195),
  (195, [0, 1, 2, 3, 10], [(195, .lload 10, []), (197, .ldc2_w 139, [1, 1000000]), (200, .lcmp, []), (201, .ifCond .ge 9, [210]), (204, .ldc2_w 139, [1, 1000000]), (207, .goto 5, [212])], 210),
  (210, [0, 1, 2, 3, 10], [(210, .lload 10, [])], 212),
  (212, [0, 1, 2, 3], [(212, .lastore, [])], 213),
  (213, [0, 1, 2, 3], [(213, .iinc 3 1, []), (216, .goto (-196), [20])], 219),
  (219, [0], [(219, .aload_n 0, []), (220, .getfield 20, [9, 6, 2, 0]), (223, .iconst 0, []), (224, .laload, []), (225, .lconst 0, []), (226, .lcmp, []), (227, .ifCond .ge 7, [234]), (230, .iconst 0, []), (231, .goto 28, [259])], 234),
  (234, [0], [(234, .aload_n 0, []), (235, .getfield 20, [9, 6, 2, 0]), (238, .iconst 0, []), (239, .laload, []), (240, .ldc2_w 141, [0, 9]), (243, .lcmp, []), (244, .ifCond .le 8, [252]), (247, .bipush 9, []), (249, .goto 10, [259])], 252),
  (252, [0], [(252, .aload_n 0, []), (253, .getfield 20, [9, 6, 2, 0]), (256, .iconst 0, []), (257, .laload, []), (258, .l2i, [])], 259),
  (259, [], [(259, .ireturn, [0])], 260)]
def rX11_oddsOf : xRow := ((yX11_oddsOf, cX11_oddsOf, 12, (some .int), 0, 0), bX11_oddsOf, pX11)
def bX11_append : xBl := [
  (0, [0, 1, 2, 3, 4, 5], [(0, .aload_n 0, []), (1, .iconst 0, []), (2, .putfield 53, [9, 0, 0, 0]), (5, .aload_n 0, []), (6, .getfield 143, [9, 8, 0, 0]), (9, .bipush 20, []), (11, .iadd, []), (12, .sipush 500, []), (15, .if_icmp .le 5, [20]), (18, .iconst (-1), []), (19, .ireturn, [0])], 20),
  (20, [0, 1, 2, 3, 4, 5], [(20, .aload_n 0, []), (21, .iload_n 1, []), (22, .invokevirtual 146, [1, 172, 2, 9, 0, 0, 10]), (25, .aload_n 0, []), (26, .iload_n 2, []), (27, .invokevirtual 146, [1, 172, 2, 9, 0, 0, 10]), (30, .aload_n 0, []), (31, .iload_n 3, []), (32, .invokevirtual 146, [1, 172, 2, 9, 0, 0, 10]), (35, .aload_n 0, []), (36, .iload 4, []), (38, .invokevirtual 146, [1, 172, 2, 9, 0, 0, 10]), (41, .aload_n 0, []), (42, .iload 5, []), (44, .invokevirtual 146, [1, 172, 2, 9, 0, 0, 10]), (47, .aload_n 0, []), (48, .getfield 143, [9, 8, 0, 0]), (51, .ireturn, [0])], 52)]
def rX11_append : xRow := ((yX11_append, cX11_append, 6, (some .int), 0, 0), bX11_append, pX11)
def bX11_four : xBl := [
  (0, [0, 1], [(0, .bipush 24, []), (2, .istore_n 2, [])], 3),
  (3, [0, 1, 2], [(3, .iload_n 2, []), (4, .ifCond .lt 35, [39]), (7, .aload_n 0, []), (8, .getfield 23, [9, 7, 2, 0]), (11, .aload_n 0, []), (12, .getfield 143, [9, 8, 0, 0]), (15, .iload_n 1, []), (16, .iload_n 2, []), (17, .ishr, []), (18, .sipush 255, []), (21, .iand, []), (22, .iastore, []), (23, .aload_n 0, []), (24, .dup, []), (25, .getfield 143, [9, 8, 0, 0]), (28, .iconst 1, []), (29, .iadd, []), (30, .putfield 143, [9, 8, 0, 0]), (33, .iinc 2 (-8), []), (36, .goto (-33), [3])], 39),
  (39, [], [(39, .return_, [])], 40)]
def rX11_four : xRow := ((yX11_four, cX11_four, 3, none, 0, 0), bX11_four, pX11)
def bX11_errorOffset : xBl := [
  (0, [0], [(0, .aload_n 0, []), (1, .iconst 0, []), (2, .putfield 53, [9, 0, 0, 0]), (5, .aload_n 0, []), (6, .getfield 26, [9, 12, 0, 0]), (9, .ireturn, [0])], 10)]
def rX11_errorOffset : xRow := ((yX11_errorOffset, cX11_errorOffset, 1, (some .int), 0, 0), bX11_errorOffset, pX11)
def bX11_fails : xBl := [
  (0, [0, 1, 2], [(0, .aload_n 0, []), (1, .getfield 149, [9, 11, 0, 0]), (4, .ifCond .eq 5, [9]), (7, .iconst 0, []), (8, .ireturn, [5])], 9),
  (9, [0, 1, 2], [(9, .aload_n 0, []), (10, .iload_n 1, []), (11, .putfield 149, [9, 11, 0, 0]), (14, .aload_n 0, []), (15, .iload_n 2, []), (16, .putfield 26, [9, 12, 0, 0]), (19, .iconst 0, []), (20, .ireturn, [5])], 21)]
def rX11_fails : xRow := ((yX11_fails, cX11_fails, 3, (some .boolean), 0, 0), bX11_fails, pX11)
def bX11_here : xBl := [
  (0, [0], [(0, .aload_n 0, []), (1, .getfield 152, [9, 10, 0, 0]), (4, .aload_n 0, []), (5, .getfield 155, [9, 9, 0, 0]), (8, .if_icmp .ge 30, [38]), (11, .aload_n 0, []), (12, .getfield 23, [9, 7, 2, 0]), (15, .aload_n 0, []), (16, .getfield 152, [9, 10, 0, 0]), (19, .iaload, []), (20, .bipush 32, []), (22, .if_icmp .ne 16, [38]), (25, .aload_n 0, []), (26, .dup, []), (27, .getfield 152, [9, 10, 0, 0]), (30, .iconst 1, []), (31, .iadd, []), (32, .putfield 152, [9, 10, 0, 0]), (35, .goto (-35), [0])], 38),
  (38, [0], [(38, .aload_n 0, []), (39, .getfield 152, [9, 10, 0, 0]), (42, .aload_n 0, []), (43, .getfield 155, [9, 9, 0, 0]), (46, .if_icmp .ge 15, [61]), (49, .aload_n 0, []), (50, .getfield 23, [9, 7, 2, 0]), (53, .aload_n 0, []), (54, .getfield 152, [9, 10, 0, 0]), (57, .iaload, []), (58, .goto 4, [62])], 61),
  (61, [], [(61, .iconst (-1), [])], 62),
  (62, [], [(62, .ireturn, [0])], 63)]
def rX11_here : xRow := ((yX11_here, cX11_here, 1, (some .int), 0, 0), bX11_here, pX11)
def bX11_isLetter : xBl := [
  (0, [0], [(0, .iload_n 0, []), (1, .bipush 97, []), (3, .if_icmp .lt 13, [16]), (6, .iload_n 0, []), (7, .bipush 122, []), (9, .if_icmp .gt 7, [16]), (12, .iconst 1, []), (13, .goto 4, [17])], 16),
  (16, [], [(16, .iconst 0, [])], 17),
  (17, [], [(17, .ireturn, [5])], 18)]
def rX11_isLetter : xRow := ((yX11_isLetter, cX11_isLetter, 1, (some .boolean), 0, 0), bX11_isLetter, pX11)
def bX11_isDigit : xBl := [
  (0, [0], [(0, .iload_n 0, []), (1, .bipush 48, []), (3, .if_icmp .lt 13, [16]), (6, .iload_n 0, []), (7, .bipush 57, []), (9, .if_icmp .gt 7, [16]), (12, .iconst 1, []), (13, .goto 4, [17])], 16),
  (16, [], [(16, .iconst 0, [])], 17),
  (17, [], [(17, .ireturn, [5])], 18)]
def rX11_isDigit : xRow := ((yX11_isDigit, cX11_isDigit, 1, (some .boolean), 0, 0), bX11_isDigit, pX11)
def bX11_takes : xBl := [
  (0, [0, 1], [(0, .aload_n 0, []), (1, .invokevirtual 158, [1, 175, 1, 0, 0, 0, 10]), (4, .pop, []), (5, .iconst 0, []), (6, .istore_n 2, [])], 7),
  (7, [0, 1, 2], [(7, .aload_n 0, []), (8, .getfield 152, [9, 10, 0, 0]), (11, .iload_n 2, []), (12, .iadd, []), (13, .aload_n 0, []), (14, .getfield 155, [9, 9, 0, 0]), (17, .if_icmp .ge 26, [43]), (20, .aload_n 0, []), (21, .getfield 23, [9, 7, 2, 0]), (24, .aload_n 0, []), (25, .getfield 152, [9, 10, 0, 0]), (28, .iload_n 2, []), (29, .iadd, []), (30, .iaload, []), (31, .invokestatic 161, [0, 176, 1, 0, 0, 0, 0]), (34, .ifCond .eq 9, [43]), (37, .iinc 2 1, []), (40, .goto (-33), [7])], 43),
  (43, [0, 1, 2], [(43, .iload_n 2, []), (44, .aload_n 1, []), (45, .invokevirtual 164, [1, 234, 1, 0, 0, 0, 100]), (48, .if_icmp .eq 5, [53]), (51, .iconst 0, []), (52, .ireturn, [5])], 53),
  (53, [0, 1, 2], [(53, .iconst 0, []), (54, .istore_n 3, [])], 55),
  (55, [0, 1, 2, 3], [(55, .iload_n 3, []), (56, .iload_n 2, []), (57, .if_icmp .ge 30, [87]), (60, .aload_n 0, []), (61, .getfield 23, [9, 7, 2, 0]), (64, .aload_n 0, []), (65, .getfield 152, [9, 10, 0, 0]), (68, .iload_n 3, []), (69, .iadd, []), (70, .iaload, []), (71, .aload_n 1, []), (72, .iload_n 3, []), (73, .invokevirtual 168, [1, 235, 2, 0, 0, 0, 100]), (76, .if_icmp .eq 5, [81]), (79, .iconst 0, []), (80, .ireturn, [5])], 81),
  (81, [0, 1, 2, 3], [(81, .iinc 3 1, []), (84, .goto (-29), [55])], 87),
  (87, [0, 2], [(87, .aload_n 0, []), (88, .dup, []), (89, .getfield 152, [9, 10, 0, 0]), (92, .iload_n 2, []), (93, .iadd, []), (94, .putfield 152, [9, 10, 0, 0]), (97, .iconst 1, []), (98, .ireturn, [5])], 99)]
def rX11_takes : xRow := ((yX11_takes, cX11_takes, 4, (some .boolean), 0, 0), bX11_takes, pX11)
def bX11_sign : xBl := [
  (0, [0, 1], [(0, .aload_n 0, []), (1, .invokevirtual 158, [1, 175, 1, 0, 0, 0, 10]), (4, .iload_n 1, []), (5, .if_icmp .eq 14, [19]), (8, .aload_n 0, []), (9, .bipush (-2), []), (11, .aload_n 0, []), (12, .getfield 152, [9, 10, 0, 0]), (15, .invokevirtual 172, [1, 174, 3, 0, 0, 0, 10]), (18, .ireturn, [5])], 19),
  (19, [0], [(19, .aload_n 0, []), (20, .dup, []), (21, .getfield 152, [9, 10, 0, 0]), (24, .iconst 1, []), (25, .iadd, []), (26, .putfield 152, [9, 10, 0, 0]), (29, .iconst 1, []), (30, .ireturn, [5])], 31)]
def rX11_sign : xRow := ((yX11_sign, cX11_sign, 2, (some .boolean), 0, 0), bX11_sign, pX11)
def bX11_reads : xBl := [
  (0, [0, 1, 2], [(0, .aload_n 0, []), (1, .invokevirtual 158, [1, 175, 1, 0, 0, 0, 10]), (4, .invokestatic 176, [0, 177, 1, 0, 0, 0, 0]), (7, .ifCond .ne 14, [21]), (10, .aload_n 0, []), (11, .bipush (-2), []), (13, .aload_n 0, []), (14, .getfield 152, [9, 10, 0, 0]), (17, .invokevirtual 172, [1, 174, 3, 0, 0, 0, 10]), (20, .ireturn, [5])], 21),
  (21, [0, 1, 2], [(21, .aload_n 0, []), (22, .aload_n 0, []), (23, .getfield 152, [9, 10, 0, 0]), (26, .putfield 179, [9, 14, 0, 0]), (29, .aload_n 0, []), (30, .iconst 0, []), (31, .putfield 182, [9, 13, 0, 0])], 34),
  (34, [0, 1, 2], [(34, .aload_n 0, []), (35, .getfield 152, [9, 10, 0, 0]), (38, .aload_n 0, []), (39, .getfield 155, [9, 9, 0, 0]), (42, .if_icmp .ge 71, [113]), (45, .aload_n 0, []), (46, .getfield 23, [9, 7, 2, 0]), (49, .aload_n 0, []), (50, .getfield 152, [9, 10, 0, 0]), (53, .iaload, []), (54, .invokestatic 176, [0, 177, 1, 0, 0, 0, 0]), (57, .ifCond .eq 56, [113]), (60, .aload_n 0, []), (61, .aload_n 0, []), (62, .getfield 182, [9, 13, 0, 0]), (65, .ldc 185, [0, 100000]), (67, .if_icmp .le 10, [77]), (70, .aload_n 0, []), (71, .getfield 182, [9, 13, 0, 0]), (74, .goto 23, [97])], 77),
  (77, [0, 1, 2], [(77, .bipush 10, []), (79, .aload_n 0, []), (80, .getfield 182, [9, 13, 0, 0]), (83, .imul, []), (84, .aload_n 0, []), (85, .getfield 23, [9, 7, 2, 0]), (88, .aload_n 0, []), (89, .getfield 152, [9, 10, 0, 0]), (92, .iaload, []), (93, .iadd, []), (94, .bipush 48, []), (96, .isub, [])], 97),
  (97, [0, 1, 2], [(97, .putfield 182, [9, 13, 0, 0]), (100, .aload_n 0, []), (101, .dup, []), (102, .getfield 152, [9, 10, 0, 0]), (105, .iconst 1, []), (106, .iadd, []), (107, .putfield 152, [9, 10, 0, 0]), (110, .goto (-76), [34])], 113),
  (113, [0, 1, 2], [(113, .aload_n 0, []), (114, .getfield 182, [9, 13, 0, 0]), (117, .iload_n 1, []), (118, .iload_n 2, []), (119, .invokestatic 66, [0, 144, 3, 0, 0, 0, 0]), (122, .ifCond .ne 16, [138]), (125, .aload_n 0, []), (126, .bipush (-3), []), (128, .aload_n 0, []), (129, .getfield 179, [9, 14, 0, 0]), (132, .invokevirtual 172, [1, 174, 3, 0, 0, 0, 10]), (135, .ifCond .eq 7, [142])], 138),
  (138, [], [(138, .iconst 1, []), (139, .goto 4, [143])], 142),
  (142, [], [(142, .iconst 0, [])], 143),
  (143, [], [(143, .ireturn, [5])], 144)]
def rX11_reads : xRow := ((yX11_reads, cX11_reads, 3, (some .boolean), 0, 0), bX11_reads, pX11)
def bX11_emits : xBl := [
  (0, [0, 1, 2], [(0, .bipush 61, []), (2, .iconst 2, []), (3, .aload_n 0, []), (4, .getfield 13, [9, 2, 2, 0]), (7, .bipush 11, []), (9, .iaload, []), (10, .imul, []), (11, .iadd, []), (12, .istore_n 3, []), (13, .aload_n 0, []), (14, .getfield 13, [9, 2, 2, 0]), (17, .iload_n 3, []), (18, .iload_n 1, []), (19, .iastore, []), (20, .aload_n 0, []), (21, .getfield 13, [9, 2, 2, 0]), (24, .iload_n 3, []), (25, .iconst 1, []), (26, .iadd, []), (27, .iload_n 2, []), (28, .iastore, []), (29, .aload_n 0, []), (30, .getfield 13, [9, 2, 2, 0]), (33, .bipush 11, []), (35, .dup2, []), (36, .iaload, []), (37, .iconst 1, []), (38, .iadd, []), (39, .iastore, []), (40, .return_, [])], 41)]
def rX11_emits : xRow := ((yX11_emits, cX11_emits, 4, none, 0, 0), bX11_emits, pX11)
def bX11_readsFactor : xBl := [
  (0, [0], [(0, .aload_n 0, []), (1, .invokevirtual 158, [1, 175, 1, 0, 0, 0, 10]), (4, .bipush 40, []), (6, .if_icmp .ne 72, [78]), (9, .aload_n 0, []), (10, .getfield 186, [9, 15, 0, 0]), (13, .iconst 4, []), (14, .if_icmp .ne 14, [28]), (17, .aload_n 0, []), (18, .bipush (-6), []), (20, .aload_n 0, []), (21, .getfield 152, [9, 10, 0, 0]), (24, .invokevirtual 172, [1, 174, 3, 0, 0, 0, 10]), (27, .ireturn, [5])], 28),
  (28, [0], [(28, .aload_n 0, []), (29, .dup, []), (30, .getfield 186, [9, 15, 0, 0]), (33, .iconst 1, []), (34, .iadd, []), (35, .putfield 186, [9, 15, 0, 0]), (38, .aload_n 0, []), (39, .dup, []), (40, .getfield 152, [9, 10, 0, 0]), (43, .iconst 1, []), (44, .iadd, []), (45, .putfield 152, [9, 10, 0, 0]), (48, .aload_n 0, []), (49, .invokevirtual 189, [1, 184, 1, 0, 0, 0, 10]), (52, .ifCond .eq 12, [64]), (55, .aload_n 0, []), (56, .bipush 41, []), (58, .invokevirtual 192, [1, 179, 2, 0, 0, 0, 10]), (61, .ifCond .ne 5, [66])], 64),
  (64, [], [(64, .iconst 0, []), (65, .ireturn, [5])], 66),
  (66, [0], [(66, .aload_n 0, []), (67, .dup, []), (68, .getfield 186, [9, 15, 0, 0]), (71, .iconst 1, []), (72, .isub, []), (73, .putfield 186, [9, 15, 0, 0]), (76, .iconst 1, []), (77, .ireturn, [5])], 78),
  (78, [0], [(78, .aload_n 0, []), (79, .invokevirtual 158, [1, 175, 1, 0, 0, 0, 10]), (82, .invokestatic 176, [0, 177, 1, 0, 0, 0, 0]), (85, .ifCond .eq 27, [112]), (88, .aload_n 0, []), (89, .iconst 0, []), (90, .sipush 9999, []), (93, .invokevirtual 195, [1, 180, 3, 0, 0, 0, 10]), (96, .ifCond .ne 5, [101]), (99, .iconst 0, []), (100, .ireturn, [5])], 101),
  (101, [0], [(101, .aload_n 0, []), (102, .iconst 0, []), (103, .aload_n 0, []), (104, .getfield 182, [9, 13, 0, 0]), (107, .invokevirtual 198, [1, 181, 3, 9, 0, 0, 10]), (110, .iconst 1, []), (111, .ireturn, [5])], 112),
  (112, [0], [(112, .aload_n 0, []), (113, .ldc 201, [2, 8]), (115, .invokevirtual 202, [1, 178, 2, 0, 0, 0, 10]), (118, .ifCond .eq 7, [125]), (121, .iconst 0, []), (122, .goto 43, [165])], 125),
  (125, [0], [(125, .aload_n 0, []), (126, .ldc 206, [2, 9]), (128, .invokevirtual 202, [1, 178, 2, 0, 0, 0, 10]), (131, .ifCond .eq 7, [138]), (134, .iconst 1, []), (135, .goto 30, [165])], 138),
  (138, [0], [(138, .aload_n 0, []), (139, .ldc 208, [2, 10]), (141, .invokevirtual 202, [1, 178, 2, 0, 0, 0, 10]), (144, .ifCond .eq 7, [151]), (147, .iconst 2, []), (148, .goto 17, [165])], 151),
  (151, [0], [(151, .aload_n 0, []), (152, .ldc 210, [2, 11]), (154, .invokevirtual 202, [1, 178, 2, 0, 0, 0, 10]), (157, .ifCond .eq 7, [164]), (160, .iconst 3, []), (161, .goto 4, [165])], 164),
  (164, [0], [(164, .iconst (-1), [])], 165),
  (165, [0], [(165, .istore_n 1, []), (166, .iload_n 1, []), (167, .iconst (-1), []), (168, .if_icmp .ne 14, [182]), (171, .aload_n 0, []), (172, .bipush (-2), []), (174, .aload_n 0, []), (175, .getfield 152, [9, 10, 0, 0]), (178, .invokevirtual 172, [1, 174, 3, 0, 0, 0, 10]), (181, .ireturn, [5])], 182),
  (182, [0, 1], [(182, .aload_n 0, []), (183, .iconst 1, []), (184, .iload_n 1, []), (185, .invokevirtual 198, [1, 181, 3, 9, 0, 0, 10]), (188, .iconst 1, []), (189, .ireturn, [5])], 190)]
def rX11_readsFactor : xRow := ((yX11_readsFactor, cX11_readsFactor, 2, (some .boolean), 0, 0), bX11_readsFactor, pX11)
def bX11_readsTerm : xBl := [
  (0, [0], [(0, .aload_n 0, []), (1, .invokevirtual 212, [1, 182, 1, 0, 0, 0, 10]), (4, .ifCond .ne 5, [9]), (7, .iconst 0, []), (8, .ireturn, [5])], 9),
  (9, [0], [(9, .aload_n 0, []), (10, .invokevirtual 158, [1, 175, 1, 0, 0, 0, 10]), (13, .bipush 42, []), (15, .if_icmp .eq 12, [27]), (18, .aload_n 0, []), (19, .invokevirtual 158, [1, 175, 1, 0, 0, 0, 10]), (22, .bipush 47, []), (24, .if_icmp .ne 46, [70])], 27),
  (27, [0], [(27, .aload_n 0, []), (28, .invokevirtual 158, [1, 175, 1, 0, 0, 0, 10]), (31, .bipush 42, []), (33, .if_icmp .ne 7, [40]), (36, .iconst 4, []), (37, .goto 4, [41])], 40),
  (40, [0], [(40, .iconst 5, [])], 41),
  (41, [0], [(41, .istore_n 1, []), (42, .aload_n 0, []), (43, .dup, []), (44, .getfield 152, [9, 10, 0, 0]), (47, .iconst 1, []), (48, .iadd, []), (49, .putfield 152, [9, 10, 0, 0]), (52, .aload_n 0, []), (53, .invokevirtual 212, [1, 182, 1, 0, 0, 0, 10]), (56, .ifCond .ne 5, [61]), (59, .iconst 0, []), (60, .ireturn, [5])], 61),
  (61, [0, 1], [(61, .aload_n 0, []), (62, .iload_n 1, []), (63, .iconst 0, []), (64, .invokevirtual 198, [1, 181, 3, 9, 0, 0, 10]), (67, .goto (-58), [9])], 70),
  (70, [], [(70, .iconst 1, []), (71, .ireturn, [5])], 72)]
def rX11_readsTerm : xRow := ((yX11_readsTerm, cX11_readsTerm, 2, (some .boolean), 0, 0), bX11_readsTerm, pX11)
def bX11_readsSum : xBl := [
  (0, [0], [(0, .aload_n 0, []), (1, .invokevirtual 215, [1, 183, 1, 0, 0, 0, 10]), (4, .ifCond .ne 5, [9]), (7, .iconst 0, []), (8, .ireturn, [5])], 9),
  (9, [0], [(9, .aload_n 0, []), (10, .invokevirtual 158, [1, 175, 1, 0, 0, 0, 10]), (13, .bipush 43, []), (15, .if_icmp .eq 12, [27]), (18, .aload_n 0, []), (19, .invokevirtual 158, [1, 175, 1, 0, 0, 0, 10]), (22, .bipush 45, []), (24, .if_icmp .ne 46, [70])], 27),
  (27, [0], [(27, .aload_n 0, []), (28, .invokevirtual 158, [1, 175, 1, 0, 0, 0, 10]), (31, .bipush 43, []), (33, .if_icmp .ne 7, [40]), (36, .iconst 2, []), (37, .goto 4, [41])], 40),
  (40, [0], [(40, .iconst 3, [])], 41),
  (41, [0], [(41, .istore_n 1, []), (42, .aload_n 0, []), (43, .dup, []), (44, .getfield 152, [9, 10, 0, 0]), (47, .iconst 1, []), (48, .iadd, []), (49, .putfield 152, [9, 10, 0, 0]), (52, .aload_n 0, []), (53, .invokevirtual 215, [1, 183, 1, 0, 0, 0, 10]), (56, .ifCond .ne 5, [61]), (59, .iconst 0, []), (60, .ireturn, [5])], 61),
  (61, [0, 1], [(61, .aload_n 0, []), (62, .iload_n 1, []), (63, .iconst 0, []), (64, .invokevirtual 198, [1, 181, 3, 9, 0, 0, 10]), (67, .goto (-58), [9])], 70),
  (70, [], [(70, .iconst 1, []), (71, .ireturn, [5])], 72)]
def rX11_readsSum : xRow := ((yX11_readsSum, cX11_readsSum, 2, (some .boolean), 0, 0), bX11_readsSum, pX11)
def bX11_once : xBl := [
  (0, [0, 1, 2], [(0, .aload_n 0, []), (1, .getfield 218, [9, 16, 0, 0]), (4, .iload_n 1, []), (5, .ishr, []), (6, .iconst 1, []), (7, .iand, []), (8, .iconst 1, []), (9, .if_icmp .ne 11, [20]), (12, .aload_n 0, []), (13, .bipush (-2), []), (15, .iload_n 2, []), (16, .invokevirtual 172, [1, 174, 3, 0, 0, 0, 10]), (19, .ireturn, [5])], 20),
  (20, [0, 1], [(20, .aload_n 0, []), (21, .dup, []), (22, .getfield 218, [9, 16, 0, 0]), (25, .iconst 1, []), (26, .iload_n 1, []), (27, .ishl, []), (28, .ior, []), (29, .putfield 218, [9, 16, 0, 0]), (32, .iconst 1, []), (33, .ireturn, [5])], 34)]
def rX11_once : xRow := ((yX11_once, cX11_once, 3, (some .boolean), 0, 0), bX11_once, pX11)
def bX11_readsScratch : xBl := [
  (0, [0], [(0, .aload_n 0, []), (1, .iconst 0, []), (2, .aload_n 0, []), (3, .getfield 13, [9, 2, 2, 0]), (6, .iconst 0, []), (7, .iaload, []), (8, .iconst 1, []), (9, .isub, []), (10, .invokevirtual 195, [1, 180, 3, 0, 0, 0, 10]), (13, .ifCond .ne 5, [18]), (16, .iconst 0, []), (17, .ireturn, [5])], 18),
  (18, [0], [(18, .aload_n 0, []), (19, .getfield 13, [9, 2, 2, 0]), (22, .bipush 28, []), (24, .aload_n 0, []), (25, .getfield 182, [9, 13, 0, 0]), (28, .iadd, []), (29, .iaload, []), (30, .iconst 1, []), (31, .if_icmp .ne 14, [45]), (34, .aload_n 0, []), (35, .bipush (-4), []), (37, .aload_n 0, []), (38, .getfield 179, [9, 14, 0, 0]), (41, .invokevirtual 172, [1, 174, 3, 0, 0, 0, 10]), (44, .ireturn, [5])], 45),
  (45, [0], [(45, .aload_n 0, []), (46, .getfield 13, [9, 2, 2, 0]), (49, .bipush 28, []), (51, .aload_n 0, []), (52, .getfield 182, [9, 13, 0, 0]), (55, .iadd, []), (56, .iconst 1, []), (57, .iastore, []), (58, .aload_n 0, []), (59, .invokevirtual 158, [1, 175, 1, 0, 0, 0, 10]), (62, .invokestatic 176, [0, 177, 1, 0, 0, 0, 0]), (65, .ifCond .ne (-65), [0]), (68, .iconst 1, []), (69, .ireturn, [5])], 70)]
def rX11_readsScratch : xRow := ((yX11_readsScratch, cX11_readsScratch, 1, (some .boolean), 0, 0), bX11_readsScratch, pX11)
def bX11_readsBlink : xBl := [
  (0, [0, 1], [(0, .aload_n 0, []), (1, .getfield 13, [9, 2, 2, 0]), (4, .bipush 10, []), (6, .iaload, []), (7, .bipush 8, []), (9, .if_icmp .ne 11, [20]), (12, .aload_n 0, []), (13, .bipush (-5), []), (15, .iload_n 1, []), (16, .invokevirtual 172, [1, 174, 3, 0, 0, 0, 10]), (19, .ireturn, [5])], 20),
  (20, [0], [(20, .bipush 45, []), (22, .iconst 2, []), (23, .aload_n 0, []), (24, .getfield 13, [9, 2, 2, 0]), (27, .bipush 10, []), (29, .iaload, []), (30, .imul, []), (31, .iadd, []), (32, .istore_n 2, []), (33, .aload_n 0, []), (34, .iconst 0, []), (35, .sipush 9999, []), (38, .invokevirtual 195, [1, 180, 3, 0, 0, 0, 10]), (41, .ifCond .ne 5, [46]), (44, .iconst 0, []), (45, .ireturn, [5])], 46),
  (46, [0, 2], [(46, .aload_n 0, []), (47, .getfield 13, [9, 2, 2, 0]), (50, .iload_n 2, []), (51, .aload_n 0, []), (52, .getfield 182, [9, 13, 0, 0]), (55, .iastore, []), (56, .aload_n 0, []), (57, .aload_n 0, []), (58, .getfield 182, [9, 13, 0, 0]), (61, .sipush 9999, []), (64, .invokevirtual 195, [1, 180, 3, 0, 0, 0, 10]), (67, .ifCond .ne 5, [72]), (70, .iconst 0, []), (71, .ireturn, [5])], 72),
  (72, [0, 2], [(72, .aload_n 0, []), (73, .getfield 13, [9, 2, 2, 0]), (76, .iload_n 2, []), (77, .iconst 1, []), (78, .iadd, []), (79, .aload_n 0, []), (80, .getfield 182, [9, 13, 0, 0]), (83, .iastore, []), (84, .aload_n 0, []), (85, .getfield 13, [9, 2, 2, 0]), (88, .bipush 10, []), (90, .dup2, []), (91, .iaload, []), (92, .iconst 1, []), (93, .iadd, []), (94, .iastore, []), (95, .iconst 1, []), (96, .ireturn, [5])], 97)]
def rX11_readsBlink : xRow := ((yX11_readsBlink, cX11_readsBlink, 3, (some .boolean), 0, 0), bX11_readsBlink, pX11)
def bX11_readsOne : xBl := [
  (0, [0, 1, 2, 3], [(0, .aload_n 0, []), (1, .iload_n 2, []), (2, .iload_n 3, []), (3, .invokevirtual 195, [1, 180, 3, 0, 0, 0, 10]), (6, .ifCond .ne 5, [11]), (9, .iconst 0, []), (10, .ireturn, [5])], 11),
  (11, [0, 1], [(11, .aload_n 0, []), (12, .getfield 13, [9, 2, 2, 0]), (15, .iload_n 1, []), (16, .aload_n 0, []), (17, .getfield 182, [9, 13, 0, 0]), (20, .iastore, []), (21, .iconst 1, []), (22, .ireturn, [5])], 23)]
def rX11_readsOne : xRow := ((yX11_readsOne, cX11_readsOne, 4, (some .boolean), 0, 0), bX11_readsOne, pX11)
def bX11_readsStatement : xBl := [
  (0, [0], [(0, .aload_n 0, []), (1, .invokevirtual 158, [1, 175, 1, 0, 0, 0, 10]), (4, .pop, []), (5, .aload_n 0, []), (6, .getfield 152, [9, 10, 0, 0]), (9, .istore_n 1, []), (10, .aload_n 0, []), (11, .ldc 221, [2, 13]), (13, .invokevirtual 202, [1, 178, 2, 0, 0, 0, 10]), (16, .ifCond .eq 8, [24]), (19, .aload_n 0, []), (20, .invokevirtual 223, [1, 186, 1, 0, 0, 0, 10]), (23, .ireturn, [5])], 24),
  (24, [0, 1], [(24, .aload_n 0, []), (25, .ldc 226, [2, 18]), (27, .invokevirtual 202, [1, 178, 2, 0, 0, 0, 10]), (30, .ifCond .eq 9, [39]), (33, .aload_n 0, []), (34, .iload_n 1, []), (35, .invokevirtual 228, [1, 187, 2, 0, 0, 0, 10]), (38, .ireturn, [5])], 39),
  (39, [0, 1], [(39, .aload_n 0, []), (40, .ldc 231, [2, 12]), (42, .invokevirtual 202, [1, 178, 2, 0, 0, 0, 10]), (45, .ifCond .eq 35, [80]), (48, .aload_n 0, []), (49, .iconst 0, []), (50, .iload_n 1, []), (51, .invokevirtual 233, [1, 185, 3, 0, 0, 0, 10]), (54, .ifCond .eq 24, [78]), (57, .aload_n 0, []), (58, .iconst 1, []), (59, .iconst 0, []), (60, .aload_n 0, []), (61, .getfield 13, [9, 2, 2, 0]), (64, .iconst 0, []), (65, .iaload, []), (66, .iconst 1, []), (67, .isub, []), (68, .invokevirtual 236, [1, 188, 4, 0, 0, 0, 10]), (71, .ifCond .eq 7, [78]), (74, .iconst 1, []), (75, .goto 4, [79])], 78),
  (78, [], [(78, .iconst 0, [])], 79),
  (79, [], [(79, .ireturn, [5])], 80),
  (80, [0, 1], [(80, .aload_n 0, []), (81, .ldc 239, [2, 14]), (83, .invokevirtual 202, [1, 178, 2, 0, 0, 0, 10]), (86, .ifCond .eq 29, [115]), (89, .aload_n 0, []), (90, .iconst 1, []), (91, .iload_n 1, []), (92, .invokevirtual 233, [1, 185, 3, 0, 0, 0, 10]), (95, .ifCond .eq 18, [113]), (98, .aload_n 0, []), (99, .iconst 4, []), (100, .iconst 1, []), (101, .bipush 99, []), (103, .invokevirtual 236, [1, 188, 4, 0, 0, 0, 10]), (106, .ifCond .eq 7, [113]), (109, .iconst 1, []), (110, .goto 4, [114])], 113),
  (113, [], [(113, .iconst 0, [])], 114),
  (114, [], [(114, .ireturn, [5])], 115),
  (115, [0, 1], [(115, .aload_n 0, []), (116, .ldc 241, [2, 15]), (118, .invokevirtual 202, [1, 178, 2, 0, 0, 0, 10]), (121, .ifCond .eq 29, [150]), (124, .aload_n 0, []), (125, .iconst 2, []), (126, .iload_n 1, []), (127, .invokevirtual 233, [1, 185, 3, 0, 0, 0, 10]), (130, .ifCond .eq 18, [148]), (133, .aload_n 0, []), (134, .iconst 5, []), (135, .iconst 1, []), (136, .bipush 9, []), (138, .invokevirtual 236, [1, 188, 4, 0, 0, 0, 10]), (141, .ifCond .eq 7, [148]), (144, .iconst 1, []), (145, .goto 4, [149])], 148),
  (148, [], [(148, .iconst 0, [])], 149),
  (149, [], [(149, .ireturn, [5])], 150),
  (150, [0, 1], [(150, .aload_n 0, []), (151, .ldc 243, [2, 16]), (153, .invokevirtual 202, [1, 178, 2, 0, 0, 0, 10]), (156, .ifCond .eq 30, [186]), (159, .aload_n 0, []), (160, .iconst 3, []), (161, .iload_n 1, []), (162, .invokevirtual 233, [1, 185, 3, 0, 0, 0, 10]), (165, .ifCond .eq 19, [184]), (168, .aload_n 0, []), (169, .bipush 6, []), (171, .iconst 0, []), (172, .bipush 9, []), (174, .invokevirtual 236, [1, 188, 4, 0, 0, 0, 10]), (177, .ifCond .eq 7, [184]), (180, .iconst 1, []), (181, .goto 4, [185])], 184),
  (184, [], [(184, .iconst 0, [])], 185),
  (185, [], [(185, .ireturn, [5])], 186),
  (186, [0, 1], [(186, .aload_n 0, []), (187, .ldc 245, [2, 17]), (189, .invokevirtual 202, [1, 178, 2, 0, 0, 0, 10]), (192, .ifCond .eq 31, [223]), (195, .aload_n 0, []), (196, .iconst 4, []), (197, .iload_n 1, []), (198, .invokevirtual 233, [1, 185, 3, 0, 0, 0, 10]), (201, .ifCond .eq 20, [221]), (204, .aload_n 0, []), (205, .bipush 7, []), (207, .iconst 0, []), (208, .sipush 9999, []), (211, .invokevirtual 236, [1, 188, 4, 0, 0, 0, 10]), (214, .ifCond .eq 7, [221]), (217, .iconst 1, []), (218, .goto 4, [222])], 221),
  (221, [], [(221, .iconst 0, [])], 222),
  (222, [], [(222, .ireturn, [5])], 223),
  (223, [0, 1], [(223, .aload_n 0, []), (224, .ldc 247, [2, 19]), (226, .invokevirtual 202, [1, 178, 2, 0, 0, 0, 10]), (229, .ifCond .ne 11, [240]), (232, .aload_n 0, []), (233, .bipush (-2), []), (235, .iload_n 1, []), (236, .invokevirtual 172, [1, 174, 3, 0, 0, 0, 10]), (239, .ireturn, [5])], 240),
  (240, [0, 1], [(240, .aload_n 0, []), (241, .iconst 0, []), (242, .putfield 186, [9, 15, 0, 0]), (245, .aload_n 0, []), (246, .iconst 5, []), (247, .iload_n 1, []), (248, .invokevirtual 233, [1, 185, 3, 0, 0, 0, 10]), (251, .ifCond .eq 14, [265]), (254, .aload_n 0, []), (255, .invokevirtual 189, [1, 184, 1, 0, 0, 0, 10]), (258, .ifCond .eq 7, [265]), (261, .iconst 1, []), (262, .goto 4, [266])], 265),
  (265, [], [(265, .iconst 0, [])], 266),
  (266, [], [(266, .ireturn, [5])], 267)]
def rX11_readsStatement : xRow := ((yX11_readsStatement, cX11_readsStatement, 2, (some .boolean), 0, 0), bX11_readsStatement, pX11)
def bX11_readsSetup : xBl := [
  (0, [0], [(0, .aload_n 0, []), (1, .ldc 201, [2, 8]), (3, .invokevirtual 202, [1, 178, 2, 0, 0, 0, 10]), (6, .ifCond .ne 14, [20]), (9, .aload_n 0, []), (10, .bipush (-2), []), (12, .aload_n 0, []), (13, .getfield 152, [9, 10, 0, 0]), (16, .invokevirtual 172, [1, 174, 3, 0, 0, 0, 10]), (19, .ireturn, [5])], 20),
  (20, [0], [(20, .aload_n 0, []), (21, .iconst 2, []), (22, .bipush 8, []), (24, .invokevirtual 195, [1, 180, 3, 0, 0, 0, 10]), (27, .ifCond .ne 5, [32]), (30, .iconst 0, []), (31, .ireturn, [5])], 32),
  (32, [0], [(32, .aload_n 0, []), (33, .aload_n 0, []), (34, .getfield 182, [9, 13, 0, 0]), (37, .invokevirtual 45, [1, 149, 2, 9, 0, 0, 10]), (40, .aload_n 0, []), (41, .iconst 0, []), (42, .putfield 218, [9, 16, 0, 0]), (45, .aload_n 0, []), (46, .bipush 59, []), (48, .invokevirtual 192, [1, 179, 2, 0, 0, 0, 10]), (51, .ifCond .ne 5, [56]), (54, .iconst 0, []), (55, .ireturn, [5])], 56),
  (56, [0], [(56, .aload_n 0, []), (57, .invokevirtual 158, [1, 175, 1, 0, 0, 0, 10]), (60, .iconst (-1), []), (61, .if_icmp .eq 21, [82]), (64, .aload_n 0, []), (65, .invokevirtual 249, [1, 189, 1, 0, 0, 0, 10]), (68, .ifCond .eq 12, [80]), (71, .aload_n 0, []), (72, .bipush 59, []), (74, .invokevirtual 192, [1, 179, 2, 0, 0, 0, 10]), (77, .ifCond .ne (-21), [56])], 80),
  (80, [], [(80, .iconst 0, []), (81, .ireturn, [5])], 82),
  (82, [0], [(82, .aload_n 0, []), (83, .getfield 13, [9, 2, 2, 0]), (86, .bipush 36, []), (88, .iconst 0, []), (89, .iastore, []), (90, .aload_n 0, []), (91, .getfield 13, [9, 2, 2, 0]), (94, .bipush 36, []), (96, .aload_n 0, []), (97, .getfield 13, [9, 2, 2, 0]), (100, .iconst 1, []), (101, .iaload, []), (102, .iadd, []), (103, .iconst 1, []), (104, .iastore, []), (105, .iconst 1, []), (106, .ireturn, [5])], 107)]
def rX11_readsSetup : xRow := ((yX11_readsSetup, cX11_readsSetup, 1, (some .boolean), 0, 0), bX11_readsSetup, pX11)
def bX11_starts : xBl := [
  (0, [0, 1], [(0, .aload_n 0, []), (1, .iconst 0, []), (2, .putfield 53, [9, 0, 0, 0]), (5, .aload_n 0, []), (6, .iload_n 1, []), (7, .iconst 0, []), (8, .aload_n 0, []), (9, .getfield 143, [9, 8, 0, 0]), (12, .invokestatic 66, [0, 144, 3, 0, 0, 0, 0]), (15, .iconst 1, []), (16, .invokevirtual 252, [1, 148, 3, 0, 0, 0, 10]), (19, .ifCond .ne 5, [24]), (22, .iconst 0, []), (23, .ireturn, [5])], 24),
  (24, [0, 1], [(24, .aload_n 0, []), (25, .iload_n 1, []), (26, .putfield 155, [9, 9, 0, 0]), (29, .aload_n 0, []), (30, .iconst 0, []), (31, .putfield 152, [9, 10, 0, 0]), (34, .aload_n 0, []), (35, .iconst 0, []), (36, .putfield 143, [9, 8, 0, 0]), (39, .aload_n 0, []), (40, .iconst 0, []), (41, .putfield 149, [9, 11, 0, 0]), (44, .aload_n 0, []), (45, .iconst (-1), []), (46, .putfield 26, [9, 12, 0, 0]), (49, .iconst 1, []), (50, .ireturn, [5])], 51)]
def rX11_starts : xRow := ((yX11_starts, cX11_starts, 2, (some .boolean), 0, 0), bX11_starts, pX11)
def bX11_load : xBl := [
  (0, [0, 1], [(0, .aload_n 0, []), (1, .iload_n 1, []), (2, .invokevirtual 256, [1, 191, 2, 0, 0, 0, 10]), (5, .ifCond .ne 5, [10]), (8, .iconst 0, []), (9, .ireturn, [0])], 10),
  (10, [0], [(10, .aload_n 0, []), (11, .invokevirtual 259, [1, 190, 1, 0, 0, 0, 10]), (14, .ifCond .ne 8, [22]), (17, .aload_n 0, []), (18, .getfield 149, [9, 11, 0, 0]), (21, .ireturn, [0])], 22),
  (22, [0], [(22, .aload_n 0, []), (23, .invokevirtual 262, [1, 147, 1, 9, 0, 0, 10]), (26, .iconst 0, []), (27, .istore_n 2, [])], 28),
  (28, [0, 2], [(28, .iload_n 2, []), (29, .sipush 1100, []), (32, .if_icmp .ge 20, [52]), (35, .aload_n 0, []), (36, .iload_n 2, []), (37, .aload_n 0, []), (38, .getfield 13, [9, 2, 2, 0]), (41, .iload_n 2, []), (42, .iaload, []), (43, .invokevirtual 49, [1, 146, 3, 9, 0, 0, 10]), (46, .iinc 2 1, []), (49, .goto (-21), [28])], 52),
  (52, [0], [(52, .aload_n 0, []), (53, .invokevirtual 74, [1, 150, 1, 0, 0, 0, 10]), (56, .ireturn, [0])], 57)]
def rX11_load : xRow := ((yX11_load, cX11_load, 3, (some .int), 0, 0), bX11_load, pX11)
def bX11_kindHere : xBl := [
  (0, [0], [(0, .aload_n 0, []), (1, .ldc_w 265, [2, 20]), (4, .invokevirtual 202, [1, 178, 2, 0, 0, 0, 10]), (7, .ifCond .eq 7, [14]), (10, .iconst 0, []), (11, .goto 89, [100])], 14),
  (14, [0], [(14, .aload_n 0, []), (15, .ldc_w 267, [2, 21]), (18, .invokevirtual 202, [1, 178, 2, 0, 0, 0, 10]), (21, .ifCond .eq 7, [28]), (24, .iconst 1, []), (25, .goto 75, [100])], 28),
  (28, [0], [(28, .aload_n 0, []), (29, .ldc_w 269, [2, 22]), (32, .invokevirtual 202, [1, 178, 2, 0, 0, 0, 10]), (35, .ifCond .eq 7, [42]), (38, .iconst 2, []), (39, .goto 61, [100])], 42),
  (42, [0], [(42, .aload_n 0, []), (43, .ldc_w 271, [2, 23]), (46, .invokevirtual 202, [1, 178, 2, 0, 0, 0, 10]), (49, .ifCond .eq 7, [56]), (52, .iconst 3, []), (53, .goto 47, [100])], 56),
  (56, [0], [(56, .aload_n 0, []), (57, .ldc_w 273, [2, 24]), (60, .invokevirtual 202, [1, 178, 2, 0, 0, 0, 10]), (63, .ifCond .eq 7, [70]), (66, .iconst 4, []), (67, .goto 33, [100])], 70),
  (70, [0], [(70, .aload_n 0, []), (71, .ldc_w 275, [2, 25]), (74, .invokevirtual 202, [1, 178, 2, 0, 0, 0, 10]), (77, .ifCond .eq 7, [84]), (80, .iconst 5, []), (81, .goto 19, [100])], 84),
  (84, [0], [(84, .aload_n 0, []), (85, .ldc_w 277, [2, 26]), (88, .invokevirtual 202, [1, 178, 2, 0, 0, 0, 10]), (91, .ifCond .eq 8, [99]), (94, .bipush 6, []), (96, .goto 4, [100])], 99),
  (99, [], [(99, .iconst (-1), [])], 100),
  (100, [], [(100, .ireturn, [0])], 101)]
def rX11_kindHere : xRow := ((yX11_kindHere, cX11_kindHere, 1, (some .int), 0, 0), bX11_kindHere, pX11)
def bX11_readsRepeat : xBl := [
  (0, [0, 1], [(0, .aload_n 0, []), (1, .dup, []), (2, .getfield 279, [9, 22, 0, 0]), (5, .iconst 1, []), (6, .iadd, []), (7, .putfield 279, [9, 22, 0, 0]), (10, .aload_n 0, []), (11, .iconst 1, []), (12, .bipush 20, []), (14, .invokevirtual 195, [1, 180, 3, 0, 0, 0, 10]), (17, .ifCond .ne 5, [22]), (20, .iconst 0, []), (21, .ireturn, [5])], 22),
  (22, [0, 1], [(22, .aload_n 0, []), (23, .getfield 33, [9, 18, 2, 0]), (26, .iload_n 1, []), (27, .aload_n 0, []), (28, .getfield 182, [9, 13, 0, 0]), (31, .iastore, []), (32, .aload_n 0, []), (33, .bipush 40, []), (35, .invokevirtual 192, [1, 179, 2, 0, 0, 0, 10]), (38, .ifCond .eq 19, [57]), (41, .aload_n 0, []), (42, .invokevirtual 282, [1, 196, 1, 0, 0, 0, 10]), (45, .ifCond .eq 12, [57]), (48, .aload_n 0, []), (49, .bipush 41, []), (51, .invokevirtual 192, [1, 179, 2, 0, 0, 0, 10]), (54, .ifCond .ne 5, [59])], 57),
  (57, [], [(57, .iconst 0, []), (58, .ireturn, [5])], 59),
  (59, [0, 1], [(59, .aload_n 0, []), (60, .getfield 39, [9, 20, 2, 0]), (63, .iload_n 1, []), (64, .aload_n 0, []), (65, .getfield 285, [9, 21, 0, 0]), (68, .iastore, []), (69, .aload_n 0, []), (70, .dup, []), (71, .getfield 279, [9, 22, 0, 0]), (74, .iconst 1, []), (75, .isub, []), (76, .putfield 279, [9, 22, 0, 0]), (79, .iconst 1, []), (80, .ireturn, [5])], 81)]
def rX11_readsRepeat : xRow := ((yX11_readsRepeat, cX11_readsRepeat, 2, (some .boolean), 0, 0), bX11_readsRepeat, pX11)
def bX11_readsCommand : xBl := [
  (0, [0], [(0, .aload_n 0, []), (1, .invokevirtual 158, [1, 175, 1, 0, 0, 0, 10]), (4, .pop, []), (5, .aload_n 0, []), (6, .getfield 152, [9, 10, 0, 0]), (9, .istore_n 1, []), (10, .aload_n 0, []), (11, .invokevirtual 288, [1, 193, 1, 0, 0, 0, 10]), (14, .istore_n 2, []), (15, .iload_n 2, []), (16, .iconst (-1), []), (17, .if_icmp .ne 11, [28]), (20, .aload_n 0, []), (21, .bipush (-2), []), (23, .iload_n 1, []), (24, .invokevirtual 172, [1, 174, 3, 0, 0, 0, 10]), (27, .ireturn, [5])], 28),
  (28, [0, 1, 2], [(28, .aload_n 0, []), (29, .getfield 285, [9, 21, 0, 0]), (32, .bipush 60, []), (34, .if_icmp .ne 11, [45]), (37, .aload_n 0, []), (38, .bipush (-5), []), (40, .iload_n 1, []), (41, .invokevirtual 172, [1, 174, 3, 0, 0, 0, 10]), (44, .ireturn, [5])], 45),
  (45, [0, 1, 2], [(45, .iload_n 2, []), (46, .bipush 6, []), (48, .if_icmp .ne 19, [67]), (51, .aload_n 0, []), (52, .getfield 279, [9, 22, 0, 0]), (55, .iconst 3, []), (56, .if_icmp .ne 11, [67]), (59, .aload_n 0, []), (60, .bipush (-6), []), (62, .iload_n 1, []), (63, .invokevirtual 172, [1, 174, 3, 0, 0, 0, 10]), (66, .ireturn, [5])], 67),
  (67, [0, 2], [(67, .aload_n 0, []), (68, .getfield 285, [9, 21, 0, 0]), (71, .istore_n 3, []), (72, .aload_n 0, []), (73, .dup, []), (74, .getfield 285, [9, 21, 0, 0]), (77, .iconst 1, []), (78, .iadd, []), (79, .putfield 285, [9, 21, 0, 0]), (82, .aload_n 0, []), (83, .getfield 30, [9, 17, 2, 0]), (86, .iload_n 3, []), (87, .iload_n 2, []), (88, .iastore, []), (89, .iload_n 2, []), (90, .bipush 6, []), (92, .if_icmp .ne 9, [101]), (95, .aload_n 0, []), (96, .iload_n 3, []), (97, .invokevirtual 291, [1, 194, 2, 0, 0, 0, 10]), (100, .ireturn, [5])], 101),
  (101, [0, 2, 3], [(101, .iload_n 2, []), (102, .iconst 2, []), (103, .if_icmp .ne 5, [108]), (106, .iconst 1, []), (107, .ireturn, [5])], 108),
  (108, [0, 2, 3], [(108, .aload_n 0, []), (109, .iconst 0, []), (110, .sipush 9999, []), (113, .invokevirtual 195, [1, 180, 3, 0, 0, 0, 10]), (116, .ifCond .ne 5, [121]), (119, .iconst 0, []), (120, .ireturn, [5])], 121),
  (121, [0, 2, 3], [(121, .aload_n 0, []), (122, .getfield 33, [9, 18, 2, 0]), (125, .iload_n 3, []), (126, .aload_n 0, []), (127, .getfield 182, [9, 13, 0, 0]), (130, .iastore, []), (131, .iload_n 2, []), (132, .iconst 1, []), (133, .if_icmp .le 5, [138]), (136, .iconst 1, []), (137, .ireturn, [5])], 138),
  (138, [0, 3], [(138, .aload_n 0, []), (139, .iconst 0, []), (140, .sipush 9999, []), (143, .invokevirtual 195, [1, 180, 3, 0, 0, 0, 10]), (146, .ifCond .ne 5, [151]), (149, .iconst 0, []), (150, .ireturn, [5])], 151),
  (151, [0, 3], [(151, .aload_n 0, []), (152, .getfield 36, [9, 19, 2, 0]), (155, .iload_n 3, []), (156, .aload_n 0, []), (157, .getfield 182, [9, 13, 0, 0]), (160, .iastore, []), (161, .iconst 1, []), (162, .ireturn, [5])], 163)]
def rX11_readsCommand : xRow := ((yX11_readsCommand, cX11_readsCommand, 4, (some .boolean), 0, 0), bX11_readsCommand, pX11)
def bX11_readsScript : xBl := [
  (0, [0], [(0, .aload_n 0, []), (1, .invokevirtual 158, [1, 175, 1, 0, 0, 0, 10]), (4, .invokestatic 161, [0, 176, 1, 0, 0, 0, 0]), (7, .ifCond .eq 21, [28]), (10, .aload_n 0, []), (11, .invokevirtual 294, [1, 195, 1, 0, 0, 0, 10]), (14, .ifCond .eq 12, [26]), (17, .aload_n 0, []), (18, .bipush 59, []), (20, .invokevirtual 192, [1, 179, 2, 0, 0, 0, 10]), (23, .ifCond .ne (-23), [0])], 26),
  (26, [], [(26, .iconst 0, []), (27, .ireturn, [5])], 28),
  (28, [], [(28, .iconst 1, []), (29, .ireturn, [5])], 30)]
def rX11_readsScript : xRow := ((yX11_readsScript, cX11_readsScript, 1, (some .boolean), 0, 0), bX11_readsScript, pX11)
def bX11_isPlace : xBl := [
  (0, [0, 1], [(0, .iload_n 1, []), (1, .iconst 0, []), (2, .aload_n 0, []), (3, .invokevirtual 74, [1, 150, 1, 0, 0, 0, 10]), (6, .iconst 1, []), (7, .isub, []), (8, .invokestatic 66, [0, 144, 3, 0, 0, 0, 0]), (11, .ireturn, [5])], 12)]
def rX11_isPlace : xRow := ((yX11_isPlace, cX11_isPlace, 2, (some .boolean), 0, 0), bX11_isPlace, pX11)
def bX11_does : xBl := [
  (0, [0, 1], [(0, .aload_n 0, []), (1, .getfield 33, [9, 18, 2, 0]), (4, .iload_n 1, []), (5, .iaload, []), (6, .istore_n 2, []), (7, .aload_n 0, []), (8, .getfield 30, [9, 17, 2, 0]), (11, .iload_n 1, []), (12, .iaload, []), (13, .tableswitch 161 0 4 #[35, 35, 90, 102, 132], [174, 0, 48, 48, 103, 115, 145])], 48),
  (48, [0, 1, 2], [(48, .aload_n 0, []), (49, .iload_n 2, []), (50, .invokevirtual 297, [1, 197, 2, 0, 0, 0, 10]), (53, .ifCond .eq 26, [79]), (56, .aload_n 0, []), (57, .aload_n 0, []), (58, .getfield 36, [9, 19, 2, 0]), (61, .iload_n 1, []), (62, .iaload, []), (63, .invokevirtual 297, [1, 197, 2, 0, 0, 0, 10]), (66, .ifCond .eq 13, [79]), (69, .iload_n 2, []), (70, .aload_n 0, []), (71, .getfield 36, [9, 19, 2, 0]), (74, .iload_n 1, []), (75, .iaload, []), (76, .if_icmp .ne 5, [81])], 79),
  (79, [], [(79, .iconst 0, []), (80, .ireturn, [5])], 81),
  (81, [0, 1, 2], [(81, .aload_n 0, []), (82, .aload_n 0, []), (83, .getfield 30, [9, 17, 2, 0]), (86, .iload_n 1, []), (87, .iaload, []), (88, .iload_n 2, []), (89, .aload_n 0, []), (90, .getfield 36, [9, 19, 2, 0]), (93, .iload_n 1, []), (94, .iaload, []), (95, .invokevirtual 300, [1, 165, 4, 0, 0, 0, 10]), (98, .ifCond .ne 3, [101])], 101),
  (101, [], [(101, .iconst 1, []), (102, .ireturn, [5])], 103),
  (103, [0], [(103, .aload_n 0, []), (104, .iconst 2, []), (105, .iconst 0, []), (106, .iconst 0, []), (107, .invokevirtual 300, [1, 165, 4, 0, 0, 0, 10]), (110, .ifCond .ne 3, [113])], 113),
  (113, [], [(113, .iconst 1, []), (114, .ireturn, [5])], 115),
  (115, [0, 2], [(115, .aload_n 0, []), (116, .iload_n 2, []), (117, .invokevirtual 297, [1, 197, 2, 0, 0, 0, 10]), (120, .ifCond .eq 11, [131]), (123, .aload_n 0, []), (124, .iload_n 2, []), (125, .invokevirtual 302, [1, 167, 2, 0, 0, 0, 10]), (128, .ifCond .ne 5, [133])], 131),
  (131, [], [(131, .iconst 0, []), (132, .ireturn, [5])], 133),
  (133, [0, 2], [(133, .aload_n 0, []), (134, .iconst 3, []), (135, .iload_n 2, []), (136, .iconst 0, []), (137, .invokevirtual 300, [1, 165, 4, 0, 0, 0, 10]), (140, .ifCond .ne 3, [143])], 143),
  (143, [], [(143, .iconst 1, []), (144, .ireturn, [5])], 145),
  (145, [0, 2], [(145, .aload_n 0, []), (146, .iload_n 2, []), (147, .invokevirtual 297, [1, 197, 2, 0, 0, 0, 10]), (150, .ifCond .eq 10, [160]), (153, .aload_n 0, []), (154, .invokevirtual 305, [1, 168, 1, 0, 0, 0, 10]), (157, .ifCond .ne 5, [162])], 160),
  (160, [], [(160, .iconst 0, []), (161, .ireturn, [5])], 162),
  (162, [0, 2], [(162, .aload_n 0, []), (163, .iconst 4, []), (164, .iload_n 2, []), (165, .iconst 0, []), (166, .invokevirtual 300, [1, 165, 4, 0, 0, 0, 10]), (169, .ifCond .ne 3, [172])], 172),
  (172, [], [(172, .iconst 1, []), (173, .ireturn, [5])], 174),
  (174, [0, 2], [(174, .aload_n 0, []), (175, .iload_n 2, []), (176, .invokevirtual 297, [1, 197, 2, 0, 0, 0, 10]), (179, .ifCond .eq 15, [194]), (182, .aload_n 0, []), (183, .iload_n 2, []), (184, .invokevirtual 308, [1, 166, 2, 0, 0, 0, 10]), (187, .ifCond .ne 3, [190])], 190),
  (190, [], [(190, .iconst 1, []), (191, .goto 4, [195])], 194),
  (194, [], [(194, .iconst 0, [])], 195),
  (195, [], [(195, .ireturn, [5])], 196)]
def rX11_does : xRow := ((yX11_does, cX11_does, 3, (some .boolean), 0, 0), bX11_does, pX11)
def bX11_runs : xBl := [
  (0, [0, 1, 2], [(0, .iload_n 1, []), (1, .istore_n 3, [])], 2),
  (2, [0, 2, 3], [(2, .iload_n 3, []), (3, .iload_n 2, []), (4, .if_icmp .ge 125, [129]), (7, .aload_n 0, []), (8, .getfield 311, [9, 24, 5, 0]), (11, .ifCond .ne 118, [129]), (14, .aload_n 0, []), (15, .getfield 30, [9, 17, 2, 0]), (18, .iload_n 3, []), (19, .iaload, []), (20, .bipush 6, []), (22, .if_icmp .ne 53, [75]), (25, .iconst 0, []), (26, .istore 4, [])], 28),
  (28, [0, 2, 3, 4], [(28, .iload 4, []), (30, .aload_n 0, []), (31, .getfield 33, [9, 18, 2, 0]), (34, .iload_n 3, []), (35, .iaload, []), (36, .if_icmp .ge 29, [65]), (39, .aload_n 0, []), (40, .getfield 311, [9, 24, 5, 0]), (43, .ifCond .ne 22, [65]), (46, .aload_n 0, []), (47, .iload_n 3, []), (48, .iconst 1, []), (49, .iadd, []), (50, .aload_n 0, []), (51, .getfield 39, [9, 20, 2, 0]), (54, .iload_n 3, []), (55, .iaload, []), (56, .invokevirtual 315, [1, 199, 3, 9, 0, 0, 10]), (59, .iinc 4 1, []), (62, .goto (-34), [28])], 65),
  (65, [0, 2, 3], [(65, .aload_n 0, []), (66, .getfield 39, [9, 20, 2, 0]), (69, .iload_n 3, []), (70, .iaload, []), (71, .istore_n 3, []), (72, .goto (-70), [2])], 75),
  (75, [0, 2, 3], [(75, .aload_n 0, []), (76, .aload_n 0, []), (77, .getfield 318, [9, 23, 0, 0]), (80, .sipush 200, []), (83, .if_icmp .eq 11, [94]), (86, .aload_n 0, []), (87, .iload_n 3, []), (88, .invokevirtual 321, [1, 198, 2, 0, 0, 0, 10]), (91, .ifCond .ne 7, [98])], 94),
  (94, [0, 2, 3], [(94, .iconst 1, []), (95, .goto 4, [99])], 98),
  (98, [0, 2, 3], [(98, .iconst 0, [])], 99),
  (99, [0, 2, 3], [(99, .putfield 311, [9, 24, 5, 0]), (102, .aload_n 0, []), (103, .dup, []), (104, .getfield 318, [9, 23, 0, 0]), (107, .aload_n 0, []), (108, .getfield 311, [9, 24, 5, 0]), (111, .ifCond .eq 7, [118]), (114, .iconst 0, []), (115, .goto 4, [119])], 118),
  (118, [0, 2, 3], [(118, .iconst 1, [])], 119),
  (119, [0, 2, 3], [(119, .iadd, []), (120, .putfield 318, [9, 23, 0, 0]), (123, .iinc 3 1, []), (126, .goto (-124), [2])], 129),
  (129, [], [(129, .return_, [])], 130)]
def rX11_runs : xRow := ((yX11_runs, cX11_runs, 5, none, 0, 0), bX11_runs, pX11)
def bX11_run : xBl := [
  (0, [0, 1], [(0, .aload_n 0, []), (1, .iload_n 1, []), (2, .invokevirtual 256, [1, 191, 2, 0, 0, 0, 10]), (5, .ifCond .ne 5, [10]), (8, .iconst 0, []), (9, .ireturn, [0])], 10),
  (10, [0], [(10, .aload_n 0, []), (11, .iconst 0, []), (12, .putfield 285, [9, 21, 0, 0]), (15, .aload_n 0, []), (16, .iconst 0, []), (17, .putfield 279, [9, 22, 0, 0]), (20, .aload_n 0, []), (21, .invokevirtual 282, [1, 196, 1, 0, 0, 0, 10]), (24, .ifCond .ne 8, [32]), (27, .aload_n 0, []), (28, .getfield 149, [9, 11, 0, 0]), (31, .ireturn, [0])], 32),
  (32, [0], [(32, .aload_n 0, []), (33, .invokevirtual 158, [1, 175, 1, 0, 0, 0, 10]), (36, .iconst (-1), []), (37, .if_icmp .eq 19, [56]), (40, .aload_n 0, []), (41, .bipush (-2), []), (43, .aload_n 0, []), (44, .getfield 152, [9, 10, 0, 0]), (47, .invokevirtual 172, [1, 174, 3, 0, 0, 0, 10]), (50, .istore_n 2, []), (51, .aload_n 0, []), (52, .getfield 149, [9, 11, 0, 0]), (55, .ireturn, [0])], 56),
  (56, [0], [(56, .aload_n 0, []), (57, .invokevirtual 262, [1, 147, 1, 9, 0, 0, 10]), (60, .aload_n 0, []), (61, .iconst 0, []), (62, .putfield 318, [9, 23, 0, 0]), (65, .aload_n 0, []), (66, .iconst 0, []), (67, .putfield 311, [9, 24, 5, 0]), (70, .aload_n 0, []), (71, .iconst 0, []), (72, .aload_n 0, []), (73, .getfield 285, [9, 21, 0, 0]), (76, .invokevirtual 315, [1, 199, 3, 9, 0, 0, 10]), (79, .aload_n 0, []), (80, .getfield 318, [9, 23, 0, 0]), (83, .ireturn, [0])], 84)]
def rX11_run : xRow := ((yX11_run, cX11_run, 3, (some .int), 0, 0), bX11_run, pX11)
def bX11_believed : xBl := [
  (0, [0], [(0, .iconst 0, []), (1, .istore_n 1, []), (2, .iconst 0, []), (3, .istore_n 2, [])], 4),
  (4, [0, 1, 2], [(4, .iload_n 2, []), (5, .aload_n 0, []), (6, .invokevirtual 74, [1, 150, 1, 0, 0, 0, 10]), (9, .if_icmp .gt 27, [36]), (12, .iload_n 1, []), (13, .aload_n 0, []), (14, .iload_n 2, []), (15, .invokevirtual 78, [1, 155, 2, 1, 0, 0, 10]), (18, .lconst 0, []), (19, .lcmp, []), (20, .ifCond .le 7, [27]), (23, .iconst 1, []), (24, .goto 4, [28])], 27),
  (27, [0, 2], [(27, .iconst 0, [])], 28),
  (28, [0, 2], [(28, .iadd, []), (29, .istore_n 1, []), (30, .iinc 2 1, []), (33, .goto (-29), [4])], 36),
  (36, [1], [(36, .iload_n 1, []), (37, .ireturn, [0])], 38)]
def rX11_believed : xRow := ((yX11_believed, cX11_believed, 3, (some .int), 0, 0), bX11_believed, pX11)
def bX11_toldOf : xBl := [
  (0, [0, 1], [(0, .iload_n 1, []), (1, .tableswitch 137 0 11 #[63, 68, 74, 80, 86, 92, 98, 105, 112, 119, 126, 132], [138, 0, 64, 69, 75, 81, 87, 93, 99, 106, 113, 120, 127, 133])], 64),
  (64, [0], [(64, .aload_n 0, []), (65, .invokevirtual 74, [1, 150, 1, 0, 0, 0, 10]), (68, .ireturn, [0])], 69),
  (69, [0], [(69, .aload_n 0, []), (70, .iconst 2, []), (71, .invokevirtual 59, [1, 145, 2, 0, 0, 0, 10]), (74, .ireturn, [0])], 75),
  (75, [0], [(75, .aload_n 0, []), (76, .iconst 1, []), (77, .invokevirtual 59, [1, 145, 2, 0, 0, 0, 10]), (80, .ireturn, [0])], 81),
  (81, [0], [(81, .aload_n 0, []), (82, .iconst 3, []), (83, .invokevirtual 59, [1, 145, 2, 0, 0, 0, 10]), (86, .ireturn, [0])], 87),
  (87, [0], [(87, .aload_n 0, []), (88, .iconst 4, []), (89, .invokevirtual 59, [1, 145, 2, 0, 0, 0, 10]), (92, .ireturn, [0])], 93),
  (93, [0], [(93, .aload_n 0, []), (94, .iconst 5, []), (95, .invokevirtual 59, [1, 145, 2, 0, 0, 0, 10]), (98, .ireturn, [0])], 99),
  (99, [0], [(99, .aload_n 0, []), (100, .bipush 6, []), (102, .invokevirtual 59, [1, 145, 2, 0, 0, 0, 10]), (105, .ireturn, [0])], 106),
  (106, [0], [(106, .aload_n 0, []), (107, .bipush 7, []), (109, .invokevirtual 59, [1, 145, 2, 0, 0, 0, 10]), (112, .ireturn, [0])], 113),
  (113, [0], [(113, .aload_n 0, []), (114, .bipush 8, []), (116, .invokevirtual 59, [1, 145, 2, 0, 0, 0, 10]), (119, .ireturn, [0])], 120),
  (120, [0], [(120, .aload_n 0, []), (121, .bipush 9, []), (123, .invokevirtual 59, [1, 145, 2, 0, 0, 0, 10]), (126, .ireturn, [0])], 127),
  (127, [0], [(127, .aload_n 0, []), (128, .invokevirtual 131, [1, 163, 1, 1, 0, 0, 10]), (131, .l2i, []), (132, .ireturn, [0])], 133),
  (133, [0], [(133, .aload_n 0, []), (134, .invokevirtual 324, [1, 201, 1, 0, 0, 0, 10]), (137, .ireturn, [0])], 138),
  (138, [0], [(138, .aload_n 0, []), (139, .bipush 10, []), (141, .invokevirtual 59, [1, 145, 2, 0, 0, 0, 10]), (144, .ireturn, [0])], 145)]
def rX11_toldOf : xRow := ((yX11_toldOf, cX11_toldOf, 2, (some .int), 0, 0), bX11_toldOf, pX11)
def bX11_toldOfShell : xBl := [
  (0, [0, 1, 2], [(0, .aload_n 0, []), (1, .bipush 12, []), (3, .iload_n 1, []), (4, .iadd, []), (5, .invokevirtual 59, [1, 145, 2, 0, 0, 0, 10]), (8, .istore_n 3, []), (9, .iload_n 2, []), (10, .ifCond .ne 7, [17]), (13, .iload_n 3, []), (14, .goto 49, [63])], 17),
  (17, [0, 1, 2, 3], [(17, .iload_n 2, []), (18, .iconst 1, []), (19, .if_icmp .ne 14, [33]), (22, .aload_n 0, []), (23, .bipush 28, []), (25, .iload_n 3, []), (26, .iadd, []), (27, .invokevirtual 59, [1, 145, 2, 0, 0, 0, 10]), (30, .goto 33, [63])], 33),
  (33, [0, 1, 2, 3], [(33, .iload_n 2, []), (34, .iconst 2, []), (35, .if_icmp .ne 14, [49]), (38, .aload_n 0, []), (39, .bipush 20, []), (41, .iload_n 3, []), (42, .iadd, []), (43, .invokevirtual 59, [1, 145, 2, 0, 0, 0, 10]), (46, .goto 17, [63])], 49),
  (49, [0, 1], [(49, .aload_n 0, []), (50, .iconst 1, []), (51, .invokevirtual 59, [1, 145, 2, 0, 0, 0, 10]), (54, .iload_n 1, []), (55, .if_icmp .ne 7, [62]), (58, .iconst 1, []), (59, .goto 4, [63])], 62),
  (62, [], [(62, .iconst 0, [])], 63),
  (63, [], [(63, .ireturn, [0])], 64)]
def rX11_toldOfShell : xRow := ((yX11_toldOfShell, cX11_toldOfShell, 4, (some .int), 0, 0), bX11_toldOfShell, pX11)
def bX11_state : xBl := [
  (0, [0, 1], [(0, .aload_n 0, []), (1, .iconst 0, []), (2, .putfield 53, [9, 0, 0, 0]), (5, .aload_n 0, []), (6, .iload_n 1, []), (7, .iconst 0, []), (8, .bipush 12, []), (10, .invokestatic 66, [0, 144, 3, 0, 0, 0, 0]), (13, .iconst 1, []), (14, .invokevirtual 252, [1, 148, 3, 0, 0, 0, 10]), (17, .ifCond .eq 11, [28]), (20, .aload_n 0, []), (21, .iload_n 1, []), (22, .invokevirtual 327, [1, 202, 2, 0, 0, 0, 10]), (25, .goto 4, [29])], 28),
  (28, [], [(28, .iconst 0, [])], 29),
  (29, [], [(29, .ireturn, [0])], 30)]
def rX11_state : xRow := ((yX11_state, cX11_state, 2, (some .int), 0, 0), bX11_state, pX11)
def bX11_shell : xBl := [
  (0, [0, 1, 2], [(0, .aload_n 0, []), (1, .iconst 0, []), (2, .putfield 53, [9, 0, 0, 0]), (5, .aload_n 0, []), (6, .aload_n 0, []), (7, .iload_n 1, []), (8, .invokevirtual 297, [1, 197, 2, 0, 0, 0, 10]), (11, .iconst 1, []), (12, .invokevirtual 252, [1, 148, 3, 0, 0, 0, 10]), (15, .ifCond .eq 26, [41]), (18, .aload_n 0, []), (19, .iload_n 2, []), (20, .iconst 0, []), (21, .iconst 3, []), (22, .invokestatic 66, [0, 144, 3, 0, 0, 0, 0]), (25, .iconst 2, []), (26, .invokevirtual 252, [1, 148, 3, 0, 0, 0, 10]), (29, .ifCond .eq 12, [41]), (32, .aload_n 0, []), (33, .iload_n 1, []), (34, .iload_n 2, []), (35, .invokevirtual 330, [1, 203, 3, 0, 0, 0, 10]), (38, .goto 4, [42])], 41),
  (41, [], [(41, .iconst 0, [])], 42),
  (42, [], [(42, .ireturn, [0])], 43)]
def rX11_shell : xRow := ((yX11_shell, cX11_shell, 3, (some .int), 0, 0), bX11_shell, pX11)
def bX11_belief : xBl := [
  (0, [0, 1], [(0, .aload_n 0, []), (1, .iconst 0, []), (2, .putfield 53, [9, 0, 0, 0]), (5, .aload_n 0, []), (6, .iload_n 1, []), (7, .iconst 0, []), (8, .aload_n 0, []), (9, .invokevirtual 74, [1, 150, 1, 0, 0, 0, 10]), (12, .invokestatic 66, [0, 144, 3, 0, 0, 0, 0]), (15, .iconst 1, []), (16, .invokevirtual 252, [1, 148, 3, 0, 0, 0, 10]), (19, .ifCond .eq 14, [33]), (22, .aload_n 0, []), (23, .bipush 36, []), (25, .iload_n 1, []), (26, .iadd, []), (27, .invokevirtual 59, [1, 145, 2, 0, 0, 0, 10]), (30, .goto 4, [34])], 33),
  (33, [], [(33, .iconst 0, [])], 34),
  (34, [], [(34, .ireturn, [0])], 35)]
def rX11_belief : xRow := ((yX11_belief, cX11_belief, 2, (some .int), 0, 0), bX11_belief, pX11)
def bX11_chance : xBl := [
  (0, [0, 1], [(0, .aload_n 0, []), (1, .iconst 0, []), (2, .putfield 53, [9, 0, 0, 0]), (5, .aload_n 0, []), (6, .iload_n 1, []), (7, .iconst 0, []), (8, .aload_n 0, []), (9, .invokevirtual 74, [1, 150, 1, 0, 0, 0, 10]), (12, .invokestatic 66, [0, 144, 3, 0, 0, 0, 0]), (15, .iconst 1, []), (16, .invokevirtual 252, [1, 148, 3, 0, 0, 0, 10]), (19, .ifCond .eq 18, [37]), (22, .aload_n 0, []), (23, .iload_n 1, []), (24, .invokevirtual 78, [1, 155, 2, 1, 0, 0, 10]), (27, .l2d, []), (28, .aload_n 0, []), (29, .invokevirtual 131, [1, 163, 1, 1, 0, 0, 10]), (32, .l2d, []), (33, .ddiv, []), (34, .goto 4, [38])], 37),
  (37, [], [(37, .dconst 0, [0])], 38),
  (38, [], [(38, .dreturn, [])], 39)]
def rX11_chance : xRow := ((yX11_chance, cX11_chance, 2, (some .double), 0, 0), bX11_chance, pX11)
def bX11_doubt : xBl := [
  (0, [0], [(0, .aload_n 0, []), (1, .iconst 0, []), (2, .putfield 53, [9, 0, 0, 0]), (5, .lconst 0, []), (6, .lstore_n 1, []), (7, .iconst 0, []), (8, .istore_n 3, [])], 9),
  (9, [0, 1, 3], [(9, .iload_n 3, []), (10, .aload_n 0, []), (11, .invokevirtual 74, [1, 150, 1, 0, 0, 0, 10]), (14, .if_icmp .gt 19, [33]), (17, .lload_n 1, []), (18, .aload_n 0, []), (19, .iload_n 3, []), (20, .invokevirtual 78, [1, 155, 2, 1, 0, 0, 10]), (23, .invokestatic 101, [0, 2]), (26, .lstore_n 1, []), (27, .iinc 3 1, []), (30, .goto (-21), [9])], 33),
  (33, [0, 1], [(33, .fconst 1, [1]), (34, .lload_n 1, []), (35, .l2f, []), (36, .aload_n 0, []), (37, .invokevirtual 131, [1, 163, 1, 1, 0, 0, 10]), (40, .l2f, []), (41, .fdiv, []), (42, .fsub, []), (43, .freturn, [])], 44)]
def rX11_doubt : xRow := ((yX11_doubt, cX11_doubt, 4, (some .float), 0, 0), bX11_doubt, pX11)
def bX11_guessed : xBl := [
  (0, [0], [(0, .iconst 0, []), (1, .istore_n 1, []), (2, .iconst 1, []), (3, .istore_n 2, [])], 4),
  (4, [0, 1, 2], [(4, .iload_n 2, []), (5, .aload_n 0, []), (6, .invokevirtual 74, [1, 150, 1, 0, 0, 0, 10]), (9, .if_icmp .ge 29, [38]), (12, .aload_n 0, []), (13, .iload_n 2, []), (14, .invokevirtual 78, [1, 155, 2, 1, 0, 0, 10]), (17, .aload_n 0, []), (18, .iload_n 1, []), (19, .invokevirtual 78, [1, 155, 2, 1, 0, 0, 10]), (22, .lcmp, []), (23, .ifCond .le 7, [30]), (26, .iload_n 2, []), (27, .goto 4, [31])], 30),
  (30, [0, 1, 2], [(30, .iload_n 1, [])], 31),
  (31, [0, 2], [(31, .istore_n 1, []), (32, .iinc 2 1, []), (35, .goto (-31), [4])], 38),
  (38, [1], [(38, .iload_n 1, []), (39, .ireturn, [0])], 40)]
def rX11_guessed : xRow := ((yX11_guessed, cX11_guessed, 3, (some .int), 0, 0), bX11_guessed, pX11)
def bX11_guess : xBl := [
  (0, [0], [(0, .aload_n 0, []), (1, .iconst 0, []), (2, .putfield 53, [9, 0, 0, 0]), (5, .aload_n 0, []), (6, .invokevirtual 334, [1, 209, 1, 0, 0, 0, 10]), (9, .ireturn, [0])], 10)]
def rX11_guess : xRow := ((yX11_guess, cX11_guess, 1, (some .int), 0, 0), bX11_guess, pX11)
def bX11_blinks : xBl := [
  (0, [0, 1], [(0, .aload_n 0, []), (1, .iconst 0, []), (2, .putfield 53, [9, 0, 0, 0]), (5, .aload_n 0, []), (6, .iload_n 1, []), (7, .iconst 0, []), (8, .sipush 20000, []), (11, .invokestatic 66, [0, 144, 3, 0, 0, 0, 0]), (14, .iconst 1, []), (15, .invokevirtual 252, [1, 148, 3, 0, 0, 0, 10]), (18, .ifCond .eq 15, [33]), (21, .aload_n 0, []), (22, .iload_n 1, []), (23, .invokevirtual 70, [1, 151, 2, 0, 0, 0, 10]), (26, .ifCond .eq 7, [33]), (29, .iconst 1, []), (30, .goto 4, [34])], 33),
  (33, [], [(33, .iconst 0, [])], 34),
  (34, [], [(34, .ireturn, [5])], 35)]
def rX11_blinks : xRow := ((yX11_blinks, cX11_blinks, 2, (some .boolean), 0, 0), bX11_blinks, pX11)
def bX11_odds : xBl := [
  (0, [0, 1], [(0, .aload_n 0, []), (1, .iconst 0, []), (2, .putfield 53, [9, 0, 0, 0]), (5, .aload_n 0, []), (6, .aload_n 0, []), (7, .iload_n 1, []), (8, .invokevirtual 297, [1, 197, 2, 0, 0, 0, 10]), (11, .iconst 1, []), (12, .invokevirtual 252, [1, 148, 3, 0, 0, 0, 10]), (15, .ifCond .eq 11, [26]), (18, .aload_n 0, []), (19, .iload_n 1, []), (20, .invokevirtual 337, [1, 170, 2, 0, 0, 0, 10]), (23, .goto 4, [27])], 26),
  (26, [], [(26, .iconst 0, [])], 27),
  (27, [], [(27, .ireturn, [0])], 28)]
def rX11_odds : xRow := ((yX11_odds, cX11_odds, 2, (some .int), 0, 0), bX11_odds, pX11)
def bX11_fewest : xBl := [
  (0, [0], [(0, .aload_n 0, []), (1, .iconst 0, []), (2, .putfield 53, [9, 0, 0, 0]), (5, .iconst 0, []), (6, .istore_n 1, []), (7, .iconst 0, []), (8, .istore_n 2, []), (9, .iconst 0, []), (10, .istore_n 3, [])], 11),
  (11, [0, 1, 2, 3], [(11, .iload_n 3, []), (12, .aload_n 0, []), (13, .invokevirtual 74, [1, 150, 1, 0, 0, 0, 10]), (16, .if_icmp .ge 63, [79]), (19, .iload_n 3, []), (20, .istore 4, [])], 22),
  (22, [0, 1, 2, 3, 4], [(22, .iload_n 1, []), (23, .iload 4, []), (25, .ishr, []), (26, .iconst 1, []), (27, .iand, []), (28, .ifCond .ne 45, [73]), (31, .iload_n 1, []), (32, .iconst 1, []), (33, .iload 4, []), (35, .ishl, []), (36, .ior, []), (37, .istore_n 1, []), (38, .iload_n 2, []), (39, .aload_n 0, []), (40, .bipush 12, []), (42, .iload 4, []), (44, .iadd, []), (45, .invokevirtual 59, [1, 145, 2, 0, 0, 0, 10]), (48, .iload_n 3, []), (49, .if_icmp .ne 7, [56]), (52, .iconst 0, []), (53, .goto 4, [57])], 56),
  (56, [0, 1, 3, 4], [(56, .iconst 1, [])], 57),
  (57, [0, 1, 3, 4], [(57, .iadd, []), (58, .istore_n 2, []), (59, .aload_n 0, []), (60, .bipush 12, []), (62, .iload 4, []), (64, .iadd, []), (65, .invokevirtual 59, [1, 145, 2, 0, 0, 0, 10]), (68, .istore 4, []), (70, .goto (-48), [22])], 73),
  (73, [0, 1, 2, 3], [(73, .iinc 3 1, []), (76, .goto (-65), [11])], 79),
  (79, [2], [(79, .iload_n 2, []), (80, .ireturn, [0])], 81)]
def rX11_fewest : xRow := ((yX11_fewest, cX11_fewest, 5, (some .int), 0, 0), bX11_fewest, pX11)
def bX11_rows : xBl := [
  (0, [0, 1], [(0, .aload_n 0, []), (1, .iconst 0, []), (2, .putfield 53, [9, 0, 0, 0]), (5, .aload_n 0, []), (6, .iload_n 1, []), (7, .iconst 0, []), (8, .bipush 6, []), (10, .invokestatic 66, [0, 144, 3, 0, 0, 0, 0]), (13, .iconst 1, []), (14, .invokevirtual 252, [1, 148, 3, 0, 0, 0, 10]), (17, .ifCond .ne 5, [22]), (20, .iconst 0, []), (21, .ireturn, [0])], 22),
  (22, [0, 1], [(22, .aload_n 0, []), (23, .invokevirtual 74, [1, 150, 1, 0, 0, 0, 10]), (26, .bipush 6, []), (28, .if_icmp .le 6, [34]), (31, .bipush (-2), []), (33, .ireturn, [0])], 34),
  (34, [0, 1], [(34, .iconst 0, []), (35, .istore_n 2, [])], 36),
  (36, [0, 1, 2], [(36, .iload_n 2, []), (37, .bipush 8, []), (39, .if_icmp .ge 24, [63]), (42, .aload_n 0, []), (43, .getfield 42, [9, 25, 2, 0]), (46, .iload_n 2, []), (47, .iload_n 2, []), (48, .ifCond .ne 7, [55]), (51, .iconst 1, []), (52, .goto 4, [56])], 55),
  (55, [0, 1, 2], [(55, .iconst 0, [])], 56),
  (56, [0, 1, 2], [(56, .iastore, []), (57, .iinc 2 1, []), (60, .goto (-24), [36])], 63),
  (63, [0, 1], [(63, .iconst 2, []), (64, .istore_n 2, [])], 65),
  (65, [0, 1, 2], [(65, .iload_n 2, []), (66, .aload_n 0, []), (67, .invokevirtual 74, [1, 150, 1, 0, 0, 0, 10]), (70, .if_icmp .gt 45, [115]), (73, .iload_n 2, []), (74, .iconst 1, []), (75, .isub, []), (76, .istore_n 3, [])], 77),
  (77, [0, 1, 2, 3], [(77, .iload_n 3, []), (78, .iconst 1, []), (79, .if_icmp .lt 30, [109]), (82, .aload_n 0, []), (83, .getfield 42, [9, 25, 2, 0]), (86, .iload_n 3, []), (87, .dup2, []), (88, .iaload, []), (89, .iload_n 2, []), (90, .iconst 1, []), (91, .isub, []), (92, .aload_n 0, []), (93, .getfield 42, [9, 25, 2, 0]), (96, .iload_n 3, []), (97, .iconst 1, []), (98, .isub, []), (99, .iaload, []), (100, .imul, []), (101, .iadd, []), (102, .iastore, []), (103, .iinc 3 (-1), []), (106, .goto (-29), [77])], 109),
  (109, [0, 1, 2], [(109, .iinc 2 1, []), (112, .goto (-47), [65])], 115),
  (115, [0, 1], [(115, .iconst 0, []), (116, .istore_n 2, []), (117, .iload_n 1, []), (118, .istore_n 3, [])], 119),
  (119, [0, 2, 3], [(119, .iload_n 3, []), (120, .ifCond .lt 18, [138]), (123, .iload_n 2, []), (124, .aload_n 0, []), (125, .getfield 42, [9, 25, 2, 0]), (128, .iload_n 3, []), (129, .iaload, []), (130, .iadd, []), (131, .istore_n 2, []), (132, .iinc 3 (-2), []), (135, .goto (-16), [119])], 138),
  (138, [2], [(138, .iload_n 2, []), (139, .ireturn, [0])], 140)]
def rX11_rows : xRow := ((yX11_rows, cX11_rows, 4, (some .int), 0, 0), bX11_rows, pX11)
def bX11_fools : xBl := [
  (0, [0], [(0, .aload_n 0, []), (1, .iconst (-1), []), (2, .putfield 340, [9, 26, 0, 0]), (5, .iconst 0, []), (6, .istore_n 1, [])], 7),
  (7, [0, 1], [(7, .iload_n 1, []), (8, .iconst 1, []), (9, .if_icmp .gt 50, [59]), (12, .iconst 0, []), (13, .istore_n 2, [])], 14),
  (14, [0, 1, 2], [(14, .iload_n 2, []), (15, .aload_n 0, []), (16, .invokevirtual 74, [1, 150, 1, 0, 0, 0, 10]), (19, .if_icmp .ge 34, [53]), (22, .iload_n 2, []), (23, .iconst 1, []), (24, .iadd, []), (25, .istore_n 3, [])], 26),
  (26, [0, 1, 2, 3], [(26, .iload_n 3, []), (27, .aload_n 0, []), (28, .invokevirtual 74, [1, 150, 1, 0, 0, 0, 10]), (31, .if_icmp .ge 16, [47]), (34, .aload_n 0, []), (35, .iload_n 1, []), (36, .iload_n 2, []), (37, .iload_n 3, []), (38, .invokevirtual 343, [1, 216, 4, 9, 0, 0, 10]), (41, .iinc 3 1, []), (44, .goto (-18), [26])], 47),
  (47, [0, 1, 2], [(47, .iinc 2 1, []), (50, .goto (-36), [14])], 53),
  (53, [0, 1], [(53, .iinc 1 1, []), (56, .goto (-49), [7])], 59),
  (59, [], [(59, .return_, [])], 60)]
def rX11_fools : xRow := ((yX11_fools, cX11_fools, 4, none, 0, 0), bX11_fools, pX11)
def bX11_tries : xBl := [
  (0, [0, 1, 2, 3], [(0, .aload_n 0, []), (1, .iload_n 1, []), (2, .iload_n 2, []), (3, .iload_n 3, []), (4, .invokevirtual 122, [1, 161, 4, 9, 0, 0, 10]), (7, .aload_n 0, []), (8, .getfield 16, [9, 5, 2, 0]), (11, .aload_n 0, []), (12, .iload_n 1, []), (13, .iload_n 2, []), (14, .iload_n 3, []), (15, .invokevirtual 125, [1, 164, 4, 0, 0, 0, 10]), (18, .laload, []), (19, .lstore 4, []), (21, .lconst 0, []), (22, .lstore 6, []), (24, .iconst 0, []), (25, .istore 8, [])], 27),
  (27, [0, 1, 2, 3, 4, 6, 8], [(27, .iload 8, []), (29, .aload_n 0, []), (30, .invokevirtual 74, [1, 150, 1, 0, 0, 0, 10]), (33, .if_icmp .gt 21, [54]), (36, .lload 6, []), (38, .aload_n 0, []), (39, .getfield 16, [9, 5, 2, 0]), (42, .iload 8, []), (44, .laload, []), (45, .ladd, []), (46, .lstore 6, []), (48, .iinc 8 1, []), (51, .goto (-24), [27])], 54),
  (54, [0, 1, 2, 3, 4, 6], [(54, .aload_n 0, []), (55, .getfield 340, [9, 26, 0, 0]), (58, .iconst (-1), []), (59, .if_icmp .eq 22, [81]), (62, .lload 4, []), (64, .aload_n 0, []), (65, .getfield 346, [9, 30, 1, 0]), (68, .lmul, []), (69, .aload_n 0, []), (70, .getfield 350, [9, 29, 1, 0]), (73, .lload 6, []), (75, .lmul, []), (76, .lcmp, []), (77, .ifCond .lt 4, [81]), (80, .return_, [])], 81),
  (81, [0, 1, 2, 3, 4, 6], [(81, .aload_n 0, []), (82, .iload_n 1, []), (83, .putfield 340, [9, 26, 0, 0]), (86, .aload_n 0, []), (87, .iload_n 2, []), (88, .putfield 353, [9, 27, 0, 0]), (91, .aload_n 0, []), (92, .iload_n 3, []), (93, .putfield 356, [9, 28, 0, 0]), (96, .aload_n 0, []), (97, .lload 4, []), (99, .putfield 350, [9, 29, 1, 0]), (102, .aload_n 0, []), (103, .lload 6, []), (105, .putfield 346, [9, 30, 1, 0]), (108, .return_, [])], 109)]
def rX11_tries : xRow := ((yX11_tries, cX11_tries, 9, none, 0, 0), bX11_tries, pX11)
def bX11_fool : xBl := [
  (0, [0, 1], [(0, .aload_n 0, []), (1, .iconst 0, []), (2, .putfield 53, [9, 0, 0, 0]), (5, .aload_n 0, []), (6, .iload_n 1, []), (7, .iconst 0, []), (8, .iconst 4, []), (9, .invokestatic 66, [0, 144, 3, 0, 0, 0, 0]), (12, .iconst 1, []), (13, .invokevirtual 252, [1, 148, 3, 0, 0, 0, 10]), (16, .ifCond .ne 5, [21]), (19, .iconst 0, []), (20, .ireturn, [0])], 21),
  (21, [0, 1], [(21, .aload_n 0, []), (22, .invokevirtual 359, [1, 215, 1, 9, 0, 0, 10]), (25, .iload_n 1, []), (26, .ifCond .ne 10, [36]), (29, .aload_n 0, []), (30, .getfield 340, [9, 26, 0, 0]), (33, .goto 44, [77])], 36),
  (36, [0, 1], [(36, .iload_n 1, []), (37, .iconst 1, []), (38, .if_icmp .ne 10, [48]), (41, .aload_n 0, []), (42, .getfield 353, [9, 27, 0, 0]), (45, .goto 32, [77])], 48),
  (48, [0, 1], [(48, .iload_n 1, []), (49, .iconst 2, []), (50, .if_icmp .ne 10, [60]), (53, .aload_n 0, []), (54, .getfield 356, [9, 28, 0, 0]), (57, .goto 20, [77])], 60),
  (60, [0, 1], [(60, .iload_n 1, []), (61, .iconst 3, []), (62, .if_icmp .ne 10, [72]), (65, .aload_n 0, []), (66, .getfield 350, [9, 29, 1, 0]), (69, .goto 7, [76])], 72),
  (72, [0], [(72, .aload_n 0, []), (73, .getfield 346, [9, 30, 1, 0])], 76),
  (76, [], [(76, .l2i, [])], 77),
  (77, [], [(77, .ireturn, [0])], 78)]
def rX11_fool : xRow := ((yX11_fool, cX11_fool, 2, (some .int), 0, 0), bX11_fool, pX11)
def bX11_caught : xBl := [
  (0, [0, 1], [(0, .aload_n 0, []), (1, .iconst 0, []), (2, .putfield 53, [9, 0, 0, 0]), (5, .aload_n 0, []), (6, .iload_n 1, []), (7, .iconst 1, []), (8, .bipush 20, []), (10, .invokestatic 66, [0, 144, 3, 0, 0, 0, 0]), (13, .iconst 1, []), (14, .invokevirtual 252, [1, 148, 3, 0, 0, 0, 10]), (17, .ifCond .ne 5, [22]), (20, .iconst 0, []), (21, .ireturn, [0])], 22),
  (22, [0, 1], [(22, .aload_n 0, []), (23, .getfield 56, [9, 3, 0, 0]), (26, .istore_n 2, []), (27, .iconst 0, []), (28, .istore_n 3, [])], 29),
  (29, [0, 1, 2, 3], [(29, .iload_n 3, []), (30, .sipush 1100, []), (33, .if_icmp .ge 24, [57]), (36, .aload_n 0, []), (37, .getfield 7, [9, 1, 2, 0]), (40, .sipush 9900, []), (43, .iload_n 3, []), (44, .iadd, []), (45, .aload_n 0, []), (46, .iload_n 3, []), (47, .invokevirtual 59, [1, 145, 2, 0, 0, 0, 10]), (50, .iastore, []), (51, .iinc 3 1, []), (54, .goto (-25), [29])], 57),
  (57, [0, 1, 2], [(57, .aload_n 0, []), (58, .bipush 9, []), (60, .putfield 56, [9, 3, 0, 0]), (63, .iconst 0, []), (64, .istore_n 3, []), (65, .iconst 0, []), (66, .istore 4, [])], 68),
  (68, [0, 1, 2, 3, 4], [(68, .iload 4, []), (70, .iload_n 1, []), (71, .if_icmp .ge 51, [122]), (74, .aload_n 0, []), (75, .invokevirtual 359, [1, 215, 1, 9, 0, 0, 10]), (78, .aload_n 0, []), (79, .aload_n 0, []), (80, .getfield 340, [9, 26, 0, 0]), (83, .aload_n 0, []), (84, .getfield 353, [9, 27, 0, 0]), (87, .aload_n 0, []), (88, .getfield 356, [9, 28, 0, 0]), (91, .invokevirtual 300, [1, 165, 4, 0, 0, 0, 10]), (94, .istore 5, []), (96, .iload_n 3, []), (97, .aload_n 0, []), (98, .iconst 1, []), (99, .invokevirtual 59, [1, 145, 2, 0, 0, 0, 10]), (102, .aload_n 0, []), (103, .invokevirtual 334, [1, 209, 1, 0, 0, 0, 10]), (106, .if_icmp .ne 7, [113]), (109, .iconst 1, []), (110, .goto 4, [114])], 113),
  (113, [0, 1, 2, 4], [(113, .iconst 0, [])], 114),
  (114, [0, 1, 2, 4], [(114, .iadd, []), (115, .istore_n 3, []), (116, .iinc 4 1, []), (119, .goto (-51), [68])], 122),
  (122, [0, 2, 3], [(122, .aload_n 0, []), (123, .iload_n 2, []), (124, .putfield 56, [9, 3, 0, 0]), (127, .iload_n 3, []), (128, .ireturn, [0])], 129)]
def rX11_caught : xRow := ((yX11_caught, cX11_caught, 6, (some .int), 0, 0), bX11_caught, pX11)
def bX11_areTwo : xBl := [
  (0, [0, 1, 2], [(0, .aload_n 0, []), (1, .aload_n 0, []), (2, .iload_n 1, []), (3, .invokevirtual 297, [1, 197, 2, 0, 0, 0, 10]), (6, .ifCond .eq 15, [21]), (9, .aload_n 0, []), (10, .iload_n 2, []), (11, .invokevirtual 297, [1, 197, 2, 0, 0, 0, 10]), (14, .ifCond .eq 7, [21]), (17, .iconst 1, []), (18, .goto 4, [22])], 21),
  (21, [0, 1, 2], [(21, .iconst 0, [])], 22),
  (22, [0, 1, 2], [(22, .iconst 1, []), (23, .invokevirtual 252, [1, 148, 3, 0, 0, 0, 10]), (26, .ifCond .eq 25, [51]), (29, .aload_n 0, []), (30, .iload_n 1, []), (31, .iload_n 2, []), (32, .if_icmp .eq 7, [39]), (35, .iconst 1, []), (36, .goto 4, [40])], 39),
  (39, [], [(39, .iconst 0, [])], 40),
  (40, [], [(40, .iconst 2, []), (41, .invokevirtual 252, [1, 148, 3, 0, 0, 0, 10]), (44, .ifCond .eq 7, [51]), (47, .iconst 1, []), (48, .goto 4, [52])], 51),
  (51, [], [(51, .iconst 0, [])], 52),
  (52, [], [(52, .ireturn, [5])], 53)]
def rX11_areTwo : xRow := ((yX11_areTwo, cX11_areTwo, 3, (some .boolean), 0, 0), bX11_areTwo, pX11)
def bX11_swap : xBl := [
  (0, [0, 1, 2], [(0, .aload_n 0, []), (1, .iconst 0, []), (2, .putfield 53, [9, 0, 0, 0]), (5, .aload_n 0, []), (6, .iload_n 1, []), (7, .iload_n 2, []), (8, .invokevirtual 362, [1, 219, 3, 0, 0, 0, 10]), (11, .ifCond .ne 5, [16]), (14, .iconst 0, []), (15, .ireturn, [5])], 16),
  (16, [0, 1, 2], [(16, .aload_n 0, []), (17, .invokevirtual 262, [1, 147, 1, 9, 0, 0, 10]), (20, .aload_n 0, []), (21, .iconst 0, []), (22, .iload_n 1, []), (23, .iload_n 2, []), (24, .invokevirtual 300, [1, 165, 4, 0, 0, 0, 10]), (27, .ireturn, [5])], 28)]
def rX11_swap : xRow := ((yX11_swap, cX11_swap, 3, (some .boolean), 0, 0), bX11_swap, pX11)
def bX11_feint : xBl := [
  (0, [0, 1, 2], [(0, .aload_n 0, []), (1, .iconst 0, []), (2, .putfield 53, [9, 0, 0, 0]), (5, .aload_n 0, []), (6, .iload_n 1, []), (7, .iload_n 2, []), (8, .invokevirtual 362, [1, 219, 3, 0, 0, 0, 10]), (11, .ifCond .ne 5, [16]), (14, .iconst 0, []), (15, .ireturn, [5])], 16),
  (16, [0, 1, 2], [(16, .aload_n 0, []), (17, .invokevirtual 262, [1, 147, 1, 9, 0, 0, 10]), (20, .aload_n 0, []), (21, .iconst 1, []), (22, .iload_n 1, []), (23, .iload_n 2, []), (24, .invokevirtual 300, [1, 165, 4, 0, 0, 0, 10]), (27, .ireturn, [5])], 28)]
def rX11_feint : xRow := ((yX11_feint, cX11_feint, 3, (some .boolean), 0, 0), bX11_feint, pX11)
def bX11_rest : xBl := [
  (0, [0], [(0, .aload_n 0, []), (1, .iconst 0, []), (2, .putfield 53, [9, 0, 0, 0]), (5, .aload_n 0, []), (6, .invokevirtual 262, [1, 147, 1, 9, 0, 0, 10]), (9, .aload_n 0, []), (10, .iconst 2, []), (11, .iconst 0, []), (12, .iconst 0, []), (13, .invokevirtual 300, [1, 165, 4, 0, 0, 0, 10]), (16, .ireturn, [5])], 17)]
def rX11_rest : xRow := ((yX11_rest, cX11_rest, 1, (some .boolean), 0, 0), bX11_rest, pX11)
def bX11_steal : xBl := [
  (0, [0, 1], [(0, .aload_n 0, []), (1, .iconst 0, []), (2, .putfield 53, [9, 0, 0, 0]), (5, .aload_n 0, []), (6, .aload_n 0, []), (7, .iload_n 1, []), (8, .invokevirtual 297, [1, 197, 2, 0, 0, 0, 10]), (11, .iconst 1, []), (12, .invokevirtual 252, [1, 148, 3, 0, 0, 0, 10]), (15, .ifCond .eq 16, [31]), (18, .aload_n 0, []), (19, .aload_n 0, []), (20, .iload_n 1, []), (21, .invokevirtual 302, [1, 167, 2, 0, 0, 0, 10]), (24, .iconst 2, []), (25, .invokevirtual 252, [1, 148, 3, 0, 0, 0, 10]), (28, .ifCond .ne 5, [33])], 31),
  (31, [], [(31, .iconst 0, []), (32, .ireturn, [0])], 33),
  (33, [0, 1], [(33, .aload_n 0, []), (34, .invokevirtual 262, [1, 147, 1, 9, 0, 0, 10]), (37, .aload_n 0, []), (38, .iconst 3, []), (39, .iload_n 1, []), (40, .iconst 0, []), (41, .invokevirtual 300, [1, 165, 4, 0, 0, 0, 10]), (44, .istore_n 2, []), (45, .aload_n 0, []), (46, .invokevirtual 131, [1, 163, 1, 1, 0, 0, 10]), (49, .l2i, []), (50, .ireturn, [0])], 51)]
def rX11_steal : xRow := ((yX11_steal, cX11_steal, 3, (some .int), 0, 0), bX11_steal, pX11)
def bX11_plant : xBl := [
  (0, [0, 1], [(0, .aload_n 0, []), (1, .iconst 0, []), (2, .putfield 53, [9, 0, 0, 0]), (5, .aload_n 0, []), (6, .aload_n 0, []), (7, .iload_n 1, []), (8, .invokevirtual 297, [1, 197, 2, 0, 0, 0, 10]), (11, .iconst 1, []), (12, .invokevirtual 252, [1, 148, 3, 0, 0, 0, 10]), (15, .ifCond .eq 15, [30]), (18, .aload_n 0, []), (19, .aload_n 0, []), (20, .invokevirtual 305, [1, 168, 1, 0, 0, 0, 10]), (23, .iconst 2, []), (24, .invokevirtual 252, [1, 148, 3, 0, 0, 0, 10]), (27, .ifCond .ne 5, [32])], 30),
  (30, [], [(30, .iconst 0, []), (31, .ireturn, [0])], 32),
  (32, [0, 1], [(32, .aload_n 0, []), (33, .invokevirtual 262, [1, 147, 1, 9, 0, 0, 10]), (36, .aload_n 0, []), (37, .iconst 4, []), (38, .iload_n 1, []), (39, .iconst 0, []), (40, .invokevirtual 300, [1, 165, 4, 0, 0, 0, 10]), (43, .istore_n 2, []), (44, .aload_n 0, []), (45, .invokevirtual 131, [1, 163, 1, 1, 0, 0, 10]), (48, .l2i, []), (49, .ireturn, [0])], 50)]
def rX11_plant : xRow := ((yX11_plant, cX11_plant, 3, (some .int), 0, 0), bX11_plant, pX11)
def bX11_peek : xBl := [
  (0, [0, 1], [(0, .aload_n 0, []), (1, .iconst 0, []), (2, .putfield 53, [9, 0, 0, 0]), (5, .aload_n 0, []), (6, .aload_n 0, []), (7, .iload_n 1, []), (8, .invokevirtual 297, [1, 197, 2, 0, 0, 0, 10]), (11, .iconst 1, []), (12, .invokevirtual 252, [1, 148, 3, 0, 0, 0, 10]), (15, .ifCond .ne 5, [20]), (18, .iconst 0, []), (19, .ireturn, [5])], 20),
  (20, [0, 1], [(20, .aload_n 0, []), (21, .invokevirtual 262, [1, 147, 1, 9, 0, 0, 10]), (24, .aload_n 0, []), (25, .iload_n 1, []), (26, .invokevirtual 308, [1, 166, 2, 0, 0, 0, 10]), (29, .ireturn, [5])], 30)]
def rX11_peek : xRow := ((yX11_peek, cX11_peek, 2, (some .boolean), 0, 0), bX11_peek, pX11)
def bX11_bet : xBl := [
  (0, [0, 1, 2], [(0, .aload_n 0, []), (1, .iconst 0, []), (2, .putfield 53, [9, 0, 0, 0]), (5, .aload_n 0, []), (6, .aload_n 0, []), (7, .iload_n 1, []), (8, .invokevirtual 297, [1, 197, 2, 0, 0, 0, 10]), (11, .iconst 1, []), (12, .invokevirtual 252, [1, 148, 3, 0, 0, 0, 10]), (15, .ifCond .eq 42, [57]), (18, .aload_n 0, []), (19, .iload_n 2, []), (20, .iconst 1, []), (21, .sipush 999, []), (24, .invokestatic 66, [0, 144, 3, 0, 0, 0, 0]), (27, .iconst 2, []), (28, .invokevirtual 252, [1, 148, 3, 0, 0, 0, 10]), (31, .ifCond .eq 26, [57]), (34, .aload_n 0, []), (35, .aload_n 0, []), (36, .bipush 7, []), (38, .invokevirtual 59, [1, 145, 2, 0, 0, 0, 10]), (41, .iload_n 2, []), (42, .if_icmp .lt 7, [49]), (45, .iconst 1, []), (46, .goto 4, [50])], 49),
  (49, [0, 1, 2], [(49, .iconst 0, [])], 50),
  (50, [0, 1, 2], [(50, .iconst 3, []), (51, .invokevirtual 252, [1, 148, 3, 0, 0, 0, 10]), (54, .ifCond .ne 5, [59])], 57),
  (57, [], [(57, .iconst 0, []), (58, .ireturn, [0])], 59),
  (59, [0, 1, 2], [(59, .aload_n 0, []), (60, .invokevirtual 262, [1, 147, 1, 9, 0, 0, 10]), (63, .aload_n 0, []), (64, .iload_n 1, []), (65, .invokevirtual 337, [1, 170, 2, 0, 0, 0, 10]), (68, .istore_n 3, []), (69, .aload_n 0, []), (70, .iload_n 1, []), (71, .invokevirtual 308, [1, 166, 2, 0, 0, 0, 10]), (74, .istore 4, []), (76, .aload_n 0, []), (77, .bipush 7, []), (79, .iload 4, []), (81, .ifCond .eq 22, [103]), (84, .ldc_w 365, [0, 1000000]), (87, .aload_n 0, []), (88, .bipush 7, []), (90, .invokevirtual 59, [1, 145, 2, 0, 0, 0, 10]), (93, .iload_n 2, []), (94, .iload_n 3, []), (95, .imul, []), (96, .iadd, []), (97, .invokestatic 366, [0, 1]), (100, .goto 11, [111])], 103),
  (103, [0, 2, 4], [(103, .aload_n 0, []), (104, .bipush 7, []), (106, .invokevirtual 59, [1, 145, 2, 0, 0, 0, 10]), (109, .iload_n 2, []), (110, .isub, [])], 111),
  (111, [0, 4], [(111, .invokevirtual 49, [1, 146, 3, 9, 0, 0, 10]), (114, .iload 4, []), (116, .ifCond .eq 8, [124]), (119, .bipush 8, []), (121, .goto 5, [126])], 124),
  (124, [0], [(124, .bipush 9, [])], 126),
  (126, [0], [(126, .istore 5, []), (128, .aload_n 0, []), (129, .iload 5, []), (131, .aload_n 0, []), (132, .iload 5, []), (134, .invokevirtual 59, [1, 145, 2, 0, 0, 0, 10]), (137, .iconst 1, []), (138, .iadd, []), (139, .invokevirtual 49, [1, 146, 3, 9, 0, 0, 10]), (142, .aload_n 0, []), (143, .bipush 7, []), (145, .invokevirtual 59, [1, 145, 2, 0, 0, 0, 10]), (148, .ireturn, [0])], 149)]
def rX11_bet : xRow := ((yX11_bet, cX11_bet, 6, (some .int), 0, 0), bX11_bet, pX11)
def bX11_scratch : xBl := [
  (0, [0, 1, 2], [(0, .aload_n 0, []), (1, .iconst 0, []), (2, .putfield 53, [9, 0, 0, 0]), (5, .aload_n 0, []), (6, .aload_n 0, []), (7, .iload_n 1, []), (8, .invokevirtual 297, [1, 197, 2, 0, 0, 0, 10]), (11, .iconst 1, []), (12, .invokevirtual 252, [1, 148, 3, 0, 0, 0, 10]), (15, .ifCond .ne 5, [20]), (18, .iconst 0, []), (19, .ireturn, [5])], 20),
  (20, [0, 1, 2], [(20, .aload_n 0, []), (21, .invokevirtual 262, [1, 147, 1, 9, 0, 0, 10]), (24, .bipush 28, []), (26, .aload_n 0, []), (27, .bipush 12, []), (29, .iload_n 1, []), (30, .iadd, []), (31, .invokevirtual 59, [1, 145, 2, 0, 0, 0, 10]), (34, .iadd, []), (35, .istore_n 3, []), (36, .aload_n 0, []), (37, .iload_n 3, []), (38, .invokevirtual 59, [1, 145, 2, 0, 0, 0, 10]), (41, .iconst 1, []), (42, .if_icmp .ne 7, [49]), (45, .iconst 1, []), (46, .goto 4, [50])], 49),
  (49, [0, 2, 3], [(49, .iconst 0, [])], 50),
  (50, [0, 2, 3], [(50, .istore 4, []), (52, .aload_n 0, []), (53, .iload_n 3, []), (54, .iload_n 2, []), (55, .ifCond .eq 7, [62]), (58, .iconst 1, []), (59, .goto 4, [63])], 62),
  (62, [4], [(62, .iconst 0, [])], 63),
  (63, [4], [(63, .invokevirtual 49, [1, 146, 3, 9, 0, 0, 10]), (66, .iload 4, []), (68, .ireturn, [5])], 69)]
def rX11_scratch : xRow := ((yX11_scratch, cX11_scratch, 5, (some .boolean), 0, 0), bX11_scratch, pX11)
def bX11_blink : xBl := [
  (0, [0, 1, 2], [(0, .aload_n 0, []), (1, .iconst 0, []), (2, .putfield 53, [9, 0, 0, 0]), (5, .aload_n 0, []), (6, .iload_n 1, []), (7, .iconst 0, []), (8, .sipush 9999, []), (11, .invokestatic 66, [0, 144, 3, 0, 0, 0, 0]), (14, .ifCond .eq 18, [32]), (17, .iload_n 2, []), (18, .iload_n 1, []), (19, .sipush 9999, []), (22, .invokestatic 66, [0, 144, 3, 0, 0, 0, 0]), (25, .ifCond .eq 7, [32]), (28, .iconst 1, []), (29, .goto 4, [33])], 32),
  (32, [0, 1, 2], [(32, .iconst 0, [])], 33),
  (33, [0, 1, 2], [(33, .iconst 1, []), (34, .invokevirtual 252, [1, 148, 3, 0, 0, 0, 10]), (37, .ifCond .eq 27, [64]), (40, .aload_n 0, []), (41, .aload_n 0, []), (42, .bipush 10, []), (44, .invokevirtual 59, [1, 145, 2, 0, 0, 0, 10]), (47, .bipush 8, []), (49, .if_icmp .ge 7, [56]), (52, .iconst 1, []), (53, .goto 4, [57])], 56),
  (56, [0, 1, 2], [(56, .iconst 0, [])], 57),
  (57, [0, 1, 2], [(57, .iconst 2, []), (58, .invokevirtual 252, [1, 148, 3, 0, 0, 0, 10]), (61, .ifCond .ne 5, [66])], 64),
  (64, [], [(64, .iconst 0, []), (65, .ireturn, [0])], 66),
  (66, [0, 1, 2], [(66, .aload_n 0, []), (67, .invokevirtual 262, [1, 147, 1, 9, 0, 0, 10]), (70, .bipush 45, []), (72, .iconst 2, []), (73, .aload_n 0, []), (74, .bipush 10, []), (76, .invokevirtual 59, [1, 145, 2, 0, 0, 0, 10]), (79, .imul, []), (80, .iadd, []), (81, .istore_n 3, []), (82, .aload_n 0, []), (83, .iload_n 3, []), (84, .iload_n 1, []), (85, .invokevirtual 49, [1, 146, 3, 9, 0, 0, 10]), (88, .aload_n 0, []), (89, .iload_n 3, []), (90, .iconst 1, []), (91, .iadd, []), (92, .iload_n 2, []), (93, .invokevirtual 49, [1, 146, 3, 9, 0, 0, 10]), (96, .aload_n 0, []), (97, .bipush 10, []), (99, .aload_n 0, []), (100, .bipush 10, []), (102, .invokevirtual 59, [1, 145, 2, 0, 0, 0, 10]), (105, .iconst 1, []), (106, .iadd, []), (107, .invokevirtual 49, [1, 146, 3, 9, 0, 0, 10]), (110, .aload_n 0, []), (111, .bipush 10, []), (113, .invokevirtual 59, [1, 145, 2, 0, 0, 0, 10]), (116, .ireturn, [0])], 117)]
def rX11_blink : xRow := ((yX11_blink, cX11_blink, 4, (some .int), 0, 0), bX11_blink, pX11)
def bX11_suspect : xBl := [
  (0, [0, 1], [(0, .aload_n 0, []), (1, .iconst 0, []), (2, .putfield 53, [9, 0, 0, 0]), (5, .aload_n 0, []), (6, .iload_n 1, []), (7, .iconst 0, []), (8, .aload_n 0, []), (9, .invokevirtual 324, [1, 201, 1, 0, 0, 0, 10]), (12, .iconst 1, []), (13, .isub, []), (14, .invokestatic 66, [0, 144, 3, 0, 0, 0, 0]), (17, .iconst 1, []), (18, .invokevirtual 252, [1, 148, 3, 0, 0, 0, 10]), (21, .ifCond .ne 5, [26]), (24, .iconst 0, []), (25, .ireturn, [0])], 26),
  (26, [0, 1], [(26, .iconst 0, []), (27, .istore_n 2, [])], 28),
  (28, [0, 1, 2], [(28, .iload_n 2, []), (29, .aload_n 0, []), (30, .invokevirtual 74, [1, 150, 1, 0, 0, 0, 10]), (33, .if_icmp .gt 80, [113]), (36, .iconst 0, []), (37, .istore_n 3, []), (38, .iconst 0, []), (39, .istore 4, [])], 41),
  (41, [0, 1, 2, 3, 4], [(41, .iload 4, []), (43, .aload_n 0, []), (44, .invokevirtual 74, [1, 150, 1, 0, 0, 0, 10]), (47, .if_icmp .gt 53, [100]), (50, .iload_n 3, []), (51, .aload_n 0, []), (52, .iload 4, []), (54, .invokevirtual 78, [1, 155, 2, 1, 0, 0, 10]), (57, .aload_n 0, []), (58, .iload_n 2, []), (59, .invokevirtual 78, [1, 155, 2, 1, 0, 0, 10]), (62, .lcmp, []), (63, .ifCond .gt 24, [87]), (66, .aload_n 0, []), (67, .iload 4, []), (69, .invokevirtual 78, [1, 155, 2, 1, 0, 0, 10]), (72, .aload_n 0, []), (73, .iload_n 2, []), (74, .invokevirtual 78, [1, 155, 2, 1, 0, 0, 10]), (77, .lcmp, []), (78, .ifCond .ne 13, [91]), (81, .iload 4, []), (83, .iload_n 2, []), (84, .if_icmp .ge 7, [91])], 87),
  (87, [0, 1, 2, 4], [(87, .iconst 1, []), (88, .goto 4, [92])], 91),
  (91, [0, 1, 2, 4], [(91, .iconst 0, [])], 92),
  (92, [0, 1, 2, 4], [(92, .iadd, []), (93, .istore_n 3, []), (94, .iinc 4 1, []), (97, .goto (-56), [41])], 100),
  (100, [0, 1, 2, 3], [(100, .iload_n 3, []), (101, .iload_n 1, []), (102, .if_icmp .ne 5, [107]), (105, .iload_n 2, []), (106, .ireturn, [0])], 107),
  (107, [0, 1, 2], [(107, .iinc 2 1, []), (110, .goto (-82), [28])], 113),
  (113, [], [(113, .iconst (-1), []), (114, .ireturn, [0])], 115)]
def rX11_suspect : xRow := ((yX11_suspect, cX11_suspect, 5, (some .int), 0, 0), bX11_suspect, pX11)
def bX11_undo : xBl := [
  (0, [0], [(0, .aload_n 0, []), (1, .iconst 0, []), (2, .putfield 53, [9, 0, 0, 0]), (5, .aload_n 0, []), (6, .getfield 63, [9, 4, 0, 0]), (9, .ifCond .ne 5, [14]), (12, .iconst (-1), []), (13, .ireturn, [0])], 14),
  (14, [0], [(14, .aload_n 0, []), (15, .dup, []), (16, .getfield 63, [9, 4, 0, 0]), (19, .iconst 1, []), (20, .isub, []), (21, .putfield 63, [9, 4, 0, 0]), (24, .aload_n 0, []), (25, .aload_n 0, []), (26, .getfield 56, [9, 3, 0, 0]), (29, .bipush 9, []), (31, .iadd, []), (32, .iconst 1, []), (33, .isub, []), (34, .bipush 9, []), (36, .irem, []), (37, .putfield 56, [9, 3, 0, 0]), (40, .aload_n 0, []), (41, .getfield 63, [9, 4, 0, 0]), (44, .ireturn, [0])], 45)]
def rX11_undo : xRow := ((yX11_undo, cX11_undo, 1, (some .int), 0, 0), bX11_undo, pX11)
def bX11_joins : xBl := [
  (0, [0, 2], [(0, .ldc2_w 369, [0, 31]), (3, .lload_n 0, []), (4, .lmul, []), (5, .lload_n 2, []), (6, .ladd, []), (7, .lreturn, [])], 8)]
def rX11_joins : xRow := ((yX11_joins, cX11_joins, 4, (some .long), 0, 0), bX11_joins, pX11)
def bX11_checksum : xBl := [
  (0, [0], [(0, .aload_n 0, []), (1, .iconst 0, []), (2, .putfield 53, [9, 0, 0, 0]), (5, .lconst 0, []), (6, .lstore_n 1, []), (7, .iconst 0, []), (8, .istore_n 3, [])], 9),
  (9, [0, 1, 3], [(9, .iload_n 3, []), (10, .bipush 13, []), (12, .if_icmp .ge 20, [32]), (15, .lload_n 1, []), (16, .aload_n 0, []), (17, .iload_n 3, []), (18, .invokevirtual 327, [1, 202, 2, 0, 0, 0, 10]), (21, .i2l, []), (22, .invokestatic 371, [0, 231, 2, 1, 0, 0, 0]), (25, .lstore_n 1, []), (26, .iinc 3 1, []), (29, .goto (-20), [9])], 32),
  (32, [0, 1], [(32, .iconst 0, []), (33, .istore_n 3, [])], 34),
  (34, [0, 1, 3], [(34, .iload_n 3, []), (35, .aload_n 0, []), (36, .invokevirtual 74, [1, 150, 1, 0, 0, 0, 10]), (39, .if_icmp .ge 47, [86]), (42, .iconst 0, []), (43, .istore 4, [])], 45),
  (45, [0, 1, 3, 4], [(45, .iload 4, []), (47, .iconst 4, []), (48, .if_icmp .ge 22, [70]), (51, .lload_n 1, []), (52, .aload_n 0, []), (53, .iload_n 3, []), (54, .iload 4, []), (56, .invokevirtual 330, [1, 203, 3, 0, 0, 0, 10]), (59, .i2l, []), (60, .invokestatic 371, [0, 231, 2, 1, 0, 0, 0]), (63, .lstore_n 1, []), (64, .iinc 4 1, []), (67, .goto (-22), [45])], 70),
  (70, [0, 1, 3], [(70, .lload_n 1, []), (71, .aload_n 0, []), (72, .iload_n 3, []), (73, .invokevirtual 78, [1, 155, 2, 1, 0, 0, 10]), (76, .invokestatic 371, [0, 231, 2, 1, 0, 0, 0]), (79, .lstore_n 1, []), (80, .iinc 3 1, []), (83, .goto (-49), [34])], 86),
  (86, [0, 1], [(86, .lload_n 1, []), (87, .aload_n 0, []), (88, .aload_n 0, []), (89, .invokevirtual 74, [1, 150, 1, 0, 0, 0, 10]), (92, .invokevirtual 78, [1, 155, 2, 1, 0, 0, 10]), (95, .invokestatic 371, [0, 231, 2, 1, 0, 0, 0]), (98, .lreturn, [])], 99)]
def rX11_checksum : xRow := ((yX11_checksum, cX11_checksum, 5, (some .long), 0, 0), bX11_checksum, pX11)
end
section
/-! THE TABLE (J0, J1, J3, J7): blocks of the methods as the class file has them, written by wip/whole/gentab.py. -/
def pJ0 : xPool := [(6, 9, [78]), (2, 335, [1, 236, 1, 0, 0, 0, 100]), (2, 492, [1, 237, 1, 0, 0, 0, 100]), (2, 495, [0, 239, 2, 0, 0, 0, 0]), (1, 38, [2]), (6, 15, [79]), (1, 1053, [3]), (2, 1059, [0, 240, 3, 0, 0, 0, 0])]
def bJ0_length_8abf5 : xBl := [
  (0, [0], [(0, .aload_n 0, []), (1, .getfield 9, [78]), (4, .arraylength, []), (5, .aload_n 0, []), (6, .invokevirtual 335, [1, 236, 1, 0, 0, 0, 100]), (9, .ishr, []), (10, .ireturn, [0])], 11)]
def rJ0_length_8abf5 : xRow := ((yJ0_length_8abf5, cJ0_length_8abf5, 1, (some .int), 0, 0), bJ0_length_8abf5, pJ0)
def bJ0_charAt_5068e : xBl := [
  (0, [0, 1], [(0, .aload_n 0, []), (1, .invokevirtual 492, [1, 237, 1, 0, 0, 0, 100]), (4, .ifCond .eq 12, [16]), (7, .aload_n 0, []), (8, .getfield 9, [78]), (11, .iload_n 1, []), (12, .invokestatic 495, [0, 239, 2, 0, 0, 0, 0]), (15, .ireturn, [7])], 16)]
def rJ0_charAt_5068e : xRow := ((yJ0_charAt_5068e, cJ0_charAt_5068e, 2, (some .char), 0, 0), bJ0_charAt_5068e, pJ0)
def bJ0_coder_7d493 : xBl := [
  (0, [0], [(0, .getstatic 38, [2]), (3, .ifCond .eq 10, [13]), (6, .aload_n 0, []), (7, .getfield 15, [79]), (10, .goto 4, [14])], 13),
  (14, [], [(14, .ireturn, [6])], 15)]
def rJ0_coder_7d493 : xRow := ((yJ0_coder_7d493, cJ0_coder_7d493, 1, (some .byte), 0, 0), bJ0_coder_7d493, pJ0)
def bJ0_isLatin1_aae02 : xBl := [
  (0, [0], [(0, .getstatic 38, [2]), (3, .ifCond .eq 14, [17]), (6, .aload_n 0, []), (7, .getfield 15, [79]), (10, .ifCond .ne 7, [17]), (13, .iconst 1, []), (14, .goto 4, [18])], 17),
  (18, [], [(18, .ireturn, [5])], 19)]
def rJ0_isLatin1_aae02 : xRow := ((yJ0_isLatin1_aae02, cJ0_isLatin1_aae02, 1, (some .boolean), 0, 0), bJ0_isLatin1_aae02, pJ0)
def bJ0_checkIndex_df160 : xBl := [
  (0, [0, 1], [(0, .iload_n 0, []), (1, .iload_n 1, []), (2, .getstatic 1053, [3]), (5, .invokestatic 1059, [0, 240, 3, 0, 0, 0, 0]), (8, .pop, []), (9, .return_, [])], 10)]
def rJ0_checkIndex_df160 : xRow := ((yJ0_checkIndex_df160, cJ0_checkIndex_df160, 2, none, 0, 0), bJ0_checkIndex_df160, pJ0)
def pJ1 : xPool := [(2, 9, [0, 238, 2, 9, 0, 0, 0])]
def bJ1_charAt_3b067 : xBl := [
  (0, [0, 1], [(0, .iload_n 1, []), (1, .aload_n 0, []), (2, .arraylength, []), (3, .invokestatic 9, [0, 238, 2, 9, 0, 0, 0]), (6, .aload_n 0, []), (7, .iload_n 1, []), (8, .baload, []), (9, .sipush 255, []), (12, .iand, []), (13, .i2c, []), (14, .ireturn, [7])], 15)]
def rJ1_charAt_3b067 : xRow := ((yJ1_charAt_3b067, cJ1_charAt_3b067, 2, (some .char), 0, 0), bJ1_charAt_3b067, pJ1)
def pJ3 : xPool := []
def bJ3_checkIndex_8e157 : xBl := [
  (0, [0, 1], [(0, .iload_n 0, []), (1, .ifCond .lt 8, [9]), (4, .iload_n 0, []), (5, .iload_n 1, []), (6, .if_icmp .lt 10, [16])], 9),
  (16, [0], [(16, .iload_n 0, []), (17, .ireturn, [0])], 18)]
def rJ3_checkIndex_8e157 : xRow := ((yJ3_checkIndex_8e157, cJ3_checkIndex_8e157, 3, (some .int), 0, 0), bJ3_checkIndex_8e157, pJ3)
def pJ7 : xPool := []
def bJ7_fill_53178 : xBl := [
  (0, [0, 1], [(0, .iconst 0, []), (1, .istore_n 2, []), (2, .aload_n 0, []), (3, .arraylength, []), (4, .istore_n 3, [])], 5),
  (5, [0, 1, 2, 3], [(5, .iload_n 2, []), (6, .iload_n 3, []), (7, .if_icmp .ge 13, [20]), (10, .aload_n 0, []), (11, .iload_n 2, []), (12, .iload_n 1, []), (13, .iastore, []), (14, .iinc 2 1, []), (17, .goto (-12), [5])], 20),
  (20, [], [(20, .return_, [])], 21)]
def rJ7_fill_53178 : xRow := ((yJ7_fill_53178, cJ7_fill_53178, 4, none, 0, 0), bJ7_fill_53178, pJ7)
def xlds : xLds := [(RX11, 201, "shells", 8), (RX11, 206, "steps", 9), (RX11, 208, "blinks", 10), (RX11, 210, "chance", 11), (RX11, 221, "scratch", 13), (RX11, 226, "blink", 18), (RX11, 231, "ball", 12), (RX11, 239, "trust", 14), (RX11, 241, "calm", 15), (RX11, 243, "sly", 16), (RX11, 245, "purse", 17), (RX11, 247, "odds", 19), (RX11, 265, "swap", 20), (RX11, 267, "feint", 21), (RX11, 269, "rest", 22), (RX11, 271, "steal", 23), (RX11, 273, "plant", 24), (RX11, 275, "peek", 25), (RX11, 277, "repeat", 26)]
def xexs : List (String × Nat × String) := [(RX10, 157, "step is out of range"), (RX10, 184, "swaps is out of range"), (RX10, 193, "steps is out of range"), (RX10, 223, "the ball cannot be stolen there now"), (RX10, 233, "the ball cannot be planted now"), (RX10, 238, "stake is out of range"), (RX10, 243, "the purse is less than the stake"), (RX10, 255, "first or last is out of range"), (RX10, 260, "all blinks are told"), (RX10, 273, "not so many places are believed in"), (RX10, 289, "length is out of range"), (RX10, 296, "there is no such place"), (RX10, 299, "the places are equal"), (RX10, 301, "at is out of range"), (RX10, 303, "what is out of range")]
def xrows : List xRow := [rX0_init, rX0_clear, rX0_copyFrom, rX0_isFull, rX0_tell, rX0_has, rX1_init, rX1_clear, rX1_reset, rX1_copyFrom, rX1_put, rX1_readSum, rX1_readTerm, rX1_readFactor, rX1_variableOf, rX1_value, rX1_result, rX1_variable, rX2_init, rX2_reset, rX2_copyFrom, rX2_number, rX2_isBlinkNext, rX2_canSteal, rX2_canPlant, rX2_makeMove, rX2_makeStill, rX2_countStep, rX2_lookUnder, rX2_playBet, rX3_init, rX3_hasRoom, rX3_putWord, rX3_begin, rX3_kindAt, rX3_addToken, rX3_numberIn, rX3_tokenIn, rX3_isSpelled, rX3_put, rX3_token, rX3_number, rX3_is, rX3_advance, rX3_take, rX3_takeNumber, rX3_fail, rX4_init, rX4_reset, rX4_copyFrom, rX4_know, rX4_ruleOut, rX4_sum, rX4_greatest, rX4_countBelieved, rX4_likeliestShell, rX4_placeOfRank, rX4_countAheadOf, rX4_followMove, rX4_followStill, rX4_exchange, rX4_mix, rX4_wonder, rX4_pairsOf, rX4_settle, rX4_halve, rX4_divideByCommonDivisor, rX4_commonDivisor, rX5_init, rX5_reset, rX5_copyFrom, rX5_hasPlace, rX5_hasTwoPlaces, rX5_isScratched, rX5_setScratched, rX5_number, rX5_exchange, rX5_placeBehind, rX5_swapsToFirst, rX6_init, rX6_clear, rX6_readCommands, rX6_numbersOf, rX6_readCommand, rX6_readRepeat, rX6_put, rX6_performRange, rX6_performRepeat, rX6_performOne, rX6_isAllowed, rX7_read, rX7_bitOfSingle, rX7_readStatement, rX7_readScratches, rX7_readScratch, rX7_readBlink, rX7_readSetting, rX7_greatestOf, rX7_set, rX9_init, rX9_find, rX9_tryAll, rX9_takeIfLess, rX9_number, rX10_init, rX10_append, rX10_load, rX10_run, rX10_errorOffset, rX10_state, rX10_shell, rX10_belief, rX10_chance, rX10_doubt, rX10_guess, rX10_blinks, rX10_odds, rX10_fewest, rX10_rows, rX10_fool, rX10_caught, rX10_swap, rX10_feint, rX10_rest, rX10_steal, rX10_plant, rX10_peek, rX10_bet, rX10_scratch, rX10_blink, rX10_suspect, rX10_undo, rX10_checksum, rX10_game, rX10_change, rX10_moveBall, rX10_requireLength, rX10_requirePlace, rX10_requireTwoPlaces, rX10_requirePlaceOrHand, rX10_requireWhat, rX10_countRows, rX11_init, rX11_thrown, rX11_isIn, rX11_get, rX11_put, rX11_change, rX11_right, rX11_begins, rX11_shells, rX11_blinksAt, rX11_blinksNow, rX11_rough, rX11_exchanged, rX11_had, rX11_stays, rX11_seen, rX11_unseen, rX11_common, rX11_reduces, rX11_thinks, rX11_believes, rX11_sum, rX11_ballBehind, rX11_steps, rX11_looks, rX11_canSteal, rX11_canPlant, rX11_factOf, rX11_oddsOf, rX11_append, rX11_four, rX11_errorOffset, rX11_fails, rX11_here, rX11_isLetter, rX11_isDigit, rX11_takes, rX11_sign, rX11_reads, rX11_emits, rX11_readsFactor, rX11_readsTerm, rX11_readsSum, rX11_once, rX11_readsScratch, rX11_readsBlink, rX11_readsOne, rX11_readsStatement, rX11_readsSetup, rX11_starts, rX11_load, rX11_kindHere, rX11_readsRepeat, rX11_readsCommand, rX11_readsScript, rX11_isPlace, rX11_does, rX11_runs, rX11_run, rX11_believed, rX11_toldOf, rX11_toldOfShell, rX11_state, rX11_shell, rX11_belief, rX11_chance, rX11_doubt, rX11_guessed, rX11_guess, rX11_blinks, rX11_odds, rX11_fewest, rX11_rows, rX11_fools, rX11_tries, rX11_fool, rX11_caught, rX11_areTwo, rX11_swap, rX11_feint, rX11_rest, rX11_steal, rX11_plant, rX11_peek, rX11_bet, rX11_scratch, rX11_blink, rX11_suspect, rX11_undo, rX11_joins, rX11_checksum, rJ7_fill_53178, rJ0_length_8abf5, rJ0_charAt_5068e, rJ0_coder_7d493, rJ0_isLatin1_aae02, rJ0_checkIndex_df160, rJ1_charAt_3b067, rJ3_checkIndex_8e157]
def xT : xTab := fun k => xrows[k]?
abbrev kX0_init : Nat := 0
abbrev kX0_clear : Nat := 1
abbrev kX0_copyFrom : Nat := 2
abbrev kX0_isFull : Nat := 3
abbrev kX0_tell : Nat := 4
abbrev kX0_has : Nat := 5
abbrev kX1_init : Nat := 6
abbrev kX1_clear : Nat := 7
abbrev kX1_reset : Nat := 8
abbrev kX1_copyFrom : Nat := 9
abbrev kX1_put : Nat := 10
abbrev kX1_readSum : Nat := 11
abbrev kX1_readTerm : Nat := 12
abbrev kX1_readFactor : Nat := 13
abbrev kX1_variableOf : Nat := 14
abbrev kX1_value : Nat := 15
abbrev kX1_result : Nat := 16
abbrev kX1_variable : Nat := 17
abbrev kX2_init : Nat := 18
abbrev kX2_reset : Nat := 19
abbrev kX2_copyFrom : Nat := 20
abbrev kX2_number : Nat := 21
abbrev kX2_isBlinkNext : Nat := 22
abbrev kX2_canSteal : Nat := 23
abbrev kX2_canPlant : Nat := 24
abbrev kX2_makeMove : Nat := 25
abbrev kX2_makeStill : Nat := 26
abbrev kX2_countStep : Nat := 27
abbrev kX2_lookUnder : Nat := 28
abbrev kX2_playBet : Nat := 29
abbrev kX3_init : Nat := 30
abbrev kX3_hasRoom : Nat := 31
abbrev kX3_putWord : Nat := 32
abbrev kX3_begin : Nat := 33
abbrev kX3_kindAt : Nat := 34
abbrev kX3_addToken : Nat := 35
abbrev kX3_numberIn : Nat := 36
abbrev kX3_tokenIn : Nat := 37
abbrev kX3_isSpelled : Nat := 38
abbrev kX3_put : Nat := 39
abbrev kX3_token : Nat := 40
abbrev kX3_number : Nat := 41
abbrev kX3_is : Nat := 42
abbrev kX3_advance : Nat := 43
abbrev kX3_take : Nat := 44
abbrev kX3_takeNumber : Nat := 45
abbrev kX3_fail : Nat := 46
abbrev kX4_init : Nat := 47
abbrev kX4_reset : Nat := 48
abbrev kX4_copyFrom : Nat := 49
abbrev kX4_know : Nat := 50
abbrev kX4_ruleOut : Nat := 51
abbrev kX4_sum : Nat := 52
abbrev kX4_greatest : Nat := 53
abbrev kX4_countBelieved : Nat := 54
abbrev kX4_likeliestShell : Nat := 55
abbrev kX4_placeOfRank : Nat := 56
abbrev kX4_countAheadOf : Nat := 57
abbrev kX4_followMove : Nat := 58
abbrev kX4_followStill : Nat := 59
abbrev kX4_exchange : Nat := 60
abbrev kX4_mix : Nat := 61
abbrev kX4_wonder : Nat := 62
abbrev kX4_pairsOf : Nat := 63
abbrev kX4_settle : Nat := 64
abbrev kX4_halve : Nat := 65
abbrev kX4_divideByCommonDivisor : Nat := 66
abbrev kX4_commonDivisor : Nat := 67
abbrev kX5_init : Nat := 68
abbrev kX5_reset : Nat := 69
abbrev kX5_copyFrom : Nat := 70
abbrev kX5_hasPlace : Nat := 71
abbrev kX5_hasTwoPlaces : Nat := 72
abbrev kX5_isScratched : Nat := 73
abbrev kX5_setScratched : Nat := 74
abbrev kX5_number : Nat := 75
abbrev kX5_exchange : Nat := 76
abbrev kX5_placeBehind : Nat := 77
abbrev kX5_swapsToFirst : Nat := 78
abbrev kX6_init : Nat := 79
abbrev kX6_clear : Nat := 80
abbrev kX6_readCommands : Nat := 81
abbrev kX6_numbersOf : Nat := 82
abbrev kX6_readCommand : Nat := 83
abbrev kX6_readRepeat : Nat := 84
abbrev kX6_put : Nat := 85
abbrev kX6_performRange : Nat := 86
abbrev kX6_performRepeat : Nat := 87
abbrev kX6_performOne : Nat := 88
abbrev kX6_isAllowed : Nat := 89
abbrev kX7_read : Nat := 90
abbrev kX7_bitOfSingle : Nat := 91
abbrev kX7_readStatement : Nat := 92
abbrev kX7_readScratches : Nat := 93
abbrev kX7_readScratch : Nat := 94
abbrev kX7_readBlink : Nat := 95
abbrev kX7_readSetting : Nat := 96
abbrev kX7_greatestOf : Nat := 97
abbrev kX7_set : Nat := 98
abbrev kX9_init : Nat := 99
abbrev kX9_find : Nat := 100
abbrev kX9_tryAll : Nat := 101
abbrev kX9_takeIfLess : Nat := 102
abbrev kX9_number : Nat := 103
abbrev kX10_init : Nat := 104
abbrev kX10_append : Nat := 105
abbrev kX10_load : Nat := 106
abbrev kX10_run : Nat := 107
abbrev kX10_errorOffset : Nat := 108
abbrev kX10_state : Nat := 109
abbrev kX10_shell : Nat := 110
abbrev kX10_belief : Nat := 111
abbrev kX10_chance : Nat := 112
abbrev kX10_doubt : Nat := 113
abbrev kX10_guess : Nat := 114
abbrev kX10_blinks : Nat := 115
abbrev kX10_odds : Nat := 116
abbrev kX10_fewest : Nat := 117
abbrev kX10_rows : Nat := 118
abbrev kX10_fool : Nat := 119
abbrev kX10_caught : Nat := 120
abbrev kX10_swap : Nat := 121
abbrev kX10_feint : Nat := 122
abbrev kX10_rest : Nat := 123
abbrev kX10_steal : Nat := 124
abbrev kX10_plant : Nat := 125
abbrev kX10_peek : Nat := 126
abbrev kX10_bet : Nat := 127
abbrev kX10_scratch : Nat := 128
abbrev kX10_blink : Nat := 129
abbrev kX10_suspect : Nat := 130
abbrev kX10_undo : Nat := 131
abbrev kX10_checksum : Nat := 132
abbrev kX10_game : Nat := 133
abbrev kX10_change : Nat := 134
abbrev kX10_moveBall : Nat := 135
abbrev kX10_requireLength : Nat := 136
abbrev kX10_requirePlace : Nat := 137
abbrev kX10_requireTwoPlaces : Nat := 138
abbrev kX10_requirePlaceOrHand : Nat := 139
abbrev kX10_requireWhat : Nat := 140
abbrev kX10_countRows : Nat := 141
abbrev kX11_init : Nat := 142
abbrev kX11_thrown : Nat := 143
abbrev kX11_isIn : Nat := 144
abbrev kX11_get : Nat := 145
abbrev kX11_put : Nat := 146
abbrev kX11_change : Nat := 147
abbrev kX11_right : Nat := 148
abbrev kX11_begins : Nat := 149
abbrev kX11_shells : Nat := 150
abbrev kX11_blinksAt : Nat := 151
abbrev kX11_blinksNow : Nat := 152
abbrev kX11_rough : Nat := 153
abbrev kX11_exchanged : Nat := 154
abbrev kX11_had : Nat := 155
abbrev kX11_stays : Nat := 156
abbrev kX11_seen : Nat := 157
abbrev kX11_unseen : Nat := 158
abbrev kX11_common : Nat := 159
abbrev kX11_reduces : Nat := 160
abbrev kX11_thinks : Nat := 161
abbrev kX11_believes : Nat := 162
abbrev kX11_sum : Nat := 163
abbrev kX11_ballBehind : Nat := 164
abbrev kX11_steps : Nat := 165
abbrev kX11_looks : Nat := 166
abbrev kX11_canSteal : Nat := 167
abbrev kX11_canPlant : Nat := 168
abbrev kX11_factOf : Nat := 169
abbrev kX11_oddsOf : Nat := 170
abbrev kX11_append : Nat := 171
abbrev kX11_four : Nat := 172
abbrev kX11_errorOffset : Nat := 173
abbrev kX11_fails : Nat := 174
abbrev kX11_here : Nat := 175
abbrev kX11_isLetter : Nat := 176
abbrev kX11_isDigit : Nat := 177
abbrev kX11_takes : Nat := 178
abbrev kX11_sign : Nat := 179
abbrev kX11_reads : Nat := 180
abbrev kX11_emits : Nat := 181
abbrev kX11_readsFactor : Nat := 182
abbrev kX11_readsTerm : Nat := 183
abbrev kX11_readsSum : Nat := 184
abbrev kX11_once : Nat := 185
abbrev kX11_readsScratch : Nat := 186
abbrev kX11_readsBlink : Nat := 187
abbrev kX11_readsOne : Nat := 188
abbrev kX11_readsStatement : Nat := 189
abbrev kX11_readsSetup : Nat := 190
abbrev kX11_starts : Nat := 191
abbrev kX11_load : Nat := 192
abbrev kX11_kindHere : Nat := 193
abbrev kX11_readsRepeat : Nat := 194
abbrev kX11_readsCommand : Nat := 195
abbrev kX11_readsScript : Nat := 196
abbrev kX11_isPlace : Nat := 197
abbrev kX11_does : Nat := 198
abbrev kX11_runs : Nat := 199
abbrev kX11_run : Nat := 200
abbrev kX11_believed : Nat := 201
abbrev kX11_toldOf : Nat := 202
abbrev kX11_toldOfShell : Nat := 203
abbrev kX11_state : Nat := 204
abbrev kX11_shell : Nat := 205
abbrev kX11_belief : Nat := 206
abbrev kX11_chance : Nat := 207
abbrev kX11_doubt : Nat := 208
abbrev kX11_guessed : Nat := 209
abbrev kX11_guess : Nat := 210
abbrev kX11_blinks : Nat := 211
abbrev kX11_odds : Nat := 212
abbrev kX11_fewest : Nat := 213
abbrev kX11_rows : Nat := 214
abbrev kX11_fools : Nat := 215
abbrev kX11_tries : Nat := 216
abbrev kX11_fool : Nat := 217
abbrev kX11_caught : Nat := 218
abbrev kX11_areTwo : Nat := 219
abbrev kX11_swap : Nat := 220
abbrev kX11_feint : Nat := 221
abbrev kX11_rest : Nat := 222
abbrev kX11_steal : Nat := 223
abbrev kX11_plant : Nat := 224
abbrev kX11_peek : Nat := 225
abbrev kX11_bet : Nat := 226
abbrev kX11_scratch : Nat := 227
abbrev kX11_blink : Nat := 228
abbrev kX11_suspect : Nat := 229
abbrev kX11_undo : Nat := 230
abbrev kX11_joins : Nat := 231
abbrev kX11_checksum : Nat := 232
abbrev kJ7_fill_53178 : Nat := 233
abbrev kJ0_length_8abf5 : Nat := 234
abbrev kJ0_charAt_5068e : Nat := 235
abbrev kJ0_coder_7d493 : Nat := 236
abbrev kJ0_isLatin1_aae02 : Nat := 237
abbrev kJ0_checkIndex_df160 : Nat := 238
abbrev kJ1_charAt_3b067 : Nat := 239
abbrev kJ3_checkIndex_8e157 : Nat := 240
end
section
/-! EQUATIONS: from a block's head, the value in the operations' words; targets by what is live there. -/
theorem xget_pick (L : xL) (is : List Nat) (i : Nat) : xget (xpick L is) i = if i ∈ is then xget L i else none := by
  induction is with
  | nil => rfl
  | cons j is ih =>
    unfold xpick
    cases hj : xget L j with
    | none =>
      dsimp only
      rw [ih]
      by_cases h : i = j
      · subst h
        rw [hj]
        simp
      · simp [h]
    | some v =>
      show (bif Nat.beq j i then some v else xget (xpick L is) i) = _
      by_cases h : j = i
      · subst h
        rw [Nat.beq_refl, cond_true, if_pos List.mem_cons_self, hj]
      · rw [Bool.eq_false_iff.2 (fun hb => h (Nat.eq_of_beq_eq_true hb)), cond_false, ih]
        by_cases h2 : i ∈ is
        · rw [if_pos h2, if_pos (List.mem_cons_of_mem _ h2)]
        · rw [if_neg h2, if_neg (fun hm => (List.mem_cons.1 hm).elim (fun e => h e.symm) h2)]
theorem xpick_sub (L : xL) (is : List Nat) : ∀ js : List Nat, (∀ i ∈ js, i ∈ is) → xpick (xpick L is) js = xpick L js := by
  intro js
  induction js with
  | nil => exact fun _ => rfl
  | cons j js ih =>
    intro h
    unfold xpick
    rw [xget_pick, if_pos (h j List.mem_cons_self), ih (fun i hi => h i (List.mem_cons_of_mem _ hi))]
theorem xpick_pick (L : xL) (is : List Nat) : xpick (xpick L is) is = xpick L is := xpick_sub L is is (fun _ h => h)
noncomputable def xkq (E : xEn) (call : Nat → List Value → xH → Option xR) (MC MS : Nat) (bl : xBl) (t : Nat) (L : xL) (st : List Value) (σ : xH) (bc bs : Nat) : Option xR := match xlk bl t with
  | some b => xval E call MC MS bl (t, xpick L b.1, st, σ, bc, bs)
  | none => none
theorem xval_kq (E : xEn) (call : Nat → List Value → xH → Option xR) (MC MS : Nat) (bl : xBl) (t : Nat) (L : xL) (st : List Value) (σ : xH) (bc bs : Nat) : xval E call MC MS bl (t, L, st, σ, bc, bs) = xkq E call MC MS bl t L st σ bc bs := by
  unfold xkq
  cases h : xlk bl t with
  | none =>
    dsimp only
    rw [xval_eq]
    unfold xex
    dsimp only
    rw [h]
    rfl
  | some b =>
    dsimp only
    rw [xval_blk E call MC MS bl h, xval_blk E call MC MS bl h, xpick_pick]
theorem xval_blkQ (E : xEn) (call : Nat → List Value → xH → Option xR) (MC MS : Nat) (bl : xBl) {pc : Nat} {b : List Nat × List xI × Nat} (hb : xlk bl pc = some b) (L : xL) (st : List Value) (σ : xH) (bc bs : Nat) :
    xval E call MC MS bl (pc, L, st, σ, bc, bs) = exB E call MC MS some (xkq E call MC MS bl) b.2.2 b.2.1 (xpick L b.1) st σ bc bs := by
  rw [xval_blk E call MC MS bl hb]
  exact congrArg (fun K => exB E call MC MS some K b.2.2 b.2.1 (xpick L b.1) st σ bc bs) (funext fun t => funext fun L => funext fun st => funext fun σ => funext fun bc => funext fun bs => xval_kq E call MC MS bl t L st σ bc bs)
theorem xnewa_k {ρ : Type} {MC MS k kd bc bs : Nat} {x : Nat → (Nat → Int32) ⊕ (Nat → Int64) ⊕ (Nat → UInt32) ⊕ (Nat → UInt64) ⊕ (Nat → Option Nat)} {st : List Value} {σ : xH} {nx : List Value → xH → Nat → Nat → Option ρ} (h : (Nat.ble (bc + 1) MC && (Nat.ble (bs + k) MS && Nat.ble k 100000)) = true) : xnewa MC MS x [kd] (.int (nI k) :: st) σ bc bs nx = nx (.ref σ.2 :: st) (xup σ.1 σ.2 (.inl (kd, k, x kd)), σ.2 + 1) (bc + 1) (bs + k) := by
  have hk : k < 2 ^ 31 := by
    have h1 := (Bool.and_eq_true_iff.1 (Bool.and_eq_true_iff.1 h).2).2
    have := Nat.le_of_ble_eq_true h1
    omega
  have hc : (nI k).toNatClampNeg = k := nI_clamp hk
  have hl : decide (¬ nI k < 0) = true := decide_eq_true (nI_nlt (Nat.zero_le k) hk)
  show (bif decide (¬ nI k < 0) && (Nat.ble (bc + 1) MC && (Nat.ble (bs + (nI k).toNatClampNeg) MS && Nat.ble (nI k).toNatClampNeg 100000)) then nx (.ref σ.2 :: st) (xup σ.1 σ.2 (.inl (kd, (nI k).toNatClampNeg, x kd)), σ.2 + 1) (bc + 1) (bs + (nI k).toNatClampNeg) else none) = _
  rw [hc, hl, h]
  rfl
def gT {ρ : Type} (E : xEn) (a : Nat) (K : Nat → Option ρ) : Option ρ := match xfind E.1 a 29 with
  | some i => K (E.2.1 (xtt i))
  | none => none
def gU {ρ : Type} (E : xEn) (a : Nat) (K : Nat → Option ρ) : Option ρ := match xfind E.2.1 a xNS with
  | some i => K (E.2.2.1 i)
  | none => none
def gC {ρ : Type} (E : xEn) (a : Nat) (K : Option ρ) : Option ρ := match xfind E.2.1 a xNS with
  | some _ => K
  | none => none
def nwO {ρ : Type} (σ : xH) (ci n : Nat) (K : Nat → xH → Option ρ) : Option ρ := K σ.2 (xup σ.1 σ.2 (.inr (ci, xdef ci n)), σ.2 + 1)
def nwA {ρ : Type} (σ : xH) (k n : Nat) (K : Nat → xH → Option ρ) : Option ρ := K σ.2 (xup σ.1 σ.2 (.inl (k, n, xarr k)), σ.2 + 1)
def nwQ {ρ : Type} (σ : xH) (k n : Nat) (K : Nat → xH → Option ρ) : Option ρ := K σ.2 (xup σ.1 σ.2 (.inl (k, n, .inr (.inr (.inr (.inr fun _ => none))))), σ.2 + 1)
def mxI (x y : Int32) : Int32 := if x < y then y else x
def mnI (x y : Int32) : Int32 := if y < x then y else x
def mxL (x y : Int64) : Int64 := if y < x then x else y
def mnL (x y : Int64) : Int64 := if y < x then y else x
end
section
/-! EQUATIONS OF THE BLOCKS, written by wip/whole/geneq.py. -/
noncomputable def qX11_init_0 (E : xEn) (d : Nat) (bc bs : Nat) (x0 : Nat) (σ : xH) : Option xR := xval E (xsem xT E d) 10 13358 bX11_init (0, [(0, .ref x0)], [], σ, bc, bs)
noncomputable def qX11_init_100 (E : xEn) (d : Nat) (bc bs : Nat) (x0 : Nat) (x1 : Int32) (σ : xH) : Option xR := xval E (xsem xT E d) 10 13358 bX11_init (100, [(0, .ref x0), (1, .int x1)], [], σ, bc, bs)
noncomputable def qX11_init_124 (E : xEn) (d : Nat) (bc bs : Nat) (σ : xH) : Option xR := xval E (xsem xT E d) 10 13358 bX11_init (124, [], [], σ, bc, bs)
set_option maxRecDepth 100000 in
theorem QX11_init_0 (E : xEn) (d : Nat) (x0 : Nat) (σ : xH) : qX11_init_0 E d 0 0 x0 σ = nwA σ 0 11000 (fun v1 σ1 => gP σ1 9 1 x0 (.ref v1) (fun σ2 => nwA σ2 0 1100 (fun v2 σ3 => gP σ3 9 2 x0 (.ref v2) (fun σ4 => nwA σ4 2 9 (fun v3 σ5 => gP σ5 9 5 x0 (.ref v3) (fun σ6 => nwA σ6 2 501 (fun v4 σ7 => gP σ7 9 6 x0 (.ref v4) (fun σ8 => nwA σ8 0 500 (fun v5 σ9 => gP σ9 9 7 x0 (.ref v5) (fun σ10 => gP σ10 9 12 x0 (.int (-1 : Int32)) (fun σ11 => nwA σ11 0 60 (fun v6 σ12 => gP σ12 9 17 x0 (.ref v6) (fun σ13 => nwA σ13 0 60 (fun v7 σ14 => gP σ14 9 18 x0 (.ref v7) (fun σ15 => nwA σ15 0 60 (fun v8 σ16 => gP σ16 9 19 x0 (.ref v8) (fun σ17 => nwA σ17 0 60 (fun v9 σ18 => gP σ18 9 20 x0 (.ref v9) (fun σ19 => nwA σ19 0 8 (fun v10 σ20 => gP σ20 9 25 x0 (.ref v10) (fun σ21 => gO E σ21 9 x0 (cV (xthr 1 some) (xsem xT E d kX11_begins [.ref x0, .int (nI 3)] σ21) (fun σ22 => qX11_init_100 E d 10 13358 x0 (nI 0) σ22))))))))))))))))))))))) := by
  refine (xval_blkQ E (xsem xT E d) 10 13358 bX11_init (pc := 0) rfl [(0, .ref x0)] [] σ 0 0).trans ?_
  refine (xnewa_k rfl).trans ?_
  refine congrArg (gP _ _ _ _ _) (funext fun _ => ?_)
  refine (xnewa_k rfl).trans ?_
  refine congrArg (gP _ _ _ _ _) (funext fun _ => ?_)
  refine (xnewa_k rfl).trans ?_
  refine congrArg (gP _ _ _ _ _) (funext fun _ => ?_)
  refine (xnewa_k rfl).trans ?_
  refine congrArg (gP _ _ _ _ _) (funext fun _ => ?_)
  refine (xnewa_k rfl).trans ?_
  refine congrArg (gP _ _ _ _ _) (funext fun _ => ?_)
  refine congrArg (gP _ _ _ _ _) (funext fun _ => ?_)
  refine (xnewa_k rfl).trans ?_
  refine congrArg (gP _ _ _ _ _) (funext fun _ => ?_)
  refine (xnewa_k rfl).trans ?_
  refine congrArg (gP _ _ _ _ _) (funext fun _ => ?_)
  refine (xnewa_k rfl).trans ?_
  refine congrArg (gP _ _ _ _ _) (funext fun _ => ?_)
  refine (xnewa_k rfl).trans ?_
  refine congrArg (gP _ _ _ _ _) (funext fun _ => ?_)
  refine (xnewa_k rfl).trans ?_
  refine congrArg (gP _ _ _ _ _) (funext fun _ => ?_)
  rfl
set_option maxRecDepth 100000 in
theorem QX11_init_100 (E : xEn) (d : Nat) (bc bs : Nat) (x0 : Nat) (x1 : Int32) (σ : xH) : qX11_init_100 E d bc bs x0 x1 σ = if (nI 1100) ≤ x1 then qX11_init_124 E d bc bs σ else gR σ 9 2 x0 (fun v1 => aI σ v1 x1 (fun v2 => bif Nat.ble bc 10 && Nat.ble bs 13358 then gO E σ 9 x0 (cV (xthr 1 some) (xsem xT E d kX11_put [.ref x0, .int x1, .int v2] σ) (fun σ1 => qX11_init_100 E d bc bs x0 (x1 + (nI 1)) σ1)) else none)) := xval_blkQ E (xsem xT E d) 10 13358 bX11_init (pc := 100) rfl [(0, .ref x0), (1, .int x1)] [] σ bc bs
set_option maxRecDepth 100000 in
theorem QX11_init_124 (E : xEn) (d : Nat) (bc bs : Nat) (σ : xH) : qX11_init_124 E d bc bs σ = some (.inl none, σ) := xval_blkQ E (xsem xT E d) 10 13358 bX11_init (pc := 124) rfl [] [] σ bc bs
theorem eX11_init (E : xEn) (d : Nat) (x0 : Nat) (σ : xH) : xsem xT E (d + 1) kX11_init [.ref x0] σ = qX11_init_0 E d 0 0 x0 σ := rfl
noncomputable def qX11_thrown_0 (E : xEn) (d : Nat) (x0 : Nat) (σ : xH) : Option xR := xval E (xsem xT E d) 0 0 bX11_thrown (0, [(0, .ref x0)], [], σ, 0, 0)
set_option maxRecDepth 100000 in
theorem QX11_thrown_0 (E : xEn) (d : Nat) (x0 : Nat) (σ : xH) : qX11_thrown_0 E d x0 σ = gI σ 9 0 x0 (fun v1 => some (.inl (some (.int v1)), σ)) := xval_blkQ E (xsem xT E d) 0 0 bX11_thrown (pc := 0) rfl [(0, .ref x0)] [] σ 0 0
theorem eX11_thrown (E : xEn) (d : Nat) (x0 : Nat) (σ : xH) : xsem xT E (d + 1) kX11_thrown [.ref x0] σ = qX11_thrown_0 E d x0 σ := rfl
noncomputable def qX11_isIn_0 (E : xEn) (d : Nat) (x0 : Int32) (x1 : Int32) (x2 : Int32) (σ : xH) : Option xR := xval E (xsem xT E d) 0 0 bX11_isIn (0, [(0, .int x0), (1, .int x1), (2, .int x2)], [], σ, 0, 0)
noncomputable def qX11_isIn_14 (E : xEn) (d : Nat) (σ : xH) : Option xR := xval E (xsem xT E d) 0 0 bX11_isIn (14, [], [], σ, 0, 0)
noncomputable def qX11_isIn_15 (E : xEn) (d : Nat) (s0 : Int32) (σ : xH) : Option xR := xval E (xsem xT E d) 0 0 bX11_isIn (15, [], [.int s0], σ, 0, 0)
set_option maxRecDepth 100000 in
theorem QX11_isIn_0 (E : xEn) (d : Nat) (x0 : Int32) (x1 : Int32) (x2 : Int32) (σ : xH) : qX11_isIn_0 E d x0 x1 x2 σ = if x0 < x1 then qX11_isIn_14 E d σ else if x2 < x0 then qX11_isIn_14 E d σ else qX11_isIn_15 E d (nI 1) σ := xval_blkQ E (xsem xT E d) 0 0 bX11_isIn (pc := 0) rfl [(0, .int x0), (1, .int x1), (2, .int x2)] [] σ 0 0
set_option maxRecDepth 100000 in
theorem QX11_isIn_14 (E : xEn) (d : Nat) (σ : xH) : qX11_isIn_14 E d σ = qX11_isIn_15 E d (nI 0) σ := xval_blkQ E (xsem xT E d) 0 0 bX11_isIn (pc := 14) rfl [] [] σ 0 0
set_option maxRecDepth 100000 in
theorem QX11_isIn_15 (E : xEn) (d : Nat) (s0 : Int32) (σ : xH) : qX11_isIn_15 E d s0 σ = xiret [5] s0 (some (.inl (some (.int s0)), σ)) := xval_blkQ E (xsem xT E d) 0 0 bX11_isIn (pc := 15) rfl [] [.int s0] σ 0 0
theorem eX11_isIn (E : xEn) (d : Nat) (x0 : Int32) (x1 : Int32) (x2 : Int32) (σ : xH) : xsem xT E (d + 1) kX11_isIn [.int x0, .int x1, .int x2] σ = qX11_isIn_0 E d x0 x1 x2 σ := rfl
noncomputable def qX11_get_0 (E : xEn) (d : Nat) (x0 : Nat) (x1 : Int32) (σ : xH) : Option xR := xval E (xsem xT E d) 0 0 bX11_get (0, [(0, .ref x0), (1, .int x1)], [], σ, 0, 0)
set_option maxRecDepth 100000 in
theorem QX11_get_0 (E : xEn) (d : Nat) (x0 : Nat) (x1 : Int32) (σ : xH) : qX11_get_0 E d x0 x1 σ = gR σ 9 1 x0 (fun v1 => gI σ 9 3 x0 (fun v2 => aI σ v1 (((nI 1100) * v2) + x1) (fun v3 => some (.inl (some (.int v3)), σ)))) := xval_blkQ E (xsem xT E d) 0 0 bX11_get (pc := 0) rfl [(0, .ref x0), (1, .int x1)] [] σ 0 0
theorem eX11_get (E : xEn) (d : Nat) (x0 : Nat) (x1 : Int32) (σ : xH) : xsem xT E (d + 1) kX11_get [.ref x0, .int x1] σ = qX11_get_0 E d x0 x1 σ := rfl
noncomputable def qX11_put_0 (E : xEn) (d : Nat) (x0 : Nat) (x1 : Int32) (x2 : Int32) (σ : xH) : Option xR := xval E (xsem xT E d) 0 0 bX11_put (0, [(0, .ref x0), (1, .int x1), (2, .int x2)], [], σ, 0, 0)
set_option maxRecDepth 100000 in
theorem QX11_put_0 (E : xEn) (d : Nat) (x0 : Nat) (x1 : Int32) (x2 : Int32) (σ : xH) : qX11_put_0 E d x0 x1 x2 σ = gR σ 9 1 x0 (fun v1 => gI σ 9 3 x0 (fun v2 => sI σ v1 (((nI 1100) * v2) + x1) x2 (fun σ1 => some (.inl none, σ1)))) := xval_blkQ E (xsem xT E d) 0 0 bX11_put (pc := 0) rfl [(0, .ref x0), (1, .int x1), (2, .int x2)] [] σ 0 0
theorem eX11_put (E : xEn) (d : Nat) (x0 : Nat) (x1 : Int32) (x2 : Int32) (σ : xH) : xsem xT E (d + 1) kX11_put [.ref x0, .int x1, .int x2] σ = qX11_put_0 E d x0 x1 x2 σ := rfl
noncomputable def qX11_change_0 (E : xEn) (d : Nat) (x0 : Nat) (σ : xH) : Option xR := xval E (xsem xT E d) 0 0 bX11_change (0, [(0, .ref x0)], [], σ, 0, 0)
noncomputable def qX11_change_12 (E : xEn) (d : Nat) (x0 : Nat) (x1 : Int32) (x2 : Int32) (σ : xH) : Option xR := xval E (xsem xT E d) 0 0 bX11_change (12, [(0, .ref x0), (1, .int x1), (2, .int x2)], [], σ, 0, 0)
noncomputable def qX11_change_42 (E : xEn) (d : Nat) (x0 : Nat) (x1 : Int32) (σ : xH) : Option xR := xval E (xsem xT E d) 0 0 bX11_change (42, [(0, .ref x0), (1, .int x1)], [], σ, 0, 0)
noncomputable def qX11_change_66 (E : xEn) (d : Nat) (x0 : Nat) (s0 : Nat) (σ : xH) : Option xR := xval E (xsem xT E d) 0 0 bX11_change (66, [(0, .ref x0)], [.ref s0], σ, 0, 0)
noncomputable def qX11_change_70 (E : xEn) (d : Nat) (s0 : Nat) (s1 : Int32) (σ : xH) : Option xR := xval E (xsem xT E d) 0 0 bX11_change (70, [], [.int s1, .ref s0], σ, 0, 0)
set_option maxRecDepth 100000 in
theorem QX11_change_0 (E : xEn) (d : Nat) (x0 : Nat) (σ : xH) : qX11_change_0 E d x0 σ = gI σ 9 3 x0 (fun v1 => nz (decide (¬ (nI 9) = 0)) (qX11_change_12 E d x0 ((v1 + (nI 1)) - (v1 + (nI 1)) / (nI 9) * (nI 9)) (nI 0) σ)) := xval_blkQ E (xsem xT E d) 0 0 bX11_change (pc := 0) rfl [(0, .ref x0)] [] σ 0 0
set_option maxRecDepth 100000 in
theorem QX11_change_12 (E : xEn) (d : Nat) (x0 : Nat) (x1 : Int32) (x2 : Int32) (σ : xH) : qX11_change_12 E d x0 x1 x2 σ = if (nI 1100) ≤ x2 then qX11_change_42 E d x0 x1 σ else gR σ 9 1 x0 (fun v1 => gO E σ 9 x0 (cI (xthr 1 some) (xsem xT E d kX11_get [.ref x0, .int x2] σ) (fun v2 σ1 => sI σ1 v1 (((nI 1100) * x1) + x2) v2 (fun σ2 => qX11_change_12 E d x0 x1 (x2 + (nI 1)) σ2)))) := xval_blkQ E (xsem xT E d) 0 0 bX11_change (pc := 12) rfl [(0, .ref x0), (1, .int x1), (2, .int x2)] [] σ 0 0
set_option maxRecDepth 100000 in
theorem QX11_change_42 (E : xEn) (d : Nat) (x0 : Nat) (x1 : Int32) (σ : xH) : qX11_change_42 E d x0 x1 σ = gP σ 9 3 x0 (.int x1) (fun σ1 => gI σ1 9 4 x0 (fun v1 => if (nI 8) ≤ v1 then qX11_change_66 E d x0 x0 σ1 else gI σ1 9 4 x0 (fun v2 => qX11_change_70 E d x0 (v2 + (nI 1)) σ1))) := xval_blkQ E (xsem xT E d) 0 0 bX11_change (pc := 42) rfl [(0, .ref x0), (1, .int x1)] [] σ 0 0
set_option maxRecDepth 100000 in
theorem QX11_change_66 (E : xEn) (d : Nat) (x0 : Nat) (s0 : Nat) (σ : xH) : qX11_change_66 E d x0 s0 σ = gI σ 9 4 x0 (fun v1 => qX11_change_70 E d s0 v1 σ) := xval_blkQ E (xsem xT E d) 0 0 bX11_change (pc := 66) rfl [(0, .ref x0)] [.ref s0] σ 0 0
set_option maxRecDepth 100000 in
theorem QX11_change_70 (E : xEn) (d : Nat) (s0 : Nat) (s1 : Int32) (σ : xH) : qX11_change_70 E d s0 s1 σ = gP σ 9 4 s0 (.int s1) (fun σ1 => some (.inl none, σ1)) := xval_blkQ E (xsem xT E d) 0 0 bX11_change (pc := 70) rfl [] [.int s1, .ref s0] σ 0 0
theorem eX11_change (E : xEn) (d : Nat) (x0 : Nat) (σ : xH) : xsem xT E (d + 1) kX11_change [.ref x0] σ = qX11_change_0 E d x0 σ := rfl
noncomputable def qX11_right_0 (E : xEn) (d : Nat) (x0 : Nat) (x1 : Int32) (x2 : Int32) (σ : xH) : Option xR := xval E (xsem xT E d) 0 0 bX11_right (0, [(0, .ref x0), (1, .int x1), (2, .int x2)], [], σ, 0, 0)
noncomputable def qX11_right_16 (E : xEn) (d : Nat) (x0 : Nat) (σ : xH) : Option xR := xval E (xsem xT E d) 0 0 bX11_right (16, [(0, .ref x0)], [], σ, 0, 0)
noncomputable def qX11_right_27 (E : xEn) (d : Nat) (σ : xH) : Option xR := xval E (xsem xT E d) 0 0 bX11_right (27, [], [], σ, 0, 0)
noncomputable def qX11_right_28 (E : xEn) (d : Nat) (s0 : Int32) (σ : xH) : Option xR := xval E (xsem xT E d) 0 0 bX11_right (28, [], [.int s0], σ, 0, 0)
set_option maxRecDepth 100000 in
theorem QX11_right_0 (E : xEn) (d : Nat) (x0 : Nat) (x1 : Int32) (x2 : Int32) (σ : xH) : qX11_right_0 E d x0 x1 x2 σ = gI σ 9 0 x0 (fun v1 => if v1 = (nI 0) then if x1 = (nI 0) then gP σ 9 0 x0 (.int x2) (fun σ1 => qX11_right_16 E d x0 σ1) else qX11_right_16 E d x0 σ else qX11_right_16 E d x0 σ) := xval_blkQ E (xsem xT E d) 0 0 bX11_right (pc := 0) rfl [(0, .ref x0), (1, .int x1), (2, .int x2)] [] σ 0 0
set_option maxRecDepth 100000 in
theorem QX11_right_16 (E : xEn) (d : Nat) (x0 : Nat) (σ : xH) : qX11_right_16 E d x0 σ = gI σ 9 0 x0 (fun v1 => if v1 = (nI 0) then qX11_right_28 E d (nI 1) σ else qX11_right_27 E d σ) := xval_blkQ E (xsem xT E d) 0 0 bX11_right (pc := 16) rfl [(0, .ref x0)] [] σ 0 0
set_option maxRecDepth 100000 in
theorem QX11_right_27 (E : xEn) (d : Nat) (σ : xH) : qX11_right_27 E d σ = qX11_right_28 E d (nI 0) σ := xval_blkQ E (xsem xT E d) 0 0 bX11_right (pc := 27) rfl [] [] σ 0 0
set_option maxRecDepth 100000 in
theorem QX11_right_28 (E : xEn) (d : Nat) (s0 : Int32) (σ : xH) : qX11_right_28 E d s0 σ = xiret [5] s0 (some (.inl (some (.int s0)), σ)) := xval_blkQ E (xsem xT E d) 0 0 bX11_right (pc := 28) rfl [] [.int s0] σ 0 0
theorem eX11_right (E : xEn) (d : Nat) (x0 : Nat) (x1 : Int32) (x2 : Int32) (σ : xH) : xsem xT E (d + 1) kX11_right [.ref x0, .int x1, .int x2] σ = qX11_right_0 E d x0 x1 x2 σ := rfl
noncomputable def qX11_begins_0 (E : xEn) (d : Nat) (x0 : Nat) (x1 : Int32) (σ : xH) : Option xR := xval E (xsem xT E d) 0 0 bX11_begins (0, [(0, .ref x0), (1, .int x1)], [], σ, 0, 0)
noncomputable def qX11_begins_2 (E : xEn) (d : Nat) (x0 : Nat) (x1 : Int32) (x2 : Int32) (σ : xH) : Option xR := xval E (xsem xT E d) 0 0 bX11_begins (2, [(0, .ref x0), (1, .int x1), (2, .int x2)], [], σ, 0, 0)
noncomputable def qX11_begins_22 (E : xEn) (d : Nat) (x0 : Nat) (x1 : Int32) (σ : xH) : Option xR := xval E (xsem xT E d) 0 0 bX11_begins (22, [(0, .ref x0), (1, .int x1)], [], σ, 0, 0)
noncomputable def qX11_begins_55 (E : xEn) (d : Nat) (x0 : Nat) (x2 : Int32) (σ : xH) : Option xR := xval E (xsem xT E d) 0 0 bX11_begins (55, [(0, .ref x0), (2, .int x2)], [], σ, 0, 0)
noncomputable def qX11_begins_77 (E : xEn) (d : Nat) (x0 : Nat) (σ : xH) : Option xR := xval E (xsem xT E d) 0 0 bX11_begins (77, [(0, .ref x0)], [], σ, 0, 0)
set_option maxRecDepth 100000 in
theorem QX11_begins_0 (E : xEn) (d : Nat) (x0 : Nat) (x1 : Int32) (σ : xH) : qX11_begins_0 E d x0 x1 σ = qX11_begins_2 E d x0 x1 (nI 0) σ := xval_blkQ E (xsem xT E d) 0 0 bX11_begins (pc := 0) rfl [(0, .ref x0), (1, .int x1)] [] σ 0 0
set_option maxRecDepth 100000 in
theorem QX11_begins_2 (E : xEn) (d : Nat) (x0 : Nat) (x1 : Int32) (x2 : Int32) (σ : xH) : qX11_begins_2 E d x0 x1 x2 σ = if (nI 1100) ≤ x2 then qX11_begins_22 E d x0 x1 σ else gR σ 9 2 x0 (fun v1 => sI σ v1 x2 (nI 0) (fun σ1 => qX11_begins_2 E d x0 x1 (x2 + (nI 1)) σ1)) := xval_blkQ E (xsem xT E d) 0 0 bX11_begins (pc := 2) rfl [(0, .ref x0), (1, .int x1), (2, .int x2)] [] σ 0 0
set_option maxRecDepth 100000 in
theorem QX11_begins_22 (E : xEn) (d : Nat) (x0 : Nat) (x1 : Int32) (σ : xH) : qX11_begins_22 E d x0 x1 σ = gR σ 9 2 x0 (fun v1 => sI σ v1 (nI 0) x1 (fun σ1 => gR σ1 9 2 x0 (fun v2 => sI σ1 v2 (nI 4) (nI 80) (fun σ2 => gR σ2 9 2 x0 (fun v3 => sI σ2 v3 (nI 5) (nI 1) (fun σ3 => gR σ3 9 2 x0 (fun v4 => sI σ3 v4 (nI 7) (nI 100) (fun σ4 => qX11_begins_55 E d x0 (nI 0) σ4)))))))) := xval_blkQ E (xsem xT E d) 0 0 bX11_begins (pc := 22) rfl [(0, .ref x0), (1, .int x1)] [] σ 0 0
set_option maxRecDepth 100000 in
theorem QX11_begins_55 (E : xEn) (d : Nat) (x0 : Nat) (x2 : Int32) (σ : xH) : qX11_begins_55 E d x0 x2 σ = if (nI 8) ≤ x2 then qX11_begins_77 E d x0 σ else gR σ 9 2 x0 (fun v1 => sI σ v1 ((nI 12) + x2) x2 (fun σ1 => qX11_begins_55 E d x0 (x2 + (nI 1)) σ1)) := xval_blkQ E (xsem xT E d) 0 0 bX11_begins (pc := 55) rfl [(0, .ref x0), (2, .int x2)] [] σ 0 0
set_option maxRecDepth 100000 in
theorem QX11_begins_77 (E : xEn) (d : Nat) (x0 : Nat) (σ : xH) : qX11_begins_77 E d x0 σ = gR σ 9 2 x0 (fun v1 => sI σ v1 (nI 36) (nI 1) (fun σ1 => some (.inl none, σ1))) := xval_blkQ E (xsem xT E d) 0 0 bX11_begins (pc := 77) rfl [(0, .ref x0)] [] σ 0 0
theorem eX11_begins (E : xEn) (d : Nat) (x0 : Nat) (x1 : Int32) (σ : xH) : xsem xT E (d + 1) kX11_begins [.ref x0, .int x1] σ = qX11_begins_0 E d x0 x1 σ := rfl
noncomputable def qX11_shells_0 (E : xEn) (d : Nat) (x0 : Nat) (σ : xH) : Option xR := xval E (xsem xT E d) 0 0 bX11_shells (0, [(0, .ref x0)], [], σ, 0, 0)
set_option maxRecDepth 100000 in
theorem QX11_shells_0 (E : xEn) (d : Nat) (x0 : Nat) (σ : xH) : qX11_shells_0 E d x0 σ = gO E σ 9 x0 (cI (xthr 1 some) (xsem xT E d kX11_get [.ref x0, .int (nI 0)] σ) (fun v1 σ1 => some (.inl (some (.int v1)), σ1))) := xval_blkQ E (xsem xT E d) 0 0 bX11_shells (pc := 0) rfl [(0, .ref x0)] [] σ 0 0
theorem eX11_shells (E : xEn) (d : Nat) (x0 : Nat) (σ : xH) : xsem xT E (d + 1) kX11_shells [.ref x0] σ = qX11_shells_0 E d x0 σ := rfl
noncomputable def qX11_blinksAt_0 (E : xEn) (d : Nat) (x0 : Nat) (x1 : Int32) (σ : xH) : Option xR := xval E (xsem xT E d) 0 0 bX11_blinksAt (0, [(0, .ref x0), (1, .int x1)], [], σ, 0, 0)
noncomputable def qX11_blinksAt_2 (E : xEn) (d : Nat) (x0 : Nat) (x1 : Int32) (x2 : Int32) (σ : xH) : Option xR := xval E (xsem xT E d) 0 0 bX11_blinksAt (2, [(0, .ref x0), (1, .int x1), (2, .int x2)], [], σ, 0, 0)
noncomputable def qX11_blinksAt_43 (E : xEn) (d : Nat) (x0 : Nat) (x1 : Int32) (x2 : Int32) (σ : xH) : Option xR := xval E (xsem xT E d) 0 0 bX11_blinksAt (43, [(0, .ref x0), (1, .int x1), (2, .int x2)], [], σ, 0, 0)
noncomputable def qX11_blinksAt_49 (E : xEn) (d : Nat) (σ : xH) : Option xR := xval E (xsem xT E d) 0 0 bX11_blinksAt (49, [], [], σ, 0, 0)
set_option maxRecDepth 100000 in
theorem QX11_blinksAt_0 (E : xEn) (d : Nat) (x0 : Nat) (x1 : Int32) (σ : xH) : qX11_blinksAt_0 E d x0 x1 σ = qX11_blinksAt_2 E d x0 x1 (nI 0) σ := xval_blkQ E (xsem xT E d) 0 0 bX11_blinksAt (pc := 0) rfl [(0, .ref x0), (1, .int x1)] [] σ 0 0
set_option maxRecDepth 100000 in
theorem QX11_blinksAt_2 (E : xEn) (d : Nat) (x0 : Nat) (x1 : Int32) (x2 : Int32) (σ : xH) : qX11_blinksAt_2 E d x0 x1 x2 σ = gO E σ 9 x0 (cI (xthr 1 some) (xsem xT E d kX11_get [.ref x0, .int (nI 10)] σ) (fun v1 σ1 => if v1 ≤ x2 then qX11_blinksAt_49 E d σ1 else gO E σ1 9 x0 (cI (xthr 1 some) (xsem xT E d kX11_get [.ref x0, .int ((nI 45) + ((nI 2) * x2))] σ1) (fun v2 σ2 => gO E σ2 9 x0 (cI (xthr 1 some) (xsem xT E d kX11_get [.ref x0, .int (((nI 45) + ((nI 2) * x2)) + (nI 1))] σ2) (fun v3 σ3 => cI (xthr 0 some) (xsem xT E d kX11_isIn [.int x1, .int v2, .int v3] σ3) (fun v4 σ4 => if v4 = (nI 0) then qX11_blinksAt_43 E d x0 x1 x2 σ4 else xiret [5] (nI 1) (some (.inl (some (.int (nI 1))), σ4))))))))) := xval_blkQ E (xsem xT E d) 0 0 bX11_blinksAt (pc := 2) rfl [(0, .ref x0), (1, .int x1), (2, .int x2)] [] σ 0 0
set_option maxRecDepth 100000 in
theorem QX11_blinksAt_43 (E : xEn) (d : Nat) (x0 : Nat) (x1 : Int32) (x2 : Int32) (σ : xH) : qX11_blinksAt_43 E d x0 x1 x2 σ = qX11_blinksAt_2 E d x0 x1 (x2 + (nI 1)) σ := xval_blkQ E (xsem xT E d) 0 0 bX11_blinksAt (pc := 43) rfl [(0, .ref x0), (1, .int x1), (2, .int x2)] [] σ 0 0
set_option maxRecDepth 100000 in
theorem QX11_blinksAt_49 (E : xEn) (d : Nat) (σ : xH) : qX11_blinksAt_49 E d σ = xiret [5] (nI 0) (some (.inl (some (.int (nI 0))), σ)) := xval_blkQ E (xsem xT E d) 0 0 bX11_blinksAt (pc := 49) rfl [] [] σ 0 0
theorem eX11_blinksAt (E : xEn) (d : Nat) (x0 : Nat) (x1 : Int32) (σ : xH) : xsem xT E (d + 1) kX11_blinksAt [.ref x0, .int x1] σ = qX11_blinksAt_0 E d x0 x1 σ := rfl
noncomputable def qX11_blinksNow_0 (E : xEn) (d : Nat) (x0 : Nat) (σ : xH) : Option xR := xval E (xsem xT E d) 0 0 bX11_blinksNow (0, [(0, .ref x0)], [], σ, 0, 0)
set_option maxRecDepth 100000 in
theorem QX11_blinksNow_0 (E : xEn) (d : Nat) (x0 : Nat) (σ : xH) : qX11_blinksNow_0 E d x0 σ = gO E σ 9 x0 (cI (xthr 1 some) (xsem xT E d kX11_get [.ref x0, .int (nI 2)] σ) (fun v1 σ1 => gO E σ1 9 x0 (cI (xthr 1 some) (xsem xT E d kX11_blinksAt [.ref x0, .int v1] σ1) (fun v2 σ2 => xiret [5] v2 (some (.inl (some (.int v2)), σ2)))))) := xval_blkQ E (xsem xT E d) 0 0 bX11_blinksNow (pc := 0) rfl [(0, .ref x0)] [] σ 0 0
theorem eX11_blinksNow (E : xEn) (d : Nat) (x0 : Nat) (σ : xH) : xsem xT E (d + 1) kX11_blinksNow [.ref x0] σ = qX11_blinksNow_0 E d x0 σ := rfl
noncomputable def qX11_rough_0 (E : xEn) (d : Nat) (x0 : Nat) (σ : xH) : Option xR := xval E (xsem xT E d) 0 0 bX11_rough (0, [(0, .ref x0)], [], σ, 0, 0)
noncomputable def qX11_rough_4 (E : xEn) (d : Nat) (x0 : Nat) (x1 : Int32) (x2 : Int32) (σ : xH) : Option xR := xval E (xsem xT E d) 0 0 bX11_rough (4, [(0, .ref x0), (1, .int x1), (2, .int x2)], [], σ, 0, 0)
noncomputable def qX11_rough_38 (E : xEn) (d : Nat) (x1 : Int32) (σ : xH) : Option xR := xval E (xsem xT E d) 0 0 bX11_rough (38, [(1, .int x1)], [], σ, 0, 0)
set_option maxRecDepth 100000 in
theorem QX11_rough_0 (E : xEn) (d : Nat) (x0 : Nat) (σ : xH) : qX11_rough_0 E d x0 σ = qX11_rough_4 E d x0 (nI 0) (nI 0) σ := xval_blkQ E (xsem xT E d) 0 0 bX11_rough (pc := 0) rfl [(0, .ref x0)] [] σ 0 0
set_option maxRecDepth 100000 in
theorem QX11_rough_4 (E : xEn) (d : Nat) (x0 : Nat) (x1 : Int32) (x2 : Int32) (σ : xH) : qX11_rough_4 E d x0 x1 x2 σ = gO E σ 9 x0 (cI (xthr 1 some) (xsem xT E d kX11_shells [.ref x0] σ) (fun v1 σ1 => if v1 ≤ x2 then qX11_rough_38 E d x1 σ1 else gO E σ1 9 x0 (cI (xthr 1 some) (xsem xT E d kX11_get [.ref x0, .int ((nI 12) + x2)] σ1) (fun v2 σ2 => gO E σ2 9 x0 (cI (xthr 1 some) (xsem xT E d kX11_get [.ref x0, .int ((nI 28) + v2)] σ2) (fun v3 σ3 => qX11_rough_4 E d x0 (x1 ||| (v3 <<< (x2 &&& 31))) (x2 + (nI 1)) σ3)))))) := xval_blkQ E (xsem xT E d) 0 0 bX11_rough (pc := 4) rfl [(0, .ref x0), (1, .int x1), (2, .int x2)] [] σ 0 0
set_option maxRecDepth 100000 in
theorem QX11_rough_38 (E : xEn) (d : Nat) (x1 : Int32) (σ : xH) : qX11_rough_38 E d x1 σ = some (.inl (some (.int x1)), σ) := xval_blkQ E (xsem xT E d) 0 0 bX11_rough (pc := 38) rfl [(1, .int x1)] [] σ 0 0
theorem eX11_rough (E : xEn) (d : Nat) (x0 : Nat) (σ : xH) : xsem xT E (d + 1) kX11_rough [.ref x0] σ = qX11_rough_0 E d x0 σ := rfl
noncomputable def qX11_exchanged_0 (E : xEn) (d : Nat) (x0 : Int32) (x1 : Int32) (x2 : Int32) (σ : xH) : Option xR := xval E (xsem xT E d) 0 0 bX11_exchanged (0, [(0, .int x0), (1, .int x1), (2, .int x2)], [], σ, 0, 0)
noncomputable def qX11_exchanged_17 (E : xEn) (d : Nat) (x0 : Int32) (x1 : Int32) (x2 : Int32) (σ : xH) : Option xR := xval E (xsem xT E d) 0 0 bX11_exchanged (17, [(0, .int x0), (1, .int x1), (2, .int x2)], [], σ, 0, 0)
noncomputable def qX11_exchanged_26 (E : xEn) (d : Nat) (s0 : Int32) (σ : xH) : Option xR := xval E (xsem xT E d) 0 0 bX11_exchanged (26, [], [.int s0], σ, 0, 0)
set_option maxRecDepth 100000 in
theorem QX11_exchanged_0 (E : xEn) (d : Nat) (x0 : Int32) (x1 : Int32) (x2 : Int32) (σ : xH) : qX11_exchanged_0 E d x0 x1 x2 σ = if ((x0 >>> (x1 &&& 31)) &&& (nI 1)) = ((x0 >>> (x2 &&& 31)) &&& (nI 1)) then qX11_exchanged_26 E d x0 σ else qX11_exchanged_17 E d x0 x1 x2 σ := xval_blkQ E (xsem xT E d) 0 0 bX11_exchanged (pc := 0) rfl [(0, .int x0), (1, .int x1), (2, .int x2)] [] σ 0 0
set_option maxRecDepth 100000 in
theorem QX11_exchanged_17 (E : xEn) (d : Nat) (x0 : Int32) (x1 : Int32) (x2 : Int32) (σ : xH) : qX11_exchanged_17 E d x0 x1 x2 σ = qX11_exchanged_26 E d ((x0 ^^^ ((nI 1) <<< (x1 &&& 31))) ^^^ ((nI 1) <<< (x2 &&& 31))) σ := xval_blkQ E (xsem xT E d) 0 0 bX11_exchanged (pc := 17) rfl [(0, .int x0), (1, .int x1), (2, .int x2)] [] σ 0 0
set_option maxRecDepth 100000 in
theorem QX11_exchanged_26 (E : xEn) (d : Nat) (s0 : Int32) (σ : xH) : qX11_exchanged_26 E d s0 σ = some (.inl (some (.int s0)), σ) := xval_blkQ E (xsem xT E d) 0 0 bX11_exchanged (pc := 26) rfl [] [.int s0] σ 0 0
theorem eX11_exchanged (E : xEn) (d : Nat) (x0 : Int32) (x1 : Int32) (x2 : Int32) (σ : xH) : xsem xT E (d + 1) kX11_exchanged [.int x0, .int x1, .int x2] σ = qX11_exchanged_0 E d x0 x1 x2 σ := rfl
noncomputable def qX11_had_0 (E : xEn) (d : Nat) (x0 : Nat) (x1 : Int32) (σ : xH) : Option xR := xval E (xsem xT E d) 0 0 bX11_had (0, [(0, .ref x0), (1, .int x1)], [], σ, 0, 0)
set_option maxRecDepth 100000 in
theorem QX11_had_0 (E : xEn) (d : Nat) (x0 : Nat) (x1 : Int32) (σ : xH) : qX11_had_0 E d x0 x1 σ = gO E σ 9 x0 (cI (xthr 1 some) (xsem xT E d kX11_get [.ref x0, .int ((nI 36) + x1)] σ) (fun v1 σ1 => some (.inl (some (.long v1.toInt64)), σ1))) := xval_blkQ E (xsem xT E d) 0 0 bX11_had (pc := 0) rfl [(0, .ref x0), (1, .int x1)] [] σ 0 0
theorem eX11_had (E : xEn) (d : Nat) (x0 : Nat) (x1 : Int32) (σ : xH) : xsem xT E (d + 1) kX11_had [.ref x0, .int x1] σ = qX11_had_0 E d x0 x1 σ := rfl
noncomputable def qX11_stays_0 (E : xEn) (d : Nat) (x0 : Nat) (x1 : Int64) (σ : xH) : Option xR := xval E (xsem xT E d) 0 0 bX11_stays (0, [(0, .ref x0), (1, .long x1)], [], σ, 0, 0)
noncomputable def qX11_stays_2 (E : xEn) (d : Nat) (x0 : Nat) (x1 : Int64) (x3 : Int32) (σ : xH) : Option xR := xval E (xsem xT E d) 0 0 bX11_stays (2, [(0, .ref x0), (1, .long x1), (3, .int x3)], [], σ, 0, 0)
noncomputable def qX11_stays_32 (E : xEn) (d : Nat) (σ : xH) : Option xR := xval E (xsem xT E d) 0 0 bX11_stays (32, [], [], σ, 0, 0)
set_option maxRecDepth 100000 in
theorem QX11_stays_0 (E : xEn) (d : Nat) (x0 : Nat) (x1 : Int64) (σ : xH) : qX11_stays_0 E d x0 x1 σ = qX11_stays_2 E d x0 x1 (nI 0) σ := xval_blkQ E (xsem xT E d) 0 0 bX11_stays (pc := 0) rfl [(0, .ref x0), (1, .long x1)] [] σ 0 0
set_option maxRecDepth 100000 in
theorem QX11_stays_2 (E : xEn) (d : Nat) (x0 : Nat) (x1 : Int64) (x3 : Int32) (σ : xH) : qX11_stays_2 E d x0 x1 x3 σ = gO E σ 9 x0 (cI (xthr 1 some) (xsem xT E d kX11_shells [.ref x0] σ) (fun v1 σ1 => if v1 < x3 then qX11_stays_32 E d σ1 else gR σ1 9 5 x0 (fun v2 => aL σ1 v2 x3 (fun v3 => gO E σ1 9 x0 (cL (xthr 1 some) (xsem xT E d kX11_had [.ref x0, .int x3] σ1) (fun v4 σ2 => sL σ2 v2 x3 (v3 + (x1 * v4)) (fun σ3 => qX11_stays_2 E d x0 x1 (x3 + (nI 1)) σ3))))))) := xval_blkQ E (xsem xT E d) 0 0 bX11_stays (pc := 2) rfl [(0, .ref x0), (1, .long x1), (3, .int x3)] [] σ 0 0
set_option maxRecDepth 100000 in
theorem QX11_stays_32 (E : xEn) (d : Nat) (σ : xH) : qX11_stays_32 E d σ = some (.inl none, σ) := xval_blkQ E (xsem xT E d) 0 0 bX11_stays (pc := 32) rfl [] [] σ 0 0
theorem eX11_stays (E : xEn) (d : Nat) (x0 : Nat) (x1 : Int64) (σ : xH) : xsem xT E (d + 1) kX11_stays [.ref x0, .long x1] σ = qX11_stays_0 E d x0 x1 σ := rfl
noncomputable def qX11_seen_0 (E : xEn) (d : Nat) (x0 : Nat) (x1 : Int32) (x2 : Int32) (x3 : Int32) (σ : xH) : Option xR := xval E (xsem xT E d) 0 0 bX11_seen (0, [(0, .ref x0), (1, .int x1), (2, .int x2), (3, .int x3)], [], σ, 0, 0)
noncomputable def qX11_seen_11 (E : xEn) (d : Nat) (x0 : Nat) (x1 : Int32) (x2 : Int32) (x3 : Int32) (σ : xH) : Option xR := xval E (xsem xT E d) 0 0 bX11_seen (11, [(0, .ref x0), (1, .int x1), (2, .int x2), (3, .int x3)], [], σ, 0, 0)
noncomputable def qX11_seen_36 (E : xEn) (d : Nat) (x0 : Nat) (x1 : Int32) (x2 : Int32) (x3 : Int32) (σ : xH) : Option xR := xval E (xsem xT E d) 0 0 bX11_seen (36, [(0, .ref x0), (1, .int x1), (2, .int x2), (3, .int x3)], [], σ, 0, 0)
noncomputable def qX11_seen_37 (E : xEn) (d : Nat) (x0 : Nat) (x1 : Int32) (x2 : Int32) (x3 : Int32) (s0 : Int32) (σ : xH) : Option xR := xval E (xsem xT E d) 0 0 bX11_seen (37, [(0, .ref x0), (1, .int x1), (2, .int x2), (3, .int x3)], [.int s0], σ, 0, 0)
noncomputable def qX11_seen_52 (E : xEn) (d : Nat) (x0 : Nat) (x2 : Int32) (x3 : Int32) (x5 : Int32) (σ : xH) : Option xR := xval E (xsem xT E d) 0 0 bX11_seen (52, [(0, .ref x0), (2, .int x2), (3, .int x3), (5, .int x5)], [], σ, 0, 0)
noncomputable def qX11_seen_56 (E : xEn) (d : Nat) (x0 : Nat) (x2 : Int32) (x3 : Int32) (x5 : Int32) (σ : xH) : Option xR := xval E (xsem xT E d) 0 0 bX11_seen (56, [(0, .ref x0), (2, .int x2), (3, .int x3), (5, .int x5)], [], σ, 0, 0)
noncomputable def qX11_seen_65 (E : xEn) (d : Nat) (x0 : Nat) (x2 : Int32) (x3 : Int32) (x5 : Int32) (s0 : Int64) (σ : xH) : Option xR := xval E (xsem xT E d) 0 0 bX11_seen (65, [(0, .ref x0), (2, .int x2), (3, .int x3), (5, .int x5)], [.long s0], σ, 0, 0)
noncomputable def qX11_seen_79 (E : xEn) (d : Nat) (x0 : Nat) (x2 : Int32) (x3 : Int32) (x5 : Int32) (x6 : Int64) (σ : xH) : Option xR := xval E (xsem xT E d) 0 0 bX11_seen (79, [(0, .ref x0), (2, .int x2), (3, .int x3), (5, .int x5), (6, .long x6)], [], σ, 0, 0)
noncomputable def qX11_seen_85 (E : xEn) (d : Nat) (x0 : Nat) (x2 : Int32) (x3 : Int32) (x5 : Int32) (x6 : Int64) (s0 : Int64) (σ : xH) : Option xR := xval E (xsem xT E d) 0 0 bX11_seen (85, [(0, .ref x0), (2, .int x2), (3, .int x3), (5, .int x5), (6, .long x6)], [.long s0], σ, 0, 0)
noncomputable def qX11_seen_97 (E : xEn) (d : Nat) (x0 : Nat) (x2 : Int32) (x3 : Int32) (x6 : Int64) (x8 : Int64) (s0 : Nat) (σ : xH) : Option xR := xval E (xsem xT E d) 0 0 bX11_seen (97, [(0, .ref x0), (2, .int x2), (3, .int x3), (6, .long x6), (8, .long x8)], [.ref s0], σ, 0, 0)
noncomputable def qX11_seen_100 (E : xEn) (d : Nat) (x0 : Nat) (x2 : Int32) (x3 : Int32) (x6 : Int64) (x8 : Int64) (s0 : Nat) (s1 : Int64) (σ : xH) : Option xR := xval E (xsem xT E d) 0 0 bX11_seen (100, [(0, .ref x0), (2, .int x2), (3, .int x3), (6, .long x6), (8, .long x8)], [.long s1, .ref s0], σ, 0, 0)
set_option maxRecDepth 100000 in
theorem QX11_seen_0 (E : xEn) (d : Nat) (x0 : Nat) (x1 : Int32) (x2 : Int32) (x3 : Int32) (σ : xH) : qX11_seen_0 E d x0 x1 x2 x3 σ = if x1 = (nI 2) then gO E σ 9 x0 (cV (xthr 1 some) (xsem xT E d kX11_stays [.ref x0, .long (lN 1)] σ) (fun σ1 => some (.inl none, σ1))) else qX11_seen_11 E d x0 x1 x2 x3 σ := xval_blkQ E (xsem xT E d) 0 0 bX11_seen (pc := 0) rfl [(0, .ref x0), (1, .int x1), (2, .int x2), (3, .int x3)] [] σ 0 0
set_option maxRecDepth 100000 in
theorem QX11_seen_11 (E : xEn) (d : Nat) (x0 : Nat) (x1 : Int32) (x2 : Int32) (x3 : Int32) (σ : xH) : qX11_seen_11 E d x0 x1 x2 x3 σ = gO E σ 9 x0 (cI (xthr 1 some) (xsem xT E d kX11_rough [.ref x0] σ) (fun v1 σ1 => if ((v1 >>> (x2 &&& 31)) &&& (nI 1)) = ((v1 >>> (x3 &&& 31)) &&& (nI 1)) then qX11_seen_36 E d x0 x1 x2 x3 σ1 else qX11_seen_37 E d x0 x1 x2 x3 (nI 1) σ1)) := xval_blkQ E (xsem xT E d) 0 0 bX11_seen (pc := 11) rfl [(0, .ref x0), (1, .int x1), (2, .int x2), (3, .int x3)] [] σ 0 0
set_option maxRecDepth 100000 in
theorem QX11_seen_36 (E : xEn) (d : Nat) (x0 : Nat) (x1 : Int32) (x2 : Int32) (x3 : Int32) (σ : xH) : qX11_seen_36 E d x0 x1 x2 x3 σ = qX11_seen_37 E d x0 x1 x2 x3 (nI 0) σ := xval_blkQ E (xsem xT E d) 0 0 bX11_seen (pc := 36) rfl [(0, .ref x0), (1, .int x1), (2, .int x2), (3, .int x3)] [] σ 0 0
set_option maxRecDepth 100000 in
theorem QX11_seen_37 (E : xEn) (d : Nat) (x0 : Nat) (x1 : Int32) (x2 : Int32) (x3 : Int32) (s0 : Int32) (σ : xH) : qX11_seen_37 E d x0 x1 x2 x3 s0 σ = if s0 = (nI 0) then qX11_seen_56 E d x0 x2 x3 s0 σ else if x1 = (nI 0) then qX11_seen_65 E d x0 x2 x3 s0 (lN 0) σ else qX11_seen_52 E d x0 x2 x3 s0 σ := xval_blkQ E (xsem xT E d) 0 0 bX11_seen (pc := 37) rfl [(0, .ref x0), (1, .int x1), (2, .int x2), (3, .int x3)] [.int s0] σ 0 0
set_option maxRecDepth 100000 in
theorem QX11_seen_52 (E : xEn) (d : Nat) (x0 : Nat) (x2 : Int32) (x3 : Int32) (x5 : Int32) (σ : xH) : qX11_seen_52 E d x0 x2 x3 x5 σ = qX11_seen_65 E d x0 x2 x3 x5 (lN 1) σ := xval_blkQ E (xsem xT E d) 0 0 bX11_seen (pc := 52) rfl [(0, .ref x0), (2, .int x2), (3, .int x3), (5, .int x5)] [] σ 0 0
set_option maxRecDepth 100000 in
theorem QX11_seen_56 (E : xEn) (d : Nat) (x0 : Nat) (x2 : Int32) (x3 : Int32) (x5 : Int32) (σ : xH) : qX11_seen_56 E d x0 x2 x3 x5 σ = gO E σ 9 x0 (cI (xthr 1 some) (xsem xT E d kX11_get [.ref x0, .int (nI 4)] σ) (fun v1 σ1 => qX11_seen_65 E d x0 x2 x3 x5 (((nI 100) - v1).toInt64) σ1)) := xval_blkQ E (xsem xT E d) 0 0 bX11_seen (pc := 56) rfl [(0, .ref x0), (2, .int x2), (3, .int x3), (5, .int x5)] [] σ 0 0
set_option maxRecDepth 100000 in
theorem QX11_seen_65 (E : xEn) (d : Nat) (x0 : Nat) (x2 : Int32) (x3 : Int32) (x5 : Int32) (s0 : Int64) (σ : xH) : qX11_seen_65 E d x0 x2 x3 x5 s0 σ = if x5 = (nI 0) then qX11_seen_79 E d x0 x2 x3 x5 s0 σ else qX11_seen_85 E d x0 x2 x3 x5 s0 ((lN 1) - s0) σ := xval_blkQ E (xsem xT E d) 0 0 bX11_seen (pc := 65) rfl [(0, .ref x0), (2, .int x2), (3, .int x3), (5, .int x5)] [.long s0] σ 0 0
set_option maxRecDepth 100000 in
theorem QX11_seen_79 (E : xEn) (d : Nat) (x0 : Nat) (x2 : Int32) (x3 : Int32) (x5 : Int32) (x6 : Int64) (σ : xH) : qX11_seen_79 E d x0 x2 x3 x5 x6 σ = gO E σ 9 x0 (cI (xthr 1 some) (xsem xT E d kX11_get [.ref x0, .int (nI 4)] σ) (fun v1 σ1 => qX11_seen_85 E d x0 x2 x3 x5 x6 v1.toInt64 σ1)) := xval_blkQ E (xsem xT E d) 0 0 bX11_seen (pc := 79) rfl [(0, .ref x0), (2, .int x2), (3, .int x3), (5, .int x5), (6, .long x6)] [] σ 0 0
set_option maxRecDepth 100000 in
theorem QX11_seen_85 (E : xEn) (d : Nat) (x0 : Nat) (x2 : Int32) (x3 : Int32) (x5 : Int32) (x6 : Int64) (s0 : Int64) (σ : xH) : qX11_seen_85 E d x0 x2 x3 x5 x6 s0 σ = if x5 = (nI 0) then qX11_seen_97 E d x0 x2 x3 x6 s0 x0 σ else qX11_seen_100 E d x0 x2 x3 x6 s0 x0 (lN 1) σ := xval_blkQ E (xsem xT E d) 0 0 bX11_seen (pc := 85) rfl [(0, .ref x0), (2, .int x2), (3, .int x3), (5, .int x5), (6, .long x6)] [.long s0] σ 0 0
set_option maxRecDepth 100000 in
theorem QX11_seen_97 (E : xEn) (d : Nat) (x0 : Nat) (x2 : Int32) (x3 : Int32) (x6 : Int64) (x8 : Int64) (s0 : Nat) (σ : xH) : qX11_seen_97 E d x0 x2 x3 x6 x8 s0 σ = qX11_seen_100 E d x0 x2 x3 x6 x8 s0 (lN 100) σ := xval_blkQ E (xsem xT E d) 0 0 bX11_seen (pc := 97) rfl [(0, .ref x0), (2, .int x2), (3, .int x3), (6, .long x6), (8, .long x8)] [.ref s0] σ 0 0
set_option maxRecDepth 100000 in
theorem QX11_seen_100 (E : xEn) (d : Nat) (x0 : Nat) (x2 : Int32) (x3 : Int32) (x6 : Int64) (x8 : Int64) (s0 : Nat) (s1 : Int64) (σ : xH) : qX11_seen_100 E d x0 x2 x3 x6 x8 s0 s1 σ = gO E σ 9 s0 (cV (xthr 1 some) (xsem xT E d kX11_stays [.ref s0, .long s1] σ) (fun σ1 => gR σ1 9 5 x0 (fun v1 => gO E σ1 9 x0 (cL (xthr 1 some) (xsem xT E d kX11_had [.ref x0, .int x2] σ1) (fun v2 σ2 => gO E σ2 9 x0 (cL (xthr 1 some) (xsem xT E d kX11_had [.ref x0, .int x3] σ2) (fun v3 σ3 => sL σ3 v1 x2 ((x6 * v2) + (x8 * v3)) (fun σ4 => gR σ4 9 5 x0 (fun v4 => gO E σ4 9 x0 (cL (xthr 1 some) (xsem xT E d kX11_had [.ref x0, .int x3] σ4) (fun v5 σ5 => gO E σ5 9 x0 (cL (xthr 1 some) (xsem xT E d kX11_had [.ref x0, .int x2] σ5) (fun v6 σ6 => sL σ6 v4 x3 ((x6 * v5) + (x8 * v6)) (fun σ7 => some (.inl none, σ7))))))))))))))) := xval_blkQ E (xsem xT E d) 0 0 bX11_seen (pc := 100) rfl [(0, .ref x0), (2, .int x2), (3, .int x3), (6, .long x6), (8, .long x8)] [.long s1, .ref s0] σ 0 0
theorem eX11_seen (E : xEn) (d : Nat) (x0 : Nat) (x1 : Int32) (x2 : Int32) (x3 : Int32) (σ : xH) : xsem xT E (d + 1) kX11_seen [.ref x0, .int x1, .int x2, .int x3] σ = qX11_seen_0 E d x0 x1 x2 x3 σ := rfl
noncomputable def qX11_unseen_0 (E : xEn) (d : Nat) (x0 : Nat) (x1 : Int32) (x2 : Int32) (x3 : Int32) (σ : xH) : Option xR := xval E (xsem xT E d) 0 0 bX11_unseen (0, [(0, .ref x0), (1, .int x1), (2, .int x2), (3, .int x3)], [], σ, 0, 0)
noncomputable def qX11_unseen_20 (E : xEn) (d : Nat) (x0 : Nat) (x4 : Int32) (σ : xH) : Option xR := xval E (xsem xT E d) 0 0 bX11_unseen (20, [(0, .ref x0), (4, .int x4)], [], σ, 0, 0)
noncomputable def qX11_unseen_22 (E : xEn) (d : Nat) (x0 : Nat) (x4 : Int32) (s0 : Int32) (σ : xH) : Option xR := xval E (xsem xT E d) 0 0 bX11_unseen (22, [(0, .ref x0), (4, .int x4)], [.int s0], σ, 0, 0)
noncomputable def qX11_unseen_33 (E : xEn) (d : Nat) (x0 : Nat) (x4 : Int32) (x5 : Int32) (x6 : Int32) (x7 : Int32) (σ : xH) : Option xR := xval E (xsem xT E d) 0 0 bX11_unseen (33, [(0, .ref x0), (4, .int x4), (5, .int x5), (6, .int x6), (7, .int x7)], [], σ, 0, 0)
noncomputable def qX11_unseen_46 (E : xEn) (d : Nat) (x0 : Nat) (x4 : Int32) (x5 : Int32) (x6 : Int32) (x7 : Int32) (x8 : Int32) (σ : xH) : Option xR := xval E (xsem xT E d) 0 0 bX11_unseen (46, [(0, .ref x0), (4, .int x4), (5, .int x5), (6, .int x6), (7, .int x7), (8, .int x8)], [], σ, 0, 0)
noncomputable def qX11_unseen_70 (E : xEn) (d : Nat) (x0 : Nat) (x4 : Int32) (x5 : Int32) (x6 : Int32) (x7 : Int32) (x8 : Int32) (σ : xH) : Option xR := xval E (xsem xT E d) 0 0 bX11_unseen (70, [(0, .ref x0), (4, .int x4), (5, .int x5), (6, .int x6), (7, .int x7), (8, .int x8)], [], σ, 0, 0)
noncomputable def qX11_unseen_121 (E : xEn) (d : Nat) (x0 : Nat) (x4 : Int32) (x5 : Int32) (x6 : Int32) (x7 : Int32) (x8 : Int32) (σ : xH) : Option xR := xval E (xsem xT E d) 0 0 bX11_unseen (121, [(0, .ref x0), (4, .int x4), (5, .int x5), (6, .int x6), (7, .int x7), (8, .int x8)], [], σ, 0, 0)
noncomputable def qX11_unseen_127 (E : xEn) (d : Nat) (x0 : Nat) (x4 : Int32) (x5 : Int32) (x6 : Int32) (x7 : Int32) (σ : xH) : Option xR := xval E (xsem xT E d) 0 0 bX11_unseen (127, [(0, .ref x0), (4, .int x4), (5, .int x5), (6, .int x6), (7, .int x7)], [], σ, 0, 0)
noncomputable def qX11_unseen_133 (E : xEn) (d : Nat) (x0 : Nat) (x4 : Int32) (x5 : Int32) (x6 : Int32) (σ : xH) : Option xR := xval E (xsem xT E d) 0 0 bX11_unseen (133, [(0, .ref x0), (4, .int x4), (5, .int x5), (6, .int x6)], [], σ, 0, 0)
noncomputable def qX11_unseen_141 (E : xEn) (d : Nat) (x0 : Nat) (x6 : Int32) (σ : xH) : Option xR := xval E (xsem xT E d) 0 0 bX11_unseen (141, [(0, .ref x0), (6, .int x6)], [], σ, 0, 0)
noncomputable def qX11_unseen_154 (E : xEn) (d : Nat) (x0 : Nat) (x6 : Int32) (x7 : Int32) (σ : xH) : Option xR := xval E (xsem xT E d) 0 0 bX11_unseen (154, [(0, .ref x0), (6, .int x6), (7, .int x7)], [], σ, 0, 0)
noncomputable def qX11_unseen_244 (E : xEn) (d : Nat) (σ : xH) : Option xR := xval E (xsem xT E d) 0 0 bX11_unseen (244, [], [], σ, 0, 0)
set_option maxRecDepth 100000 in
theorem QX11_unseen_0 (E : xEn) (d : Nat) (x0 : Nat) (x1 : Int32) (x2 : Int32) (x3 : Int32) (σ : xH) : qX11_unseen_0 E d x0 x1 x2 x3 σ = gO E σ 9 x0 (cI (xthr 1 some) (xsem xT E d kX11_rough [.ref x0] σ) (fun v1 σ1 => if x1 = (nI 0) then cI (xthr 0 some) (xsem xT E d kX11_exchanged [.int v1, .int x2, .int x3] σ1) (fun v2 σ2 => qX11_unseen_22 E d x0 v1 v2 σ2) else qX11_unseen_20 E d x0 v1 σ1)) := xval_blkQ E (xsem xT E d) 0 0 bX11_unseen (pc := 0) rfl [(0, .ref x0), (1, .int x1), (2, .int x2), (3, .int x3)] [] σ 0 0
set_option maxRecDepth 100000 in
theorem QX11_unseen_20 (E : xEn) (d : Nat) (x0 : Nat) (x4 : Int32) (σ : xH) : qX11_unseen_20 E d x0 x4 σ = qX11_unseen_22 E d x0 x4 x4 σ := xval_blkQ E (xsem xT E d) 0 0 bX11_unseen (pc := 20) rfl [(0, .ref x0), (4, .int x4)] [] σ 0 0
set_option maxRecDepth 100000 in
theorem QX11_unseen_22 (E : xEn) (d : Nat) (x0 : Nat) (x4 : Int32) (s0 : Int32) (σ : xH) : qX11_unseen_22 E d x0 x4 s0 σ = gO E σ 9 x0 (cI (xthr 1 some) (xsem xT E d kX11_shells [.ref x0] σ) (fun v1 σ1 => qX11_unseen_33 E d x0 x4 s0 v1 (nI 0) σ1)) := xval_blkQ E (xsem xT E d) 0 0 bX11_unseen (pc := 22) rfl [(0, .ref x0), (4, .int x4)] [.int s0] σ 0 0
set_option maxRecDepth 100000 in
theorem QX11_unseen_33 (E : xEn) (d : Nat) (x0 : Nat) (x4 : Int32) (x5 : Int32) (x6 : Int32) (x7 : Int32) (σ : xH) : qX11_unseen_33 E d x0 x4 x5 x6 x7 σ = if x6 ≤ x7 then qX11_unseen_133 E d x0 x4 x5 x6 σ else qX11_unseen_46 E d x0 x4 x5 x6 x7 (x7 + (nI 1)) σ := xval_blkQ E (xsem xT E d) 0 0 bX11_unseen (pc := 33) rfl [(0, .ref x0), (4, .int x4), (5, .int x5), (6, .int x6), (7, .int x7)] [] σ 0 0
set_option maxRecDepth 100000 in
theorem QX11_unseen_46 (E : xEn) (d : Nat) (x0 : Nat) (x4 : Int32) (x5 : Int32) (x6 : Int32) (x7 : Int32) (x8 : Int32) (σ : xH) : qX11_unseen_46 E d x0 x4 x5 x6 x7 x8 σ = if x6 ≤ x8 then qX11_unseen_127 E d x0 x4 x5 x6 x7 σ else cI (xthr 0 some) (xsem xT E d kX11_exchanged [.int x4, .int x7, .int x8] σ) (fun v1 σ1 => if v1 = x5 then qX11_unseen_70 E d x0 x4 x5 x6 x7 x8 σ1 else qX11_unseen_121 E d x0 x4 x5 x6 x7 x8 σ1) := xval_blkQ E (xsem xT E d) 0 0 bX11_unseen (pc := 46) rfl [(0, .ref x0), (4, .int x4), (5, .int x5), (6, .int x6), (7, .int x7), (8, .int x8)] [] σ 0 0
set_option maxRecDepth 100000 in
theorem QX11_unseen_70 (E : xEn) (d : Nat) (x0 : Nat) (x4 : Int32) (x5 : Int32) (x6 : Int32) (x7 : Int32) (x8 : Int32) (σ : xH) : qX11_unseen_70 E d x0 x4 x5 x6 x7 x8 σ = gO E σ 9 x0 (cV (xthr 1 some) (xsem xT E d kX11_stays [.ref x0, .long (lN 1)] σ) (fun σ1 => gR σ1 9 5 x0 (fun v1 => aL σ1 v1 x7 (fun v2 => gO E σ1 9 x0 (cL (xthr 1 some) (xsem xT E d kX11_had [.ref x0, .int x8] σ1) (fun v3 σ2 => gO E σ2 9 x0 (cL (xthr 1 some) (xsem xT E d kX11_had [.ref x0, .int x7] σ2) (fun v4 σ3 => sL σ3 v1 x7 (v2 + (v3 - v4)) (fun σ4 => gR σ4 9 5 x0 (fun v5 => aL σ4 v5 x8 (fun v6 => gO E σ4 9 x0 (cL (xthr 1 some) (xsem xT E d kX11_had [.ref x0, .int x7] σ4) (fun v7 σ5 => gO E σ5 9 x0 (cL (xthr 1 some) (xsem xT E d kX11_had [.ref x0, .int x8] σ5) (fun v8 σ6 => sL σ6 v5 x8 (v6 + (v7 - v8)) (fun σ7 => qX11_unseen_121 E d x0 x4 x5 x6 x7 x8 σ7)))))))))))))))) := xval_blkQ E (xsem xT E d) 0 0 bX11_unseen (pc := 70) rfl [(0, .ref x0), (4, .int x4), (5, .int x5), (6, .int x6), (7, .int x7), (8, .int x8)] [] σ 0 0
set_option maxRecDepth 100000 in
theorem QX11_unseen_121 (E : xEn) (d : Nat) (x0 : Nat) (x4 : Int32) (x5 : Int32) (x6 : Int32) (x7 : Int32) (x8 : Int32) (σ : xH) : qX11_unseen_121 E d x0 x4 x5 x6 x7 x8 σ = qX11_unseen_46 E d x0 x4 x5 x6 x7 (x8 + (nI 1)) σ := xval_blkQ E (xsem xT E d) 0 0 bX11_unseen (pc := 121) rfl [(0, .ref x0), (4, .int x4), (5, .int x5), (6, .int x6), (7, .int x7), (8, .int x8)] [] σ 0 0
set_option maxRecDepth 100000 in
theorem QX11_unseen_127 (E : xEn) (d : Nat) (x0 : Nat) (x4 : Int32) (x5 : Int32) (x6 : Int32) (x7 : Int32) (σ : xH) : qX11_unseen_127 E d x0 x4 x5 x6 x7 σ = qX11_unseen_33 E d x0 x4 x5 x6 (x7 + (nI 1)) σ := xval_blkQ E (xsem xT E d) 0 0 bX11_unseen (pc := 127) rfl [(0, .ref x0), (4, .int x4), (5, .int x5), (6, .int x6), (7, .int x7)] [] σ 0 0
set_option maxRecDepth 100000 in
theorem QX11_unseen_133 (E : xEn) (d : Nat) (x0 : Nat) (x4 : Int32) (x5 : Int32) (x6 : Int32) (σ : xH) : qX11_unseen_133 E d x0 x4 x5 x6 σ = if x4 = x5 then qX11_unseen_141 E d x0 x6 σ else some (.inl none, σ) := xval_blkQ E (xsem xT E d) 0 0 bX11_unseen (pc := 133) rfl [(0, .ref x0), (4, .int x4), (5, .int x5), (6, .int x6)] [] σ 0 0
set_option maxRecDepth 100000 in
theorem QX11_unseen_141 (E : xEn) (d : Nat) (x0 : Nat) (x6 : Int32) (σ : xH) : qX11_unseen_141 E d x0 x6 σ = gO E σ 9 x0 (cI (xthr 1 some) (xsem xT E d kX11_get [.ref x0, .int (nI 5)] σ) (fun v1 σ1 => gO E σ1 9 x0 (cV (xthr 1 some) (xsem xT E d kX11_stays [.ref x0, .long v1.toInt64] σ1) (fun σ2 => qX11_unseen_154 E d x0 x6 (nI 0) σ2)))) := xval_blkQ E (xsem xT E d) 0 0 bX11_unseen (pc := 141) rfl [(0, .ref x0), (6, .int x6)] [] σ 0 0
set_option maxRecDepth 100000 in
theorem QX11_unseen_154 (E : xEn) (d : Nat) (x0 : Nat) (x6 : Int32) (x7 : Int32) (σ : xH) : qX11_unseen_154 E d x0 x6 x7 σ = if x6 ≤ x7 then qX11_unseen_244 E d σ else gO E σ 9 x0 (cI (xthr 1 some) (xsem xT E d kX11_get [.ref x0, .int (nI 6)] σ) (fun v1 σ1 => gO E σ1 9 x0 (cV (xthr 1 some) (xsem xT E d kX11_stays [.ref x0, .long ((lN 2) * v1.toInt64)] σ1) (fun σ2 => gR σ2 9 5 x0 (fun v2 => aL σ2 v2 x6 (fun v3 => gO E σ2 9 x0 (cI (xthr 1 some) (xsem xT E d kX11_get [.ref x0, .int (nI 6)] σ2) (fun v4 σ3 => gO E σ3 9 x0 (cL (xthr 1 some) (xsem xT E d kX11_had [.ref x0, .int x7] σ3) (fun v5 σ4 => gO E σ4 9 x0 (cL (xthr 1 some) (xsem xT E d kX11_had [.ref x0, .int x6] σ4) (fun v6 σ5 => sL σ5 v2 x6 (v3 + (v4.toInt64 * (v5 - v6))) (fun σ6 => gR σ6 9 5 x0 (fun v7 => aL σ6 v7 x7 (fun v8 => gO E σ6 9 x0 (cI (xthr 1 some) (xsem xT E d kX11_get [.ref x0, .int (nI 6)] σ6) (fun v9 σ7 => gO E σ7 9 x0 (cL (xthr 1 some) (xsem xT E d kX11_had [.ref x0, .int x6] σ7) (fun v10 σ8 => gO E σ8 9 x0 (cL (xthr 1 some) (xsem xT E d kX11_had [.ref x0, .int x7] σ8) (fun v11 σ9 => sL σ9 v7 x7 (v8 + (v9.toInt64 * (v10 - v11))) (fun σ10 => qX11_unseen_154 E d x0 x6 (x7 + (nI 1)) σ10)))))))))))))))))))))) := xval_blkQ E (xsem xT E d) 0 0 bX11_unseen (pc := 154) rfl [(0, .ref x0), (6, .int x6), (7, .int x7)] [] σ 0 0
set_option maxRecDepth 100000 in
theorem QX11_unseen_244 (E : xEn) (d : Nat) (σ : xH) : qX11_unseen_244 E d σ = some (.inl none, σ) := xval_blkQ E (xsem xT E d) 0 0 bX11_unseen (pc := 244) rfl [] [] σ 0 0
theorem eX11_unseen (E : xEn) (d : Nat) (x0 : Nat) (x1 : Int32) (x2 : Int32) (x3 : Int32) (σ : xH) : xsem xT E (d + 1) kX11_unseen [.ref x0, .int x1, .int x2, .int x3] σ = qX11_unseen_0 E d x0 x1 x2 x3 σ := rfl
noncomputable def qX11_common_0 (E : xEn) (d : Nat) (x0 : Int64) (x2 : Int64) (σ : xH) : Option xR := xval E (xsem xT E d) 0 0 bX11_common (0, [(0, .long x0), (2, .long x2)], [], σ, 0, 0)
noncomputable def qX11_common_6 (E : xEn) (d : Nat) (x4 : Int64) (x6 : Int64) (σ : xH) : Option xR := xval E (xsem xT E d) 0 0 bX11_common (6, [(4, .long x4), (6, .long x6)], [], σ, 0, 0)
noncomputable def qX11_common_31 (E : xEn) (d : Nat) (x4 : Int64) (σ : xH) : Option xR := xval E (xsem xT E d) 0 0 bX11_common (31, [(4, .long x4)], [], σ, 0, 0)
set_option maxRecDepth 100000 in
theorem QX11_common_0 (E : xEn) (d : Nat) (x0 : Int64) (x2 : Int64) (σ : xH) : qX11_common_0 E d x0 x2 σ = qX11_common_6 E d x0 x2 σ := xval_blkQ E (xsem xT E d) 0 0 bX11_common (pc := 0) rfl [(0, .long x0), (2, .long x2)] [] σ 0 0
set_option maxRecDepth 100000 in
theorem QX11_common_6 (E : xEn) (d : Nat) (x4 : Int64) (x6 : Int64) (σ : xH) : qX11_common_6 E d x4 x6 σ = if (lg_cmp x6 (lN 0)) = (nI 0) then qX11_common_31 E d x4 σ else nz (decide (¬ x6 = 0)) (qX11_common_6 E d x6 (x4 - x4 / x6 * x6) σ) := xval_blkQ E (xsem xT E d) 0 0 bX11_common (pc := 6) rfl [(4, .long x4), (6, .long x6)] [] σ 0 0
set_option maxRecDepth 100000 in
theorem QX11_common_31 (E : xEn) (d : Nat) (x4 : Int64) (σ : xH) : qX11_common_31 E d x4 σ = some (.inl (some (.long x4)), σ) := xval_blkQ E (xsem xT E d) 0 0 bX11_common (pc := 31) rfl [(4, .long x4)] [] σ 0 0
theorem eX11_common (E : xEn) (d : Nat) (x0 : Int64) (x2 : Int64) (σ : xH) : xsem xT E (d + 1) kX11_common [.long x0, .long x2] σ = qX11_common_0 E d x0 x2 σ := rfl
noncomputable def qX11_reduces_0 (E : xEn) (d : Nat) (x0 : Nat) (σ : xH) : Option xR := xval E (xsem xT E d) 0 0 bX11_reduces (0, [(0, .ref x0)], [], σ, 0, 0)
noncomputable def qX11_reduces_4 (E : xEn) (d : Nat) (x0 : Nat) (x1 : Int64) (x3 : Int32) (σ : xH) : Option xR := xval E (xsem xT E d) 0 0 bX11_reduces (4, [(0, .ref x0), (1, .long x1), (3, .int x3)], [], σ, 0, 0)
noncomputable def qX11_reduces_29 (E : xEn) (d : Nat) (x0 : Nat) (x1 : Int64) (σ : xH) : Option xR := xval E (xsem xT E d) 0 0 bX11_reduces (29, [(0, .ref x0), (1, .long x1)], [], σ, 0, 0)
noncomputable def qX11_reduces_34 (E : xEn) (d : Nat) (x0 : Nat) (x1 : Int64) (x3 : Int64) (x5 : Int32) (σ : xH) : Option xR := xval E (xsem xT E d) 0 0 bX11_reduces (34, [(0, .ref x0), (1, .long x1), (3, .long x3), (5, .int x5)], [], σ, 0, 0)
noncomputable def qX11_reduces_59 (E : xEn) (d : Nat) (x0 : Nat) (x1 : Int64) (x3 : Int64) (x5 : Int32) (s0 : Nat) (s1 : Int32) (σ : xH) : Option xR := xval E (xsem xT E d) 0 0 bX11_reduces (59, [(0, .ref x0), (1, .long x1), (3, .long x3), (5, .int x5)], [.int s1, .ref s0], σ, 0, 0)
noncomputable def qX11_reduces_68 (E : xEn) (d : Nat) (x0 : Nat) (x1 : Int64) (x3 : Int64) (x5 : Int32) (s0 : Nat) (s1 : Int32) (s2 : Int64) (σ : xH) : Option xR := xval E (xsem xT E d) 0 0 bX11_reduces (68, [(0, .ref x0), (1, .long x1), (3, .long x3), (5, .int x5)], [.long s2, .int s1, .ref s0], σ, 0, 0)
noncomputable def qX11_reduces_87 (E : xEn) (d : Nat) (x0 : Nat) (x3 : Int64) (σ : xH) : Option xR := xval E (xsem xT E d) 0 0 bX11_reduces (87, [(0, .ref x0), (3, .long x3)], [], σ, 0, 0)
noncomputable def qX11_reduces_106 (E : xEn) (d : Nat) (x0 : Nat) (x3 : Int64) (x5 : Int32) (σ : xH) : Option xR := xval E (xsem xT E d) 0 0 bX11_reduces (106, [(0, .ref x0), (3, .long x3), (5, .int x5)], [], σ, 0, 0)
noncomputable def qX11_reduces_141 (E : xEn) (d : Nat) (x0 : Nat) (x3 : Int64) (σ : xH) : Option xR := xval E (xsem xT E d) 0 0 bX11_reduces (141, [(0, .ref x0), (3, .long x3)], [], σ, 0, 0)
noncomputable def qX11_reduces_144 (E : xEn) (d : Nat) (σ : xH) : Option xR := xval E (xsem xT E d) 0 0 bX11_reduces (144, [], [], σ, 0, 0)
set_option maxRecDepth 100000 in
theorem QX11_reduces_0 (E : xEn) (d : Nat) (x0 : Nat) (σ : xH) : qX11_reduces_0 E d x0 σ = qX11_reduces_4 E d x0 (lN 0) (nI 0) σ := xval_blkQ E (xsem xT E d) 0 0 bX11_reduces (pc := 0) rfl [(0, .ref x0)] [] σ 0 0
set_option maxRecDepth 100000 in
theorem QX11_reduces_4 (E : xEn) (d : Nat) (x0 : Nat) (x1 : Int64) (x3 : Int32) (σ : xH) : qX11_reduces_4 E d x0 x1 x3 σ = gO E σ 9 x0 (cI (xthr 1 some) (xsem xT E d kX11_shells [.ref x0] σ) (fun v1 σ1 => if v1 < x3 then qX11_reduces_29 E d x0 x1 σ1 else gR σ1 9 5 x0 (fun v2 => aL σ1 v2 x3 (fun v3 => cL (xthr 0 some) (xsem xT E d kX11_common [.long x1, .long v3] σ1) (fun v4 σ2 => qX11_reduces_4 E d x0 v4 (x3 + (nI 1)) σ2))))) := xval_blkQ E (xsem xT E d) 0 0 bX11_reduces (pc := 4) rfl [(0, .ref x0), (1, .long x1), (3, .int x3)] [] σ 0 0
set_option maxRecDepth 100000 in
theorem QX11_reduces_29 (E : xEn) (d : Nat) (x0 : Nat) (x1 : Int64) (σ : xH) : qX11_reduces_29 E d x0 x1 σ = qX11_reduces_34 E d x0 x1 (lN 0) (nI 0) σ := xval_blkQ E (xsem xT E d) 0 0 bX11_reduces (pc := 29) rfl [(0, .ref x0), (1, .long x1)] [] σ 0 0
set_option maxRecDepth 100000 in
theorem QX11_reduces_34 (E : xEn) (d : Nat) (x0 : Nat) (x1 : Int64) (x3 : Int64) (x5 : Int32) (σ : xH) : qX11_reduces_34 E d x0 x1 x3 x5 σ = gO E σ 9 x0 (cI (xthr 1 some) (xsem xT E d kX11_shells [.ref x0] σ) (fun v1 σ1 => if v1 < x5 then qX11_reduces_87 E d x0 x3 σ1 else gR σ1 9 5 x0 (fun v2 => if (lg_cmp x1 (lN 0)) = (nI 0) then qX11_reduces_68 E d x0 x1 x3 x5 v2 x5 (lN 0) σ1 else qX11_reduces_59 E d x0 x1 x3 x5 v2 x5 σ1))) := xval_blkQ E (xsem xT E d) 0 0 bX11_reduces (pc := 34) rfl [(0, .ref x0), (1, .long x1), (3, .long x3), (5, .int x5)] [] σ 0 0
set_option maxRecDepth 100000 in
theorem QX11_reduces_59 (E : xEn) (d : Nat) (x0 : Nat) (x1 : Int64) (x3 : Int64) (x5 : Int32) (s0 : Nat) (s1 : Int32) (σ : xH) : qX11_reduces_59 E d x0 x1 x3 x5 s0 s1 σ = gR σ 9 5 x0 (fun v1 => aL σ v1 x5 (fun v2 => nz (decide (¬ x1 = 0)) (qX11_reduces_68 E d x0 x1 x3 x5 s0 s1 (v2 / x1) σ))) := xval_blkQ E (xsem xT E d) 0 0 bX11_reduces (pc := 59) rfl [(0, .ref x0), (1, .long x1), (3, .long x3), (5, .int x5)] [.int s1, .ref s0] σ 0 0
set_option maxRecDepth 100000 in
theorem QX11_reduces_68 (E : xEn) (d : Nat) (x0 : Nat) (x1 : Int64) (x3 : Int64) (x5 : Int32) (s0 : Nat) (s1 : Int32) (s2 : Int64) (σ : xH) : qX11_reduces_68 E d x0 x1 x3 x5 s0 s1 s2 σ = sL σ s0 s1 s2 (fun σ1 => gR σ1 9 5 x0 (fun v1 => aL σ1 v1 x5 (fun v2 => qX11_reduces_34 E d x0 x1 (mxL x3 v2) (x5 + (nI 1)) σ1))) := xval_blkQ E (xsem xT E d) 0 0 bX11_reduces (pc := 68) rfl [(0, .ref x0), (1, .long x1), (3, .long x3), (5, .int x5)] [.long s2, .int s1, .ref s0] σ 0 0
set_option maxRecDepth 100000 in
theorem QX11_reduces_87 (E : xEn) (d : Nat) (x0 : Nat) (x3 : Int64) (σ : xH) : qX11_reduces_87 E d x0 x3 σ = if (lg_cmp x3 (lN 1000000)) ≤ (nI 0) then qX11_reduces_144 E d σ else nz (decide (¬ (lN 2) = 0)) (qX11_reduces_106 E d x0 ((x3 + (lN 1)) / (lN 2)) (nI 0) σ) := xval_blkQ E (xsem xT E d) 0 0 bX11_reduces (pc := 87) rfl [(0, .ref x0), (3, .long x3)] [] σ 0 0
set_option maxRecDepth 100000 in
theorem QX11_reduces_106 (E : xEn) (d : Nat) (x0 : Nat) (x3 : Int64) (x5 : Int32) (σ : xH) : qX11_reduces_106 E d x0 x3 x5 σ = gO E σ 9 x0 (cI (xthr 1 some) (xsem xT E d kX11_shells [.ref x0] σ) (fun v1 σ1 => if v1 < x5 then qX11_reduces_141 E d x0 x3 σ1 else gR σ1 9 5 x0 (fun v2 => gR σ1 9 5 x0 (fun v3 => aL σ1 v3 x5 (fun v4 => nz (decide (¬ (lN 2) = 0)) (sL σ1 v2 x5 ((v4 + (lN 1)) / (lN 2)) (fun σ2 => qX11_reduces_106 E d x0 x3 (x5 + (nI 1)) σ2))))))) := xval_blkQ E (xsem xT E d) 0 0 bX11_reduces (pc := 106) rfl [(0, .ref x0), (3, .long x3), (5, .int x5)] [] σ 0 0
set_option maxRecDepth 100000 in
theorem QX11_reduces_141 (E : xEn) (d : Nat) (x0 : Nat) (x3 : Int64) (σ : xH) : qX11_reduces_141 E d x0 x3 σ = qX11_reduces_87 E d x0 x3 σ := xval_blkQ E (xsem xT E d) 0 0 bX11_reduces (pc := 141) rfl [(0, .ref x0), (3, .long x3)] [] σ 0 0
set_option maxRecDepth 100000 in
theorem QX11_reduces_144 (E : xEn) (d : Nat) (σ : xH) : qX11_reduces_144 E d σ = some (.inl none, σ) := xval_blkQ E (xsem xT E d) 0 0 bX11_reduces (pc := 144) rfl [] [] σ 0 0
theorem eX11_reduces (E : xEn) (d : Nat) (x0 : Nat) (σ : xH) : xsem xT E (d + 1) kX11_reduces [.ref x0] σ = qX11_reduces_0 E d x0 σ := rfl
noncomputable def qX11_thinks_0 (E : xEn) (d : Nat) (x0 : Nat) (x1 : Int32) (x2 : Int32) (x3 : Int32) (σ : xH) : Option xR := xval E (xsem xT E d) 0 0 bX11_thinks (0, [(0, .ref x0), (1, .int x1), (2, .int x2), (3, .int x3)], [], σ, 0, 0)
noncomputable def qX11_thinks_3 (E : xEn) (d : Nat) (x0 : Nat) (x1 : Int32) (x2 : Int32) (x3 : Int32) (x4 : Int32) (σ : xH) : Option xR := xval E (xsem xT E d) 0 0 bX11_thinks (3, [(0, .ref x0), (1, .int x1), (2, .int x2), (3, .int x3), (4, .int x4)], [], σ, 0, 0)
noncomputable def qX11_thinks_24 (E : xEn) (d : Nat) (x0 : Nat) (x1 : Int32) (x2 : Int32) (x3 : Int32) (σ : xH) : Option xR := xval E (xsem xT E d) 0 0 bX11_thinks (24, [(0, .ref x0), (1, .int x1), (2, .int x2), (3, .int x3)], [], σ, 0, 0)
noncomputable def qX11_thinks_41 (E : xEn) (d : Nat) (x0 : Nat) (x1 : Int32) (x2 : Int32) (x3 : Int32) (σ : xH) : Option xR := xval E (xsem xT E d) 0 0 bX11_thinks (41, [(0, .ref x0), (1, .int x1), (2, .int x2), (3, .int x3)], [], σ, 0, 0)
noncomputable def qX11_thinks_48 (E : xEn) (d : Nat) (x0 : Nat) (σ : xH) : Option xR := xval E (xsem xT E d) 0 0 bX11_thinks (48, [(0, .ref x0)], [], σ, 0, 0)
set_option maxRecDepth 100000 in
theorem QX11_thinks_0 (E : xEn) (d : Nat) (x0 : Nat) (x1 : Int32) (x2 : Int32) (x3 : Int32) (σ : xH) : qX11_thinks_0 E d x0 x1 x2 x3 σ = qX11_thinks_3 E d x0 x1 x2 x3 (nI 0) σ := xval_blkQ E (xsem xT E d) 0 0 bX11_thinks (pc := 0) rfl [(0, .ref x0), (1, .int x1), (2, .int x2), (3, .int x3)] [] σ 0 0
set_option maxRecDepth 100000 in
theorem QX11_thinks_3 (E : xEn) (d : Nat) (x0 : Nat) (x1 : Int32) (x2 : Int32) (x3 : Int32) (x4 : Int32) (σ : xH) : qX11_thinks_3 E d x0 x1 x2 x3 x4 σ = if (nI 9) ≤ x4 then qX11_thinks_24 E d x0 x1 x2 x3 σ else gR σ 9 5 x0 (fun v1 => sL σ v1 x4 (lN 0) (fun σ1 => qX11_thinks_3 E d x0 x1 x2 x3 (x4 + (nI 1)) σ1)) := xval_blkQ E (xsem xT E d) 0 0 bX11_thinks (pc := 3) rfl [(0, .ref x0), (1, .int x1), (2, .int x2), (3, .int x3), (4, .int x4)] [] σ 0 0
set_option maxRecDepth 100000 in
theorem QX11_thinks_24 (E : xEn) (d : Nat) (x0 : Nat) (x1 : Int32) (x2 : Int32) (x3 : Int32) (σ : xH) : qX11_thinks_24 E d x0 x1 x2 x3 σ = gO E σ 9 x0 (cI (xthr 1 some) (xsem xT E d kX11_blinksNow [.ref x0] σ) (fun v1 σ1 => if v1 = (nI 0) then qX11_thinks_41 E d x0 x1 x2 x3 σ1 else gO E σ1 9 x0 (cV (xthr 1 some) (xsem xT E d kX11_unseen [.ref x0, .int x1, .int x2, .int x3] σ1) (fun σ2 => qX11_thinks_48 E d x0 σ2)))) := xval_blkQ E (xsem xT E d) 0 0 bX11_thinks (pc := 24) rfl [(0, .ref x0), (1, .int x1), (2, .int x2), (3, .int x3)] [] σ 0 0
set_option maxRecDepth 100000 in
theorem QX11_thinks_41 (E : xEn) (d : Nat) (x0 : Nat) (x1 : Int32) (x2 : Int32) (x3 : Int32) (σ : xH) : qX11_thinks_41 E d x0 x1 x2 x3 σ = gO E σ 9 x0 (cV (xthr 1 some) (xsem xT E d kX11_seen [.ref x0, .int x1, .int x2, .int x3] σ) (fun σ1 => qX11_thinks_48 E d x0 σ1)) := xval_blkQ E (xsem xT E d) 0 0 bX11_thinks (pc := 41) rfl [(0, .ref x0), (1, .int x1), (2, .int x2), (3, .int x3)] [] σ 0 0
set_option maxRecDepth 100000 in
theorem QX11_thinks_48 (E : xEn) (d : Nat) (x0 : Nat) (σ : xH) : qX11_thinks_48 E d x0 σ = gO E σ 9 x0 (cV (xthr 1 some) (xsem xT E d kX11_reduces [.ref x0] σ) (fun σ1 => some (.inl none, σ1))) := xval_blkQ E (xsem xT E d) 0 0 bX11_thinks (pc := 48) rfl [(0, .ref x0)] [] σ 0 0
theorem eX11_thinks (E : xEn) (d : Nat) (x0 : Nat) (x1 : Int32) (x2 : Int32) (x3 : Int32) (σ : xH) : xsem xT E (d + 1) kX11_thinks [.ref x0, .int x1, .int x2, .int x3] σ = qX11_thinks_0 E d x0 x1 x2 x3 σ := rfl
noncomputable def qX11_believes_0 (E : xEn) (d : Nat) (x0 : Nat) (σ : xH) : Option xR := xval E (xsem xT E d) 0 0 bX11_believes (0, [(0, .ref x0)], [], σ, 0, 0)
noncomputable def qX11_believes_2 (E : xEn) (d : Nat) (x0 : Nat) (x1 : Int32) (σ : xH) : Option xR := xval E (xsem xT E d) 0 0 bX11_believes (2, [(0, .ref x0), (1, .int x1)], [], σ, 0, 0)
noncomputable def qX11_believes_31 (E : xEn) (d : Nat) (σ : xH) : Option xR := xval E (xsem xT E d) 0 0 bX11_believes (31, [], [], σ, 0, 0)
set_option maxRecDepth 100000 in
theorem QX11_believes_0 (E : xEn) (d : Nat) (x0 : Nat) (σ : xH) : qX11_believes_0 E d x0 σ = qX11_believes_2 E d x0 (nI 0) σ := xval_blkQ E (xsem xT E d) 0 0 bX11_believes (pc := 0) rfl [(0, .ref x0)] [] σ 0 0
set_option maxRecDepth 100000 in
theorem QX11_believes_2 (E : xEn) (d : Nat) (x0 : Nat) (x1 : Int32) (σ : xH) : qX11_believes_2 E d x0 x1 σ = gO E σ 9 x0 (cI (xthr 1 some) (xsem xT E d kX11_shells [.ref x0] σ) (fun v1 σ1 => if v1 < x1 then qX11_believes_31 E d σ1 else gR σ1 9 5 x0 (fun v2 => aL σ1 v2 x1 (fun v3 => gO E σ1 9 x0 (cV (xthr 1 some) (xsem xT E d kX11_put [.ref x0, .int ((nI 36) + x1), .int v3.toInt32] σ1) (fun σ2 => qX11_believes_2 E d x0 (x1 + (nI 1)) σ2)))))) := xval_blkQ E (xsem xT E d) 0 0 bX11_believes (pc := 2) rfl [(0, .ref x0), (1, .int x1)] [] σ 0 0
set_option maxRecDepth 100000 in
theorem QX11_believes_31 (E : xEn) (d : Nat) (σ : xH) : qX11_believes_31 E d σ = some (.inl none, σ) := xval_blkQ E (xsem xT E d) 0 0 bX11_believes (pc := 31) rfl [] [] σ 0 0
theorem eX11_believes (E : xEn) (d : Nat) (x0 : Nat) (σ : xH) : xsem xT E (d + 1) kX11_believes [.ref x0] σ = qX11_believes_0 E d x0 σ := rfl
noncomputable def qX11_sum_0 (E : xEn) (d : Nat) (x0 : Nat) (σ : xH) : Option xR := xval E (xsem xT E d) 0 0 bX11_sum (0, [(0, .ref x0)], [], σ, 0, 0)
noncomputable def qX11_sum_4 (E : xEn) (d : Nat) (x0 : Nat) (x1 : Int64) (x3 : Int32) (σ : xH) : Option xR := xval E (xsem xT E d) 0 0 bX11_sum (4, [(0, .ref x0), (1, .long x1), (3, .int x3)], [], σ, 0, 0)
noncomputable def qX11_sum_26 (E : xEn) (d : Nat) (x1 : Int64) (σ : xH) : Option xR := xval E (xsem xT E d) 0 0 bX11_sum (26, [(1, .long x1)], [], σ, 0, 0)
set_option maxRecDepth 100000 in
theorem QX11_sum_0 (E : xEn) (d : Nat) (x0 : Nat) (σ : xH) : qX11_sum_0 E d x0 σ = qX11_sum_4 E d x0 (lN 0) (nI 0) σ := xval_blkQ E (xsem xT E d) 0 0 bX11_sum (pc := 0) rfl [(0, .ref x0)] [] σ 0 0
set_option maxRecDepth 100000 in
theorem QX11_sum_4 (E : xEn) (d : Nat) (x0 : Nat) (x1 : Int64) (x3 : Int32) (σ : xH) : qX11_sum_4 E d x0 x1 x3 σ = gO E σ 9 x0 (cI (xthr 1 some) (xsem xT E d kX11_shells [.ref x0] σ) (fun v1 σ1 => if v1 < x3 then qX11_sum_26 E d x1 σ1 else gO E σ1 9 x0 (cL (xthr 1 some) (xsem xT E d kX11_had [.ref x0, .int x3] σ1) (fun v2 σ2 => qX11_sum_4 E d x0 (x1 + v2) (x3 + (nI 1)) σ2)))) := xval_blkQ E (xsem xT E d) 0 0 bX11_sum (pc := 4) rfl [(0, .ref x0), (1, .long x1), (3, .int x3)] [] σ 0 0
set_option maxRecDepth 100000 in
theorem QX11_sum_26 (E : xEn) (d : Nat) (x1 : Int64) (σ : xH) : qX11_sum_26 E d x1 σ = some (.inl (some (.long x1)), σ) := xval_blkQ E (xsem xT E d) 0 0 bX11_sum (pc := 26) rfl [(1, .long x1)] [] σ 0 0
theorem eX11_sum (E : xEn) (d : Nat) (x0 : Nat) (σ : xH) : xsem xT E (d + 1) kX11_sum [.ref x0] σ = qX11_sum_0 E d x0 σ := rfl
noncomputable def qX11_ballBehind_0 (E : xEn) (d : Nat) (x0 : Nat) (x1 : Int32) (x2 : Int32) (x3 : Int32) (σ : xH) : Option xR := xval E (xsem xT E d) 0 0 bX11_ballBehind (0, [(0, .ref x0), (1, .int x1), (2, .int x2), (3, .int x3)], [], σ, 0, 0)
noncomputable def qX11_ballBehind_17 (E : xEn) (d : Nat) (x1 : Int32) (x2 : Int32) (x3 : Int32) (x4 : Int32) (σ : xH) : Option xR := xval E (xsem xT E d) 0 0 bX11_ballBehind (17, [(1, .int x1), (2, .int x2), (3, .int x3), (4, .int x4)], [], σ, 0, 0)
noncomputable def qX11_ballBehind_24 (E : xEn) (d : Nat) (x1 : Int32) (x2 : Int32) (x3 : Int32) (x4 : Int32) (σ : xH) : Option xR := xval E (xsem xT E d) 0 0 bX11_ballBehind (24, [(1, .int x1), (2, .int x2), (3, .int x3), (4, .int x4)], [], σ, 0, 0)
noncomputable def qX11_ballBehind_33 (E : xEn) (d : Nat) (x2 : Int32) (x3 : Int32) (x4 : Int32) (σ : xH) : Option xR := xval E (xsem xT E d) 0 0 bX11_ballBehind (33, [(2, .int x2), (3, .int x3), (4, .int x4)], [], σ, 0, 0)
noncomputable def qX11_ballBehind_43 (E : xEn) (d : Nat) (x2 : Int32) (x3 : Int32) (x4 : Int32) (σ : xH) : Option xR := xval E (xsem xT E d) 0 0 bX11_ballBehind (43, [(2, .int x2), (3, .int x3), (4, .int x4)], [], σ, 0, 0)
noncomputable def qX11_ballBehind_53 (E : xEn) (d : Nat) (x4 : Int32) (σ : xH) : Option xR := xval E (xsem xT E d) 0 0 bX11_ballBehind (53, [(4, .int x4)], [], σ, 0, 0)
noncomputable def qX11_ballBehind_55 (E : xEn) (d : Nat) (s0 : Int32) (σ : xH) : Option xR := xval E (xsem xT E d) 0 0 bX11_ballBehind (55, [], [.int s0], σ, 0, 0)
set_option maxRecDepth 100000 in
theorem QX11_ballBehind_0 (E : xEn) (d : Nat) (x0 : Nat) (x1 : Int32) (x2 : Int32) (x3 : Int32) (σ : xH) : qX11_ballBehind_0 E d x0 x1 x2 x3 σ = gO E σ 9 x0 (cI (xthr 1 some) (xsem xT E d kX11_get [.ref x0, .int (nI 1)] σ) (fun v1 σ1 => if x1 = (nI 3) then gO E σ1 9 x0 (cI (xthr 1 some) (xsem xT E d kX11_shells [.ref x0] σ1) (fun v2 σ2 => some (.inl (some (.int v2)), σ2))) else qX11_ballBehind_17 E d x1 x2 x3 v1 σ1)) := xval_blkQ E (xsem xT E d) 0 0 bX11_ballBehind (pc := 0) rfl [(0, .ref x0), (1, .int x1), (2, .int x2), (3, .int x3)] [] σ 0 0
set_option maxRecDepth 100000 in
theorem QX11_ballBehind_17 (E : xEn) (d : Nat) (x1 : Int32) (x2 : Int32) (x3 : Int32) (x4 : Int32) (σ : xH) : qX11_ballBehind_17 E d x1 x2 x3 x4 σ = if x1 = (nI 4) then some (.inl (some (.int x2)), σ) else qX11_ballBehind_24 E d x1 x2 x3 x4 σ := xval_blkQ E (xsem xT E d) 0 0 bX11_ballBehind (pc := 17) rfl [(1, .int x1), (2, .int x2), (3, .int x3), (4, .int x4)] [] σ 0 0
set_option maxRecDepth 100000 in
theorem QX11_ballBehind_24 (E : xEn) (d : Nat) (x1 : Int32) (x2 : Int32) (x3 : Int32) (x4 : Int32) (σ : xH) : qX11_ballBehind_24 E d x1 x2 x3 x4 σ = if x1 = (nI 0) then qX11_ballBehind_33 E d x2 x3 x4 σ else qX11_ballBehind_55 E d x4 σ := xval_blkQ E (xsem xT E d) 0 0 bX11_ballBehind (pc := 24) rfl [(1, .int x1), (2, .int x2), (3, .int x3), (4, .int x4)] [] σ 0 0
set_option maxRecDepth 100000 in
theorem QX11_ballBehind_33 (E : xEn) (d : Nat) (x2 : Int32) (x3 : Int32) (x4 : Int32) (σ : xH) : qX11_ballBehind_33 E d x2 x3 x4 σ = if x4 = x2 then qX11_ballBehind_55 E d x3 σ else qX11_ballBehind_43 E d x2 x3 x4 σ := xval_blkQ E (xsem xT E d) 0 0 bX11_ballBehind (pc := 33) rfl [(2, .int x2), (3, .int x3), (4, .int x4)] [] σ 0 0
set_option maxRecDepth 100000 in
theorem QX11_ballBehind_43 (E : xEn) (d : Nat) (x2 : Int32) (x3 : Int32) (x4 : Int32) (σ : xH) : qX11_ballBehind_43 E d x2 x3 x4 σ = if x4 = x3 then qX11_ballBehind_55 E d x2 σ else qX11_ballBehind_53 E d x4 σ := xval_blkQ E (xsem xT E d) 0 0 bX11_ballBehind (pc := 43) rfl [(2, .int x2), (3, .int x3), (4, .int x4)] [] σ 0 0
set_option maxRecDepth 100000 in
theorem QX11_ballBehind_53 (E : xEn) (d : Nat) (x4 : Int32) (σ : xH) : qX11_ballBehind_53 E d x4 σ = qX11_ballBehind_55 E d x4 σ := xval_blkQ E (xsem xT E d) 0 0 bX11_ballBehind (pc := 53) rfl [(4, .int x4)] [] σ 0 0
set_option maxRecDepth 100000 in
theorem QX11_ballBehind_55 (E : xEn) (d : Nat) (s0 : Int32) (σ : xH) : qX11_ballBehind_55 E d s0 σ = some (.inl (some (.int s0)), σ) := xval_blkQ E (xsem xT E d) 0 0 bX11_ballBehind (pc := 55) rfl [] [.int s0] σ 0 0
theorem eX11_ballBehind (E : xEn) (d : Nat) (x0 : Nat) (x1 : Int32) (x2 : Int32) (x3 : Int32) (σ : xH) : xsem xT E (d + 1) kX11_ballBehind [.ref x0, .int x1, .int x2, .int x3] σ = qX11_ballBehind_0 E d x0 x1 x2 x3 σ := rfl
noncomputable def qX11_steps_0 (E : xEn) (d : Nat) (x0 : Nat) (x1 : Int32) (x2 : Int32) (x3 : Int32) (σ : xH) : Option xR := xval E (xsem xT E d) 0 0 bX11_steps (0, [(0, .ref x0), (1, .int x1), (2, .int x2), (3, .int x3)], [], σ, 0, 0)
noncomputable def qX11_steps_109 (E : xEn) (d : Nat) (x0 : Nat) (x4 : Int32) (σ : xH) : Option xR := xval E (xsem xT E d) 0 0 bX11_steps (109, [(0, .ref x0), (4, .int x4)], [], σ, 0, 0)
noncomputable def qX11_steps_141 (E : xEn) (d : Nat) (x4 : Int32) (s0 : Nat) (s1 : Int32) (s2 : Int32) (σ : xH) : Option xR := xval E (xsem xT E d) 0 0 bX11_steps (141, [(4, .int x4)], [.int s2, .int s1, .ref s0], σ, 0, 0)
noncomputable def qX11_steps_142 (E : xEn) (d : Nat) (x4 : Int32) (s0 : Nat) (s1 : Int32) (s2 : Int32) (s3 : Int32) (σ : xH) : Option xR := xval E (xsem xT E d) 0 0 bX11_steps (142, [(4, .int x4)], [.int s3, .int s2, .int s1, .ref s0], σ, 0, 0)
set_option maxRecDepth 100000 in
theorem QX11_steps_0 (E : xEn) (d : Nat) (x0 : Nat) (x1 : Int32) (x2 : Int32) (x3 : Int32) (σ : xH) : qX11_steps_0 E d x0 x1 x2 x3 σ = gO E σ 9 x0 (cI (xthr 1 some) (xsem xT E d kX11_blinksNow [.ref x0] σ) (fun v1 σ1 => gO E σ1 9 x0 (cV (xthr 1 some) (xsem xT E d kX11_thinks [.ref x0, .int x1, .int x2, .int x3] σ1) (fun σ2 => gO E σ2 9 x0 (cI (xthr 1 some) (xsem xT E d kX11_ballBehind [.ref x0, .int x1, .int x2, .int x3] σ2) (fun v2 σ3 => gO E σ3 9 x0 (cV (xthr 1 some) (xsem xT E d kX11_put [.ref x0, .int (nI 1), .int v2] σ3) (fun σ4 => if x1 = (nI 0) then gO E σ4 9 x0 (cI (xthr 1 some) (xsem xT E d kX11_get [.ref x0, .int ((nI 12) + x2)] σ4) (fun v3 σ5 => gO E σ5 9 x0 (cI (xthr 1 some) (xsem xT E d kX11_get [.ref x0, .int ((nI 12) + x3)] σ5) (fun v4 σ6 => gO E σ6 9 x0 (cV (xthr 1 some) (xsem xT E d kX11_put [.ref x0, .int ((nI 12) + x2), .int v4] σ6) (fun σ7 => gO E σ7 9 x0 (cV (xthr 1 some) (xsem xT E d kX11_put [.ref x0, .int ((nI 12) + x3), .int v3] σ7) (fun σ8 => gO E σ8 9 x0 (cI (xthr 1 some) (xsem xT E d kX11_get [.ref x0, .int ((nI 20) + v3)] σ8) (fun v5 σ9 => gO E σ9 9 x0 (cV (xthr 1 some) (xsem xT E d kX11_put [.ref x0, .int ((nI 20) + v3), .int (v5 + (nI 1))] σ9) (fun σ10 => gO E σ10 9 x0 (cI (xthr 1 some) (xsem xT E d kX11_get [.ref x0, .int ((nI 20) + v4)] σ10) (fun v6 σ11 => gO E σ11 9 x0 (cV (xthr 1 some) (xsem xT E d kX11_put [.ref x0, .int ((nI 20) + v4), .int (v6 + (nI 1))] σ11) (fun σ12 => qX11_steps_109 E d x0 v1 σ12)))))))))))))))) else qX11_steps_109 E d x0 v1 σ4)))))))) := xval_blkQ E (xsem xT E d) 0 0 bX11_steps (pc := 0) rfl [(0, .ref x0), (1, .int x1), (2, .int x2), (3, .int x3)] [] σ 0 0
set_option maxRecDepth 100000 in
theorem QX11_steps_109 (E : xEn) (d : Nat) (x0 : Nat) (x4 : Int32) (σ : xH) : qX11_steps_109 E d x0 x4 σ = gO E σ 9 x0 (cV (xthr 1 some) (xsem xT E d kX11_believes [.ref x0] σ) (fun σ1 => gO E σ1 9 x0 (cI (xthr 1 some) (xsem xT E d kX11_get [.ref x0, .int (nI 2)] σ1) (fun v1 σ2 => gO E σ2 9 x0 (cV (xthr 1 some) (xsem xT E d kX11_put [.ref x0, .int (nI 2), .int (v1 + (nI 1))] σ2) (fun σ3 => gO E σ3 9 x0 (cI (xthr 1 some) (xsem xT E d kX11_get [.ref x0, .int (nI 3)] σ3) (fun v2 σ4 => if x4 = (nI 0) then qX11_steps_141 E d x4 x0 (nI 3) v2 σ4 else qX11_steps_142 E d x4 x0 (nI 3) v2 (nI 1) σ4)))))))) := xval_blkQ E (xsem xT E d) 0 0 bX11_steps (pc := 109) rfl [(0, .ref x0), (4, .int x4)] [] σ 0 0
set_option maxRecDepth 100000 in
theorem QX11_steps_141 (E : xEn) (d : Nat) (x4 : Int32) (s0 : Nat) (s1 : Int32) (s2 : Int32) (σ : xH) : qX11_steps_141 E d x4 s0 s1 s2 σ = qX11_steps_142 E d x4 s0 s1 s2 (nI 0) σ := xval_blkQ E (xsem xT E d) 0 0 bX11_steps (pc := 141) rfl [(4, .int x4)] [.int s2, .int s1, .ref s0] σ 0 0
set_option maxRecDepth 100000 in
theorem QX11_steps_142 (E : xEn) (d : Nat) (x4 : Int32) (s0 : Nat) (s1 : Int32) (s2 : Int32) (s3 : Int32) (σ : xH) : qX11_steps_142 E d x4 s0 s1 s2 s3 σ = gO E σ 9 s0 (cV (xthr 1 some) (xsem xT E d kX11_put [.ref s0, .int s1, .int (s2 + s3)] σ) (fun σ1 => xiret [5] x4 (some (.inl (some (.int x4)), σ1)))) := xval_blkQ E (xsem xT E d) 0 0 bX11_steps (pc := 142) rfl [(4, .int x4)] [.int s3, .int s2, .int s1, .ref s0] σ 0 0
theorem eX11_steps (E : xEn) (d : Nat) (x0 : Nat) (x1 : Int32) (x2 : Int32) (x3 : Int32) (σ : xH) : xsem xT E (d + 1) kX11_steps [.ref x0, .int x1, .int x2, .int x3] σ = qX11_steps_0 E d x0 x1 x2 x3 σ := rfl
noncomputable def qX11_looks_0 (E : xEn) (d : Nat) (x0 : Nat) (x1 : Int32) (σ : xH) : Option xR := xval E (xsem xT E d) 0 0 bX11_looks (0, [(0, .ref x0), (1, .int x1)], [], σ, 0, 0)
noncomputable def qX11_looks_13 (E : xEn) (d : Nat) (x0 : Nat) (x1 : Int32) (σ : xH) : Option xR := xval E (xsem xT E d) 0 0 bX11_looks (13, [(0, .ref x0), (1, .int x1)], [], σ, 0, 0)
noncomputable def qX11_looks_14 (E : xEn) (d : Nat) (x0 : Nat) (x1 : Int32) (s0 : Int32) (σ : xH) : Option xR := xval E (xsem xT E d) 0 0 bX11_looks (14, [(0, .ref x0), (1, .int x1)], [.int s0], σ, 0, 0)
noncomputable def qX11_looks_17 (E : xEn) (d : Nat) (x0 : Nat) (x1 : Int32) (x2 : Int32) (x3 : Int32) (σ : xH) : Option xR := xval E (xsem xT E d) 0 0 bX11_looks (17, [(0, .ref x0), (1, .int x1), (2, .int x2), (3, .int x3)], [], σ, 0, 0)
noncomputable def qX11_looks_43 (E : xEn) (d : Nat) (x0 : Nat) (x1 : Int32) (x2 : Int32) (x3 : Int32) (s0 : Nat) (s1 : Int32) (σ : xH) : Option xR := xval E (xsem xT E d) 0 0 bX11_looks (43, [(0, .ref x0), (1, .int x1), (2, .int x2), (3, .int x3)], [.int s1, .ref s0], σ, 0, 0)
noncomputable def qX11_looks_47 (E : xEn) (d : Nat) (x0 : Nat) (x1 : Int32) (x2 : Int32) (x3 : Int32) (s0 : Nat) (s1 : Int32) (σ : xH) : Option xR := xval E (xsem xT E d) 0 0 bX11_looks (47, [(0, .ref x0), (1, .int x1), (2, .int x2), (3, .int x3)], [.int s1, .ref s0], σ, 0, 0)
noncomputable def qX11_looks_56 (E : xEn) (d : Nat) (x0 : Nat) (x1 : Int32) (x2 : Int32) (x3 : Int32) (s0 : Nat) (s1 : Int32) (σ : xH) : Option xR := xval E (xsem xT E d) 0 0 bX11_looks (56, [(0, .ref x0), (1, .int x1), (2, .int x2), (3, .int x3)], [.int s1, .ref s0], σ, 0, 0)
noncomputable def qX11_looks_61 (E : xEn) (d : Nat) (x0 : Nat) (x1 : Int32) (x2 : Int32) (x3 : Int32) (s0 : Nat) (s1 : Int32) (s2 : Int64) (σ : xH) : Option xR := xval E (xsem xT E d) 0 0 bX11_looks (61, [(0, .ref x0), (1, .int x1), (2, .int x2), (3, .int x3)], [.long s2, .int s1, .ref s0], σ, 0, 0)
noncomputable def qX11_looks_68 (E : xEn) (d : Nat) (x0 : Nat) (x2 : Int32) (σ : xH) : Option xR := xval E (xsem xT E d) 0 0 bX11_looks (68, [(0, .ref x0), (2, .int x2)], [], σ, 0, 0)
noncomputable def qX11_looks_73 (E : xEn) (d : Nat) (x0 : Nat) (x2 : Int32) (x3 : Int64) (x5 : Int32) (σ : xH) : Option xR := xval E (xsem xT E d) 0 0 bX11_looks (73, [(0, .ref x0), (2, .int x2), (3, .long x3), (5, .int x5)], [], σ, 0, 0)
noncomputable def qX11_looks_100 (E : xEn) (d : Nat) (x0 : Nat) (x2 : Int32) (x3 : Int64) (σ : xH) : Option xR := xval E (xsem xT E d) 0 0 bX11_looks (100, [(0, .ref x0), (2, .int x2), (3, .long x3)], [], σ, 0, 0)
noncomputable def qX11_looks_103 (E : xEn) (d : Nat) (x0 : Nat) (x2 : Int32) (x3 : Int64) (x5 : Int32) (σ : xH) : Option xR := xval E (xsem xT E d) 0 0 bX11_looks (103, [(0, .ref x0), (2, .int x2), (3, .long x3), (5, .int x5)], [], σ, 0, 0)
noncomputable def qX11_looks_135 (E : xEn) (d : Nat) (x0 : Nat) (x2 : Int32) (σ : xH) : Option xR := xval E (xsem xT E d) 0 0 bX11_looks (135, [(0, .ref x0), (2, .int x2)], [], σ, 0, 0)
set_option maxRecDepth 100000 in
theorem QX11_looks_0 (E : xEn) (d : Nat) (x0 : Nat) (x1 : Int32) (σ : xH) : qX11_looks_0 E d x0 x1 σ = gO E σ 9 x0 (cI (xthr 1 some) (xsem xT E d kX11_get [.ref x0, .int (nI 1)] σ) (fun v1 σ1 => if v1 = x1 then qX11_looks_14 E d x0 x1 (nI 1) σ1 else qX11_looks_13 E d x0 x1 σ1)) := xval_blkQ E (xsem xT E d) 0 0 bX11_looks (pc := 0) rfl [(0, .ref x0), (1, .int x1)] [] σ 0 0
set_option maxRecDepth 100000 in
theorem QX11_looks_13 (E : xEn) (d : Nat) (x0 : Nat) (x1 : Int32) (σ : xH) : qX11_looks_13 E d x0 x1 σ = qX11_looks_14 E d x0 x1 (nI 0) σ := xval_blkQ E (xsem xT E d) 0 0 bX11_looks (pc := 13) rfl [(0, .ref x0), (1, .int x1)] [] σ 0 0
set_option maxRecDepth 100000 in
theorem QX11_looks_14 (E : xEn) (d : Nat) (x0 : Nat) (x1 : Int32) (s0 : Int32) (σ : xH) : qX11_looks_14 E d x0 x1 s0 σ = qX11_looks_17 E d x0 x1 s0 (nI 0) σ := xval_blkQ E (xsem xT E d) 0 0 bX11_looks (pc := 14) rfl [(0, .ref x0), (1, .int x1)] [.int s0] σ 0 0
set_option maxRecDepth 100000 in
theorem QX11_looks_17 (E : xEn) (d : Nat) (x0 : Nat) (x1 : Int32) (x2 : Int32) (x3 : Int32) (σ : xH) : qX11_looks_17 E d x0 x1 x2 x3 σ = gO E σ 9 x0 (cI (xthr 1 some) (xsem xT E d kX11_shells [.ref x0] σ) (fun v1 σ1 => if v1 < x3 then qX11_looks_68 E d x0 x2 σ1 else gR σ1 9 5 x0 (fun v2 => if x2 = (nI 0) then qX11_looks_47 E d x0 x1 x2 x3 v2 x3 σ1 else if x3 = x1 then qX11_looks_61 E d x0 x1 x2 x3 v2 x3 (lN 1) σ1 else qX11_looks_43 E d x0 x1 x2 x3 v2 x3 σ1))) := xval_blkQ E (xsem xT E d) 0 0 bX11_looks (pc := 17) rfl [(0, .ref x0), (1, .int x1), (2, .int x2), (3, .int x3)] [] σ 0 0
set_option maxRecDepth 100000 in
theorem QX11_looks_43 (E : xEn) (d : Nat) (x0 : Nat) (x1 : Int32) (x2 : Int32) (x3 : Int32) (s0 : Nat) (s1 : Int32) (σ : xH) : qX11_looks_43 E d x0 x1 x2 x3 s0 s1 σ = qX11_looks_61 E d x0 x1 x2 x3 s0 s1 (lN 0) σ := xval_blkQ E (xsem xT E d) 0 0 bX11_looks (pc := 43) rfl [(0, .ref x0), (1, .int x1), (2, .int x2), (3, .int x3)] [.int s1, .ref s0] σ 0 0
set_option maxRecDepth 100000 in
theorem QX11_looks_47 (E : xEn) (d : Nat) (x0 : Nat) (x1 : Int32) (x2 : Int32) (x3 : Int32) (s0 : Nat) (s1 : Int32) (σ : xH) : qX11_looks_47 E d x0 x1 x2 x3 s0 s1 σ = if x3 = x1 then qX11_looks_61 E d x0 x1 x2 x3 s0 s1 (lN 0) σ else qX11_looks_56 E d x0 x1 x2 x3 s0 s1 σ := xval_blkQ E (xsem xT E d) 0 0 bX11_looks (pc := 47) rfl [(0, .ref x0), (1, .int x1), (2, .int x2), (3, .int x3)] [.int s1, .ref s0] σ 0 0
set_option maxRecDepth 100000 in
theorem QX11_looks_56 (E : xEn) (d : Nat) (x0 : Nat) (x1 : Int32) (x2 : Int32) (x3 : Int32) (s0 : Nat) (s1 : Int32) (σ : xH) : qX11_looks_56 E d x0 x1 x2 x3 s0 s1 σ = gO E σ 9 x0 (cL (xthr 1 some) (xsem xT E d kX11_had [.ref x0, .int x3] σ) (fun v1 σ1 => qX11_looks_61 E d x0 x1 x2 x3 s0 s1 v1 σ1)) := xval_blkQ E (xsem xT E d) 0 0 bX11_looks (pc := 56) rfl [(0, .ref x0), (1, .int x1), (2, .int x2), (3, .int x3)] [.int s1, .ref s0] σ 0 0
set_option maxRecDepth 100000 in
theorem QX11_looks_61 (E : xEn) (d : Nat) (x0 : Nat) (x1 : Int32) (x2 : Int32) (x3 : Int32) (s0 : Nat) (s1 : Int32) (s2 : Int64) (σ : xH) : qX11_looks_61 E d x0 x1 x2 x3 s0 s1 s2 σ = sL σ s0 s1 s2 (fun σ1 => qX11_looks_17 E d x0 x1 x2 (x3 + (nI 1)) σ1) := xval_blkQ E (xsem xT E d) 0 0 bX11_looks (pc := 61) rfl [(0, .ref x0), (1, .int x1), (2, .int x2), (3, .int x3)] [.long s2, .int s1, .ref s0] σ 0 0
set_option maxRecDepth 100000 in
theorem QX11_looks_68 (E : xEn) (d : Nat) (x0 : Nat) (x2 : Int32) (σ : xH) : qX11_looks_68 E d x0 x2 σ = qX11_looks_73 E d x0 x2 (lN 0) (nI 0) σ := xval_blkQ E (xsem xT E d) 0 0 bX11_looks (pc := 68) rfl [(0, .ref x0), (2, .int x2)] [] σ 0 0
set_option maxRecDepth 100000 in
theorem QX11_looks_73 (E : xEn) (d : Nat) (x0 : Nat) (x2 : Int32) (x3 : Int64) (x5 : Int32) (σ : xH) : qX11_looks_73 E d x0 x2 x3 x5 σ = gO E σ 9 x0 (cI (xthr 1 some) (xsem xT E d kX11_shells [.ref x0] σ) (fun v1 σ1 => if v1 < x5 then qX11_looks_100 E d x0 x2 x3 σ1 else gR σ1 9 5 x0 (fun v2 => aL σ1 v2 x5 (fun v3 => cL (xthr 0 some) (xsem xT E d kX11_common [.long x3, .long v3] σ1) (fun v4 σ2 => qX11_looks_73 E d x0 x2 v4 (x5 + (nI 1)) σ2))))) := xval_blkQ E (xsem xT E d) 0 0 bX11_looks (pc := 73) rfl [(0, .ref x0), (2, .int x2), (3, .long x3), (5, .int x5)] [] σ 0 0
set_option maxRecDepth 100000 in
theorem QX11_looks_100 (E : xEn) (d : Nat) (x0 : Nat) (x2 : Int32) (x3 : Int64) (σ : xH) : qX11_looks_100 E d x0 x2 x3 σ = qX11_looks_103 E d x0 x2 x3 (nI 0) σ := xval_blkQ E (xsem xT E d) 0 0 bX11_looks (pc := 100) rfl [(0, .ref x0), (2, .int x2), (3, .long x3)] [] σ 0 0
set_option maxRecDepth 100000 in
theorem QX11_looks_103 (E : xEn) (d : Nat) (x0 : Nat) (x2 : Int32) (x3 : Int64) (x5 : Int32) (σ : xH) : qX11_looks_103 E d x0 x2 x3 x5 σ = gO E σ 9 x0 (cI (xthr 1 some) (xsem xT E d kX11_shells [.ref x0] σ) (fun v1 σ1 => if v1 < x5 then qX11_looks_135 E d x0 x2 σ1 else if (lg_cmp x3 (lN 0)) ≤ (nI 0) then qX11_looks_135 E d x0 x2 σ1 else gR σ1 9 5 x0 (fun v2 => aL σ1 v2 x5 (fun v3 => nz (decide (¬ x3 = 0)) (sL σ1 v2 x5 (v3 / x3) (fun σ2 => qX11_looks_103 E d x0 x2 x3 (x5 + (nI 1)) σ2)))))) := xval_blkQ E (xsem xT E d) 0 0 bX11_looks (pc := 103) rfl [(0, .ref x0), (2, .int x2), (3, .long x3), (5, .int x5)] [] σ 0 0
set_option maxRecDepth 100000 in
theorem QX11_looks_135 (E : xEn) (d : Nat) (x0 : Nat) (x2 : Int32) (σ : xH) : qX11_looks_135 E d x0 x2 σ = gO E σ 9 x0 (cV (xthr 1 some) (xsem xT E d kX11_believes [.ref x0] σ) (fun σ1 => xiret [5] x2 (some (.inl (some (.int x2)), σ1)))) := xval_blkQ E (xsem xT E d) 0 0 bX11_looks (pc := 135) rfl [(0, .ref x0), (2, .int x2)] [] σ 0 0
theorem eX11_looks (E : xEn) (d : Nat) (x0 : Nat) (x1 : Int32) (σ : xH) : xsem xT E (d + 1) kX11_looks [.ref x0, .int x1] σ = qX11_looks_0 E d x0 x1 σ := rfl
noncomputable def qX11_canSteal_0 (E : xEn) (d : Nat) (x0 : Nat) (x1 : Int32) (σ : xH) : Option xR := xval E (xsem xT E d) 0 0 bX11_canSteal (0, [(0, .ref x0), (1, .int x1)], [], σ, 0, 0)
noncomputable def qX11_canSteal_29 (E : xEn) (d : Nat) (σ : xH) : Option xR := xval E (xsem xT E d) 0 0 bX11_canSteal (29, [], [], σ, 0, 0)
noncomputable def qX11_canSteal_30 (E : xEn) (d : Nat) (s0 : Int32) (σ : xH) : Option xR := xval E (xsem xT E d) 0 0 bX11_canSteal (30, [], [.int s0], σ, 0, 0)
set_option maxRecDepth 100000 in
theorem QX11_canSteal_0 (E : xEn) (d : Nat) (x0 : Nat) (x1 : Int32) (σ : xH) : qX11_canSteal_0 E d x0 x1 σ = gO E σ 9 x0 (cI (xthr 1 some) (xsem xT E d kX11_blinksNow [.ref x0] σ) (fun v1 σ1 => if v1 = (nI 0) then qX11_canSteal_29 E d σ1 else gO E σ1 9 x0 (cI (xthr 1 some) (xsem xT E d kX11_get [.ref x0, .int (nI 6)] σ1) (fun v2 σ2 => if v2 ≤ (nI 0) then qX11_canSteal_29 E d σ2 else gO E σ2 9 x0 (cI (xthr 1 some) (xsem xT E d kX11_get [.ref x0, .int (nI 1)] σ2) (fun v3 σ3 => if v3 = x1 then qX11_canSteal_30 E d (nI 1) σ3 else qX11_canSteal_29 E d σ3)))))) := xval_blkQ E (xsem xT E d) 0 0 bX11_canSteal (pc := 0) rfl [(0, .ref x0), (1, .int x1)] [] σ 0 0
set_option maxRecDepth 100000 in
theorem QX11_canSteal_29 (E : xEn) (d : Nat) (σ : xH) : qX11_canSteal_29 E d σ = qX11_canSteal_30 E d (nI 0) σ := xval_blkQ E (xsem xT E d) 0 0 bX11_canSteal (pc := 29) rfl [] [] σ 0 0
set_option maxRecDepth 100000 in
theorem QX11_canSteal_30 (E : xEn) (d : Nat) (s0 : Int32) (σ : xH) : qX11_canSteal_30 E d s0 σ = xiret [5] s0 (some (.inl (some (.int s0)), σ)) := xval_blkQ E (xsem xT E d) 0 0 bX11_canSteal (pc := 30) rfl [] [.int s0] σ 0 0
theorem eX11_canSteal (E : xEn) (d : Nat) (x0 : Nat) (x1 : Int32) (σ : xH) : xsem xT E (d + 1) kX11_canSteal [.ref x0, .int x1] σ = qX11_canSteal_0 E d x0 x1 σ := rfl
noncomputable def qX11_canPlant_0 (E : xEn) (d : Nat) (x0 : Nat) (σ : xH) : Option xR := xval E (xsem xT E d) 0 0 bX11_canPlant (0, [(0, .ref x0)], [], σ, 0, 0)
noncomputable def qX11_canPlant_32 (E : xEn) (d : Nat) (σ : xH) : Option xR := xval E (xsem xT E d) 0 0 bX11_canPlant (32, [], [], σ, 0, 0)
noncomputable def qX11_canPlant_33 (E : xEn) (d : Nat) (s0 : Int32) (σ : xH) : Option xR := xval E (xsem xT E d) 0 0 bX11_canPlant (33, [], [.int s0], σ, 0, 0)
set_option maxRecDepth 100000 in
theorem QX11_canPlant_0 (E : xEn) (d : Nat) (x0 : Nat) (σ : xH) : qX11_canPlant_0 E d x0 σ = gO E σ 9 x0 (cI (xthr 1 some) (xsem xT E d kX11_blinksNow [.ref x0] σ) (fun v1 σ1 => if v1 = (nI 0) then qX11_canPlant_32 E d σ1 else gO E σ1 9 x0 (cI (xthr 1 some) (xsem xT E d kX11_get [.ref x0, .int (nI 6)] σ1) (fun v2 σ2 => if v2 ≤ (nI 0) then qX11_canPlant_32 E d σ2 else gO E σ2 9 x0 (cI (xthr 1 some) (xsem xT E d kX11_get [.ref x0, .int (nI 1)] σ2) (fun v3 σ3 => gO E σ3 9 x0 (cI (xthr 1 some) (xsem xT E d kX11_shells [.ref x0] σ3) (fun v4 σ4 => if v3 = v4 then qX11_canPlant_33 E d (nI 1) σ4 else qX11_canPlant_32 E d σ4)))))))) := xval_blkQ E (xsem xT E d) 0 0 bX11_canPlant (pc := 0) rfl [(0, .ref x0)] [] σ 0 0
set_option maxRecDepth 100000 in
theorem QX11_canPlant_32 (E : xEn) (d : Nat) (σ : xH) : qX11_canPlant_32 E d σ = qX11_canPlant_33 E d (nI 0) σ := xval_blkQ E (xsem xT E d) 0 0 bX11_canPlant (pc := 32) rfl [] [] σ 0 0
set_option maxRecDepth 100000 in
theorem QX11_canPlant_33 (E : xEn) (d : Nat) (s0 : Int32) (σ : xH) : qX11_canPlant_33 E d s0 σ = xiret [5] s0 (some (.inl (some (.int s0)), σ)) := xval_blkQ E (xsem xT E d) 0 0 bX11_canPlant (pc := 33) rfl [] [.int s0] σ 0 0
theorem eX11_canPlant (E : xEn) (d : Nat) (x0 : Nat) (σ : xH) : xsem xT E (d + 1) kX11_canPlant [.ref x0] σ = qX11_canPlant_0 E d x0 σ := rfl
noncomputable def qX11_factOf_0 (E : xEn) (d : Nat) (x0 : Nat) (x1 : Int32) (x2 : Int32) (σ : xH) : Option xR := xval E (xsem xT E d) 0 0 bX11_factOf (0, [(0, .ref x0), (1, .int x1), (2, .int x2)], [], σ, 0, 0)
noncomputable def qX11_factOf_28 (E : xEn) (d : Nat) (x0 : Nat) (σ : xH) : Option xR := xval E (xsem xT E d) 0 0 bX11_factOf (28, [(0, .ref x0)], [], σ, 0, 0)
noncomputable def qX11_factOf_34 (E : xEn) (d : Nat) (x0 : Nat) (σ : xH) : Option xR := xval E (xsem xT E d) 0 0 bX11_factOf (34, [(0, .ref x0)], [], σ, 0, 0)
noncomputable def qX11_factOf_41 (E : xEn) (d : Nat) (x0 : Nat) (σ : xH) : Option xR := xval E (xsem xT E d) 0 0 bX11_factOf (41, [(0, .ref x0)], [], σ, 0, 0)
noncomputable def qX11_factOf_48 (E : xEn) (d : Nat) (x0 : Nat) (x2 : Int32) (σ : xH) : Option xR := xval E (xsem xT E d) 0 0 bX11_factOf (48, [(0, .ref x0), (2, .int x2)], [], σ, 0, 0)
set_option maxRecDepth 100000 in
theorem QX11_factOf_0 (E : xEn) (d : Nat) (x0 : Nat) (x1 : Int32) (x2 : Int32) (σ : xH) : qX11_factOf_0 E d x0 x1 x2 σ = if x1 = (nI 0) then qX11_factOf_28 E d x0 σ else if x1 = (nI 1) then qX11_factOf_34 E d x0 σ else if x1 = (nI 2) then qX11_factOf_41 E d x0 σ else qX11_factOf_48 E d x0 x2 σ := xval_blkQ E (xsem xT E d) 0 0 bX11_factOf (pc := 0) rfl [(0, .ref x0), (1, .int x1), (2, .int x2)] [] σ 0 0
set_option maxRecDepth 100000 in
theorem QX11_factOf_28 (E : xEn) (d : Nat) (x0 : Nat) (σ : xH) : qX11_factOf_28 E d x0 σ = gO E σ 9 x0 (cI (xthr 1 some) (xsem xT E d kX11_shells [.ref x0] σ) (fun v1 σ1 => some (.inl (some (.long v1.toInt64)), σ1))) := xval_blkQ E (xsem xT E d) 0 0 bX11_factOf (pc := 28) rfl [(0, .ref x0)] [] σ 0 0
set_option maxRecDepth 100000 in
theorem QX11_factOf_34 (E : xEn) (d : Nat) (x0 : Nat) (σ : xH) : qX11_factOf_34 E d x0 σ = gO E σ 9 x0 (cI (xthr 1 some) (xsem xT E d kX11_get [.ref x0, .int (nI 2)] σ) (fun v1 σ1 => some (.inl (some (.long v1.toInt64)), σ1))) := xval_blkQ E (xsem xT E d) 0 0 bX11_factOf (pc := 34) rfl [(0, .ref x0)] [] σ 0 0
set_option maxRecDepth 100000 in
theorem QX11_factOf_41 (E : xEn) (d : Nat) (x0 : Nat) (σ : xH) : qX11_factOf_41 E d x0 σ = gO E σ 9 x0 (cI (xthr 1 some) (xsem xT E d kX11_get [.ref x0, .int (nI 3)] σ) (fun v1 σ1 => some (.inl (some (.long v1.toInt64)), σ1))) := xval_blkQ E (xsem xT E d) 0 0 bX11_factOf (pc := 41) rfl [(0, .ref x0)] [] σ 0 0
set_option maxRecDepth 100000 in
theorem QX11_factOf_48 (E : xEn) (d : Nat) (x0 : Nat) (x2 : Int32) (σ : xH) : qX11_factOf_48 E d x0 x2 σ = gO E σ 9 x0 (cL (xthr 1 some) (xsem xT E d kX11_had [.ref x0, .int x2] σ) (fun v1 σ1 => gO E σ1 9 x0 (cL (xthr 1 some) (xsem xT E d kX11_sum [.ref x0] σ1) (fun v2 σ2 => nz (decide (¬ v2 = 0)) (some (.inl (some (.long ((v1 * (lN 100)) / v2))), σ2)))))) := xval_blkQ E (xsem xT E d) 0 0 bX11_factOf (pc := 48) rfl [(0, .ref x0), (2, .int x2)] [] σ 0 0
theorem eX11_factOf (E : xEn) (d : Nat) (x0 : Nat) (x1 : Int32) (x2 : Int32) (σ : xH) : xsem xT E (d + 1) kX11_factOf [.ref x0, .int x1, .int x2] σ = qX11_factOf_0 E d x0 x1 x2 σ := rfl
noncomputable def qX11_oddsOf_0 (E : xEn) (d : Nat) (x0 : Nat) (x1 : Int32) (σ : xH) : Option xR := xval E (xsem xT E d) 0 0 bX11_oddsOf (0, [(0, .ref x0), (1, .int x1)], [], σ, 0, 0)
noncomputable def qX11_oddsOf_16 (E : xEn) (d : Nat) (x0 : Nat) (x1 : Int32) (σ : xH) : Option xR := xval E (xsem xT E d) 0 0 bX11_oddsOf (16, [(0, .ref x0), (1, .int x1)], [], σ, 0, 0)
noncomputable def qX11_oddsOf_20 (E : xEn) (d : Nat) (x0 : Nat) (x1 : Int32) (x2 : Int32) (x3 : Int32) (σ : xH) : Option xR := xval E (xsem xT E d) 0 0 bX11_oddsOf (20, [(0, .ref x0), (1, .int x1), (2, .int x2), (3, .int x3)], [], σ, 0, 0)
noncomputable def qX11_oddsOf_78 (E : xEn) (d : Nat) (x0 : Nat) (x1 : Int32) (x2 : Int32) (x3 : Int32) (x5 : Int32) (s0 : Nat) (s1 : Int32) (σ : xH) : Option xR := xval E (xsem xT E d) 0 0 bX11_oddsOf (78, [(0, .ref x0), (1, .int x1), (2, .int x2), (3, .int x3), (5, .int x5)], [.int s1, .ref s0], σ, 0, 0)
noncomputable def qX11_oddsOf_85 (E : xEn) (d : Nat) (x0 : Nat) (x1 : Int32) (x2 : Int32) (x3 : Int32) (s0 : Nat) (s1 : Int32) (s2 : Int64) (σ : xH) : Option xR := xval E (xsem xT E d) 0 0 bX11_oddsOf (85, [(0, .ref x0), (1, .int x1), (2, .int x2), (3, .int x3)], [.long s2, .int s1, .ref s0], σ, 0, 0)
noncomputable def qX11_oddsOf_92 (E : xEn) (d : Nat) (x0 : Nat) (x1 : Int32) (x2 : Int32) (x3 : Int32) (x4 : Int32) (σ : xH) : Option xR := xval E (xsem xT E d) 0 0 bX11_oddsOf (92, [(0, .ref x0), (1, .int x1), (2, .int x2), (3, .int x3), (4, .int x4)], [], σ, 0, 0)
noncomputable def qX11_oddsOf_127 (E : xEn) (d : Nat) (x0 : Nat) (x1 : Int32) (x2 : Int32) (x3 : Int32) (x4 : Int32) (x6 : Int64) (x8 : Int64) (σ : xH) : Option xR := xval E (xsem xT E d) 0 0 bX11_oddsOf (127, [(0, .ref x0), (1, .int x1), (2, .int x2), (3, .int x3), (4, .int x4), (6, .long x6), (8, .long x8)], [], σ, 0, 0)
noncomputable def qX11_oddsOf_141 (E : xEn) (d : Nat) (x0 : Nat) (x1 : Int32) (x2 : Int32) (x3 : Int32) (x4 : Int32) (x6 : Int64) (x8 : Int64) (σ : xH) : Option xR := xval E (xsem xT E d) 0 0 bX11_oddsOf (141, [(0, .ref x0), (1, .int x1), (2, .int x2), (3, .int x3), (4, .int x4), (6, .long x6), (8, .long x8)], [], σ, 0, 0)
noncomputable def qX11_oddsOf_155 (E : xEn) (d : Nat) (x0 : Nat) (x1 : Int32) (x2 : Int32) (x3 : Int32) (x6 : Int64) (x8 : Int64) (σ : xH) : Option xR := xval E (xsem xT E d) 0 0 bX11_oddsOf (155, [(0, .ref x0), (1, .int x1), (2, .int x2), (3, .int x3), (6, .long x6), (8, .long x8)], [], σ, 0, 0)
noncomputable def qX11_oddsOf_166 (E : xEn) (d : Nat) (x0 : Nat) (x1 : Int32) (x2 : Int32) (x3 : Int32) (x6 : Int64) (x8 : Int64) (σ : xH) : Option xR := xval E (xsem xT E d) 0 0 bX11_oddsOf (166, [(0, .ref x0), (1, .int x1), (2, .int x2), (3, .int x3), (6, .long x6), (8, .long x8)], [], σ, 0, 0)
noncomputable def qX11_oddsOf_171 (E : xEn) (d : Nat) (x0 : Nat) (x1 : Int32) (x2 : Int32) (x3 : Int32) (s0 : Int64) (σ : xH) : Option xR := xval E (xsem xT E d) 0 0 bX11_oddsOf (171, [(0, .ref x0), (1, .int x1), (2, .int x2), (3, .int x3)], [.long s0], σ, 0, 0)
noncomputable def qX11_oddsOf_195 (E : xEn) (d : Nat) (x0 : Nat) (x1 : Int32) (x2 : Int32) (x3 : Int32) (x10 : Int64) (s0 : Nat) (s1 : Int32) (σ : xH) : Option xR := xval E (xsem xT E d) 0 0 bX11_oddsOf (195, [(0, .ref x0), (1, .int x1), (2, .int x2), (3, .int x3), (10, .long x10)], [.int s1, .ref s0], σ, 0, 0)
noncomputable def qX11_oddsOf_210 (E : xEn) (d : Nat) (x0 : Nat) (x1 : Int32) (x2 : Int32) (x3 : Int32) (x10 : Int64) (s0 : Nat) (s1 : Int32) (σ : xH) : Option xR := xval E (xsem xT E d) 0 0 bX11_oddsOf (210, [(0, .ref x0), (1, .int x1), (2, .int x2), (3, .int x3), (10, .long x10)], [.int s1, .ref s0], σ, 0, 0)
noncomputable def qX11_oddsOf_212 (E : xEn) (d : Nat) (x0 : Nat) (x1 : Int32) (x2 : Int32) (x3 : Int32) (s0 : Nat) (s1 : Int32) (s2 : Int64) (σ : xH) : Option xR := xval E (xsem xT E d) 0 0 bX11_oddsOf (212, [(0, .ref x0), (1, .int x1), (2, .int x2), (3, .int x3)], [.long s2, .int s1, .ref s0], σ, 0, 0)
noncomputable def qX11_oddsOf_213 (E : xEn) (d : Nat) (x0 : Nat) (x1 : Int32) (x2 : Int32) (x3 : Int32) (σ : xH) : Option xR := xval E (xsem xT E d) 0 0 bX11_oddsOf (213, [(0, .ref x0), (1, .int x1), (2, .int x2), (3, .int x3)], [], σ, 0, 0)
noncomputable def qX11_oddsOf_219 (E : xEn) (d : Nat) (x0 : Nat) (σ : xH) : Option xR := xval E (xsem xT E d) 0 0 bX11_oddsOf (219, [(0, .ref x0)], [], σ, 0, 0)
noncomputable def qX11_oddsOf_234 (E : xEn) (d : Nat) (x0 : Nat) (σ : xH) : Option xR := xval E (xsem xT E d) 0 0 bX11_oddsOf (234, [(0, .ref x0)], [], σ, 0, 0)
noncomputable def qX11_oddsOf_252 (E : xEn) (d : Nat) (x0 : Nat) (σ : xH) : Option xR := xval E (xsem xT E d) 0 0 bX11_oddsOf (252, [(0, .ref x0)], [], σ, 0, 0)
noncomputable def qX11_oddsOf_259 (E : xEn) (d : Nat) (s0 : Int32) (σ : xH) : Option xR := xval E (xsem xT E d) 0 0 bX11_oddsOf (259, [], [.int s0], σ, 0, 0)
set_option maxRecDepth 100000 in
theorem QX11_oddsOf_0 (E : xEn) (d : Nat) (x0 : Nat) (x1 : Int32) (σ : xH) : qX11_oddsOf_0 E d x0 x1 σ = gO E σ 9 x0 (cI (xthr 1 some) (xsem xT E d kX11_get [.ref x0, .int (nI 11)] σ) (fun v1 σ1 => if v1 = (nI 0) then gO E σ1 9 x0 (cI (xthr 1 some) (xsem xT E d kX11_shells [.ref x0] σ1) (fun v2 σ2 => some (.inl (some (.int (v2 - (nI 1)))), σ2))) else qX11_oddsOf_16 E d x0 x1 σ1)) := xval_blkQ E (xsem xT E d) 0 0 bX11_oddsOf (pc := 0) rfl [(0, .ref x0), (1, .int x1)] [] σ 0 0
set_option maxRecDepth 100000 in
theorem QX11_oddsOf_16 (E : xEn) (d : Nat) (x0 : Nat) (x1 : Int32) (σ : xH) : qX11_oddsOf_16 E d x0 x1 σ = qX11_oddsOf_20 E d x0 x1 (nI 0) (nI 0) σ := xval_blkQ E (xsem xT E d) 0 0 bX11_oddsOf (pc := 16) rfl [(0, .ref x0), (1, .int x1)] [] σ 0 0
set_option maxRecDepth 100000 in
theorem QX11_oddsOf_20 (E : xEn) (d : Nat) (x0 : Nat) (x1 : Int32) (x2 : Int32) (x3 : Int32) (σ : xH) : qX11_oddsOf_20 E d x0 x1 x2 x3 σ = gO E σ 9 x0 (cI (xthr 1 some) (xsem xT E d kX11_get [.ref x0, .int (nI 11)] σ) (fun v1 σ1 => if v1 ≤ x3 then qX11_oddsOf_219 E d x0 σ1 else gO E σ1 9 x0 (cI (xthr 1 some) (xsem xT E d kX11_get [.ref x0, .int ((nI 61) + ((nI 2) * x3))] σ1) (fun v2 σ2 => gO E σ2 9 x0 (cI (xthr 1 some) (xsem xT E d kX11_get [.ref x0, .int (((nI 61) + ((nI 2) * x3)) + (nI 1))] σ2) (fun v3 σ3 => if (nI 1) < v2 then qX11_oddsOf_92 E d x0 x1 x2 x3 v2 σ3 else gR σ3 9 6 x0 (fun v4 => if v2 = (nI 0) then qX11_oddsOf_85 E d x0 x1 x2 x3 v4 x2 v3.toInt64 σ3 else qX11_oddsOf_78 E d x0 x1 x2 x3 v3 v4 x2 σ3))))))) := xval_blkQ E (xsem xT E d) 0 0 bX11_oddsOf (pc := 20) rfl [(0, .ref x0), (1, .int x1), (2, .int x2), (3, .int x3)] [] σ 0 0
set_option maxRecDepth 100000 in
theorem QX11_oddsOf_78 (E : xEn) (d : Nat) (x0 : Nat) (x1 : Int32) (x2 : Int32) (x3 : Int32) (x5 : Int32) (s0 : Nat) (s1 : Int32) (σ : xH) : qX11_oddsOf_78 E d x0 x1 x2 x3 x5 s0 s1 σ = gO E σ 9 x0 (cL (xthr 1 some) (xsem xT E d kX11_factOf [.ref x0, .int x5, .int x1] σ) (fun v1 σ1 => qX11_oddsOf_85 E d x0 x1 x2 x3 s0 s1 v1 σ1)) := xval_blkQ E (xsem xT E d) 0 0 bX11_oddsOf (pc := 78) rfl [(0, .ref x0), (1, .int x1), (2, .int x2), (3, .int x3), (5, .int x5)] [.int s1, .ref s0] σ 0 0
set_option maxRecDepth 100000 in
theorem QX11_oddsOf_85 (E : xEn) (d : Nat) (x0 : Nat) (x1 : Int32) (x2 : Int32) (x3 : Int32) (s0 : Nat) (s1 : Int32) (s2 : Int64) (σ : xH) : qX11_oddsOf_85 E d x0 x1 x2 x3 s0 s1 s2 σ = sL σ s0 s1 s2 (fun σ1 => qX11_oddsOf_213 E d x0 x1 (x2 + (nI 1)) x3 σ1) := xval_blkQ E (xsem xT E d) 0 0 bX11_oddsOf (pc := 85) rfl [(0, .ref x0), (1, .int x1), (2, .int x2), (3, .int x3)] [.long s2, .int s1, .ref s0] σ 0 0
set_option maxRecDepth 100000 in
theorem QX11_oddsOf_92 (E : xEn) (d : Nat) (x0 : Nat) (x1 : Int32) (x2 : Int32) (x3 : Int32) (x4 : Int32) (σ : xH) : qX11_oddsOf_92 E d x0 x1 x2 x3 x4 σ = gR σ 9 6 x0 (fun v1 => aL σ v1 (x2 + (-1 : Int32)) (fun v2 => gR σ 9 6 x0 (fun v3 => aL σ v3 ((x2 + (-1 : Int32)) - (nI 1)) (fun v4 => if x4 = (nI 2) then qX11_oddsOf_171 E d x0 x1 (x2 + (-1 : Int32)) x3 (v4 + v2) σ else qX11_oddsOf_127 E d x0 x1 (x2 + (-1 : Int32)) x3 x4 v2 v4 σ)))) := xval_blkQ E (xsem xT E d) 0 0 bX11_oddsOf (pc := 92) rfl [(0, .ref x0), (1, .int x1), (2, .int x2), (3, .int x3), (4, .int x4)] [] σ 0 0
set_option maxRecDepth 100000 in
theorem QX11_oddsOf_127 (E : xEn) (d : Nat) (x0 : Nat) (x1 : Int32) (x2 : Int32) (x3 : Int32) (x4 : Int32) (x6 : Int64) (x8 : Int64) (σ : xH) : qX11_oddsOf_127 E d x0 x1 x2 x3 x4 x6 x8 σ = if x4 = (nI 3) then qX11_oddsOf_171 E d x0 x1 x2 x3 (x8 - x6) σ else qX11_oddsOf_141 E d x0 x1 x2 x3 x4 x6 x8 σ := xval_blkQ E (xsem xT E d) 0 0 bX11_oddsOf (pc := 127) rfl [(0, .ref x0), (1, .int x1), (2, .int x2), (3, .int x3), (4, .int x4), (6, .long x6), (8, .long x8)] [] σ 0 0
set_option maxRecDepth 100000 in
theorem QX11_oddsOf_141 (E : xEn) (d : Nat) (x0 : Nat) (x1 : Int32) (x2 : Int32) (x3 : Int32) (x4 : Int32) (x6 : Int64) (x8 : Int64) (σ : xH) : qX11_oddsOf_141 E d x0 x1 x2 x3 x4 x6 x8 σ = if x4 = (nI 4) then qX11_oddsOf_171 E d x0 x1 x2 x3 (x8 * x6) σ else qX11_oddsOf_155 E d x0 x1 x2 x3 x6 x8 σ := xval_blkQ E (xsem xT E d) 0 0 bX11_oddsOf (pc := 141) rfl [(0, .ref x0), (1, .int x1), (2, .int x2), (3, .int x3), (4, .int x4), (6, .long x6), (8, .long x8)] [] σ 0 0
set_option maxRecDepth 100000 in
theorem QX11_oddsOf_155 (E : xEn) (d : Nat) (x0 : Nat) (x1 : Int32) (x2 : Int32) (x3 : Int32) (x6 : Int64) (x8 : Int64) (σ : xH) : qX11_oddsOf_155 E d x0 x1 x2 x3 x6 x8 σ = if (lg_cmp x6 (lN 0)) = (nI 0) then qX11_oddsOf_171 E d x0 x1 x2 x3 (lN 0) σ else qX11_oddsOf_166 E d x0 x1 x2 x3 x6 x8 σ := xval_blkQ E (xsem xT E d) 0 0 bX11_oddsOf (pc := 155) rfl [(0, .ref x0), (1, .int x1), (2, .int x2), (3, .int x3), (6, .long x6), (8, .long x8)] [] σ 0 0
set_option maxRecDepth 100000 in
theorem QX11_oddsOf_166 (E : xEn) (d : Nat) (x0 : Nat) (x1 : Int32) (x2 : Int32) (x3 : Int32) (x6 : Int64) (x8 : Int64) (σ : xH) : qX11_oddsOf_166 E d x0 x1 x2 x3 x6 x8 σ = nz (decide (¬ x6 = 0)) (qX11_oddsOf_171 E d x0 x1 x2 x3 (x8 / x6) σ) := xval_blkQ E (xsem xT E d) 0 0 bX11_oddsOf (pc := 166) rfl [(0, .ref x0), (1, .int x1), (2, .int x2), (3, .int x3), (6, .long x6), (8, .long x8)] [] σ 0 0
set_option maxRecDepth 100000 in
theorem QX11_oddsOf_171 (E : xEn) (d : Nat) (x0 : Nat) (x1 : Int32) (x2 : Int32) (x3 : Int32) (s0 : Int64) (σ : xH) : qX11_oddsOf_171 E d x0 x1 x2 x3 s0 σ = gR σ 9 6 x0 (fun v1 => if (lg_cmp s0 (lN 1000000)) ≤ (nI 0) then qX11_oddsOf_195 E d x0 x1 x2 x3 s0 v1 (x2 - (nI 1)) σ else qX11_oddsOf_212 E d x0 x1 x2 x3 v1 (x2 - (nI 1)) (lN 1000000) σ) := xval_blkQ E (xsem xT E d) 0 0 bX11_oddsOf (pc := 171) rfl [(0, .ref x0), (1, .int x1), (2, .int x2), (3, .int x3)] [.long s0] σ 0 0
set_option maxRecDepth 100000 in
theorem QX11_oddsOf_195 (E : xEn) (d : Nat) (x0 : Nat) (x1 : Int32) (x2 : Int32) (x3 : Int32) (x10 : Int64) (s0 : Nat) (s1 : Int32) (σ : xH) : qX11_oddsOf_195 E d x0 x1 x2 x3 x10 s0 s1 σ = if (nI 0) ≤ (lg_cmp x10 (-1000000 : Int64)) then qX11_oddsOf_210 E d x0 x1 x2 x3 x10 s0 s1 σ else qX11_oddsOf_212 E d x0 x1 x2 x3 s0 s1 (-1000000 : Int64) σ := xval_blkQ E (xsem xT E d) 0 0 bX11_oddsOf (pc := 195) rfl [(0, .ref x0), (1, .int x1), (2, .int x2), (3, .int x3), (10, .long x10)] [.int s1, .ref s0] σ 0 0
set_option maxRecDepth 100000 in
theorem QX11_oddsOf_210 (E : xEn) (d : Nat) (x0 : Nat) (x1 : Int32) (x2 : Int32) (x3 : Int32) (x10 : Int64) (s0 : Nat) (s1 : Int32) (σ : xH) : qX11_oddsOf_210 E d x0 x1 x2 x3 x10 s0 s1 σ = qX11_oddsOf_212 E d x0 x1 x2 x3 s0 s1 x10 σ := xval_blkQ E (xsem xT E d) 0 0 bX11_oddsOf (pc := 210) rfl [(0, .ref x0), (1, .int x1), (2, .int x2), (3, .int x3), (10, .long x10)] [.int s1, .ref s0] σ 0 0
set_option maxRecDepth 100000 in
theorem QX11_oddsOf_212 (E : xEn) (d : Nat) (x0 : Nat) (x1 : Int32) (x2 : Int32) (x3 : Int32) (s0 : Nat) (s1 : Int32) (s2 : Int64) (σ : xH) : qX11_oddsOf_212 E d x0 x1 x2 x3 s0 s1 s2 σ = sL σ s0 s1 s2 (fun σ1 => qX11_oddsOf_213 E d x0 x1 x2 x3 σ1) := xval_blkQ E (xsem xT E d) 0 0 bX11_oddsOf (pc := 212) rfl [(0, .ref x0), (1, .int x1), (2, .int x2), (3, .int x3)] [.long s2, .int s1, .ref s0] σ 0 0
set_option maxRecDepth 100000 in
theorem QX11_oddsOf_213 (E : xEn) (d : Nat) (x0 : Nat) (x1 : Int32) (x2 : Int32) (x3 : Int32) (σ : xH) : qX11_oddsOf_213 E d x0 x1 x2 x3 σ = qX11_oddsOf_20 E d x0 x1 x2 (x3 + (nI 1)) σ := xval_blkQ E (xsem xT E d) 0 0 bX11_oddsOf (pc := 213) rfl [(0, .ref x0), (1, .int x1), (2, .int x2), (3, .int x3)] [] σ 0 0
set_option maxRecDepth 100000 in
theorem QX11_oddsOf_219 (E : xEn) (d : Nat) (x0 : Nat) (σ : xH) : qX11_oddsOf_219 E d x0 σ = gR σ 9 6 x0 (fun v1 => aL σ v1 (nI 0) (fun v2 => if (nI 0) ≤ (lg_cmp v2 (lN 0)) then qX11_oddsOf_234 E d x0 σ else qX11_oddsOf_259 E d (nI 0) σ)) := xval_blkQ E (xsem xT E d) 0 0 bX11_oddsOf (pc := 219) rfl [(0, .ref x0)] [] σ 0 0
set_option maxRecDepth 100000 in
theorem QX11_oddsOf_234 (E : xEn) (d : Nat) (x0 : Nat) (σ : xH) : qX11_oddsOf_234 E d x0 σ = gR σ 9 6 x0 (fun v1 => aL σ v1 (nI 0) (fun v2 => if (lg_cmp v2 (lN 9)) ≤ (nI 0) then qX11_oddsOf_252 E d x0 σ else qX11_oddsOf_259 E d (nI 9) σ)) := xval_blkQ E (xsem xT E d) 0 0 bX11_oddsOf (pc := 234) rfl [(0, .ref x0)] [] σ 0 0
set_option maxRecDepth 100000 in
theorem QX11_oddsOf_252 (E : xEn) (d : Nat) (x0 : Nat) (σ : xH) : qX11_oddsOf_252 E d x0 σ = gR σ 9 6 x0 (fun v1 => aL σ v1 (nI 0) (fun v2 => qX11_oddsOf_259 E d v2.toInt32 σ)) := xval_blkQ E (xsem xT E d) 0 0 bX11_oddsOf (pc := 252) rfl [(0, .ref x0)] [] σ 0 0
set_option maxRecDepth 100000 in
theorem QX11_oddsOf_259 (E : xEn) (d : Nat) (s0 : Int32) (σ : xH) : qX11_oddsOf_259 E d s0 σ = some (.inl (some (.int s0)), σ) := xval_blkQ E (xsem xT E d) 0 0 bX11_oddsOf (pc := 259) rfl [] [.int s0] σ 0 0
theorem eX11_oddsOf (E : xEn) (d : Nat) (x0 : Nat) (x1 : Int32) (σ : xH) : xsem xT E (d + 1) kX11_oddsOf [.ref x0, .int x1] σ = qX11_oddsOf_0 E d x0 x1 σ := rfl
noncomputable def qX11_append_0 (E : xEn) (d : Nat) (x0 : Nat) (x1 : Int32) (x2 : Int32) (x3 : Int32) (x4 : Int32) (x5 : Int32) (σ : xH) : Option xR := xval E (xsem xT E d) 0 0 bX11_append (0, [(0, .ref x0), (1, .int x1), (2, .int x2), (3, .int x3), (4, .int x4), (5, .int x5)], [], σ, 0, 0)
noncomputable def qX11_append_20 (E : xEn) (d : Nat) (x0 : Nat) (x1 : Int32) (x2 : Int32) (x3 : Int32) (x4 : Int32) (x5 : Int32) (σ : xH) : Option xR := xval E (xsem xT E d) 0 0 bX11_append (20, [(0, .ref x0), (1, .int x1), (2, .int x2), (3, .int x3), (4, .int x4), (5, .int x5)], [], σ, 0, 0)
set_option maxRecDepth 100000 in
theorem QX11_append_0 (E : xEn) (d : Nat) (x0 : Nat) (x1 : Int32) (x2 : Int32) (x3 : Int32) (x4 : Int32) (x5 : Int32) (σ : xH) : qX11_append_0 E d x0 x1 x2 x3 x4 x5 σ = gP σ 9 0 x0 (.int (nI 0)) (fun σ1 => gI σ1 9 8 x0 (fun v1 => if (v1 + (nI 20)) ≤ (nI 500) then qX11_append_20 E d x0 x1 x2 x3 x4 x5 σ1 else some (.inl (some (.int (-1 : Int32))), σ1))) := xval_blkQ E (xsem xT E d) 0 0 bX11_append (pc := 0) rfl [(0, .ref x0), (1, .int x1), (2, .int x2), (3, .int x3), (4, .int x4), (5, .int x5)] [] σ 0 0
set_option maxRecDepth 100000 in
theorem QX11_append_20 (E : xEn) (d : Nat) (x0 : Nat) (x1 : Int32) (x2 : Int32) (x3 : Int32) (x4 : Int32) (x5 : Int32) (σ : xH) : qX11_append_20 E d x0 x1 x2 x3 x4 x5 σ = gO E σ 9 x0 (cV (xthr 1 some) (xsem xT E d kX11_four [.ref x0, .int x1] σ) (fun σ1 => gO E σ1 9 x0 (cV (xthr 1 some) (xsem xT E d kX11_four [.ref x0, .int x2] σ1) (fun σ2 => gO E σ2 9 x0 (cV (xthr 1 some) (xsem xT E d kX11_four [.ref x0, .int x3] σ2) (fun σ3 => gO E σ3 9 x0 (cV (xthr 1 some) (xsem xT E d kX11_four [.ref x0, .int x4] σ3) (fun σ4 => gO E σ4 9 x0 (cV (xthr 1 some) (xsem xT E d kX11_four [.ref x0, .int x5] σ4) (fun σ5 => gI σ5 9 8 x0 (fun v1 => some (.inl (some (.int v1)), σ5)))))))))))) := xval_blkQ E (xsem xT E d) 0 0 bX11_append (pc := 20) rfl [(0, .ref x0), (1, .int x1), (2, .int x2), (3, .int x3), (4, .int x4), (5, .int x5)] [] σ 0 0
theorem eX11_append (E : xEn) (d : Nat) (x0 : Nat) (x1 : Int32) (x2 : Int32) (x3 : Int32) (x4 : Int32) (x5 : Int32) (σ : xH) : xsem xT E (d + 1) kX11_append [.ref x0, .int x1, .int x2, .int x3, .int x4, .int x5] σ = qX11_append_0 E d x0 x1 x2 x3 x4 x5 σ := rfl
end
