/-! WHAT A PROGRAM CHECKS of an instruction: that it is what the bytes decode to, and that 'info' is what the pool and the tables say. -/
def xlen : Instr → Nat
  | .bipush _ => 2
  | .sipush _ => 3
  | .ldc _ => 2
  | .ldc_w _ => 3
  | .ldc2_w _ => 3
  | .iload _ => 2
  | .lload _ => 2
  | .dload _ => 2
  | .aload _ => 2
  | .istore _ => 2
  | .lstore _ => 2
  | .dstore _ => 2
  | .astore _ => 2
  | .iinc _ _ => 3
  | .ifCond _ _ => 3
  | .if_icmp _ _ => 3
  | .if_acmp _ _ => 3
  | .goto _ => 3
  | .getfield _ => 3
  | .putfield _ => 3
  | .getstatic _ => 3
  | .new _ => 3
  | .newarray _ => 2
  | .anewarray _ => 3
  | .invokespecial _ => 3
  | .invokevirtual _ => 3
  | .invokestatic _ => 3
  | .checkcast _ => 3
  | .ifnonnull _ => 3
  | _ => 1
abbrev xPool : Type := List (Nat × Nat × List Nat)
abbrev xLds : Type := List (String × Nat × String × Nat)
/-- an entry of a class's pool: kinds 0 field, 1 static, 2 call, 3 new, 4 row of references, 6 a Token's text and a String's fields, 7 a throw -/
def xokQ (own : String) (Mt : Nat → Option xMth) (q : Nat × Nat × List Nat) : Bool := match q with
  | (0, idx, [ci, k, _, n]) => xokF own idx ci k n
  | (6, idx, [77]) => decide (Cond.fieldLinkNest own idx RX8 "text" "Ljava/lang/String;" "ShellWatch" ∈ lw_tbl)
  | (6, idx, [78]) => decide (Cond.fieldLink own idx RJ0 "value" "[B" ∈ xWs)
  | (6, idx, [79]) => decide (Cond.fieldLink own idx RJ0 "coder" "B" ∈ xWs)
  | (1, idx, [0, i]) => decide (Cond.fieldLink own idx RX8 (xtn i) "LShellWatch$Token;" ∈ xWs)
  | (1, idx, [1]) => decide (Cond.fieldLinkNest own idx RX8 "ALL" "[LShellWatch$Token;" "ShellWatch" ∈ lw_tbl)
  | (1, idx, [2]) => decide (Cond.fieldLink own idx RJ0 "COMPACT_STRINGS" "Z" ∈ xWs)
  | (1, idx, [4]) => decide (Cond.fieldLink own idx RJ6 "DigitOnes" "[B" ∈ xWs)
  | (1, idx, [5]) => decide (Cond.fieldLink own idx RJ6 "DigitTens" "[B" ∈ xWs)
  | (1, idx, [6]) => decide (Cond.fieldLink own idx RJx4a65c "DEFAULTCAPACITY_EMPTY_ELEMENTDATA" "[Ljava/lang/Object;" ∈ xWs)
  | (1, idx, [3]) => decide (Cond.fieldLink own idx RJ3 "SIOOBE_FORMATTER" "Ljava/util/function/BiFunction;" ∈ xWs)
  | (2, idx, [kd, key, n, _, mc, ms, ci]) => match Mt key with
    | some M => xokC own kd idx n ci M && (Nat.beq M.2.2.2.2.1 mc && Nat.beq M.2.2.2.2.2 ms)
    | none => false
  | (3, idx, [0, ci, n]) => match vwCl[ci]? with
    | some r => decide (Cond.classLink own idx r.1 ∈ xWs) && (decide (Cond.instantiable r.1 r.2.2 ∈ xWs) && (decide (Cond.initialized r.1 ∈ xWs) && Nat.beq r.2.2 n))
    | none => false
  | (4, idx, [4]) => decide (Cond.classLink own idx "ShellWatch$Token" ∈ xWs)
  | (4, idx, [5]) => decide (Cond.classLink own idx "ShellWatch$Game" ∈ xWs)
  | (4, idx, [6]) => decide (Cond.classLink own idx "java/lang/Object" ∈ xWs)
  | (8, idx, [ci]) => match vwCl[ci]? with
    | some r => decide (Cond.classLink own idx r.1 ∈ xWs)
    | none => false
  | _ => false
def xnm (e : Nat) : List String := match e with
  | 3 => ["java/lang/RuntimeException", "java/lang/Exception"]
  | _ => ["java/lang/RuntimeException", "java/lang/Exception"]
/-- which index the class's constructor calls its parent by, and its bytes -/
def xix (e : Nat) : Nat := match e with
  | 3 => 13
  | _ => 7
def xrx (e : Nat) : ByteArray := match e with
  | 3 => ⟨#[0x2a, 0x2b, 0xb7, 0x00, 0x0d, 0xb1]⟩
  | _ => ⟨#[0x2a, 0x2b, 0xb7, 0x00, 0x07, 0xb1]⟩
theorem xrx_ok (e : Nat) : decode (xrx e) 0 = .ok (.aload_n 0, 1) ∧ decode (xrx e) 1 = .ok (.aload_n 1, 1) ∧ decode (xrx e) 2 = .ok (.invokespecial (xix e), 3) ∧ decode (xrx e) 5 = .ok (.return_, 1) := by
  unfold xrx xix
  split
  · decide +kernel
  · decide +kernel
/-- of a throw: the class, its text, its constructor, by their places in the pool -/
def xokT (own : String) (cc : ByteArray) (exs : List (String × Nat × String)) (pc idx e is ic : Nat) : Bool :=
  Bundle.fit (xexc e) && ((xnm e).all Bundle.fit && (decide (Cond.classLink own idx (xexc e) ∈ xWs) && (decide (Cond.initialized (xexc e) ∈ xWs) && ((vx_atX own ic (xexc e) (xix e) (xrx e) (xnm e)).all (fun w => decide (w ∈ lw_tbl) && (goodWord w || xnest w)) && (exs.any (fun q => decide (q.1 = own) && Nat.beq q.2.1 is) &&
  (decide (decode cc (pc + 3) = .ok (.dup, 1)) && ((decide (decode cc (pc + 4) = .ok (.ldc is, 2)) && (decide (decode cc (pc + 6) = .ok (.invokespecial ic, 3)) && decide (decode cc (pc + 9) = .ok (.athrow, 1)))) || (decide (decode cc (pc + 4) = .ok (.ldc_w is, 3)) && (decide (decode cc (pc + 7) = .ok (.invokespecial ic, 3)) && decide (decode cc (pc + 10) = .ok (.athrow, 1)))))))))))
def xtgt (pc : Nat) (off : Int) (info : List Nat) : Bool := match info with
  | [t] => decide ((pc : Int) + off = (t : Int))
  | _ => false
def xtab (pc : Nat) (offs : Array Int) : Nat → List Nat → Bool
  | _, [] => true
  | j, t :: ts => (match offs[j]? with
    | some off => decide ((pc : Int) + off = (t : Int))
    | none => false) && xtab pc offs (j + 1) ts
def xspecP (own : String) (idx k : Nat) : Bool := match k with
  | 0 => decide (Cond.methodLink own idx Lib.Math.max.name ∈ xWs) && (decide (Cond.static Lib.Math.max.name ∈ xWs) && (decide (Cond.initialized "java/lang/Math" ∈ xWs) && decide (Cond.code Lib.Math.max.name Lib.Math.max.code 2 (some .int) ∈ xWs)))
  | 1 => decide (Cond.methodLink own idx Lib.Math.min.name ∈ xWs) && (decide (Cond.static Lib.Math.min.name ∈ xWs) && (decide (Cond.initialized "java/lang/Math" ∈ xWs) && decide (Cond.code Lib.Math.min.name Lib.Math.min.code 2 (some .int) ∈ xWs)))
  | 2 => decide (Cond.methodLink own idx Lib.MathLoose.max_long.x ∈ xWs) && (decide (Cond.static Lib.MathLoose.max_long.x ∈ xWs) && (decide (Cond.initialized "java/lang/Math" ∈ xWs) && decide (Cond.code Lib.MathLoose.max_long.x Lib.MathLoose.max_long.code 4 (some .long) ∈ xWs)))
  | 3 => decide (Cond.methodLink own idx Lib.MathLoose.min_long.x ∈ xWs) && (decide (Cond.static Lib.MathLoose.min_long.x ∈ xWs) && (decide (Cond.initialized "java/lang/Math" ∈ xWs) && decide (Cond.code Lib.MathLoose.min_long.x Lib.MathLoose.min_long.code 4 (some .long) ∈ xWs)))
  | 6 => decide (Cond.methodLink own idx arraycopyName ∈ xWs) && (decide (Cond.native arraycopyName ∈ xWs) && (decide (Cond.static arraycopyName ∈ xWs) && decide (Cond.initialized "java/lang/System" ∈ xWs)))
  | _ => false
def xisr (ret : Option FieldType) : Bool := match ret with
  | some (.object _) => true
  | some (.array _) => true
  | _ => false
theorem xisr_ok {ret : Option FieldType} (h : xisr ret = true) : ∃ rt, ret = some rt ∧ ((∃ n, rt = .object n) ∨ ∃ t, rt = .array t) := by
  unfold xisr at h
  split at h
  · exact ⟨_, rfl, Or.inl ⟨_, rfl⟩⟩
  · exact ⟨_, rfl, Or.inr ⟨_, rfl⟩⟩
  · cases h
def xspec (own : String) (ini : Bool) (cc : ByteArray) (nL : Nat) (ret : Option FieldType) (PO : xPool) (lds : xLds) (exs : List (String × Nat × String)) (pc : Nat) (ins : Instr) (info : List Nat) : Bool := match ins with
  | .istore i => Nat.blt i nL
  | .istore_n i => Nat.blt i nL
  | .astore i => Nat.blt i nL
  | .astore_n i => Nat.blt i nL
  | .iinc i _ => Nat.blt i nL
  | .lstore i => Nat.blt (i + 1) nL
  | .lstore_n i => Nat.blt (i + 1) nL
  | .dstore i => Nat.blt (i + 1) nL
  | .ifCond _ off => xtgt pc off info
  | .if_icmp _ off => xtgt pc off info
  | .if_acmp _ off => xtgt pc off info
  | .goto off => xtgt pc off info
  | .ifnonnull off => xtgt pc off info
  | .tableswitch dflt lo hi offs => match info with
    | d :: l0 :: ts => decide (lo = (l0 : Int)) && (decide (hi = (l0 : Int) + ts.length - 1) && (decide ((pc : Int) + dflt = (d : Int)) && (xtab pc offs 0 ts && Nat.ble (l0 + ts.length) 100000)))
    | _ => false
  | .getfield idx => decide ((0, idx, info) ∈ PO) || decide ((6, idx, info) ∈ PO)
  | .putfield idx => decide ((0, idx, info) ∈ PO) && match info with
    | [ci, k, t, n] => xokP own ci k t n && (!(Nat.beq n 2) || ini)
    | _ => false
  | .getstatic idx => decide ((1, idx, info) ∈ PO)
  | .new idx => match info with
    | [1, e, is, ic] => xokT own cc exs pc idx e is ic
    | _ => decide ((3, idx, info) ∈ PO)
  | .newarray a => match info with
    | [k] => Nat.blt k 3 && (decide (newarray.typeOf a = xkty k) && decide (Cond.arrayClass (xkty k) ∈ xWs))
    | _ => false
  | .anewarray idx => decide ((4, idx, info) ∈ PO)
  | .checkcast idx => decide ((8, idx, info) ∈ PO)
  | .ldc idx => match info with
    | [0, k] => decide (Cond.constant own idx (nI k) ∈ xWs)
    | [1, k] => decide (Cond.constant own idx (- nI k) ∈ xWs)
    | [2, i] => lds.any (fun q => decide (q.1 = own) && (Nat.beq q.2.1 idx && Nat.beq q.2.2.2 i))
    | _ => false
  | .ldc_w idx => match info with
    | [0, k] => decide (Cond.constant own idx (nI k) ∈ xWs)
    | [1, k] => decide (Cond.constant own idx (- nI k) ∈ xWs)
    | [2, i] => lds.any (fun q => decide (q.1 = own) && (Nat.beq q.2.1 idx && Nat.beq q.2.2.2 i))
    | _ => false
  | .ldc2_w idx => match info with
    | [0, k] => decide (Cond.constantLong own idx (lN k) ∈ xWs)
    | [1, k] => decide (Cond.constantLong own idx (- lN k) ∈ xWs)
    | _ => false
  | .lconst _ => true
  | .dconst d => decide (d = 0)
  | .fconst f => (decide (info = [0]) && decide (f = 0)) || (decide (info = [1]) && decide (f = 1))
  | .invokespecial idx => match info with
    | [_] => decide (Cond.methodLink own idx objectInit ∈ xWs) && (decide (Cond.instanceMethod objectInit ∈ xWs) && decide (Cond.code objectInit ⟨#[0xb1]⟩ 1 none ∈ xWs))
    | kd :: _ => decide ((2, idx, info) ∈ PO) && (Nat.beq kd 2 || (Nat.beq kd 4 || Nat.beq kd 7))
    | _ => false
  | .invokevirtual idx => match info with
    | [_, _] => false
    | kd :: _ => decide ((2, idx, info) ∈ PO) && (Nat.beq kd 1 || (Nat.beq kd 3 || (Nat.beq kd 5 || (Nat.beq kd 6 || Nat.beq kd 9))))
    | _ => false
  | .invokestatic idx => match info with
    | [_, k] => xspecP own idx k
    | kd :: _ => decide ((2, idx, info) ∈ PO) && (Nat.beq kd 0 || (Nat.beq kd 8 || Nat.beq kd 10))
    | _ => false
  | .ireturn => match info with
    | [t] => decide (ret = some (xty t))
    | _ => false
  | .lreturn => decide (ret = some .long)
  | .freturn => decide (ret = some .float)
  | .dreturn => decide (ret = some .double)
  | .areturn => xisr ret
  | .return_ => decide (ret = none)
  | _ => true
def xokI (own : String) (ini : Bool) (cc : ByteArray) (nL : Nat) (ret : Option FieldType) (PO : xPool) (lds : xLds) (exs : List (String × Nat × String)) (i : xI) (np : Nat) : Bool :=
  decide (decode cc i.1 = .ok (i.2.1, np - i.1)) && (Nat.ble i.1 np && ((match i.2.1 with
    | .tableswitch .. => true
    | ins => Nat.beq (np - i.1) (xlen ins)) && xspec own ini cc nL ret PO lds exs i.1 i.2.1 i.2.2))
/-- the instructions of a block, one behind another, up to ep -/
def xokB (own : String) (ini : Bool) (cc : ByteArray) (nL : Nat) (ret : Option FieldType) (PO : xPool) (lds : xLds) (exs : List (String × Nat × String)) (ep : Nat) : Nat → List xI → Bool
  | pc, [] => Nat.beq pc ep
  | pc, [i] => Nat.beq pc i.1 && xokI own ini cc nL ret PO lds exs i ep
  | pc, i :: j :: r => Nat.beq pc i.1 && (xokI own ini cc nL ret PO lds exs i j.1 && xokB own ini cc nL ret PO lds exs ep j.1 (j :: r))
