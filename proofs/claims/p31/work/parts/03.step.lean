/-! ONE INSTRUCTION. 'info' is what the constant pool says of it (checked against the pool elsewhere):
branches [target]; getfield, putfield [class, field, 0 int 1 long 2 ref 5 boolean, 0 own 1 nest mate 2 final in a constructor]; text of a Token [77]; getstatic [token, or 29 for ALL];
calls [0, prim] or [kind, key, how many arguments, answer, cells, slots, class + 1 or 0 (static)]; new [0, class, fields] or [1, exception]; newarray, anewarray [kind]; ldc [0, c], [1, minus c], [2, string]; returns [0] or [5] (boolean). -/
def xexc : Nat → String
  | 0 => "java/lang/IllegalArgumentException"
  | 1 => "java/lang/IndexOutOfBoundsException"
  | 2 => "java/lang/IllegalStateException"
  | _ => "java/util/NoSuchElementException"
def xcat (st : List Value) : Nat := (st.map fun v => v.category).sum
/-- the fields of a new object: by the types of its fields -/
def xdv : FieldType → Value
  | .long => .long 0
  | .float => .float 0
  | .double => .double 0
  | .object _ => .null
  | .array _ => .null
  | _ => .int 0
def xtyp (ci : Nat) : Nat → FieldType := match ci with
  | 0 => tyX0
  | 1 => tyX1
  | 2 => tyX2
  | 3 => tyX3
  | 4 => tyX4
  | 5 => tyX5
  | 6 => tyX6
  | 7 => tyX9
  | 8 => tyX10
  | 9 => tyX11
  | 10 => tyX12
  | 11 => tyJ0
  | 12 => tyJ4
  | _ => tyJx4a65c
def xdef (ci n : Nat) : List Value := (List.range n).map fun k => xdv (xtyp ci k)
def xarr (k : Nat) : (Nat → Int32) ⊕ (Nat → Int64) ⊕ (Nat → UInt32) ⊕ (Nat → UInt64) ⊕ (Nat → Option Nat) := match k with
  | 2 => .inr (.inl fun _ => 0)
  | 3 => .inr (.inr (.inr (.inl fun _ => 0)))
  | _ => .inl fun _ => 0
section STEP
variable {ρ : Type}
def xfld (σ : xH) (info : List Nat) (a : Nat) (k : Value → Option ρ) : Option ρ := match info with
  | [ci, i, 0, _] => gI σ ci i a (fun x => k (.int x))
  | [ci, i, 5, _] => gI σ ci i a (fun x => k (.int x))
  | [ci, i, 6, _] => gI σ ci i a (fun x => k (.int x))
  | [ci, i, 1, _] => gL σ ci i a (fun x => k (.long x))
  | [ci, i, 2, _] => gR σ ci i a (fun x => k (.ref x))
  | _ => none
def xput (σ : xH) (info : List Nat) (a : Nat) (v : Value) (k : xH → Option ρ) : Option ρ := match info, v with
  | [ci, i, 0, _], .int x => gP σ ci i a (.int x) k
  | [ci, i, 5, _], .int x => if narrow .boolean (.int x) = .int x then gP σ ci i a (.int x) k else none
  | [ci, i, 6, _], .int x => if narrow .byte (.int x) = .int x then gP σ ci i a (.int x) k else none
  | [ci, i, 1, _], .long x => gP σ ci i a (.long x) k
  | [ci, i, 2, _], .ref x => gP σ ci i a (.ref x) k
  | _, _ => none
def xans (T : xR → Option ρ) (tag : Nat) (r : Option xR) (k : List Value → xH → Option ρ) : Option ρ := match tag with
  | 0 => cI T r (fun x σ => k [.int x] σ)
  | 1 => cL T r (fun x σ => k [.long x] σ)
  | 2 => cA T r (fun x σ => k [.ref x] σ)
  | 3 => cF T r (fun x σ => k [.float x] σ)
  | 4 => cD T r (fun x σ => k [.double x] σ)
  | 9 => cV T r (fun σ => k [] σ)
  | _ => none
/-- of the calls only kind 5 may come back by a throw -/
def xthr (k : Nat) (T : xR → Option ρ) (r : xR) : Option ρ := bif Nat.beq k 5 then T r else none
/-- a call of a method of the table: the stack is cut, the receiver's class looked at, the room booked; kinds: 0 static, 1 virtual, 2 constructor, 3 virtual of a nest mate, 4 constructor of a nest mate, 5 virtual that may throw -/
def xcall (E : xEn) (call : Nat → List Value → xH → Option xR) (MC MS : Nat) (T : xR → Option ρ) (info : List Nat) (st : List Value) (σ : xH) (bc bs : Nat) (nx : List Value → xH → Nat → Nat → Option ρ) : Option ρ := match info with
  | [kd, key, n, tag, mc, ms, ci] => bif Nat.ble n st.length && (Nat.ble (xcat (st.drop n)) 8 && (Nat.ble (bc + mc) MC && Nat.ble (bs + ms) MS)) then
      match ci with
      | 0 => xans (xthr kd T) tag (call key (st.take n).reverse σ) (fun v σ' => nx (v ++ st.drop n) σ' (bc + mc) (bs + ms))
      | c + 1 => match (st.take n).reverse with
        | .ref b :: As => gO E σ c b (xans (xthr kd T) tag (call key (.ref b :: As) σ) (fun v σ' => nx (v ++ st.drop n) σ' (bc + mc) (bs + ms)))
        | _ => none
    else none
  | _ => none
def xprim (E : xEn) (prim : Nat) (st : List Value) (σ : xH) (nx : List Value → xH → Option ρ) : Option ρ := match prim, st with
  | 0, .int y :: .int x :: st => nx (.int (if x < y then y else x) :: st) σ
  | 1, .int y :: .int x :: st => nx (.int (if y < x then y else x) :: st) σ
  | 2, .long y :: .long x :: st => nx (.long (if y < x then x else y) :: st) σ
  | 3, .long y :: .long x :: st => nx (.long (if y < x then y else x) :: st) σ
  | 6, .int n :: .int j :: .ref b :: .int i :: .ref a :: st => cpI E σ a i b j n (fun σ' => nx st σ')
  | _, _ => none
-- combinators: what lies on the stack, in a place of the locals, in 'info'
def kkI (o : Option Value) (k : Int32 → Option ρ) : Option ρ := match o with
  | some (.int x) => k x
  | _ => none
def t1I (st : List Value) (k : Int32 → List Value → Option ρ) : Option ρ := match st with
  | .int x :: st => k x st
  | _ => none
def t2I (st : List Value) (k : Int32 → Int32 → List Value → Option ρ) : Option ρ := match st with
  | .int y :: .int x :: st => k x y st
  | _ => none
def kkL (o : Option Value) (k : Int64 → Option ρ) : Option ρ := match o with
  | some (.long x) => k x
  | _ => none
def t1L (st : List Value) (k : Int64 → List Value → Option ρ) : Option ρ := match st with
  | .long x :: st => k x st
  | _ => none
def t2L (st : List Value) (k : Int64 → Int64 → List Value → Option ρ) : Option ρ := match st with
  | .long y :: .long x :: st => k x y st
  | _ => none
def kkF (o : Option Value) (k : UInt32 → Option ρ) : Option ρ := match o with
  | some (.float x) => k x
  | _ => none
def t1F (st : List Value) (k : UInt32 → List Value → Option ρ) : Option ρ := match st with
  | .float x :: st => k x st
  | _ => none
def t2F (st : List Value) (k : UInt32 → UInt32 → List Value → Option ρ) : Option ρ := match st with
  | .float y :: .float x :: st => k x y st
  | _ => none
def kkD (o : Option Value) (k : UInt64 → Option ρ) : Option ρ := match o with
  | some (.double x) => k x
  | _ => none
def t1D (st : List Value) (k : UInt64 → List Value → Option ρ) : Option ρ := match st with
  | .double x :: st => k x st
  | _ => none
def t2D (st : List Value) (k : UInt64 → UInt64 → List Value → Option ρ) : Option ρ := match st with
  | .double y :: .double x :: st => k x y st
  | _ => none
def kkA (o : Option Value) (k : Nat → Option ρ) : Option ρ := match o with
  | some (.ref x) => k x
  | _ => none
def t1A (st : List Value) (k : Nat → List Value → Option ρ) : Option ρ := match st with
  | .ref x :: st => k x st
  | _ => none
def t2A (st : List Value) (k : Nat → Nat → List Value → Option ρ) : Option ρ := match st with
  | .ref y :: .ref x :: st => k x y st
  | _ => none
def t3I (st : List Value) (k : Int32 → Int32 → Nat → List Value → Option ρ) : Option ρ := match st with
  | .int x :: .int i :: .ref a :: st => k x i a st
  | _ => none
def t3L (st : List Value) (k : Int64 → Int32 → Nat → List Value → Option ρ) : Option ρ := match st with
  | .long x :: .int i :: .ref a :: st => k x i a st
  | _ => none
def t3D (st : List Value) (k : UInt64 → Int32 → Nat → List Value → Option ρ) : Option ρ := match st with
  | .double x :: .int i :: .ref a :: st => k x i a st
  | _ => none
def t3A (st : List Value) (k : Nat → Int32 → Nat → List Value → Option ρ) : Option ρ := match st with
  | .ref x :: .int i :: .ref a :: st => k x i a st
  | _ => none
def t2X (st : List Value) (k : Int32 → Nat → List Value → Option ρ) : Option ρ := match st with
  | .int i :: .ref a :: st => k i a st
  | _ => none
def tV (st : List Value) (k : Value → List Value → Option ρ) : Option ρ := match st with
  | v :: st => bif Nat.beq v.category 1 then k v st else none
  | _ => none
def tVA (st : List Value) (k : Value → Nat → List Value → Option ρ) : Option ρ := match st with
  | v :: .ref a :: st => k v a st
  | _ => none
def t0 (st : List Value) (k : Option ρ) : Option ρ := match st with
  | [] => k
  | _ => none
def i1 (info : List Nat) (k : Nat → Option ρ) : Option ρ := match info with
  | [t] => k t
  | _ => none
def iSw (info : List Nat) (k : Nat → Nat → List Nat → Option ρ) : Option ρ := match info with
  | d :: lo :: ts => k d lo ts
  | _ => none
def nz (b : Bool) (k : Option ρ) : Option ρ := bif b then k else none
def iK (E : xEn) (info : List Nat) (k : Value → Option ρ) : Option ρ := match info with
  | [0, c] => k (.int (nI c))
  | [1, c] => k (.int (- nI c))
  | [2, i] => bif Nat.blt i xNS then k (.ref (E.2.1 i)) else none
  | _ => none
def iK2 (info : List Nat) (k : Int64 → Option ρ) : Option ρ := match info with
  | [0, c] => k (lN c)
  | [1, c] => k (- lN c)
  | _ => none
def iD (info : List Nat) (k : UInt64 → Option ρ) : Option ρ := match info with
  | [0] => k FP.dconst0
  | _ => none
def iF (info : List Nat) (k : UInt32 → Option ρ) : Option ρ := match info with
  | [0] => k FP.fconst0
  | [1] => k FP.fconst1
  | _ => none
/-- a String's bytes, its coder: a literal's, or a String's of the world -/
def gU (E : xEn) (σ : xH) (a : Nat) (K : Nat → Option ρ) : Option ρ := match σ.1 a with
  | none => match xfind E.2.1 a xNS with
    | some i => K (E.2.2.1 i)
    | none => none
  | _ => gR σ 11 0 a K
def gC (E : xEn) (σ : xH) (a : Nat) (K : Int32 → Option ρ) : Option ρ := match σ.1 a with
  | none => match xfind E.2.1 a xNS with
    | some _ => K (nI 0)
    | none => none
  | _ => gI σ 11 1 a K
def xgf (E : xEn) (σ : xH) (info : List Nat) (a : Nat) (k : Value → Option ρ) : Option ρ := match info with
  | [77] => match xfind E.1 a 29 with
    | some i => k (.ref (E.2.1 (xtt i)))
    | none => none
  | [78] => gU E σ a (fun q => k (.ref q))
  | [79] => gC E σ a (fun x => k (.int x))
  | info => xfld σ info a k
def xgs (E : xEn) (info : List Nat) (k : Value → Option ρ) : Option ρ := match info with
  | [0, i] => bif Nat.blt i 29 then k (.ref (E.1 i)) else none
  | [1] => k (.ref E.2.2.2.1)
  | [2] => k (.int 1)
  | [3] => k (eFm E)
  | [4] => k (.ref (eD1 E))
  | [5] => k (.ref (eD2 E))
  | [6] => k (.ref (eDc E))
  | _ => none
def xnew (MC MS : Nat) (fin : xR → Option ρ) (info : List Nat) (st : List Value) (σ : xH) (bc bs : Nat) (nx : List Value → xH → Nat → Nat → Option ρ) : Option ρ := match info with
  | [0, ci, n] => bif Nat.ble (bc + 1) MC && Nat.ble (bs + n) MS then nx (.ref σ.2 :: st) (xup σ.1 σ.2 (.inr (ci, xdef ci n)), σ.2 + 1) (bc + 1) (bs + n) else none
  | [1, e, _, _] => bif Nat.ble (bc + 1) MC && (Nat.ble (bs + 6) MS && Nat.ble (xcat st) 8) then fin (.inr (xexc e), σ) else none
  | _ => none
def xnewa (MC MS : Nat) (x : Nat → (Nat → Int32) ⊕ (Nat → Int64) ⊕ (Nat → UInt32) ⊕ (Nat → UInt64) ⊕ (Nat → Option Nat)) (info : List Nat) (st : List Value) (σ : xH) (bc bs : Nat) (nx : List Value → xH → Nat → Nat → Option ρ) : Option ρ := t1I st (fun n st => i1 info (fun k => bif decide (¬ n < 0) && (Nat.ble (bc + 1) MC && (Nat.ble (bs + n.toNatClampNeg) MS && Nat.ble n.toNatClampNeg 100000)) then nx (.ref σ.2 :: st) (xup σ.1 σ.2 (.inl (k, n.toNatClampNeg, x k)), σ.2 + 1) (bc + 1) (bs + n.toNatClampNeg) else none))
def xinv (E : xEn) (call : Nat → List Value → xH → Option xR) (MC MS : Nat) (fin : xR → Option ρ) (info : List Nat) (st : List Value) (σ : xH) (bc bs : Nat) (pr : Nat → Option ρ) (nx : List Value → xH → Nat → Nat → Option ρ) : Option ρ := match info with
  | [_, p] => pr p
  | info => xcall E call MC MS fin info st σ bc bs nx
def xinit (E : xEn) (call : Nat → List Value → xH → Option xR) (MC MS : Nat) (fin : xR → Option ρ) (info : List Nat) (st : List Value) (σ : xH) (bc bs : Nat) (nx : List Value → xH → Nat → Nat → Option ρ) : Option ρ := match info with
  | [_] => t1A st (fun _ st => bif Nat.ble (xcat st) 8 then nx st σ bc bs else none)
  | info => xcall E call MC MS fin info st σ bc bs nx
def xty (t : Nat) : FieldType := match t with
  | 5 => .boolean
  | 6 => .byte
  | 7 => .char
  | _ => .int
def xiret (info : List Nat) (x : Int32) (k : Option ρ) : Option ρ := match info with
  | [0] => k
  | [t] => bif decide (narrow (xty t) (.int x) = .int x) then k else none
  | _ => none
def xac (c : ACond) (b : Bool) (t f : Option ρ) : Option ρ := match c with
  | .eq => bif b then t else f
  | .ne => bif b then f else t
def xstep (E : xEn) (call : Nat → List Value → xH → Option xR) (MC MS : Nat) (fin : xR → Option ρ) (K : Nat → xL → List Value → xH → Nat → Nat → Option ρ) (nx : xL → List Value → xH → Nat → Nat → Option ρ) (ins : Instr) (info : List Nat) (L : xL) (st : List Value) (σ : xH) (bc bs : Nat) : Option ρ := match ins with
  | .iconst i => nx L (.int (Int32.ofInt i) :: st) σ bc bs
  | .bipush i => nx L (.int (Int8.ofInt i).toInt32 :: st) σ bc bs
  | .sipush i => nx L (.int (Int16.ofInt i).toInt32 :: st) σ bc bs
  | .lconst i => nx L (.long (Int64.ofNat (i : Nat)) :: st) σ bc bs
  | .dconst i => iD info (fun v => nx L (.double v :: st) σ bc bs)
  | .fconst i => iF info (fun v => nx L (.float v :: st) σ bc bs)
  | .ldc i => iK E info (fun v => nx L (v :: st) σ bc bs)
  | .ldc_w i => iK E info (fun v => nx L (v :: st) σ bc bs)
  | .ldc2_w i => iK2 info (fun v => nx L (.long v :: st) σ bc bs)
  | .iload i => kkI (xget L i) (fun x => nx L (.int x :: st) σ bc bs)
  | .iload_n i => kkI (xget L i) (fun x => nx L (.int x :: st) σ bc bs)
  | .lload i => kkL (xget L i) (fun x => nx L (.long x :: st) σ bc bs)
  | .lload_n i => kkL (xget L i) (fun x => nx L (.long x :: st) σ bc bs)
  | .dload i => kkD (xget L i) (fun x => nx L (.double x :: st) σ bc bs)
  | .aload i => kkA (xget L i) (fun x => nx L (.ref x :: st) σ bc bs)
  | .aload_n i => kkA (xget L i) (fun x => nx L (.ref x :: st) σ bc bs)
  | .istore i => t1I st (fun x st => nx (xset1 L i (.int x)) st σ bc bs)
  | .istore_n i => t1I st (fun x st => nx (xset1 L i (.int x)) st σ bc bs)
  | .lstore i => t1L st (fun x st => nx (xset2 L i (.long x)) st σ bc bs)
  | .lstore_n i => t1L st (fun x st => nx (xset2 L i (.long x)) st σ bc bs)
  | .dstore i => t1D st (fun x st => nx (xset2 L i (.double x)) st σ bc bs)
  | .astore i => t1A st (fun x st => nx (xset1 L i (.ref x)) st σ bc bs)
  | .astore_n i => t1A st (fun x st => nx (xset1 L i (.ref x)) st σ bc bs)
  | .iinc i c => kkI (xget L i) (fun x => nx (xset1 L i (.int (x + Int32.ofInt c))) st σ bc bs)
  | .iadd => t2I st (fun x y st => nx L (.int (x + y) :: st) σ bc bs)
  | .isub => t2I st (fun x y st => nx L (.int (x - y) :: st) σ bc bs)
  | .imul => t2I st (fun x y st => nx L (.int (x * y) :: st) σ bc bs)
  | .iand => t2I st (fun x y st => nx L (.int (x &&& y) :: st) σ bc bs)
  | .ior => t2I st (fun x y st => nx L (.int (x ||| y) :: st) σ bc bs)
  | .ixor => t2I st (fun x y st => nx L (.int (x ^^^ y) :: st) σ bc bs)
  | .aconst_null => nx L (.null :: st) σ bc bs
  | .ifnonnull o => t1A st (fun a st => i1 info (fun t => K t L st σ bc bs))
  | .ineg => t1I st (fun x st => nx L (.int (-x) :: st) σ bc bs)
  | .dup_x1 => tV st (fun v st => tV st (fun u st => nx L (v :: u :: v :: st) σ bc bs))
  | .checkcast i => t1A st (fun a st => i1 info (fun ci => xck σ ci a (nx L (.ref a :: st) σ bc bs)))
  | .ishl => t2I st (fun x y st => nx L (.int (x <<< (y &&& 31)) :: st) σ bc bs)
  | .ishr => t2I st (fun x y st => nx L (.int (x >>> (y &&& 31)) :: st) σ bc bs)
  | .idiv => t2I st (fun x y st => nz (decide (¬ y = 0)) (nx L (.int (x / y) :: st) σ bc bs))
  | .irem => t2I st (fun x y st => nz (decide (¬ y = 0)) (nx L (.int (x - x / y * y) :: st) σ bc bs))
  | .ladd => t2L st (fun x y st => nx L (.long (x + y) :: st) σ bc bs)
  | .lsub => t2L st (fun x y st => nx L (.long (x - y) :: st) σ bc bs)
  | .lmul => t2L st (fun x y st => nx L (.long (x * y) :: st) σ bc bs)
  | .ldiv => t2L st (fun x y st => nz (decide (¬ y = 0)) (nx L (.long (x / y) :: st) σ bc bs))
  | .lrem => t2L st (fun x y st => nz (decide (¬ y = 0)) (nx L (.long (x - x / y * y) :: st) σ bc bs))
  | .lcmp => t2L st (fun x y st => nx L (.int (lg_cmp x y) :: st) σ bc bs)
  | .i2l => t1I st (fun x st => nx L (.long x.toInt64 :: st) σ bc bs)
  | .l2i => t1L st (fun x st => nx L (.int x.toInt32 :: st) σ bc bs)
  | .i2b => t1I st (fun x st => nx L (.int x.toInt8.toInt32 :: st) σ bc bs)
  | .i2c => t1I st (fun x st => nx L (.int (x.toUInt32 % 65536).toInt32 :: st) σ bc bs)
  | .i2d => t1I st (fun x st => nx L (.double (FP.i2d x) :: st) σ bc bs)
  | .l2d => t1L st (fun x st => nx L (.double (FP.l2d x) :: st) σ bc bs)
  | .i2f => t1I st (fun x st => nx L (.float (FP.i2f x) :: st) σ bc bs)
  | .l2f => t1L st (fun x st => nx L (.float (FP.l2f x) :: st) σ bc bs)
  | .f2d => t1F st (fun x st => nz (decide (FP.f2d x &&& 0x7fffffffffffffff ≤ 0x7ff0000000000000)) (nx L (.double (FP.f2d x) :: st) σ bc bs))
  | .fdiv => t2F st (fun x y st => nz (decide (FP.fdiv x y &&& 0x7fffffff ≤ 0x7f800000)) (nx L (.float (FP.fdiv x y) :: st) σ bc bs))
  | .fsub => t2F st (fun x y st => nz (decide (FP.fsub x y &&& 0x7fffffff ≤ 0x7f800000)) (nx L (.float (FP.fsub x y) :: st) σ bc bs))
  | .ddiv => t2D st (fun x y st => nz (decide (FP.ddiv x y &&& 0x7fffffffffffffff ≤ 0x7ff0000000000000)) (nx L (.double (FP.ddiv x y) :: st) σ bc bs))
  | .dcmp o => t2D st (fun x y st => nx L (.int (Op.cmpValue (FP.dcmp x y) o) :: st) σ bc bs)
  | .dup => tV st (fun v st => nx L (v :: v :: st) σ bc bs)
  | .dup2 => tV st (fun v st => tV st (fun u st => nx L (v :: u :: v :: u :: st) σ bc bs))
  | .pop => tV st (fun _ st => nx L st σ bc bs)
  | .ifCond c o => t1I st (fun x st => i1 info (fun t => xcc c x 0 (K t L st σ bc bs) (nx L st σ bc bs)))
  | .if_icmp c o => t2I st (fun x y st => i1 info (fun t => xcc c x y (K t L st σ bc bs) (nx L st σ bc bs)))
  | .if_acmp c o => t2A st (fun x y st => i1 info (fun t => xac c (Nat.beq x y) (K t L st σ bc bs) (nx L st σ bc bs)))
  | .goto o => i1 info (fun t => K t L st σ bc bs)
  | .tableswitch a b c d => t1I st (fun x st => iSw info (fun d lo ts => xsw x d (fun t => K t L st σ bc bs) lo ts))
  | .getfield i => t1A st (fun a st => xgf E σ info a (fun v => nx L (v :: st) σ bc bs))
  | .putfield i => tVA st (fun v a st => xput σ info a v (fun σ => nx L st σ bc bs))
  | .getstatic i => xgs E info (fun v => nx L (v :: st) σ bc bs)
  | .iaload => t2X st (fun i a st => aI E σ a i (fun x => nx L (.int x :: st) σ bc bs))
  | .baload => t2X st (fun i a st => aB E σ a i (fun x => nx L (.int x :: st) σ bc bs))
  | .laload => t2X st (fun i a st => aL σ a i (fun x => nx L (.long x :: st) σ bc bs))
  | .daload => t2X st (fun i a st => aD σ a i (fun x => nx L (.double x :: st) σ bc bs))
  | .aaload => t2X st (fun i a st => aQ E σ a i (fun x => nx L (.ref x :: st) σ bc bs))
  | .arraylength => t1A st (fun a st => aN E σ a (fun x => nx L (.int x :: st) σ bc bs))
  | .iastore => t3I st (fun x i a st => sI σ a i x (fun σ => nx L st σ bc bs))
  | .bastore => t3I st (fun x i a st => sB σ a i x (fun σ => nx L st σ bc bs))
  | .lastore => t3L st (fun x i a st => sL σ a i x (fun σ => nx L st σ bc bs))
  | .dastore => t3D st (fun x i a st => sD σ a i x (fun σ => nx L st σ bc bs))
  | .aastore => t3A st (fun x i a st => sQ E σ a i x (fun σ => nx L st σ bc bs))
  | .new i => xnew MC MS fin info st σ bc bs (fun st σ bc bs => nx L st σ bc bs)
  | .newarray i => xnewa MC MS xarr info st σ bc bs (fun st σ bc bs => nx L st σ bc bs)
  | .anewarray i => xnewa MC MS (fun _ => .inr (.inr (.inr (.inr fun _ => none)))) info st σ bc bs (fun st σ bc bs => nx L st σ bc bs)
  | .invokespecial i => xinit E call MC MS fin info st σ bc bs (fun st σ bc bs => nx L st σ bc bs)
  | .invokevirtual i => xinv E call MC MS fin info st σ bc bs (fun p => nz (Nat.ble (xcat st) 16) (xprim E p st σ (fun st σ => nx L st σ bc bs))) (fun st σ bc bs => nx L st σ bc bs)
  | .invokestatic i => xinv E call MC MS fin info st σ bc bs (fun p => nz (Nat.ble (xcat st) 16) (xprim E p st σ (fun st σ => nx L st σ bc bs))) (fun st σ bc bs => nx L st σ bc bs)
  | .ireturn => t1I st (fun x st => t0 st (xiret info x (fin (.inl (some (.int x)), σ))))
  | .lreturn => t1L st (fun x st => t0 st (fin (.inl (some (.long x)), σ)))
  | .freturn => t1F st (fun x st => t0 st (fin (.inl (some (.float x)), σ)))
  | .dreturn => t1D st (fun x st => t0 st (fin (.inl (some (.double x)), σ)))
  | .areturn => t1A st (fun x st => t0 st (fin (.inl (some (.ref x)), σ)))
  | .return_ => t0 st (fin (.inl none, σ))
  | _ => none
end STEP
