/-! WHAT A METHOD'S CODE DOES, as a function: a small interpreter over the decoded instructions, on a world of cells.
A cell of the world: .inl (kind of array: 0 int, 1 byte, 2 long, 3 double, 4 Token rows, 5 Game rows, length, contents) or .inr (class, fields). -/
abbrev xH : Type := (Nat → Option va_E) × Nat
abbrev xR : Type := (Option Value ⊕ String) × xH
abbrev xL : Type := List (Nat × Value)
abbrev xJ : Type := Nat × xL × List Value × xH × Nat × Nat
abbrev xI : Type := Nat × Instr × List Nat
def xup (w : Nat → Option va_E) (a : Nat) (e : va_E) : Nat → Option va_E := fun q => bif Nat.beq q a then some e else w q
def xget : xL → Nat → Option Value
  | [], _ => none
  | q :: L, i => bif Nat.beq q.1 i then some q.2 else xget L i
def xset1 (L : xL) (i : Nat) (v : Value) : xL := (i, v) :: L.filter (fun q => !(q.1 == i) && !(q.1 + 1 == i && q.2.category == 2))
def xset2 (L : xL) (i : Nat) (v : Value) : xL := (i, v) :: L.filter (fun q => !(q.1 == i) && (!(q.1 == i + 1) && !(q.1 + 1 == i && q.2.category == 2)))
def xpick (L : xL) : List Nat → xL
  | [] => []
  | i :: is => match xget L i with
    | some v => (i, v) :: xpick L is
    | none => xpick L is
def xfind (f : Nat → Nat) (a : Nat) : Nat → Option Nat
  | 0 => none
  | n + 1 => match xfind f a n with
    | some i => some i
    | none => bif Nat.beq (f n) a then some n else none
def xin (i : Int32) (n : Nat) : Bool := decide (¬ (i < 0 ∨ n ≤ i.toNatClampNeg))
/-- the literals, each text once, and which is a Token's -/
def xbyt : List (List Int32) := [[], [59], [43], [45], [42], [47], [40], [41], [115, 104, 101, 108, 108, 115], [115, 116, 101, 112, 115], [98, 108, 105, 110, 107, 115], [99, 104, 97, 110, 99, 101], [98, 97, 108, 108], [115, 99, 114, 97, 116, 99, 104], [116, 114, 117, 115, 116], [99, 97, 108, 109], [115, 108, 121], [112, 117, 114, 115, 101], [98, 108, 105, 110, 107], [111, 100, 100, 115], [115, 119, 97, 112], [102, 101, 105, 110, 116], [114, 101, 115, 116], [115, 116, 101, 97, 108], [112, 108, 97, 110, 116], [112, 101, 101, 107], [114, 101, 112, 101, 97, 116], [115, 104, 101, 108, 108, 115, 32], [59, 98, 97, 108, 108, 32], [59, 116, 114, 117, 115, 116, 32], [59, 99, 97, 108, 109, 32], [59, 115, 108, 121, 32], [115, 99, 114, 97, 116, 99, 104, 32], [98, 108, 105, 110, 107, 32]]
def xtx (i : Nat) : List Int32 := xbyt.getD i []
def xNS : Nat := 34
def xtt (i : Nat) : Nat := ([0, 0, 0, 1, 2, 3, 4, 5, 6, 7, 8, 9, 10, 11, 12, 13, 14, 15, 16, 17, 18, 19, 20, 21, 22, 23, 24, 25, 26] : List Nat).getD i 0
/-- addresses: the Tokens, the literals, their bytes, Token.ALL; the value of Preconditions' formatter -/
abbrev xEn : Type := (Nat → Nat) × (Nat → Nat) × (Nat → Nat) × Nat × Value × (Nat × Nat × Nat) × Nat × Nat × (Nat → Int32)
/-- the formatter; Integer's rows of digits; ArrayList's empty row; the script: where, how long, what -/
abbrev eFm (E : xEn) : Value := E.2.2.2.2.1
abbrev eD1 (E : xEn) : Nat := E.2.2.2.2.2.1.1
abbrev eD2 (E : xEn) : Nat := E.2.2.2.2.2.1.2.1
abbrev eDc (E : xEn) : Nat := E.2.2.2.2.2.1.2.2
abbrev eSa (E : xEn) : Nat := E.2.2.2.2.2.2.1
abbrev eSn (E : xEn) : Nat := E.2.2.2.2.2.2.2.1
abbrev eSf (E : xEn) : Nat → Int32 := E.2.2.2.2.2.2.2.2
section SEM
variable {ρ : Type}
-- fields
def gV (σ : xH) (ci k a : Nat) (K : Value → Option ρ) : Option ρ := match σ.1 a with
  | some (.inr (c, fs)) => bif Nat.beq c ci then (match fs[k]? with
    | some v => K v
    | none => none) else none
  | _ => none
def gI (σ : xH) (ci k a : Nat) (K : Int32 → Option ρ) : Option ρ := gV σ ci k a (fun v => match v with
  | .int x => K x
  | _ => none)
def gL (σ : xH) (ci k a : Nat) (K : Int64 → Option ρ) : Option ρ := gV σ ci k a (fun v => match v with
  | .long x => K x
  | _ => none)
def gR (σ : xH) (ci k a : Nat) (K : Nat → Option ρ) : Option ρ := gV σ ci k a (fun v => match v with
  | .ref x => K x
  | _ => none)
def gP (σ : xH) (ci k a : Nat) (v : Value) (K : xH → Option ρ) : Option ρ := match σ.1 a with
  | some (.inr (c, fs)) => bif Nat.beq c ci && Nat.blt k fs.length then K (xup σ.1 a (.inr (c, fs.set k v)), σ.2) else none
  | _ => none
/-- the receiver's class; 99 is String -/
def gO (E : xEn) (σ : xH) (ci a : Nat) (K : Option ρ) : Option ρ := match σ.1 a with
  | some (.inr (c, _)) => bif Nat.beq c ci || (Nat.beq ci 99 && Nat.beq c 11) then K else none
  | none => bif Nat.beq ci 99 && (xfind E.2.1 a xNS).isSome then K else none
  | _ => none
-- arrays
def aI (E : xEn) (σ : xH) (a : Nat) (i : Int32) (K : Int32 → Option ρ) : Option ρ := match σ.1 a with
  | some (.inl (k, n, .inl f)) => bif Nat.beq k 0 && xin i n then K (f i.toNatClampNeg) else none
  | none => bif Nat.beq a (eSa E) && xin i (eSn E) then K (eSf E i.toNatClampNeg) else none
  | _ => none
def aB (E : xEn) (σ : xH) (a : Nat) (i : Int32) (K : Int32 → Option ρ) : Option ρ := match σ.1 a with
  | some (.inl (k, n, .inl f)) => bif Nat.beq k 1 && xin i n then K (f i.toNatClampNeg) else none
  | none => match xfind E.2.2.1 a xNS with
    | some s => bif xin i (xtx s).length then K ((xtx s).getD i.toNatClampNeg 0) else none
    | none => bif Nat.beq a (eD1 E) && xin i 100 then K (nI (48 + i.toNatClampNeg % 10)) else bif Nat.beq a (eD2 E) && xin i 100 then K (nI (48 + i.toNatClampNeg / 10)) else none
  | _ => none
def aL (σ : xH) (a : Nat) (i : Int32) (K : Int64 → Option ρ) : Option ρ := match σ.1 a with
  | some (.inl (k, n, .inr (.inl f))) => bif Nat.beq k 2 && xin i n then K (f i.toNatClampNeg) else none
  | _ => none
def aD (_ : xH) (_ : Nat) (_ : Int32) (_ : UInt64 → Option ρ) : Option ρ := none
def aQ (E : xEn) (σ : xH) (a : Nat) (i : Int32) (K : Nat → Option ρ) : Option ρ := match σ.1 a with
  | some (.inl (k, n, .inr (.inr (.inr (.inr f))))) => bif Nat.ble 4 k && (Nat.ble k 6 && xin i n) then (match f i.toNatClampNeg with
    | some b => K b
    | none => none) else none
  | none => bif Nat.beq a E.2.2.2.1 && xin i 29 then K (E.1 i.toNatClampNeg) else none
  | _ => none
def aN (E : xEn) (σ : xH) (a : Nat) (K : Int32 → Option ρ) : Option ρ := match σ.1 a with
  | some (.inl (k, n, _)) => bif Nat.ble k 6 then K (nI n) else none
  | none => bif Nat.beq a E.2.2.2.1 then K 29 else match xfind E.2.2.1 a xNS with
    | some s => K (nI (xtx s).length)
    | none => bif Nat.beq a (eDc E) then K (nI 0) else bif Nat.beq a (eSa E) then K (nI (eSn E)) else none
  | _ => none
def sI (σ : xH) (a : Nat) (i x : Int32) (K : xH → Option ρ) : Option ρ := match σ.1 a with
  | some (.inl (k, n, .inl f)) => bif Nat.beq k 0 && xin i n then K (xup σ.1 a (.inl (k, n, .inl (upd f i.toNatClampNeg x))), σ.2) else none
  | _ => none
def sB (σ : xH) (a : Nat) (i x : Int32) (K : xH → Option ρ) : Option ρ := match σ.1 a with
  | some (.inl (k, n, .inl f)) => bif Nat.beq k 1 && xin i n then K (xup σ.1 a (.inl (k, n, .inl (upd f i.toNatClampNeg (vp_nar .byte x)))), σ.2) else none
  | _ => none
def sL (σ : xH) (a : Nat) (i : Int32) (x : Int64) (K : xH → Option ρ) : Option ρ := match σ.1 a with
  | some (.inl (k, n, .inr (.inl f))) => bif Nat.beq k 2 && xin i n then K (xup σ.1 a (.inl (k, n, .inr (.inl (vp_updL f i.toNatClampNeg x)))), σ.2) else none
  | _ => none
def sD (_ : xH) (_ : Nat) (_ : Int32) (_ : UInt64) (_ : xH → Option ρ) : Option ρ := none
/-- what may lie in a row of references: a Token in kind 4, a Game (class 2) in kind 5 -/
def xfits (E : xEn) (σ : xH) (k b : Nat) : Bool := bif Nat.beq k 4 then (xfind E.1 b 29).isSome else bif Nat.beq k 5 then (match σ.1 b with
  | some (.inr (c, _)) => Nat.beq c 2
  | _ => false) else bif Nat.beq k 6 then (match σ.1 b with
  | some (.inr (c, _)) => Nat.beq c 9
  | _ => false) else false
def sQ (E : xEn) (σ : xH) (a : Nat) (i : Int32) (b : Nat) (K : xH → Option ρ) : Option ρ := match σ.1 a with
  | some (.inl (k, n, .inr (.inr (.inr (.inr f))))) => bif xin i n && xfits E σ k b then K (xup σ.1 a (.inl (k, n, .inr (.inr (.inr (.inr (va_up f i.toNatClampNeg (some b))))))), σ.2) else none
  | _ => none
-- System.arraycopy of ints and of bytes; a literal's bytes may be the source
def xcpr (i j n : Int32) (m m' : Nat) : Bool := decide (0 ≤ i.toInt ∧ 0 ≤ j.toInt ∧ 0 ≤ n.toInt ∧ i.toInt + n.toInt ≤ m ∧ j.toInt + n.toInt ≤ m')
/-- what is copied between rows of bytes is bytes -/
def xbf (f : Nat → Int32) (m : Nat) : Bool := decide (∀ j, j < m → fits .byte (.int (f j)) = true)
def cpI (E : xEn) (σ : xH) (a : Nat) (i : Int32) (b : Nat) (j n : Int32) (K : xH → Option ρ) : Option ρ := match σ.1 b with
  | some (.inl (k', m', .inl g)) => match σ.1 a with
    | some (.inl (k, m, .inl f)) => bif Nat.beq k k' && (Nat.ble k 1 && (!(Nat.beq a b) && (xcpr i j n m m' && (Nat.beq k 0 || xbf f m)))) then K (xup σ.1 b (.inl (k', m', .inl (va_cpy f g i.toNatClampNeg j.toNatClampNeg n.toNatClampNeg))), σ.2) else none
    | none => match xfind E.2.2.1 a xNS with
      | some s => bif Nat.beq k' 1 && (xcpr i j n (xtx s).length m' && xbf (fun q => (xtx s).getD q 0) (xtx s).length) then K (xup σ.1 b (.inl (k', m', .inl (va_cpy (fun q => (xtx s).getD q 0) g i.toNatClampNeg j.toNatClampNeg n.toNatClampNeg))), σ.2) else none
      | none => none
    | _ => none
  | _ => none
/-- a cell of a class -/
def xck (σ : xH) (ci a : Nat) (K : Option ρ) : Option ρ := match σ.1 a with
  | some (.inr (c, _)) => bif Nat.beq c ci then K else none
  | _ => none
-- a callee's answer
def cI (T : xR → Option ρ) (r : Option xR) (K : Int32 → xH → Option ρ) : Option ρ := match r with
  | some (.inl (some (.int x)), σ) => K x σ
  | some (.inr E, σ) => T (.inr E, σ)
  | _ => none
def cL (T : xR → Option ρ) (r : Option xR) (K : Int64 → xH → Option ρ) : Option ρ := match r with
  | some (.inl (some (.long x)), σ) => K x σ
  | some (.inr E, σ) => T (.inr E, σ)
  | _ => none
def cF (T : xR → Option ρ) (r : Option xR) (K : UInt32 → xH → Option ρ) : Option ρ := match r with
  | some (.inl (some (.float x)), σ) => K x σ
  | some (.inr E, σ) => T (.inr E, σ)
  | _ => none
def cD (T : xR → Option ρ) (r : Option xR) (K : UInt64 → xH → Option ρ) : Option ρ := match r with
  | some (.inl (some (.double x)), σ) => K x σ
  | some (.inr E, σ) => T (.inr E, σ)
  | _ => none
def cA (T : xR → Option ρ) (r : Option xR) (K : Nat → xH → Option ρ) : Option ρ := match r with
  | some (.inl (some (.ref x)), σ) => K x σ
  | some (.inr E, σ) => T (.inr E, σ)
  | _ => none
def cV (T : xR → Option ρ) (r : Option xR) (K : xH → Option ρ) : Option ρ := match r with
  | some (.inl none, σ) => K σ
  | some (.inr E, σ) => T (.inr E, σ)
  | _ => none
def xsw (x : Int32) (dflt : Nat) (K : Nat → Option ρ) : Nat → List Nat → Option ρ
  | _, [] => K dflt
  | lo, t :: ts => if x = nI lo then K t else xsw x dflt K (lo + 1) ts
def xcc (c : ClassFile.Cond) (x y : Int32) (t f : Option ρ) : Option ρ := match c with
  | .eq => if x = y then t else f
  | .ne => if x = y then f else t
  | .lt => if x < y then t else f
  | .ge => if y ≤ x then t else f
  | .gt => if y < x then t else f
  | .le => if x ≤ y then t else f
end SEM
