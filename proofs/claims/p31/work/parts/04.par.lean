/-! A step with its ways out as continuations is the step with its ways out as data, bound. -/
section PAR
variable {ρ ρ' : Type} {G : ρ' → Option ρ}
theorem xb_gV {σ : xH} {ci k a : Nat} {K : Value → Option ρ} {K' : Value → Option ρ'} (h : ∀ v, K v = (K' v).bind G) : gV σ ci k a K = (gV σ ci k a K').bind G := by
  unfold gV
  split
  · cases Nat.beq _ _
    · rfl
    · dsimp only [cond]
      split
      · exact h _
      · rfl
  · rfl
theorem xb_gI {σ : xH} {ci k a : Nat} {K : Int32 → Option ρ} {K' : Int32 → Option ρ'} (h : ∀ v, K v = (K' v).bind G) : gI σ ci k a K = (gI σ ci k a K').bind G := by
  refine xb_gV (fun v => ?_)
  cases v <;> first | exact h _ | rfl
theorem xb_gL {σ : xH} {ci k a : Nat} {K : Int64 → Option ρ} {K' : Int64 → Option ρ'} (h : ∀ v, K v = (K' v).bind G) : gL σ ci k a K = (gL σ ci k a K').bind G := by
  refine xb_gV (fun v => ?_)
  cases v <;> first | exact h _ | rfl
theorem xb_gR {σ : xH} {ci k a : Nat} {K : Nat → Option ρ} {K' : Nat → Option ρ'} (h : ∀ v, K v = (K' v).bind G) : gR σ ci k a K = (gR σ ci k a K').bind G := by
  refine xb_gV (fun v => ?_)
  cases v <;> first | exact h _ | rfl
theorem xb_if {b : Bool} {x : Option ρ} {y : Option ρ'} (h : x = y.bind G) : (bif b then x else none) = (bif b then y else none).bind G := by
  cases b
  · rfl
  · exact h
theorem xb_gP {σ : xH} {ci k a : Nat} {v : Value} {K : xH → Option ρ} {K' : xH → Option ρ'} (h : ∀ v, K v = (K' v).bind G) : gP σ ci k a v K = (gP σ ci k a v K').bind G := by
  unfold gP
  split
  · exact xb_if (h _)
  · rfl
theorem xb_gO {E : xEn} {σ : xH} {ci a : Nat} {K : Option ρ} {K' : Option ρ'} (h : K = K'.bind G) : gO E σ ci a K = (gO E σ ci a K').bind G := by
  unfold gO
  split
  · exact xb_if h
  · exact xb_if h
  · rfl
theorem xb_aI {E : xEn} {σ : xH} {a : Nat} {i : Int32} {K : Int32 → Option ρ} {K' : Int32 → Option ρ'} (h : ∀ v, K v = (K' v).bind G) : aI E σ a i K = (aI E σ a i K').bind G := by
  unfold aI
  split
  · exact xb_if (h _)
  · exact xb_if (h _)
  · rfl
theorem xb_aL {σ : xH} {a : Nat} {i : Int32} {K : Int64 → Option ρ} {K' : Int64 → Option ρ'} (h : ∀ v, K v = (K' v).bind G) : aL σ a i K = (aL σ a i K').bind G := by
  unfold aL
  split
  · exact xb_if (h _)
  · rfl
theorem xb_aD {σ : xH} {a : Nat} {i : Int32} {K : UInt64 → Option ρ} {K' : UInt64 → Option ρ'} (h : ∀ v, K v = (K' v).bind G) : aD σ a i K = (aD σ a i K').bind G := by
  rfl
theorem xb_aB {E : xEn} {σ : xH} {a : Nat} {i : Int32} {K : Int32 → Option ρ} {K' : Int32 → Option ρ'} (h : ∀ v, K v = (K' v).bind G) : aB E σ a i K = (aB E σ a i K').bind G := by
  unfold aB
  split
  · exact xb_if (h _)
  · split
    · exact xb_if (h _)
    · cases Nat.beq a (eD1 E) && xin i 100
      · exact xb_if (h _)
      · exact h _
  · rfl
theorem xb_aQ {E : xEn} {σ : xH} {a : Nat} {i : Int32} {K : Nat → Option ρ} {K' : Nat → Option ρ'} (h : ∀ v, K v = (K' v).bind G) : aQ E σ a i K = (aQ E σ a i K').bind G := by
  unfold aQ
  split
  · refine xb_if ?_
    split
    · exact h _
    · rfl
  · exact xb_if (h _)
  · rfl
theorem xb_aN {E : xEn} {σ : xH} {a : Nat} {K : Int32 → Option ρ} {K' : Int32 → Option ρ'} (h : ∀ v, K v = (K' v).bind G) : aN E σ a K = (aN E σ a K').bind G := by
  unfold aN
  split
  · exact xb_if (h _)
  · cases Nat.beq a E.2.2.2.1
    · dsimp only [cond]
      split
      · exact h _
      · cases Nat.beq a (eDc E)
        · exact xb_if (h _)
        · exact h _
    · exact h _
  · rfl
theorem xb_sI {σ : xH} {a : Nat} {i x : Int32} {K : xH → Option ρ} {K' : xH → Option ρ'} (h : ∀ v, K v = (K' v).bind G) : sI σ a i x K = (sI σ a i x K').bind G := by
  unfold sI
  split
  · exact xb_if (h _)
  · rfl
theorem xb_sB {σ : xH} {a : Nat} {i x : Int32} {K : xH → Option ρ} {K' : xH → Option ρ'} (h : ∀ v, K v = (K' v).bind G) : sB σ a i x K = (sB σ a i x K').bind G := by
  unfold sB
  split
  · exact xb_if (h _)
  · rfl
theorem xb_sL {σ : xH} {a : Nat} {i : Int32} {x : Int64} {K : xH → Option ρ} {K' : xH → Option ρ'} (h : ∀ v, K v = (K' v).bind G) : sL σ a i x K = (sL σ a i x K').bind G := by
  unfold sL
  split
  · exact xb_if (h _)
  · rfl
theorem xb_sD {σ : xH} {a : Nat} {i : Int32} {x : UInt64} {K : xH → Option ρ} {K' : xH → Option ρ'} (h : ∀ v, K v = (K' v).bind G) : sD σ a i x K = (sD σ a i x K').bind G := by
  rfl
theorem xb_sQ {E : xEn} {σ : xH} {a : Nat} {i : Int32} {b : Nat} {K : xH → Option ρ} {K' : xH → Option ρ'} (h : ∀ v, K v = (K' v).bind G) : sQ E σ a i b K = (sQ E σ a i b K').bind G := by
  unfold sQ
  split
  · exact xb_if (h _)
  · rfl
theorem xb_cpI {E : xEn} {σ : xH} {a b : Nat} {i j n : Int32} {K : xH → Option ρ} {K' : xH → Option ρ'} (h : ∀ v, K v = (K' v).bind G) : cpI E σ a i b j n K = (cpI E σ a i b j n K').bind G := by
  unfold cpI
  split
  · split
    · exact xb_if (h _)
    · split
      · exact xb_if (h _)
      · rfl
    · rfl
  · rfl
theorem xb_xck {σ : xH} {ci a : Nat} {K : Option ρ} {K' : Option ρ'} (h : K = K'.bind G) : xck σ ci a K = (xck σ ci a K').bind G := by
  unfold xck
  split
  · exact xb_if h
  · rfl
theorem xb_gU {E : xEn} {σ : xH} {a : Nat} {K : Nat → Option ρ} {K' : Nat → Option ρ'} (h : ∀ v, K v = (K' v).bind G) : gU E σ a K = (gU E σ a K').bind G := by
  unfold gU
  split
  · split
    · exact h _
    · rfl
  · exact xb_gR h
theorem xb_gC {E : xEn} {σ : xH} {a : Nat} {K : Int32 → Option ρ} {K' : Int32 → Option ρ'} (h : ∀ v, K v = (K' v).bind G) : gC E σ a K = (gC E σ a K').bind G := by
  unfold gC
  split
  · split
    · exact h _
    · rfl
  · exact xb_gI h
theorem xb_xans {T : xR → Option ρ} {T' : xR → Option ρ'} (hT : ∀ r, T r = (T' r).bind G) {tag : Nat} {r : Option xR} {k : List Value → xH → Option ρ} {k' : List Value → xH → Option ρ'} (h : ∀ v σ, k v σ = (k' v σ).bind G) : xans T tag r k = (xans T' tag r k').bind G := by
  unfold xans
  split
  · unfold cI; split <;> first | exact h _ _ | exact hT _ | rfl
  · unfold cL; split <;> first | exact h _ _ | exact hT _ | rfl
  · unfold cA; split <;> first | exact h _ _ | exact hT _ | rfl
  · unfold cF; split <;> first | exact h _ _ | exact hT _ | rfl
  · unfold cD; split <;> first | exact h _ _ | exact hT _ | rfl
  · unfold cV; split <;> first | exact h _ _ | exact hT _ | rfl
  · rfl
theorem xb_xfld {σ : xH} {info : List Nat} {a : Nat} {k : Value → Option ρ} {k' : Value → Option ρ'} (h : ∀ v, k v = (k' v).bind G) : xfld σ info a k = (xfld σ info a k').bind G := by
  unfold xfld
  split
  · exact xb_gI (fun _ => h _)
  · exact xb_gI (fun _ => h _)
  · exact xb_gI (fun _ => h _)
  · exact xb_gL (fun _ => h _)
  · exact xb_gR (fun _ => h _)
  · rfl
theorem xb_xput {σ : xH} {info : List Nat} {a : Nat} {v : Value} {k : xH → Option ρ} {k' : xH → Option ρ'} (h : ∀ v, k v = (k' v).bind G) : xput σ info a v k = (xput σ info a v k').bind G := by
  unfold xput
  split
  · exact xb_gP h
  · split
    · exact xb_gP h
    · rfl
  · split
    · exact xb_gP h
    · rfl
  · exact xb_gP h
  · exact xb_gP h
  · rfl
theorem xb_xthr {k : Nat} {T : xR → Option ρ} {T' : xR → Option ρ'} (hT : ∀ r, T r = (T' r).bind G) (r : xR) : xthr k T r = (xthr k T' r).bind G := xb_if (hT r)
theorem xb_xcall {E : xEn} {call : Nat → List Value → xH → Option xR} {MC MS : Nat} {T : xR → Option ρ} {T' : xR → Option ρ'} (hT : ∀ r, T r = (T' r).bind G) {info : List Nat} {st : List Value} {σ : xH} {bc bs : Nat} {k : List Value → xH → Nat → Nat → Option ρ} {k' : List Value → xH → Nat → Nat → Option ρ'} (h : ∀ st σ bc bs, k st σ bc bs = (k' st σ bc bs).bind G) : xcall E call MC MS T info st σ bc bs k = (xcall E call MC MS T' info st σ bc bs k').bind G := by
  unfold xcall
  split
  · refine xb_if ?_
    split
    · exact xb_xans (xb_xthr hT) (fun _ _ => h _ _ _ _)
    · split
      · exact xb_gO (xb_xans (xb_xthr hT) (fun _ _ => h _ _ _ _))
      · rfl
  · rfl
theorem xb_xprim {E : xEn} {prim : Nat} {st : List Value} {σ : xH} {k : List Value → xH → Option ρ} {k' : List Value → xH → Option ρ'} (h : ∀ st σ, k st σ = (k' st σ).bind G) : xprim E prim st σ k = (xprim E prim st σ k').bind G := by
  unfold xprim
  split <;> first | exact h _ _ | exact xb_cpI (fun _ => h _ _) | rfl
theorem xb_xcc {c : ClassFile.Cond} {x y : Int32} {t f : Option ρ} {t' f' : Option ρ'} (ht : t = t'.bind G) (hf : f = f'.bind G) : xcc c x y t f = (xcc c x y t' f').bind G := by
  unfold xcc
  cases c <;> dsimp only <;> split <;> assumption
theorem xb_xsw {x : Int32} {d : Nat} {K : Nat → Option ρ} {K' : Nat → Option ρ'} (h : ∀ t, K t = (K' t).bind G) : ∀ (ts : List Nat) (lo : Nat), xsw x d K lo ts = (xsw x d K' lo ts).bind G := by
  intro ts
  induction ts with
  | nil => exact fun lo => h d
  | cons t ts ih =>
    intro lo
    unfold xsw
    split
    · exact h t
    · exact ih _
theorem xb_ite {c : Prop} [Decidable c] {x y : Option ρ} {x' y' : Option ρ'} (hx : x = x'.bind G) (hy : y = y'.bind G) : (if c then x else y) = (if c then x' else y').bind G := by
  split <;> assumption
theorem xb_kkI {o : Option Value} {k : Int32 → Option ρ} {k' : Int32 → Option ρ'} (h : ∀ x, k x = (k' x).bind G) : kkI o k = (kkI o k').bind G := by
  unfold kkI; split <;> first | exact h _ | rfl
theorem xb_t1I {st : List Value} {k : Int32 → List Value → Option ρ} {k' : Int32 → List Value → Option ρ'} (h : ∀ x st, k x st = (k' x st).bind G) : t1I st k = (t1I st k').bind G := by
  unfold t1I; split <;> first | exact h _ _ | rfl
theorem xb_t2I {st : List Value} {k : Int32 → Int32 → List Value → Option ρ} {k' : Int32 → Int32 → List Value → Option ρ'} (h : ∀ x y st, k x y st = (k' x y st).bind G) : t2I st k = (t2I st k').bind G := by
  unfold t2I; split <;> first | exact h _ _ _ | rfl
theorem xb_kkL {o : Option Value} {k : Int64 → Option ρ} {k' : Int64 → Option ρ'} (h : ∀ x, k x = (k' x).bind G) : kkL o k = (kkL o k').bind G := by
  unfold kkL; split <;> first | exact h _ | rfl
theorem xb_t1L {st : List Value} {k : Int64 → List Value → Option ρ} {k' : Int64 → List Value → Option ρ'} (h : ∀ x st, k x st = (k' x st).bind G) : t1L st k = (t1L st k').bind G := by
  unfold t1L; split <;> first | exact h _ _ | rfl
theorem xb_t2L {st : List Value} {k : Int64 → Int64 → List Value → Option ρ} {k' : Int64 → Int64 → List Value → Option ρ'} (h : ∀ x y st, k x y st = (k' x y st).bind G) : t2L st k = (t2L st k').bind G := by
  unfold t2L; split <;> first | exact h _ _ _ | rfl
theorem xb_kkF {o : Option Value} {k : UInt32 → Option ρ} {k' : UInt32 → Option ρ'} (h : ∀ x, k x = (k' x).bind G) : kkF o k = (kkF o k').bind G := by
  unfold kkF; split <;> first | exact h _ | rfl
theorem xb_t1F {st : List Value} {k : UInt32 → List Value → Option ρ} {k' : UInt32 → List Value → Option ρ'} (h : ∀ x st, k x st = (k' x st).bind G) : t1F st k = (t1F st k').bind G := by
  unfold t1F; split <;> first | exact h _ _ | rfl
theorem xb_t2F {st : List Value} {k : UInt32 → UInt32 → List Value → Option ρ} {k' : UInt32 → UInt32 → List Value → Option ρ'} (h : ∀ x y st, k x y st = (k' x y st).bind G) : t2F st k = (t2F st k').bind G := by
  unfold t2F; split <;> first | exact h _ _ _ | rfl
theorem xb_kkD {o : Option Value} {k : UInt64 → Option ρ} {k' : UInt64 → Option ρ'} (h : ∀ x, k x = (k' x).bind G) : kkD o k = (kkD o k').bind G := by
  unfold kkD; split <;> first | exact h _ | rfl
theorem xb_t1D {st : List Value} {k : UInt64 → List Value → Option ρ} {k' : UInt64 → List Value → Option ρ'} (h : ∀ x st, k x st = (k' x st).bind G) : t1D st k = (t1D st k').bind G := by
  unfold t1D; split <;> first | exact h _ _ | rfl
theorem xb_t2D {st : List Value} {k : UInt64 → UInt64 → List Value → Option ρ} {k' : UInt64 → UInt64 → List Value → Option ρ'} (h : ∀ x y st, k x y st = (k' x y st).bind G) : t2D st k = (t2D st k').bind G := by
  unfold t2D; split <;> first | exact h _ _ _ | rfl
theorem xb_kkA {o : Option Value} {k : Nat → Option ρ} {k' : Nat → Option ρ'} (h : ∀ x, k x = (k' x).bind G) : kkA o k = (kkA o k').bind G := by
  unfold kkA; split <;> first | exact h _ | rfl
theorem xb_t1A {st : List Value} {k : Nat → List Value → Option ρ} {k' : Nat → List Value → Option ρ'} (h : ∀ x st, k x st = (k' x st).bind G) : t1A st k = (t1A st k').bind G := by
  unfold t1A; split <;> first | exact h _ _ | rfl
theorem xb_t2A {st : List Value} {k : Nat → Nat → List Value → Option ρ} {k' : Nat → Nat → List Value → Option ρ'} (h : ∀ x y st, k x y st = (k' x y st).bind G) : t2A st k = (t2A st k').bind G := by
  unfold t2A; split <;> first | exact h _ _ _ | rfl
theorem xb_t3I {st : List Value} {k : Int32 → Int32 → Nat → List Value → Option ρ} {k' : Int32 → Int32 → Nat → List Value → Option ρ'} (h : ∀ x i a st, k x i a st = (k' x i a st).bind G) : t3I st k = (t3I st k').bind G := by
  unfold t3I; split <;> first | exact h _ _ _ _ | rfl
theorem xb_t3L {st : List Value} {k : Int64 → Int32 → Nat → List Value → Option ρ} {k' : Int64 → Int32 → Nat → List Value → Option ρ'} (h : ∀ x i a st, k x i a st = (k' x i a st).bind G) : t3L st k = (t3L st k').bind G := by
  unfold t3L; split <;> first | exact h _ _ _ _ | rfl
theorem xb_t3D {st : List Value} {k : UInt64 → Int32 → Nat → List Value → Option ρ} {k' : UInt64 → Int32 → Nat → List Value → Option ρ'} (h : ∀ x i a st, k x i a st = (k' x i a st).bind G) : t3D st k = (t3D st k').bind G := by
  unfold t3D; split <;> first | exact h _ _ _ _ | rfl
theorem xb_t3A {st : List Value} {k : Nat → Int32 → Nat → List Value → Option ρ} {k' : Nat → Int32 → Nat → List Value → Option ρ'} (h : ∀ x i a st, k x i a st = (k' x i a st).bind G) : t3A st k = (t3A st k').bind G := by
  unfold t3A; split <;> first | exact h _ _ _ _ | rfl
theorem xb_t2X {st : List Value} {k : Int32 → Nat → List Value → Option ρ} {k' : Int32 → Nat → List Value → Option ρ'} (h : ∀ i a st, k i a st = (k' i a st).bind G) : t2X st k = (t2X st k').bind G := by
  unfold t2X; split <;> first | exact h _ _ _ | rfl
theorem xb_tV {st : List Value} {k : Value → List Value → Option ρ} {k' : Value → List Value → Option ρ'} (h : ∀ v st, k v st = (k' v st).bind G) : tV st k = (tV st k').bind G := by
  unfold tV; split <;> first | exact xb_if (h _ _) | rfl
theorem xb_tVA {st : List Value} {k : Value → Nat → List Value → Option ρ} {k' : Value → Nat → List Value → Option ρ'} (h : ∀ v a st, k v a st = (k' v a st).bind G) : tVA st k = (tVA st k').bind G := by
  unfold tVA; split <;> first | exact h _ _ _ | rfl
theorem xb_t0 {st : List Value} {k : Option ρ} {k' : Option ρ'} (h : k = k'.bind G) : t0 st k = (t0 st k').bind G := by
  unfold t0; split <;> first | exact h | rfl
theorem xb_i1 {info : List Nat} {k : Nat → Option ρ} {k' : Nat → Option ρ'} (h : ∀ t, k t = (k' t).bind G) : i1 info k = (i1 info k').bind G := by
  unfold i1; split <;> first | exact h _ | rfl
theorem xb_iSw {info : List Nat} {k : Nat → Nat → List Nat → Option ρ} {k' : Nat → Nat → List Nat → Option ρ'} (h : ∀ d lo ts, k d lo ts = (k' d lo ts).bind G) : iSw info k = (iSw info k').bind G := by
  unfold iSw; split <;> first | exact h _ _ _ | rfl
theorem xb_nz {b : Bool} {x : Option ρ} {y : Option ρ'} (h : x = y.bind G) : nz b x = (nz b y).bind G := xb_if h
theorem xb_iK {E : xEn} {info : List Nat} {k : Value → Option ρ} {k' : Value → Option ρ'} (h : ∀ v, k v = (k' v).bind G) : iK E info k = (iK E info k').bind G := by
  unfold iK; split <;> first | exact h _ | exact xb_if (h _) | rfl
theorem xb_iK2 {info : List Nat} {k : Int64 → Option ρ} {k' : Int64 → Option ρ'} (h : ∀ v, k v = (k' v).bind G) : iK2 info k = (iK2 info k').bind G := by
  unfold iK2; split <;> first | exact h _ | rfl
theorem xb_iD {info : List Nat} {k : UInt64 → Option ρ} {k' : UInt64 → Option ρ'} (h : ∀ v, k v = (k' v).bind G) : iD info k = (iD info k').bind G := by
  unfold iD; split <;> first | exact h _ | rfl
theorem xb_iF {info : List Nat} {k : UInt32 → Option ρ} {k' : UInt32 → Option ρ'} (h : ∀ v, k v = (k' v).bind G) : iF info k = (iF info k').bind G := by
  unfold iF; split <;> first | exact h _ | rfl
theorem xb_xgf {E : xEn} {σ : xH} {info : List Nat} {a : Nat} {k : Value → Option ρ} {k' : Value → Option ρ'} (h : ∀ v, k v = (k' v).bind G) : xgf E σ info a k = (xgf E σ info a k').bind G := by
  unfold xgf
  split
  · split <;> first | exact h _ | rfl
  · exact xb_gU (fun _ => h _)
  · exact xb_gC (fun _ => h _)
  · exact xb_xfld h
theorem xb_xgs {E : xEn} {info : List Nat} {k : Value → Option ρ} {k' : Value → Option ρ'} (h : ∀ v, k v = (k' v).bind G) : xgs E info k = (xgs E info k').bind G := by
  unfold xgs
  split <;> first | exact h _ | exact xb_if (h _) | rfl
theorem xb_xnew {MC MS : Nat} {fin : xR → Option ρ} {fin' : xR → Option ρ'} (hfin : ∀ r, fin r = (fin' r).bind G) {info : List Nat} {st : List Value} {σ : xH} {bc bs : Nat} {k : List Value → xH → Nat → Nat → Option ρ} {k' : List Value → xH → Nat → Nat → Option ρ'} (h : ∀ st σ bc bs, k st σ bc bs = (k' st σ bc bs).bind G) : xnew MC MS fin info st σ bc bs k = (xnew MC MS fin' info st σ bc bs k').bind G := by
  unfold xnew; split <;> first | exact xb_if (h _ _ _ _) | exact xb_if (hfin _) | rfl
theorem xb_xnewa {MC MS : Nat} {x : Nat → (Nat → Int32) ⊕ (Nat → Int64) ⊕ (Nat → UInt32) ⊕ (Nat → UInt64) ⊕ (Nat → Option Nat)} {info : List Nat} {st : List Value} {σ : xH} {bc bs : Nat} {k : List Value → xH → Nat → Nat → Option ρ} {k' : List Value → xH → Nat → Nat → Option ρ'} (h : ∀ st σ bc bs, k st σ bc bs = (k' st σ bc bs).bind G) : xnewa MC MS x info st σ bc bs k = (xnewa MC MS x info st σ bc bs k').bind G := xb_t1I fun _ _ => xb_i1 fun _ => xb_if (h _ _ _ _)
theorem xb_xinv {E : xEn} {call : Nat → List Value → xH → Option xR} {MC MS : Nat} {fin : xR → Option ρ} {fin' : xR → Option ρ'} (hfin : ∀ r, fin r = (fin' r).bind G) {info : List Nat} {st : List Value} {σ : xH} {bc bs : Nat} {pr : Nat → Option ρ} {pr' : Nat → Option ρ'} (hp : ∀ p, pr p = (pr' p).bind G) {k : List Value → xH → Nat → Nat → Option ρ} {k' : List Value → xH → Nat → Nat → Option ρ'} (h : ∀ st σ bc bs, k st σ bc bs = (k' st σ bc bs).bind G) : xinv E call MC MS fin info st σ bc bs pr k = (xinv E call MC MS fin' info st σ bc bs pr' k').bind G := by
  unfold xinv; split <;> first | exact hp _ | exact xb_xcall hfin h
theorem xb_xinit {E : xEn} {call : Nat → List Value → xH → Option xR} {MC MS : Nat} {fin : xR → Option ρ} {fin' : xR → Option ρ'} (hfin : ∀ r, fin r = (fin' r).bind G) {info : List Nat} {st : List Value} {σ : xH} {bc bs : Nat} {k : List Value → xH → Nat → Nat → Option ρ} {k' : List Value → xH → Nat → Nat → Option ρ'} (h : ∀ st σ bc bs, k st σ bc bs = (k' st σ bc bs).bind G) : xinit E call MC MS fin info st σ bc bs k = (xinit E call MC MS fin' info st σ bc bs k').bind G := by
  unfold xinit; split <;> first | exact xb_t1A (fun _ _ => xb_if (h _ _ _ _)) | exact xb_xcall hfin h
theorem xb_xiret {info : List Nat} {x : Int32} {k : Option ρ} {k' : Option ρ'} (h : k = k'.bind G) : xiret info x k = (xiret info x k').bind G := by
  unfold xiret; split <;> first | exact h | exact xb_if h | rfl
theorem xb_xac {c : ACond} {b : Bool} {t f : Option ρ} {t' f' : Option ρ'} (ht : t = t'.bind G) (hf : f = f'.bind G) : xac c b t f = (xac c b t' f').bind G := by
  unfold xac; cases c <;> cases b <;> assumption
theorem xb_step {E : xEn} {call : Nat → List Value → xH → Option xR} {MC MS : Nat} {fin : xR → Option ρ} {fin' : xR → Option ρ'} (hfin : ∀ r, fin r = (fin' r).bind G)
    {K : Nat → xL → List Value → xH → Nat → Nat → Option ρ} {K' : Nat → xL → List Value → xH → Nat → Nat → Option ρ'} (hK : ∀ t L st σ bc bs, K t L st σ bc bs = (K' t L st σ bc bs).bind G)
    {nx : xL → List Value → xH → Nat → Nat → Option ρ} {nx' : xL → List Value → xH → Nat → Nat → Option ρ'} (hnx : ∀ L st σ bc bs, nx L st σ bc bs = (nx' L st σ bc bs).bind G)
    (ins : Instr) (info : List Nat) (L : xL) (st : List Value) (σ : xH) (bc bs : Nat) :
    xstep E call MC MS fin K nx ins info L st σ bc bs = (xstep E call MC MS fin' K' nx' ins info L st σ bc bs).bind G := by
  cases ins with
  | iconst i => exact hnx _ _ _ _ _
  | bipush i => exact hnx _ _ _ _ _
  | sipush i => exact hnx _ _ _ _ _
  | lconst i => exact hnx _ _ _ _ _
  | dconst i => exact xb_iD (fun _ => hnx _ _ _ _ _)
  | fconst i => show (iF info (fun v => nx L (.float v :: st) σ bc bs)) = (iF info (fun v => nx' L (.float v :: st) σ bc bs)).bind G; exact xb_iF (fun _ => hnx _ _ _ _ _)
  | ldc i => show (iK E info (fun v => nx L (v :: st) σ bc bs)) = (iK E info (fun v => nx' L (v :: st) σ bc bs)).bind G; exact xb_iK (fun _ => hnx _ _ _ _ _)
  | ldc_w i => show (iK E info (fun v => nx L (v :: st) σ bc bs)) = (iK E info (fun v => nx' L (v :: st) σ bc bs)).bind G; exact xb_iK (fun _ => hnx _ _ _ _ _)
  | ldc2_w i => show (iK2 info (fun v => nx L (.long v :: st) σ bc bs)) = (iK2 info (fun v => nx' L (.long v :: st) σ bc bs)).bind G; exact xb_iK2 (fun _ => hnx _ _ _ _ _)
  | iload i => exact xb_kkI (fun _ => hnx _ _ _ _ _)
  | iload_n i => exact xb_kkI (fun _ => hnx _ _ _ _ _)
  | lload i => exact xb_kkL (fun _ => hnx _ _ _ _ _)
  | lload_n i => exact xb_kkL (fun _ => hnx _ _ _ _ _)
  | dload i => exact xb_kkD (fun _ => hnx _ _ _ _ _)
  | aload i => exact xb_kkA (fun _ => hnx _ _ _ _ _)
  | aload_n i => exact xb_kkA (fun _ => hnx _ _ _ _ _)
  | istore i => exact xb_t1I (fun _ _ => hnx _ _ _ _ _)
  | istore_n i => exact xb_t1I (fun _ _ => hnx _ _ _ _ _)
  | lstore i => exact xb_t1L (fun _ _ => hnx _ _ _ _ _)
  | lstore_n i => exact xb_t1L (fun _ _ => hnx _ _ _ _ _)
  | dstore i => exact xb_t1D (fun _ _ => hnx _ _ _ _ _)
  | astore i => exact xb_t1A (fun _ _ => hnx _ _ _ _ _)
  | astore_n i => exact xb_t1A (fun _ _ => hnx _ _ _ _ _)
  | iinc i c => exact xb_kkI (fun _ => hnx _ _ _ _ _)
  | iadd => exact xb_t2I (fun _ _ _ => hnx _ _ _ _ _)
  | isub => exact xb_t2I (fun _ _ _ => hnx _ _ _ _ _)
  | imul => exact xb_t2I (fun _ _ _ => hnx _ _ _ _ _)
  | iand => exact xb_t2I (fun _ _ _ => hnx _ _ _ _ _)
  | ior => exact xb_t2I (fun _ _ _ => hnx _ _ _ _ _)
  | ixor => exact xb_t2I (fun _ _ _ => hnx _ _ _ _ _)
  | aconst_null => exact hnx _ _ _ _ _
  | ifnonnull o => exact xb_t1A (fun _ _ => xb_i1 (fun _ => hK _ _ _ _ _ _))
  | ineg => exact xb_t1I (fun _ _ => hnx _ _ _ _ _)
  | dup_x1 => exact xb_tV (fun _ _ => xb_tV (fun _ _ => hnx _ _ _ _ _))
  | checkcast i => exact xb_t1A (fun _ _ => xb_i1 (fun _ => xb_xck (hnx _ _ _ _ _)))
  | ishl => exact xb_t2I (fun _ _ _ => hnx _ _ _ _ _)
  | ishr => exact xb_t2I (fun _ _ _ => hnx _ _ _ _ _)
  | idiv => exact xb_t2I (fun _ _ _ => xb_nz (hnx _ _ _ _ _))
  | irem => exact xb_t2I (fun _ _ _ => xb_nz (hnx _ _ _ _ _))
  | ladd => exact xb_t2L (fun _ _ _ => hnx _ _ _ _ _)
  | lsub => exact xb_t2L (fun _ _ _ => hnx _ _ _ _ _)
  | lmul => exact xb_t2L (fun _ _ _ => hnx _ _ _ _ _)
  | ldiv => exact xb_t2L (fun _ _ _ => xb_nz (hnx _ _ _ _ _))
  | lrem => exact xb_t2L (fun _ _ _ => xb_nz (hnx _ _ _ _ _))
  | lcmp => exact xb_t2L (fun _ _ _ => hnx _ _ _ _ _)
  | i2l => exact xb_t1I (fun _ _ => hnx _ _ _ _ _)
  | l2i => exact xb_t1L (fun _ _ => hnx _ _ _ _ _)
  | i2b => exact xb_t1I (fun _ _ => hnx _ _ _ _ _)
  | i2c => exact xb_t1I (fun _ _ => hnx _ _ _ _ _)
  | i2d => exact xb_t1I (fun _ _ => hnx _ _ _ _ _)
  | l2d => exact xb_t1L (fun _ _ => hnx _ _ _ _ _)
  | i2f => exact xb_t1I (fun _ _ => hnx _ _ _ _ _)
  | l2f => exact xb_t1L (fun _ _ => hnx _ _ _ _ _)
  | f2d => exact xb_t1F (fun _ _ => xb_nz (hnx _ _ _ _ _))
  | fdiv => exact xb_t2F (fun _ _ _ => xb_nz (hnx _ _ _ _ _))
  | fsub => exact xb_t2F (fun _ _ _ => xb_nz (hnx _ _ _ _ _))
  | ddiv => exact xb_t2D (fun _ _ _ => xb_nz (hnx _ _ _ _ _))
  | dcmp o => exact xb_t2D (fun _ _ _ => hnx _ _ _ _ _)
  | dup => exact xb_tV (fun _ _ => hnx _ _ _ _ _)
  | dup2 => exact xb_tV (fun _ _ => xb_tV (fun _ _ => hnx _ _ _ _ _))
  | pop => exact xb_tV (fun _ _ => hnx _ _ _ _ _)
  | ifCond c o => exact xb_t1I (fun _ _ => xb_i1 (fun _ => xb_xcc (hK _ _ _ _ _ _) (hnx _ _ _ _ _)))
  | if_icmp c o => exact xb_t2I (fun _ _ _ => xb_i1 (fun _ => xb_xcc (hK _ _ _ _ _ _) (hnx _ _ _ _ _)))
  | if_acmp c o => exact xb_t2A (fun _ _ _ => xb_i1 (fun _ => xb_xac (hK _ _ _ _ _ _) (hnx _ _ _ _ _)))
  | goto o => exact xb_i1 (fun _ => hK _ _ _ _ _ _)
  | tableswitch a b c d => exact xb_t1I (fun _ _ => xb_iSw (fun _ _ _ => xb_xsw (fun _ => hK _ _ _ _ _ _) _ _))
  | getfield i => exact xb_t1A (fun _ _ => xb_xgf (fun _ => hnx _ _ _ _ _))
  | putfield i => exact xb_tVA (fun _ _ _ => xb_xput (fun _ => hnx _ _ _ _ _))
  | getstatic i => show (xgs E info (fun v => nx L (v :: st) σ bc bs)) = (xgs E info (fun v => nx' L (v :: st) σ bc bs)).bind G; exact xb_xgs (fun _ => hnx _ _ _ _ _)
  | iaload => exact xb_t2X (fun _ _ _ => xb_aI (fun _ => hnx _ _ _ _ _))
  | baload => exact xb_t2X (fun _ _ _ => xb_aB (fun _ => hnx _ _ _ _ _))
  | laload => exact xb_t2X (fun _ _ _ => xb_aL (fun _ => hnx _ _ _ _ _))
  | daload => exact xb_t2X (fun _ _ _ => xb_aD (fun _ => hnx _ _ _ _ _))
  | aaload => exact xb_t2X (fun _ _ _ => xb_aQ (fun _ => hnx _ _ _ _ _))
  | arraylength => exact xb_t1A (fun _ _ => xb_aN (fun _ => hnx _ _ _ _ _))
  | iastore => exact xb_t3I (fun _ _ _ _ => xb_sI (fun _ => hnx _ _ _ _ _))
  | bastore => exact xb_t3I (fun _ _ _ _ => xb_sB (fun _ => hnx _ _ _ _ _))
  | lastore => exact xb_t3L (fun _ _ _ _ => xb_sL (fun _ => hnx _ _ _ _ _))
  | dastore => exact xb_t3D (fun _ _ _ _ => xb_sD (fun _ => hnx _ _ _ _ _))
  | aastore => exact xb_t3A (fun _ _ _ _ => xb_sQ (fun _ => hnx _ _ _ _ _))
  | new i => exact xb_xnew hfin (fun _ _ _ _ => hnx _ _ _ _ _)
  | newarray i => exact xb_xnewa (fun _ _ _ _ => hnx _ _ _ _ _)
  | anewarray i => exact xb_xnewa (fun _ _ _ _ => hnx _ _ _ _ _)
  | invokespecial i => exact xb_xinit hfin (fun _ _ _ _ => hnx _ _ _ _ _)
  | invokevirtual i => exact xb_xinv hfin (fun _ => xb_nz (xb_xprim (fun _ _ => hnx _ _ _ _ _))) (fun _ _ _ _ => hnx _ _ _ _ _)
  | invokestatic i => exact xb_xinv hfin (fun _ => xb_nz (xb_xprim (fun _ _ => hnx _ _ _ _ _))) (fun _ _ _ _ => hnx _ _ _ _ _)
  | ireturn => exact xb_t1I (fun _ _ => xb_t0 (xb_xiret (hfin _)))
  | lreturn => exact xb_t1L (fun _ _ => xb_t0 (hfin _))
  | freturn => exact xb_t1F (fun _ _ => xb_t0 (hfin _))
  | dreturn => exact xb_t1D (fun _ _ => xb_t0 (hfin _))
  | areturn => exact xb_t1A (fun _ _ => xb_t0 (hfin _))
  | return_ => exact xb_t0 (hfin _)
  | _ => rfl
end PAR
/-! a block: instructions one behind another -/
section BLK
variable {ρ : Type}
def exB (E : xEn) (call : Nat → List Value → xH → Option xR) (MC MS : Nat) (fin : xR → Option ρ) (K : Nat → xL → List Value → xH → Nat → Nat → Option ρ) (ep : Nat) : List xI → xL → List Value → xH → Nat → Nat → Option ρ
  | [] => fun L st σ bc bs => K ep L st σ bc bs
  | i :: r => fun L st σ bc bs => xstep E call MC MS fin K (exB E call MC MS fin K ep r) i.2.1 i.2.2 L st σ bc bs
end BLK
theorem xb_exB {ρ ρ' : Type} {G : ρ' → Option ρ} {E : xEn} {call : Nat → List Value → xH → Option xR} {MC MS : Nat} {fin : xR → Option ρ} {fin' : xR → Option ρ'} (hfin : ∀ r, fin r = (fin' r).bind G)
    {K : Nat → xL → List Value → xH → Nat → Nat → Option ρ} {K' : Nat → xL → List Value → xH → Nat → Nat → Option ρ'} (hK : ∀ t L st σ bc bs, K t L st σ bc bs = (K' t L st σ bc bs).bind G) (ep : Nat) :
    ∀ (is : List xI) (L : xL) (st : List Value) (σ : xH) (bc bs : Nat), exB E call MC MS fin K ep is L st σ bc bs = (exB E call MC MS fin' K' ep is L st σ bc bs).bind G := by
  intro is
  induction is with
  | nil => exact fun _ _ _ _ _ => hK _ _ _ _ _ _
  | cons i r ih => exact fun L st σ bc bs => xb_step hfin hK ih _ _ _ _ _ _ _
