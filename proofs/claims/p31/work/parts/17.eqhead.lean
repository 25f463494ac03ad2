/-! EQUATIONS: from a block's head, the value in the operations' words; targets by what is live there. -/
theorem xget_pick (L : xL) (is : List Nat) (i : Nat) : xget (xpick L is) i = if i ∈ is then xget L i else none := by
  induction is with
  | nil => rfl
  | cons j is ih =>
    unfold xpick
    cases hj : xget L j with
    | none =>
      dsimp only
      rw [ih]
      by_cases h : i = j
      · subst h
        rw [hj]
        simp
      · simp [h]
    | some v =>
      show (bif Nat.beq j i then some v else xget (xpick L is) i) = _
      by_cases h : j = i
      · subst h
        rw [Nat.beq_refl, cond_true, if_pos List.mem_cons_self, hj]
      · rw [Bool.eq_false_iff.2 (fun hb => h (Nat.eq_of_beq_eq_true hb)), cond_false, ih]
        by_cases h2 : i ∈ is
        · rw [if_pos h2, if_pos (List.mem_cons_of_mem _ h2)]
        · rw [if_neg h2, if_neg (fun hm => (List.mem_cons.1 hm).elim (fun e => h e.symm) h2)]
theorem xpick_sub (L : xL) (is : List Nat) : ∀ js : List Nat, (∀ i ∈ js, i ∈ is) → xpick (xpick L is) js = xpick L js := by
  intro js
  induction js with
  | nil => exact fun _ => rfl
  | cons j js ih =>
    intro h
    unfold xpick
    rw [xget_pick, if_pos (h j List.mem_cons_self), ih (fun i hi => h i (List.mem_cons_of_mem _ hi))]
theorem xpick_pick (L : xL) (is : List Nat) : xpick (xpick L is) is = xpick L is := xpick_sub L is is (fun _ h => h)
noncomputable def xkq (E : xEn) (call : Nat → List Value → xH → Option xR) (MC MS : Nat) (bl : xBl) (t : Nat) (L : xL) (st : List Value) (σ : xH) (bc bs : Nat) : Option xR := match xlk bl t with
  | some b => xval E call MC MS bl (t, xpick L b.1, st, σ, bc, bs)
  | none => none
theorem xval_kq (E : xEn) (call : Nat → List Value → xH → Option xR) (MC MS : Nat) (bl : xBl) (t : Nat) (L : xL) (st : List Value) (σ : xH) (bc bs : Nat) : xval E call MC MS bl (t, L, st, σ, bc, bs) = xkq E call MC MS bl t L st σ bc bs := by
  unfold xkq
  cases h : xlk bl t with
  | none =>
    dsimp only
    rw [xval_eq]
    unfold xex
    dsimp only
    rw [h]
    rfl
  | some b =>
    dsimp only
    rw [xval_blk E call MC MS bl h, xval_blk E call MC MS bl h, xpick_pick]
theorem xval_blkQ (E : xEn) (call : Nat → List Value → xH → Option xR) (MC MS : Nat) (bl : xBl) {pc : Nat} {b : List Nat × List xI × Nat} (hb : xlk bl pc = some b) (L : xL) (st : List Value) (σ : xH) (bc bs : Nat) :
    xval E call MC MS bl (pc, L, st, σ, bc, bs) = exB E call MC MS some (xkq E call MC MS bl) b.2.2 b.2.1 (xpick L b.1) st σ bc bs := by
  rw [xval_blk E call MC MS bl hb]
  exact congrArg (fun K => exB E call MC MS some K b.2.2 b.2.1 (xpick L b.1) st σ bc bs) (funext fun t => funext fun L => funext fun st => funext fun σ => funext fun bc => funext fun bs => xval_kq E call MC MS bl t L st σ bc bs)
theorem xnewa_k {ρ : Type} {MC MS k kd bc bs : Nat} {x : Nat → (Nat → Int32) ⊕ (Nat → Int64) ⊕ (Nat → UInt32) ⊕ (Nat → UInt64) ⊕ (Nat → Option Nat)} {st : List Value} {σ : xH} {nx : List Value → xH → Nat → Nat → Option ρ} (h : (Nat.ble (bc + 1) MC && (Nat.ble (bs + k) MS && Nat.ble k 100000)) = true) : xnewa MC MS x [kd] (.int (nI k) :: st) σ bc bs nx = nx (.ref σ.2 :: st) (xup σ.1 σ.2 (.inl (kd, k, x kd)), σ.2 + 1) (bc + 1) (bs + k) := by
  have hk : k < 2 ^ 31 := by
    have h1 := (Bool.and_eq_true_iff.1 (Bool.and_eq_true_iff.1 h).2).2
    have := Nat.le_of_ble_eq_true h1
    omega
  have hc : (nI k).toNatClampNeg = k := nI_clamp hk
  have hl : decide (¬ nI k < 0) = true := decide_eq_true (nI_nlt (Nat.zero_le k) hk)
  show (bif decide (¬ nI k < 0) && (Nat.ble (bc + 1) MC && (Nat.ble (bs + (nI k).toNatClampNeg) MS && Nat.ble (nI k).toNatClampNeg 100000)) then nx (.ref σ.2 :: st) (xup σ.1 σ.2 (.inl (kd, (nI k).toNatClampNeg, x kd)), σ.2 + 1) (bc + 1) (bs + (nI k).toNatClampNeg) else none) = _
  rw [hc, hl, h]
  rfl
def gT {ρ : Type} (E : xEn) (a : Nat) (K : Nat → Option ρ) : Option ρ := match xfind E.1 a 29 with
  | some i => K (E.2.1 (xtt i))
  | none => none
def nwO {ρ : Type} (σ : xH) (ci n : Nat) (K : Nat → xH → Option ρ) : Option ρ := K σ.2 (xup σ.1 σ.2 (.inr (ci, xdef ci n)), σ.2 + 1)
def nwA {ρ : Type} (σ : xH) (k n : Nat) (K : Nat → xH → Option ρ) : Option ρ := K σ.2 (xup σ.1 σ.2 (.inl (k, n, xarr k)), σ.2 + 1)
def nwQ {ρ : Type} (σ : xH) (k n : Nat) (K : Nat → xH → Option ρ) : Option ρ := K σ.2 (xup σ.1 σ.2 (.inl (k, n, .inr (.inr (.inr (.inr fun _ => none))))), σ.2 + 1)
def mxI (x y : Int32) : Int32 := if x < y then y else x
def mnI (x y : Int32) : Int32 := if y < x then y else x
def mxL (x y : Int64) : Int64 := if y < x then x else y
def mnL (x y : Int64) : Int64 := if y < x then y else x
