/-! A METHOD'S RUN: block by block; its value is what some number of blocks comes to. -/
abbrev xBl : Type := List (Nat × List Nat × List xI × Nat)
def xlk : xBl → Nat → Option (List Nat × List xI × Nat)
  | [], _ => none
  | b :: bs, pc => bif Nat.beq b.1 pc then some b.2 else xlk bs pc
noncomputable def xli {α : Type} (f : Nat → Option α) : Option α := @dite _ (∃ r, ∃ n, f n = some r) (Classical.propDecidable _) (fun h => some h.choose) (fun _ => none)
theorem xli_some {α : Type} {f : Nat → Option α} (hm : ∀ n r, f n = some r → f (n + 1) = some r) {n : Nat} {r : α} (h : f n = some r) : xli f = some r := by
  have up : ∀ k m r, f m = some r → f (m + k) = some r := by
    intro k
    induction k with
    | zero => exact fun _ _ h => h
    | succ k ih => exact fun m r h => hm _ _ (ih m r h)
  have hx : ∃ r, ∃ n, f n = some r := ⟨r, n, h⟩
  unfold xli
  rw [dif_pos hx]
  obtain ⟨n', h'⟩ := hx.choose_spec
  have h1 := up n' n r h
  have h2 := up n n' _ h'
  rw [Nat.add_comm] at h2
  rw [h2] at h1
  exact h1
theorem xli_of {α : Type} {f : Nat → Option α} {r : α} (h : xli f = some r) : ∃ n, f n = some r := by
  unfold xli at h
  split at h
  · next hx =>
    obtain ⟨n, h'⟩ := hx.choose_spec
    exact ⟨n, by rw [← Option.some.inj h]; exact h'⟩
  · cases h
theorem xli_none {α : Type} {f : Nat → Option α} (h : ∀ n r, f n ≠ some r) : xli f = none := by
  unfold xli
  rw [dif_neg]
  rintro ⟨r, n, hn⟩
  exact h n r hn
section RUN
variable (E : xEn) (call : Nat → List Value → xH → Option xR) (MC MS : Nat) (bl : xBl)
/-- one block, its ways out as data -/
def xex (j : xJ) : Option (xR ⊕ xJ) := match xlk bl j.1 with
  | some b => exB E call MC MS (fun r => some (.inl r)) (fun t L st σ bc bs => some (.inr (t, L, st, σ, bc, bs))) b.2.2 b.2.1 (xpick j.2.1 b.1) j.2.2.1 j.2.2.2.1 j.2.2.2.2.1 j.2.2.2.2.2
  | none => none
def xrn : Nat → xJ → Option xR
  | 0, _ => none
  | n + 1, j => (xex E call MC MS bl j).bind (Sum.elim some (xrn n))
noncomputable def xval (j : xJ) : Option xR := xli (fun n => xrn E call MC MS bl n j)
theorem xrn_mono : ∀ (n : Nat) (j : xJ) (r : xR), xrn E call MC MS bl n j = some r → xrn E call MC MS bl (n + 1) j = some r := by
  intro n
  induction n with
  | zero => exact fun _ _ h => by cases h
  | succ n ih =>
    intro j r h
    unfold xrn at h ⊢
    cases hx : xex E call MC MS bl j with
    | none => rw [hx] at h; cases h
    | some x =>
      rw [hx] at h
      cases x with
      | inl q => exact h
      | inr j' => exact ih j' r h
theorem xval_some {n : Nat} {j : xJ} {r : xR} (h : xrn E call MC MS bl n j = some r) : xval E call MC MS bl j = some r := xli_some (fun n r => xrn_mono E call MC MS bl n j r) h
theorem xval_eq (j : xJ) : xval E call MC MS bl j = (xex E call MC MS bl j).bind (Sum.elim some (xval E call MC MS bl)) := by
  cases hx : xex E call MC MS bl j with
  | none =>
    refine xli_none (fun n r h => ?_)
    cases n with
    | zero => cases h
    | succ n => unfold xrn at h; rw [hx] at h; cases h
  | some x =>
    cases x with
    | inl q => exact xval_some E call MC MS bl (n := 1) (by unfold xrn; rw [hx]; rfl)
    | inr j' =>
      show _ = xval E call MC MS bl j'
      cases hv : xval E call MC MS bl j' with
      | none =>
        refine xli_none (fun n r h => ?_)
        cases n with
        | zero => cases h
        | succ n =>
          unfold xrn at h
          rw [hx] at h
          have h1 : xval E call MC MS bl j' = some r := xval_some E call MC MS bl (n := n) h
          rw [hv] at h1
          cases h1
      | some r =>
        obtain ⟨n, hn⟩ := xli_of hv
        exact xval_some E call MC MS bl (n := n + 1) (by unfold xrn; rw [hx]; exact hn)
/-- from a block's head, its ways out as continuations -/
theorem xval_blk {pc : Nat} {b : List Nat × List xI × Nat} (hb : xlk bl pc = some b) (L : xL) (st : List Value) (σ : xH) (bc bs : Nat) :
    xval E call MC MS bl (pc, L, st, σ, bc, bs) = exB E call MC MS some (fun t L st σ bc bs => xval E call MC MS bl (t, L, st, σ, bc, bs)) b.2.2 b.2.1 (xpick L b.1) st σ bc bs := by
  rw [xval_eq]
  unfold xex
  dsimp only
  rw [hb]
  exact (xb_exB (G := Sum.elim some (xval E call MC MS bl)) (fun _ => rfl) (fun _ _ _ _ _ _ => rfl) _ _ _ _ _ _ _).symm
end RUN
/-- a method: its name, its bytes, how many locals, what it answers, the cells and slots that it may make; the table: its blocks and its class's pool -/
abbrev xMth : Type := MethodName × ByteArray × Nat × Option FieldType × Nat × Nat
abbrev xTab : Type := Nat → Option (xMth × xBl × List (Nat × Nat × List Nat))
/-- the two methods with a handler (the first two rows): what it makes of a throw -/
def xcat1 : Option xR → Option xR
  | some (.inr X, σ) => if X = "java/lang/IllegalStateException" then some (.inl (some (.int (-1001))), (σ.1, σ.2 + 1)) else none
  | r => r
/-- the arguments of the two methods with a handler -/
def xar2 : List Value → Bool
  | [.ref _, .int _] => true
  | _ => false
def xcth : Nat → List Value → Option xR → Option xR
  | 0, a, r => bif xar2 a then xcat1 r else none
  | 1, a, r => bif xar2 a then xcat1 r else none
  | _ + 2, _, r => r
/-- the methods' values, calls nested at most d deep -/
noncomputable def xsem (T : xTab) (E : xEn) : Nat → Nat → List Value → xH → Option xR
  | 0 => fun _ _ _ => none
  | d + 1 => fun key args σ => xcth key args <| match T key with
    | some (M, bl, _) => bif Nat.ble (xcat args) M.2.2.1 then xval E (xsem T E d) M.2.2.2.2.1 M.2.2.2.2.2 bl (0, lv_args 0 args, [], σ, 0, 0) else none
    | none => none
