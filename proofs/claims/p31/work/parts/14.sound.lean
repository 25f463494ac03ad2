/-! BLOCKS, RUNS, METHODS: what the interpreter says of a method is its contract. -/
theorem xpick_has {ls : Array Slot} {nL : Nat} {L : xL} (hl : lv_has ls nL L) (is : List Nat) : lv_has ls nL (xpick L is) := by
  refine ⟨hl.1, hl.2.1, ?_⟩
  induction is with
  | nil => exact fun q hq => absurd hq List.not_mem_nil
  | cons i is ih =>
    intro q hq
    unfold xpick at hq
    split at hq
    · next v hv =>
      rcases List.mem_cons.mp hq with rfl | hq
      · exact xget_has hl hv
      · exact ih q hq
    · exact ih q hq
section SOUND
variable {p : Program} {l : Launch} {e : Env} {s : State} {m : MethodId} {args : Array Value} {below : List Frame} {meth : Method} {c : Code}
variable {lds : xLds} {exs : List (String × Nat × String)} {G : xG} {E : xEn} {A : Nat → Prop} {d MC MS nL : Nat} {call : Nat → List Value → xH → Option xR} {Mt : Nat → Option xMth} {own : String} {ini : Bool} {cc : ByteArray} {ret : Option FieldType} {PO : xPool} {r0 : xR}
theorem x_blk (C : xCx p l s m args meth c lds exs G E A d call Mt own ini cc nL ret PO) {z : xR ⊕ xJ} (hfin : ∀ r, z = .inl r → r0 = r)
    (hj : ∀ t L st σ bc bs, z = .inr (t, L, st, σ, bc, bs) → xTg p l e s m args below meth c d MC MS (vx_MQ below (xQc G A r0) (xXC G A r0) args s MC MS A) G A nL t L st σ bc bs) {ep : Nat} :
    ∀ (is : List xI) (pc : Nat) (L : xL) (st : List Value) (σ : xH) (bc bs : Nat), xokB own ini cc nL ret PO lds exs ep pc is = true →
      exB E call MC MS (fun r => some (.inl r)) (fun t L st σ bc bs => some (.inr (t, L, st, σ, bc, bs))) ep is L st σ bc bs = some z →
      xTg p l e s m args below meth c d MC MS (vx_MQ below (xQc G A r0) (xXC G A r0) args s MC MS A) G A nL pc L st σ bc bs := by
  intro is
  induction is with
  | nil =>
    intro pc L st σ bc bs hok h
    have hpc : pc = ep := Nat.eq_of_beq_eq_true hok
    subst hpc
    exact hj _ _ _ _ _ _ (Option.some.inj h).symm
  | cons i r ih =>
    intro pc L st σ bc bs hok h
    obtain ⟨pc', ins, info⟩ := i
    match r, ih, hok, h with
    | [], ih, hok, h =>
      unfold xokB at hok
      rw [Bool.and_eq_true] at hok
      have hpc : pc = pc' := Nat.eq_of_beq_eq_true hok.1
      subst hpc
      exact x_step C hok.2 hfin hj (fun L st σ bc bs h => hj _ _ _ _ _ _ (Option.some.inj h).symm) h
    | j :: r, ih, hok, h =>
      unfold xokB at hok
      rw [Bool.and_eq_true, Bool.and_eq_true] at hok
      have hpc : pc = pc' := Nat.eq_of_beq_eq_true hok.1
      subst hpc
      exact x_step C hok.2.1 hfin hj (fun L st σ bc bs h => ih j.1 L st σ bc bs hok.2.2 h) h
theorem xlk_mem {bl : xBl} {pc : Nat} {b : List Nat × List xI × Nat} (h : xlk bl pc = some b) : (pc, b) ∈ bl := by
  induction bl with
  | nil => cases h
  | cons q bl ih =>
    unfold xlk at h
    cases hb : Nat.beq q.1 pc
    · rw [hb] at h
      exact List.mem_cons_of_mem _ (ih h)
    · rw [hb] at h
      have := Nat.eq_of_beq_eq_true hb
      subst this
      cases h
      exact List.mem_cons_self
theorem x_rn (C : xCx p l s m args meth c lds exs G E A d call Mt own ini cc nL ret PO) {bl : xBl} (hbl : ∀ b ∈ bl, xokB own ini cc nL ret PO lds exs b.2.2.2 b.1 b.2.2.1 = true) :
    ∀ (n : Nat) (pc : Nat) (L : xL) (st : List Value) (σ : xH) (bc bs : Nat), xrn E call MC MS bl n (pc, L, st, σ, bc, bs) = some r0 →
      xTg p l e s m args below meth c d MC MS (vx_MQ below (xQc G A r0) (xXC G A r0) args s MC MS A) G A nL pc L st σ bc bs := by
  intro n
  induction n with
  | zero => exact fun _ _ _ _ _ _ h => by cases h
  | succ n ih =>
    intro pc L st σ bc bs h
    unfold xrn at h
    cases hx : xex E call MC MS bl (pc, L, st, σ, bc, bs) with
    | none => rw [hx] at h; cases h
    | some z =>
      rw [hx] at h
      unfold xex at hx
      split at hx
      · next b hb =>
        have hok := hbl _ (xlk_mem hb)
        have h1 := x_blk (e := e) (below := below) (r0 := r0) (MC := MC) (MS := MS) C (z := z) (fun r hr => by subst hr; exact (Option.some.inj h).symm) (fun t L st σ bc bs hz => by subst hz; exact ih _ _ _ _ _ _ h) _ _ _ _ _ _ _ hok hx
        exact fun g1 g2 ls H locs hl hS => h1 g1 g2 ls H locs (xpick_has hl _) hS
      · cases hx
end SOUND
theorem lg_sl_len (vs : List Value) : (lg_sl vs).length = xcat vs := by
  induction vs with
  | nil => rfl
  | cons v vs ih =>
    have h : xcat (v :: vs) = v.category + xcat vs := by simp [xcat]
    rw [h, ← ih]
    cases v <;> simp [lg_sl, Value.category] <;> omega
/-- a table's row holds: its blocks are its bytes, its pool is the tables' -/
def xokR (T : xTab) (lds : xLds) (exs : List (String × Nat × String)) (r : xMth × xBl × List (Nat × Nat × List Nat)) : Prop :=
  xcw r.1 = false ∧ plainName r.1.1.cls = true ∧ (∀ b ∈ r.2.1, xokB r.1.1.cls (decide (r.1.1.name = "<init>")) r.1.2.1 r.1.2.2.1 r.1.2.2.2.1 r.2.2 lds exs b.2.2.2 b.1 b.2.2.1 = true) ∧ ∀ q ∈ r.2.2, xokQ r.1.1.cls (fun k => (T k).map (fun r => r.1)) q = true
theorem x_sem {T : xTab} {lds : xLds} {exs : List (String × Nat × String)} (hT : ∀ key r, T key = some r → 2 ≤ key → xokR T lds exs r) {l : Launch} (htr : l.stackTraces = false) (G : xG) (E : xEn) (hH : ∀ key r, T key = some r → key < 2 → ∀ d, (∀ (key : Nat) (M : xMth), (T key).map (fun r => r.1) = some M → xMet lds exs l G E d M (xsem T E d key)) → xMet lds exs l G E (d + 1) r.1 (xsem T E (d + 1) key)) :
    ∀ (d key : Nat) (M : xMth), (T key).map (fun r => r.1) = some M → xMet lds exs l G E d M (xsem T E d key) := by
  intro d
  induction d with
  | zero => intro key M _ av σ r h; cases h
  | succ d ih =>
    intro key M hM
    cases hk : T key with
    | none => rw [hk] at hM; cases hM
    | some row =>
      rw [hk] at hM
      cases hM
      by_cases hk2 : key < 2
      · exact hH key row hk hk2 d ih
      intro av σ r h
      obtain ⟨hcw, hpl, hbl, hPO⟩ := hT key row hk (by omega)
      obtain ⟨⟨y, cc, nL, ret, mc, ms⟩, bl, PO⟩ := row
      have hcw : xcw (y, cc, nL, ret, mc, ms) = false := hcw
      have hxw : xws (y, cc, nL, ret, mc, ms) = Cond.code y cc nL ret :: xWs := by
        unfold xws xhd
        rw [hcw]
        rfl
      unfold xsem at h
      rw [hk, show key = (key - 2) + 2 by omega] at h
      dsimp only [xcth] at h
      obtain ⟨hnl, h⟩ := iv_if h
      have hnl : xcat av ≤ nL := Nat.le_of_ble_eq_true hnl
      obtain ⟨n, hn⟩ := xli_of h
      refine vx_ofW (cc := cc) (maxL := nL) (ret := ret) hpl hxw ?_
      intro p e s m args below meth c s₁ B hml hexc hv
      obtain ⟨rfl, hsz, hWo, hK, hKK⟩ := hv
      have hx := B.exec
      have hb := B.bytes
      have hr := B.returns
      have hts0 := atoms_spec (ws := xws (y, cc, nL, ret, mc, ms)) B.pre
      have hts : ∀ w ∈ xWs, w.before av.toArray s = true := fun w h => hts0 w (List.mem_cons_of_mem _ h)
      have hown : s.vm.findClass y.cls = some m.cls := findClass_of_methodNamed B.named
      have hlocks := B.notSynchronized
      have hname : meth.name = y.name := (name_of_methodNamed B.named B.method).1
      have hA : ∀ q, s.heap.size ≤ q → xA σ q := fun q hq => Or.inr (by rw [← hsz]; exact hq)
      have C : xCx p l s m av.toArray meth c lds exs G E (xA σ) d (xsem T E d) (fun k => (T k).map (fun r => r.1)) y.cls (decide (y.name = "<init>")) cc nL ret PO :=
        ⟨hx, hb, hml, hts, hown, hK, hKK, hA, hexc, hlocks, hr, htr, fun hi => by rw [hname]; exact of_decide_eq_true hi, hPO, fun key M hM => ih key M hM⟩
      have hl := lv_entry av (n := nL) (by rw [lg_sl_len]; exact hnl)
      rw [lg_entry_eq]
      generalize (lg_sl av ++ List.replicate (nL - (lg_sl av).length) Slot.unset).toArray = ls at hl ⊢
      exact x_rn (e := e) (below := below) C hbl n 0 (lv_args 0 av) [] σ 0 0 hn (Nat.zero_le _) (Nat.zero_le _) ls s.heap [] hl ⟨hsz, hWo, fun a ha => Or.inl ha, va_S.rf⟩
