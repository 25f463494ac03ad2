/-! THE LAW'S WORLD: the class's cells, the reference's, two rows for answers; the law's instructions. -/
def oU (E : xEn) (x y n : Nat) (sh : Nat → Option xSh) (exs : List Nat) (Bd t : Nat) (cr : Option xR) (mr : Nat → Option xR) : Prop :=
  ∃ S' M' w' n', RR S' M' Bd ∧ (∀ a, a ≠ n → w' a = wW E x sh S' a) ∧
    ((∃ v, vtag v = t ∧ cr = some (.inl (some v), (w', n')) ∧ mr n' = some (.inl (some v), (wW E y shM M', n')) ∧ M'.1 0 0 = nI 0) ∨
    (∃ k v ex, vtag v = t ∧ exs[k]? = some ex ∧ cr = some (.inr (xexc ex), (w', n')) ∧ mr n' = some (.inl (some v), (wW E y shM M', n')) ∧ M'.1 0 0 = nI (k + 1)))
theorem oU_of {E : xEn} {x y n : Nat} {sh : Nat → Option xSh} {exs : List Nat} {Bd t : Nat} {cr : Option xR} {mr : Nat → Option xR} (h : ∀ m, oT E x y n m sh exs Bd t cr (mr m)) : oU E x y n sh exs Bd t cr mr := by
  obtain ⟨S0, M0, w0, n0, _, _, h0⟩ := h 0
  have hc : ∃ z, cr = some (z, (w0, n0)) := by
    rcases h0 with ⟨v, _, h0, _⟩ | ⟨k, v, ex, _, _, h0, _⟩
    · exact ⟨_, h0⟩
    · exact ⟨_, h0⟩
  obtain ⟨z, hc⟩ := hc
  obtain ⟨S1, M1, w1, n1, R, e, h1⟩ := h n0
  have hn : n1 = n0 := by
    rcases h1 with ⟨v, _, h1, _⟩ | ⟨k, v, ex, _, _, h1, _⟩
    · rw [hc] at h1
      have h2 := (Prod.mk.inj (Option.some.inj h1)).2
      exact ((Prod.mk.inj h2).2).symm
    · rw [hc] at h1
      have h2 := (Prod.mk.inj (Option.some.inj h1)).2
      exact ((Prod.mk.inj h2).2).symm
  subst hn
  exact ⟨S1, M1, w1, n1, R, e, h1⟩
def lrow (f : Nat → Int64) : va_E := .inl (2, 1, .inr (.inl f))
def drow (g : Nat → UInt64) : va_E := .inl (3, 1, .inr (.inr (.inr (.inl g))))
def lwW (E : xEn) (x : Nat) (sh : Nat → Option xSh) (S M : xSt) (f : Nat → Int64) (g : Nat → UInt64) : Nat → Option va_E := fun a =>
  if a < x + 135 then wW E x sh S a else if a < x + 146 then wW E (x + 135) shM M a else if a = x + 146 then some (lrow f) else if a = x + 147 then some (drow g) else none
section LW
variable {E : xEn} {x : Nat} {sh : Nat → Option xSh} {S S' M M' : xSt} {f f' : Nat → Int64} {g g' : Nat → UInt64}
theorem wW_lt (hsh : ∀ j, 135 ≤ j → sh j = none) {a : Nat} {e : va_E} (h : wW E x sh S a = some e) : x ≤ a ∧ a < x + 135 := by
  unfold wW at h
  cases hb : Nat.ble x a
  · rw [hb] at h
    cases h
  · have hle := Nat.le_of_ble_eq_true hb
    refine ⟨hle, ?_⟩
    by_cases c : a < x + 135
    · exact c
    · rw [hb, cond_true, hsh (a - x) (by omega)] at h
      cases h
theorem wM_lt {y a : Nat} {e : va_E} (h : wW E y shM M a = some e) : y ≤ a ∧ a < y + 11 := by
  unfold wW at h
  cases hb : Nat.ble y a
  · rw [hb] at h
    cases h
  · have hle := Nat.le_of_ble_eq_true hb
    refine ⟨hle, ?_⟩
    by_cases c : a < y + 11
    · exact c
    · obtain ⟨j, hj⟩ : ∃ j, a - y = j + 11 := ⟨a - y - 11, by omega⟩
      rw [hb, cond_true, hj] at h
      cases h
theorem sub_c (hsh : ∀ j, 135 ≤ j → sh j = none) : xsub (wW E x sh S) (lwW E x sh S M f g) := by
  intro a e h
  obtain ⟨h1, h2⟩ := wW_lt hsh h
  unfold lwW
  rw [if_pos h2]
  exact h
theorem sub_m : xsub (wW E (x + 135) shM M) (lwW E x sh S M f g) := by
  intro a e h
  obtain ⟨h1, h2⟩ := wM_lt h
  unfold lwW
  rw [if_neg (by omega), if_pos (by omega)]
  exact h
theorem up_c (hsh : ∀ j, 135 ≤ j → sh j = none) {w' : Nat → Option va_E} {n : Nat} (hn : x + 148 ≤ n) (hw : ∀ a, a ≠ n → w' a = wW E x sh S' a) : ∀ a e, lwW E x sh S' M f g a = some e → w' a = some e ∨ (wW E x sh S a = none ∧ lwW E x sh S M f g a = some e) := by
  intro a e h
  by_cases c : a < x + 135
  · unfold lwW at h
    rw [if_pos c] at h
    refine Or.inl ?_
    rw [hw a (by omega)]
    exact h
  · refine Or.inr ⟨?_, ?_⟩
    · cases hc : wW E x sh S a with
      | none => rfl
      | some e' => exact absurd (wW_lt hsh hc).2 c
    · unfold lwW at h ⊢
      rw [if_neg c] at h ⊢
      exact h
theorem up_m : ∀ a e, lwW E x sh S M' f g a = some e → wW E (x + 135) shM M' a = some e ∨ (wW E (x + 135) shM M a = none ∧ lwW E x sh S M f g a = some e) := by
  intro a e h
  by_cases c : x + 135 ≤ a ∧ a < x + 146
  · unfold lwW at h
    rw [if_neg (by omega), if_pos (by omega)] at h
    exact Or.inl h
  · refine Or.inr ⟨?_, ?_⟩
    · cases hc : wW E (x + 135) shM M a with
      | none => rfl
      | some e' =>
        have := wM_lt hc
        exact absurd ⟨this.1, by omega⟩ c
    · unfold lwW at h ⊢
      by_cases c1 : a < x + 135
      · rw [if_pos c1] at h ⊢
        exact h
      · rw [if_neg c1, if_neg (by omega)] at h ⊢
        exact h
theorem wL_x (h0 : sh 0 = some sh8) : ∃ fs, lwW E x sh S M f g x = some (.inr (8, fs)) := by
  exact ⟨_, (if_pos (by omega)).trans (wW_at0 h0)⟩
theorem wL_y : ∃ fs, lwW E x sh S M f g (x + 135) = some (.inr (9, fs)) := by
  exact ⟨_, (if_neg (by omega)).trans ((if_pos (by omega)).trans (wW_at0 hM0))⟩
theorem wL_o : lwW E x sh S M f g (x + 146) = some (lrow f) := by
  unfold lwW
  rw [if_neg (by omega), if_neg (by omega), if_pos rfl]
theorem wL_d : lwW E x sh S M f g (x + 147) = some (drow g) := by
  unfold lwW
  rw [if_neg (by omega), if_neg (by omega), if_neg (by omega), if_pos rfl]
theorem wL_uo : xup (lwW E x sh S M f g) (x + 146) (lrow f') = lwW E x sh S M f' g := by
  funext a
  by_cases c : a = x + 146
  · subst c
    rw [xup_same, wL_o]
  · rw [xup_ne c]
    unfold lwW
    by_cases c1 : a < x + 135
    · rw [if_pos c1, if_pos c1]
    · rw [if_neg c1, if_neg c1]
      by_cases c2 : a < x + 146
      · rw [if_pos c2, if_pos c2]
      · rw [if_neg c2, if_neg c2, if_neg c, if_neg c]
theorem wL_ud : xup (lwW E x sh S M f g) (x + 147) (drow g') = lwW E x sh S M f g' := by
  funext a
  by_cases c : a = x + 147
  · subst c
    rw [xup_same, wL_d]
  · rw [xup_ne c]
    unfold lwW
    by_cases c1 : a < x + 135
    · rw [if_pos c1, if_pos c1]
    · rw [if_neg c1, if_neg c1]
      by_cases c2 : a < x + 146
      · rw [if_pos c2, if_pos c2]
      · rw [if_neg c2, if_neg c2]
        by_cases c3 : a = x + 146
        · rw [if_pos c3, if_pos c3]
        · rw [if_neg c3, if_neg c3, if_neg c, if_neg c]
end LW
theorem vt_f {r : UInt32} (t : Nat) (h3 : t ≠ 3) (h8 : t ≠ 8) : vtag (.float r) ≠ t := by
  intro h
  by_cases c : FP.f2d r &&& 0x7fffffffffffffff ≤ 0x7ff0000000000000
  · exact h3 ((if_pos c).symm.trans h).symm
  · exact h8 ((if_neg c).symm.trans h).symm
theorem vtag_0 {v : Value} (h : vtag v = 0) : ∃ z, v = .int z := by
  cases v with
  | int z => exact ⟨z, rfl⟩
  | long z => exact absurd (show 1 = 0 from h) (by decide)
  | double z => exact absurd (show 4 = 0 from h) (by decide)
  | null => exact absurd (show 9 = 0 from h) (by decide)
  | ref z => exact absurd (show 9 = 0 from h) (by decide)
  | retAddr z => exact absurd (show 9 = 0 from h) (by decide)
  | float z => exact absurd (vt_f (r := z) 0 (by decide) (by decide)) (fun c => c h)
theorem vtag_1 {v : Value} (h : vtag v = 1) : ∃ z, v = .long z := by
  cases v with
  | int z => exact absurd (show 0 = 1 from h) (by decide)
  | long z => exact ⟨z, rfl⟩
  | double z => exact absurd (show 4 = 1 from h) (by decide)
  | null => exact absurd (show 9 = 1 from h) (by decide)
  | ref z => exact absurd (show 9 = 1 from h) (by decide)
  | retAddr z => exact absurd (show 9 = 1 from h) (by decide)
  | float z => exact absurd (vt_f (r := z) 1 (by decide) (by decide)) (fun c => c h)
theorem vtag_4 {v : Value} (h : vtag v = 4) : ∃ z, v = .double z := by
  cases v with
  | int z => exact absurd (show 0 = 4 from h) (by decide)
  | long z => exact absurd (show 1 = 4 from h) (by decide)
  | double z => exact ⟨z, rfl⟩
  | null => exact absurd (show 9 = 4 from h) (by decide)
  | ref z => exact absurd (show 9 = 4 from h) (by decide)
  | retAddr z => exact absurd (show 9 = 4 from h) (by decide)
  | float z => exact absurd (vt_f (r := z) 4 (by decide) (by decide)) (fun c => c h)
theorem vtag_3 {v : Value} (h : vtag v = 3) : ∃ z, v = .float z ∧ FP.f2d z &&& 0x7fffffffffffffff ≤ 0x7ff0000000000000 := by
  cases v with
  | float r =>
    refine ⟨r, rfl, ?_⟩
    by_cases c : FP.f2d r &&& 0x7fffffffffffffff ≤ 0x7ff0000000000000
    · exact c
    · have h : (if FP.f2d r &&& 0x7fffffffffffffff ≤ 0x7ff0000000000000 then 3 else 8) = 3 := h
      rw [if_neg c] at h
      exact absurd h (by decide)
  | int z => exact absurd (show 0 = 3 from h) (by decide)
  | long z => exact absurd (show 1 = 3 from h) (by decide)
  | double z => exact absurd (show 4 = 3 from h) (by decide)
  | null => exact absurd (show 9 = 3 from h) (by decide)
  | ref z => exact absurd (show 9 = 3 from h) (by decide)
  | retAddr z => exact absurd (show 9 = 3 from h) (by decide)
theorem lg_same {z : Int64} : lg_cmp z z = 0 := by
  unfold lg_cmp
  rw [if_neg (Int64.lt_irrefl), if_pos rfl]
section LI
variable {p : Program} {l : Launch} {e : Env} {s : State} {m : MethodId} {args : Array Value} {below : List Frame} {meth : Method} {c : Code}
variable {lds : xLds} {exs : List (String × Nat × String)} {G : xG} {E : xEn} {A : Nat → Prop} {d MC MS nL : Nat} {call : Nat → List Value → xH → Option xR} {Mt : Nat → Option xMth} {own : String} {ini : Bool} {cc : ByteArray} {ret : Option FieldType} {PO : xPool} {Q : State → Prop}
variable {pc bc bs : Nat} {L L' : xL} {st : List Value} {σ : xH}
theorem r_ald (C : xCx p l s m args meth c lds exs G E A d call Mt own ini cc nL ret PO) {kf : Fin 4} {k v : Nat} (hd : decode cc pc = .ok (.aload_n kf, 1)) (hk : (kf : Nat) = k) (h : xget L k = some (.ref v)) (kk : xTg p l e s m args below meth c d MC MS Q G A nL (pc + 1) L (.ref v :: st) σ bc bs) : xTg p l e s m args below meth c d MC MS Q G A nL pc L st σ bc bs :=
  fun hbc hbs ls H locs hl hS => lv_aload_n C.1 C.2.1 hd hk (xget_has hl h) (kk hbc hbs ls H locs hl hS)
theorem r_aldw (C : xCx p l s m args meth c lds exs G E A d call Mt own ini cc nL ret PO) {k v : Nat} (hd : decode cc pc = .ok (.aload k, 2)) (h : xget L k = some (.ref v)) (kk : xTg p l e s m args below meth c d MC MS Q G A nL (pc + 2) L (.ref v :: st) σ bc bs) : xTg p l e s m args below meth c d MC MS Q G A nL pc L st σ bc bs :=
  fun hbc hbs ls H locs hl hS => lv_aload C.1 C.2.1 hd (xget_has hl h) (kk hbc hbs ls H locs hl hS)
theorem r_ild (C : xCx p l s m args meth c lds exs G E A d call Mt own ini cc nL ret PO) {k : Nat} {v : Int32} (hd : decode cc pc = .ok (.iload k, 2)) (h : xget L k = some (.int v)) (kk : xTg p l e s m args below meth c d MC MS Q G A nL (pc + 2) L (.int v :: st) σ bc bs) : xTg p l e s m args below meth c d MC MS Q G A nL pc L st σ bc bs :=
  fun hbc hbs ls H locs hl hS => lv_iload C.1 C.2.1 hd (xget_has hl h) (kk hbc hbs ls H locs hl hS)
theorem r_dld (C : xCx p l s m args meth c lds exs G E A d call Mt own ini cc nL ret PO) {k : Nat} {v : UInt64} (hd : decode cc pc = .ok (.dload k, 2)) (h : xget L k = some (.double v)) (kk : xTg p l e s m args below meth c d MC MS Q G A nL (pc + 2) L (.double v :: st) σ bc bs) : xTg p l e s m args below meth c d MC MS Q G A nL pc L st σ bc bs :=
  fun hbc hbs ls H locs hl hS => lv_dload C.1 C.2.1 hd (xget_has hl h) (kk hbc hbs ls H locs hl hS)
theorem r_ist (C : xCx p l s m args meth c lds exs G E A d call Mt own ini cc nL ret PO) {k : Nat} {v : Int32} (hd : decode cc pc = .ok (.istore k, 2)) (hn : k < nL) (hL : xset1 L k (.int v) = L') (kk : xTg p l e s m args below meth c d MC MS Q G A nL (pc + 2) L' st σ bc bs) : xTg p l e s m args below meth c d MC MS Q G A nL pc L (.int v :: st) σ bc bs :=
  fun hbc hbs ls H locs hl hS => lv_istore C.1 C.2.1 hd hl hn hL (fun ls' hl' => kk hbc hbs ls' H locs hl' hS)
theorem r_dst (C : xCx p l s m args meth c lds exs G E A d call Mt own ini cc nL ret PO) {k : Nat} {v : UInt64} (hd : decode cc pc = .ok (.dstore k, 2)) (hn : k + 1 < nL) (hL : xset2 L k (.double v) = L') (kk : xTg p l e s m args below meth c d MC MS Q G A nL (pc + 2) L' st σ bc bs) : xTg p l e s m args below meth c d MC MS Q G A nL pc L (.double v :: st) σ bc bs :=
  fun hbc hbs ls H locs hl hS => lv_dstore C.1 C.2.1 hd hl hn hL (fun ls' hl' => kk hbc hbs ls' H locs hl' hS)
theorem r_ic (C : xCx p l s m args meth c lds exs G E A d call Mt own ini cc nL ret PO) {z : Int} {v : Int32} (hd : decode cc pc = .ok (.iconst z, 1)) (hv : Int32.ofInt z = v) (kk : xTg p l e s m args below meth c d MC MS Q G A nL (pc + 1) L (.int v :: st) σ bc bs) : xTg p l e s m args below meth c d MC MS Q G A nL pc L st σ bc bs :=
  fun hbc hbs ls H locs hl hS => lv_iconst C.1 C.2.1 hd hv (kk hbc hbs ls H locs hl hS)
theorem r_lc (C : xCx p l s m args meth c lds exs G E A d call Mt own ini cc nL ret PO) {z : Fin 2} {v : Int64} (hd : decode cc pc = .ok (.lconst z, 1)) (hv : Int64.ofNat (z : Nat) = v) (kk : xTg p l e s m args below meth c d MC MS Q G A nL (pc + 1) L (.long v :: st) σ bc bs) : xTg p l e s m args below meth c d MC MS Q G A nL pc L st σ bc bs :=
  fun hbc hbs ls H locs hl hS => lv_lconst C.1 C.2.1 hd hv (kk hbc hbs ls H locs hl hS)
theorem r_i2l (C : xCx p l s m args meth c lds exs G E A d call Mt own ini cc nL ret PO) {v : Int32} (hd : decode cc pc = .ok (.i2l, 1)) (kk : xTg p l e s m args below meth c d MC MS Q G A nL (pc + 1) L (.long v.toInt64 :: st) σ bc bs) : xTg p l e s m args below meth c d MC MS Q G A nL pc L (.int v :: st) σ bc bs :=
  fun hbc hbs ls H locs hl hS => lv_i2l C.1 C.2.1 hd rfl (kk hbc hbs ls H locs hl hS)
theorem r_f2d (C : xCx p l s m args meth c lds exs G E A d call Mt own ini cc nL ret PO) {v : UInt32} (hd : decode cc pc = .ok (.f2d, 1)) (hv : FP.f2d v &&& 0x7fffffffffffffff ≤ 0x7ff0000000000000) (kk : xTg p l e s m args below meth c d MC MS Q G A nL (pc + 1) L (.double (FP.f2d v) :: st) σ bc bs) : xTg p l e s m args below meth c d MC MS Q G A nL pc L (.float v :: st) σ bc bs :=
  fun hbc hbs ls H locs hl hS => lv_f2d C.1 C.2.1 hd hv (kk hbc hbs ls H locs hl hS)
theorem r_lcmp (C : xCx p l s m args meth c lds exs G E A d call Mt own ini cc nL ret PO) {v : Int64} (hd : decode cc pc = .ok (.lcmp, 1)) (kk : xTg p l e s m args below meth c d MC MS Q G A nL (pc + 1) L (.int 0 :: st) σ bc bs) : xTg p l e s m args below meth c d MC MS Q G A nL pc L (.long v :: .long v :: st) σ bc bs :=
  fun hbc hbs ls H locs hl hS => W.lcmp C.1 C.2.1 hd (by rw [lg_same]; exact kk hbc hbs ls H locs hl hS)
theorem r_dcmp (C : xCx p l s m args meth c lds exs G E A d call Mt own ini cc nL ret PO) {v w : UInt64} {o : CmpOp} (hd : decode cc pc = .ok (.dcmp o, 1)) (kk : xTg p l e s m args below meth c d MC MS Q G A nL (pc + 1) L (.int (Op.cmpValue (FP.dcmp v w) o) :: st) σ bc bs) : xTg p l e s m args below meth c d MC MS Q G A nL pc L (.double w :: .double v :: st) σ bc bs :=
  fun hbc hbs ls H locs hl hS => lv_dcmp C.1 C.2.1 hd (kk hbc hbs ls H locs hl hS)
theorem r_goto (C : xCx p l s m args meth c lds exs G E A d call Mt own ini cc nL ret PO) {off : Int} {t : Nat} (hd : decode cc pc = .ok (.goto off, 3)) (ht : (pc : Int) + off = (t : Int)) (kk : xTg p l e s m args below meth c d MC MS Q G A nL t L st σ bc bs) : xTg p l e s m args below meth c d MC MS Q G A nL pc L st σ bc bs :=
  fun hbc hbs ls H locs hl hS => lv_goto C.1 C.2.1 hd ht (kk hbc hbs ls H locs hl hS)
theorem r_ifeq (C : xCx p l s m args meth c lds exs G E A d call Mt own ini cc nL ret PO) {off : Int} {t : Nat} {v : Int32} (hd : decode cc pc = .ok (.ifCond .eq off, 3)) (ht : (pc : Int) + off = (t : Int)) (kt : v = 0 → xTg p l e s m args below meth c d MC MS Q G A nL t L st σ bc bs) (kf : ¬ v = 0 → xTg p l e s m args below meth c d MC MS Q G A nL (pc + 3) L st σ bc bs) : xTg p l e s m args below meth c d MC MS Q G A nL pc L (.int v :: st) σ bc bs :=
  fun hbc hbs ls H locs hl hS => lv_if_eq C.1 C.2.1 hd ht (fun h => kt h hbc hbs ls H locs hl hS) (fun h => kf h hbc hbs ls H locs hl hS)
theorem r_ifne (C : xCx p l s m args meth c lds exs G E A d call Mt own ini cc nL ret PO) {off : Int} {t : Nat} {v : Int32} (hd : decode cc pc = .ok (.ifCond .ne off, 3)) (ht : (pc : Int) + off = (t : Int)) (kt : ¬ v = 0 → xTg p l e s m args below meth c d MC MS Q G A nL t L st σ bc bs) (kf : v = 0 → xTg p l e s m args below meth c d MC MS Q G A nL (pc + 3) L st σ bc bs) : xTg p l e s m args below meth c d MC MS Q G A nL pc L (.int v :: st) σ bc bs :=
  fun hbc hbs ls H locs hl hS => lv_if_ne C.1 C.2.1 hd ht (fun h => kt h hbc hbs ls H locs hl hS) (fun h => kf h hbc hbs ls H locs hl hS)
theorem r_cmpeq (C : xCx p l s m args meth c lds exs G E A d call Mt own ini cc nL ret PO) {off : Int} {t : Nat} {v : Int32} (hd : decode cc pc = .ok (.if_icmp .eq off, 3)) (ht : (pc : Int) + off = (t : Int)) (kk : xTg p l e s m args below meth c d MC MS Q G A nL t L st σ bc bs) : xTg p l e s m args below meth c d MC MS Q G A nL pc L (.int v :: .int v :: st) σ bc bs :=
  fun hbc hbs ls H locs hl hS => lv_icmp_eq C.1 C.2.1 hd ht (fun _ => kk hbc hbs ls H locs hl hS) (fun h => absurd rfl h)
theorem r_lald (C : xCx p l s m args meth c lds exs G E A d call Mt own ini cc nL ret PO) {a : Nat} {f : Nat → Int64} (hd : decode cc pc = .ok (.laload, 1)) (he : σ.1 a = some (lrow f)) (kk : xTg p l e s m args below meth c d MC MS Q G A nL (pc + 1) L (.long (f 0) :: st) σ bc bs) : xTg p l e s m args below meth c d MC MS Q G A nL pc L (.int (nI 0) :: .ref a :: st) σ bc bs :=
  fun hbc hbs ls H locs hl hS => va_lald C.1 C.2.1 C.2.2.2.2.2.1 (hS.2.1.one he) 0 2 rfl rfl vp_in_01 hd (kk hbc hbs ls H locs hl hS)
theorem r_dald (C : xCx p l s m args meth c lds exs G E A d call Mt own ini cc nL ret PO) {a : Nat} {g : Nat → UInt64} (hd : decode cc pc = .ok (.daload, 1)) (he : σ.1 a = some (drow g)) (kk : xTg p l e s m args below meth c d MC MS Q G A nL (pc + 1) L (.double (g 0) :: st) σ bc bs) : xTg p l e s m args below meth c d MC MS Q G A nL pc L (.int (nI 0) :: .ref a :: st) σ bc bs :=
  fun hbc hbs ls H locs hl hS => va_dald C.1 C.2.1 C.2.2.2.2.2.1 (hS.2.1.one he) 0 3 rfl rfl vp_in_01 hd (kk hbc hbs ls H locs hl hS)
theorem r_iinc (C : xCx p l s m args meth c lds exs G E A d call Mt own ini cc nL ret PO) {k : Nat} {z : Int} {v : Int32} (hd : decode cc pc = .ok (.iinc k z, 3)) (h : xget L k = some (.int v)) (hn : k < nL) (hL : xset1 L k (.int (v + Int32.ofInt z)) = L') (kk : xTg p l e s m args below meth c d MC MS Q G A nL (pc + 3) L' st σ bc bs) : xTg p l e s m args below meth c d MC MS Q G A nL pc L st σ bc bs :=
  fun hbc hbs ls H locs hl hS => x_iinc C.1 C.2.1 hd hl h hn (fun ls' hl' => kk hbc hbs ls' H locs (by rw [← hL]; exact hl') hS)
end LI
