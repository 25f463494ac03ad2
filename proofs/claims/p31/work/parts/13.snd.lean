/-! A STEP OF THE INTERPRETER IS A STEP OF THE MACHINE. -/
theorem xget_has {ls : Array Slot} {nL i : Nat} {v : Value} : ∀ {L : xL}, lv_has ls nL L → xget L i = some v → ls[i]? = some (.val v) := by
  intro L hl h
  have hm : (i, v) ∈ L := by
    clear hl
    induction L with
    | nil => cases h
    | cons q L ih =>
      unfold xget at h
      cases hb : Nat.beq q.1 i
      · rw [hb] at h
        exact List.mem_cons_of_mem _ (ih h)
      · rw [hb] at h
        have := Nat.eq_of_beq_eq_true hb
        subst this
        cases h
        exact List.mem_cons_self
  exact hl.2.2 _ hm
theorem iv_xans {ρ : Type} {z : ρ} {T : xR → Option ρ} {tag : Nat} {r : Option xR} {k : List Value → xH → Option ρ} (h : xans T tag r k = some z) : ∃ r', r = some r' ∧ ((∃ v, r'.1 = .inl v ∧ k v.toList r'.2 = some z) ∨ ∃ X, r'.1 = .inr X ∧ T (.inr X, r'.2) = some z) := by
  unfold xans at h
  split at h
  · unfold cI at h
    split at h
    · exact ⟨_, rfl, Or.inl ⟨_, rfl, h⟩⟩
    · exact ⟨_, rfl, Or.inr ⟨_, rfl, h⟩⟩
    · cases h
  · unfold cL at h
    split at h
    · exact ⟨_, rfl, Or.inl ⟨_, rfl, h⟩⟩
    · exact ⟨_, rfl, Or.inr ⟨_, rfl, h⟩⟩
    · cases h
  · unfold cA at h
    split at h
    · exact ⟨_, rfl, Or.inl ⟨_, rfl, h⟩⟩
    · exact ⟨_, rfl, Or.inr ⟨_, rfl, h⟩⟩
    · cases h
  · unfold cF at h
    split at h
    · exact ⟨_, rfl, Or.inl ⟨_, rfl, h⟩⟩
    · exact ⟨_, rfl, Or.inr ⟨_, rfl, h⟩⟩
    · cases h
  · unfold cD at h
    split at h
    · exact ⟨_, rfl, Or.inl ⟨_, rfl, h⟩⟩
    · exact ⟨_, rfl, Or.inr ⟨_, rfl, h⟩⟩
    · cases h
  · unfold cV at h
    split at h
    · exact ⟨_, rfl, Or.inl ⟨_, rfl, h⟩⟩
    · exact ⟨_, rfl, Or.inr ⟨_, rfl, h⟩⟩
    · cases h
  · cases h
theorem iv_xcall {ρ : Type} {z : ρ} {E : xEn} {call : Nat → List Value → xH → Option xR} {MC MS : Nat} {T : xR → Option ρ} {info : List Nat} {st : List Value} {σ : xH} {bc bs : Nat} {nx : List Value → xH → Nat → Nat → Option ρ} (h : xcall E call MC MS T info st σ bc bs nx = some z) :
    ∃ kd key n tag mc ms ci r, info = [kd, key, n, tag, mc, ms, ci] ∧ n ≤ st.length ∧ xcat (st.drop n) ≤ 8 ∧ bc + mc ≤ MC ∧ bs + ms ≤ MS ∧
      (ci ≠ 0 → ∃ b As, (st.take n).reverse = .ref b :: As ∧ ((∃ fs, σ.1 b = some (.inr (ci - 1, fs))) ∨ (ci - 1 = 99 ∧ ∃ i, xfind E.2.1 b xNS = some i) ∨ (ci - 1 = 99 ∧ ∃ fs, σ.1 b = some (.inr (11, fs))))) ∧ call key (st.take n).reverse σ = some r ∧
      ((∃ v, r.1 = .inl v ∧ nx (v.toList ++ st.drop n) r.2 (bc + mc) (bs + ms) = some z) ∨ (kd = 5 ∧ ∃ X, r.1 = .inr X ∧ T (.inr X, r.2) = some z)) := by
  unfold xcall at h
  split at h
  · next kd key n tag mc ms ci =>
    obtain ⟨h1, h2⟩ := iv_if h
    simp only [Bool.and_eq_true] at h1
    obtain ⟨g1, g2, g3, g4⟩ := h1
    have g1 := Nat.le_of_ble_eq_true g1
    have g2 := Nat.le_of_ble_eq_true g2
    have g3 := Nat.le_of_ble_eq_true g3
    have g4 := Nat.le_of_ble_eq_true g4
    split at h2
    · obtain ⟨r, hr, hv⟩ := iv_xans h2
      refine ⟨_, _, _, _, _, _, _, r, rfl, g1, g2, g3, g4, fun h => absurd rfl h, hr, ?_⟩
      rcases hv with ⟨v, hv1, hv2⟩ | ⟨X, hv1, hv2⟩
      · exact Or.inl ⟨v, hv1, hv2⟩
      · obtain ⟨k1, k2⟩ := iv_if hv2
        exact Or.inr ⟨Nat.eq_of_beq_eq_true k1, X, hv1, k2⟩
    · split at h2
      · next c b As hAs =>
        obtain ⟨hO, h3⟩ := iv_gO h2
        obtain ⟨r, hr, hv⟩ := iv_xans h3
        refine ⟨_, _, _, _, _, _, _, r, rfl, g1, g2, g3, g4, fun _ => ⟨b, As, hAs, hO⟩, by rw [hAs]; exact hr, ?_⟩
        rcases hv with ⟨v, hv1, hv2⟩ | ⟨X, hv1, hv2⟩
        · exact Or.inl ⟨v, hv1, hv2⟩
        · obtain ⟨k1, k2⟩ := iv_if hv2
          exact Or.inr ⟨Nat.eq_of_beq_eq_true k1, X, hv1, k2⟩
      · cases h2
  · cases h
/-- what a method's walk stands on -/
def xCx (p : Program) (l : Launch) (s : State) (m : MethodId) (args : Array Value) (meth : Method) (c : Code) (lds : xLds) (exs : List (String × Nat × String)) (G : xG) (E : xEn) (A : Nat → Prop) (d : Nat) (call : Nat → List Value → xH → Option xR) (Mt : Nat → Option xMth) (own : String) (ini : Bool) (cc : ByteArray) (nL : Nat) (ret : Option FieldType) (PO : xPool) : Prop :=
  p.tables.exec = Jvm.exec ∧ c.code = cc ∧ c.maxLocals = nL ∧ (∀ w ∈ xWs, w.before args s = true) ∧ s.vm.findClass own = some m.cls ∧ va_K G.1 vwCl (xtys G.2) s ∧ xK lds exs E A s s.heap ∧ (∀ q, s.heap.size ≤ q → A q) ∧
  (∀ x ∈ c.exceptionTable.toList, False) ∧ meth.locks = false ∧ meth.sig.returnType = ret ∧ l.stackTraces = false ∧ (ini = true → meth.name = "<init>") ∧ (∀ q ∈ PO, xokQ own Mt q = true) ∧ ∀ key M, Mt key = some M → xMet lds exs l G E d M (call key)
/-- from here the machine comes to Q -/
def xTg (p : Program) (l : Launch) (e : Env) (s : State) (m : MethodId) (args : Array Value) (below : List Frame) (meth : Method) (c : Code) (d MC MS : Nat) (Q : State → Prop) (G : xG) (A : Nat → Prop) (nL : Nat) (pc : Nat) (L : xL) (st : List Value) (σ : xH) (bc bs : Nat) : Prop :=
  bc ≤ MC → bs ≤ MS → ∀ (ls : Array Slot) (H : Heap) (locs : List Loc), lv_has ls nL L → xS G A s.heap σ H locs → W p l e (xrm (d + 1) MC MS) s m args below meth c H locs bc bs Q (F0 m pc ls st)
section STEPS
variable {p : Program} {l : Launch} {e : Env} {s : State} {m : MethodId} {args : Array Value} {below : List Frame} {meth : Method} {c : Code}
variable {lds : xLds} {exs : List (String × Nat × String)} {G : xG} {E : xEn} {A : Nat → Prop} {d MC MS nL : Nat} {call : Nat → List Value → xH → Option xR} {Mt : Nat → Option xMth} {own : String} {ini : Bool} {cc : ByteArray} {ret : Option FieldType} {PO : xPool} {r0 : xR}
theorem x_fin {H : Heap} {locs : List Loc} {σ : xH} {v : Option Value} (hS : xS G A s.heap σ H locs) (hr : r0 = (.inl v, σ)) : (∀ t : State, t.heap = H → s.WarmedH t.vm → xQc G A r0 args s (.returned v) t) ∧ ∀ q ∈ locs, A q.base := by
  subst hr
  exact ⟨fun t ht _ => ⟨v, rfl, rfl, by rw [ht]; exact hS.1, by rw [ht]; exact hS.2.1, hS.2.2.1, hS.2.2.2.F ht⟩, hS.2.2.2.2.2⟩
theorem x_thr {pc : Nat} {ls : Array Slot} {rest : List Value} {H : Heap} {locs : List Loc} {bc bs : Nat} {w : Nat → Option va_E} {z : Nat} {X : String} {ce : Cell} {q9 : Addr} (C : xCx p l s m args meth c lds exs G E A d call Mt own ini cc nL ret PO) (hS : xS G A s.heap (w, z) H locs) (hr1 : r0.1 = .inr X) (hr2 : r0.2.1 = w) (hr3 : z = r0.2.2 + 1) (h3 : H[q9]? = some ce) (h4 : ce.vm = .none) (h5 : s.vm.findClass X = some ce.cls) (hbc : bc ≤ MC) (hbs : bs ≤ MS) :
    vx_W p l e (xrm (d + 1) MC MS) s m args below meth c H locs bc bs (vx_MQ below (xQc G A r0) (xXC G A r0) args s MC MS A) (F0 m pc ls rest) q9 :=
  vx_out (fun x hx => (C.2.2.2.2.2.2.2.2.1 x hx).elim) C.2.2.2.2.2.2.2.2.2.1 h3 h4 h5 (fun t ht _ => ⟨hr1, by rw [ht, ← hr3]; exact hS.1, by rw [hr2, ht]; exact hS.2.1, by rw [hr2]; exact hS.2.2.1, hS.2.2.2.F ht⟩) hS.2.2.2.2.2 hbc hbs
theorem xlen_ok : ∀ j, j < xNS → (xbyt.map List.length).getD j 0 = (xtx j).length := by decide +kernel
theorem xtab_at {pc : Nat} {offs : Array Int} : ∀ {ts : List Nat} {j0 j t : Nat}, xtab pc offs j0 ts = true → ts[j]? = some t → ∃ off, offs[j0 + j]? = some off ∧ (pc : Int) + off = (t : Int) := by
  intro ts
  induction ts with
  | nil => intro j0 j t _ h; simp at h
  | cons t0 ts ih =>
    intro j0 j t h hj
    unfold xtab at h
    rw [Bool.and_eq_true] at h
    cases j with
    | zero =>
      simp at hj
      subst hj
      have h1 := h.1
      split at h1
      · next off ho => exact ⟨off, ho, of_decide_eq_true h1⟩
      · cases h1
    | succ j =>
      obtain ⟨off, ho, ht⟩ := ih h.2 (by simpa using hj)
      exact ⟨off, by rw [← ho]; congr 1; omega, ht⟩
theorem iv_xnew {ρ : Type} {z : ρ} {fin : xR → Option ρ} {info : List Nat} {st : List Value} {σ : xH} {bc bs : Nat} {nx : List Value → xH → Nat → Nat → Option ρ} (h : xnew MC MS fin info st σ bc bs nx = some z) :
    (∃ ci n, info = [0, ci, n] ∧ bc + 1 ≤ MC ∧ bs + n ≤ MS ∧ nx (.ref σ.2 :: st) (xup σ.1 σ.2 (.inr (ci, xdef ci n)), σ.2 + 1) (bc + 1) (bs + n) = some z) ∨ ∃ k is ic, info = [1, k, is, ic] ∧ bc + 1 ≤ MC ∧ bs + 6 ≤ MS ∧ xcat st ≤ 8 ∧ fin (.inr (xexc k), σ) = some z := by
  unfold xnew at h
  split at h
  · obtain ⟨h1, h2⟩ := iv_if h
    rw [Bool.and_eq_true] at h1
    exact Or.inl ⟨_, _, rfl, Nat.le_of_ble_eq_true h1.1, Nat.le_of_ble_eq_true h1.2, h2⟩
  · obtain ⟨h1, h2⟩ := iv_if h
    rw [Bool.and_eq_true, Bool.and_eq_true] at h1
    exact Or.inr ⟨_, _, _, rfl, Nat.le_of_ble_eq_true h1.1, Nat.le_of_ble_eq_true h1.2.1, Nat.le_of_ble_eq_true h1.2.2, h2⟩
  · cases h
theorem iv_xnewa {ρ : Type} {z : ρ} {x : Nat → (Nat → Int32) ⊕ (Nat → Int64) ⊕ (Nat → UInt32) ⊕ (Nat → UInt64) ⊕ (Nat → Option Nat)} {info : List Nat} {st : List Value} {σ : xH} {bc bs : Nat} {nx : List Value → xH → Nat → Nat → Option ρ} (h : xnewa MC MS x info st σ bc bs nx = some z) :
    ∃ n r k, st = .int n :: r ∧ info = [k] ∧ ¬ n < 0 ∧ bc + 1 ≤ MC ∧ bs + n.toNatClampNeg ≤ MS ∧ n.toNatClampNeg ≤ 100000 ∧ nx (.ref σ.2 :: r) (xup σ.1 σ.2 (.inl (k, n.toNatClampNeg, x k)), σ.2 + 1) (bc + 1) (bs + n.toNatClampNeg) = some z := by
  unfold xnewa at h
  obtain ⟨n, r, rfl, h⟩ := iv_t1I h
  obtain ⟨k, rfl, h⟩ := iv_i1 h
  obtain ⟨h1, h2⟩ := iv_if h
  simp only [Bool.and_eq_true, decide_eq_true_eq] at h1
  exact ⟨n, r, k, rfl, rfl, h1.1, Nat.le_of_ble_eq_true h1.2.1, Nat.le_of_ble_eq_true h1.2.2.1, Nat.le_of_ble_eq_true h1.2.2.2, h2⟩
theorem iv_xinit {ρ : Type} {z : ρ} {fin : xR → Option ρ} {info : List Nat} {st : List Value} {σ : xH} {bc bs : Nat} {nx : List Value → xH → Nat → Nat → Option ρ} (h : xinit E call MC MS fin info st σ bc bs nx = some z) :
    (∃ q, info = [q] ∧ ∃ a r, st = .ref a :: r ∧ xcat r ≤ 8 ∧ nx r σ bc bs = some z) ∨ xcall E call MC MS fin info st σ bc bs nx = some z := by
  unfold xinit at h
  split at h
  · obtain ⟨a, r, rfl, h⟩ := iv_t1A h
    obtain ⟨h1, h2⟩ := iv_if h
    exact Or.inl ⟨_, rfl, a, r, rfl, Nat.le_of_ble_eq_true h1, h2⟩
  · exact Or.inr h
theorem iv_xinv {ρ : Type} {z : ρ} {fin : xR → Option ρ} {info : List Nat} {st : List Value} {σ : xH} {bc bs : Nat} {pr : Nat → Option ρ} {nx : List Value → xH → Nat → Nat → Option ρ} (h : xinv E call MC MS fin info st σ bc bs pr nx = some z) :
    (∃ q k, info = [q, k] ∧ pr k = some z) ∨ xcall E call MC MS fin info st σ bc bs nx = some z := by
  unfold xinv at h
  split at h
  · exact Or.inl ⟨_, _, rfl, h⟩
  · exact Or.inr h
theorem iv_xprim {E : xEn} {ρ : Type} {z : ρ} {k : Nat} {st : List Value} {σ : xH} {nx : List Value → xH → Option ρ} (h : xprim E k st σ nx = some z) :
    (k = 0 ∧ ∃ x y r, st = .int y :: .int x :: r ∧ nx (.int (if x < y then y else x) :: r) σ = some z) ∨ (k = 1 ∧ ∃ x y r, st = .int y :: .int x :: r ∧ nx (.int (if y < x then y else x) :: r) σ = some z) ∨
    (k = 2 ∧ ∃ x y r, st = .long y :: .long x :: r ∧ nx (.long (if y < x then x else y) :: r) σ = some z) ∨ (k = 3 ∧ ∃ x y r, st = .long y :: .long x :: r ∧ nx (.long (if y < x then y else x) :: r) σ = some z) ∨
    (k = 6 ∧ ∃ n j b i a r, st = .int n :: .int j :: .ref b :: .int i :: .ref a :: r ∧ cpI E σ a i b j n (fun σ' => nx r σ') = some z) := by
  unfold xprim at h
  split at h
  · exact Or.inl ⟨rfl, _, _, _, rfl, h⟩
  · exact Or.inr (Or.inl ⟨rfl, _, _, _, rfl, h⟩)
  · exact Or.inr (Or.inr (Or.inl ⟨rfl, _, _, _, rfl, h⟩))
  · exact Or.inr (Or.inr (Or.inr (Or.inl ⟨rfl, _, _, _, rfl, h⟩)))
  · exact Or.inr (Or.inr (Or.inr (Or.inr ⟨rfl, _, _, _, _, _, _, rfl, h⟩)))
  · cases h
section LIT
variable {R : Room} {H : Heap} {locs : List Loc} {cells slots : Nat} {Q : State → Prop} {pc : Nat} {ls : Array Slot} {rest : List Value}
theorem x_iinc (hx : p.tables.exec = Jvm.exec) (hb : c.code = cc) {i : Nat} {k : Int} {x : Int32} {L : xL} (hdg : decode cc pc = .ok (.iinc i k, 3)) (hl : lv_has ls nL L) (hg : xget L i = some (.int x)) (hn : i < nL)
    (kk : ∀ ls' : Array Slot, lv_has ls' nL (xset1 L i (.int (x + Int32.ofInt k))) → W p l e R s m args below meth c H locs cells slots Q (F0 m (pc + 3) ls' rest)) : W p l e R s m args below meth c H locs cells slots Q (F0 m pc ls rest) := by
  have hm : ∃ j : Nat, L[j]? = some (i, Value.int x) := by
    clear kk hl
    induction L with
    | nil => cases hg
    | cons q L ih =>
      unfold xget at hg
      cases hb : Nat.beq q.1 i
      · rw [hb] at hg
        obtain ⟨j, hj⟩ := ih hg
        exact ⟨j + 1, by simpa using hj⟩
      · rw [hb] at hg
        have := Nat.eq_of_beq_eq_true hb
        subst this
        refine ⟨0, ?_⟩
        have h2 : q.2 = .int x := by
          have : some q.2 = some (.int x) := hg
          exact Option.some.inj this
        rw [← h2]
        rfl
  obtain ⟨j, hj⟩ := hm
  exact lv_iinc hx hb hdg hl hj rfl hn rfl kk
theorem x_ldcwS (hx : p.tables.exec = Jvm.exec) (hb : c.code = cc) {tx : String} {index q : Nat} (hown : s.vm.findClass own = some m.cls) (hZ : vk_R own index tx q s) (hdg : decode cc pc = .ok (.ldc_w index, 3))
    (kk : W p l e R s m args below meth c H locs cells slots Q (F0 m (pc + 3) ls (.ref q :: rest))) : W p l e R s m args below meth c H locs cells slots Q (F0 m pc ls rest) := by
  intro T hT X
  obtain ⟨t, a1, b1⟩ := kk T hT X
  refine ⟨t, ?_, b1⟩
  obtain ⟨k, cf, i, a', hk, hcf, hcp, -, hr, hev'⟩ := Cond.stringRef_spec hown hZ.1
  cases hZ.2.symm.trans hev'
  obtain ⟨k', hk', he⟩ := X.warmed.alike.2.2 _ _ hk
  have hr' : k'.resolved[index]? = some (some (.string q)) := by
    rcases X.warmed.entry hk hk' index with h | ⟨h, -⟩
    · rw [h]; exact hr
    · rw [hr] at h; cases h
  jvm_step X.here [hx, hb, hdg, ldc_w.wp_string (e := e) (s := T) (f := F0 m pc ls rest) X.here.top hk' (by rw [he]; exact hcf) hcp hr']
  exact a1
theorem x_tokText (hx : p.tables.exec = Jvm.exec) (hb : c.code = cc) (hown : s.vm.findClass own = some m.cls) {idx q : Nat} {v : Value} {o n d : String} {host : String} (hlink : (Cond.fieldLinkNest own idx o n d host).before args s = true) (hE : va_OF o n d v q A s s.heap) (hS : va_S A s.heap H locs) (hdg : decode cc pc = .ok (.getfield idx, 3))
    (kk : W p l e R s m args below meth c H locs cells slots Q (F0 m (pc + 3) ls (v :: rest))) : W p l e R s m args below meth c H locs cells slots Q (F0 m pc ls (.ref q :: rest)) := by
  obtain ⟨cf, k, i, f, cell, h1, h2, h3, h4, h5, h6⟩ := hE.kept hS.2.1
  exact va_Wgetf hx hb hown hlink h1 h2 h3 h4 h5 rfl rfl hdg kk
end LIT
theorem x_callI (C : xCx p l s m args meth c lds exs G E A d call Mt own ini cc nL ret PO) {pc i : Nat} {z : xR ⊕ xJ} {nx : xL → List Value → xH → Nat → Nat → Option (xR ⊕ xJ)} {L : xL}
    (hnx : ∀ L st σ bc bs, nx L st σ bc bs = some z → xTg p l e s m args below meth c d MC MS (vx_MQ below (xQc G A r0) (xXC G A r0) args s MC MS A) G A nL (pc + 3) L st σ bc bs) (hfin : ∀ r, z = .inl r → r0 = r)
    {kd key n tag mc ms ci : Nat} {r : xR} {st : List Value} {σ : xH} {bc bs : Nat} (hq : xokQ own Mt (2, i, [kd, key, n, tag, mc, ms, ci]) = true) (g1 : n ≤ st.length) (g2 : xcat (st.drop n) ≤ 8) (g3 : bc + mc ≤ MC) (g4 : bs + ms ≤ MS)
    (hrv : ci ≠ 0 → ∃ b As, (st.take n).reverse = .ref b :: As ∧ ((∃ fs, σ.1 b = some (.inr (ci - 1, fs))) ∨ (ci - 1 = 99 ∧ ∃ i, xfind E.2.1 b xNS = some i) ∨ (ci - 1 = 99 ∧ ∃ fs, σ.1 b = some (.inr (11, fs))))) (hcl : call key (st.take n).reverse σ = some r)
    (hz : (∃ v, r.1 = .inl v ∧ nx L (v.toList ++ st.drop n) r.2 (bc + mc) (bs + ms) = some z) ∨ (kd = 5 ∧ ∃ X, r.1 = .inr X ∧ some (Sum.inl (Sum.inr X, r.2)) = some z))
    {ls : Array Slot} {H : Heap} {locs : List Loc} (hl : lv_has ls nL L) (hS : xS G A s.heap σ H locs) (hd : decode cc pc = .ok (xins kd i, 3)) :
    W p l e (xrm (d + 1) MC MS) s m args below meth c H locs bc bs (vx_MQ below (xQc G A r0) (xXC G A r0) args s MC MS A) (F0 m pc ls st) := by
  obtain ⟨hx, hb, hml, hts, hown, hK, hKK, hA, hexc, hlocks, hret, htr, hini, hPO, hM⟩ := id C
  simp only [xokQ] at hq
  split at hq
  · next M hMt =>
    simp only [Bool.and_eq_true] at hq
    obtain ⟨hokC, e1, e2⟩ := hq
    have e1 := Nat.eq_of_beq_eq_true e1
    have e2 := Nat.eq_of_beq_eq_true e2
    subst e1
    subst e2
    refine x_invoke (r := r) (rest := st.drop n) hx hb hml hts hown hK hKK hS hA hl.1 hokC (hM key M hMt) (av := (st.take n).reverse) (by simp; omega) (by rw [List.reverse_reverse, List.take_append_drop]) hcl hrv g2 g3 g4 hd ?_ ?_ ?_
    · intro hk
      rcases hz with ⟨v, hv, -⟩ | ⟨hk5, -⟩
      · exact ⟨v, hv⟩
      · exact absurd hk5 hk
    · intro X ce q9 H1 locs1 q1 q2 q3 q4 q5
      rcases hz with ⟨v, hv, -⟩ | ⟨-, X', hX', hz⟩
      · rw [hv] at q1; cases q1
      · rw [hX'] at q1
        cases q1
        have hr9 := hfin _ (Option.some.inj hz).symm
        exact x_thr C q2 (by rw [hr9]) (by rw [hr9]) (by rw [hr9]) q3 q4 q5 g3 g4
    · intro v H1 locs1 hv hS1
      rcases hz with ⟨v', hv', hz⟩ | ⟨-, X', hX', -⟩
      · rw [hv] at hv'
        cases hv'
        exact hnx _ _ _ _ _ hz g3 g4 ls H1 locs1 hl hS1
      · rw [hX'] at hv; cases hv
  · cases hq
theorem x_throw (C : xCx p l s m args meth c lds exs G E A d call Mt own ini cc nL ret PO) {pc i k is ic : Nat} (hsp : xspec own ini cc nL ret PO lds exs pc (.new i) [1, k, is, ic] = true) {ls : Array Slot} {H : Heap} {locs : List Loc} {σ : xH} {st : List Value} {bc bs : Nat} (hS : xS G A s.heap σ H locs) (hr : r0 = (.inr (xexc k), σ))
    (hd : decode cc pc = .ok (.new i, 3)) (hnL : ls.size = nL) (hcat : xcat st ≤ 8) (hc9 : bc + 1 ≤ MC) (hs9 : bs + 6 ≤ MS) :
    W p l e (xrm (d + 1) MC MS) s m args below meth c H locs bc bs (vx_MQ below (xQc G A r0) (xXC G A r0) args s MC MS A) (F0 m pc ls st) := by
  obtain ⟨hx, hb, hml, hts, hown, hK, hKK, hA, hexc, hlocks, hret, htr, hini, hPO, hM⟩ := id C
  have hsp : xokT own cc exs pc i k is ic = true := hsp
  unfold xokT at hsp
  simp only [Bool.and_eq_true, Bool.or_eq_true, decide_eq_true_eq] at hsp
  obtain ⟨w1, w2, w3, w4, w5, w6, d3, hds⟩ := hsp
  obtain ⟨q, hq, hq1⟩ := List.any_eq_true.mp w6
  rw [Bool.and_eq_true, decide_eq_true_eq] at hq1
  obtain ⟨g1, g2⟩ := hq1
  have g2 := Nat.eq_of_beq_eq_true g2
  obtain ⟨sa, hstr⟩ := hKK.2.2.2.2.2.2.2.2.2.2.2.2.2.1 q hq
  rw [g1, g2] at hstr
  have hw : ∀ w ∈ vx_atX own ic (xexc k) (xix k) (xrx k) (xnm k), w ∈ lw_tbl ∧ (goodWord w = true ∨ xnest w = true) := by
    intro w hw
    have h := List.all_eq_true.mp w5 w hw
    rw [Bool.and_eq_true, decide_eq_true_eq, Bool.or_eq_true] at h
    exact h
  have hnt : ∀ w : Cond, xnest w = true → w.onTables = true := by
    intro w h
    cases w <;> first | rfl | cases h
  have hlen : (xnm k).length = 2 := by
    unfold xnm
    split <;> rfl
  subst hr
  have hat : ∀ w ∈ vx_atX own ic (xexc k) (xix k) (xrx k) (xnm k), w.before args s = true := by
    intro w h
    obtain ⟨h1, h2⟩ := hw w h
    rcases h2 with h2 | h2
    · exact hts _ (List.mem_filter.mpr ⟨List.mem_append_right _ h1, h2⟩)
    · exact va_Nw.use (hnt w h2) (hKK.2.2.2.2.2.2.2.2.2.1 w h1 h2)
  have hgd : ∀ w ∈ Cond.classLink own i (xexc k) :: Cond.initialized (xexc k) :: vx_atX own ic (xexc k) (xix k) (xrx k) (xnm k), vx_ot w = true := by
    intro w h
    unfold vx_ot
    rcases List.mem_cons.mp h with rfl | h
    · rfl
    · rcases List.mem_cons.mp h with rfl | h
      · rfl
      · obtain ⟨-, h2⟩ := hw w h
        rcases h2 with h2 | h2
        · rw [h2, Bool.or_true]
        · rw [hnt w h2, Bool.true_or]
  have hfr : (xnm k).length + 3 < (xrm (d + 1) MC MS).frames := by
    rw [hlen]
    show 2 + 3 < d + 1 + 12
    omega
  have hlo : (st.map fun v => v.category).sum + (13 * ((xnm k).length + 1) + 43) ≤ (xrm (d + 1) MC MS).locals := by
    rw [hlen]
    show xcat st + (13 * (2 + 1) + 43) ≤ 40 * (d + 1) + 200
    omega
  have hxx : ∀ t : State, s.vm.Alike t.vm → t.heap.size = H.size + 1 → (∀ q : Nat, q < H.size → t.heap[q]? = H[q]?) → xXC G A (.inr (xexc k), σ) (xexc k) s t := by
    intro t _ hsz hq9
    refine ⟨rfl, by rw [hsz, hS.1], fun a x ha => ?_, hS.2.2.1, Nat.le_trans hS.2.2.2.1 (by omega), fun q h1 h2 => (hq9 q (Nat.lt_of_lt_of_le h1 hS.2.2.2.1)).trans (hS.2.2.2.2.1 q h1 h2)⟩
    have h9 := hS.2.1 a x ha
    exact h9.kept (hq9 a h9.lt)
  obtain ⟨x0, x1, x2, x5⟩ := xrx_ok k
  exact x_throwX (A := A) hx hb htr x0 x1 x2 x5 hown w1 (fun n hn => List.all_eq_true.mp w2 n hn) (hts _ w3) (hts _ w4) hstr hat hgd hKK.2.2.2.2.2.2.2.1 hKK.2.2.2.2.2.2.2.2.1 hS.2.2.2 (hnL.trans hml.symm) hd d3 hds hexc hfr hlo hc9 hs9 hlocks hxx hS.2.2.2.2.2 hc9 hs9
theorem xcastSO : Cond.castable RX11 "java/lang/Object" ∈ lw_tbl := by decide +kernel
set_option maxHeartbeats 4000000 in
theorem x_step (C : xCx p l s m args meth c lds exs G E A d call Mt own ini cc nL ret PO) {pc np : Nat} {ins : Instr} {info : List Nat} (hok : xokI own ini cc nL ret PO lds exs (pc, ins, info) np = true) {z : xR ⊕ xJ} (hfin : ∀ r, z = .inl r → r0 = r)
    (hj : ∀ t L st σ bc bs, z = .inr (t, L, st, σ, bc, bs) → xTg p l e s m args below meth c d MC MS (vx_MQ below (xQc G A r0) (xXC G A r0) args s MC MS A) G A nL t L st σ bc bs)
    {nx : xL → List Value → xH → Nat → Nat → Option (xR ⊕ xJ)} (hnx : ∀ L st σ bc bs, nx L st σ bc bs = some z → xTg p l e s m args below meth c d MC MS (vx_MQ below (xQc G A r0) (xXC G A r0) args s MC MS A) G A nL np L st σ bc bs)
    {L : xL} {st : List Value} {σ : xH} {bc bs : Nat} (h : xstep E call MC MS (fun r => some (.inl r)) (fun t L st σ bc bs => some (.inr (t, L, st, σ, bc, bs))) nx ins info L st σ bc bs = some z) :
    xTg p l e s m args below meth c d MC MS (vx_MQ below (xQc G A r0) (xXC G A r0) args s MC MS A) G A nL pc L st σ bc bs := by
  intro hbc hbs ls H locs hl hS
  obtain ⟨hx, hb, hml, hts, hown, hK, hKK, hA, hexc, hlocks, hret, htr, hini, hPO, hM⟩ := id C
  unfold xokI at hok
  simp only [Bool.and_eq_true] at hok
  obtain ⟨hd0, hle, hlen, hsp⟩ := hok
  have hd := of_decide_eq_true hd0
  clear hd0
  have hle : pc ≤ np := Nat.le_of_ble_eq_true hle
  have hnL : ls.size = nL := hl.1
  cases ins with
  | iconst i =>
    dsimp only [xstep] at h
    have e9 : np - pc = 1 := Nat.eq_of_beq_eq_true hlen
    rw [e9] at hd
    obtain rfl : np = pc + 1 := by omega
    exact lv_iconst hx hb hd rfl (hnx _ _ _ _ _ h hbc hbs ls H locs hl hS)
  | bipush i =>
    dsimp only [xstep] at h
    have e9 : np - pc = 2 := Nat.eq_of_beq_eq_true hlen
    rw [e9] at hd
    obtain rfl : np = pc + 2 := by omega
    exact lv_bipush hx hb hd rfl (hnx _ _ _ _ _ h hbc hbs ls H locs hl hS)
  | sipush i =>
    dsimp only [xstep] at h
    have e9 : np - pc = 3 := Nat.eq_of_beq_eq_true hlen
    rw [e9] at hd
    obtain rfl : np = pc + 3 := by omega
    exact lv_sipush hx hb hd rfl (hnx _ _ _ _ _ h hbc hbs ls H locs hl hS)
  | lconst i =>
    dsimp only [xstep] at h
    have e9 : np - pc = 1 := Nat.eq_of_beq_eq_true hlen
    rw [e9] at hd
    obtain rfl : np = pc + 1 := by omega
    exact lv_lconst hx hb hd rfl (hnx _ _ _ _ _ h hbc hbs ls H locs hl hS)
  | dconst i =>
    dsimp only [xstep] at h
    have e9 : np - pc = 1 := Nat.eq_of_beq_eq_true hlen
    rw [e9] at hd
    obtain rfl : np = pc + 1 := by omega
    have q9 := iv_iD h
    clear h
    obtain ⟨-, h⟩ := q9
    obtain rfl := of_decide_eq_true hsp
    exact lv_dconst0 hx hb hd (hnx _ _ _ _ _ h hbc hbs ls H locs hl hS)
  | fconst i =>
    dsimp only [xstep] at h
    have e9 : np - pc = 1 := Nat.eq_of_beq_eq_true hlen
    rw [e9] at hd
    obtain rfl : np = pc + 1 := by omega
    have q9 := iv_iF h
    clear h
    rcases q9 with ⟨rfl, h⟩ | ⟨rfl, h⟩
    · have hi : i = 0 := by simpa [xspec] using hsp
      subst hi
      exact lv_fconst0 hx hb hd (hnx _ _ _ _ _ h hbc hbs ls H locs hl hS)
    · have hi : i = 1 := by simpa [xspec] using hsp
      subst hi
      exact lv_fconst1 hx hb hd (hnx _ _ _ _ _ h hbc hbs ls H locs hl hS)
  | ldc i =>
    dsimp only [xstep] at h
    have e9 : np - pc = 2 := Nat.eq_of_beq_eq_true hlen
    rw [e9] at hd
    obtain rfl : np = pc + 2 := by omega
    have q9 := iv_iK h
    clear h
    rcases q9 with ⟨k, rfl, h⟩ | ⟨k, rfl, h⟩ | ⟨j, rfl, hj9, h⟩
    · have w1 : decide (Cond.constant own i (nI k) ∈ xWs) = true := hsp
      exact lv_ldc hx hb hown (hts _ (of_decide_eq_true w1)) hd (hnx _ _ _ _ _ h hbc hbs ls H locs hl hS)
    · have w1 : decide (Cond.constant own i (- nI k) ∈ xWs) = true := hsp
      exact lv_ldc hx hb hown (hts _ (of_decide_eq_true w1)) hd (hnx _ _ _ _ _ h hbc hbs ls H locs hl hS)
    · obtain ⟨q, hq, hq1⟩ := List.any_eq_true.mp hsp
      simp only [Bool.and_eq_true, decide_eq_true_eq] at hq1
      obtain ⟨g1, g2, g3⟩ := hq1
      have g2 := Nat.eq_of_beq_eq_true g2
      have g3 := Nat.eq_of_beq_eq_true g3
      have hR := hKK.2.2.2.2.2.2.2.2.2.2.2.2.1 q hq
      rw [g1, g2, g3] at hR
      exact va_ldcS hx hb hown hR hd (hnx _ _ _ _ _ h hbc hbs ls H locs hl hS)
  | ldc_w i =>
    dsimp only [xstep] at h
    have e9 : np - pc = 3 := Nat.eq_of_beq_eq_true hlen
    rw [e9] at hd
    obtain rfl : np = pc + 3 := by omega
    have q9 := iv_iK h
    clear h
    rcases q9 with ⟨k, rfl, h⟩ | ⟨k, rfl, h⟩ | ⟨j, rfl, hj9, h⟩
    · have w1 : decide (Cond.constant own i (nI k) ∈ xWs) = true := hsp
      exact lv_ldcw hx hb hown (hts _ (of_decide_eq_true w1)) hd (hnx _ _ _ _ _ h hbc hbs ls H locs hl hS)
    · have w1 : decide (Cond.constant own i (- nI k) ∈ xWs) = true := hsp
      exact lv_ldcw hx hb hown (hts _ (of_decide_eq_true w1)) hd (hnx _ _ _ _ _ h hbc hbs ls H locs hl hS)
    · obtain ⟨q, hq, hq1⟩ := List.any_eq_true.mp hsp
      simp only [Bool.and_eq_true, decide_eq_true_eq] at hq1
      obtain ⟨g1, g2, g3⟩ := hq1
      have g2 := Nat.eq_of_beq_eq_true g2
      have g3 := Nat.eq_of_beq_eq_true g3
      have hR := hKK.2.2.2.2.2.2.2.2.2.2.2.2.1 q hq
      rw [g1, g2, g3] at hR
      exact x_ldcwS hx hb hown hR hd (hnx _ _ _ _ _ h hbc hbs ls H locs hl hS)
  | ldc2_w i =>
    dsimp only [xstep] at h
    have e9 : np - pc = 3 := Nat.eq_of_beq_eq_true hlen
    rw [e9] at hd
    obtain rfl : np = pc + 3 := by omega
    have q9 := iv_iK2 h
    clear h
    rcases q9 with ⟨k, rfl, h⟩ | ⟨k, rfl, h⟩
    · have w1 : decide (Cond.constantLong own i (lN k) ∈ xWs) = true := hsp
      exact lv_ldc2 hx hb hown (hts _ (of_decide_eq_true w1)) hd (hnx _ _ _ _ _ h hbc hbs ls H locs hl hS)
    · have w1 : decide (Cond.constantLong own i (- lN k) ∈ xWs) = true := hsp
      exact lv_ldc2 hx hb hown (hts _ (of_decide_eq_true w1)) hd (hnx _ _ _ _ _ h hbc hbs ls H locs hl hS)
  | iload i =>
    dsimp only [xstep] at h
    have e9 : np - pc = 2 := Nat.eq_of_beq_eq_true hlen
    rw [e9] at hd
    obtain rfl : np = pc + 2 := by omega
    have q9 := iv_kkI h
    clear h
    obtain ⟨x, hg, h⟩ := q9
    exact lv_iload hx hb hd (xget_has hl hg) (hnx _ _ _ _ _ h hbc hbs ls H locs hl hS)
  | iload_n i =>
    dsimp only [xstep] at h
    have e9 : np - pc = 1 := Nat.eq_of_beq_eq_true hlen
    rw [e9] at hd
    obtain rfl : np = pc + 1 := by omega
    have q9 := iv_kkI h
    clear h
    obtain ⟨x, hg, h⟩ := q9
    exact lv_iload_n hx hb hd rfl (xget_has hl hg) (hnx _ _ _ _ _ h hbc hbs ls H locs hl hS)
  | lload i =>
    dsimp only [xstep] at h
    have e9 : np - pc = 2 := Nat.eq_of_beq_eq_true hlen
    rw [e9] at hd
    obtain rfl : np = pc + 2 := by omega
    have q9 := iv_kkL h
    clear h
    obtain ⟨x, hg, h⟩ := q9
    exact lv_lload hx hb hd (xget_has hl hg) (hnx _ _ _ _ _ h hbc hbs ls H locs hl hS)
  | lload_n i =>
    dsimp only [xstep] at h
    have e9 : np - pc = 1 := Nat.eq_of_beq_eq_true hlen
    rw [e9] at hd
    obtain rfl : np = pc + 1 := by omega
    have q9 := iv_kkL h
    clear h
    obtain ⟨x, hg, h⟩ := q9
    exact lv_lload_n hx hb hd rfl (xget_has hl hg) (hnx _ _ _ _ _ h hbc hbs ls H locs hl hS)
  | dload i =>
    dsimp only [xstep] at h
    have e9 : np - pc = 2 := Nat.eq_of_beq_eq_true hlen
    rw [e9] at hd
    obtain rfl : np = pc + 2 := by omega
    have q9 := iv_kkD h
    clear h
    obtain ⟨x, hg, h⟩ := q9
    exact lv_dload hx hb hd (xget_has hl hg) (hnx _ _ _ _ _ h hbc hbs ls H locs hl hS)
  | aload i =>
    dsimp only [xstep] at h
    have e9 : np - pc = 2 := Nat.eq_of_beq_eq_true hlen
    rw [e9] at hd
    obtain rfl : np = pc + 2 := by omega
    have q9 := iv_kkA h
    clear h
    obtain ⟨x, hg, h⟩ := q9
    exact lv_aload hx hb hd (xget_has hl hg) (hnx _ _ _ _ _ h hbc hbs ls H locs hl hS)
  | aload_n i =>
    dsimp only [xstep] at h
    have e9 : np - pc = 1 := Nat.eq_of_beq_eq_true hlen
    rw [e9] at hd
    obtain rfl : np = pc + 1 := by omega
    have q9 := iv_kkA h
    clear h
    obtain ⟨x, hg, h⟩ := q9
    exact lv_aload_n hx hb hd rfl (xget_has hl hg) (hnx _ _ _ _ _ h hbc hbs ls H locs hl hS)
  | istore i =>
    dsimp only [xstep] at h
    have e9 : np - pc = 2 := Nat.eq_of_beq_eq_true hlen
    rw [e9] at hd
    obtain rfl : np = pc + 2 := by omega
    have q9 := iv_t1I h
    clear h
    obtain ⟨x, r, rfl, h⟩ := q9
    exact lv_istore hx hb hd hl (Nat.le_of_ble_eq_true hsp) rfl (fun ls' hl' => hnx _ _ _ _ _ h hbc hbs ls' H locs hl' hS)
  | istore_n i =>
    dsimp only [xstep] at h
    have e9 : np - pc = 1 := Nat.eq_of_beq_eq_true hlen
    rw [e9] at hd
    obtain rfl : np = pc + 1 := by omega
    have q9 := iv_t1I h
    clear h
    obtain ⟨x, r, rfl, h⟩ := q9
    exact lv_istore_n hx hb hd rfl hl (Nat.le_of_ble_eq_true hsp) rfl (fun ls' hl' => hnx _ _ _ _ _ h hbc hbs ls' H locs hl' hS)
  | lstore i =>
    dsimp only [xstep] at h
    have e9 : np - pc = 2 := Nat.eq_of_beq_eq_true hlen
    rw [e9] at hd
    obtain rfl : np = pc + 2 := by omega
    have q9 := iv_t1L h
    clear h
    obtain ⟨x, r, rfl, h⟩ := q9
    exact lv_lstore hx hb hd hl (Nat.le_of_ble_eq_true hsp) rfl (fun ls' hl' => hnx _ _ _ _ _ h hbc hbs ls' H locs hl' hS)
  | lstore_n i =>
    dsimp only [xstep] at h
    have e9 : np - pc = 1 := Nat.eq_of_beq_eq_true hlen
    rw [e9] at hd
    obtain rfl : np = pc + 1 := by omega
    have q9 := iv_t1L h
    clear h
    obtain ⟨x, r, rfl, h⟩ := q9
    exact lv_lstore_n hx hb hd rfl hl (Nat.le_of_ble_eq_true hsp) rfl (fun ls' hl' => hnx _ _ _ _ _ h hbc hbs ls' H locs hl' hS)
  | dstore i =>
    dsimp only [xstep] at h
    have e9 : np - pc = 2 := Nat.eq_of_beq_eq_true hlen
    rw [e9] at hd
    obtain rfl : np = pc + 2 := by omega
    have q9 := iv_t1D h
    clear h
    obtain ⟨x, r, rfl, h⟩ := q9
    exact lv_dstore hx hb hd hl (Nat.le_of_ble_eq_true hsp) rfl (fun ls' hl' => hnx _ _ _ _ _ h hbc hbs ls' H locs hl' hS)
  | astore i =>
    dsimp only [xstep] at h
    have e9 : np - pc = 2 := Nat.eq_of_beq_eq_true hlen
    rw [e9] at hd
    obtain rfl : np = pc + 2 := by omega
    have q9 := iv_t1A h
    clear h
    obtain ⟨x, r, rfl, h⟩ := q9
    exact lv_astore hx hb hd hl (Nat.le_of_ble_eq_true hsp) rfl (fun ls' hl' => hnx _ _ _ _ _ h hbc hbs ls' H locs hl' hS)
  | astore_n i =>
    dsimp only [xstep] at h
    have e9 : np - pc = 1 := Nat.eq_of_beq_eq_true hlen
    rw [e9] at hd
    obtain rfl : np = pc + 1 := by omega
    have q9 := iv_t1A h
    clear h
    obtain ⟨x, r, rfl, h⟩ := q9
    exact lv_astore_n hx hb hd rfl hl (Nat.le_of_ble_eq_true hsp) rfl (fun ls' hl' => hnx _ _ _ _ _ h hbc hbs ls' H locs hl' hS)
  | iinc i k =>
    dsimp only [xstep] at h
    have e9 : np - pc = 3 := Nat.eq_of_beq_eq_true hlen
    rw [e9] at hd
    obtain rfl : np = pc + 3 := by omega
    have q9 := iv_kkI h
    clear h
    obtain ⟨x, hg, h⟩ := q9
    exact x_iinc hx hb hd hl hg (Nat.le_of_ble_eq_true hsp) (fun ls' hl' => hnx _ _ _ _ _ h hbc hbs ls' H locs hl' hS)
  | iadd =>
    dsimp only [xstep] at h
    have e9 : np - pc = 1 := Nat.eq_of_beq_eq_true hlen
    rw [e9] at hd
    obtain rfl : np = pc + 1 := by omega
    have q9 := iv_t2I h
    clear h
    obtain ⟨x, y, r, rfl, h⟩ := q9
    exact lv_iadd hx hb hd (hnx _ _ _ _ _ h hbc hbs ls H locs hl hS)
  | isub =>
    dsimp only [xstep] at h
    have e9 : np - pc = 1 := Nat.eq_of_beq_eq_true hlen
    rw [e9] at hd
    obtain rfl : np = pc + 1 := by omega
    have q9 := iv_t2I h
    clear h
    obtain ⟨x, y, r, rfl, h⟩ := q9
    exact lv_isub hx hb hd (hnx _ _ _ _ _ h hbc hbs ls H locs hl hS)
  | imul =>
    dsimp only [xstep] at h
    have e9 : np - pc = 1 := Nat.eq_of_beq_eq_true hlen
    rw [e9] at hd
    obtain rfl : np = pc + 1 := by omega
    have q9 := iv_t2I h
    clear h
    obtain ⟨x, y, r, rfl, h⟩ := q9
    exact lv_imul hx hb hd (hnx _ _ _ _ _ h hbc hbs ls H locs hl hS)
  | iand =>
    dsimp only [xstep] at h
    have e9 : np - pc = 1 := Nat.eq_of_beq_eq_true hlen
    rw [e9] at hd
    obtain rfl : np = pc + 1 := by omega
    have q9 := iv_t2I h
    clear h
    obtain ⟨x, y, r, rfl, h⟩ := q9
    exact lv_iand hx hb hd (hnx _ _ _ _ _ h hbc hbs ls H locs hl hS)
  | ior =>
    dsimp only [xstep] at h
    have e9 : np - pc = 1 := Nat.eq_of_beq_eq_true hlen
    rw [e9] at hd
    obtain rfl : np = pc + 1 := by omega
    have q9 := iv_t2I h
    clear h
    obtain ⟨x, y, r, rfl, h⟩ := q9
    exact lv_ior hx hb hd (hnx _ _ _ _ _ h hbc hbs ls H locs hl hS)
  | ixor =>
    dsimp only [xstep] at h
    have e9 : np - pc = 1 := Nat.eq_of_beq_eq_true hlen
    rw [e9] at hd
    obtain rfl : np = pc + 1 := by omega
    have q9 := iv_t2I h
    clear h
    obtain ⟨x, y, r, rfl, h⟩ := q9
    exact lv_ixor hx hb hd (hnx _ _ _ _ _ h hbc hbs ls H locs hl hS)
  | aconst_null =>
    dsimp only [xstep] at h
    have e9 : np - pc = 1 := Nat.eq_of_beq_eq_true hlen
    rw [e9] at hd
    obtain rfl : np = pc + 1 := by omega
    exact lv_null hx hb hd (hnx _ _ _ _ _ h hbc hbs ls H locs hl hS)
  | ifnonnull o =>
    dsimp only [xstep] at h
    have e9 : np - pc = 3 := Nat.eq_of_beq_eq_true hlen
    rw [e9] at hd
    have q9 := iv_t1A h
    clear h
    obtain ⟨a, r, rfl, h⟩ := q9
    have q9 := iv_i1 h
    clear h
    obtain ⟨t, rfl, h⟩ := q9
    have ht : (pc : Int) + o = (t : Int) := of_decide_eq_true hsp
    exact lv_ifnonnull hx hb hd ht (hj _ _ _ _ _ _ (Option.some.inj h).symm hbc hbs ls H locs hl hS)
  | ineg =>
    dsimp only [xstep] at h
    have e9 : np - pc = 1 := Nat.eq_of_beq_eq_true hlen
    rw [e9] at hd
    obtain rfl : np = pc + 1 := by omega
    have q9 := iv_t1I h
    clear h
    obtain ⟨x, r, rfl, h⟩ := q9
    exact lv_ineg hx hb hd (hnx _ _ _ _ _ h hbc hbs ls H locs hl hS)
  | dup_x1 =>
    dsimp only [xstep] at h
    have e9 : np - pc = 1 := Nat.eq_of_beq_eq_true hlen
    rw [e9] at hd
    obtain rfl : np = pc + 1 := by omega
    have q9 := iv_tV h
    clear h
    obtain ⟨v, r, rfl, hc, h⟩ := q9
    have q9 := iv_tV h
    clear h
    obtain ⟨u, r, rfl, hc2, h⟩ := q9
    exact lv_dup_x1 hx hb hd hc hc2 (hnx _ _ _ _ _ h hbc hbs ls H locs hl hS)
  | checkcast i =>
    dsimp only [xstep] at h
    have e9 : np - pc = 3 := Nat.eq_of_beq_eq_true hlen
    rw [e9] at hd
    obtain rfl : np = pc + 3 := by omega
    have q9 := iv_t1A h
    clear h
    obtain ⟨a, r, rfl, h⟩ := q9
    have q9 := iv_i1 h
    clear h
    obtain ⟨ci, rfl, h⟩ := q9
    have q9 := iv_xck h
    clear h
    obtain ⟨⟨fs, he⟩, h⟩ := q9
    have hq := hPO _ (of_decide_eq_true hsp)
    simp only [xokQ] at hq
    split at hq
    · next r9 hr9 =>
      exact va_castS hx hb hown (hts _ (of_decide_eq_true hq)) (hK.1 ci _ hr9).2 (va_recv hK (hS.2.1.one he) (ci := ci) (q0 := 0) hr9 rfl) hd (hnx _ _ _ _ _ h hbc hbs ls H locs hl hS)
    · cases hq
  | ishl =>
    dsimp only [xstep] at h
    have e9 : np - pc = 1 := Nat.eq_of_beq_eq_true hlen
    rw [e9] at hd
    obtain rfl : np = pc + 1 := by omega
    have q9 := iv_t2I h
    clear h
    obtain ⟨x, y, r, rfl, h⟩ := q9
    exact lv_ishl hx hb hd (hnx _ _ _ _ _ h hbc hbs ls H locs hl hS)
  | ishr =>
    dsimp only [xstep] at h
    have e9 : np - pc = 1 := Nat.eq_of_beq_eq_true hlen
    rw [e9] at hd
    obtain rfl : np = pc + 1 := by omega
    have q9 := iv_t2I h
    clear h
    obtain ⟨x, y, r, rfl, h⟩ := q9
    exact lv_ishr hx hb hd (hnx _ _ _ _ _ h hbc hbs ls H locs hl hS)
  | idiv =>
    dsimp only [xstep] at h
    have e9 : np - pc = 1 := Nat.eq_of_beq_eq_true hlen
    rw [e9] at hd
    obtain rfl : np = pc + 1 := by omega
    have q9 := iv_t2I h
    clear h
    obtain ⟨x, y, r, rfl, h⟩ := q9
    have q9 := iv_nz h
    clear h
    obtain ⟨hz, h⟩ := q9
    exact lv_idiv hx hb hd (of_decide_eq_true hz) (hnx _ _ _ _ _ h hbc hbs ls H locs hl hS)
  | irem =>
    dsimp only [xstep] at h
    have e9 : np - pc = 1 := Nat.eq_of_beq_eq_true hlen
    rw [e9] at hd
    obtain rfl : np = pc + 1 := by omega
    have q9 := iv_t2I h
    clear h
    obtain ⟨x, y, r, rfl, h⟩ := q9
    have q9 := iv_nz h
    clear h
    obtain ⟨hz, h⟩ := q9
    exact lv_irem hx hb hd (of_decide_eq_true hz) (hnx _ _ _ _ _ h hbc hbs ls H locs hl hS)
  | ldiv =>
    dsimp only [xstep] at h
    have e9 : np - pc = 1 := Nat.eq_of_beq_eq_true hlen
    rw [e9] at hd
    obtain rfl : np = pc + 1 := by omega
    have q9 := iv_t2L h
    clear h
    obtain ⟨x, y, r, rfl, h⟩ := q9
    have q9 := iv_nz h
    clear h
    obtain ⟨hz, h⟩ := q9
    exact lv_ldiv hx hb hd (of_decide_eq_true hz) (hnx _ _ _ _ _ h hbc hbs ls H locs hl hS)
  | lrem =>
    dsimp only [xstep] at h
    have e9 : np - pc = 1 := Nat.eq_of_beq_eq_true hlen
    rw [e9] at hd
    obtain rfl : np = pc + 1 := by omega
    have q9 := iv_t2L h
    clear h
    obtain ⟨x, y, r, rfl, h⟩ := q9
    have q9 := iv_nz h
    clear h
    obtain ⟨hz, h⟩ := q9
    exact lv_lrem hx hb hd (of_decide_eq_true hz) (hnx _ _ _ _ _ h hbc hbs ls H locs hl hS)
  | ladd =>
    dsimp only [xstep] at h
    have e9 : np - pc = 1 := Nat.eq_of_beq_eq_true hlen
    rw [e9] at hd
    obtain rfl : np = pc + 1 := by omega
    have q9 := iv_t2L h
    clear h
    obtain ⟨x, y, r, rfl, h⟩ := q9
    exact lv_ladd hx hb hd (hnx _ _ _ _ _ h hbc hbs ls H locs hl hS)
  | lsub =>
    dsimp only [xstep] at h
    have e9 : np - pc = 1 := Nat.eq_of_beq_eq_true hlen
    rw [e9] at hd
    obtain rfl : np = pc + 1 := by omega
    have q9 := iv_t2L h
    clear h
    obtain ⟨x, y, r, rfl, h⟩ := q9
    exact lv_lsub hx hb hd (hnx _ _ _ _ _ h hbc hbs ls H locs hl hS)
  | lmul =>
    dsimp only [xstep] at h
    have e9 : np - pc = 1 := Nat.eq_of_beq_eq_true hlen
    rw [e9] at hd
    obtain rfl : np = pc + 1 := by omega
    have q9 := iv_t2L h
    clear h
    obtain ⟨x, y, r, rfl, h⟩ := q9
    exact lv_lmul hx hb hd (hnx _ _ _ _ _ h hbc hbs ls H locs hl hS)
  | lcmp =>
    dsimp only [xstep] at h
    have e9 : np - pc = 1 := Nat.eq_of_beq_eq_true hlen
    rw [e9] at hd
    obtain rfl : np = pc + 1 := by omega
    have q9 := iv_t2L h
    clear h
    obtain ⟨x, y, r, rfl, h⟩ := q9
    exact W.lcmp hx hb hd (hnx _ _ _ _ _ h hbc hbs ls H locs hl hS)
  | i2l =>
    dsimp only [xstep] at h
    have e9 : np - pc = 1 := Nat.eq_of_beq_eq_true hlen
    rw [e9] at hd
    obtain rfl : np = pc + 1 := by omega
    have q9 := iv_t1I h
    clear h
    obtain ⟨x, r, rfl, h⟩ := q9
    exact lv_i2l hx hb hd rfl (hnx _ _ _ _ _ h hbc hbs ls H locs hl hS)
  | l2i =>
    dsimp only [xstep] at h
    have e9 : np - pc = 1 := Nat.eq_of_beq_eq_true hlen
    rw [e9] at hd
    obtain rfl : np = pc + 1 := by omega
    have q9 := iv_t1L h
    clear h
    obtain ⟨x, r, rfl, h⟩ := q9
    exact lv_l2i hx hb hd rfl (hnx _ _ _ _ _ h hbc hbs ls H locs hl hS)
  | i2b =>
    dsimp only [xstep] at h
    have e9 : np - pc = 1 := Nat.eq_of_beq_eq_true hlen
    rw [e9] at hd
    obtain rfl : np = pc + 1 := by omega
    have q9 := iv_t1I h
    clear h
    obtain ⟨x, r, rfl, h⟩ := q9
    exact lv_i2b hx hb hd rfl (hnx _ _ _ _ _ h hbc hbs ls H locs hl hS)
  | i2c =>
    dsimp only [xstep] at h
    have e9 : np - pc = 1 := Nat.eq_of_beq_eq_true hlen
    rw [e9] at hd
    obtain rfl : np = pc + 1 := by omega
    have q9 := iv_t1I h
    clear h
    obtain ⟨x, r, rfl, h⟩ := q9
    exact lv_i2c hx hb hd rfl (hnx _ _ _ _ _ h hbc hbs ls H locs hl hS)
  | i2d =>
    dsimp only [xstep] at h
    have e9 : np - pc = 1 := Nat.eq_of_beq_eq_true hlen
    rw [e9] at hd
    obtain rfl : np = pc + 1 := by omega
    have q9 := iv_t1I h
    clear h
    obtain ⟨x, r, rfl, h⟩ := q9
    exact lv_i2d hx hb hd (hnx _ _ _ _ _ h hbc hbs ls H locs hl hS)
  | l2d =>
    dsimp only [xstep] at h
    have e9 : np - pc = 1 := Nat.eq_of_beq_eq_true hlen
    rw [e9] at hd
    obtain rfl : np = pc + 1 := by omega
    have q9 := iv_t1L h
    clear h
    obtain ⟨x, r, rfl, h⟩ := q9
    exact lv_l2d hx hb hd (hnx _ _ _ _ _ h hbc hbs ls H locs hl hS)
  | i2f =>
    dsimp only [xstep] at h
    have e9 : np - pc = 1 := Nat.eq_of_beq_eq_true hlen
    rw [e9] at hd
    obtain rfl : np = pc + 1 := by omega
    have q9 := iv_t1I h
    clear h
    obtain ⟨x, r, rfl, h⟩ := q9
    exact lv_i2f hx hb hd (hnx _ _ _ _ _ h hbc hbs ls H locs hl hS)
  | l2f =>
    dsimp only [xstep] at h
    have e9 : np - pc = 1 := Nat.eq_of_beq_eq_true hlen
    rw [e9] at hd
    obtain rfl : np = pc + 1 := by omega
    have q9 := iv_t1L h
    clear h
    obtain ⟨x, r, rfl, h⟩ := q9
    exact lv_l2f hx hb hd (hnx _ _ _ _ _ h hbc hbs ls H locs hl hS)
  | f2d =>
    dsimp only [xstep] at h
    have e9 : np - pc = 1 := Nat.eq_of_beq_eq_true hlen
    rw [e9] at hd
    obtain rfl : np = pc + 1 := by omega
    have q9 := iv_t1F h
    clear h
    obtain ⟨x, r, rfl, h⟩ := q9
    have q9 := iv_nz h
    clear h
    obtain ⟨hz, h⟩ := q9
    have hz9 : FP.f2d x &&& 0x7fffffffffffffff ≤ 0x7ff0000000000000 := of_decide_eq_true hz
    exact lv_f2d hx hb hd hz9 (hnx _ _ _ _ _ h hbc hbs ls H locs hl hS)
  | fdiv =>
    dsimp only [xstep] at h
    have e9 : np - pc = 1 := Nat.eq_of_beq_eq_true hlen
    rw [e9] at hd
    obtain rfl : np = pc + 1 := by omega
    have q9 := iv_t2F h
    clear h
    obtain ⟨x, y, r, rfl, h⟩ := q9
    have q9 := iv_nz h
    clear h
    obtain ⟨hz, h⟩ := q9
    have hz9 : FP.fdiv x y &&& 0x7fffffff ≤ 0x7f800000 := of_decide_eq_true hz
    exact lv_fdiv hx hb hd hz9 (hnx _ _ _ _ _ h hbc hbs ls H locs hl hS)
  | fsub =>
    dsimp only [xstep] at h
    have e9 : np - pc = 1 := Nat.eq_of_beq_eq_true hlen
    rw [e9] at hd
    obtain rfl : np = pc + 1 := by omega
    have q9 := iv_t2F h
    clear h
    obtain ⟨x, y, r, rfl, h⟩ := q9
    have q9 := iv_nz h
    clear h
    obtain ⟨hz, h⟩ := q9
    have hz9 : FP.fsub x y &&& 0x7fffffff ≤ 0x7f800000 := of_decide_eq_true hz
    exact lv_fsub hx hb hd hz9 (hnx _ _ _ _ _ h hbc hbs ls H locs hl hS)
  | ddiv =>
    dsimp only [xstep] at h
    have e9 : np - pc = 1 := Nat.eq_of_beq_eq_true hlen
    rw [e9] at hd
    obtain rfl : np = pc + 1 := by omega
    have q9 := iv_t2D h
    clear h
    obtain ⟨x, y, r, rfl, h⟩ := q9
    have q9 := iv_nz h
    clear h
    obtain ⟨hz, h⟩ := q9
    have hz9 : FP.ddiv x y &&& 0x7fffffffffffffff ≤ 0x7ff0000000000000 := of_decide_eq_true hz
    exact lv_ddiv hx hb hd hz9 (hnx _ _ _ _ _ h hbc hbs ls H locs hl hS)
  | dcmp o =>
    dsimp only [xstep] at h
    have e9 : np - pc = 1 := Nat.eq_of_beq_eq_true hlen
    rw [e9] at hd
    obtain rfl : np = pc + 1 := by omega
    have q9 := iv_t2D h
    clear h
    obtain ⟨x, y, r, rfl, h⟩ := q9
    exact lv_dcmp hx hb hd (hnx _ _ _ _ _ h hbc hbs ls H locs hl hS)
  | dup =>
    dsimp only [xstep] at h
    have e9 : np - pc = 1 := Nat.eq_of_beq_eq_true hlen
    rw [e9] at hd
    obtain rfl : np = pc + 1 := by omega
    have q9 := iv_tV h
    clear h
    obtain ⟨v, r, rfl, hc, h⟩ := q9
    exact lv_dup hx hb hd hc (hnx _ _ _ _ _ h hbc hbs ls H locs hl hS)
  | dup2 =>
    dsimp only [xstep] at h
    have e9 : np - pc = 1 := Nat.eq_of_beq_eq_true hlen
    rw [e9] at hd
    obtain rfl : np = pc + 1 := by omega
    have q9 := iv_tV h
    clear h
    obtain ⟨v, r, rfl, hc, h⟩ := q9
    have q9 := iv_tV h
    clear h
    obtain ⟨u, r, rfl, hc2, h⟩ := q9
    exact lv_dup2_11 hx hb hd hc hc2 (hnx _ _ _ _ _ h hbc hbs ls H locs hl hS)
  | pop =>
    dsimp only [xstep] at h
    have e9 : np - pc = 1 := Nat.eq_of_beq_eq_true hlen
    rw [e9] at hd
    obtain rfl : np = pc + 1 := by omega
    have q9 := iv_tV h
    clear h
    obtain ⟨v, r, rfl, hc, h⟩ := q9
    exact lv_pop hx hb hd hc (hnx _ _ _ _ _ h hbc hbs ls H locs hl hS)
  | ifCond k o =>
    dsimp only [xstep] at h
    have e9 : np - pc = 3 := Nat.eq_of_beq_eq_true hlen
    rw [e9] at hd
    obtain rfl : np = pc + 3 := by omega
    have q9 := iv_t1I h
    clear h
    obtain ⟨x, r, rfl, h⟩ := q9
    have q9 := iv_i1 h
    clear h
    obtain ⟨t, rfl, h⟩ := q9
    have ht9 : (pc : Int) + o = (t : Int) := of_decide_eq_true hsp
    cases k
    · exact lv_if_eq hx hb hd ht9 (fun hc => by
        have h : (if x = 0 then some (.inr (t, L, r, σ, bc, bs)) else nx L r σ bc bs) = some z := h
        rw [if_pos hc] at h
        exact hj _ _ _ _ _ _ (Option.some.inj h).symm hbc hbs ls H locs hl hS) (fun hc => by
        have h : (if x = 0 then some (.inr (t, L, r, σ, bc, bs)) else nx L r σ bc bs) = some z := h
        rw [if_neg hc] at h
        exact hnx _ _ _ _ _ h hbc hbs ls H locs hl hS)
    · exact lv_if_ne hx hb hd ht9 (fun hc => by
        have h : (if x = 0 then nx L r σ bc bs else some (.inr (t, L, r, σ, bc, bs))) = some z := h
        rw [if_neg hc] at h
        exact hj _ _ _ _ _ _ (Option.some.inj h).symm hbc hbs ls H locs hl hS) (fun hc => by
        have h : (if x = 0 then nx L r σ bc bs else some (.inr (t, L, r, σ, bc, bs))) = some z := h
        rw [if_pos hc] at h
        exact hnx _ _ _ _ _ h hbc hbs ls H locs hl hS)
    · exact lv_if_lt hx hb hd ht9 (fun hc => by
        have h : (if x < 0 then some (.inr (t, L, r, σ, bc, bs)) else nx L r σ bc bs) = some z := h
        rw [if_pos hc] at h
        exact hj _ _ _ _ _ _ (Option.some.inj h).symm hbc hbs ls H locs hl hS) (fun hc => by
        have h : (if x < 0 then some (.inr (t, L, r, σ, bc, bs)) else nx L r σ bc bs) = some z := h
        rw [if_neg hc] at h
        exact hnx _ _ _ _ _ h hbc hbs ls H locs hl hS)
    · exact lv_if_ge hx hb hd ht9 (fun hc => by
        have h : (if 0 ≤ x then some (.inr (t, L, r, σ, bc, bs)) else nx L r σ bc bs) = some z := h
        rw [if_pos hc] at h
        exact hj _ _ _ _ _ _ (Option.some.inj h).symm hbc hbs ls H locs hl hS) (fun hc => by
        have h : (if 0 ≤ x then some (.inr (t, L, r, σ, bc, bs)) else nx L r σ bc bs) = some z := h
        rw [if_neg hc] at h
        exact hnx _ _ _ _ _ h hbc hbs ls H locs hl hS)
    · exact lv_if_gt hx hb hd ht9 (fun hc => by
        have h : (if 0 < x then some (.inr (t, L, r, σ, bc, bs)) else nx L r σ bc bs) = some z := h
        rw [if_pos hc] at h
        exact hj _ _ _ _ _ _ (Option.some.inj h).symm hbc hbs ls H locs hl hS) (fun hc => by
        have h : (if 0 < x then some (.inr (t, L, r, σ, bc, bs)) else nx L r σ bc bs) = some z := h
        rw [if_neg hc] at h
        exact hnx _ _ _ _ _ h hbc hbs ls H locs hl hS)
    · exact lv_if_le hx hb hd ht9 (fun hc => by
        have h : (if x ≤ 0 then some (.inr (t, L, r, σ, bc, bs)) else nx L r σ bc bs) = some z := h
        rw [if_pos hc] at h
        exact hj _ _ _ _ _ _ (Option.some.inj h).symm hbc hbs ls H locs hl hS) (fun hc => by
        have h : (if x ≤ 0 then some (.inr (t, L, r, σ, bc, bs)) else nx L r σ bc bs) = some z := h
        rw [if_neg hc] at h
        exact hnx _ _ _ _ _ h hbc hbs ls H locs hl hS)
  | if_icmp k o =>
    dsimp only [xstep] at h
    have e9 : np - pc = 3 := Nat.eq_of_beq_eq_true hlen
    rw [e9] at hd
    obtain rfl : np = pc + 3 := by omega
    have q9 := iv_t2I h
    clear h
    obtain ⟨x, y, r, rfl, h⟩ := q9
    have q9 := iv_i1 h
    clear h
    obtain ⟨t, rfl, h⟩ := q9
    have ht9 : (pc : Int) + o = (t : Int) := of_decide_eq_true hsp
    cases k
    · exact lv_icmp_eq hx hb hd ht9 (fun hc => by
        have h : (if x = y then some (.inr (t, L, r, σ, bc, bs)) else nx L r σ bc bs) = some z := h
        rw [if_pos hc] at h
        exact hj _ _ _ _ _ _ (Option.some.inj h).symm hbc hbs ls H locs hl hS) (fun hc => by
        have h : (if x = y then some (.inr (t, L, r, σ, bc, bs)) else nx L r σ bc bs) = some z := h
        rw [if_neg hc] at h
        exact hnx _ _ _ _ _ h hbc hbs ls H locs hl hS)
    · exact lv_icmp_ne hx hb hd ht9 (fun hc => by
        have h : (if x = y then nx L r σ bc bs else some (.inr (t, L, r, σ, bc, bs))) = some z := h
        rw [if_neg hc] at h
        exact hj _ _ _ _ _ _ (Option.some.inj h).symm hbc hbs ls H locs hl hS) (fun hc => by
        have h : (if x = y then nx L r σ bc bs else some (.inr (t, L, r, σ, bc, bs))) = some z := h
        rw [if_pos hc] at h
        exact hnx _ _ _ _ _ h hbc hbs ls H locs hl hS)
    · exact lv_icmp_lt hx hb hd ht9 (fun hc => by
        have h : (if x < y then some (.inr (t, L, r, σ, bc, bs)) else nx L r σ bc bs) = some z := h
        rw [if_pos hc] at h
        exact hj _ _ _ _ _ _ (Option.some.inj h).symm hbc hbs ls H locs hl hS) (fun hc => by
        have h : (if x < y then some (.inr (t, L, r, σ, bc, bs)) else nx L r σ bc bs) = some z := h
        rw [if_neg hc] at h
        exact hnx _ _ _ _ _ h hbc hbs ls H locs hl hS)
    · exact lv_icmp_ge hx hb hd ht9 (fun hc => by
        have h : (if y ≤ x then some (.inr (t, L, r, σ, bc, bs)) else nx L r σ bc bs) = some z := h
        rw [if_pos hc] at h
        exact hj _ _ _ _ _ _ (Option.some.inj h).symm hbc hbs ls H locs hl hS) (fun hc => by
        have h : (if y ≤ x then some (.inr (t, L, r, σ, bc, bs)) else nx L r σ bc bs) = some z := h
        rw [if_neg hc] at h
        exact hnx _ _ _ _ _ h hbc hbs ls H locs hl hS)
    · exact lv_icmp_gt hx hb hd ht9 (fun hc => by
        have h : (if y < x then some (.inr (t, L, r, σ, bc, bs)) else nx L r σ bc bs) = some z := h
        rw [if_pos hc] at h
        exact hj _ _ _ _ _ _ (Option.some.inj h).symm hbc hbs ls H locs hl hS) (fun hc => by
        have h : (if y < x then some (.inr (t, L, r, σ, bc, bs)) else nx L r σ bc bs) = some z := h
        rw [if_neg hc] at h
        exact hnx _ _ _ _ _ h hbc hbs ls H locs hl hS)
    · exact lv_icmp_le hx hb hd ht9 (fun hc => by
        have h : (if x ≤ y then some (.inr (t, L, r, σ, bc, bs)) else nx L r σ bc bs) = some z := h
        rw [if_pos hc] at h
        exact hj _ _ _ _ _ _ (Option.some.inj h).symm hbc hbs ls H locs hl hS) (fun hc => by
        have h : (if x ≤ y then some (.inr (t, L, r, σ, bc, bs)) else nx L r σ bc bs) = some z := h
        rw [if_neg hc] at h
        exact hnx _ _ _ _ _ h hbc hbs ls H locs hl hS)
  | if_acmp k o =>
    dsimp only [xstep] at h
    have e9 : np - pc = 3 := Nat.eq_of_beq_eq_true hlen
    rw [e9] at hd
    obtain rfl : np = pc + 3 := by omega
    have q9 := iv_t2A h
    clear h
    obtain ⟨x, y, r, rfl, h⟩ := q9
    have q9 := iv_i1 h
    clear h
    obtain ⟨t, rfl, h⟩ := q9
    have ht9 : (pc : Int) + o = (t : Int) := of_decide_eq_true hsp
    cases k
    · refine lv_acmp_eq (rx := some x) (ry := some y) hx hb hd ht9 (fun hc => ?_) (fun hc => ?_)
      · have hxy : Nat.beq x y = true := by rw [Option.some.inj hc]; exact Nat.beq_refl y
        have h : (bif Nat.beq x y then some (.inr (t, L, r, σ, bc, bs)) else nx L r σ bc bs) = some z := h
        rw [hxy] at h
        exact hj _ _ _ _ _ _ (Option.some.inj h).symm hbc hbs ls H locs hl hS
      · have hxy : Nat.beq x y = false := by
          cases h9 : Nat.beq x y
          · rfl
          · exact absurd (congrArg some (Nat.eq_of_beq_eq_true h9)) hc
        have h : (bif Nat.beq x y then some (.inr (t, L, r, σ, bc, bs)) else nx L r σ bc bs) = some z := h
        rw [hxy] at h
        exact hnx _ _ _ _ _ h hbc hbs ls H locs hl hS
    · refine lv_acmp_ne (rx := some x) (ry := some y) hx hb hd ht9 (fun hc => ?_) (fun hc => ?_)
      · have hxy : Nat.beq x y = false := by
          cases h9 : Nat.beq x y
          · rfl
          · exact absurd (congrArg some (Nat.eq_of_beq_eq_true h9)) hc
        have h : (bif Nat.beq x y then nx L r σ bc bs else some (.inr (t, L, r, σ, bc, bs))) = some z := h
        rw [hxy] at h
        exact hj _ _ _ _ _ _ (Option.some.inj h).symm hbc hbs ls H locs hl hS
      · have hxy : Nat.beq x y = true := by rw [Option.some.inj hc]; exact Nat.beq_refl y
        have h : (bif Nat.beq x y then nx L r σ bc bs else some (.inr (t, L, r, σ, bc, bs))) = some z := h
        rw [hxy] at h
        exact hnx _ _ _ _ _ h hbc hbs ls H locs hl hS
  | goto o =>
    dsimp only [xstep] at h
    have e9 : np - pc = 3 := Nat.eq_of_beq_eq_true hlen
    rw [e9] at hd
    obtain rfl : np = pc + 3 := by omega
    have q9 := iv_i1 h
    clear h
    obtain ⟨t, rfl, h⟩ := q9
    have ht9 : (pc : Int) + o = (t : Int) := of_decide_eq_true hsp
    exact lv_goto hx hb hd ht9 (hj _ _ _ _ _ _ (Option.some.inj h).symm hbc hbs ls H locs hl hS)
  | tableswitch df lo hi offs =>
    dsimp only [xstep] at h
    have q9 := iv_t1I h
    clear h
    obtain ⟨x, r, rfl, h⟩ := q9
    have q9 := iv_iSw h
    clear h
    obtain ⟨d9, l0, ts, rfl, h⟩ := q9
    have hsp : (decide (lo = (l0 : Int)) && (decide (hi = (l0 : Int) + ts.length - 1) && (decide ((pc : Int) + df = (d9 : Int)) && (xtab pc offs 0 ts && Nat.ble (l0 + ts.length) 100000)))) = true := hsp
    simp only [Bool.and_eq_true, decide_eq_true_eq] at hsp
    obtain ⟨rfl, rfl, hdf, htab, hbd⟩ := hsp
    have hbd := Nat.le_of_ble_eq_true hbd
    have q9 := iv_xsw _ _ h
    clear h
    rcases q9 with ⟨j, t, hj9, hx9, h⟩ | ⟨hno, h⟩
    · have hjl : j < ts.length := (List.getElem?_eq_some_iff.mp hj9).1
      obtain ⟨off, ho, ht⟩ := xtab_at htab hj9
      have hxi : x.toInt = (l0 + j : Nat) := by rw [hx9]; exact nI_toInt (by omega)
      refine lv_tableIn (off := off) (tgt := t) hx hb hd (by omega) (by omega) ?_ ht (hj _ _ _ _ _ _ (Option.some.inj h).symm hbc hbs ls H locs hl hS)
      rw [hxi]
      rw [show ((l0 + j : Nat) : Int) - (l0 : Int) = (j : Int) by omega]
      simpa using ho
    · refine lv_tableOut (tgt := d9) hx hb hd ?_ hdf (hj _ _ _ _ _ _ (Option.some.inj h).symm hbc hbs ls H locs hl hS)
      by_cases h1 : x.toInt < l0
      · exact Or.inl h1
      · by_cases h2 : (l0 : Int) + ts.length - 1 < x.toInt
        · exact Or.inr h2
        · refine absurd ?_ (hno (x.toInt - l0).toNat (by omega))
          apply Int32.toInt_inj.mp
          rw [nI_toInt (by omega)]
          omega
  | getfield i =>
    dsimp only [xstep] at h
    have e9 : np - pc = 3 := Nat.eq_of_beq_eq_true hlen
    rw [e9] at hd
    obtain rfl : np = pc + 3 := by omega
    have q9 := iv_t1A h
    clear h
    obtain ⟨a, r, rfl, h⟩ := q9
    have hsp : (decide ((0, i, info) ∈ PO) || decide ((6, i, info) ∈ PO)) = true := hsp
    rw [Bool.or_eq_true, decide_eq_true_eq, decide_eq_true_eq] at hsp
    have q9 := iv_xgf h
    clear h
    rcases q9 with ⟨rfl, j, hj9, h⟩ | ⟨rfl, h⟩ | ⟨rfl, h⟩ | h
    · obtain ⟨g1, rfl⟩ := iv_xfind hj9
      rcases hsp with hp | hp
      · exact absurd (hPO _ hp) (by simp [xokQ])
      · exact x_tokText hx hb hown (va_Nw.use rfl (hKK.2.2.2.2.2.2.2.2.2.1 _ (of_decide_eq_true (hPO _ hp)) rfl)) (hKK.2.2.2.1 j g1).2 hS.2.2.2 hd (hnx _ _ _ _ _ h hbc hbs ls H locs hl hS)
    · rcases hsp with hp | hp
      · exact absurd (hPO _ hp) (by simp [xokQ])
      · rcases h with ⟨j, hj9, h⟩ | ⟨fs, q, he, hv, h⟩
        · obtain ⟨g1, rfl⟩ := iv_xfind hj9
          exact vk_getf hx hb (hKK.2.2.2.2.1.1 j g1).2.2.1 hS.2.2.2 hown (hts _ (of_decide_eq_true (hPO _ hp))) (fun _ h => h) hd (hnx _ _ _ _ _ h hbc hbs ls H locs hl hS)
        · exact x_get (ci := 11) (k := 0) (nest := 0) hx hb hts hKK.2.2.2.2.2.2.2.2.2.1 hown hK hS (hPO _ hp) he hv hd (hnx _ _ _ _ _ h hbc hbs ls H locs hl hS)
    · rcases hsp with hp | hp
      · exact absurd (hPO _ hp) (by simp [xokQ])
      · rcases h with ⟨j, hj9, h⟩ | ⟨fs, q, he, hv, h⟩
        · obtain ⟨g1, rfl⟩ := iv_xfind hj9
          exact vk_getf hx hb (hKK.2.2.2.2.1.1 j g1).2.1 hS.2.2.2 hown (hts _ (of_decide_eq_true (hPO _ hp))) (fun _ h => h) hd (hnx _ _ _ _ _ h hbc hbs ls H locs hl hS)
        · exact x_get (ci := 11) (k := 1) (nest := 0) hx hb hts hKK.2.2.2.2.2.2.2.2.2.1 hown hK hS (hPO _ hp) he hv hd (hnx _ _ _ _ _ h hbc hbs ls H locs hl hS)
    · have q9 := iv_xfld h
      clear h
      obtain ⟨ci, k, t, n, fs, v, rfl, he, hv, h⟩ := q9
      rcases hsp with hp | hp
      · exact x_get hx hb hts hKK.2.2.2.2.2.2.2.2.2.1 hown hK hS (hPO _ hp) he hv hd (hnx _ _ _ _ _ h hbc hbs ls H locs hl hS)
      · exact absurd (hPO _ hp) (by simp [xokQ])
  | putfield i =>
    dsimp only [xstep] at h
    have e9 : np - pc = 3 := Nat.eq_of_beq_eq_true hlen
    rw [e9] at hd
    obtain rfl : np = pc + 3 := by omega
    have q9 := iv_tVA h
    clear h
    obtain ⟨v, a, r, rfl, h⟩ := q9
    have q9 := iv_xput h
    clear h
    obtain ⟨ci, k, t, n, fs, rfl, he, hlt, hf, h⟩ := q9
    have hsp : (decide ((0, i, [ci, k, t, n]) ∈ PO) && (xokP own ci k t n && (!(Nat.beq n 2) || ini))) = true := hsp
    simp only [Bool.and_eq_true, decide_eq_true_eq] at hsp
    obtain ⟨hp, hP, hi9⟩ := hsp
    refine x_put hx hb hts hKK.2.2.2.2.2.2.2.2.2.1 hown hK hS (hPO _ hp) hP (fun hn => hini ?_) he hlt hf hd (fun H1 locs1 hS1 => hnx _ _ _ _ _ h hbc hbs ls H1 locs1 hl hS1)
    subst hn
    simpa using hi9
  | getstatic i =>
    dsimp only [xstep] at h
    have e9 : np - pc = 3 := Nat.eq_of_beq_eq_true hlen
    rw [e9] at hd
    obtain rfl : np = pc + 3 := by omega
    have hsp := hPO _ (of_decide_eq_true hsp)
    have q9 := iv_xgs h
    clear h
    rcases q9 with ⟨j, rfl, hj9, h⟩ | ⟨rfl, h⟩ | ⟨rfl, h⟩ | ⟨rfl, h⟩ | ⟨rfl, h⟩ | ⟨rfl, h⟩ | ⟨rfl, h⟩
    · exact va_gets hx hb (hKK.1 j hj9) hS.2.2.2 hown (hts _ (of_decide_eq_true hsp)) (fun _ h => h) hd (hnx _ _ _ _ _ h hbc hbs ls H locs hl hS)
    · exact va_getsN hx hb hKK.2.1 hS.2.2.2 hown (va_Nw.use rfl (hKK.2.2.2.2.2.2.2.2.2.1 _ (of_decide_eq_true hsp) rfl)) (fun _ h => h) hd (hnx _ _ _ _ _ h hbc hbs ls H locs hl hS)
    · exact va_gets hx hb hKK.2.2.2.2.2.1 hS.2.2.2 hown (hts _ (of_decide_eq_true hsp)) (fun _ h => h) hd (hnx _ _ _ _ _ h hbc hbs ls H locs hl hS)
    · exact va_gets hx hb hKK.2.2.2.2.2.2.1 hS.2.2.2 hown (hts _ (of_decide_eq_true hsp)) (fun _ h => h) hd (hnx _ _ _ _ _ h hbc hbs ls H locs hl hS)
    · exact va_gets hx hb hKK.2.2.2.2.2.2.2.2.2.2.2.2.2.2.1 hS.2.2.2 hown (hts _ (of_decide_eq_true hsp)) (fun _ h => h) hd (hnx _ _ _ _ _ h hbc hbs ls H locs hl hS)
    · exact va_gets hx hb hKK.2.2.2.2.2.2.2.2.2.2.2.2.2.2.2.2.1 hS.2.2.2 hown (hts _ (of_decide_eq_true hsp)) (fun _ h => h) hd (hnx _ _ _ _ _ h hbc hbs ls H locs hl hS)
    · exact va_gets hx hb hKK.2.2.2.2.2.2.2.2.2.2.2.2.2.2.2.2.2.2.1 hS.2.2.2 hown (hts _ (of_decide_eq_true hsp)) (fun _ h => h) hd (hnx _ _ _ _ _ h hbc hbs ls H locs hl hS)
  | iaload =>
    dsimp only [xstep] at h
    have e9 : np - pc = 1 := Nat.eq_of_beq_eq_true hlen
    rw [e9] at hd
    obtain rfl : np = pc + 1 := by omega
    have q9 := iv_t2X h
    clear h
    obtain ⟨i, a, r, rfl, h⟩ := q9
    have q9 := iv_aI h
    clear h
    rcases q9 with ⟨n, f, he, hin, h⟩ | ⟨rfl, hin, h⟩
    · exact va_iald hx hb hK (hS.2.1.one he) 0 0 rfl rfl hin hd (hnx _ _ _ _ _ h hbc hbs ls H locs hl hS)
    · exact va_ti hx hb hKK.2.2.2.2.2.2.2.2.2.2.2.2.2.2.2.2.2.2.2.2.1 hS.2.2.2 hin rfl hd (hnx _ _ _ _ _ h hbc hbs ls H locs hl hS)
  | laload =>
    dsimp only [xstep] at h
    have e9 : np - pc = 1 := Nat.eq_of_beq_eq_true hlen
    rw [e9] at hd
    obtain rfl : np = pc + 1 := by omega
    have q9 := iv_t2X h
    clear h
    obtain ⟨i, a, r, rfl, h⟩ := q9
    have q9 := iv_aL h
    clear h
    obtain ⟨n, f, he, hin, h⟩ := q9
    exact va_lald hx hb hK (hS.2.1.one he) 0 2 rfl rfl hin hd (hnx _ _ _ _ _ h hbc hbs ls H locs hl hS)
  | daload =>
    dsimp only [xstep] at h
    have e9 : np - pc = 1 := Nat.eq_of_beq_eq_true hlen
    rw [e9] at hd
    obtain rfl : np = pc + 1 := by omega
    have q9 := iv_t2X h
    clear h
    obtain ⟨i, a, r, rfl, h⟩ := q9
    have q9 := iv_aD h
    clear h
    exact q9.elim
  | baload =>
    dsimp only [xstep] at h
    have e9 : np - pc = 1 := Nat.eq_of_beq_eq_true hlen
    rw [e9] at hd
    obtain rfl : np = pc + 1 := by omega
    have q9 := iv_t2X h
    clear h
    obtain ⟨i, a, r, rfl, h⟩ := q9
    have q9 := iv_aB h
    clear h
    rcases q9 with ⟨n, f, he, hin, h⟩ | ⟨j, hj9, hin, h⟩ | ⟨rfl, hin, h⟩ | ⟨rfl, hin, h⟩
    · exact va_bald hx hb hK (hS.2.1.one he) 0 1 rfl rfl hin hd (hnx _ _ _ _ _ h hbc hbs ls H locs hl hS)
    · obtain ⟨g1, rfl⟩ := iv_xfind hj9
      have hT := (hKK.2.2.2.2.1.1 j g1).2.2.2
      rw [xlen_ok j g1] at hT
      exact va_tb hx hb hT hS.2.2.2 hin rfl hd (hnx _ _ _ _ _ h hbc hbs ls H locs hl hS)
    · exact va_tb hx hb hKK.2.2.2.2.2.2.2.2.2.2.2.2.2.2.2.1 hS.2.2.2 hin rfl hd (hnx _ _ _ _ _ h hbc hbs ls H locs hl hS)
    · exact va_tb hx hb hKK.2.2.2.2.2.2.2.2.2.2.2.2.2.2.2.2.2.1 hS.2.2.2 hin rfl hd (hnx _ _ _ _ _ h hbc hbs ls H locs hl hS)
  | aaload =>
    dsimp only [xstep] at h
    have e9 : np - pc = 1 := Nat.eq_of_beq_eq_true hlen
    rw [e9] at hd
    obtain rfl : np = pc + 1 := by omega
    have q9 := iv_t2X h
    clear h
    obtain ⟨i, a, r, rfl, h⟩ := q9
    have q9 := iv_aQ h
    clear h
    rcases q9 with ⟨k, n, f, b, he, hk, hin, hf, h⟩ | ⟨rfl, hin, h⟩
    · have hv : va_rf (f i.toNatClampNeg) = .ref b := by rw [hf]; rfl
      rcases hk with rfl | rfl | rfl
      · refine va_aldq hx hb hK (hS.2.1.one he) 0 4 rfl rfl hin hd ?_
        rw [hv]
        exact hnx _ _ _ _ _ h hbc hbs ls H locs hl hS
      · refine va_aldq hx hb hK (hS.2.1.one he) 0 5 rfl rfl hin hd ?_
        rw [hv]
        exact hnx _ _ _ _ _ h hbc hbs ls H locs hl hS
      · refine va_aldq hx hb hK (hS.2.1.one he) 0 6 rfl rfl hin hd ?_
        rw [hv]
        exact hnx _ _ _ _ _ h hbc hbs ls H locs hl hS
    · exact vb_tq hx hb hKK.2.2.1 hS.2.2.2 hin rfl hd (hnx _ _ _ _ _ h hbc hbs ls H locs hl hS)
  | arraylength =>
    dsimp only [xstep] at h
    have e9 : np - pc = 1 := Nat.eq_of_beq_eq_true hlen
    rw [e9] at hd
    obtain rfl : np = pc + 1 := by omega
    have q9 := iv_t1A h
    clear h
    obtain ⟨a, r, rfl, h⟩ := q9
    have q9 := iv_aN h
    clear h
    rcases q9 with ⟨k, n, x, he, hk, h⟩ | ⟨rfl, h⟩ | ⟨j, hj9, h⟩ | ⟨rfl, h⟩ | ⟨rfl, h⟩
    · obtain ⟨ty, hty⟩ : ∃ ty, (xtys G.2)[k]? = some (G.2 k, ty) := by
        match k, hk with
        | 0, _ => exact ⟨_, rfl⟩
        | 1, _ => exact ⟨_, rfl⟩
        | 2, _ => exact ⟨_, rfl⟩
        | 3, _ => exact ⟨_, rfl⟩
        | 4, _ => exact ⟨_, rfl⟩
        | 5, _ => exact ⟨_, rfl⟩
        | 6, _ => exact ⟨_, rfl⟩
      exact va_alen hx hb hK (hS.2.1.one he) 0 k rfl hty rfl hd (hnx _ _ _ _ _ h hbc hbs ls H locs hl hS)
    · exact va_tlen hx hb hKK.2.2.1 hS.2.2.2 rfl hd (hnx _ _ _ _ _ h hbc hbs ls H locs hl hS)
    · obtain ⟨g1, rfl⟩ := iv_xfind hj9
      have hT := (hKK.2.2.2.2.1.1 j g1).2.2.2
      rw [xlen_ok j g1] at hT
      exact va_tlen hx hb hT hS.2.2.2 rfl hd (hnx _ _ _ _ _ h hbc hbs ls H locs hl hS)
    · exact va_tlen hx hb hKK.2.2.2.2.2.2.2.2.2.2.2.2.2.2.2.2.2.2.2.1 hS.2.2.2 rfl hd (hnx _ _ _ _ _ h hbc hbs ls H locs hl hS)
    · exact va_tlen hx hb hKK.2.2.2.2.2.2.2.2.2.2.2.2.2.2.2.2.2.2.2.2.1 hS.2.2.2 rfl hd (hnx _ _ _ _ _ h hbc hbs ls H locs hl hS)
  | iastore =>
    dsimp only [xstep] at h
    have e9 : np - pc = 1 := Nat.eq_of_beq_eq_true hlen
    rw [e9] at hd
    obtain rfl : np = pc + 1 := by omega
    have q9 := iv_t3I h
    clear h
    obtain ⟨x, i, a, r, rfl, h⟩ := q9
    have q9 := iv_sI h
    clear h
    obtain ⟨n, f, he, hin, h⟩ := q9
    exact x_iast hx hb hK hS he hin hd (fun H1 locs1 hS1 => hnx _ _ _ _ _ h hbc hbs ls H1 locs1 hl hS1)
  | bastore =>
    dsimp only [xstep] at h
    have e9 : np - pc = 1 := Nat.eq_of_beq_eq_true hlen
    rw [e9] at hd
    obtain rfl : np = pc + 1 := by omega
    have q9 := iv_t3I h
    clear h
    obtain ⟨x, i, a, r, rfl, h⟩ := q9
    have q9 := iv_sB h
    clear h
    obtain ⟨n, f, he, hin, h⟩ := q9
    exact x_bast hx hb hK hS he hin hd (fun H1 locs1 hS1 => hnx _ _ _ _ _ h hbc hbs ls H1 locs1 hl hS1)
  | lastore =>
    dsimp only [xstep] at h
    have e9 : np - pc = 1 := Nat.eq_of_beq_eq_true hlen
    rw [e9] at hd
    obtain rfl : np = pc + 1 := by omega
    have q9 := iv_t3L h
    clear h
    obtain ⟨x, i, a, r, rfl, h⟩ := q9
    have q9 := iv_sL h
    clear h
    obtain ⟨n, f, he, hin, h⟩ := q9
    exact x_last hx hb hK hS he hin hd (fun H1 locs1 hS1 => hnx _ _ _ _ _ h hbc hbs ls H1 locs1 hl hS1)
  | dastore =>
    dsimp only [xstep] at h
    have e9 : np - pc = 1 := Nat.eq_of_beq_eq_true hlen
    rw [e9] at hd
    obtain rfl : np = pc + 1 := by omega
    have q9 := iv_t3D h
    clear h
    obtain ⟨x, i, a, r, rfl, h⟩ := q9
    have q9 := iv_sD h
    clear h
    exact q9.elim
  | aastore =>
    dsimp only [xstep] at h
    have e9 : np - pc = 1 := Nat.eq_of_beq_eq_true hlen
    rw [e9] at hd
    obtain rfl : np = pc + 1 := by omega
    have q9 := iv_t3A h
    clear h
    obtain ⟨x, i, a, r, rfl, h⟩ := q9
    have q9 := iv_sQ h
    clear h
    obtain ⟨k, n, f, he, hin, hk, h⟩ := q9
    rcases hk with ⟨rfl, j, hj9⟩ | ⟨rfl, fs, hb9⟩ | ⟨rfl, fs, hb9⟩
    · obtain ⟨g1, rfl⟩ := iv_xfind hj9
      obtain ⟨cell, q1, q2, q3, q4⟩ := (hKK.2.2.2.1 j g1).1.kept hS.2.2.2.2.1
      exact x_astq hx hb hK hS he rfl ⟨cell, q1, q2, q3⟩ hin hd (fun H1 locs1 hS1 => hnx _ _ _ _ _ h hbc hbs ls H1 locs1 hl hS1)
    · exact x_astq hx hb hK hS he rfl (x_recv (ci := 2) hK hKK hS (Or.inl ⟨fs, hb9⟩)) hin hd (fun H1 locs1 hS1 => hnx _ _ _ _ _ h hbc hbs ls H1 locs1 hl hS1)
    · exact x_astqO (C := "java/lang/Object") (D := RX11) hx hb hK hS he rfl (x_recv (ci := 9) hK hKK hS (Or.inl ⟨fs, hb9⟩)) (hKK.2.2.2.2.2.2.2.2.2.1 _ xcastSO rfl) hin hd (fun H1 locs1 hS1 => hnx _ _ _ _ _ h hbc hbs ls H1 locs1 hl hS1)
  | new i =>
    dsimp only [xstep] at h
    have e9 : np - pc = 3 := Nat.eq_of_beq_eq_true hlen
    rw [e9] at hd
    obtain rfl : np = pc + 3 := by omega
    have q9 := iv_xnew h
    clear h
    rcases q9 with ⟨ci, n, rfl, hc9, hs9, h⟩ | ⟨k, is, ic, rfl, hc9, hs9, hcat, h⟩
    · have hq := hPO _ (of_decide_eq_true hsp)
      simp only [xokQ] at hq
      split at hq
      · next r hr =>
        simp only [Bool.and_eq_true, decide_eq_true_eq] at hq
        obtain ⟨w1, w2, w3, w4⟩ := hq
        have w4 := Nat.eq_of_beq_eq_true w4
        subst w4
        exact x_new hx hb hts hown hK hS hA hr w1 w2 w3 hc9 hs9 hd (fun H1 hS1 => hnx _ _ _ _ _ h hc9 hs9 ls H1 locs hl hS1)
      · cases hq
    · have hr9 := hfin _ (Option.some.inj h).symm
      exact x_throw C hsp hS hr9 hd hnL hcat hc9 hs9
  | newarray a =>
    dsimp only [xstep] at h
    have e9 : np - pc = 2 := Nat.eq_of_beq_eq_true hlen
    rw [e9] at hd
    obtain rfl : np = pc + 2 := by omega
    have q9 := iv_xnewa h
    clear h
    obtain ⟨n, r, k, rfl, rfl, hn, hc9, hs9, h5, h⟩ := q9
    have hsp : (Nat.blt k 3 && (decide (newarray.typeOf a = xkty k) && decide (Cond.arrayClass (xkty k) ∈ xWs))) = true := hsp
    simp only [Bool.and_eq_true, decide_eq_true_eq] at hsp
    obtain ⟨w1, w2, w3⟩ := hsp
    exact x_newa hx hb hts hK hS hA (Nat.le_of_ble_eq_true w1) w2 w3 hn h5 hc9 hs9 hd (fun H1 hS1 => hnx _ _ _ _ _ h hc9 hs9 ls H1 locs hl hS1)
  | anewarray i =>
    dsimp only [xstep] at h
    have e9 : np - pc = 3 := Nat.eq_of_beq_eq_true hlen
    rw [e9] at hd
    obtain rfl : np = pc + 3 := by omega
    have q9 := iv_xnewa h
    clear h
    obtain ⟨n, r, k, rfl, rfl, hn, hc9, hs9, h5, h⟩ := q9
    have hq := hPO _ (of_decide_eq_true hsp)
    match k, hq, h with
    | 4, hq, h => exact x_newq (k := 4) hx hb hts hown hK hS hA rfl hKK.2.2.2.2.2.2.2.2.2.2.1 (of_decide_eq_true hq) hn h5 hc9 hs9 hd (fun H1 hS1 => hnx _ _ _ _ _ h hc9 hs9 ls H1 locs hl hS1)
    | 5, hq, h => exact x_newq (k := 5) hx hb hts hown hK hS hA rfl hKK.2.2.2.2.2.2.2.2.2.2.2.1 (of_decide_eq_true hq) hn h5 hc9 hs9 hd (fun H1 hS1 => hnx _ _ _ _ _ h hc9 hs9 ls H1 locs hl hS1)
    | 0, hq, h => cases hq
    | 1, hq, h => cases hq
    | 2, hq, h => cases hq
    | 3, hq, h => cases hq
    | 6, hq, h => exact x_newq (k := 6) hx hb hts hown hK hS hA rfl hKK.2.2.2.2.2.2.2.2.2.2.2.2.2.2.2.2.2.2.2.2.2 (of_decide_eq_true hq) hn h5 hc9 hs9 hd (fun H1 hS1 => hnx _ _ _ _ _ h hc9 hs9 ls H1 locs hl hS1)
    | k + 7, hq, h => simp [xokQ] at hq
  | invokespecial i =>
    dsimp only [xstep] at h
    have e9 : np - pc = 3 := Nat.eq_of_beq_eq_true hlen
    rw [e9] at hd
    obtain rfl : np = pc + 3 := by omega
    have q9 := iv_xinit h
    clear h
    rcases q9 with ⟨q, rfl, a, r, rfl, hcat, h⟩ | h
    · have hsp : (decide (Cond.methodLink own i objectInit ∈ xWs) && (decide (Cond.instanceMethod objectInit ∈ xWs) && decide (Cond.code objectInit ⟨#[0xb1]⟩ 1 none ∈ xWs))) = true := hsp
      simp only [Bool.and_eq_true, decide_eq_true_eq] at hsp
      obtain ⟨w1, w2, w3⟩ := hsp
      refine W.objInit hx hb hown (hts _ w1) (hts _ w2) (hts _ w3) rfl (by rw [hml]; exact hnL) rfl hd (by show 1 ≤ d + 1 + 12; omega) (by show 2 * 0 + xcat r + 12 ≤ 40 * (d + 1) + 200; omega) (hnx _ _ _ _ _ h hbc hbs ls H locs hl hS)
    · have q9 := iv_xcall h
      clear h
      obtain ⟨kd, key, n, tag, mc, ms, ci, r, rfl, g1, g2, g3, g4, hrv, hcl, hz⟩ := q9
      have hsp : (decide ((2, i, [kd, key, n, tag, mc, ms, ci]) ∈ PO) && (Nat.beq kd 2 || (Nat.beq kd 4 || Nat.beq kd 7))) = true := hsp
      rw [Bool.and_eq_true, decide_eq_true_eq] at hsp
      have hk : kd = 2 ∨ kd = 4 ∨ kd = 7 := by simpa using hsp.2
      have hins : Instr.invokespecial i = xins kd i := by rcases hk with rfl | rfl | rfl <;> rfl
      rw [hins] at hd
      exact x_callI C hnx hfin (hPO _ hsp.1) g1 g2 g3 g4 hrv hcl hz hl hS hd
  | invokevirtual i =>
    dsimp only [xstep] at h
    have e9 : np - pc = 3 := Nat.eq_of_beq_eq_true hlen
    rw [e9] at hd
    obtain rfl : np = pc + 3 := by omega
    have q9 := iv_xinv h
    clear h
    rcases q9 with ⟨q, k, rfl, h⟩ | h
    · cases hsp
    · have q9 := iv_xcall h
      clear h
      obtain ⟨kd, key, n, tag, mc, ms, ci, r, rfl, g1, g2, g3, g4, hrv, hcl, hz⟩ := q9
      have hsp : (decide ((2, i, [kd, key, n, tag, mc, ms, ci]) ∈ PO) && (Nat.beq kd 1 || (Nat.beq kd 3 || (Nat.beq kd 5 || (Nat.beq kd 6 || Nat.beq kd 9))))) = true := hsp
      rw [Bool.and_eq_true, decide_eq_true_eq] at hsp
      have hk : kd = 1 ∨ kd = 3 ∨ kd = 5 ∨ kd = 6 ∨ kd = 9 := by simpa using hsp.2
      have hins : Instr.invokevirtual i = xins kd i := by rcases hk with rfl | rfl | rfl | rfl | rfl <;> rfl
      rw [hins] at hd
      exact x_callI C hnx hfin (hPO _ hsp.1) g1 g2 g3 g4 hrv hcl hz hl hS hd
  | invokestatic i =>
    dsimp only [xstep] at h
    have e9 : np - pc = 3 := Nat.eq_of_beq_eq_true hlen
    rw [e9] at hd
    obtain rfl : np = pc + 3 := by omega
    have q9 := iv_xinv h
    clear h
    rcases q9 with ⟨q, k, rfl, h⟩ | h
    · have q9 := iv_nz h
      clear h
      obtain ⟨hcat, h⟩ := q9
      have hcat := Nat.le_of_ble_eq_true hcat
      have q9 := iv_xprim h
      clear h
      rcases q9 with ⟨rfl, x, y, r, rfl, h⟩ | ⟨rfl, x, y, r, rfl, h⟩ | ⟨rfl, x, y, r, rfl, h⟩ | ⟨rfl, x, y, r, rfl, h⟩ | ⟨rfl, k, j, b, i9, a, r, rfl, h⟩
      · have hc9 : xcat r ≤ 16 := by simp [xcat, Value.category] at hcat ⊢; omega
        simp only [xspec, xspecP, Bool.and_eq_true, decide_eq_true_eq] at hsp
        obtain ⟨w1, w2, w3, w4⟩ := hsp
        exact va_mmax hx hb (by rw [hml, hnL]) hown (hts _ w1) (hts _ w2) (hts _ w3) (hts _ w4) (by show 1 ≤ d + 1 + 12; omega) (by show xcat r + 13 ≤ 40 * (d + 1) + 200; omega) hbc hbs hd (hnx _ _ _ _ _ h hbc hbs ls H locs hl hS)
      · have hc9 : xcat r ≤ 16 := by simp [xcat, Value.category] at hcat ⊢; omega
        simp only [xspec, xspecP, Bool.and_eq_true, decide_eq_true_eq] at hsp
        obtain ⟨w1, w2, w3, w4⟩ := hsp
        exact va_mmin hx hb (by rw [hml, hnL]) hown (hts _ w1) (hts _ w2) (hts _ w3) (hts _ w4) (by show 1 ≤ d + 1 + 12; omega) (by show xcat r + 13 ≤ 40 * (d + 1) + 200; omega) hbc hbs hd (hnx _ _ _ _ _ h hbc hbs ls H locs hl hS)
      · have hc9 : xcat r ≤ 16 := by simp [xcat, Value.category] at hcat ⊢; omega
        simp only [xspec, xspecP, Bool.and_eq_true, decide_eq_true_eq] at hsp
        obtain ⟨w1, w2, w3, w4⟩ := hsp
        exact va_mmax_long hx hb (by rw [hml, hnL]) hown (hts _ w1) (hts _ w2) (hts _ w3) (hts _ w4) (by show 1 ≤ d + 1 + 12; omega) (by show xcat r + 15 ≤ 40 * (d + 1) + 200; omega) hbc hbs hd (hnx _ _ _ _ _ h hbc hbs ls H locs hl hS)
      · have hc9 : xcat r ≤ 16 := by simp [xcat, Value.category] at hcat ⊢; omega
        simp only [xspec, xspecP, Bool.and_eq_true, decide_eq_true_eq] at hsp
        obtain ⟨w1, w2, w3, w4⟩ := hsp
        exact va_mmin_long hx hb (by rw [hml, hnL]) hown (hts _ w1) (hts _ w2) (hts _ w3) (hts _ w4) (by show 1 ≤ d + 1 + 12; omega) (by show xcat r + 15 ≤ 40 * (d + 1) + 200; omega) hbc hbs hd (hnx _ _ _ _ _ h hbc hbs ls H locs hl hS)
      · have hc9 : xcat r ≤ 16 := by simp [xcat, Value.category] at hcat ⊢; omega
        simp only [xspec, xspecP, Bool.and_eq_true, decide_eq_true_eq] at hsp
        obtain ⟨w1, w2, w3, w4⟩ := hsp
        have q9 := iv_cpI h
        clear h
        obtain ⟨k, n0, f, n1, g, he1, hk1, hsrc, hpr, hbf, h⟩ := q9
        obtain ⟨k1, k2, k3, k4, k5⟩ := iv_xcpr hpr
        have hkt : ∃ ty, (xtys G.2)[k]? = some (G.2 k, ty) ∧ (ty = .int ∨ ty = .byte) ∧ (ty = .byte → k = 1) := by
          match k, hk1 with
          | 0, _ => exact ⟨_, rfl, Or.inl rfl, fun h => by cases h⟩
          | 1, _ => exact ⟨_, rfl, Or.inr rfl, fun _ => rfl⟩
        obtain ⟨ty, hty, hty2, hty3⟩ := hkt
        have hfit : ty = .byte → ∀ j, j < n0 → fits .byte (.int (f j)) = true := by
          intro e
          have e1 := hty3 e
          rcases hbf with hbf | hbf
          · rw [e1] at hbf
            cases hbf
          · exact of_decide_eq_true hbf
        rcases hsrc with he0 | ⟨rfl, j0, hj9, rfl, rfl⟩
        · exact x_copyS hx hb (by rw [hml, hnL]) hown hts w1 w2 w3 w4 hK hS hty hty2 (hS.2.1 _ _ he0) ((hK.2 k _ hty).1 n0 (fun j => .int (f j))) (fun h => by cases h) (by show n0 ≤ (arrV (G.2 k) n0 (fun j => .int (f j))).slots.size; rw [arrV_size]; exact Nat.le_refl _) (fun j hj => arrV_read _ _ hj) hfit he1 k1 k2 k3 k4 k5 (by show 1 ≤ d + 1 + 12; omega) (by show xcat r + 40 ≤ 40 * (d + 1) + 200; omega) hd (fun H1 locs1 hS1 => hnx _ _ _ _ _ h hbc hbs ls H1 locs1 hl hS1)
        · obtain ⟨g1, rfl⟩ := iv_xfind hj9
          have hT := (hKK.2.2.2.2.1.1 j0 g1).2.2.2
          rw [xlen_ok j0 g1] at hT
          cases hty
          obtain ⟨scr, t1, t2, t3, t4, t5, t6, t7⟩ := hT.kept hS.2.2.2.2.1
          exact x_copyS (k := 1) (ty := .byte) hx hb (by rw [hml, hnL]) hown hts w1 w2 w3 w4 hK hS rfl (Or.inr rfl) t1 t2 t3 t4 (fun j hj => t6 j hj) hfit he1 k1 k2 k3 k4 k5 (by show 1 ≤ d + 1 + 12; omega) (by show xcat r + 40 ≤ 40 * (d + 1) + 200; omega) hd (fun H1 locs1 hS1 => hnx _ _ _ _ _ h hbc hbs ls H1 locs1 hl hS1)
    · have q9 := iv_xcall h
      clear h
      obtain ⟨kd, key, n, tag, mc, ms, ci, r, rfl, g1, g2, g3, g4, hrv, hcl, hz⟩ := q9
      have hsp : (decide ((2, i, [kd, key, n, tag, mc, ms, ci]) ∈ PO) && (Nat.beq kd 0 || (Nat.beq kd 8 || Nat.beq kd 10))) = true := hsp
      rw [Bool.and_eq_true, decide_eq_true_eq] at hsp
      have hk : kd = 0 ∨ kd = 8 ∨ kd = 10 := by simpa using hsp.2
      have hins : Instr.invokestatic i = xins kd i := by rcases hk with rfl | rfl | rfl <;> rfl
      rw [hins] at hd
      exact x_callI C hnx hfin (hPO _ hsp.1) g1 g2 g3 g4 hrv hcl hz hl hS hd
  | ireturn =>
    dsimp only [xstep] at h
    have e9 : np - pc = 1 := Nat.eq_of_beq_eq_true hlen
    rw [e9] at hd
    obtain rfl : np = pc + 1 := by omega
    have q9 := iv_t1I h
    clear h
    obtain ⟨x, r, rfl, h⟩ := q9
    have q9 := iv_t0 h
    clear h
    obtain ⟨rfl, h⟩ := q9
    have q9 := iv_xiret h
    clear h
    obtain ⟨t, rfl, ht, h⟩ := q9
    obtain ⟨k1, k2⟩ := x_fin (args := args) hS (hfin _ (Option.some.inj h).symm)
    have hn : narrow (xty t) (.int x) = .int x := by
      rcases ht with rfl | ht
      · rfl
      · exact ht
    exact vx_ret (W.widen hbc hbs (W.zret hx hb (by rw [hret]; exact of_decide_eq_true hsp) hn k1 k2 hd hlocks))
  | lreturn =>
    dsimp only [xstep] at h
    have e9 : np - pc = 1 := Nat.eq_of_beq_eq_true hlen
    rw [e9] at hd
    obtain rfl : np = pc + 1 := by omega
    have q9 := iv_t1L h
    clear h
    obtain ⟨x, r, rfl, h⟩ := q9
    have q9 := iv_t0 h
    clear h
    obtain ⟨rfl, h⟩ := q9
    obtain ⟨k1, k2⟩ := x_fin (args := args) hS (hfin _ (Option.some.inj h).symm)
    exact vx_ret (W.widen hbc hbs (W.lret hx hb (by rw [hret]; exact of_decide_eq_true hsp) k1 k2 hd hlocks))
  | freturn =>
    dsimp only [xstep] at h
    have e9 : np - pc = 1 := Nat.eq_of_beq_eq_true hlen
    rw [e9] at hd
    obtain rfl : np = pc + 1 := by omega
    have q9 := iv_t1F h
    clear h
    obtain ⟨x, r, rfl, h⟩ := q9
    have q9 := iv_t0 h
    clear h
    obtain ⟨rfl, h⟩ := q9
    obtain ⟨k1, k2⟩ := x_fin (args := args) hS (hfin _ (Option.some.inj h).symm)
    exact vx_ret (W.widen hbc hbs (W.fret hx hb (by rw [hret]; exact of_decide_eq_true hsp) k1 k2 hd hlocks))
  | dreturn =>
    dsimp only [xstep] at h
    have e9 : np - pc = 1 := Nat.eq_of_beq_eq_true hlen
    rw [e9] at hd
    obtain rfl : np = pc + 1 := by omega
    have q9 := iv_t1D h
    clear h
    obtain ⟨x, r, rfl, h⟩ := q9
    have q9 := iv_t0 h
    clear h
    obtain ⟨rfl, h⟩ := q9
    obtain ⟨k1, k2⟩ := x_fin (args := args) hS (hfin _ (Option.some.inj h).symm)
    exact vx_ret (W.widen hbc hbs (W.dret hx hb (by rw [hret]; exact of_decide_eq_true hsp) k1 k2 hd hlocks))
  | areturn =>
    dsimp only [xstep] at h
    have e9 : np - pc = 1 := Nat.eq_of_beq_eq_true hlen
    rw [e9] at hd
    obtain rfl : np = pc + 1 := by omega
    have q9 := iv_t1A h
    clear h
    obtain ⟨x, r, rfl, h⟩ := q9
    have q9 := iv_t0 h
    clear h
    obtain ⟨rfl, h⟩ := q9
    obtain ⟨k1, k2⟩ := x_fin (args := args) hS (hfin _ (Option.some.inj h).symm)
    obtain ⟨rt, hrt, hrr⟩ := xisr_ok (show xisr ret = true from hsp)
    exact vx_ret (W.widen hbc hbs (W.aret hx hb (by rw [hret]; exact hrt) hrr (Or.inr ⟨_, rfl⟩) k1 k2 hd hlocks))
  | return_ =>
    dsimp only [xstep] at h
    have e9 : np - pc = 1 := Nat.eq_of_beq_eq_true hlen
    rw [e9] at hd
    obtain rfl : np = pc + 1 := by omega
    have q9 := iv_t0 h
    clear h
    obtain ⟨rfl, h⟩ := q9
    obtain ⟨k1, k2⟩ := x_fin (args := args) hS (hfin _ (Option.some.inj h).symm)
    exact vx_ret (W.widen hbc hbs (W.vret hx hb (by rw [hret]; exact of_decide_eq_true hsp) k1 k2 hd hlocks))
  | _ => cases h
end STEPS
