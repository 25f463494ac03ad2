/-! WHAT STAYS: the Tokens, the literals, the statics; a method's contract in the interpreter's words; calls. -/
def xtn (i : Nat) : String := (["END", "NUMBER", "UNKNOWN", "SEMICOLON", "PLUS", "MINUS", "TIMES", "OVER", "OPEN", "CLOSE", "SHELLS", "STEPS", "BLINKS", "CHANCE", "BALL", "SCRATCH", "TRUST", "CALM", "SLY", "PURSE", "BLINK", "ODDS", "SWAP", "FEINT", "REST", "STEAL", "PLANT", "PEEK", "REPEAT"] : List String).getD i ""
/-- the sites of text constants: class, place in its pool, text, which literal -/
def xK (lds : List (String × Nat × String × Nat)) (exs : List (String × Nat × String)) (E : xEn) (A : Nat → Prop) (U : State) (H : Heap) : Prop :=
  (∀ i, i < 29 → va_Z RX8 (xtn i) "LShellWatch$Token;" (.ref (E.1 i)) A U H) ∧
  va_Z RX8 "ALL" "[LShellWatch$Token;" (.ref E.2.2.2.1) A U H ∧
  va_T (.object RX8) E.2.2.2.1 29 (fun j => .ref (E.1 j)) A U H ∧
  (∀ i, i < 29 → va_O RX8 (E.1 i) A U H ∧ va_OF RX8 "text" "Ljava/lang/String;" (.ref (E.2.1 (xtt i))) (E.1 i) A U H) ∧
  vk_S xNS (xbyt.map List.length) xbyt E.2.1 E.2.2.1 A U H ∧
  va_Z RJ0 "COMPACT_STRINGS" "Z" (.int 1) A U H ∧
  va_Z RJ3 "SIOOBE_FORMATTER" "Ljava/util/function/BiFunction;" (eFm E) A U H ∧
  vx_Zq Bundle.tN "UNASSIGNED_STACK" Bundle.steD A U H ∧ vx_Zq Bundle.tN "SUPPRESSED_SENTINEL" Bundle.listD A U H ∧
  xNw U ∧ va_AO "ShellWatch$Token" U ∧ va_AO "ShellWatch$Game" U ∧
  (∀ q ∈ lds, vk_R q.1 q.2.1 q.2.2.1 (E.2.1 q.2.2.2) U) ∧ (∀ q ∈ exs, ∃ sa, vk_R q.1 q.2.1 q.2.2 sa U) ∧
  va_Z RJ6 "DigitOnes" "[B" (.ref (eD1 E)) A U H ∧ va_T .byte (eD1 E) 100 (fun j => .int (nI (48 + j % 10))) A U H ∧
  va_Z RJ6 "DigitTens" "[B" (.ref (eD2 E)) A U H ∧ va_T .byte (eD2 E) 100 (fun j => .int (nI (48 + j / 10))) A U H ∧
  va_Z RJx4a65c "DEFAULTCAPACITY_EMPTY_ELEMENTDATA" "[Ljava/lang/Object;" (.ref (eDc E)) A U H ∧ va_T (.object "java/lang/Object") (eDc E) 0 (fun _ => .null) A U H ∧
  va_T .int (eSa E) (eSn E) (fun j => .int (eSf E j)) A U H ∧ va_AO "java/lang/Object" U
theorem xK.to {lds : List (String × Nat × String × Nat)} {exs : List (String × Nat × String)} {E : xEn} {A B : Nat → Prop} {s U : State} {H0 H : Heap} (hW : s.WarmedH U.vm) (h : xK lds exs E A s H0) (hq : ∀ a : Nat, a < H0.size → ¬ A a → H[a]? = H0[a]?) (hB : ∀ q, B q → A q) : xK lds exs E B U H := by
  have hv := hW.alike
  obtain ⟨h1, h2, h3, h4, h5, h6, h7, h8, h9, h10, h11, h12, h13, h14, k1, k2, k3, k4, k5, k6, k7, k8⟩ := h
  exact ⟨fun i hi => ((h1 i hi).kept hq).narrow hB |>.moved hv, ((h2.kept hq).narrow hB).moved hv, ((h3.kept hq).narrow hB).moved hv,
    fun i hi => ⟨(((h4 i hi).1.kept hq).narrow hB).moved hv, (((h4 i hi).2.kept hq).narrow hB).moved hv⟩, ((h5.kept hq).narrow hB).moved hv,
    ((h6.kept hq).narrow hB).moved hv, ((h7.kept hq).narrow hB).moved hv, ((h8.kept hq).narrow hB).moved hv, ((h9.kept hq).narrow hB).moved hv,
    h10.warm hW, h11.moved hv, h12.moved hv, fun q hq9 => (h13 q hq9).warm hW, fun q hq9 => (h14 q hq9).imp fun sa h => h.warm hW,
    ((k1.kept hq).narrow hB).moved hv, ((k2.kept hq).narrow hB).moved hv, ((k3.kept hq).narrow hB).moved hv, ((k4.kept hq).narrow hB).moved hv, ((k5.kept hq).narrow hB).moved hv, ((k6.kept hq).narrow hB).moved hv, ((k7.kept hq).narrow hB).moved hv, k8.moved hv⟩
def xA (σ : xH) : Nat → Prop := fun q => σ.1 q ≠ none ∨ σ.2 ≤ q
def xPre (lds : List (String × Nat × String × Nat)) (exs : List (String × Nat × String)) (G : xG) (E : xEn) (av : List Value) (σ : xH) : Array Value → State → Prop := va_Pc av (fun U => U.heap.size = σ.2 ∧ xWo G σ.1 U.heap ∧ va_K G.1 vwCl (xtys G.2) U ∧ xK lds exs E (xA σ) U U.heap)
def xEnd (G : xG) (A : Nat → Prop) (w : Nat → Option va_E) (st t : State) : Prop := xWo G w t.heap ∧ (∀ a, w a ≠ none → A a) ∧ va_F A st t
def xQc (G : xG) (A : Nat → Prop) (r : xR) : Array Value → State → Outcome → State → Prop := fun _ st oc t => ∃ v, r.1 = .inl v ∧ oc = .returned v ∧ t.heap.size = r.2.2 ∧ xEnd G A r.2.1 st t
def xXC (G : xG) (A : Nat → Prop) (r : xR) : String → State → State → Prop := fun E st t => r.1 = .inr E ∧ t.heap.size = r.2.2 + 1 ∧ xEnd G A r.2.1 st t
def xrm (d mc ms : Nat) : Room := { frames := d + 12, cells := mc, slots := ms, locals := 40 * d + 200 }
def xcw (M : xMth) : Bool := decide (M.1 = yL_steals) || decide (M.1 = yL_plants)
def xhd (M : xMth) : Cond := bif xcw M then .codeWith M.1 M.2.1 M.2.2.1 M.2.2.2.1 [(0, 5, 6, 37)] else .code M.1 M.2.1 M.2.2.1 M.2.2.2.1
def xws (M : xMth) : List Cond := xhd M :: xWs
/-- the contract of a method: where its code's value is r, it comes to r -/
def xMet (lds : List (String × Nat × String × Nat)) (exs : List (String × Nat × String)) (l : Launch) (G : xG) (E : xEn) (d : Nat) (M : xMth) (f : List Value → xH → Option xR) : Prop :=
  ∀ (av : List Value) (σ : xH) (r : xR), f av σ = some r → vx_Met l M.1 (xws M) (xrm d M.2.2.2.2.1 M.2.2.2.2.2) (xPre lds exs G E av σ) (xQc G (xA σ) r) (xXC G (xA σ) r) M.2.2.2.2.1 M.2.2.2.2.2 (xA σ)
theorem xPre_blind {lds : List (String × Nat × String × Nat)} {exs : List (String × Nat × String)} {G : xG} {E : xEn} {av : List Value} {σ : xH} : FrameBlind (xPre lds exs G E av σ) := by
  intro a U g mk h
  obtain ⟨h1, h2, h3, h4, h5⟩ := h
  exact ⟨h1, h2, h3, va_K.moved (u := U) (U := U.calling g mk a) (Vm.Alike.refl U.vm) h4, xK.to (s := U) (U := U.calling g mk a) (State.WarmedH.refl U) h5 (fun _ _ _ => rfl) (fun _ h => h)⟩
theorem xMet_plain {l : Launch} {y : MethodName} {ws : List Cond} {rm : Room} {Pc : Array Value → State → Prop} {Qc : Array Value → State → Outcome → State → Prop} {XC : String → State → State → Prop} {mc ms : Nat} {free : Addr → Prop} (h : vx_Met l y ws rm Pc Qc XC mc ms free) (hx : ∀ E st t, ¬ XC E st t) : Met l y ws rm Pc Qc mc ms free := by
  intro p e h1 h2 h3 s m args below h4 h5 h6 h7
  obtain ⟨n, o, q1, q2, q3, q4⟩ := h p e h1 h2 h3 s m args below h4 h5 h6 h7
  refine ⟨n, o, q1, q2, q3, ?_⟩
  rcases q4 with q | ⟨q, -, E, ce, L, hE, -⟩
  · exact q
  · exact absurd hE (hx _ _ _)
section CALLS
variable {p : Program} {l : Launch} {e : Env} {R : Room} {s : State} {m : MethodId} {args : Array Value} {below : List Frame} {meth : Method} {c : Code} {H : Heap} {locs : List Loc} {bc bs mc ms : Nat} {Q : State → Prop}
variable {cc : ByteArray} {pc : Nat} {ls : Array Slot} {st0 rest : List Value} {G : xG} {E : xEn} {A : Nat → Prop} {σ : xH} {own : String} {r : xR}
variable {lds : List (String × Nat × String × Nat)} {exs : List (String × Nat × String)}
theorem xS.sub (hS : xS G A s.heap σ H locs) (hA : ∀ q, s.heap.size ≤ q → A q) : ∀ q, xA σ q → A q := by
  intro q h
  rcases h with h | h
  · exact hS.2.2.1 q h
  · refine hA q (Nat.le_trans hS.2.2.2.1 ?_)
    rw [hS.1]
    exact h
theorem xS.next {st₀ t T' : State} {L : List Loc} (hS : xS G A s.heap σ H locs) (hA : ∀ q, s.heap.size ≤ q → A q) (h0 : st₀.heap = H) (e1 : T'.heap = t.heap) (hL : ∀ q ∈ L, xA σ q.base) (hend : xEnd G (xA σ) r.2.1 st₀ t) {z : Nat} (hz : t.heap.size = z) : xS G A s.heap (r.2.1, z) T'.heap (locs ++ L) := by
  have hsub := hS.sub hA
  obtain ⟨h1, h2, h3⟩ := hend
  refine ⟨by rw [e1]; exact hz, by rw [e1]; exact h1, fun a ha => hsub a (h2 a ha), ?_⟩
  exact (vx_keep h0 e1 hS.2.2.2 (fun q _ h => hsub q h) hsub hL h3).2.2
/-- behind a call that answers or throws -/
theorem x_ran {av : Array Value} (hr : vx_Run p l e R s m args below meth c H locs bc bs mc ms (F0 m pc ls st0) rest (xQc G (xA σ) r av) (xXC G (xA σ) r) (xA σ)) (hS : xS G A s.heap σ H locs) (hA : ∀ q, s.heap.size ≤ q → A q)
    (kx : ∀ (X : String) (ce : Cell) (q9 : Addr) (H1 : Heap) (locs1 : List Loc), r.1 = .inr X → xS G A s.heap (r.2.1, r.2.2 + 1) H1 locs1 → H1[q9]? = some ce → ce.vm = .none → s.vm.findClass X = some ce.cls → vx_W p l e R s m args below meth c H1 locs1 (bc + mc) (bs + ms) Q (F0 m pc ls rest) q9)
    (kk : ∀ (v : Option Value) (H1 : Heap) (locs1 : List Loc), r.1 = .inl v → xS G A s.heap r.2 H1 locs1 → W p l e R s m args below meth c H1 locs1 (bc + mc) (bs + ms) Q (F0 m (pc + 3) ls (v.toList ++ rest))) : W p l e R s m args below meth c H locs bc bs Q (F0 m pc ls st0) := by
  intro T hT X
  rcases hr T hT X with ⟨v, st₀, t, T', L, h0, X', hL, e1, e2, ⟨v', hv, hv2, hz, hend⟩, st⟩ | ⟨q, st₀, t, T', L, E9, ce, h0, X', hL, e1, e2, ⟨hE, hzx, hend⟩, hce, hcv, hcl, st⟩
  · cases hv2
    obtain ⟨t2, a1, b1⟩ := kk v T'.heap (locs ++ L) hv (hS.next hA h0 e1 hL hend hz) T' rfl X'
    exact ⟨t2, st t2 a1, b1⟩
  · obtain ⟨t2, a1, b1⟩ := kx E9 ce q T'.heap (locs ++ L) hE (hS.next hA h0 e1 hL hend hzx) (by rw [e1]; exact hce) hcv hcl T' rfl X'
    exact ⟨t2, st.trans a1, b1⟩
/-- behind a call that answers -/
theorem x_ranM {av : Array Value} (hr : va_Run p l e R s m args below meth c H locs bc bs mc ms (F0 m pc ls st0) rest (xQc G (xA σ) r av) (xA σ)) (hS : xS G A s.heap σ H locs) (hA : ∀ q, s.heap.size ≤ q → A q)
    (kk : ∀ (v : Option Value) (H1 : Heap) (locs1 : List Loc), r.1 = .inl v → xS G A s.heap r.2 H1 locs1 → W p l e R s m args below meth c H1 locs1 (bc + mc) (bs + ms) Q (F0 m (pc + 3) ls (v.toList ++ rest))) : W p l e R s m args below meth c H locs bc bs Q (F0 m pc ls st0) := by
  intro T hT X
  obtain ⟨v, st₀, t, T', L, h0, X', hL, e1, e2, ⟨v', hv, hv2, hz, hend⟩, st⟩ := hr T hT X
  cases hv2
  obtain ⟨t2, a1, b1⟩ := kk v T'.heap (locs ++ L) hv (hS.next hA h0 e1 hL hend hz) T' rfl X'
  exact ⟨t2, st t2 a1, b1⟩
/-- the premise of a call out of the caller's world -/
theorem x_pre (hK : va_K G.1 vwCl (xtys G.2) s) (hKK : xK lds exs E A s s.heap) (hS : xS G A s.heap σ H locs) (hA : ∀ q, s.heap.size ≤ q → A q) (av : List Value) : ∀ U : State, U.heap = H → s.WarmedH U.vm → xPre lds exs G E av σ av.toArray U := by
  intro U hU hW
  refine ⟨rfl, by rw [hU]; exact hS.1, by rw [hU]; exact hS.2.1, hK.moved hW.alike, ?_⟩
  rw [hU]
  exact hKK.to hW (fun a h1 h2 => hS.2.2.2.2.1 a h1 h2) (hS.sub hA)
end CALLS
