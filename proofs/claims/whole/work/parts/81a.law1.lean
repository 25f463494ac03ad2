/-! THE LAW: contracts over a larger world; the law's own steps. -/
theorem vx_conseq {l : Launch} {y : MethodName} {ws : List Cond} {rm : Room} {Pc Pc' : Array Value → State → Prop} {Qc Qc' : Array Value → State → Outcome → State → Prop} {XC XC' : String → State → State → Prop} {mc ms : Nat} {free free' : Addr → Prop} (h : vx_Met l y ws rm Pc Qc XC mc ms free) (hp : ∀ a s, Pc' a s → Pc a s) (hq : ∀ a s o t, Pc' a s → Qc a s o t → Qc' a s o t) (hx : ∀ E a s t, Pc' a s → XC E s t → XC' E s t) (hf : ∀ q, free q → free' q) : vx_Met l y ws rm Pc' Qc' XC' mc ms free' := by
  intro p e h1 h2 h3 s m args below h4 h5 h6 h7
  obtain ⟨n, o, q1, q2, q3, q4⟩ := h p e h1 h2 h3 s m args below h4 h5 (hp _ _ h6) h7
  refine ⟨n, o, q1, q2, q3, ?_⟩
  rcases q4 with ⟨q, L, fe, hL⟩ | ⟨q, ho, E, ce, L, hE, r1, r2, r3, r4, r5, r6⟩
  · exact Or.inl ⟨hq _ _ _ _ h6 q, L, fe, fun z hz => hf _ (hL z hz)⟩
  · exact Or.inr ⟨q, ho, E, ce, L, hx _ _ _ _ h6 hE, r1, r2, r3, r4, r5, fun z hz => hf _ (r6 z hz)⟩
/-- a function that knows one answer -/
noncomputable def xsg (av : List Value) (σ : xH) (r : xR) : List Value → xH → Option xR := fun av' σ' => @ite _ (av' = av ∧ σ' = σ) (Classical.propDecidable _) (some r) none
theorem xsg_s {av : List Value} {σ : xH} {r : xR} : xsg av σ r av σ = some r := if_pos ⟨rfl, rfl⟩
theorem xsg_of {av av' : List Value} {σ σ' : xH} {r r' : xR} (h : xsg av σ r av' σ' = some r') : av' = av ∧ σ' = σ ∧ r = r' := by
  unfold xsg at h
  split at h
  · next c => exact ⟨c.1, c.2, Option.some.inj h⟩
  · cases h
theorem va_at_lt {D : va_G} {cl : List vw_C} {a : Nat} {e : va_E} {H : Heap} (h : va_at D cl (a, e) H) : a < H.size := by
  cases e with
  | inl x =>
    have h : H[a]? = some (vp_cell x.1 x.2) := h
    exact (Array.getElem?_eq_some_iff.mp h).1
  | inr o =>
    obtain ⟨r, h1, h2⟩ := h
    by_cases c : a < H.size
    · exact c
    · have hn : H[a]? = none := Array.getElem?_eq_none (Nat.le_of_not_lt c)
      obtain ⟨ce, hc, _⟩ := h2
      have hc : H[a]? = some ce := hc
      rw [hn] at hc
      cases hc
def xsub (w1 w : Nat → Option va_E) : Prop := ∀ a e, w1 a = some e → w a = some e
section FRM
variable {lds : List (String × Nat × String × Nat)} {exs : List (String × Nat × String)} {l : Launch} {G : xG} {E : xEn} {d : Nat} {M : xMth} {f : List Value → xH → Option xR}
theorem xEnd_fr {st t : State} {w1 w w1' u : Nat → Option va_E} {n : Nat} (h1 : xsub w1 w) (h2 : ∀ a e, u a = some e → w1' a = some e ∨ (w1 a = none ∧ w a = some e)) (hs : st.heap.size = n) (hWo : xWo G w st.heap) (h : xEnd G (xA (w1, n)) w1' st t) : xEnd G (xA (w, n)) u st t := by
  obtain ⟨k1, k2, k3⟩ := h
  have hsub : ∀ q, xA (w1, n) q → xA (w, n) q := by
    rintro q (hq | hq)
    · refine Or.inl (fun hn => ?_)
      cases hc : w1 q with
      | none => exact hq hc
      | some e =>
        have hn : w q = none := hn
        rw [h1 q e hc] at hn
        cases hn
    · exact Or.inr hq
  refine ⟨fun a e he => ?_, fun a ha => ?_, k3.1, fun q hq hA => k3.2 q hq (fun z => hA (hsub q z))⟩
  · rcases h2 a e he with h | ⟨h, h'⟩
    · exact k1 a e h
    · have hat := hWo a e h'
      have hlt : a < st.heap.size := va_at_lt hat
      refine hat.kept (k3.2 a hlt ?_)
      rintro (z | z)
      · exact z h
      · have z : n ≤ a := z
        omega
  · cases hu : u a with
    | none => exact absurd hu ha
    | some e =>
      rcases h2 a e hu with h | ⟨h, h'⟩
      · exact hsub a (k2 a (by rw [h]; exact fun z => by cases z))
      · exact Or.inl (fun hn => by
          have hn : w a = none := hn
          rw [h'] at hn
          cases hn)
/-- a method's contract, over a larger world, of which u is left -/
theorem x_frm (hM : xMet lds exs l G E d M f) {av : List Value} {w1 w w1' u : Nat → Option va_E} {n n1 : Nat} {v : Option Value ⊕ String} (hf : f av (w1, n) = some (v, (w1', n1))) (h1 : xsub w1 w) (h2 : ∀ a e, u a = some e → w1' a = some e ∨ (w1 a = none ∧ w a = some e)) : xMet lds exs l G E d M (xsg av (w, n) (v, (u, n1))) := by
  intro av' σ' r' h
  obtain ⟨rfl, rfl, rfl⟩ := xsg_of h
  have hsub : ∀ q, xA (w1, n) q → xA (w, n) q := by
    rintro q (hq | hq)
    · refine Or.inl (fun hn => ?_)
      cases hc : w1 q with
      | none => exact hq hc
      | some e =>
        have hn : w q = none := hn
        rw [h1 q e hc] at hn
        cases hn
    · exact Or.inr hq
  refine vx_conseq (hM av' (w1, n) _ hf) (fun a s hp => ?_) (fun a s o t hp hq => ?_) (fun X a s t hp hx => ?_) hsub
  · obtain ⟨ha, hsz, hWo, hK, hKK⟩ := hp
    exact ⟨ha, hsz, fun a e h => hWo a e (h1 a e h), hK, xK.to (s := s) (U := s) (State.WarmedH.refl s) hKK (fun _ _ _ => rfl) hsub⟩
  · obtain ⟨ha, hsz, hWo, hK, hKK⟩ := hp
    obtain ⟨v', q1, q2, q3, q4⟩ := hq
    exact ⟨v', q1, q2, q3, xEnd_fr h1 h2 hsz hWo q4⟩
  · obtain ⟨ha, hsz, hWo, hK, hKK⟩ := hp
    exact ⟨hx.1, xEnd_fr h1 h2 hsz hWo hx.2⟩
theorem xMet_none : xMet lds exs l G E d M (fun _ _ => none) := fun _ _ _ h => by cases h
end FRM
/-- what the catching asks: no exception of the four is another -/
def xNx (U : State) : Prop := ∀ i j, i < 4 → j < 4 → i ≠ j → va_Nc (xexc i) (xexc j) U
theorem xNx.moved {u U : State} (hvm : u.vm.Alike U.vm) (h : xNx u) : xNx U := fun i j a b c => (h i j a b c).moved hvm
def hPre (lds : List (String × Nat × String × Nat)) (exs : List (String × Nat × String)) (G : xG) (E : xEn) (av : List Value) (σ : xH) : Array Value → State → Prop := fun a U => xPre lds exs G E av σ a U ∧ xNx U
theorem hPre_blind {lds : List (String × Nat × String × Nat)} {exs : List (String × Nat × String)} {G : xG} {E : xEn} {av : List Value} {σ : xH} : FrameBlind (hPre lds exs G E av σ) := by
  intro a U g mk h
  exact ⟨xPre_blind a U g mk h.1, h.2.moved (Vm.Alike.refl U.vm)⟩
def hWs (y : MethodName) (cc : ByteArray) (nL : Nat) (hh : List (Nat × Nat × Nat × Nat)) : List Cond := .codeWith y cc nL (some .int) hh :: xWs
/-- what a helper leaves: how large the memory is, is not said -/
def hQz (G : xG) (A : Nat → Prop) (r : xR) : Array Value → State → Outcome → State → Prop := fun a st oc t => ∃ z, xQc G A (r.1, (r.2.1, z)) a st oc t
/-- the contract of a helper that catches: it answers, in the interpreter's words -/
def hMet (lds : List (String × Nat × String × Nat)) (exs : List (String × Nat × String)) (l : Launch) (G : xG) (E : xEn) (d : Nat) (y : MethodName) (cc : ByteArray) (nL : Nat) (hh : List (Nat × Nat × Nat × Nat)) (mc ms : Nat) (av : List Value) (σ : xH) (r : xR) : Prop :=
  Met l y (hWs y cc nL hh) (xrm d mc ms) (hPre lds exs G E av σ) (hQz G (xA σ) r) mc ms (xA σ)
def hokC (own : String) (idx n : Nat) (y : MethodName) (cc : ByteArray) (nL : Nat) (hh : List (Nat × Nat × Nat × Nat)) : Bool :=
  Nat.ble nL 21 && (decide (Cond.codeWith y cc nL (some .int) hh ∈ xWs) && (decide (y.cls ≠ "java/lang/invoke/MethodHandle" ∧ y.cls ≠ "java/lang/invoke/VarHandle") && (decide (Cond.initialized y.cls ∈ xWs) && (decide ((parseMethodDescriptor y.desc).map (fun d => d.parameters.length) = some n) && (decide (Cond.methodLink own idx y ∈ xWs) && decide (Cond.static y ∈ xWs))))))
section LAWSTEP
variable {p : Program} {l : Launch} {e : Env} {s : State} {m : MethodId} {args : Array Value} {below : List Frame} {meth : Method} {c : Code}
variable {lds : xLds} {exs : List (String × Nat × String)} {G : xG} {E : xEn} {A : Nat → Prop} {d MC MS nL : Nat} {call : Nat → List Value → xH → Option xR} {Mt : Nat → Option xMth} {own : String} {ini : Bool} {cc : ByteArray} {ret : Option FieldType} {PO : xPool} {Q : State → Prop}
theorem xTg_sub {pc : Nat} {L L' : xL} {st : List Value} {σ : xH} {bc bs : Nat} (hL : ∀ q ∈ L', q ∈ L) (kk : xTg p l e s m args below meth c d MC MS Q G A nL pc L' st σ bc bs) : xTg p l e s m args below meth c d MC MS Q G A nL pc L st σ bc bs :=
  fun hbc hbs ls H locs hl hS => kk hbc hbs ls H locs ⟨hl.1, hl.2.1, fun q hq => hl.2.2 q (hL q hq)⟩ hS
theorem xTg_w {pc : Nat} {L : xL} {st : List Value} {w w' : Nat → Option va_E} {n : Nat} {bc bs bc' bs' : Nat} (hw : ∀ a x, w' a = some x → w a = some x) (h1 : bc ≤ bc') (h2 : bs ≤ bs') (b1 : bc' ≤ MC) (b2 : bs' ≤ MS) (kk : xTg p l e s m args below meth c d MC MS Q G A nL pc L st (w', n) bc' bs') : xTg p l e s m args below meth c d MC MS Q G A nL pc L st (w, n) bc bs := by
  intro hbc hbs ls H locs hl hS
  refine W.widen h1 h2 (kk b1 b2 ls H locs hl ⟨hS.1, fun a x h => hS.2.1 a x (hw a x h), fun a ha => hS.2.2.1 a (fun hn => ?_), hS.2.2.2⟩)
  have ha : w' a ≠ none := ha
  have hn : w a = none := hn
  cases hc : w' a with
  | none => exact ha hc
  | some x =>
    rw [hw a x hc] at hn
    cases hn
/-- a read of the script -/
def ldOk (cc : ByteArray) (pc : Nat) (k : Int) : Bool := decide (decode cc pc = .ok (.aload_n 0, 1)) && (decide (decode cc (pc + 1) = .ok (.iload 5, 2)) && (decide (decode cc (pc + 3) = .ok (.iconst k, 1)) && (decide (decode cc (pc + 4) = .ok (.iadd, 1)) && decide (decode cc (pc + 5) = .ok (.iaload, 1)))))
theorem x_ld (C : xCx p l s m args meth c lds exs G E A d call Mt own ini cc nL ret PO) {b N : Nat} {xs : Nat → Int32} (hX : va_X b N xs s s.heap) (hbl : b < s.heap.size) (hbA : ¬ A b) (hN : N ≤ 3072) {pc i k : Nat} {kz : Int} {L : xL} {st : List Value} {σ : xH} {bc bs : Nat} (hk : Int32.ofInt kz = nI k) (hd : ldOk cc pc kz = true) (h0 : xget L 0 = some (.ref b)) (h5 : xget L 5 = some (.int (nI i))) (hi : i + k < N)
    (kk : xTg p l e s m args below meth c d MC MS Q G A nL (pc + 6) L (.int (xs (i + k)) :: st) σ bc bs) : xTg p l e s m args below meth c d MC MS Q G A nL pc L st σ bc bs := by
  obtain ⟨hx, hb, -⟩ := C
  unfold ldOk at hd
  simp only [Bool.and_eq_true, decide_eq_true_eq] at hd
  obtain ⟨d0, d1, d2, d3, d4⟩ := hd
  intro hbc hbs ls H locs hl hS
  have hc : (nI (i + k)).toNatClampNeg = i + k := nI_clamp (by omega)
  have hin : vp_in (nI (i + k)) N := by
    intro h
    rcases h with h | h
    · exact nI_nlt (Nat.zero_le _) (by omega) h
    · rw [hc] at h
      omega
  refine lv_aload_n hx hb d0 rfl (xget_has hl h0) ?_
  refine lv_iload hx hb d1 (xget_has hl h5) ?_
  refine lv_iconst hx hb d2 hk ?_
  refine lv_iadd hx hb d3 ?_
  rw [nI_add]
  refine va_sld hx hb hX hbl hbA hS.2.2.2 hin d4 ?_
  rw [hc]
  exact kk hbc hbs ls H locs hl hS
theorem x_ranZ {R : Room} {av : Array Value} {r : xR} {σ : xH} {H : Heap} {locs : List Loc} {bc bs mc ms pc : Nat} {ls : Array Slot} {st0 rest : List Value} (hr : va_Run p l e R s m args below meth c H locs bc bs mc ms (F0 m pc ls st0) rest (hQz G (xA σ) r av) (xA σ)) (hS : xS G A s.heap σ H locs) (hA : ∀ q, s.heap.size ≤ q → A q)
    (kk : ∀ (z : Nat) (v : Option Value) (H1 : Heap) (locs1 : List Loc), r.1 = .inl v → xS G A s.heap (r.2.1, z) H1 locs1 → W p l e R s m args below meth c H1 locs1 (bc + mc) (bs + ms) Q (F0 m (pc + 3) ls (v.toList ++ rest))) : W p l e R s m args below meth c H locs bc bs Q (F0 m pc ls st0) := by
  intro T hT X
  obtain ⟨v, st₀, t, T', L, h0, X', hL, e1, e2, ⟨z, v', hv, hv2, hz, hend⟩, st⟩ := hr T hT X
  cases hv2
  obtain ⟨t2, a1, b1⟩ := kk z v T'.heap (locs ++ L) hv (hS.next hA h0 e1 hL hend hz) T' rfl X'
  exact ⟨t2, st t2 a1, b1⟩
/-- a call of a helper -/
theorem x_callh (C : xCx p l s m args meth c lds exs G E A d call Mt own ini cc nL ret PO) (hNx : xNx s) {pc idx n nL' mc ms bc bs : Nat} {y : MethodName} {cc' : ByteArray} {hh : List (Nat × Nat × Nat × Nat)} {av st : List Value} {σ σ' : xH} {v : Value} {L : xL} (hok : hokC own idx n y cc' nL' hh = true) (hM : hMet lds exs l G E d y cc' nL' hh mc ms av σ (.inl (some v), σ')) (hn : av.length = n) (hW : xcat st ≤ 8) (hbc : bc + mc ≤ MC) (hbs : bs + ms ≤ MS) (hdg : decode cc pc = .ok (.invokestatic idx, 3))
    (kk : ∀ z, xTg p l e s m args below meth c d MC MS Q G A nL (pc + 3) L (v :: st) (σ'.1, z) (bc + mc) (bs + ms)) : xTg p l e s m args below meth c d MC MS Q G A nL pc L (av.reverse ++ st) σ bc bs := by
  obtain ⟨hx, hb, hml, hts, hown, hK, hKK, hA, -⟩ := C
  unfold hokC at hok
  simp only [Bool.and_eq_true, decide_eq_true_eq] at hok
  obtain ⟨h21, hcode, hy, hini, hd, hl9, hs9⟩ := hok
  have h21 : nL' ≤ 21 := Nat.le_of_ble_eq_true h21
  have hR : (xrm d mc ms).frames + 1 ≤ (xrm (d + 1) MC MS).frames ∧ 8 + (nL' + 11) + (xrm d mc ms).locals ≤ (xrm (d + 1) MC MS).locals := by
    unfold xrm
    dsimp only
    omega
  intro _ _ ls H locs hl hS
  have hCF : CallFix p m c cc nL s args xWs own := ⟨hx, hb, hml, hown, hts⟩
  have hpre := x_pre hK hKK hS hA av
  refine x_ranZ (vx_runSW hCF hM (vx_cwSW n hts (xGI ?_) rfl rfl rfl ⟨hy.1, hy.2, hd⟩ hR) ⟨hPre_blind, fun U hU hWm => ⟨hpre U hU hWm, hNx.moved hWm.alike⟩⟩ rfl hn hl.1 rfl (by simpa [xcat] using hW) hdg ⟨hbc, hbs⟩) hS hA (fun z v' H1 locs1 q1 hS1 => ?_)
  · intro w hw
    rcases List.mem_append.mp hw with hw | hw
    · simp only [List.mem_cons, List.not_mem_nil, or_false] at hw
      rcases hw with rfl | rfl | rfl
      · exact hl9
      · exact hs9
      · exact hini
    · rcases List.mem_cons.mp hw with rfl | hw
      · exact hcode
      · exact hw
  · cases q1
    exact kk z hbc hbs ls H1 locs1 hl hS1
/-- a call of a method of the table -/
theorem x_callx (C : xCx p l s m args meth c lds exs G E A d call Mt own ini cc nL ret PO) {pc kd idx n ci bc bs : Nat} {M : xMth} {f : List Value → xH → Option xR} {av st : List Value} {σ σ' : xH} {v : Option Value} {L : xL} (hok : xokC own kd idx n ci M = true) (hM : xMet lds exs l G E d M f) (hn : av.length = n) (hf : f av σ = some (.inl v, σ')) (hrecv : ci ≠ 0 → ∃ b As, av = .ref b :: As ∧ ∃ fs, σ.1 b = some (.inr (ci - 1, fs))) (hW : xcat st ≤ 8) (hbc : bc + M.2.2.2.2.1 ≤ MC) (hbs : bs + M.2.2.2.2.2 ≤ MS) (hdg : decode cc pc = .ok (xins kd idx, 3))
    (kk : xTg p l e s m args below meth c d MC MS Q G A nL (pc + 3) L (v.toList ++ st) σ' (bc + M.2.2.2.2.1) (bs + M.2.2.2.2.2)) : xTg p l e s m args below meth c d MC MS Q G A nL pc L (av.reverse ++ st) σ bc bs := by
  obtain ⟨hx, hb, hml, hts, hown, hK, hKK, hA, -⟩ := C
  intro _ _ ls H locs hl hS
  refine x_invoke hx hb hml hts hown hK hKK hS hA hl.1 hok hM hn rfl hf (fun h => ?_) hW hbc hbs hdg (fun _ => ⟨v, rfl⟩) (fun X ce q9 z H1 locs1 q1 => by cases q1) (fun v' H1 locs1 q1 hS1 => ?_)
  · obtain ⟨b, As, e1, fs, e2⟩ := hrecv h
    exact ⟨b, As, e1, Or.inl ⟨fs, e2⟩⟩
  · cases q1
    exact kk hbc hbs ls H1 locs1 hl hS1
end LAWSTEP
