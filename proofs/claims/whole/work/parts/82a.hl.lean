/-! THE LAW'S HELPERS: what they have in common; written by wip/whole/genhl.py. -/
theorem cl_13 : Cond.classLink RL 13 (xexc 0) ∈ xWs := by decide +kernel
theorem cl_25 : Cond.classLink RL 25 (xexc 1) ∈ xWs := by decide +kernel
theorem cl_60 : Cond.classLink RL 60 (xexc 2) ∈ xWs := by decide +kernel
theorem cl_81 : Cond.classLink RL 81 (xexc 3) ∈ xWs := by decide +kernel
theorem cs_0 : Cond.castable (xexc 0) (xexc 0) ∈ lw_tbl := by decide +kernel
theorem cs_1 : Cond.castable (xexc 1) (xexc 1) ∈ lw_tbl := by decide +kernel
theorem cs_2 : Cond.castable (xexc 2) (xexc 2) ∈ lw_tbl := by decide +kernel
theorem cs_3 : Cond.castable (xexc 3) (xexc 3) ∈ lw_tbl := by decide +kernel
theorem cs_ok {k : Nat} (h : k < 4) : Cond.castable (xexc k) (xexc k) ∈ lw_tbl := by
  match k, h with
  | 0, _ => exact cs_0
  | 1, _ => exact cs_1
  | 2, _ => exact cs_2
  | 3, _ => exact cs_3
  | k + 4, h => exact absurd h (by omega)
/-- what a helper's walk stands on -/
def hCx (p : Program) (l : Launch) (s : State) (m : MethodId) (args : Array Value) (meth : Method) (c : Code) (G : xG) (E : xEn) (A : Nat → Prop) (cc : ByteArray) (nL : Nat) (hh : List (Nat × Nat × Nat × Nat)) : Prop :=
  p.tables.exec = Jvm.exec ∧ c.code = cc ∧ c.maxLocals = nL ∧ (∀ w ∈ xWs, w.before args s = true) ∧ s.vm.findClass RL = some m.cls ∧ va_K G.1 vwCl (xtys G.2) s ∧ xK xlds xexs E A s s.heap ∧ (∀ q, s.heap.size ≤ q → A q) ∧ c.exceptionTable.toList = tableOf hh ∧ meth.locks = false ∧ meth.sig.returnType = some .int ∧ xNx s
theorem h_open {l : Launch} {G : xG} {E : xEn} {d : Nat} {y : MethodName} {cc : ByteArray} {nL : Nat} {hh : List (Nat × Nat × Nat × Nat)} {mc ms : Nat} {av : List Value} {σ : xH} {r : xR} (hy : plainName y.cls = true) (hcl : y.cls = RL) (hnl : xcat av ≤ nL)
    (body : ∀ (p : Program) (e : Env) (s : State) (m : MethodId) (below : List Frame) (meth : Method) (c : Code) (ls : Array Slot), hCx p l s m av.toArray meth c G E (xA σ) cc nL hh → xS G (xA σ) s.heap σ s.heap [] → lv_has ls nL (lv_args 0 av) →
      W p l e (xrm d mc ms) s m av.toArray below meth c s.heap [] 0 0 (vx_MQ below (hQz G (xA σ) r) (fun _ _ _ => False) av.toArray s mc ms (xA σ)) (F0 m 0 ls [])) : hMet xlds xexs l G E d y cc nL hh mc ms av σ r := by
  refine xMet_plain (XC := fun _ _ _ => False) (vx_ofWH (cc := cc) (maxL := nL) (ret := some .int) (hh := hh) hy rfl ?_) (fun _ _ _ h => h)
  intro p e s m args below meth c s₁ B hml hv
  obtain ⟨⟨rfl, hsz, hWo, hK, hKK⟩, hNx⟩ := hv
  have hts0 := atoms_spec (ws := hWs y cc nL hh) B.pre
  have hown : s.vm.findClass RL = some m.cls := by
    rw [← hcl]
    exact findClass_of_methodNamed B.named
  have hl := lv_entry av (n := nL) (by rw [lg_sl_len]; exact hnl)
  rw [lg_entry_eq]
  generalize (lg_sl av ++ List.replicate (nL - (lg_sl av).length) Slot.unset).toArray = ls at hl ⊢
  exact body p e s m below meth c ls ⟨B.exec, B.bytes, hml, fun w h => hts0 w (List.mem_cons_of_mem _ h), hown, hK, hKK, fun q hq => Or.inr (by rw [← hsz]; exact hq), vx_table (x := y) B (hts0 _ List.mem_cons_self), B.notSynchronized, B.returns, hNx⟩ ⟨hsz, hWo, fun a ha => Or.inl ha, va_S.rf⟩ hl
section HL
variable {p : Program} {l : Launch} {e : Env} {s : State} {m : MethodId} {args : Array Value} {below : List Frame} {meth : Method} {c : Code}
variable {G : xG} {E : xEn} {A : Nat → Prop} {d mc ms nL : Nat} {cc : ByteArray} {hh : List (Nat × Nat × Nat × Nat)} {r : xR} {XC : String → State → State → Prop}
theorem h_ret (C : hCx p l s m args meth c G E A cc nL hh) {pc bc bs : Nat} {ls : Array Slot} {H : Heap} {locs : List Loc} {σ : xH} {v : Int32} (hS : xS G A s.heap σ H locs) (hr : r.1 = .inl (some (.int v))) (hr2 : r.2.1 = σ.1) (hbc : bc ≤ mc) (hbs : bs ≤ ms) (hdg : decode cc pc = .ok (.ireturn, 1)) :
    W p l e (xrm d mc ms) s m args below meth c H locs bc bs (vx_MQ below (hQz G A r) XC args s mc ms A) (F0 m pc ls [.int v]) := by
  obtain ⟨hx, hb, hml, hts, hown, hK, hKK, hA, htab, hlocks, hret, hNx⟩ := C
  have k1 : ∀ t : State, t.heap = H → s.WarmedH t.vm → hQz G A r args s (.returned (some (.int v))) t := fun t ht _ => ⟨σ.2, some (.int v), hr, rfl, by rw [ht]; exact hS.1, by rw [ht]; dsimp only; rw [hr2]; exact hS.2.1, by dsimp only; rw [hr2]; exact hS.2.2.1, hS.2.2.2.F ht⟩
  have k2 : ∀ q ∈ locs, A q.base := hS.2.2.2.2.2
  exact vx_ret (W.widen hbc hbs (W.zret hx hb hret (ty := .int) rfl k1 k2 hdg hlocks))
theorem h_exc (C : hCx p l s m args meth c G E A cc nL hh) {pc ex bc bs : Nat} {ls : Array Slot} {rest : List Value} {H : Heap} {locs : List Loc} {ce : Cell} {q9 : Addr} {Q : State → Prop} (pre : List ExceptionTableEntry) (x0 : ExceptionTableEntry) (suf : List ExceptionTableEntry) (hsp : tableOf hh = pre ++ x0 :: suf) (hpass : ∀ z ∈ pre, z.catchType ≠ 0 ∧ ∃ j, j < 4 ∧ ex ≠ j ∧ Cond.classLink RL z.catchType (xexc j) ∈ xWs) (hcov : covers x0 pc = true) (h0 : x0.catchType ≠ 0) (hlink : Cond.classLink RL x0.catchType (xexc ex) ∈ xWs) (hex : ex < 4) (hcell : H[q9]? = some ce) (hv : ce.vm = .none) (hcl : s.vm.findClass (xexc ex) = some ce.cls)
    (kk : W p l e (xrm d mc ms) s m args below meth c H locs bc bs Q (F0 m x0.handlerPc ls [.ref q9])) : vx_W p l e (xrm d mc ms) s m args below meth c H locs bc bs Q (F0 m pc ls rest) q9 := by
  obtain ⟨hx, hb, hml, hts, hown, hK, hKK, hA, htab, hlocks, hret, hNx⟩ := C
  refine vx_catch hown pre x0 suf (htab.trans hsp) (fun z hz => ?_) hcov h0 (hts _ hlink) (va_Nw.use rfl (hKK.2.2.2.2.2.2.2.2.2.1 _ (cs_ok hex) rfl)) hcell hv hcl kk
  obtain ⟨z0, j, hj, hne, hm⟩ := hpass z hz
  exact Or.inr ⟨z0, xexc j, hts _ hm, hNx ex j hex hj hne⟩
/-- a handler: the exception is put away, a number is answered -/
theorem h_h3 (C : hCx p l s m args meth c G E A cc nL hh) (hnL : 3 < nL) {pc bc bs q9 : Nat} {z : Int} {ls : Array Slot} {L : xL} {H : Heap} {locs : List Loc} {σ : xH} (hl : lv_has ls nL L) (hS : xS G A s.heap σ H locs) (hr : r.1 = .inl (some (.int (Int32.ofInt z)))) (hr2 : r.2.1 = σ.1) (hbc : bc ≤ mc) (hbs : bs ≤ ms) (d0 : decode cc pc = .ok (.astore_n 3, 1)) (d1 : decode cc (pc + 1) = .ok (.iconst z, 1)) (d2 : decode cc (pc + 2) = .ok (.ireturn, 1)) :
    W p l e (xrm d mc ms) s m args below meth c H locs bc bs (vx_MQ below (hQz G A r) XC args s mc ms A) (F0 m pc ls [.ref q9]) := by
  refine lv_astore_n C.1 C.2.1 d0 rfl hl hnL rfl (fun ls' hl' => ?_)
  refine lv_iconst C.1 C.2.1 d1 rfl ?_
  exact h_ret C hS hr hr2 hbc hbs d2
theorem h_h4 (C : hCx p l s m args meth c G E A cc nL hh) (hnL : 4 < nL) {pc bc bs q9 : Nat} {z : Int} {ls : Array Slot} {L : xL} {H : Heap} {locs : List Loc} {σ : xH} (hl : lv_has ls nL L) (hS : xS G A s.heap σ H locs) (hr : r.1 = .inl (some (.int (Int32.ofInt z)))) (hr2 : r.2.1 = σ.1) (hbc : bc ≤ mc) (hbs : bs ≤ ms) (d0 : decode cc pc = .ok (.astore 4, 2)) (d1 : decode cc (pc + 2) = .ok (.iconst z, 1)) (d2 : decode cc (pc + 3) = .ok (.ireturn, 1)) :
    W p l e (xrm d mc ms) s m args below meth c H locs bc bs (vx_MQ below (hQz G A r) XC args s mc ms A) (F0 m pc ls [.ref q9]) := by
  refine lv_astore C.1 C.2.1 d0 hl hnL rfl (fun ls' hl' => ?_)
  refine lv_iconst C.1 C.2.1 d1 rfl ?_
  exact h_ret C hS hr hr2 hbc hbs d2
theorem vp_in_01 : vp_in (nI 0) 1 := by
  intro h
  rcases h with h | h
  · exact absurd h (by decide)
  · exact absurd h (by decide)
end HL
