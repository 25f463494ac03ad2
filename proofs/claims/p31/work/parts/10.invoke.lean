/-! The calls of the interpreter, by kinds. -/
def xclsN (c : Nat) : String := bif Nat.beq c 99 then RJ0 else match vwCl[c]? with
  | some r => r.1
  | none => ""
/-- some code of that name is told -/
def xhasC (x : MethodName) : Bool := xWs.any (fun w => match w with
  | .code y _ _ _ => decide (y = x)
  | _ => false)
theorem xhasC_ok {x : MethodName} (h : xhasC x = true) : ∃ b m r, Cond.code x b m r ∈ xWs := by
  obtain ⟨w, hw, h2⟩ := List.any_eq_true.mp h
  split at h2
  · next y b m r =>
    have h3 := of_decide_eq_true h2
    subst h3
    exact ⟨b, m, r, hw⟩
  · cases h2
theorem xRJ5_ne : RJ5 ≠ "java/lang/invoke/MethodHandle" ∧ RJ5 ≠ "java/lang/invoke/VarHandle" := by decide +kernel
def xokC (own : String) (kd idx n ci : Nat) (M : xMth) : Bool :=
  Nat.ble M.2.2.1 21 && (decide (xhd M ∈ xWs) && ((Nat.beq kd 10 == xcw M) && (decide (M.1.cls ≠ "java/lang/invoke/MethodHandle" ∧ M.1.cls ≠ "java/lang/invoke/VarHandle") && (decide (Cond.initialized M.1.cls ∈ xWs) &&
  match kd with
  | 0 => Nat.beq ci 0 && (decide ((parseMethodDescriptor M.1.desc).map (fun d => d.parameters.length) = some n) && (decide (Cond.methodLink own idx M.1 ∈ xWs) && decide (Cond.static M.1 ∈ xWs)))
  | 1 => decide ((parseMethodDescriptor M.1.desc).map (fun d => d.parameters.length + 1) = some n) && (decide (Cond.instanceMethod M.1 ∈ xWs) && (decide (Cond.methodLink own idx M.1 ∈ xWs) && (decide (Cond.selects M.1.cls M.1 M.1 ∈ xWs) && (Nat.blt 0 ci && decide (xclsN (ci - 1) = M.1.cls)))))
  | 2 => decide ((parseMethodDescriptor M.1.desc).map (fun d => d.parameters.length + 1) = some n) && (decide (Cond.instanceMethod M.1 ∈ xWs) && (decide (Cond.methodLink own idx M.1 ∈ xWs) && (decide (M.1.name = "<init>") && (decide (M.2.2.2.1 = none) && Nat.blt 0 ci))))
  | 3 => decide ((parseMethodDescriptor M.1.desc).map (fun d => d.parameters.length + 1) = some n) && (decide (Cond.instanceMethod M.1 ∈ xWs) && (decide (Cond.methodLinkNest own idx M.1 "ShellWatch" ∈ lw_tbl) && (decide (Cond.selects M.1.cls M.1 M.1 ∈ xWs) && (Nat.blt 0 ci && decide (xclsN (ci - 1) = M.1.cls)))))
  | 4 => decide ((parseMethodDescriptor M.1.desc).map (fun d => d.parameters.length + 1) = some n) && (decide (Cond.instanceMethod M.1 ∈ xWs) && (decide (Cond.methodLinkNest own idx M.1 "ShellWatch" ∈ lw_tbl) && (decide (M.1.name = "<init>") && (decide (M.2.2.2.1 = none) && Nat.blt 0 ci))))
  | 5 => decide ((parseMethodDescriptor M.1.desc).map (fun d => d.parameters.length + 1) = some n) && (decide (Cond.instanceMethod M.1 ∈ xWs) && (decide (Cond.methodLink own idx M.1 ∈ xWs) && (decide (Cond.selects M.1.cls M.1 M.1 ∈ xWs) && (Nat.blt 0 ci && decide (xclsN (ci - 1) = M.1.cls)))))
  | 10 => Nat.beq ci 0 && (decide ((parseMethodDescriptor M.1.desc).map (fun d => d.parameters.length) = some n) && (decide (Cond.methodLink own idx M.1 ∈ xWs) && decide (Cond.static M.1 ∈ xWs)))
  | 6 => decide ((parseMethodDescriptor M.1.desc).map (fun d => d.parameters.length + 1) = some n) && (decide (Cond.instanceMethod M.1 ∈ xWs) && (decide (Cond.methodLink own idx M.1 ∈ xWs) && (decide (Cond.sameMethod M.1.cls M.1.cls M.1.name M.1.desc ∈ xWs) && (decide (Cond.selects (xclsN (ci - 1)) M.1 M.1 ∈ xWs) && Nat.blt 0 ci))))
  | 7 => decide ((parseMethodDescriptor M.1.desc).map (fun d => d.parameters.length + 1) = some n) && (decide (Cond.instanceMethod M.1 ∈ xWs) && (decide (Cond.methodLink own idx M.1 ∈ xWs) && (decide (Cond.sameMethod M.1.cls M.1.cls M.1.name M.1.desc ∈ xWs) && (decide (Cond.superclass own M.1.cls ∈ xWs) && (decide (M.1.name ≠ "<init>") && Nat.blt 0 ci && Nat.blt (ci - 1) vwCl.length)))))
  | 8 => Nat.beq ci 0 && (decide ((parseMethodDescriptor M.1.desc).map (fun d => d.parameters.length) = some n) && (decide (Cond.methodLinkNest own idx M.1 "ShellWatchLaw" ∈ lw_tbl) && decide (Cond.static M.1 ∈ xWs)))
  | 9 => decide ((parseMethodDescriptor M.1.desc).map (fun d => d.parameters.length + 1) = some n) && (decide (Cond.instanceMethod M.1 ∈ xWs) && (decide (Cond.methodLink own idx ⟨RJ5, M.1.name, M.1.desc⟩ ∈ xWs) && (decide (Cond.sameMethod RJ5 RJ5 M.1.name M.1.desc ∈ xWs) && (decide (Cond.instanceMethod ⟨RJ5, M.1.name, M.1.desc⟩ ∈ xWs) && (decide (Cond.selects (xclsN (ci - 1)) ⟨RJ5, M.1.name, M.1.desc⟩ M.1 ∈ xWs) && (xhasC ⟨RJ5, M.1.name, M.1.desc⟩ && Nat.blt 0 ci))))))
  | _ => false))))
/-- how an instruction calls, by the kind -/
def xins (kd idx : Nat) : Instr := match kd with
  | 0 => .invokestatic idx
  | 2 => .invokespecial idx
  | 4 => .invokespecial idx
  | 7 => .invokespecial idx
  | 8 => .invokestatic idx
  | 10 => .invokestatic idx
  | _ => .invokevirtual idx
theorem xgood : ∀ w ∈ xWs, goodWord w = true := fun w h => (List.mem_filter.mp h).2
theorem xGI {ws : List Cond} (h : ∀ w ∈ ws, w ∈ xWs) : GoodIn xWs ws := fun w hw => ⟨h w hw, good_of_word (xgood w (h w hw))⟩
section INVOKE
variable {p : Program} {l : Launch} {e : Env} {s : State} {m : MethodId} {args : Array Value} {below : List Frame} {meth : Method} {c : Code} {H : Heap} {locs : List Loc} {bc bs d MC MS : Nat} {Q : State → Prop}
variable {cc : ByteArray} {pc nL : Nat} {ls : Array Slot} {rest : List Value} {G : xG} {E : xEn} {A : Nat → Prop} {σ : xH} {own : String} {r : xR}
variable {lds : List (String × Nat × String × Nat)} {exs : List (String × Nat × String)}
/-- the receiver's cell -/
theorem x_recv (hK : va_K G.1 vwCl (xtys G.2) s) (hKK : xK lds exs E A s s.heap) (hS : xS G A s.heap σ H locs) {ci b : Nat} (h : (∃ fs, σ.1 b = some (.inr (ci, fs))) ∨ (ci = 99 ∧ ∃ i, xfind E.2.1 b xNS = some i) ∨ (ci = 99 ∧ ∃ fs, σ.1 b = some (.inr (11, fs)))) : ∃ cellB : Cell, H[b]? = some cellB ∧ cellB.vm.isStatics = false ∧ s.vm.findClass (xclsN ci) = some cellB.cls := by
  rcases h with ⟨fs, hb⟩ | ⟨rfl, i, hi⟩ | ⟨rfl, fs, hb⟩
  · obtain ⟨q, hq, -⟩ := hS.2.1 b _ hb
    have h99 : Nat.beq ci 99 = false := by
      cases h9 : Nat.beq ci 99
      · rfl
      · have := Nat.eq_of_beq_eq_true h9
        subst this
        simp [vwCl] at hq
    have hn : xclsN ci = q.1 := by
      unfold xclsN
      rw [h99, hq]
      rfl
    rw [hn]
    exact va_recv hK (hS.2.1.one hb) (ci := ci) (q0 := 0) hq rfl
  · obtain ⟨h1, h2⟩ := iv_xfind hi
    subst h2
    exact vk_recv hKK.2.2.2.2.1 h1 hS.2.2.2
  · exact va_recv hK (hS.2.1.one hb) (ci := 11) (q0 := 0) rfl rfl
theorem x_invoke (hx : p.tables.exec = Jvm.exec) (hb : c.code = cc) (hml : c.maxLocals = nL) (hts : ∀ w ∈ xWs, w.before args s = true) (hown : s.vm.findClass own = some m.cls)
  (hK : va_K G.1 vwCl (xtys G.2) s) (hKK : xK lds exs E A s s.heap) (hS : xS G A s.heap σ H locs) (hA : ∀ q, s.heap.size ≤ q → A q) (hsz : ls.size = nL)
    {kd idx n ci : Nat} {M : xMth} {f : List Value → xH → Option xR} (hok : xokC own kd idx n ci M = true) (hM : xMet lds exs l G E d M f) {av st : List Value} (hn : av.length = n) (hst : st = av.reverse ++ rest) (hf : f av σ = some r)
    (hrecv : ci ≠ 0 → ∃ b As, av = .ref b :: As ∧ ((∃ fs, σ.1 b = some (.inr (ci - 1, fs))) ∨ (ci - 1 = 99 ∧ ∃ i, xfind E.2.1 b xNS = some i) ∨ (ci - 1 = 99 ∧ ∃ fs, σ.1 b = some (.inr (11, fs)))))
    (hW : xcat rest ≤ 8) (hbc : bc + M.2.2.2.2.1 ≤ MC) (hbs : bs + M.2.2.2.2.2 ≤ MS) (hdg : decode cc pc = .ok (xins kd idx, 3))
    (hnt : kd ≠ 5 → ∃ v, r.1 = .inl v)
    (kx : ∀ (X : String) (ce : Cell) (q9 : Addr) (H1 : Heap) (locs1 : List Loc), r.1 = .inr X → xS G A s.heap (r.2.1, r.2.2 + 1) H1 locs1 → H1[q9]? = some ce → ce.vm = .none → s.vm.findClass X = some ce.cls → vx_W p l e (xrm (d + 1) MC MS) s m args below meth c H1 locs1 (bc + M.2.2.2.2.1) (bs + M.2.2.2.2.2) Q (F0 m pc ls rest) q9)
    (kk : ∀ (v : Option Value) (H1 : Heap) (locs1 : List Loc), r.1 = .inl v → xS G A s.heap r.2 H1 locs1 → W p l e (xrm (d + 1) MC MS) s m args below meth c H1 locs1 (bc + M.2.2.2.2.1) (bs + M.2.2.2.2.2) Q (F0 m (pc + 3) ls (v.toList ++ rest))) :
    W p l e (xrm (d + 1) MC MS) s m args below meth c H locs bc bs Q (F0 m pc ls st) := by
  subst hst
  obtain ⟨y, bytes, maxL, ret, mc, ms⟩ := M
  dsimp only at hbc hbs kx kk
  have hC := hM av σ r hf
  have hCF : CallFix p m c cc nL s args xWs own := ⟨hx, hb, hml, hown, hts⟩
  unfold xokC at hok
  simp only [Bool.and_eq_true, decide_eq_true_eq] at hok
  obtain ⟨h21, hcode, hk10, hy, hini, hrest⟩ := hok
  have hk10 : (Nat.beq kd 10) = xcw (y, bytes, maxL, ret, mc, ms) := by simpa using hk10
  have h21 : maxL ≤ 21 := Nat.le_of_ble_eq_true h21
  have hR : (xrm d mc ms).frames + 1 ≤ (xrm (d + 1) MC MS).frames ∧ 8 + (maxL + 11) + (xrm d mc ms).locals ≤ (xrm (d + 1) MC MS).locals := by
    unfold xrm
    dsimp only
    omega
  have hws : ∀ w ∈ xws (y, bytes, maxL, ret, mc, ms), w ∈ xWs := fun w h => (List.mem_cons.mp h).elim (fun e => by rw [e]; exact hcode) id
  have hxw : Nat.beq kd 10 = false → xws (y, bytes, maxL, ret, mc, ms) = Cond.code y bytes maxL ret :: xWs := by
    intro h
    rw [hk10] at h
    unfold xws xhd
    rw [h]
    rfl
  have hpre := x_pre hK hKK hS hA av
  match kd, hdg, hrest, hnt with
  | 0, hdg, hrest, hnt =>
    simp only [Bool.and_eq_true, decide_eq_true_eq] at hrest
    obtain ⟨-, hd, hl, hs9⟩ := hrest
    have hd : (parseMethodDescriptor y.desc).map (fun d => d.parameters.length) = some n := hd
    refine x_ran (vx_runS hCF hC (va_cwS n hts (xGI ?_) (hxw rfl) rfl rfl ⟨hy.1, hy.2, hd⟩ hR) ⟨xPre_blind, hpre⟩ rfl hn hsz rfl (by simpa [xcat] using hW) hdg ⟨hbc, hbs⟩) hS hA (fun X ce q9 H1 locs1 q1 q2 q3 q4 q5 => ?_) kk
    · intro w hw
      rcases List.mem_append.mp hw with hw | hw
      · simp only [List.mem_cons, List.not_mem_nil, or_false] at hw
        rcases hw with rfl | rfl | rfl
        · exact hl
        · exact hs9
        · exact hini
      · exact hws w hw
    · obtain ⟨v, hv⟩ := hnt (by decide)
      rw [hv] at q1
      cases q1
  | 1, hdg, hrest, hnt =>
    simp only [Bool.and_eq_true, decide_eq_true_eq] at hrest
    obtain ⟨hd, hin, hl, hs9, hci, hcl⟩ := hrest
    obtain ⟨b, As, rfl, hrv⟩ := hrecv (by intro h; rw [h] at hci; cases hci)
    obtain ⟨n', rfl⟩ : ∃ n', n = n' + 1 := ⟨As.length, by rw [← hn]; rfl⟩
    have hd : (parseMethodDescriptor y.desc).map (fun d => d.parameters.length) = some n' := by
      cases hp : parseMethodDescriptor y.desc with
      | none => rw [hp] at hd; cases hd
      | some g => rw [hp] at hd; simpa using hd
    have hcell := x_recv hK hKK hS hrv
    rw [hcl] at hcell
    refine x_ran (vx_runV hCF hC (cwV n' hts (xGI ?_) (hxw rfl) rfl rfl ⟨rfl, hy.1, hy.2, hd⟩ hR) ⟨xPre_blind, hcell, hpre⟩ rfl (by simpa using hn) hsz (by simp) (by simpa [xcat] using hW) hdg ⟨hbc, hbs⟩) hS hA (fun X ce q9 H1 locs1 q1 q2 q3 q4 q5 => ?_) kk
    · intro w hw
      rcases List.mem_append.mp hw with hw | hw
      · simp only [List.mem_cons, List.not_mem_nil, or_false] at hw
        rcases hw with rfl | rfl | rfl | rfl
        · exact hl
        · exact hin
        · exact hs9
        · exact hini
      · exact hws w hw
    · obtain ⟨v, hv⟩ := hnt (by decide)
      rw [hv] at q1
      cases q1
  | 2, hdg, hrest, hnt =>
    simp only [Bool.and_eq_true, decide_eq_true_eq] at hrest
    obtain ⟨hd, hin, hl, hy1, hrt, hci⟩ := hrest
    have hrt : ret = none := hrt
    subst hrt
    obtain ⟨b, As, rfl, hrv⟩ := hrecv (by intro h; rw [h] at hci; cases hci)
    obtain ⟨n', rfl⟩ : ∃ n', n = n' + 1 := ⟨As.length, by rw [← hn]; rfl⟩
    have hd : (parseMethodDescriptor y.desc).map (fun d => d.parameters.length) = some n' := by
      cases hp : parseMethodDescriptor y.desc with
      | none => rw [hp] at hd; cases hd
      | some g => rw [hp] at hd; simpa using hd
    obtain ⟨v0, hv0⟩ := hnt (by decide)
    have hC' := xMet_plain hC (fun X st t h => by have := h.1; rw [hv0] at this; cases this)
    exact x_ranM (va_runI hCF hC' (cwI n' hts (xGI hws) (hxw rfl) rfl rfl (hts _ hini) (hts _ hl) (hts _ hin) hy1 ⟨hy.1, hy.2, hd⟩ hR) ⟨xPre_blind, hpre⟩ rfl (by simpa using hn) hsz (by simp) (by simpa [xcat] using hW) hdg ⟨hbc, hbs⟩) hS hA kk
  | 3, hdg, hrest, hnt =>
    simp only [Bool.and_eq_true, decide_eq_true_eq] at hrest
    obtain ⟨hd, hin, hl, hs9, hci, hcl⟩ := hrest
    obtain ⟨b, As, rfl, hrv⟩ := hrecv (by intro h; rw [h] at hci; cases hci)
    obtain ⟨n', rfl⟩ : ∃ n', n = n' + 1 := ⟨As.length, by rw [← hn]; rfl⟩
    have hd : (parseMethodDescriptor y.desc).map (fun d => d.parameters.length) = some n' := by
      cases hp : parseMethodDescriptor y.desc with
      | none => rw [hp] at hd; cases hd
      | some g => rw [hp] at hd; simpa using hd
    have hcell := x_recv hK hKK hS hrv
    rw [hcl] at hcell
    obtain ⟨v0, hv0⟩ := hnt (by decide)
    have hC' := xMet_plain hC (fun X st t h => by have := h.1; rw [hv0] at this; cases this)
    exact x_ranM (va_runVN hCF hC' ⟨va_cnB n' hts (xGI hws) (hxw rfl) rfl rfl (hKK.2.2.2.2.2.2.2.2.2.1 _ hl rfl) (hts _ hini) ⟨hy.1, hy.2, hd⟩ hR, hts _ hin, hts _ hs9⟩ ⟨xPre_blind, hcell, hpre⟩ rfl (by simpa using hn) hsz (by simp) (by simpa [xcat] using hW) hdg ⟨hbc, hbs⟩) hS hA kk
  | 4, hdg, hrest, hnt =>
    simp only [Bool.and_eq_true, decide_eq_true_eq] at hrest
    obtain ⟨hd, hin, hl, hy1, hrt, hci⟩ := hrest
    have hrt : ret = none := hrt
    subst hrt
    obtain ⟨b, As, rfl, hrv⟩ := hrecv (by intro h; rw [h] at hci; cases hci)
    obtain ⟨n', rfl⟩ : ∃ n', n = n' + 1 := ⟨As.length, by rw [← hn]; rfl⟩
    have hd : (parseMethodDescriptor y.desc).map (fun d => d.parameters.length) = some n' := by
      cases hp : parseMethodDescriptor y.desc with
      | none => rw [hp] at hd; cases hd
      | some g => rw [hp] at hd; simpa using hd
    obtain ⟨v0, hv0⟩ := hnt (by decide)
    have hC' := xMet_plain hC (fun X st t h => by have := h.1; rw [hv0] at this; cases this)
    exact x_ranM (va_runIN hCF hC' ⟨va_cnB n' hts (xGI hws) (hxw rfl) rfl rfl (hKK.2.2.2.2.2.2.2.2.2.1 _ hl rfl) (hts _ hini) ⟨hy.1, hy.2, hd⟩ hR, hy1, hts _ hin⟩ ⟨xPre_blind, hpre⟩ rfl (by simpa using hn) hsz (by simp) (by simpa [xcat] using hW) hdg ⟨hbc, hbs⟩) hS hA kk
  | 5, hdg, hrest, hnt =>
    simp only [Bool.and_eq_true, decide_eq_true_eq] at hrest
    obtain ⟨hd, hin, hl, hs9, hci, hcl⟩ := hrest
    obtain ⟨b, As, rfl, hrv⟩ := hrecv (by intro h; rw [h] at hci; cases hci)
    obtain ⟨n', rfl⟩ : ∃ n', n = n' + 1 := ⟨As.length, by rw [← hn]; rfl⟩
    have hd : (parseMethodDescriptor y.desc).map (fun d => d.parameters.length) = some n' := by
      cases hp : parseMethodDescriptor y.desc with
      | none => rw [hp] at hd; cases hd
      | some g => rw [hp] at hd; simpa using hd
    have hcell := x_recv hK hKK hS hrv
    rw [hcl] at hcell
    refine x_ran (vx_runV hCF hC (cwV n' hts (xGI ?_) (hxw rfl) rfl rfl ⟨rfl, hy.1, hy.2, hd⟩ hR) ⟨xPre_blind, hcell, hpre⟩ rfl (by simpa using hn) hsz (by simp) (by simpa [xcat] using hW) hdg ⟨hbc, hbs⟩) hS hA kx kk
    intro w hw
    rcases List.mem_append.mp hw with hw | hw
    · simp only [List.mem_cons, List.not_mem_nil, or_false] at hw
      rcases hw with rfl | rfl | rfl | rfl
      · exact hl
      · exact hin
      · exact hs9
      · exact hini
    · exact hws w hw
  | 6, hdg, hrest, hnt =>
    simp only [Bool.and_eq_true, decide_eq_true_eq] at hrest
    obtain ⟨hd, hin, hl, hsm, hs9, hci⟩ := hrest
    obtain ⟨b, As, rfl, hrv⟩ := hrecv (by intro h; rw [h] at hci; cases hci)
    obtain ⟨n', rfl⟩ : ∃ n', n = n' + 1 := ⟨As.length, by rw [← hn]; rfl⟩
    have hd : (parseMethodDescriptor y.desc).map (fun d => d.parameters.length) = some n' := by
      cases hp : parseMethodDescriptor y.desc with
      | none => rw [hp] at hd; cases hd
      | some g => rw [hp] at hd; simpa using hd
    have hcell := x_recv hK hKK hS hrv
    obtain ⟨v0, hv0⟩ := hnt (by decide)
    have hC' := xMet_plain hC (fun X st t h => by have := h.1; rw [hv0] at this; cases this)
    refine x_ranM (va_runU hCF hC' (va_cwU (owner := y.cls) n' hts (xGI ?_) (hxw rfl) rfl rfl rfl ⟨hy.1, hy.2, hd⟩ hR) ⟨xPre_blind, hcell, hpre⟩ rfl (by simpa using hn) hsz (by simp) (by simpa [xcat] using hW) hdg ⟨hbc, hbs⟩) hS hA kk
    intro w hw
    rcases List.mem_append.mp hw with hw | hw
    · simp only [List.mem_cons, List.not_mem_nil, or_false] at hw
      rcases hw with rfl | rfl | rfl | rfl | rfl
      · exact hl
      · exact hsm
      · exact hs9
      · exact hin
      · exact hini
    · exact hws w hw
  | 7, hdg, hrest, hnt =>
    simp only [Bool.and_eq_true, decide_eq_true_eq] at hrest
    obtain ⟨hd, hin, hl, hsm, hsu, ⟨hno, hci⟩, hcl⟩ := hrest
    obtain ⟨b, As, rfl, hrv⟩ := hrecv (by intro h; rw [h] at hci; cases hci)
    obtain ⟨n', rfl⟩ : ∃ n', n = n' + 1 := ⟨As.length, by rw [← hn]; rfl⟩
    have hd : (parseMethodDescriptor y.desc).map (fun d => d.parameters.length) = some n' := by
      cases hp : parseMethodDescriptor y.desc with
      | none => rw [hp] at hd; cases hd
      | some g => rw [hp] at hd; simpa using hd
    have hcell := x_recv hK hKK hS hrv
    obtain ⟨r9, hr9⟩ : ∃ r9, vwCl[ci - 1]? = some r9 := ⟨_, List.getElem?_eq_getElem (Nat.le_of_ble_eq_true hcl)⟩
    have hn99 : Nat.beq (ci - 1) 99 = false := by
      have : ci - 1 < 14 := Nat.le_of_ble_eq_true hcl
      cases h9 : Nat.beq (ci - 1) 99
      · rfl
      · have := Nat.eq_of_beq_eq_true h9
        omega
    have hnm : xclsN (ci - 1) = r9.1 := by
      unfold xclsN
      rw [hn99, hr9]
      rfl
    rw [hnm] at hcell
    obtain ⟨v0, hv0⟩ := hnt (by decide)
    have hC' := xMet_plain hC (fun X st t h => by have := h.1; rw [hv0] at this; cases this)
    refine x_ranM (va_runSU (C := r9.1) (hK.1 _ _ hr9).2 hCF hC' (va_cwSU n' hts (xGI ?_) (hxw rfl) rfl rfl ⟨hno, hd⟩ hR) ⟨xPre_blind, hcell, hpre⟩ rfl (by simpa using hn) hsz (by simp) (by simpa [xcat] using hW) hdg ⟨hbc, hbs⟩) hS hA kk
    intro w hw
    rcases List.mem_append.mp hw with hw | hw
    · simp only [List.mem_cons, List.not_mem_nil, or_false] at hw
      rcases hw with rfl | rfl | rfl | rfl | rfl
      · exact hl
      · exact hsm
      · exact hsu
      · exact hin
      · exact hini
    · exact hws w hw
  | 8, hdg, hrest, hnt =>
    simp only [Bool.and_eq_true, decide_eq_true_eq] at hrest
    obtain ⟨-, hd, hl, hs9⟩ := hrest
    have hd : (parseMethodDescriptor y.desc).map (fun d => d.parameters.length) = some n := hd
    obtain ⟨v0, hv0⟩ := hnt (by decide)
    have hC' := xMet_plain hC (fun X st t h => by have := h.1; rw [hv0] at this; cases this)
    exact x_ranM (va_runSN hCF hC' ⟨va_cnB n hts (xGI hws) (hxw rfl) rfl rfl (hKK.2.2.2.2.2.2.2.2.2.1 _ hl rfl) (hts _ hini) ⟨hy.1, hy.2, hd⟩ hR, hts _ hs9, trivial⟩ ⟨xPre_blind, hpre⟩ rfl hn hsz rfl (by simpa [xcat] using hW) hdg ⟨hbc, hbs⟩) hS hA kk
  | 9, hdg, hrest, hnt =>
    simp only [Bool.and_eq_true, decide_eq_true_eq] at hrest
    obtain ⟨hd, hin, hl, hsm, hix, hs9, hhc, hci⟩ := hrest
    obtain ⟨b, As, rfl, hrv⟩ := hrecv (by intro h; rw [h] at hci; cases hci)
    obtain ⟨n', rfl⟩ : ∃ n', n = n' + 1 := ⟨As.length, by rw [← hn]; rfl⟩
    have hd : (parseMethodDescriptor y.desc).map (fun d => d.parameters.length) = some n' := by
      cases hp : parseMethodDescriptor y.desc with
      | none => rw [hp] at hd; cases hd
      | some g => rw [hp] at hd; simpa using hd
    have hcell := x_recv hK hKK hS hrv
    obtain ⟨v0, hv0⟩ := hnt (by decide)
    obtain ⟨b0, m0, r0, h0⟩ := xhasC_ok hhc
    have hC' := xMet_plain hC (fun X st t h => by have := h.1; rw [hv0] at this; cases this)
    refine x_ranM (va_runU hCF hC' (va_cwO (owner := RJ5) (x := ⟨RJ5, y.name, y.desc⟩) n' hts (xGI ?_) (hxw rfl) rfl rfl h0 ⟨xRJ5_ne.1, xRJ5_ne.2, hd⟩ hR) ⟨xPre_blind, hcell, hpre⟩ rfl (by simpa using hn) hsz (by simp) (by simpa [xcat] using hW) hdg ⟨hbc, hbs⟩) hS hA kk
    intro w hw
    rcases List.mem_append.mp hw with hw | hw
    · simp only [List.mem_cons, List.not_mem_nil, or_false] at hw
      rcases hw with rfl | rfl | rfl | rfl | rfl | rfl
      · exact hl
      · exact hsm
      · exact hix
      · exact hs9
      · exact hin
      · exact hini
    · exact hws w hw
  | 10, hdg, hrest, hnt =>
    simp only [Bool.and_eq_true, decide_eq_true_eq] at hrest
    obtain ⟨-, hd, hl, hs9⟩ := hrest
    have hd : (parseMethodDescriptor y.desc).map (fun d => d.parameters.length) = some n := hd
    obtain ⟨v0, hv0⟩ := hnt (by decide)
    have hC' := xMet_plain hC (fun X st t h => by have := h.1; rw [hv0] at this; cases this)
    have hxw2 : xws (y, bytes, maxL, ret, mc, ms) = Cond.codeWith y bytes maxL ret [(0, 5, 6, 37)] :: xWs := by
      unfold xws xhd
      rw [← hk10]
      rfl
    refine x_ranM (vx_runSW hCF hC' (vx_cwSW (hh := [(0, 5, 6, 37)]) n hts (xGI ?_) hxw2 rfl rfl ⟨hy.1, hy.2, hd⟩ hR) ⟨xPre_blind, hpre⟩ rfl hn hsz rfl (by simpa [xcat] using hW) hdg ⟨hbc, hbs⟩) hS hA kk
    intro w hw
    rcases List.mem_append.mp hw with hw | hw
    · simp only [List.mem_cons, List.not_mem_nil, or_false] at hw
      rcases hw with rfl | rfl | rfl
      · exact hl
      · exact hs9
      · exact hini
    · exact hws w hw
  | k + 11, hdg, hrest, hnt => cases hrest
end INVOKE
