/-! THE LAW'S ENTRY: both objects are made, and two rows for answers. -/
theorem lwd_0 : decode cL_law 0 = .ok (.new 8, 3) := by decide +kernel
theorem lwd_3 : decode cL_law 3 = .ok (.dup, 1) := by decide +kernel
theorem lwd_4 : decode cL_law 4 = .ok (.invokespecial 83, 3) := by decide +kernel
theorem lwd_7 : decode cL_law 7 = .ok (.astore_n 1, 1) := by decide +kernel
theorem lwd_8 : decode cL_law 8 = .ok (.new 84, 3) := by decide +kernel
theorem lwd_11 : decode cL_law 11 = .ok (.dup, 1) := by decide +kernel
theorem lwd_12 : decode cL_law 12 = .ok (.invokespecial 86, 3) := by decide +kernel
theorem lwd_15 : decode cL_law 15 = .ok (.astore_n 2, 1) := by decide +kernel
theorem lwd_16 : decode cL_law 16 = .ok (.iconst 1, 1) := by decide +kernel
theorem lwd_17 : decode cL_law 17 = .ok (.newarray .long, 2) := by decide +kernel
theorem lwd_19 : decode cL_law 19 = .ok (.astore_n 3, 1) := by decide +kernel
theorem lwd_20 : decode cL_law 20 = .ok (.iconst 1, 1) := by decide +kernel
theorem lwd_21 : decode cL_law 21 = .ok (.newarray .double, 2) := by decide +kernel
theorem lwd_23 : decode cL_law 23 = .ok (.astore 4, 2) := by decide +kernel
theorem lwd_25 : decode cL_law 25 = .ok (.iconst 0, 1) := by decide +kernel
theorem lwd_26 : decode cL_law 26 = .ok (.istore 5, 2) := by decide +kernel
theorem lk_n8 : Cond.classLink RL 8 RX10 ∈ xWs := by decide +kernel
theorem lk_i8 : Cond.instantiable RX10 7 ∈ xWs := by decide +kernel
theorem lk_z8 : Cond.initialized RX10 ∈ xWs := by decide +kernel
theorem lk_n84 : Cond.classLink RL 84 RX11 ∈ xWs := by decide +kernel
theorem lk_i84 : Cond.instantiable RX11 31 ∈ xWs := by decide +kernel
theorem lk_z84 : Cond.initialized RX11 ∈ xWs := by decide +kernel
theorem lk_al : Cond.arrayClass .long ∈ xWs := by decide +kernel
theorem lk_ad : Cond.arrayClass .double ∈ xWs := by decide +kernel
theorem lk_c83 : xokC RL 2 83 1 9 rX10_init.1 = true := by decide +kernel
theorem lk_c86 : xokC RL 2 86 1 10 rX11_init.1 = true := by decide +kernel
section LCT
variable {p : Program} {l : Launch} {e : Env} {s : State} {m : MethodId} {args : Array Value} {below : List Frame} {meth : Method} {c : Code}
variable {lds : xLds} {exs : List (String × Nat × String)} {G : xG} {E : xEn} {A : Nat → Prop} {d MC MS nL : Nat} {call : Nat → List Value → xH → Option xR} {Mt : Nat → Option xMth} {own : String} {ini : Bool} {cc : ByteArray} {ret : Option FieldType} {PO : xPool} {Q : State → Prop}
variable {pc bc bs : Nat} {L L' : xL} {st : List Value} {σ : xH}
theorem r_new (C : xCx p l s m args meth c lds exs G E A d call Mt own ini cc nL ret PO) {idx ci : Nat} {r : vw_C} (hr : vwCl[ci]? = some r) (h1 : Cond.classLink own idx r.1 ∈ xWs) (h2 : Cond.instantiable r.1 r.2.2 ∈ xWs) (h3 : Cond.initialized r.1 ∈ xWs) (hd : decode cc pc = .ok (.new idx, 3)) (hc : bc + 1 ≤ MC) (hs : bs + r.2.2 ≤ MS) (kk : xTg p l e s m args below meth c d MC MS Q G A nL (pc + 3) L (.ref σ.2 :: st) (xup σ.1 σ.2 (.inr (ci, xdef ci r.2.2)), σ.2 + 1) (bc + 1) (bs + r.2.2)) : xTg p l e s m args below meth c d MC MS Q G A nL pc L st σ bc bs := by
  obtain ⟨hx, hb, hml, hts, hown, hK, hKK, hA, -⟩ := C
  exact fun hbc hbs ls H locs hl hS => x_new hx hb hts hown hK hS hA hr h1 h2 h3 hc hs hd (fun H1 hS1 => kk hc hs ls H1 locs hl hS1)
theorem r_newa (C : xCx p l s m args meth c lds exs G E A d call Mt own ini cc nL ret PO) {k : Nat} (hk : k < 4) {atype : ArrayType} (hty : newarray.typeOf atype = xkty k) (hw : Cond.arrayClass (xkty k) ∈ xWs) {v : Int32} {N : Nat} (hn : ¬ v < 0) (hv : v.toNatClampNeg = N) (h5 : N ≤ 100000) (hd : decode cc pc = .ok (.newarray atype, 2)) (hc : bc + 1 ≤ MC) (hs : bs + N ≤ MS) (kk : xTg p l e s m args below meth c d MC MS Q G A nL (pc + 2) L (.ref σ.2 :: st) (xup σ.1 σ.2 (.inl (k, N, xarr k)), σ.2 + 1) (bc + 1) (bs + N)) : xTg p l e s m args below meth c d MC MS Q G A nL pc L (.int v :: st) σ bc bs := by
  subst hv
  obtain ⟨hx, hb, hml, hts, hown, hK, hKK, hA, -⟩ := C
  exact fun hbc hbs ls H locs hl hS => x_newa hx hb hts hK hS hA hk hty hw hn h5 hc hs hd (fun H1 hS1 => kk hc hs ls H1 locs hl hS1)
theorem r_dup (C : xCx p l s m args meth c lds exs G E A d call Mt own ini cc nL ret PO) {v : Nat} (hd : decode cc pc = .ok (.dup, 1)) (kk : xTg p l e s m args below meth c d MC MS Q G A nL (pc + 1) L (.ref v :: .ref v :: st) σ bc bs) : xTg p l e s m args below meth c d MC MS Q G A nL pc L (.ref v :: st) σ bc bs :=
  fun hbc hbs ls H locs hl hS => lv_dup C.1 C.2.1 hd rfl (kk hbc hbs ls H locs hl hS)
theorem r_ast (C : xCx p l s m args meth c lds exs G E A d call Mt own ini cc nL ret PO) {kf : Fin 4} {k v : Nat} (hd : decode cc pc = .ok (.astore_n kf, 1)) (hk : (kf : Nat) = k) (hn : k < nL) (hL : xset1 L k (.ref v) = L') (kk : xTg p l e s m args below meth c d MC MS Q G A nL (pc + 1) L' st σ bc bs) : xTg p l e s m args below meth c d MC MS Q G A nL pc L (.ref v :: st) σ bc bs :=
  fun hbc hbs ls H locs hl hS => lv_astore_n C.1 C.2.1 hd hk hl hn hL (fun ls' hl' => kk hbc hbs ls' H locs hl' hS)
theorem r_astw (C : xCx p l s m args meth c lds exs G E A d call Mt own ini cc nL ret PO) {k v : Nat} (hd : decode cc pc = .ok (.astore k, 2)) (hn : k < nL) (hL : xset1 L k (.ref v) = L') (kk : xTg p l e s m args below meth c d MC MS Q G A nL (pc + 2) L' st σ bc bs) : xTg p l e s m args below meth c d MC MS Q G A nL pc L (.ref v :: st) σ bc bs :=
  fun hbc hbs ls H locs hl hS => lv_astore C.1 C.2.1 hd hl hn hL (fun ls' hl' => kk hbc hbs ls' H locs hl' hS)
end LCT
theorem lp_none {E : xEn} {x : Nat} {h : xSh} {a : Nat} (ha : a ≠ x) : wW E x (shU (fun _ => none) 0 h) zst a = none := by
  unfold wW
  cases hb : Nat.ble x a
  · rfl
  · have hle := Nat.le_of_ble_eq_true hb
    rw [cond_true, shU_n (by omega)]
    rfl
theorem lp_w8 {E : xEn} {x : Nat} : xup (fun _ => none) x (.inr (8, xdef 8 7)) = wW E x (shU (fun _ => none) 0 nh8) zst := by
  funext a
  by_cases c : a = x
  · subst c
    rw [xup_same, wW_at0 shU_s]
    rfl
  · rw [xup_ne c, lp_none c]
theorem lp_w9 {E : xEn} {x : Nat} : xup (fun _ => none) x (.inr (9, xdef 9 31)) = wW E x (shU (fun _ => none) 0 nh9) zst := by
  funext a
  by_cases c : a = x
  · subst c
    rw [xup_same, wW_at0 shU_s]
    rfl
  · rw [xup_ne c, lp_none c]
def lwC (E : xEn) (x : Nat) (sh : Nat → Option xSh) (S M : xSt) : Nat → Option va_E := fun a => if a < x + 135 then wW E x sh S a else wW E (x + 135) shM M a
theorem lp_sub {E : xEn} {x : Nat} {sh : Nat → Option xSh} {S : xSt} : xsub (wW E (x + 135) (shU (fun _ => none) 0 nh9) zst) (xup (wW E x sh S) (x + 135) (.inr (9, xdef 9 31))) := by
  intro a e h
  by_cases c : a = x + 135
  · subst c
    rw [← lp_w9, xup_same] at h
    rw [xup_same]
    exact h
  · rw [lp_none c] at h
    cases h
theorem lp_up {E : xEn} {x : Nat} {sh : Nat → Option xSh} {S M : xSt} : ∀ a e, lwC E x sh S M a = some e → wW E (x + 135) shM M a = some e ∨ (wW E (x + 135) (shU (fun _ => none) 0 nh9) zst a = none ∧ xup (wW E x sh S) (x + 135) (.inr (9, xdef 9 31)) a = some e) := by
  intro a e h
  unfold lwC at h
  by_cases c : a < x + 135
  · rw [if_pos c] at h
    exact Or.inr ⟨lp_none (by omega), by rw [xup_ne (by omega)]; exact h⟩
  · rw [if_neg c] at h
    exact Or.inl h
theorem lp_fin {E : xEn} {x : Nat} {sh : Nat → Option xSh} {S M : xSt} (hsh : ∀ j, 135 ≤ j → sh j = none) : xup (xup (lwC E x sh S M) (x + 146) (.inl (2, 1, xarr 2))) (x + 147) (.inl (3, 1, xarr 3)) = lwW E x sh S M (fun _ => 0) (fun _ => 0) := by
  funext a
  unfold lwW lwC
  by_cases c0 : a = x + 147
  · subst c0
    rw [xup_same, if_neg (by omega), if_neg (by omega), if_neg (by omega), if_pos rfl]
    rfl
  · rw [xup_ne c0]
    by_cases c1 : a = x + 146
    · subst c1
      rw [xup_same, if_neg (by omega), if_neg (by omega), if_pos rfl]
      rfl
    · rw [xup_ne c1]
      by_cases c2 : a < x + 135
      · rw [if_pos c2, if_pos c2]
      · rw [if_neg c2, if_neg c2]
        by_cases c3 : a < x + 146
        · rw [if_pos c3]
        · rw [if_neg c3, if_neg c1, if_neg c0]
          cases h : wW E (x + 135) shM M a with
          | none => rfl
          | some e => exact absurd (wM_lt h).2 (by omega)
section CTOR
variable {p : Program} {l : Launch} {e : Env} {s : State} {m : MethodId} {args : Array Value} {below : List Frame} {meth : Method} {c : Code}
variable {G : xG} {E : xEn} {A : Nat → Prop} {MC MS : Nat} {call : Nat → List Value → xH → Option xR} {Mt : Nat → Option xMth} {ini : Bool} {ret : Option FieldType} {PO : xPool} {Q : State → Prop}
variable {b N x i n bc bs Bd : Nat} {xs : Nat → Int32} {sh : Nat → Option xSh} {S M : xSt} {f : Nat → Int64} {g : Nat → UInt64}
set_option maxHeartbeats 1000000 in
theorem lw_entry (C : xCx p l s m args meth c xlds xexs G E A 41 call Mt RL ini cL_law 10 ret PO) (hSem : ∀ (d key : Nat) (M : xMth), (xT key).map (fun r => r.1) = some M → xMet xlds xexs l G E d M (xsem xT E d key)) (hMC : 1000 ≤ MC) (hMS : 40000 ≤ MS)
    (kk : ∀ (sh : Nat → Option xSh) (S M : xSt) (bc bs : Nat), hC sh → (∀ j, 135 ≤ j → sh j = none) → RR S M 0 → bc ≤ 200 → bs ≤ 30000 → xTg p l e s m args below meth c 41 MC MS Q G A 10 28 (lL b x 0) [] (lwW E x sh S M (fun _ => 0) (fun _ => 0), x + 148) bc bs) :
    xTg p l e s m args below meth c 41 MC MS Q G A 10 0 [(0, .ref b)] [] (fun _ => none, x) 0 0 := by
  obtain ⟨sh, S, hCn, hc, hsh, hp, s0, s1, s9⟩ := C_new (E := E) (x := x) 35
  obtain ⟨M, hMn, hG, m4, m8, m12⟩ := M_new (E := E) (y := x + 135) 39
  have hR := RR_new hp s0 s1 s9 hG m4 m8 m12
  have eC1 : rX10_init.1.2.2.2.2.1 = 134 := rfl
  have eC2 : rX10_init.1.2.2.2.2.2 = 8058 := rfl
  have eM1 : rX11_init.1.2.2.2.2.1 = 10 := rfl
  have eM2 : rX11_init.1.2.2.2.2.2 = 13358 := rfl
  refine r_new C (ci := 8) (r := (RX10, TX10, 7)) rfl lk_n8 lk_i8 lk_z8 lwd_0 (by omega) (by dsimp only; omega) ?_
  dsimp only
  rw [lp_w8 (E := E)]
  refine r_dup C lwd_3 ?_
  refine x_callx C (kd := 2) (idx := 83) (n := 1) (ci := 9) (M := rX10_init.1) (av := [.ref x]) (st := [.ref x]) lk_c83 (hSem 41 kX10_init rX10_init.1 rfl) rfl hCn (fun _ => ⟨x, _, rfl, _, wW_at0 shU_s⟩) (Nat.le_of_ble_eq_true rfl) (by omega) (by omega) lwd_4 ?_
  refine r_ast C lwd_7 (k := 1) rfl (by decide) rfl ?_
  refine r_new C (ci := 9) (r := (RX11, TX11, 31)) rfl lk_n84 lk_i84 lk_z84 lwd_8 (by omega) (by dsimp only; omega) ?_
  dsimp only
  refine r_dup C lwd_11 ?_
  refine x_callx C (kd := 2) (idx := 86) (n := 1) (ci := 10) (M := rX11_init.1) (av := [.ref (x + 135)]) (st := [.ref (x + 135)]) lk_c86 (x_frm (u := lwC E x sh S M) (hSem 41 kX11_init rX11_init.1 rfl) hMn lp_sub lp_up) rfl xsg_s (fun _ => ⟨x + 135, _, rfl, _, xup_same⟩) (Nat.le_of_ble_eq_true rfl) (by omega) (by omega) lwd_12 ?_
  refine r_ast C lwd_15 (k := 2) rfl (by decide) rfl ?_
  refine r_ic C lwd_16 (v := 1) rfl ?_
  refine r_newa C (k := 2) (by decide) rfl lk_al (N := 1) (by decide) rfl (by decide) lwd_17 (by omega) (by omega) ?_
  dsimp only
  refine r_ast C lwd_19 (k := 3) rfl (by decide) rfl ?_
  refine r_ic C lwd_20 (v := 1) rfl ?_
  refine r_newa C (k := 3) (by decide) rfl lk_ad (N := 1) (by decide) rfl (by decide) lwd_21 (by omega) (by omega) ?_
  dsimp only
  refine r_astw C lwd_23 (k := 4) (by decide) rfl ?_
  refine r_ic C lwd_25 (v := nI 0) rfl ?_
  refine r_ist C lwd_26 (k := 5) (by decide) rfl ?_
  have e9 : xup (xup (lwC E x sh S M) (x + 135 + 11) (.inl (2, 1, xarr 2))) (x + 135 + 11 + 1) (.inl (3, 1, xarr 3)) = lwW E x sh S M (fun _ => 0) (fun _ => 0) := lp_fin hsh
  rw [e9]
  refine xTg_sub (L' := lL b x 0) (fun q hq => ?_) (kk sh S M _ _ hc hsh hR (by omega) (by omega))
  have hq : q = (0, .ref b) ∨ q = (1, .ref x) ∨ q = (2, .ref (x + 135)) ∨ q = (3, .ref (x + 146)) ∨ q = (4, .ref (x + 147)) ∨ q = (5, .int (nI 0)) := by
    simpa only [lL, List.mem_cons, List.not_mem_nil, or_false] using hq
  show q ∈ [(5, Value.int (nI 0)), (4, .ref (x + 147)), (3, .ref (x + 146)), (2, .ref (x + 135)), (1, .ref x), (0, .ref b)]
  rcases hq with h | h | h | h | h | h <;> simp [h]
end CTOR
