/-! THE LAW'S CASES; written by wip/whole/genlw.py. -/
theorem lk_t : xokC RL 1 98 1 10 rX11_thrown.1 = true := by decide +kernel
theorem lk_c0 : xokC RL 1 87 6 9 rX10_append.1 = true := by decide +kernel
theorem lk_m0 : xokC RL 1 91 6 10 rX11_append.1 = true := by decide +kernel
theorem lwd_172 : decode cL_law 172 = .ok (.aload_n 1, 1) := by decide +kernel
theorem lwd_203 : decode cL_law 203 = .ok (.invokevirtual 87, 3) := by decide +kernel
theorem lwd_206 : decode cL_law 206 = .ok (.aload_n 2, 1) := by decide +kernel
theorem lwd_237 : decode cL_law 237 = .ok (.invokevirtual 91, 3) := by decide +kernel
theorem lwd_240 : decode cL_law 240 = .ok (.if_icmp .eq 1391, 3) := by decide +kernel
theorem lk_c1 : hokC RL 92 3 yL_load cL_load 4 [(0, 9, 12, 13)] = true := by decide +kernel
theorem lk_m1 : xokC RL 1 97 2 10 rX11_load.1 = true := by decide +kernel
theorem lwd_245 : decode cL_law 245 = .ok (.aload_n 1, 1) := by decide +kernel
theorem lwd_252 : decode cL_law 252 = .ok (.aload_n 3, 1) := by decide +kernel
theorem lwd_253 : decode cL_law 253 = .ok (.invokestatic 92, 3) := by decide +kernel
theorem lwd_256 : decode cL_law 256 = .ok (.istore 6, 2) := by decide +kernel
theorem lwd_258 : decode cL_law 258 = .ok (.aload_n 2, 1) := by decide +kernel
theorem lwd_265 : decode cL_law 265 = .ok (.invokevirtual 97, 3) := by decide +kernel
theorem lwd_268 : decode cL_law 268 = .ok (.istore 7, 2) := by decide +kernel
theorem lwd_270 : decode cL_law 270 = .ok (.aload_n 2, 1) := by decide +kernel
theorem lwd_271 : decode cL_law 271 = .ok (.invokevirtual 98, 3) := by decide +kernel
theorem lwd_274 : decode cL_law 274 = .ok (.iload 6, 2) := by decide +kernel
theorem lwd_276 : decode cL_law 276 = .ok (.if_icmp .eq 5, 3) := by decide +kernel
theorem lwd_281 : decode cL_law 281 = .ok (.iload 6, 2) := by decide +kernel
theorem lwd_283 : decode cL_law 283 = .ok (.ifCond .ne 15, 3) := by decide +kernel
theorem lwd_298 : decode cL_law 298 = .ok (.goto 1333, 3) := by decide +kernel
theorem lwd_286 : decode cL_law 286 = .ok (.aload_n 3, 1) := by decide +kernel
theorem lwd_287 : decode cL_law 287 = .ok (.iconst 0, 1) := by decide +kernel
theorem lwd_288 : decode cL_law 288 = .ok (.laload, 1) := by decide +kernel
theorem lwd_289 : decode cL_law 289 = .ok (.iload 7, 2) := by decide +kernel
theorem lwd_291 : decode cL_law 291 = .ok (.i2l, 1) := by decide +kernel
theorem lwd_292 : decode cL_law 292 = .ok (.lcmp, 1) := by decide +kernel
theorem lwd_293 : decode cL_law 293 = .ok (.ifCond .eq 5, 3) := by decide +kernel
theorem lk_c2 : hokC RL 102 3 yL_run cL_run 4 [(0, 9, 12, 13)] = true := by decide +kernel
theorem lk_m2 : xokC RL 1 104 2 10 rX11_run.1 = true := by decide +kernel
theorem lwd_301 : decode cL_law 301 = .ok (.aload_n 1, 1) := by decide +kernel
theorem lwd_308 : decode cL_law 308 = .ok (.aload_n 3, 1) := by decide +kernel
theorem lwd_309 : decode cL_law 309 = .ok (.invokestatic 102, 3) := by decide +kernel
theorem lwd_312 : decode cL_law 312 = .ok (.istore 6, 2) := by decide +kernel
theorem lwd_314 : decode cL_law 314 = .ok (.aload_n 2, 1) := by decide +kernel
theorem lwd_321 : decode cL_law 321 = .ok (.invokevirtual 104, 3) := by decide +kernel
theorem lwd_324 : decode cL_law 324 = .ok (.istore 7, 2) := by decide +kernel
theorem lwd_326 : decode cL_law 326 = .ok (.aload_n 2, 1) := by decide +kernel
theorem lwd_327 : decode cL_law 327 = .ok (.invokevirtual 98, 3) := by decide +kernel
theorem lwd_330 : decode cL_law 330 = .ok (.iload 6, 2) := by decide +kernel
theorem lwd_332 : decode cL_law 332 = .ok (.if_icmp .eq 5, 3) := by decide +kernel
theorem lwd_337 : decode cL_law 337 = .ok (.iload 6, 2) := by decide +kernel
theorem lwd_339 : decode cL_law 339 = .ok (.ifCond .ne 15, 3) := by decide +kernel
theorem lwd_354 : decode cL_law 354 = .ok (.goto 1277, 3) := by decide +kernel
theorem lwd_342 : decode cL_law 342 = .ok (.aload_n 3, 1) := by decide +kernel
theorem lwd_343 : decode cL_law 343 = .ok (.iconst 0, 1) := by decide +kernel
theorem lwd_344 : decode cL_law 344 = .ok (.laload, 1) := by decide +kernel
theorem lwd_345 : decode cL_law 345 = .ok (.iload 7, 2) := by decide +kernel
theorem lwd_347 : decode cL_law 347 = .ok (.i2l, 1) := by decide +kernel
theorem lwd_348 : decode cL_law 348 = .ok (.lcmp, 1) := by decide +kernel
theorem lwd_349 : decode cL_law 349 = .ok (.ifCond .eq 5, 3) := by decide +kernel
theorem lk_c3 : xokC RL 1 105 1 9 rX10_errorOffset.1 = true := by decide +kernel
theorem lk_m3 : xokC RL 1 108 1 10 rX11_errorOffset.1 = true := by decide +kernel
theorem lwd_357 : decode cL_law 357 = .ok (.aload_n 1, 1) := by decide +kernel
theorem lwd_358 : decode cL_law 358 = .ok (.invokevirtual 105, 3) := by decide +kernel
theorem lwd_361 : decode cL_law 361 = .ok (.aload_n 2, 1) := by decide +kernel
theorem lwd_362 : decode cL_law 362 = .ok (.invokevirtual 108, 3) := by decide +kernel
theorem lwd_365 : decode cL_law 365 = .ok (.if_icmp .eq 1266, 3) := by decide +kernel
section CASES
variable {p : Program} {l : Launch} {e : Env} {s : State} {m : MethodId} {args : Array Value} {below : List Frame} {meth : Method} {c : Code}
variable {G : xG} {E : xEn} {A : Nat → Prop} {MC MS : Nat} {call : Nat → List Value → xH → Option xR} {Mt : Nat → Option xMth} {ini : Bool} {ret : Option FieldType} {PO : xPool} {Q : State → Prop}
variable {b N x i n bc bs Bd : Nat} {xs : Nat → Int32} {sh : Nat → Option xSh} {S M : xSt} {f : Nat → Int64} {g : Nat → UInt64}
theorem lw_case_0 (C : xCx p l s m args meth c xlds xexs G E A 41 call Mt RL ini cL_law 10 ret PO) (hNx : xNx s) (hX : va_X b N xs s s.heap) (hbl : b < s.heap.size) (hbA : ¬ A b) (hN : N ≤ 3072) (hSem : ∀ (d key : Nat) (M : xMth), (xT key).map (fun r => r.1) = some M → xMet xlds xexs l G E d M (xsem xT E d key)) (hc : hC sh) (hsh : ∀ j, 135 ≤ j → sh j = none) (HE : hEn E x) (HE2 : hEn E (x + 135)) (R : RR S M Bd) (hB : Bd < 2 ^ 31) (hi : i + 6 ≤ N) (hbc : bc + 8 ≤ MC) (hbs : bs + 80 ≤ MS) (kk : lwK p l e s m args below meth c MC MS Q G E A b x i sh Bd bc bs) : xTg p l e s m args below meth c 41 MC MS Q G A 10 172 (lL b x i) [] (lwW E x sh S M f g, n) bc bs := by
  refine lw_n (fun hn => ?_)
  obtain ⟨fs, hfs⟩ := wL_x (E := E) (x := x) (S := S) (M := M) (f := f) (g := g) hc.1
  have eC1 : rX10_append.1.2.2.2.2.1 = 0 := rfl
  have eC2 : rX10_append.1.2.2.2.2.2 = 0 := rfl
  have eM1 : rX11_append.1.2.2.2.2.1 = 0 := rfl
  have eM2 : rX11_append.1.2.2.2.2.2 = 0 := rfl
  have et1 : rX11_thrown.1.2.2.2.2.1 = 0 := rfl
  have et2 : rX11_thrown.1.2.2.2.2.2 = 0 := rfl
  obtain ⟨v, S', M', n', hv, R', hMc, hm⟩ := lw_cN (S := S) (M := M) (f := f) (g := g) hsh hn (fun m => T_append (n := n) (m := m) hc R (xs (i + 1)) (xs (i + 2)) (xs (i + 3)) (xs (i + 4)) (xs (i + 5)) 39 39) (hSem 41 kX10_append rX10_append.1 rfl) rfl
  obtain ⟨v, rfl⟩ := vtag_0 hv
  refine r_ald C lwd_172 (k := 1) rfl rfl ?_
  refine x_ld C hX hbl hbA hN (k := 1) (kz := 1) (i := i) rfl (by decide +kernel : ldOk cL_law 173 1 = true) rfl rfl (by omega) ?_
  refine x_ld C hX hbl hbA hN (k := 2) (kz := 2) (i := i) rfl (by decide +kernel : ldOk cL_law 179 2 = true) rfl rfl (by omega) ?_
  refine x_ld C hX hbl hbA hN (k := 3) (kz := 3) (i := i) rfl (by decide +kernel : ldOk cL_law 185 3 = true) rfl rfl (by omega) ?_
  refine x_ld C hX hbl hbA hN (k := 4) (kz := 4) (i := i) rfl (by decide +kernel : ldOk cL_law 191 4 = true) rfl rfl (by omega) ?_
  refine x_ld C hX hbl hbA hN (k := 5) (kz := 5) (i := i) rfl (by decide +kernel : ldOk cL_law 197 5 = true) rfl rfl (by omega) ?_
  refine x_callx C (kd := 1) (idx := 87) (n := 6) (ci := 9) (M := rX10_append.1) (av := [.ref x, .int (xs (i + 1)), .int (xs (i + 2)), .int (xs (i + 3)), .int (xs (i + 4)), .int (xs (i + 5))]) (st := []) lk_c0 hMc rfl xsg_s (fun _ => ⟨x, _, rfl, fs, hfs⟩) (Nat.le_of_ble_eq_true rfl) (by omega) (by omega) lwd_203 ?_
  refine r_ald C lwd_206 (k := 2) rfl rfl ?_
  refine x_ld C hX hbl hbA hN (k := 1) (kz := 1) (i := i) rfl (by decide +kernel : ldOk cL_law 207 1 = true) rfl rfl (by omega) ?_
  refine x_ld C hX hbl hbA hN (k := 2) (kz := 2) (i := i) rfl (by decide +kernel : ldOk cL_law 213 2 = true) rfl rfl (by omega) ?_
  refine x_ld C hX hbl hbA hN (k := 3) (kz := 3) (i := i) rfl (by decide +kernel : ldOk cL_law 219 3 = true) rfl rfl (by omega) ?_
  refine x_ld C hX hbl hbA hN (k := 4) (kz := 4) (i := i) rfl (by decide +kernel : ldOk cL_law 225 4 = true) rfl rfl (by omega) ?_
  refine x_ld C hX hbl hbA hN (k := 5) (kz := 5) (i := i) rfl (by decide +kernel : ldOk cL_law 231 5 = true) rfl rfl (by omega) ?_
  refine x_callx C (kd := 1) (idx := 91) (n := 6) (ci := 10) (M := rX11_append.1) (av := [.ref (x + 135), .int (xs (i + 1)), .int (xs (i + 2)), .int (xs (i + 3)), .int (xs (i + 4)), .int (xs (i + 5))]) (st := [.int v]) lk_m0 (lw_mod (S := S') (f := f) (g := g) (hSem 41 kX11_append rX11_append.1 rfl) hm) rfl xsg_s (fun _ => ⟨x + 135, _, rfl, wL_y⟩) (Nat.le_of_ble_eq_true rfl) (by omega) (by omega) lwd_237 ?_
  refine r_cmpeq C lwd_240 (t := 1631) (by decide) ?_
  exact xTg_sub (fun q hq => hq) (kk S' M' f g n' _ _ (RR_mo R' (by omega)) (by omega) (by omega))
theorem lw_case_1 (C : xCx p l s m args meth c xlds xexs G E A 41 call Mt RL ini cL_law 10 ret PO) (hNx : xNx s) (hX : va_X b N xs s s.heap) (hbl : b < s.heap.size) (hbA : ¬ A b) (hN : N ≤ 3072) (hSem : ∀ (d key : Nat) (M : xMth), (xT key).map (fun r => r.1) = some M → xMet xlds xexs l G E d M (xsem xT E d key)) (hc : hC sh) (hsh : ∀ j, 135 ≤ j → sh j = none) (HE : hEn E x) (HE2 : hEn E (x + 135)) (R : RR S M Bd) (hB : Bd < 2 ^ 31) (hi : i + 6 ≤ N) (hbc : bc + 8 ≤ MC) (hbs : bs + 80 ≤ MS) (kk : lwK p l e s m args below meth c MC MS Q G E A b x i sh Bd bc bs) : xTg p l e s m args below meth c 41 MC MS Q G A 10 245 (lL b x i) [] (lwW E x sh S M f g, n) bc bs := by
  refine lw_n (fun hn => ?_)
  obtain ⟨fs, hfs⟩ := wL_x (E := E) (x := x) (S := S) (M := M) (f := f) (g := g) hc.1
  have eC1 : rX10_load.1.2.2.2.2.1 = 1 := rfl
  have eC2 : rX10_load.1.2.2.2.2.2 = 6 := rfl
  have eM1 : rX11_load.1.2.2.2.2.1 = 0 := rfl
  have eM2 : rX11_load.1.2.2.2.2.2 = 0 := rfl
  have et1 : rX11_thrown.1.2.2.2.2.1 = 0 := rfl
  have et2 : rX11_thrown.1.2.2.2.2.2 = 0 := rfl
  obtain ⟨u, r, f', hr4, hh, hz⟩ := lw_cI (S := S) (M := M) (f := f) (g := g) Int32.toInt64 (by decide) hsh hn (fun m => T_load (n := n) (m := m) hc HE HE2 R (xs (i + 1)) 19 16) (hSem 40 kX10_load rX10_load.1 rfl) rfl (fun f0 h => hl_load (x := x) (o := x + 146) h hfs)
  refine r_ald C lwd_245 (k := 1) rfl rfl ?_
  refine x_ld C hX hbl hbA hN (k := 1) (kz := 1) (i := i) rfl (by decide +kernel : ldOk cL_law 246 1 = true) rfl rfl (by omega) ?_
  refine r_ald C lwd_252 (k := 3) rfl rfl ?_
  refine x_callh C hNx (av := [.ref x, .int (xs (i + 1)), .ref (x + 146)]) (st := []) lk_c1 hh rfl (Nat.le_of_ble_eq_true rfl) (by omega) (by omega) lwd_253 (fun z => ?_)
  obtain ⟨S', M', v, R', hu, hm, h0, hv⟩ := hz z
  rw [hu]
  refine r_ist C lwd_256 (k := 6) (by decide) rfl ?_
  refine r_ald C lwd_258 (k := 2) rfl rfl ?_
  refine x_ld C hX hbl hbA hN (k := 1) (kz := 1) (i := i) rfl (by decide +kernel : ldOk cL_law 259 1 = true) rfl rfl (by omega) ?_
  refine x_callx C (kd := 1) (idx := 97) (n := 2) (ci := 10) (M := rX11_load.1) (av := [.ref (x + 135), .int (xs (i + 1))]) (st := []) lk_m1 (lw_mod (S := S') (f := f') (g := g) (hSem 41 kX11_load rX11_load.1 rfl) hm) rfl xsg_s (fun _ => ⟨x + 135, _, rfl, wL_y⟩) (Nat.le_of_ble_eq_true rfl) (by omega) (by omega) lwd_265 ?_
  refine r_ist C lwd_268 (k := 7) (by decide) rfl ?_
  refine r_ald C lwd_270 (k := 2) rfl rfl ?_
  refine x_callx C (kd := 1) (idx := 98) (n := 1) (ci := 10) (M := rX11_thrown.1) (av := [.ref (x + 135)]) (st := []) lk_t (lw_mod (S := S') (f := f') (g := g) (hSem 41 kX11_thrown rX11_thrown.1 rfl) g_thrown) rfl xsg_s (fun _ => ⟨x + 135, _, rfl, wL_y⟩) (Nat.le_of_ble_eq_true rfl) (by omega) (by omega) lwd_271 ?_
  rw [h0]
  refine r_ild C lwd_274 (k := 6) rfl ?_
  refine r_cmpeq C lwd_276 (t := 281) (by decide) ?_
  refine r_ild C lwd_281 (k := 6) rfl ?_
  refine r_ifne C lwd_283 (t := 298) (by decide) (fun _ => ?_) (fun h => ?_)
  · refine r_goto C lwd_298 (t := 1631) (by decide) ?_
    exact xTg_sub (fun q hq => List.mem_cons_of_mem _ (List.mem_cons_of_mem _ hq)) (kk S' M' f' g z _ _ (RR_mo R' (by omega)) (by omega) (by omega))
  · have hv1 := hv (nI_n0 hr4 h)
    refine r_ald C lwd_286 (k := 3) rfl rfl ?_
    refine r_ic C lwd_287 (v := nI 0) rfl ?_
    refine r_lald C lwd_288 wL_o ?_
    rw [hv1]
    refine r_ild C lwd_289 (k := 7) rfl ?_
    refine r_i2l C lwd_291 ?_
    refine r_lcmp C lwd_292 ?_
    refine r_ifeq C lwd_293 (t := 298) (by decide) (fun _ => ?_) (fun h2 => absurd rfl h2)
    refine r_goto C lwd_298 (t := 1631) (by decide) ?_
    exact xTg_sub (fun q hq => List.mem_cons_of_mem _ (List.mem_cons_of_mem _ hq)) (kk S' M' f' g z _ _ (RR_mo R' (by omega)) (by omega) (by omega))
theorem lw_case_2 (C : xCx p l s m args meth c xlds xexs G E A 41 call Mt RL ini cL_law 10 ret PO) (hNx : xNx s) (hX : va_X b N xs s s.heap) (hbl : b < s.heap.size) (hbA : ¬ A b) (hN : N ≤ 3072) (hSem : ∀ (d key : Nat) (M : xMth), (xT key).map (fun r => r.1) = some M → xMet xlds xexs l G E d M (xsem xT E d key)) (hc : hC sh) (hsh : ∀ j, 135 ≤ j → sh j = none) (HE : hEn E x) (HE2 : hEn E (x + 135)) (R : RR S M Bd) (hB : Bd < 2 ^ 31) (hi : i + 6 ≤ N) (hbc : bc + 8 ≤ MC) (hbs : bs + 80 ≤ MS) (kk : lwK p l e s m args below meth c MC MS Q G E A b x i sh Bd bc bs) : xTg p l e s m args below meth c 41 MC MS Q G A 10 301 (lL b x i) [] (lwW E x sh S M f g, n) bc bs := by
  refine lw_n (fun hn => ?_)
  obtain ⟨fs, hfs⟩ := wL_x (E := E) (x := x) (S := S) (M := M) (f := f) (g := g) hc.1
  have eC1 : rX10_run.1.2.2.2.2.1 = 1 := rfl
  have eC2 : rX10_run.1.2.2.2.2.2 = 6 := rfl
  have eM1 : rX11_run.1.2.2.2.2.1 = 0 := rfl
  have eM2 : rX11_run.1.2.2.2.2.2 = 0 := rfl
  have et1 : rX11_thrown.1.2.2.2.2.1 = 0 := rfl
  have et2 : rX11_thrown.1.2.2.2.2.2 = 0 := rfl
  obtain ⟨u, r, f', hr4, hh, hz⟩ := lw_cI (S := S) (M := M) (f := f) (g := g) Int32.toInt64 (by decide) hsh hn (fun m => T_run (n := n) (m := m) hc HE HE2 R (xs (i + 1)) 25 23) (hSem 40 kX10_run rX10_run.1 rfl) rfl (fun f0 h => hl_run (x := x) (o := x + 146) h hfs)
  refine r_ald C lwd_301 (k := 1) rfl rfl ?_
  refine x_ld C hX hbl hbA hN (k := 1) (kz := 1) (i := i) rfl (by decide +kernel : ldOk cL_law 302 1 = true) rfl rfl (by omega) ?_
  refine r_ald C lwd_308 (k := 3) rfl rfl ?_
  refine x_callh C hNx (av := [.ref x, .int (xs (i + 1)), .ref (x + 146)]) (st := []) lk_c2 hh rfl (Nat.le_of_ble_eq_true rfl) (by omega) (by omega) lwd_309 (fun z => ?_)
  obtain ⟨S', M', v, R', hu, hm, h0, hv⟩ := hz z
  rw [hu]
  refine r_ist C lwd_312 (k := 6) (by decide) rfl ?_
  refine r_ald C lwd_314 (k := 2) rfl rfl ?_
  refine x_ld C hX hbl hbA hN (k := 1) (kz := 1) (i := i) rfl (by decide +kernel : ldOk cL_law 315 1 = true) rfl rfl (by omega) ?_
  refine x_callx C (kd := 1) (idx := 104) (n := 2) (ci := 10) (M := rX11_run.1) (av := [.ref (x + 135), .int (xs (i + 1))]) (st := []) lk_m2 (lw_mod (S := S') (f := f') (g := g) (hSem 41 kX11_run rX11_run.1 rfl) hm) rfl xsg_s (fun _ => ⟨x + 135, _, rfl, wL_y⟩) (Nat.le_of_ble_eq_true rfl) (by omega) (by omega) lwd_321 ?_
  refine r_ist C lwd_324 (k := 7) (by decide) rfl ?_
  refine r_ald C lwd_326 (k := 2) rfl rfl ?_
  refine x_callx C (kd := 1) (idx := 98) (n := 1) (ci := 10) (M := rX11_thrown.1) (av := [.ref (x + 135)]) (st := []) lk_t (lw_mod (S := S') (f := f') (g := g) (hSem 41 kX11_thrown rX11_thrown.1 rfl) g_thrown) rfl xsg_s (fun _ => ⟨x + 135, _, rfl, wL_y⟩) (Nat.le_of_ble_eq_true rfl) (by omega) (by omega) lwd_327 ?_
  rw [h0]
  refine r_ild C lwd_330 (k := 6) rfl ?_
  refine r_cmpeq C lwd_332 (t := 337) (by decide) ?_
  refine r_ild C lwd_337 (k := 6) rfl ?_
  refine r_ifne C lwd_339 (t := 354) (by decide) (fun _ => ?_) (fun h => ?_)
  · refine r_goto C lwd_354 (t := 1631) (by decide) ?_
    exact xTg_sub (fun q hq => List.mem_cons_of_mem _ (List.mem_cons_of_mem _ hq)) (kk S' M' f' g z _ _ (RR_mo R' (by omega)) (by omega) (by omega))
  · have hv1 := hv (nI_n0 hr4 h)
    refine r_ald C lwd_342 (k := 3) rfl rfl ?_
    refine r_ic C lwd_343 (v := nI 0) rfl ?_
    refine r_lald C lwd_344 wL_o ?_
    rw [hv1]
    refine r_ild C lwd_345 (k := 7) rfl ?_
    refine r_i2l C lwd_347 ?_
    refine r_lcmp C lwd_348 ?_
    refine r_ifeq C lwd_349 (t := 354) (by decide) (fun _ => ?_) (fun h2 => absurd rfl h2)
    refine r_goto C lwd_354 (t := 1631) (by decide) ?_
    exact xTg_sub (fun q hq => List.mem_cons_of_mem _ (List.mem_cons_of_mem _ hq)) (kk S' M' f' g z _ _ (RR_mo R' (by omega)) (by omega) (by omega))
theorem lw_case_3 (C : xCx p l s m args meth c xlds xexs G E A 41 call Mt RL ini cL_law 10 ret PO) (hNx : xNx s) (hX : va_X b N xs s s.heap) (hbl : b < s.heap.size) (hbA : ¬ A b) (hN : N ≤ 3072) (hSem : ∀ (d key : Nat) (M : xMth), (xT key).map (fun r => r.1) = some M → xMet xlds xexs l G E d M (xsem xT E d key)) (hc : hC sh) (hsh : ∀ j, 135 ≤ j → sh j = none) (HE : hEn E x) (HE2 : hEn E (x + 135)) (R : RR S M Bd) (hB : Bd < 2 ^ 31) (hi : i + 6 ≤ N) (hbc : bc + 8 ≤ MC) (hbs : bs + 80 ≤ MS) (kk : lwK p l e s m args below meth c MC MS Q G E A b x i sh Bd bc bs) : xTg p l e s m args below meth c 41 MC MS Q G A 10 357 (lL b x i) [] (lwW E x sh S M f g, n) bc bs := by
  refine lw_n (fun hn => ?_)
  obtain ⟨fs, hfs⟩ := wL_x (E := E) (x := x) (S := S) (M := M) (f := f) (g := g) hc.1
  have eC1 : rX10_errorOffset.1.2.2.2.2.1 = 0 := rfl
  have eC2 : rX10_errorOffset.1.2.2.2.2.2 = 0 := rfl
  have eM1 : rX11_errorOffset.1.2.2.2.2.1 = 0 := rfl
  have eM2 : rX11_errorOffset.1.2.2.2.2.2 = 0 := rfl
  have et1 : rX11_thrown.1.2.2.2.2.1 = 0 := rfl
  have et2 : rX11_thrown.1.2.2.2.2.2 = 0 := rfl
  obtain ⟨v, S', M', n', hv, R', hMc, hm⟩ := lw_cN (S := S) (M := M) (f := f) (g := g) hsh hn (fun m => T_error (n := n) (m := m) hc R 40 40) (hSem 41 kX10_errorOffset rX10_errorOffset.1 rfl) rfl
  obtain ⟨v, rfl⟩ := vtag_0 hv
  refine r_ald C lwd_357 (k := 1) rfl rfl ?_
  refine x_callx C (kd := 1) (idx := 105) (n := 1) (ci := 9) (M := rX10_errorOffset.1) (av := [.ref x]) (st := []) lk_c3 hMc rfl xsg_s (fun _ => ⟨x, _, rfl, fs, hfs⟩) (Nat.le_of_ble_eq_true rfl) (by omega) (by omega) lwd_358 ?_
  refine r_ald C lwd_361 (k := 2) rfl rfl ?_
  refine x_callx C (kd := 1) (idx := 108) (n := 1) (ci := 10) (M := rX11_errorOffset.1) (av := [.ref (x + 135)]) (st := [.int v]) lk_m3 (lw_mod (S := S') (f := f) (g := g) (hSem 41 kX11_errorOffset rX11_errorOffset.1 rfl) hm) rfl xsg_s (fun _ => ⟨x + 135, _, rfl, wL_y⟩) (Nat.le_of_ble_eq_true rfl) (by omega) (by omega) lwd_362 ?_
  refine r_cmpeq C lwd_365 (t := 1631) (by decide) ?_
  exact xTg_sub (fun q hq => hq) (kk S' M' f g n' _ _ (RR_mo R' (by omega)) (by omega) (by omega))
end CASES
