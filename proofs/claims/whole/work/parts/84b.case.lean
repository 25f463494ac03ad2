/-! THE LAW'S CASES; written by wip/whole/genlw.py. -/
theorem lk_c4 : hokC RL 109 3 yL_state cL_state 4 [(0, 9, 12, 13)] = true := by decide +kernel
theorem lk_m4 : xokC RL 1 111 2 10 rX11_state.1 = true := by decide +kernel
theorem lwd_370 : decode cL_law 370 = .ok (.aload_n 1, 1) := by decide +kernel
theorem lwd_377 : decode cL_law 377 = .ok (.aload_n 3, 1) := by decide +kernel
theorem lwd_378 : decode cL_law 378 = .ok (.invokestatic 109, 3) := by decide +kernel
theorem lwd_381 : decode cL_law 381 = .ok (.istore 6, 2) := by decide +kernel
theorem lwd_383 : decode cL_law 383 = .ok (.aload_n 2, 1) := by decide +kernel
theorem lwd_390 : decode cL_law 390 = .ok (.invokevirtual 111, 3) := by decide +kernel
theorem lwd_393 : decode cL_law 393 = .ok (.istore 7, 2) := by decide +kernel
theorem lwd_395 : decode cL_law 395 = .ok (.aload_n 2, 1) := by decide +kernel
theorem lwd_396 : decode cL_law 396 = .ok (.invokevirtual 98, 3) := by decide +kernel
theorem lwd_399 : decode cL_law 399 = .ok (.iload 6, 2) := by decide +kernel
theorem lwd_401 : decode cL_law 401 = .ok (.if_icmp .eq 5, 3) := by decide +kernel
theorem lwd_406 : decode cL_law 406 = .ok (.iload 6, 2) := by decide +kernel
theorem lwd_408 : decode cL_law 408 = .ok (.ifCond .ne 15, 3) := by decide +kernel
theorem lwd_423 : decode cL_law 423 = .ok (.goto 1208, 3) := by decide +kernel
theorem lwd_411 : decode cL_law 411 = .ok (.aload_n 3, 1) := by decide +kernel
theorem lwd_412 : decode cL_law 412 = .ok (.iconst 0, 1) := by decide +kernel
theorem lwd_413 : decode cL_law 413 = .ok (.laload, 1) := by decide +kernel
theorem lwd_414 : decode cL_law 414 = .ok (.iload 7, 2) := by decide +kernel
theorem lwd_416 : decode cL_law 416 = .ok (.i2l, 1) := by decide +kernel
theorem lwd_417 : decode cL_law 417 = .ok (.lcmp, 1) := by decide +kernel
theorem lwd_418 : decode cL_law 418 = .ok (.ifCond .eq 5, 3) := by decide +kernel
theorem lk_c5 : hokC RL 112 4 yL_shell cL_shell 5 [(0, 10, 13, 25), (0, 10, 17, 13)] = true := by decide +kernel
theorem lk_m5 : xokC RL 1 115 3 10 rX11_shell.1 = true := by decide +kernel
theorem lwd_426 : decode cL_law 426 = .ok (.aload_n 1, 1) := by decide +kernel
theorem lwd_439 : decode cL_law 439 = .ok (.aload_n 3, 1) := by decide +kernel
theorem lwd_440 : decode cL_law 440 = .ok (.invokestatic 112, 3) := by decide +kernel
theorem lwd_443 : decode cL_law 443 = .ok (.istore 6, 2) := by decide +kernel
theorem lwd_445 : decode cL_law 445 = .ok (.aload_n 2, 1) := by decide +kernel
theorem lwd_458 : decode cL_law 458 = .ok (.invokevirtual 115, 3) := by decide +kernel
theorem lwd_461 : decode cL_law 461 = .ok (.istore 7, 2) := by decide +kernel
theorem lwd_463 : decode cL_law 463 = .ok (.aload_n 2, 1) := by decide +kernel
theorem lwd_464 : decode cL_law 464 = .ok (.invokevirtual 98, 3) := by decide +kernel
theorem lwd_467 : decode cL_law 467 = .ok (.iload 6, 2) := by decide +kernel
theorem lwd_469 : decode cL_law 469 = .ok (.if_icmp .eq 5, 3) := by decide +kernel
theorem lwd_474 : decode cL_law 474 = .ok (.iload 6, 2) := by decide +kernel
theorem lwd_476 : decode cL_law 476 = .ok (.ifCond .ne 15, 3) := by decide +kernel
theorem lwd_491 : decode cL_law 491 = .ok (.goto 1140, 3) := by decide +kernel
theorem lwd_479 : decode cL_law 479 = .ok (.aload_n 3, 1) := by decide +kernel
theorem lwd_480 : decode cL_law 480 = .ok (.iconst 0, 1) := by decide +kernel
theorem lwd_481 : decode cL_law 481 = .ok (.laload, 1) := by decide +kernel
theorem lwd_482 : decode cL_law 482 = .ok (.iload 7, 2) := by decide +kernel
theorem lwd_484 : decode cL_law 484 = .ok (.i2l, 1) := by decide +kernel
theorem lwd_485 : decode cL_law 485 = .ok (.lcmp, 1) := by decide +kernel
theorem lwd_486 : decode cL_law 486 = .ok (.ifCond .eq 5, 3) := by decide +kernel
theorem lk_c6 : hokC RL 116 3 yL_belief cL_belief 4 [(0, 9, 12, 13)] = true := by decide +kernel
theorem lk_m6 : xokC RL 1 118 2 10 rX11_belief.1 = true := by decide +kernel
theorem lwd_494 : decode cL_law 494 = .ok (.aload_n 1, 1) := by decide +kernel
theorem lwd_501 : decode cL_law 501 = .ok (.aload_n 3, 1) := by decide +kernel
theorem lwd_502 : decode cL_law 502 = .ok (.invokestatic 116, 3) := by decide +kernel
theorem lwd_505 : decode cL_law 505 = .ok (.istore 6, 2) := by decide +kernel
theorem lwd_507 : decode cL_law 507 = .ok (.aload_n 2, 1) := by decide +kernel
theorem lwd_514 : decode cL_law 514 = .ok (.invokevirtual 118, 3) := by decide +kernel
theorem lwd_517 : decode cL_law 517 = .ok (.istore 7, 2) := by decide +kernel
theorem lwd_519 : decode cL_law 519 = .ok (.aload_n 2, 1) := by decide +kernel
theorem lwd_520 : decode cL_law 520 = .ok (.invokevirtual 98, 3) := by decide +kernel
theorem lwd_523 : decode cL_law 523 = .ok (.iload 6, 2) := by decide +kernel
theorem lwd_525 : decode cL_law 525 = .ok (.if_icmp .eq 5, 3) := by decide +kernel
theorem lwd_530 : decode cL_law 530 = .ok (.iload 6, 2) := by decide +kernel
theorem lwd_532 : decode cL_law 532 = .ok (.ifCond .ne 15, 3) := by decide +kernel
theorem lwd_547 : decode cL_law 547 = .ok (.goto 1084, 3) := by decide +kernel
theorem lwd_535 : decode cL_law 535 = .ok (.aload_n 3, 1) := by decide +kernel
theorem lwd_536 : decode cL_law 536 = .ok (.iconst 0, 1) := by decide +kernel
theorem lwd_537 : decode cL_law 537 = .ok (.laload, 1) := by decide +kernel
theorem lwd_538 : decode cL_law 538 = .ok (.iload 7, 2) := by decide +kernel
theorem lwd_540 : decode cL_law 540 = .ok (.i2l, 1) := by decide +kernel
theorem lwd_541 : decode cL_law 541 = .ok (.lcmp, 1) := by decide +kernel
theorem lwd_542 : decode cL_law 542 = .ok (.ifCond .eq 5, 3) := by decide +kernel
theorem lk_c7 : hokC RL 119 3 yL_chance cL_chance 4 [(0, 8, 11, 13)] = true := by decide +kernel
theorem lk_m7 : xokC RL 1 122 2 10 rX11_chance.1 = true := by decide +kernel
theorem lwd_550 : decode cL_law 550 = .ok (.aload_n 1, 1) := by decide +kernel
theorem lwd_557 : decode cL_law 557 = .ok (.aload 4, 2) := by decide +kernel
theorem lwd_559 : decode cL_law 559 = .ok (.invokestatic 119, 3) := by decide +kernel
theorem lwd_562 : decode cL_law 562 = .ok (.istore 6, 2) := by decide +kernel
theorem lwd_564 : decode cL_law 564 = .ok (.aload_n 2, 1) := by decide +kernel
theorem lwd_571 : decode cL_law 571 = .ok (.invokevirtual 122, 3) := by decide +kernel
theorem lwd_574 : decode cL_law 574 = .ok (.dstore 7, 2) := by decide +kernel
theorem lwd_576 : decode cL_law 576 = .ok (.aload_n 2, 1) := by decide +kernel
theorem lwd_577 : decode cL_law 577 = .ok (.invokevirtual 98, 3) := by decide +kernel
theorem lwd_580 : decode cL_law 580 = .ok (.iload 6, 2) := by decide +kernel
theorem lwd_582 : decode cL_law 582 = .ok (.if_icmp .eq 5, 3) := by decide +kernel
theorem lwd_587 : decode cL_law 587 = .ok (.iload 6, 2) := by decide +kernel
theorem lwd_589 : decode cL_law 589 = .ok (.ifCond .ne 35, 3) := by decide +kernel
theorem lwd_624 : decode cL_law 624 = .ok (.goto 1007, 3) := by decide +kernel
theorem lwd_592 : decode cL_law 592 = .ok (.aload 4, 2) := by decide +kernel
theorem lwd_594 : decode cL_law 594 = .ok (.iconst 0, 1) := by decide +kernel
theorem lwd_595 : decode cL_law 595 = .ok (.daload, 1) := by decide +kernel
theorem lwd_596 : decode cL_law 596 = .ok (.dload 7, 2) := by decide +kernel
theorem lwd_598 : decode cL_law 598 = .ok (.dcmp .l, 1) := by decide +kernel
theorem lwd_599 : decode cL_law 599 = .ok (.ifCond .eq 25, 3) := by decide +kernel
theorem lwd_602 : decode cL_law 602 = .ok (.aload 4, 2) := by decide +kernel
theorem lwd_604 : decode cL_law 604 = .ok (.iconst 0, 1) := by decide +kernel
theorem lwd_605 : decode cL_law 605 = .ok (.daload, 1) := by decide +kernel
theorem lwd_606 : decode cL_law 606 = .ok (.aload 4, 2) := by decide +kernel
theorem lwd_608 : decode cL_law 608 = .ok (.iconst 0, 1) := by decide +kernel
theorem lwd_609 : decode cL_law 609 = .ok (.daload, 1) := by decide +kernel
theorem lwd_610 : decode cL_law 610 = .ok (.dcmp .l, 1) := by decide +kernel
theorem lwd_611 : decode cL_law 611 = .ok (.ifCond .eq 11, 3) := by decide +kernel
theorem lwd_614 : decode cL_law 614 = .ok (.dload 7, 2) := by decide +kernel
theorem lwd_616 : decode cL_law 616 = .ok (.dload 7, 2) := by decide +kernel
theorem lwd_618 : decode cL_law 618 = .ok (.dcmp .l, 1) := by decide +kernel
theorem lwd_619 : decode cL_law 619 = .ok (.ifCond .ne 5, 3) := by decide +kernel
section CASES
variable {p : Program} {l : Launch} {e : Env} {s : State} {m : MethodId} {args : Array Value} {below : List Frame} {meth : Method} {c : Code}
variable {G : xG} {E : xEn} {A : Nat → Prop} {MC MS : Nat} {call : Nat → List Value → xH → Option xR} {Mt : Nat → Option xMth} {ini : Bool} {ret : Option FieldType} {PO : xPool} {Q : State → Prop}
variable {b N x i n bc bs Bd : Nat} {xs : Nat → Int32} {sh : Nat → Option xSh} {S M : xSt} {f : Nat → Int64} {g : Nat → UInt64}
theorem lw_case_4 (C : xCx p l s m args meth c xlds xexs G E A 41 call Mt RL ini cL_law 10 ret PO) (hNx : xNx s) (hX : va_X b N xs s s.heap) (hbl : b < s.heap.size) (hbA : ¬ A b) (hN : N ≤ 3072) (hSem : ∀ (d key : Nat) (M : xMth), (xT key).map (fun r => r.1) = some M → xMet xlds xexs l G E d M (xsem xT E d key)) (hc : hC sh) (hsh : ∀ j, 135 ≤ j → sh j = none) (HE : hEn E x) (HE2 : hEn E (x + 135)) (R : RR S M Bd) (hB : Bd < 2 ^ 31) (hi : i + 6 ≤ N) (hbc : bc + 8 ≤ MC) (hbs : bs + 80 ≤ MS) (kk : lwK p l e s m args below meth c MC MS Q G E A b x i sh Bd bc bs) : xTg p l e s m args below meth c 41 MC MS Q G A 10 370 (lL b x i) [] (lwW E x sh S M f g, n) bc bs := by
  refine lw_n (fun hn => ?_)
  obtain ⟨fs, hfs⟩ := wL_x (E := E) (x := x) (S := S) (M := M) (f := f) (g := g) hc.1
  have eC1 : rX10_state.1.2.2.2.2.1 = 1 := rfl
  have eC2 : rX10_state.1.2.2.2.2.2 = 6 := rfl
  have eM1 : rX11_state.1.2.2.2.2.1 = 0 := rfl
  have eM2 : rX11_state.1.2.2.2.2.2 = 0 := rfl
  have et1 : rX11_thrown.1.2.2.2.2.1 = 0 := rfl
  have et2 : rX11_thrown.1.2.2.2.2.2 = 0 := rfl
  obtain ⟨u, r, f', hr4, hh, hz⟩ := lw_cI (S := S) (M := M) (f := f) (g := g) Int32.toInt64 (by decide) hsh hn (fun m => T_state (n := n) (m := m) hc R (xs (i + 1)) 37 36) (hSem 40 kX10_state rX10_state.1 rfl) rfl (fun f0 h => hl_state (x := x) (o := x + 146) h hfs)
  refine r_ald C lwd_370 (k := 1) rfl rfl ?_
  refine x_ld C hX hbl hbA hN (k := 1) (kz := 1) (i := i) rfl (by decide +kernel : ldOk cL_law 371 1 = true) rfl rfl (by omega) ?_
  refine r_ald C lwd_377 (k := 3) rfl rfl ?_
  refine x_callh C hNx (av := [.ref x, .int (xs (i + 1)), .ref (x + 146)]) (st := []) lk_c4 hh rfl (Nat.le_of_ble_eq_true rfl) (by omega) (by omega) lwd_378 (fun z => ?_)
  obtain ⟨S', M', v, R', hu, hm, h0, hv⟩ := hz z
  rw [hu]
  refine r_ist C lwd_381 (k := 6) (by decide) rfl ?_
  refine r_ald C lwd_383 (k := 2) rfl rfl ?_
  refine x_ld C hX hbl hbA hN (k := 1) (kz := 1) (i := i) rfl (by decide +kernel : ldOk cL_law 384 1 = true) rfl rfl (by omega) ?_
  refine x_callx C (kd := 1) (idx := 111) (n := 2) (ci := 10) (M := rX11_state.1) (av := [.ref (x + 135), .int (xs (i + 1))]) (st := []) lk_m4 (lw_mod (S := S') (f := f') (g := g) (hSem 41 kX11_state rX11_state.1 rfl) hm) rfl xsg_s (fun _ => ⟨x + 135, _, rfl, wL_y⟩) (Nat.le_of_ble_eq_true rfl) (by omega) (by omega) lwd_390 ?_
  refine r_ist C lwd_393 (k := 7) (by decide) rfl ?_
  refine r_ald C lwd_395 (k := 2) rfl rfl ?_
  refine x_callx C (kd := 1) (idx := 98) (n := 1) (ci := 10) (M := rX11_thrown.1) (av := [.ref (x + 135)]) (st := []) lk_t (lw_mod (S := S') (f := f') (g := g) (hSem 41 kX11_thrown rX11_thrown.1 rfl) g_thrown) rfl xsg_s (fun _ => ⟨x + 135, _, rfl, wL_y⟩) (Nat.le_of_ble_eq_true rfl) (by omega) (by omega) lwd_396 ?_
  rw [h0]
  refine r_ild C lwd_399 (k := 6) rfl ?_
  refine r_cmpeq C lwd_401 (t := 406) (by decide) ?_
  refine r_ild C lwd_406 (k := 6) rfl ?_
  refine r_ifne C lwd_408 (t := 423) (by decide) (fun _ => ?_) (fun h => ?_)
  · refine r_goto C lwd_423 (t := 1631) (by decide) ?_
    exact xTg_sub (fun q hq => List.mem_cons_of_mem _ (List.mem_cons_of_mem _ hq)) (kk S' M' f' g z _ _ (RR_mo R' (by omega)) (by omega) (by omega))
  · have hv1 := hv (nI_n0 hr4 h)
    refine r_ald C lwd_411 (k := 3) rfl rfl ?_
    refine r_ic C lwd_412 (v := nI 0) rfl ?_
    refine r_lald C lwd_413 wL_o ?_
    rw [hv1]
    refine r_ild C lwd_414 (k := 7) rfl ?_
    refine r_i2l C lwd_416 ?_
    refine r_lcmp C lwd_417 ?_
    refine r_ifeq C lwd_418 (t := 423) (by decide) (fun _ => ?_) (fun h2 => absurd rfl h2)
    refine r_goto C lwd_423 (t := 1631) (by decide) ?_
    exact xTg_sub (fun q hq => List.mem_cons_of_mem _ (List.mem_cons_of_mem _ hq)) (kk S' M' f' g z _ _ (RR_mo R' (by omega)) (by omega) (by omega))
theorem lw_case_5 (C : xCx p l s m args meth c xlds xexs G E A 41 call Mt RL ini cL_law 10 ret PO) (hNx : xNx s) (hX : va_X b N xs s s.heap) (hbl : b < s.heap.size) (hbA : ¬ A b) (hN : N ≤ 3072) (hSem : ∀ (d key : Nat) (M : xMth), (xT key).map (fun r => r.1) = some M → xMet xlds xexs l G E d M (xsem xT E d key)) (hc : hC sh) (hsh : ∀ j, 135 ≤ j → sh j = none) (HE : hEn E x) (HE2 : hEn E (x + 135)) (R : RR S M Bd) (hB : Bd < 2 ^ 31) (hi : i + 6 ≤ N) (hbc : bc + 8 ≤ MC) (hbs : bs + 80 ≤ MS) (kk : lwK p l e s m args below meth c MC MS Q G E A b x i sh Bd bc bs) : xTg p l e s m args below meth c 41 MC MS Q G A 10 426 (lL b x i) [] (lwW E x sh S M f g, n) bc bs := by
  refine lw_n (fun hn => ?_)
  obtain ⟨fs, hfs⟩ := wL_x (E := E) (x := x) (S := S) (M := M) (f := f) (g := g) hc.1
  have eC1 : rX10_shell.1.2.2.2.2.1 = 2 := rfl
  have eC2 : rX10_shell.1.2.2.2.2.2 = 12 := rfl
  have eM1 : rX11_shell.1.2.2.2.2.1 = 0 := rfl
  have eM2 : rX11_shell.1.2.2.2.2.2 = 0 := rfl
  have et1 : rX11_thrown.1.2.2.2.2.1 = 0 := rfl
  have et2 : rX11_thrown.1.2.2.2.2.2 = 0 := rfl
  obtain ⟨u, r, f', hr4, hh, hz⟩ := lw_cI (S := S) (M := M) (f := f) (g := g) Int32.toInt64 (by decide) hsh hn (fun m => T_shell (n := n) (m := m) hc R (xs (i + 1)) (xs (i + 2)) 35 36) (hSem 40 kX10_shell rX10_shell.1 rfl) rfl (fun f0 h => hl_shell (x := x) (o := x + 146) h hfs)
  refine r_ald C lwd_426 (k := 1) rfl rfl ?_
  refine x_ld C hX hbl hbA hN (k := 1) (kz := 1) (i := i) rfl (by decide +kernel : ldOk cL_law 427 1 = true) rfl rfl (by omega) ?_
  refine x_ld C hX hbl hbA hN (k := 2) (kz := 2) (i := i) rfl (by decide +kernel : ldOk cL_law 433 2 = true) rfl rfl (by omega) ?_
  refine r_ald C lwd_439 (k := 3) rfl rfl ?_
  refine x_callh C hNx (av := [.ref x, .int (xs (i + 1)), .int (xs (i + 2)), .ref (x + 146)]) (st := []) lk_c5 hh rfl (Nat.le_of_ble_eq_true rfl) (by omega) (by omega) lwd_440 (fun z => ?_)
  obtain ⟨S', M', v, R', hu, hm, h0, hv⟩ := hz z
  rw [hu]
  refine r_ist C lwd_443 (k := 6) (by decide) rfl ?_
  refine r_ald C lwd_445 (k := 2) rfl rfl ?_
  refine x_ld C hX hbl hbA hN (k := 1) (kz := 1) (i := i) rfl (by decide +kernel : ldOk cL_law 446 1 = true) rfl rfl (by omega) ?_
  refine x_ld C hX hbl hbA hN (k := 2) (kz := 2) (i := i) rfl (by decide +kernel : ldOk cL_law 452 2 = true) rfl rfl (by omega) ?_
  refine x_callx C (kd := 1) (idx := 115) (n := 3) (ci := 10) (M := rX11_shell.1) (av := [.ref (x + 135), .int (xs (i + 1)), .int (xs (i + 2))]) (st := []) lk_m5 (lw_mod (S := S') (f := f') (g := g) (hSem 41 kX11_shell rX11_shell.1 rfl) hm) rfl xsg_s (fun _ => ⟨x + 135, _, rfl, wL_y⟩) (Nat.le_of_ble_eq_true rfl) (by omega) (by omega) lwd_458 ?_
  refine r_ist C lwd_461 (k := 7) (by decide) rfl ?_
  refine r_ald C lwd_463 (k := 2) rfl rfl ?_
  refine x_callx C (kd := 1) (idx := 98) (n := 1) (ci := 10) (M := rX11_thrown.1) (av := [.ref (x + 135)]) (st := []) lk_t (lw_mod (S := S') (f := f') (g := g) (hSem 41 kX11_thrown rX11_thrown.1 rfl) g_thrown) rfl xsg_s (fun _ => ⟨x + 135, _, rfl, wL_y⟩) (Nat.le_of_ble_eq_true rfl) (by omega) (by omega) lwd_464 ?_
  rw [h0]
  refine r_ild C lwd_467 (k := 6) rfl ?_
  refine r_cmpeq C lwd_469 (t := 474) (by decide) ?_
  refine r_ild C lwd_474 (k := 6) rfl ?_
  refine r_ifne C lwd_476 (t := 491) (by decide) (fun _ => ?_) (fun h => ?_)
  · refine r_goto C lwd_491 (t := 1631) (by decide) ?_
    exact xTg_sub (fun q hq => List.mem_cons_of_mem _ (List.mem_cons_of_mem _ hq)) (kk S' M' f' g z _ _ (RR_mo R' (by omega)) (by omega) (by omega))
  · have hv1 := hv (nI_n0 hr4 h)
    refine r_ald C lwd_479 (k := 3) rfl rfl ?_
    refine r_ic C lwd_480 (v := nI 0) rfl ?_
    refine r_lald C lwd_481 wL_o ?_
    rw [hv1]
    refine r_ild C lwd_482 (k := 7) rfl ?_
    refine r_i2l C lwd_484 ?_
    refine r_lcmp C lwd_485 ?_
    refine r_ifeq C lwd_486 (t := 491) (by decide) (fun _ => ?_) (fun h2 => absurd rfl h2)
    refine r_goto C lwd_491 (t := 1631) (by decide) ?_
    exact xTg_sub (fun q hq => List.mem_cons_of_mem _ (List.mem_cons_of_mem _ hq)) (kk S' M' f' g z _ _ (RR_mo R' (by omega)) (by omega) (by omega))
theorem lw_case_6 (C : xCx p l s m args meth c xlds xexs G E A 41 call Mt RL ini cL_law 10 ret PO) (hNx : xNx s) (hX : va_X b N xs s s.heap) (hbl : b < s.heap.size) (hbA : ¬ A b) (hN : N ≤ 3072) (hSem : ∀ (d key : Nat) (M : xMth), (xT key).map (fun r => r.1) = some M → xMet xlds xexs l G E d M (xsem xT E d key)) (hc : hC sh) (hsh : ∀ j, 135 ≤ j → sh j = none) (HE : hEn E x) (HE2 : hEn E (x + 135)) (R : RR S M Bd) (hB : Bd < 2 ^ 31) (hi : i + 6 ≤ N) (hbc : bc + 8 ≤ MC) (hbs : bs + 80 ≤ MS) (kk : lwK p l e s m args below meth c MC MS Q G E A b x i sh Bd bc bs) : xTg p l e s m args below meth c 41 MC MS Q G A 10 494 (lL b x i) [] (lwW E x sh S M f g, n) bc bs := by
  refine lw_n (fun hn => ?_)
  obtain ⟨fs, hfs⟩ := wL_x (E := E) (x := x) (S := S) (M := M) (f := f) (g := g) hc.1
  have eC1 : rX10_belief.1.2.2.2.2.1 = 1 := rfl
  have eC2 : rX10_belief.1.2.2.2.2.2 = 6 := rfl
  have eM1 : rX11_belief.1.2.2.2.2.1 = 0 := rfl
  have eM2 : rX11_belief.1.2.2.2.2.2 = 0 := rfl
  have et1 : rX11_thrown.1.2.2.2.2.1 = 0 := rfl
  have et2 : rX11_thrown.1.2.2.2.2.2 = 0 := rfl
  obtain ⟨u, r, f', hr4, hh, hz⟩ := lw_cI (S := S) (M := M) (f := f) (g := g) Int32.toInt64 (by decide) hsh hn (fun m => T_belief (n := n) (m := m) hc R (xs (i + 1)) 37 38) (hSem 40 kX10_belief rX10_belief.1 rfl) rfl (fun f0 h => hl_belief (x := x) (o := x + 146) h hfs)
  refine r_ald C lwd_494 (k := 1) rfl rfl ?_
  refine x_ld C hX hbl hbA hN (k := 1) (kz := 1) (i := i) rfl (by decide +kernel : ldOk cL_law 495 1 = true) rfl rfl (by omega) ?_
  refine r_ald C lwd_501 (k := 3) rfl rfl ?_
  refine x_callh C hNx (av := [.ref x, .int (xs (i + 1)), .ref (x + 146)]) (st := []) lk_c6 hh rfl (Nat.le_of_ble_eq_true rfl) (by omega) (by omega) lwd_502 (fun z => ?_)
  obtain ⟨S', M', v, R', hu, hm, h0, hv⟩ := hz z
  rw [hu]
  refine r_ist C lwd_505 (k := 6) (by decide) rfl ?_
  refine r_ald C lwd_507 (k := 2) rfl rfl ?_
  refine x_ld C hX hbl hbA hN (k := 1) (kz := 1) (i := i) rfl (by decide +kernel : ldOk cL_law 508 1 = true) rfl rfl (by omega) ?_
  refine x_callx C (kd := 1) (idx := 118) (n := 2) (ci := 10) (M := rX11_belief.1) (av := [.ref (x + 135), .int (xs (i + 1))]) (st := []) lk_m6 (lw_mod (S := S') (f := f') (g := g) (hSem 41 kX11_belief rX11_belief.1 rfl) hm) rfl xsg_s (fun _ => ⟨x + 135, _, rfl, wL_y⟩) (Nat.le_of_ble_eq_true rfl) (by omega) (by omega) lwd_514 ?_
  refine r_ist C lwd_517 (k := 7) (by decide) rfl ?_
  refine r_ald C lwd_519 (k := 2) rfl rfl ?_
  refine x_callx C (kd := 1) (idx := 98) (n := 1) (ci := 10) (M := rX11_thrown.1) (av := [.ref (x + 135)]) (st := []) lk_t (lw_mod (S := S') (f := f') (g := g) (hSem 41 kX11_thrown rX11_thrown.1 rfl) g_thrown) rfl xsg_s (fun _ => ⟨x + 135, _, rfl, wL_y⟩) (Nat.le_of_ble_eq_true rfl) (by omega) (by omega) lwd_520 ?_
  rw [h0]
  refine r_ild C lwd_523 (k := 6) rfl ?_
  refine r_cmpeq C lwd_525 (t := 530) (by decide) ?_
  refine r_ild C lwd_530 (k := 6) rfl ?_
  refine r_ifne C lwd_532 (t := 547) (by decide) (fun _ => ?_) (fun h => ?_)
  · refine r_goto C lwd_547 (t := 1631) (by decide) ?_
    exact xTg_sub (fun q hq => List.mem_cons_of_mem _ (List.mem_cons_of_mem _ hq)) (kk S' M' f' g z _ _ (RR_mo R' (by omega)) (by omega) (by omega))
  · have hv1 := hv (nI_n0 hr4 h)
    refine r_ald C lwd_535 (k := 3) rfl rfl ?_
    refine r_ic C lwd_536 (v := nI 0) rfl ?_
    refine r_lald C lwd_537 wL_o ?_
    rw [hv1]
    refine r_ild C lwd_538 (k := 7) rfl ?_
    refine r_i2l C lwd_540 ?_
    refine r_lcmp C lwd_541 ?_
    refine r_ifeq C lwd_542 (t := 547) (by decide) (fun _ => ?_) (fun h2 => absurd rfl h2)
    refine r_goto C lwd_547 (t := 1631) (by decide) ?_
    exact xTg_sub (fun q hq => List.mem_cons_of_mem _ (List.mem_cons_of_mem _ hq)) (kk S' M' f' g z _ _ (RR_mo R' (by omega)) (by omega) (by omega))
theorem lw_case_7 (C : xCx p l s m args meth c xlds xexs G E A 41 call Mt RL ini cL_law 10 ret PO) (hNx : xNx s) (hX : va_X b N xs s s.heap) (hbl : b < s.heap.size) (hbA : ¬ A b) (hN : N ≤ 3072) (hSem : ∀ (d key : Nat) (M : xMth), (xT key).map (fun r => r.1) = some M → xMet xlds xexs l G E d M (xsem xT E d key)) (hc : hC sh) (hsh : ∀ j, 135 ≤ j → sh j = none) (HE : hEn E x) (HE2 : hEn E (x + 135)) (R : RR S M Bd) (hB : Bd < 2 ^ 31) (hi : i + 6 ≤ N) (hbc : bc + 8 ≤ MC) (hbs : bs + 80 ≤ MS) (kk : lwK p l e s m args below meth c MC MS Q G E A b x i sh Bd bc bs) : xTg p l e s m args below meth c 41 MC MS Q G A 10 550 (lL b x i) [] (lwW E x sh S M f g, n) bc bs := by
  refine lw_n (fun hn => ?_)
  obtain ⟨fs, hfs⟩ := wL_x (E := E) (x := x) (S := S) (M := M) (f := f) (g := g) hc.1
  have eC1 : rX10_chance.1.2.2.2.2.1 = 1 := rfl
  have eC2 : rX10_chance.1.2.2.2.2.2 = 6 := rfl
  have eM1 : rX11_chance.1.2.2.2.2.1 = 0 := rfl
  have eM2 : rX11_chance.1.2.2.2.2.2 = 0 := rfl
  have et1 : rX11_thrown.1.2.2.2.2.1 = 0 := rfl
  have et2 : rX11_thrown.1.2.2.2.2.2 = 0 := rfl
  obtain ⟨u, r, g', hr4, hh, hz⟩ := lw_cD (S := S) (M := M) (f := f) (g := g) (by decide) hsh hn (fun m => T_chance (n := n) (m := m) hc R (xs (i + 1)) 37 37) (hSem 40 kX10_chance rX10_chance.1 rfl) rfl (fun f0 h => hl_chance (x := x) (o := x + 147) h hfs)
  refine r_ald C lwd_550 (k := 1) rfl rfl ?_
  refine x_ld C hX hbl hbA hN (k := 1) (kz := 1) (i := i) rfl (by decide +kernel : ldOk cL_law 551 1 = true) rfl rfl (by omega) ?_
  refine r_aldw C lwd_557 (k := 4) rfl ?_
  refine x_callh C hNx (av := [.ref x, .int (xs (i + 1)), .ref (x + 147)]) (st := []) lk_c7 hh rfl (Nat.le_of_ble_eq_true rfl) (by omega) (by omega) lwd_559 (fun z => ?_)
  obtain ⟨S', M', v, R', hu, hm, h0, hv⟩ := hz z
  rw [hu]
  refine r_ist C lwd_562 (k := 6) (by decide) rfl ?_
  refine r_ald C lwd_564 (k := 2) rfl rfl ?_
  refine x_ld C hX hbl hbA hN (k := 1) (kz := 1) (i := i) rfl (by decide +kernel : ldOk cL_law 565 1 = true) rfl rfl (by omega) ?_
  refine x_callx C (kd := 1) (idx := 122) (n := 2) (ci := 10) (M := rX11_chance.1) (av := [.ref (x + 135), .int (xs (i + 1))]) (st := []) lk_m7 (lw_mod (S := S') (f := f) (g := g') (hSem 41 kX11_chance rX11_chance.1 rfl) hm) rfl xsg_s (fun _ => ⟨x + 135, _, rfl, wL_y⟩) (Nat.le_of_ble_eq_true rfl) (by omega) (by omega) lwd_571 ?_
  refine r_dst C lwd_574 (k := 7) (by decide) rfl ?_
  refine r_ald C lwd_576 (k := 2) rfl rfl ?_
  refine x_callx C (kd := 1) (idx := 98) (n := 1) (ci := 10) (M := rX11_thrown.1) (av := [.ref (x + 135)]) (st := []) lk_t (lw_mod (S := S') (f := f) (g := g') (hSem 41 kX11_thrown rX11_thrown.1 rfl) g_thrown) rfl xsg_s (fun _ => ⟨x + 135, _, rfl, wL_y⟩) (Nat.le_of_ble_eq_true rfl) (by omega) (by omega) lwd_577 ?_
  rw [h0]
  refine r_ild C lwd_580 (k := 6) rfl ?_
  refine r_cmpeq C lwd_582 (t := 587) (by decide) ?_
  refine r_ild C lwd_587 (k := 6) rfl ?_
  refine r_ifne C lwd_589 (t := 624) (by decide) (fun _ => ?_) (fun h => ?_)
  · refine r_goto C lwd_624 (t := 1631) (by decide) ?_
    exact xTg_sub (fun q hq => List.mem_cons_of_mem _ (List.mem_cons_of_mem _ hq)) (kk S' M' f g' z _ _ (RR_mo R' (by omega)) (by omega) (by omega))
  · have hv1 := hv (nI_n0 hr4 h)
    refine r_aldw C lwd_592 (k := 4) rfl ?_
    refine r_ic C lwd_594 (v := nI 0) rfl ?_
    refine r_dald C lwd_595 wL_d ?_
    rw [hv1]
    refine r_dld C lwd_596 (k := 7) rfl ?_
    refine r_dcmp C lwd_598 ?_
    refine r_ifeq C lwd_599 (t := 624) (by decide) (fun _ => ?_) (fun h1 => ?_)
    · refine r_goto C lwd_624 (t := 1631) (by decide) ?_
      exact xTg_sub (fun q hq => List.mem_cons_of_mem _ (List.mem_cons_of_mem _ hq)) (kk S' M' f g' z _ _ (RR_mo R' (by omega)) (by omega) (by omega))
    · refine r_aldw C lwd_602 (k := 4) rfl ?_
      refine r_ic C lwd_604 (v := nI 0) rfl ?_
      refine r_dald C lwd_605 wL_d ?_
      refine r_aldw C lwd_606 (k := 4) rfl ?_
      refine r_ic C lwd_608 (v := nI 0) rfl ?_
      refine r_dald C lwd_609 wL_d ?_
      rw [hv1]
      refine r_dcmp C lwd_610 ?_
      refine r_ifeq C lwd_611 (t := 622) (by decide) (fun h2 => absurd h2 h1) (fun _ => ?_)
      refine r_dld C lwd_614 (k := 7) rfl ?_
      refine r_dld C lwd_616 (k := 7) rfl ?_
      refine r_dcmp C lwd_618 ?_
      refine r_ifne C lwd_619 (t := 624) (by decide) (fun _ => ?_) (fun h2 => absurd h2 h1)
      refine r_goto C lwd_624 (t := 1631) (by decide) ?_
      exact xTg_sub (fun q hq => List.mem_cons_of_mem _ (List.mem_cons_of_mem _ hq)) (kk S' M' f g' z _ _ (RR_mo R' (by omega)) (by omega) (by omega))
end CASES
