/-! THE LAW'S CASES; written by wip/whole/genlw.py. -/
theorem lk_c24 : hokC RL 178 4 yL_blink cL_blink 5 [(0, 10, 13, 13), (0, 10, 17, 60)] = true := by decide +kernel
theorem lk_m24 : xokC RL 1 180 3 10 rX11_blink.1 = true := by decide +kernel
theorem lwd_1480 : decode cL_law 1480 = .ok (.aload_n 1, 1) := by decide +kernel
theorem lwd_1493 : decode cL_law 1493 = .ok (.aload_n 3, 1) := by decide +kernel
theorem lwd_1494 : decode cL_law 1494 = .ok (.invokestatic 178, 3) := by decide +kernel
theorem lwd_1497 : decode cL_law 1497 = .ok (.istore 6, 2) := by decide +kernel
theorem lwd_1499 : decode cL_law 1499 = .ok (.aload_n 2, 1) := by decide +kernel
theorem lwd_1512 : decode cL_law 1512 = .ok (.invokevirtual 180, 3) := by decide +kernel
theorem lwd_1515 : decode cL_law 1515 = .ok (.istore 7, 2) := by decide +kernel
theorem lwd_1517 : decode cL_law 1517 = .ok (.aload_n 2, 1) := by decide +kernel
theorem lwd_1518 : decode cL_law 1518 = .ok (.invokevirtual 98, 3) := by decide +kernel
theorem lwd_1521 : decode cL_law 1521 = .ok (.iload 6, 2) := by decide +kernel
theorem lwd_1523 : decode cL_law 1523 = .ok (.if_icmp .eq 5, 3) := by decide +kernel
theorem lwd_1528 : decode cL_law 1528 = .ok (.iload 6, 2) := by decide +kernel
theorem lwd_1530 : decode cL_law 1530 = .ok (.ifCond .ne 15, 3) := by decide +kernel
theorem lwd_1545 : decode cL_law 1545 = .ok (.goto 86, 3) := by decide +kernel
theorem lwd_1533 : decode cL_law 1533 = .ok (.aload_n 3, 1) := by decide +kernel
theorem lwd_1534 : decode cL_law 1534 = .ok (.iconst 0, 1) := by decide +kernel
theorem lwd_1535 : decode cL_law 1535 = .ok (.laload, 1) := by decide +kernel
theorem lwd_1536 : decode cL_law 1536 = .ok (.iload 7, 2) := by decide +kernel
theorem lwd_1538 : decode cL_law 1538 = .ok (.i2l, 1) := by decide +kernel
theorem lwd_1539 : decode cL_law 1539 = .ok (.lcmp, 1) := by decide +kernel
theorem lwd_1540 : decode cL_law 1540 = .ok (.ifCond .eq 5, 3) := by decide +kernel
theorem lk_c25 : hokC RL 181 3 yL_suspect cL_suspect 4 [(0, 9, 12, 81)] = true := by decide +kernel
theorem lk_m25 : xokC RL 1 183 2 10 rX11_suspect.1 = true := by decide +kernel
theorem lwd_1548 : decode cL_law 1548 = .ok (.aload_n 1, 1) := by decide +kernel
theorem lwd_1555 : decode cL_law 1555 = .ok (.aload_n 3, 1) := by decide +kernel
theorem lwd_1556 : decode cL_law 1556 = .ok (.invokestatic 181, 3) := by decide +kernel
theorem lwd_1559 : decode cL_law 1559 = .ok (.istore 6, 2) := by decide +kernel
theorem lwd_1561 : decode cL_law 1561 = .ok (.aload_n 2, 1) := by decide +kernel
theorem lwd_1568 : decode cL_law 1568 = .ok (.invokevirtual 183, 3) := by decide +kernel
theorem lwd_1571 : decode cL_law 1571 = .ok (.istore 7, 2) := by decide +kernel
theorem lwd_1573 : decode cL_law 1573 = .ok (.aload_n 2, 1) := by decide +kernel
theorem lwd_1574 : decode cL_law 1574 = .ok (.invokevirtual 98, 3) := by decide +kernel
theorem lwd_1577 : decode cL_law 1577 = .ok (.iload 6, 2) := by decide +kernel
theorem lwd_1579 : decode cL_law 1579 = .ok (.if_icmp .eq 5, 3) := by decide +kernel
theorem lwd_1584 : decode cL_law 1584 = .ok (.iload 6, 2) := by decide +kernel
theorem lwd_1586 : decode cL_law 1586 = .ok (.ifCond .ne 15, 3) := by decide +kernel
theorem lwd_1601 : decode cL_law 1601 = .ok (.goto 30, 3) := by decide +kernel
theorem lwd_1589 : decode cL_law 1589 = .ok (.aload_n 3, 1) := by decide +kernel
theorem lwd_1590 : decode cL_law 1590 = .ok (.iconst 0, 1) := by decide +kernel
theorem lwd_1591 : decode cL_law 1591 = .ok (.laload, 1) := by decide +kernel
theorem lwd_1592 : decode cL_law 1592 = .ok (.iload 7, 2) := by decide +kernel
theorem lwd_1594 : decode cL_law 1594 = .ok (.i2l, 1) := by decide +kernel
theorem lwd_1595 : decode cL_law 1595 = .ok (.lcmp, 1) := by decide +kernel
theorem lwd_1596 : decode cL_law 1596 = .ok (.ifCond .eq 5, 3) := by decide +kernel
theorem lk_c26 : xokC RL 1 184 1 9 rX10_undo.1 = true := by decide +kernel
theorem lk_m26 : xokC RL 1 187 1 10 rX11_undo.1 = true := by decide +kernel
theorem lwd_1604 : decode cL_law 1604 = .ok (.aload_n 1, 1) := by decide +kernel
theorem lwd_1605 : decode cL_law 1605 = .ok (.invokevirtual 184, 3) := by decide +kernel
theorem lwd_1608 : decode cL_law 1608 = .ok (.aload_n 2, 1) := by decide +kernel
theorem lwd_1609 : decode cL_law 1609 = .ok (.invokevirtual 187, 3) := by decide +kernel
theorem lwd_1612 : decode cL_law 1612 = .ok (.if_icmp .eq 19, 3) := by decide +kernel
theorem lk_c27 : xokC RL 1 188 1 9 rX10_checksum.1 = true := by decide +kernel
theorem lk_m27 : xokC RL 1 192 1 10 rX11_checksum.1 = true := by decide +kernel
theorem lwd_1617 : decode cL_law 1617 = .ok (.aload_n 1, 1) := by decide +kernel
theorem lwd_1618 : decode cL_law 1618 = .ok (.invokevirtual 188, 3) := by decide +kernel
theorem lwd_1621 : decode cL_law 1621 = .ok (.aload_n 2, 1) := by decide +kernel
theorem lwd_1622 : decode cL_law 1622 = .ok (.invokevirtual 192, 3) := by decide +kernel
theorem lwd_1625 : decode cL_law 1625 = .ok (.lcmp, 1) := by decide +kernel
theorem lwd_1626 : decode cL_law 1626 = .ok (.ifCond .eq 5, 3) := by decide +kernel
section CASES
variable {p : Program} {l : Launch} {e : Env} {s : State} {m : MethodId} {args : Array Value} {below : List Frame} {meth : Method} {c : Code}
variable {G : xG} {E : xEn} {A : Nat → Prop} {MC MS : Nat} {call : Nat → List Value → xH → Option xR} {Mt : Nat → Option xMth} {ini : Bool} {ret : Option FieldType} {PO : xPool} {Q : State → Prop}
variable {b N x i n bc bs Bd : Nat} {xs : Nat → Int32} {sh : Nat → Option xSh} {S M : xSt} {f : Nat → Int64} {g : Nat → UInt64}
theorem lw_case_24 (C : xCx p l s m args meth c xlds xexs G E A 41 call Mt RL ini cL_law 10 ret PO) (hNx : xNx s) (hX : va_X b N xs s s.heap) (hbl : b < s.heap.size) (hbA : ¬ A b) (hN : N ≤ 3072) (hSem : ∀ (d key : Nat) (M : xMth), (xT key).map (fun r => r.1) = some M → xMet xlds xexs l G E d M (xsem xT E d key)) (hc : hC sh) (hsh : ∀ j, 135 ≤ j → sh j = none) (HE : hEn E x) (HE2 : hEn E (x + 135)) (R : RR S M Bd) (hB : Bd < 2 ^ 31) (hi : i + 6 ≤ N) (hbc : bc + 8 ≤ MC) (hbs : bs + 80 ≤ MS) (kk : lwK p l e s m args below meth c MC MS Q G E A b x i sh Bd bc bs) : xTg p l e s m args below meth c 41 MC MS Q G A 10 1480 (lL b x i) [] (lwW E x sh S M f g, n) bc bs := by
  refine lw_n (fun hn => ?_)
  obtain ⟨fs, hfs⟩ := wL_x (E := E) (x := x) (S := S) (M := M) (f := f) (g := g) hc.1
  have eC1 : rX10_blink.1.2.2.2.2.1 = 1 := rfl
  have eC2 : rX10_blink.1.2.2.2.2.2 = 6 := rfl
  have eM1 : rX11_blink.1.2.2.2.2.1 = 0 := rfl
  have eM2 : rX11_blink.1.2.2.2.2.2 = 0 := rfl
  have et1 : rX11_thrown.1.2.2.2.2.1 = 0 := rfl
  have et2 : rX11_thrown.1.2.2.2.2.2 = 0 := rfl
  obtain ⟨u, r, f', hr4, hh, hz⟩ := lw_cI (S := S) (M := M) (f := f) (g := g) Int32.toInt64 (by decide) hsh hn (fun m => T_blink (n := n) (m := m) hc R (xs (i + 1)) (xs (i + 2)) 36 38) (hSem 40 kX10_blink rX10_blink.1 rfl) rfl (fun f0 h => hl_blink (x := x) (o := x + 146) h hfs)
  refine r_ald C lwd_1480 (k := 1) rfl rfl ?_
  refine x_ld C hX hbl hbA hN (k := 1) (kz := 1) (i := i) rfl (by decide +kernel : ldOk cL_law 1481 1 = true) rfl rfl (by omega) ?_
  refine x_ld C hX hbl hbA hN (k := 2) (kz := 2) (i := i) rfl (by decide +kernel : ldOk cL_law 1487 2 = true) rfl rfl (by omega) ?_
  refine r_ald C lwd_1493 (k := 3) rfl rfl ?_
  refine x_callh C hNx (av := [.ref x, .int (xs (i + 1)), .int (xs (i + 2)), .ref (x + 146)]) (st := []) lk_c24 hh rfl (Nat.le_of_ble_eq_true rfl) (by omega) (by omega) lwd_1494 (fun z => ?_)
  obtain ⟨S', M', v, R', hu, hm, h0, hv⟩ := hz z
  rw [hu]
  refine r_ist C lwd_1497 (k := 6) (by decide) rfl ?_
  refine r_ald C lwd_1499 (k := 2) rfl rfl ?_
  refine x_ld C hX hbl hbA hN (k := 1) (kz := 1) (i := i) rfl (by decide +kernel : ldOk cL_law 1500 1 = true) rfl rfl (by omega) ?_
  refine x_ld C hX hbl hbA hN (k := 2) (kz := 2) (i := i) rfl (by decide +kernel : ldOk cL_law 1506 2 = true) rfl rfl (by omega) ?_
  refine x_callx C (kd := 1) (idx := 180) (n := 3) (ci := 10) (M := rX11_blink.1) (av := [.ref (x + 135), .int (xs (i + 1)), .int (xs (i + 2))]) (st := []) lk_m24 (lw_mod (S := S') (f := f') (g := g) (hSem 41 kX11_blink rX11_blink.1 rfl) hm) rfl xsg_s (fun _ => ⟨x + 135, _, rfl, wL_y⟩) (Nat.le_of_ble_eq_true rfl) (by omega) (by omega) lwd_1512 ?_
  refine r_ist C lwd_1515 (k := 7) (by decide) rfl ?_
  refine r_ald C lwd_1517 (k := 2) rfl rfl ?_
  refine x_callx C (kd := 1) (idx := 98) (n := 1) (ci := 10) (M := rX11_thrown.1) (av := [.ref (x + 135)]) (st := []) lk_t (lw_mod (S := S') (f := f') (g := g) (hSem 41 kX11_thrown rX11_thrown.1 rfl) g_thrown) rfl xsg_s (fun _ => ⟨x + 135, _, rfl, wL_y⟩) (Nat.le_of_ble_eq_true rfl) (by omega) (by omega) lwd_1518 ?_
  rw [h0]
  refine r_ild C lwd_1521 (k := 6) rfl ?_
  refine r_cmpeq C lwd_1523 (t := 1528) (by decide) ?_
  refine r_ild C lwd_1528 (k := 6) rfl ?_
  refine r_ifne C lwd_1530 (t := 1545) (by decide) (fun _ => ?_) (fun h => ?_)
  · refine r_goto C lwd_1545 (t := 1631) (by decide) ?_
    exact xTg_sub (fun q hq => List.mem_cons_of_mem _ (List.mem_cons_of_mem _ hq)) (kk S' M' f' g z _ _ (RR_mo R' (by omega)) (by omega) (by omega))
  · have hv1 := hv (nI_n0 hr4 h)
    refine r_ald C lwd_1533 (k := 3) rfl rfl ?_
    refine r_ic C lwd_1534 (v := nI 0) rfl ?_
    refine r_lald C lwd_1535 wL_o ?_
    rw [hv1]
    refine r_ild C lwd_1536 (k := 7) rfl ?_
    refine r_i2l C lwd_1538 ?_
    refine r_lcmp C lwd_1539 ?_
    refine r_ifeq C lwd_1540 (t := 1545) (by decide) (fun _ => ?_) (fun h2 => absurd rfl h2)
    refine r_goto C lwd_1545 (t := 1631) (by decide) ?_
    exact xTg_sub (fun q hq => List.mem_cons_of_mem _ (List.mem_cons_of_mem _ hq)) (kk S' M' f' g z _ _ (RR_mo R' (by omega)) (by omega) (by omega))
theorem lw_case_25 (C : xCx p l s m args meth c xlds xexs G E A 41 call Mt RL ini cL_law 10 ret PO) (hNx : xNx s) (hX : va_X b N xs s s.heap) (hbl : b < s.heap.size) (hbA : ¬ A b) (hN : N ≤ 3072) (hSem : ∀ (d key : Nat) (M : xMth), (xT key).map (fun r => r.1) = some M → xMet xlds xexs l G E d M (xsem xT E d key)) (hc : hC sh) (hsh : ∀ j, 135 ≤ j → sh j = none) (HE : hEn E x) (HE2 : hEn E (x + 135)) (R : RR S M Bd) (hB : Bd < 2 ^ 31) (hi : i + 6 ≤ N) (hbc : bc + 8 ≤ MC) (hbs : bs + 80 ≤ MS) (kk : lwK p l e s m args below meth c MC MS Q G E A b x i sh Bd bc bs) : xTg p l e s m args below meth c 41 MC MS Q G A 10 1548 (lL b x i) [] (lwW E x sh S M f g, n) bc bs := by
  refine lw_n (fun hn => ?_)
  obtain ⟨fs, hfs⟩ := wL_x (E := E) (x := x) (S := S) (M := M) (f := f) (g := g) hc.1
  have eC1 : rX10_suspect.1.2.2.2.2.1 = 1 := rfl
  have eC2 : rX10_suspect.1.2.2.2.2.2 = 6 := rfl
  have eM1 : rX11_suspect.1.2.2.2.2.1 = 0 := rfl
  have eM2 : rX11_suspect.1.2.2.2.2.2 = 0 := rfl
  have et1 : rX11_thrown.1.2.2.2.2.1 = 0 := rfl
  have et2 : rX11_thrown.1.2.2.2.2.2 = 0 := rfl
  obtain ⟨u, r, f', hr4, hh, hz⟩ := lw_cI (S := S) (M := M) (f := f) (g := g) Int32.toInt64 (by decide) hsh hn (fun m => T_suspect (n := n) (m := m) hc R (xs (i + 1)) 36 37) (hSem 40 kX10_suspect rX10_suspect.1 rfl) rfl (fun f0 h => hl_suspect (x := x) (o := x + 146) h hfs)
  refine r_ald C lwd_1548 (k := 1) rfl rfl ?_
  refine x_ld C hX hbl hbA hN (k := 1) (kz := 1) (i := i) rfl (by decide +kernel : ldOk cL_law 1549 1 = true) rfl rfl (by omega) ?_
  refine r_ald C lwd_1555 (k := 3) rfl rfl ?_
  refine x_callh C hNx (av := [.ref x, .int (xs (i + 1)), .ref (x + 146)]) (st := []) lk_c25 hh rfl (Nat.le_of_ble_eq_true rfl) (by omega) (by omega) lwd_1556 (fun z => ?_)
  obtain ⟨S', M', v, R', hu, hm, h0, hv⟩ := hz z
  rw [hu]
  refine r_ist C lwd_1559 (k := 6) (by decide) rfl ?_
  refine r_ald C lwd_1561 (k := 2) rfl rfl ?_
  refine x_ld C hX hbl hbA hN (k := 1) (kz := 1) (i := i) rfl (by decide +kernel : ldOk cL_law 1562 1 = true) rfl rfl (by omega) ?_
  refine x_callx C (kd := 1) (idx := 183) (n := 2) (ci := 10) (M := rX11_suspect.1) (av := [.ref (x + 135), .int (xs (i + 1))]) (st := []) lk_m25 (lw_mod (S := S') (f := f') (g := g) (hSem 41 kX11_suspect rX11_suspect.1 rfl) hm) rfl xsg_s (fun _ => ⟨x + 135, _, rfl, wL_y⟩) (Nat.le_of_ble_eq_true rfl) (by omega) (by omega) lwd_1568 ?_
  refine r_ist C lwd_1571 (k := 7) (by decide) rfl ?_
  refine r_ald C lwd_1573 (k := 2) rfl rfl ?_
  refine x_callx C (kd := 1) (idx := 98) (n := 1) (ci := 10) (M := rX11_thrown.1) (av := [.ref (x + 135)]) (st := []) lk_t (lw_mod (S := S') (f := f') (g := g) (hSem 41 kX11_thrown rX11_thrown.1 rfl) g_thrown) rfl xsg_s (fun _ => ⟨x + 135, _, rfl, wL_y⟩) (Nat.le_of_ble_eq_true rfl) (by omega) (by omega) lwd_1574 ?_
  rw [h0]
  refine r_ild C lwd_1577 (k := 6) rfl ?_
  refine r_cmpeq C lwd_1579 (t := 1584) (by decide) ?_
  refine r_ild C lwd_1584 (k := 6) rfl ?_
  refine r_ifne C lwd_1586 (t := 1601) (by decide) (fun _ => ?_) (fun h => ?_)
  · refine r_goto C lwd_1601 (t := 1631) (by decide) ?_
    exact xTg_sub (fun q hq => List.mem_cons_of_mem _ (List.mem_cons_of_mem _ hq)) (kk S' M' f' g z _ _ (RR_mo R' (by omega)) (by omega) (by omega))
  · have hv1 := hv (nI_n0 hr4 h)
    refine r_ald C lwd_1589 (k := 3) rfl rfl ?_
    refine r_ic C lwd_1590 (v := nI 0) rfl ?_
    refine r_lald C lwd_1591 wL_o ?_
    rw [hv1]
    refine r_ild C lwd_1592 (k := 7) rfl ?_
    refine r_i2l C lwd_1594 ?_
    refine r_lcmp C lwd_1595 ?_
    refine r_ifeq C lwd_1596 (t := 1601) (by decide) (fun _ => ?_) (fun h2 => absurd rfl h2)
    refine r_goto C lwd_1601 (t := 1631) (by decide) ?_
    exact xTg_sub (fun q hq => List.mem_cons_of_mem _ (List.mem_cons_of_mem _ hq)) (kk S' M' f' g z _ _ (RR_mo R' (by omega)) (by omega) (by omega))
theorem lw_case_26 (C : xCx p l s m args meth c xlds xexs G E A 41 call Mt RL ini cL_law 10 ret PO) (hNx : xNx s) (hX : va_X b N xs s s.heap) (hbl : b < s.heap.size) (hbA : ¬ A b) (hN : N ≤ 3072) (hSem : ∀ (d key : Nat) (M : xMth), (xT key).map (fun r => r.1) = some M → xMet xlds xexs l G E d M (xsem xT E d key)) (hc : hC sh) (hsh : ∀ j, 135 ≤ j → sh j = none) (HE : hEn E x) (HE2 : hEn E (x + 135)) (R : RR S M Bd) (hB : Bd < 2 ^ 31) (hi : i + 6 ≤ N) (hbc : bc + 8 ≤ MC) (hbs : bs + 80 ≤ MS) (kk : lwK p l e s m args below meth c MC MS Q G E A b x i sh Bd bc bs) : xTg p l e s m args below meth c 41 MC MS Q G A 10 1604 (lL b x i) [] (lwW E x sh S M f g, n) bc bs := by
  refine lw_n (fun hn => ?_)
  obtain ⟨fs, hfs⟩ := wL_x (E := E) (x := x) (S := S) (M := M) (f := f) (g := g) hc.1
  have eC1 : rX10_undo.1.2.2.2.2.1 = 0 := rfl
  have eC2 : rX10_undo.1.2.2.2.2.2 = 0 := rfl
  have eM1 : rX11_undo.1.2.2.2.2.1 = 0 := rfl
  have eM2 : rX11_undo.1.2.2.2.2.2 = 0 := rfl
  have et1 : rX11_thrown.1.2.2.2.2.1 = 0 := rfl
  have et2 : rX11_thrown.1.2.2.2.2.2 = 0 := rfl
  obtain ⟨v, S', M', n', hv, R', hMc, hm⟩ := lw_cN (S := S) (M := M) (f := f) (g := g) hsh hn (fun m => T_undo (n := n) (m := m) hc R 40 40) (hSem 41 kX10_undo rX10_undo.1 rfl) rfl
  obtain ⟨v, rfl⟩ := vtag_0 hv
  refine r_ald C lwd_1604 (k := 1) rfl rfl ?_
  refine x_callx C (kd := 1) (idx := 184) (n := 1) (ci := 9) (M := rX10_undo.1) (av := [.ref x]) (st := []) lk_c26 hMc rfl xsg_s (fun _ => ⟨x, _, rfl, fs, hfs⟩) (Nat.le_of_ble_eq_true rfl) (by omega) (by omega) lwd_1605 ?_
  refine r_ald C lwd_1608 (k := 2) rfl rfl ?_
  refine x_callx C (kd := 1) (idx := 187) (n := 1) (ci := 10) (M := rX11_undo.1) (av := [.ref (x + 135)]) (st := [.int v]) lk_m26 (lw_mod (S := S') (f := f) (g := g) (hSem 41 kX11_undo rX11_undo.1 rfl) hm) rfl xsg_s (fun _ => ⟨x + 135, _, rfl, wL_y⟩) (Nat.le_of_ble_eq_true rfl) (by omega) (by omega) lwd_1609 ?_
  refine r_cmpeq C lwd_1612 (t := 1631) (by decide) ?_
  exact xTg_sub (fun q hq => hq) (kk S' M' f g n' _ _ (RR_mo R' (by omega)) (by omega) (by omega))
theorem lw_case_27 (C : xCx p l s m args meth c xlds xexs G E A 41 call Mt RL ini cL_law 10 ret PO) (hNx : xNx s) (hX : va_X b N xs s s.heap) (hbl : b < s.heap.size) (hbA : ¬ A b) (hN : N ≤ 3072) (hSem : ∀ (d key : Nat) (M : xMth), (xT key).map (fun r => r.1) = some M → xMet xlds xexs l G E d M (xsem xT E d key)) (hc : hC sh) (hsh : ∀ j, 135 ≤ j → sh j = none) (HE : hEn E x) (HE2 : hEn E (x + 135)) (R : RR S M Bd) (hB : Bd < 2 ^ 31) (hi : i + 6 ≤ N) (hbc : bc + 8 ≤ MC) (hbs : bs + 80 ≤ MS) (kk : lwK p l e s m args below meth c MC MS Q G E A b x i sh Bd bc bs) : xTg p l e s m args below meth c 41 MC MS Q G A 10 1617 (lL b x i) [] (lwW E x sh S M f g, n) bc bs := by
  refine lw_n (fun hn => ?_)
  obtain ⟨fs, hfs⟩ := wL_x (E := E) (x := x) (S := S) (M := M) (f := f) (g := g) hc.1
  have eC1 : rX10_checksum.1.2.2.2.2.1 = 0 := rfl
  have eC2 : rX10_checksum.1.2.2.2.2.2 = 0 := rfl
  have eM1 : rX11_checksum.1.2.2.2.2.1 = 0 := rfl
  have eM2 : rX11_checksum.1.2.2.2.2.2 = 0 := rfl
  have et1 : rX11_thrown.1.2.2.2.2.1 = 0 := rfl
  have et2 : rX11_thrown.1.2.2.2.2.2 = 0 := rfl
  obtain ⟨v, S', M', n', hv, R', hMc, hm⟩ := lw_cN (S := S) (M := M) (f := f) (g := g) hsh hn (fun m => T_checksum (n := n) (m := m) hc R 37 36) (hSem 41 kX10_checksum rX10_checksum.1 rfl) rfl
  obtain ⟨v, rfl⟩ := vtag_1 hv
  refine r_ald C lwd_1617 (k := 1) rfl rfl ?_
  refine x_callx C (kd := 1) (idx := 188) (n := 1) (ci := 9) (M := rX10_checksum.1) (av := [.ref x]) (st := []) lk_c27 hMc rfl xsg_s (fun _ => ⟨x, _, rfl, fs, hfs⟩) (Nat.le_of_ble_eq_true rfl) (by omega) (by omega) lwd_1618 ?_
  refine r_ald C lwd_1621 (k := 2) rfl rfl ?_
  refine x_callx C (kd := 1) (idx := 192) (n := 1) (ci := 10) (M := rX11_checksum.1) (av := [.ref (x + 135)]) (st := [.long v]) lk_m27 (lw_mod (S := S') (f := f) (g := g) (hSem 41 kX11_checksum rX11_checksum.1 rfl) hm) rfl xsg_s (fun _ => ⟨x + 135, _, rfl, wL_y⟩) (Nat.le_of_ble_eq_true rfl) (by omega) (by omega) lwd_1622 ?_
  refine r_lcmp C lwd_1625 ?_
  refine r_ifeq C lwd_1626 (t := 1631) (by decide) (fun _ => ?_) (fun h => absurd rfl h)
  exact xTg_sub (fun q hq => hq) (kk S' M' f g n' _ _ (RR_mo R' (by omega)) (by omega) (by omega))
end CASES
