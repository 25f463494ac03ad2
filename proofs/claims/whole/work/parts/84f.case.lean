/-! THE LAW'S CASES; written by wip/whole/genlw.py. -/
theorem lk_c20 : hokC RL 165 3 yL_plant cL_plant 4 [(0, 9, 12, 25), (0, 9, 15, 60)] = true := by decide +kernel
theorem lk_m20 : xokC RL 1 167 2 10 rX11_plant.1 = true := by decide +kernel
theorem lwd_1202 : decode cL_law 1202 = .ok (.aload_n 1, 1) := by decide +kernel
theorem lwd_1209 : decode cL_law 1209 = .ok (.aload_n 3, 1) := by decide +kernel
theorem lwd_1210 : decode cL_law 1210 = .ok (.invokestatic 165, 3) := by decide +kernel
theorem lwd_1213 : decode cL_law 1213 = .ok (.istore 6, 2) := by decide +kernel
theorem lwd_1215 : decode cL_law 1215 = .ok (.aload_n 2, 1) := by decide +kernel
theorem lwd_1222 : decode cL_law 1222 = .ok (.invokevirtual 167, 3) := by decide +kernel
theorem lwd_1225 : decode cL_law 1225 = .ok (.istore 7, 2) := by decide +kernel
theorem lwd_1227 : decode cL_law 1227 = .ok (.aload_n 2, 1) := by decide +kernel
theorem lwd_1228 : decode cL_law 1228 = .ok (.invokevirtual 98, 3) := by decide +kernel
theorem lwd_1231 : decode cL_law 1231 = .ok (.iload 6, 2) := by decide +kernel
theorem lwd_1233 : decode cL_law 1233 = .ok (.if_icmp .eq 5, 3) := by decide +kernel
theorem lwd_1238 : decode cL_law 1238 = .ok (.iload 6, 2) := by decide +kernel
theorem lwd_1240 : decode cL_law 1240 = .ok (.ifCond .ne 15, 3) := by decide +kernel
theorem lwd_1255 : decode cL_law 1255 = .ok (.goto 376, 3) := by decide +kernel
theorem lwd_1243 : decode cL_law 1243 = .ok (.aload_n 3, 1) := by decide +kernel
theorem lwd_1244 : decode cL_law 1244 = .ok (.iconst 0, 1) := by decide +kernel
theorem lwd_1245 : decode cL_law 1245 = .ok (.laload, 1) := by decide +kernel
theorem lwd_1246 : decode cL_law 1246 = .ok (.iload 7, 2) := by decide +kernel
theorem lwd_1248 : decode cL_law 1248 = .ok (.i2l, 1) := by decide +kernel
theorem lwd_1249 : decode cL_law 1249 = .ok (.lcmp, 1) := by decide +kernel
theorem lwd_1250 : decode cL_law 1250 = .ok (.ifCond .eq 5, 3) := by decide +kernel
theorem lk_c21 : hokC RL 168 3 yL_peek cL_peek 4 [(0, 16, 19, 25)] = true := by decide +kernel
theorem lk_m21 : xokC RL 1 170 2 10 rX11_peek.1 = true := by decide +kernel
theorem lwd_1258 : decode cL_law 1258 = .ok (.aload_n 1, 1) := by decide +kernel
theorem lwd_1265 : decode cL_law 1265 = .ok (.aload_n 3, 1) := by decide +kernel
theorem lwd_1266 : decode cL_law 1266 = .ok (.invokestatic 168, 3) := by decide +kernel
theorem lwd_1269 : decode cL_law 1269 = .ok (.istore 6, 2) := by decide +kernel
theorem lwd_1271 : decode cL_law 1271 = .ok (.aload_n 2, 1) := by decide +kernel
theorem lwd_1278 : decode cL_law 1278 = .ok (.invokevirtual 170, 3) := by decide +kernel
theorem lwd_1281 : decode cL_law 1281 = .ok (.istore 7, 2) := by decide +kernel
theorem lwd_1283 : decode cL_law 1283 = .ok (.aload_n 2, 1) := by decide +kernel
theorem lwd_1284 : decode cL_law 1284 = .ok (.invokevirtual 98, 3) := by decide +kernel
theorem lwd_1287 : decode cL_law 1287 = .ok (.iload 6, 2) := by decide +kernel
theorem lwd_1289 : decode cL_law 1289 = .ok (.if_icmp .eq 5, 3) := by decide +kernel
theorem lwd_1294 : decode cL_law 1294 = .ok (.iload 6, 2) := by decide +kernel
theorem lwd_1296 : decode cL_law 1296 = .ok (.ifCond .ne 22, 3) := by decide +kernel
theorem lwd_1318 : decode cL_law 1318 = .ok (.goto 313, 3) := by decide +kernel
theorem lwd_1299 : decode cL_law 1299 = .ok (.aload_n 3, 1) := by decide +kernel
theorem lwd_1300 : decode cL_law 1300 = .ok (.iconst 0, 1) := by decide +kernel
theorem lwd_1301 : decode cL_law 1301 = .ok (.laload, 1) := by decide +kernel
theorem lwd_1302 : decode cL_law 1302 = .ok (.iload 7, 2) := by decide +kernel
theorem lwd_1304 : decode cL_law 1304 = .ok (.ifCond .eq 7, 3) := by decide +kernel
theorem lwd_1311 : decode cL_law 1311 = .ok (.lconst 0, 1) := by decide +kernel
theorem lwd_1312 : decode cL_law 1312 = .ok (.lcmp, 1) := by decide +kernel
theorem lwd_1313 : decode cL_law 1313 = .ok (.ifCond .eq 5, 3) := by decide +kernel
theorem lwd_1307 : decode cL_law 1307 = .ok (.lconst 1, 1) := by decide +kernel
theorem lwd_1308 : decode cL_law 1308 = .ok (.goto 4, 3) := by decide +kernel
theorem lk_c22 : hokC RL 171 4 yL_bet cL_bet 5 [(0, 10, 13, 25), (0, 10, 17, 13), (0, 10, 21, 60)] = true := by decide +kernel
theorem lk_m22 : xokC RL 1 173 3 10 rX11_bet.1 = true := by decide +kernel
theorem lwd_1321 : decode cL_law 1321 = .ok (.aload_n 1, 1) := by decide +kernel
theorem lwd_1334 : decode cL_law 1334 = .ok (.aload_n 3, 1) := by decide +kernel
theorem lwd_1335 : decode cL_law 1335 = .ok (.invokestatic 171, 3) := by decide +kernel
theorem lwd_1338 : decode cL_law 1338 = .ok (.istore 6, 2) := by decide +kernel
theorem lwd_1340 : decode cL_law 1340 = .ok (.aload_n 2, 1) := by decide +kernel
theorem lwd_1353 : decode cL_law 1353 = .ok (.invokevirtual 173, 3) := by decide +kernel
theorem lwd_1356 : decode cL_law 1356 = .ok (.istore 7, 2) := by decide +kernel
theorem lwd_1358 : decode cL_law 1358 = .ok (.aload_n 2, 1) := by decide +kernel
theorem lwd_1359 : decode cL_law 1359 = .ok (.invokevirtual 98, 3) := by decide +kernel
theorem lwd_1362 : decode cL_law 1362 = .ok (.iload 6, 2) := by decide +kernel
theorem lwd_1364 : decode cL_law 1364 = .ok (.if_icmp .eq 5, 3) := by decide +kernel
theorem lwd_1369 : decode cL_law 1369 = .ok (.iload 6, 2) := by decide +kernel
theorem lwd_1371 : decode cL_law 1371 = .ok (.ifCond .ne 15, 3) := by decide +kernel
theorem lwd_1386 : decode cL_law 1386 = .ok (.goto 245, 3) := by decide +kernel
theorem lwd_1374 : decode cL_law 1374 = .ok (.aload_n 3, 1) := by decide +kernel
theorem lwd_1375 : decode cL_law 1375 = .ok (.iconst 0, 1) := by decide +kernel
theorem lwd_1376 : decode cL_law 1376 = .ok (.laload, 1) := by decide +kernel
theorem lwd_1377 : decode cL_law 1377 = .ok (.iload 7, 2) := by decide +kernel
theorem lwd_1379 : decode cL_law 1379 = .ok (.i2l, 1) := by decide +kernel
theorem lwd_1380 : decode cL_law 1380 = .ok (.lcmp, 1) := by decide +kernel
theorem lwd_1381 : decode cL_law 1381 = .ok (.ifCond .eq 5, 3) := by decide +kernel
theorem lk_c23 : hokC RL 174 4 yL_scratch cL_scratch 5 [(0, 17, 20, 25)] = true := by decide +kernel
theorem lk_m23 : xokC RL 1 177 3 10 rX11_scratch.1 = true := by decide +kernel
theorem lwd_1389 : decode cL_law 1389 = .ok (.aload_n 1, 1) := by decide +kernel
theorem lwd_1402 : decode cL_law 1402 = .ok (.ifCond .eq 7, 3) := by decide +kernel
theorem lwd_1409 : decode cL_law 1409 = .ok (.iconst 0, 1) := by decide +kernel
theorem lwd_1410 : decode cL_law 1410 = .ok (.aload_n 3, 1) := by decide +kernel
theorem lwd_1411 : decode cL_law 1411 = .ok (.invokestatic 174, 3) := by decide +kernel
theorem lwd_1414 : decode cL_law 1414 = .ok (.istore 6, 2) := by decide +kernel
theorem lwd_1416 : decode cL_law 1416 = .ok (.aload_n 2, 1) := by decide +kernel
theorem lwd_1429 : decode cL_law 1429 = .ok (.ifCond .eq 7, 3) := by decide +kernel
theorem lwd_1436 : decode cL_law 1436 = .ok (.iconst 0, 1) := by decide +kernel
theorem lwd_1437 : decode cL_law 1437 = .ok (.invokevirtual 177, 3) := by decide +kernel
theorem lwd_1440 : decode cL_law 1440 = .ok (.istore 7, 2) := by decide +kernel
theorem lwd_1442 : decode cL_law 1442 = .ok (.aload_n 2, 1) := by decide +kernel
theorem lwd_1443 : decode cL_law 1443 = .ok (.invokevirtual 98, 3) := by decide +kernel
theorem lwd_1446 : decode cL_law 1446 = .ok (.iload 6, 2) := by decide +kernel
theorem lwd_1448 : decode cL_law 1448 = .ok (.if_icmp .eq 5, 3) := by decide +kernel
theorem lwd_1453 : decode cL_law 1453 = .ok (.iload 6, 2) := by decide +kernel
theorem lwd_1455 : decode cL_law 1455 = .ok (.ifCond .ne 22, 3) := by decide +kernel
theorem lwd_1477 : decode cL_law 1477 = .ok (.goto 154, 3) := by decide +kernel
theorem lwd_1458 : decode cL_law 1458 = .ok (.aload_n 3, 1) := by decide +kernel
theorem lwd_1459 : decode cL_law 1459 = .ok (.iconst 0, 1) := by decide +kernel
theorem lwd_1460 : decode cL_law 1460 = .ok (.laload, 1) := by decide +kernel
theorem lwd_1461 : decode cL_law 1461 = .ok (.iload 7, 2) := by decide +kernel
theorem lwd_1463 : decode cL_law 1463 = .ok (.ifCond .eq 7, 3) := by decide +kernel
theorem lwd_1470 : decode cL_law 1470 = .ok (.lconst 0, 1) := by decide +kernel
theorem lwd_1471 : decode cL_law 1471 = .ok (.lcmp, 1) := by decide +kernel
theorem lwd_1472 : decode cL_law 1472 = .ok (.ifCond .eq 5, 3) := by decide +kernel
theorem lwd_1466 : decode cL_law 1466 = .ok (.lconst 1, 1) := by decide +kernel
theorem lwd_1467 : decode cL_law 1467 = .ok (.goto 4, 3) := by decide +kernel
theorem lwd_1405 : decode cL_law 1405 = .ok (.iconst 1, 1) := by decide +kernel
theorem lwd_1406 : decode cL_law 1406 = .ok (.goto 4, 3) := by decide +kernel
theorem lwd_1432 : decode cL_law 1432 = .ok (.iconst 1, 1) := by decide +kernel
theorem lwd_1433 : decode cL_law 1433 = .ok (.goto 4, 3) := by decide +kernel
section CASES
variable {p : Program} {l : Launch} {e : Env} {s : State} {m : MethodId} {args : Array Value} {below : List Frame} {meth : Method} {c : Code}
variable {G : xG} {E : xEn} {A : Nat → Prop} {MC MS : Nat} {call : Nat → List Value → xH → Option xR} {Mt : Nat → Option xMth} {ini : Bool} {ret : Option FieldType} {PO : xPool} {Q : State → Prop}
variable {b N x i n bc bs Bd : Nat} {xs : Nat → Int32} {sh : Nat → Option xSh} {S M : xSt} {f : Nat → Int64} {g : Nat → UInt64}
theorem lw_case_20 (C : xCx p l s m args meth c xlds xexs G E A 41 call Mt RL ini cL_law 10 ret PO) (hNx : xNx s) (hX : va_X b N xs s s.heap) (hbl : b < s.heap.size) (hbA : ¬ A b) (hN : N ≤ 3072) (hSem : ∀ (d key : Nat) (M : xMth), (xT key).map (fun r => r.1) = some M → xMet xlds xexs l G E d M (xsem xT E d key)) (hc : hC sh) (hsh : ∀ j, 135 ≤ j → sh j = none) (HE : hEn E x) (HE2 : hEn E (x + 135)) (R : RR S M Bd) (hB : Bd < 2 ^ 31) (hi : i + 6 ≤ N) (hbc : bc + 8 ≤ MC) (hbs : bs + 80 ≤ MS) (kk : lwK p l e s m args below meth c MC MS Q G E A b x i sh Bd bc bs) : xTg p l e s m args below meth c 41 MC MS Q G A 10 1202 (lL b x i) [] (lwW E x sh S M f g, n) bc bs := by
  refine lw_n (fun hn => ?_)
  obtain ⟨fs, hfs⟩ := wL_x (E := E) (x := x) (S := S) (M := M) (f := f) (g := g) hc.1
  have eC1 : rX10_plant.1.2.2.2.2.1 = 2 := rfl
  have eC2 : rX10_plant.1.2.2.2.2.2 = 12 := rfl
  have eM1 : rX11_plant.1.2.2.2.2.1 = 0 := rfl
  have eM2 : rX11_plant.1.2.2.2.2.2 = 0 := rfl
  have et1 : rX11_thrown.1.2.2.2.2.1 = 0 := rfl
  have et2 : rX11_thrown.1.2.2.2.2.2 = 0 := rfl
  obtain ⟨u, r, f', hr4, hh, hz⟩ := lw_cI (S := S) (M := M) (f := f) (g := g) Int32.toInt64 (by decide) hsh hn (fun m => T_plant (n := n) (m := m) hc R (xs (i + 1)) 32 34) (hSem 40 kX10_plant rX10_plant.1 rfl) rfl (fun f0 h => hl_plant (x := x) (o := x + 146) h hfs)
  refine r_ald C lwd_1202 (k := 1) rfl rfl ?_
  refine x_ld C hX hbl hbA hN (k := 1) (kz := 1) (i := i) rfl (by decide +kernel : ldOk cL_law 1203 1 = true) rfl rfl (by omega) ?_
  refine r_ald C lwd_1209 (k := 3) rfl rfl ?_
  refine x_callh C hNx (av := [.ref x, .int (xs (i + 1)), .ref (x + 146)]) (st := []) lk_c20 hh rfl (Nat.le_of_ble_eq_true rfl) (by omega) (by omega) lwd_1210 (fun z => ?_)
  obtain ⟨S', M', v, R', hu, hm, h0, hv⟩ := hz z
  rw [hu]
  refine r_ist C lwd_1213 (k := 6) (by decide) rfl ?_
  refine r_ald C lwd_1215 (k := 2) rfl rfl ?_
  refine x_ld C hX hbl hbA hN (k := 1) (kz := 1) (i := i) rfl (by decide +kernel : ldOk cL_law 1216 1 = true) rfl rfl (by omega) ?_
  refine x_callx C (kd := 1) (idx := 167) (n := 2) (ci := 10) (M := rX11_plant.1) (av := [.ref (x + 135), .int (xs (i + 1))]) (st := []) lk_m20 (lw_mod (S := S') (f := f') (g := g) (hSem 41 kX11_plant rX11_plant.1 rfl) hm) rfl xsg_s (fun _ => ⟨x + 135, _, rfl, wL_y⟩) (Nat.le_of_ble_eq_true rfl) (by omega) (by omega) lwd_1222 ?_
  refine r_ist C lwd_1225 (k := 7) (by decide) rfl ?_
  refine r_ald C lwd_1227 (k := 2) rfl rfl ?_
  refine x_callx C (kd := 1) (idx := 98) (n := 1) (ci := 10) (M := rX11_thrown.1) (av := [.ref (x + 135)]) (st := []) lk_t (lw_mod (S := S') (f := f') (g := g) (hSem 41 kX11_thrown rX11_thrown.1 rfl) g_thrown) rfl xsg_s (fun _ => ⟨x + 135, _, rfl, wL_y⟩) (Nat.le_of_ble_eq_true rfl) (by omega) (by omega) lwd_1228 ?_
  rw [h0]
  refine r_ild C lwd_1231 (k := 6) rfl ?_
  refine r_cmpeq C lwd_1233 (t := 1238) (by decide) ?_
  refine r_ild C lwd_1238 (k := 6) rfl ?_
  refine r_ifne C lwd_1240 (t := 1255) (by decide) (fun _ => ?_) (fun h => ?_)
  · refine r_goto C lwd_1255 (t := 1631) (by decide) ?_
    exact xTg_sub (fun q hq => List.mem_cons_of_mem _ (List.mem_cons_of_mem _ hq)) (kk S' M' f' g z _ _ (RR_mo R' (by omega)) (by omega) (by omega))
  · have hv1 := hv (nI_n0 hr4 h)
    refine r_ald C lwd_1243 (k := 3) rfl rfl ?_
    refine r_ic C lwd_1244 (v := nI 0) rfl ?_
    refine r_lald C lwd_1245 wL_o ?_
    rw [hv1]
    refine r_ild C lwd_1246 (k := 7) rfl ?_
    refine r_i2l C lwd_1248 ?_
    refine r_lcmp C lwd_1249 ?_
    refine r_ifeq C lwd_1250 (t := 1255) (by decide) (fun _ => ?_) (fun h2 => absurd rfl h2)
    refine r_goto C lwd_1255 (t := 1631) (by decide) ?_
    exact xTg_sub (fun q hq => List.mem_cons_of_mem _ (List.mem_cons_of_mem _ hq)) (kk S' M' f' g z _ _ (RR_mo R' (by omega)) (by omega) (by omega))
theorem lw_case_21 (C : xCx p l s m args meth c xlds xexs G E A 41 call Mt RL ini cL_law 10 ret PO) (hNx : xNx s) (hX : va_X b N xs s s.heap) (hbl : b < s.heap.size) (hbA : ¬ A b) (hN : N ≤ 3072) (hSem : ∀ (d key : Nat) (M : xMth), (xT key).map (fun r => r.1) = some M → xMet xlds xexs l G E d M (xsem xT E d key)) (hc : hC sh) (hsh : ∀ j, 135 ≤ j → sh j = none) (HE : hEn E x) (HE2 : hEn E (x + 135)) (R : RR S M Bd) (hB : Bd < 2 ^ 31) (hi : i + 6 ≤ N) (hbc : bc + 8 ≤ MC) (hbs : bs + 80 ≤ MS) (kk : lwK p l e s m args below meth c MC MS Q G E A b x i sh Bd bc bs) : xTg p l e s m args below meth c 41 MC MS Q G A 10 1258 (lL b x i) [] (lwW E x sh S M f g, n) bc bs := by
  refine lw_n (fun hn => ?_)
  obtain ⟨fs, hfs⟩ := wL_x (E := E) (x := x) (S := S) (M := M) (f := f) (g := g) hc.1
  have eC1 : rX10_peek.1.2.2.2.2.1 = 1 := rfl
  have eC2 : rX10_peek.1.2.2.2.2.2 = 6 := rfl
  have eM1 : rX11_peek.1.2.2.2.2.1 = 0 := rfl
  have eM2 : rX11_peek.1.2.2.2.2.2 = 0 := rfl
  have et1 : rX11_thrown.1.2.2.2.2.1 = 0 := rfl
  have et2 : rX11_thrown.1.2.2.2.2.2 = 0 := rfl
  obtain ⟨u, r, f', hr4, hh, hz⟩ := lw_cI (S := S) (M := M) (f := f) (g := g) (fun v => if v = 0 then 0 else 1) (by decide) hsh hn (fun m => T_peek (n := n) (m := m) hc R (xs (i + 1)) 35 36) (hSem 40 kX10_peek rX10_peek.1 rfl) rfl (fun f0 h => hl_peek (x := x) (o := x + 146) h hfs)
  refine r_ald C lwd_1258 (k := 1) rfl rfl ?_
  refine x_ld C hX hbl hbA hN (k := 1) (kz := 1) (i := i) rfl (by decide +kernel : ldOk cL_law 1259 1 = true) rfl rfl (by omega) ?_
  refine r_ald C lwd_1265 (k := 3) rfl rfl ?_
  refine x_callh C hNx (av := [.ref x, .int (xs (i + 1)), .ref (x + 146)]) (st := []) lk_c21 hh rfl (Nat.le_of_ble_eq_true rfl) (by omega) (by omega) lwd_1266 (fun z => ?_)
  obtain ⟨S', M', v, R', hu, hm, h0, hv⟩ := hz z
  rw [hu]
  refine r_ist C lwd_1269 (k := 6) (by decide) rfl ?_
  refine r_ald C lwd_1271 (k := 2) rfl rfl ?_
  refine x_ld C hX hbl hbA hN (k := 1) (kz := 1) (i := i) rfl (by decide +kernel : ldOk cL_law 1272 1 = true) rfl rfl (by omega) ?_
  refine x_callx C (kd := 1) (idx := 170) (n := 2) (ci := 10) (M := rX11_peek.1) (av := [.ref (x + 135), .int (xs (i + 1))]) (st := []) lk_m21 (lw_mod (S := S') (f := f') (g := g) (hSem 41 kX11_peek rX11_peek.1 rfl) hm) rfl xsg_s (fun _ => ⟨x + 135, _, rfl, wL_y⟩) (Nat.le_of_ble_eq_true rfl) (by omega) (by omega) lwd_1278 ?_
  refine r_ist C lwd_1281 (k := 7) (by decide) rfl ?_
  refine r_ald C lwd_1283 (k := 2) rfl rfl ?_
  refine x_callx C (kd := 1) (idx := 98) (n := 1) (ci := 10) (M := rX11_thrown.1) (av := [.ref (x + 135)]) (st := []) lk_t (lw_mod (S := S') (f := f') (g := g) (hSem 41 kX11_thrown rX11_thrown.1 rfl) g_thrown) rfl xsg_s (fun _ => ⟨x + 135, _, rfl, wL_y⟩) (Nat.le_of_ble_eq_true rfl) (by omega) (by omega) lwd_1284 ?_
  rw [h0]
  refine r_ild C lwd_1287 (k := 6) rfl ?_
  refine r_cmpeq C lwd_1289 (t := 1294) (by decide) ?_
  refine r_ild C lwd_1294 (k := 6) rfl ?_
  refine r_ifne C lwd_1296 (t := 1318) (by decide) (fun _ => ?_) (fun h => ?_)
  · refine r_goto C lwd_1318 (t := 1631) (by decide) ?_
    exact xTg_sub (fun q hq => List.mem_cons_of_mem _ (List.mem_cons_of_mem _ hq)) (kk S' M' f' g z _ _ (RR_mo R' (by omega)) (by omega) (by omega))
  · have hv1 := hv (nI_n0 hr4 h)
    refine r_ald C lwd_1299 (k := 3) rfl rfl ?_
    refine r_ic C lwd_1300 (v := nI 0) rfl ?_
    refine r_lald C lwd_1301 wL_o ?_
    rw [hv1]
    refine r_ild C lwd_1302 (k := 7) rfl ?_
    refine r_ifeq C lwd_1304 (t := 1311) (by decide) (fun h3 => ?_) (fun h3 => ?_)
    · refine r_lc C lwd_1311 (v := 0) rfl ?_
      rw [if_pos h3]
      refine r_lcmp C lwd_1312 ?_
      refine r_ifeq C lwd_1313 (t := 1318) (by decide) (fun _ => ?_) (fun h2 => absurd rfl h2)
      refine r_goto C lwd_1318 (t := 1631) (by decide) ?_
      exact xTg_sub (fun q hq => List.mem_cons_of_mem _ (List.mem_cons_of_mem _ hq)) (kk S' M' f' g z _ _ (RR_mo R' (by omega)) (by omega) (by omega))
    · refine r_lc C lwd_1307 (v := 1) rfl ?_
      rw [if_neg h3]
      refine r_goto C lwd_1308 (t := 1312) (by decide) ?_
      refine r_lcmp C lwd_1312 ?_
      refine r_ifeq C lwd_1313 (t := 1318) (by decide) (fun _ => ?_) (fun h2 => absurd rfl h2)
      refine r_goto C lwd_1318 (t := 1631) (by decide) ?_
      exact xTg_sub (fun q hq => List.mem_cons_of_mem _ (List.mem_cons_of_mem _ hq)) (kk S' M' f' g z _ _ (RR_mo R' (by omega)) (by omega) (by omega))
theorem lw_case_22 (C : xCx p l s m args meth c xlds xexs G E A 41 call Mt RL ini cL_law 10 ret PO) (hNx : xNx s) (hX : va_X b N xs s s.heap) (hbl : b < s.heap.size) (hbA : ¬ A b) (hN : N ≤ 3072) (hSem : ∀ (d key : Nat) (M : xMth), (xT key).map (fun r => r.1) = some M → xMet xlds xexs l G E d M (xsem xT E d key)) (hc : hC sh) (hsh : ∀ j, 135 ≤ j → sh j = none) (HE : hEn E x) (HE2 : hEn E (x + 135)) (R : RR S M Bd) (hB : Bd < 2 ^ 31) (hi : i + 6 ≤ N) (hbc : bc + 8 ≤ MC) (hbs : bs + 80 ≤ MS) (kk : lwK p l e s m args below meth c MC MS Q G E A b x i sh Bd bc bs) : xTg p l e s m args below meth c 41 MC MS Q G A 10 1321 (lL b x i) [] (lwW E x sh S M f g, n) bc bs := by
  refine lw_n (fun hn => ?_)
  obtain ⟨fs, hfs⟩ := wL_x (E := E) (x := x) (S := S) (M := M) (f := f) (g := g) hc.1
  have eC1 : rX10_bet.1.2.2.2.2.1 = 2 := rfl
  have eC2 : rX10_bet.1.2.2.2.2.2 = 12 := rfl
  have eM1 : rX11_bet.1.2.2.2.2.1 = 0 := rfl
  have eM2 : rX11_bet.1.2.2.2.2.2 = 0 := rfl
  have et1 : rX11_thrown.1.2.2.2.2.1 = 0 := rfl
  have et2 : rX11_thrown.1.2.2.2.2.2 = 0 := rfl
  obtain ⟨u, r, f', hr4, hh, hz⟩ := lw_cI (S := S) (M := M) (f := f) (g := g) Int32.toInt64 (by decide) hsh hn (fun m => T_bet (n := n) (m := m) hc R hB (xs (i + 1)) (xs (i + 2)) 34 35) (hSem 40 kX10_bet rX10_bet.1 rfl) rfl (fun f0 h => hl_bet (x := x) (o := x + 146) h hfs)
  refine r_ald C lwd_1321 (k := 1) rfl rfl ?_
  refine x_ld C hX hbl hbA hN (k := 1) (kz := 1) (i := i) rfl (by decide +kernel : ldOk cL_law 1322 1 = true) rfl rfl (by omega) ?_
  refine x_ld C hX hbl hbA hN (k := 2) (kz := 2) (i := i) rfl (by decide +kernel : ldOk cL_law 1328 2 = true) rfl rfl (by omega) ?_
  refine r_ald C lwd_1334 (k := 3) rfl rfl ?_
  refine x_callh C hNx (av := [.ref x, .int (xs (i + 1)), .int (xs (i + 2)), .ref (x + 146)]) (st := []) lk_c22 hh rfl (Nat.le_of_ble_eq_true rfl) (by omega) (by omega) lwd_1335 (fun z => ?_)
  obtain ⟨S', M', v, R', hu, hm, h0, hv⟩ := hz z
  rw [hu]
  refine r_ist C lwd_1338 (k := 6) (by decide) rfl ?_
  refine r_ald C lwd_1340 (k := 2) rfl rfl ?_
  refine x_ld C hX hbl hbA hN (k := 1) (kz := 1) (i := i) rfl (by decide +kernel : ldOk cL_law 1341 1 = true) rfl rfl (by omega) ?_
  refine x_ld C hX hbl hbA hN (k := 2) (kz := 2) (i := i) rfl (by decide +kernel : ldOk cL_law 1347 2 = true) rfl rfl (by omega) ?_
  refine x_callx C (kd := 1) (idx := 173) (n := 3) (ci := 10) (M := rX11_bet.1) (av := [.ref (x + 135), .int (xs (i + 1)), .int (xs (i + 2))]) (st := []) lk_m22 (lw_mod (S := S') (f := f') (g := g) (hSem 41 kX11_bet rX11_bet.1 rfl) hm) rfl xsg_s (fun _ => ⟨x + 135, _, rfl, wL_y⟩) (Nat.le_of_ble_eq_true rfl) (by omega) (by omega) lwd_1353 ?_
  refine r_ist C lwd_1356 (k := 7) (by decide) rfl ?_
  refine r_ald C lwd_1358 (k := 2) rfl rfl ?_
  refine x_callx C (kd := 1) (idx := 98) (n := 1) (ci := 10) (M := rX11_thrown.1) (av := [.ref (x + 135)]) (st := []) lk_t (lw_mod (S := S') (f := f') (g := g) (hSem 41 kX11_thrown rX11_thrown.1 rfl) g_thrown) rfl xsg_s (fun _ => ⟨x + 135, _, rfl, wL_y⟩) (Nat.le_of_ble_eq_true rfl) (by omega) (by omega) lwd_1359 ?_
  rw [h0]
  refine r_ild C lwd_1362 (k := 6) rfl ?_
  refine r_cmpeq C lwd_1364 (t := 1369) (by decide) ?_
  refine r_ild C lwd_1369 (k := 6) rfl ?_
  refine r_ifne C lwd_1371 (t := 1386) (by decide) (fun _ => ?_) (fun h => ?_)
  · refine r_goto C lwd_1386 (t := 1631) (by decide) ?_
    exact xTg_sub (fun q hq => List.mem_cons_of_mem _ (List.mem_cons_of_mem _ hq)) (kk S' M' f' g z _ _ (RR_mo R' (by omega)) (by omega) (by omega))
  · have hv1 := hv (nI_n0 hr4 h)
    refine r_ald C lwd_1374 (k := 3) rfl rfl ?_
    refine r_ic C lwd_1375 (v := nI 0) rfl ?_
    refine r_lald C lwd_1376 wL_o ?_
    rw [hv1]
    refine r_ild C lwd_1377 (k := 7) rfl ?_
    refine r_i2l C lwd_1379 ?_
    refine r_lcmp C lwd_1380 ?_
    refine r_ifeq C lwd_1381 (t := 1386) (by decide) (fun _ => ?_) (fun h2 => absurd rfl h2)
    refine r_goto C lwd_1386 (t := 1631) (by decide) ?_
    exact xTg_sub (fun q hq => List.mem_cons_of_mem _ (List.mem_cons_of_mem _ hq)) (kk S' M' f' g z _ _ (RR_mo R' (by omega)) (by omega) (by omega))
theorem lw_case_23 (C : xCx p l s m args meth c xlds xexs G E A 41 call Mt RL ini cL_law 10 ret PO) (hNx : xNx s) (hX : va_X b N xs s s.heap) (hbl : b < s.heap.size) (hbA : ¬ A b) (hN : N ≤ 3072) (hSem : ∀ (d key : Nat) (M : xMth), (xT key).map (fun r => r.1) = some M → xMet xlds xexs l G E d M (xsem xT E d key)) (hc : hC sh) (hsh : ∀ j, 135 ≤ j → sh j = none) (HE : hEn E x) (HE2 : hEn E (x + 135)) (R : RR S M Bd) (hB : Bd < 2 ^ 31) (hi : i + 6 ≤ N) (hbc : bc + 8 ≤ MC) (hbs : bs + 80 ≤ MS) (kk : lwK p l e s m args below meth c MC MS Q G E A b x i sh Bd bc bs) : xTg p l e s m args below meth c 41 MC MS Q G A 10 1389 (lL b x i) [] (lwW E x sh S M f g, n) bc bs := by
  refine lw_n (fun hn => ?_)
  obtain ⟨fs, hfs⟩ := wL_x (E := E) (x := x) (S := S) (M := M) (f := f) (g := g) hc.1
  have eC1 : rX10_scratch.1.2.2.2.2.1 = 1 := rfl
  have eC2 : rX10_scratch.1.2.2.2.2.2 = 6 := rfl
  have eM1 : rX11_scratch.1.2.2.2.2.1 = 0 := rfl
  have eM2 : rX11_scratch.1.2.2.2.2.2 = 0 := rfl
  have et1 : rX11_thrown.1.2.2.2.2.1 = 0 := rfl
  have et2 : rX11_thrown.1.2.2.2.2.2 = 0 := rfl
  by_cases hs : xs (i + 2) = 0
  · obtain ⟨u, r, f', hr4, hh, hz⟩ := lw_cI (S := S) (M := M) (f := f) (g := g) (fun v => if v = 0 then 0 else 1) (by decide) hsh hn (fun m => T_scratch (n := n) (m := m) hc R (xs (i + 1)) false 36 37) (hSem 40 kX10_scratch rX10_scratch.1 rfl) rfl (fun f0 h => hl_scratch (x := x) (o := x + 146) h hfs)
    refine r_ald C lwd_1389 (k := 1) rfl rfl ?_
    refine x_ld C hX hbl hbA hN (k := 1) (kz := 1) (i := i) rfl (by decide +kernel : ldOk cL_law 1390 1 = true) rfl rfl (by omega) ?_
    refine x_ld C hX hbl hbA hN (k := 2) (kz := 2) (i := i) rfl (by decide +kernel : ldOk cL_law 1396 2 = true) rfl rfl (by omega) ?_
    refine r_ifeq C lwd_1402 (t := 1409) (by decide) (fun _ => ?_) (fun h => absurd hs h)
    refine r_ic C lwd_1409 (z := 0) (v := nI (false : Bool).toNat) rfl ?_
    refine r_ald C lwd_1410 (k := 3) rfl rfl ?_
    refine x_callh C hNx (av := [.ref x, .int (xs (i + 1)), .int (nI (false : Bool).toNat), .ref (x + 146)]) (st := []) lk_c23 hh rfl (Nat.le_of_ble_eq_true rfl) (by omega) (by omega) lwd_1411 (fun z => ?_)
    obtain ⟨S', M', v, R', hu, hm, h0, hv⟩ := hz z
    rw [hu]
    refine r_ist C lwd_1414 (k := 6) (by decide) rfl ?_
    refine r_ald C lwd_1416 (k := 2) rfl rfl ?_
    refine x_ld C hX hbl hbA hN (k := 1) (kz := 1) (i := i) rfl (by decide +kernel : ldOk cL_law 1417 1 = true) rfl rfl (by omega) ?_
    refine x_ld C hX hbl hbA hN (k := 2) (kz := 2) (i := i) rfl (by decide +kernel : ldOk cL_law 1423 2 = true) rfl rfl (by omega) ?_
    refine r_ifeq C lwd_1429 (t := 1436) (by decide) (fun _ => ?_) (fun h => absurd hs h)
    refine r_ic C lwd_1436 (z := 0) (v := nI (false : Bool).toNat) rfl ?_
    refine x_callx C (kd := 1) (idx := 177) (n := 3) (ci := 10) (M := rX11_scratch.1) (av := [.ref (x + 135), .int (xs (i + 1)), .int (nI (false : Bool).toNat)]) (st := []) lk_m23 (lw_mod (S := S') (f := f') (g := g) (hSem 41 kX11_scratch rX11_scratch.1 rfl) hm) rfl xsg_s (fun _ => ⟨x + 135, _, rfl, wL_y⟩) (Nat.le_of_ble_eq_true rfl) (by omega) (by omega) lwd_1437 ?_
    refine r_ist C lwd_1440 (k := 7) (by decide) rfl ?_
    refine r_ald C lwd_1442 (k := 2) rfl rfl ?_
    refine x_callx C (kd := 1) (idx := 98) (n := 1) (ci := 10) (M := rX11_thrown.1) (av := [.ref (x + 135)]) (st := []) lk_t (lw_mod (S := S') (f := f') (g := g) (hSem 41 kX11_thrown rX11_thrown.1 rfl) g_thrown) rfl xsg_s (fun _ => ⟨x + 135, _, rfl, wL_y⟩) (Nat.le_of_ble_eq_true rfl) (by omega) (by omega) lwd_1443 ?_
    rw [h0]
    refine r_ild C lwd_1446 (k := 6) rfl ?_
    refine r_cmpeq C lwd_1448 (t := 1453) (by decide) ?_
    refine r_ild C lwd_1453 (k := 6) rfl ?_
    refine r_ifne C lwd_1455 (t := 1477) (by decide) (fun _ => ?_) (fun h => ?_)
    · refine r_goto C lwd_1477 (t := 1631) (by decide) ?_
      exact xTg_sub (fun q hq => List.mem_cons_of_mem _ (List.mem_cons_of_mem _ hq)) (kk S' M' f' g z _ _ (RR_mo R' (by omega)) (by omega) (by omega))
    · have hv1 := hv (nI_n0 hr4 h)
      refine r_ald C lwd_1458 (k := 3) rfl rfl ?_
      refine r_ic C lwd_1459 (v := nI 0) rfl ?_
      refine r_lald C lwd_1460 wL_o ?_
      rw [hv1]
      refine r_ild C lwd_1461 (k := 7) rfl ?_
      refine r_ifeq C lwd_1463 (t := 1470) (by decide) (fun h3 => ?_) (fun h3 => ?_)
      · refine r_lc C lwd_1470 (v := 0) rfl ?_
        rw [if_pos h3]
        refine r_lcmp C lwd_1471 ?_
        refine r_ifeq C lwd_1472 (t := 1477) (by decide) (fun _ => ?_) (fun h2 => absurd rfl h2)
        refine r_goto C lwd_1477 (t := 1631) (by decide) ?_
        exact xTg_sub (fun q hq => List.mem_cons_of_mem _ (List.mem_cons_of_mem _ hq)) (kk S' M' f' g z _ _ (RR_mo R' (by omega)) (by omega) (by omega))
      · refine r_lc C lwd_1466 (v := 1) rfl ?_
        rw [if_neg h3]
        refine r_goto C lwd_1467 (t := 1471) (by decide) ?_
        refine r_lcmp C lwd_1471 ?_
        refine r_ifeq C lwd_1472 (t := 1477) (by decide) (fun _ => ?_) (fun h2 => absurd rfl h2)
        refine r_goto C lwd_1477 (t := 1631) (by decide) ?_
        exact xTg_sub (fun q hq => List.mem_cons_of_mem _ (List.mem_cons_of_mem _ hq)) (kk S' M' f' g z _ _ (RR_mo R' (by omega)) (by omega) (by omega))
  · obtain ⟨u, r, f', hr4, hh, hz⟩ := lw_cI (S := S) (M := M) (f := f) (g := g) (fun v => if v = 0 then 0 else 1) (by decide) hsh hn (fun m => T_scratch (n := n) (m := m) hc R (xs (i + 1)) true 36 37) (hSem 40 kX10_scratch rX10_scratch.1 rfl) rfl (fun f0 h => hl_scratch (x := x) (o := x + 146) h hfs)
    refine r_ald C lwd_1389 (k := 1) rfl rfl ?_
    refine x_ld C hX hbl hbA hN (k := 1) (kz := 1) (i := i) rfl (by decide +kernel : ldOk cL_law 1390 1 = true) rfl rfl (by omega) ?_
    refine x_ld C hX hbl hbA hN (k := 2) (kz := 2) (i := i) rfl (by decide +kernel : ldOk cL_law 1396 2 = true) rfl rfl (by omega) ?_
    refine r_ifeq C lwd_1402 (t := 1409) (by decide) (fun h => absurd h hs) (fun _ => ?_)
    refine r_ic C lwd_1405 (z := 1) (v := nI (true : Bool).toNat) rfl ?_
    refine r_goto C lwd_1406 (t := 1410) (by decide) ?_
    refine r_ald C lwd_1410 (k := 3) rfl rfl ?_
    refine x_callh C hNx (av := [.ref x, .int (xs (i + 1)), .int (nI (true : Bool).toNat), .ref (x + 146)]) (st := []) lk_c23 hh rfl (Nat.le_of_ble_eq_true rfl) (by omega) (by omega) lwd_1411 (fun z => ?_)
    obtain ⟨S', M', v, R', hu, hm, h0, hv⟩ := hz z
    rw [hu]
    refine r_ist C lwd_1414 (k := 6) (by decide) rfl ?_
    refine r_ald C lwd_1416 (k := 2) rfl rfl ?_
    refine x_ld C hX hbl hbA hN (k := 1) (kz := 1) (i := i) rfl (by decide +kernel : ldOk cL_law 1417 1 = true) rfl rfl (by omega) ?_
    refine x_ld C hX hbl hbA hN (k := 2) (kz := 2) (i := i) rfl (by decide +kernel : ldOk cL_law 1423 2 = true) rfl rfl (by omega) ?_
    refine r_ifeq C lwd_1429 (t := 1436) (by decide) (fun h => absurd h hs) (fun _ => ?_)
    refine r_ic C lwd_1432 (z := 1) (v := nI (true : Bool).toNat) rfl ?_
    refine r_goto C lwd_1433 (t := 1437) (by decide) ?_
    refine x_callx C (kd := 1) (idx := 177) (n := 3) (ci := 10) (M := rX11_scratch.1) (av := [.ref (x + 135), .int (xs (i + 1)), .int (nI (true : Bool).toNat)]) (st := []) lk_m23 (lw_mod (S := S') (f := f') (g := g) (hSem 41 kX11_scratch rX11_scratch.1 rfl) hm) rfl xsg_s (fun _ => ⟨x + 135, _, rfl, wL_y⟩) (Nat.le_of_ble_eq_true rfl) (by omega) (by omega) lwd_1437 ?_
    refine r_ist C lwd_1440 (k := 7) (by decide) rfl ?_
    refine r_ald C lwd_1442 (k := 2) rfl rfl ?_
    refine x_callx C (kd := 1) (idx := 98) (n := 1) (ci := 10) (M := rX11_thrown.1) (av := [.ref (x + 135)]) (st := []) lk_t (lw_mod (S := S') (f := f') (g := g) (hSem 41 kX11_thrown rX11_thrown.1 rfl) g_thrown) rfl xsg_s (fun _ => ⟨x + 135, _, rfl, wL_y⟩) (Nat.le_of_ble_eq_true rfl) (by omega) (by omega) lwd_1443 ?_
    rw [h0]
    refine r_ild C lwd_1446 (k := 6) rfl ?_
    refine r_cmpeq C lwd_1448 (t := 1453) (by decide) ?_
    refine r_ild C lwd_1453 (k := 6) rfl ?_
    refine r_ifne C lwd_1455 (t := 1477) (by decide) (fun _ => ?_) (fun h => ?_)
    · refine r_goto C lwd_1477 (t := 1631) (by decide) ?_
      exact xTg_sub (fun q hq => List.mem_cons_of_mem _ (List.mem_cons_of_mem _ hq)) (kk S' M' f' g z _ _ (RR_mo R' (by omega)) (by omega) (by omega))
    · have hv1 := hv (nI_n0 hr4 h)
      refine r_ald C lwd_1458 (k := 3) rfl rfl ?_
      refine r_ic C lwd_1459 (v := nI 0) rfl ?_
      refine r_lald C lwd_1460 wL_o ?_
      rw [hv1]
      refine r_ild C lwd_1461 (k := 7) rfl ?_
      refine r_ifeq C lwd_1463 (t := 1470) (by decide) (fun h3 => ?_) (fun h3 => ?_)
      · refine r_lc C lwd_1470 (v := 0) rfl ?_
        rw [if_pos h3]
        refine r_lcmp C lwd_1471 ?_
        refine r_ifeq C lwd_1472 (t := 1477) (by decide) (fun _ => ?_) (fun h2 => absurd rfl h2)
        refine r_goto C lwd_1477 (t := 1631) (by decide) ?_
        exact xTg_sub (fun q hq => List.mem_cons_of_mem _ (List.mem_cons_of_mem _ hq)) (kk S' M' f' g z _ _ (RR_mo R' (by omega)) (by omega) (by omega))
      · refine r_lc C lwd_1466 (v := 1) rfl ?_
        rw [if_neg h3]
        refine r_goto C lwd_1467 (t := 1471) (by decide) ?_
        refine r_lcmp C lwd_1471 ?_
        refine r_ifeq C lwd_1472 (t := 1477) (by decide) (fun _ => ?_) (fun h2 => absurd rfl h2)
        refine r_goto C lwd_1477 (t := 1631) (by decide) ?_
        exact xTg_sub (fun q hq => List.mem_cons_of_mem _ (List.mem_cons_of_mem _ hq)) (kk S' M' f' g z _ _ (RR_mo R' (by omega)) (by omega) (by omega))
end CASES
