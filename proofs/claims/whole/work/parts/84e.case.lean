/-! THE LAW'S CASES; written by wip/whole/genlw.py. -/
theorem lk_c16 : hokC RL 151 4 yL_swap cL_swap 5 [(0, 17, 20, 25), (0, 17, 24, 13)] = true := by decide +kernel
theorem lk_m16 : xokC RL 1 153 3 10 rX11_swap.1 = true := by decide +kernel
theorem lwd_983 : decode cL_law 983 = .ok (.aload_n 1, 1) := by decide +kernel
theorem lwd_996 : decode cL_law 996 = .ok (.aload_n 3, 1) := by decide +kernel
theorem lwd_997 : decode cL_law 997 = .ok (.invokestatic 151, 3) := by decide +kernel
theorem lwd_1000 : decode cL_law 1000 = .ok (.istore 6, 2) := by decide +kernel
theorem lwd_1002 : decode cL_law 1002 = .ok (.aload_n 2, 1) := by decide +kernel
theorem lwd_1015 : decode cL_law 1015 = .ok (.invokevirtual 153, 3) := by decide +kernel
theorem lwd_1018 : decode cL_law 1018 = .ok (.istore 7, 2) := by decide +kernel
theorem lwd_1020 : decode cL_law 1020 = .ok (.aload_n 2, 1) := by decide +kernel
theorem lwd_1021 : decode cL_law 1021 = .ok (.invokevirtual 98, 3) := by decide +kernel
theorem lwd_1024 : decode cL_law 1024 = .ok (.iload 6, 2) := by decide +kernel
theorem lwd_1026 : decode cL_law 1026 = .ok (.if_icmp .eq 5, 3) := by decide +kernel
theorem lwd_1031 : decode cL_law 1031 = .ok (.iload 6, 2) := by decide +kernel
theorem lwd_1033 : decode cL_law 1033 = .ok (.ifCond .ne 22, 3) := by decide +kernel
theorem lwd_1055 : decode cL_law 1055 = .ok (.goto 576, 3) := by decide +kernel
theorem lwd_1036 : decode cL_law 1036 = .ok (.aload_n 3, 1) := by decide +kernel
theorem lwd_1037 : decode cL_law 1037 = .ok (.iconst 0, 1) := by decide +kernel
theorem lwd_1038 : decode cL_law 1038 = .ok (.laload, 1) := by decide +kernel
theorem lwd_1039 : decode cL_law 1039 = .ok (.iload 7, 2) := by decide +kernel
theorem lwd_1041 : decode cL_law 1041 = .ok (.ifCond .eq 7, 3) := by decide +kernel
theorem lwd_1048 : decode cL_law 1048 = .ok (.lconst 0, 1) := by decide +kernel
theorem lwd_1049 : decode cL_law 1049 = .ok (.lcmp, 1) := by decide +kernel
theorem lwd_1050 : decode cL_law 1050 = .ok (.ifCond .eq 5, 3) := by decide +kernel
theorem lwd_1044 : decode cL_law 1044 = .ok (.lconst 1, 1) := by decide +kernel
theorem lwd_1045 : decode cL_law 1045 = .ok (.goto 4, 3) := by decide +kernel
theorem lk_c17 : hokC RL 154 4 yL_feint cL_feint 5 [(0, 17, 20, 25), (0, 17, 24, 13)] = true := by decide +kernel
theorem lk_m17 : xokC RL 1 156 3 10 rX11_feint.1 = true := by decide +kernel
theorem lwd_1058 : decode cL_law 1058 = .ok (.aload_n 1, 1) := by decide +kernel
theorem lwd_1071 : decode cL_law 1071 = .ok (.aload_n 3, 1) := by decide +kernel
theorem lwd_1072 : decode cL_law 1072 = .ok (.invokestatic 154, 3) := by decide +kernel
theorem lwd_1075 : decode cL_law 1075 = .ok (.istore 6, 2) := by decide +kernel
theorem lwd_1077 : decode cL_law 1077 = .ok (.aload_n 2, 1) := by decide +kernel
theorem lwd_1090 : decode cL_law 1090 = .ok (.invokevirtual 156, 3) := by decide +kernel
theorem lwd_1093 : decode cL_law 1093 = .ok (.istore 7, 2) := by decide +kernel
theorem lwd_1095 : decode cL_law 1095 = .ok (.aload_n 2, 1) := by decide +kernel
theorem lwd_1096 : decode cL_law 1096 = .ok (.invokevirtual 98, 3) := by decide +kernel
theorem lwd_1099 : decode cL_law 1099 = .ok (.iload 6, 2) := by decide +kernel
theorem lwd_1101 : decode cL_law 1101 = .ok (.if_icmp .eq 5, 3) := by decide +kernel
theorem lwd_1106 : decode cL_law 1106 = .ok (.iload 6, 2) := by decide +kernel
theorem lwd_1108 : decode cL_law 1108 = .ok (.ifCond .ne 22, 3) := by decide +kernel
theorem lwd_1130 : decode cL_law 1130 = .ok (.goto 501, 3) := by decide +kernel
theorem lwd_1111 : decode cL_law 1111 = .ok (.aload_n 3, 1) := by decide +kernel
theorem lwd_1112 : decode cL_law 1112 = .ok (.iconst 0, 1) := by decide +kernel
theorem lwd_1113 : decode cL_law 1113 = .ok (.laload, 1) := by decide +kernel
theorem lwd_1114 : decode cL_law 1114 = .ok (.iload 7, 2) := by decide +kernel
theorem lwd_1116 : decode cL_law 1116 = .ok (.ifCond .eq 7, 3) := by decide +kernel
theorem lwd_1123 : decode cL_law 1123 = .ok (.lconst 0, 1) := by decide +kernel
theorem lwd_1124 : decode cL_law 1124 = .ok (.lcmp, 1) := by decide +kernel
theorem lwd_1125 : decode cL_law 1125 = .ok (.ifCond .eq 5, 3) := by decide +kernel
theorem lwd_1119 : decode cL_law 1119 = .ok (.lconst 1, 1) := by decide +kernel
theorem lwd_1120 : decode cL_law 1120 = .ok (.goto 4, 3) := by decide +kernel
theorem lk_c18 : xokC RL 1 157 1 9 rX10_rest.1 = true := by decide +kernel
theorem lk_m18 : xokC RL 1 161 1 10 rX11_rest.1 = true := by decide +kernel
theorem lwd_1133 : decode cL_law 1133 = .ok (.aload_n 1, 1) := by decide +kernel
theorem lwd_1134 : decode cL_law 1134 = .ok (.invokevirtual 157, 3) := by decide +kernel
theorem lwd_1137 : decode cL_law 1137 = .ok (.aload_n 2, 1) := by decide +kernel
theorem lwd_1138 : decode cL_law 1138 = .ok (.invokevirtual 161, 3) := by decide +kernel
theorem lwd_1141 : decode cL_law 1141 = .ok (.if_icmp .eq 490, 3) := by decide +kernel
theorem lk_c19 : hokC RL 162 3 yL_steal cL_steal 4 [(0, 9, 12, 25), (0, 9, 15, 60)] = true := by decide +kernel
theorem lk_m19 : xokC RL 1 164 2 10 rX11_steal.1 = true := by decide +kernel
theorem lwd_1146 : decode cL_law 1146 = .ok (.aload_n 1, 1) := by decide +kernel
theorem lwd_1153 : decode cL_law 1153 = .ok (.aload_n 3, 1) := by decide +kernel
theorem lwd_1154 : decode cL_law 1154 = .ok (.invokestatic 162, 3) := by decide +kernel
theorem lwd_1157 : decode cL_law 1157 = .ok (.istore 6, 2) := by decide +kernel
theorem lwd_1159 : decode cL_law 1159 = .ok (.aload_n 2, 1) := by decide +kernel
theorem lwd_1166 : decode cL_law 1166 = .ok (.invokevirtual 164, 3) := by decide +kernel
theorem lwd_1169 : decode cL_law 1169 = .ok (.istore 7, 2) := by decide +kernel
theorem lwd_1171 : decode cL_law 1171 = .ok (.aload_n 2, 1) := by decide +kernel
theorem lwd_1172 : decode cL_law 1172 = .ok (.invokevirtual 98, 3) := by decide +kernel
theorem lwd_1175 : decode cL_law 1175 = .ok (.iload 6, 2) := by decide +kernel
theorem lwd_1177 : decode cL_law 1177 = .ok (.if_icmp .eq 5, 3) := by decide +kernel
theorem lwd_1182 : decode cL_law 1182 = .ok (.iload 6, 2) := by decide +kernel
theorem lwd_1184 : decode cL_law 1184 = .ok (.ifCond .ne 15, 3) := by decide +kernel
theorem lwd_1199 : decode cL_law 1199 = .ok (.goto 432, 3) := by decide +kernel
theorem lwd_1187 : decode cL_law 1187 = .ok (.aload_n 3, 1) := by decide +kernel
theorem lwd_1188 : decode cL_law 1188 = .ok (.iconst 0, 1) := by decide +kernel
theorem lwd_1189 : decode cL_law 1189 = .ok (.laload, 1) := by decide +kernel
theorem lwd_1190 : decode cL_law 1190 = .ok (.iload 7, 2) := by decide +kernel
theorem lwd_1192 : decode cL_law 1192 = .ok (.i2l, 1) := by decide +kernel
theorem lwd_1193 : decode cL_law 1193 = .ok (.lcmp, 1) := by decide +kernel
theorem lwd_1194 : decode cL_law 1194 = .ok (.ifCond .eq 5, 3) := by decide +kernel
section CASES
variable {p : Program} {l : Launch} {e : Env} {s : State} {m : MethodId} {args : Array Value} {below : List Frame} {meth : Method} {c : Code}
variable {G : xG} {E : xEn} {A : Nat → Prop} {MC MS : Nat} {call : Nat → List Value → xH → Option xR} {Mt : Nat → Option xMth} {ini : Bool} {ret : Option FieldType} {PO : xPool} {Q : State → Prop}
variable {b N x i n bc bs Bd : Nat} {xs : Nat → Int32} {sh : Nat → Option xSh} {S M : xSt} {f : Nat → Int64} {g : Nat → UInt64}
theorem lw_case_16 (C : xCx p l s m args meth c xlds xexs G E A 41 call Mt RL ini cL_law 10 ret PO) (hNx : xNx s) (hX : va_X b N xs s s.heap) (hbl : b < s.heap.size) (hbA : ¬ A b) (hN : N ≤ 3072) (hSem : ∀ (d key : Nat) (M : xMth), (xT key).map (fun r => r.1) = some M → xMet xlds xexs l G E d M (xsem xT E d key)) (hc : hC sh) (hsh : ∀ j, 135 ≤ j → sh j = none) (HE : hEn E x) (HE2 : hEn E (x + 135)) (R : RR S M Bd) (hB : Bd < 2 ^ 31) (hi : i + 6 ≤ N) (hbc : bc + 8 ≤ MC) (hbs : bs + 80 ≤ MS) (kk : lwK p l e s m args below meth c MC MS Q G E A b x i sh Bd bc bs) : xTg p l e s m args below meth c 41 MC MS Q G A 10 983 (lL b x i) [] (lwW E x sh S M f g, n) bc bs := by
  refine lw_n (fun hn => ?_)
  obtain ⟨fs, hfs⟩ := wL_x (E := E) (x := x) (S := S) (M := M) (f := f) (g := g) hc.1
  have eC1 : rX10_swap.1.2.2.2.2.1 = 3 := rfl
  have eC2 : rX10_swap.1.2.2.2.2.2 = 18 := rfl
  have eM1 : rX11_swap.1.2.2.2.2.1 = 0 := rfl
  have eM2 : rX11_swap.1.2.2.2.2.2 = 0 := rfl
  have et1 : rX11_thrown.1.2.2.2.2.1 = 0 := rfl
  have et2 : rX11_thrown.1.2.2.2.2.2 = 0 := rfl
  obtain ⟨u, r, f', hr4, hh, hz⟩ := lw_cI (S := S) (M := M) (f := f) (g := g) (fun v => if v = 0 then 0 else 1) (by decide) hsh hn (fun m => T_swap (n := n) (m := m) hc R (xs (i + 1)) (xs (i + 2)) 34 34) (hSem 40 kX10_swap rX10_swap.1 rfl) rfl (fun f0 h => hl_swap (x := x) (o := x + 146) h hfs)
  refine r_ald C lwd_983 (k := 1) rfl rfl ?_
  refine x_ld C hX hbl hbA hN (k := 1) (kz := 1) (i := i) rfl (by decide +kernel : ldOk cL_law 984 1 = true) rfl rfl (by omega) ?_
  refine x_ld C hX hbl hbA hN (k := 2) (kz := 2) (i := i) rfl (by decide +kernel : ldOk cL_law 990 2 = true) rfl rfl (by omega) ?_
  refine r_ald C lwd_996 (k := 3) rfl rfl ?_
  refine x_callh C hNx (av := [.ref x, .int (xs (i + 1)), .int (xs (i + 2)), .ref (x + 146)]) (st := []) lk_c16 hh rfl (Nat.le_of_ble_eq_true rfl) (by omega) (by omega) lwd_997 (fun z => ?_)
  obtain ⟨S', M', v, R', hu, hm, h0, hv⟩ := hz z
  rw [hu]
  refine r_ist C lwd_1000 (k := 6) (by decide) rfl ?_
  refine r_ald C lwd_1002 (k := 2) rfl rfl ?_
  refine x_ld C hX hbl hbA hN (k := 1) (kz := 1) (i := i) rfl (by decide +kernel : ldOk cL_law 1003 1 = true) rfl rfl (by omega) ?_
  refine x_ld C hX hbl hbA hN (k := 2) (kz := 2) (i := i) rfl (by decide +kernel : ldOk cL_law 1009 2 = true) rfl rfl (by omega) ?_
  refine x_callx C (kd := 1) (idx := 153) (n := 3) (ci := 10) (M := rX11_swap.1) (av := [.ref (x + 135), .int (xs (i + 1)), .int (xs (i + 2))]) (st := []) lk_m16 (lw_mod (S := S') (f := f') (g := g) (hSem 41 kX11_swap rX11_swap.1 rfl) hm) rfl xsg_s (fun _ => ⟨x + 135, _, rfl, wL_y⟩) (Nat.le_of_ble_eq_true rfl) (by omega) (by omega) lwd_1015 ?_
  refine r_ist C lwd_1018 (k := 7) (by decide) rfl ?_
  refine r_ald C lwd_1020 (k := 2) rfl rfl ?_
  refine x_callx C (kd := 1) (idx := 98) (n := 1) (ci := 10) (M := rX11_thrown.1) (av := [.ref (x + 135)]) (st := []) lk_t (lw_mod (S := S') (f := f') (g := g) (hSem 41 kX11_thrown rX11_thrown.1 rfl) g_thrown) rfl xsg_s (fun _ => ⟨x + 135, _, rfl, wL_y⟩) (Nat.le_of_ble_eq_true rfl) (by omega) (by omega) lwd_1021 ?_
  rw [h0]
  refine r_ild C lwd_1024 (k := 6) rfl ?_
  refine r_cmpeq C lwd_1026 (t := 1031) (by decide) ?_
  refine r_ild C lwd_1031 (k := 6) rfl ?_
  refine r_ifne C lwd_1033 (t := 1055) (by decide) (fun _ => ?_) (fun h => ?_)
  · refine r_goto C lwd_1055 (t := 1631) (by decide) ?_
    exact xTg_sub (fun q hq => List.mem_cons_of_mem _ (List.mem_cons_of_mem _ hq)) (kk S' M' f' g z _ _ (RR_mo R' (by omega)) (by omega) (by omega))
  · have hv1 := hv (nI_n0 hr4 h)
    refine r_ald C lwd_1036 (k := 3) rfl rfl ?_
    refine r_ic C lwd_1037 (v := nI 0) rfl ?_
    refine r_lald C lwd_1038 wL_o ?_
    rw [hv1]
    refine r_ild C lwd_1039 (k := 7) rfl ?_
    refine r_ifeq C lwd_1041 (t := 1048) (by decide) (fun h3 => ?_) (fun h3 => ?_)
    · refine r_lc C lwd_1048 (v := 0) rfl ?_
      rw [if_pos h3]
      refine r_lcmp C lwd_1049 ?_
      refine r_ifeq C lwd_1050 (t := 1055) (by decide) (fun _ => ?_) (fun h2 => absurd rfl h2)
      refine r_goto C lwd_1055 (t := 1631) (by decide) ?_
      exact xTg_sub (fun q hq => List.mem_cons_of_mem _ (List.mem_cons_of_mem _ hq)) (kk S' M' f' g z _ _ (RR_mo R' (by omega)) (by omega) (by omega))
    · refine r_lc C lwd_1044 (v := 1) rfl ?_
      rw [if_neg h3]
      refine r_goto C lwd_1045 (t := 1049) (by decide) ?_
      refine r_lcmp C lwd_1049 ?_
      refine r_ifeq C lwd_1050 (t := 1055) (by decide) (fun _ => ?_) (fun h2 => absurd rfl h2)
      refine r_goto C lwd_1055 (t := 1631) (by decide) ?_
      exact xTg_sub (fun q hq => List.mem_cons_of_mem _ (List.mem_cons_of_mem _ hq)) (kk S' M' f' g z _ _ (RR_mo R' (by omega)) (by omega) (by omega))
theorem lw_case_17 (C : xCx p l s m args meth c xlds xexs G E A 41 call Mt RL ini cL_law 10 ret PO) (hNx : xNx s) (hX : va_X b N xs s s.heap) (hbl : b < s.heap.size) (hbA : ¬ A b) (hN : N ≤ 3072) (hSem : ∀ (d key : Nat) (M : xMth), (xT key).map (fun r => r.1) = some M → xMet xlds xexs l G E d M (xsem xT E d key)) (hc : hC sh) (hsh : ∀ j, 135 ≤ j → sh j = none) (HE : hEn E x) (HE2 : hEn E (x + 135)) (R : RR S M Bd) (hB : Bd < 2 ^ 31) (hi : i + 6 ≤ N) (hbc : bc + 8 ≤ MC) (hbs : bs + 80 ≤ MS) (kk : lwK p l e s m args below meth c MC MS Q G E A b x i sh Bd bc bs) : xTg p l e s m args below meth c 41 MC MS Q G A 10 1058 (lL b x i) [] (lwW E x sh S M f g, n) bc bs := by
  refine lw_n (fun hn => ?_)
  obtain ⟨fs, hfs⟩ := wL_x (E := E) (x := x) (S := S) (M := M) (f := f) (g := g) hc.1
  have eC1 : rX10_feint.1.2.2.2.2.1 = 3 := rfl
  have eC2 : rX10_feint.1.2.2.2.2.2 = 18 := rfl
  have eM1 : rX11_feint.1.2.2.2.2.1 = 0 := rfl
  have eM2 : rX11_feint.1.2.2.2.2.2 = 0 := rfl
  have et1 : rX11_thrown.1.2.2.2.2.1 = 0 := rfl
  have et2 : rX11_thrown.1.2.2.2.2.2 = 0 := rfl
  obtain ⟨u, r, f', hr4, hh, hz⟩ := lw_cI (S := S) (M := M) (f := f) (g := g) (fun v => if v = 0 then 0 else 1) (by decide) hsh hn (fun m => T_feint (n := n) (m := m) hc R (xs (i + 1)) (xs (i + 2)) 34 34) (hSem 40 kX10_feint rX10_feint.1 rfl) rfl (fun f0 h => hl_feint (x := x) (o := x + 146) h hfs)
  refine r_ald C lwd_1058 (k := 1) rfl rfl ?_
  refine x_ld C hX hbl hbA hN (k := 1) (kz := 1) (i := i) rfl (by decide +kernel : ldOk cL_law 1059 1 = true) rfl rfl (by omega) ?_
  refine x_ld C hX hbl hbA hN (k := 2) (kz := 2) (i := i) rfl (by decide +kernel : ldOk cL_law 1065 2 = true) rfl rfl (by omega) ?_
  refine r_ald C lwd_1071 (k := 3) rfl rfl ?_
  refine x_callh C hNx (av := [.ref x, .int (xs (i + 1)), .int (xs (i + 2)), .ref (x + 146)]) (st := []) lk_c17 hh rfl (Nat.le_of_ble_eq_true rfl) (by omega) (by omega) lwd_1072 (fun z => ?_)
  obtain ⟨S', M', v, R', hu, hm, h0, hv⟩ := hz z
  rw [hu]
  refine r_ist C lwd_1075 (k := 6) (by decide) rfl ?_
  refine r_ald C lwd_1077 (k := 2) rfl rfl ?_
  refine x_ld C hX hbl hbA hN (k := 1) (kz := 1) (i := i) rfl (by decide +kernel : ldOk cL_law 1078 1 = true) rfl rfl (by omega) ?_
  refine x_ld C hX hbl hbA hN (k := 2) (kz := 2) (i := i) rfl (by decide +kernel : ldOk cL_law 1084 2 = true) rfl rfl (by omega) ?_
  refine x_callx C (kd := 1) (idx := 156) (n := 3) (ci := 10) (M := rX11_feint.1) (av := [.ref (x + 135), .int (xs (i + 1)), .int (xs (i + 2))]) (st := []) lk_m17 (lw_mod (S := S') (f := f') (g := g) (hSem 41 kX11_feint rX11_feint.1 rfl) hm) rfl xsg_s (fun _ => ⟨x + 135, _, rfl, wL_y⟩) (Nat.le_of_ble_eq_true rfl) (by omega) (by omega) lwd_1090 ?_
  refine r_ist C lwd_1093 (k := 7) (by decide) rfl ?_
  refine r_ald C lwd_1095 (k := 2) rfl rfl ?_
  refine x_callx C (kd := 1) (idx := 98) (n := 1) (ci := 10) (M := rX11_thrown.1) (av := [.ref (x + 135)]) (st := []) lk_t (lw_mod (S := S') (f := f') (g := g) (hSem 41 kX11_thrown rX11_thrown.1 rfl) g_thrown) rfl xsg_s (fun _ => ⟨x + 135, _, rfl, wL_y⟩) (Nat.le_of_ble_eq_true rfl) (by omega) (by omega) lwd_1096 ?_
  rw [h0]
  refine r_ild C lwd_1099 (k := 6) rfl ?_
  refine r_cmpeq C lwd_1101 (t := 1106) (by decide) ?_
  refine r_ild C lwd_1106 (k := 6) rfl ?_
  refine r_ifne C lwd_1108 (t := 1130) (by decide) (fun _ => ?_) (fun h => ?_)
  · refine r_goto C lwd_1130 (t := 1631) (by decide) ?_
    exact xTg_sub (fun q hq => List.mem_cons_of_mem _ (List.mem_cons_of_mem _ hq)) (kk S' M' f' g z _ _ (RR_mo R' (by omega)) (by omega) (by omega))
  · have hv1 := hv (nI_n0 hr4 h)
    refine r_ald C lwd_1111 (k := 3) rfl rfl ?_
    refine r_ic C lwd_1112 (v := nI 0) rfl ?_
    refine r_lald C lwd_1113 wL_o ?_
    rw [hv1]
    refine r_ild C lwd_1114 (k := 7) rfl ?_
    refine r_ifeq C lwd_1116 (t := 1123) (by decide) (fun h3 => ?_) (fun h3 => ?_)
    · refine r_lc C lwd_1123 (v := 0) rfl ?_
      rw [if_pos h3]
      refine r_lcmp C lwd_1124 ?_
      refine r_ifeq C lwd_1125 (t := 1130) (by decide) (fun _ => ?_) (fun h2 => absurd rfl h2)
      refine r_goto C lwd_1130 (t := 1631) (by decide) ?_
      exact xTg_sub (fun q hq => List.mem_cons_of_mem _ (List.mem_cons_of_mem _ hq)) (kk S' M' f' g z _ _ (RR_mo R' (by omega)) (by omega) (by omega))
    · refine r_lc C lwd_1119 (v := 1) rfl ?_
      rw [if_neg h3]
      refine r_goto C lwd_1120 (t := 1124) (by decide) ?_
      refine r_lcmp C lwd_1124 ?_
      refine r_ifeq C lwd_1125 (t := 1130) (by decide) (fun _ => ?_) (fun h2 => absurd rfl h2)
      refine r_goto C lwd_1130 (t := 1631) (by decide) ?_
      exact xTg_sub (fun q hq => List.mem_cons_of_mem _ (List.mem_cons_of_mem _ hq)) (kk S' M' f' g z _ _ (RR_mo R' (by omega)) (by omega) (by omega))
theorem lw_case_18 (C : xCx p l s m args meth c xlds xexs G E A 41 call Mt RL ini cL_law 10 ret PO) (hNx : xNx s) (hX : va_X b N xs s s.heap) (hbl : b < s.heap.size) (hbA : ¬ A b) (hN : N ≤ 3072) (hSem : ∀ (d key : Nat) (M : xMth), (xT key).map (fun r => r.1) = some M → xMet xlds xexs l G E d M (xsem xT E d key)) (hc : hC sh) (hsh : ∀ j, 135 ≤ j → sh j = none) (HE : hEn E x) (HE2 : hEn E (x + 135)) (R : RR S M Bd) (hB : Bd < 2 ^ 31) (hi : i + 6 ≤ N) (hbc : bc + 8 ≤ MC) (hbs : bs + 80 ≤ MS) (kk : lwK p l e s m args below meth c MC MS Q G E A b x i sh Bd bc bs) : xTg p l e s m args below meth c 41 MC MS Q G A 10 1133 (lL b x i) [] (lwW E x sh S M f g, n) bc bs := by
  refine lw_n (fun hn => ?_)
  obtain ⟨fs, hfs⟩ := wL_x (E := E) (x := x) (S := S) (M := M) (f := f) (g := g) hc.1
  have eC1 : rX10_rest.1.2.2.2.2.1 = 0 := rfl
  have eC2 : rX10_rest.1.2.2.2.2.2 = 0 := rfl
  have eM1 : rX11_rest.1.2.2.2.2.1 = 0 := rfl
  have eM2 : rX11_rest.1.2.2.2.2.2 = 0 := rfl
  have et1 : rX11_thrown.1.2.2.2.2.1 = 0 := rfl
  have et2 : rX11_thrown.1.2.2.2.2.2 = 0 := rfl
  obtain ⟨v, S', M', n', hv, R', hMc, hm⟩ := lw_cN (S := S) (M := M) (f := f) (g := g) hsh hn (fun m => T_rest (n := n) (m := m) hc R 35 34) (hSem 41 kX10_rest rX10_rest.1 rfl) rfl
  obtain ⟨v, rfl⟩ := vtag_0 hv
  refine r_ald C lwd_1133 (k := 1) rfl rfl ?_
  refine x_callx C (kd := 1) (idx := 157) (n := 1) (ci := 9) (M := rX10_rest.1) (av := [.ref x]) (st := []) lk_c18 hMc rfl xsg_s (fun _ => ⟨x, _, rfl, fs, hfs⟩) (Nat.le_of_ble_eq_true rfl) (by omega) (by omega) lwd_1134 ?_
  refine r_ald C lwd_1137 (k := 2) rfl rfl ?_
  refine x_callx C (kd := 1) (idx := 161) (n := 1) (ci := 10) (M := rX11_rest.1) (av := [.ref (x + 135)]) (st := [.int v]) lk_m18 (lw_mod (S := S') (f := f) (g := g) (hSem 41 kX11_rest rX11_rest.1 rfl) hm) rfl xsg_s (fun _ => ⟨x + 135, _, rfl, wL_y⟩) (Nat.le_of_ble_eq_true rfl) (by omega) (by omega) lwd_1138 ?_
  refine r_cmpeq C lwd_1141 (t := 1631) (by decide) ?_
  exact xTg_sub (fun q hq => hq) (kk S' M' f g n' _ _ (RR_mo R' (by omega)) (by omega) (by omega))
theorem lw_case_19 (C : xCx p l s m args meth c xlds xexs G E A 41 call Mt RL ini cL_law 10 ret PO) (hNx : xNx s) (hX : va_X b N xs s s.heap) (hbl : b < s.heap.size) (hbA : ¬ A b) (hN : N ≤ 3072) (hSem : ∀ (d key : Nat) (M : xMth), (xT key).map (fun r => r.1) = some M → xMet xlds xexs l G E d M (xsem xT E d key)) (hc : hC sh) (hsh : ∀ j, 135 ≤ j → sh j = none) (HE : hEn E x) (HE2 : hEn E (x + 135)) (R : RR S M Bd) (hB : Bd < 2 ^ 31) (hi : i + 6 ≤ N) (hbc : bc + 8 ≤ MC) (hbs : bs + 80 ≤ MS) (kk : lwK p l e s m args below meth c MC MS Q G E A b x i sh Bd bc bs) : xTg p l e s m args below meth c 41 MC MS Q G A 10 1146 (lL b x i) [] (lwW E x sh S M f g, n) bc bs := by
  refine lw_n (fun hn => ?_)
  obtain ⟨fs, hfs⟩ := wL_x (E := E) (x := x) (S := S) (M := M) (f := f) (g := g) hc.1
  have eC1 : rX10_steal.1.2.2.2.2.1 = 2 := rfl
  have eC2 : rX10_steal.1.2.2.2.2.2 = 12 := rfl
  have eM1 : rX11_steal.1.2.2.2.2.1 = 0 := rfl
  have eM2 : rX11_steal.1.2.2.2.2.2 = 0 := rfl
  have et1 : rX11_thrown.1.2.2.2.2.1 = 0 := rfl
  have et2 : rX11_thrown.1.2.2.2.2.2 = 0 := rfl
  obtain ⟨u, r, f', hr4, hh, hz⟩ := lw_cI (S := S) (M := M) (f := f) (g := g) Int32.toInt64 (by decide) hsh hn (fun m => T_steal (n := n) (m := m) hc R (xs (i + 1)) 32 34) (hSem 40 kX10_steal rX10_steal.1 rfl) rfl (fun f0 h => hl_steal (x := x) (o := x + 146) h hfs)
  refine r_ald C lwd_1146 (k := 1) rfl rfl ?_
  refine x_ld C hX hbl hbA hN (k := 1) (kz := 1) (i := i) rfl (by decide +kernel : ldOk cL_law 1147 1 = true) rfl rfl (by omega) ?_
  refine r_ald C lwd_1153 (k := 3) rfl rfl ?_
  refine x_callh C hNx (av := [.ref x, .int (xs (i + 1)), .ref (x + 146)]) (st := []) lk_c19 hh rfl (Nat.le_of_ble_eq_true rfl) (by omega) (by omega) lwd_1154 (fun z => ?_)
  obtain ⟨S', M', v, R', hu, hm, h0, hv⟩ := hz z
  rw [hu]
  refine r_ist C lwd_1157 (k := 6) (by decide) rfl ?_
  refine r_ald C lwd_1159 (k := 2) rfl rfl ?_
  refine x_ld C hX hbl hbA hN (k := 1) (kz := 1) (i := i) rfl (by decide +kernel : ldOk cL_law 1160 1 = true) rfl rfl (by omega) ?_
  refine x_callx C (kd := 1) (idx := 164) (n := 2) (ci := 10) (M := rX11_steal.1) (av := [.ref (x + 135), .int (xs (i + 1))]) (st := []) lk_m19 (lw_mod (S := S') (f := f') (g := g) (hSem 41 kX11_steal rX11_steal.1 rfl) hm) rfl xsg_s (fun _ => ⟨x + 135, _, rfl, wL_y⟩) (Nat.le_of_ble_eq_true rfl) (by omega) (by omega) lwd_1166 ?_
  refine r_ist C lwd_1169 (k := 7) (by decide) rfl ?_
  refine r_ald C lwd_1171 (k := 2) rfl rfl ?_
  refine x_callx C (kd := 1) (idx := 98) (n := 1) (ci := 10) (M := rX11_thrown.1) (av := [.ref (x + 135)]) (st := []) lk_t (lw_mod (S := S') (f := f') (g := g) (hSem 41 kX11_thrown rX11_thrown.1 rfl) g_thrown) rfl xsg_s (fun _ => ⟨x + 135, _, rfl, wL_y⟩) (Nat.le_of_ble_eq_true rfl) (by omega) (by omega) lwd_1172 ?_
  rw [h0]
  refine r_ild C lwd_1175 (k := 6) rfl ?_
  refine r_cmpeq C lwd_1177 (t := 1182) (by decide) ?_
  refine r_ild C lwd_1182 (k := 6) rfl ?_
  refine r_ifne C lwd_1184 (t := 1199) (by decide) (fun _ => ?_) (fun h => ?_)
  · refine r_goto C lwd_1199 (t := 1631) (by decide) ?_
    exact xTg_sub (fun q hq => List.mem_cons_of_mem _ (List.mem_cons_of_mem _ hq)) (kk S' M' f' g z _ _ (RR_mo R' (by omega)) (by omega) (by omega))
  · have hv1 := hv (nI_n0 hr4 h)
    refine r_ald C lwd_1187 (k := 3) rfl rfl ?_
    refine r_ic C lwd_1188 (v := nI 0) rfl ?_
    refine r_lald C lwd_1189 wL_o ?_
    rw [hv1]
    refine r_ild C lwd_1190 (k := 7) rfl ?_
    refine r_i2l C lwd_1192 ?_
    refine r_lcmp C lwd_1193 ?_
    refine r_ifeq C lwd_1194 (t := 1199) (by decide) (fun _ => ?_) (fun h2 => absurd rfl h2)
    refine r_goto C lwd_1199 (t := 1631) (by decide) ?_
    exact xTg_sub (fun q hq => List.mem_cons_of_mem _ (List.mem_cons_of_mem _ hq)) (kk S' M' f' g z _ _ (RR_mo R' (by omega)) (by omega) (by omega))
end CASES
