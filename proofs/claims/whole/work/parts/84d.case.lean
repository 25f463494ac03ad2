/-! THE LAW'S CASES; written by wip/whole/genlw.py. -/
theorem lk_c12 : xokC RL 1 138 1 9 rX10_fewest.1 = true := by decide +kernel
theorem lk_m12 : xokC RL 1 141 1 10 rX11_fewest.1 = true := by decide +kernel
theorem lwd_802 : decode cL_law 802 = .ok (.aload_n 1, 1) := by decide +kernel
theorem lwd_803 : decode cL_law 803 = .ok (.invokevirtual 138, 3) := by decide +kernel
theorem lwd_806 : decode cL_law 806 = .ok (.aload_n 2, 1) := by decide +kernel
theorem lwd_807 : decode cL_law 807 = .ok (.invokevirtual 141, 3) := by decide +kernel
theorem lwd_810 : decode cL_law 810 = .ok (.if_icmp .eq 821, 3) := by decide +kernel
theorem lk_c13 : hokC RL 142 3 yL_rows cL_rows 4 [(0, 9, 12, 13)] = true := by decide +kernel
theorem lk_m13 : xokC RL 1 144 2 10 rX11_rows.1 = true := by decide +kernel
theorem lwd_815 : decode cL_law 815 = .ok (.aload_n 1, 1) := by decide +kernel
theorem lwd_822 : decode cL_law 822 = .ok (.aload_n 3, 1) := by decide +kernel
theorem lwd_823 : decode cL_law 823 = .ok (.invokestatic 142, 3) := by decide +kernel
theorem lwd_826 : decode cL_law 826 = .ok (.istore 6, 2) := by decide +kernel
theorem lwd_828 : decode cL_law 828 = .ok (.aload_n 2, 1) := by decide +kernel
theorem lwd_835 : decode cL_law 835 = .ok (.invokevirtual 144, 3) := by decide +kernel
theorem lwd_838 : decode cL_law 838 = .ok (.istore 7, 2) := by decide +kernel
theorem lwd_840 : decode cL_law 840 = .ok (.aload_n 2, 1) := by decide +kernel
theorem lwd_841 : decode cL_law 841 = .ok (.invokevirtual 98, 3) := by decide +kernel
theorem lwd_844 : decode cL_law 844 = .ok (.iload 6, 2) := by decide +kernel
theorem lwd_846 : decode cL_law 846 = .ok (.if_icmp .eq 5, 3) := by decide +kernel
theorem lwd_851 : decode cL_law 851 = .ok (.iload 6, 2) := by decide +kernel
theorem lwd_853 : decode cL_law 853 = .ok (.ifCond .ne 15, 3) := by decide +kernel
theorem lwd_868 : decode cL_law 868 = .ok (.goto 763, 3) := by decide +kernel
theorem lwd_856 : decode cL_law 856 = .ok (.aload_n 3, 1) := by decide +kernel
theorem lwd_857 : decode cL_law 857 = .ok (.iconst 0, 1) := by decide +kernel
theorem lwd_858 : decode cL_law 858 = .ok (.laload, 1) := by decide +kernel
theorem lwd_859 : decode cL_law 859 = .ok (.iload 7, 2) := by decide +kernel
theorem lwd_861 : decode cL_law 861 = .ok (.i2l, 1) := by decide +kernel
theorem lwd_862 : decode cL_law 862 = .ok (.lcmp, 1) := by decide +kernel
theorem lwd_863 : decode cL_law 863 = .ok (.ifCond .eq 5, 3) := by decide +kernel
theorem lk_c14 : hokC RL 145 3 yL_fool cL_fool 4 [(0, 9, 12, 13)] = true := by decide +kernel
theorem lk_m14 : xokC RL 1 147 2 10 rX11_fool.1 = true := by decide +kernel
theorem lwd_871 : decode cL_law 871 = .ok (.aload_n 1, 1) := by decide +kernel
theorem lwd_878 : decode cL_law 878 = .ok (.aload_n 3, 1) := by decide +kernel
theorem lwd_879 : decode cL_law 879 = .ok (.invokestatic 145, 3) := by decide +kernel
theorem lwd_882 : decode cL_law 882 = .ok (.istore 6, 2) := by decide +kernel
theorem lwd_884 : decode cL_law 884 = .ok (.aload_n 2, 1) := by decide +kernel
theorem lwd_891 : decode cL_law 891 = .ok (.invokevirtual 147, 3) := by decide +kernel
theorem lwd_894 : decode cL_law 894 = .ok (.istore 7, 2) := by decide +kernel
theorem lwd_896 : decode cL_law 896 = .ok (.aload_n 2, 1) := by decide +kernel
theorem lwd_897 : decode cL_law 897 = .ok (.invokevirtual 98, 3) := by decide +kernel
theorem lwd_900 : decode cL_law 900 = .ok (.iload 6, 2) := by decide +kernel
theorem lwd_902 : decode cL_law 902 = .ok (.if_icmp .eq 5, 3) := by decide +kernel
theorem lwd_907 : decode cL_law 907 = .ok (.iload 6, 2) := by decide +kernel
theorem lwd_909 : decode cL_law 909 = .ok (.ifCond .ne 15, 3) := by decide +kernel
theorem lwd_924 : decode cL_law 924 = .ok (.goto 707, 3) := by decide +kernel
theorem lwd_912 : decode cL_law 912 = .ok (.aload_n 3, 1) := by decide +kernel
theorem lwd_913 : decode cL_law 913 = .ok (.iconst 0, 1) := by decide +kernel
theorem lwd_914 : decode cL_law 914 = .ok (.laload, 1) := by decide +kernel
theorem lwd_915 : decode cL_law 915 = .ok (.iload 7, 2) := by decide +kernel
theorem lwd_917 : decode cL_law 917 = .ok (.i2l, 1) := by decide +kernel
theorem lwd_918 : decode cL_law 918 = .ok (.lcmp, 1) := by decide +kernel
theorem lwd_919 : decode cL_law 919 = .ok (.ifCond .eq 5, 3) := by decide +kernel
theorem lk_c15 : hokC RL 148 3 yL_caught cL_caught 4 [(0, 9, 12, 13)] = true := by decide +kernel
theorem lk_m15 : xokC RL 1 150 2 10 rX11_caught.1 = true := by decide +kernel
theorem lwd_927 : decode cL_law 927 = .ok (.aload_n 1, 1) := by decide +kernel
theorem lwd_934 : decode cL_law 934 = .ok (.aload_n 3, 1) := by decide +kernel
theorem lwd_935 : decode cL_law 935 = .ok (.invokestatic 148, 3) := by decide +kernel
theorem lwd_938 : decode cL_law 938 = .ok (.istore 6, 2) := by decide +kernel
theorem lwd_940 : decode cL_law 940 = .ok (.aload_n 2, 1) := by decide +kernel
theorem lwd_947 : decode cL_law 947 = .ok (.invokevirtual 150, 3) := by decide +kernel
theorem lwd_950 : decode cL_law 950 = .ok (.istore 7, 2) := by decide +kernel
theorem lwd_952 : decode cL_law 952 = .ok (.aload_n 2, 1) := by decide +kernel
theorem lwd_953 : decode cL_law 953 = .ok (.invokevirtual 98, 3) := by decide +kernel
theorem lwd_956 : decode cL_law 956 = .ok (.iload 6, 2) := by decide +kernel
theorem lwd_958 : decode cL_law 958 = .ok (.if_icmp .eq 5, 3) := by decide +kernel
theorem lwd_963 : decode cL_law 963 = .ok (.iload 6, 2) := by decide +kernel
theorem lwd_965 : decode cL_law 965 = .ok (.ifCond .ne 15, 3) := by decide +kernel
theorem lwd_980 : decode cL_law 980 = .ok (.goto 651, 3) := by decide +kernel
theorem lwd_968 : decode cL_law 968 = .ok (.aload_n 3, 1) := by decide +kernel
theorem lwd_969 : decode cL_law 969 = .ok (.iconst 0, 1) := by decide +kernel
theorem lwd_970 : decode cL_law 970 = .ok (.laload, 1) := by decide +kernel
theorem lwd_971 : decode cL_law 971 = .ok (.iload 7, 2) := by decide +kernel
theorem lwd_973 : decode cL_law 973 = .ok (.i2l, 1) := by decide +kernel
theorem lwd_974 : decode cL_law 974 = .ok (.lcmp, 1) := by decide +kernel
theorem lwd_975 : decode cL_law 975 = .ok (.ifCond .eq 5, 3) := by decide +kernel
section CASES
variable {p : Program} {l : Launch} {e : Env} {s : State} {m : MethodId} {args : Array Value} {below : List Frame} {meth : Method} {c : Code}
variable {G : xG} {E : xEn} {A : Nat → Prop} {MC MS : Nat} {call : Nat → List Value → xH → Option xR} {Mt : Nat → Option xMth} {ini : Bool} {ret : Option FieldType} {PO : xPool} {Q : State → Prop}
variable {b N x i n bc bs Bd : Nat} {xs : Nat → Int32} {sh : Nat → Option xSh} {S M : xSt} {f : Nat → Int64} {g : Nat → UInt64}
theorem lw_case_12 (C : xCx p l s m args meth c xlds xexs G E A 41 call Mt RL ini cL_law 10 ret PO) (hNx : xNx s) (hX : va_X b N xs s s.heap) (hbl : b < s.heap.size) (hbA : ¬ A b) (hN : N ≤ 3072) (hSem : ∀ (d key : Nat) (M : xMth), (xT key).map (fun r => r.1) = some M → xMet xlds xexs l G E d M (xsem xT E d key)) (hc : hC sh) (hsh : ∀ j, 135 ≤ j → sh j = none) (HE : hEn E x) (HE2 : hEn E (x + 135)) (R : RR S M Bd) (hB : Bd < 2 ^ 31) (hi : i + 6 ≤ N) (hbc : bc + 8 ≤ MC) (hbs : bs + 80 ≤ MS) (kk : lwK p l e s m args below meth c MC MS Q G E A b x i sh Bd bc bs) : xTg p l e s m args below meth c 41 MC MS Q G A 10 802 (lL b x i) [] (lwW E x sh S M f g, n) bc bs := by
  refine lw_n (fun hn => ?_)
  obtain ⟨fs, hfs⟩ := wL_x (E := E) (x := x) (S := S) (M := M) (f := f) (g := g) hc.1
  have eC1 : rX10_fewest.1.2.2.2.2.1 = 0 := rfl
  have eC2 : rX10_fewest.1.2.2.2.2.2 = 0 := rfl
  have eM1 : rX11_fewest.1.2.2.2.2.1 = 0 := rfl
  have eM2 : rX11_fewest.1.2.2.2.2.2 = 0 := rfl
  have et1 : rX11_thrown.1.2.2.2.2.1 = 0 := rfl
  have et2 : rX11_thrown.1.2.2.2.2.2 = 0 := rfl
  obtain ⟨v, S', M', n', hv, R', hMc, hm⟩ := lw_cN (S := S) (M := M) (f := f) (g := g) hsh hn (fun m => T_fewest (n := n) (m := m) hc R 38 38) (hSem 41 kX10_fewest rX10_fewest.1 rfl) rfl
  obtain ⟨v, rfl⟩ := vtag_0 hv
  refine r_ald C lwd_802 (k := 1) rfl rfl ?_
  refine x_callx C (kd := 1) (idx := 138) (n := 1) (ci := 9) (M := rX10_fewest.1) (av := [.ref x]) (st := []) lk_c12 hMc rfl xsg_s (fun _ => ⟨x, _, rfl, fs, hfs⟩) (Nat.le_of_ble_eq_true rfl) (by omega) (by omega) lwd_803 ?_
  refine r_ald C lwd_806 (k := 2) rfl rfl ?_
  refine x_callx C (kd := 1) (idx := 141) (n := 1) (ci := 10) (M := rX11_fewest.1) (av := [.ref (x + 135)]) (st := [.int v]) lk_m12 (lw_mod (S := S') (f := f) (g := g) (hSem 41 kX11_fewest rX11_fewest.1 rfl) hm) rfl xsg_s (fun _ => ⟨x + 135, _, rfl, wL_y⟩) (Nat.le_of_ble_eq_true rfl) (by omega) (by omega) lwd_807 ?_
  refine r_cmpeq C lwd_810 (t := 1631) (by decide) ?_
  exact xTg_sub (fun q hq => hq) (kk S' M' f g n' _ _ (RR_mo R' (by omega)) (by omega) (by omega))
theorem lw_case_13 (C : xCx p l s m args meth c xlds xexs G E A 41 call Mt RL ini cL_law 10 ret PO) (hNx : xNx s) (hX : va_X b N xs s s.heap) (hbl : b < s.heap.size) (hbA : ¬ A b) (hN : N ≤ 3072) (hSem : ∀ (d key : Nat) (M : xMth), (xT key).map (fun r => r.1) = some M → xMet xlds xexs l G E d M (xsem xT E d key)) (hc : hC sh) (hsh : ∀ j, 135 ≤ j → sh j = none) (HE : hEn E x) (HE2 : hEn E (x + 135)) (R : RR S M Bd) (hB : Bd < 2 ^ 31) (hi : i + 6 ≤ N) (hbc : bc + 8 ≤ MC) (hbs : bs + 80 ≤ MS) (kk : lwK p l e s m args below meth c MC MS Q G E A b x i sh Bd bc bs) : xTg p l e s m args below meth c 41 MC MS Q G A 10 815 (lL b x i) [] (lwW E x sh S M f g, n) bc bs := by
  refine lw_n (fun hn => ?_)
  obtain ⟨fs, hfs⟩ := wL_x (E := E) (x := x) (S := S) (M := M) (f := f) (g := g) hc.1
  have eC1 : rX10_rows.1.2.2.2.2.1 = 1 := rfl
  have eC2 : rX10_rows.1.2.2.2.2.2 = 7 := rfl
  have eM1 : rX11_rows.1.2.2.2.2.1 = 0 := rfl
  have eM2 : rX11_rows.1.2.2.2.2.2 = 0 := rfl
  have et1 : rX11_thrown.1.2.2.2.2.1 = 0 := rfl
  have et2 : rX11_thrown.1.2.2.2.2.2 = 0 := rfl
  obtain ⟨u, r, f', hr4, hh, hz⟩ := lw_cI (S := S) (M := M) (f := f) (g := g) Int32.toInt64 (by decide) hsh hn (fun m => T_rows (n := n) (m := m) hc R (xs (i + 1)) 37 38) (hSem 40 kX10_rows rX10_rows.1 rfl) rfl (fun f0 h => hl_rows (x := x) (o := x + 146) h hfs)
  refine r_ald C lwd_815 (k := 1) rfl rfl ?_
  refine x_ld C hX hbl hbA hN (k := 1) (kz := 1) (i := i) rfl (by decide +kernel : ldOk cL_law 816 1 = true) rfl rfl (by omega) ?_
  refine r_ald C lwd_822 (k := 3) rfl rfl ?_
  refine x_callh C hNx (av := [.ref x, .int (xs (i + 1)), .ref (x + 146)]) (st := []) lk_c13 hh rfl (Nat.le_of_ble_eq_true rfl) (by omega) (by omega) lwd_823 (fun z => ?_)
  obtain ⟨S', M', v, R', hu, hm, h0, hv⟩ := hz z
  rw [hu]
  refine r_ist C lwd_826 (k := 6) (by decide) rfl ?_
  refine r_ald C lwd_828 (k := 2) rfl rfl ?_
  refine x_ld C hX hbl hbA hN (k := 1) (kz := 1) (i := i) rfl (by decide +kernel : ldOk cL_law 829 1 = true) rfl rfl (by omega) ?_
  refine x_callx C (kd := 1) (idx := 144) (n := 2) (ci := 10) (M := rX11_rows.1) (av := [.ref (x + 135), .int (xs (i + 1))]) (st := []) lk_m13 (lw_mod (S := S') (f := f') (g := g) (hSem 41 kX11_rows rX11_rows.1 rfl) hm) rfl xsg_s (fun _ => ⟨x + 135, _, rfl, wL_y⟩) (Nat.le_of_ble_eq_true rfl) (by omega) (by omega) lwd_835 ?_
  refine r_ist C lwd_838 (k := 7) (by decide) rfl ?_
  refine r_ald C lwd_840 (k := 2) rfl rfl ?_
  refine x_callx C (kd := 1) (idx := 98) (n := 1) (ci := 10) (M := rX11_thrown.1) (av := [.ref (x + 135)]) (st := []) lk_t (lw_mod (S := S') (f := f') (g := g) (hSem 41 kX11_thrown rX11_thrown.1 rfl) g_thrown) rfl xsg_s (fun _ => ⟨x + 135, _, rfl, wL_y⟩) (Nat.le_of_ble_eq_true rfl) (by omega) (by omega) lwd_841 ?_
  rw [h0]
  refine r_ild C lwd_844 (k := 6) rfl ?_
  refine r_cmpeq C lwd_846 (t := 851) (by decide) ?_
  refine r_ild C lwd_851 (k := 6) rfl ?_
  refine r_ifne C lwd_853 (t := 868) (by decide) (fun _ => ?_) (fun h => ?_)
  · refine r_goto C lwd_868 (t := 1631) (by decide) ?_
    exact xTg_sub (fun q hq => List.mem_cons_of_mem _ (List.mem_cons_of_mem _ hq)) (kk S' M' f' g z _ _ (RR_mo R' (by omega)) (by omega) (by omega))
  · have hv1 := hv (nI_n0 hr4 h)
    refine r_ald C lwd_856 (k := 3) rfl rfl ?_
    refine r_ic C lwd_857 (v := nI 0) rfl ?_
    refine r_lald C lwd_858 wL_o ?_
    rw [hv1]
    refine r_ild C lwd_859 (k := 7) rfl ?_
    refine r_i2l C lwd_861 ?_
    refine r_lcmp C lwd_862 ?_
    refine r_ifeq C lwd_863 (t := 868) (by decide) (fun _ => ?_) (fun h2 => absurd rfl h2)
    refine r_goto C lwd_868 (t := 1631) (by decide) ?_
    exact xTg_sub (fun q hq => List.mem_cons_of_mem _ (List.mem_cons_of_mem _ hq)) (kk S' M' f' g z _ _ (RR_mo R' (by omega)) (by omega) (by omega))
theorem lw_case_14 (C : xCx p l s m args meth c xlds xexs G E A 41 call Mt RL ini cL_law 10 ret PO) (hNx : xNx s) (hX : va_X b N xs s s.heap) (hbl : b < s.heap.size) (hbA : ¬ A b) (hN : N ≤ 3072) (hSem : ∀ (d key : Nat) (M : xMth), (xT key).map (fun r => r.1) = some M → xMet xlds xexs l G E d M (xsem xT E d key)) (hc : hC sh) (hsh : ∀ j, 135 ≤ j → sh j = none) (HE : hEn E x) (HE2 : hEn E (x + 135)) (R : RR S M Bd) (hB : Bd < 2 ^ 31) (hi : i + 6 ≤ N) (hbc : bc + 8 ≤ MC) (hbs : bs + 80 ≤ MS) (kk : lwK p l e s m args below meth c MC MS Q G E A b x i sh Bd bc bs) : xTg p l e s m args below meth c 41 MC MS Q G A 10 871 (lL b x i) [] (lwW E x sh S M f g, n) bc bs := by
  refine lw_n (fun hn => ?_)
  obtain ⟨fs, hfs⟩ := wL_x (E := E) (x := x) (S := S) (M := M) (f := f) (g := g) hc.1
  have eC1 : rX10_fool.1.2.2.2.2.1 = 1 := rfl
  have eC2 : rX10_fool.1.2.2.2.2.2 = 6 := rfl
  have eM1 : rX11_fool.1.2.2.2.2.1 = 0 := rfl
  have eM2 : rX11_fool.1.2.2.2.2.2 = 0 := rfl
  have et1 : rX11_thrown.1.2.2.2.2.1 = 0 := rfl
  have et2 : rX11_thrown.1.2.2.2.2.2 = 0 := rfl
  obtain ⟨u, r, f', hr4, hh, hz⟩ := lw_cI (S := S) (M := M) (f := f) (g := g) Int32.toInt64 (by decide) hsh hn (fun m => T_fool (n := n) (m := m) hc R (xs (i + 1)) 33 33) (hSem 40 kX10_fool rX10_fool.1 rfl) rfl (fun f0 h => hl_fool (x := x) (o := x + 146) h hfs)
  refine r_ald C lwd_871 (k := 1) rfl rfl ?_
  refine x_ld C hX hbl hbA hN (k := 1) (kz := 1) (i := i) rfl (by decide +kernel : ldOk cL_law 872 1 = true) rfl rfl (by omega) ?_
  refine r_ald C lwd_878 (k := 3) rfl rfl ?_
  refine x_callh C hNx (av := [.ref x, .int (xs (i + 1)), .ref (x + 146)]) (st := []) lk_c14 hh rfl (Nat.le_of_ble_eq_true rfl) (by omega) (by omega) lwd_879 (fun z => ?_)
  obtain ⟨S', M', v, R', hu, hm, h0, hv⟩ := hz z
  rw [hu]
  refine r_ist C lwd_882 (k := 6) (by decide) rfl ?_
  refine r_ald C lwd_884 (k := 2) rfl rfl ?_
  refine x_ld C hX hbl hbA hN (k := 1) (kz := 1) (i := i) rfl (by decide +kernel : ldOk cL_law 885 1 = true) rfl rfl (by omega) ?_
  refine x_callx C (kd := 1) (idx := 147) (n := 2) (ci := 10) (M := rX11_fool.1) (av := [.ref (x + 135), .int (xs (i + 1))]) (st := []) lk_m14 (lw_mod (S := S') (f := f') (g := g) (hSem 41 kX11_fool rX11_fool.1 rfl) hm) rfl xsg_s (fun _ => ⟨x + 135, _, rfl, wL_y⟩) (Nat.le_of_ble_eq_true rfl) (by omega) (by omega) lwd_891 ?_
  refine r_ist C lwd_894 (k := 7) (by decide) rfl ?_
  refine r_ald C lwd_896 (k := 2) rfl rfl ?_
  refine x_callx C (kd := 1) (idx := 98) (n := 1) (ci := 10) (M := rX11_thrown.1) (av := [.ref (x + 135)]) (st := []) lk_t (lw_mod (S := S') (f := f') (g := g) (hSem 41 kX11_thrown rX11_thrown.1 rfl) g_thrown) rfl xsg_s (fun _ => ⟨x + 135, _, rfl, wL_y⟩) (Nat.le_of_ble_eq_true rfl) (by omega) (by omega) lwd_897 ?_
  rw [h0]
  refine r_ild C lwd_900 (k := 6) rfl ?_
  refine r_cmpeq C lwd_902 (t := 907) (by decide) ?_
  refine r_ild C lwd_907 (k := 6) rfl ?_
  refine r_ifne C lwd_909 (t := 924) (by decide) (fun _ => ?_) (fun h => ?_)
  · refine r_goto C lwd_924 (t := 1631) (by decide) ?_
    exact xTg_sub (fun q hq => List.mem_cons_of_mem _ (List.mem_cons_of_mem _ hq)) (kk S' M' f' g z _ _ (RR_mo R' (by omega)) (by omega) (by omega))
  · have hv1 := hv (nI_n0 hr4 h)
    refine r_ald C lwd_912 (k := 3) rfl rfl ?_
    refine r_ic C lwd_913 (v := nI 0) rfl ?_
    refine r_lald C lwd_914 wL_o ?_
    rw [hv1]
    refine r_ild C lwd_915 (k := 7) rfl ?_
    refine r_i2l C lwd_917 ?_
    refine r_lcmp C lwd_918 ?_
    refine r_ifeq C lwd_919 (t := 924) (by decide) (fun _ => ?_) (fun h2 => absurd rfl h2)
    refine r_goto C lwd_924 (t := 1631) (by decide) ?_
    exact xTg_sub (fun q hq => List.mem_cons_of_mem _ (List.mem_cons_of_mem _ hq)) (kk S' M' f' g z _ _ (RR_mo R' (by omega)) (by omega) (by omega))
theorem lw_case_15 (C : xCx p l s m args meth c xlds xexs G E A 41 call Mt RL ini cL_law 10 ret PO) (hNx : xNx s) (hX : va_X b N xs s s.heap) (hbl : b < s.heap.size) (hbA : ¬ A b) (hN : N ≤ 3072) (hSem : ∀ (d key : Nat) (M : xMth), (xT key).map (fun r => r.1) = some M → xMet xlds xexs l G E d M (xsem xT E d key)) (hc : hC sh) (hsh : ∀ j, 135 ≤ j → sh j = none) (HE : hEn E x) (HE2 : hEn E (x + 135)) (R : RR S M Bd) (hB : Bd < 2 ^ 31) (hi : i + 6 ≤ N) (hbc : bc + 8 ≤ MC) (hbs : bs + 80 ≤ MS) (kk : lwK p l e s m args below meth c MC MS Q G E A b x i sh Bd bc bs) : xTg p l e s m args below meth c 41 MC MS Q G A 10 927 (lL b x i) [] (lwW E x sh S M f g, n) bc bs := by
  refine lw_n (fun hn => ?_)
  obtain ⟨fs, hfs⟩ := wL_x (E := E) (x := x) (S := S) (M := M) (f := f) (g := g) hc.1
  have eC1 : rX10_caught.1.2.2.2.2.1 = 1 := rfl
  have eC2 : rX10_caught.1.2.2.2.2.2 = 6 := rfl
  have eM1 : rX11_caught.1.2.2.2.2.1 = 0 := rfl
  have eM2 : rX11_caught.1.2.2.2.2.2 = 0 := rfl
  have et1 : rX11_thrown.1.2.2.2.2.1 = 0 := rfl
  have et2 : rX11_thrown.1.2.2.2.2.2 = 0 := rfl
  obtain ⟨u, r, f', hr4, hh, hz⟩ := lw_cI (S := S) (M := M) (f := f) (g := g) Int32.toInt64 (by decide) hsh hn (fun m => T_caught (n := n) (m := m) hc R (xs (i + 1)) 33 33) (hSem 40 kX10_caught rX10_caught.1 rfl) rfl (fun f0 h => hl_caught (x := x) (o := x + 146) h hfs)
  refine r_ald C lwd_927 (k := 1) rfl rfl ?_
  refine x_ld C hX hbl hbA hN (k := 1) (kz := 1) (i := i) rfl (by decide +kernel : ldOk cL_law 928 1 = true) rfl rfl (by omega) ?_
  refine r_ald C lwd_934 (k := 3) rfl rfl ?_
  refine x_callh C hNx (av := [.ref x, .int (xs (i + 1)), .ref (x + 146)]) (st := []) lk_c15 hh rfl (Nat.le_of_ble_eq_true rfl) (by omega) (by omega) lwd_935 (fun z => ?_)
  obtain ⟨S', M', v, R', hu, hm, h0, hv⟩ := hz z
  rw [hu]
  refine r_ist C lwd_938 (k := 6) (by decide) rfl ?_
  refine r_ald C lwd_940 (k := 2) rfl rfl ?_
  refine x_ld C hX hbl hbA hN (k := 1) (kz := 1) (i := i) rfl (by decide +kernel : ldOk cL_law 941 1 = true) rfl rfl (by omega) ?_
  refine x_callx C (kd := 1) (idx := 150) (n := 2) (ci := 10) (M := rX11_caught.1) (av := [.ref (x + 135), .int (xs (i + 1))]) (st := []) lk_m15 (lw_mod (S := S') (f := f') (g := g) (hSem 41 kX11_caught rX11_caught.1 rfl) hm) rfl xsg_s (fun _ => ⟨x + 135, _, rfl, wL_y⟩) (Nat.le_of_ble_eq_true rfl) (by omega) (by omega) lwd_947 ?_
  refine r_ist C lwd_950 (k := 7) (by decide) rfl ?_
  refine r_ald C lwd_952 (k := 2) rfl rfl ?_
  refine x_callx C (kd := 1) (idx := 98) (n := 1) (ci := 10) (M := rX11_thrown.1) (av := [.ref (x + 135)]) (st := []) lk_t (lw_mod (S := S') (f := f') (g := g) (hSem 41 kX11_thrown rX11_thrown.1 rfl) g_thrown) rfl xsg_s (fun _ => ⟨x + 135, _, rfl, wL_y⟩) (Nat.le_of_ble_eq_true rfl) (by omega) (by omega) lwd_953 ?_
  rw [h0]
  refine r_ild C lwd_956 (k := 6) rfl ?_
  refine r_cmpeq C lwd_958 (t := 963) (by decide) ?_
  refine r_ild C lwd_963 (k := 6) rfl ?_
  refine r_ifne C lwd_965 (t := 980) (by decide) (fun _ => ?_) (fun h => ?_)
  · refine r_goto C lwd_980 (t := 1631) (by decide) ?_
    exact xTg_sub (fun q hq => List.mem_cons_of_mem _ (List.mem_cons_of_mem _ hq)) (kk S' M' f' g z _ _ (RR_mo R' (by omega)) (by omega) (by omega))
  · have hv1 := hv (nI_n0 hr4 h)
    refine r_ald C lwd_968 (k := 3) rfl rfl ?_
    refine r_ic C lwd_969 (v := nI 0) rfl ?_
    refine r_lald C lwd_970 wL_o ?_
    rw [hv1]
    refine r_ild C lwd_971 (k := 7) rfl ?_
    refine r_i2l C lwd_973 ?_
    refine r_lcmp C lwd_974 ?_
    refine r_ifeq C lwd_975 (t := 980) (by decide) (fun _ => ?_) (fun h2 => absurd rfl h2)
    refine r_goto C lwd_980 (t := 1631) (by decide) ?_
    exact xTg_sub (fun q hq => List.mem_cons_of_mem _ (List.mem_cons_of_mem _ hq)) (kk S' M' f' g z _ _ (RR_mo R' (by omega)) (by omega) (by omega))
end CASES
