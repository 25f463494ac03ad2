/-! THE LAW'S CASES; written by wip/whole/genlw.py. -/
theorem lk_c8 : xokC RL 1 123 1 9 rX10_doubt.1 = true := by decide +kernel
theorem lk_m8 : xokC RL 1 127 1 10 rX11_doubt.1 = true := by decide +kernel
theorem lwd_627 : decode cL_law 627 = .ok (.aload_n 1, 1) := by decide +kernel
theorem lwd_628 : decode cL_law 628 = .ok (.invokevirtual 123, 3) := by decide +kernel
theorem lwd_631 : decode cL_law 631 = .ok (.f2d, 1) := by decide +kernel
theorem lwd_632 : decode cL_law 632 = .ok (.dstore 6, 2) := by decide +kernel
theorem lwd_634 : decode cL_law 634 = .ok (.aload_n 2, 1) := by decide +kernel
theorem lwd_635 : decode cL_law 635 = .ok (.invokevirtual 127, 3) := by decide +kernel
theorem lwd_638 : decode cL_law 638 = .ok (.f2d, 1) := by decide +kernel
theorem lwd_639 : decode cL_law 639 = .ok (.dstore 8, 2) := by decide +kernel
theorem lwd_641 : decode cL_law 641 = .ok (.dload 6, 2) := by decide +kernel
theorem lwd_643 : decode cL_law 643 = .ok (.dload 8, 2) := by decide +kernel
theorem lwd_645 : decode cL_law 645 = .ok (.dcmp .l, 1) := by decide +kernel
theorem lwd_646 : decode cL_law 646 = .ok (.ifCond .eq 21, 3) := by decide +kernel
theorem lwd_667 : decode cL_law 667 = .ok (.goto 964, 3) := by decide +kernel
theorem lwd_649 : decode cL_law 649 = .ok (.dload 6, 2) := by decide +kernel
theorem lwd_651 : decode cL_law 651 = .ok (.dload 6, 2) := by decide +kernel
theorem lwd_653 : decode cL_law 653 = .ok (.dcmp .l, 1) := by decide +kernel
theorem lwd_654 : decode cL_law 654 = .ok (.ifCond .eq 11, 3) := by decide +kernel
theorem lwd_657 : decode cL_law 657 = .ok (.dload 8, 2) := by decide +kernel
theorem lwd_659 : decode cL_law 659 = .ok (.dload 8, 2) := by decide +kernel
theorem lwd_661 : decode cL_law 661 = .ok (.dcmp .l, 1) := by decide +kernel
theorem lwd_662 : decode cL_law 662 = .ok (.ifCond .ne 5, 3) := by decide +kernel
theorem lk_c9 : xokC RL 1 128 1 9 rX10_guess.1 = true := by decide +kernel
theorem lk_m9 : xokC RL 1 131 1 10 rX11_guess.1 = true := by decide +kernel
theorem lwd_670 : decode cL_law 670 = .ok (.aload_n 1, 1) := by decide +kernel
theorem lwd_671 : decode cL_law 671 = .ok (.invokevirtual 128, 3) := by decide +kernel
theorem lwd_674 : decode cL_law 674 = .ok (.aload_n 2, 1) := by decide +kernel
theorem lwd_675 : decode cL_law 675 = .ok (.invokevirtual 131, 3) := by decide +kernel
theorem lwd_678 : decode cL_law 678 = .ok (.if_icmp .eq 953, 3) := by decide +kernel
theorem lk_c10 : hokC RL 132 3 yL_blinks cL_blinks 4 [(0, 16, 19, 13)] = true := by decide +kernel
theorem lk_m10 : xokC RL 1 134 2 10 rX11_blinks.1 = true := by decide +kernel
theorem lwd_683 : decode cL_law 683 = .ok (.aload_n 1, 1) := by decide +kernel
theorem lwd_690 : decode cL_law 690 = .ok (.aload_n 3, 1) := by decide +kernel
theorem lwd_691 : decode cL_law 691 = .ok (.invokestatic 132, 3) := by decide +kernel
theorem lwd_694 : decode cL_law 694 = .ok (.istore 6, 2) := by decide +kernel
theorem lwd_696 : decode cL_law 696 = .ok (.aload_n 2, 1) := by decide +kernel
theorem lwd_703 : decode cL_law 703 = .ok (.invokevirtual 134, 3) := by decide +kernel
theorem lwd_706 : decode cL_law 706 = .ok (.istore 7, 2) := by decide +kernel
theorem lwd_708 : decode cL_law 708 = .ok (.aload_n 2, 1) := by decide +kernel
theorem lwd_709 : decode cL_law 709 = .ok (.invokevirtual 98, 3) := by decide +kernel
theorem lwd_712 : decode cL_law 712 = .ok (.iload 6, 2) := by decide +kernel
theorem lwd_714 : decode cL_law 714 = .ok (.if_icmp .eq 5, 3) := by decide +kernel
theorem lwd_719 : decode cL_law 719 = .ok (.iload 6, 2) := by decide +kernel
theorem lwd_721 : decode cL_law 721 = .ok (.ifCond .ne 22, 3) := by decide +kernel
theorem lwd_743 : decode cL_law 743 = .ok (.goto 888, 3) := by decide +kernel
theorem lwd_724 : decode cL_law 724 = .ok (.aload_n 3, 1) := by decide +kernel
theorem lwd_725 : decode cL_law 725 = .ok (.iconst 0, 1) := by decide +kernel
theorem lwd_726 : decode cL_law 726 = .ok (.laload, 1) := by decide +kernel
theorem lwd_727 : decode cL_law 727 = .ok (.iload 7, 2) := by decide +kernel
theorem lwd_729 : decode cL_law 729 = .ok (.ifCond .eq 7, 3) := by decide +kernel
theorem lwd_736 : decode cL_law 736 = .ok (.lconst 0, 1) := by decide +kernel
theorem lwd_737 : decode cL_law 737 = .ok (.lcmp, 1) := by decide +kernel
theorem lwd_738 : decode cL_law 738 = .ok (.ifCond .eq 5, 3) := by decide +kernel
theorem lwd_732 : decode cL_law 732 = .ok (.lconst 1, 1) := by decide +kernel
theorem lwd_733 : decode cL_law 733 = .ok (.goto 4, 3) := by decide +kernel
theorem lk_c11 : hokC RL 135 3 yL_odds cL_odds 4 [(0, 9, 12, 25)] = true := by decide +kernel
theorem lk_m11 : xokC RL 1 137 2 10 rX11_odds.1 = true := by decide +kernel
theorem lwd_746 : decode cL_law 746 = .ok (.aload_n 1, 1) := by decide +kernel
theorem lwd_753 : decode cL_law 753 = .ok (.aload_n 3, 1) := by decide +kernel
theorem lwd_754 : decode cL_law 754 = .ok (.invokestatic 135, 3) := by decide +kernel
theorem lwd_757 : decode cL_law 757 = .ok (.istore 6, 2) := by decide +kernel
theorem lwd_759 : decode cL_law 759 = .ok (.aload_n 2, 1) := by decide +kernel
theorem lwd_766 : decode cL_law 766 = .ok (.invokevirtual 137, 3) := by decide +kernel
theorem lwd_769 : decode cL_law 769 = .ok (.istore 7, 2) := by decide +kernel
theorem lwd_771 : decode cL_law 771 = .ok (.aload_n 2, 1) := by decide +kernel
theorem lwd_772 : decode cL_law 772 = .ok (.invokevirtual 98, 3) := by decide +kernel
theorem lwd_775 : decode cL_law 775 = .ok (.iload 6, 2) := by decide +kernel
theorem lwd_777 : decode cL_law 777 = .ok (.if_icmp .eq 5, 3) := by decide +kernel
theorem lwd_782 : decode cL_law 782 = .ok (.iload 6, 2) := by decide +kernel
theorem lwd_784 : decode cL_law 784 = .ok (.ifCond .ne 15, 3) := by decide +kernel
theorem lwd_799 : decode cL_law 799 = .ok (.goto 832, 3) := by decide +kernel
theorem lwd_787 : decode cL_law 787 = .ok (.aload_n 3, 1) := by decide +kernel
theorem lwd_788 : decode cL_law 788 = .ok (.iconst 0, 1) := by decide +kernel
theorem lwd_789 : decode cL_law 789 = .ok (.laload, 1) := by decide +kernel
theorem lwd_790 : decode cL_law 790 = .ok (.iload 7, 2) := by decide +kernel
theorem lwd_792 : decode cL_law 792 = .ok (.i2l, 1) := by decide +kernel
theorem lwd_793 : decode cL_law 793 = .ok (.lcmp, 1) := by decide +kernel
theorem lwd_794 : decode cL_law 794 = .ok (.ifCond .eq 5, 3) := by decide +kernel
section CASES
variable {p : Program} {l : Launch} {e : Env} {s : State} {m : MethodId} {args : Array Value} {below : List Frame} {meth : Method} {c : Code}
variable {G : xG} {E : xEn} {A : Nat → Prop} {MC MS : Nat} {call : Nat → List Value → xH → Option xR} {Mt : Nat → Option xMth} {ini : Bool} {ret : Option FieldType} {PO : xPool} {Q : State → Prop}
variable {b N x i n bc bs Bd : Nat} {xs : Nat → Int32} {sh : Nat → Option xSh} {S M : xSt} {f : Nat → Int64} {g : Nat → UInt64}
theorem lw_case_8 (C : xCx p l s m args meth c xlds xexs G E A 41 call Mt RL ini cL_law 10 ret PO) (hNx : xNx s) (hX : va_X b N xs s s.heap) (hbl : b < s.heap.size) (hbA : ¬ A b) (hN : N ≤ 3072) (hSem : ∀ (d key : Nat) (M : xMth), (xT key).map (fun r => r.1) = some M → xMet xlds xexs l G E d M (xsem xT E d key)) (hc : hC sh) (hsh : ∀ j, 135 ≤ j → sh j = none) (HE : hEn E x) (HE2 : hEn E (x + 135)) (R : RR S M Bd) (hB : Bd < 2 ^ 31) (hi : i + 6 ≤ N) (hbc : bc + 8 ≤ MC) (hbs : bs + 80 ≤ MS) (kk : lwK p l e s m args below meth c MC MS Q G E A b x i sh Bd bc bs) : xTg p l e s m args below meth c 41 MC MS Q G A 10 627 (lL b x i) [] (lwW E x sh S M f g, n) bc bs := by
  refine lw_n (fun hn => ?_)
  obtain ⟨fs, hfs⟩ := wL_x (E := E) (x := x) (S := S) (M := M) (f := f) (g := g) hc.1
  have eC1 : rX10_doubt.1.2.2.2.2.1 = 0 := rfl
  have eC2 : rX10_doubt.1.2.2.2.2.2 = 0 := rfl
  have eM1 : rX11_doubt.1.2.2.2.2.1 = 0 := rfl
  have eM2 : rX11_doubt.1.2.2.2.2.2 = 0 := rfl
  have et1 : rX11_thrown.1.2.2.2.2.1 = 0 := rfl
  have et2 : rX11_thrown.1.2.2.2.2.2 = 0 := rfl
  obtain ⟨v, S', M', n', hv, R', hMc, hm⟩ := lw_cN (S := S) (M := M) (f := f) (g := g) hsh hn (fun m => T_doubt (n := n) (m := m) hc R 38 37) (hSem 41 kX10_doubt rX10_doubt.1 rfl) rfl
  obtain ⟨v, rfl, hnn⟩ := vtag_3 hv
  refine r_ald C lwd_627 (k := 1) rfl rfl ?_
  refine x_callx C (kd := 1) (idx := 123) (n := 1) (ci := 9) (M := rX10_doubt.1) (av := [.ref x]) (st := []) lk_c8 hMc rfl xsg_s (fun _ => ⟨x, _, rfl, fs, hfs⟩) (Nat.le_of_ble_eq_true rfl) (by omega) (by omega) lwd_628 ?_
  refine r_f2d C lwd_631 hnn ?_
  refine r_dst C lwd_632 (k := 6) (by decide) rfl ?_
  refine r_ald C lwd_634 (k := 2) rfl rfl ?_
  refine x_callx C (kd := 1) (idx := 127) (n := 1) (ci := 10) (M := rX11_doubt.1) (av := [.ref (x + 135)]) (st := []) lk_m8 (lw_mod (S := S') (f := f) (g := g) (hSem 41 kX11_doubt rX11_doubt.1 rfl) hm) rfl xsg_s (fun _ => ⟨x + 135, _, rfl, wL_y⟩) (Nat.le_of_ble_eq_true rfl) (by omega) (by omega) lwd_635 ?_
  refine r_f2d C lwd_638 hnn ?_
  refine r_dst C lwd_639 (k := 8) (by decide) rfl ?_
  refine r_dld C lwd_641 (k := 6) rfl ?_
  refine r_dld C lwd_643 (k := 8) rfl ?_
  refine r_dcmp C lwd_645 ?_
  refine r_ifeq C lwd_646 (t := 667) (by decide) (fun _ => ?_) (fun h1 => ?_)
  · refine r_goto C lwd_667 (t := 1631) (by decide) ?_
    exact xTg_sub (fun q hq => List.mem_cons_of_mem _ (List.mem_cons_of_mem _ (hq))) (kk S' M' f g n' _ _ (RR_mo R' (by omega)) (by omega) (by omega))
  · refine r_dld C lwd_649 (k := 6) rfl ?_
    refine r_dld C lwd_651 (k := 6) rfl ?_
    refine r_dcmp C lwd_653 ?_
    refine r_ifeq C lwd_654 (t := 665) (by decide) (fun h2 => absurd h2 h1) (fun _ => ?_)
    refine r_dld C lwd_657 (k := 8) rfl ?_
    refine r_dld C lwd_659 (k := 8) rfl ?_
    refine r_dcmp C lwd_661 ?_
    refine r_ifne C lwd_662 (t := 667) (by decide) (fun _ => ?_) (fun h2 => absurd h2 h1)
    refine r_goto C lwd_667 (t := 1631) (by decide) ?_
    exact xTg_sub (fun q hq => List.mem_cons_of_mem _ (List.mem_cons_of_mem _ (hq))) (kk S' M' f g n' _ _ (RR_mo R' (by omega)) (by omega) (by omega))
theorem lw_case_9 (C : xCx p l s m args meth c xlds xexs G E A 41 call Mt RL ini cL_law 10 ret PO) (hNx : xNx s) (hX : va_X b N xs s s.heap) (hbl : b < s.heap.size) (hbA : ¬ A b) (hN : N ≤ 3072) (hSem : ∀ (d key : Nat) (M : xMth), (xT key).map (fun r => r.1) = some M → xMet xlds xexs l G E d M (xsem xT E d key)) (hc : hC sh) (hsh : ∀ j, 135 ≤ j → sh j = none) (HE : hEn E x) (HE2 : hEn E (x + 135)) (R : RR S M Bd) (hB : Bd < 2 ^ 31) (hi : i + 6 ≤ N) (hbc : bc + 8 ≤ MC) (hbs : bs + 80 ≤ MS) (kk : lwK p l e s m args below meth c MC MS Q G E A b x i sh Bd bc bs) : xTg p l e s m args below meth c 41 MC MS Q G A 10 670 (lL b x i) [] (lwW E x sh S M f g, n) bc bs := by
  refine lw_n (fun hn => ?_)
  obtain ⟨fs, hfs⟩ := wL_x (E := E) (x := x) (S := S) (M := M) (f := f) (g := g) hc.1
  have eC1 : rX10_guess.1.2.2.2.2.1 = 0 := rfl
  have eC2 : rX10_guess.1.2.2.2.2.2 = 0 := rfl
  have eM1 : rX11_guess.1.2.2.2.2.1 = 0 := rfl
  have eM2 : rX11_guess.1.2.2.2.2.2 = 0 := rfl
  have et1 : rX11_thrown.1.2.2.2.2.1 = 0 := rfl
  have et2 : rX11_thrown.1.2.2.2.2.2 = 0 := rfl
  obtain ⟨v, S', M', n', hv, R', hMc, hm⟩ := lw_cN (S := S) (M := M) (f := f) (g := g) hsh hn (fun m => T_guess (n := n) (m := m) hc R 38 37) (hSem 41 kX10_guess rX10_guess.1 rfl) rfl
  obtain ⟨v, rfl⟩ := vtag_0 hv
  refine r_ald C lwd_670 (k := 1) rfl rfl ?_
  refine x_callx C (kd := 1) (idx := 128) (n := 1) (ci := 9) (M := rX10_guess.1) (av := [.ref x]) (st := []) lk_c9 hMc rfl xsg_s (fun _ => ⟨x, _, rfl, fs, hfs⟩) (Nat.le_of_ble_eq_true rfl) (by omega) (by omega) lwd_671 ?_
  refine r_ald C lwd_674 (k := 2) rfl rfl ?_
  refine x_callx C (kd := 1) (idx := 131) (n := 1) (ci := 10) (M := rX11_guess.1) (av := [.ref (x + 135)]) (st := [.int v]) lk_m9 (lw_mod (S := S') (f := f) (g := g) (hSem 41 kX11_guess rX11_guess.1 rfl) hm) rfl xsg_s (fun _ => ⟨x + 135, _, rfl, wL_y⟩) (Nat.le_of_ble_eq_true rfl) (by omega) (by omega) lwd_675 ?_
  refine r_cmpeq C lwd_678 (t := 1631) (by decide) ?_
  exact xTg_sub (fun q hq => hq) (kk S' M' f g n' _ _ (RR_mo R' (by omega)) (by omega) (by omega))
theorem lw_case_10 (C : xCx p l s m args meth c xlds xexs G E A 41 call Mt RL ini cL_law 10 ret PO) (hNx : xNx s) (hX : va_X b N xs s s.heap) (hbl : b < s.heap.size) (hbA : ¬ A b) (hN : N ≤ 3072) (hSem : ∀ (d key : Nat) (M : xMth), (xT key).map (fun r => r.1) = some M → xMet xlds xexs l G E d M (xsem xT E d key)) (hc : hC sh) (hsh : ∀ j, 135 ≤ j → sh j = none) (HE : hEn E x) (HE2 : hEn E (x + 135)) (R : RR S M Bd) (hB : Bd < 2 ^ 31) (hi : i + 6 ≤ N) (hbc : bc + 8 ≤ MC) (hbs : bs + 80 ≤ MS) (kk : lwK p l e s m args below meth c MC MS Q G E A b x i sh Bd bc bs) : xTg p l e s m args below meth c 41 MC MS Q G A 10 683 (lL b x i) [] (lwW E x sh S M f g, n) bc bs := by
  refine lw_n (fun hn => ?_)
  obtain ⟨fs, hfs⟩ := wL_x (E := E) (x := x) (S := S) (M := M) (f := f) (g := g) hc.1
  have eC1 : rX10_blinks.1.2.2.2.2.1 = 1 := rfl
  have eC2 : rX10_blinks.1.2.2.2.2.2 = 6 := rfl
  have eM1 : rX11_blinks.1.2.2.2.2.1 = 0 := rfl
  have eM2 : rX11_blinks.1.2.2.2.2.2 = 0 := rfl
  have et1 : rX11_thrown.1.2.2.2.2.1 = 0 := rfl
  have et2 : rX11_thrown.1.2.2.2.2.2 = 0 := rfl
  obtain ⟨u, r, f', hr4, hh, hz⟩ := lw_cI (S := S) (M := M) (f := f) (g := g) (fun v => if v = 0 then 0 else 1) (by decide) hsh hn (fun m => T_blinks (n := n) (m := m) hc R (xs (i + 1)) 37 38) (hSem 40 kX10_blinks rX10_blinks.1 rfl) rfl (fun f0 h => hl_blinks (x := x) (o := x + 146) h hfs)
  refine r_ald C lwd_683 (k := 1) rfl rfl ?_
  refine x_ld C hX hbl hbA hN (k := 1) (kz := 1) (i := i) rfl (by decide +kernel : ldOk cL_law 684 1 = true) rfl rfl (by omega) ?_
  refine r_ald C lwd_690 (k := 3) rfl rfl ?_
  refine x_callh C hNx (av := [.ref x, .int (xs (i + 1)), .ref (x + 146)]) (st := []) lk_c10 hh rfl (Nat.le_of_ble_eq_true rfl) (by omega) (by omega) lwd_691 (fun z => ?_)
  obtain ⟨S', M', v, R', hu, hm, h0, hv⟩ := hz z
  rw [hu]
  refine r_ist C lwd_694 (k := 6) (by decide) rfl ?_
  refine r_ald C lwd_696 (k := 2) rfl rfl ?_
  refine x_ld C hX hbl hbA hN (k := 1) (kz := 1) (i := i) rfl (by decide +kernel : ldOk cL_law 697 1 = true) rfl rfl (by omega) ?_
  refine x_callx C (kd := 1) (idx := 134) (n := 2) (ci := 10) (M := rX11_blinks.1) (av := [.ref (x + 135), .int (xs (i + 1))]) (st := []) lk_m10 (lw_mod (S := S') (f := f') (g := g) (hSem 41 kX11_blinks rX11_blinks.1 rfl) hm) rfl xsg_s (fun _ => ⟨x + 135, _, rfl, wL_y⟩) (Nat.le_of_ble_eq_true rfl) (by omega) (by omega) lwd_703 ?_
  refine r_ist C lwd_706 (k := 7) (by decide) rfl ?_
  refine r_ald C lwd_708 (k := 2) rfl rfl ?_
  refine x_callx C (kd := 1) (idx := 98) (n := 1) (ci := 10) (M := rX11_thrown.1) (av := [.ref (x + 135)]) (st := []) lk_t (lw_mod (S := S') (f := f') (g := g) (hSem 41 kX11_thrown rX11_thrown.1 rfl) g_thrown) rfl xsg_s (fun _ => ⟨x + 135, _, rfl, wL_y⟩) (Nat.le_of_ble_eq_true rfl) (by omega) (by omega) lwd_709 ?_
  rw [h0]
  refine r_ild C lwd_712 (k := 6) rfl ?_
  refine r_cmpeq C lwd_714 (t := 719) (by decide) ?_
  refine r_ild C lwd_719 (k := 6) rfl ?_
  refine r_ifne C lwd_721 (t := 743) (by decide) (fun _ => ?_) (fun h => ?_)
  · refine r_goto C lwd_743 (t := 1631) (by decide) ?_
    exact xTg_sub (fun q hq => List.mem_cons_of_mem _ (List.mem_cons_of_mem _ hq)) (kk S' M' f' g z _ _ (RR_mo R' (by omega)) (by omega) (by omega))
  · have hv1 := hv (nI_n0 hr4 h)
    refine r_ald C lwd_724 (k := 3) rfl rfl ?_
    refine r_ic C lwd_725 (v := nI 0) rfl ?_
    refine r_lald C lwd_726 wL_o ?_
    rw [hv1]
    refine r_ild C lwd_727 (k := 7) rfl ?_
    refine r_ifeq C lwd_729 (t := 736) (by decide) (fun h3 => ?_) (fun h3 => ?_)
    · refine r_lc C lwd_736 (v := 0) rfl ?_
      rw [if_pos h3]
      refine r_lcmp C lwd_737 ?_
      refine r_ifeq C lwd_738 (t := 743) (by decide) (fun _ => ?_) (fun h2 => absurd rfl h2)
      refine r_goto C lwd_743 (t := 1631) (by decide) ?_
      exact xTg_sub (fun q hq => List.mem_cons_of_mem _ (List.mem_cons_of_mem _ hq)) (kk S' M' f' g z _ _ (RR_mo R' (by omega)) (by omega) (by omega))
    · refine r_lc C lwd_732 (v := 1) rfl ?_
      rw [if_neg h3]
      refine r_goto C lwd_733 (t := 737) (by decide) ?_
      refine r_lcmp C lwd_737 ?_
      refine r_ifeq C lwd_738 (t := 743) (by decide) (fun _ => ?_) (fun h2 => absurd rfl h2)
      refine r_goto C lwd_743 (t := 1631) (by decide) ?_
      exact xTg_sub (fun q hq => List.mem_cons_of_mem _ (List.mem_cons_of_mem _ hq)) (kk S' M' f' g z _ _ (RR_mo R' (by omega)) (by omega) (by omega))
theorem lw_case_11 (C : xCx p l s m args meth c xlds xexs G E A 41 call Mt RL ini cL_law 10 ret PO) (hNx : xNx s) (hX : va_X b N xs s s.heap) (hbl : b < s.heap.size) (hbA : ¬ A b) (hN : N ≤ 3072) (hSem : ∀ (d key : Nat) (M : xMth), (xT key).map (fun r => r.1) = some M → xMet xlds xexs l G E d M (xsem xT E d key)) (hc : hC sh) (hsh : ∀ j, 135 ≤ j → sh j = none) (HE : hEn E x) (HE2 : hEn E (x + 135)) (R : RR S M Bd) (hB : Bd < 2 ^ 31) (hi : i + 6 ≤ N) (hbc : bc + 8 ≤ MC) (hbs : bs + 80 ≤ MS) (kk : lwK p l e s m args below meth c MC MS Q G E A b x i sh Bd bc bs) : xTg p l e s m args below meth c 41 MC MS Q G A 10 746 (lL b x i) [] (lwW E x sh S M f g, n) bc bs := by
  refine lw_n (fun hn => ?_)
  obtain ⟨fs, hfs⟩ := wL_x (E := E) (x := x) (S := S) (M := M) (f := f) (g := g) hc.1
  have eC1 : rX10_odds.1.2.2.2.2.1 = 1 := rfl
  have eC2 : rX10_odds.1.2.2.2.2.2 = 6 := rfl
  have eM1 : rX11_odds.1.2.2.2.2.1 = 0 := rfl
  have eM2 : rX11_odds.1.2.2.2.2.2 = 0 := rfl
  have et1 : rX11_thrown.1.2.2.2.2.1 = 0 := rfl
  have et2 : rX11_thrown.1.2.2.2.2.2 = 0 := rfl
  obtain ⟨u, r, f', hr4, hh, hz⟩ := lw_cI (S := S) (M := M) (f := f) (g := g) Int32.toInt64 (by decide) hsh hn (fun m => T_odds (n := n) (m := m) hc R hB (xs (i + 1)) 36 35) (hSem 40 kX10_odds rX10_odds.1 rfl) rfl (fun f0 h => hl_odds (x := x) (o := x + 146) h hfs)
  refine r_ald C lwd_746 (k := 1) rfl rfl ?_
  refine x_ld C hX hbl hbA hN (k := 1) (kz := 1) (i := i) rfl (by decide +kernel : ldOk cL_law 747 1 = true) rfl rfl (by omega) ?_
  refine r_ald C lwd_753 (k := 3) rfl rfl ?_
  refine x_callh C hNx (av := [.ref x, .int (xs (i + 1)), .ref (x + 146)]) (st := []) lk_c11 hh rfl (Nat.le_of_ble_eq_true rfl) (by omega) (by omega) lwd_754 (fun z => ?_)
  obtain ⟨S', M', v, R', hu, hm, h0, hv⟩ := hz z
  rw [hu]
  refine r_ist C lwd_757 (k := 6) (by decide) rfl ?_
  refine r_ald C lwd_759 (k := 2) rfl rfl ?_
  refine x_ld C hX hbl hbA hN (k := 1) (kz := 1) (i := i) rfl (by decide +kernel : ldOk cL_law 760 1 = true) rfl rfl (by omega) ?_
  refine x_callx C (kd := 1) (idx := 137) (n := 2) (ci := 10) (M := rX11_odds.1) (av := [.ref (x + 135), .int (xs (i + 1))]) (st := []) lk_m11 (lw_mod (S := S') (f := f') (g := g) (hSem 41 kX11_odds rX11_odds.1 rfl) hm) rfl xsg_s (fun _ => ⟨x + 135, _, rfl, wL_y⟩) (Nat.le_of_ble_eq_true rfl) (by omega) (by omega) lwd_766 ?_
  refine r_ist C lwd_769 (k := 7) (by decide) rfl ?_
  refine r_ald C lwd_771 (k := 2) rfl rfl ?_
  refine x_callx C (kd := 1) (idx := 98) (n := 1) (ci := 10) (M := rX11_thrown.1) (av := [.ref (x + 135)]) (st := []) lk_t (lw_mod (S := S') (f := f') (g := g) (hSem 41 kX11_thrown rX11_thrown.1 rfl) g_thrown) rfl xsg_s (fun _ => ⟨x + 135, _, rfl, wL_y⟩) (Nat.le_of_ble_eq_true rfl) (by omega) (by omega) lwd_772 ?_
  rw [h0]
  refine r_ild C lwd_775 (k := 6) rfl ?_
  refine r_cmpeq C lwd_777 (t := 782) (by decide) ?_
  refine r_ild C lwd_782 (k := 6) rfl ?_
  refine r_ifne C lwd_784 (t := 799) (by decide) (fun _ => ?_) (fun h => ?_)
  · refine r_goto C lwd_799 (t := 1631) (by decide) ?_
    exact xTg_sub (fun q hq => List.mem_cons_of_mem _ (List.mem_cons_of_mem _ hq)) (kk S' M' f' g z _ _ (RR_mo R' (by omega)) (by omega) (by omega))
  · have hv1 := hv (nI_n0 hr4 h)
    refine r_ald C lwd_787 (k := 3) rfl rfl ?_
    refine r_ic C lwd_788 (v := nI 0) rfl ?_
    refine r_lald C lwd_789 wL_o ?_
    rw [hv1]
    refine r_ild C lwd_790 (k := 7) rfl ?_
    refine r_i2l C lwd_792 ?_
    refine r_lcmp C lwd_793 ?_
    refine r_ifeq C lwd_794 (t := 799) (by decide) (fun _ => ?_) (fun h2 => absurd rfl h2)
    refine r_goto C lwd_799 (t := 1631) (by decide) ?_
    exact xTg_sub (fun q hq => List.mem_cons_of_mem _ (List.mem_cons_of_mem _ hq)) (kk S' M' f' g z _ _ (RR_mo R' (by omega)) (by omega) (by omega))
end CASES
