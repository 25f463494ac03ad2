/-! THE LAW'S HELPERS; written by wip/whole/genhl.py. -/
theorem hl_caught {l : Launch} {G : xG} {E : xEn} {d : Nat} {f : List Value → xH → Option xR} {x o : Nat} {a : Int32} {σ : xH} {fs : List Value} (hM : xMet xlds xexs l G E d rX10_caught.1 f) (hx0 : σ.1 x = some (.inr (8, fs))) :
    (∀ (v : Int32) (σ1 : xH) (g : Nat → Int64), f [.ref x, .int a] σ = some (.inl (some (.int v)), σ1) → σ1.1 o = some (.inl (2, 1, .inr (.inl g))) → hMet xlds xexs l G E (d + 1) yL_caught cL_caught 4 [(0, 9, 12, 13)] 1 6 [.ref x, .int a, .ref o] σ (.inl (some (.int (nI 0))), (xup σ1.1 o (.inl (2, 1, .inr (.inl (vp_updL g 0 v.toInt64)))), σ1.2))) ∧
    (∀ (σ1 : xH) (k ex : Nat), ([0] : List Nat)[k]? = some ex → f [.ref x, .int a] σ = some (.inr (xexc ex), σ1) → hMet xlds xexs l G E (d + 1) yL_caught cL_caught 4 [(0, 9, 12, 13)] 1 6 [.ref x, .int a, .ref o] σ (.inl (some (.int (nI (k + 1)))), σ1)) := by
  have hok : xokC RL 5 47 2 9 rX10_caught.1 = true := by decide +kernel
  refine ⟨fun v σ1 g hf hg => ?_, fun σ1 k ex hk hf => ?_⟩
  · refine h_open (by decide) rfl (Nat.le_of_ble_eq_true rfl) (fun p e s m below meth c ls C hS hl => ?_)
    refine lv_aload_n C.1 C.2.1 (by decide +kernel : decode cL_caught 0 = .ok (.aload_n 2, 1)) rfl (xget_has hl rfl) ?_
    refine lv_iconst C.1 C.2.1 (by decide +kernel : decode cL_caught 1 = .ok (.iconst 0, 1)) (v := nI 0) rfl ?_
    refine lv_aload_n C.1 C.2.1 (by decide +kernel : decode cL_caught 2 = .ok (.aload_n 0, 1)) rfl (xget_has hl rfl) ?_
    refine lv_iload_n C.1 C.2.1 (by decide +kernel : decode cL_caught 3 = .ok (.iload_n 1, 1)) rfl (xget_has hl rfl) ?_
    refine x_invoke C.1 C.2.1 C.2.2.1 C.2.2.2.1 C.2.2.2.2.1 C.2.2.2.2.2.1 C.2.2.2.2.2.2.1 hS C.2.2.2.2.2.2.2.1 hl.1 (kd := 5) (idx := 47) (n := 2) (ci := 9) (M := rX10_caught.1) (f := f) hok hM (av := [.ref x, .int a]) (st := [.int a, .ref x, .int (nI 0), .ref o]) (rest := [.int (nI 0), .ref o]) rfl rfl hf (fun _ => ⟨x, [.int a], rfl, Or.inl ⟨fs, hx0⟩⟩) (Nat.le_of_ble_eq_true rfl) (Nat.le_of_eq (Nat.zero_add _)) (Nat.le_of_eq (Nat.zero_add _)) (by decide +kernel : decode cL_caught 4 = .ok (.invokevirtual 47, 3)) (fun h => absurd rfl h) (fun X ce q9 z H1 locs1 q1 hS1 q3 q4 q5 => ?_) (fun v9 H1 locs1 q1 hS1 => ?_)
    · cases q1
    · cases q1
      refine lv_i2l C.1 C.2.1 (by decide +kernel : decode cL_caught 7 = .ok (.i2l, 1)) rfl ?_
      refine x_last C.1 C.2.1 C.2.2.2.2.2.1 hS1 hg vp_in_01 (by decide +kernel : decode cL_caught 8 = .ok (.lastore, 1)) (fun H2 locs2 hS2 => ?_)
      refine lv_goto C.1 C.2.1 (by decide +kernel : decode cL_caught 9 = .ok (.goto 6, 3)) (tgt := 15) (by decide) ?_
      refine lv_iconst C.1 C.2.1 (by decide +kernel : decode cL_caught 15 = .ok (.iconst 0, 1)) (v := nI 0) rfl ?_
      exact h_ret C hS2 rfl rfl (Nat.le_of_eq (Nat.zero_add _)) (Nat.le_of_eq (Nat.zero_add _)) (by decide +kernel : decode cL_caught 16 = .ok (.ireturn, 1))
  · refine h_open (by decide) rfl (Nat.le_of_ble_eq_true rfl) (fun p e s m below meth c ls C hS hl => ?_)
    refine lv_aload_n C.1 C.2.1 (by decide +kernel : decode cL_caught 0 = .ok (.aload_n 2, 1)) rfl (xget_has hl rfl) ?_
    refine lv_iconst C.1 C.2.1 (by decide +kernel : decode cL_caught 1 = .ok (.iconst 0, 1)) (v := nI 0) rfl ?_
    refine lv_aload_n C.1 C.2.1 (by decide +kernel : decode cL_caught 2 = .ok (.aload_n 0, 1)) rfl (xget_has hl rfl) ?_
    refine lv_iload_n C.1 C.2.1 (by decide +kernel : decode cL_caught 3 = .ok (.iload_n 1, 1)) rfl (xget_has hl rfl) ?_
    refine x_invoke C.1 C.2.1 C.2.2.1 C.2.2.2.1 C.2.2.2.2.1 C.2.2.2.2.2.1 C.2.2.2.2.2.2.1 hS C.2.2.2.2.2.2.2.1 hl.1 (kd := 5) (idx := 47) (n := 2) (ci := 9) (M := rX10_caught.1) (f := f) hok hM (av := [.ref x, .int a]) (st := [.int a, .ref x, .int (nI 0), .ref o]) (rest := [.int (nI 0), .ref o]) rfl rfl hf (fun _ => ⟨x, [.int a], rfl, Or.inl ⟨fs, hx0⟩⟩) (Nat.le_of_ble_eq_true rfl) (Nat.le_of_eq (Nat.zero_add _)) (Nat.le_of_eq (Nat.zero_add _)) (by decide +kernel : decode cL_caught 4 = .ok (.invokevirtual 47, 3)) (fun h => absurd rfl h) (fun X ce q9 z H1 locs1 q1 hS1 q3 q4 q5 => ?_) (fun v9 H1 locs1 q1 hS1 => ?_)
    · have hX : X = xexc ex := (Sum.inr.inj q1).symm
      subst hX
      match k, hk with
      | 0, hk =>
        cases hk
        refine h_exc C (ex := 0) [] ⟨0, 9, 12, 13⟩ [] rfl (fun z hz => absurd hz List.not_mem_nil) (by decide) (by decide) cl_13 (by decide) q3 q4 q5 ?_
        exact h_h3 C (by decide) hl hS1 rfl rfl (Nat.le_of_eq (Nat.zero_add _)) (Nat.le_of_eq (Nat.zero_add _)) (by decide +kernel : decode cL_caught 12 = .ok (.astore_n 3, 1)) (by decide +kernel : decode cL_caught 13 = .ok (.iconst 1, 1)) (by decide +kernel : decode cL_caught 14 = .ok (.ireturn, 1))
      | k + 1, hk => exact absurd hk (by simp)
    · cases q1
theorem hl_swap {l : Launch} {G : xG} {E : xEn} {d : Nat} {f : List Value → xH → Option xR} {x o : Nat} {a b : Int32} {σ : xH} {fs : List Value} (hM : xMet xlds xexs l G E d rX10_swap.1 f) (hx0 : σ.1 x = some (.inr (8, fs))) :
    (∀ (v : Int32) (σ1 : xH) (g : Nat → Int64), f [.ref x, .int a, .int b] σ = some (.inl (some (.int v)), σ1) → σ1.1 o = some (.inl (2, 1, .inr (.inl g))) → hMet xlds xexs l G E (d + 1) yL_swap cL_swap 5 [(0, 17, 20, 25), (0, 17, 24, 13)] 3 18 [.ref x, .int a, .int b, .ref o] σ (.inl (some (.int (nI 0))), (xup σ1.1 o (.inl (2, 1, .inr (.inl (vp_updL g 0 (if v = 0 then 0 else 1))))), σ1.2))) ∧
    (∀ (σ1 : xH) (k ex : Nat), ([1, 0] : List Nat)[k]? = some ex → f [.ref x, .int a, .int b] σ = some (.inr (xexc ex), σ1) → hMet xlds xexs l G E (d + 1) yL_swap cL_swap 5 [(0, 17, 20, 25), (0, 17, 24, 13)] 3 18 [.ref x, .int a, .int b, .ref o] σ (.inl (some (.int (nI (k + 1)))), σ1)) := by
  have hok : xokC RL 5 50 3 9 rX10_swap.1 = true := by decide +kernel
  refine ⟨fun v σ1 g hf hg => ?_, fun σ1 k ex hk hf => ?_⟩
  · refine h_open (by decide) rfl (Nat.le_of_ble_eq_true rfl) (fun p e s m below meth c ls C hS hl => ?_)
    refine lv_aload_n C.1 C.2.1 (by decide +kernel : decode cL_swap 0 = .ok (.aload_n 3, 1)) rfl (xget_has hl rfl) ?_
    refine lv_iconst C.1 C.2.1 (by decide +kernel : decode cL_swap 1 = .ok (.iconst 0, 1)) (v := nI 0) rfl ?_
    refine lv_aload_n C.1 C.2.1 (by decide +kernel : decode cL_swap 2 = .ok (.aload_n 0, 1)) rfl (xget_has hl rfl) ?_
    refine lv_iload_n C.1 C.2.1 (by decide +kernel : decode cL_swap 3 = .ok (.iload_n 1, 1)) rfl (xget_has hl rfl) ?_
    refine lv_iload_n C.1 C.2.1 (by decide +kernel : decode cL_swap 4 = .ok (.iload_n 2, 1)) rfl (xget_has hl rfl) ?_
    refine x_invoke C.1 C.2.1 C.2.2.1 C.2.2.2.1 C.2.2.2.2.1 C.2.2.2.2.2.1 C.2.2.2.2.2.2.1 hS C.2.2.2.2.2.2.2.1 hl.1 (kd := 5) (idx := 50) (n := 3) (ci := 9) (M := rX10_swap.1) (f := f) hok hM (av := [.ref x, .int a, .int b]) (st := [.int b, .int a, .ref x, .int (nI 0), .ref o]) (rest := [.int (nI 0), .ref o]) rfl rfl hf (fun _ => ⟨x, [.int a, .int b], rfl, Or.inl ⟨fs, hx0⟩⟩) (Nat.le_of_ble_eq_true rfl) (Nat.le_of_eq (Nat.zero_add _)) (Nat.le_of_eq (Nat.zero_add _)) (by decide +kernel : decode cL_swap 5 = .ok (.invokevirtual 50, 3)) (fun h => absurd rfl h) (fun X ce q9 z H1 locs1 q1 hS1 q3 q4 q5 => ?_) (fun v9 H1 locs1 q1 hS1 => ?_)
    · cases q1
    · cases q1
      refine lv_if_eq C.1 C.2.1 (by decide +kernel : decode cL_swap 8 = .ok (.ifCond .eq 7, 3)) (tgt := 15) (by decide) (fun hc => ?_) (fun hc => ?_)
      · rw [if_pos hc]
        refine lv_lconst C.1 C.2.1 (by decide +kernel : decode cL_swap 15 = .ok (.lconst 0, 1)) (v := 0) rfl ?_
        refine x_last C.1 C.2.1 C.2.2.2.2.2.1 hS1 hg vp_in_01 (by decide +kernel : decode cL_swap 16 = .ok (.lastore, 1)) (fun H2 locs2 hS2 => ?_)
        refine lv_goto C.1 C.2.1 (by decide +kernel : decode cL_swap 17 = .ok (.goto 11, 3)) (tgt := 28) (by decide) ?_
        refine lv_iconst C.1 C.2.1 (by decide +kernel : decode cL_swap 28 = .ok (.iconst 0, 1)) (v := nI 0) rfl ?_
        exact h_ret C hS2 rfl rfl (Nat.le_of_eq (Nat.zero_add _)) (Nat.le_of_eq (Nat.zero_add _)) (by decide +kernel : decode cL_swap 29 = .ok (.ireturn, 1))
      · rw [if_neg hc]
        refine lv_lconst C.1 C.2.1 (by decide +kernel : decode cL_swap 11 = .ok (.lconst 1, 1)) (v := 1) rfl ?_
        refine lv_goto C.1 C.2.1 (by decide +kernel : decode cL_swap 12 = .ok (.goto 4, 3)) (tgt := 16) (by decide) ?_
        refine x_last C.1 C.2.1 C.2.2.2.2.2.1 hS1 hg vp_in_01 (by decide +kernel : decode cL_swap 16 = .ok (.lastore, 1)) (fun H2 locs2 hS2 => ?_)
        refine lv_goto C.1 C.2.1 (by decide +kernel : decode cL_swap 17 = .ok (.goto 11, 3)) (tgt := 28) (by decide) ?_
        refine lv_iconst C.1 C.2.1 (by decide +kernel : decode cL_swap 28 = .ok (.iconst 0, 1)) (v := nI 0) rfl ?_
        exact h_ret C hS2 rfl rfl (Nat.le_of_eq (Nat.zero_add _)) (Nat.le_of_eq (Nat.zero_add _)) (by decide +kernel : decode cL_swap 29 = .ok (.ireturn, 1))
  · refine h_open (by decide) rfl (Nat.le_of_ble_eq_true rfl) (fun p e s m below meth c ls C hS hl => ?_)
    refine lv_aload_n C.1 C.2.1 (by decide +kernel : decode cL_swap 0 = .ok (.aload_n 3, 1)) rfl (xget_has hl rfl) ?_
    refine lv_iconst C.1 C.2.1 (by decide +kernel : decode cL_swap 1 = .ok (.iconst 0, 1)) (v := nI 0) rfl ?_
    refine lv_aload_n C.1 C.2.1 (by decide +kernel : decode cL_swap 2 = .ok (.aload_n 0, 1)) rfl (xget_has hl rfl) ?_
    refine lv_iload_n C.1 C.2.1 (by decide +kernel : decode cL_swap 3 = .ok (.iload_n 1, 1)) rfl (xget_has hl rfl) ?_
    refine lv_iload_n C.1 C.2.1 (by decide +kernel : decode cL_swap 4 = .ok (.iload_n 2, 1)) rfl (xget_has hl rfl) ?_
    refine x_invoke C.1 C.2.1 C.2.2.1 C.2.2.2.1 C.2.2.2.2.1 C.2.2.2.2.2.1 C.2.2.2.2.2.2.1 hS C.2.2.2.2.2.2.2.1 hl.1 (kd := 5) (idx := 50) (n := 3) (ci := 9) (M := rX10_swap.1) (f := f) hok hM (av := [.ref x, .int a, .int b]) (st := [.int b, .int a, .ref x, .int (nI 0), .ref o]) (rest := [.int (nI 0), .ref o]) rfl rfl hf (fun _ => ⟨x, [.int a, .int b], rfl, Or.inl ⟨fs, hx0⟩⟩) (Nat.le_of_ble_eq_true rfl) (Nat.le_of_eq (Nat.zero_add _)) (Nat.le_of_eq (Nat.zero_add _)) (by decide +kernel : decode cL_swap 5 = .ok (.invokevirtual 50, 3)) (fun h => absurd rfl h) (fun X ce q9 z H1 locs1 q1 hS1 q3 q4 q5 => ?_) (fun v9 H1 locs1 q1 hS1 => ?_)
    · have hX : X = xexc ex := (Sum.inr.inj q1).symm
      subst hX
      match k, hk with
      | 0, hk =>
        cases hk
        refine h_exc C (ex := 1) [] ⟨0, 17, 20, 25⟩ [⟨0, 17, 24, 13⟩] rfl (fun z hz => absurd hz List.not_mem_nil) (by decide) (by decide) cl_25 (by decide) q3 q4 q5 ?_
        exact h_h4 C (by decide) hl hS1 rfl rfl (Nat.le_of_eq (Nat.zero_add _)) (Nat.le_of_eq (Nat.zero_add _)) (by decide +kernel : decode cL_swap 20 = .ok (.astore 4, 2)) (by decide +kernel : decode cL_swap 22 = .ok (.iconst 1, 1)) (by decide +kernel : decode cL_swap 23 = .ok (.ireturn, 1))
      | 1, hk =>
        cases hk
        refine h_exc C (ex := 0) [⟨0, 17, 20, 25⟩] ⟨0, 17, 24, 13⟩ [] rfl (List.forall_mem_cons.mpr ⟨⟨by decide, 1, by decide, by decide, cl_25⟩, fun z hz => absurd hz List.not_mem_nil⟩) (by decide) (by decide) cl_13 (by decide) q3 q4 q5 ?_
        exact h_h4 C (by decide) hl hS1 rfl rfl (Nat.le_of_eq (Nat.zero_add _)) (Nat.le_of_eq (Nat.zero_add _)) (by decide +kernel : decode cL_swap 24 = .ok (.astore 4, 2)) (by decide +kernel : decode cL_swap 26 = .ok (.iconst 2, 1)) (by decide +kernel : decode cL_swap 27 = .ok (.ireturn, 1))
      | k + 2, hk => exact absurd hk (by simp)
    · cases q1
theorem hl_feint {l : Launch} {G : xG} {E : xEn} {d : Nat} {f : List Value → xH → Option xR} {x o : Nat} {a b : Int32} {σ : xH} {fs : List Value} (hM : xMet xlds xexs l G E d rX10_feint.1 f) (hx0 : σ.1 x = some (.inr (8, fs))) :
    (∀ (v : Int32) (σ1 : xH) (g : Nat → Int64), f [.ref x, .int a, .int b] σ = some (.inl (some (.int v)), σ1) → σ1.1 o = some (.inl (2, 1, .inr (.inl g))) → hMet xlds xexs l G E (d + 1) yL_feint cL_feint 5 [(0, 17, 20, 25), (0, 17, 24, 13)] 3 18 [.ref x, .int a, .int b, .ref o] σ (.inl (some (.int (nI 0))), (xup σ1.1 o (.inl (2, 1, .inr (.inl (vp_updL g 0 (if v = 0 then 0 else 1))))), σ1.2))) ∧
    (∀ (σ1 : xH) (k ex : Nat), ([1, 0] : List Nat)[k]? = some ex → f [.ref x, .int a, .int b] σ = some (.inr (xexc ex), σ1) → hMet xlds xexs l G E (d + 1) yL_feint cL_feint 5 [(0, 17, 20, 25), (0, 17, 24, 13)] 3 18 [.ref x, .int a, .int b, .ref o] σ (.inl (some (.int (nI (k + 1)))), σ1)) := by
  have hok : xokC RL 5 54 3 9 rX10_feint.1 = true := by decide +kernel
  refine ⟨fun v σ1 g hf hg => ?_, fun σ1 k ex hk hf => ?_⟩
  · refine h_open (by decide) rfl (Nat.le_of_ble_eq_true rfl) (fun p e s m below meth c ls C hS hl => ?_)
    refine lv_aload_n C.1 C.2.1 (by decide +kernel : decode cL_feint 0 = .ok (.aload_n 3, 1)) rfl (xget_has hl rfl) ?_
    refine lv_iconst C.1 C.2.1 (by decide +kernel : decode cL_feint 1 = .ok (.iconst 0, 1)) (v := nI 0) rfl ?_
    refine lv_aload_n C.1 C.2.1 (by decide +kernel : decode cL_feint 2 = .ok (.aload_n 0, 1)) rfl (xget_has hl rfl) ?_
    refine lv_iload_n C.1 C.2.1 (by decide +kernel : decode cL_feint 3 = .ok (.iload_n 1, 1)) rfl (xget_has hl rfl) ?_
    refine lv_iload_n C.1 C.2.1 (by decide +kernel : decode cL_feint 4 = .ok (.iload_n 2, 1)) rfl (xget_has hl rfl) ?_
    refine x_invoke C.1 C.2.1 C.2.2.1 C.2.2.2.1 C.2.2.2.2.1 C.2.2.2.2.2.1 C.2.2.2.2.2.2.1 hS C.2.2.2.2.2.2.2.1 hl.1 (kd := 5) (idx := 54) (n := 3) (ci := 9) (M := rX10_feint.1) (f := f) hok hM (av := [.ref x, .int a, .int b]) (st := [.int b, .int a, .ref x, .int (nI 0), .ref o]) (rest := [.int (nI 0), .ref o]) rfl rfl hf (fun _ => ⟨x, [.int a, .int b], rfl, Or.inl ⟨fs, hx0⟩⟩) (Nat.le_of_ble_eq_true rfl) (Nat.le_of_eq (Nat.zero_add _)) (Nat.le_of_eq (Nat.zero_add _)) (by decide +kernel : decode cL_feint 5 = .ok (.invokevirtual 54, 3)) (fun h => absurd rfl h) (fun X ce q9 z H1 locs1 q1 hS1 q3 q4 q5 => ?_) (fun v9 H1 locs1 q1 hS1 => ?_)
    · cases q1
    · cases q1
      refine lv_if_eq C.1 C.2.1 (by decide +kernel : decode cL_feint 8 = .ok (.ifCond .eq 7, 3)) (tgt := 15) (by decide) (fun hc => ?_) (fun hc => ?_)
      · rw [if_pos hc]
        refine lv_lconst C.1 C.2.1 (by decide +kernel : decode cL_feint 15 = .ok (.lconst 0, 1)) (v := 0) rfl ?_
        refine x_last C.1 C.2.1 C.2.2.2.2.2.1 hS1 hg vp_in_01 (by decide +kernel : decode cL_feint 16 = .ok (.lastore, 1)) (fun H2 locs2 hS2 => ?_)
        refine lv_goto C.1 C.2.1 (by decide +kernel : decode cL_feint 17 = .ok (.goto 11, 3)) (tgt := 28) (by decide) ?_
        refine lv_iconst C.1 C.2.1 (by decide +kernel : decode cL_feint 28 = .ok (.iconst 0, 1)) (v := nI 0) rfl ?_
        exact h_ret C hS2 rfl rfl (Nat.le_of_eq (Nat.zero_add _)) (Nat.le_of_eq (Nat.zero_add _)) (by decide +kernel : decode cL_feint 29 = .ok (.ireturn, 1))
      · rw [if_neg hc]
        refine lv_lconst C.1 C.2.1 (by decide +kernel : decode cL_feint 11 = .ok (.lconst 1, 1)) (v := 1) rfl ?_
        refine lv_goto C.1 C.2.1 (by decide +kernel : decode cL_feint 12 = .ok (.goto 4, 3)) (tgt := 16) (by decide) ?_
        refine x_last C.1 C.2.1 C.2.2.2.2.2.1 hS1 hg vp_in_01 (by decide +kernel : decode cL_feint 16 = .ok (.lastore, 1)) (fun H2 locs2 hS2 => ?_)
        refine lv_goto C.1 C.2.1 (by decide +kernel : decode cL_feint 17 = .ok (.goto 11, 3)) (tgt := 28) (by decide) ?_
        refine lv_iconst C.1 C.2.1 (by decide +kernel : decode cL_feint 28 = .ok (.iconst 0, 1)) (v := nI 0) rfl ?_
        exact h_ret C hS2 rfl rfl (Nat.le_of_eq (Nat.zero_add _)) (Nat.le_of_eq (Nat.zero_add _)) (by decide +kernel : decode cL_feint 29 = .ok (.ireturn, 1))
  · refine h_open (by decide) rfl (Nat.le_of_ble_eq_true rfl) (fun p e s m below meth c ls C hS hl => ?_)
    refine lv_aload_n C.1 C.2.1 (by decide +kernel : decode cL_feint 0 = .ok (.aload_n 3, 1)) rfl (xget_has hl rfl) ?_
    refine lv_iconst C.1 C.2.1 (by decide +kernel : decode cL_feint 1 = .ok (.iconst 0, 1)) (v := nI 0) rfl ?_
    refine lv_aload_n C.1 C.2.1 (by decide +kernel : decode cL_feint 2 = .ok (.aload_n 0, 1)) rfl (xget_has hl rfl) ?_
    refine lv_iload_n C.1 C.2.1 (by decide +kernel : decode cL_feint 3 = .ok (.iload_n 1, 1)) rfl (xget_has hl rfl) ?_
    refine lv_iload_n C.1 C.2.1 (by decide +kernel : decode cL_feint 4 = .ok (.iload_n 2, 1)) rfl (xget_has hl rfl) ?_
    refine x_invoke C.1 C.2.1 C.2.2.1 C.2.2.2.1 C.2.2.2.2.1 C.2.2.2.2.2.1 C.2.2.2.2.2.2.1 hS C.2.2.2.2.2.2.2.1 hl.1 (kd := 5) (idx := 54) (n := 3) (ci := 9) (M := rX10_feint.1) (f := f) hok hM (av := [.ref x, .int a, .int b]) (st := [.int b, .int a, .ref x, .int (nI 0), .ref o]) (rest := [.int (nI 0), .ref o]) rfl rfl hf (fun _ => ⟨x, [.int a, .int b], rfl, Or.inl ⟨fs, hx0⟩⟩) (Nat.le_of_ble_eq_true rfl) (Nat.le_of_eq (Nat.zero_add _)) (Nat.le_of_eq (Nat.zero_add _)) (by decide +kernel : decode cL_feint 5 = .ok (.invokevirtual 54, 3)) (fun h => absurd rfl h) (fun X ce q9 z H1 locs1 q1 hS1 q3 q4 q5 => ?_) (fun v9 H1 locs1 q1 hS1 => ?_)
    · have hX : X = xexc ex := (Sum.inr.inj q1).symm
      subst hX
      match k, hk with
      | 0, hk =>
        cases hk
        refine h_exc C (ex := 1) [] ⟨0, 17, 20, 25⟩ [⟨0, 17, 24, 13⟩] rfl (fun z hz => absurd hz List.not_mem_nil) (by decide) (by decide) cl_25 (by decide) q3 q4 q5 ?_
        exact h_h4 C (by decide) hl hS1 rfl rfl (Nat.le_of_eq (Nat.zero_add _)) (Nat.le_of_eq (Nat.zero_add _)) (by decide +kernel : decode cL_feint 20 = .ok (.astore 4, 2)) (by decide +kernel : decode cL_feint 22 = .ok (.iconst 1, 1)) (by decide +kernel : decode cL_feint 23 = .ok (.ireturn, 1))
      | 1, hk =>
        cases hk
        refine h_exc C (ex := 0) [⟨0, 17, 20, 25⟩] ⟨0, 17, 24, 13⟩ [] rfl (List.forall_mem_cons.mpr ⟨⟨by decide, 1, by decide, by decide, cl_25⟩, fun z hz => absurd hz List.not_mem_nil⟩) (by decide) (by decide) cl_13 (by decide) q3 q4 q5 ?_
        exact h_h4 C (by decide) hl hS1 rfl rfl (Nat.le_of_eq (Nat.zero_add _)) (Nat.le_of_eq (Nat.zero_add _)) (by decide +kernel : decode cL_feint 24 = .ok (.astore 4, 2)) (by decide +kernel : decode cL_feint 26 = .ok (.iconst 2, 1)) (by decide +kernel : decode cL_feint 27 = .ok (.ireturn, 1))
      | k + 2, hk => exact absurd hk (by simp)
    · cases q1
theorem hl_steal {l : Launch} {G : xG} {E : xEn} {d : Nat} {f : List Value → xH → Option xR} {x o : Nat} {a : Int32} {σ : xH} {fs : List Value} (hM : xMet xlds xexs l G E d rX10_steal.1 f) (hx0 : σ.1 x = some (.inr (8, fs))) :
    (∀ (v : Int32) (σ1 : xH) (g : Nat → Int64), f [.ref x, .int a] σ = some (.inl (some (.int v)), σ1) → σ1.1 o = some (.inl (2, 1, .inr (.inl g))) → hMet xlds xexs l G E (d + 1) yL_steal cL_steal 4 [(0, 9, 12, 25), (0, 9, 15, 60)] 2 12 [.ref x, .int a, .ref o] σ (.inl (some (.int (nI 0))), (xup σ1.1 o (.inl (2, 1, .inr (.inl (vp_updL g 0 v.toInt64)))), σ1.2))) ∧
    (∀ (σ1 : xH) (k ex : Nat), ([1, 2] : List Nat)[k]? = some ex → f [.ref x, .int a] σ = some (.inr (xexc ex), σ1) → hMet xlds xexs l G E (d + 1) yL_steal cL_steal 4 [(0, 9, 12, 25), (0, 9, 15, 60)] 2 12 [.ref x, .int a, .ref o] σ (.inl (some (.int (nI (k + 1)))), σ1)) := by
  have hok : xokC RL 5 57 2 9 rX10_steal.1 = true := by decide +kernel
  refine ⟨fun v σ1 g hf hg => ?_, fun σ1 k ex hk hf => ?_⟩
  · refine h_open (by decide) rfl (Nat.le_of_ble_eq_true rfl) (fun p e s m below meth c ls C hS hl => ?_)
    refine lv_aload_n C.1 C.2.1 (by decide +kernel : decode cL_steal 0 = .ok (.aload_n 2, 1)) rfl (xget_has hl rfl) ?_
    refine lv_iconst C.1 C.2.1 (by decide +kernel : decode cL_steal 1 = .ok (.iconst 0, 1)) (v := nI 0) rfl ?_
    refine lv_aload_n C.1 C.2.1 (by decide +kernel : decode cL_steal 2 = .ok (.aload_n 0, 1)) rfl (xget_has hl rfl) ?_
    refine lv_iload_n C.1 C.2.1 (by decide +kernel : decode cL_steal 3 = .ok (.iload_n 1, 1)) rfl (xget_has hl rfl) ?_
    refine x_invoke C.1 C.2.1 C.2.2.1 C.2.2.2.1 C.2.2.2.2.1 C.2.2.2.2.2.1 C.2.2.2.2.2.2.1 hS C.2.2.2.2.2.2.2.1 hl.1 (kd := 5) (idx := 57) (n := 2) (ci := 9) (M := rX10_steal.1) (f := f) hok hM (av := [.ref x, .int a]) (st := [.int a, .ref x, .int (nI 0), .ref o]) (rest := [.int (nI 0), .ref o]) rfl rfl hf (fun _ => ⟨x, [.int a], rfl, Or.inl ⟨fs, hx0⟩⟩) (Nat.le_of_ble_eq_true rfl) (Nat.le_of_eq (Nat.zero_add _)) (Nat.le_of_eq (Nat.zero_add _)) (by decide +kernel : decode cL_steal 4 = .ok (.invokevirtual 57, 3)) (fun h => absurd rfl h) (fun X ce q9 z H1 locs1 q1 hS1 q3 q4 q5 => ?_) (fun v9 H1 locs1 q1 hS1 => ?_)
    · cases q1
    · cases q1
      refine lv_i2l C.1 C.2.1 (by decide +kernel : decode cL_steal 7 = .ok (.i2l, 1)) rfl ?_
      refine x_last C.1 C.2.1 C.2.2.2.2.2.1 hS1 hg vp_in_01 (by decide +kernel : decode cL_steal 8 = .ok (.lastore, 1)) (fun H2 locs2 hS2 => ?_)
      refine lv_goto C.1 C.2.1 (by decide +kernel : decode cL_steal 9 = .ok (.goto 9, 3)) (tgt := 18) (by decide) ?_
      refine lv_iconst C.1 C.2.1 (by decide +kernel : decode cL_steal 18 = .ok (.iconst 0, 1)) (v := nI 0) rfl ?_
      exact h_ret C hS2 rfl rfl (Nat.le_of_eq (Nat.zero_add _)) (Nat.le_of_eq (Nat.zero_add _)) (by decide +kernel : decode cL_steal 19 = .ok (.ireturn, 1))
  · refine h_open (by decide) rfl (Nat.le_of_ble_eq_true rfl) (fun p e s m below meth c ls C hS hl => ?_)
    refine lv_aload_n C.1 C.2.1 (by decide +kernel : decode cL_steal 0 = .ok (.aload_n 2, 1)) rfl (xget_has hl rfl) ?_
    refine lv_iconst C.1 C.2.1 (by decide +kernel : decode cL_steal 1 = .ok (.iconst 0, 1)) (v := nI 0) rfl ?_
    refine lv_aload_n C.1 C.2.1 (by decide +kernel : decode cL_steal 2 = .ok (.aload_n 0, 1)) rfl (xget_has hl rfl) ?_
    refine lv_iload_n C.1 C.2.1 (by decide +kernel : decode cL_steal 3 = .ok (.iload_n 1, 1)) rfl (xget_has hl rfl) ?_
    refine x_invoke C.1 C.2.1 C.2.2.1 C.2.2.2.1 C.2.2.2.2.1 C.2.2.2.2.2.1 C.2.2.2.2.2.2.1 hS C.2.2.2.2.2.2.2.1 hl.1 (kd := 5) (idx := 57) (n := 2) (ci := 9) (M := rX10_steal.1) (f := f) hok hM (av := [.ref x, .int a]) (st := [.int a, .ref x, .int (nI 0), .ref o]) (rest := [.int (nI 0), .ref o]) rfl rfl hf (fun _ => ⟨x, [.int a], rfl, Or.inl ⟨fs, hx0⟩⟩) (Nat.le_of_ble_eq_true rfl) (Nat.le_of_eq (Nat.zero_add _)) (Nat.le_of_eq (Nat.zero_add _)) (by decide +kernel : decode cL_steal 4 = .ok (.invokevirtual 57, 3)) (fun h => absurd rfl h) (fun X ce q9 z H1 locs1 q1 hS1 q3 q4 q5 => ?_) (fun v9 H1 locs1 q1 hS1 => ?_)
    · have hX : X = xexc ex := (Sum.inr.inj q1).symm
      subst hX
      match k, hk with
      | 0, hk =>
        cases hk
        refine h_exc C (ex := 1) [] ⟨0, 9, 12, 25⟩ [⟨0, 9, 15, 60⟩] rfl (fun z hz => absurd hz List.not_mem_nil) (by decide) (by decide) cl_25 (by decide) q3 q4 q5 ?_
        exact h_h3 C (by decide) hl hS1 rfl rfl (Nat.le_of_eq (Nat.zero_add _)) (Nat.le_of_eq (Nat.zero_add _)) (by decide +kernel : decode cL_steal 12 = .ok (.astore_n 3, 1)) (by decide +kernel : decode cL_steal 13 = .ok (.iconst 1, 1)) (by decide +kernel : decode cL_steal 14 = .ok (.ireturn, 1))
      | 1, hk =>
        cases hk
        refine h_exc C (ex := 2) [⟨0, 9, 12, 25⟩] ⟨0, 9, 15, 60⟩ [] rfl (List.forall_mem_cons.mpr ⟨⟨by decide, 1, by decide, by decide, cl_25⟩, fun z hz => absurd hz List.not_mem_nil⟩) (by decide) (by decide) cl_60 (by decide) q3 q4 q5 ?_
        exact h_h3 C (by decide) hl hS1 rfl rfl (Nat.le_of_eq (Nat.zero_add _)) (Nat.le_of_eq (Nat.zero_add _)) (by decide +kernel : decode cL_steal 15 = .ok (.astore_n 3, 1)) (by decide +kernel : decode cL_steal 16 = .ok (.iconst 2, 1)) (by decide +kernel : decode cL_steal 17 = .ok (.ireturn, 1))
      | k + 2, hk => exact absurd hk (by simp)
    · cases q1
theorem hl_plant {l : Launch} {G : xG} {E : xEn} {d : Nat} {f : List Value → xH → Option xR} {x o : Nat} {a : Int32} {σ : xH} {fs : List Value} (hM : xMet xlds xexs l G E d rX10_plant.1 f) (hx0 : σ.1 x = some (.inr (8, fs))) :
    (∀ (v : Int32) (σ1 : xH) (g : Nat → Int64), f [.ref x, .int a] σ = some (.inl (some (.int v)), σ1) → σ1.1 o = some (.inl (2, 1, .inr (.inl g))) → hMet xlds xexs l G E (d + 1) yL_plant cL_plant 4 [(0, 9, 12, 25), (0, 9, 15, 60)] 2 12 [.ref x, .int a, .ref o] σ (.inl (some (.int (nI 0))), (xup σ1.1 o (.inl (2, 1, .inr (.inl (vp_updL g 0 v.toInt64)))), σ1.2))) ∧
    (∀ (σ1 : xH) (k ex : Nat), ([1, 2] : List Nat)[k]? = some ex → f [.ref x, .int a] σ = some (.inr (xexc ex), σ1) → hMet xlds xexs l G E (d + 1) yL_plant cL_plant 4 [(0, 9, 12, 25), (0, 9, 15, 60)] 2 12 [.ref x, .int a, .ref o] σ (.inl (some (.int (nI (k + 1)))), σ1)) := by
  have hok : xokC RL 5 62 2 9 rX10_plant.1 = true := by decide +kernel
  refine ⟨fun v σ1 g hf hg => ?_, fun σ1 k ex hk hf => ?_⟩
  · refine h_open (by decide) rfl (Nat.le_of_ble_eq_true rfl) (fun p e s m below meth c ls C hS hl => ?_)
    refine lv_aload_n C.1 C.2.1 (by decide +kernel : decode cL_plant 0 = .ok (.aload_n 2, 1)) rfl (xget_has hl rfl) ?_
    refine lv_iconst C.1 C.2.1 (by decide +kernel : decode cL_plant 1 = .ok (.iconst 0, 1)) (v := nI 0) rfl ?_
    refine lv_aload_n C.1 C.2.1 (by decide +kernel : decode cL_plant 2 = .ok (.aload_n 0, 1)) rfl (xget_has hl rfl) ?_
    refine lv_iload_n C.1 C.2.1 (by decide +kernel : decode cL_plant 3 = .ok (.iload_n 1, 1)) rfl (xget_has hl rfl) ?_
    refine x_invoke C.1 C.2.1 C.2.2.1 C.2.2.2.1 C.2.2.2.2.1 C.2.2.2.2.2.1 C.2.2.2.2.2.2.1 hS C.2.2.2.2.2.2.2.1 hl.1 (kd := 5) (idx := 62) (n := 2) (ci := 9) (M := rX10_plant.1) (f := f) hok hM (av := [.ref x, .int a]) (st := [.int a, .ref x, .int (nI 0), .ref o]) (rest := [.int (nI 0), .ref o]) rfl rfl hf (fun _ => ⟨x, [.int a], rfl, Or.inl ⟨fs, hx0⟩⟩) (Nat.le_of_ble_eq_true rfl) (Nat.le_of_eq (Nat.zero_add _)) (Nat.le_of_eq (Nat.zero_add _)) (by decide +kernel : decode cL_plant 4 = .ok (.invokevirtual 62, 3)) (fun h => absurd rfl h) (fun X ce q9 z H1 locs1 q1 hS1 q3 q4 q5 => ?_) (fun v9 H1 locs1 q1 hS1 => ?_)
    · cases q1
    · cases q1
      refine lv_i2l C.1 C.2.1 (by decide +kernel : decode cL_plant 7 = .ok (.i2l, 1)) rfl ?_
      refine x_last C.1 C.2.1 C.2.2.2.2.2.1 hS1 hg vp_in_01 (by decide +kernel : decode cL_plant 8 = .ok (.lastore, 1)) (fun H2 locs2 hS2 => ?_)
      refine lv_goto C.1 C.2.1 (by decide +kernel : decode cL_plant 9 = .ok (.goto 9, 3)) (tgt := 18) (by decide) ?_
      refine lv_iconst C.1 C.2.1 (by decide +kernel : decode cL_plant 18 = .ok (.iconst 0, 1)) (v := nI 0) rfl ?_
      exact h_ret C hS2 rfl rfl (Nat.le_of_eq (Nat.zero_add _)) (Nat.le_of_eq (Nat.zero_add _)) (by decide +kernel : decode cL_plant 19 = .ok (.ireturn, 1))
  · refine h_open (by decide) rfl (Nat.le_of_ble_eq_true rfl) (fun p e s m below meth c ls C hS hl => ?_)
    refine lv_aload_n C.1 C.2.1 (by decide +kernel : decode cL_plant 0 = .ok (.aload_n 2, 1)) rfl (xget_has hl rfl) ?_
    refine lv_iconst C.1 C.2.1 (by decide +kernel : decode cL_plant 1 = .ok (.iconst 0, 1)) (v := nI 0) rfl ?_
    refine lv_aload_n C.1 C.2.1 (by decide +kernel : decode cL_plant 2 = .ok (.aload_n 0, 1)) rfl (xget_has hl rfl) ?_
    refine lv_iload_n C.1 C.2.1 (by decide +kernel : decode cL_plant 3 = .ok (.iload_n 1, 1)) rfl (xget_has hl rfl) ?_
    refine x_invoke C.1 C.2.1 C.2.2.1 C.2.2.2.1 C.2.2.2.2.1 C.2.2.2.2.2.1 C.2.2.2.2.2.2.1 hS C.2.2.2.2.2.2.2.1 hl.1 (kd := 5) (idx := 62) (n := 2) (ci := 9) (M := rX10_plant.1) (f := f) hok hM (av := [.ref x, .int a]) (st := [.int a, .ref x, .int (nI 0), .ref o]) (rest := [.int (nI 0), .ref o]) rfl rfl hf (fun _ => ⟨x, [.int a], rfl, Or.inl ⟨fs, hx0⟩⟩) (Nat.le_of_ble_eq_true rfl) (Nat.le_of_eq (Nat.zero_add _)) (Nat.le_of_eq (Nat.zero_add _)) (by decide +kernel : decode cL_plant 4 = .ok (.invokevirtual 62, 3)) (fun h => absurd rfl h) (fun X ce q9 z H1 locs1 q1 hS1 q3 q4 q5 => ?_) (fun v9 H1 locs1 q1 hS1 => ?_)
    · have hX : X = xexc ex := (Sum.inr.inj q1).symm
      subst hX
      match k, hk with
      | 0, hk =>
        cases hk
        refine h_exc C (ex := 1) [] ⟨0, 9, 12, 25⟩ [⟨0, 9, 15, 60⟩] rfl (fun z hz => absurd hz List.not_mem_nil) (by decide) (by decide) cl_25 (by decide) q3 q4 q5 ?_
        exact h_h3 C (by decide) hl hS1 rfl rfl (Nat.le_of_eq (Nat.zero_add _)) (Nat.le_of_eq (Nat.zero_add _)) (by decide +kernel : decode cL_plant 12 = .ok (.astore_n 3, 1)) (by decide +kernel : decode cL_plant 13 = .ok (.iconst 1, 1)) (by decide +kernel : decode cL_plant 14 = .ok (.ireturn, 1))
      | 1, hk =>
        cases hk
        refine h_exc C (ex := 2) [⟨0, 9, 12, 25⟩] ⟨0, 9, 15, 60⟩ [] rfl (List.forall_mem_cons.mpr ⟨⟨by decide, 1, by decide, by decide, cl_25⟩, fun z hz => absurd hz List.not_mem_nil⟩) (by decide) (by decide) cl_60 (by decide) q3 q4 q5 ?_
        exact h_h3 C (by decide) hl hS1 rfl rfl (Nat.le_of_eq (Nat.zero_add _)) (Nat.le_of_eq (Nat.zero_add _)) (by decide +kernel : decode cL_plant 15 = .ok (.astore_n 3, 1)) (by decide +kernel : decode cL_plant 16 = .ok (.iconst 2, 1)) (by decide +kernel : decode cL_plant 17 = .ok (.ireturn, 1))
      | k + 2, hk => exact absurd hk (by simp)
    · cases q1
