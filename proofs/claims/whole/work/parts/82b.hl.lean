/-! THE LAW'S HELPERS; written by wip/whole/genhl.py. -/
theorem hl_load {l : Launch} {G : xG} {E : xEn} {d : Nat} {f : List Value → xH → Option xR} {x o : Nat} {a : Int32} {σ : xH} {fs : List Value} (hM : xMet xlds xexs l G E d rX10_load.1 f) (hx0 : σ.1 x = some (.inr (8, fs))) :
    (∀ (v : Int32) (σ1 : xH) (g : Nat → Int64), f [.ref x, .int a] σ = some (.inl (some (.int v)), σ1) → σ1.1 o = some (.inl (2, 1, .inr (.inl g))) → hMet xlds xexs l G E (d + 1) yL_load cL_load 4 [(0, 9, 12, 13)] 1 6 [.ref x, .int a, .ref o] σ (.inl (some (.int (nI 0))), (xup σ1.1 o (.inl (2, 1, .inr (.inl (vp_updL g 0 v.toInt64)))), σ1.2))) ∧
    (∀ (σ1 : xH) (k ex : Nat), ([0] : List Nat)[k]? = some ex → f [.ref x, .int a] σ = some (.inr (xexc ex), σ1) → hMet xlds xexs l G E (d + 1) yL_load cL_load 4 [(0, 9, 12, 13)] 1 6 [.ref x, .int a, .ref o] σ (.inl (some (.int (nI (k + 1)))), σ1)) := by
  have hok : xokC RL 5 7 2 9 rX10_load.1 = true := by decide +kernel
  refine ⟨fun v σ1 g hf hg => ?_, fun σ1 k ex hk hf => ?_⟩
  · refine h_open (by decide) rfl (Nat.le_of_ble_eq_true rfl) (fun p e s m below meth c ls C hS hl => ?_)
    refine lv_aload_n C.1 C.2.1 (by decide +kernel : decode cL_load 0 = .ok (.aload_n 2, 1)) rfl (xget_has hl rfl) ?_
    refine lv_iconst C.1 C.2.1 (by decide +kernel : decode cL_load 1 = .ok (.iconst 0, 1)) (v := nI 0) rfl ?_
    refine lv_aload_n C.1 C.2.1 (by decide +kernel : decode cL_load 2 = .ok (.aload_n 0, 1)) rfl (xget_has hl rfl) ?_
    refine lv_iload_n C.1 C.2.1 (by decide +kernel : decode cL_load 3 = .ok (.iload_n 1, 1)) rfl (xget_has hl rfl) ?_
    refine x_invoke C.1 C.2.1 C.2.2.1 C.2.2.2.1 C.2.2.2.2.1 C.2.2.2.2.2.1 C.2.2.2.2.2.2.1 hS C.2.2.2.2.2.2.2.1 hl.1 (kd := 5) (idx := 7) (n := 2) (ci := 9) (M := rX10_load.1) (f := f) hok hM (av := [.ref x, .int a]) (st := [.int a, .ref x, .int (nI 0), .ref o]) (rest := [.int (nI 0), .ref o]) rfl rfl hf (fun _ => ⟨x, [.int a], rfl, Or.inl ⟨fs, hx0⟩⟩) (Nat.le_of_ble_eq_true rfl) (Nat.le_of_eq (Nat.zero_add _)) (Nat.le_of_eq (Nat.zero_add _)) (by decide +kernel : decode cL_load 4 = .ok (.invokevirtual 7, 3)) (fun h => absurd rfl h) (fun X ce q9 z H1 locs1 q1 hS1 q3 q4 q5 => ?_) (fun v9 H1 locs1 q1 hS1 => ?_)
    · cases q1
    · cases q1
      refine lv_i2l C.1 C.2.1 (by decide +kernel : decode cL_load 7 = .ok (.i2l, 1)) rfl ?_
      refine x_last C.1 C.2.1 C.2.2.2.2.2.1 hS1 hg vp_in_01 (by decide +kernel : decode cL_load 8 = .ok (.lastore, 1)) (fun H2 locs2 hS2 => ?_)
      refine lv_goto C.1 C.2.1 (by decide +kernel : decode cL_load 9 = .ok (.goto 6, 3)) (tgt := 15) (by decide) ?_
      refine lv_iconst C.1 C.2.1 (by decide +kernel : decode cL_load 15 = .ok (.iconst 0, 1)) (v := nI 0) rfl ?_
      exact h_ret C hS2 rfl rfl (Nat.le_of_eq (Nat.zero_add _)) (Nat.le_of_eq (Nat.zero_add _)) (by decide +kernel : decode cL_load 16 = .ok (.ireturn, 1))
  · refine h_open (by decide) rfl (Nat.le_of_ble_eq_true rfl) (fun p e s m below meth c ls C hS hl => ?_)
    refine lv_aload_n C.1 C.2.1 (by decide +kernel : decode cL_load 0 = .ok (.aload_n 2, 1)) rfl (xget_has hl rfl) ?_
    refine lv_iconst C.1 C.2.1 (by decide +kernel : decode cL_load 1 = .ok (.iconst 0, 1)) (v := nI 0) rfl ?_
    refine lv_aload_n C.1 C.2.1 (by decide +kernel : decode cL_load 2 = .ok (.aload_n 0, 1)) rfl (xget_has hl rfl) ?_
    refine lv_iload_n C.1 C.2.1 (by decide +kernel : decode cL_load 3 = .ok (.iload_n 1, 1)) rfl (xget_has hl rfl) ?_
    refine x_invoke C.1 C.2.1 C.2.2.1 C.2.2.2.1 C.2.2.2.2.1 C.2.2.2.2.2.1 C.2.2.2.2.2.2.1 hS C.2.2.2.2.2.2.2.1 hl.1 (kd := 5) (idx := 7) (n := 2) (ci := 9) (M := rX10_load.1) (f := f) hok hM (av := [.ref x, .int a]) (st := [.int a, .ref x, .int (nI 0), .ref o]) (rest := [.int (nI 0), .ref o]) rfl rfl hf (fun _ => ⟨x, [.int a], rfl, Or.inl ⟨fs, hx0⟩⟩) (Nat.le_of_ble_eq_true rfl) (Nat.le_of_eq (Nat.zero_add _)) (Nat.le_of_eq (Nat.zero_add _)) (by decide +kernel : decode cL_load 4 = .ok (.invokevirtual 7, 3)) (fun h => absurd rfl h) (fun X ce q9 z H1 locs1 q1 hS1 q3 q4 q5 => ?_) (fun v9 H1 locs1 q1 hS1 => ?_)
    · have hX : X = xexc ex := (Sum.inr.inj q1).symm
      subst hX
      match k, hk with
      | 0, hk =>
        cases hk
        refine h_exc C (ex := 0) [] ⟨0, 9, 12, 13⟩ [] rfl (fun z hz => absurd hz List.not_mem_nil) (by decide) (by decide) cl_13 (by decide) q3 q4 q5 ?_
        exact h_h3 C (by decide) hl hS1 rfl rfl (Nat.le_of_eq (Nat.zero_add _)) (Nat.le_of_eq (Nat.zero_add _)) (by decide +kernel : decode cL_load 12 = .ok (.astore_n 3, 1)) (by decide +kernel : decode cL_load 13 = .ok (.iconst 1, 1)) (by decide +kernel : decode cL_load 14 = .ok (.ireturn, 1))
      | k + 1, hk => exact absurd hk (by simp)
    · cases q1
theorem hl_run {l : Launch} {G : xG} {E : xEn} {d : Nat} {f : List Value → xH → Option xR} {x o : Nat} {a : Int32} {σ : xH} {fs : List Value} (hM : xMet xlds xexs l G E d rX10_run.1 f) (hx0 : σ.1 x = some (.inr (8, fs))) :
    (∀ (v : Int32) (σ1 : xH) (g : Nat → Int64), f [.ref x, .int a] σ = some (.inl (some (.int v)), σ1) → σ1.1 o = some (.inl (2, 1, .inr (.inl g))) → hMet xlds xexs l G E (d + 1) yL_run cL_run 4 [(0, 9, 12, 13)] 1 6 [.ref x, .int a, .ref o] σ (.inl (some (.int (nI 0))), (xup σ1.1 o (.inl (2, 1, .inr (.inl (vp_updL g 0 v.toInt64)))), σ1.2))) ∧
    (∀ (σ1 : xH) (k ex : Nat), ([0] : List Nat)[k]? = some ex → f [.ref x, .int a] σ = some (.inr (xexc ex), σ1) → hMet xlds xexs l G E (d + 1) yL_run cL_run 4 [(0, 9, 12, 13)] 1 6 [.ref x, .int a, .ref o] σ (.inl (some (.int (nI (k + 1)))), σ1)) := by
  have hok : xokC RL 5 15 2 9 rX10_run.1 = true := by decide +kernel
  refine ⟨fun v σ1 g hf hg => ?_, fun σ1 k ex hk hf => ?_⟩
  · refine h_open (by decide) rfl (Nat.le_of_ble_eq_true rfl) (fun p e s m below meth c ls C hS hl => ?_)
    refine lv_aload_n C.1 C.2.1 (by decide +kernel : decode cL_run 0 = .ok (.aload_n 2, 1)) rfl (xget_has hl rfl) ?_
    refine lv_iconst C.1 C.2.1 (by decide +kernel : decode cL_run 1 = .ok (.iconst 0, 1)) (v := nI 0) rfl ?_
    refine lv_aload_n C.1 C.2.1 (by decide +kernel : decode cL_run 2 = .ok (.aload_n 0, 1)) rfl (xget_has hl rfl) ?_
    refine lv_iload_n C.1 C.2.1 (by decide +kernel : decode cL_run 3 = .ok (.iload_n 1, 1)) rfl (xget_has hl rfl) ?_
    refine x_invoke C.1 C.2.1 C.2.2.1 C.2.2.2.1 C.2.2.2.2.1 C.2.2.2.2.2.1 C.2.2.2.2.2.2.1 hS C.2.2.2.2.2.2.2.1 hl.1 (kd := 5) (idx := 15) (n := 2) (ci := 9) (M := rX10_run.1) (f := f) hok hM (av := [.ref x, .int a]) (st := [.int a, .ref x, .int (nI 0), .ref o]) (rest := [.int (nI 0), .ref o]) rfl rfl hf (fun _ => ⟨x, [.int a], rfl, Or.inl ⟨fs, hx0⟩⟩) (Nat.le_of_ble_eq_true rfl) (Nat.le_of_eq (Nat.zero_add _)) (Nat.le_of_eq (Nat.zero_add _)) (by decide +kernel : decode cL_run 4 = .ok (.invokevirtual 15, 3)) (fun h => absurd rfl h) (fun X ce q9 z H1 locs1 q1 hS1 q3 q4 q5 => ?_) (fun v9 H1 locs1 q1 hS1 => ?_)
    · cases q1
    · cases q1
      refine lv_i2l C.1 C.2.1 (by decide +kernel : decode cL_run 7 = .ok (.i2l, 1)) rfl ?_
      refine x_last C.1 C.2.1 C.2.2.2.2.2.1 hS1 hg vp_in_01 (by decide +kernel : decode cL_run 8 = .ok (.lastore, 1)) (fun H2 locs2 hS2 => ?_)
      refine lv_goto C.1 C.2.1 (by decide +kernel : decode cL_run 9 = .ok (.goto 6, 3)) (tgt := 15) (by decide) ?_
      refine lv_iconst C.1 C.2.1 (by decide +kernel : decode cL_run 15 = .ok (.iconst 0, 1)) (v := nI 0) rfl ?_
      exact h_ret C hS2 rfl rfl (Nat.le_of_eq (Nat.zero_add _)) (Nat.le_of_eq (Nat.zero_add _)) (by decide +kernel : decode cL_run 16 = .ok (.ireturn, 1))
  · refine h_open (by decide) rfl (Nat.le_of_ble_eq_true rfl) (fun p e s m below meth c ls C hS hl => ?_)
    refine lv_aload_n C.1 C.2.1 (by decide +kernel : decode cL_run 0 = .ok (.aload_n 2, 1)) rfl (xget_has hl rfl) ?_
    refine lv_iconst C.1 C.2.1 (by decide +kernel : decode cL_run 1 = .ok (.iconst 0, 1)) (v := nI 0) rfl ?_
    refine lv_aload_n C.1 C.2.1 (by decide +kernel : decode cL_run 2 = .ok (.aload_n 0, 1)) rfl (xget_has hl rfl) ?_
    refine lv_iload_n C.1 C.2.1 (by decide +kernel : decode cL_run 3 = .ok (.iload_n 1, 1)) rfl (xget_has hl rfl) ?_
    refine x_invoke C.1 C.2.1 C.2.2.1 C.2.2.2.1 C.2.2.2.2.1 C.2.2.2.2.2.1 C.2.2.2.2.2.2.1 hS C.2.2.2.2.2.2.2.1 hl.1 (kd := 5) (idx := 15) (n := 2) (ci := 9) (M := rX10_run.1) (f := f) hok hM (av := [.ref x, .int a]) (st := [.int a, .ref x, .int (nI 0), .ref o]) (rest := [.int (nI 0), .ref o]) rfl rfl hf (fun _ => ⟨x, [.int a], rfl, Or.inl ⟨fs, hx0⟩⟩) (Nat.le_of_ble_eq_true rfl) (Nat.le_of_eq (Nat.zero_add _)) (Nat.le_of_eq (Nat.zero_add _)) (by decide +kernel : decode cL_run 4 = .ok (.invokevirtual 15, 3)) (fun h => absurd rfl h) (fun X ce q9 z H1 locs1 q1 hS1 q3 q4 q5 => ?_) (fun v9 H1 locs1 q1 hS1 => ?_)
    · have hX : X = xexc ex := (Sum.inr.inj q1).symm
      subst hX
      match k, hk with
      | 0, hk =>
        cases hk
        refine h_exc C (ex := 0) [] ⟨0, 9, 12, 13⟩ [] rfl (fun z hz => absurd hz List.not_mem_nil) (by decide) (by decide) cl_13 (by decide) q3 q4 q5 ?_
        exact h_h3 C (by decide) hl hS1 rfl rfl (Nat.le_of_eq (Nat.zero_add _)) (Nat.le_of_eq (Nat.zero_add _)) (by decide +kernel : decode cL_run 12 = .ok (.astore_n 3, 1)) (by decide +kernel : decode cL_run 13 = .ok (.iconst 1, 1)) (by decide +kernel : decode cL_run 14 = .ok (.ireturn, 1))
      | k + 1, hk => exact absurd hk (by simp)
    · cases q1
theorem hl_state {l : Launch} {G : xG} {E : xEn} {d : Nat} {f : List Value → xH → Option xR} {x o : Nat} {a : Int32} {σ : xH} {fs : List Value} (hM : xMet xlds xexs l G E d rX10_state.1 f) (hx0 : σ.1 x = some (.inr (8, fs))) :
    (∀ (v : Int32) (σ1 : xH) (g : Nat → Int64), f [.ref x, .int a] σ = some (.inl (some (.int v)), σ1) → σ1.1 o = some (.inl (2, 1, .inr (.inl g))) → hMet xlds xexs l G E (d + 1) yL_state cL_state 4 [(0, 9, 12, 13)] 1 6 [.ref x, .int a, .ref o] σ (.inl (some (.int (nI 0))), (xup σ1.1 o (.inl (2, 1, .inr (.inl (vp_updL g 0 v.toInt64)))), σ1.2))) ∧
    (∀ (σ1 : xH) (k ex : Nat), ([0] : List Nat)[k]? = some ex → f [.ref x, .int a] σ = some (.inr (xexc ex), σ1) → hMet xlds xexs l G E (d + 1) yL_state cL_state 4 [(0, 9, 12, 13)] 1 6 [.ref x, .int a, .ref o] σ (.inl (some (.int (nI (k + 1)))), σ1)) := by
  have hok : xokC RL 5 18 2 9 rX10_state.1 = true := by decide +kernel
  refine ⟨fun v σ1 g hf hg => ?_, fun σ1 k ex hk hf => ?_⟩
  · refine h_open (by decide) rfl (Nat.le_of_ble_eq_true rfl) (fun p e s m below meth c ls C hS hl => ?_)
    refine lv_aload_n C.1 C.2.1 (by decide +kernel : decode cL_state 0 = .ok (.aload_n 2, 1)) rfl (xget_has hl rfl) ?_
    refine lv_iconst C.1 C.2.1 (by decide +kernel : decode cL_state 1 = .ok (.iconst 0, 1)) (v := nI 0) rfl ?_
    refine lv_aload_n C.1 C.2.1 (by decide +kernel : decode cL_state 2 = .ok (.aload_n 0, 1)) rfl (xget_has hl rfl) ?_
    refine lv_iload_n C.1 C.2.1 (by decide +kernel : decode cL_state 3 = .ok (.iload_n 1, 1)) rfl (xget_has hl rfl) ?_
    refine x_invoke C.1 C.2.1 C.2.2.1 C.2.2.2.1 C.2.2.2.2.1 C.2.2.2.2.2.1 C.2.2.2.2.2.2.1 hS C.2.2.2.2.2.2.2.1 hl.1 (kd := 5) (idx := 18) (n := 2) (ci := 9) (M := rX10_state.1) (f := f) hok hM (av := [.ref x, .int a]) (st := [.int a, .ref x, .int (nI 0), .ref o]) (rest := [.int (nI 0), .ref o]) rfl rfl hf (fun _ => ⟨x, [.int a], rfl, Or.inl ⟨fs, hx0⟩⟩) (Nat.le_of_ble_eq_true rfl) (Nat.le_of_eq (Nat.zero_add _)) (Nat.le_of_eq (Nat.zero_add _)) (by decide +kernel : decode cL_state 4 = .ok (.invokevirtual 18, 3)) (fun h => absurd rfl h) (fun X ce q9 z H1 locs1 q1 hS1 q3 q4 q5 => ?_) (fun v9 H1 locs1 q1 hS1 => ?_)
    · cases q1
    · cases q1
      refine lv_i2l C.1 C.2.1 (by decide +kernel : decode cL_state 7 = .ok (.i2l, 1)) rfl ?_
      refine x_last C.1 C.2.1 C.2.2.2.2.2.1 hS1 hg vp_in_01 (by decide +kernel : decode cL_state 8 = .ok (.lastore, 1)) (fun H2 locs2 hS2 => ?_)
      refine lv_goto C.1 C.2.1 (by decide +kernel : decode cL_state 9 = .ok (.goto 6, 3)) (tgt := 15) (by decide) ?_
      refine lv_iconst C.1 C.2.1 (by decide +kernel : decode cL_state 15 = .ok (.iconst 0, 1)) (v := nI 0) rfl ?_
      exact h_ret C hS2 rfl rfl (Nat.le_of_eq (Nat.zero_add _)) (Nat.le_of_eq (Nat.zero_add _)) (by decide +kernel : decode cL_state 16 = .ok (.ireturn, 1))
  · refine h_open (by decide) rfl (Nat.le_of_ble_eq_true rfl) (fun p e s m below meth c ls C hS hl => ?_)
    refine lv_aload_n C.1 C.2.1 (by decide +kernel : decode cL_state 0 = .ok (.aload_n 2, 1)) rfl (xget_has hl rfl) ?_
    refine lv_iconst C.1 C.2.1 (by decide +kernel : decode cL_state 1 = .ok (.iconst 0, 1)) (v := nI 0) rfl ?_
    refine lv_aload_n C.1 C.2.1 (by decide +kernel : decode cL_state 2 = .ok (.aload_n 0, 1)) rfl (xget_has hl rfl) ?_
    refine lv_iload_n C.1 C.2.1 (by decide +kernel : decode cL_state 3 = .ok (.iload_n 1, 1)) rfl (xget_has hl rfl) ?_
    refine x_invoke C.1 C.2.1 C.2.2.1 C.2.2.2.1 C.2.2.2.2.1 C.2.2.2.2.2.1 C.2.2.2.2.2.2.1 hS C.2.2.2.2.2.2.2.1 hl.1 (kd := 5) (idx := 18) (n := 2) (ci := 9) (M := rX10_state.1) (f := f) hok hM (av := [.ref x, .int a]) (st := [.int a, .ref x, .int (nI 0), .ref o]) (rest := [.int (nI 0), .ref o]) rfl rfl hf (fun _ => ⟨x, [.int a], rfl, Or.inl ⟨fs, hx0⟩⟩) (Nat.le_of_ble_eq_true rfl) (Nat.le_of_eq (Nat.zero_add _)) (Nat.le_of_eq (Nat.zero_add _)) (by decide +kernel : decode cL_state 4 = .ok (.invokevirtual 18, 3)) (fun h => absurd rfl h) (fun X ce q9 z H1 locs1 q1 hS1 q3 q4 q5 => ?_) (fun v9 H1 locs1 q1 hS1 => ?_)
    · have hX : X = xexc ex := (Sum.inr.inj q1).symm
      subst hX
      match k, hk with
      | 0, hk =>
        cases hk
        refine h_exc C (ex := 0) [] ⟨0, 9, 12, 13⟩ [] rfl (fun z hz => absurd hz List.not_mem_nil) (by decide) (by decide) cl_13 (by decide) q3 q4 q5 ?_
        exact h_h3 C (by decide) hl hS1 rfl rfl (Nat.le_of_eq (Nat.zero_add _)) (Nat.le_of_eq (Nat.zero_add _)) (by decide +kernel : decode cL_state 12 = .ok (.astore_n 3, 1)) (by decide +kernel : decode cL_state 13 = .ok (.iconst 1, 1)) (by decide +kernel : decode cL_state 14 = .ok (.ireturn, 1))
      | k + 1, hk => exact absurd hk (by simp)
    · cases q1
theorem hl_shell {l : Launch} {G : xG} {E : xEn} {d : Nat} {f : List Value → xH → Option xR} {x o : Nat} {a b : Int32} {σ : xH} {fs : List Value} (hM : xMet xlds xexs l G E d rX10_shell.1 f) (hx0 : σ.1 x = some (.inr (8, fs))) :
    (∀ (v : Int32) (σ1 : xH) (g : Nat → Int64), f [.ref x, .int a, .int b] σ = some (.inl (some (.int v)), σ1) → σ1.1 o = some (.inl (2, 1, .inr (.inl g))) → hMet xlds xexs l G E (d + 1) yL_shell cL_shell 5 [(0, 10, 13, 25), (0, 10, 17, 13)] 2 12 [.ref x, .int a, .int b, .ref o] σ (.inl (some (.int (nI 0))), (xup σ1.1 o (.inl (2, 1, .inr (.inl (vp_updL g 0 v.toInt64)))), σ1.2))) ∧
    (∀ (σ1 : xH) (k ex : Nat), ([1, 0] : List Nat)[k]? = some ex → f [.ref x, .int a, .int b] σ = some (.inr (xexc ex), σ1) → hMet xlds xexs l G E (d + 1) yL_shell cL_shell 5 [(0, 10, 13, 25), (0, 10, 17, 13)] 2 12 [.ref x, .int a, .int b, .ref o] σ (.inl (some (.int (nI (k + 1)))), σ1)) := by
  have hok : xokC RL 5 21 3 9 rX10_shell.1 = true := by decide +kernel
  refine ⟨fun v σ1 g hf hg => ?_, fun σ1 k ex hk hf => ?_⟩
  · refine h_open (by decide) rfl (Nat.le_of_ble_eq_true rfl) (fun p e s m below meth c ls C hS hl => ?_)
    refine lv_aload_n C.1 C.2.1 (by decide +kernel : decode cL_shell 0 = .ok (.aload_n 3, 1)) rfl (xget_has hl rfl) ?_
    refine lv_iconst C.1 C.2.1 (by decide +kernel : decode cL_shell 1 = .ok (.iconst 0, 1)) (v := nI 0) rfl ?_
    refine lv_aload_n C.1 C.2.1 (by decide +kernel : decode cL_shell 2 = .ok (.aload_n 0, 1)) rfl (xget_has hl rfl) ?_
    refine lv_iload_n C.1 C.2.1 (by decide +kernel : decode cL_shell 3 = .ok (.iload_n 1, 1)) rfl (xget_has hl rfl) ?_
    refine lv_iload_n C.1 C.2.1 (by decide +kernel : decode cL_shell 4 = .ok (.iload_n 2, 1)) rfl (xget_has hl rfl) ?_
    refine x_invoke C.1 C.2.1 C.2.2.1 C.2.2.2.1 C.2.2.2.2.1 C.2.2.2.2.2.1 C.2.2.2.2.2.2.1 hS C.2.2.2.2.2.2.2.1 hl.1 (kd := 5) (idx := 21) (n := 3) (ci := 9) (M := rX10_shell.1) (f := f) hok hM (av := [.ref x, .int a, .int b]) (st := [.int b, .int a, .ref x, .int (nI 0), .ref o]) (rest := [.int (nI 0), .ref o]) rfl rfl hf (fun _ => ⟨x, [.int a, .int b], rfl, Or.inl ⟨fs, hx0⟩⟩) (Nat.le_of_ble_eq_true rfl) (Nat.le_of_eq (Nat.zero_add _)) (Nat.le_of_eq (Nat.zero_add _)) (by decide +kernel : decode cL_shell 5 = .ok (.invokevirtual 21, 3)) (fun h => absurd rfl h) (fun X ce q9 z H1 locs1 q1 hS1 q3 q4 q5 => ?_) (fun v9 H1 locs1 q1 hS1 => ?_)
    · cases q1
    · cases q1
      refine lv_i2l C.1 C.2.1 (by decide +kernel : decode cL_shell 8 = .ok (.i2l, 1)) rfl ?_
      refine x_last C.1 C.2.1 C.2.2.2.2.2.1 hS1 hg vp_in_01 (by decide +kernel : decode cL_shell 9 = .ok (.lastore, 1)) (fun H2 locs2 hS2 => ?_)
      refine lv_goto C.1 C.2.1 (by decide +kernel : decode cL_shell 10 = .ok (.goto 11, 3)) (tgt := 21) (by decide) ?_
      refine lv_iconst C.1 C.2.1 (by decide +kernel : decode cL_shell 21 = .ok (.iconst 0, 1)) (v := nI 0) rfl ?_
      exact h_ret C hS2 rfl rfl (Nat.le_of_eq (Nat.zero_add _)) (Nat.le_of_eq (Nat.zero_add _)) (by decide +kernel : decode cL_shell 22 = .ok (.ireturn, 1))
  · refine h_open (by decide) rfl (Nat.le_of_ble_eq_true rfl) (fun p e s m below meth c ls C hS hl => ?_)
    refine lv_aload_n C.1 C.2.1 (by decide +kernel : decode cL_shell 0 = .ok (.aload_n 3, 1)) rfl (xget_has hl rfl) ?_
    refine lv_iconst C.1 C.2.1 (by decide +kernel : decode cL_shell 1 = .ok (.iconst 0, 1)) (v := nI 0) rfl ?_
    refine lv_aload_n C.1 C.2.1 (by decide +kernel : decode cL_shell 2 = .ok (.aload_n 0, 1)) rfl (xget_has hl rfl) ?_
    refine lv_iload_n C.1 C.2.1 (by decide +kernel : decode cL_shell 3 = .ok (.iload_n 1, 1)) rfl (xget_has hl rfl) ?_
    refine lv_iload_n C.1 C.2.1 (by decide +kernel : decode cL_shell 4 = .ok (.iload_n 2, 1)) rfl (xget_has hl rfl) ?_
    refine x_invoke C.1 C.2.1 C.2.2.1 C.2.2.2.1 C.2.2.2.2.1 C.2.2.2.2.2.1 C.2.2.2.2.2.2.1 hS C.2.2.2.2.2.2.2.1 hl.1 (kd := 5) (idx := 21) (n := 3) (ci := 9) (M := rX10_shell.1) (f := f) hok hM (av := [.ref x, .int a, .int b]) (st := [.int b, .int a, .ref x, .int (nI 0), .ref o]) (rest := [.int (nI 0), .ref o]) rfl rfl hf (fun _ => ⟨x, [.int a, .int b], rfl, Or.inl ⟨fs, hx0⟩⟩) (Nat.le_of_ble_eq_true rfl) (Nat.le_of_eq (Nat.zero_add _)) (Nat.le_of_eq (Nat.zero_add _)) (by decide +kernel : decode cL_shell 5 = .ok (.invokevirtual 21, 3)) (fun h => absurd rfl h) (fun X ce q9 z H1 locs1 q1 hS1 q3 q4 q5 => ?_) (fun v9 H1 locs1 q1 hS1 => ?_)
    · have hX : X = xexc ex := (Sum.inr.inj q1).symm
      subst hX
      match k, hk with
      | 0, hk =>
        cases hk
        refine h_exc C (ex := 1) [] ⟨0, 10, 13, 25⟩ [⟨0, 10, 17, 13⟩] rfl (fun z hz => absurd hz List.not_mem_nil) (by decide) (by decide) cl_25 (by decide) q3 q4 q5 ?_
        exact h_h4 C (by decide) hl hS1 rfl rfl (Nat.le_of_eq (Nat.zero_add _)) (Nat.le_of_eq (Nat.zero_add _)) (by decide +kernel : decode cL_shell 13 = .ok (.astore 4, 2)) (by decide +kernel : decode cL_shell 15 = .ok (.iconst 1, 1)) (by decide +kernel : decode cL_shell 16 = .ok (.ireturn, 1))
      | 1, hk =>
        cases hk
        refine h_exc C (ex := 0) [⟨0, 10, 13, 25⟩] ⟨0, 10, 17, 13⟩ [] rfl (List.forall_mem_cons.mpr ⟨⟨by decide, 1, by decide, by decide, cl_25⟩, fun z hz => absurd hz List.not_mem_nil⟩) (by decide) (by decide) cl_13 (by decide) q3 q4 q5 ?_
        exact h_h4 C (by decide) hl hS1 rfl rfl (Nat.le_of_eq (Nat.zero_add _)) (Nat.le_of_eq (Nat.zero_add _)) (by decide +kernel : decode cL_shell 17 = .ok (.astore 4, 2)) (by decide +kernel : decode cL_shell 19 = .ok (.iconst 2, 1)) (by decide +kernel : decode cL_shell 20 = .ok (.ireturn, 1))
      | k + 2, hk => exact absurd hk (by simp)
    · cases q1
theorem hl_belief {l : Launch} {G : xG} {E : xEn} {d : Nat} {f : List Value → xH → Option xR} {x o : Nat} {a : Int32} {σ : xH} {fs : List Value} (hM : xMet xlds xexs l G E d rX10_belief.1 f) (hx0 : σ.1 x = some (.inr (8, fs))) :
    (∀ (v : Int32) (σ1 : xH) (g : Nat → Int64), f [.ref x, .int a] σ = some (.inl (some (.int v)), σ1) → σ1.1 o = some (.inl (2, 1, .inr (.inl g))) → hMet xlds xexs l G E (d + 1) yL_belief cL_belief 4 [(0, 9, 12, 13)] 1 6 [.ref x, .int a, .ref o] σ (.inl (some (.int (nI 0))), (xup σ1.1 o (.inl (2, 1, .inr (.inl (vp_updL g 0 v.toInt64)))), σ1.2))) ∧
    (∀ (σ1 : xH) (k ex : Nat), ([0] : List Nat)[k]? = some ex → f [.ref x, .int a] σ = some (.inr (xexc ex), σ1) → hMet xlds xexs l G E (d + 1) yL_belief cL_belief 4 [(0, 9, 12, 13)] 1 6 [.ref x, .int a, .ref o] σ (.inl (some (.int (nI (k + 1)))), σ1)) := by
  have hok : xokC RL 5 27 2 9 rX10_belief.1 = true := by decide +kernel
  refine ⟨fun v σ1 g hf hg => ?_, fun σ1 k ex hk hf => ?_⟩
  · refine h_open (by decide) rfl (Nat.le_of_ble_eq_true rfl) (fun p e s m below meth c ls C hS hl => ?_)
    refine lv_aload_n C.1 C.2.1 (by decide +kernel : decode cL_belief 0 = .ok (.aload_n 2, 1)) rfl (xget_has hl rfl) ?_
    refine lv_iconst C.1 C.2.1 (by decide +kernel : decode cL_belief 1 = .ok (.iconst 0, 1)) (v := nI 0) rfl ?_
    refine lv_aload_n C.1 C.2.1 (by decide +kernel : decode cL_belief 2 = .ok (.aload_n 0, 1)) rfl (xget_has hl rfl) ?_
    refine lv_iload_n C.1 C.2.1 (by decide +kernel : decode cL_belief 3 = .ok (.iload_n 1, 1)) rfl (xget_has hl rfl) ?_
    refine x_invoke C.1 C.2.1 C.2.2.1 C.2.2.2.1 C.2.2.2.2.1 C.2.2.2.2.2.1 C.2.2.2.2.2.2.1 hS C.2.2.2.2.2.2.2.1 hl.1 (kd := 5) (idx := 27) (n := 2) (ci := 9) (M := rX10_belief.1) (f := f) hok hM (av := [.ref x, .int a]) (st := [.int a, .ref x, .int (nI 0), .ref o]) (rest := [.int (nI 0), .ref o]) rfl rfl hf (fun _ => ⟨x, [.int a], rfl, Or.inl ⟨fs, hx0⟩⟩) (Nat.le_of_ble_eq_true rfl) (Nat.le_of_eq (Nat.zero_add _)) (Nat.le_of_eq (Nat.zero_add _)) (by decide +kernel : decode cL_belief 4 = .ok (.invokevirtual 27, 3)) (fun h => absurd rfl h) (fun X ce q9 z H1 locs1 q1 hS1 q3 q4 q5 => ?_) (fun v9 H1 locs1 q1 hS1 => ?_)
    · cases q1
    · cases q1
      refine lv_i2l C.1 C.2.1 (by decide +kernel : decode cL_belief 7 = .ok (.i2l, 1)) rfl ?_
      refine x_last C.1 C.2.1 C.2.2.2.2.2.1 hS1 hg vp_in_01 (by decide +kernel : decode cL_belief 8 = .ok (.lastore, 1)) (fun H2 locs2 hS2 => ?_)
      refine lv_goto C.1 C.2.1 (by decide +kernel : decode cL_belief 9 = .ok (.goto 6, 3)) (tgt := 15) (by decide) ?_
      refine lv_iconst C.1 C.2.1 (by decide +kernel : decode cL_belief 15 = .ok (.iconst 0, 1)) (v := nI 0) rfl ?_
      exact h_ret C hS2 rfl rfl (Nat.le_of_eq (Nat.zero_add _)) (Nat.le_of_eq (Nat.zero_add _)) (by decide +kernel : decode cL_belief 16 = .ok (.ireturn, 1))
  · refine h_open (by decide) rfl (Nat.le_of_ble_eq_true rfl) (fun p e s m below meth c ls C hS hl => ?_)
    refine lv_aload_n C.1 C.2.1 (by decide +kernel : decode cL_belief 0 = .ok (.aload_n 2, 1)) rfl (xget_has hl rfl) ?_
    refine lv_iconst C.1 C.2.1 (by decide +kernel : decode cL_belief 1 = .ok (.iconst 0, 1)) (v := nI 0) rfl ?_
    refine lv_aload_n C.1 C.2.1 (by decide +kernel : decode cL_belief 2 = .ok (.aload_n 0, 1)) rfl (xget_has hl rfl) ?_
    refine lv_iload_n C.1 C.2.1 (by decide +kernel : decode cL_belief 3 = .ok (.iload_n 1, 1)) rfl (xget_has hl rfl) ?_
    refine x_invoke C.1 C.2.1 C.2.2.1 C.2.2.2.1 C.2.2.2.2.1 C.2.2.2.2.2.1 C.2.2.2.2.2.2.1 hS C.2.2.2.2.2.2.2.1 hl.1 (kd := 5) (idx := 27) (n := 2) (ci := 9) (M := rX10_belief.1) (f := f) hok hM (av := [.ref x, .int a]) (st := [.int a, .ref x, .int (nI 0), .ref o]) (rest := [.int (nI 0), .ref o]) rfl rfl hf (fun _ => ⟨x, [.int a], rfl, Or.inl ⟨fs, hx0⟩⟩) (Nat.le_of_ble_eq_true rfl) (Nat.le_of_eq (Nat.zero_add _)) (Nat.le_of_eq (Nat.zero_add _)) (by decide +kernel : decode cL_belief 4 = .ok (.invokevirtual 27, 3)) (fun h => absurd rfl h) (fun X ce q9 z H1 locs1 q1 hS1 q3 q4 q5 => ?_) (fun v9 H1 locs1 q1 hS1 => ?_)
    · have hX : X = xexc ex := (Sum.inr.inj q1).symm
      subst hX
      match k, hk with
      | 0, hk =>
        cases hk
        refine h_exc C (ex := 0) [] ⟨0, 9, 12, 13⟩ [] rfl (fun z hz => absurd hz List.not_mem_nil) (by decide) (by decide) cl_13 (by decide) q3 q4 q5 ?_
        exact h_h3 C (by decide) hl hS1 rfl rfl (Nat.le_of_eq (Nat.zero_add _)) (Nat.le_of_eq (Nat.zero_add _)) (by decide +kernel : decode cL_belief 12 = .ok (.astore_n 3, 1)) (by decide +kernel : decode cL_belief 13 = .ok (.iconst 1, 1)) (by decide +kernel : decode cL_belief 14 = .ok (.ireturn, 1))
      | k + 1, hk => exact absurd hk (by simp)
    · cases q1
