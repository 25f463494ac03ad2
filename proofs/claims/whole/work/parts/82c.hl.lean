/-! THE LAW'S HELPERS; written by wip/whole/genhl.py. -/
theorem hl_chance {l : Launch} {G : xG} {E : xEn} {d : Nat} {f : List Value → xH → Option xR} {x o : Nat} {a : Int32} {σ : xH} {fs : List Value} (hM : xMet xlds xexs l G E d rX10_chance.1 f) (hx0 : σ.1 x = some (.inr (8, fs))) :
    (∀ (v : UInt64) (σ1 : xH) (g : Nat → UInt64), f [.ref x, .int a] σ = some (.inl (some (.double v)), σ1) → σ1.1 o = some (.inl (3, 1, .inr (.inr (.inr (.inl g))))) → hMet xlds xexs l G E (d + 1) yL_chance cL_chance 4 [(0, 8, 11, 13)] 1 6 [.ref x, .int a, .ref o] σ (.inl (some (.int (nI 0))), (xup σ1.1 o (.inl (3, 1, .inr (.inr (.inr (.inl (vf_upd g 0 v)))))), σ1.2))) ∧
    (∀ (σ1 : xH) (k ex : Nat), ([0] : List Nat)[k]? = some ex → f [.ref x, .int a] σ = some (.inr (xexc ex), σ1) → hMet xlds xexs l G E (d + 1) yL_chance cL_chance 4 [(0, 8, 11, 13)] 1 6 [.ref x, .int a, .ref o] σ (.inl (some (.int (nI (k + 1)))), σ1)) := by
  have hok : xokC RL 5 30 2 9 rX10_chance.1 = true := by decide +kernel
  refine ⟨fun v σ1 g hf hg => ?_, fun σ1 k ex hk hf => ?_⟩
  · refine h_open (by decide) rfl (Nat.le_of_ble_eq_true rfl) (fun p e s m below meth c ls C hS hl => ?_)
    refine lv_aload_n C.1 C.2.1 (by decide +kernel : decode cL_chance 0 = .ok (.aload_n 2, 1)) rfl (xget_has hl rfl) ?_
    refine lv_iconst C.1 C.2.1 (by decide +kernel : decode cL_chance 1 = .ok (.iconst 0, 1)) (v := nI 0) rfl ?_
    refine lv_aload_n C.1 C.2.1 (by decide +kernel : decode cL_chance 2 = .ok (.aload_n 0, 1)) rfl (xget_has hl rfl) ?_
    refine lv_iload_n C.1 C.2.1 (by decide +kernel : decode cL_chance 3 = .ok (.iload_n 1, 1)) rfl (xget_has hl rfl) ?_
    refine x_invoke C.1 C.2.1 C.2.2.1 C.2.2.2.1 C.2.2.2.2.1 C.2.2.2.2.2.1 C.2.2.2.2.2.2.1 hS C.2.2.2.2.2.2.2.1 hl.1 (kd := 5) (idx := 30) (n := 2) (ci := 9) (M := rX10_chance.1) (f := f) hok hM (av := [.ref x, .int a]) (st := [.int a, .ref x, .int (nI 0), .ref o]) (rest := [.int (nI 0), .ref o]) rfl rfl hf (fun _ => ⟨x, [.int a], rfl, Or.inl ⟨fs, hx0⟩⟩) (Nat.le_of_ble_eq_true rfl) (Nat.le_of_eq (Nat.zero_add _)) (Nat.le_of_eq (Nat.zero_add _)) (by decide +kernel : decode cL_chance 4 = .ok (.invokevirtual 30, 3)) (fun h => absurd rfl h) (fun X ce q9 z H1 locs1 q1 hS1 q3 q4 q5 => ?_) (fun v9 H1 locs1 q1 hS1 => ?_)
    · cases q1
    · cases q1
      refine x_dast C.1 C.2.1 C.2.2.2.2.2.1 hS1 hg vp_in_01 (by decide +kernel : decode cL_chance 7 = .ok (.dastore, 1)) (fun H2 locs2 hS2 => ?_)
      refine lv_goto C.1 C.2.1 (by decide +kernel : decode cL_chance 8 = .ok (.goto 6, 3)) (tgt := 14) (by decide) ?_
      refine lv_iconst C.1 C.2.1 (by decide +kernel : decode cL_chance 14 = .ok (.iconst 0, 1)) (v := nI 0) rfl ?_
      exact h_ret C hS2 rfl rfl (Nat.le_of_eq (Nat.zero_add _)) (Nat.le_of_eq (Nat.zero_add _)) (by decide +kernel : decode cL_chance 15 = .ok (.ireturn, 1))
  · refine h_open (by decide) rfl (Nat.le_of_ble_eq_true rfl) (fun p e s m below meth c ls C hS hl => ?_)
    refine lv_aload_n C.1 C.2.1 (by decide +kernel : decode cL_chance 0 = .ok (.aload_n 2, 1)) rfl (xget_has hl rfl) ?_
    refine lv_iconst C.1 C.2.1 (by decide +kernel : decode cL_chance 1 = .ok (.iconst 0, 1)) (v := nI 0) rfl ?_
    refine lv_aload_n C.1 C.2.1 (by decide +kernel : decode cL_chance 2 = .ok (.aload_n 0, 1)) rfl (xget_has hl rfl) ?_
    refine lv_iload_n C.1 C.2.1 (by decide +kernel : decode cL_chance 3 = .ok (.iload_n 1, 1)) rfl (xget_has hl rfl) ?_
    refine x_invoke C.1 C.2.1 C.2.2.1 C.2.2.2.1 C.2.2.2.2.1 C.2.2.2.2.2.1 C.2.2.2.2.2.2.1 hS C.2.2.2.2.2.2.2.1 hl.1 (kd := 5) (idx := 30) (n := 2) (ci := 9) (M := rX10_chance.1) (f := f) hok hM (av := [.ref x, .int a]) (st := [.int a, .ref x, .int (nI 0), .ref o]) (rest := [.int (nI 0), .ref o]) rfl rfl hf (fun _ => ⟨x, [.int a], rfl, Or.inl ⟨fs, hx0⟩⟩) (Nat.le_of_ble_eq_true rfl) (Nat.le_of_eq (Nat.zero_add _)) (Nat.le_of_eq (Nat.zero_add _)) (by decide +kernel : decode cL_chance 4 = .ok (.invokevirtual 30, 3)) (fun h => absurd rfl h) (fun X ce q9 z H1 locs1 q1 hS1 q3 q4 q5 => ?_) (fun v9 H1 locs1 q1 hS1 => ?_)
    · have hX : X = xexc ex := (Sum.inr.inj q1).symm
      subst hX
      match k, hk with
      | 0, hk =>
        cases hk
        refine h_exc C (ex := 0) [] ⟨0, 8, 11, 13⟩ [] rfl (fun z hz => absurd hz List.not_mem_nil) (by decide) (by decide) cl_13 (by decide) q3 q4 q5 ?_
        exact h_h3 C (by decide) hl hS1 rfl rfl (Nat.le_of_eq (Nat.zero_add _)) (Nat.le_of_eq (Nat.zero_add _)) (by decide +kernel : decode cL_chance 11 = .ok (.astore_n 3, 1)) (by decide +kernel : decode cL_chance 12 = .ok (.iconst 1, 1)) (by decide +kernel : decode cL_chance 13 = .ok (.ireturn, 1))
      | k + 1, hk => exact absurd hk (by simp)
    · cases q1
theorem hl_blinks {l : Launch} {G : xG} {E : xEn} {d : Nat} {f : List Value → xH → Option xR} {x o : Nat} {a : Int32} {σ : xH} {fs : List Value} (hM : xMet xlds xexs l G E d rX10_blinks.1 f) (hx0 : σ.1 x = some (.inr (8, fs))) :
    (∀ (v : Int32) (σ1 : xH) (g : Nat → Int64), f [.ref x, .int a] σ = some (.inl (some (.int v)), σ1) → σ1.1 o = some (.inl (2, 1, .inr (.inl g))) → hMet xlds xexs l G E (d + 1) yL_blinks cL_blinks 4 [(0, 16, 19, 13)] 1 6 [.ref x, .int a, .ref o] σ (.inl (some (.int (nI 0))), (xup σ1.1 o (.inl (2, 1, .inr (.inl (vp_updL g 0 (if v = 0 then 0 else 1))))), σ1.2))) ∧
    (∀ (σ1 : xH) (k ex : Nat), ([0] : List Nat)[k]? = some ex → f [.ref x, .int a] σ = some (.inr (xexc ex), σ1) → hMet xlds xexs l G E (d + 1) yL_blinks cL_blinks 4 [(0, 16, 19, 13)] 1 6 [.ref x, .int a, .ref o] σ (.inl (some (.int (nI (k + 1)))), σ1)) := by
  have hok : xokC RL 5 34 2 9 rX10_blinks.1 = true := by decide +kernel
  refine ⟨fun v σ1 g hf hg => ?_, fun σ1 k ex hk hf => ?_⟩
  · refine h_open (by decide) rfl (Nat.le_of_ble_eq_true rfl) (fun p e s m below meth c ls C hS hl => ?_)
    refine lv_aload_n C.1 C.2.1 (by decide +kernel : decode cL_blinks 0 = .ok (.aload_n 2, 1)) rfl (xget_has hl rfl) ?_
    refine lv_iconst C.1 C.2.1 (by decide +kernel : decode cL_blinks 1 = .ok (.iconst 0, 1)) (v := nI 0) rfl ?_
    refine lv_aload_n C.1 C.2.1 (by decide +kernel : decode cL_blinks 2 = .ok (.aload_n 0, 1)) rfl (xget_has hl rfl) ?_
    refine lv_iload_n C.1 C.2.1 (by decide +kernel : decode cL_blinks 3 = .ok (.iload_n 1, 1)) rfl (xget_has hl rfl) ?_
    refine x_invoke C.1 C.2.1 C.2.2.1 C.2.2.2.1 C.2.2.2.2.1 C.2.2.2.2.2.1 C.2.2.2.2.2.2.1 hS C.2.2.2.2.2.2.2.1 hl.1 (kd := 5) (idx := 34) (n := 2) (ci := 9) (M := rX10_blinks.1) (f := f) hok hM (av := [.ref x, .int a]) (st := [.int a, .ref x, .int (nI 0), .ref o]) (rest := [.int (nI 0), .ref o]) rfl rfl hf (fun _ => ⟨x, [.int a], rfl, Or.inl ⟨fs, hx0⟩⟩) (Nat.le_of_ble_eq_true rfl) (Nat.le_of_eq (Nat.zero_add _)) (Nat.le_of_eq (Nat.zero_add _)) (by decide +kernel : decode cL_blinks 4 = .ok (.invokevirtual 34, 3)) (fun h => absurd rfl h) (fun X ce q9 z H1 locs1 q1 hS1 q3 q4 q5 => ?_) (fun v9 H1 locs1 q1 hS1 => ?_)
    · cases q1
    · cases q1
      refine lv_if_eq C.1 C.2.1 (by decide +kernel : decode cL_blinks 7 = .ok (.ifCond .eq 7, 3)) (tgt := 14) (by decide) (fun hc => ?_) (fun hc => ?_)
      · rw [if_pos hc]
        refine lv_lconst C.1 C.2.1 (by decide +kernel : decode cL_blinks 14 = .ok (.lconst 0, 1)) (v := 0) rfl ?_
        refine x_last C.1 C.2.1 C.2.2.2.2.2.1 hS1 hg vp_in_01 (by decide +kernel : decode cL_blinks 15 = .ok (.lastore, 1)) (fun H2 locs2 hS2 => ?_)
        refine lv_goto C.1 C.2.1 (by decide +kernel : decode cL_blinks 16 = .ok (.goto 6, 3)) (tgt := 22) (by decide) ?_
        refine lv_iconst C.1 C.2.1 (by decide +kernel : decode cL_blinks 22 = .ok (.iconst 0, 1)) (v := nI 0) rfl ?_
        exact h_ret C hS2 rfl rfl (Nat.le_of_eq (Nat.zero_add _)) (Nat.le_of_eq (Nat.zero_add _)) (by decide +kernel : decode cL_blinks 23 = .ok (.ireturn, 1))
      · rw [if_neg hc]
        refine lv_lconst C.1 C.2.1 (by decide +kernel : decode cL_blinks 10 = .ok (.lconst 1, 1)) (v := 1) rfl ?_
        refine lv_goto C.1 C.2.1 (by decide +kernel : decode cL_blinks 11 = .ok (.goto 4, 3)) (tgt := 15) (by decide) ?_
        refine x_last C.1 C.2.1 C.2.2.2.2.2.1 hS1 hg vp_in_01 (by decide +kernel : decode cL_blinks 15 = .ok (.lastore, 1)) (fun H2 locs2 hS2 => ?_)
        refine lv_goto C.1 C.2.1 (by decide +kernel : decode cL_blinks 16 = .ok (.goto 6, 3)) (tgt := 22) (by decide) ?_
        refine lv_iconst C.1 C.2.1 (by decide +kernel : decode cL_blinks 22 = .ok (.iconst 0, 1)) (v := nI 0) rfl ?_
        exact h_ret C hS2 rfl rfl (Nat.le_of_eq (Nat.zero_add _)) (Nat.le_of_eq (Nat.zero_add _)) (by decide +kernel : decode cL_blinks 23 = .ok (.ireturn, 1))
  · refine h_open (by decide) rfl (Nat.le_of_ble_eq_true rfl) (fun p e s m below meth c ls C hS hl => ?_)
    refine lv_aload_n C.1 C.2.1 (by decide +kernel : decode cL_blinks 0 = .ok (.aload_n 2, 1)) rfl (xget_has hl rfl) ?_
    refine lv_iconst C.1 C.2.1 (by decide +kernel : decode cL_blinks 1 = .ok (.iconst 0, 1)) (v := nI 0) rfl ?_
    refine lv_aload_n C.1 C.2.1 (by decide +kernel : decode cL_blinks 2 = .ok (.aload_n 0, 1)) rfl (xget_has hl rfl) ?_
    refine lv_iload_n C.1 C.2.1 (by decide +kernel : decode cL_blinks 3 = .ok (.iload_n 1, 1)) rfl (xget_has hl rfl) ?_
    refine x_invoke C.1 C.2.1 C.2.2.1 C.2.2.2.1 C.2.2.2.2.1 C.2.2.2.2.2.1 C.2.2.2.2.2.2.1 hS C.2.2.2.2.2.2.2.1 hl.1 (kd := 5) (idx := 34) (n := 2) (ci := 9) (M := rX10_blinks.1) (f := f) hok hM (av := [.ref x, .int a]) (st := [.int a, .ref x, .int (nI 0), .ref o]) (rest := [.int (nI 0), .ref o]) rfl rfl hf (fun _ => ⟨x, [.int a], rfl, Or.inl ⟨fs, hx0⟩⟩) (Nat.le_of_ble_eq_true rfl) (Nat.le_of_eq (Nat.zero_add _)) (Nat.le_of_eq (Nat.zero_add _)) (by decide +kernel : decode cL_blinks 4 = .ok (.invokevirtual 34, 3)) (fun h => absurd rfl h) (fun X ce q9 z H1 locs1 q1 hS1 q3 q4 q5 => ?_) (fun v9 H1 locs1 q1 hS1 => ?_)
    · have hX : X = xexc ex := (Sum.inr.inj q1).symm
      subst hX
      match k, hk with
      | 0, hk =>
        cases hk
        refine h_exc C (ex := 0) [] ⟨0, 16, 19, 13⟩ [] rfl (fun z hz => absurd hz List.not_mem_nil) (by decide) (by decide) cl_13 (by decide) q3 q4 q5 ?_
        exact h_h3 C (by decide) hl hS1 rfl rfl (Nat.le_of_eq (Nat.zero_add _)) (Nat.le_of_eq (Nat.zero_add _)) (by decide +kernel : decode cL_blinks 19 = .ok (.astore_n 3, 1)) (by decide +kernel : decode cL_blinks 20 = .ok (.iconst 1, 1)) (by decide +kernel : decode cL_blinks 21 = .ok (.ireturn, 1))
      | k + 1, hk => exact absurd hk (by simp)
    · cases q1
theorem hl_odds {l : Launch} {G : xG} {E : xEn} {d : Nat} {f : List Value → xH → Option xR} {x o : Nat} {a : Int32} {σ : xH} {fs : List Value} (hM : xMet xlds xexs l G E d rX10_odds.1 f) (hx0 : σ.1 x = some (.inr (8, fs))) :
    (∀ (v : Int32) (σ1 : xH) (g : Nat → Int64), f [.ref x, .int a] σ = some (.inl (some (.int v)), σ1) → σ1.1 o = some (.inl (2, 1, .inr (.inl g))) → hMet xlds xexs l G E (d + 1) yL_odds cL_odds 4 [(0, 9, 12, 25)] 1 6 [.ref x, .int a, .ref o] σ (.inl (some (.int (nI 0))), (xup σ1.1 o (.inl (2, 1, .inr (.inl (vp_updL g 0 v.toInt64)))), σ1.2))) ∧
    (∀ (σ1 : xH) (k ex : Nat), ([1] : List Nat)[k]? = some ex → f [.ref x, .int a] σ = some (.inr (xexc ex), σ1) → hMet xlds xexs l G E (d + 1) yL_odds cL_odds 4 [(0, 9, 12, 25)] 1 6 [.ref x, .int a, .ref o] σ (.inl (some (.int (nI (k + 1)))), σ1)) := by
  have hok : xokC RL 5 38 2 9 rX10_odds.1 = true := by decide +kernel
  refine ⟨fun v σ1 g hf hg => ?_, fun σ1 k ex hk hf => ?_⟩
  · refine h_open (by decide) rfl (Nat.le_of_ble_eq_true rfl) (fun p e s m below meth c ls C hS hl => ?_)
    refine lv_aload_n C.1 C.2.1 (by decide +kernel : decode cL_odds 0 = .ok (.aload_n 2, 1)) rfl (xget_has hl rfl) ?_
    refine lv_iconst C.1 C.2.1 (by decide +kernel : decode cL_odds 1 = .ok (.iconst 0, 1)) (v := nI 0) rfl ?_
    refine lv_aload_n C.1 C.2.1 (by decide +kernel : decode cL_odds 2 = .ok (.aload_n 0, 1)) rfl (xget_has hl rfl) ?_
    refine lv_iload_n C.1 C.2.1 (by decide +kernel : decode cL_odds 3 = .ok (.iload_n 1, 1)) rfl (xget_has hl rfl) ?_
    refine x_invoke C.1 C.2.1 C.2.2.1 C.2.2.2.1 C.2.2.2.2.1 C.2.2.2.2.2.1 C.2.2.2.2.2.2.1 hS C.2.2.2.2.2.2.2.1 hl.1 (kd := 5) (idx := 38) (n := 2) (ci := 9) (M := rX10_odds.1) (f := f) hok hM (av := [.ref x, .int a]) (st := [.int a, .ref x, .int (nI 0), .ref o]) (rest := [.int (nI 0), .ref o]) rfl rfl hf (fun _ => ⟨x, [.int a], rfl, Or.inl ⟨fs, hx0⟩⟩) (Nat.le_of_ble_eq_true rfl) (Nat.le_of_eq (Nat.zero_add _)) (Nat.le_of_eq (Nat.zero_add _)) (by decide +kernel : decode cL_odds 4 = .ok (.invokevirtual 38, 3)) (fun h => absurd rfl h) (fun X ce q9 z H1 locs1 q1 hS1 q3 q4 q5 => ?_) (fun v9 H1 locs1 q1 hS1 => ?_)
    · cases q1
    · cases q1
      refine lv_i2l C.1 C.2.1 (by decide +kernel : decode cL_odds 7 = .ok (.i2l, 1)) rfl ?_
      refine x_last C.1 C.2.1 C.2.2.2.2.2.1 hS1 hg vp_in_01 (by decide +kernel : decode cL_odds 8 = .ok (.lastore, 1)) (fun H2 locs2 hS2 => ?_)
      refine lv_goto C.1 C.2.1 (by decide +kernel : decode cL_odds 9 = .ok (.goto 6, 3)) (tgt := 15) (by decide) ?_
      refine lv_iconst C.1 C.2.1 (by decide +kernel : decode cL_odds 15 = .ok (.iconst 0, 1)) (v := nI 0) rfl ?_
      exact h_ret C hS2 rfl rfl (Nat.le_of_eq (Nat.zero_add _)) (Nat.le_of_eq (Nat.zero_add _)) (by decide +kernel : decode cL_odds 16 = .ok (.ireturn, 1))
  · refine h_open (by decide) rfl (Nat.le_of_ble_eq_true rfl) (fun p e s m below meth c ls C hS hl => ?_)
    refine lv_aload_n C.1 C.2.1 (by decide +kernel : decode cL_odds 0 = .ok (.aload_n 2, 1)) rfl (xget_has hl rfl) ?_
    refine lv_iconst C.1 C.2.1 (by decide +kernel : decode cL_odds 1 = .ok (.iconst 0, 1)) (v := nI 0) rfl ?_
    refine lv_aload_n C.1 C.2.1 (by decide +kernel : decode cL_odds 2 = .ok (.aload_n 0, 1)) rfl (xget_has hl rfl) ?_
    refine lv_iload_n C.1 C.2.1 (by decide +kernel : decode cL_odds 3 = .ok (.iload_n 1, 1)) rfl (xget_has hl rfl) ?_
    refine x_invoke C.1 C.2.1 C.2.2.1 C.2.2.2.1 C.2.2.2.2.1 C.2.2.2.2.2.1 C.2.2.2.2.2.2.1 hS C.2.2.2.2.2.2.2.1 hl.1 (kd := 5) (idx := 38) (n := 2) (ci := 9) (M := rX10_odds.1) (f := f) hok hM (av := [.ref x, .int a]) (st := [.int a, .ref x, .int (nI 0), .ref o]) (rest := [.int (nI 0), .ref o]) rfl rfl hf (fun _ => ⟨x, [.int a], rfl, Or.inl ⟨fs, hx0⟩⟩) (Nat.le_of_ble_eq_true rfl) (Nat.le_of_eq (Nat.zero_add _)) (Nat.le_of_eq (Nat.zero_add _)) (by decide +kernel : decode cL_odds 4 = .ok (.invokevirtual 38, 3)) (fun h => absurd rfl h) (fun X ce q9 z H1 locs1 q1 hS1 q3 q4 q5 => ?_) (fun v9 H1 locs1 q1 hS1 => ?_)
    · have hX : X = xexc ex := (Sum.inr.inj q1).symm
      subst hX
      match k, hk with
      | 0, hk =>
        cases hk
        refine h_exc C (ex := 1) [] ⟨0, 9, 12, 25⟩ [] rfl (fun z hz => absurd hz List.not_mem_nil) (by decide) (by decide) cl_25 (by decide) q3 q4 q5 ?_
        exact h_h3 C (by decide) hl hS1 rfl rfl (Nat.le_of_eq (Nat.zero_add _)) (Nat.le_of_eq (Nat.zero_add _)) (by decide +kernel : decode cL_odds 12 = .ok (.astore_n 3, 1)) (by decide +kernel : decode cL_odds 13 = .ok (.iconst 1, 1)) (by decide +kernel : decode cL_odds 14 = .ok (.ireturn, 1))
      | k + 1, hk => exact absurd hk (by simp)
    · cases q1
theorem hl_rows {l : Launch} {G : xG} {E : xEn} {d : Nat} {f : List Value → xH → Option xR} {x o : Nat} {a : Int32} {σ : xH} {fs : List Value} (hM : xMet xlds xexs l G E d rX10_rows.1 f) (hx0 : σ.1 x = some (.inr (8, fs))) :
    (∀ (v : Int32) (σ1 : xH) (g : Nat → Int64), f [.ref x, .int a] σ = some (.inl (some (.int v)), σ1) → σ1.1 o = some (.inl (2, 1, .inr (.inl g))) → hMet xlds xexs l G E (d + 1) yL_rows cL_rows 4 [(0, 9, 12, 13)] 1 7 [.ref x, .int a, .ref o] σ (.inl (some (.int (nI 0))), (xup σ1.1 o (.inl (2, 1, .inr (.inl (vp_updL g 0 v.toInt64)))), σ1.2))) ∧
    (∀ (σ1 : xH) (k ex : Nat), ([0] : List Nat)[k]? = some ex → f [.ref x, .int a] σ = some (.inr (xexc ex), σ1) → hMet xlds xexs l G E (d + 1) yL_rows cL_rows 4 [(0, 9, 12, 13)] 1 7 [.ref x, .int a, .ref o] σ (.inl (some (.int (nI (k + 1)))), σ1)) := by
  have hok : xokC RL 5 41 2 9 rX10_rows.1 = true := by decide +kernel
  refine ⟨fun v σ1 g hf hg => ?_, fun σ1 k ex hk hf => ?_⟩
  · refine h_open (by decide) rfl (Nat.le_of_ble_eq_true rfl) (fun p e s m below meth c ls C hS hl => ?_)
    refine lv_aload_n C.1 C.2.1 (by decide +kernel : decode cL_rows 0 = .ok (.aload_n 2, 1)) rfl (xget_has hl rfl) ?_
    refine lv_iconst C.1 C.2.1 (by decide +kernel : decode cL_rows 1 = .ok (.iconst 0, 1)) (v := nI 0) rfl ?_
    refine lv_aload_n C.1 C.2.1 (by decide +kernel : decode cL_rows 2 = .ok (.aload_n 0, 1)) rfl (xget_has hl rfl) ?_
    refine lv_iload_n C.1 C.2.1 (by decide +kernel : decode cL_rows 3 = .ok (.iload_n 1, 1)) rfl (xget_has hl rfl) ?_
    refine x_invoke C.1 C.2.1 C.2.2.1 C.2.2.2.1 C.2.2.2.2.1 C.2.2.2.2.2.1 C.2.2.2.2.2.2.1 hS C.2.2.2.2.2.2.2.1 hl.1 (kd := 5) (idx := 41) (n := 2) (ci := 9) (M := rX10_rows.1) (f := f) hok hM (av := [.ref x, .int a]) (st := [.int a, .ref x, .int (nI 0), .ref o]) (rest := [.int (nI 0), .ref o]) rfl rfl hf (fun _ => ⟨x, [.int a], rfl, Or.inl ⟨fs, hx0⟩⟩) (Nat.le_of_ble_eq_true rfl) (Nat.le_of_eq (Nat.zero_add _)) (Nat.le_of_eq (Nat.zero_add _)) (by decide +kernel : decode cL_rows 4 = .ok (.invokevirtual 41, 3)) (fun h => absurd rfl h) (fun X ce q9 z H1 locs1 q1 hS1 q3 q4 q5 => ?_) (fun v9 H1 locs1 q1 hS1 => ?_)
    · cases q1
    · cases q1
      refine lv_i2l C.1 C.2.1 (by decide +kernel : decode cL_rows 7 = .ok (.i2l, 1)) rfl ?_
      refine x_last C.1 C.2.1 C.2.2.2.2.2.1 hS1 hg vp_in_01 (by decide +kernel : decode cL_rows 8 = .ok (.lastore, 1)) (fun H2 locs2 hS2 => ?_)
      refine lv_goto C.1 C.2.1 (by decide +kernel : decode cL_rows 9 = .ok (.goto 6, 3)) (tgt := 15) (by decide) ?_
      refine lv_iconst C.1 C.2.1 (by decide +kernel : decode cL_rows 15 = .ok (.iconst 0, 1)) (v := nI 0) rfl ?_
      exact h_ret C hS2 rfl rfl (Nat.le_of_eq (Nat.zero_add _)) (Nat.le_of_eq (Nat.zero_add _)) (by decide +kernel : decode cL_rows 16 = .ok (.ireturn, 1))
  · refine h_open (by decide) rfl (Nat.le_of_ble_eq_true rfl) (fun p e s m below meth c ls C hS hl => ?_)
    refine lv_aload_n C.1 C.2.1 (by decide +kernel : decode cL_rows 0 = .ok (.aload_n 2, 1)) rfl (xget_has hl rfl) ?_
    refine lv_iconst C.1 C.2.1 (by decide +kernel : decode cL_rows 1 = .ok (.iconst 0, 1)) (v := nI 0) rfl ?_
    refine lv_aload_n C.1 C.2.1 (by decide +kernel : decode cL_rows 2 = .ok (.aload_n 0, 1)) rfl (xget_has hl rfl) ?_
    refine lv_iload_n C.1 C.2.1 (by decide +kernel : decode cL_rows 3 = .ok (.iload_n 1, 1)) rfl (xget_has hl rfl) ?_
    refine x_invoke C.1 C.2.1 C.2.2.1 C.2.2.2.1 C.2.2.2.2.1 C.2.2.2.2.2.1 C.2.2.2.2.2.2.1 hS C.2.2.2.2.2.2.2.1 hl.1 (kd := 5) (idx := 41) (n := 2) (ci := 9) (M := rX10_rows.1) (f := f) hok hM (av := [.ref x, .int a]) (st := [.int a, .ref x, .int (nI 0), .ref o]) (rest := [.int (nI 0), .ref o]) rfl rfl hf (fun _ => ⟨x, [.int a], rfl, Or.inl ⟨fs, hx0⟩⟩) (Nat.le_of_ble_eq_true rfl) (Nat.le_of_eq (Nat.zero_add _)) (Nat.le_of_eq (Nat.zero_add _)) (by decide +kernel : decode cL_rows 4 = .ok (.invokevirtual 41, 3)) (fun h => absurd rfl h) (fun X ce q9 z H1 locs1 q1 hS1 q3 q4 q5 => ?_) (fun v9 H1 locs1 q1 hS1 => ?_)
    · have hX : X = xexc ex := (Sum.inr.inj q1).symm
      subst hX
      match k, hk with
      | 0, hk =>
        cases hk
        refine h_exc C (ex := 0) [] ⟨0, 9, 12, 13⟩ [] rfl (fun z hz => absurd hz List.not_mem_nil) (by decide) (by decide) cl_13 (by decide) q3 q4 q5 ?_
        exact h_h3 C (by decide) hl hS1 rfl rfl (Nat.le_of_eq (Nat.zero_add _)) (Nat.le_of_eq (Nat.zero_add _)) (by decide +kernel : decode cL_rows 12 = .ok (.astore_n 3, 1)) (by decide +kernel : decode cL_rows 13 = .ok (.iconst 1, 1)) (by decide +kernel : decode cL_rows 14 = .ok (.ireturn, 1))
      | k + 1, hk => exact absurd hk (by simp)
    · cases q1
theorem hl_fool {l : Launch} {G : xG} {E : xEn} {d : Nat} {f : List Value → xH → Option xR} {x o : Nat} {a : Int32} {σ : xH} {fs : List Value} (hM : xMet xlds xexs l G E d rX10_fool.1 f) (hx0 : σ.1 x = some (.inr (8, fs))) :
    (∀ (v : Int32) (σ1 : xH) (g : Nat → Int64), f [.ref x, .int a] σ = some (.inl (some (.int v)), σ1) → σ1.1 o = some (.inl (2, 1, .inr (.inl g))) → hMet xlds xexs l G E (d + 1) yL_fool cL_fool 4 [(0, 9, 12, 13)] 1 6 [.ref x, .int a, .ref o] σ (.inl (some (.int (nI 0))), (xup σ1.1 o (.inl (2, 1, .inr (.inl (vp_updL g 0 v.toInt64)))), σ1.2))) ∧
    (∀ (σ1 : xH) (k ex : Nat), ([0] : List Nat)[k]? = some ex → f [.ref x, .int a] σ = some (.inr (xexc ex), σ1) → hMet xlds xexs l G E (d + 1) yL_fool cL_fool 4 [(0, 9, 12, 13)] 1 6 [.ref x, .int a, .ref o] σ (.inl (some (.int (nI (k + 1)))), σ1)) := by
  have hok : xokC RL 5 44 2 9 rX10_fool.1 = true := by decide +kernel
  refine ⟨fun v σ1 g hf hg => ?_, fun σ1 k ex hk hf => ?_⟩
  · refine h_open (by decide) rfl (Nat.le_of_ble_eq_true rfl) (fun p e s m below meth c ls C hS hl => ?_)
    refine lv_aload_n C.1 C.2.1 (by decide +kernel : decode cL_fool 0 = .ok (.aload_n 2, 1)) rfl (xget_has hl rfl) ?_
    refine lv_iconst C.1 C.2.1 (by decide +kernel : decode cL_fool 1 = .ok (.iconst 0, 1)) (v := nI 0) rfl ?_
    refine lv_aload_n C.1 C.2.1 (by decide +kernel : decode cL_fool 2 = .ok (.aload_n 0, 1)) rfl (xget_has hl rfl) ?_
    refine lv_iload_n C.1 C.2.1 (by decide +kernel : decode cL_fool 3 = .ok (.iload_n 1, 1)) rfl (xget_has hl rfl) ?_
    refine x_invoke C.1 C.2.1 C.2.2.1 C.2.2.2.1 C.2.2.2.2.1 C.2.2.2.2.2.1 C.2.2.2.2.2.2.1 hS C.2.2.2.2.2.2.2.1 hl.1 (kd := 5) (idx := 44) (n := 2) (ci := 9) (M := rX10_fool.1) (f := f) hok hM (av := [.ref x, .int a]) (st := [.int a, .ref x, .int (nI 0), .ref o]) (rest := [.int (nI 0), .ref o]) rfl rfl hf (fun _ => ⟨x, [.int a], rfl, Or.inl ⟨fs, hx0⟩⟩) (Nat.le_of_ble_eq_true rfl) (Nat.le_of_eq (Nat.zero_add _)) (Nat.le_of_eq (Nat.zero_add _)) (by decide +kernel : decode cL_fool 4 = .ok (.invokevirtual 44, 3)) (fun h => absurd rfl h) (fun X ce q9 z H1 locs1 q1 hS1 q3 q4 q5 => ?_) (fun v9 H1 locs1 q1 hS1 => ?_)
    · cases q1
    · cases q1
      refine lv_i2l C.1 C.2.1 (by decide +kernel : decode cL_fool 7 = .ok (.i2l, 1)) rfl ?_
      refine x_last C.1 C.2.1 C.2.2.2.2.2.1 hS1 hg vp_in_01 (by decide +kernel : decode cL_fool 8 = .ok (.lastore, 1)) (fun H2 locs2 hS2 => ?_)
      refine lv_goto C.1 C.2.1 (by decide +kernel : decode cL_fool 9 = .ok (.goto 6, 3)) (tgt := 15) (by decide) ?_
      refine lv_iconst C.1 C.2.1 (by decide +kernel : decode cL_fool 15 = .ok (.iconst 0, 1)) (v := nI 0) rfl ?_
      exact h_ret C hS2 rfl rfl (Nat.le_of_eq (Nat.zero_add _)) (Nat.le_of_eq (Nat.zero_add _)) (by decide +kernel : decode cL_fool 16 = .ok (.ireturn, 1))
  · refine h_open (by decide) rfl (Nat.le_of_ble_eq_true rfl) (fun p e s m below meth c ls C hS hl => ?_)
    refine lv_aload_n C.1 C.2.1 (by decide +kernel : decode cL_fool 0 = .ok (.aload_n 2, 1)) rfl (xget_has hl rfl) ?_
    refine lv_iconst C.1 C.2.1 (by decide +kernel : decode cL_fool 1 = .ok (.iconst 0, 1)) (v := nI 0) rfl ?_
    refine lv_aload_n C.1 C.2.1 (by decide +kernel : decode cL_fool 2 = .ok (.aload_n 0, 1)) rfl (xget_has hl rfl) ?_
    refine lv_iload_n C.1 C.2.1 (by decide +kernel : decode cL_fool 3 = .ok (.iload_n 1, 1)) rfl (xget_has hl rfl) ?_
    refine x_invoke C.1 C.2.1 C.2.2.1 C.2.2.2.1 C.2.2.2.2.1 C.2.2.2.2.2.1 C.2.2.2.2.2.2.1 hS C.2.2.2.2.2.2.2.1 hl.1 (kd := 5) (idx := 44) (n := 2) (ci := 9) (M := rX10_fool.1) (f := f) hok hM (av := [.ref x, .int a]) (st := [.int a, .ref x, .int (nI 0), .ref o]) (rest := [.int (nI 0), .ref o]) rfl rfl hf (fun _ => ⟨x, [.int a], rfl, Or.inl ⟨fs, hx0⟩⟩) (Nat.le_of_ble_eq_true rfl) (Nat.le_of_eq (Nat.zero_add _)) (Nat.le_of_eq (Nat.zero_add _)) (by decide +kernel : decode cL_fool 4 = .ok (.invokevirtual 44, 3)) (fun h => absurd rfl h) (fun X ce q9 z H1 locs1 q1 hS1 q3 q4 q5 => ?_) (fun v9 H1 locs1 q1 hS1 => ?_)
    · have hX : X = xexc ex := (Sum.inr.inj q1).symm
      subst hX
      match k, hk with
      | 0, hk =>
        cases hk
        refine h_exc C (ex := 0) [] ⟨0, 9, 12, 13⟩ [] rfl (fun z hz => absurd hz List.not_mem_nil) (by decide) (by decide) cl_13 (by decide) q3 q4 q5 ?_
        exact h_h3 C (by decide) hl hS1 rfl rfl (Nat.le_of_eq (Nat.zero_add _)) (Nat.le_of_eq (Nat.zero_add _)) (by decide +kernel : decode cL_fool 12 = .ok (.astore_n 3, 1)) (by decide +kernel : decode cL_fool 13 = .ok (.iconst 1, 1)) (by decide +kernel : decode cL_fool 14 = .ok (.ireturn, 1))
      | k + 1, hk => exact absurd hk (by simp)
    · cases q1
