/-! THE LAW'S HELPERS; written by wip/whole/genhl.py. -/
theorem hl_peek {l : Launch} {G : xG} {E : xEn} {d : Nat} {f : List Value → xH → Option xR} {x o : Nat} {a : Int32} {σ : xH} {fs : List Value} (hM : xMet xlds xexs l G E d rX10_peek.1 f) (hx0 : σ.1 x = some (.inr (8, fs))) :
    (∀ (v : Int32) (σ1 : xH) (g : Nat → Int64), f [.ref x, .int a] σ = some (.inl (some (.int v)), σ1) → σ1.1 o = some (.inl (2, 1, .inr (.inl g))) → hMet xlds xexs l G E (d + 1) yL_peek cL_peek 4 [(0, 16, 19, 25)] 1 6 [.ref x, .int a, .ref o] σ (.inl (some (.int (nI 0))), (xup σ1.1 o (.inl (2, 1, .inr (.inl (vp_updL g 0 (if v = 0 then 0 else 1))))), σ1.2))) ∧
    (∀ (σ1 : xH) (k ex : Nat), ([1] : List Nat)[k]? = some ex → f [.ref x, .int a] σ = some (.inr (xexc ex), σ1) → hMet xlds xexs l G E (d + 1) yL_peek cL_peek 4 [(0, 16, 19, 25)] 1 6 [.ref x, .int a, .ref o] σ (.inl (some (.int (nI (k + 1)))), σ1)) := by
  have hok : xokC RL 5 65 2 9 rX10_peek.1 = true := by decide +kernel
  refine ⟨fun v σ1 g hf hg => ?_, fun σ1 k ex hk hf => ?_⟩
  · refine h_open (by decide) rfl (Nat.le_of_ble_eq_true rfl) (fun p e s m below meth c ls C hS hl => ?_)
    refine lv_aload_n C.1 C.2.1 (by decide +kernel : decode cL_peek 0 = .ok (.aload_n 2, 1)) rfl (xget_has hl rfl) ?_
    refine lv_iconst C.1 C.2.1 (by decide +kernel : decode cL_peek 1 = .ok (.iconst 0, 1)) (v := nI 0) rfl ?_
    refine lv_aload_n C.1 C.2.1 (by decide +kernel : decode cL_peek 2 = .ok (.aload_n 0, 1)) rfl (xget_has hl rfl) ?_
    refine lv_iload_n C.1 C.2.1 (by decide +kernel : decode cL_peek 3 = .ok (.iload_n 1, 1)) rfl (xget_has hl rfl) ?_
    refine x_invoke C.1 C.2.1 C.2.2.1 C.2.2.2.1 C.2.2.2.2.1 C.2.2.2.2.2.1 C.2.2.2.2.2.2.1 hS C.2.2.2.2.2.2.2.1 hl.1 (kd := 5) (idx := 65) (n := 2) (ci := 9) (M := rX10_peek.1) (f := f) hok hM (av := [.ref x, .int a]) (st := [.int a, .ref x, .int (nI 0), .ref o]) (rest := [.int (nI 0), .ref o]) rfl rfl hf (fun _ => ⟨x, [.int a], rfl, Or.inl ⟨fs, hx0⟩⟩) (Nat.le_of_ble_eq_true rfl) (Nat.le_of_eq (Nat.zero_add _)) (Nat.le_of_eq (Nat.zero_add _)) (by decide +kernel : decode cL_peek 4 = .ok (.invokevirtual 65, 3)) (fun h => absurd rfl h) (fun X ce q9 z H1 locs1 q1 hS1 q3 q4 q5 => ?_) (fun v9 H1 locs1 q1 hS1 => ?_)
    · cases q1
    · cases q1
      refine lv_if_eq C.1 C.2.1 (by decide +kernel : decode cL_peek 7 = .ok (.ifCond .eq 7, 3)) (tgt := 14) (by decide) (fun hc => ?_) (fun hc => ?_)
      · rw [if_pos hc]
        refine lv_lconst C.1 C.2.1 (by decide +kernel : decode cL_peek 14 = .ok (.lconst 0, 1)) (v := 0) rfl ?_
        refine x_last C.1 C.2.1 C.2.2.2.2.2.1 hS1 hg vp_in_01 (by decide +kernel : decode cL_peek 15 = .ok (.lastore, 1)) (fun H2 locs2 hS2 => ?_)
        refine lv_goto C.1 C.2.1 (by decide +kernel : decode cL_peek 16 = .ok (.goto 6, 3)) (tgt := 22) (by decide) ?_
        refine lv_iconst C.1 C.2.1 (by decide +kernel : decode cL_peek 22 = .ok (.iconst 0, 1)) (v := nI 0) rfl ?_
        exact h_ret C hS2 rfl rfl (Nat.le_of_eq (Nat.zero_add _)) (Nat.le_of_eq (Nat.zero_add _)) (by decide +kernel : decode cL_peek 23 = .ok (.ireturn, 1))
      · rw [if_neg hc]
        refine lv_lconst C.1 C.2.1 (by decide +kernel : decode cL_peek 10 = .ok (.lconst 1, 1)) (v := 1) rfl ?_
        refine lv_goto C.1 C.2.1 (by decide +kernel : decode cL_peek 11 = .ok (.goto 4, 3)) (tgt := 15) (by decide) ?_
        refine x_last C.1 C.2.1 C.2.2.2.2.2.1 hS1 hg vp_in_01 (by decide +kernel : decode cL_peek 15 = .ok (.lastore, 1)) (fun H2 locs2 hS2 => ?_)
        refine lv_goto C.1 C.2.1 (by decide +kernel : decode cL_peek 16 = .ok (.goto 6, 3)) (tgt := 22) (by decide) ?_
        refine lv_iconst C.1 C.2.1 (by decide +kernel : decode cL_peek 22 = .ok (.iconst 0, 1)) (v := nI 0) rfl ?_
        exact h_ret C hS2 rfl rfl (Nat.le_of_eq (Nat.zero_add _)) (Nat.le_of_eq (Nat.zero_add _)) (by decide +kernel : decode cL_peek 23 = .ok (.ireturn, 1))
  · refine h_open (by decide) rfl (Nat.le_of_ble_eq_true rfl) (fun p e s m below meth c ls C hS hl => ?_)
    refine lv_aload_n C.1 C.2.1 (by decide +kernel : decode cL_peek 0 = .ok (.aload_n 2, 1)) rfl (xget_has hl rfl) ?_
    refine lv_iconst C.1 C.2.1 (by decide +kernel : decode cL_peek 1 = .ok (.iconst 0, 1)) (v := nI 0) rfl ?_
    refine lv_aload_n C.1 C.2.1 (by decide +kernel : decode cL_peek 2 = .ok (.aload_n 0, 1)) rfl (xget_has hl rfl) ?_
    refine lv_iload_n C.1 C.2.1 (by decide +kernel : decode cL_peek 3 = .ok (.iload_n 1, 1)) rfl (xget_has hl rfl) ?_
    refine x_invoke C.1 C.2.1 C.2.2.1 C.2.2.2.1 C.2.2.2.2.1 C.2.2.2.2.2.1 C.2.2.2.2.2.2.1 hS C.2.2.2.2.2.2.2.1 hl.1 (kd := 5) (idx := 65) (n := 2) (ci := 9) (M := rX10_peek.1) (f := f) hok hM (av := [.ref x, .int a]) (st := [.int a, .ref x, .int (nI 0), .ref o]) (rest := [.int (nI 0), .ref o]) rfl rfl hf (fun _ => ⟨x, [.int a], rfl, Or.inl ⟨fs, hx0⟩⟩) (Nat.le_of_ble_eq_true rfl) (Nat.le_of_eq (Nat.zero_add _)) (Nat.le_of_eq (Nat.zero_add _)) (by decide +kernel : decode cL_peek 4 = .ok (.invokevirtual 65, 3)) (fun h => absurd rfl h) (fun X ce q9 z H1 locs1 q1 hS1 q3 q4 q5 => ?_) (fun v9 H1 locs1 q1 hS1 => ?_)
    · have hX : X = xexc ex := (Sum.inr.inj q1).symm
      subst hX
      match k, hk with
      | 0, hk =>
        cases hk
        refine h_exc C (ex := 1) [] ⟨0, 16, 19, 25⟩ [] rfl (fun z hz => absurd hz List.not_mem_nil) (by decide) (by decide) cl_25 (by decide) q3 q4 q5 ?_
        exact h_h3 C (by decide) hl hS1 rfl rfl (Nat.le_of_eq (Nat.zero_add _)) (Nat.le_of_eq (Nat.zero_add _)) (by decide +kernel : decode cL_peek 19 = .ok (.astore_n 3, 1)) (by decide +kernel : decode cL_peek 20 = .ok (.iconst 1, 1)) (by decide +kernel : decode cL_peek 21 = .ok (.ireturn, 1))
      | k + 1, hk => exact absurd hk (by simp)
    · cases q1
theorem hl_bet {l : Launch} {G : xG} {E : xEn} {d : Nat} {f : List Value → xH → Option xR} {x o : Nat} {a b : Int32} {σ : xH} {fs : List Value} (hM : xMet xlds xexs l G E d rX10_bet.1 f) (hx0 : σ.1 x = some (.inr (8, fs))) :
    (∀ (v : Int32) (σ1 : xH) (g : Nat → Int64), f [.ref x, .int a, .int b] σ = some (.inl (some (.int v)), σ1) → σ1.1 o = some (.inl (2, 1, .inr (.inl g))) → hMet xlds xexs l G E (d + 1) yL_bet cL_bet 5 [(0, 10, 13, 25), (0, 10, 17, 13), (0, 10, 21, 60)] 2 12 [.ref x, .int a, .int b, .ref o] σ (.inl (some (.int (nI 0))), (xup σ1.1 o (.inl (2, 1, .inr (.inl (vp_updL g 0 v.toInt64)))), σ1.2))) ∧
    (∀ (σ1 : xH) (k ex : Nat), ([1, 0, 2] : List Nat)[k]? = some ex → f [.ref x, .int a, .int b] σ = some (.inr (xexc ex), σ1) → hMet xlds xexs l G E (d + 1) yL_bet cL_bet 5 [(0, 10, 13, 25), (0, 10, 17, 13), (0, 10, 21, 60)] 2 12 [.ref x, .int a, .int b, .ref o] σ (.inl (some (.int (nI (k + 1)))), σ1)) := by
  have hok : xokC RL 5 68 3 9 rX10_bet.1 = true := by decide +kernel
  refine ⟨fun v σ1 g hf hg => ?_, fun σ1 k ex hk hf => ?_⟩
  · refine h_open (by decide) rfl (Nat.le_of_ble_eq_true rfl) (fun p e s m below meth c ls C hS hl => ?_)
    refine lv_aload_n C.1 C.2.1 (by decide +kernel : decode cL_bet 0 = .ok (.aload_n 3, 1)) rfl (xget_has hl rfl) ?_
    refine lv_iconst C.1 C.2.1 (by decide +kernel : decode cL_bet 1 = .ok (.iconst 0, 1)) (v := nI 0) rfl ?_
    refine lv_aload_n C.1 C.2.1 (by decide +kernel : decode cL_bet 2 = .ok (.aload_n 0, 1)) rfl (xget_has hl rfl) ?_
    refine lv_iload_n C.1 C.2.1 (by decide +kernel : decode cL_bet 3 = .ok (.iload_n 1, 1)) rfl (xget_has hl rfl) ?_
    refine lv_iload_n C.1 C.2.1 (by decide +kernel : decode cL_bet 4 = .ok (.iload_n 2, 1)) rfl (xget_has hl rfl) ?_
    refine x_invoke C.1 C.2.1 C.2.2.1 C.2.2.2.1 C.2.2.2.2.1 C.2.2.2.2.2.1 C.2.2.2.2.2.2.1 hS C.2.2.2.2.2.2.2.1 hl.1 (kd := 5) (idx := 68) (n := 3) (ci := 9) (M := rX10_bet.1) (f := f) hok hM (av := [.ref x, .int a, .int b]) (st := [.int b, .int a, .ref x, .int (nI 0), .ref o]) (rest := [.int (nI 0), .ref o]) rfl rfl hf (fun _ => ⟨x, [.int a, .int b], rfl, Or.inl ⟨fs, hx0⟩⟩) (Nat.le_of_ble_eq_true rfl) (Nat.le_of_eq (Nat.zero_add _)) (Nat.le_of_eq (Nat.zero_add _)) (by decide +kernel : decode cL_bet 5 = .ok (.invokevirtual 68, 3)) (fun h => absurd rfl h) (fun X ce q9 z H1 locs1 q1 hS1 q3 q4 q5 => ?_) (fun v9 H1 locs1 q1 hS1 => ?_)
    · cases q1
    · cases q1
      refine lv_i2l C.1 C.2.1 (by decide +kernel : decode cL_bet 8 = .ok (.i2l, 1)) rfl ?_
      refine x_last C.1 C.2.1 C.2.2.2.2.2.1 hS1 hg vp_in_01 (by decide +kernel : decode cL_bet 9 = .ok (.lastore, 1)) (fun H2 locs2 hS2 => ?_)
      refine lv_goto C.1 C.2.1 (by decide +kernel : decode cL_bet 10 = .ok (.goto 15, 3)) (tgt := 25) (by decide) ?_
      refine lv_iconst C.1 C.2.1 (by decide +kernel : decode cL_bet 25 = .ok (.iconst 0, 1)) (v := nI 0) rfl ?_
      exact h_ret C hS2 rfl rfl (Nat.le_of_eq (Nat.zero_add _)) (Nat.le_of_eq (Nat.zero_add _)) (by decide +kernel : decode cL_bet 26 = .ok (.ireturn, 1))
  · refine h_open (by decide) rfl (Nat.le_of_ble_eq_true rfl) (fun p e s m below meth c ls C hS hl => ?_)
    refine lv_aload_n C.1 C.2.1 (by decide +kernel : decode cL_bet 0 = .ok (.aload_n 3, 1)) rfl (xget_has hl rfl) ?_
    refine lv_iconst C.1 C.2.1 (by decide +kernel : decode cL_bet 1 = .ok (.iconst 0, 1)) (v := nI 0) rfl ?_
    refine lv_aload_n C.1 C.2.1 (by decide +kernel : decode cL_bet 2 = .ok (.aload_n 0, 1)) rfl (xget_has hl rfl) ?_
    refine lv_iload_n C.1 C.2.1 (by decide +kernel : decode cL_bet 3 = .ok (.iload_n 1, 1)) rfl (xget_has hl rfl) ?_
    refine lv_iload_n C.1 C.2.1 (by decide +kernel : decode cL_bet 4 = .ok (.iload_n 2, 1)) rfl (xget_has hl rfl) ?_
    refine x_invoke C.1 C.2.1 C.2.2.1 C.2.2.2.1 C.2.2.2.2.1 C.2.2.2.2.2.1 C.2.2.2.2.2.2.1 hS C.2.2.2.2.2.2.2.1 hl.1 (kd := 5) (idx := 68) (n := 3) (ci := 9) (M := rX10_bet.1) (f := f) hok hM (av := [.ref x, .int a, .int b]) (st := [.int b, .int a, .ref x, .int (nI 0), .ref o]) (rest := [.int (nI 0), .ref o]) rfl rfl hf (fun _ => ⟨x, [.int a, .int b], rfl, Or.inl ⟨fs, hx0⟩⟩) (Nat.le_of_ble_eq_true rfl) (Nat.le_of_eq (Nat.zero_add _)) (Nat.le_of_eq (Nat.zero_add _)) (by decide +kernel : decode cL_bet 5 = .ok (.invokevirtual 68, 3)) (fun h => absurd rfl h) (fun X ce q9 z H1 locs1 q1 hS1 q3 q4 q5 => ?_) (fun v9 H1 locs1 q1 hS1 => ?_)
    · have hX : X = xexc ex := (Sum.inr.inj q1).symm
      subst hX
      match k, hk with
      | 0, hk =>
        cases hk
        refine h_exc C (ex := 1) [] ⟨0, 10, 13, 25⟩ [⟨0, 10, 17, 13⟩, ⟨0, 10, 21, 60⟩] rfl (fun z hz => absurd hz List.not_mem_nil) (by decide) (by decide) cl_25 (by decide) q3 q4 q5 ?_
        exact h_h4 C (by decide) hl hS1 rfl rfl (Nat.le_of_eq (Nat.zero_add _)) (Nat.le_of_eq (Nat.zero_add _)) (by decide +kernel : decode cL_bet 13 = .ok (.astore 4, 2)) (by decide +kernel : decode cL_bet 15 = .ok (.iconst 1, 1)) (by decide +kernel : decode cL_bet 16 = .ok (.ireturn, 1))
      | 1, hk =>
        cases hk
        refine h_exc C (ex := 0) [⟨0, 10, 13, 25⟩] ⟨0, 10, 17, 13⟩ [⟨0, 10, 21, 60⟩] rfl (List.forall_mem_cons.mpr ⟨⟨by decide, 1, by decide, by decide, cl_25⟩, fun z hz => absurd hz List.not_mem_nil⟩) (by decide) (by decide) cl_13 (by decide) q3 q4 q5 ?_
        exact h_h4 C (by decide) hl hS1 rfl rfl (Nat.le_of_eq (Nat.zero_add _)) (Nat.le_of_eq (Nat.zero_add _)) (by decide +kernel : decode cL_bet 17 = .ok (.astore 4, 2)) (by decide +kernel : decode cL_bet 19 = .ok (.iconst 2, 1)) (by decide +kernel : decode cL_bet 20 = .ok (.ireturn, 1))
      | 2, hk =>
        cases hk
        refine h_exc C (ex := 2) [⟨0, 10, 13, 25⟩, ⟨0, 10, 17, 13⟩] ⟨0, 10, 21, 60⟩ [] rfl (List.forall_mem_cons.mpr ⟨⟨by decide, 1, by decide, by decide, cl_25⟩, List.forall_mem_cons.mpr ⟨⟨by decide, 0, by decide, by decide, cl_13⟩, fun z hz => absurd hz List.not_mem_nil⟩⟩) (by decide) (by decide) cl_60 (by decide) q3 q4 q5 ?_
        exact h_h4 C (by decide) hl hS1 rfl rfl (Nat.le_of_eq (Nat.zero_add _)) (Nat.le_of_eq (Nat.zero_add _)) (by decide +kernel : decode cL_bet 21 = .ok (.astore 4, 2)) (by decide +kernel : decode cL_bet 23 = .ok (.iconst 3, 1)) (by decide +kernel : decode cL_bet 24 = .ok (.ireturn, 1))
      | k + 3, hk => exact absurd hk (by simp)
    · cases q1
theorem hl_scratch {l : Launch} {G : xG} {E : xEn} {d : Nat} {f : List Value → xH → Option xR} {x o : Nat} {a b : Int32} {σ : xH} {fs : List Value} (hM : xMet xlds xexs l G E d rX10_scratch.1 f) (hx0 : σ.1 x = some (.inr (8, fs))) :
    (∀ (v : Int32) (σ1 : xH) (g : Nat → Int64), f [.ref x, .int a, .int b] σ = some (.inl (some (.int v)), σ1) → σ1.1 o = some (.inl (2, 1, .inr (.inl g))) → hMet xlds xexs l G E (d + 1) yL_scratch cL_scratch 5 [(0, 17, 20, 25)] 1 6 [.ref x, .int a, .int b, .ref o] σ (.inl (some (.int (nI 0))), (xup σ1.1 o (.inl (2, 1, .inr (.inl (vp_updL g 0 (if v = 0 then 0 else 1))))), σ1.2))) ∧
    (∀ (σ1 : xH) (k ex : Nat), ([1] : List Nat)[k]? = some ex → f [.ref x, .int a, .int b] σ = some (.inr (xexc ex), σ1) → hMet xlds xexs l G E (d + 1) yL_scratch cL_scratch 5 [(0, 17, 20, 25)] 1 6 [.ref x, .int a, .int b, .ref o] σ (.inl (some (.int (nI (k + 1)))), σ1)) := by
  have hok : xokC RL 5 71 3 9 rX10_scratch.1 = true := by decide +kernel
  refine ⟨fun v σ1 g hf hg => ?_, fun σ1 k ex hk hf => ?_⟩
  · refine h_open (by decide) rfl (Nat.le_of_ble_eq_true rfl) (fun p e s m below meth c ls C hS hl => ?_)
    refine lv_aload_n C.1 C.2.1 (by decide +kernel : decode cL_scratch 0 = .ok (.aload_n 3, 1)) rfl (xget_has hl rfl) ?_
    refine lv_iconst C.1 C.2.1 (by decide +kernel : decode cL_scratch 1 = .ok (.iconst 0, 1)) (v := nI 0) rfl ?_
    refine lv_aload_n C.1 C.2.1 (by decide +kernel : decode cL_scratch 2 = .ok (.aload_n 0, 1)) rfl (xget_has hl rfl) ?_
    refine lv_iload_n C.1 C.2.1 (by decide +kernel : decode cL_scratch 3 = .ok (.iload_n 1, 1)) rfl (xget_has hl rfl) ?_
    refine lv_iload_n C.1 C.2.1 (by decide +kernel : decode cL_scratch 4 = .ok (.iload_n 2, 1)) rfl (xget_has hl rfl) ?_
    refine x_invoke C.1 C.2.1 C.2.2.1 C.2.2.2.1 C.2.2.2.2.1 C.2.2.2.2.2.1 C.2.2.2.2.2.2.1 hS C.2.2.2.2.2.2.2.1 hl.1 (kd := 5) (idx := 71) (n := 3) (ci := 9) (M := rX10_scratch.1) (f := f) hok hM (av := [.ref x, .int a, .int b]) (st := [.int b, .int a, .ref x, .int (nI 0), .ref o]) (rest := [.int (nI 0), .ref o]) rfl rfl hf (fun _ => ⟨x, [.int a, .int b], rfl, Or.inl ⟨fs, hx0⟩⟩) (Nat.le_of_ble_eq_true rfl) (Nat.le_of_eq (Nat.zero_add _)) (Nat.le_of_eq (Nat.zero_add _)) (by decide +kernel : decode cL_scratch 5 = .ok (.invokevirtual 71, 3)) (fun h => absurd rfl h) (fun X ce q9 z H1 locs1 q1 hS1 q3 q4 q5 => ?_) (fun v9 H1 locs1 q1 hS1 => ?_)
    · cases q1
    · cases q1
      refine lv_if_eq C.1 C.2.1 (by decide +kernel : decode cL_scratch 8 = .ok (.ifCond .eq 7, 3)) (tgt := 15) (by decide) (fun hc => ?_) (fun hc => ?_)
      · rw [if_pos hc]
        refine lv_lconst C.1 C.2.1 (by decide +kernel : decode cL_scratch 15 = .ok (.lconst 0, 1)) (v := 0) rfl ?_
        refine x_last C.1 C.2.1 C.2.2.2.2.2.1 hS1 hg vp_in_01 (by decide +kernel : decode cL_scratch 16 = .ok (.lastore, 1)) (fun H2 locs2 hS2 => ?_)
        refine lv_goto C.1 C.2.1 (by decide +kernel : decode cL_scratch 17 = .ok (.goto 7, 3)) (tgt := 24) (by decide) ?_
        refine lv_iconst C.1 C.2.1 (by decide +kernel : decode cL_scratch 24 = .ok (.iconst 0, 1)) (v := nI 0) rfl ?_
        exact h_ret C hS2 rfl rfl (Nat.le_of_eq (Nat.zero_add _)) (Nat.le_of_eq (Nat.zero_add _)) (by decide +kernel : decode cL_scratch 25 = .ok (.ireturn, 1))
      · rw [if_neg hc]
        refine lv_lconst C.1 C.2.1 (by decide +kernel : decode cL_scratch 11 = .ok (.lconst 1, 1)) (v := 1) rfl ?_
        refine lv_goto C.1 C.2.1 (by decide +kernel : decode cL_scratch 12 = .ok (.goto 4, 3)) (tgt := 16) (by decide) ?_
        refine x_last C.1 C.2.1 C.2.2.2.2.2.1 hS1 hg vp_in_01 (by decide +kernel : decode cL_scratch 16 = .ok (.lastore, 1)) (fun H2 locs2 hS2 => ?_)
        refine lv_goto C.1 C.2.1 (by decide +kernel : decode cL_scratch 17 = .ok (.goto 7, 3)) (tgt := 24) (by decide) ?_
        refine lv_iconst C.1 C.2.1 (by decide +kernel : decode cL_scratch 24 = .ok (.iconst 0, 1)) (v := nI 0) rfl ?_
        exact h_ret C hS2 rfl rfl (Nat.le_of_eq (Nat.zero_add _)) (Nat.le_of_eq (Nat.zero_add _)) (by decide +kernel : decode cL_scratch 25 = .ok (.ireturn, 1))
  · refine h_open (by decide) rfl (Nat.le_of_ble_eq_true rfl) (fun p e s m below meth c ls C hS hl => ?_)
    refine lv_aload_n C.1 C.2.1 (by decide +kernel : decode cL_scratch 0 = .ok (.aload_n 3, 1)) rfl (xget_has hl rfl) ?_
    refine lv_iconst C.1 C.2.1 (by decide +kernel : decode cL_scratch 1 = .ok (.iconst 0, 1)) (v := nI 0) rfl ?_
    refine lv_aload_n C.1 C.2.1 (by decide +kernel : decode cL_scratch 2 = .ok (.aload_n 0, 1)) rfl (xget_has hl rfl) ?_
    refine lv_iload_n C.1 C.2.1 (by decide +kernel : decode cL_scratch 3 = .ok (.iload_n 1, 1)) rfl (xget_has hl rfl) ?_
    refine lv_iload_n C.1 C.2.1 (by decide +kernel : decode cL_scratch 4 = .ok (.iload_n 2, 1)) rfl (xget_has hl rfl) ?_
    refine x_invoke C.1 C.2.1 C.2.2.1 C.2.2.2.1 C.2.2.2.2.1 C.2.2.2.2.2.1 C.2.2.2.2.2.2.1 hS C.2.2.2.2.2.2.2.1 hl.1 (kd := 5) (idx := 71) (n := 3) (ci := 9) (M := rX10_scratch.1) (f := f) hok hM (av := [.ref x, .int a, .int b]) (st := [.int b, .int a, .ref x, .int (nI 0), .ref o]) (rest := [.int (nI 0), .ref o]) rfl rfl hf (fun _ => ⟨x, [.int a, .int b], rfl, Or.inl ⟨fs, hx0⟩⟩) (Nat.le_of_ble_eq_true rfl) (Nat.le_of_eq (Nat.zero_add _)) (Nat.le_of_eq (Nat.zero_add _)) (by decide +kernel : decode cL_scratch 5 = .ok (.invokevirtual 71, 3)) (fun h => absurd rfl h) (fun X ce q9 z H1 locs1 q1 hS1 q3 q4 q5 => ?_) (fun v9 H1 locs1 q1 hS1 => ?_)
    · have hX : X = xexc ex := (Sum.inr.inj q1).symm
      subst hX
      match k, hk with
      | 0, hk =>
        cases hk
        refine h_exc C (ex := 1) [] ⟨0, 17, 20, 25⟩ [] rfl (fun z hz => absurd hz List.not_mem_nil) (by decide) (by decide) cl_25 (by decide) q3 q4 q5 ?_
        exact h_h4 C (by decide) hl hS1 rfl rfl (Nat.le_of_eq (Nat.zero_add _)) (Nat.le_of_eq (Nat.zero_add _)) (by decide +kernel : decode cL_scratch 20 = .ok (.astore 4, 2)) (by decide +kernel : decode cL_scratch 22 = .ok (.iconst 1, 1)) (by decide +kernel : decode cL_scratch 23 = .ok (.ireturn, 1))
      | k + 1, hk => exact absurd hk (by simp)
    · cases q1
theorem hl_blink {l : Launch} {G : xG} {E : xEn} {d : Nat} {f : List Value → xH → Option xR} {x o : Nat} {a b : Int32} {σ : xH} {fs : List Value} (hM : xMet xlds xexs l G E d rX10_blink.1 f) (hx0 : σ.1 x = some (.inr (8, fs))) :
    (∀ (v : Int32) (σ1 : xH) (g : Nat → Int64), f [.ref x, .int a, .int b] σ = some (.inl (some (.int v)), σ1) → σ1.1 o = some (.inl (2, 1, .inr (.inl g))) → hMet xlds xexs l G E (d + 1) yL_blink cL_blink 5 [(0, 10, 13, 13), (0, 10, 17, 60)] 1 6 [.ref x, .int a, .int b, .ref o] σ (.inl (some (.int (nI 0))), (xup σ1.1 o (.inl (2, 1, .inr (.inl (vp_updL g 0 v.toInt64)))), σ1.2))) ∧
    (∀ (σ1 : xH) (k ex : Nat), ([0, 2] : List Nat)[k]? = some ex → f [.ref x, .int a, .int b] σ = some (.inr (xexc ex), σ1) → hMet xlds xexs l G E (d + 1) yL_blink cL_blink 5 [(0, 10, 13, 13), (0, 10, 17, 60)] 1 6 [.ref x, .int a, .int b, .ref o] σ (.inl (some (.int (nI (k + 1)))), σ1)) := by
  have hok : xokC RL 5 75 3 9 rX10_blink.1 = true := by decide +kernel
  refine ⟨fun v σ1 g hf hg => ?_, fun σ1 k ex hk hf => ?_⟩
  · refine h_open (by decide) rfl (Nat.le_of_ble_eq_true rfl) (fun p e s m below meth c ls C hS hl => ?_)
    refine lv_aload_n C.1 C.2.1 (by decide +kernel : decode cL_blink 0 = .ok (.aload_n 3, 1)) rfl (xget_has hl rfl) ?_
    refine lv_iconst C.1 C.2.1 (by decide +kernel : decode cL_blink 1 = .ok (.iconst 0, 1)) (v := nI 0) rfl ?_
    refine lv_aload_n C.1 C.2.1 (by decide +kernel : decode cL_blink 2 = .ok (.aload_n 0, 1)) rfl (xget_has hl rfl) ?_
    refine lv_iload_n C.1 C.2.1 (by decide +kernel : decode cL_blink 3 = .ok (.iload_n 1, 1)) rfl (xget_has hl rfl) ?_
    refine lv_iload_n C.1 C.2.1 (by decide +kernel : decode cL_blink 4 = .ok (.iload_n 2, 1)) rfl (xget_has hl rfl) ?_
    refine x_invoke C.1 C.2.1 C.2.2.1 C.2.2.2.1 C.2.2.2.2.1 C.2.2.2.2.2.1 C.2.2.2.2.2.2.1 hS C.2.2.2.2.2.2.2.1 hl.1 (kd := 5) (idx := 75) (n := 3) (ci := 9) (M := rX10_blink.1) (f := f) hok hM (av := [.ref x, .int a, .int b]) (st := [.int b, .int a, .ref x, .int (nI 0), .ref o]) (rest := [.int (nI 0), .ref o]) rfl rfl hf (fun _ => ⟨x, [.int a, .int b], rfl, Or.inl ⟨fs, hx0⟩⟩) (Nat.le_of_ble_eq_true rfl) (Nat.le_of_eq (Nat.zero_add _)) (Nat.le_of_eq (Nat.zero_add _)) (by decide +kernel : decode cL_blink 5 = .ok (.invokevirtual 75, 3)) (fun h => absurd rfl h) (fun X ce q9 z H1 locs1 q1 hS1 q3 q4 q5 => ?_) (fun v9 H1 locs1 q1 hS1 => ?_)
    · cases q1
    · cases q1
      refine lv_i2l C.1 C.2.1 (by decide +kernel : decode cL_blink 8 = .ok (.i2l, 1)) rfl ?_
      refine x_last C.1 C.2.1 C.2.2.2.2.2.1 hS1 hg vp_in_01 (by decide +kernel : decode cL_blink 9 = .ok (.lastore, 1)) (fun H2 locs2 hS2 => ?_)
      refine lv_goto C.1 C.2.1 (by decide +kernel : decode cL_blink 10 = .ok (.goto 11, 3)) (tgt := 21) (by decide) ?_
      refine lv_iconst C.1 C.2.1 (by decide +kernel : decode cL_blink 21 = .ok (.iconst 0, 1)) (v := nI 0) rfl ?_
      exact h_ret C hS2 rfl rfl (Nat.le_of_eq (Nat.zero_add _)) (Nat.le_of_eq (Nat.zero_add _)) (by decide +kernel : decode cL_blink 22 = .ok (.ireturn, 1))
  · refine h_open (by decide) rfl (Nat.le_of_ble_eq_true rfl) (fun p e s m below meth c ls C hS hl => ?_)
    refine lv_aload_n C.1 C.2.1 (by decide +kernel : decode cL_blink 0 = .ok (.aload_n 3, 1)) rfl (xget_has hl rfl) ?_
    refine lv_iconst C.1 C.2.1 (by decide +kernel : decode cL_blink 1 = .ok (.iconst 0, 1)) (v := nI 0) rfl ?_
    refine lv_aload_n C.1 C.2.1 (by decide +kernel : decode cL_blink 2 = .ok (.aload_n 0, 1)) rfl (xget_has hl rfl) ?_
    refine lv_iload_n C.1 C.2.1 (by decide +kernel : decode cL_blink 3 = .ok (.iload_n 1, 1)) rfl (xget_has hl rfl) ?_
    refine lv_iload_n C.1 C.2.1 (by decide +kernel : decode cL_blink 4 = .ok (.iload_n 2, 1)) rfl (xget_has hl rfl) ?_
    refine x_invoke C.1 C.2.1 C.2.2.1 C.2.2.2.1 C.2.2.2.2.1 C.2.2.2.2.2.1 C.2.2.2.2.2.2.1 hS C.2.2.2.2.2.2.2.1 hl.1 (kd := 5) (idx := 75) (n := 3) (ci := 9) (M := rX10_blink.1) (f := f) hok hM (av := [.ref x, .int a, .int b]) (st := [.int b, .int a, .ref x, .int (nI 0), .ref o]) (rest := [.int (nI 0), .ref o]) rfl rfl hf (fun _ => ⟨x, [.int a, .int b], rfl, Or.inl ⟨fs, hx0⟩⟩) (Nat.le_of_ble_eq_true rfl) (Nat.le_of_eq (Nat.zero_add _)) (Nat.le_of_eq (Nat.zero_add _)) (by decide +kernel : decode cL_blink 5 = .ok (.invokevirtual 75, 3)) (fun h => absurd rfl h) (fun X ce q9 z H1 locs1 q1 hS1 q3 q4 q5 => ?_) (fun v9 H1 locs1 q1 hS1 => ?_)
    · have hX : X = xexc ex := (Sum.inr.inj q1).symm
      subst hX
      match k, hk with
      | 0, hk =>
        cases hk
        refine h_exc C (ex := 0) [] ⟨0, 10, 13, 13⟩ [⟨0, 10, 17, 60⟩] rfl (fun z hz => absurd hz List.not_mem_nil) (by decide) (by decide) cl_13 (by decide) q3 q4 q5 ?_
        exact h_h4 C (by decide) hl hS1 rfl rfl (Nat.le_of_eq (Nat.zero_add _)) (Nat.le_of_eq (Nat.zero_add _)) (by decide +kernel : decode cL_blink 13 = .ok (.astore 4, 2)) (by decide +kernel : decode cL_blink 15 = .ok (.iconst 1, 1)) (by decide +kernel : decode cL_blink 16 = .ok (.ireturn, 1))
      | 1, hk =>
        cases hk
        refine h_exc C (ex := 2) [⟨0, 10, 13, 13⟩] ⟨0, 10, 17, 60⟩ [] rfl (List.forall_mem_cons.mpr ⟨⟨by decide, 0, by decide, by decide, cl_13⟩, fun z hz => absurd hz List.not_mem_nil⟩) (by decide) (by decide) cl_60 (by decide) q3 q4 q5 ?_
        exact h_h4 C (by decide) hl hS1 rfl rfl (Nat.le_of_eq (Nat.zero_add _)) (Nat.le_of_eq (Nat.zero_add _)) (by decide +kernel : decode cL_blink 17 = .ok (.astore 4, 2)) (by decide +kernel : decode cL_blink 19 = .ok (.iconst 2, 1)) (by decide +kernel : decode cL_blink 20 = .ok (.ireturn, 1))
      | k + 2, hk => exact absurd hk (by simp)
    · cases q1
theorem hl_suspect {l : Launch} {G : xG} {E : xEn} {d : Nat} {f : List Value → xH → Option xR} {x o : Nat} {a : Int32} {σ : xH} {fs : List Value} (hM : xMet xlds xexs l G E d rX10_suspect.1 f) (hx0 : σ.1 x = some (.inr (8, fs))) :
    (∀ (v : Int32) (σ1 : xH) (g : Nat → Int64), f [.ref x, .int a] σ = some (.inl (some (.int v)), σ1) → σ1.1 o = some (.inl (2, 1, .inr (.inl g))) → hMet xlds xexs l G E (d + 1) yL_suspect cL_suspect 4 [(0, 9, 12, 81)] 1 6 [.ref x, .int a, .ref o] σ (.inl (some (.int (nI 0))), (xup σ1.1 o (.inl (2, 1, .inr (.inl (vp_updL g 0 v.toInt64)))), σ1.2))) ∧
    (∀ (σ1 : xH) (k ex : Nat), ([3] : List Nat)[k]? = some ex → f [.ref x, .int a] σ = some (.inr (xexc ex), σ1) → hMet xlds xexs l G E (d + 1) yL_suspect cL_suspect 4 [(0, 9, 12, 81)] 1 6 [.ref x, .int a, .ref o] σ (.inl (some (.int (nI (k + 1)))), σ1)) := by
  have hok : xokC RL 5 78 2 9 rX10_suspect.1 = true := by decide +kernel
  refine ⟨fun v σ1 g hf hg => ?_, fun σ1 k ex hk hf => ?_⟩
  · refine h_open (by decide) rfl (Nat.le_of_ble_eq_true rfl) (fun p e s m below meth c ls C hS hl => ?_)
    refine lv_aload_n C.1 C.2.1 (by decide +kernel : decode cL_suspect 0 = .ok (.aload_n 2, 1)) rfl (xget_has hl rfl) ?_
    refine lv_iconst C.1 C.2.1 (by decide +kernel : decode cL_suspect 1 = .ok (.iconst 0, 1)) (v := nI 0) rfl ?_
    refine lv_aload_n C.1 C.2.1 (by decide +kernel : decode cL_suspect 2 = .ok (.aload_n 0, 1)) rfl (xget_has hl rfl) ?_
    refine lv_iload_n C.1 C.2.1 (by decide +kernel : decode cL_suspect 3 = .ok (.iload_n 1, 1)) rfl (xget_has hl rfl) ?_
    refine x_invoke C.1 C.2.1 C.2.2.1 C.2.2.2.1 C.2.2.2.2.1 C.2.2.2.2.2.1 C.2.2.2.2.2.2.1 hS C.2.2.2.2.2.2.2.1 hl.1 (kd := 5) (idx := 78) (n := 2) (ci := 9) (M := rX10_suspect.1) (f := f) hok hM (av := [.ref x, .int a]) (st := [.int a, .ref x, .int (nI 0), .ref o]) (rest := [.int (nI 0), .ref o]) rfl rfl hf (fun _ => ⟨x, [.int a], rfl, Or.inl ⟨fs, hx0⟩⟩) (Nat.le_of_ble_eq_true rfl) (Nat.le_of_eq (Nat.zero_add _)) (Nat.le_of_eq (Nat.zero_add _)) (by decide +kernel : decode cL_suspect 4 = .ok (.invokevirtual 78, 3)) (fun h => absurd rfl h) (fun X ce q9 z H1 locs1 q1 hS1 q3 q4 q5 => ?_) (fun v9 H1 locs1 q1 hS1 => ?_)
    · cases q1
    · cases q1
      refine lv_i2l C.1 C.2.1 (by decide +kernel : decode cL_suspect 7 = .ok (.i2l, 1)) rfl ?_
      refine x_last C.1 C.2.1 C.2.2.2.2.2.1 hS1 hg vp_in_01 (by decide +kernel : decode cL_suspect 8 = .ok (.lastore, 1)) (fun H2 locs2 hS2 => ?_)
      refine lv_goto C.1 C.2.1 (by decide +kernel : decode cL_suspect 9 = .ok (.goto 6, 3)) (tgt := 15) (by decide) ?_
      refine lv_iconst C.1 C.2.1 (by decide +kernel : decode cL_suspect 15 = .ok (.iconst 0, 1)) (v := nI 0) rfl ?_
      exact h_ret C hS2 rfl rfl (Nat.le_of_eq (Nat.zero_add _)) (Nat.le_of_eq (Nat.zero_add _)) (by decide +kernel : decode cL_suspect 16 = .ok (.ireturn, 1))
  · refine h_open (by decide) rfl (Nat.le_of_ble_eq_true rfl) (fun p e s m below meth c ls C hS hl => ?_)
    refine lv_aload_n C.1 C.2.1 (by decide +kernel : decode cL_suspect 0 = .ok (.aload_n 2, 1)) rfl (xget_has hl rfl) ?_
    refine lv_iconst C.1 C.2.1 (by decide +kernel : decode cL_suspect 1 = .ok (.iconst 0, 1)) (v := nI 0) rfl ?_
    refine lv_aload_n C.1 C.2.1 (by decide +kernel : decode cL_suspect 2 = .ok (.aload_n 0, 1)) rfl (xget_has hl rfl) ?_
    refine lv_iload_n C.1 C.2.1 (by decide +kernel : decode cL_suspect 3 = .ok (.iload_n 1, 1)) rfl (xget_has hl rfl) ?_
    refine x_invoke C.1 C.2.1 C.2.2.1 C.2.2.2.1 C.2.2.2.2.1 C.2.2.2.2.2.1 C.2.2.2.2.2.2.1 hS C.2.2.2.2.2.2.2.1 hl.1 (kd := 5) (idx := 78) (n := 2) (ci := 9) (M := rX10_suspect.1) (f := f) hok hM (av := [.ref x, .int a]) (st := [.int a, .ref x, .int (nI 0), .ref o]) (rest := [.int (nI 0), .ref o]) rfl rfl hf (fun _ => ⟨x, [.int a], rfl, Or.inl ⟨fs, hx0⟩⟩) (Nat.le_of_ble_eq_true rfl) (Nat.le_of_eq (Nat.zero_add _)) (Nat.le_of_eq (Nat.zero_add _)) (by decide +kernel : decode cL_suspect 4 = .ok (.invokevirtual 78, 3)) (fun h => absurd rfl h) (fun X ce q9 z H1 locs1 q1 hS1 q3 q4 q5 => ?_) (fun v9 H1 locs1 q1 hS1 => ?_)
    · have hX : X = xexc ex := (Sum.inr.inj q1).symm
      subst hX
      match k, hk with
      | 0, hk =>
        cases hk
        refine h_exc C (ex := 3) [] ⟨0, 9, 12, 81⟩ [] rfl (fun z hz => absurd hz List.not_mem_nil) (by decide) (by decide) cl_81 (by decide) q3 q4 q5 ?_
        exact h_h3 C (by decide) hl hS1 rfl rfl (Nat.le_of_eq (Nat.zero_add _)) (Nat.le_of_eq (Nat.zero_add _)) (by decide +kernel : decode cL_suspect 12 = .ok (.astore_n 3, 1)) (by decide +kernel : decode cL_suspect 13 = .ok (.iconst 1, 1)) (by decide +kernel : decode cL_suspect 14 = .ok (.ireturn, 1))
      | k + 1, hk => exact absurd hk (by simp)
    · cases q1
