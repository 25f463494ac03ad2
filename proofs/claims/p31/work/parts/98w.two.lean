/-! THE TWO METHODS WITH A HANDLER. -/
theorem cl_37 : Cond.classLink RL 37 (xexc 2) ∈ xWs := by decide +kernel
theorem cs_37 : Cond.castable (xexc 2) (xexc 2) ∈ lw_tbl := by decide +kernel
theorem h_two {l : Launch} {G : xG} {E : xEn} {d idx : Nat} {y : MethodName} {cc : ByteArray} {M1 : xMth} {f f0 : List Value → xH → Option xR} (hy : plainName y.cls = true) (hcl : y.cls = RL) (hcw : xcw (y, cc, 3, some .int, 2, 12) = true) (hm1 : M1.2.2.2.2.1 = 2) (hm2 : M1.2.2.2.2.2 = 12) (hok : xokC RL 5 idx 2 9 M1 = true) (hM : xMet xlds xexs l G E d M1 f)
    (d0 : decode cc 0 = .ok (.aload_n 0, 1)) (d1 : decode cc 1 = .ok (.iload_n 1, 1)) (d2 : decode cc 2 = .ok (.invokevirtual idx, 3)) (d5 : decode cc 5 = .ok (.ireturn, 1)) (d6 : decode cc 6 = .ok (.astore_n 2, 1)) (d7 : decode cc 7 = .ok (.sipush (-1001), 3)) (d10 : decode cc 10 = .ok (.ireturn, 1))
    (hf : ∀ av σ r, f0 av σ = some r → ∃ x a fs, av = [.ref x, .int a] ∧ σ.1 x = some (.inr (8, fs)) ∧ ((∃ v σ1, f av σ = some (.inl (some (.int v)), σ1) ∧ r = (.inl (some (.int v)), σ1)) ∨ (∃ σ1, f av σ = some (.inr (xexc 2), σ1) ∧ r = (.inl (some (.int (-1001))), (σ1.1, σ1.2 + 1))))) : xMet xlds xexs l G E (d + 1) (y, cc, 3, some .int, 2, 12) f0 := by
  intro av σ r h
  obtain ⟨x, a, fs, rfl, hx0, hr⟩ := hf av σ r h
  have hws : xws (y, cc, 3, some .int, 2, 12) = .codeWith y cc 3 (some .int) [(0, 5, 6, 37)] :: xWs := by
    unfold xws xhd
    rw [hcw]
    rfl
  refine vx_ofWH (cc := cc) (maxL := 3) (ret := some .int) (hh := [(0, 5, 6, 37)]) hy hws ?_
  intro p e s m args below meth c s₁ B hml hv
  obtain ⟨rfl, hsz, hWo, hK, hKK⟩ := hv
  have hts0 := atoms_spec (ws := xws (y, cc, 3, some .int, 2, 12)) B.pre
  rw [hws] at hts0
  have hts : ∀ w ∈ xWs, w.before ([.ref x, .int a] : List Value).toArray s = true := fun w h => hts0 w (List.mem_cons_of_mem _ h)
  have hown : s.vm.findClass RL = some m.cls := by
    rw [← hcl]
    exact findClass_of_methodNamed B.named
  have htab := vx_table (x := y) B (hts0 _ List.mem_cons_self)
  have hA : ∀ q, s.heap.size ≤ q → xA σ q := fun q hq => Or.inr (by rw [← hsz]; exact hq)
  have hS : xS G (xA σ) s.heap σ s.heap [] := ⟨hsz, hWo, fun a ha => Or.inl ha, va_S.rf⟩
  have hx := B.exec
  have hb := B.bytes
  have hret := B.returns
  have hlocks := B.notSynchronized
  have hl := lv_entry [.ref x, .int a] (n := 3) (by rw [lg_sl_len]; exact Nat.le_of_ble_eq_true rfl)
  rw [lg_entry_eq]
  generalize (lg_sl [.ref x, .int a] ++ List.replicate (3 - (lg_sl [.ref x, .int a]).length) Slot.unset).toArray = ls at hl ⊢
  have K : W p l e (xrm (d + 1) 2 12) s m ([.ref x, .int a] : List Value).toArray below meth c s.heap [] 0 0 (vx_MQ below (xQc G (xA σ) r) (xXC G (xA σ) r) ([.ref x, .int a] : List Value).toArray s 2 12 (xA σ)) (F0 m 0 ls []) := by
    refine lv_aload_n hx hb d0 rfl (xget_has hl rfl) ?_
    refine lv_iload_n hx hb d1 rfl (xget_has hl rfl) ?_
    rcases hr with ⟨v, σ1, hf1, rfl⟩ | ⟨σ1, hf1, rfl⟩
    · refine x_invoke (MC := 2) (MS := 12) hx hb hml hts hown hK hKK hS hA hl.1 (kd := 5) (idx := idx) (n := 2) (ci := 9) (M := M1) (f := f) hok hM (av := [.ref x, .int a]) (st := [.int a, .ref x]) (rest := []) rfl rfl hf1 (fun _ => ⟨x, [.int a], rfl, Or.inl ⟨fs, hx0⟩⟩) (Nat.zero_le _) (by rw [hm1]; exact Nat.le_refl _) (by rw [hm2]; exact Nat.le_refl _) d2 (fun h => absurd rfl h) (fun X ce q9 H1 locs1 q1 hS1 q3 q4 q5 => ?_) (fun v9 H1 locs1 q1 hS1 => ?_)
      · cases q1
      · cases q1
        obtain ⟨k1, k2⟩ := x_fin (args := ([.ref x, .int a] : List Value).toArray) (r0 := (.inl (some (.int v)), σ1)) hS1 rfl
        exact vx_ret (W.widen (by rw [hm1]; exact Nat.le_refl _) (by rw [hm2]; exact Nat.le_refl _) (W.zret hx hb hret (ty := .int) rfl k1 k2 d5 hlocks))
    · refine x_invoke (MC := 2) (MS := 12) hx hb hml hts hown hK hKK hS hA hl.1 (kd := 5) (idx := idx) (n := 2) (ci := 9) (M := M1) (f := f) hok hM (av := [.ref x, .int a]) (st := [.int a, .ref x]) (rest := []) rfl rfl hf1 (fun _ => ⟨x, [.int a], rfl, Or.inl ⟨fs, hx0⟩⟩) (Nat.zero_le _) (by rw [hm1]; exact Nat.le_refl _) (by rw [hm2]; exact Nat.le_refl _) d2 (fun h => absurd rfl h) (fun X ce q9 H1 locs1 q1 hS1 q3 q4 q5 => ?_) (fun v9 H1 locs1 q1 hS1 => ?_)
      · have hX : X = xexc 2 := (Sum.inr.inj q1).symm
        subst hX
        refine vx_catch hown [] ⟨0, 5, 6, 37⟩ [] (htab.trans rfl) (fun z hz => absurd hz List.not_mem_nil) (by decide) (by decide) (hts _ cl_37) (va_Nw.use rfl (hKK.2.2.2.2.2.2.2.2.2.1 _ cs_37 rfl)) q3 q4 q5 ?_
        refine lv_astore_n hx hb d6 rfl hl (by decide) rfl (fun ls' hl' => ?_)
        refine lv_sipush hx hb d7 (v := -1001) rfl ?_
        obtain ⟨k1, k2⟩ := x_fin (args := ([.ref x, .int a] : List Value).toArray) (r0 := (.inl (some (.int (-1001))), (σ1.1, σ1.2 + 1))) hS1 rfl
        exact vx_ret (W.widen (by rw [hm1]; exact Nat.le_refl _) (by rw [hm2]; exact Nat.le_refl _) (W.zret hx hb hret (ty := .int) rfl k1 k2 d10 hlocks))
      · cases q1
  exact K
theorem two_av {x : Option xR} {r : xR} {av : List Value} (h : (bif xar2 av then xcat1 x else none) = some r) : ∃ a b, av = [.ref a, .int b] ∧ xcat1 x = some r := by
  cases hh : xar2 av with
  | false => rw [hh] at h; cases h
  | true =>
    rw [hh] at h
    unfold xar2 at hh
    split at hh
    · next a b => exact ⟨a, b, rfl, h⟩
    · cases hh
theorem two_cat {x : Option xR} {r : xR} (h : xcat1 (cI (xthr 5 some) x (fun v1 σ1 => some (.inl (some (.int v1)), σ1))) = some r) : (∃ v σ1, x = some (.inl (some (.int v)), σ1) ∧ r = (.inl (some (.int v)), σ1)) ∨ (∃ σ1, x = some (.inr (xexc 2), σ1) ∧ r = (.inl (some (.int (-1001))), (σ1.1, σ1.2 + 1))) := by
  match x, h with
  | none, h => cases h
  | some (.inr X, σ1), h =>
    have h : (if X = "java/lang/IllegalStateException" then some ((.inl (some (.int (-1001))), (σ1.1, σ1.2 + 1)) : xR) else none) = some r := h
    by_cases hX : X = "java/lang/IllegalStateException"
    · rw [if_pos hX] at h
      exact Or.inr ⟨σ1, by rw [hX]; rfl, (Option.some.inj h).symm⟩
    · rw [if_neg hX] at h
      cases h
  | some (.inl none, σ1), h => cases h
  | some (.inl (some (.int v)), σ1), h => exact Or.inl ⟨v, σ1, rfl, (Option.some.inj h).symm⟩
  | some (.inl (some (.long v)), σ1), h => cases h
  | some (.inl (some (.float v)), σ1), h => cases h
  | some (.inl (some (.double v)), σ1), h => cases h
  | some (.inl (some (.ref v)), σ1), h => cases h
  | some (.inl (some .null), σ1), h => cases h
theorem two_c : ∀ c, c = true → ∀ {α : Type} (a : α) (b : α), (bif c then a else b) = a := fun c h α a b => by rw [h]; rfl
theorem two_s {E : xEn} {d : Nat} : ∀ av σ r, xsem xT E (d + 1) kL_steals av σ = some r → ∃ x a fs, av = [.ref x, .int a] ∧ σ.1 x = some (.inr (8, fs)) ∧ ((∃ v σ1, xsem xT E d kX10_steal av σ = some (.inl (some (.int v)), σ1) ∧ r = (.inl (some (.int v)), σ1)) ∨ (∃ σ1, xsem xT E d kX10_steal av σ = some (.inr (xexc 2), σ1) ∧ r = (.inl (some (.int (-1001))), (σ1.1, σ1.2 + 1)))) := by
  intro av σ r h
  obtain ⟨x, a, rfl, -⟩ := two_av (by unfold xsem at h; exact h)
  rw [eL_steals, QL_steals_0, show (Nat.ble (0 + 2) 2 && Nat.ble (0 + 12) 12) = true from rfl, cond_true] at h
  cases hg : gO E σ 8 x (cI (xthr 5 some) (xsem xT E d kX10_steal [.ref x, .int a] σ) (fun v1 σ1 => some (.inl (some (.int v1)), σ1))) with
  | none => rw [hg] at h; cases h
  | some r1 =>
    obtain ⟨h1, h2⟩ := iv_gO hg
    rw [hg, ← h2] at h
    rcases h1 with ⟨fs, hfs⟩ | ⟨h1, -⟩ | ⟨h1, -⟩
    · exact ⟨x, a, fs, rfl, hfs, two_cat h⟩
    · exact absurd h1 (by decide)
    · exact absurd h1 (by decide)
theorem two_p {E : xEn} {d : Nat} : ∀ av σ r, xsem xT E (d + 1) kL_plants av σ = some r → ∃ x a fs, av = [.ref x, .int a] ∧ σ.1 x = some (.inr (8, fs)) ∧ ((∃ v σ1, xsem xT E d kX10_plant av σ = some (.inl (some (.int v)), σ1) ∧ r = (.inl (some (.int v)), σ1)) ∨ (∃ σ1, xsem xT E d kX10_plant av σ = some (.inr (xexc 2), σ1) ∧ r = (.inl (some (.int (-1001))), (σ1.1, σ1.2 + 1)))) := by
  intro av σ r h
  obtain ⟨x, a, rfl, -⟩ := two_av (by unfold xsem at h; exact h)
  rw [eL_plants, QL_plants_0, show (Nat.ble (0 + 2) 2 && Nat.ble (0 + 12) 12) = true from rfl, cond_true] at h
  cases hg : gO E σ 8 x (cI (xthr 5 some) (xsem xT E d kX10_plant [.ref x, .int a] σ) (fun v1 σ1 => some (.inl (some (.int v1)), σ1))) with
  | none => rw [hg] at h; cases h
  | some r1 =>
    obtain ⟨h1, h2⟩ := iv_gO hg
    rw [hg, ← h2] at h
    rcases h1 with ⟨fs, hfs⟩ | ⟨h1, -⟩ | ⟨h1, -⟩
    · exact ⟨x, a, fs, rfl, hfs, two_cat h⟩
    · exact absurd h1 (by decide)
    · exact absurd h1 (by decide)
theorem ok_steal : xokC RL 5 34 2 9 rX10_steal.1 = true := by decide +kernel
theorem ok_plant : xokC RL 5 39 2 9 rX10_plant.1 = true := by decide +kernel
/-- the two rows that x_sem leaves -/
theorem x_two {l : Launch} {G : xG} {E : xEn} : ∀ key r, xT key = some r → key < 2 → ∀ d, (∀ (key : Nat) (M : xMth), (xT key).map (fun r => r.1) = some M → xMet xlds xexs l G E d M (xsem xT E d key)) → xMet xlds xexs l G E (d + 1) r.1 (xsem xT E (d + 1) key) := by
  intro key r hk h2 d ih
  match key, hk, h2 with
  | 0, hk, _ =>
    have hr : r = rL_steals := (Option.some.inj hk).symm
    subst hr
    exact h_two (idx := 34) (M1 := rX10_steal.1) (by decide +kernel) rfl (by decide +kernel) rfl rfl ok_steal (ih kX10_steal _ rfl) (by decide +kernel) (by decide +kernel) (by decide +kernel) (by decide +kernel) (by decide +kernel) (by decide +kernel) (by decide +kernel) two_s
  | 1, hk, _ =>
    have hr : r = rL_plants := (Option.some.inj hk).symm
    subst hr
    exact h_two (idx := 39) (M1 := rX10_plant.1) (by decide +kernel) rfl (by decide +kernel) rfl rfl ok_plant (ih kX10_plant _ rfl) (by decide +kernel) (by decide +kernel) (by decide +kernel) (by decide +kernel) (by decide +kernel) (by decide +kernel) (by decide +kernel) two_p
  | k + 2, _, h2 => exact absurd h2 (by omega)
