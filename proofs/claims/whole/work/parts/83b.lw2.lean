/-! THE LAW'S CALLS: the class called by a helper or at once, then the reference. -/
theorem g_thrown {E : xEn} {y n u : Nat} {M : xSt} : xsem xT E (u + 1) kX11_thrown [.ref y] (wW E y shM M, n) = some (.inl (some (.int (M.1 0 0))), (wW E y shM M, n)) := by
  rw [eX11_thrown, QX11_thrown_0, gI_9_0 hM0]
theorem xexc_inj : ∀ i, i < 4 → ∀ j, j < 4 → xexc i = xexc j → i = j := by decide +kernel
theorem ex_nd {exs : List Nat} (h : exs.Nodup) (h4 : ∀ e ∈ exs, e < 4) {k1 k ex1 ex : Nat} (h1 : exs[k1]? = some ex1) (h2 : exs[k]? = some ex) (e : xexc ex1 = xexc ex) : k1 = k := by
  have m1 := List.mem_of_getElem? h1
  have m2 := List.mem_of_getElem? h2
  have e' := xexc_inj ex1 (h4 _ m1) ex (h4 _ m2) e
  subst e'
  exact (List.getElem?_inj (List.getElem?_eq_some_iff.mp h1).1 h).mp (h1.trans h2.symm)
section LC
variable {E : xEn} {x n : Nat} {sh : Nat → Option xSh} {S M : xSt} {Bd : Nat} {f : Nat → Int64} {g : Nat → UInt64} {l : Launch} {G : xG} {d : Nat}
theorem lw_eq {w' : Nat → Option va_E} {S0 S1 : xSt} (hn : x + 148 ≤ n) (h1 : ∀ a, a ≠ n → w' a = wW E x sh S0 a) (h2 : ∀ a, a ≠ n → w' a = wW E x sh S1 a) : lwW E x sh S0 M f g = lwW E x sh S1 M f g := by
  funext a
  unfold lwW
  by_cases c : a < x + 135
  · rw [if_pos c, if_pos c]
    exact (h1 a (by omega)).symm.trans (h2 a (by omega))
  · rw [if_neg c, if_neg c]
theorem lw_cI {exs : List Nat} {cr : Option xR} {mr : Nat → Option xR} {M0 : xMth} {f0 : List Value → xH → Option xR} {av avo : List Value} {y : MethodName} {cc : ByteArray} {nL mc ms : Nat} {hh : List (Nat × Nat × Nat × Nat)} (cv : Int32 → Int64) (hex : exs.length < 4 ∧ exs.Nodup ∧ ∀ e ∈ exs, e < 4) (hsh : ∀ j, 135 ≤ j → sh j = none) (hn : x + 148 ≤ n)
    (hT : ∀ m, oT E x (x + 135) n m sh exs Bd 0 cr (mr m)) (hM : xMet xlds xexs l G E d M0 f0) (hcr : f0 av (wW E x sh S, n) = cr)
    (hhl : ∀ f', xMet xlds xexs l G E d M0 f' →
      (∀ (v : Int32) (σ1 : xH) (g0 : Nat → Int64), f' av (lwW E x sh S M f g, n) = some (.inl (some (.int v)), σ1) → σ1.1 (x + 146) = some (.inl (2, 1, .inr (.inl g0))) → hMet xlds xexs l G E (d + 1) y cc nL hh mc ms avo (lwW E x sh S M f g, n) (.inl (some (.int (nI 0))), (xup σ1.1 (x + 146) (.inl (2, 1, .inr (.inl (vp_updL g0 0 (cv v))))), σ1.2))) ∧
      (∀ (σ1 : xH) (k ex : Nat), exs[k]? = some ex → f' av (lwW E x sh S M f g, n) = some (.inr (xexc ex), σ1) → hMet xlds xexs l G E (d + 1) y cc nL hh mc ms avo (lwW E x sh S M f g, n) (.inl (some (.int (nI (k + 1)))), σ1))) :
    ∃ (u : xH) (r : Nat) (f' : Nat → Int64), r < 4 ∧ hMet xlds xexs l G E (d + 1) y cc nL hh mc ms avo (lwW E x sh S M f g, n) (.inl (some (.int (nI r))), u) ∧ ∀ z, ∃ S' M' v, RR S' M' Bd ∧ u.1 = lwW E x sh S' M f' g ∧ mr z = some (.inl (some (.int v)), (wW E (x + 135) shM M', z)) ∧ M'.1 0 0 = nI r ∧ (r = 0 → f' 0 = cv v) := by
  obtain ⟨S0, M0', w', n', R0, hw, h0⟩ := hT 0
  rcases h0 with ⟨v, hv, hc, hm, h00⟩ | ⟨k, v, ex, hv, hk, hc, hm, h00⟩
  · obtain ⟨vi, rfl⟩ := vtag_0 hv
    have h1 := (hhl _ (x_frm hM (hcr.trans hc) (sub_c hsh) (up_c (M := M) (f := f) (g := g) hsh hn hw))).1 vi (lwW E x sh S0 M f g, n') f xsg_s wL_o
    refine ⟨_, 0, vp_updL f 0 (cv vi), by omega, h1, fun z => ?_⟩
    obtain ⟨S1, M1, w1, n1, R1, hw1, h2⟩ := hT z
    rcases h2 with ⟨v1, hv1, hc1, hm1, h01⟩ | ⟨k, v1, ex, hv1, hk, hc1, hm1, h01⟩
    · rw [hc] at hc1
      cases hc1
      exact ⟨S1, M1, vi, R1, wL_uo.trans (lw_eq hn hw hw1), hm1, h01, fun _ => rfl⟩
    · rw [hc] at hc1
      cases hc1
  · have h1 := (hhl _ (x_frm hM (hcr.trans hc) (sub_c hsh) (up_c (M := M) (f := f) (g := g) hsh hn hw))).2 (lwW E x sh S0 M f g, n') k ex hk xsg_s
    have hkl : k < exs.length := (List.getElem?_eq_some_iff.mp hk).1
    have hl4 := hex.1
    refine ⟨_, k + 1, f, by omega, h1, fun z => ?_⟩
    obtain ⟨S1, M1, w1, n1, R1, hw1, h2⟩ := hT z
    rcases h2 with ⟨v1, hv1, hc1, hm1, h01⟩ | ⟨k1, v1, ex1, hv1, hk1, hc1, hm1, h01⟩
    · rw [hc] at hc1
      cases hc1
    · obtain ⟨vi, rfl⟩ := vtag_0 hv1
      have hkk : k1 = k := by
        rw [hc] at hc1
        have e1 : xexc ex = xexc ex1 := by
          have := (Prod.mk.inj (Option.some.inj hc1)).1
          exact Sum.inr.inj this
        exact ex_nd hex.2.1 hex.2.2 hk1 hk e1.symm
      subst hkk
      rw [hc] at hc1
      have e2 := (Prod.mk.inj (Option.some.inj hc1)).2
      obtain ⟨rfl, rfl⟩ := Prod.mk.inj e2
      exact ⟨S1, M1, vi, R1, lw_eq hn hw hw1, hm1, h01, fun h => absurd h (by omega)⟩
theorem lw_cD {exs : List Nat} {cr : Option xR} {mr : Nat → Option xR} {M0 : xMth} {f0 : List Value → xH → Option xR} {av avo : List Value} {y : MethodName} {cc : ByteArray} {nL mc ms : Nat} {hh : List (Nat × Nat × Nat × Nat)} (hex : exs.length < 4 ∧ exs.Nodup ∧ ∀ e ∈ exs, e < 4) (hsh : ∀ j, 135 ≤ j → sh j = none) (hn : x + 148 ≤ n)
    (hT : ∀ m, oT E x (x + 135) n m sh exs Bd 4 cr (mr m)) (hM : xMet xlds xexs l G E d M0 f0) (hcr : f0 av (wW E x sh S, n) = cr)
    (hhl : ∀ f', xMet xlds xexs l G E d M0 f' →
      (∀ (v : UInt64) (σ1 : xH) (g0 : Nat → UInt64), f' av (lwW E x sh S M f g, n) = some (.inl (some (.double v)), σ1) → σ1.1 (x + 147) = some (.inl (3, 1, .inr (.inr (.inr (.inl g0))))) → hMet xlds xexs l G E (d + 1) y cc nL hh mc ms avo (lwW E x sh S M f g, n) (.inl (some (.int (nI 0))), (xup σ1.1 (x + 147) (.inl (3, 1, .inr (.inr (.inr (.inl (vf_upd g0 0 v)))))), σ1.2))) ∧
      (∀ (σ1 : xH) (k ex : Nat), exs[k]? = some ex → f' av (lwW E x sh S M f g, n) = some (.inr (xexc ex), σ1) → hMet xlds xexs l G E (d + 1) y cc nL hh mc ms avo (lwW E x sh S M f g, n) (.inl (some (.int (nI (k + 1)))), σ1))) :
    ∃ (u : xH) (r : Nat) (g' : Nat → UInt64), r < 4 ∧ hMet xlds xexs l G E (d + 1) y cc nL hh mc ms avo (lwW E x sh S M f g, n) (.inl (some (.int (nI r))), u) ∧ ∀ z, ∃ S' M' v, RR S' M' Bd ∧ u.1 = lwW E x sh S' M f g' ∧ mr z = some (.inl (some (.double v)), (wW E (x + 135) shM M', z)) ∧ M'.1 0 0 = nI r ∧ (r = 0 → g' 0 = v) := by
  obtain ⟨S0, M0', w', n', R0, hw, h0⟩ := hT 0
  rcases h0 with ⟨v, hv, hc, hm, h00⟩ | ⟨k, v, ex, hv, hk, hc, hm, h00⟩
  · obtain ⟨vi, rfl⟩ := vtag_4 hv
    have h1 := (hhl _ (x_frm hM (hcr.trans hc) (sub_c hsh) (up_c (M := M) (f := f) (g := g) hsh hn hw))).1 vi (lwW E x sh S0 M f g, n') g xsg_s wL_d
    refine ⟨_, 0, vf_upd g 0 vi, by omega, h1, fun z => ?_⟩
    obtain ⟨S1, M1, w1, n1, R1, hw1, h2⟩ := hT z
    rcases h2 with ⟨v1, hv1, hc1, hm1, h01⟩ | ⟨k, v1, ex, hv1, hk, hc1, hm1, h01⟩
    · rw [hc] at hc1
      cases hc1
      exact ⟨S1, M1, vi, R1, wL_ud.trans (lw_eq hn hw hw1), hm1, h01, fun _ => rfl⟩
    · rw [hc] at hc1
      cases hc1
  · have h1 := (hhl _ (x_frm hM (hcr.trans hc) (sub_c hsh) (up_c (M := M) (f := f) (g := g) hsh hn hw))).2 (lwW E x sh S0 M f g, n') k ex hk xsg_s
    have hkl : k < exs.length := (List.getElem?_eq_some_iff.mp hk).1
    have hl4 := hex.1
    refine ⟨_, k + 1, g, by omega, h1, fun z => ?_⟩
    obtain ⟨S1, M1, w1, n1, R1, hw1, h2⟩ := hT z
    rcases h2 with ⟨v1, hv1, hc1, hm1, h01⟩ | ⟨k1, v1, ex1, hv1, hk1, hc1, hm1, h01⟩
    · rw [hc] at hc1
      cases hc1
    · obtain ⟨vi, rfl⟩ := vtag_4 hv1
      have hkk : k1 = k := by
        rw [hc] at hc1
        have e1 : xexc ex = xexc ex1 := by
          have := (Prod.mk.inj (Option.some.inj hc1)).1
          exact Sum.inr.inj this
        exact ex_nd hex.2.1 hex.2.2 hk1 hk e1.symm
      subst hkk
      rw [hc] at hc1
      have e2 := (Prod.mk.inj (Option.some.inj hc1)).2
      obtain ⟨rfl, rfl⟩ := Prod.mk.inj e2
      exact ⟨S1, M1, vi, R1, lw_eq hn hw hw1, hm1, h01, fun h => absurd h (by omega)⟩
theorem lw_cN {t : Nat} {cr : Option xR} {mr : Nat → Option xR} {M0 : xMth} {f0 : List Value → xH → Option xR} {av : List Value} (hsh : ∀ j, 135 ≤ j → sh j = none) (hn : x + 148 ≤ n)
    (hT : ∀ m, oT E x (x + 135) n m sh [] Bd t cr (mr m)) (hM : xMet xlds xexs l G E d M0 f0) (hcr : f0 av (wW E x sh S, n) = cr) :
    ∃ v S' M' n', vtag v = t ∧ RR S' M' Bd ∧ xMet xlds xexs l G E d M0 (xsg av (lwW E x sh S M f g, n) (.inl (some v), (lwW E x sh S' M f g, n'))) ∧ mr n' = some (.inl (some v), (wW E (x + 135) shM M', n')) := by
  obtain ⟨S', M', w', n', R, hw, h0⟩ := oU_of hT
  rcases h0 with ⟨v, hv, hc, hm, h00⟩ | ⟨k, v, ex, hv, hk, hc, hm, h00⟩
  · exact ⟨v, S', M', n', hv, R, x_frm hM (hcr.trans hc) (sub_c hsh) (up_c hsh hn hw), hm⟩
  · exact absurd hk (by simp)
theorem lw_mod {M' : xSt} {v : Option Value} {M0 : xMth} {f0 : List Value → xH → Option xR} {av : List Value} (hM : xMet xlds xexs l G E d M0 f0) (hm : f0 av (wW E (x + 135) shM M, n) = some (.inl v, (wW E (x + 135) shM M', n))) :
    xMet xlds xexs l G E d M0 (xsg av (lwW E x sh S M f g, n) (.inl v, (lwW E x sh S M' f g, n))) := x_frm hM hm sub_m up_m
end LC
/-- the law's locals where a call begins -/
def lL (b x i : Nat) : xL := [(0, .ref b), (1, .ref x), (2, .ref (x + 135)), (3, .ref (x + 146)), (4, .ref (x + 147)), (5, .int (nI i))]
section LN
variable {p : Program} {l : Launch} {e : Env} {s : State} {m : MethodId} {args : Array Value} {below : List Frame} {meth : Method} {c : Code}
variable {G : xG} {E : xEn} {A : Nat → Prop} {d MC MS nL pc bc bs x n : Nat} {L : xL} {st : List Value} {Q : State → Prop} {sh : Nat → Option xSh} {S M : xSt} {f : Nat → Int64} {g : Nat → UInt64}
theorem lw_n (kk : x + 148 ≤ n → xTg p l e s m args below meth c d MC MS Q G A nL pc L st (lwW E x sh S M f g, n) bc bs) : xTg p l e s m args below meth c d MC MS Q G A nL pc L st (lwW E x sh S M f g, n) bc bs := by
  intro hbc hbs ls H locs hl hS
  have h1 := va_at_lt (hS.2.1 (x + 147) _ wL_d)
  rw [hS.1] at h1
  dsimp only at h1
  exact kk (by omega) hbc hbs ls H locs hl hS
/-- behind a call of the script -/
def lwK (p : Program) (l : Launch) (e : Env) (s : State) (m : MethodId) (args : Array Value) (below : List Frame) (meth : Method) (c : Code) (MC MS : Nat) (Q : State → Prop) (G : xG) (E : xEn) (A : Nat → Prop) (b x i : Nat) (sh : Nat → Option xSh) (Bd bc bs : Nat) : Prop :=
  ∀ (S' M' : xSt) (f' : Nat → Int64) (g' : Nat → UInt64) (n' bc' bs' : Nat), RR S' M' (Bd + 200) → bc' ≤ bc + 8 → bs' ≤ bs + 80 → xTg p l e s m args below meth c 41 MC MS Q G A 10 1631 (lL b x i) [] (lwW E x sh S' M' f' g', n') bc' bs'
theorem nI_n0 {r : Nat} (h : r < 4) (h0 : nI r = 0) : r = 0 := by
  match r, h with
  | 0, _ => rfl
  | 1, _ => exact absurd h0 (by decide)
  | 2, _ => exact absurd h0 (by decide)
  | 3, _ => exact absurd h0 (by decide)
end LN
