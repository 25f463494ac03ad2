/-! The rows that write, each with the heap's length told. -/
section ROWS2
variable {p : Program} {l : Launch} {e : Env} {R : Room} {s : State} {m : MethodId} {args : Array Value} {below : List Frame} {meth : Method} {c : Code} {H : Heap} {locs : List Loc} {cells slots : Nat} {Q : State → Prop}
variable {cc : ByteArray} {pc : Nat} {ls : Array Slot} {rest : List Value} {G : xG} {A : Nat → Prop} {σ : xH} {H0 : Heap} {own : String} {a : Nat}
theorem xb_fits (x : Int32) : fits .byte (.int x.toInt8.toInt32) = true := by
  have h1 := Int8.le_toInt x.toInt8
  have h2 := Int8.toInt_lt x.toInt8
  have h3 : x.toInt8.toInt32.toInt = x.toInt8.toInt := Int8.toInt_toInt32 _
  have h4 : ((-128 : Int32)).toInt = -128 := by decide
  have h5 : ((127 : Int32)).toInt = 127 := by decide
  simp only [fits, Bool.and_eq_true, decide_eq_true_eq, Int32.le_iff_toInt_le, h3, h4, h5]
  omega
theorem xfit_ok {ci k t : Nat} {r : vw_C} {nest : Nat} {v : Value} (hr : vwCl[ci]? = some r) (hok : xokP own ci k t nest = true) (h : xfit t v) : narrow (xtyp ci k) v = v ∧ fits (xtyp ci k) v = true := by
  unfold xokP at hok
  rw [hr] at hok
  simp only [Bool.and_eq_true, decide_eq_true_eq] at hok
  obtain ⟨h1, h2, -⟩ := hok
  rcases h with ⟨rfl, x, rfl⟩ | ⟨rfl, x, rfl, hn⟩ | ⟨rfl, x, rfl⟩ | ⟨rfl, x, rfl⟩ | ⟨rfl, x, rfl, hn⟩
  · have h3 : xtyp ci k = .int := h1
    rw [h3]
    exact ⟨rfl, rfl⟩
  · have h3 : xtyp ci k = .boolean := h1
    rw [h3]
    refine ⟨hn, ?_⟩
    have h4 : x &&& 1 = x := by
      have := hn
      simpa [narrow] using this
    have h5 : x = 0 ∨ x = 1 := by
      obtain ⟨j, hj, hxj⟩ := pk_andE x (m := 1) 1 rfl
      rw [← h4, hxj]
      match j, hj with
      | 0, _ => exact Or.inl rfl
      | 1, _ => exact Or.inr rfl
    rcases h5 with rfl | rfl <;> rfl
  · have h3 : xtyp ci k = .long := h1
    rw [h3]
    exact ⟨rfl, rfl⟩
  · have h3 : (match xtyp ci k with
      | .object _ => true
      | .array _ => true
      | _ => false) = true := h2
    split at h3
    · next C hC => rw [hC]; exact ⟨rfl, rfl⟩
    · next C hC => rw [hC]; exact ⟨rfl, rfl⟩
    · cases h3
  · have h3 : xtyp ci k = .byte := h1
    rw [h3]
    refine ⟨hn, ?_⟩
    have h4 : x.toInt8.toInt32 = x := by
      have := hn
      simpa [narrow] using this
    show fits .byte (.int x) = true
    rw [← h4]
    exact xb_fits x
theorem x_put (hx : p.tables.exec = Jvm.exec) (hb : c.code = cc) (hts : ∀ w ∈ xWs, w.before args s = true) (hnw : xNw s) (hown : s.vm.findClass own = some m.cls) (hK : va_K G.1 vwCl (xtys G.2) s) (hS : xS G A H0 σ H locs)
    {idx ci k t nest : Nat} {fs : List Value} {v : Value} (hok : xokF own idx ci k nest = true) (hokP : xokP own ci k t nest = true) (hini : nest = 2 → meth.name = "<init>") (he : σ.1 a = some (.inr (ci, fs))) (hl : k < fs.length) (hf : xfit t v) (hdg : decode cc pc = .ok (.putfield idx, 3))
    (kk : ∀ (H1 : Heap) (locs1 : List Loc), xS G A H0 (xup σ.1 a (.inr (ci, fs.set k v)), σ.2) H1 locs1 → W p l e R s m args below meth c H1 locs1 cells slots Q (F0 m (pc + 3) ls rest)) : W p l e R s m args below meth c H locs cells slots Q (F0 m pc ls (v :: .ref a :: rest)) := by
  unfold xokF at hok
  split at hok
  · next r hr =>
    rw [Bool.and_eq_true] at hok
    have hk := Nat.le_of_ble_eq_true hok.1
    obtain ⟨hin, hty, hnm⟩ := xcl_ok hr
    obtain ⟨hn, hft⟩ := xfit_ok hr hokP hf
    obtain ⟨C, T, N⟩ := r
    dsimp only at hin hty hnm hk hok
    have hap := va_apart (own := own) hts hin (xtyp ci) hty hnm hK hr
    obtain ⟨r, h1, cell, q1, q2, q3, q4⟩ := hS.2.1 a _ he
    have hrr : r = (C, T, N) := Option.some.inj (h1.symm.trans hr)
    subst hrr
    obtain ⟨hSl, hfc, kC, hkC, hkind⟩ := hK.1 ci _ hr
    obtain ⟨cf, kf, fi, f, hi, hsl⟩ := hSl k hk
    have hst := (u_facts hfc hkC (u_lays hts hin hk) hi).1
    have hP1 : xokP own ci k t nest = true := hokP
    unfold xokP at hP1
    rw [hr] at hP1
    simp only [Bool.and_eq_true] at hP1
    have hfin := hP1.2.2
    have fin : ∀ (H' : Heap), H'[a]? = some (cell.setSlot (G.1.2 ci k) v) → H'.size = H.size → (∀ q, q ≠ a → H'[q]? = H[q]?) → W p l e R s m args below meth c H' (locs ++ [⟨a, G.1.2 ci k⟩]) cells slots Q (F0 m (pc + 3) ls rest) := by
      intro H' e1 e2 e3
      refine kk H' _ (hS.put he ?_ e2 e3)
      exact ⟨(C, T, N), hr, t_OB.to (V := updV (vp_V fs) k v) ⟨_, e1, q2, q3, t_set q4 hap hk v⟩ (fun j _ => vp_updV_set hl v j)⟩
    have hslot : G.1.2 ci k < cell.slots.size := k2_hasslot (q4 k hk)
    cases h2 : Nat.beq nest 2
    · rw [h2] at hfin
      have hfin0 : (T k).2.2.2 = false := by
        have : (!(T k).2.2.2) = true := hfin
        simpa using this
      have hlay := hts _ (hin _ (u_in_lay hk))
      unfold u_lay at hlay
      rw [if_neg (by rw [hfin0]; decide)] at hlay
      have h6 := u_store hfc hkC hkind hlay hi (hty k hk) hn hft
      cases hne : Nat.beq nest 1
      · rw [hne] at hok
        rcases Bool.eq_false_or_eq_true (Nat.beq nest 3) with h33 | h33
        · rw [h33] at hok
          have hlink := va_Nw.use (A := args) rfl (hnw _ (of_decide_eq_true hok.2) rfl)
          refine va_WputK hx hb (f := f) hown hlink hi hst (by rw [q2]; exact h6) q1 q3 (by rw [hsl]; exact hslot) rfl rfl hdg fun H' e1 e2 e3 => ?_
          rw [hsl] at e1 ⊢
          exact fin H' e1 e2 e3
        rw [h33] at hok
        rcases Bool.eq_false_or_eq_true (Nat.beq nest 4) with h44 | h44
        · rw [h44] at hok
          have hok2 : (decide (Cond.fieldLink own idx own (T k).2.1 (T k).2.2.1 ∈ xWs) && decide (Cond.sameField own (T k).1 (T k).2.1 (T k).2.2.1 ∈ xWs)) = true := hok.2
          rw [Bool.and_eq_true, decide_eq_true_eq, decide_eq_true_eq] at hok2
          refine W.putK hx hb (f := f) ⟨hown, hts _ hok2.1, ⟨_, _, _, u_same (hts _ hok2.2) _ hi⟩, hst⟩ (by rw [q2]; exact h6) q1 q3 (by rw [hsl]; exact hslot) rfl rfl hdg fun H' e1 e2 e3 => ?_
          rw [hsl] at e1 ⊢
          exact fin H' e1 e2 e3
        rw [h44] at hok
        have hlink := hts _ (of_decide_eq_true hok.2)
        refine W.putK hx hb (f := f) ⟨hown, hlink, ⟨_, _, _, hi⟩, hst⟩ (by rw [q2]; exact h6) q1 q3 (by rw [hsl]; exact hslot) rfl rfl hdg fun H' e1 e2 e3 => ?_
        rw [hsl] at e1 ⊢
        exact fin H' e1 e2 e3
      · rw [hne] at hok
        have hlink := va_Nw.use (A := args) rfl (hnw _ (of_decide_eq_true hok.2) rfl)
        refine va_WputK hx hb (f := f) hown hlink hi hst (by rw [q2]; exact h6) q1 q3 (by rw [hsl]; exact hslot) rfl rfl hdg fun H' e1 e2 e3 => ?_
        rw [hsl] at e1 ⊢
        exact fin H' e1 e2 e3
    · have hn2 := Nat.eq_of_beq_eq_true h2
      subst hn2
      rw [h2] at hfin
      have hfin1 : ((T k).2.2.2 && decide ((T k).1 = own)) = true := hfin
      rw [Bool.and_eq_true, decide_eq_true_eq] at hfin1
      have hlink := hts _ (of_decide_eq_true (show decide (Cond.fieldLink own idx (T k).1 (T k).2.1 (T k).2.2.1 ∈ xWs) = true from hok.2))
      have hlay := hts _ (hin _ (u_in_lay hk))
      unfold u_lay at hlay
      rw [if_pos hfin1.1] at hlay
      have hcf : m.cls = cf := by
        obtain ⟨_, _, c', _, _, _, -, -, hf', -, -, -, hown2, -⟩ := Cond.laysFinal_spec hlay
        have e1 : c' = cf := by have := hi.symm.trans hf'; simp at this; exact this.1.symm
        rw [hfin1.2] at hown2
        rw [← e1]; exact Option.some.inj (hown.symm.trans hown2)
      have h6 := u_fits hfc hkC hkind (Or.inr hlay) hi (hty k hk) hn hft
      refine W.putFinK hx hb hown hlink hi hst hcf (hini rfl) (by rw [q2]; exact h6) q1 q3 (by rw [hsl]; exact hslot) rfl rfl hdg fun H' e1 e2 e3 => ?_
      rw [hsl] at e1 ⊢
      exact fin H' e1 e2 e3
  · cases hok
theorem x_iast (hx : p.tables.exec = Jvm.exec) (hb : c.code = cc) (hK : va_K G.1 vwCl (xtys G.2) s) (hS : xS G A H0 σ H locs) {n : Nat} {f : Nat → Int32} (he : σ.1 a = some (.inl (0, n, .inl f))) {i x : Int32} (hin : vp_in i n) (hdg : decode cc pc = .ok (.iastore, 1))
    (kk : ∀ (H1 : Heap) (locs1 : List Loc), xS G A H0 (xup σ.1 a (.inl (0, n, .inl (upd f i.toNatClampNeg x))), σ.2) H1 locs1 → W p l e R s m args below meth c H1 locs1 cells slots Q (F0 m (pc + 1) ls rest)) : W p l e R s m args below meth c H locs cells slots Q (F0 m pc ls (.int x :: .int i :: .ref a :: rest)) := by
  refine W.iast hx hb (hS.2.1 a _ he) ((hK.2 0 _ rfl).1 n (fun j => .int (f j))) (fun q => by cases q) (by show ¬ (i < 0 ∨ (arrV _ _ _).slots.size ≤ _); rw [arrV_size]; exact hin) rfl rfl hdg fun H1 e1 z oq => ?_
  refine kk H1 _ (hS.put he ?_ z oq)
  show H1[a]? = some (vp_cell _ _)
  rw [e1]
  dsimp only [xce]
  rw [vp_cell_i, vp_cell_i, arrV_store]
  congr 2
  funext q
  by_cases hq : q = i.toNatClampNeg
  · subst hq
    simp [updV, upd]
  · simp [updV, upd, hq]
theorem x_bast (hx : p.tables.exec = Jvm.exec) (hb : c.code = cc) (hK : va_K G.1 vwCl (xtys G.2) s) (hS : xS G A H0 σ H locs) {n : Nat} {f : Nat → Int32} (he : σ.1 a = some (.inl (1, n, .inl f))) {i x : Int32} (hin : vp_in i n) (hdg : decode cc pc = .ok (.bastore, 1))
    (kk : ∀ (H1 : Heap) (locs1 : List Loc), xS G A H0 (xup σ.1 a (.inl (1, n, .inl (upd f i.toNatClampNeg (vp_nar .byte x)))), σ.2) H1 locs1 → W p l e R s m args below meth c H1 locs1 cells slots Q (F0 m (pc + 1) ls rest)) : W p l e R s m args below meth c H locs cells slots Q (F0 m pc ls (.int x :: .int i :: .ref a :: rest)) := by
  refine W.bast hx hb (hS.2.1 a _ he) ((hK.2 1 _ rfl).1 n (fun j => .int (f j))) (fun q => by cases q) (by show ¬ (i < 0 ∨ (arrV _ _ _).slots.size ≤ _); rw [arrV_size]; exact hin) rfl rfl hdg fun H1 e1 z oq => ?_
  refine kk H1 _ (hS.put he ?_ z oq)
  show H1[a]? = some (vp_cell _ _)
  rw [e1]
  dsimp only [xce]
  rw [vp_cell_i, vp_cell_i, arrV_store]
  congr 2
  funext q
  by_cases hq : q = i.toNatClampNeg
  · subst hq
    simp [updV, upd, vp_nar, narrow]
  · simp [updV, upd, hq]
theorem x_last (hx : p.tables.exec = Jvm.exec) (hb : c.code = cc) (hK : va_K G.1 vwCl (xtys G.2) s) (hS : xS G A H0 σ H locs) {n : Nat} {f : Nat → Int64} (he : σ.1 a = some (.inl (2, n, .inr (.inl f)))) {i : Int32} {x : Int64} (hin : vp_in i n) (hdg : decode cc pc = .ok (.lastore, 1))
    (kk : ∀ (H1 : Heap) (locs1 : List Loc), xS G A H0 (xup σ.1 a (.inl (2, n, .inr (.inl (vp_updL f i.toNatClampNeg x)))), σ.2) H1 locs1 → W p l e R s m args below meth c H1 locs1 cells slots Q (F0 m (pc + 1) ls rest)) : W p l e R s m args below meth c H locs cells slots Q (F0 m pc ls (.long x :: .int i :: .ref a :: rest)) := by
  refine W.last hx hb (hS.2.1 a _ he) ((hK.2 2 _ rfl).1 n (fun j => .long (f j))) (fun q => by cases q) (by show ¬ (i < 0 ∨ (arrV _ _ _).slots.size ≤ _); rw [arrV_size]; exact hin) rfl rfl hdg fun H1 e1 z oq => ?_
  refine kk H1 _ (hS.put he ?_ z oq)
  show H1[a]? = some (vp_cell _ _)
  rw [e1]
  dsimp only [xce]
  rw [vp_cell_l, vp_cell_l, arrV_store]
  congr 2
  funext q
  by_cases hq : q = i.toNatClampNeg
  · subst hq
    simp [updV, vp_updL]
  · simp [updV, vp_updL, hq]
end ROWS2
