/-! New objects and rows, rows of references, System.arraycopy, a throw. -/
def xkty (k : Nat) : FieldType := match k with
  | 0 => .int
  | 1 => .byte
  | 2 => .long
  | _ => .double
def xN (C : String) : String := C
section ROWS3
variable {p : Program} {l : Launch} {e : Env} {R : Room} {s : State} {m : MethodId} {args : Array Value} {below : List Frame} {meth : Method} {c : Code} {H : Heap} {locs : List Loc} {cells slots : Nat} {Q : State → Prop}
variable {cc : ByteArray} {pc : Nat} {ls : Array Slot} {rest : List Value} {G : xG} {A : Nat → Prop} {σ : xH} {H0 : Heap} {own : String} {a : Nat} {E : xEn}
variable {lds : List (String × Nat × String × Nat)} {exs : List (String × Nat × String)}
theorem xS.push {H1 : Heap} {x : va_E} (hS : xS G A H0 σ H locs) (hA : ∀ q, H0.size ≤ q → A q) (e1 : va_at G.1 vwCl (H.size, xce G.2 x) H1) (z1 : H1.size = H.size + 1) (o1 : ∀ q, q < H.size → H1[q]? = H[q]?) : xS G A H0 (xup σ.1 σ.2 x, σ.2 + 1) H1 locs := by
  obtain ⟨h1, h2, h3, h4⟩ := hS
  rw [h1] at e1
  refine ⟨by rw [z1, h1], fun b y hb => ?_, fun b hb => ?_, Nat.le_trans h4.1 (by omega), fun q g1 g2 => (o1 q (Nat.lt_of_lt_of_le g1 h4.1)).trans (h4.2.1 q g1 g2), h4.2.2⟩
  · dsimp only at hb
    by_cases hab : b = σ.2
    · subst hab
      rw [xup_same] at hb
      cases hb
      exact e1
    · rw [xup_ne hab] at hb
      have h5 := h2 b y hb
      exact h5.kept (o1 b h5.lt)
  · dsimp only at hb
    by_cases hab : b = σ.2
    · subst hab
      exact hA _ (by rw [← h1]; exact h4.1)
    · rw [xup_ne hab] at hb
      exact h3 b hb
theorem xS.ref (hS : xS G A H0 σ H locs) : σ.2 = H.size := hS.1.symm
theorem xdv_ok {ty : FieldType} : defaultValue ty = xdv ty := by
  cases ty <;> rfl
theorem xdef_ok {ci n j : Nat} (h : j < n) : defaultValue (xtyp ci j) = vp_V (xdef ci n) j := by
  unfold vp_V xdef
  rw [xdv_ok]
  simp [h]
theorem x_new (hx : p.tables.exec = Jvm.exec) (hb : c.code = cc) (hts : ∀ w ∈ xWs, w.before args s = true) (hown : s.vm.findClass own = some m.cls) (hK : va_K G.1 vwCl (xtys G.2) s) (hS : xS G A H0 σ H locs) (hA : ∀ q, H0.size ≤ q → A q)
    {idx ci : Nat} {r : vw_C} (hr : vwCl[ci]? = some r) (h1 : Cond.classLink own idx r.1 ∈ xWs) (h2 : Cond.instantiable r.1 r.2.2 ∈ xWs) (h3 : Cond.initialized r.1 ∈ xWs) (hcells : cells + 1 ≤ R.cells) (hslots : slots + r.2.2 ≤ R.slots) (hdg : decode cc pc = .ok (.new idx, 3))
    (kk : ∀ (H1 : Heap), xS G A H0 (xup σ.1 σ.2 (.inr (ci, xdef ci r.2.2)), σ.2 + 1) H1 locs → W p l e R s m args below meth c H1 locs (cells + 1) (slots + r.2.2) Q (F0 m (pc + 3) ls (.ref σ.2 :: rest))) : W p l e R s m args below meth c H locs cells slots Q (F0 m pc ls rest) := by
  have hKn := hK.1 ci _ hr
  obtain ⟨hin, hty, hnm⟩ := xcl_ok hr
  refine W.newcK hx hb hown (hts _ h1) (hts _ h2) (hts _ h3) rfl hdg hcells hslots hKn.2.1 rfl fun H1 kC hkC e1 z1 o1 => ?_
  have h9 := kk H1 (hS.push hA (x := .inr (ci, xdef ci r.2.2)) ⟨r, hr, (u_born (xtyp ci) hts hin hKn hkC e1 hty).to (fun j hj => xdef_ok hj)⟩ z1 o1)
  rw [hS.ref] at h9
  exact h9
theorem xarr_ok {k n : Nat} {cA : ClassId} (hk : k < 3) : vp_cell cA (n, xarr k) = arrV cA n (fun _ => defaultValue (xkty k)) := by
  match k, hk with
  | 0, _ => rfl
  | 1, _ => rfl
  | 2, _ => rfl
theorem x_newa (hx : p.tables.exec = Jvm.exec) (hb : c.code = cc) (hts : ∀ w ∈ xWs, w.before args s = true) (hK : va_K G.1 vwCl (xtys G.2) s) (hS : xS G A H0 σ H locs) (hA : ∀ q, H0.size ≤ q → A q)
    {k : Nat} (hk : k < 3) {atype : ArrayType} (hty : newarray.typeOf atype = xkty k) (hw : Cond.arrayClass (xkty k) ∈ xWs) {n : Int32} (hn : ¬ n < 0) (h5 : n.toNatClampNeg ≤ 100000) (hcells : cells + 1 ≤ R.cells) (hslots : slots + n.toNatClampNeg ≤ R.slots) (hdg : decode cc pc = .ok (.newarray atype, 2))
    (kk : ∀ (H1 : Heap), xS G A H0 (xup σ.1 σ.2 (.inl (k, n.toNatClampNeg, xarr k)), σ.2 + 1) H1 locs → W p l e R s m args below meth c H1 locs (cells + 1) (slots + n.toNatClampNeg) Q (F0 m (pc + 2) ls (.ref σ.2 :: rest))) : W p l e R s m args below meth c H locs cells slots Q (F0 m pc ls (.int n :: rest)) := by
  have hby : n.toNatClampNeg * componentBytes (newarray.typeOf atype) ≤ 536870912 := by
    rw [hty]
    match k, hk with
    | 0, _ => show n.toNatClampNeg * 4 ≤ _; omega
    | 1, _ => show n.toNatClampNeg * 1 ≤ _; omega
    | 2, _ => show n.toNatClampNeg * 8 ≤ _; omega
  refine va_newaK hx hb (by rw [hty]; exact hts _ hw) rfl hdg rfl hn rfl hby hcells hslots rfl fun H1 cA e1 z1 o1 hAr hNm => ?_
  have hcA : cA = G.2 k := by
    rw [hty] at hNm
    match k, hk, hNm with
    | 0, _, hNm => exact Option.some.inj (hNm.symm.trans (hK.2 0 _ rfl).2)
    | 1, _, hNm => exact Option.some.inj (hNm.symm.trans (hK.2 1 _ rfl).2)
    | 2, _, hNm => exact Option.some.inj (hNm.symm.trans (hK.2 2 _ rfl).2)
  subst hcA
  have h9 := kk H1 (hS.push hA (x := .inl (k, n.toNatClampNeg, xarr k)) (by show H1[H.size]? = some (vp_cell (G.2 k) _); rw [xarr_ok hk, e1, hty]) z1 o1)
  rw [hS.ref] at h9
  exact h9
theorem x_newq (hx : p.tables.exec = Jvm.exec) (hb : c.code = cc) (hts : ∀ w ∈ xWs, w.before args s = true) (hown : s.vm.findClass own = some m.cls) (hK : va_K G.1 vwCl (xtys G.2) s) (hS : xS G A H0 σ H locs) (hA : ∀ q, H0.size ≤ q → A q)
    {k idx : Nat} {C : String} (hty : (xtys G.2)[k]? = some (G.2 k, .object C)) (hover : va_AO C s) (hw : Cond.classLink own idx C ∈ xWs) {n : Int32} (hn : ¬ n < 0) (h5 : n.toNatClampNeg ≤ 100000) (hcells : cells + 1 ≤ R.cells) (hslots : slots + n.toNatClampNeg ≤ R.slots) (hdg : decode cc pc = .ok (.anewarray idx, 3))
    (kk : ∀ (H1 : Heap), xS G A H0 (xup σ.1 σ.2 (.inl (k, n.toNatClampNeg, .inr (.inr (.inr (.inr fun _ => none))))), σ.2 + 1) H1 locs → W p l e R s m args below meth c H1 locs (cells + 1) (slots + n.toNatClampNeg) Q (F0 m (pc + 3) ls (.ref σ.2 :: rest))) : W p l e R s m args below meth c H locs cells slots Q (F0 m pc ls (.int n :: rest)) := by
  refine W.anew hx hb hown (hts _ hw) (va_AO.use hover) rfl hdg rfl hn (by omega) hcells hslots fun cA kA comp f1 f2 f3 f4 => ?_
  have hcA : cA = G.2 k := by
    obtain ⟨-, -, -, -, -, -, hNm⟩ := hK.2 k _ hty
    exact Option.some.inj (f1.symm.trans hNm)
  subst hcA
  generalize hH1 : H.push ({ cls := G.2 k, slots := Array.replicate n.toNatClampNeg .null, vm := .none } : Cell) = H1
  have z1 : H1.size = H.size + 1 := by rw [← hH1, Array.size_push]
  have e1 : H1[H.size]? = some (arrV (G.2 k) n.toNatClampNeg (fun _ => .null)) := by rw [← hH1, Array.getElem?_push_size, ← arrV_new]
  have o1 : ∀ q : Nat, q < H.size → H1[q]? = H[q]? := fun q hq => by rw [← hH1, Array.getElem?_push, if_neg (Nat.ne_of_lt hq)]
  have h9 := kk H1 (hS.push hA (x := .inl (k, n.toNatClampNeg, .inr (.inr (.inr (.inr fun _ => none))))) e1 z1 o1)
  rw [hS.ref] at h9
  exact h9
theorem x_astq (hx : p.tables.exec = Jvm.exec) (hb : c.code = cc) (hK : va_K G.1 vwCl (xtys G.2) s) (hS : xS G A H0 σ H locs) {k n v : Nat} {f : Nat → Option Nat} {C : String} (he : σ.1 a = some (.inl (k, n, .inr (.inr (.inr (.inr f)))))) (hty : (xtys G.2)[k]? = some (G.2 k, .object C))
    (hr : ∃ cellV : Cell, H[v]? = some cellV ∧ cellV.vm.isStatics = false ∧ s.vm.findClass C = some cellV.cls) {i : Int32} (hin : vp_in i n) (hdg : decode cc pc = .ok (.aastore, 1))
    (kk : ∀ (H1 : Heap) (locs1 : List Loc), xS G A H0 (xup σ.1 a (.inl (k, n, .inr (.inr (.inr (.inr (va_up f i.toNatClampNeg (some v))))))), σ.2) H1 locs1 → W p l e R s m args below meth c H1 locs1 cells slots Q (F0 m (pc + 1) ls rest)) : W p l e R s m args below meth c H locs cells slots Q (F0 m pc ls (.ref v :: .int i :: .ref a :: rest)) := by
  have hlt : i.toNatClampNeg < n := Nat.not_le.mp fun q => hin (Or.inr q)
  have h0 : ¬ i < 0 := fun q => hin (Or.inl q)
  obtain ⟨cellV, g1, g2, g3⟩ := hr
  obtain ⟨kA, comp, k1, k2, k3, -⟩ := (hK.2 k _ hty).2
  have hcv : cellV.cls = comp := Option.some.inj (g3.symm.trans k3)
  obtain ⟨kE, hkE, -⟩ := Vm.findClass_spec k3
  refine W.aast hx hb (hS.2.1 a _ he) (fun q h => by cases h) (fun h => by cases h) k1 k2 rfl hkE ⟨h0, by show _ < (arrV _ _ _).slots.size; rw [arrV_size]; exact hlt⟩ g1 (fun q h => by rw [h] at g2; cases g2) (by rw [hcv]; exact hkE) (by rw [hcv]; exact vb_asgS (C := C) _ _ k3 k3) rfl rfl hdg fun H1 e1 z oq => ?_
  refine kk H1 _ (hS.put he ?_ z oq)
  show H1[a]? = some (vp_cell _ _)
  rw [e1]
  dsimp only [xce]
  rw [vp_cell_q, vp_cell_q, arrV_store]
  congr 2
  funext q
  by_cases hq : q = i.toNatClampNeg
  · subst hq
    simp [updV, va_up, va_rf]
  · simp [updV, va_up, hq]
theorem x_copyS (hx : p.tables.exec = Jvm.exec) (hb : c.code = cc) (hml : c.maxLocals = ls.size) (hown : s.vm.findClass own = some m.cls) (hts : ∀ w ∈ xWs, w.before args s = true) {idx : Nat} (hw1 : Cond.methodLink own idx arraycopyName ∈ xWs) (hw2 : Cond.native arraycopyName ∈ xWs) (hw3 : Cond.static arraycopyName ∈ xWs) (hw4 : Cond.initialized "java/lang/System" ∈ xWs)
    (hK : va_K G.1 vwCl (xtys G.2) s) (hS : xS G A H0 σ H locs) {k : Nat} {ty : FieldType} (hty : (xtys G.2)[k]? = some (G.2 k, ty)) (hty2 : ty = .int ∨ ty = .byte) {a0 n0 n1 : Nat} {f g : Nat → Int32} {scr : Cell} (hc0 : H[a0]? = some scr) (hof : s.isArrayOf scr ty) (hvm : scr.vm ≠ .unknown) (hsz : n0 ≤ scr.slots.size) (hval : ∀ j, j < n0 → scr.slots[j]? = some (.int (f j))) (hfit : ty = .byte → ∀ j, j < n0 → fits .byte (.int (f j)) = true) (he1 : σ.1 a = some (.inl (k, n1, .inl g)))
    {sp dp n : Int32} (h1 : 0 ≤ sp.toInt) (h2 : 0 ≤ dp.toInt) (h3 : 0 ≤ n.toInt) (h4 : sp.toInt + n.toInt ≤ n0) (h5 : dp.toInt + n.toInt ≤ n1)
    (hframes : 1 ≤ R.frames) (hlocals : (rest.map fun v => v.category).sum + 40 ≤ R.locals) (hdg : decode cc pc = .ok (.invokestatic idx, 3))
    (kk : ∀ (H1 : Heap) (locs1 : List Loc), xS G A H0 (xup σ.1 a (.inl (k, n1, .inl (va_cpy f g sp.toNatClampNeg dp.toNatClampNeg n.toNatClampNeg))), σ.2) H1 locs1 → W p l e R s m args below meth c H1 locs1 cells slots Q (F0 m (pc + 3) ls rest)) : W p l e R s m args below meth c H locs cells slots Q (F0 m pc ls (.int n :: .int dp :: .ref a :: .int sp :: .ref a0 :: rest)) := by
  have nn : ∀ z : Int32, 0 ≤ z.toInt → z.toInt = (z.toNatClampNeg : Int) := by
    intro z hz
    show z.toInt = ((z.toInt.toNat : Nat) : Int)
    omega
  have ng : ∀ z : Int32, 0 ≤ z.toInt → ¬ z < 0 := by
    intro z hz h
    have := Int32.lt_iff_toInt_lt.mp h
    simp at this
    omega
  have e4 : sp.toNatClampNeg + n.toNatClampNeg ≤ n0 := by have := nn sp h1; have := nn n h3; omega
  have e5 : dp.toNatClampNeg + n.toNatClampNeg ≤ n1 := by have := nn dp h2; have := nn n h3; omega
  have hlc : (rest.map fun v => v.category).sum + (nativeFrameWords "java/lang/System" "arraycopy" 5 + 11) ≤ R.locals := by
    have h : nativeFrameWords "java/lang/System" "arraycopy" 5 = 7 := by decide +kernel
    rw [h]
    omega
  intro T hT X
  have hc1 : H[a]? = some (vp_cell (G.2 k) (n1, .inl g)) := hS.2.1 a _ he1
  obtain ⟨hs6, k0, hk0, cm0, hkk0⟩ := hof
  obtain ⟨-, k1, hk1, cm1, hkk1⟩ := (hK.2 k _ hty).1 n1 (fun j => .int (g j))
  obtain ⟨vm', X', step⟩ := X.arraycopy hx hown (hts _ hw1) (hts _ hw2) (hts _ hw3) (hts _ hw4) (src := a0) (dst := a) (cs := scr) (cd := vp_cell (G.2 k) (n1, .inl g)) (srcPos := sp) (destPos := dp) (n := n) (by rw [hT]; exact hc0) (by rw [hT]; exact hc1)
    hs6 (fun _ h => by cases h) hvm (fun h => by cases h) hk0 hk1 hkk0 hkk1 (by rcases hty2 with rfl | rfl <;> simp [refKind]) (ng sp h1) (ng dp h2) (ng n h3)
    (by omega)
    (by show ¬ _ > ((arrV (G.2 k) n1 (fun j => .int (g j))).slots.size : Int); rw [arrV_size]; omega)
    (fun vm₁ _ i hi => by
      have e : scr.slots.getD (sp.toNatClampNeg + i) .null = .int (f (sp.toNatClampNeg + i)) := by
        rw [Array.getD_eq_getD_getElem?, hval _ (by omega)]
        rfl
      refine ⟨?_, ?_⟩
      · rw [e]
        rcases hty2 with rfl | rfl
        · rfl
        · exact hfit rfl _ (by omega)
      · rw [e]
        exact trivial)
    (g := F0 m pc ls (.int n :: .int dp :: .ref a :: .int sp :: .ref a0 :: rest)) rfl (by rw [hml]) (rest := rest) rfl (by rw [hb]; exact hdg) hframes (by show 2 * 0 + _ + _ ≤ _; omega)
  have e1 : copied scr (vp_cell (G.2 k) (n1, .inl g)) sp dp n = vp_cell (G.2 k) (n1, .inl (va_cpy f g sp.toNatClampNeg dp.toNatClampNeg n.toNatClampNeg)) := va_copiedX (fun z => .int z) scr (G.2 k) f g hval e4
  rw [e1] at X' step
  have hl : a < H.size := (Array.getElem?_eq_some_iff.mp hc1).1
  obtain ⟨t, a1, b1⟩ := kk (H.setIfInBounds a (vp_cell (G.2 k) (n1, .inl (va_cpy f g sp.toNatClampNeg dp.toNatClampNeg n.toNatClampNeg)))) _ (by
    obtain ⟨g1, g2, g3, g4⟩ := hS
    refine ⟨by simp; exact g1, fun b y hb => ?_, fun b hb => ?_, by simp; exact g4.1, fun q q1 q2 => ?_, fun q hq => ?_⟩
    · dsimp only at hb
      by_cases hab : b = a
      · subst hab
        rw [xup_same] at hb
        cases hb
        show (H.setIfInBounds b _)[b]? = some _
        simp [Array.getElem?_setIfInBounds, hl]
      · rw [xup_ne hab] at hb
        exact (g2 b y hb).kept (by simp [Array.getElem?_setIfInBounds, Ne.symm hab])
    · dsimp only at hb
      by_cases hab : b = a
      · subst hab
        exact g3 b (by rw [he1]; exact fun h => by cases h)
      · rw [xup_ne hab] at hb
        exact g3 b hb
    · have hqa : q ≠ a := fun h => q2 (by rw [h]; exact g3 a (by rw [he1]; exact fun h => by cases h))
      rw [show (H.setIfInBounds a (vp_cell (G.2 k) (n1, .inl (va_cpy f g sp.toNatClampNeg dp.toNatClampNeg n.toNatClampNeg))))[q]? = H[q]? by simp [Array.getElem?_setIfInBounds, Ne.symm hqa]]
      exact g4.2.1 q q1 q2
    · rcases List.mem_append.mp hq with h | h
      · exact g4.2.2 q h
      · obtain ⟨z, -, hz⟩ := List.mem_map.mp h
        rw [← hz]
        exact g3 a (by rw [he1]; exact fun h => by cases h)) _ (by rw [← hT]; rfl) X'
  exact ⟨t, step t a1, b1⟩
theorem x_astqO (hx : p.tables.exec = Jvm.exec) (hb : c.code = cc) (hK : va_K G.1 vwCl (xtys G.2) s) (hS : xS G A H0 σ H locs) {k n v : Nat} {f : Nat → Option Nat} {C D : String} (he : σ.1 a = some (.inl (k, n, .inr (.inr (.inr (.inr f)))))) (hty : (xtys G.2)[k]? = some (G.2 k, .object C))
    (hr : ∃ cellV : Cell, H[v]? = some cellV ∧ cellV.vm.isStatics = false ∧ s.vm.findClass D = some cellV.cls) (hca : va_Nw (.castable D C) s) {i : Int32} (hin : vp_in i n) (hdg : decode cc pc = .ok (.aastore, 1))
    (kk : ∀ (H1 : Heap) (locs1 : List Loc), xS G A H0 (xup σ.1 a (.inl (k, n, .inr (.inr (.inr (.inr (va_up f i.toNatClampNeg (some v))))))), σ.2) H1 locs1 → W p l e R s m args below meth c H1 locs1 cells slots Q (F0 m (pc + 1) ls rest)) : W p l e R s m args below meth c H locs cells slots Q (F0 m pc ls (.ref v :: .int i :: .ref a :: rest)) := by
  have hlt : i.toNatClampNeg < n := Nat.not_le.mp fun q => hin (Or.inr q)
  have h0 : ¬ i < 0 := fun q => hin (Or.inl q)
  obtain ⟨cellV, g1, g2, g3⟩ := hr
  obtain ⟨kA, comp, k1, k2, k3, -⟩ := (hK.2 k _ hty).2
  obtain ⟨kE, hkE, -⟩ := Vm.findClass_spec k3
  obtain ⟨c0, t1, f1, f2, f3⟩ := Cond.castable_spec (va_Nw.use (A := args) rfl hca)
  cases g3.symm.trans f1
  cases k3.symm.trans f2
  obtain ⟨kV, hkV, -⟩ := Vm.findClass_spec g3
  refine W.aast hx hb (hS.2.1 a _ he) (fun q h => by cases h) (fun h => by cases h) k1 k2 rfl hkE ⟨h0, by show _ < (arrV _ _ _).slots.size; rw [arrV_size]; exact hlt⟩ g1 (fun q h => by rw [h] at g2; cases g2) hkV f3 rfl rfl hdg fun H1 e1 z oq => ?_
  refine kk H1 _ (hS.put he ?_ z oq)
  show H1[a]? = some (vp_cell _ _)
  rw [e1]
  dsimp only [xce]
  rw [vp_cell_q, vp_cell_q, arrV_store]
  congr 2
  funext q
  by_cases hq : q = i.toNatClampNeg
  · subst hq
    simp [updV, va_up, va_rf]
  · simp [updV, va_up, hq]
end ROWS3
