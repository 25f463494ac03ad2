/-! THE WORLD ON THE HEAP, and the rows of the machine that read and write it. -/
abbrev vwCl : List vw_C := [(RX0, TX0, 3), (RX1, TX1, 3), (RX2, TX2, 9), (RX3, TX3, 10), (RX4, TX4, 5), (RX5, TX5, 5), (RX6, TX6, 6), (RX9, TX9, 6), (RX10, TX10, 7), (RX11, TX11, 6), (RX12, TX12, 6), (RJ0, TJ0, 4), (RJ4, TJ4, 4), (RJx4a65c, TJx4a65c, 3)]
abbrev xG : Type := va_G × (Nat → ClassId)
def xce (ar : Nat → ClassId) (e : va_E) : va_E := match e with
  | .inl x => .inl (ar x.1, x.2)
  | .inr o => .inr o
def xtys (ar : Nat → ClassId) : List (ClassId × FieldType) := [(ar 0, .int), (ar 1, .byte), (ar 2, .long), (ar 3, .long), (ar 4, .object "ShellWatch$Token"), (ar 5, .object "ShellWatch$Game"), (ar 6, .object "java/lang/Object")]
/-- the cells of the world lie in H -/
def xWo (G : xG) (w : Nat → Option va_E) (H : Heap) : Prop := ∀ (a : Nat) (e : va_E), w a = some e → va_at G.1 vwCl (a, xce G.2 e) H
/-- where a walk stands: the heap is as long as told, it holds the world, the world lies in A, outside A it is as at the start -/
def xS (G : xG) (A : Nat → Prop) (H0 : Heap) (σ : xH) (H : Heap) (locs : List Loc) : Prop := H.size = σ.2 ∧ xWo G σ.1 H ∧ (∀ a, σ.1 a ≠ none → A a) ∧ va_S A H0 H locs
theorem xWo.one {G : xG} {w : Nat → Option va_E} {H : Heap} (h : xWo G w H) {a : Nat} {e : va_E} (he : w a = some e) : va_P G.1 vwCl [(a, xce G.2 e)] H := by
  intro k q hk
  match k, hk with
  | 0, hk => cases hk; exact h a e he
theorem xup_same {w : Nat → Option va_E} {a : Nat} {e : va_E} : xup w a e a = some e := by
  unfold xup
  rw [Nat.beq_refl]
  rfl
theorem xup_ne {w : Nat → Option va_E} {a b : Nat} {e : va_E} (h : b ≠ a) : xup w a e b = w b := by
  unfold xup
  cases hb : Nat.beq b a
  · rfl
  · exact absurd (Nat.eq_of_beq_eq_true hb) h
theorem xS.put {G : xG} {A : Nat → Prop} {H0 H H' : Heap} {σ : xH} {locs : List Loc} {a i : Nat} {e e' : va_E} (hS : xS G A H0 σ H locs) (he : σ.1 a = some e) (e1 : va_at G.1 vwCl (a, xce G.2 e') H') (e2 : H'.size = H.size) (e3 : ∀ q, q ≠ a → H'[q]? = H[q]?) : xS G A H0 (xup σ.1 a e', σ.2) H' (locs ++ [⟨a, i⟩]) := by
  obtain ⟨h1, h2, h3, h4⟩ := hS
  refine ⟨e2.trans h1, fun b x hb => ?_, fun b hb => ?_, h4.put e2 e3 (h3 a (by rw [he]; exact fun h => by cases h))⟩
  · by_cases hab : b = a
    · subst hab
      dsimp only at hb
      rw [xup_same] at hb
      cases hb
      exact e1
    · dsimp only at hb
      rw [xup_ne hab] at hb
      exact (h2 b x hb).kept (e3 b hab)
  · by_cases hab : b = a
    · subst hab
      exact h3 b (by rw [he]; exact fun h => by cases h)
    · dsimp only at hb
      rw [xup_ne hab] at hb
      exact h3 b hb
/-- AbstractStringBuilder's private methods on a StringBuilder: the word that the tables leave to be found -/
def xprv : List MethodName := [yJ5_ensureCapacityInternal_d00df, yJ5_newCapacity_0f7a4, yJ5_putStringAt_47b60, yJ5_inflateIfNeededFor_a7421]
def xTbl : List Cond := xprv.map (fun y => Cond.selects RJ4 y y) ++ lw_tbl
theorem x_selP {y : MethodName} {s : State} {args : Array Value} {C : String} {n : Nat} (hy : y.cls ≠ "java/lang/invoke/MethodHandle" ∧ y.cls ≠ "java/lang/invoke/VarHandle")
    (hins : (Cond.instantiable C n).before args s = true) (hsame : (Cond.sameMethod y.cls y.cls y.name y.desc).before args s = true) (hpriv : (Cond.privateMethod y).before args s = true) (hinst : (Cond.instanceMethod y).before args s = true) :
    (Cond.selects C y y).before args s = true := by
  obtain ⟨c, k, hc, hk, -⟩ := Cond.instantiable_spec hins
  obtain ⟨mk, methM, hnamed, hmethM, -, -⟩ := Cond.instanceMethod_spec hinst
  have hfound : s.methodFound? y.cls y.name y.desc = some mk := State.methodFound?_of_named hnamed hy
  obtain ⟨cn, ck, r1, hcn, hck, hni, hf, hn1⟩ := Cond.sameMethod_found hsame
  have hcls : mk.cls = cn := Option.some.inj ((findClass_of_methodNamed hnamed).symm.trans hcn)
  have hsel : selectMethod {} s.vm c mk = .method mk := selectMethod_private hmethM (Cond.privateMethod_at hpriv mk methM hnamed hmethM)
  simp only [Cond.before, Cond.holds, Cond.value, hc, hfound, hnamed, hsel, hcls, hck]
  simp; exact hni
theorem xprv_ok : ∀ y ∈ xprv, (y.cls ≠ "java/lang/invoke/MethodHandle" ∧ y.cls ≠ "java/lang/invoke/VarHandle") ∧ Cond.sameMethod y.cls y.cls y.name y.desc ∈ lw_tbl ∧ Cond.privateMethod y ∈ lw_tbl ∧ Cond.instanceMethod y ∈ lw_tbl := by decide +kernel
theorem xins_sb : Cond.instantiable RJ4 4 ∈ lw_tbl := by decide +kernel
theorem xTbl_ok {s : State} {args : Array Value} (h : ∀ w ∈ lw_tbl, w.before args s = true) : ∀ w ∈ xTbl, w.before args s = true := by
  intro w hw
  rcases List.mem_append.mp hw with hw | hw
  · obtain ⟨y, hy, rfl⟩ := List.mem_map.mp hw
    obtain ⟨h0, h1, h2, h3⟩ := xprv_ok y hy
    exact x_selP h0 (h _ xins_sb) (h _ h1) (h _ h2) (h _ h3)
  · exact h w hw
def xWs : List Cond := xTbl.filter goodWord
def xnest (w : Cond) : Bool := match w with
  | .fieldLinkNest .. => true
  | .methodLinkNest .. => true
  | .castable .. => true
  | .declares _ => true
  | _ => false
/-- what the tables say beside the good words -/
def xNw (U : State) : Prop := ∀ w ∈ lw_tbl, xnest w = true → va_Nw w U
theorem xNw.warm {s U : State} (hW : s.WarmedH U.vm) (h : xNw s) : xNw U := by
  intro w hw hn
  have h1 := h w hw hn
  cases w <;> first | exact va_Nw.warmF hW h1 | exact va_Nw.warmM hW h1 | exact va_Nw.warmC hW h1 | exact va_Nw.warmD hW h1 | cases hn
/-- a field of the world's classes, as the pool names it: own (0), of a nest mate (1), own and final (2) -/
def xokF (own : String) (idx ci k nest : Nat) : Bool := match vwCl[ci]? with
  | some r => Nat.blt k r.2.2 && (bif Nat.beq nest 1 then decide (Cond.fieldLinkNest own idx (r.2.1 k).1 (r.2.1 k).2.1 (r.2.1 k).2.2.1 "ShellWatch" ∈ lw_tbl) else bif Nat.beq nest 3 then decide (Cond.fieldLinkNest own idx (r.2.1 k).1 (r.2.1 k).2.1 (r.2.1 k).2.2.1 "ShellWatchLaw" ∈ lw_tbl) else bif Nat.beq nest 4 then decide (Cond.fieldLink own idx own (r.2.1 k).2.1 (r.2.1 k).2.2.1 ∈ xWs) && decide (Cond.sameField own (r.2.1 k).1 (r.2.1 k).2.1 (r.2.1 k).2.2.1 ∈ xWs) else decide (Cond.fieldLink own idx (r.2.1 k).1 (r.2.1 k).2.1 (r.2.1 k).2.2.1 ∈ xWs))
  | none => false
theorem xin0 : ∀ w ∈ wsX00, w ∈ xWs := by decide +kernel
theorem xin1 : ∀ w ∈ wsX10, w ∈ xWs := by decide +kernel
theorem xin2 : ∀ w ∈ wsX20, w ∈ xWs := by decide +kernel
theorem xin3 : ∀ w ∈ wsX30, w ∈ xWs := by decide +kernel
theorem xin4 : ∀ w ∈ wsX40, w ∈ xWs := by decide +kernel
theorem xin5 : ∀ w ∈ wsX50, w ∈ xWs := by decide +kernel
theorem xin6 : ∀ w ∈ wsX60, w ∈ xWs := by decide +kernel
theorem xin7 : ∀ w ∈ wsX90, w ∈ xWs := by decide +kernel
theorem xin8 : ∀ w ∈ wsX100, w ∈ xWs := by decide +kernel
theorem xin9 : ∀ w ∈ wsX110, w ∈ xWs := by decide +kernel
theorem xin10 : ∀ w ∈ wsX120, w ∈ xWs := by decide +kernel
theorem xin11 : ∀ w ∈ wsJ00, w ∈ xWs := by decide +kernel
theorem xin12 : ∀ w ∈ wsJ40, w ∈ xWs := by decide +kernel
theorem xin13 : ∀ w ∈ wsJx4a65c0, w ∈ xWs := by decide +kernel
theorem xcl_ok {ci : Nat} {r : vw_C} (h : vwCl[ci]? = some r) : (∀ w ∈ u_ws r.1 r.2.1 r.2.2, w ∈ xWs) ∧ (∀ k, k < r.2.2 → parseFieldDescriptor (r.2.1 k).2.2.1 = some (xtyp ci k)) ∧ (∀ a, a < r.2.2 → ∀ b, b < r.2.2 → a ≠ b → (r.2.1 a).2.1 ≠ (r.2.1 b).2.1) := by
  match ci, h with
  | 0, h => cases h; exact ⟨xin0, tyX0_ok, nmX0⟩
  | 1, h => cases h; exact ⟨xin1, tyX1_ok, nmX1⟩
  | 2, h => cases h; exact ⟨xin2, tyX2_ok, nmX2⟩
  | 3, h => cases h; exact ⟨xin3, tyX3_ok, nmX3⟩
  | 4, h => cases h; exact ⟨xin4, tyX4_ok, nmX4⟩
  | 5, h => cases h; exact ⟨xin5, tyX5_ok, nmX5⟩
  | 6, h => cases h; exact ⟨xin6, tyX6_ok, nmX6⟩
  | 7, h => cases h; exact ⟨xin7, tyX9_ok, nmX9⟩
  | 8, h => cases h; exact ⟨xin8, tyX10_ok, nmX10⟩
  | 9, h => cases h; exact ⟨xin9, tyX11_ok, nmX11⟩
  | 10, h => cases h; exact ⟨xin10, tyX12_ok, nmX12⟩
  | 11, h => cases h; exact ⟨xin11, tyJ0_ok, nmJ0⟩
  | 12, h => cases h; exact ⟨xin12, tyJ4_ok, nmJ4⟩
  | 13, h => cases h; exact ⟨xin13, tyJx4a65c_ok, nmJx4a65c⟩
  | k + 14, h => simp [vwCl] at h
section ROWS
variable {p : Program} {l : Launch} {e : Env} {R : Room} {s : State} {m : MethodId} {args : Array Value} {below : List Frame} {meth : Method} {c : Code} {H : Heap} {locs : List Loc} {cells slots : Nat} {Q : State → Prop}
variable {cc : ByteArray} {pc : Nat} {ls : Array Slot} {rest : List Value} {G : xG} {A : Nat → Prop} {σ : xH} {H0 : Heap} {own : String} {a : Nat}
theorem x_get (hx : p.tables.exec = Jvm.exec) (hb : c.code = cc) (hts : ∀ w ∈ xWs, w.before args s = true) (hnw : xNw s) (hown : s.vm.findClass own = some m.cls) (hK : va_K G.1 vwCl (xtys G.2) s) (hS : xS G A H0 σ H locs)
    {idx ci k nest : Nat} {fs : List Value} {v : Value} (hok : xokF own idx ci k nest = true) (he : σ.1 a = some (.inr (ci, fs))) (hv : fs[k]? = some v) (hdg : decode cc pc = .ok (.getfield idx, 3))
    (kk : W p l e R s m args below meth c H locs cells slots Q (F0 m (pc + 3) ls (v :: rest))) : W p l e R s m args below meth c H locs cells slots Q (F0 m pc ls (.ref a :: rest)) := by
  unfold xokF at hok
  split at hok
  · next r hr =>
    rw [Bool.and_eq_true] at hok
    have hk := Nat.le_of_ble_eq_true hok.1
    have hP := hS.2.1.one he
    have hin := (xcl_ok hr).1
    cases hn : Nat.beq nest 1
    · rw [hn] at hok
      cases h3 : Nat.beq nest 3
      · rw [h3] at hok
        cases h4 : Nat.beq nest 4
        · rw [h4] at hok
          exact va_get (ws := [(a, .inr (ci, fs))]) hx hb hts hin hown hK hP 0 rfl hr k hk (hts _ (of_decide_eq_true hok.2)) (fun _ h => h) hv hdg kk
        · rw [h4] at hok
          have hok2 : (decide (Cond.fieldLink own idx own (r.2.1 k).2.1 (r.2.1 k).2.2.1 ∈ xWs) && decide (Cond.sameField own (r.2.1 k).1 (r.2.1 k).2.1 (r.2.1 k).2.2.1 ∈ xWs)) = true := hok.2
          rw [Bool.and_eq_true, decide_eq_true_eq, decide_eq_true_eq] at hok2
          obtain ⟨r', h1, cell, q1, q2, q3, q4⟩ := hS.2.1 a _ he
          have hrr : r' = r := Option.some.inj (h1.symm.trans hr)
          subst hrr
          obtain ⟨hSl, hfc, kC, hkC, hkind⟩ := hK.1 ci _ hr
          obtain ⟨cf, kf, fi, f, hi, hsl⟩ := hSl k hk
          have hst := (u_facts hfc hkC (u_lays hts hin hk) hi).1
          have hv2 : vp_V fs k = v := by unfold vp_V; rw [List.getD_eq_getElem?_getD, hv]; rfl
          have hs9 := q4 k hk
          rw [hv2] at hs9
          exact W.getf hx hb hown (hts _ hok2.1) (u_same (hts _ hok2.2) _ hi) hst q1 (by rw [q3]; exact fun h => by cases h) (by rw [hsl]; exact hs9) rfl rfl hdg kk
      · rw [h3] at hok
        exact va_getN (ws := [(a, .inr (ci, fs))]) hx hb hts hin hown hK hP 0 rfl hr k hk (va_Nw.use rfl (hnw _ (of_decide_eq_true hok.2) rfl)) (fun _ h => h) hv hdg kk
    · rw [hn] at hok
      exact va_getN (ws := [(a, .inr (ci, fs))]) hx hb hts hin hown hK hP 0 rfl hr k hk (va_Nw.use rfl (hnw _ (of_decide_eq_true hok.2) rfl)) (fun _ h => h) hv hdg kk
  · cases hok
/-- of the put: the type that the tag names, and that the field is no final one, or one of a constructor's own class -/
def xokP (own : String) (ci k t nest : Nat) : Bool := match vwCl[ci]? with
  | some r => decide (xtyp ci k = bif Nat.beq t 5 then .boolean else bif Nat.beq t 6 then .byte else bif Nat.beq t 1 then .long else bif Nat.beq t 0 then .int else xtyp ci k) && ((bif Nat.beq t 2 then (match xtyp ci k with
    | .object _ => true
    | .array _ => true
    | _ => false) else true) && (bif Nat.beq nest 2 then (r.2.1 k).2.2.2 && decide ((r.2.1 k).1 = own) else !(r.2.1 k).2.2.2))
  | none => false
end ROWS
