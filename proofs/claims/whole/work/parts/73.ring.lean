/-! THE GAMES THAT ARE KEPT, on both sides. -/
def ix (w i : Nat) : Nat := (w + 9 - i) % 9
def GR (M : xSt) (r : Nat) (g : Nat → Nat) : Prop := ∀ k, k < 1100 → M.2.1 1 (1100 * r + k) = nI (g k)
def hC (sh : Nat → Option xSh) : Prop := sh 0 = some sh8 ∧ hI sh 1 ∧ hS6 sh ∧ hT sh 11 ∧ hG sh 14 ∧ (∃ l, sh 26 = some (5, 9, l) ∧ ∀ j, j < 9 → (l[j]?).map Prod.snd = some (27 + 12 * j)) ∧ ∀ j, j < 9 → hG sh (27 + 12 * j)
/-- the games -/
def RG (S M : xSt) (gs : Nat → Nat → Nat) (w un Bd : Nat) : Prop := (S.1 0 5 = nI w ∧ S.1 0 6 = nI un ∧ M.1 0 3 = nI w ∧ M.1 0 4 = nI un ∧ w < 9 ∧ un ≤ 8) ∧ ∀ i, i ≤ un → pG S (27 + 12 * ix w i) (gs i) ∧ GR M (ix w i) (gs i) ∧ iG (gs i) ∧ iFo (gs i) ∧ gs i 2 ≤ Bd ∧ gs i 3 ≤ Bd
/-- what was appended, and the error's place -/
def RI (S M : xSt) (tx : Nat → Nat) (len : Nat) : Prop := S.1 1 1 = nI len ∧ M.1 0 8 = nI len ∧ len ≤ 500 ∧ (∀ i, i < len → S.2.1 2 i = sx (tx i) ∧ M.2.1 5 i = nI (tx i) ∧ tx i < 256) ∧ S.1 1 9 = M.1 0 12
def cons (g : Nat → Nat) (gs : Nat → Nat → Nat) : Nat → Nat → Nat := fun i => if i = 0 then g else gs (i - 1)
theorem ix_0 {w : Nat} (h : w < 9) : ix w 0 = w := by unfold ix; omega
theorem ix_lt {w i : Nat} : ix w i < 9 := Nat.mod_lt _ (by omega)
theorem ix_s {w i : Nat} (h : w < 9) (hi : i < 9) : ix ((w + 1) % 9) (i + 1) = ix w i := by unfold ix; omega
theorem ix_ne {w i : Nat} (h : w < 9) (h0 : i ≠ 0) (hi : i < 9) : ix w i ≠ w := by unfold ix; omega
theorem ix_u {w i : Nat} (h : w < 9) (hi : i < 8) : ix ((w + 8) % 9) i = ix w (i + 1) := by unfold ix; omega
theorem pG_eq {S S' : xSt} {q : Nat} {g : Nat → Nat} (e : ∀ j, q ≤ j → j < q + 11 → eqQ S S' j) (P : pG S q g) : pG S' q g := by
  obtain ⟨⟨r1, r2, r3, r4, r5⟩, ⟨m1, m2, m3, m4, m5⟩, ⟨k1, k2⟩, ⟨f1, f2⟩, e1, e2, e3, e4, e5⟩ := P
  have f := fun j a b k => congrFun (e j a b).1 k
  have f2' := fun j a b => (e j a b).2
  refine ⟨⟨?_, ?_, ?_, fun p hp => ?_, fun p hp => ?_⟩, ⟨?_, ?_, ?_, ?_, fun p hp => ?_⟩, ⟨?_, fun k hk => ?_⟩, ⟨fun z => ?_, fun z => ?_⟩, ?_, ?_, ?_, ?_, ?_⟩
  · rw [f (q + 1) (by omega) (by omega)]; exact r1
  · rw [f (q + 1) (by omega) (by omega)]; exact r2
  · rw [f (q + 1) (by omega) (by omega)]; exact r3
  · rw [f2' (q + 1 + 1) (by omega) (by omega)]; exact r4 p hp
  · rw [f2' (q + 1 + 2) (by omega) (by omega)]; exact r5 p hp
  · rw [f (q + 4) (by omega) (by omega)]; exact m1
  · rw [f (q + 4) (by omega) (by omega)]; exact m2
  · rw [f (q + 4) (by omega) (by omega)]; exact m3
  · rw [f (q + 4) (by omega) (by omega)]; exact m4
  · rw [f2' (q + 4 + 1) (by omega) (by omega)]; exact m5 p hp
  · rw [f (q + 6) (by omega) (by omega)]; exact k1
  · rw [f2' (q + 6 + 1) (by omega) (by omega), f2' (q + 6 + 2) (by omega) (by omega)]; exact k2 k hk
  · rw [f (q + 9) (by omega) (by omega), f2' (q + 9 + 1) (by omega) (by omega)]; exact f1 z
  · rw [f (q + 9) (by omega) (by omega), f2' (q + 9 + 1) (by omega) (by omega)]; exact f2 z
  · rw [f q (by omega) (by omega)]; exact e1
  · rw [f q (by omega) (by omega)]; exact e2
  · rw [f q (by omega) (by omega)]; exact e3
  · rw [f q (by omega) (by omega)]; exact e4
  · rw [f q (by omega) (by omega)]; exact e5
section RT
variable {S S' M M' : xSt} {gs : Nat → Nat → Nat} {w un Bd len : Nat} {tx : Nat → Nat}
theorem RG_fr (R : RG S M gs w un Bd) (e5 : S'.1 0 5 = S.1 0 5) (e6 : S'.1 0 6 = S.1 0 6) (e : ∀ j, 27 ≤ j → (j - 27) % 12 ≠ 11 → eqQ S S' j) (m3 : M'.1 0 3 = M.1 0 3) (m4 : M'.1 0 4 = M.1 0 4) (mr : ∀ i, i < 9900 → M'.2.1 1 i = M.2.1 1 i) : RG S' M' gs w un Bd := by
  obtain ⟨⟨c1, c2, c3, c4, c5, c6⟩, h⟩ := R
  refine ⟨⟨e5.trans c1, e6.trans c2, m3.trans c3, m4.trans c4, c5, c6⟩, fun i hi => ?_⟩
  obtain ⟨h1, h2, h3⟩ := h i hi
  have := ix_lt (w := w) (i := i)
  exact ⟨pG_eq (fun j a b => e j (by omega) (by omega)) h1, fun k hk => by rw [mr _ (by omega)]; exact h2 k hk, h3⟩
theorem RG_mo {Bd' : Nat} (R : RG S M gs w un Bd) (h : Bd ≤ Bd') : RG S M gs w un Bd' :=
  ⟨R.1, fun i hi => by obtain ⟨h1, h2, h3, h4, h5, h6⟩ := R.2 i hi; exact ⟨h1, h2, h3, h4, by omega, by omega⟩⟩
theorem RI_fr (R : RI S M tx len) (e1 : S'.1 1 1 = S.1 1 1) (e9 : S'.1 1 9 = S.1 1 9) (e2 : S'.2.1 2 = S.2.1 2) (m8 : M'.1 0 8 = M.1 0 8) (m12 : M'.1 0 12 = M.1 0 12) (m5 : M'.2.1 5 = M.2.1 5) : RI S' M' tx len :=
  ⟨e1.trans R.1, m8.trans R.2.1, R.2.2.1, fun i hi => by rw [e2, m5]; exact R.2.2.2.1 i hi, by rw [e9, m12]; exact R.2.2.2.2⟩
theorem RG_ch {g' : Nat → Nat} {Bd' : Nat} (R : RG S M gs w un Bd) (hB : Bd ≤ Bd') (e5 : S'.1 0 5 = nI ((w + 1) % 9)) (e6 : S'.1 0 6 = nI (if un < 8 then un + 1 else 8)) (e : ∀ j, 27 ≤ j → (j < 27 + 12 * ((w + 1) % 9) ∨ 27 + 12 * ((w + 1) % 9) + 12 ≤ j) → eqQ S S' j) (m3 : M'.1 0 3 = nI ((w + 1) % 9)) (m4 : M'.1 0 4 = nI (if un < 8 then un + 1 else 8)) (mr : ∀ i, i < 9900 → (i < 1100 * ((w + 1) % 9) ∨ 1100 * ((w + 1) % 9) + 1100 ≤ i) → M'.2.1 1 i = M.2.1 1 i) (P : pG S' (27 + 12 * ((w + 1) % 9)) g') (G : GR M' ((w + 1) % 9) g') (I : iG g') (F : iFo g') (t2 : g' 2 ≤ Bd') (t3 : g' 3 ≤ Bd') : RG S' M' (cons g' gs) ((w + 1) % 9) (if un < 8 then un + 1 else 8) Bd' := by
  obtain ⟨⟨c1, c2, c3, c4, c5, c6⟩, h⟩ := R
  have hw : (w + 1) % 9 < 9 := Nat.mod_lt _ (by omega)
  refine ⟨⟨e5, e6, m3, m4, hw, by split <;> omega⟩, fun i hi => ?_⟩
  by_cases h0 : i = 0
  · subst h0
    rw [ix_0 hw]
    exact ⟨P, G, I, F, t2, t3⟩
  · obtain ⟨j, rfl⟩ : ∃ j, i = j + 1 := ⟨i - 1, by omega⟩
    have hj : j + 1 ≤ 8 := by split at hi <;> omega
    have hju : j ≤ un := by split at hi <;> omega
    obtain ⟨h1, h2, h3, h4, h5, h6⟩ := h j hju
    have hix := ix_s (i := j) c5 (by omega)
    have hne := ix_ne (i := j + 1) hw (by omega) (by omega)
    rw [hix] at hne ⊢
    have hlt := ix_lt (w := w) (i := j)
    show pG S' (27 + 12 * ix w j) (gs (j + 1 - 1)) ∧ _
    rw [show cons g' gs (j + 1) = gs j from if_neg (by omega), Nat.add_sub_cancel]
    exact ⟨pG_eq (fun i a b => e i (by omega) (by omega)) h1, fun k hk => by rw [mr _ (by omega) (by omega)]; exact h2 k hk, h3, h4, by omega, by omega⟩
theorem RG_un (R : RG S M gs w (un + 1) Bd) (e5 : S'.1 0 5 = nI ((w + 8) % 9)) (e6 : S'.1 0 6 = nI un) (e : ∀ j, 27 ≤ j → eqQ S S' j) (m3 : M'.1 0 3 = nI ((w + 8) % 9)) (m4 : M'.1 0 4 = nI un) (mr : M'.2.1 1 = M.2.1 1) : RG S' M' (fun i => gs (i + 1)) ((w + 8) % 9) un Bd := by
  obtain ⟨⟨c1, c2, c3, c4, c5, c6⟩, h⟩ := R
  refine ⟨⟨e5, e6, m3, m4, Nat.mod_lt _ (by omega), by omega⟩, fun i hi => ?_⟩
  obtain ⟨h1, h2, h3, h4, h5, h6⟩ := h (i + 1) (by omega)
  rw [ix_u c5 (by omega)]
  exact ⟨pG_eq (fun j a b => e j (by omega)) h1, fun k hk => by rw [mr]; exact h2 k hk, h3, h4, h5, h6⟩
end RT
section RC
variable {E : xEn} {x y n m : Nat} {sh : Nat → Option xSh} {S M : xSt} {g : Nat → Nat} {w un : Nat}
theorem c_game (h : hC sh) (h5 : S.1 0 5 = nI w) (hw : w < 9) (d : Nat) : xsem xT E (d + 1) kX10_game [.ref x] (wW E x sh S, n) = some (.inl (some (.ref (x + (27 + 12 * w)))), (wW E x sh S, n)) := by
  obtain ⟨b0, _, _, _, _, ⟨l, hl, hg⟩, _⟩ := h
  rw [eX10_game, QX10_game_0]
  simp (disch := omega) only [gO_8 b0, gR_8_0 b0, gR_8_1 b0, gR_8_2 b0, gR_8_3 b0, gR_8_4 b0, gI_8_5 b0, gP_8_5 b0, gI_8_6 b0, gP_8_6 b0, h5, cI_s, cL_s, cF_s, cD_s, cA_s, cV_s, nI_add, cond_true, cond_false, if_true, if_false]
  rw [aQ_wG hl (by omega) (by omega) (hg w hw)]
theorem c_change (h : hC sh) (h5 : S.1 0 5 = nI w) (h6 : S.1 0 6 = nI un) (hw : w < 9) (hu : un ≤ 8) (P : pG S (27 + 12 * w) g) (I : iG g) (F : iFo g) (d : Nat) :
    ∃ S', xsem xT E (d + 3) kX10_change [.ref x] (wW E x sh S, n) = some (.inl (some (.ref (x + (27 + 12 * ((w + 1) % 9))))), (wW E x sh S', n)) ∧ S'.1 0 5 = nI ((w + 1) % 9) ∧ S'.1 0 6 = nI (if un < 8 then un + 1 else 8) ∧ pG S' (27 + 12 * ((w + 1) % 9)) g ∧ (∀ j, j ≠ 0 → (j < 27 + 12 * ((w + 1) % 9) ∨ 27 + 12 * ((w + 1) % 9) + 12 ≤ j) → eqQ S S' j) ∧ S'.2.2 = S.2.2 := by
  obtain ⟨b0, _, _, _, _, ⟨l, hl, hg⟩, hG⟩ := h
  have hw' : (w + 1) % 9 < 9 := Nat.mod_lt _ (by omega)
  have b2 := (hG _ hw').1
  generalize hS1 : sS (sS S 0 5 (nI ((w + 1) % 9))) 0 6 (nI (if un < 8 then un + 1 else 8)) = S1
  have f1 : frm 0 1 S S1 := by rw [← hS1]; exact frm_tr (frm_sS (by omega) (by omega)) (frm_sS (by omega) (by omega))
  have P1 : pG S1 (27 + 12 * w) g := pG_fr f1 (by omega) P
  obtain ⟨S2, e1, e2, e3⟩ := s2_copyFrom (E := E) (x := x) (n := n) (hG _ hw') (hG w hw) (by omega) P1 I.1.2.1 I.1.2.2.2.2.2.2.2.2.2 F.1 d
  have h51 : S1.1 0 5 = nI ((w + 1) % 9) := by rw [← hS1, sS_n (by omega), sS_s]
  have h52 : S2.1 0 5 = nI ((w + 1) % 9) := (frm_1 e2 (by omega)).trans h51
  have h61 : S1.1 0 6 = nI (if un < 8 then un + 1 else 8) := by rw [← hS1, sS_s]
  refine ⟨S2, ?_, h52, (frm_1 e2 (by omega)).trans h61, e3, fun j a b => ⟨(e2.1 j (by omega)).1.trans (f1.1 j (by omega)).1, (e2.1 j (by omega)).2.trans (f1.1 j (by omega)).2⟩, e2.2.trans f1.2⟩
  have hmin : mnI (nI (un + 1)) (nI 8) = nI (if un < 8 then un + 1 else 8) := by
    rw [mnI_n (by omega) (by omega)]
    congr 1
    split <;> split <;> omega
  have htail : ∀ v : Nat, v = (w + 1) % 9 → qX10_change_32 E (d + 2) x (x + (27 + 12 * w)) x (nI v) (wW E x sh S, n) = some (.inl (some (.ref (x + (27 + 12 * ((w + 1) % 9))))), (wW E x sh S2, n)) := by
    intro v hv
    subst hv
    rw [QX10_change_32]
    simp (disch := omega) only [gO_8 b0, gR_8_0 b0, gR_8_1 b0, gR_8_2 b0, gR_8_3 b0, gR_8_4 b0, gI_8_5 b0, gP_8_5 b0, gI_8_6 b0, gP_8_6 b0, sS_n, sS_s, h6, cI_s, cL_s, cF_s, cD_s, cA_s, cV_s, nI_add, cond_true, cond_false, if_true, if_false]
    rw [hmin, hS1]
    rw [aQ_wG hl (by omega) (by omega) (hg _ hw')]
    simp (disch := omega) only [gO_2 b2, gR_2_0 b2, gR_2_1 b2, gR_2_2 b2, gR_2_3 b2, gI_2_4 b2, gP_2_4 b2, gI_2_5 b2, gP_2_5 b2, gI_2_6 b2, gP_2_6 b2, gI_2_7 b2, gP_2_7 b2, gI_2_8 b2, gP_2_8 b2, cI_s, cL_s, cF_s, cD_s, cA_s, cV_s, nI_add, cond_true, cond_false, if_true, if_false]
    rw [e1]
    simp (disch := omega) only [gO_8 b0, gR_8_0 b0, gR_8_1 b0, gR_8_2 b0, gR_8_3 b0, gR_8_4 b0, gI_8_5 b0, gP_8_5 b0, gI_8_6 b0, gP_8_6 b0, h52, cI_s, cL_s, cF_s, cD_s, cA_s, cV_s, nI_add, cond_true, cond_false, if_true, if_false]
    rw [aQ_wG hl (by omega) (by omega) (hg _ hw')]
  rw [eX10_change, QX10_change_0]
  simp (disch := omega) only [gO_8 b0, gR_8_0 b0, gR_8_1 b0, gR_8_2 b0, gR_8_3 b0, gR_8_4 b0, gI_8_5 b0, gP_8_5 b0, gI_8_6 b0, gP_8_6 b0, h5, cI_s, cL_s, cF_s, cD_s, cA_s, cV_s, nI_add, cond_true, cond_false, if_true, if_false]
  rw [aQ_wG hl (by omega) (by omega) (hg w hw)]
  by_cases c : w = 8
  · rw [iLE_t (show 9 ≤ w + 1 by omega) (by omega), QX10_change_31]
    exact htail 0 (by omega)
  · rw [iLE_f (show w + 1 < 9 by omega) (by omega)]
    exact htail (w + 1) (by omega)
-- the reference
theorem g_get (G : GM M w g) {k : Nat} (hk : k < 1100) (u : Nat) : xsem xT E (u + 1) kX11_get [.ref y, .int (nI k)] (wW E y shM M, m) = some (.inl (some (.int (nI (g k)))), (wW E y shM M, m)) := by
  have e := m_get (g := g) (E := E) (x := y) (n := m) (S := M) (T := M.2.2.2.1 3) G.1 G.2.1 hk u
  rw [mS_self G] at e
  exact e
theorem g_put (G : GM M w g) {k v : Nat} (hk : k < 1100) (u : Nat) : ∃ M', xsem xT E (u + 1) kX11_put [.ref y, .int (nI k), .int (nI v)] (wW E y shM M, m) = some (.inl none, (wW E y shM M', m)) ∧ GM M' w (updN g k v) ∧ frS w M M' := by
  have e := m_put (g := g) (E := E) (x := y) (n := m) (S := M) (T := M.2.2.2.1 3) (v := v) G.1 G.2.1 hk u
  rw [mS_self G] at e
  exact ⟨_, e, GM_mS G, frS_mS⟩
theorem g_shells (G : GM M w g) (u : Nat) : xsem xT E (u + 2) kX11_shells [.ref y] (wW E y shM M, m) = some (.inl (some (.int (nI (g 0)))), (wW E y shM M, m)) := by
  have e := m_shells (g := g) (E := E) (x := y) (n := m) (S := M) (T := M.2.2.2.1 3) G.1 G.2.1 u
  rw [mS_self G] at e
  exact e
def wrp (r : Nat → Int32) (w i : Nat) (g : Nat → Nat) : Nat → Int32 := fun j => if 1100 * w ≤ j ∧ j < 1100 * w + i then nI (g (j - 1100 * w)) else r j
theorem wrp_0 {r : Nat → Int32} {w : Nat} {g : Nat → Nat} : wrp r w 0 g = r := by
  funext j
  unfold wrp
  rw [if_neg (by omega)]
theorem wrp_s {r : Nat → Int32} {w i : Nat} {g : Nat → Nat} : upd (wrp r w i g) (1100 * w + i) (nI (g i)) = wrp r w (i + 1) g := by
  funext j
  by_cases e : j = 1100 * w + i
  · subst e
    rw [pk_us]
    unfold wrp
    rw [if_pos (by omega), Nat.add_sub_cancel_left]
  · rw [pk_un e]
    unfold wrp
    by_cases c : 1100 * w ≤ j ∧ j < 1100 * w + i
    · rw [if_pos c, if_pos (by omega)]
    · rw [if_neg c, if_neg (by omega)]
theorem wrp_o {r : Nat → Int32} {w i j : Nat} {g : Nat → Nat} (h : j < 1100 * w ∨ 1100 * w + 1100 ≤ j) (hi : i ≤ 1100) : wrp r w i g j = r j := if_neg (by omega)
theorem GM_wrp {w' i : Nat} (G : GM M w g) (hne : w' ≠ w) (hi : i ≤ 1100) : GM (sA M 1 (wrp (M.2.1 1) w' i g)) w g := by
  refine ⟨G.1, G.2.1, fun k hk => ?_⟩
  rw [sA_s, wrp_o (by omega) hi]
  exact G.2.2 k hk
theorem lm_chg (G : GM M w g) {w' : Nat} (hne : w' ≠ w) (h9 : w' ≤ 9) (u : Nat) : ∀ k i, i + k = 1100 → qX11_change_12 E (u + 1) y (nI w') (nI i) (wW E y shM (sA M 1 (wrp (M.2.1 1) w' i g)), m) = qX11_change_42 E (u + 1) y (nI w') (wW E y shM (sA M 1 (wrp (M.2.1 1) w' 1100 g)), m) := by
  intro k
  induction k with
  | zero =>
    intro i hi
    have hi : i = 1100 := hi
    subst hi
    rw [QX11_change_12]
    simp (disch := omega) only [iLE_t, cI_s, cL_s, cF_s, cD_s, cA_s, cV_s, nI_add, cond_true, cond_false, if_true, if_false]
  | succ k ih =>
    intro i hi
    have hg := g_get (E := E) (y := y) (m := m) (GM_wrp G hne (show i ≤ 1100 by omega)) (show i < 1100 by omega) u
    rw [QX11_change_12]
    simp (disch := omega) only [iLE_f, gO_9 hM0, gI_9_0 hM0, gP_9_0 hM0, gR_9_1 hM0, gR_9_2 hM0, gI_9_3 hM0, gP_9_3 hM0, gI_9_4 hM0, gP_9_4 hM0, gR_9_5 hM0, gR_9_6 hM0, gR_9_7 hM0, gI_9_8 hM0, gP_9_8 hM0, gI_9_9 hM0, gP_9_9 hM0, gI_9_10 hM0, gP_9_10 hM0, gI_9_11 hM0, gP_9_11 hM0, gI_9_12 hM0, gP_9_12 hM0, gI_9_13 hM0, gP_9_13 hM0, gI_9_14 hM0, gP_9_14 hM0, gI_9_15 hM0, gP_9_15 hM0, gI_9_16 hM0, gP_9_16 hM0, gR_9_17 hM0, gR_9_18 hM0, gR_9_19 hM0, gR_9_20 hM0, gI_9_21 hM0, gP_9_21 hM0, gI_9_22 hM0, gP_9_22 hM0, gI_9_23 hM0, gP_9_23 hM0, gI_9_24 hM0, gP_9_24 hM0, gR_9_25 hM0, gI_9_26 hM0, gP_9_26 hM0, gI_9_27 hM0, gP_9_27 hM0, gI_9_28 hM0, gP_9_28 hM0, gL_9_29 hM0, gP_9_29 hM0, gL_9_30 hM0, gP_9_30 hM0, cI_s, cL_s, cF_s, cD_s, cA_s, cV_s, nI_add, cond_true, cond_false, if_true, if_false]
    rw [hg]
    simp (disch := omega) only [pk_mul, sI_w hM1, sA_s, sA_sA, cI_s, cL_s, cF_s, cD_s, cA_s, cV_s, nI_add, cond_true, cond_false, if_true, if_false]
    rw [wrp_s]
    exact ih (i + 1) (by omega)
theorem w9_mod : ∀ w, w < 9 → (nI w + nI 1) - (nI w + nI 1) / nI 9 * nI 9 = nI ((w + 1) % 9) := by decide
theorem w9_un : ∀ w, w < 9 → (nI w + nI 9 - nI 1) - (nI w + nI 9 - nI 1) / nI 9 * nI 9 = nI ((w + 8) % 9) := by decide
theorem g_change (h3 : M.1 0 3 = nI w) (h4 : M.1 0 4 = nI un) (hw : w < 9) (hu : un ≤ 8) (G : GR M w g) (u : Nat) :
    ∃ M', xsem xT E (u + 2) kX11_change [.ref y] (wW E y shM M, m) = some (.inl none, (wW E y shM M', m)) ∧ GM M' ((w + 1) % 9) g ∧ M'.1 0 4 = nI (if un < 8 then un + 1 else 8) ∧ (∀ k, k ≠ 3 → k ≠ 4 → M'.1 0 k = M.1 0 k) ∧ (∀ j, j ≠ 1 → M'.2.1 j = M.2.1 j) ∧ (∀ i, (i < 1100 * ((w + 1) % 9) ∨ 1100 * ((w + 1) % 9) + 1100 ≤ i) → M'.2.1 1 i = M.2.1 1 i) := by
  have hw' : (w + 1) % 9 < 9 := Nat.mod_lt _ (by omega)
  have GMh : GM M w g := ⟨h3, by omega, G⟩
  have hl := lm_chg (E := E) (y := y) (m := m) GMh (w' := (w + 1) % 9) (by omega) (by omega) u 1100 0 (by omega)
  rw [wrp_0, sA_self] at hl
  refine ⟨sS (sS (sA M 1 (wrp (M.2.1 1) ((w + 1) % 9) 1100 g)) 0 3 (nI ((w + 1) % 9))) 0 4 (nI (if un < 8 then un + 1 else 8)), ?_, ⟨by rw [sS_n (by omega), sS_s], by omega, fun k hk => ?_⟩, sS_s, fun k a b => by rw [sS_n b, sS_n a]; rfl, fun j hj => by rw [sS_a, sS_a, sA_n hj], fun i hi => ?_⟩
  · rw [eX11_change, QX11_change_0]
    simp (disch := omega) only [gO_9 hM0, gI_9_0 hM0, gP_9_0 hM0, gR_9_1 hM0, gR_9_2 hM0, gI_9_3 hM0, gP_9_3 hM0, gI_9_4 hM0, gP_9_4 hM0, gR_9_5 hM0, gR_9_6 hM0, gR_9_7 hM0, gI_9_8 hM0, gP_9_8 hM0, gI_9_9 hM0, gP_9_9 hM0, gI_9_10 hM0, gP_9_10 hM0, gI_9_11 hM0, gP_9_11 hM0, gI_9_12 hM0, gP_9_12 hM0, gI_9_13 hM0, gP_9_13 hM0, gI_9_14 hM0, gP_9_14 hM0, gI_9_15 hM0, gP_9_15 hM0, gI_9_16 hM0, gP_9_16 hM0, gR_9_17 hM0, gR_9_18 hM0, gR_9_19 hM0, gR_9_20 hM0, gI_9_21 hM0, gP_9_21 hM0, gI_9_22 hM0, gP_9_22 hM0, gI_9_23 hM0, gP_9_23 hM0, gI_9_24 hM0, gP_9_24 hM0, gR_9_25 hM0, gI_9_26 hM0, gP_9_26 hM0, gI_9_27 hM0, gP_9_27 hM0, gI_9_28 hM0, gP_9_28 hM0, gL_9_29 hM0, gP_9_29 hM0, gL_9_30 hM0, gP_9_30 hM0, h3, cI_s, cL_s, cF_s, cD_s, cA_s, cV_s, nI_add, cond_true, cond_false, if_true, if_false]
    have hm := w9_mod w hw
    rw [nI_add] at hm
    rw [hm]
    show qX11_change_12 E (u + 1) y (nI ((w + 1) % 9)) (nI 0) (wW E y shM M, m) = _
    rw [hl, QX11_change_42]
    simp (disch := omega) only [gO_9 hM0, gI_9_0 hM0, gP_9_0 hM0, gR_9_1 hM0, gR_9_2 hM0, gI_9_3 hM0, gP_9_3 hM0, gI_9_4 hM0, gP_9_4 hM0, gR_9_5 hM0, gR_9_6 hM0, gR_9_7 hM0, gI_9_8 hM0, gP_9_8 hM0, gI_9_9 hM0, gP_9_9 hM0, gI_9_10 hM0, gP_9_10 hM0, gI_9_11 hM0, gP_9_11 hM0, gI_9_12 hM0, gP_9_12 hM0, gI_9_13 hM0, gP_9_13 hM0, gI_9_14 hM0, gP_9_14 hM0, gI_9_15 hM0, gP_9_15 hM0, gI_9_16 hM0, gP_9_16 hM0, gR_9_17 hM0, gR_9_18 hM0, gR_9_19 hM0, gR_9_20 hM0, gI_9_21 hM0, gP_9_21 hM0, gI_9_22 hM0, gP_9_22 hM0, gI_9_23 hM0, gP_9_23 hM0, gI_9_24 hM0, gP_9_24 hM0, gR_9_25 hM0, gI_9_26 hM0, gP_9_26 hM0, gI_9_27 hM0, gP_9_27 hM0, gI_9_28 hM0, gP_9_28 hM0, gL_9_29 hM0, gP_9_29 hM0, gL_9_30 hM0, gP_9_30 hM0, sS_n, sA_1, h4, cI_s, cL_s, cF_s, cD_s, cA_s, cV_s, nI_add, cond_true, cond_false, if_true, if_false]
    by_cases c : un < 8
    · rw [iLE_f c (by omega), if_pos c]
      simp (disch := omega) only [QX11_change_70, gO_9 hM0, gI_9_0 hM0, gP_9_0 hM0, gR_9_1 hM0, gR_9_2 hM0, gI_9_3 hM0, gP_9_3 hM0, gI_9_4 hM0, gP_9_4 hM0, gR_9_5 hM0, gR_9_6 hM0, gR_9_7 hM0, gI_9_8 hM0, gP_9_8 hM0, gI_9_9 hM0, gP_9_9 hM0, gI_9_10 hM0, gP_9_10 hM0, gI_9_11 hM0, gP_9_11 hM0, gI_9_12 hM0, gP_9_12 hM0, gI_9_13 hM0, gP_9_13 hM0, gI_9_14 hM0, gP_9_14 hM0, gI_9_15 hM0, gP_9_15 hM0, gI_9_16 hM0, gP_9_16 hM0, gR_9_17 hM0, gR_9_18 hM0, gR_9_19 hM0, gR_9_20 hM0, gI_9_21 hM0, gP_9_21 hM0, gI_9_22 hM0, gP_9_22 hM0, gI_9_23 hM0, gP_9_23 hM0, gI_9_24 hM0, gP_9_24 hM0, gR_9_25 hM0, gI_9_26 hM0, gP_9_26 hM0, gI_9_27 hM0, gP_9_27 hM0, gI_9_28 hM0, gP_9_28 hM0, gL_9_29 hM0, gP_9_29 hM0, gL_9_30 hM0, gP_9_30 hM0, cI_s, cL_s, cF_s, cD_s, cA_s, cV_s, nI_add, cond_true, cond_false, if_true, if_false]
    · rw [iLE_t (by omega) (by omega), if_neg c, QX11_change_66]
      simp (disch := omega) only [gO_9 hM0, gI_9_0 hM0, gP_9_0 hM0, gR_9_1 hM0, gR_9_2 hM0, gI_9_3 hM0, gP_9_3 hM0, gI_9_4 hM0, gP_9_4 hM0, gR_9_5 hM0, gR_9_6 hM0, gR_9_7 hM0, gI_9_8 hM0, gP_9_8 hM0, gI_9_9 hM0, gP_9_9 hM0, gI_9_10 hM0, gP_9_10 hM0, gI_9_11 hM0, gP_9_11 hM0, gI_9_12 hM0, gP_9_12 hM0, gI_9_13 hM0, gP_9_13 hM0, gI_9_14 hM0, gP_9_14 hM0, gI_9_15 hM0, gP_9_15 hM0, gI_9_16 hM0, gP_9_16 hM0, gR_9_17 hM0, gR_9_18 hM0, gR_9_19 hM0, gR_9_20 hM0, gI_9_21 hM0, gP_9_21 hM0, gI_9_22 hM0, gP_9_22 hM0, gI_9_23 hM0, gP_9_23 hM0, gI_9_24 hM0, gP_9_24 hM0, gR_9_25 hM0, gI_9_26 hM0, gP_9_26 hM0, gI_9_27 hM0, gP_9_27 hM0, gI_9_28 hM0, gP_9_28 hM0, gL_9_29 hM0, gP_9_29 hM0, gL_9_30 hM0, gP_9_30 hM0, sS_n, sA_1, h4, QX11_change_70, cI_s, cL_s, cF_s, cD_s, cA_s, cV_s, nI_add, cond_true, cond_false, if_true, if_false]
      rw [show un = 8 by omega]
  · rw [sS_a, sS_a, sA_s]
    unfold wrp
    rw [if_pos (by omega), Nat.add_sub_cancel_left]
  · rw [sS_a, sS_a, sA_s, wrp_o hi (by omega)]
end RC
