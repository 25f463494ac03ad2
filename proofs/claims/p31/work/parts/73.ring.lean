/-! THE GAMES THAT ARE KEPT, on both sides. -/
def ix (w i : Nat) : Nat := (w + 9 - i) % 9
def hC (sh : Nat → Option xSh) : Prop := sh 0 = some sh8 ∧ hI sh 1 ∧ hS6 sh ∧ hT sh 11 ∧ hG sh 14 ∧ (∃ l, sh 26 = some (5, 9, l) ∧ ∀ j, j < 9 → (l[j]?).map Prod.snd = some (27 + 12 * j)) ∧ ∀ j, j < 9 → hG sh (27 + 12 * j)
theorem ix_0 {w : Nat} (h : w < 9) : ix w 0 = w := by unfold ix; omega
theorem ix_lt {w i : Nat} : ix w i < 9 := Nat.mod_lt _ (by omega)
theorem ix_s {w i : Nat} (h : w < 9) (hi : i < 9) : ix ((w + 1) % 9) (i + 1) = ix w i := by unfold ix; omega
theorem ix_ne {w i : Nat} (h : w < 9) (h0 : i ≠ 0) (hi : i < 9) : ix w i ≠ w := by unfold ix; omega
theorem pG_eq {S S' : xSt} {q : Nat} {g : Nat → Nat} (e : ∀ j, q ≤ j → j < q + 11 → eqQ S S' j) (P : pG S q g) : pG S' q g := by
  obtain ⟨⟨r1, r2, r3, r4, r5⟩, ⟨m1, m2, m3, m4, m5⟩, ⟨k1, k2⟩, ⟨f1, f2⟩, e1, e2, e3, e4, e5⟩ := P
  have f := fun j a b k => congrFun (e j a b).1 k
  have f2' := fun j a b => (e j a b).2
  refine ⟨⟨?_, ?_, ?_, fun p hp => ?_, fun p hp => ?_⟩, ⟨?_, ?_, ?_, ?_, fun p hp => ?_⟩, ⟨?_, fun k hk => ?_⟩, ⟨fun z => ?_, fun z => ?_⟩, ?_, ?_, ?_, ?_, ?_⟩
  · rw [f (q + 1) (by omega) (by omega)]; exact r1
  · rw [f (q + 1) (by omega) (by omega)]; exact r2
  · rw [f (q + 1) (by omega) (by omega)]; exact r3
  · rw [f2' (q + 1 + 1) (by omega) (by omega)]; exact r4 p hp
  · rw [f2' (q + 1 + 2) (by omega) (by omega)]; exact r5 p hp
  · rw [f (q + 4) (by omega) (by omega)]; exact m1
  · rw [f (q + 4) (by omega) (by omega)]; exact m2
  · rw [f (q + 4) (by omega) (by omega)]; exact m3
  · rw [f (q + 4) (by omega) (by omega)]; exact m4
  · rw [f2' (q + 4 + 1) (by omega) (by omega)]; exact m5 p hp
  · rw [f (q + 6) (by omega) (by omega)]; exact k1
  · rw [f2' (q + 6 + 1) (by omega) (by omega), f2' (q + 6 + 2) (by omega) (by omega)]; exact k2 k hk
  · rw [f (q + 9) (by omega) (by omega), f2' (q + 9 + 1) (by omega) (by omega)]; exact f1 z
  · rw [f (q + 9) (by omega) (by omega), f2' (q + 9 + 1) (by omega) (by omega)]; exact f2 z
  · rw [f q (by omega) (by omega)]; exact e1
  · rw [f q (by omega) (by omega)]; exact e2
  · rw [f q (by omega) (by omega)]; exact e3
  · rw [f q (by omega) (by omega)]; exact e4
  · rw [f q (by omega) (by omega)]; exact e5
section RT
variable {S S' M M' : xSt} {gs : Nat → Nat → Nat} {w un Bd len : Nat} {tx : Nat → Nat}
end RT
section RC
variable {E : xEn} {z : Nat → Option va_E} {x y n m : Nat} {sh : Nat → Option xSh} {S M : xSt} {g : Nat → Nat} {w un : Nat}
theorem c_game (h : hC sh) (h5 : S.1 0 5 = nI w) (hw : w < 9) (d : Nat) : xsem xT E (d + 1) kX10_game [.ref x] (wW E z x sh S, n) = some (.inl (some (.ref (x + (27 + 12 * w)))), (wW E z x sh S, n)) := by
  obtain ⟨b0, _, _, _, _, ⟨l, hl, hg⟩, _⟩ := h
  rw [eX10_game, QX10_game_0]
  simp (disch := omega) only [gO_8 b0, gR_8_0 b0, gR_8_1 b0, gR_8_2 b0, gR_8_3 b0, gR_8_4 b0, gI_8_5 b0, gP_8_5 b0, gI_8_6 b0, gP_8_6 b0, h5, cI_s, cL_s, cF_s, cD_s, cA_s, cV_s, nI_add, cond_true, cond_false, if_true, if_false]
  rw [aQ_wG hl (by omega) (by omega) (hg w hw)]
theorem c_change (h : hC sh) (h5 : S.1 0 5 = nI w) (h6 : S.1 0 6 = nI un) (hw : w < 9) (hu : un ≤ 8) (P : pG S (27 + 12 * w) g) (I : iG g) (F : iFo g) (d : Nat) :
    ∃ S', xsem xT E (d + 3) kX10_change [.ref x] (wW E z x sh S, n) = some (.inl (some (.ref (x + (27 + 12 * ((w + 1) % 9))))), (wW E z x sh S', n)) ∧ S'.1 0 5 = nI ((w + 1) % 9) ∧ S'.1 0 6 = nI (if un < 8 then un + 1 else 8) ∧ pG S' (27 + 12 * ((w + 1) % 9)) g ∧ (∀ j, j ≠ 0 → (j < 27 + 12 * ((w + 1) % 9) ∨ 27 + 12 * ((w + 1) % 9) + 12 ≤ j) → eqQ S S' j) ∧ S'.2.2 = S.2.2 := by
  obtain ⟨b0, _, _, _, _, ⟨l, hl, hg⟩, hG⟩ := h
  have hw' : (w + 1) % 9 < 9 := Nat.mod_lt _ (by omega)
  have b2 := (hG _ hw').1
  generalize hS1 : sS (sS S 0 5 (nI ((w + 1) % 9))) 0 6 (nI (if un < 8 then un + 1 else 8)) = S1
  have f1 : frm 0 1 S S1 := by rw [← hS1]; exact frm_tr (frm_sS (by omega) (by omega)) (frm_sS (by omega) (by omega))
  have P1 : pG S1 (27 + 12 * w) g := pG_fr f1 (by omega) P
  obtain ⟨S2, e1, e2, e3⟩ := s2_copyFrom (E := E) (z := z) (x := x) (n := n) (hG _ hw') (hG w hw) (by omega) P1 I.1.2.1 I.1.2.2.2.2.2.2.2.2.2 F.1 d
  have h51 : S1.1 0 5 = nI ((w + 1) % 9) := by rw [← hS1, sS_n (by omega), sS_s]
  have h52 : S2.1 0 5 = nI ((w + 1) % 9) := (frm_1 e2 (by omega)).trans h51
  have h61 : S1.1 0 6 = nI (if un < 8 then un + 1 else 8) := by rw [← hS1, sS_s]
  refine ⟨S2, ?_, h52, (frm_1 e2 (by omega)).trans h61, e3, fun j a b => ⟨(e2.1 j (by omega)).1.trans (f1.1 j (by omega)).1, (e2.1 j (by omega)).2.trans (f1.1 j (by omega)).2⟩, e2.2.trans f1.2⟩
  have hmin : mnI (nI (un + 1)) (nI 8) = nI (if un < 8 then un + 1 else 8) := by
    rw [mnI_n (by omega) (by omega)]
    congr 1
    split <;> split <;> omega
  have htail : ∀ v : Nat, v = (w + 1) % 9 → qX10_change_32 E (d + 2) x (x + (27 + 12 * w)) x (nI v) (wW E z x sh S, n) = some (.inl (some (.ref (x + (27 + 12 * ((w + 1) % 9))))), (wW E z x sh S2, n)) := by
    intro v hv
    subst hv
    rw [QX10_change_32]
    simp (disch := omega) only [gO_8 b0, gR_8_0 b0, gR_8_1 b0, gR_8_2 b0, gR_8_3 b0, gR_8_4 b0, gI_8_5 b0, gP_8_5 b0, gI_8_6 b0, gP_8_6 b0, sS_n, sS_s, h6, cI_s, cL_s, cF_s, cD_s, cA_s, cV_s, nI_add, cond_true, cond_false, if_true, if_false]
    rw [hmin, hS1]
    rw [aQ_wG hl (by omega) (by omega) (hg _ hw')]
    simp (disch := omega) only [gO_2 b2, gR_2_0 b2, gR_2_1 b2, gR_2_2 b2, gR_2_3 b2, gI_2_4 b2, gP_2_4 b2, gI_2_5 b2, gP_2_5 b2, gI_2_6 b2, gP_2_6 b2, gI_2_7 b2, gP_2_7 b2, gI_2_8 b2, gP_2_8 b2, cI_s, cL_s, cF_s, cD_s, cA_s, cV_s, nI_add, cond_true, cond_false, if_true, if_false]
    rw [e1]
    simp (disch := omega) only [gO_8 b0, gR_8_0 b0, gR_8_1 b0, gR_8_2 b0, gR_8_3 b0, gR_8_4 b0, gI_8_5 b0, gP_8_5 b0, gI_8_6 b0, gP_8_6 b0, h52, cI_s, cL_s, cF_s, cD_s, cA_s, cV_s, nI_add, cond_true, cond_false, if_true, if_false]
    rw [aQ_wG hl (by omega) (by omega) (hg _ hw')]
  rw [eX10_change, QX10_change_0]
  simp (disch := omega) only [gO_8 b0, gR_8_0 b0, gR_8_1 b0, gR_8_2 b0, gR_8_3 b0, gR_8_4 b0, gI_8_5 b0, gP_8_5 b0, gI_8_6 b0, gP_8_6 b0, h5, cI_s, cL_s, cF_s, cD_s, cA_s, cV_s, nI_add, cond_true, cond_false, if_true, if_false]
  rw [aQ_wG hl (by omega) (by omega) (hg w hw)]
  by_cases c : w = 8
  · rw [iLE_t (show 9 ≤ w + 1 by omega) (by omega), QX10_change_31]
    exact htail 0 (by omega)
  · rw [iLE_f (show w + 1 < 9 by omega) (by omega)]
    exact htail (w + 1) (by omega)
-- the reference
theorem w9_mod : ∀ w, w < 9 → (nI w + nI 1) - (nI w + nI 1) / nI 9 * nI 9 = nI ((w + 1) % 9) := by decide
end RC
