/-! STATEMENTS of a setup text, read on both sides. -/
def frD (S S' : xSt) : Prop := (∀ j, j ≠ 1 → (j < 14 ∨ 26 ≤ j) → S'.1 j = S.1 j) ∧ (∀ k, k < 7 ∨ 9 < k → S'.1 1 k = S.1 1 k) ∧ (∀ j, j ≠ 1 → (j < 14 ∨ 26 ≤ j) → S'.2.1 j = S.2.1 j) ∧ S'.2.2 = S.2.2
theorem frD_rf {S : xSt} : frD S S := ⟨fun _ _ _ => rfl, fun _ _ => rfl, fun _ _ _ => rfl, rfl⟩
theorem frD_tr {S S1 S2 : xSt} (h : frD S S1) (h' : frD S1 S2) : frD S S2 := ⟨fun j a b => (h'.1 j a b).trans (h.1 j a b), fun j hj => (h'.2.1 j hj).trans (h.2.1 j hj), fun j a b => (h'.2.2.1 j a b).trans (h.2.2.1 j a b), h'.2.2.2.trans h.2.2.2⟩
theorem frD_I {S S' : xSt} (h : frI S S') : frD S S' := ⟨fun j a _ => h.1 j a, h.2.1, fun j a _ => h.2.2.1 j a, h.2.2.2⟩
theorem frD_m {S S' : xSt} (h : frm 14 26 S S') : frD S S' := ⟨fun j _ b => (h.1 j b).1, fun k _ => congrFun (h.1 1 (by omega)).1 k, fun j _ b => (h.1 j b).2, h.2⟩
theorem frm_I {S S' : xSt} (h : frI S S') : frm 1 2 S S' := ⟨fun j hj => ⟨h.1 j (by omega), h.2.2.1 j (by omega)⟩, h.2.2.2⟩
theorem cQ_m {S S' : xSt} {tx : Nat → Nat} {L p : Nat} (Q : cQ S tx L p) (h : frm 14 26 S S') : cQ S' tx L p := cQ_fr Q (h.1 1 (by omega)).1 (h.1 4 (by omega)).2 (h.1 5 (by omega)).2 (by rw [h.2])
/-- a scratch that is made or taken away -/
theorem gSet_28 {h : Nat → Nat} (I : iG h) {p : Nat} (hp : p < h 0) (b : Bool) : gSet (updN h (28 + h (12 + p)) b.toNat) (h 0) = bset (gSet h (h 0)) p b := by
  have h8 := I.1.2.1
  have hr := iG_rg I
  have hc := gSet_lt h _ h8
  have hb : b.toNat ≤ 1 := by cases b <;> decide
  have er : ∀ r, r < 8 → rg (updN h (28 + h (12 + p)) b.toNat) r = if h (12 + r) = h (12 + p) then b.toNat else rg h r := fun r hr => by
    unfold rg
    rw [updN_n (show 12 + r ≠ 28 + h (12 + p) by omega)]
    by_cases e : h (12 + r) = h (12 + p)
    · rw [if_pos e, e, updN_s]
    · rw [if_neg e, updN_n (by omega)]
  have hr' : ∀ r, r < 8 → rg (updN h (28 + h (12 + p)) b.toNat) r ≤ 1 := fun r hrr => by
    rw [er r hrr]
    split
    · exact hb
    · exact hr r hrr
  refine bb_ext (gSet_lt _ _ h8) (bset_lt b _ hc p (by omega)) (fun r hr8 => ?_)
  rw [gSet_bit _ hr' _ h8 r hr8]
  have e2 : bbit (bset (gSet h (h 0)) p b) r = if r = p then b.toNat else bbit (gSet h (h 0)) r := by
    rw [bbit_b, bset_bit b _ hc p (by omega) r hr8, bbit_b]
    split <;> rfl
  rw [e2, gSet_bit _ hr _ h8 r hr8]
  by_cases c : r < h 0
  · rw [if_pos c, if_pos c, er r hr8]
    by_cases e : r = p
    · rw [if_pos e, if_pos (by rw [e])]
    · rw [if_neg e, if_neg (fun z => e (I.2.2.2.1 r p c hp z))]
  · rw [if_neg c, if_neg c, if_neg (by omega)]
/-- the picture behind a scratch -/
theorem pG_28 {S : xSt} {q : Nat} {h : Nat → Nat} (I : iG h) (P : pG S q h) {p : Nat} (hp : p < h 0) (b : Bool) : pG (sS S (q + 1) 2 (nI (bset (gSet h (h 0)) p b))) q (updN h (28 + h (12 + p)) b.toNat) := by
  obtain ⟨⟨r1, r2, r3, r4, r5⟩, P2, P3, P4, e1, e2, e3, e4, e5⟩ := P
  have h8 := I.1.2.1
  have hs := I.2.1 p (by omega)
  have f : frm (q + 1) (q + 2) S (sS S (q + 1) 2 (nI (bset (gSet h (h 0)) p b))) := frm_sS (by omega) (by omega)
  have o : ∀ i, i < 28 ∨ 36 ≤ i → updN h (28 + h (12 + p)) b.toNat i = h i := fun i hi => updN_n (by omega)
  obtain ⟨m1, m2, m3, m4, m5⟩ := pMd_fr f (by omega) P2
  refine ⟨⟨?_, ?_, ?_, fun p hp => ?_, fun p hp => ?_⟩, ⟨?_, ?_, ?_, ?_, fun p hp => ?_⟩, pBk_cg (o 10 (by omega)) I.1.2.2.2.2.2.2.2.2.2 (fun i _ _ => o i (by omega)) (pBk_fr f (by omega) P3), pFo_cg (o 11 (by omega)) (fun i _ => o i (by omega)) (pFo_fr f (by omega) P4), ?_, ?_, ?_, ?_, ?_⟩
  · rw [sS_n (by omega), o 0 (by omega)]; exact r1
  · rw [sS_n (by omega), o 1 (by omega)]; exact r2
  · rw [sS_s, o 0 (by omega), gSet_28 I hp b]
  · rw [o (12 + p) (by omega)]; exact r4 p hp
  · rw [o 0 (by omega)] at hp
    have := I.2.1 p (by omega)
    rw [o (12 + p) (by omega), o (20 + h (12 + p)) (by omega)]; exact r5 p hp
  · rw [o 0 (by omega)]; exact m1
  · rw [o 4 (by omega)]; exact m2
  · rw [o 5 (by omega)]; exact m3
  · rw [o 6 (by omega)]; exact m4
  · rw [o 0 (by omega)] at hp
    rw [o (36 + p) (by omega)]; exact m5 p hp
  · rw [sS_nq (by omega), o 2 (by omega)]; exact e1
  · rw [sS_nq (by omega), o 3 (by omega)]; exact e2
  · rw [sS_nq (by omega), o 7 (by omega)]; exact e3
  · rw [sS_nq (by omega), o 8 (by omega)]; exact e4
  · rw [sS_nq (by omega), o 9 (by omega)]; exact e5
section ST2
variable {E : xEn} {z : Nat → Option va_E} {x y n m : Nat} {sh : Nat → Option xSh} {S M : xSt} {L p sb : Nat} {tx : Nat → Nat} {g : Nat → Nat}
-- scratches
end ST2
