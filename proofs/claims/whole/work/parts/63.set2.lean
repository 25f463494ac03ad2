/-! STATEMENTS of a setup text, read on both sides. -/
def RS (S M : xSt) (tx : Nat → Nat) (L : Nat) (g : Nat → Nat) (p sb : Nat) : Prop := cQ S tx L p ∧ mQ M tx L p ∧ rd M g ∧ pG S 14 (fin g) ∧ iU g ∧ M.1 0 16 = nI sb ∧ sb < 64 ∧ (sb.testBit 5 = false → g 11 = 0)
def frD (S S' : xSt) : Prop := (∀ j, j ≠ 1 → (j < 14 ∨ 26 ≤ j) → S'.1 j = S.1 j) ∧ (∀ k, k < 7 ∨ 9 < k → S'.1 1 k = S.1 1 k) ∧ (∀ j, j ≠ 1 → (j < 14 ∨ 26 ≤ j) → S'.2.1 j = S.2.1 j) ∧ S'.2.2 = S.2.2
def frG (M M' : xSt) : Prop := (∀ k, k < 10 ∨ 17 ≤ k → M'.1 0 k = M.1 0 k) ∧ (∀ j, j ≠ 2 → M'.2.1 j = M.2.1 j) ∧ M'.2.2 = M.2.2
theorem frD_rf {S : xSt} : frD S S := ⟨fun _ _ _ => rfl, fun _ _ => rfl, fun _ _ _ => rfl, rfl⟩
theorem frD_tr {S S1 S2 : xSt} (h : frD S S1) (h' : frD S1 S2) : frD S S2 := ⟨fun j a b => (h'.1 j a b).trans (h.1 j a b), fun j hj => (h'.2.1 j hj).trans (h.2.1 j hj), fun j a b => (h'.2.2.1 j a b).trans (h.2.2.1 j a b), h'.2.2.2.trans h.2.2.2⟩
theorem frD_I {S S' : xSt} (h : frI S S') : frD S S' := ⟨fun j a _ => h.1 j a, h.2.1, fun j a _ => h.2.2.1 j a, h.2.2.2⟩
theorem frD_C {S S' : xSt} (h : frC S S') : frD S S' := ⟨fun j a b => h.1 j a (by omega), h.2.1, fun j a b => h.2.2.1 j a (by omega), h.2.2.2⟩
theorem frD_m {S S' : xSt} (h : frm 14 26 S S') : frD S S' := ⟨fun j _ b => (h.1 j b).1, fun k _ => congrFun (h.1 1 (by omega)).1 k, fun j _ b => (h.1 j b).2, h.2⟩
theorem frG_rf {M : xSt} : frG M M := ⟨fun _ _ => rfl, fun _ _ => rfl, rfl⟩
theorem frG_tr {M M1 M2 : xSt} (h : frG M M1) (h' : frG M1 M2) : frG M M2 := ⟨fun j a => (h'.1 j a).trans (h.1 j a), fun j hj => (h'.2.1 j hj).trans (h.2.1 j hj), h'.2.2.trans h.2.2⟩
theorem frG_R {M M' : xSt} (h : frR M M') : frG M M' := ⟨fun k hk => h.1 k (by omega), fun j _ => by rw [h.2], by rw [h.2]⟩
theorem frG_F {M M' : xSt} (h : frF M M') : frG M M' := ⟨fun k hk => h.1 k (by omega), h.2.1, h.2.2⟩
theorem frG_S {M : xSt} {k : Nat} {v : Int32} (h : 10 ≤ k ∧ k < 17) : frG M (sS M 0 k v) := ⟨fun j hj => sS_n (by omega), fun _ _ => rfl, rfl⟩
theorem frG_A {M : xSt} {f : Nat → Int32} : frG M (sA M 2 f) := ⟨fun _ _ => rfl, fun j hj => sA_n hj, rfl⟩
theorem frm_I {S S' : xSt} (h : frI S S') : frm 1 2 S S' := ⟨fun j hj => ⟨h.1 j (by omega), h.2.2.1 j (by omega)⟩, h.2.2.2⟩
theorem cQ_m {S S' : xSt} {tx : Nat → Nat} {L p : Nat} (Q : cQ S tx L p) (h : frm 14 26 S S') : cQ S' tx L p := cQ_fr Q (h.1 1 (by omega)).1 (h.1 4 (by omega)).2 (h.1 5 (by omega)).2 (by rw [h.2])
/-- a scratch that is made or taken away -/
theorem gSet_28 {h : Nat → Nat} (I : iG h) {p : Nat} (hp : p < h 0) (b : Bool) : gSet (updN h (28 + h (12 + p)) b.toNat) (h 0) = bset (gSet h (h 0)) p b := by
  have h8 := I.1.2.1
  have hr := iG_rg I
  have hc := gSet_lt h _ h8
  have hb : b.toNat ≤ 1 := by cases b <;> decide
  have er : ∀ r, r < 8 → rg (updN h (28 + h (12 + p)) b.toNat) r = if h (12 + r) = h (12 + p) then b.toNat else rg h r := fun r hr => by
    unfold rg
    rw [updN_n (show 12 + r ≠ 28 + h (12 + p) by omega)]
    by_cases e : h (12 + r) = h (12 + p)
    · rw [if_pos e, e, updN_s]
    · rw [if_neg e, updN_n (by omega)]
  have hr' : ∀ r, r < 8 → rg (updN h (28 + h (12 + p)) b.toNat) r ≤ 1 := fun r hrr => by
    rw [er r hrr]
    split
    · exact hb
    · exact hr r hrr
  refine bb_ext (gSet_lt _ _ h8) (bset_lt b _ hc p (by omega)) (fun r hr8 => ?_)
  rw [gSet_bit _ hr' _ h8 r hr8]
  have e2 : bbit (bset (gSet h (h 0)) p b) r = if r = p then b.toNat else bbit (gSet h (h 0)) r := by
    rw [bbit_b, bset_bit b _ hc p (by omega) r hr8, bbit_b]
    split <;> rfl
  rw [e2, gSet_bit _ hr _ h8 r hr8]
  by_cases c : r < h 0
  · rw [if_pos c, if_pos c, er r hr8]
    by_cases e : r = p
    · rw [if_pos e, if_pos (by rw [e])]
    · rw [if_neg e, if_neg (fun z => e (I.2.2.2.1 r p c hp z))]
  · rw [if_neg c, if_neg c, if_neg (by omega)]
/-- the picture behind a scratch -/
theorem pG_28 {S : xSt} {q : Nat} {h : Nat → Nat} (I : iG h) (P : pG S q h) {p : Nat} (hp : p < h 0) (b : Bool) : pG (sS S (q + 1) 2 (nI (bset (gSet h (h 0)) p b))) q (updN h (28 + h (12 + p)) b.toNat) := by
  obtain ⟨⟨r1, r2, r3, r4, r5⟩, P2, P3, P4, e1, e2, e3, e4, e5⟩ := P
  have h8 := I.1.2.1
  have hs := I.2.1 p (by omega)
  have f : frm (q + 1) (q + 2) S (sS S (q + 1) 2 (nI (bset (gSet h (h 0)) p b))) := frm_sS (by omega) (by omega)
  have o : ∀ i, i < 28 ∨ 36 ≤ i → updN h (28 + h (12 + p)) b.toNat i = h i := fun i hi => updN_n (by omega)
  obtain ⟨m1, m2, m3, m4, m5⟩ := pMd_fr f (by omega) P2
  refine ⟨⟨?_, ?_, ?_, fun p hp => ?_, fun p hp => ?_⟩, ⟨?_, ?_, ?_, ?_, fun p hp => ?_⟩, pBk_cg (o 10 (by omega)) I.1.2.2.2.2.2.2.2.2.2 (fun i _ _ => o i (by omega)) (pBk_fr f (by omega) P3), pFo_cg (o 11 (by omega)) (fun i _ => o i (by omega)) (pFo_fr f (by omega) P4), ?_, ?_, ?_, ?_, ?_⟩
  · rw [sS_n (by omega), o 0 (by omega)]; exact r1
  · rw [sS_n (by omega), o 1 (by omega)]; exact r2
  · rw [sS_s, o 0 (by omega), gSet_28 I hp b]
  · rw [o (12 + p) (by omega)]; exact r4 p hp
  · rw [o 0 (by omega)] at hp
    have := I.2.1 p (by omega)
    rw [o (12 + p) (by omega), o (20 + h (12 + p)) (by omega)]; exact r5 p hp
  · rw [o 0 (by omega)]; exact m1
  · rw [o 4 (by omega)]; exact m2
  · rw [o 5 (by omega)]; exact m3
  · rw [o 6 (by omega)]; exact m4
  · rw [o 0 (by omega)] at hp
    rw [o (36 + p) (by omega)]; exact m5 p hp
  · rw [sS_nq (by omega), o 2 (by omega)]; exact e1
  · rw [sS_nq (by omega), o 3 (by omega)]; exact e2
  · rw [sS_nq (by omega), o 7 (by omega)]; exact e3
  · rw [sS_nq (by omega), o 8 (by omega)]; exact e4
  · rw [sS_nq (by omega), o 9 (by omega)]; exact e5
section ST2
variable {E : xEn} {x y n m : Nat} {sh : Nat → Option xSh} {S M : xSt} {L p sb : Nat} {tx : Nat → Nat} {g : Nat → Nat}
theorem RS_I {S' M' : xSt} {p' : Nat} (R : RS S M tx L g p sb) (f : frI S S') (f' : frR M M') (Q : cQ S' tx L p') (K : mQ M' tx L p') : RS S' M' tx L g p' sb :=
  ⟨Q, K, rd_R R.2.2.1 f', pG_fr (frm_I f) (by omega) R.2.2.2.1, R.2.2.2.2.1, (f'.1 16 (by omega)).trans R.2.2.2.2.2.1, R.2.2.2.2.2.2⟩
theorem RS_P (R : RS S M tx L g p sb) : RS S (mP M p) tx L g p sb := RS_I R frI_rf frR_P R.1 (mQ_P R.2.1)
/-- both sides read a statement alike -/
def oS (E : xEn) (x y n m : Nat) (sh : Nat → Option xSh) (tx : Nat → Nat) (L : Nat) (S M : xSt) (p sb : Nat) (cr mr : Option xR) : Prop :=
  (∃ S' M' g' p', cr = some (.inl (some (.int (nI 1))), (wW E x sh S', n)) ∧ mr = some (.inl (some (.int (nI 1))), (wW E y shM M', m)) ∧ RS S' M' tx L g' p' sb ∧ p ≤ p' ∧ frD S S' ∧ frG M M') ∨
  (∃ S' M', cr = some (.inl (some (.int (nI 0))), (wW E x sh S', n)) ∧ mr = some (.inl (some (.int (nI 0))), (wW E y shM M', m)) ∧ xF S' M' ∧ frD S S' ∧ frG M M')
theorem oS_fr {S0 M0 : xSt} {p0 : Nat} {cr mr : Option xR} (f1 : frD S0 S) (f2 : frG M0 M) (hp : p0 ≤ p) (h : oS E x y n m sh tx L S M p sb cr mr) : oS E x y n m sh tx L S0 M0 p0 sb cr mr := by
  rcases h with ⟨S', M', g', p', e1, e2, e3, e4, e5, e6⟩ | ⟨S', M', e1, e2, e3, e4, e5⟩
  · exact Or.inl ⟨S', M', g', p', e1, e2, e3, by omega, frD_tr f1 e5, frG_tr f2 e6⟩
  · exact Or.inr ⟨S', M', e1, e2, e3, frD_tr f1 e4, frG_tr f2 e5⟩
theorem t_once_f (K : mQ M tx L p) (h16 : M.1 0 16 = nI sb) (hs : sb < 64) {w : Nat} (hw : w < 6) (hb : sb.testBit w = true) (b u : Nat) : ∃ M', xsem xT E (u + 2) kX11_once [.ref y, .int (nI w), .int (nI b)] (wW E y shM M, m) = some (.inl (some (.int (nI 0))), (wW E y shM M', m)) ∧ mX M' (-2) b ∧ frR M M' := by
  obtain ⟨M', e1, e2, e3⟩ := t_fail (E := E) (x := y) (n := m) K (-2) b u
  refine ⟨M', ?_, e2, e3⟩
  have hg := (sb_get sb hs w hw).symm ▸ hb
  rw [eX11_once, QX11_once_0]
  simp (disch := omega) only [gO_9 hM0, gI_9_0 hM0, gP_9_0 hM0, gR_9_1 hM0, gR_9_2 hM0, gI_9_3 hM0, gP_9_3 hM0, gI_9_4 hM0, gP_9_4 hM0, gR_9_5 hM0, gR_9_6 hM0, gR_9_7 hM0, gI_9_8 hM0, gP_9_8 hM0, gI_9_9 hM0, gP_9_9 hM0, gI_9_10 hM0, gP_9_10 hM0, gI_9_11 hM0, gP_9_11 hM0, gI_9_12 hM0, gP_9_12 hM0, gI_9_13 hM0, gP_9_13 hM0, gI_9_14 hM0, gP_9_14 hM0, gI_9_15 hM0, gP_9_15 hM0, gI_9_16 hM0, gP_9_16 hM0, gR_9_17 hM0, gR_9_18 hM0, gR_9_19 hM0, gR_9_20 hM0, gI_9_21 hM0, gP_9_21 hM0, gI_9_22 hM0, gP_9_22 hM0, gI_9_23 hM0, gP_9_23 hM0, gI_9_24 hM0, gP_9_24 hM0, gR_9_25 hM0, gI_9_26 hM0, gP_9_26 hM0, gI_9_27 hM0, gP_9_27 hM0, gI_9_28 hM0, gP_9_28 hM0, gL_9_29 hM0, gP_9_29 hM0, gL_9_30 hM0, gP_9_30 hM0, h16, if_pos hg, cI_s, cL_s, cF_s, cD_s, cA_s, cV_s, nI_add, cond_true, cond_false, if_true, if_false]
  rw [e1]
  simp (disch := omega) only [xret5_0, cI_s, cL_s, cF_s, cD_s, cA_s, cV_s, nI_add, cond_true, cond_false, if_true, if_false]
theorem t_once_t (h16 : M.1 0 16 = nI sb) (hs : sb < 64) {w : Nat} (hw : w < 6) (hb : sb.testBit w = false) (b u : Nat) : xsem xT E (u + 2) kX11_once [.ref y, .int (nI w), .int (nI b)] (wW E y shM M, m) = some (.inl (some (.int (nI 1))), (wW E y shM (sS M 0 16 (nI (sb ||| 2 ^ w))), m)) := by
  have hg : ¬ ((nI sb >>> (nI w &&& 31)) &&& nI 1 = nI 1) := by rw [sb_get sb hs w hw, hb]; decide
  rw [eX11_once, QX11_once_0]
  simp (disch := omega) only [gO_9 hM0, gI_9_0 hM0, gP_9_0 hM0, gR_9_1 hM0, gR_9_2 hM0, gI_9_3 hM0, gP_9_3 hM0, gI_9_4 hM0, gP_9_4 hM0, gR_9_5 hM0, gR_9_6 hM0, gR_9_7 hM0, gI_9_8 hM0, gP_9_8 hM0, gI_9_9 hM0, gP_9_9 hM0, gI_9_10 hM0, gP_9_10 hM0, gI_9_11 hM0, gP_9_11 hM0, gI_9_12 hM0, gP_9_12 hM0, gI_9_13 hM0, gP_9_13 hM0, gI_9_14 hM0, gP_9_14 hM0, gI_9_15 hM0, gP_9_15 hM0, gI_9_16 hM0, gP_9_16 hM0, gR_9_17 hM0, gR_9_18 hM0, gR_9_19 hM0, gR_9_20 hM0, gI_9_21 hM0, gP_9_21 hM0, gI_9_22 hM0, gP_9_22 hM0, gI_9_23 hM0, gP_9_23 hM0, gI_9_24 hM0, gP_9_24 hM0, gR_9_25 hM0, gI_9_26 hM0, gP_9_26 hM0, gI_9_27 hM0, gP_9_27 hM0, gI_9_28 hM0, gP_9_28 hM0, gL_9_29 hM0, gP_9_29 hM0, gL_9_30 hM0, gP_9_30 hM0, h16, if_neg hg, QX11_once_20, (sb_or sb hs w hw).2.1, xret5_1, cI_s, cL_s, cF_s, cD_s, cA_s, cV_s, nI_add, cond_true, cond_false, if_true, if_false]
theorem rd_sA {f : Nat → Int32} {h : Nat → Nat} (e : ∀ k, k < 1100 → f k = nI (h k)) : rd (sA M 2 f) h := fun k hk => by rw [sA_s]; exact e k hk
-- scratches
theorem j_scr1 (h3 : hI sh 1) (hG14 : hG sh 14) (H : hEn E x) (R : RS S M tx L g p sb) (d u : Nat) :
    (∃ S' M' g' p', xsem xT E (d + 4) kX7_readScratch [.ref (x + 1), .ref (x + (14 + 1))] (wW E x sh S, n) = some (.inl (some (.int (nI 1))), (wW E x sh S', n)) ∧ qX11_readsScratch_0 E (u + 6) y (wW E y shM M, m) = (if tk tx L p' = 1 then qX11_readsScratch_0 E (u + 6) y (wW E y shM M', m) else some (.inl (some (.int (nI 1))), (wW E y shM M', m))) ∧ RS S' M' tx L g' p' sb ∧ p < p' ∧ frD S S' ∧ frG M M') ∨
    (∃ S' M', xsem xT E (d + 4) kX7_readScratch [.ref (x + 1), .ref (x + (14 + 1))] (wW E x sh S, n) = some (.inl (some (.int (nI 0))), (wW E x sh S', n)) ∧ qX11_readsScratch_0 E (u + 6) y (wW E y shM M, m) = some (.inl (some (.int (nI 0))), (wW E y shM M', m)) ∧ xF S' M' ∧ frD S S' ∧ frG M M') := by
  have R0 := R
  obtain ⟨Q, K, RR, P, I, h16, hs, h5⟩ := R
  obtain ⟨hpL, hL, hx, ht⟩ := mQ_le K
  have a3 := h3.1
  have b1 : sh (14 + 1) = some (sh5 (14 + 1)) := hG14.2.1
  have I' := (iU_fin I).1
  have e0 : fin g 0 = g 0 := fin_o (by omega)
  have c0 := I.1.1
  have c1 := I.1.2.1
  have r0 : S.1 (14 + 1) 0 = nI (g 0) := by rw [P.1.1, e0]
  have hst : S.1 (14 + 1) 2 = nI (gSet (fin g) (fin g 0)) := P.1.2.2.1
  have hsl : gSet (fin g) (fin g 0) < 256 := gSet_lt _ _ (by omega)
  have hr0 : M.2.1 2 0 = nI (g 0) := RR 0 (by omega)
  rw [eX7_readScratch, QX7_readScratch_0, QX11_readsScratch_0]
  by_cases e1 : tk tx L p = 1
  · obtain ⟨hp, hk⟩ := (tk_1 hL).1 e1
    have hgt := ad_gt (tx := tx) hL hp
    by_cases hr : nu tx L p ≤ g 0 - 1
    · have hlt : nu tx L p < g 0 := by omega
      have hrg : rg (fin g) (nu tx L p) = g (28 + nu tx L p) := by
        unfold rg
        rw [fin_o (k := 12 + nu tx L p) (by omega), (I.2.2.1 _ (by omega)).1, fin_o (by omega)]
      have hbit : bbit (gSet (fin g) (fin g 0)) (nu tx L p) = g (28 + nu tx L p) := by
        rw [gSet_bit _ (iG_rg I') _ (by omega) _ (by omega), if_pos (by omega), hrg]
      obtain ⟨M1, m1, K1, m13, m14, fm⟩ := t_reads_t (E := E) (x := y) (n := m) (lo := 0) (hi := g 0 - 1) K (by omega) (by omega) e1 (Nat.zero_le _) hr (u + 4)
      have RR1 : ∀ k, k < 1100 → M1.2.1 2 k = nI (g k) := rd_R RR fm
      by_cases hb : g (28 + nu tx L p) = 1
      · obtain ⟨S1, s1, s2, s3⟩ := c_fail (E := E) (x := x) (n := n) h3 Q (-4) (d + 2)
        obtain ⟨M2, f1, f2, f3⟩ := t_fail (E := E) (x := y) (n := m) K1 (-4) p (u + 5)
        refine Or.inr ⟨S1, M2, ?_, ?_, xF_of s2 f2, frD_I s3, frG_R (frR_tr fm f3)⟩
        · simp (disch := omega) only [gO_3 a3, gR_3_0 a3, gI_3_1 a3, gP_3_1 a3, gI_3_2 a3, gP_3_2 a3, gR_3_3 a3, gR_3_4 a3, gR_3_5 a3, gI_3_6 a3, gP_3_6 a3, gI_3_7 a3, gP_3_7 a3, gI_3_8 a3, gP_3_8 a3, gI_3_9 a3, gP_3_9 a3, c_is_t h3 H Q _ e1, iEQ_f, c_number h3 Q, gO_5 b1, gI_5_0 b1, gP_5_0 b1, gI_5_1 b1, gP_5_1 b1, gI_5_2 b1, gP_5_2 b1, gR_5_3 b1, gR_5_4 b1, cI_s, cL_s, cF_s, cD_s, cA_s, cV_s, nI_add, cond_true, cond_false, if_true, if_false]
          rw [s5_isScratched b1 r0 (by omega) hst hsl hlt, hbit, hb]
          simp (disch := omega) only [iEQ_f, gO_3 a3, gR_3_0 a3, gI_3_1 a3, gP_3_1 a3, gI_3_2 a3, gP_3_2 a3, gR_3_3 a3, gR_3_4 a3, gR_3_5 a3, gI_3_6 a3, gP_3_6 a3, gI_3_7 a3, gP_3_7 a3, gI_3_8 a3, gP_3_8 a3, gI_3_9 a3, gP_3_9 a3, cI_s, cL_s, cF_s, cD_s, cA_s, cV_s, nI_add, cond_true, cond_false, if_true, if_false]
          rw [s1]
          simp (disch := omega) only [xret5_0, cI_s, cL_s, cF_s, cD_s, cA_s, cV_s, nI_add, cond_true, cond_false, if_true, if_false]
        · simp (disch := omega) only [gO_9 hM0, gI_9_0 hM0, gP_9_0 hM0, gR_9_1 hM0, gR_9_2 hM0, gI_9_3 hM0, gP_9_3 hM0, gI_9_4 hM0, gP_9_4 hM0, gR_9_5 hM0, gR_9_6 hM0, gR_9_7 hM0, gI_9_8 hM0, gP_9_8 hM0, gI_9_9 hM0, gP_9_9 hM0, gI_9_10 hM0, gP_9_10 hM0, gI_9_11 hM0, gP_9_11 hM0, gI_9_12 hM0, gP_9_12 hM0, gI_9_13 hM0, gP_9_13 hM0, gI_9_14 hM0, gP_9_14 hM0, gI_9_15 hM0, gP_9_15 hM0, gI_9_16 hM0, gP_9_16 hM0, gR_9_17 hM0, gR_9_18 hM0, gR_9_19 hM0, gR_9_20 hM0, gI_9_21 hM0, gP_9_21 hM0, gI_9_22 hM0, gP_9_22 hM0, gI_9_23 hM0, gP_9_23 hM0, gI_9_24 hM0, gP_9_24 hM0, gR_9_25 hM0, gI_9_26 hM0, gP_9_26 hM0, gI_9_27 hM0, gP_9_27 hM0, gI_9_28 hM0, gP_9_28 hM0, gL_9_29 hM0, gP_9_29 hM0, gL_9_30 hM0, gP_9_30 hM0, aI_w hM2, hr0, pk_sub, cI_s, cL_s, cF_s, cD_s, cA_s, cV_s, nI_add, cond_true, cond_false, if_true, if_false]
          rw [m1]
          simp (disch := omega) only [iEQ_f, QX11_readsScratch_18, gO_9 hM0, gI_9_0 hM0, gP_9_0 hM0, gR_9_1 hM0, gR_9_2 hM0, gI_9_3 hM0, gP_9_3 hM0, gI_9_4 hM0, gP_9_4 hM0, gR_9_5 hM0, gR_9_6 hM0, gR_9_7 hM0, gI_9_8 hM0, gP_9_8 hM0, gI_9_9 hM0, gP_9_9 hM0, gI_9_10 hM0, gP_9_10 hM0, gI_9_11 hM0, gP_9_11 hM0, gI_9_12 hM0, gP_9_12 hM0, gI_9_13 hM0, gP_9_13 hM0, gI_9_14 hM0, gP_9_14 hM0, gI_9_15 hM0, gP_9_15 hM0, gI_9_16 hM0, gP_9_16 hM0, gR_9_17 hM0, gR_9_18 hM0, gR_9_19 hM0, gR_9_20 hM0, gI_9_21 hM0, gP_9_21 hM0, gI_9_22 hM0, gP_9_22 hM0, gI_9_23 hM0, gP_9_23 hM0, gI_9_24 hM0, gP_9_24 hM0, gR_9_25 hM0, gI_9_26 hM0, gP_9_26 hM0, gI_9_27 hM0, gP_9_27 hM0, gI_9_28 hM0, gP_9_28 hM0, gL_9_29 hM0, gP_9_29 hM0, gL_9_30 hM0, gP_9_30 hM0, m13, aI_w hM2, RR1, hb, iEQ_t, m14, cI_s, cL_s, cF_s, cD_s, cA_s, cV_s, nI_add, cond_true, cond_false, if_true, if_false]
          rw [f1]
          simp (disch := omega) only [xret5_0, cI_s, cL_s, cF_s, cD_s, cA_s, cV_s, nI_add, cond_true, cond_false, if_true, if_false]
      · have hb0 : g (28 + nu tx L p) = 0 := by have := (I.2.2.1 _ (show nu tx L p < 8 by omega)).2.2.1; omega
        obtain ⟨S1, s1, s2, s3⟩ := c_num_t (E := E) (x := x) (n := n) (lo := 0) (hi := g 0 - 1) h3 H Q (by omega) e1 (Nat.zero_le _) hr (d + 1)
        have P1 := pG_fr (frm_I s3) (by omega) P
        have r01 : S1.1 (14 + 1) 0 = nI (g 0) := by rw [P1.1.1, e0]
        have hst1 : S1.1 (14 + 1) 2 = nI (gSet (fin g) (fin g 0)) := P1.1.2.2.1
        have P2 := pG_28 I' P1 (p := nu tx L p) (by omega) true
        have fS : frm 14 26 S1 (sS S1 (14 + 1) 2 (nI (bset (gSet (fin g) (fin g 0)) (nu tx L p) true))) := frm_sS (by omega) (by omega)
        rw [fin_o (k := 12 + nu tx L p) (by omega), (I.2.2.1 _ (show nu tx L p < 8 by omega)).1, ← fin_up (by omega) (by omega)] at P2
        have hK2 : mQ (mP (sA M1 2 (upd (M1.2.1 2) (28 + nu tx L p) (nI 1))) (ad tx L p)) tx L (ad tx L p) := mQ_P (mQ_A K1 (by omega))
        have hset := s5_setScratched (E := E) (x := x) (n := n) b1 r01 (by omega) hst1 hsl hlt true (d + 1)
        refine Or.inl ⟨_, mP (sA M1 2 (upd (M1.2.1 2) (28 + nu tx L p) (nI 1))) (ad tx L p), updN g (28 + nu tx L p) 1, ad tx L p, ?_, ?_, ⟨cQ_m s2 fS, hK2, ?_, P2, iU_28 I (by omega) (by omega), ?_, hs, ?_⟩, hgt, frD_tr (frD_I s3) (frD_m fS), frG_tr (frG_R fm) (frG_tr frG_A (frG_R frR_P))⟩
        · simp (disch := omega) only [gO_3 a3, gR_3_0 a3, gI_3_1 a3, gP_3_1 a3, gI_3_2 a3, gP_3_2 a3, gR_3_3 a3, gR_3_4 a3, gR_3_5 a3, gI_3_6 a3, gP_3_6 a3, gI_3_7 a3, gP_3_7 a3, gI_3_8 a3, gP_3_8 a3, gI_3_9 a3, gP_3_9 a3, c_is_t h3 H Q _ e1, iEQ_f, c_number h3 Q, gO_5 b1, gI_5_0 b1, gP_5_0 b1, gI_5_1 b1, gP_5_1 b1, gI_5_2 b1, gP_5_2 b1, gR_5_3 b1, gR_5_4 b1, cI_s, cL_s, cF_s, cD_s, cA_s, cV_s, nI_add, cond_true, cond_false, if_true, if_false]
          rw [s5_isScratched b1 r0 (by omega) hst hsl hlt, hbit, hb0]
          simp (disch := omega) only [iEQ_t, QX7_readScratch_28, gO_3 a3, gR_3_0 a3, gI_3_1 a3, gP_3_1 a3, gI_3_2 a3, gP_3_2 a3, gR_3_3 a3, gR_3_4 a3, gR_3_5 a3, gI_3_6 a3, gP_3_6 a3, gI_3_7 a3, gP_3_7 a3, gI_3_8 a3, gP_3_8 a3, gI_3_9 a3, gP_3_9 a3, gO_5 b1, gI_5_0 b1, gP_5_0 b1, gI_5_1 b1, gP_5_1 b1, gI_5_2 b1, gP_5_2 b1, gR_5_3 b1, gR_5_4 b1, r0, pk_sub, cI_s, cL_s, cF_s, cD_s, cA_s, cV_s, nI_add, cond_true, cond_false, if_true, if_false]
          rw [s1]
          simp (disch := omega) only [iLE_t, QX7_readScratch_46, gO_5 b1, gI_5_0 b1, gP_5_0 b1, gI_5_1 b1, gP_5_1 b1, gI_5_2 b1, gP_5_2 b1, gR_5_3 b1, gR_5_4 b1, cI_s, cL_s, cF_s, cD_s, cA_s, cV_s, nI_add, cond_true, cond_false, if_true, if_false]
          rw [show nI 1 = nI true.toNat from rfl, hset]
          simp (disch := omega) only [Bool.toNat_true, xret5_1, cI_s, cL_s, cF_s, cD_s, cA_s, cV_s, nI_add, cond_true, cond_false, if_true, if_false]
        · simp (disch := omega) only [gO_9 hM0, gI_9_0 hM0, gP_9_0 hM0, gR_9_1 hM0, gR_9_2 hM0, gI_9_3 hM0, gP_9_3 hM0, gI_9_4 hM0, gP_9_4 hM0, gR_9_5 hM0, gR_9_6 hM0, gR_9_7 hM0, gI_9_8 hM0, gP_9_8 hM0, gI_9_9 hM0, gP_9_9 hM0, gI_9_10 hM0, gP_9_10 hM0, gI_9_11 hM0, gP_9_11 hM0, gI_9_12 hM0, gP_9_12 hM0, gI_9_13 hM0, gP_9_13 hM0, gI_9_14 hM0, gP_9_14 hM0, gI_9_15 hM0, gP_9_15 hM0, gI_9_16 hM0, gP_9_16 hM0, gR_9_17 hM0, gR_9_18 hM0, gR_9_19 hM0, gR_9_20 hM0, gI_9_21 hM0, gP_9_21 hM0, gI_9_22 hM0, gP_9_22 hM0, gI_9_23 hM0, gP_9_23 hM0, gI_9_24 hM0, gP_9_24 hM0, gR_9_25 hM0, gI_9_26 hM0, gP_9_26 hM0, gI_9_27 hM0, gP_9_27 hM0, gI_9_28 hM0, gP_9_28 hM0, gL_9_29 hM0, gP_9_29 hM0, gL_9_30 hM0, gP_9_30 hM0, aI_w hM2, hr0, pk_sub, cI_s, cL_s, cF_s, cD_s, cA_s, cV_s, nI_add, cond_true, cond_false, if_true, if_false]
          rw [m1]
          simp (disch := omega) only [iEQ_f, QX11_readsScratch_18, gO_9 hM0, gI_9_0 hM0, gP_9_0 hM0, gR_9_1 hM0, gR_9_2 hM0, gI_9_3 hM0, gP_9_3 hM0, gI_9_4 hM0, gP_9_4 hM0, gR_9_5 hM0, gR_9_6 hM0, gR_9_7 hM0, gI_9_8 hM0, gP_9_8 hM0, gI_9_9 hM0, gP_9_9 hM0, gI_9_10 hM0, gP_9_10 hM0, gI_9_11 hM0, gP_9_11 hM0, gI_9_12 hM0, gP_9_12 hM0, gI_9_13 hM0, gP_9_13 hM0, gI_9_14 hM0, gP_9_14 hM0, gI_9_15 hM0, gP_9_15 hM0, gI_9_16 hM0, gP_9_16 hM0, gR_9_17 hM0, gR_9_18 hM0, gR_9_19 hM0, gR_9_20 hM0, gI_9_21 hM0, gP_9_21 hM0, gI_9_22 hM0, gP_9_22 hM0, gI_9_23 hM0, gP_9_23 hM0, gI_9_24 hM0, gP_9_24 hM0, gR_9_25 hM0, gI_9_26 hM0, gP_9_26 hM0, gI_9_27 hM0, gP_9_27 hM0, gI_9_28 hM0, gP_9_28 hM0, gL_9_29 hM0, gP_9_29 hM0, gL_9_30 hM0, gP_9_30 hM0, m13, aI_w hM2, RR1, hb0, iEQ_f, QX11_readsScratch_45, sI_w hM2, t_here (mQ_A K1 (show (2 : Nat) ≠ 5 by omega)), t_digit hL ht, cI_s, cL_s, cF_s, cD_s, cA_s, cV_s, nI_add, cond_true, cond_false, if_true, if_false]
          by_cases e2 : tk tx L (ad tx L p) = 1
          · rw [if_pos e2, if_pos e2, iEQ_f (by omega) (by omega) (by omega)]
          · rw [if_neg e2, if_neg e2, iEQ_t rfl, xret5_1]
        · exact rd_sA (M := M1) (rd_up (v := 1) RR1)
        · exact ((frR_P (M := sA M1 2 (upd (M1.2.1 2) (28 + nu tx L p) (nI 1))) (p := ad tx L p)).1 16 (by omega)).trans ((fm.1 16 (by omega)).trans h16)
        · rw [updN_n (by omega)]; exact h5
    · have hr2 : ¬ (0 ≤ nu tx L p ∧ nu tx L p ≤ g 0 - 1) := fun z => hr z.2
      have hnl := nu_lt (tx := tx) (L := L) (p := p)
      obtain ⟨S1, s1, s2, s3⟩ := c_num_r (E := E) (x := x) (n := n) (lo := 0) (hi := g 0 - 1) h3 H Q (by omega) (by omega) e1 hr2 (d + 1)
      obtain ⟨M1, m1, m2, fm⟩ := t_reads_r (E := E) (x := y) (n := m) (lo := 0) (hi := g 0 - 1) K (by omega) (by omega) e1 hr2 (u + 4)
      refine Or.inr ⟨S1, M1, ?_, ?_, xF_of s2 m2, frD_I s3, frG_R fm⟩
      · simp (disch := omega) only [gO_3 a3, gR_3_0 a3, gI_3_1 a3, gP_3_1 a3, gI_3_2 a3, gP_3_2 a3, gR_3_3 a3, gR_3_4 a3, gR_3_5 a3, gI_3_6 a3, gP_3_6 a3, gI_3_7 a3, gP_3_7 a3, gI_3_8 a3, gP_3_8 a3, gI_3_9 a3, gP_3_9 a3, c_is_t h3 H Q _ e1, iEQ_f, c_number h3 Q, gO_5 b1, gI_5_0 b1, gP_5_0 b1, gI_5_1 b1, gP_5_1 b1, gI_5_2 b1, gP_5_2 b1, gR_5_3 b1, gR_5_4 b1, cI_s, cL_s, cF_s, cD_s, cA_s, cV_s, nI_add, cond_true, cond_false, if_true, if_false]
        rw [s5_isScratched_f b1 r0 (Or.inr (nI_le (by omega) (by omega)))]
        simp (disch := omega) only [iEQ_t, QX7_readScratch_28, gO_3 a3, gR_3_0 a3, gI_3_1 a3, gP_3_1 a3, gI_3_2 a3, gP_3_2 a3, gR_3_3 a3, gR_3_4 a3, gR_3_5 a3, gI_3_6 a3, gP_3_6 a3, gI_3_7 a3, gP_3_7 a3, gI_3_8 a3, gP_3_8 a3, gI_3_9 a3, gP_3_9 a3, gO_5 b1, gI_5_0 b1, gP_5_0 b1, gI_5_1 b1, gP_5_1 b1, gI_5_2 b1, gP_5_2 b1, gR_5_3 b1, gR_5_4 b1, r0, pk_sub, cI_s, cL_s, cF_s, cD_s, cA_s, cV_s, nI_add, cond_true, cond_false, if_true, if_false]
        rw [s1]
        simp (disch := omega) only [if_neg (show ¬ nI 0 ≤ (-1 : Int32) by decide), xret5_0, cI_s, cL_s, cF_s, cD_s, cA_s, cV_s, nI_add, cond_true, cond_false, if_true, if_false]
      · simp (disch := omega) only [gO_9 hM0, gI_9_0 hM0, gP_9_0 hM0, gR_9_1 hM0, gR_9_2 hM0, gI_9_3 hM0, gP_9_3 hM0, gI_9_4 hM0, gP_9_4 hM0, gR_9_5 hM0, gR_9_6 hM0, gR_9_7 hM0, gI_9_8 hM0, gP_9_8 hM0, gI_9_9 hM0, gP_9_9 hM0, gI_9_10 hM0, gP_9_10 hM0, gI_9_11 hM0, gP_9_11 hM0, gI_9_12 hM0, gP_9_12 hM0, gI_9_13 hM0, gP_9_13 hM0, gI_9_14 hM0, gP_9_14 hM0, gI_9_15 hM0, gP_9_15 hM0, gI_9_16 hM0, gP_9_16 hM0, gR_9_17 hM0, gR_9_18 hM0, gR_9_19 hM0, gR_9_20 hM0, gI_9_21 hM0, gP_9_21 hM0, gI_9_22 hM0, gP_9_22 hM0, gI_9_23 hM0, gP_9_23 hM0, gI_9_24 hM0, gP_9_24 hM0, gR_9_25 hM0, gI_9_26 hM0, gP_9_26 hM0, gI_9_27 hM0, gP_9_27 hM0, gI_9_28 hM0, gP_9_28 hM0, gL_9_29 hM0, gP_9_29 hM0, gL_9_30 hM0, gP_9_30 hM0, aI_w hM2, hr0, pk_sub, cI_s, cL_s, cF_s, cD_s, cA_s, cV_s, nI_add, cond_true, cond_false, if_true, if_false]
        rw [m1]
        simp (disch := omega) only [iEQ_t, xret5_0, cI_s, cL_s, cF_s, cD_s, cA_s, cV_s, nI_add, cond_true, cond_false, if_true, if_false]
  · obtain ⟨S1, s1, s2, s3⟩ := c_num_s (E := E) (x := x) (n := n) h3 H Q 0 (g 0 - 1) e1 (d + 1)
    obtain ⟨M1, m1, m2, fm⟩ := t_reads_s (E := E) (x := y) (n := m) K (nI 0) (nI (g 0 - 1)) e1 (u + 4)
    refine Or.inr ⟨S1, M1, ?_, ?_, xF_of s2 m2, frD_I s3, frG_R fm⟩
    · simp (disch := omega) only [gO_3 a3, gR_3_0 a3, gI_3_1 a3, gP_3_1 a3, gI_3_2 a3, gP_3_2 a3, gR_3_3 a3, gR_3_4 a3, gR_3_5 a3, gI_3_6 a3, gP_3_6 a3, gI_3_7 a3, gP_3_7 a3, gI_3_8 a3, gP_3_8 a3, gI_3_9 a3, gP_3_9 a3, c_is_f h3 H Q _ e1, iEQ_t, QX7_readScratch_28, gO_5 b1, gI_5_0 b1, gP_5_0 b1, gI_5_1 b1, gP_5_1 b1, gI_5_2 b1, gP_5_2 b1, gR_5_3 b1, gR_5_4 b1, r0, pk_sub, cI_s, cL_s, cF_s, cD_s, cA_s, cV_s, nI_add, cond_true, cond_false, if_true, if_false]
      rw [s1]
      simp (disch := omega) only [if_neg (show ¬ nI 0 ≤ (-1 : Int32) by decide), xret5_0, cI_s, cL_s, cF_s, cD_s, cA_s, cV_s, nI_add, cond_true, cond_false, if_true, if_false]
    · simp (disch := omega) only [gO_9 hM0, gI_9_0 hM0, gP_9_0 hM0, gR_9_1 hM0, gR_9_2 hM0, gI_9_3 hM0, gP_9_3 hM0, gI_9_4 hM0, gP_9_4 hM0, gR_9_5 hM0, gR_9_6 hM0, gR_9_7 hM0, gI_9_8 hM0, gP_9_8 hM0, gI_9_9 hM0, gP_9_9 hM0, gI_9_10 hM0, gP_9_10 hM0, gI_9_11 hM0, gP_9_11 hM0, gI_9_12 hM0, gP_9_12 hM0, gI_9_13 hM0, gP_9_13 hM0, gI_9_14 hM0, gP_9_14 hM0, gI_9_15 hM0, gP_9_15 hM0, gI_9_16 hM0, gP_9_16 hM0, gR_9_17 hM0, gR_9_18 hM0, gR_9_19 hM0, gR_9_20 hM0, gI_9_21 hM0, gP_9_21 hM0, gI_9_22 hM0, gP_9_22 hM0, gI_9_23 hM0, gP_9_23 hM0, gI_9_24 hM0, gP_9_24 hM0, gR_9_25 hM0, gI_9_26 hM0, gP_9_26 hM0, gI_9_27 hM0, gP_9_27 hM0, gI_9_28 hM0, gP_9_28 hM0, gL_9_29 hM0, gP_9_29 hM0, gL_9_30 hM0, gP_9_30 hM0, aI_w hM2, hr0, pk_sub, cI_s, cL_s, cF_s, cD_s, cA_s, cV_s, nI_add, cond_true, cond_false, if_true, if_false]
      rw [m1]
      simp (disch := omega) only [iEQ_t, xret5_0, cI_s, cL_s, cF_s, cD_s, cA_s, cV_s, nI_add, cond_true, cond_false, if_true, if_false]
theorem j_scrl (h3 : hI sh 1) (hG14 : hG sh 14) (H : hEn E x) (d u : Nat) :
    ∀ k i S M g p, L ≤ p + k → i ≤ p → RS S M tx L g p sb → oS E x y n m sh tx L S M p sb (qX7_readScratches_16 E (d + 4) (x + 1) (x + (14 + 1)) (nI i) (wW E x sh S, n)) (if tk tx L p = 1 then qX11_readsScratch_0 E (u + 6) y (wW E y shM M, m) else some (.inl (some (.int (nI 1))), (wW E y shM M, m))) := by
  have a3 := h3.1
  have hstop : ∀ i S M g p, i ≤ p → RS S M tx L g p sb → tk tx L p ≠ 1 → oS E x y n m sh tx L S M p sb (qX7_readScratches_16 E (d + 4) (x + 1) (x + (14 + 1)) (nI i) (wW E x sh S, n)) (if tk tx L p = 1 then qX11_readsScratch_0 E (u + 6) y (wW E y shM M, m) else some (.inl (some (.int (nI 1))), (wW E y shM M, m))) := by
    intro i S M g p hi R e
    refine Or.inl ⟨S, M, g, p, ?_, if_neg e, R, Nat.le_refl _, frD_rf, frG_rf⟩
    have := (mQ_le R.2.1).1
    have := (mQ_le R.2.1).2.1
    rw [QX7_readScratches_16]
    by_cases c : i < 500
    · simp (disch := omega) only [iLE_f, gO_3 a3, gR_3_0 a3, gI_3_1 a3, gP_3_1 a3, gI_3_2 a3, gP_3_2 a3, gR_3_3 a3, gR_3_4 a3, gR_3_5 a3, gI_3_6 a3, gP_3_6 a3, gI_3_7 a3, gP_3_7 a3, gI_3_8 a3, gP_3_8 a3, gI_3_9 a3, gP_3_9 a3, c_is_f h3 H R.1 _ e, iEQ_t, QX7_readScratches_49, xret5_1, cI_s, cL_s, cF_s, cD_s, cA_s, cV_s, nI_add, cond_true, cond_false, if_true, if_false]
    · simp (disch := omega) only [iLE_t, QX7_readScratches_49, xret5_1, cI_s, cL_s, cF_s, cD_s, cA_s, cV_s, nI_add, cond_true, cond_false, if_true, if_false]
  intro k
  induction k with
  | zero =>
    intro i S M g p hk hi R
    have hL := (mQ_le R.2.1).2.1
    have := (tk_0 hL (tx := tx) (p := p)).2 (by omega)
    exact hstop i S M g p hi R (by omega)
  | succ k ih =>
    intro i S M g p hk hi R
    by_cases e : tk tx L p = 1
    · have hL := (mQ_le R.2.1).2.1
      have hp := ((tk_1 hL).1 e).1
      rw [if_pos e, QX7_readScratches_16]
      rcases j_scr1 (y := y) (n := n) (m := m) h3 hG14 H R d u with ⟨S', M', g', p', k1, k2, k3, k4, k5, k6⟩ | ⟨S', M', k1, k2, k3, k4, k5⟩
      · rw [k2]
        have ih := oS_fr k5 k6 (Nat.le_of_lt k4) (ih (i + 1) S' M' g' p' (by omega) (by omega) k3)
        have ec : (if nI 500 ≤ nI i then qX7_readScratches_49 E (d + 4) (wW E x sh S, n) else gO E (wW E x sh S, n) 3 (x + 1) (cI (xthr 1 some) (xsem xT E (d + 4) kX3_is [.ref (x + 1), .ref (E.1 1)] (wW E x sh S, n)) (fun v1 σ1 => if v1 = nI 0 then qX7_readScratches_49 E (d + 4) σ1 else cI (xthr 0 some) (xsem xT E (d + 4) kX7_readScratch [.ref (x + 1), .ref (x + (14 + 1))] σ1) (fun v2 σ2 => if v2 = nI 0 then xiret [5] (nI 0) (some (.inl (some (.int (nI 0))), σ2)) else qX7_readScratches_43 E (d + 4) (x + 1) (x + (14 + 1)) (nI i) σ2)))) = qX7_readScratches_16 E (d + 4) (x + 1) (x + (14 + 1)) (nI (i + 1)) (wW E x sh S', n) := by
          simp (disch := omega) only [iLE_f, gO_3 a3, gR_3_0 a3, gI_3_1 a3, gP_3_1 a3, gI_3_2 a3, gP_3_2 a3, gR_3_3 a3, gR_3_4 a3, gR_3_5 a3, gI_3_6 a3, gP_3_6 a3, gI_3_7 a3, gP_3_7 a3, gI_3_8 a3, gP_3_8 a3, gI_3_9 a3, gP_3_9 a3, c_is_t h3 H R.1 _ e, iEQ_f, k1, QX7_readScratches_43, cI_s, cL_s, cF_s, cD_s, cA_s, cV_s, nI_add, cond_true, cond_false, if_true, if_false]
        rw [ec]
        exact ih
      · refine Or.inr ⟨S', M', ?_, k2, k3, k4, k5⟩
        simp (disch := omega) only [iLE_f, gO_3 a3, gR_3_0 a3, gI_3_1 a3, gP_3_1 a3, gI_3_2 a3, gP_3_2 a3, gR_3_3 a3, gR_3_4 a3, gR_3_5 a3, gI_3_6 a3, gP_3_6 a3, gI_3_7 a3, gP_3_7 a3, gI_3_8 a3, gP_3_8 a3, gI_3_9 a3, gP_3_9 a3, c_is_t h3 H R.1 _ e, iEQ_f, k1, iEQ_t, xret5_0, cI_s, cL_s, cF_s, cD_s, cA_s, cV_s, nI_add, cond_true, cond_false, if_true, if_false]
    · exact hstop i S M g p hi R e
theorem j_scratches (h3 : hI sh 1) (hG14 : hG sh 14) (H : hEn E x) {M1 : xSt} (R : RS S M tx L g p sb) (K1 : mQ M1 tx L (ad tx L p)) (f1 : frR M M1) (d u : Nat) :
    oS E x y n m sh tx L S M p sb (xsem xT E (d + 5) kX7_readScratches [.ref (x + 1), .ref (x + (14 + 1))] (wW E x sh S, n)) (xsem xT E (u + 7) kX11_readsScratch [.ref y] (wW E y shM M1, m)) := by
  have a3 := h3.1
  have hL := (mQ_le R.2.1).2.1
  have hpa : p ≤ ad tx L p := by
    by_cases c : p < L
    · exact Nat.le_of_lt (ad_gt hL c)
    · unfold ad; rw [if_neg c]; exact Nat.le_refl _
  obtain ⟨S1, s1, s2, s3⟩ := c_advance (E := E) (x := x) (n := n) h3 R.1 (d + 3)
  have R1 := RS_I R s3 f1 s2 K1
  rw [eX7_readScratches, QX7_readScratches_0, eX11_readsScratch]
  rcases j_scr1 (y := y) (n := n) (m := m) h3 hG14 H R1 d u with ⟨S', M', g', p', k1, k2, k3, k4, k5, k6⟩ | ⟨S', M', k1, k2, k3, k4, k5⟩
  · have hl := j_scrl (y := y) (n := n) (m := m) h3 hG14 H d u 500 0 S' M' g' p' (by omega) (by omega) k3
    have hfin := oS_fr (frD_tr (frD_I s3) k5) (frG_tr (frG_R f1) k6) (show p ≤ p' by omega) hl
    rw [k2]
    have ec : gO E (wW E x sh S, n) 3 (x + 1) (cV (xthr 1 some) (xsem xT E (d + 4) kX3_advance [.ref (x + 1)] (wW E x sh S, n)) (fun σ1 => cI (xthr 0 some) (xsem xT E (d + 4) kX7_readScratch [.ref (x + 1), .ref (x + (14 + 1))] σ1) (fun v1 σ2 => if v1 = nI 0 then xiret [5] (nI 0) (some (.inl (some (.int (nI 0))), σ2)) else qX7_readScratches_14 E (d + 4) (x + 1) (x + (14 + 1)) σ2))) = qX7_readScratches_16 E (d + 4) (x + 1) (x + (14 + 1)) (nI 0) (wW E x sh S', n) := by
      simp (disch := omega) only [gO_3 a3, gR_3_0 a3, gI_3_1 a3, gP_3_1 a3, gI_3_2 a3, gP_3_2 a3, gR_3_3 a3, gR_3_4 a3, gR_3_5 a3, gI_3_6 a3, gP_3_6 a3, gI_3_7 a3, gP_3_7 a3, gI_3_8 a3, gP_3_8 a3, gI_3_9 a3, gP_3_9 a3, s1, k1, iEQ_f, QX7_readScratches_14, cI_s, cL_s, cF_s, cD_s, cA_s, cV_s, nI_add, cond_true, cond_false, if_true, if_false]
    rw [ec]
    exact hfin
  · refine Or.inr ⟨S', M', ?_, k2, k3, frD_tr (frD_I s3) k4, frG_tr (frG_R f1) k5⟩
    simp (disch := omega) only [gO_3 a3, gR_3_0 a3, gI_3_1 a3, gP_3_1 a3, gI_3_2 a3, gP_3_2 a3, gR_3_3 a3, gR_3_4 a3, gR_3_5 a3, gI_3_6 a3, gP_3_6 a3, gI_3_7 a3, gP_3_7 a3, gI_3_8 a3, gP_3_8 a3, gI_3_9 a3, gP_3_9 a3, s1, k1, iEQ_t, xret5_0, cI_s, cL_s, cF_s, cD_s, cA_s, cV_s, nI_add, cond_true, cond_false, if_true, if_false]
end ST2
