/-! LOAD AND APPEND. -/
def wl (t : Nat) : List Nat := if t = 10 then [115, 104, 101, 108, 108, 115] else if t = 14 then [98, 97, 108, 108] else if t = 15 then [115, 99, 114, 97, 116, 99, 104] else if t = 16 then [116, 114, 117, 115, 116] else if t = 17 then [99, 97, 108, 109] else if t = 18 then [115, 108, 121] else [98, 108, 105, 110, 107]
def isK (t : Nat) : Prop := t = 10 ∨ t = 14 ∨ t = 15 ∨ t = 16 ∨ t = 17 ∨ t = 18 ∨ t = 20
theorem wl_x {t : Nat} (h : isK t) : (wl t).map nI = xtx (xtt t) ∧ wl t ≠ [] ∧ (∀ c ∈ wl t, kd c = 2 ∧ c < 128) ∧ t < 29 ∧ 3 ≤ t := by
  rcases h with h | h | h | h | h | h | h <;> subst h <;> refine ⟨by decide +kernel, by decide, by decide, by omega, by omega⟩
/-- a statement's letters -/
def stx (s : Nat × Nat) : List Nat := if s.1 = 20 then wl s.1 ++ 32 :: (dg s.2 ++ 32 :: (dg s.2 ++ [59])) else wl s.1 ++ 32 :: (dg s.2 ++ [59])
def stL : List (Nat × Nat) → List Nat
  | [] => []
  | s :: l => stx s ++ stL l
def stp (g : Nat → Nat) (s : Nat × Nat) : Nat → Nat := if s.1 = 15 then updN g (28 + s.2) 1 else if s.1 = 20 then gBk g s.2 s.2 else updN g (sTo s.1) s.2
def sts (g : Nat → Nat) : List (Nat × Nat) → Nat → Nat
  | [] => g
  | s :: l => sts (stp g s) l
def stk (g : Nat → Nat) (sb : Nat) (s : Nat × Nat) : Prop := s.2 < 100 ∧ ((s.1 = 15 ∧ s.2 < g 0 ∧ g (28 + s.2) = 0) ∨ (s.1 = 20 ∧ g 10 < 8) ∨ (isSt s.1 ∧ s.1 ≠ 19 ∧ sb.testBit (sW s.1) = false ∧ sLo s.1 ≤ s.2 ∧ s.2 ≤ sHi g s.1))
def stOk (g : Nat → Nat) (sb : Nat) : List (Nat × Nat) → Prop
  | [] => True
  | s :: l => stk g sb s ∧ stOk (stp g s) (sb ||| sBit s.1) l
theorem stk_K {g : Nat → Nat} {sb : Nat} {s : Nat × Nat} (h : stk g sb s) : isK s.1 := by
  unfold isK
  rcases h.2 with h | h | ⟨h, h2, _⟩
  · omega
  · omega
  · unfold isSt at h
    omega
theorem wl_hd {t : Nat} (h : isK t) {u : List Nat} : hd 0 (wl t ++ u) := by
  obtain ⟨-, h0, hk, -⟩ := wl_x h
  obtain ⟨c, r, e⟩ := List.exists_cons_of_ne_nil h0
  rw [e] at hk ⊢
  refine Or.inr ?_
  show kd c ≠ 0
  have := (hk c List.mem_cons_self).1
  omega
theorem stL_hd {g : Nat → Nat} {sb : Nat} {l : List (Nat × Nat)} (h : stOk g sb l) : hd 0 (stL l) := by
  cases l with
  | nil => exact Or.inl rfl
  | cons s l =>
    show hd 0 (stx s ++ stL l)
    unfold stx
    split
    · rw [List.append_assoc]; exact wl_hd (stk_K h.1)
    · rw [List.append_assoc]; exact wl_hd (stk_K h.1)
section LDP
variable {E : xEn} {z : Nat → Option va_E} {x n : Nat} {sh : Nat → Option xSh} {L : Nat} {tx : Nat → Nat}
theorem u_one (h3 : hI sh 1) (hG14 : hG sh 14) (H : hEn E z x) (hL : L ≤ 500) (ht : ∀ i, i < L → tx i < 256) {S : xSt} {p sb i : Nat} {g : Nat → Nat} {s : Nat × Nat} {u : List Nat} (R : PS S tx L p g) (hs : sb < 64) (hi : i < 500) (k : stk g sb s) (hu : hd 0 u) (X : sfx tx L p (stx s ++ u)) (d : Nat) :
    ∃ S' p', qX7_read_46 E (d + 6) (x + 1) (x + 14) (nI sb) (nI i) (wW E z x sh S, n) = qX7_read_46 E (d + 6) (x + 1) (x + 14) (nI (sb ||| sBit s.1)) (nI (i + 1)) (wW E z x sh S', n) ∧ PS S' tx L p' (stp g s) ∧ sfx tx L p' u ∧ frD S S' ∧ (sb ||| sBit s.1) < 64 := by
  obtain ⟨w1, w2, w3, w4, w5⟩ := wl_x (stk_K k)
  obtain ⟨t, v⟩ := s
  obtain ⟨hv, k⟩ := k
  have Q := R.1
  dsimp only at *
  by_cases e20 : t = 20
  · have X' : sfx tx L p (wl t ++ 32 :: (dg v ++ 32 :: (dg v ++ 59 :: u))) := by
      have := X
      unfold stx at this
      dsimp only at this
      rw [if_pos e20] at this
      simpa [List.append_assoc] using this
    obtain ⟨a1, a2, a3, a4, a5, a6, a7⟩ := sfx_wnns hL ht w4 w5 w1 w2 w3 hv hv X' hu
    have h10 : g 10 < 8 := by
      rcases k with k | k | k
      · omega
      · exact k.2
      · have := k.1
        unfold isSt at this
        omega
    obtain ⟨S1, b1, R1, f1⟩ := u_blink (E := E) (z := z) (x := x) (n := n) h3 hG14 H R h10 a2 a4 a3 a5 (Nat.le_refl _) (by omega) (d + 1)
    have hst := u_stmt20 h3 hG14 H Q (a1.trans e20) b1
    obtain ⟨S2, c1, Q2, f2, hs2⟩ := u_step (E := E) (z := z) (x := x) (n := n) (sb := sb) h3 H Q (i := i) hi hs (by omega) (fun z => absurd z (by rw [a1, e20]; unfold isSb isSt; omega)) hst R1.1 a6
    rw [a1] at c1 hs2
    refine ⟨S2, _, c1, ⟨Q2, pG_fr (frm_I f2) (by omega) ?_, ?_⟩, a7, frD_tr f1 (frD_I f2), hs2⟩
    · unfold stp
      rw [if_neg (show ¬ t = 15 by omega), if_pos e20]
      exact R1.2.1
    · unfold stp
      rw [if_neg (show ¬ t = 15 by omega), if_pos e20]
      exact R1.2.2
  · have X' : sfx tx L p (wl t ++ 32 :: (dg v ++ 59 :: u)) := by
      have := X
      unfold stx at this
      dsimp only at this
      rw [if_neg e20] at this
      simpa [List.append_assoc] using this
    obtain ⟨a1, a2, a3, a4, a5⟩ := sfx_wns hL ht w4 w5 w1 w2 w3 hv X' hu
    by_cases e15 : t = 15
    · obtain ⟨k1, k2⟩ : v < g 0 ∧ g (28 + v) = 0 := by
        rcases k with k | k | k
        · exact k.2
        · omega
        · have := k.1
          unfold isSt at this
          omega
      obtain ⟨S1, b1, R1, f1⟩ := u_scratches (E := E) (z := z) (x := x) (n := n) h3 hG14 H R a2 (by rw [a3]; exact k1) (by rw [a3]; exact k2) (by omega) d
      have hst := u_stmt15 h3 hG14 H Q (a1.trans e15) b1
      obtain ⟨S2, c1, Q2, f2, hs2⟩ := u_step (E := E) (z := z) (x := x) (n := n) (sb := sb) h3 H Q (i := i) hi hs (by omega) (fun z => absurd z (by rw [a1, e15]; unfold isSb isSt; omega)) hst R1.1 a4
      rw [a1] at c1 hs2
      rw [a3] at R1
      refine ⟨S2, _, c1, ⟨Q2, pG_fr (frm_I f2) (by omega) ?_, ?_⟩, a5, frD_tr f1 (frD_I f2), hs2⟩
      · unfold stp
        rw [if_pos e15]
        exact R1.2.1
      · unfold stp
        rw [if_pos e15]
        exact R1.2.2
    · obtain ⟨k1, k2, k3, k4, k5⟩ : isSt t ∧ t ≠ 19 ∧ sb.testBit (sW t) = false ∧ sLo t ≤ v ∧ v ≤ sHi g t := by
        rcases k with k | k | k
        · omega
        · omega
        · exact k
      obtain ⟨S1, b1, R1, f1⟩ := u_set (E := E) (z := z) (x := x) (n := n) h3 hG14 H R (by rw [a1]; exact k1) a2 (by rw [a1, a3]; exact k4) (by rw [a1, a3]; exact k5) (d + 1)
      have hst := u_stmtS h3 H Q (by rw [a1]; exact k1) b1
      obtain ⟨S2, c1, Q2, f2, hs2⟩ := u_step (E := E) (z := z) (x := x) (n := n) (sb := sb) h3 H Q (i := i) hi hs (by omega) (fun _ => by rw [a1]; exact k3) hst R1.1 a4
      rw [a1] at c1 hs2
      rw [a1, a3] at R1
      refine ⟨S2, _, c1, ⟨Q2, pG_fr (frm_I f2) (by omega) ?_, ?_⟩, a5, frD_tr f1 (frD_I f2), hs2⟩
      · unfold stp
        rw [if_neg e15, if_neg e20]
        exact R1.2.1
      · unfold stp
        rw [if_neg e15, if_neg e20]
        exact R1.2.2
theorem u_run (h3 : hI sh 1) (hG14 : hG sh 14) (H : hEn E z x) (hL : L ≤ 500) (ht : ∀ i, i < L → tx i < 256) (d : Nat) :
    ∀ (l : List (Nat × Nat)) (S : xSt) (p sb i : Nat) (g : Nat → Nat), PS S tx L p g → sb < 64 → i + l.length < 500 → stOk g sb l → sfx tx L p (stL l) → ∃ S', qX7_read_46 E (d + 6) (x + 1) (x + 14) (nI sb) (nI i) (wW E z x sh S, n) = some (.inl (some (.int (nI 1))), (wW E z x sh S', n)) ∧ pG S' 14 (fin (sts g l)) ∧ iU (sts g l) ∧ frD S S' := by
  intro l
  induction l with
  | nil =>
    intro S p sb i g R hs hi _ X
    exact ⟨S, u_end h3 H R.1 (sfx_end (u := []) hL X) (by omega) _ d, R.2.1, R.2.2, frD_rf⟩
  | cons s l ih =>
    intro S p sb i g R hs hi k X
    rw [List.length_cons] at hi
    obtain ⟨S1, p1, e1, R1, X1, f1, hs1⟩ := u_one (E := E) (z := z) (x := x) (n := n) (u := stL l) h3 hG14 H hL ht R hs (i := i) (by omega) k.1 (stL_hd k.2) X d
    obtain ⟨S2, e2, P2, I2, f2⟩ := ih S1 p1 _ (i + 1) _ R1 hs1 (by omega) k.2 X1
    exact ⟨S2, e1.trans e2, P2, I2, frD_tr f1 f2⟩
/-- load, where the text is a setup of s shells with statements l -/
theorem k_load (hc : hC sh) (H : hEn E z x) {S : xSt} {g0 : Nat → Nat} {w un len s : Nat} {l : List (Nat × Nat)} (C : CG S g0 w un) (R : RI S tx len) (hk : L ≤ len) (h2 : 2 ≤ s) (h8 : s ≤ 8) (hl : l.length < 400) (k : stOk (gNew s) 0 l) (X : sfx tx L 0 (wl 10 ++ 32 :: (dg s ++ 59 :: stL l))) (d : Nat) :
    ∃ S' w' un', xsem xT E (d + 10) kX10_load [.ref x, .int (nI L)] (wW E z x sh S, n) = some (.inl (some (.int (nI s))), (wW E z x sh S', n)) ∧ CG S' (fin (sts (gNew s) l)) w' un' := by
  obtain ⟨c5, c6, hw, hun, P, I, F⟩ := C
  have hw' : (w + 1) % 9 < 9 := Nat.mod_lt _ (by omega)
  have b0 := hc.1
  have a0 : sh 1 = some (sh3 1) := hc.2.1.1
  have hG14 : hG sh 14 := hc.2.2.2.2.1
  have hG' := hc.2.2.2.2.2.2 _ hw'
  have b2' := hG'.1
  have b14 : sh 14 = some (sh2 14) := hG14.1
  have b15 : sh 15 = some (sh5 15) := hG14.2.1
  have hlen := R.2.1
  have hL : L ≤ 500 := by omega
  have ht : ∀ i, i < L → tx i < 256 := fun i hi => (R.2.2 i (by omega)).2
  obtain ⟨S1, s1, Q1, z1, f1⟩ := c_begin (E := E) (z := z) (x := x) (n := n) hc H R (L := L) hk (d + 1)
  have hnx : nx tx L 0 = 0 := sfx_nx0 X (wl_hd (Or.inl rfl))
  rw [hnx] at Q1
  obtain ⟨v1, v2, v3, v4, v5⟩ := sfx_wns hL ht (show 10 < 29 by omega) (by omega) (wl_x (Or.inl rfl)).1 (wl_x (Or.inl rfl)).2.1 (wl_x (Or.inl rfl)).2.2.1 (show s < 100 by omega) X (stL_hd k)
  obtain ⟨S2, e2, R2, f2⟩ := u_head (E := E) (z := z) (x := x) (n := n) hc.2.1 hG14 H Q1 v1 v2 v3 h2 h8 v4 (d + 2)
  obtain ⟨S3, e3, P3, I3, f3⟩ := u_run (E := E) (z := z) (x := x) (n := n) hc.2.1 hG14 H hL ht (d + 2) l S2 _ 0 0 _ R2 (by omega) (by omega) k v5
  obtain ⟨IG, IF, -⟩ := iU_fin I3
  have fd := frD_tr f2 f3
  have eqq : ∀ j, 27 ≤ j → eqQ S S3 j := fun j a => ⟨(fd.1 j (by omega) (by omega)).trans (f1.1 j (by omega)), (fd.2.2.1 j (by omega) (by omega)).trans (f1.2.1 j (by omega) (by omega))⟩
  have c53 : S3.1 0 5 = nI w := (congrFun (fd.1 0 (by omega) (by omega)) 5).trans ((congrFun (f1.1 0 (by omega)) 5).trans c5)
  have c63 : S3.1 0 6 = nI un := (congrFun (fd.1 0 (by omega) (by omega)) 6).trans ((congrFun (f1.1 0 (by omega)) 6).trans c6)
  have P3' : pG S3 (27 + 12 * w) g0 := pG_eq (fun j a b => eqq j (by omega)) P
  obtain ⟨S4, h1, h2', h3, h4, h5, h6⟩ := c_change (E := E) (z := z) (x := x) (n := n) hc c53 c63 hw hun P3' I F (d + 6)
  have PG4 : pG S4 14 (fin (sts (gNew s) l)) := pG_eq (fun j a b => h5 j (by omega) (by omega)) P3
  obtain ⟨S5, k1, k2, k3⟩ := s2_copyFrom (E := E) (z := z) (x := x) (n := n) hG' hG14 (by omega) PG4 IG.1.2.1 IG.1.2.2.2.2.2.2.2.2.2 IF.1 (d + 7)
  have PG5 : pG S5 14 (fin (sts (gNew s) l)) := pG_eq (fun j a b => k2.1 j (by omega)) PG4
  have hs0 : fin (sts (gNew s) l) 0 = s := by
    rw [fin_o (by omega)]
    have hg : ∀ (l : List (Nat × Nat)) (g : Nat → Nat) (sb : Nat), stOk g sb l → g 0 ≤ 8 → sts g l 0 = g 0 := by
      intro l
      induction l with
      | nil => exact fun _ _ _ _ => rfl
      | cons a l ih =>
        intro g sb k hg8
        have h0 : stp g a 0 = g 0 := by
          unfold stp
          split
          · exact updN_n (by omega)
          · split
            · unfold gBk
              rw [updN_n (by omega), updN_n (by omega), updN_n (by omega)]
            · next c15 c20 =>
              rcases k.1.2 with q | q | q
              · omega
              · omega
              · refine updN_n ?_
                rcases q.1 with e | e | e | e | e <;> rw [e] <;> decide
        exact (ih _ _ k.2 (by rw [h0]; exact hg8)).trans h0
    exact hg l _ 0 k h8
  refine ⟨S5, _, _, ?_, CG_st h2' h3 k2 (by omega) k3 IG IF⟩
  have hread : xsem xT E (d + 9) kX7_read [.ref (x + 1), .ref (x + 14)] (wW E z x sh S1, n) = some (.inl (some (.int (nI 1))), (wW E z x sh S3, n)) := e2.trans e3
  rw [eX10_load, QX10_load_0]
  simp (disch := omega) only [ble_t, Bool.and_self, gO_8 b0, gR_8_0 b0, gR_8_1 b0, gR_8_2 b0, gR_8_3 b0, gR_8_4 b0, gI_8_5 b0, gP_8_5 b0, gI_8_6 b0, gP_8_6 b0, cI_s, cL_s, cF_s, cD_s, cA_s, cV_s, nI_add, cond_true, cond_false, if_true, if_false]
  rw [c_len_t hc R.1 hk hlen]
  simp (disch := omega) only [ble_t, Bool.and_self, gO_8 b0, gR_8_0 b0, gR_8_1 b0, gR_8_2 b0, gR_8_3 b0, gR_8_4 b0, gI_8_5 b0, gP_8_5 b0, gI_8_6 b0, gP_8_6 b0, gO_3 a0, gR_3_0 a0, gI_3_1 a0, gP_3_1 a0, gI_3_2 a0, gP_3_2 a0, gR_3_3 a0, gR_3_4 a0, gR_3_5 a0, gI_3_6 a0, gP_3_6 a0, gI_3_7 a0, gP_3_7 a0, gI_3_8 a0, gP_3_8 a0, gI_3_9 a0, gP_3_9 a0, cI_s, cL_s, cF_s, cD_s, cA_s, cV_s, nI_add, cond_true, cond_false, if_true, if_false]
  rw [s1]
  simp (disch := omega) only [ble_t, Bool.and_self, gO_8 b0, gR_8_0 b0, gR_8_1 b0, gR_8_2 b0, gR_8_3 b0, gR_8_4 b0, gI_8_5 b0, gP_8_5 b0, gI_8_6 b0, gP_8_6 b0, gO_3 a0, gR_3_0 a0, gI_3_1 a0, gP_3_1 a0, gI_3_2 a0, gP_3_2 a0, gR_3_3 a0, gR_3_4 a0, gR_3_5 a0, gI_3_6 a0, gP_3_6 a0, gI_3_7 a0, gP_3_7 a0, gI_3_8 a0, gP_3_8 a0, gI_3_9 a0, gP_3_9 a0, cI_s, cL_s, cF_s, cD_s, cA_s, cV_s, nI_add, cond_true, cond_false, if_true, if_false]
  rw [hread]
  simp (disch := omega) only [iEQ_f, QX10_load_35, ble_t, Bool.and_self, gO_8 b0, gR_8_0 b0, gR_8_1 b0, gR_8_2 b0, gR_8_3 b0, gR_8_4 b0, gI_8_5 b0, gP_8_5 b0, gI_8_6 b0, gP_8_6 b0, cI_s, cL_s, cF_s, cD_s, cA_s, cV_s, nI_add, cond_true, cond_false, if_true, if_false]
  rw [h1]
  simp (disch := omega) only [ble_t, Bool.and_self, gO_8 b0, gR_8_0 b0, gR_8_1 b0, gR_8_2 b0, gR_8_3 b0, gR_8_4 b0, gI_8_5 b0, gP_8_5 b0, gI_8_6 b0, gP_8_6 b0, gO_2 b2', gR_2_0 b2', gR_2_1 b2', gR_2_2 b2', gR_2_3 b2', gI_2_4 b2', gP_2_4 b2', gI_2_5 b2', gP_2_5 b2', gI_2_6 b2', gP_2_6 b2', gI_2_7 b2', gP_2_7 b2', gI_2_8 b2', gP_2_8 b2', cI_s, cL_s, cF_s, cD_s, cA_s, cV_s, nI_add, cond_true, cond_false, if_true, if_false]
  rw [k1]
  simp (disch := omega) only [gO_8 b0, gR_8_0 b0, gR_8_1 b0, gR_8_2 b0, gR_8_3 b0, gR_8_4 b0, gI_8_5 b0, gP_8_5 b0, gI_8_6 b0, gP_8_6 b0, gO_2 b14, gR_2_0 b14, gR_2_1 b14, gR_2_2 b14, gR_2_3 b14, gI_2_4 b14, gP_2_4 b14, gI_2_5 b14, gP_2_5 b14, gI_2_6 b14, gP_2_6 b14, gI_2_7 b14, gP_2_7 b14, gI_2_8 b14, gP_2_8 b14, gO_5 b15, gI_5_0 b15, gP_5_0 b15, gI_5_1 b15, gP_5_1 b15, gI_5_2 b15, gP_5_2 b15, gR_5_3 b15, gR_5_4 b15, PG5.1.1, hs0, cI_s, cL_s, cF_s, cD_s, cA_s, cV_s, nI_add, cond_true, cond_false, if_true, if_false]
end LDP
