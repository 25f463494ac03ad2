/-! FROM THE TEXT TO THE STEPS. -/
theorem hEn_mo {E : xEn} {z : Nat → Option va_E} {x n : Nat} (H : hEn E z x) (h : x ≤ n) : hEn E z n := ⟨H.1, fun a ha => Nat.lt_of_lt_of_le (H.2 a ha) h⟩
theorem tx_all {n t c y b rr : Nat} {X : Int32} : tx0 n t c y b ++ stL (ssL rr 0 n) ++ stL (bsL X 0 3) = wl 10 ++ 32 :: (dg n ++ 59 :: stL (stA n t c y b rr X)) := by
  have h : stL (stA n t c y b rr X) = stx (14, b) ++ (stx (16, t) ++ (stx (17, c) ++ (stx (18, y) ++ stL (ssL rr 0 n ++ bsL X 0 3)))) := rfl
  rw [h, stL_app]
  unfold tx0
  rw [show lit 27 = wl 10 ++ [32] from rfl, show lit 28 = 59 :: (wl 14 ++ [32]) from rfl, show lit 29 = 59 :: (wl 16 ++ [32]) from rfl, show lit 30 = 59 :: (wl 17 ++ [32]) from rfl, show lit 31 = 59 :: (wl 18 ++ [32]) from rfl, show lit 1 = [59] from rfl, show stx (14, b) = wl 14 ++ 32 :: (dg b ++ [59]) from rfl, show stx (16, t) = wl 16 ++ 32 :: (dg t ++ [59]) from rfl, show stx (17, c) = wl 17 ++ 32 :: (dg c ++ [59]) from rfl, show stx (18, y) = wl 18 ++ 32 :: (dg y ++ [59]) from rfl]
  simp only [List.append_assoc, List.cons_append, List.nil_append]
theorem ssL_len {rr : Nat} : ∀ r p, p + r ≤ 9 → ∃ k, k ≤ r ∧ (stL (ssL rr p r)).length = 10 * k := by
  intro r
  induction r with
  | zero => exact fun _ _ => ⟨0, Nat.le_refl _, rfl⟩
  | succ r ih =>
    intro p hp
    obtain ⟨k, hk, e⟩ := ih (p + 1) (by omega)
    by_cases c : bbit rr p = 1
    · refine ⟨k + 1, by omega, ?_⟩
      rw [show ssL rr p (r + 1) = (15, p) :: ssL rr (p + 1) r from if_pos c, show stL ((15, p) :: ssL rr (p + 1) r) = stx (15, p) ++ stL (ssL rr (p + 1) r) from rfl, List.length_append, stx_len (Or.inl rfl) (show p < 10 by omega), e]
      omega
    · refine ⟨k, by omega, ?_⟩
      rw [show ssL rr p (r + 1) = ssL rr (p + 1) r from if_neg c, e]
theorem bsL_len {X : Int32} : ∀ r p, p + r ≤ 9 → ∃ k, k ≤ r ∧ (stL (bsL X p r)).length = 10 * k := by
  intro r
  induction r with
  | zero => exact fun _ _ => ⟨0, Nat.le_refl _, rfl⟩
  | succ r ih =>
    intro p hp
    obtain ⟨k, hk, e⟩ := ih (p + 1) (by omega)
    by_cases c : bkb X p = true
    · refine ⟨k + 1, by omega, ?_⟩
      rw [show bsL X p (r + 1) = (20, p) :: bsL X (p + 1) r from if_pos c, show stL ((20, p) :: bsL X (p + 1) r) = stx (20, p) ++ stL (bsL X (p + 1) r) from rfl, List.length_append, stx_len (Or.inr rfl) (show p < 10 by omega), e]
      omega
    · refine ⟨k, by omega, ?_⟩
      rw [show bsL X p (r + 1) = bsL X (p + 1) r from if_neg c, e]
theorem ll_len {rr : Nat} {X : Int32} : ∀ r p, (ssL rr p r).length ≤ r ∧ (bsL X p r).length ≤ r := by
  intro r
  induction r with
  | zero => exact fun _ => ⟨Nat.le_refl _, Nat.le_refl _⟩
  | succ r ih =>
    intro p
    obtain ⟨h1, h2⟩ := ih (p + 1)
    constructor
    · show (if bbit rr p = 1 then (15, p) :: ssL rr (p + 1) r else ssL rr (p + 1) r).length ≤ r + 1
      split
      · rw [List.length_cons]; omega
      · omega
    · show (if bkb X p = true then (20, p) :: bsL X (p + 1) r else bsL X (p + 1) r).length ≤ r + 1
      split
      · rw [List.length_cons]; omega
      · omega
section V263
variable {E : xEn} {w : Nat → Option va_E} {x0 a n lo m t c y b rr bc bs : Nat} {X : Int32}
theorem v_263 (hn : 2 ≤ n ∧ n ≤ 4) (ht : 1 ≤ t ∧ t ≤ 99) (hc : 1 ≤ c ∧ c ≤ 9) (hy : y ≤ 9) (hb : b < n) (h1 : bc ≤ 215) (h2 : bs ≤ 11750) (H : hEn E w lo) (T : tb w m a (tx0 n t c y b ++ stL (ssL rr 0 n) ++ stL (bsL X 0 3)) (2 * (tx0 n t c y b).length + 34) lo) (ham : a < m) (hx0 : x0 < m) (d : Nat) :
    ∃ sh S z st w' un bc' bs', qL_law_263 E (d + 20) bc bs x0 (nI n) (nI t) (nI c) (nI y) (nI b) (nI rr) X a (w, m) = qL_law_311 E (d + 20) bc' bs' x0 (nI n) (nI y) (nI rr) X m st (nI b) (nI 0) (wW E z m sh S, st + 2) ∧ bc' ≤ 400 ∧ bs' ≤ 20300 ∧ hC sh ∧ (∀ j, 135 ≤ j → sh j = none) ∧ CG S (gLw n t c y b rr X) w' un ∧ hEn E z m ∧ (∀ ad sq, SY z st (st + 1) (eDc E) 0 n t c y b ad sq) ∧ m + 135 ≤ st := by
  have hlen := tx0_len (n := n) (t := t) (c := c) (y := y) (b := b) (by omega) (by omega) (by omega) (by omega)
  have hdg := dg_len (k := t)
  obtain ⟨k1, hk1, ek1⟩ := ssL_len (rr := rr) n 0 (by omega)
  obtain ⟨k2, hk2, ek2⟩ := bsL_len (X := X) 3 0 (by omega)
  have hTl : (tx0 n t c y b ++ stL (ssL rr 0 n) ++ stL (bsL X 0 3)).length = (tx0 n t c y b).length + 10 * k1 + 10 * k2 := by rw [List.length_append, List.length_append, ek1, ek2]
  have htx := tx_all (n := n) (t := t) (c := c) (y := y) (b := b) (rr := rr) (X := X)
  generalize hM : (tx0 n t c y b).length = e0 at *
  generalize hTT : tx0 n t c y b ++ stL (ssL rr 0 n) ++ stL (bsL X 0 3) = TT at *
  obtain ⟨v, q, SB0, hch, h16, l1, l2, l3⟩ := T
  obtain ⟨sh, S, eC, hC, hs, P, s0, s11, s19⟩ := C_new (E := E) (z := w) (x := m) (d + 14)
  have hSB : SB (wW E w m sh S) (m + 135) a v q TT := SB_fr SB0 (wW_out (oS_lt ham)) (wW_out (oS_lt (by obtain ⟨f, -, -, -, -, k, -⟩ := SB0; exact k))) (by omega)
  have hTq : TT.length ≤ q := by obtain ⟨f, -, -, -, -, -, -, k⟩ := SB0; exact k
  have hT8 : ∀ c ∈ TT, c < 128 := by obtain ⟨f, -, -, -, -, -, k, -⟩ := SB0; exact k.2.1
  obtain ⟨wa, fa, ea, Sa, ga, ka⟩ := z_toS (E := E) hSB (by unfold chn at hch; omega) (by omega) (by unfold chn at hch; omega) (d + 14)
  have hwa : wW E wa m sh S = wa := wW_abs hs (Nat.le_refl _) ka
  have kaw : ∀ q, q < m → wa q = w q := fun q hq => (ka q (by omega)).trans (wW_out (oS_lt hq))
  have Ha : hEn E wa m := hEn_lt (hEn_mo H l3) (Nat.le_refl _) kaw
  have hu := iU_new (s := 3) (by omega) (by omega)
  have hC3 : CG S (gNew 3) 0 0 := ⟨by rw [s0]; rfl, by rw [s0]; rfl, by omega, by omega, P, by have := (iU_fin hu).1; rw [fin_new] at this; exact this, by have := (iU_fin hu).2.1; rw [fin_new] at this; exact this⟩
  have hl := ll_len (rr := rr) (X := X) n 0
  have hl3 := ll_len (rr := rr) (X := X) 3 0
  obtain ⟨S1, z1, n1, w1, u1, e1, C1, p1, k1'⟩ := k_read (E := E) (z := wa) (x := m) (n := m + 135 + 2) (t := TT) hC Ha (by omega) Sa (oS_ge hs (Nat.le_refl _)) (oS_ge hs (by omega)) (by omega) (by omega) (fun a ha => oS_ge hs (by omega)) ga hT8 (by omega) hC3 s11 hn.1 (by omega) (by unfold stA; simp only [List.length_cons, List.length_append]; omega) (stA_ok hn ht hc hy hb) htx (d + 8)
  rw [hwa] at e1
  generalize hw2 : xup (wW E z1 m sh S1) n1 (.inr (10, xdef 10 6)) = w2
  have a2 : w2 n1 = some (.inr (10, xdef 10 6)) := by rw [← hw2, xup_same]
  obtain ⟨w3, e3, Y3, k3⟩ := y_story (E := E) (N := n) (T := t) (C := c) (Y := y) (B := b) a2 (Nat.lt_succ_self n1) (by omega) (by omega) (by omega) (by omega) (by omega) (d + 16)
  have k3' : ∀ q, q < n1 → w3 q = wW E z1 m sh S1 q := fun q hq => (k3 q (by omega) (by omega)).trans (by rw [← hw2, xup_ne (by omega)])
  have hw3 : wW E w3 m sh S1 = w3 := wW_abs hs (by omega) k3'
  have k3w : ∀ q, q < m → w3 q = wa q := fun q hq => (k3' q (by omega)).trans ((wW_out (oS_lt hq)).trans (k1' q (by omega)))
  refine ⟨sh, S1, w3, n1, w1, u1, bc + 1 + 134 + 2 + 41 + 1 + 1, bs + 7 + 8058 + 124 + 206 + 6 + 3, ?_, by omega, by omega, hC, hs, C1, hEn_lt Ha (Nat.le_refl _) k3w, Y3, by omega⟩
  rw [QL_law_263, g_ble (by omega) (by omega), cond_true]
  unfold nwO
  dsimp only
  rw [g_ble (by omega) (by omega), cond_true, gO_at xup_same, wW_obj, eC, cV_s, g_ble (by omega) (by omega), cond_true, gO_at (show wW E w m sh S a = some (.inr (12, [.ref v, .int (nI 0), .int (nI 0), .int (nI TT.length)])) by obtain ⟨f, k, -⟩ := hSB; exact k), ea, cA_s, g_ble (by omega) (by omega), cond_true, e1, cI_s, iEQ_t rfl, QL_law_288, g_ble (by omega) (by omega), cond_true]
  unfold nwO
  dsimp only
  rw [hw2, g_ble (by omega) (by omega), cond_true, gO_at a2, e3, cV_s, hw3]
end V263
section VPRE
variable {E : xEn} {w : Nat → Option va_E} {n x0 N : Nat} {f : Nat → Int32}
/-- the law up to its steps -/
theorem v_pre (H : hEn E w n) (hce : cIn E x0 N f) (hx0 : x0 < n) (hN : N < 2 ^ 31) (d : Nat) :
    ∃ sh S z m st w' un bc bs, xsem xT E (d + 21) kL_law [.ref x0] (w, n) = qL_law_311 E (d + 20) bc bs x0 (nI (Wn N f)) (nI (Wy N f)) (nI (Wr N f)) (Wx N f) m st (nI (Wb N f)) (nI 0) (wW E z m sh S, st + 2) ∧ bc ≤ 400 ∧ bs ≤ 20300 ∧ hC sh ∧ (∀ j, 135 ≤ j → sh j = none) ∧ CG S (gLw (Wn N f) (Wt N f) (Wc N f) (Wy N f) (Wb N f) (Wr N f) (Wx N f)) w' un ∧ hEn E z m ∧ (∀ ad sq, SY z st (st + 1) (eDc E) 0 (Wn N f) (Wt N f) (Wc N f) (Wy N f) (Wb N f) ad sq) ∧ m + 135 ≤ st ∧ x0 < m := by
  obtain ⟨hn, ht, hc, hy, hb, hr⟩ := W_in (N := N) (f := f)
  have hr256 : Wr N f < 256 := by
    have : 2 ^ Wn N f ≤ 2 ^ 4 := Nat.pow_le_pow_right (by omega) hn.2
    omega
  have hlen := tx0_len (n := Wn N f) (t := Wt N f) (c := Wc N f) (y := Wy N f) (b := Wb N f) (by omega) (by omega) (by omega) (by omega)
  have hdg := dg_len (k := Wt N f)
  obtain ⟨w1, n1, e1, T1, H1, k1⟩ := v_0 (E := E) H hce hx0 hN d
  obtain ⟨w2, n2, bc2, bs2, e2, c2, c2', T2, H2, p2, k2⟩ := v_168 (E := E) (x0 := x0) (X := Wx N f) (u2 := nI (Wt N f)) (u3 := nI (Wc N f)) (u4 := nI (Wy N f)) (u5 := nI (Wb N f)) (M := 2 * (tx0 (Wn N f) (Wt N f) (Wc N f) (Wy N f) (Wb N f)).length + 34) (by omega) hn.2 hr256 d (Wn N f) 0 18 3208 w1 n1 _ (by omega) (by omega) (by omega) T1 H1 (by omega)
  obtain ⟨j1, hj1, ej1⟩ := ssL_len (rr := Wr N f) (Wn N f) 0 (by omega)
  obtain ⟨w3, n3, bc3, bs3, e3, c3, c3', T3, H3, p3, k3⟩ := v_212 (E := E) (x0 := x0) (nn := Wn N f) (rr := Wr N f) (X := Wx N f) (u2 := nI (Wt N f)) (u3 := nI (Wc N f)) (u4 := nI (Wy N f)) (u5 := nI (Wb N f)) (M := 2 * (tx0 (Wn N f) (Wt N f) (Wc N f) (Wy N f) (Wb N f)).length + 34) (by omega) d 3 0 bc2 bs2 w2 n2 _ (by omega) (by omega) (by omega) T2 H2 (by rw [List.length_append, ej1]; omega)
  have hnn : n < n3 := by
    obtain ⟨v, q, SB0, -⟩ := T3
    obtain ⟨f, -, -, -, k, -⟩ := SB0
    exact k
  obtain ⟨sh, S, z, st, w4, un, bc4, bs4, e4, c4, c4', hCs, hs, C4, H4, Y4, p4⟩ := v_263 (E := E) (x0 := x0) (a := n) hn ht hc hy hb c3 c3' H3 T3 hnn (by omega) d
  refine ⟨sh, S, z, n3, st, w4, un, bc4, bs4, ?_, c4, c4', hCs, hs, C4, H4, Y4, p4, by omega⟩
  rw [eL_law, e1, e2, QL_law_209, e3, e4]
end VPRE
