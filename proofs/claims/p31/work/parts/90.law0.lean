/-! THE LAW'S FIRST PART: numbers out of the cells, words into the text. -/
section WV
variable (N : Nat) (f : Nat → Int32)
def Wn : Nat := 2 + bd (cl N f 0) 3
def Wt : Nat := 1 + bd (cl N f 0 >>> (nI 4 &&& 31)) 99
def Wc : Nat := 1 + bd (cl N f 0 >>> (nI 12 &&& 31)) 9
def Wy : Nat := bd (cl N f 0 >>> (nI 16 &&& 31)) 10
def Wb : Nat := bd (cl N f 1) (Wn N f)
def Wr : Nat := bd (cl N f 1 >>> (nI 4 &&& 31)) (2 ^ Wn N f)
def Wx : Int32 := cl N f 1 >>> (nI 12 &&& 31)
end WV
theorem sh_1 : ∀ k, k < 5 → nI 1 <<< (nI k &&& 31) = nI (2 ^ k) := by decide
theorem W_in {N : Nat} {f : Nat → Int32} : (2 ≤ Wn N f ∧ Wn N f ≤ 4) ∧ (1 ≤ Wt N f ∧ Wt N f ≤ 99) ∧ (1 ≤ Wc N f ∧ Wc N f ≤ 9) ∧ Wy N f ≤ 9 ∧ Wb N f < Wn N f ∧ Wr N f < 2 ^ Wn N f := by
  have h1 := bd_lt (v := cl N f 0) (m := 3) (by omega)
  have h2 := bd_lt (v := cl N f 0 >>> (nI 4 &&& 31)) (m := 99) (by omega)
  have h3 := bd_lt (v := cl N f 0 >>> (nI 12 &&& 31)) (m := 9) (by omega)
  have h4 := bd_lt (v := cl N f 0 >>> (nI 16 &&& 31)) (m := 10) (by omega)
  refine ⟨?_, ?_, ?_, ?_, bd_lt ?_, bd_lt (Nat.two_pow_pos _)⟩
  · unfold Wn; omega
  · unfold Wt; omega
  · unfold Wc; omega
  · unfold Wy; omega
  · unfold Wn; omega
theorem dg_1 {k : Nat} (h : k < 10) : (dg k).length = 1 := by unfold dg; rw [if_pos h]; rfl
theorem tx0_len {n t c y b : Nat} (hn : n < 10) (hc : c < 10) (hy : y < 10) (hb : b < 10) : (tx0 n t c y b).length = 36 + (dg t).length := by
  unfold tx0
  simp only [List.length_append, dg_1 hn, dg_1 hc, dg_1 hy, dg_1 hb]
  show 7 + 1 + 6 + 1 + 7 + (dg t).length + 6 + 1 + 5 + 1 + 1 = _
  omega
section V0
variable {E : xEn} {w : Nat → Option va_E} {n x0 N : Nat} {f : Nat → Int32}
theorem v_0 (H : hEn E w n) (hC : cIn E x0 N f) (hx0 : x0 < n) (hN : N < 2 ^ 31) (d : Nat) :
    ∃ w' n', qL_law_0 E (d + 20) 0 0 x0 (w, n) = qL_law_168 E (d + 20) 18 3208 x0 (nI (Wn N f)) (nI (Wt N f)) (nI (Wc N f)) (nI (Wy N f)) (nI (Wb N f)) (nI (Wr N f)) (Wx N f) n (nI 0) (w', n') ∧
      tb w' n' n (tx0 (Wn N f) (Wt N f) (Wc N f) (Wy N f) (Wb N f)) (2 * (tx0 (Wn N f) (Wt N f) (Wc N f) (Wy N f) (Wb N f)).length + 34) n ∧ hEn E w' n ∧ ∀ b, b < n → w' b = w b := by
  obtain ⟨⟨n1, n2⟩, ⟨t1, t2⟩, ⟨c1, c2⟩, y1, b1, r1⟩ := W_in (N := N) (f := f)
  have L27 : (lit 27).length = 7 := rfl
  have L28 : (lit 28).length = 6 := rfl
  have L29 : (lit 29).length = 7 := rfl
  have L30 : (lit 30).length = 6 := rfl
  have L31 : (lit 31).length = 5 := rfl
  have L1 : (lit 1).length = 1 := rfl
  have D1 := dg_1 (show Wn N f < 10 by omega)
  have D2 := dg_1 (show Wb N f < 10 by omega)
  have D3 := (dg_len (k := Wt N f))
  have D4 := dg_1 (show Wc N f < 10 by omega)
  have D5 := dg_1 (show Wy N f < 10 by omega)
  have hlen := tx0_len (n := Wn N f) (t := Wt N f) (c := Wc N f) (y := Wy N f) (b := Wb N f) (by omega) (by omega) (by omega) (by omega)
  -- two builders
  generalize hw1 : xup w n (.inr (12, xdef 12 4)) = w1
  have H1 : hEn E w1 (n + 1) := by rw [← hw1]; exact hEn_nw H
  have a1 : w1 n = some (.inr (12, xdef 12 4)) := by rw [← hw1, xup_same]
  have k1 : ∀ b, b < n → w1 b = w b := fun b hb => by rw [← hw1, xup_ne (by omega)]
  generalize hw2 : xup w1 (n + 1) (.inr (12, xdef 12 4)) = w2
  have H2 : hEn E w2 (n + 1 + 1) := by rw [← hw2]; exact hEn_nw H1
  have a2 : w2 (n + 1) = some (.inr (12, xdef 12 4)) := by rw [← hw2, xup_same]
  have k2 : ∀ b, b < n + 1 → w2 b = w1 b := fun b hb => by rw [← hw2, xup_ne (by omega)]
  obtain ⟨w3, e3, S3, k3⟩ := z_new0 (E := E) a2 (Nat.lt_succ_self (n + 1)) (d + 17)
  have T3 : tb w3 (n + 1 + 1 + 1) (n + 1) [] 70 (n + 1) := ⟨_, _, S3, Or.inr (Or.inr rfl), Nat.le_refl _, by omega, by omega, by omega⟩
  have k3' : ∀ b, b < n + 1 → w3 b = w1 b := fun b hb => (k3 b (by omega) (by omega)).trans (k2 b hb)
  have H3 : hEn E w3 (n + 1) := hEn_lt H1 (Nat.le_refl _) k3'
  obtain ⟨w4, m4, e4, T4, H4, p4, k4⟩ := q_lit T3 H3 (by omega) (j := 27) (by unfold isL; omega) (by simp only [List.length_append, List.length_nil]; omega) (d + 14)
  obtain ⟨w5, m5, e5, T5, H5, p5, k5⟩ := q_int T4 H4 (by omega) (k := Wn N f) (by omega) (by simp only [List.length_append, List.length_nil]; omega) (d + 15)
  obtain ⟨w6, m6, e6, T6, H6, p6, k6⟩ := q_lit T5 H5 (by omega) (j := 28) (by unfold isL; omega) (by simp only [List.length_append, List.length_nil]; omega) (d + 14)
  obtain ⟨w7, m7, e7, T7, H7, p7, k7⟩ := q_int T6 H6 (by omega) (k := Wb N f) (by omega) (by simp only [List.length_append, List.length_nil]; omega) (d + 15)
  obtain ⟨w8, m8, e8, T8, H8, p8, k8⟩ := q_lit T7 H7 (by omega) (j := 29) (by unfold isL; omega) (by simp only [List.length_append, List.length_nil]; omega) (d + 14)
  obtain ⟨w9, m9, e9, T9, H9, p9, k9⟩ := q_int T8 H8 (by omega) (k := Wt N f) (by omega) (by simp only [List.length_append, List.length_nil]; omega) (d + 15)
  obtain ⟨w10, m10, e10, T10, H10, p10, k10⟩ := q_lit T9 H9 (by omega) (j := 30) (by unfold isL; omega) (by simp only [List.length_append, List.length_nil]; omega) (d + 14)
  obtain ⟨w11, m11, e11, T11, H11, p11, k11⟩ := q_int T10 H10 (by omega) (k := Wc N f) (by omega) (by simp only [List.length_append, List.length_nil]; omega) (d + 15)
  obtain ⟨w12, m12, e12, T12, H12, p12, k12⟩ := q_lit T11 H11 (by omega) (j := 31) (by unfold isL; omega) (by simp only [List.length_append, List.length_nil]; omega) (d + 14)
  obtain ⟨w13, m13, e13, T13, H13, p13, k13⟩ := q_int T12 H12 (by omega) (k := Wy N f) (by omega) (by simp only [List.length_append, List.length_nil]; omega) (d + 15)
  obtain ⟨w14, m14, e14, T14, H14, p14, k14⟩ := q_lit T13 H13 (by omega) (j := 1) (by unfold isL; omega) (by simp only [List.length_append, List.length_nil]; omega) (d + 14)
  have hT : tb w14 m14 (n + 1) (tx0 (Wn N f) (Wt N f) (Wc N f) (Wy N f) (Wb N f)) 70 (n + 1) := T14
  have kk : ∀ b, b < n + 1 → w14 b = w1 b := fun b hb => ((k14 b hb).trans ((k13 b hb).trans ((k12 b hb).trans ((k11 b hb).trans ((k10 b hb).trans ((k9 b hb).trans ((k8 b hb).trans ((k7 b hb).trans ((k6 b hb).trans ((k5 b hb).trans ((k4 b hb).trans (k3' b hb))))))))))))
  generalize hX : tx0 (Wn N f) (Wt N f) (Wc N f) (Wy N f) (Wb N f) = X at *
  obtain ⟨v, m, SX, hch, h16, l1, l2, l3⟩ := id hT
  have hXm : X.length ≤ m := by obtain ⟨f, -, -, -, -, -, -, k⟩ := SX; exact k
  have hX8 : ∀ c ∈ X, c < 128 := by obtain ⟨f, -, -, -, -, -, k, -⟩ := SX; exact k.2.1
  obtain ⟨wa, fa, ea, Sa, ga, ka⟩ := z_toS (E := E) SX (by unfold chn at hch; omega) (by omega) (by unfold chn at hch; omega) (d + 14)
  have Ha : hEn E wa (n + 1) := hEn_lt H14 (Nat.le_refl _) (fun b hb => ka b (by omega))
  obtain ⟨wb, nb, vb, eb, Sb, v1, v2, kb⟩ := z_newS (E := E) (a := n) (n := m14 + 2) (s := X) ((ka n (by omega)).trans ((kk n (by omega)).trans a1)) (by omega) Sa H.1.1 rfl (by omega) (by omega) ga hX8 (by omega) (d + 11)
  have kf : ∀ b, b < n → wb b = w b := fun b hb => (kb b (by omega) (by omega)).trans ((ka b (by omega)).trans ((kk b (by omega)).trans (k1 b hb)))
  refine ⟨wb, nb, ?_, ⟨vb, _, Sb, Or.inr (Or.inl (by omega)), by omega, Nat.le_refl _, by omega, by omega⟩, hEn_lt H (Nat.le_refl _) kf, kf⟩
  · rw [QL_law_0, g_ble (by omega) (by omega), cond_true, y_cell hC H.1 hN (by omega), cI_s, g_ble (by omega) (by omega), cond_true, y_bound _ (by omega) (by omega), cI_s, g_ble (by omega) (by omega), cond_true, y_cell hC H.1 hN (by omega), cI_s, g_ble (by omega) (by omega), cond_true, y_bound _ (by omega) (by omega), cI_s, g_ble (by omega) (by omega), cond_true, y_cell hC H.1 hN (by omega), cI_s, g_ble (by omega) (by omega), cond_true, y_bound _ (by omega) (by omega), cI_s, g_ble (by omega) (by omega), cond_true, y_cell hC H.1 hN (by omega), cI_s, g_ble (by omega) (by omega), cond_true, y_bound _ (by omega) (by omega), cI_s, g_ble (by omega) (by omega), cond_true, y_cell hC H.1 hN (by omega), cI_s]
    simp only [nI_add]
    rw [show 2 + bd (cl N f 0) 3 = Wn N f from rfl, show 1 + bd (cl N f 0 >>> (nI 4 &&& 31)) 99 = Wt N f from rfl, show 1 + bd (cl N f 0 >>> (nI 12 &&& 31)) 9 = Wc N f from rfl, show bd (cl N f 0 >>> (nI 16 &&& 31)) 10 = Wy N f from rfl]
    rw [g_ble (by omega) (by omega), cond_true, y_bound _ (by omega) (by omega), cI_s, show bd (cl N f 1) (Wn N f) = Wb N f from rfl, g_ble (by omega) (by omega), cond_true, y_cell hC H.1 hN (by omega), cI_s, sh_1 _ (by omega), g_ble (by omega) (by omega), cond_true, y_bound _ (Nat.two_pow_pos _) (Nat.pow_lt_pow_right (by omega) (by omega)), cI_s, show bd (cl N f 1 >>> (nI 4 &&& 31)) (2 ^ Wn N f) = Wr N f from rfl, g_ble (by omega) (by omega), cond_true, y_cell hC H.1 hN (by omega), cI_s, g_ble (by omega) (by omega), cond_true]
    unfold nwO
    dsimp only
    rw [hw1, g_ble (by omega) (by omega), cond_true, hw2, g_ble (by omega) (by omega), cond_true, gO_at a2, e3, cV_s]
    first | rw [g_ble (by omega) (by omega), cond_true, tb_O T3, e4, cA_s] | rw [cond_true, tb_O T3, e4, cA_s]
    first | rw [g_ble (by omega) (by omega), cond_true, tb_O T4, e5, cA_s] | rw [cond_true, tb_O T4, e5, cA_s]
    first | rw [g_ble (by omega) (by omega), cond_true, tb_O T5, e6, cA_s] | rw [cond_true, tb_O T5, e6, cA_s]
    first | rw [g_ble (by omega) (by omega), cond_true, tb_O T6, e7, cA_s] | rw [cond_true, tb_O T6, e7, cA_s]
    first | rw [g_ble (by omega) (by omega), cond_true, tb_O T7, e8, cA_s] | rw [cond_true, tb_O T7, e8, cA_s]
    first | rw [g_ble (by omega) (by omega), cond_true, tb_O T8, e9, cA_s] | rw [cond_true, tb_O T8, e9, cA_s]
    first | rw [g_ble (by omega) (by omega), cond_true, tb_O T9, e10, cA_s] | rw [cond_true, tb_O T9, e10, cA_s]
    first | rw [g_ble (by omega) (by omega), cond_true, tb_O T10, e11, cA_s] | rw [cond_true, tb_O T10, e11, cA_s]
    first | rw [g_ble (by omega) (by omega), cond_true, tb_O T11, e12, cA_s] | rw [cond_true, tb_O T11, e12, cA_s]
    first | rw [g_ble (by omega) (by omega), cond_true, tb_O T12, e13, cA_s] | rw [cond_true, tb_O T12, e13, cA_s]
    first | rw [g_ble (by omega) (by omega), cond_true, tb_O T13, e14, cA_s] | rw [cond_true, tb_O T13, e14, cA_s]
    first | rw [g_ble (by omega) (by omega), cond_true] | rw [cond_true]
    rw [gO_at (show w14 (n + 1) = some (.inr (12, [.ref v, .int (nI 0), .int (nI 0), .int (nI X.length)])) by obtain ⟨f, k, -⟩ := SX; exact k), ea, cA_s]
    first | rw [g_ble (by omega) (by omega), cond_true] | rw [cond_true]
    rw [gO_at ((ka n (by omega)).trans ((kk n (by omega)).trans a1)), eb, cV_s]
    rfl
end V0
