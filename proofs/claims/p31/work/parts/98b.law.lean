/-! THE LAW'S END: the last look; and the law whole. -/
theorem look_1 {g : Nat → Nat} {p : Nat} (hp : p ≤ g 0) (h : g 1 = p) : (∀ q, q ≤ g 0 → gF (gLook p g) q = if q = p then 1 else 0) ∧ mSum (gF (gLook p g)) (g 0 + 1) = 1 := by
  have hG : mGcd (mOne p) (g 0 + 1) = 1 := by
    have h1 := mGcd_dvd (f := mOne p) (i := g 0 + 1) (p := p) (by omega)
    rw [show mOne p p = 1 from updN_s] at h1
    exact Nat.dvd_one.1 h1
  have hb : ∀ q, q ≤ g 0 → gF (gLook p g) q = if q = p then 1 else 0 := fun q hq => by
    show gLook p g (36 + q) = _
    rw [gLook_b hq]
    unfold gLk
    rw [if_pos h]
    show mOne p q / mGcd (mOne p) (g 0 + 1) = _
    rw [hG, Nat.div_one]
    rfl
  refine ⟨hb, ?_⟩
  have h1 : ∀ i, i ≤ g 0 + 1 → mSum (gF (gLook p g)) i = if p < i then 1 else 0 := by
    intro i
    induction i with
    | zero => exact fun _ => (if_neg (by omega)).symm
    | succ i ih =>
      intro hi
      show mSum (gF (gLook p g)) i + gF (gLook p g) i = _
      rw [ih (by omega), hb i (by omega)]
      by_cases c1 : p < i
      · rw [if_pos c1, if_neg (by omega), if_pos (by omega)]
      · rw [if_neg c1]
        by_cases c2 : i = p
        · rw [if_pos c2, if_pos (by omega)]
        · rw [if_neg c2, if_neg (by omega)]
  rw [h1 _ (Nat.le_refl _), if_pos (by omega)]
theorem look_0 {g : Nat → Nat} {p : Nat} (I : iG g) (hp : p ≤ g 0) (h : g 1 ≠ p) : gLook p g (36 + p) = 0 ∧ 0 < gLook p g (36 + g 1) ∧ gLook p g (36 + g 1) ≤ 1000000 := by
  have h1 := I.1.2.2.1
  have hpos : 0 < gF g (g 1) := by
    obtain ⟨-, -, -, -, -, -, h0⟩ := I
    exact h0
  have hle : gF g (g 1) ≤ 1000000 := I.2.2.2.2.2.1 (g 1) (by have := I.1.2.1; omega)
  have hu : updN (gF g) p 0 (g 1) = gF g (g 1) := updN_n h
  rw [gLook_b hp, gLook_b h1]
  unfold gLk
  rw [if_neg h]
  refine ⟨?_, mDiv_pos (by omega) (by rw [hu]; exact hpos), ?_⟩
  · show updN (gF g) p 0 p / _ = 0
    rw [updN_s, Nat.zero_div]
  · have h2 : mDiv (g 0 + 1) (updN (gF g) p 0) (g 1) ≤ updN (gF g) p 0 (g 1) := Nat.div_le_self _ _
    omega
section V678
variable {E : xEn} {n t c y b st l x0 N x m B at' bc bs : Nat} {X : Int32} {f : Nat → Int32} {sh : Nat → Option xSh} {S : xSt} {z : Nat → Option va_E}
theorem v_678 (hc : hC sh) (hs : ∀ j, 135 ≤ j → sh j = none) (hn : 2 ≤ n ∧ n ≤ 4) (hN : N < 2 ^ 31) (V : INV E n t c y b X st l x0 N f x sh 3 S z m B at') (h1 : bc ≤ 520) (h2 : bs ≤ 21200) (d : Nat) :
    ∃ σ, qL_law_678 E (d + 20) bc bs x0 (nI n) x (nI at') (wW E z x sh S, m) = some (.inl (some (.int (nI 1))), σ) := by
  have b0 := hc.1
  obtain ⟨g, w, un, D, sq, ad, v, C, H, Y, Z, h0, hxm, hx0, hz0, L⟩ := V
  obtain ⟨⟨g0, g1, g2, g4, g5, g6⟩, -⟩ := id L
  have I := C.2.2.2.2.2.1
  have hat : at' ≤ n := by rw [← g1, ← g0]; exact I.1.2.2.1
  have hpI := bd_lt (v := cl N f 5) (m := n) (by omega)
  generalize hp : bd (cl N f 5) n = p at *
  obtain ⟨S1, w1, u1, e1, C1⟩ := k_peek (E := E) (z := z) (x := x) (n := m) hc C (p := p) (by omega) (d + 15)
  rw [g1] at e1
  have hg0 : gLook p g 0 = n := (gLook_n (by omega)).trans g0
  have hbp := k_belief (E := E) (z := z) (x := x) (n := m) hc C1 (p := p) (by omega) (d + 17)
  have hba := k_belief (E := E) (z := z) (x := x) (n := m) hc C1 (p := at') (by omega) (d + 17)
  have hst := k_state (E := E) (z := z) (x := x) (n := m) hc C1 (k := 10) (by omega) (d + 17)
  rw [show gTold (gLook p g) 10 = mSum (gF (gLook p g)) (n + 1) by rw [← hg0]; rfl] at hst
  rw [QL_law_678, g_ble (by omega) (by omega), cond_true, y_cell hz0 (hE_w H) hN (by omega), cI_s]
  first | rw [g_ble (by omega) (by omega), cond_true] | rw [cond_true]
  rw [y_bound _ (by omega) (by omega), cI_s, hp]
  first | rw [g_ble (by omega) (by omega), cond_true] | rw [cond_true]
  rw [gO_8 b0, e1, cI_s]
  by_cases e : at' = p
  · obtain ⟨q1, q2⟩ := look_1 (g := g) (p := p) (by omega) (g1.trans e)
    rw [g0] at q2
    rw [q2] at hst
    rw [show gLook p g (36 + p) = 1 from (q1 p (by omega)).trans (if_pos rfl)] at hbp
    rw [if_pos e, iEQ_t e, QL_law_712, iEQ_t rfl, iEQ_f (by omega) (by omega) (by omega), g_ble (by omega) (by omega), cond_true, gO_8 b0, hst, cI_s, iEQ_t rfl, g_ble (by omega) (by omega), cond_true, gO_8 b0, hbp, cI_s, iEQ_t rfl, QL_law_765, QL_law_770]
    exact ⟨_, rfl⟩
  · obtain ⟨q1, q2, q3⟩ := look_0 (g := g) (p := p) I (by omega) (by rw [g1]; exact e)
    rw [g1] at q2 q3
    rw [q1] at hbp
    rw [if_neg e, iEQ_f e (by omega) (by omega), QL_law_711, QL_law_712, iEQ_t rfl, iEQ_t rfl, QL_law_745, g_ble (by omega) (by omega), cond_true, gO_8 b0, hbp, cI_s, iEQ_t rfl, g_ble (by omega) (by omega), cond_true, gO_8 b0, hba, cI_s, iLE_f q2 (by omega), QL_law_765, QL_law_770]
    exact ⟨_, rfl⟩
end V678
/-- the law says yes, whatever the cells hold -/
theorem v_law {E : xEn} {w : Nat → Option va_E} {n x0 N : Nat} {f : Nat → Int32} (H : hEn E w n) (hce : cIn E x0 N f) (hx0 : x0 < n) (hN : N < 2 ^ 31) (d : Nat) :
    ∃ σ, xsem xT E (d + 21) kL_law [.ref x0] (w, n) = some (.inl (some (.int (nI 1))), σ) := by
  obtain ⟨hn, ht, hc, hy, hb, hr⟩ := W_in (N := N) (f := f)
  obtain ⟨sh, S, z, m, st, w', un, bc, bs, e0, c1, c2, hC, hs, C, H', Y, hst, hxm⟩ := v_pre (E := E) H hce hx0 hN d
  have V0 : INV E (Wn N f) (Wt N f) (Wc N f) (Wy N f) (Wb N f) (Wx N f) st (st + 1) x0 N f m sh 0 S z (st + 2) (Wr N f) (Wb N f) := ⟨_, w', un, 1, fun _ => (0, 0, 0, 0, 0, 0), fun _ => 0, eDc E, C, H', Y _ _, ⟨⟨hst, by omega⟩, ⟨by omega, by omega⟩, fun q => absurd q (Nat.lt_irrefl 0), fun i hi => absurd hi (Nat.not_lt_zero i)⟩, fun _ => rfl, by omega, hxm, hce, LIv_0 hn.2 hr hb⟩
  obtain ⟨S1, z1, m1, at1, B1, bc1, bs1, e1, p1, q1, V1⟩ := v_step (E := E) hC hs hn hN (k := 0) (by omega) V0 (bc := bc) (bs := bs) (by omega) (by omega) d
  obtain ⟨S2, z2, m2, at2, B2, bc2, bs2, e2, p2, q2, V2⟩ := v_step (E := E) hC hs hn hN (k := 1) (by omega) V1 (bc := bc1) (bs := bs1) (by omega) (by omega) d
  obtain ⟨S3, z3, m3, at3, B3, bc3, bs3, e3, p3, q3, V3⟩ := v_step (E := E) hC hs hn hN (k := 2) (by omega) V2 (bc := bc2) (bs := bs2) (by omega) (by omega) d
  obtain ⟨σ, e4⟩ := v_678 (E := E) hC hs hn hN V3 (bc := bc3) (bs := bs3) (by omega) (by omega) d
  refine ⟨σ, ?_⟩
  rw [e0, e1, e2, e3, QL_law_311, iLE_t (Nat.le_refl 3) (by omega), e4]
