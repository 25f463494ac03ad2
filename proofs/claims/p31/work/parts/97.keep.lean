/-! ONE STEP OF THE LAW: what was seen is kept, and all is compared. -/
theorem y_add {E : xEn} {W : Nat → Option va_E} {m lo st l v k n t c y b : Nat} {ad : Nat → Nat} {sq : Nat → Sg} {s : Sg} (H : hEn E W lo) (Y : SY W st l v k n t c y b ad sq) (Z : SYm lo m st l v k ad) (hlm : lo ≤ m) (h0 : k = 0 → v = eDc E) (hk : k < 10) (hs : sgOk n s) (d : Nat) :
    ∃ W' v' m', xsem xT E (d + 4) kJx4a65c_add_9ea2d [.ref l, .ref m] (xup W m (.inr (9, sgV s)), m + 1) = some (.inl (some (.int (nI 1))), (W', m')) ∧ SY W' st l v' (k + 1) n t c y b (fun i => if i = k then m else ad i) (fun i => if i = k then s else sq i) ∧ SYm lo m' st l v' (k + 1) (fun i => if i = k then m else ad i) ∧ m < m' ∧ ∀ a, a < lo → W' a = W a := by
  obtain ⟨y1, y2, y3, y4, y5, y6, y7, y8, y9, y10, y11⟩ := Y
  obtain ⟨z1, z2, z3, z4⟩ := Z
  generalize hw2 : xup W m (.inr (9, sgV s)) = w2
  have k2 : ∀ a, a < m → w2 a = W a := fun a ha => by rw [← hw2, xup_ne (by omega)]
  have l2 : w2 l = some (.inr (13, [.int (nI k), .ref v, .int (nI k)])) := (k2 l z2.2).trans y2
  have m2 : w2 m = some (.inr (9, sgV s)) := by rw [← hw2, xup_same]
  have hstl : st ≠ l := fun z => by
    rw [z, y2] at y1
    cases y1
  have hadl : ∀ i, i < k → ad i ≠ l := fun i hi z => by
    have := y4 i hi
    rw [z, y2] at this
    cases this
  have hok : ∀ i, i < k + 1 → sgOk n (if i = k then s else sq i) := fun i hi => by
    by_cases e : i = k
    · rw [if_pos e]; exact hs
    · rw [if_neg e]; exact y11 i (by omega)
  by_cases c0 : k = 0
  · subst c0
    rw [h0 rfl] at l2
    have H2 : hEn E w2 (m + 1) := by
      rw [← hw2]
      exact hEn_nw (hEn_mo H hlm)
    obtain ⟨w3, e3, a1, a2, a3⟩ := a_add0 l2 H2 m2 (by omega) (Nat.lt_succ_self m) (by omega) d
    refine ⟨w3, m + 1, m + 1 + 1, e3, ⟨(a3 st hstl (by omega)).trans ((k2 st z1.2).trans y1), a1, fun _ => ⟨_, a2, fun i hi => ?_⟩, fun i hi => ?_, by omega, y6, y7, y8, y9, y10, hok⟩, ⟨⟨z1.1, by omega⟩, ⟨z2.1, by omega⟩, fun _ => ⟨by omega, by omega⟩, fun i hi => ?_⟩, by omega, fun a ha => (a3 a (by omega) (by omega)).trans (k2 a (by omega))⟩
    · have hi : i = 0 := by omega
      subst hi
      rfl
    · have hi : i = 0 := by omega
      subst hi
      show w3 m = some (.inr (9, sgV s))
      rw [a3 m (by omega) (by omega)]
      exact m2
    · have hi : i = 0 := by omega
      subst hi
      show lo ≤ m ∧ m < m + 1 + 1
      omega
  · obtain ⟨q, q1, q2⟩ := y3 (by omega)
    obtain ⟨zv1, zv2⟩ := z3 (by omega)
    have v2 : w2 v = some (.inl (6, 10, .inr (.inr (.inr (.inr q))))) := (k2 v zv2).trans q1
    have hlv : l ≠ v := fun z => by
      rw [← z, y2] at q1
      cases q1
    have hstv : st ≠ v := fun z => by
      rw [← z, y1] at q1
      cases q1
    have hadv : ∀ i, i < k → ad i ≠ v := fun i hi z => by
      have := y4 i hi
      rw [z, q1] at this
      cases this
    obtain ⟨w3, e3, a1, a2, a3⟩ := a_add (E := E) (n := m + 1) l2 v2 hk m2 hlv (by omega) (by omega) d
    refine ⟨w3, v, m + 1, e3, ⟨(a3 st hstl hstv).trans ((k2 st z1.2).trans y1), a1, fun _ => ⟨_, a2, fun i hi => ?_⟩, fun i hi => ?_, by omega, y6, y7, y8, y9, y10, hok⟩, ⟨⟨z1.1, by omega⟩, ⟨z2.1, by omega⟩, fun _ => ⟨zv1, by omega⟩, fun i hi => ?_⟩, by omega, fun a ha => (a3 a (by omega) (by omega)).trans (k2 a (by omega))⟩
    · unfold va_up
      dsimp only
      by_cases e : i = k
      · rw [if_pos e, if_pos e]
      · rw [if_neg e, if_neg e]
        exact q2 i (by omega)
    · dsimp only
      by_cases e : i = k
      · rw [if_pos e, if_pos e, a3 m (by omega) (by omega)]
        exact m2
      · rw [if_neg e, if_neg e, a3 _ (hadl i (by omega)) (hadv i (by omega)), k2 _ (z4 i (by omega)).2]
        exact y4 i (by omega)
    · dsimp only
      by_cases e : i = k
      · rw [if_pos e]; omega
      · rw [if_neg e]
        have := z4 i (by omega)
        omega
theorem LIv_cg {n t c y b k B at' D : Nat} {X : Int32} {g : Nat → Nat} {sq sq' : Nat → Sg} (L : LIv n t c y b X k g B at' D sq) (h : ∀ i, i < k → sq' i = sq i) : LIv n t c y b X k g B at' D sq' := by
  obtain ⟨h1, h2, h3, h4, h5, h6, h7⟩ := L
  exact ⟨h1, h2, h3, h4, h5, h6, fun p hp => by rw [wgt_cg k h]; exact h7 p hp⟩
/-- all that holds ahead of step k -/
def INV (E : xEn) (n t c y b : Nat) (X : Int32) (st l x0 N : Nat) (f : Nat → Int32) (x : Nat) (sh : Nat → Option xSh) (k : Nat) (S : xSt) (z : Nat → Option va_E) (m B at' : Nat) : Prop :=
  ∃ g w un D sq ad v, CG S g w un ∧ hEn E z x ∧ SY z st l v k n t c y b ad sq ∧ SYm (x + 135) m st l v k ad ∧ (k = 0 → v = eDc E) ∧ x + 135 ≤ m ∧ x0 < x ∧ cIn E x0 N f ∧ LIv n t c y b X k g B at' D sq
section V541
variable {E : xEn} {n t c y b st l x0 N x k m B at' D κ a e a' b' w un v bc bs : Nat} {X : Int32} {f : Nat → Int32} {sh : Nat → Option xSh} {S : xSt} {z : Nat → Option va_E} {g : Nat → Nat} {sq : Nat → Sg} {ad : Nat → Nat}
theorem v_541 (hc : hC sh) (hs : ∀ j, 135 ≤ j → sh j = none) (hn : 2 ≤ n ∧ n ≤ 4) (hk : k ≤ 2) (I : iG g) (L : LIv n t c y b X k g B at' D sq) (ok : okS (gBl g) κ a' b' g) (ha : a < n) (hb : e < n) (hab : a ≠ e) (hk2 : κ < 2 → a' = a ∧ b' = e) (h4 : κ = 4 → a' = a) (C : CG S (gStep (gBl g) κ a' b' g) w un) (H : hEn E z x) (Y : SY z st l v k n t c y b ad sq) (Z : SYm (x + 135) m st l v k ad) (h0 : k = 0 → v = eDc E) (hxm : x + 135 ≤ m) (hx0 : x0 < x) (hz0 : cIn E x0 N f) (h1 : bc ≤ 400 + 40 * k + 15) (h2 : bs ≤ 20300 + 300 * k + 90) (d : Nat) :
    ∃ z' m' at2 B2 bc' bs', qL_law_541 E (d + 20) bc bs x0 (nI n) (nI y) (nI B) X x st (nI at') (nI k) (nI a) (nI e) (nI (gBl g).toNat) (nI κ) (wW E z x sh S, m) = qL_law_311 E (d + 20) bc' bs' x0 (nI n) (nI y) (nI B2) X x st (nI at2) (nI (k + 1)) (wW E z' x sh S, m') ∧ bc' ≤ 400 + 40 * (k + 1) ∧ bs' ≤ 20300 + 300 * (k + 1) ∧ INV E n t c y b X st l x0 N f x sh (k + 1) S z' m' B2 at2 := by
  have b0 := hc.1
  obtain ⟨⟨g0, g1, g2, g4, g5, g6⟩, hr, hB, hbk, hm, hD, hw⟩ := id L
  have hB16 : B < 16 := by
    have : 2 ^ n ≤ 2 ^ 4 := Nat.pow_le_pow_right (by omega) hn.2
    omega
  have hmv := (mv_eq B hB16 a (by omega) e (by omega)).2.1
  have hat : at' ≤ n := by rw [← g1, ← g0]; exact I.1.2.2.1
  have hbl : (gBl g).toNat ≤ 1 := by cases gBl g <;> decide
  have hκ := ok.1
  generalize hsg : sgt κ a e B (gBl g).toNat = s
  have hsok : sgOk n s := by
    rw [← hsg]
    refine ⟨by show κ < 5; omega, ha, hb, by show B < 256; omega, ?_, hbl⟩
    show (if κ = 0 then mvd B a e 8 else B) < 256
    split <;> omega
  -- worlds
  have hWl : ∀ q, x + 135 ≤ q → wW E z x sh S q = z q := fun q hq => wW_out (oS_ge hs hq)
  have YW : SY (wW E z x sh S) st l v k n t c y b ad sq := SY_fr Y Z (fun q hq _ => hWl q hq)
  have HW : hEn E (wW E z x sh S) (x + 135) := ⟨hE_w H, fun q hq => by have := H.2 q hq; omega⟩
  obtain ⟨W', v', m', ea, Y', Z', hmm, kW⟩ := y_add (E := E) HW YW Z hxm h0 (by omega) hsok (d + 16)
  have hW' : wW E W' x sh S = W' := wW_abs hs (Nat.le_refl _) kW
  have L' := LIv_s (κ := κ) (a := a) (e := e) (a' := a') (b' := b') hn hk I (LIv_cg (sq' := fun i => if i = k then s else sq i) L (fun i hi => if_neg (by omega))) ok ha hb hab hk2 (by rw [if_pos rfl]; exact hsg.symm)
  have H' : hEn E W' x := hEn_lt H (Nat.le_refl x) (fun q hq => (kW q (by omega)).trans (wW_out (oS_lt hq)))
  have C' : CG S (gStep (gBl g) κ a' b' g) w un := C
  obtain ⟨⟨p0, p1, p2, p4, p5, p6⟩, -, -, -, pm, pD, pw⟩ := id L'
  have YL : SY (wW E W' x sh S) st l v' (k + 1) n t c y b (fun i => if i = k then m else ad i) (fun i => if i = k then s else sq i) := by rw [hW']; exact Y'
  have h100 : 100 ^ (k + 1) ≤ 1000000 := by
    rcases (show k = 0 ∨ k = 1 ∨ k = 2 by omega) with rfl | rfl | rfl <;> decide
  obtain ⟨z2, eL, kL⟩ := y_like (E := E) hn.2 hc hs C' (show x + 135 ≤ m' by omega) YL Z' p0 pw pD (by omega) (d + 10 - 2 * k)
  rw [show d + 10 - 2 * k + 2 * (k + 1) + 8 = d + 20 by omega] at eL
  have hs2 := k_state (E := E) (z := W') (x := x) (n := m') hc C' (k := 2) (by omega) (d + 17)
  have hs1 := k_state (E := E) (z := W') (x := x) (n := m') hc C' (k := 1) (by omega) (d + 17)
  rw [show gTold (gStep (gBl g) κ a' b' g) 2 = gBall κ a' b' g from p1] at hs2
  rw [show gTold (gStep (gBl g) κ a' b' g) 1 = k + 1 from p2] at hs1
  have hball : gBall κ a' b' g < 2 ^ 31 := by
    have := C'.2.2.2.2.2.1.1.2.2.1
    have h8 := C'.2.2.2.2.2.1.1.2.1
    rw [p1] at this
    omega
  have h634 : ∀ bc bs, bc ≤ 400 + 40 * k + 17 → bs ≤ 20300 + 300 * k + 106 → ∃ bc' bs', qL_law_634 E (d + 20) bc bs x0 (nI n) (nI y) (nI (if κ = 0 then mvd B a e 8 else B)) X x st (nI k) (nI (gBall κ a' b' g)) (wW E W' x sh S, m') = qL_law_311 E (d + 20) bc' bs' x0 (nI n) (nI y) (nI (if κ = 0 then mvd B a e 8 else B)) X x st (nI (gBall κ a' b' g)) (nI (k + 1)) (wW E z2 x sh S, m' + 1) ∧ bc' ≤ 400 + 40 * (k + 1) ∧ bs' ≤ 20300 + 300 * (k + 1) := by
    intro bc bs q1 q2
    refine ⟨bc + 1 + 1 + 20, bs + 6 + 6 + 100, ?_, by omega, by omega⟩
    rw [QL_law_634, g_ble (by omega) (by omega), cond_true, gO_8 b0, hs2, cI_s, iEQ_t rfl, g_ble (by omega) (by omega), cond_true, gO_8 b0, hs1, cI_s, nI_add, iEQ_t rfl, g_ble (by omega) (by omega), cond_true, gO_at YL.1, eL, cI_s, iEQ_f (by omega) (by omega) (by omega), QL_law_672, nI_add]
  obtain ⟨bc', bs', e634, c1, c2⟩ := h634 (bc + 1 + 1) (bs + 6 + 10) (by omega) (by omega)
  refine ⟨z2, m' + 1, gBall κ a' b' g, (if κ = 0 then mvd B a e 8 else B), bc', bs', ?_, c1, c2, gStep (gBl g) κ a' b' g, w, un, mGcd (gRaw (gBl g) κ a' b' g) (n + 1) * D, fun i => if i = k then s else sq i, fun i => if i = k then m else ad i, v', C', hEn_lt H' (show x ≤ m' by omega) kL, SY_fr Y' Z' (fun q _ hq => kL q hq), ⟨⟨Z'.1.1, by have := Z'.1.2; omega⟩, ⟨Z'.2.1.1, by have := Z'.2.1.2; omega⟩, fun q => ⟨(Z'.2.2.1 q).1, by have := (Z'.2.2.1 q).2; omega⟩, fun i hi => ⟨(Z'.2.2.2 i hi).1, by have := (Z'.2.2.2 i hi).2; omega⟩⟩, fun q => absurd q (Nat.succ_ne_zero k), by omega, hx0, hz0, L'⟩
  have m1 : xup (wW E z x sh S) m (.inr (9, xdef 9 6)) m = some (.inr (9, xdef 9 6)) := xup_same
  have hsi := y_sight (E := E) (n := m + 1) (s := s) m1 hsok.2.2.2.2.2 (d + 19)
  rw [xup_xup, ← hsg] at hsi
  have hsi' : xsem xT E (d + 20) kX11_init [.ref m, .int (nI κ), .int (nI a), .int (nI e), .int (nI B), .int (nI (if κ = 0 then mvd B a e 8 else B)), .int (nI (gBl g).toNat)] (xup (wW E z x sh S) m (.inr (9, xdef 9 6)), m + 1) = some (.inl none, (xup (wW E z x sh S) m (.inr (9, sgV s)), m + 1)) := by rw [← hsg]; exact hsi
  have hl2 : xup (wW E z x sh S) m (.inr (9, sgV s)) l = some (.inr (13, [.int (nI k), .ref v, .int (nI k)])) := by rw [xup_ne (by have := Z.2.1.2; omega)]; exact YW.2.1
  have h560 : qL_law_560 E (d + 20) bc bs x0 (nI n) (nI y) (nI B) X x st (nI at') (nI k) (nI a) (nI e) (nI (gBl g).toNat) (nI κ) (nI (if κ = 0 then mvd B a e 8 else B)) (wW E z x sh S, m) = qL_law_634 E (d + 20) (bc + 1 + 1) (bs + 6 + 10) x0 (nI n) (nI y) (nI (if κ = 0 then mvd B a e 8 else B)) X x st (nI k) (nI (gBall κ a' b' g)) (wW E W' x sh S, m') := by
    rw [QL_law_560, gR_at YW.1 rfl, g_ble (by omega) (by omega), cond_true]
    unfold nwO
    dsimp only
    first | rw [g_ble (by omega) (by omega), cond_true] | rw [cond_true]
    rw [gO_at m1, hsi', cV_s]
    first | rw [g_ble (by omega) (by omega), cond_true] | rw [cond_true]
    rw [gO_at hl2, ea, cI_s, hW']
    by_cases k0 : κ = 0
    · obtain ⟨r1, r2⟩ := hk2 (by omega)
      rw [iEQ_t k0]
      first | rw [g_ble (by omega) (by omega), cond_true] | rw [cond_true]
      rw [y_by (by omega) (by omega) (by omega), cI_s]
      rw [show gBall κ a' b' g = mBall at' a e by unfold gBall; rw [if_neg (by omega), if_neg (by omega), if_pos k0, g1, r1, r2]]
    · rw [iEQ_f k0 (by omega) (by omega), QL_law_611]
      by_cases k3 : κ = 3
      · rw [iEQ_t k3, show gBall κ a' b' g = n by unfold gBall; rw [if_pos k3, g0]]
      · rw [iEQ_f k3 (by omega) (by omega), QL_law_621]
        by_cases k4 : κ = 4
        · rw [iEQ_t k4, show gBall κ a' b' g = a by unfold gBall; rw [if_neg k3, if_pos k4, h4 k4]]
        · rw [iEQ_f k4 (by omega) (by omega), QL_law_632, show gBall κ a' b' g = at' by unfold gBall; rw [if_neg k3, if_neg k4, if_neg k0, g1]]
  rw [← e634, ← h560, QL_law_541]
  by_cases k0 : κ = 0
  · rw [iEQ_t k0, g_ble (by omega) (by omega), cond_true, y_moved (by omega) (by omega) (by omega), cI_s, if_pos k0]
  · rw [iEQ_f k0 (by omega) (by omega), QL_law_558, if_neg k0]
end V541
