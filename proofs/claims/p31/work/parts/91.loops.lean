/-! THE LAW'S LOOPS OVER THE TEXT, THE CLASS MADE AND READ INTO, THE STORY BEGUN. -/
def ssL (rr : Nat) : Nat → Nat → List (Nat × Nat)
  | _, 0 => []
  | p, r + 1 => if bbit rr p = 1 then (15, p) :: ssL rr (p + 1) r else ssL rr (p + 1) r
def bkb (X : Int32) (k : Nat) : Bool := decide ((X >>> (nI k &&& 31)) &&& nI 1 = nI 1)
def bsL (X : Int32) : Nat → Nat → List (Nat × Nat)
  | _, 0 => []
  | p, r + 1 => if bkb X p = true then (20, p) :: bsL X (p + 1) r else bsL X (p + 1) r
theorem stx_15 {p : Nat} : stx (15, p) = lit 32 ++ dg p ++ [59] := by
  show wl 15 ++ 32 :: (dg p ++ [59]) = _
  rw [show lit 32 = wl 15 ++ [32] from rfl]
  simp only [List.append_assoc, List.cons_append, List.nil_append]
theorem stx_20 {p : Nat} : stx (20, p) = lit 33 ++ dg p ++ [32] ++ dg p ++ [59] := by
  show wl 20 ++ 32 :: (dg p ++ 32 :: (dg p ++ [59])) = _
  rw [show lit 33 = wl 20 ++ [32] from rfl]
  simp only [List.append_assoc, List.cons_append, List.nil_append]
theorem stx_len {s : Nat × Nat} (h1 : s.1 = 15 ∨ s.1 = 20) (h2 : s.2 < 10) : (stx s).length = 10 := by
  obtain ⟨a, b⟩ := s
  have hb : b < 10 := h2
  rcases h1 with h1 | h1
  · have h1 : a = 15 := h1
    subst h1
    rw [stx_15]
    simp only [List.length_append, dg_1 hb]
    rfl
  · have h1 : a = 20 := h1
    subst h1
    rw [stx_20]
    simp only [List.length_append, dg_1 hb]
    rfl
theorem stL_app {l l' : List (Nat × Nat)} : stL (l ++ l') = stL l ++ stL l' := by
  induction l with
  | nil => rfl
  | cons s l ih =>
    show stx s ++ stL (l ++ l') = stx s ++ stL l ++ stL l'
    rw [ih, List.append_assoc]
section VL
variable {E : xEn} {x0 a lo M nn rr : Nat} {X u2 u3 u4 u5 : Int32}
theorem v_168 (hM : M ≤ 120) (hn : nn ≤ 4) (hr : rr < 256) (d : Nat) :
    ∀ r p bc bs w n t, p + r = nn → bc ≤ 100 + 3 * p → bs ≤ 4000 + 750 * p → tb w n a t M lo → hEn E w lo → t.length + 10 * r ≤ M →
      ∃ w' n' bc' bs', qL_law_168 E (d + 20) bc bs x0 (nI nn) u2 u3 u4 u5 (nI rr) X a (nI p) (w, n) = qL_law_209 E (d + 20) bc' bs' x0 (nI nn) u2 u3 u4 u5 (nI rr) X a (w', n') ∧ bc' ≤ 100 + 3 * nn ∧ bs' ≤ 4000 + 750 * nn ∧ tb w' n' a (t ++ stL (ssL rr p r)) M lo ∧ hEn E w' lo ∧ n ≤ n' ∧ ∀ b, b < lo → w' b = w b := by
  intro r
  induction r with
  | zero =>
    intro p bc bs w n t hp h1 h2 T H _
    have hp : p = nn := hp
    subst hp
    refine ⟨w, n, bc, bs, ?_, h1, h2, by rw [show t ++ stL (ssL rr p 0) = t from List.append_nil t]; exact T, H, Nat.le_refl _, fun _ _ => rfl⟩
    rw [QL_law_168, iLE_t (Nat.le_refl _) (by omega)]
  | succ r ih =>
    intro p bc bs w n t hp h1 h2 T H hl
    rw [QL_law_168, iLE_f (show p < nn by omega) (by omega), bb_get rr hr p (by omega)]
    have hb := bbit_le rr p
    by_cases e : bbit rr p = 1
    · have D := dg_1 (show p < 10 by omega)
      have L32 : (lit 32).length = 8 := rfl
      obtain ⟨w1, n1, e1, T1, H1, p1, k1⟩ := q_lit T H hM (j := 32) (by unfold isL; omega) (by omega) (d + 14)
      obtain ⟨w2, n2, e2, T2, H2, p2, k2⟩ := q_int T1 H1 hM (k := p) (by omega) (by simp only [List.length_append]; omega) (d + 15)
      obtain ⟨w3, n3, e3, T3, H3, p3, k3⟩ := q_chr T2 H2 hM (c := 59) (by omega) (by simp only [List.length_append]; omega) (d + 15)
      have hT : t ++ lit 32 ++ dg p ++ [59] = t ++ stx (15, p) := by rw [stx_15]; simp only [List.append_assoc]
      rw [hT] at T3
      have hlx := stx_len (s := (15, p)) (Or.inl rfl) (show p < 10 by omega)
      obtain ⟨w4, n4, bc4, bs4, e4, c1, c2, T4, H4, p4, k4⟩ := ih (p + 1) (bc + 1 + 1 + 1) (bs + 250 + 250 + 250) w3 n3 (t ++ stx (15, p)) (by omega) (by omega) (by omega) T3 H3 (by rw [List.length_append]; omega)
      refine ⟨w4, n4, bc4, bs4, ?_, c1, c2, ?_, H4, by omega, fun b hb => (k4 b hb).trans ((k3 b hb).trans ((k2 b hb).trans (k1 b hb)))⟩
      · rw [iEQ_t e, g_ble (by omega) (by omega), cond_true, tb_O T, e1, cA_s, g_ble (by omega) (by omega), cond_true, tb_O T1, e2, cA_s, g_ble (by omega) (by omega), cond_true, tb_O T2, e3, cA_s, QL_law_203, nI_add, e4]
      · rw [show ssL rr p (r + 1) = (15, p) :: ssL rr (p + 1) r from if_pos e, show stL ((15, p) :: ssL rr (p + 1) r) = stx (15, p) ++ stL (ssL rr (p + 1) r) from rfl, ← List.append_assoc]
        exact T4
    · obtain ⟨w4, n4, bc4, bs4, e4, c1, c2, T4, H4, p4, k4⟩ := ih (p + 1) bc bs w n t (by omega) (by omega) (by omega) T H (by omega)
      refine ⟨w4, n4, bc4, bs4, ?_, c1, c2, ?_, H4, p4, k4⟩
      · rw [iEQ_f e (by omega) (by omega), QL_law_203, nI_add, e4]
      · rw [show ssL rr p (r + 1) = ssL rr (p + 1) r from if_neg e]
        exact T4
theorem v_212 (hM : M ≤ 120) (d : Nat) :
    ∀ r p bc bs w n t, p + r = 3 → bc ≤ 200 + 5 * p → bs ≤ 8000 + 1250 * p → tb w n a t M lo → hEn E w lo → t.length + 10 * r ≤ M →
      ∃ w' n' bc' bs', qL_law_212 E (d + 20) bc bs x0 (nI nn) u2 u3 u4 u5 (nI rr) X a (nI p) (w, n) = qL_law_263 E (d + 20) bc' bs' x0 (nI nn) u2 u3 u4 u5 (nI rr) X a (w', n') ∧ bc' ≤ 215 ∧ bs' ≤ 11750 ∧ tb w' n' a (t ++ stL (bsL X p r)) M lo ∧ hEn E w' lo ∧ n ≤ n' ∧ ∀ b, b < lo → w' b = w b := by
  intro r
  induction r with
  | zero =>
    intro p bc bs w n t hp h1 h2 T H _
    have hp : p = 3 := hp
    subst hp
    refine ⟨w, n, bc, bs, ?_, h1, h2, by rw [show t ++ stL (bsL X 3 0) = t from List.append_nil t]; exact T, H, Nat.le_refl _, fun _ _ => rfl⟩
    rw [QL_law_212, iLE_t (Nat.le_refl _) (by omega)]
  | succ r ih =>
    intro p bc bs w n t hp h1 h2 T H hl
    rw [QL_law_212, iLE_f (show p < 3 by omega) (by omega)]
    by_cases e : (X >>> (nI p &&& 31)) &&& nI 1 = nI 1
    · have D := dg_1 (show p < 10 by omega)
      have L33 : (lit 33).length = 6 := rfl
      have hbk : bkb X p = true := decide_eq_true e
      obtain ⟨w1, n1, e1, T1, H1, p1, k1⟩ := q_lit T H hM (j := 33) (by unfold isL; omega) (by omega) (d + 14)
      obtain ⟨w2, n2, e2, T2, H2, p2, k2⟩ := q_int T1 H1 hM (k := p) (by omega) (by simp only [List.length_append]; omega) (d + 15)
      obtain ⟨w3, n3, e3, T3, H3, p3, k3⟩ := q_chr T2 H2 hM (c := 32) (by omega) (by simp only [List.length_append]; omega) (d + 15)
      obtain ⟨w5, n5, e5, T5, H5, p5, k5⟩ := q_int T3 H3 hM (k := p) (by omega) (by simp only [List.length_append, List.length_cons, List.length_nil]; omega) (d + 15)
      obtain ⟨w6, n6, e6, T6, H6, p6, k6⟩ := q_chr T5 H5 hM (c := 59) (by omega) (by simp only [List.length_append, List.length_cons, List.length_nil]; omega) (d + 15)
      have hT : t ++ lit 33 ++ dg p ++ [32] ++ dg p ++ [59] = t ++ stx (20, p) := by rw [stx_20]; simp only [List.append_assoc]
      rw [hT] at T6
      have hlx := stx_len (s := (20, p)) (Or.inr rfl) (show p < 10 by omega)
      obtain ⟨w4, n4, bc4, bs4, e4, c1, c2, T4, H4, p4, k4⟩ := ih (p + 1) (bc + 1 + 1 + 1 + 1 + 1) (bs + 250 + 250 + 250 + 250 + 250) w6 n6 (t ++ stx (20, p)) (by omega) (by omega) (by omega) T6 H6 (by rw [List.length_append]; omega)
      refine ⟨w4, n4, bc4, bs4, ?_, c1, c2, ?_, H4, by omega, fun b hb => (k4 b hb).trans ((k6 b hb).trans ((k5 b hb).trans ((k3 b hb).trans ((k2 b hb).trans (k1 b hb)))))⟩
      · rw [if_pos e, g_ble (by omega) (by omega), cond_true, tb_O T, e1, cA_s, g_ble (by omega) (by omega), cond_true, tb_O T1, e2, cA_s, g_ble (by omega) (by omega), cond_true, tb_O T2, e3, cA_s, g_ble (by omega) (by omega), cond_true, tb_O T3, e5, cA_s, g_ble (by omega) (by omega), cond_true, tb_O T5, e6, cA_s, QL_law_257, nI_add, e4]
      · rw [show bsL X p (r + 1) = (20, p) :: bsL X (p + 1) r from if_pos hbk, show stL ((20, p) :: bsL X (p + 1) r) = stx (20, p) ++ stL (bsL X (p + 1) r) from rfl, ← List.append_assoc]
        exact T4
    · have hbk : ¬ bkb X p = true := by unfold bkb; rw [decide_eq_true_iff]; exact e
      obtain ⟨w4, n4, bc4, bs4, e4, c1, c2, T4, H4, p4, k4⟩ := ih (p + 1) bc bs w n t (by omega) (by omega) (by omega) T H (by omega)
      refine ⟨w4, n4, bc4, bs4, ?_, c1, c2, ?_, H4, p4, k4⟩
      · rw [if_neg e, QL_law_257, nI_add, e4]
      · rw [show bsL X p (r + 1) = bsL X (p + 1) r from if_neg hbk]
        exact T4
end VL
/-! worlds around the class's cells -/
theorem wW_none {E : xEn} {z : Nat → Option va_E} {x : Nat} {S : xSt} : wW E z x (fun _ => none) S = z := by
  funext a
  unfold wW
  cases Nat.ble x a <;> rfl
theorem wW_obj {E : xEn} {z : Nat → Option va_E} {x : Nat} : xup z x (.inr (8, xdef 8 7)) = wW E z x (shU (fun _ => none) 0 nh8) zst := by
  have h := wW_new (E := E) (z := z) (x := x) (sh := fun _ => none) (S := zst) (q := 0) (h := nh8)
  rw [wW_none] at h
  exact h
theorem wW_abs {E : xEn} {z w' : Nat → Option va_E} {x n : Nat} {sh : Nat → Option xSh} {S : xSt} (hs : ∀ j, 135 ≤ j → sh j = none) (hx : x + 135 ≤ n) (h : ∀ q, q < n → w' q = wW E z x sh S q) : wW E w' x sh S = w' := by
  funext a
  unfold wW
  cases hb : Nat.ble x a
  · rfl
  · rw [cond_true]
    have hle := Nat.le_of_ble_eq_true hb
    cases hh : sh (a - x) with
    | none => rfl
    | some v =>
      have h1 : a - x < 135 := by
        by_cases c : a - x < 135
        · exact c
        · rw [hs _ (by omega)] at hh
          cases hh
      rw [h a (by omega)]
      have h2 := wW_at (E := E) (z := z) (x := x) (S := S) hh
      rw [show x + (a - x) = a by omega] at h2
      exact h2.symm
theorem oS_lt {sh : Nat → Option xSh} {x a : Nat} (h : a < x) : oS sh x a := fun z => absurd z (by omega)
theorem oS_ge {sh : Nat → Option xSh} {x a : Nat} (hs : ∀ j, 135 ≤ j → sh j = none) (h : x + 135 ≤ a) : oS sh x a := fun _ => hs _ (by omega)
section STO
variable {E : xEn} {w : Nat → Option va_E} {n st N T C Y B : Nat}
theorem y_story (h : w st = some (.inr (10, xdef 10 6))) (hst : st < n) (hN : N ≤ 8) (hT : T ≤ 100) (hC : C < 100) (hY : Y < 100) (hB : B ≤ N) (d : Nat) :
    ∃ w', xsem xT E (d + 4) kX12_init [.ref st, .int (nI N), .int (nI T), .int (nI C), .int (nI Y), .int (nI B)] (w, n) = some (.inl none, (w', n + 1)) ∧ (∀ ad sq, SY w' st n (eDc E) 0 N T C Y B ad sq) ∧ ∀ q, q ≠ st → q < n → w' q = w q := by
  have go : ∀ (w : Nat → Option va_E) (f : List Value) (k : Nat) (v : Value) (e : List Value) {ρ : Type} {m : Nat} {K : xH → Option ρ}, Nat.blt k f.length = true → f.set k v = e → gP (xup w st (.inr (10, f)), m) 10 k st v K = K (xup w st (.inr (10, e)), m) := by
    intro w f k v e ρ m K hk he
    rw [gP_at xup_same hk, he, xup_xup]
  generalize hw1 : xup w n (.inr (13, xdef 13 3)) = w1
  have h1 : w1 n = some (.inr (13, [.int (nI 0), .null, .int (nI 0)])) := by rw [← hw1, xup_same]; rfl
  generalize hw2 : xup w1 n (.inr (13, [.int (nI 0), .ref (eDc E), .int (nI 0)])) = w2
  have h2 : w2 st = some (.inr (10, xdef 10 6)) := by rw [← hw2, xup_ne (by omega), ← hw1, xup_ne (by omega)]; exact h
  have hw : w2 = xup w2 st (.inr (10, xdef 10 6)) := (xup_self h2).symm
  refine ⟨xup w2 st (.inr (10, [.ref n, .int (nI N), .int (nI T), .int (nI C), .int (nI Y), .int (nI B)])), ?_, fun ad sq => ⟨xup_same, by rw [xup_ne (by omega), ← hw2, xup_same], fun z => absurd z (Nat.lt_irrefl 0), fun i hi => absurd hi (Nat.not_lt_zero i), by omega, hN, hT, hC, hY, hB, fun i hi => absurd hi (Nat.not_lt_zero i)⟩, fun q q1 q2 => by rw [xup_ne q1, ← hw2, xup_ne (by omega), ← hw1, xup_ne (by omega)]⟩
  rw [eX12_init, QX12_init_0, show (Nat.ble (0 + 1) 1 && Nat.ble (0 + 3) 3) = true from rfl, cond_true]
  unfold nwO
  dsimp only
  rw [hw1, cond_true, gO_at h1, a_init h1, cV_s, hw2, hw]
  rw [go w2 _ 0 _ [.ref n, .int (nI 0), .int (nI 0), .int (nI 0), .int (nI 0), .int (nI 0)] rfl rfl]
  rw [go w2 _ 1 _ [.ref n, .int (nI N), .int (nI 0), .int (nI 0), .int (nI 0), .int (nI 0)] rfl rfl]
  rw [go w2 _ 2 _ [.ref n, .int (nI N), .int (nI T), .int (nI 0), .int (nI 0), .int (nI 0)] rfl rfl]
  rw [go w2 _ 3 _ [.ref n, .int (nI N), .int (nI T), .int (nI C), .int (nI 0), .int (nI 0)] rfl rfl]
  rw [go w2 _ 4 _ [.ref n, .int (nI N), .int (nI T), .int (nI C), .int (nI Y), .int (nI 0)] rfl rfl]
  rw [go w2 _ 5 _ [.ref n, .int (nI N), .int (nI T), .int (nI C), .int (nI Y), .int (nI B)] rfl rfl, xup_xup]
end STO
