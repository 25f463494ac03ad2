/-! THE LAW'S LIST OF SIGHTS, and what it reckons with them. -/
theorem hW_up {E : xEn} {w : Nat → Option va_E} {a : Nat} {e : va_E} (H : hW E w) (h : w a ≠ none) : hW E (xup w a e) := ⟨H.1, fun q hq => by
  have hne : q ≠ a := by
    rintro rfl
    exact h (H.2 _ hq)
  rw [xup_ne hne]
  exact H.2 q hq⟩
theorem hEn_up {E : xEn} {w : Nat → Option va_E} {a n : Nat} {e : va_E} (H : hEn E w n) (h : w a ≠ none) : hEn E (xup w a e) n := ⟨hW_up H.1 h, H.2⟩
theorem hEn_nw {E : xEn} {w : Nat → Option va_E} {n : Nat} {e : va_E} (H : hEn E w n) : hEn E (xup w n e) (n + 1) := ⟨⟨H.1.1, fun q hq => by
  rw [xup_ne (by have := H.2 q hq; omega)]
  exact H.1.2 q hq⟩, fun q hq => Nat.lt_succ_of_lt (H.2 q hq)⟩
section LST
variable {E : xEn} {w : Nat → Option va_E} {n l v k b : Nat} {q : Nat → Option Nat} {fs : List Value}
theorem a_init (h : w l = some (.inr (13, [.int (nI 0), .null, .int (nI 0)]))) (d : Nat) : xsem xT E (d + 3) kJx4a65c_init_da8c8 [.ref l] (w, n) = some (.inl none, (xup w l (.inr (13, [.int (nI 0), .ref (eDc E), .int (nI 0)])), n)) := by
  generalize hw1 : xup w l (.inr (13, [.int (nI 0), .null, .int (nI 0)])) = w1
  have h1 : w1 l = some (.inr (13, [.int (nI 0), .null, .int (nI 0)])) := by rw [← hw1, xup_same]
  rw [eJx4a65c_init_da8c8, QJx4a65c_init_da8c8_0, gO_at h, eJxc12de_init_da8c8, QJxc12de_init_da8c8_0, gO_at h, eJxa1e45_init_da8c8, QJxa1e45_init_da8c8_0, cV_s, gP_at h rfl, cV_s]
  rw [show xup w l (.inr (13, ([.int (nI 0), .null, .int (nI 0)] : List Value).set 0 (.int (nI 0)))) = w1 from hw1, gP_at h1 rfl, ← hw1, xup_xup]
  rfl
theorem a_size (h : w l = some (.inr (13, [.int (nI k), .ref v, .int (nI k)]))) (d : Nat) : xsem xT E (d + 1) kJx4a65c_size_8abf5 [.ref l] (w, n) = some (.inl (some (.int (nI k))), (w, n)) := by
  rw [eJx4a65c_size_8abf5, QJx4a65c_size_8abf5_0, gI_at h rfl]
theorem a_get (h : w l = some (.inr (13, [.int (nI k), .ref v, .int (nI k)]))) (hv : w v = some (.inl (6, 10, .inr (.inr (.inr (.inr q)))))) {i : Nat} (hi : i < k) (hk : k ≤ 10) (hb : q i = some b) (d : Nat) : xsem xT E (d + 3) kJx4a65c_get_915e3 [.ref l, .int (nI i)] (w, n) = some (.inl (some (.ref b)), (w, n)) := by
  rw [eJx4a65c_get_915e3, QJx4a65c_get_915e3_0, gI_at h rfl, eJ15_checkIndex_7cf53, QJ15_checkIndex_7cf53_0, eJ3_checkIndex_8e157 (hv := rfl), QJ3_checkIndex_8e157_0, iLT_f (by omega) (by omega), iLT_t hi (by omega), QJ3_checkIndex_8e157_16, cI_s, cI_s, gO_at h, eJx4a65c_elementData_915e3, QJx4a65c_elementData_915e3_0, gR_at h rfl, aQ_at hv (by omega) (by omega) hb, cA_s]
theorem a_add0 (h : w l = some (.inr (13, [.int (nI 0), .ref (eDc E), .int (nI 0)]))) (H : hEn E w n) (hb : w b = some (.inr (9, fs))) (hl : l < n) (hbn : b < n) (hbl : b ≠ l) (d : Nat) :
    ∃ w', xsem xT E (d + 4) kJx4a65c_add_9ea2d [.ref l, .ref b] (w, n) = some (.inl (some (.int (nI 1))), (w', n + 1)) ∧ w' l = some (.inr (13, [.int (nI 1), .ref n, .int (nI 1)])) ∧ w' n = some (.inl (6, 10, .inr (.inr (.inr (.inr (va_up (fun _ => none) 0 (some b))))))) ∧ ∀ a, a ≠ l → a < n → w' a = w a := by
  have hc : (nI 10).toNatClampNeg = 10 := nI_clamp (by omega)
  have hm : mxI (nI 10) (nI 1) = nI 10 := by decide
  generalize hw1 : xup w l (.inr (13, [.int (nI 1), .ref (eDc E), .int (nI 0)])) = w1
  have h1 : w1 l = some (.inr (13, [.int (nI 1), .ref (eDc E), .int (nI 0)])) := by rw [← hw1, xup_same]
  have H1 : hW E w1 := by rw [← hw1]; exact hW_up H.1 (by rw [h]; exact Option.some_ne_none _)
  generalize hw2 : xup w1 n (.inl (6, 10, .inr (.inr (.inr (.inr fun _ => none))))) = w2
  have h2 : w2 l = some (.inr (13, [.int (nI 1), .ref (eDc E), .int (nI 0)])) := by rw [← hw2, xup_ne (by omega)]; exact h1
  generalize hw3 : xup w2 l (.inr (13, [.int (nI 1), .ref n, .int (nI 0)])) = w3
  have h3 : w3 l = some (.inr (13, [.int (nI 1), .ref n, .int (nI 0)])) := by rw [← hw3, xup_same]
  have g3 : w3 n = some (.inl (6, 10, .inr (.inr (.inr (.inr fun _ => none))))) := by rw [← hw3, xup_ne (by omega), ← hw2, xup_same]
  have b3 : w3 b = some (.inr (9, fs)) := by rw [← hw3, xup_ne hbl, ← hw2, xup_ne (by omega), ← hw1, xup_ne hbl]; exact hb
  generalize hw4 : xup w3 n (.inl (6, 10, .inr (.inr (.inr (.inr (va_up (fun _ => none) 0 (some b))))))) = w4
  have h4 : w4 l = some (.inr (13, [.int (nI 1), .ref n, .int (nI 0)])) := by rw [← hw4, xup_ne (by omega)]; exact h3
  refine ⟨xup w4 l (.inr (13, [.int (nI 1), .ref n, .int (nI 1)])), ?_, xup_same, by rw [xup_ne (by omega), ← hw4, xup_same], fun a a1 a2 => by rw [xup_ne a1, ← hw4, xup_ne (by omega), ← hw3, xup_ne a1, ← hw2, xup_ne (by omega), ← hw1, xup_ne a1]⟩
  rw [eJx4a65c_add_9ea2d, QJx4a65c_add_9ea2d_0, gI_at h rfl, nI_add, gP_at h rfl]
  rw [show xup w l (.inr (13, ([.int (nI 0), .ref (eDc E), .int (nI 0)] : List Value).set 0 (.int (nI (0 + 1))))) = w1 from hw1, gR_at h1 rfl, gI_at h1 rfl, show (Nat.ble (0 + 1) 1 && Nat.ble (0 + 10) 10) = true from rfl, cond_true, gO_at h1]
  rw [eJx4a65c_add_72be8, QJx4a65c_add_72be8_0, aN_c H1, if_pos rfl, show (Nat.ble (0 + 1) 1 && Nat.ble (0 + 10) 10) = true from rfl, cond_true, gO_at h1]
  rw [eJx4a65c_grow_d5877, QJx4a65c_grow_d5877_0, gI_at h1 rfl, show (Nat.ble (0 + 1) 1 && Nat.ble (0 + 10) 10) = true from rfl, cond_true, gO_at h1, nI_add]
  rw [eJx4a65c_grow_92f84, QJx4a65c_grow_92f84_0, gR_at h1 rfl, aN_c H1, iLT_f (Nat.le_refl 0) (by omega), gR_at h1 rfl, Nat.beq_refl, cond_true, QJx4a65c_grow_92f84_45, hm, hc, show (decide (¬ nI 10 < 0) && (Nat.ble (0 + 1) 1 && (Nat.ble (0 + 10) 10 && Nat.ble 10 100000))) = true from rfl, cond_true]
  unfold nwQ
  dsimp only
  rw [hw2, gP_at h2 rfl]
  rw [show xup w2 l (.inr (13, ([.int (nI 1), .ref (eDc E), .int (nI 0)] : List Value).set 1 (.ref n))) = w3 from hw3, cA_s, cA_s, QJx4a65c_add_72be8_11, sQ_at g3 (by omega) (by omega) b3, hw4, gP_at h4 rfl, nI_add, cV_s]
  rfl
theorem a_add (h : w l = some (.inr (13, [.int (nI k), .ref v, .int (nI k)]))) (hv : w v = some (.inl (6, 10, .inr (.inr (.inr (.inr q)))))) (hk : k < 10) (hb : w b = some (.inr (9, fs))) (hlv : l ≠ v) (hbl : b ≠ l) (hbv : b ≠ v) (d : Nat) :
    ∃ w', xsem xT E (d + 4) kJx4a65c_add_9ea2d [.ref l, .ref b] (w, n) = some (.inl (some (.int (nI 1))), (w', n)) ∧ w' l = some (.inr (13, [.int (nI (k + 1)), .ref v, .int (nI (k + 1))])) ∧ w' v = some (.inl (6, 10, .inr (.inr (.inr (.inr (va_up q k (some b))))))) ∧ ∀ a, a ≠ l → a ≠ v → w' a = w a := by
  generalize hw1 : xup w l (.inr (13, [.int (nI (k + 1)), .ref v, .int (nI k)])) = w1
  have h1 : w1 l = some (.inr (13, [.int (nI (k + 1)), .ref v, .int (nI k)])) := by rw [← hw1, xup_same]
  have v1 : w1 v = some (.inl (6, 10, .inr (.inr (.inr (.inr q))))) := by rw [← hw1, xup_ne (Ne.symm hlv)]; exact hv
  have b1 : w1 b = some (.inr (9, fs)) := by rw [← hw1, xup_ne hbl]; exact hb
  generalize hw2 : xup w1 v (.inl (6, 10, .inr (.inr (.inr (.inr (va_up q k (some b))))))) = w2
  have h2 : w2 l = some (.inr (13, [.int (nI (k + 1)), .ref v, .int (nI k)])) := by rw [← hw2, xup_ne hlv]; exact h1
  refine ⟨xup w2 l (.inr (13, [.int (nI (k + 1)), .ref v, .int (nI (k + 1))])), ?_, xup_same, by rw [xup_ne (Ne.symm hlv), ← hw2, xup_same], fun a a1 a2 => by rw [xup_ne a1, ← hw2, xup_ne a2, ← hw1, xup_ne a1]⟩
  rw [eJx4a65c_add_9ea2d, QJx4a65c_add_9ea2d_0, gI_at h rfl, nI_add, gP_at h rfl]
  rw [show xup w l (.inr (13, ([.int (nI k), .ref v, .int (nI k)] : List Value).set 0 (.int (nI (k + 1))))) = w1 from hw1, gR_at h1 rfl, gI_at h1 rfl, show (Nat.ble (0 + 1) 1 && Nat.ble (0 + 10) 10) = true from rfl, cond_true, gO_at h1]
  rw [eJx4a65c_add_72be8, QJx4a65c_add_72be8_0, aN_at v1 rfl, iEQ_f (by omega) (by omega) (by omega), QJx4a65c_add_72be8_11, sQ_at v1 (by omega) (by omega) b1, hw2, gP_at h2 rfl, nI_add, cV_s]
  rfl
end LST
/-! SIGHTS: kind, a, b, before, after, whether at a blink. -/
abbrev Sg : Type := Nat × Nat × Nat × Nat × Nat × Nat
def sgV (s : Sg) : List Value := [.int (nI s.1), .int (nI s.2.1), .int (nI s.2.2.1), .int (nI s.2.2.2.1), .int (nI s.2.2.2.2.1), .int (nI s.2.2.2.2.2)]
section SGT
variable {E : xEn} {w : Nat → Option va_E} {n b : Nat}
theorem y_sight {s : Sg} (h : w b = some (.inr (9, xdef 9 6))) (h5 : s.2.2.2.2.2 ≤ 1) (d : Nat) : xsem xT E (d + 1) kX11_init [.ref b, .int (nI s.1), .int (nI s.2.1), .int (nI s.2.2.1), .int (nI s.2.2.2.1), .int (nI s.2.2.2.2.1), .int (nI s.2.2.2.2.2)] (w, n) = some (.inl none, (xup w b (.inr (9, sgV s)), n)) := by
  have hnar : narrow FieldType.boolean (Value.int (nI s.2.2.2.2.2)) = Value.int (nI s.2.2.2.2.2) := by
    rcases (show s.2.2.2.2.2 = 0 ∨ s.2.2.2.2.2 = 1 by omega) with e | e <;> rw [e] <;> rfl
  have go : ∀ (w : Nat → Option va_E) (f : List Value) (k : Nat) (v : Value) (e : List Value) {ρ : Type} {K : xH → Option ρ}, Nat.blt k f.length = true → f.set k v = e → gP (xup w b (.inr (9, f)), n) 9 k b v K = K (xup w b (.inr (9, e)), n) := by
    intro w f k v e ρ K hk he
    rw [gP_at xup_same hk, he, xup_xup]
  have hw : w = xup w b (.inr (9, xdef 9 6)) := by
    funext a
    by_cases c : a = b
    · rw [c, h, xup_same]
    · rw [xup_ne c]
  rw [eX11_init, QX11_init_0]
  rw [hw, go w _ 0 _ [.int (nI s.1), .int (nI 0), .int (nI 0), .int (nI 0), .int (nI 0), .int (nI 0)] rfl rfl]
  rw [go w _ 1 _ [.int (nI s.1), .int (nI s.2.1), .int (nI 0), .int (nI 0), .int (nI 0), .int (nI 0)] rfl rfl]
  rw [go w _ 2 _ [.int (nI s.1), .int (nI s.2.1), .int (nI s.2.2.1), .int (nI 0), .int (nI 0), .int (nI 0)] rfl rfl]
  rw [go w _ 3 _ [.int (nI s.1), .int (nI s.2.1), .int (nI s.2.2.1), .int (nI s.2.2.2.1), .int (nI 0), .int (nI 0)] rfl rfl]
  rw [go w _ 4 _ [.int (nI s.1), .int (nI s.2.1), .int (nI s.2.2.1), .int (nI s.2.2.2.1), .int (nI s.2.2.2.2.1), .int (nI 0)] rfl rfl]
  rw [if_pos hnar, go w _ 5 _ (sgV s) rfl rfl, xup_xup]
theorem y_by {σ : xH} {p a c : Nat} (hp : p < 2 ^ 31) (ha : a < 2 ^ 31) (hb : c < 2 ^ 31) (d : Nat) : xsem xT E (d + 1) kX12_by [.int (nI p), .int (nI a), .int (nI c)] σ = some (.inl (some (.int (nI (mBall p a c)))), σ) := by
  rw [eX12_by, QX12_by_0]
  unfold mBall
  by_cases e : p = a
  · rw [iEQ_t e, if_pos e, QX12_by_19]
  · rw [iEQ_f e hp ha, if_neg e, QX12_by_9]
    by_cases e2 : p = c
    · rw [iEQ_t e2, if_pos e2, QX12_by_19]
    · rw [iEQ_f e2 hp hb, if_neg e2, QX12_by_18, QX12_by_19]
/-- a set after two shells changed places -/
def mvd (s a c : Nat) : Nat → Nat
  | 0 => 0
  | i + 1 => mvd s a c i ||| bbit s i <<< mBall i a c
theorem or_sh : ∀ u, u < 256 → ∀ v, v ≤ 1 → ∀ q, q < 8 → nI u ||| (nI v <<< (nI q &&& 31)) = nI (u ||| v <<< q) ∧ (u ||| v <<< q) < 256 := by decide +kernel
theorem mBall_lt {p a c N : Nat} (hp : p < N) (ha : a < N) (hc : c < N) : mBall p a c < N := by
  unfold mBall
  split
  · exact hc
  · split <;> assumption
theorem mvd_lt {s a c : Nat} (ha : a < 8) (hc : c < 8) : ∀ i, i ≤ 8 → mvd s a c i < 256 := by
  intro i
  induction i with
  | zero => exact fun _ => by show 0 < 256; omega
  | succ i ih => exact fun h => (or_sh _ (ih (by omega)) _ (bbit_le s i) _ (mBall_lt (by omega) ha hc)).2
theorem y_moved {σ : xH} {s a c : Nat} (hs : s < 256) (ha : a < 8) (hc : c < 8) (d : Nat) : xsem xT E (d + 2) kX12_moved [.int (nI s), .int (nI a), .int (nI c)] σ = some (.inl (some (.int (nI (mvd s a c 8)))), σ) := by
  have go : ∀ k i, i + k = 8 → qX12_moved_5 E (d + 1) (nI s) (nI a) (nI c) (nI (mvd s a c i)) (nI i) σ = some (.inl (some (.int (nI (mvd s a c 8)))), σ) := by
    intro k
    induction k with
    | zero =>
      intro i hi
      have hi : i = 8 := hi
      subst hi
      rw [QX12_moved_5, iLE_t (Nat.le_refl _) (by omega), QX12_moved_35]
    | succ k ih =>
      intro i hi
      rw [QX12_moved_5, iLE_f (show i < 8 by omega) (by omega), y_by (by omega) (by omega) (by omega), cI_s, nI_add, bb_get s hs i (by omega), (or_sh _ (mvd_lt ha hc i (by omega)) _ (bbit_le s i) _ (mBall_lt (by omega) ha hc)).1]
      exact ih (i + 1) (by omega)
  rw [eX12_moved, QX12_moved_0]
  exact go 8 0 rfl
end SGT
