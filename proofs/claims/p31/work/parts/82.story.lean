/-! STORIES: the weight of all of them, as the law reckons it. -/
theorem nI_64 {v : Nat} (h : v < 2 ^ 31) : (nI v).toInt64 = lN v := by
  refine Int64.toInt_inj.1 ?_
  rw [Int32.toInt_toInt64, nI_toInt h]
  exact (Int64.toInt_ofNat_of_lt (by omega)).symm
section WGT
variable (n t c y b : Nat) (s : Sg) (f : Nat → Nat) (p : Nat)
def wOp : Nat := if s.1 = 2 then f p else if bbit s.2.2.2.1 s.2.1 = bbit s.2.2.2.1 s.2.2.1 then (if p = s.2.1 ∨ p = s.2.2.1 then (100 - t) * f p + t * f (mBall p s.2.1 s.2.2.1) else 100 * f p) else if s.1 = 0 then f (mBall p s.2.1 s.2.2.1) else f p
def wPr (i : Nat) : Nat → Nat
  | 0 => 0
  | j + 1 => wPr i j + if mvd s.2.2.2.1 i j 8 = s.2.2.2.2.1 then f (mBall p i j) else 0
def wPs : Nat → Nat
  | 0 => 0
  | i + 1 => wPs i + wPr s f p i i
def wHd : Nat → Nat
  | 0 => 0
  | q + 1 => wHd q + if p = n then y * (f n + f q) else y * (if q = p then f p + f n else 2 * f p)
def wBl : Nat := if s.2.2.2.1 = s.2.2.2.2.1 then wPs s f p n + c * f p + wHd n y f p n else wPs s f p n
end WGT
def wgt (n t c y b : Nat) (sq : Nat → Sg) : Nat → Nat → Nat
  | 0, p => if p = b then 1 else 0
  | k + 1, p => if (sq k).2.2.2.2.2 = 0 then wOp t (sq k) (wgt n t c y b sq k) p else wBl n c y (sq k) (wgt n t c y b sq k) p
def sgOk (n : Nat) (s : Sg) : Prop := s.1 < 5 ∧ s.2.1 < n ∧ s.2.2.1 < n ∧ s.2.2.2.1 < 256 ∧ s.2.2.2.2.1 < 256 ∧ s.2.2.2.2.2 ≤ 1
/-- a story at st, its list at l, k sights -/
def SY (w : Nat → Option va_E) (st l v k n t c y b : Nat) (ad : Nat → Nat) (sq : Nat → Sg) : Prop :=
  w st = some (.inr (10, [.ref l, .int (nI n), .int (nI t), .int (nI c), .int (nI y), .int (nI b)])) ∧ w l = some (.inr (13, [.int (nI k), .ref v, .int (nI k)])) ∧
  (0 < k → ∃ q, w v = some (.inl (6, 10, .inr (.inr (.inr (.inr q))))) ∧ ∀ i, i < k → q i = some (ad i)) ∧ (∀ i, i < k → w (ad i) = some (.inr (9, sgV (sq i)))) ∧
  k ≤ 10 ∧ n ≤ 8 ∧ t ≤ 100 ∧ c < 100 ∧ y < 100 ∧ b ≤ n ∧ ∀ i, i < k → sgOk n (sq i)
section STY
variable {E : xEn} {w : Nat → Option va_E} {m st l v k n t c y b : Nat} {ad : Nat → Nat} {sq : Nat → Sg}
/-- the weights of k steps are told -/
def tW (E : xEn) (w : Nat → Option va_E) (m st n k : Nat) (f : Nat → Nat) (d : Nat) : Prop := ∀ p, p ≤ n → xsem xT E d kX12_weight [.ref st, .int (nI k), .int (nI p)] (w, m) = some (.inl (some (.long (lN (f p)))), (w, m))
theorem y_open {s : Sg} {a : Nat} {f : Nat → Nat} {i : Nat} (hst : w st = some (.inr (10, [.ref l, .int (nI n), .int (nI t), .int (nI c), .int (nI y), .int (nI b)]))) (ha : w a = some (.inr (9, sgV s))) (ho : sgOk n s) (hn : n ≤ 8) (ht : t ≤ 100) (hi : i + 1 < 2 ^ 31) {d : Nat} (W : tW E w m st n i f (d + 1)) {p : Nat} (hp : p ≤ n) :
    xsem xT E (d + 2) kX12_open [.ref st, .ref a, .int (nI (i + 1)), .int (nI p)] (w, m) = some (.inl (some (.long (lN (wOp t s f p)))), (w, m)) := by
  obtain ⟨o1, o2, o3, o4, o5, o6⟩ := ho
  have hq : mBall p s.2.1 s.2.2.1 ≤ n := by
    unfold mBall
    split
    · omega
    · split <;> omega
  have hi1 : nI (i + 1) - nI 1 = nI i := by rw [pk_sub (by omega)]; rfl
  rw [eX12_open, QX12_open_0, gO_at hst, hi1, W p hp, cL_s, gI_at ha rfl]
  unfold wOp
  by_cases k2 : s.1 = 2
  · rw [iEQ_t k2, if_pos k2]
  · rw [iEQ_f k2 (by omega) (by omega), if_neg k2, QX12_open_21, gI_at ha rfl, gI_at ha rfl, y_by (by omega) (by omega) (by omega), cI_s, gO_at hst, hi1, W _ hq, cL_s, gI_at ha rfl, gI_at ha rfl, gI_at ha rfl, gI_at ha rfl, bb_get _ o4 _ (by omega), bb_get _ o4 _ (by omega)]
    have l1 := bbit_le s.2.2.2.1 s.2.1
    have l2 := bbit_le s.2.2.2.1 s.2.2.1
    by_cases e : bbit s.2.2.2.1 s.2.1 = bbit s.2.2.2.1 s.2.2.1
    · rw [iEQ_t e, if_pos e, QX12_open_82, gI_at ha rfl]
      have h98 : qX12_open_98 E (d + 1) st (lN (f p)) (lN (f (mBall p s.2.1 s.2.2.1))) (w, m) = some (.inl (some (.long (lN ((100 - t) * f p + t * f (mBall p s.2.1 s.2.2.1))))), (w, m)) := by
        rw [QX12_open_98, gI_at hst rfl, gI_at hst rfl, pk_sub ht, nI_64 (by omega), nI_64 (by omega), lN_mul, lN_mul, lN_add, QX12_open_127]
      by_cases c1 : p = s.2.1
      · rw [iEQ_t c1, if_pos (Or.inl c1), h98]
      · rw [iEQ_f c1 (by omega) (by omega), gI_at ha rfl]
        by_cases c2 : p = s.2.2.1
        · rw [iEQ_t c2, if_pos (Or.inr c2), h98]
        · rw [iEQ_f c2 (by omega) (by omega), if_neg (fun z => z.elim c1 c2), QX12_open_121, lN_mul, QX12_open_127]
    · rw [iEQ_f e (by omega) (by omega), if_neg e, gI_at ha rfl]
      by_cases k0 : s.1 = 0
      · rw [iEQ_t k0, if_pos k0, QX12_open_81]
      · rw [iEQ_f k0 (by omega) (by omega), if_neg k0, QX12_open_79, QX12_open_81]
theorem y_pair {s : Sg} {a : Nat} {f : Nat → Nat} {i : Nat} (hst : w st = some (.inr (10, [.ref l, .int (nI n), .int (nI t), .int (nI c), .int (nI y), .int (nI b)]))) (ha : w a = some (.inr (9, sgV s))) (ho : sgOk n s) (hn : n ≤ 8) (hi : i + 1 < 2 ^ 31) {d : Nat} (W : tW E w m st n i f (d + 2)) {p : Nat} (hp : p ≤ n) {u : Nat} (hu : u < n) (v0 : Nat) :
    ∀ g j, j + g = u → qX12_blind_18 E (d + 2) st a (nI (i + 1)) (nI p) (lN (v0 + wPr s f p u j)) (nI u) (nI j) (w, m) = qX12_blind_69 E (d + 2) st a (nI (i + 1)) (nI p) (lN (v0 + wPr s f p u u)) (nI u) (w, m) := by
  obtain ⟨o1, o2, o3, o4, o5, o6⟩ := ho
  have hi1 : nI (i + 1) - nI 1 = nI i := by rw [pk_sub (by omega)]; rfl
  intro g
  induction g with
  | zero =>
    intro j hj
    have hj : j = u := hj
    subst hj
    rw [QX12_blind_18, iLE_t (Nat.le_refl _) (by omega)]
  | succ g ih =>
    intro j hj
    have hq : mBall p u j ≤ n := by
      unfold mBall
      split
      · omega
      · split <;> omega
    have hm := mvd_lt (s := s.2.2.2.1) (a := u) (c := j) (by omega) (by omega) 8 (Nat.le_refl _)
    rw [QX12_blind_18, iLE_f (by omega) (by omega), gI_at ha rfl, y_moved o4 (by omega) (by omega), cI_s, gI_at ha rfl, ← ih (j + 1) (by omega)]
    rw [show wPr s f p u (j + 1) = wPr s f p u j + if mvd s.2.2.2.1 u j 8 = s.2.2.2.2.1 then f (mBall p u j) else 0 from rfl]
    by_cases e : mvd s.2.2.2.1 u j 8 = s.2.2.2.2.1
    · rw [iEQ_t e, if_pos e, y_by (by omega) (by omega) (by omega), cI_s, gO_at hst, hi1, W _ hq, cL_s, lN_add, QX12_blind_63, nI_add, Nat.add_assoc]
    · rw [iEQ_f e (by omega) (by omega), if_neg e, QX12_blind_63, nI_add, Nat.add_zero (wPr s f p u j)]
theorem y_pairs {s : Sg} {a : Nat} {f : Nat → Nat} {i : Nat} (hst : w st = some (.inr (10, [.ref l, .int (nI n), .int (nI t), .int (nI c), .int (nI y), .int (nI b)]))) (ha : w a = some (.inr (9, sgV s))) (ho : sgOk n s) (hn : n ≤ 8) (hi : i + 1 < 2 ^ 31) {d : Nat} (W : tW E w m st n i f (d + 2)) {p : Nat} (hp : p ≤ n) :
    ∀ g u, u + g = n → qX12_blind_6 E (d + 2) st a (nI (i + 1)) (nI p) (lN (wPs s f p u)) (nI u) (w, m) = qX12_blind_75 E (d + 2) st a (nI (i + 1)) (nI p) (lN (wPs s f p n)) (w, m) := by
  intro g
  induction g with
  | zero =>
    intro u hu
    have hu : u = n := hu
    subst hu
    rw [QX12_blind_6, gI_at hst rfl, iLE_t (Nat.le_refl _) (by omega)]
  | succ g ih =>
    intro u hu
    have hx := y_pair (E := E) (m := m) hst ha ho hn hi W hp (u := u) (by omega) (wPs s f p u) u 0 (by omega)
    rw [QX12_blind_6, gI_at hst rfl, iLE_f (by omega) (by omega)]
    rw [show lN (wPs s f p u) = lN (wPs s f p u + wPr s f p u 0) from rfl, hx, QX12_blind_69, nI_add]
    exact ih (u + 1) (by omega)
theorem y_hand {f : Nat → Nat} {i : Nat} (hst : w st = some (.inr (10, [.ref l, .int (nI n), .int (nI t), .int (nI c), .int (nI y), .int (nI b)]))) (hn : n ≤ 8) (hy : y < 100) (hi : i + 1 < 2 ^ 31) {d : Nat} (W : tW E w m st n i f (d + 1)) {p : Nat} (hp : p ≤ n) (v0 : Nat) :
    ∀ g u, u + g = n → qX12_blind_128 E (d + 1) st (nI (i + 1)) (nI p) (lN (v0 + wHd n y f p u)) (lN (f p)) (lN (f n)) (nI u) (w, m) = some (.inl (some (.long (lN (v0 + wHd n y f p n)))), (w, m)) := by
  have hi1 : nI (i + 1) - nI 1 = nI i := by rw [pk_sub (by omega)]; rfl
  intro g
  induction g with
  | zero =>
    intro u hu
    have hu : u = n := hu
    subst hu
    rw [QX12_blind_128, gI_at hst rfl, iLE_t (Nat.le_refl _) (by omega), QX12_blind_208]
  | succ g ih =>
    intro u hu
    rw [QX12_blind_128, gI_at hst rfl, iLE_f (show u < n by omega) (by omega), gI_at hst rfl, ← ih (u + 1) (by omega)]
    rw [show wHd n y f p (u + 1) = wHd n y f p u + if p = n then y * (f n + f u) else y * (if u = p then f p + f n else 2 * f p) from rfl]
    by_cases e : p = n
    · rw [iEQ_t e, if_pos e, gI_at hst rfl, gO_at hst, hi1, W u (by omega), cL_s, QX12_blind_202, nI_add, nI_64 (by omega), lN_add, lN_mul, lN_add, Nat.add_assoc]
    · rw [iEQ_f e (by omega) (by omega), if_neg e, QX12_blind_171, gI_at hst rfl]
      by_cases e2 : u = p
      · rw [iEQ_t e2, if_pos e2, QX12_blind_198, QX12_blind_202, nI_add, nI_64 (by omega), lN_add, lN_mul, lN_add, Nat.add_assoc]
      · rw [iEQ_f e2 (by omega) (by omega), if_neg e2, QX12_blind_192, QX12_blind_198, QX12_blind_202, nI_add, nI_64 (by omega), lN_mul, lN_mul, lN_add, Nat.add_assoc]
theorem y_blind {s : Sg} {a : Nat} {f : Nat → Nat} {i : Nat} (hst : w st = some (.inr (10, [.ref l, .int (nI n), .int (nI t), .int (nI c), .int (nI y), .int (nI b)]))) (ha : w a = some (.inr (9, sgV s))) (ho : sgOk n s) (hn : n ≤ 8) (hc : c < 100) (hy : y < 100) (hi : i + 1 < 2 ^ 31) {d : Nat} (W : tW E w m st n i f (d + 2)) {p : Nat} (hp : p ≤ n) :
    xsem xT E (d + 3) kX12_blind [.ref st, .ref a, .int (nI (i + 1)), .int (nI p)] (w, m) = some (.inl (some (.long (lN (wBl n c y s f p)))), (w, m)) := by
  have hi1 : nI (i + 1) - nI 1 = nI i := by rw [pk_sub (by omega)]; rfl
  have hx := y_pairs (E := E) (m := m) hst ha ho hn hi W hp n 0 (by omega)
  obtain ⟨o1, o2, o3, o4, o5, o6⟩ := ho
  rw [eX12_blind, QX12_blind_0, show lN 0 = lN (wPs s f p 0) from rfl, hx, QX12_blind_75, gI_at ha rfl, gI_at ha rfl]
  unfold wBl
  by_cases e : s.2.2.2.1 = s.2.2.2.2.1
  · have hh := y_hand (E := E) (m := m) hst hn hy hi W hp (wPs s f p n + c * f p) n 0 (by omega)
    rw [iEQ_t e, if_pos e, QX12_blind_89, gO_at hst, hi1, W p hp, cL_s, gI_at hst rfl, gO_at hst, W n (Nat.le_refl _), cL_s, gI_at hst rfl, nI_64 (by omega), lN_mul, lN_add]
    exact hh
  · rw [iEQ_f e (by omega) (by omega), if_neg e]
theorem y_weight (h : SY w st l v k n t c y b ad sq) : ∀ i, i ≤ k → ∀ d, tW E w m st n i (wgt n t c y b sq i) (d + 2 * i + 4) := by
  obtain ⟨h1, h2, h3, h4, h5, h6, h7, h8, h9, h10, h11⟩ := h
  intro i
  induction i with
  | zero =>
    intro _ d p hp
    rw [show d + 2 * 0 + 4 = (d + 3) + 1 by omega, eX12_weight, QX12_weight_0, iEQ_t rfl, gI_at h1 rfl]
    unfold wgt
    by_cases e : p = b
    · rw [iEQ_t e, if_pos e, QX12_weight_17]
    · rw [iEQ_f e (by omega) (by omega), if_neg e, QX12_weight_16, QX12_weight_17]
  | succ i ih =>
    intro hi d p hp
    obtain ⟨q, hq, hqi⟩ := h3 (by omega)
    have W := ih (by omega) d
    have hs := h4 i (by omega)
    have ho := h11 i (by omega)
    have hi1 : nI (i + 1) - nI 1 = nI i := by rw [pk_sub (by omega)]; rfl
    rw [show d + 2 * (i + 1) + 4 = (d + 2 * i + 5) + 1 by omega, eX12_weight, QX12_weight_0, iEQ_f (Nat.succ_ne_zero i) (by omega) (by omega), QX12_weight_18, gR_at h1 rfl, gO_at h2, hi1]
    rw [show d + 2 * i + 5 = (d + 2 * i + 2) + 3 by omega, a_get h2 hq (show i < k by omega) h5 (hqi i (by omega)), cA_s, xck_at hs, gI_at hs rfl]
    rw [show wgt n t c y b sq (i + 1) p = if (sq i).2.2.2.2.2 = 0 then wOp t (sq i) (wgt n t c y b sq i) p else wBl n c y (sq i) (wgt n t c y b sq i) p from rfl]
    by_cases e : (sq i).2.2.2.2.2 = 0
    · rw [iEQ_t e, if_pos e, QX12_weight_49, gO_at h1]
      rw [show d + 2 * i + 2 + 3 = (d + 2 * i + 3) + 2 by omega, y_open h1 hs ho h6 h7 (by omega) W hp, cL_s, QX12_weight_56]
    · rw [iEQ_f e (by have := ho.2.2.2.2.2; omega) (by omega), if_neg e, gO_at h1, y_blind h1 hs ho h6 h8 h9 (by omega) W hp, cL_s, QX12_weight_56]
end STY
