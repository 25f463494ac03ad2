/-! WHAT HOLDS AHEAD OF EVERY STEP; what isLike tells. -/
theorem wgt_cg {n t c y b : Nat} {sq sq' : Nat → Sg} : ∀ k, (∀ i, i < k → sq' i = sq i) → wgt n t c y b sq' k = wgt n t c y b sq k := by
  intro k
  induction k with
  | zero => exact fun _ => rfl
  | succ k ih =>
    intro h
    funext p
    show (if (sq' k).2.2.2.2.2 = 0 then wOp t (sq' k) (wgt n t c y b sq' k) p else wBl n c y (sq' k) (wgt n t c y b sq' k) p) = (if (sq k).2.2.2.2.2 = 0 then wOp t (sq k) (wgt n t c y b sq k) p else wBl n c y (sq k) (wgt n t c y b sq k) p)
    rw [h k (Nat.lt_succ_self k), ih (fun i hi => h i (by omega))]
theorem mSum_mul {f : Nat → Nat} {D : Nat} : ∀ i, mSum (fun p => f p * D) i = mSum f i * D := by
  intro i
  induction i with
  | zero => exact (Nat.zero_mul D).symm
  | succ i ih =>
    show mSum (fun p => f p * D) i + f i * D = (mSum f i + f i) * D
    rw [ih, Nat.add_mul]
theorem mSum_cg {f h : Nat → Nat} : ∀ i, (∀ p, p < i → f p = h p) → mSum f i = mSum h i := by
  intro i
  induction i with
  | zero => exact fun _ => rfl
  | succ i ih =>
    intro hh
    show mSum f i + f i = mSum h i + h i
    rw [ih (fun p hp => hh p (by omega)), hh i (by omega)]
/-- ahead of step k -/
def LIv (n t c y b : Nat) (X : Int32) (k : Nat) (g : Nat → Nat) (B at' D : Nat) (sq : Nat → Sg) : Prop :=
  (g 0 = n ∧ g 1 = at' ∧ g 2 = k ∧ g 4 = t ∧ g 5 = c ∧ g 6 = y) ∧ (∀ q, q < n → rg g q = bbit B q) ∧ B < 2 ^ n ∧ (∀ j, j < 3 → gHas g (nI j) (g 10) 0 = bkb X j) ∧ mSum (gF g) (n + 1) * D ≤ 100 ^ k ∧ 0 < D ∧ ∀ p, p ≤ n → wgt n t c y b sq k p = gF g p * D
section LIS
variable {n t c y b k B at' D κ a e a' b' : Nat} {X : Int32} {g : Nat → Nat} {sq : Nat → Sg}
theorem LIv_0 (hn : n ≤ 4) {r : Nat} (hr : r < 2 ^ n) (hb : b < n) : LIv n t c y b X 0 (gLw n t c y b r X) r b 1 sq := by
  refine ⟨gLw_0 hn, fun q hq => gLw_rg hn hq, hr, fun j hj => gLw_bk hn hj, ?_, Nat.one_pos, fun p hp => ?_⟩
  · rw [Nat.mul_one, Nat.pow_zero]
    have h1 : ∀ i, i ≤ n + 1 → mSum (gF (gLw n t c y b r X)) i = if b < i then 1 else 0 := by
      intro i
      induction i with
      | zero => exact fun _ => (if_neg (by omega)).symm
      | succ i ih =>
        intro hi
        show mSum (gF (gLw n t c y b r X)) i + gF (gLw n t c y b r X) i = _
        rw [ih (by omega), gLw_F hn (by omega)]
        by_cases c1 : b < i
        · rw [if_pos c1, if_neg (by omega), if_pos (by omega)]
        · rw [if_neg c1]
          by_cases c2 : i = b
          · rw [if_pos c2, if_pos (by omega)]
          · rw [if_neg c2, if_neg (by omega)]
    rw [h1 _ (Nat.le_refl _), if_pos (by omega)]
    exact Nat.le_refl 1
  · rw [gLw_F hn hp, Nat.mul_one]
    rfl
theorem LIv_s (hn : 2 ≤ n ∧ n ≤ 4) (hk : k ≤ 2) (I : iG g) (L : LIv n t c y b X k g B at' D sq) (ok : okS (gBl g) κ a' b' g) (ha : a < n) (hb : e < n) (hab : a ≠ e) (hk2 : κ < 2 → a' = a ∧ b' = e) (hs : sq k = sgt κ a e B (gBl g).toNat) :
    LIv n t c y b X (k + 1) (gStep (gBl g) κ a' b' g) (if κ = 0 then mvd B a e 8 else B) (gBall κ a' b' g) (mGcd (gRaw (gBl g) κ a' b' g) (n + 1) * D) sq := by
  obtain ⟨⟨g0, g1, g2, g4, g5, g6⟩, hr, hB, hbk, hm, hD, hw⟩ := L
  have h8 := I.1.2.1
  have hB16 : B < 16 := by
    have : 2 ^ n ≤ 2 ^ 4 := Nat.pow_le_pow_right (by omega) hn.2
    omega
  have hab8 : κ = 0 → a' < 8 ∧ b' < 8 := fun q => by
    obtain ⟨h1, h2⟩ := hk2 (by omega)
    omega
  have o : ∀ i, i ≠ 1 → i ≠ 2 → i ≠ 3 → (i < 12 ∨ (28 ≤ i ∧ (i < 36 ∨ 37 + g 0 ≤ i))) → gStep (gBl g) κ a' b' g i = g i := fun i i1 i2 i3 i4 => gStep_o I.2.1 hab8 i1 i2 i3 i4
  have hraw : ∀ p, p ≤ n → wgt n t c y b sq (k + 1) p = gRaw (gBl g) κ a' b' g p * D := fun p hp => by
    have h1 := st_raw (g := g) (k := κ) (a := a) (b := e) (a' := a') (b' := b') (B := B) (bl := gBl g) hn g0 hr hB ha hb hab ok.1 (fun q => by
      by_cases c3 : κ = 3
      · exact (ok.2.2.1 c3).1
      · exact (ok.2.2.2 (by have := ok.1; omega)).1) hk2 hp
    rw [g4, g5, g6] at h1
    show wSt n t c y (sq k) (wgt n t c y b sq k) p = _
    rw [← h1, hs]
    unfold wSt
    split
    · exact wOp_lin hw hp ha hb
    · exact wBl_lin hw hp
  obtain ⟨hp0, hpb⟩ := gRaw_ball I ok.1 ok.2.1 ok.2.2.1 ok.2.2.2
  rw [g0] at hpb
  have hG : 0 < mGcd (gRaw (gBl g) κ a' b' g) (n + 1) := mGcd_pos (show gBall κ a' b' g < n + 1 by omega) hp0
  have hrs := raw_sum (bl := gBl g) (k := κ) (a := a') (b := b') I hn g0 (fun q => by
    obtain ⟨h1, h2⟩ := hk2 q
    rw [h1, h2]
    exact ⟨ha, hb, hab⟩)
  have hmD : mSum (gF g) (n + 1) ≤ mSum (gF g) (n + 1) * D := Nat.le_mul_of_pos_right _ hD
  have h100 : 100 ^ (k + 1) ≤ 1000000 := by
    rcases (show k = 0 ∨ k = 1 ∨ k = 2 by omega) with rfl | rfl | rfl <;> decide
  have hpw : (100 : Nat) ^ (k + 1) = 100 ^ k * 100 := Nat.pow_succ ..
  have hdm : mSum (mDiv (n + 1) (gRaw (gBl g) κ a' b' g)) (n + 1) ≤ mSum (gRaw (gBl g) κ a' b' g) (n + 1) := mSum_mo _ (fun p _ => Nat.div_le_self _ _)
  have hthk : gThk (gBl g) κ a' b' g = mDiv (n + 1) (gRaw (gBl g) κ a' b' g) := by
    unfold gThk mSettle
    rw [g0]
    show (if mMax (mDiv (n + 1) (gRaw (gBl g) κ a' b' g)) (n + 1) ≤ 1000000 then mDiv (n + 1) (gRaw (gBl g) κ a' b' g) else _) = _
    rw [if_pos (by have := mMax_sum (f := mDiv (n + 1) (gRaw (gBl g) κ a' b' g)) (n + 1); omega)]
  have hF : ∀ p, p ≤ n → gF (gStep (gBl g) κ a' b' g) p * mGcd (gRaw (gBl g) κ a' b' g) (n + 1) = gRaw (gBl g) κ a' b' g p := fun p hp => by
    show gStep (gBl g) κ a' b' g (36 + p) * _ = _
    rw [gStep_b (by omega), hthk]
    exact Nat.div_mul_cancel (mGcd_dvd (show p < n + 1 by omega))
  refine ⟨⟨?_, gStep_1 I.2.1 hab8, ?_, ?_, ?_, ?_⟩, fun q hq => ?_, ?_, fun j hj => ?_, ?_, Nat.mul_pos hG hD, fun p hp => ?_⟩
  · rw [o 0 (by omega) (by omega) (by omega) (by omega)]; exact g0
  · rw [gStep_2 I.2.1 hab8, g2]
  · rw [o 4 (by omega) (by omega) (by omega) (by omega)]; exact g4
  · rw [o 5 (by omega) (by omega) (by omega) (by omega)]; exact g5
  · rw [o 6 (by omega) (by omega) (by omega) (by omega)]; exact g6
  · have hgq : ∀ i, i < 8 → gStep (gBl g) κ a' b' g (28 + i) = g (28 + i) := fun i hi => o (28 + i) (by omega) (by omega) (by omega) (by omega)
    unfold rg
    rw [gStep_12 (by omega)]
    by_cases k0 : κ = 0
    · obtain ⟨h1, h2⟩ := hk2 (by omega)
      rw [h1, h2] at hgq ⊢
      rw [if_pos k0, (mv_eq B hB16 a (by omega) e (by omega)).2.2 q (by omega)]
      unfold mBall
      by_cases c1 : q = e
      · rw [if_pos ⟨k0, c1⟩, hgq _ (I.2.1 a (by omega))]
        by_cases c2 : q = a
        · omega
        · rw [if_neg c2, if_pos c1]
          exact hr a ha
      · rw [if_neg (fun z => c1 z.2)]
        by_cases c2 : q = a
        · rw [if_pos ⟨k0, c2⟩, hgq _ (I.2.1 e (by omega)), if_pos c2]
          exact hr e hb
        · rw [if_neg (fun z => c2 z.2), hgq _ (I.2.1 q (by omega)), if_neg c2, if_neg c1]
          exact hr q hq
    · rw [if_neg (fun z => k0 z.1), if_neg (fun z => k0 z.1), hgq _ (I.2.1 q (by omega)), if_neg k0]
      exact hr q hq
  · split
    · exact mv_16 n hn.2 B hB a ha e hb
    · exact hB
  · rw [o 10 (by omega) (by omega) (by omega) (by omega), ← hbk j hj]
    have h10 := I.1.2.2.2.2.2.2.2.2.2
    exact gHas_cg _ _ (fun i _ hi => ⟨o _ (by omega) (by omega) (by omega) (by omega), o _ (by omega) (by omega) (by omega) (by omega)⟩)
  · rw [← Nat.mul_assoc, ← mSum_mul, mSum_cg (n + 1) (fun p hp => hF p (by omega)), hpw]
    have h1 : mSum (gRaw (gBl g) κ a' b' g) (n + 1) * D ≤ 100 * mSum (gF g) (n + 1) * D := Nat.mul_le_mul_right D hrs
    rw [Nat.mul_assoc] at h1
    omega
  · rw [hraw p hp, ← hF p hp, Nat.mul_assoc]
end LIS
section LIKE
variable {E : xEn} {z : Nat → Option va_E} {x m st l v k n t c y b : Nat} {sh : Nat → Option xSh} {S : xSt} {g : Nat → Nat} {w un D : Nat} {ad : Nat → Nat} {sq : Nat → Sg}
/-- a story whose cells lie ahead of m -/
def SYm (lo m st l v k : Nat) (ad : Nat → Nat) : Prop := (lo ≤ st ∧ st < m) ∧ (lo ≤ l ∧ l < m) ∧ (0 < k → lo ≤ v ∧ v < m) ∧ ∀ i, i < k → lo ≤ ad i ∧ ad i < m
theorem SY_fr {lo : Nat} {w w' : Nat → Option va_E} (Y : SY w st l v k n t c y b ad sq) (Z : SYm lo m st l v k ad) (h : ∀ a, lo ≤ a → a < m → w' a = w a) : SY w' st l v k n t c y b ad sq := by
  obtain ⟨h1, h2, h3, h4, h5⟩ := Y
  obtain ⟨z1, z2, z3, z4⟩ := Z
  refine ⟨(h _ z1.1 z1.2).trans h1, (h _ z2.1 z2.2).trans h2, fun hk => ?_, fun i hi => (h _ (z4 i hi).1 (z4 i hi).2).trans (h4 i hi), h5⟩
  obtain ⟨q, q1, q2⟩ := h3 hk
  exact ⟨q, (h _ (z3 hk).1 (z3 hk).2).trans q1, q2⟩
def rwL (m n : Nat) (f : Nat → Nat) (p : Nat) : va_E := .inl (2, n + 1, .inr (.inl fun i => if i < p then lN (f i) else 0))
theorem rwL_s {n p : Nat} {f : Nat → Nat} : (vp_updL (fun i => if i < p then lN (f i) else 0) p (lN (f p)) : Nat → Int64) = fun i => if i < p + 1 then lN (f i) else 0 := by
  funext i
  by_cases e : i = p
  · rw [e, pk_uLs, if_pos (Nat.lt_succ_self p)]
  · rw [pk_uLn e]
    by_cases e2 : i < p
    · rw [if_pos e2, if_pos (by omega)]
    · rw [if_neg e2, if_neg (by omega)]
theorem y_all {lo : Nat} {W : Nat → Option va_E} {x0 m' : Nat} (Y : SY W st l v k n t c y b ad sq) (Z : SYm lo m st l v k ad) {bc bs : Nat} (h1 : bc ≤ 20) (h2 : bs ≤ 100) (d : Nat) :
    ∀ r p w', p + r = n + 1 → (∀ a, a < m → w' a = W a) → w' m = some (rwL m n (wgt n t c y b sq k) p) →
      qX12_isLike_14 E (d + 2 * k + 4) bc bs st x0 m (lN (mSum (wgt n t c y b sq k) p)) (nI p) (w', m') = qX12_isLike_53 E (d + 2 * k + 4) bc bs st x0 m (lN (mSum (wgt n t c y b sq k) (n + 1))) (xup w' m (rwL m n (wgt n t c y b sq k) (n + 1)), m') := by
  intro r
  induction r with
  | zero =>
    intro p w' hp hw hm
    have hp : p = n + 1 := hp
    subst hp
    have Y' := SY_fr Y Z (fun a _ => hw a)
    rw [QX12_isLike_14, gI_at Y'.1 rfl, iLT_t (Nat.lt_succ_self n) (by have := Y'.2.2.2.2.2.1; omega), xup_self hm]
  | succ r ih =>
    intro p w' hp hw hm
    have Y' := SY_fr Y Z (fun a _ => hw a)
    have hn8 := Y'.2.2.2.2.2.1
    have hW := y_weight (E := E) (m := m') Y' k (Nat.le_refl _) d p (by omega)
    have hm' : w' m = some (.inl (2, n + 1, .inr (.inl fun i => if i < p then lN (wgt n t c y b sq k i) else 0))) := hm
    generalize hw2 : xup w' m (rwL m n (wgt n t c y b sq k) (p + 1)) = w2
    have m2 : w2 m = some (.inl (2, n + 1, .inr (.inl fun i => if i < p + 1 then lN (wgt n t c y b sq k i) else 0))) := by rw [← hw2, xup_same]; rfl
    rw [QX12_isLike_14, gI_at Y'.1 rfl, iLT_f (show p ≤ n by omega) (by omega), gR_at Y'.1 rfl, g_ble h1 h2, cond_true, gO_at Y'.2.1, a_size Y'.2.1, cI_s, cond_true, gO_at Y'.1, hW, cL_s, sL_at hm' (by omega) (by omega), rwL_s (n := n)]
    rw [show xup w' m (.inl (2, n + 1, .inr (.inl fun i => if i < p + 1 then lN (wgt n t c y b sq k i) else 0))) = w2 from hw2, aL_at m2 (by omega) (by omega), if_pos (Nat.lt_succ_self p), lN_add, nI_add]
    rw [show mSum (wgt n t c y b sq k) p + wgt n t c y b sq k p = mSum (wgt n t c y b sq k) (p + 1) from rfl, ih (p + 1) w2 (by omega) (fun a ha => by rw [← hw2, xup_ne (by omega)]; exact hw a ha) (by rw [← hw2, xup_same]), ← hw2, xup_xup]
theorem mBest_D {f u : Nat → Nat} {D : Nat} (hD : 0 < D) : ∀ i, (∀ p, p < i → u p = f p * D) → mBest u i = mBest f i := by
  intro i
  induction i with
  | zero => exact fun _ => rfl
  | succ i ih =>
    intro h
    show (if u (mBest u i) < u i then i else mBest u i) = (if f (mBest f i) < f i then i else mBest f i)
    rw [ih (fun p hp => h p (by omega))]
    by_cases c0 : i = 0
    · subst c0
      rw [show mBest f 0 = 0 from rfl, if_neg (Nat.lt_irrefl _), if_neg (Nat.lt_irrefl _)]
    · rw [h _ (by have := mBest_lt f i (by omega); omega), h i (Nat.lt_succ_self i)]
      by_cases c1 : f (mBest f i) < f i
      · rw [if_pos c1, if_pos (Nat.mul_lt_mul_of_pos_right c1 hD)]
      · rw [if_neg c1, if_neg (by have := Nat.mul_le_mul_right D (Nat.not_lt.1 c1); omega)]
theorem y_cmp (hn4 : n ≤ 4) (hc : hC sh) (hs : ∀ j, 135 ≤ j → sh j = none) (C : CG S g w un) (hxm : x + 135 ≤ m) (g0 : g 0 = n) {u : Nat → Nat} (hu : ∀ p, p ≤ n → u p = gF g p * D) (hD : 0 < D) (hbig : mSum (gF g) (n + 1) * D ≤ 1000000) (hst : wW E z x sh S st = some (.inr (10, [.ref l, .int (nI n), .int (nI t), .int (nI c), .int (nI y), .int (nI b)]))) (hm : wW E z x sh S m = some (rwL m n u (n + 1))) {m' : Nat} (d : Nat) :
    ∀ r p bc bs, p + r = n + 1 → bc ≤ 1 + 2 * p → bs ≤ 5 + 12 * p → qX12_isLike_59 E (d + 3) bc bs st x m (lN (mSum u (n + 1))) (nI (mBest u (if p ≤ n then p else n))) (nI p) (wW E z x sh S, m') = some (.inl (some (.int (nI 1))), (wW E z x sh S, m')) := by
  have b0 := hc.1
  have I := C.2.2.2.2.2.1
  have h8 := I.1.2.1
  have hm' : wW E z x sh S m = some (.inl (2, n + 1, .inr (.inl fun i => if i < n + 1 then lN (u i) else 0))) := hm
  have hsu : mSum u (n + 1) = mSum (gF g) (n + 1) * D := by rw [← mSum_mul]; exact mSum_cg _ (fun p hp => hu p (by omega))
  have hle : ∀ p, p ≤ n → u p ≤ 1000000 := fun p hp => by
    have h1 := mSum_in (f := u) (p := p) (n + 1) (by omega)
    omega
  have hF : ∀ p, p ≤ n → gF g p ≤ 1000000 := fun p hp => I.2.2.2.2.2.1 p (by omega)
  have hS := (mSum_pos I).2
  rw [g0] at hS
  intro r
  induction r with
  | zero =>
    intro p bc bs hp h1 h2
    have hp : p = n + 1 := hp
    subst hp
    have hgu := k_guess (E := E) (z := z) (x := x) (n := m') hc C d
    rw [g0] at hgu
    rw [QX12_isLike_59, gI_at hst rfl, iLT_t (Nat.lt_succ_self n) (by omega), QX12_isLike_126, g_ble (by omega) (by omega), cond_true, gO_8 b0, hgu, cI_s, if_neg (show ¬ n + 1 ≤ n by omega), mBest_D hD n (fun p hp => hu p (by omega)), iEQ_t rfl, QX12_isLike_140]
    rfl
  | succ r ih =>
    intro p bc bs hp h1 h2
    have hpn : p ≤ n := by omega
    have hbel := k_belief (E := E) (z := z) (x := x) (n := m') hc C (p := p) (by omega) d
    have hst10 := k_state (E := E) (z := z) (x := x) (n := m') hc C (k := 10) (by omega) d
    rw [show gTold g 10 = mSum (gF g) (n + 1) by rw [← g0]; rfl] at hst10
    have ih' := ih (p + 1) (bc + 1 + 1) (bs + 6 + 6) (by omega) (by omega) (by omega)
    have hmul : gF g p * mSum u (n + 1) = u p * mSum (gF g) (n + 1) := by rw [hsu, hu p hpn, Nat.mul_assoc, Nat.mul_comm (mSum (gF g) (n + 1)) D]
    rw [QX12_isLike_59, gI_at hst rfl, iLT_f hpn (by omega), g_ble (by omega) (by omega), cond_true, gO_8 b0, hbel, cI_s, aL_at hm' (show p < n + 1 by omega) (by omega), g_ble (by omega) (by omega), cond_true, gO_8 b0, hst10, cI_s, if_pos (show p < n + 1 by omega)]
    rw [show nI (g (36 + p)) = nI (gF g p) from rfl, nI_64 (by have := hF p hpn; omega), nI_64 (by omega), lN_mul, lN_mul, lcE_t hmul, QX12_isLike_95, gI_at hst rfl, if_pos hpn]
    by_cases c1 : n ≤ p
    · have hpe : p = n := by omega
      rw [iLE_t c1 (by omega), QX12_isLike_120, nI_add, hpe]
      rw [hpe, if_neg (show ¬ n + 1 ≤ n by omega)] at ih'
      exact ih'
    · have hbl : mBest u p ≤ n := by
        by_cases c0 : p = 0
        · subst c0; exact Nat.zero_le _
        · have := mBest_lt u p (by omega)
          omega
      rw [if_pos (show p + 1 ≤ n by omega)] at ih'
      rw [iLE_f (by omega) (by omega), aL_at hm' (show p < n + 1 by omega) (by omega), aL_at hm' (show mBest u p < n + 1 by omega) (by omega), if_pos (show p < n + 1 by omega), if_pos (show mBest u p < n + 1 by omega)]
      have hb1 := hle p hpn
      have hb2 := hle _ hbl
      by_cases c2 : u (mBest u p) < u p
      · rw [lcL_f c2 (by omega), QX12_isLike_120, nI_add]
        rw [show mBest u (p + 1) = p from if_pos c2] at ih'
        exact ih'
      · rw [lcL_t (by omega) (by omega), QX12_isLike_120, nI_add]
        rw [show mBest u (p + 1) = mBest u p from if_neg c2] at ih'
        exact ih'
theorem y_like {lo : Nat} (hn4 : n ≤ 4) (hc : hC sh) (hs : ∀ j, 135 ≤ j → sh j = none) (C : CG S g w un) (hxm : x + 135 ≤ m) (Y : SY (wW E z x sh S) st l v k n t c y b ad sq) (Z : SYm lo m st l v k ad) (g0 : g 0 = n) (hu : ∀ p, p ≤ n → wgt n t c y b sq k p = gF g p * D) (hD : 0 < D) (hbig : mSum (gF g) (n + 1) * D ≤ 1000000) (d : Nat) :
    ∃ z', xsem xT E (d + 2 * k + 8) kX12_isLike [.ref st, .ref x] (wW E z x sh S, m) = some (.inl (some (.int (nI 1))), (wW E z' x sh S, m + 1)) ∧ ∀ a, a < m → z' a = z a := by
  have hn8 := Y.2.2.2.2.2.1
  have hcl : (nI (n + 1)).toNatClampNeg = n + 1 := nI_clamp (by omega)
  have hge : decide (¬ nI (n + 1) < 0) = true := decide_eq_true (nI_nlt (Nat.zero_le _) (by omega))
  have om := oS_ge (x := x) hs hxm
  generalize hw1 : xup (wW E z x sh S) m (.inl (2, n + 1, xarr 2)) = w1
  have m1 : w1 m = some (rwL m n (wgt n t c y b sq k) 0) := by
    rw [← hw1, xup_same]
    unfold rwL
    rw [show (fun i => if i < 0 then lN (wgt n t c y b sq k i) else 0 : Nat → Int64) = fun _ => 0 from funext fun i => if_neg (Nat.not_lt_zero i)]
    rfl
  have hall := y_all (E := E) (x0 := x) (m' := m + 1) Y Z (bc := 0 + 1) (bs := 0 + (n + 1)) (by omega) (by omega) (d + 3) (n + 1) 0 w1 (by omega) (fun a ha => by rw [← hw1, xup_ne (by omega)]) m1
  have hw2 : xup w1 m (rwL m n (wgt n t c y b sq k) (n + 1)) = wW E (xup z m (rwL m n (wgt n t c y b sq k) (n + 1))) x sh S := by rw [← hw1, xup_xup, wW_xup om]
  rw [hw2] at hall
  have hst : wW E (xup z m (rwL m n (wgt n t c y b sq k) (n + 1))) x sh S st = some (.inr (10, [.ref l, .int (nI n), .int (nI t), .int (nI c), .int (nI y), .int (nI b)])) := by
    rw [← wW_xup om, xup_ne (by have := Z.1.2; omega)]
    exact Y.1
  have hmm : wW E (xup z m (rwL m n (wgt n t c y b sq k) (n + 1))) x sh S m = some (rwL m n (wgt n t c y b sq k) (n + 1)) := by rw [← wW_xup om, xup_same]
  have hcmp := y_cmp (E := E) hn4 hc hs C hxm g0 hu hD hbig hst hmm (m' := m + 1) (d + 2 * k + 4) (n + 1) 0 (0 + 1) (0 + (n + 1)) (by omega) (by omega) (by omega)
  refine ⟨xup z m (rwL m n (wgt n t c y b sq k) (n + 1)), ?_, fun a ha => by rw [xup_ne (by omega)]⟩
  rw [show d + 2 * k + 8 = (d + 3 + 2 * k + 4) + 1 by omega, eX12_isLike, QX12_isLike_0, gI_at Y.1 rfl, nI_add, hcl, hge, ble_t (show 0 + 1 ≤ 20 by omega), ble_t (show 0 + (n + 1) ≤ 100 by omega), ble_t (show n + 1 ≤ 100000 by omega)]
  rw [show (true && (true && (true && true))) = true from rfl, cond_true]
  unfold nwA
  dsimp only
  rw [hw1]
  refine hall.trans ?_
  rw [QX12_isLike_53, show d + 3 + 2 * k + 4 = (d + 2 * k + 4) + 3 by omega]
  exact hcmp
end LIKE
