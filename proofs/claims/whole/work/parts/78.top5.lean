/-! CALLS THAT ONLY ASK: rows. -/
theorem nI_ex (z : Int32) : ∃ k, nI k = z := ⟨z.toBitVec.toNat, Int32.toBitVec_inj.1 (by
  show BitVec.ofNat 32 z.toBitVec.toNat = z.toBitVec
  simp)⟩
theorem xup_xup {w : Nat → Option va_E} {a : Nat} {e e' : va_E} : xup (xup w a e) a e' = xup w a e' := by
  funext b
  by_cases h : b = a
  · subst h
    rw [xup_same, xup_same]
  · rw [xup_ne h, xup_ne h, xup_ne h]
section T5
variable {E : xEn} {x y n m : Nat} {sh : Nat → Option xSh} {S M : xSt} {Bd : Nat}
def xw7 (w0 : Nat → Option va_E) (n : Nat) (f : Nat → Nat) : Nat → Option va_E := xup w0 n (.inl (0, 7, .inl (vw 7 f (fun _ => 0))))
theorem aI_x {ρ : Type} {w0 : Nat → Option va_E} {f : Nat → Nat} {i c : Nat} (hi : i < 7) {K : Int32 → Option ρ} : aI (xw7 w0 n f, c) n (nI i) K = K (nI (f i)) := by
  unfold aI xw7
  dsimp only
  rw [xup_same]
  dsimp only
  rw [xin_nI hi (by omega), nI_clamp (by omega), vw_in hi]
  rfl
theorem sI_x {ρ : Type} {w0 : Nat → Option va_E} {f : Nat → Nat} {i c v : Nat} (hi : i < 7) {K : xH → Option ρ} : sI (xw7 w0 n f, c) n (nI i) (nI v) K = K (xw7 w0 n (updN f i v), c) := by
  unfold sI xw7
  dsimp only
  rw [xup_same]
  dsimp only
  rw [xin_nI hi (by omega), nI_clamp (by omega), xup_xup, vw_upd hi]
  rfl
theorem lc_rw1 {w0 : Nat → Option va_E} (a b : Int32) (l c : Nat) (d bc bs : Nat) : ∀ k (f : Nat → Nat), k ≤ 6 → qX10_countRows_20 E d bc bs a b n (nI l) (nI k) (xw7 w0 n f, c) = qX10_countRows_46 E d bc bs a b n (nI l) (xw7 w0 n (rstep k l f), c) := by
  intro k
  induction k with
  | zero =>
    intro f _
    have : rstep 0 l f = f := by
      funext d
      unfold rstep
      rw [if_neg (by omega)]
    rw [this, QX10_countRows_20]
    simp (disch := omega) only [iLE_t, cI_s, cL_s, cF_s, cD_s, cA_s, cV_s, nI_add, cond_true, cond_false, if_true, if_false]
  | succ k ih =>
    intro f hk
    have h := ih (updN f (k + 1) (f (k + 1) + l * f k)) (by omega)
    have he : rstep k l (updN f (k + 1) (f (k + 1) + l * f k)) = rstep (k + 1) l f := by
      funext d
      unfold rstep
      by_cases c : 1 ≤ d ∧ d ≤ k
      · rw [if_pos c, if_pos (by omega), updN_n (by omega), updN_n (by omega)]
      · rw [if_neg c]
        by_cases e : d = k + 1
        · subst e
          rw [if_pos (by omega), updN_s, Nat.add_sub_cancel]
        · rw [if_neg (by omega), updN_n e]
    rw [he] at h
    rw [← h, QX10_countRows_20]
    simp (disch := omega) only [iLE_f, aI_x, pk_sub, Nat.add_sub_cancel, pk_mul, sI_x, pk_m1, cI_s, cL_s, cF_s, cD_s, cA_s, cV_s, nI_add, cond_true, cond_false, if_true, if_false]
theorem lc_rw2 {w0 : Nat → Option va_E} (b : Int32) {s : Nat} (hs : s ≤ 6) (c d bc bs : Nat) : ∀ k i, i + k = s → 1 ≤ i → qX10_countRows_11 E d bc bs (nI s) b n (nI i) (xw7 w0 n (rowA (i - 1)), c) = qX10_countRows_52 E d bc bs b n (xw7 w0 n (rowA (s - 1)), c) := by
  intro k
  induction k with
  | zero =>
    intro i hi h1
    have hi : i = s := hi
    subst hi
    rw [QX10_countRows_11]
    simp (disch := omega) only [iLE_t, cI_s, cL_s, cF_s, cD_s, cA_s, cV_s, nI_add, cond_true, cond_false, if_true, if_false]
  | succ k ih =>
    intro i hi h1
    have h := ih (i + 1) (by omega) (by omega)
    have hb : rowA (i + 1 - 1) = rstep 6 i (rowA (i - 1)) := by
      obtain ⟨j, rfl⟩ : ∃ j, i = j + 1 := ⟨i - 1, by omega⟩
      rfl
    rw [hb] at h
    rw [← h, QX10_countRows_11]
    simp (disch := omega) only [iLE_f, cI_s, cL_s, cF_s, cD_s, cA_s, cV_s, nI_add, cond_true, cond_false, if_true, if_false]
    rw [lc_rw1 (nI s) b i c d bc bs 6 _ (by omega), QX10_countRows_46]
    simp (disch := omega) only [cI_s, cL_s, cF_s, cD_s, cA_s, cV_s, nI_add, cond_true, cond_false, if_true, if_false]
theorem lc_rw3 {w0 : Nat → Option va_E} {f : Nat → Nat} (c d bc bs : Nat) : ∀ k a, k ≤ 6 → qX10_countRows_57 E d bc bs n (nI a) (nI k) (xw7 w0 n f, c) = some (.inl (some (.int (nI (a + rsum f k)))), (xw7 w0 n f, c)) := by
  have end' : ∀ a (z : Int32), (z = -2 ∨ z = -1) → qX10_countRows_57 E d bc bs n (nI a) z (xw7 w0 n f, c) = some (.inl (some (.int (nI a))), (xw7 w0 n f, c)) := by
    intro a z hz
    rw [QX10_countRows_57, if_pos (neg_lt hz), QX10_countRows_75]
  have two : ∀ k, (∀ a, k ≤ 6 → qX10_countRows_57 E d bc bs n (nI a) (nI k) (xw7 w0 n f, c) = some (.inl (some (.int (nI (a + rsum f k)))), (xw7 w0 n f, c))) ∧ (∀ a, k + 1 ≤ 6 → qX10_countRows_57 E d bc bs n (nI a) (nI (k + 1)) (xw7 w0 n f, c) = some (.inl (some (.int (nI (a + rsum f (k + 1))))), (xw7 w0 n f, c))) := by
    intro k
    induction k with
    | zero =>
      refine ⟨fun a _ => ?_, fun a _ => ?_⟩
      · rw [QX10_countRows_57]
        simp (disch := omega) only [iLT_f, aI_x, cI_s, cL_s, cF_s, cD_s, cA_s, cV_s, nI_add, cond_true, cond_false, if_true, if_false]
        exact end' _ _ (Or.inl rfl)
      · rw [QX10_countRows_57]
        simp (disch := omega) only [iLT_f, aI_x, cI_s, cL_s, cF_s, cD_s, cA_s, cV_s, nI_add, cond_true, cond_false, if_true, if_false]
        exact end' _ _ (Or.inr rfl)
    | succ k ih =>
      refine ⟨ih.2, fun a hk => ?_⟩
      rw [QX10_countRows_57, show k + 1 + 1 = k + 2 from rfl]
      simp (disch := omega) only [iLT_f, aI_x, nI_m2, cI_s, cL_s, cF_s, cD_s, cA_s, cV_s, nI_add, cond_true, cond_false, if_true, if_false]
      rw [ih.1 _ (by omega), Nat.add_assoc]
      rfl
  exact fun k a hk => (two k).1 a hk
theorem c_countRows {w0 : Nat → Option va_E} {s k : Nat} (hs2 : 2 ≤ s) (hs : s ≤ 6) (hk : k ≤ 6) (d : Nat) : ∃ w', xsem xT E (d + 1) kX10_countRows [.int (nI s), .int (nI k)] (w0, n) = some (.inl (some (.int (nI (gRows s k)))), (w', n + 1)) ∧ ∀ a, a ≠ n → w' a = w0 a := by
  refine ⟨xw7 w0 n (rowA (s - 1)), ?_, fun a ha => xup_ne ha⟩
  have h0 : xup w0 n (.inl (0, 7, xarr 0)) = xw7 w0 n (fun _ => 0) := by
    unfold xw7
    have e : (fun _ => 0 : Nat → Int32) = vw 7 (fun _ => 0) (fun _ => 0) := by
      funext i
      unfold vw
      split <;> rfl
    rw [← e]
    rfl
  have h1 : updN (fun _ => 0) 0 1 = rowA (1 - 1) := by
    funext i
    show _ = rone i
    unfold updN rone
    rfl
  have he : rsum (rowA (s - 1)) k = gRows s k := (rsum_cg k (fun d hd => row_AB (s - 1) (by omega) d (by omega))).1
  rw [eX10_countRows, QX10_countRows_0]
  unfold nwA
  dsimp only
  rw [h0]
  simp (disch := omega) only [ble_t, Bool.and_self, sI_x, cI_s, cL_s, cF_s, cD_s, cA_s, cV_s, nI_add, cond_true, cond_false, if_true, if_false]
  rw [h1, lc_rw2 (nI k) hs (n + 1) d (0 + 1) (0 + 7) (s - 1) 1 (by omega) (Nat.le_refl 1), QX10_countRows_52, lc_rw3 (n + 1) d (0 + 1) (0 + 7) k 0 hk, Nat.zero_add, he]
theorem g_rows {g : Nat → Nat} {w : Nat} (G : GM M w g) (I : iG g) {k : Nat} (hk : k ≤ 6) (u : Nat) : ∃ M', qX11_rows_34 E (u + 2) y (nI k) (wW E y shM M, m) = some (.inl (some (.int (nI (gRows (g 0) k)))), (wW E y shM M', m)) ∧ M'.1 = M.1 ∧ (∀ j, j ≠ 10 → M'.2.1 j = M.2.1 j) := by
  have h8 := I.1.2.1
  have h2 := I.1.1
  have hns : nS M (fun j => Classical.choose (nI_ex (M.2.1 10 j))) = M := nS_self (fun j _ => (Classical.choose_spec (nI_ex (M.2.1 10 j))).symm)
  obtain ⟨f', e1, e2⟩ := lm_rw3 (E := E) (x := y) (n := m) (S := M) (g := g) (w := w) (T := M.2.2.2.1 3) (nI k) (u + 2) 8 0 (fun j => Classical.choose (nI_ex (M.2.1 10 j))) (by omega) (fun j hj => absurd hj (Nat.not_lt_zero j))
  rw [hns, mS_self G] at e1
  have e3 := lm_rw2 (E := E) (x := y) (n := m) (S := M) (g := g) (w := w) (T := M.2.2.2.1 3) G.1 G.2.1 h8 (nI k) u (g 0 - 1) 1 (by omega) (Nat.le_refl 1)
  have e4 := lm_rw4 (E := E) (x := y) (n := m) (S := M) (g := g) (w := w) (T := M.2.2.2.1 3) (f := rowB (g 0 - 1)) (u + 2) k 0 hk
  have hcg : nS M f' = nS M (rowB (1 - 1)) := nS_cg (fun j hj => e2 j hj)
  refine ⟨mS (nS M (rowB (g 0 - 1))) w g (M.2.2.2.1 3), ?_, rfl, fun j hj => ?_⟩
  · rw [QX11_rows_34, e1, QX11_rows_63, hcg, show nI 2 = nI (1 + 1) from rfl, e3, QX11_rows_115, e4, Nat.zero_add]
    rfl
  · by_cases h1 : j = 1
    · subst h1
      have h := congrArg (fun M : xSt => M.2.1 1) (mS_self G)
      refine Eq.trans ?_ h
      show wr ((nS M (rowB (g 0 - 1))).2.1 1) w g = wr (M.2.1 1) w g
      rw [nS_o (by omega)]
    · rw [mS_o h1, nS_o hj]
theorem T_rows (hc : hC sh) (R : RR S M Bd) (a : Int32) (d u : Nat) : oT E x y n m sh [0] Bd 0 (xsem xT E (d + 3) kX10_rows [.ref x, .int a] (wW E x sh S, n)) (xsem xT E (u + 3) kX11_rows [.ref y, .int a] (wW E y shM M, m)) := by
  obtain ⟨gs, w, un, tx, len, RGh, RIh⟩ := R
  obtain ⟨c5, c6, c3, c4, hw, hun⟩ := RGh.1
  obtain ⟨P, G, I, F, t2, t3⟩ := RGh.2 0 (Nat.zero_le _)
  rw [ix_0 hw] at P G
  generalize gs 0 = g at P G I F t2 t3
  have b0 := hc.1
  have hG := hc.2.2.2.2.2.2 w hw
  have b2 := hG.1
  have b5 := hG.2.1
  have b4 := hG.2.2.2.2.1
  have b6 := hG.2.2.2.2.2.2.1
  have b9 := hG.2.2.2.2.2.2.2.2.2.1
  have h2 := I.1.1
  have h8 := I.1.2.1
  have hgm := fun d => c_game (E := E) (x := x) (n := n) hc c5 hw d
  have GZ := GM_Z c3 hw G
  have r0 : S.1 (27 + 12 * w + 1) 0 = nI (g 0) := P.1.1
  rcases i32_c a (b := 7) (by omega) with ⟨k, hk, rfl⟩ | h
  · have hcl : xsem xT E (d + 3) kX10_rows [.ref x, .int (nI k)] (wW E x sh S, n) = if nI (g 0) ≤ nI 6 then qX10_rows_42 E (d + 2) 0 0 (nI k) (nI (g 0)) (wW E x sh S, n) else qX10_rows_47 E (d + 2) 0 0 (-2 : Int32) (wW E x sh S, n) := by
      rw [eX10_rows, QX10_rows_0, iLT_f (Nat.zero_le _) (by omega), iLE_t (show k ≤ 6 by omega) (by omega), QX10_rows_20]
      simp (disch := omega) only [ble_t, Bool.and_self, gO_8 b0, gR_8_0 b0, gR_8_1 b0, gR_8_2 b0, gR_8_3 b0, gR_8_4 b0, gI_8_5 b0, gP_8_5 b0, gI_8_6 b0, gP_8_6 b0, hgm, gO_2 b2, gR_2_0 b2, gR_2_1 b2, gR_2_2 b2, gR_2_3 b2, gI_2_4 b2, gP_2_4 b2, gI_2_5 b2, gP_2_5 b2, gI_2_6 b2, gP_2_6 b2, gI_2_7 b2, gP_2_7 b2, gI_2_8 b2, gP_2_8 b2, gO_5 b5, gI_5_0 b5, gP_5_0 b5, gI_5_1 b5, gP_5_1 b5, gI_5_2 b5, gP_5_2 b5, gR_5_3 b5, gR_5_4 b5, r0, cI_s, cL_s, cF_s, cD_s, cA_s, cV_s, nI_add, cond_true, cond_false, if_true, if_false]
    have hml : xsem xT E (u + 3) kX11_rows [.ref y, .int (nI k)] (wW E y shM M, m) = if nI (g 0) ≤ nI 6 then qX11_rows_34 E (u + 2) y (nI k) (wW E y shM (mZ M), m) else some (.inl (some (.int (-2))), (wW E y shM (mZ M), m)) := by
      rw [eX11_rows, QX11_rows_0]
      simp (disch := omega) only [gO_9 hM0, gI_9_0 hM0, gP_9_0 hM0, gR_9_1 hM0, gR_9_2 hM0, gI_9_3 hM0, gP_9_3 hM0, gI_9_4 hM0, gP_9_4 hM0, gR_9_5 hM0, gR_9_6 hM0, gR_9_7 hM0, gI_9_8 hM0, gP_9_8 hM0, gI_9_9 hM0, gP_9_9 hM0, gI_9_10 hM0, gP_9_10 hM0, gI_9_11 hM0, gP_9_11 hM0, gI_9_12 hM0, gP_9_12 hM0, gI_9_13 hM0, gP_9_13 hM0, gI_9_14 hM0, gP_9_14 hM0, gI_9_15 hM0, gP_9_15 hM0, gI_9_16 hM0, gP_9_16 hM0, gR_9_17 hM0, gR_9_18 hM0, gR_9_19 hM0, gR_9_20 hM0, gI_9_21 hM0, gP_9_21 hM0, gI_9_22 hM0, gP_9_22 hM0, gI_9_23 hM0, gP_9_23 hM0, gI_9_24 hM0, gP_9_24 hM0, gR_9_25 hM0, gI_9_26 hM0, gP_9_26 hM0, gI_9_27 hM0, gP_9_27 hM0, gI_9_28 hM0, gP_9_28 hM0, gL_9_29 hM0, gP_9_29 hM0, gL_9_30 hM0, gP_9_30 hM0, m_isIn, cI_s, cL_s, cF_s, cD_s, cA_s, cV_s, nI_add, cond_true, cond_false, if_true, if_false]
      rw [isIn_t (show k ≤ 6 by omega) (by omega)]
      rw [m_right1 sS_s]
      simp (disch := omega) only [iEQ_f, QX11_rows_22, gO_9 hM0, gI_9_0 hM0, gP_9_0 hM0, gR_9_1 hM0, gR_9_2 hM0, gI_9_3 hM0, gP_9_3 hM0, gI_9_4 hM0, gP_9_4 hM0, gR_9_5 hM0, gR_9_6 hM0, gR_9_7 hM0, gI_9_8 hM0, gP_9_8 hM0, gI_9_9 hM0, gP_9_9 hM0, gI_9_10 hM0, gP_9_10 hM0, gI_9_11 hM0, gP_9_11 hM0, gI_9_12 hM0, gP_9_12 hM0, gI_9_13 hM0, gP_9_13 hM0, gI_9_14 hM0, gP_9_14 hM0, gI_9_15 hM0, gP_9_15 hM0, gI_9_16 hM0, gP_9_16 hM0, gR_9_17 hM0, gR_9_18 hM0, gR_9_19 hM0, gR_9_20 hM0, gI_9_21 hM0, gP_9_21 hM0, gI_9_22 hM0, gP_9_22 hM0, gI_9_23 hM0, gP_9_23 hM0, gI_9_24 hM0, gP_9_24 hM0, gR_9_25 hM0, gI_9_26 hM0, gP_9_26 hM0, gI_9_27 hM0, gP_9_27 hM0, gI_9_28 hM0, gP_9_28 hM0, gL_9_29 hM0, gP_9_29 hM0, gL_9_30 hM0, gP_9_30 hM0, cI_s, cL_s, cF_s, cD_s, cA_s, cV_s, nI_add, cond_true, cond_false, if_true, if_false]
      rw [show sS M 0 0 (nI 0) = mZ M from rfl, g_shells GZ]
      simp (disch := omega) only [cI_s, cL_s, cF_s, cD_s, cA_s, cV_s, nI_add, cond_true, cond_false, if_true, if_false]
    by_cases c : g 0 ≤ 6
    · obtain ⟨w', e1, e2⟩ := c_countRows (E := E) (n := n) (w0 := wW E x sh S) h2 c (show k ≤ 6 by omega) (d + 1)
      obtain ⟨M', f1, f2, f3⟩ := g_rows (E := E) (y := y) (m := m) GZ I (show k ≤ 6 by omega) u
      have fM : frU M M' := frU_tr frU_Z ⟨⟨by rw [f2], by rw [f2], by rw [f2], by rw [f2]⟩, fun i _ => by rw [f3 1 (by omega)], f3 5 (by omega)⟩
      refine ⟨S, M', w', n + 1, RR_ro RGh RIh frm_rf fM, e2, Or.inl ⟨.int (nI (gRows (g 0) k)), rfl, ?_, ?_, by rw [f2]; exact mZ_0⟩⟩
      · rw [hcl, iLE_t c (by omega), QX10_rows_42]
        simp (disch := omega) only [ble_t, Bool.and_self, cI_s, cL_s, cF_s, cD_s, cA_s, cV_s, nI_add, cond_true, cond_false, if_true, if_false]
        rw [e1]
        simp (disch := omega) only [QX10_rows_47, cI_s, cL_s, cF_s, cD_s, cA_s, cV_s, nI_add, cond_true, cond_false, if_true, if_false]
      · rw [hml, iLE_t c (by omega), f1]
    · refine oT_ok (RR_ro RGh RIh frm_rf frU_Z) (v := .int (-2)) ?_ ?_ mZ_0
      · rw [hcl, iLE_f (by omega) (by omega), QX10_rows_47]
      · rw [hml, iLE_f (by omega) (by omega)]
  · refine oT_ex (k := 0) (ex := 0) (v := .int (nI 0)) (RR_ro RGh RIh frm_rf (frU_sS frU_Z (by omega))) rfl ?_ ?_ sS_s
    · have h11 : qX10_rows_10 E (d + 2) 0 0 (wW E x sh S, n) = some (.inr (xexc 0), (wW E x sh S, n)) := by
        rw [QX10_rows_10]
        simp (disch := omega) only [ble_t, Bool.and_self, cI_s, cL_s, cF_s, cD_s, cA_s, cV_s, nI_add, cond_true, cond_false, if_true, if_false]
      rw [eX10_rows, QX10_rows_0]
      by_cases h0 : a < nI 0
      · rw [if_pos h0, h11]
      · have h1 : ¬ a ≤ nI 6 := fun z => nI_ge (Nat.lt_succ_self _) (by omega) (Int32.le_trans (h.resolve_left h0) z)
        rw [if_neg h0, if_neg h1, h11]
    · rw [eX11_rows, QX11_rows_0]
      simp (disch := omega) only [gO_9 hM0, gI_9_0 hM0, gP_9_0 hM0, gR_9_1 hM0, gR_9_2 hM0, gI_9_3 hM0, gP_9_3 hM0, gI_9_4 hM0, gP_9_4 hM0, gR_9_5 hM0, gR_9_6 hM0, gR_9_7 hM0, gI_9_8 hM0, gP_9_8 hM0, gI_9_9 hM0, gP_9_9 hM0, gI_9_10 hM0, gP_9_10 hM0, gI_9_11 hM0, gP_9_11 hM0, gI_9_12 hM0, gP_9_12 hM0, gI_9_13 hM0, gP_9_13 hM0, gI_9_14 hM0, gP_9_14 hM0, gI_9_15 hM0, gP_9_15 hM0, gI_9_16 hM0, gP_9_16 hM0, gR_9_17 hM0, gR_9_18 hM0, gR_9_19 hM0, gR_9_20 hM0, gI_9_21 hM0, gP_9_21 hM0, gI_9_22 hM0, gP_9_22 hM0, gI_9_23 hM0, gP_9_23 hM0, gI_9_24 hM0, gP_9_24 hM0, gR_9_25 hM0, gI_9_26 hM0, gP_9_26 hM0, gI_9_27 hM0, gP_9_27 hM0, gI_9_28 hM0, gP_9_28 hM0, gL_9_29 hM0, gP_9_29 hM0, gL_9_30 hM0, gP_9_30 hM0, m_isIn, cI_s, cL_s, cF_s, cD_s, cA_s, cV_s, nI_add, cond_true, cond_false, if_true, if_false]
      rw [isIn_f h (by omega)]
      rw [m_right0 sS_s (by omega) (by omega)]
      simp (disch := omega) only [iEQ_t, cI_s, cL_s, cF_s, cD_s, cA_s, cV_s, nI_add, cond_true, cond_false, if_true, if_false]
      rfl
end T5
