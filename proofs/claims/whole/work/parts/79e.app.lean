/-! append, on both sides. -/
theorem by_w (z : Int32) : ∃ t, t < 256 ∧ z &&& nI 255 = nI t ∧ z.toInt8.toInt32 = sx t := by
  have hk : z.toBitVec.toNat < 2 ^ 32 := z.toBitVec.isLt
  have ht : z.toBitVec.toNat % 256 < 256 := Nat.mod_lt _ (by omega)
  refine ⟨z.toBitVec.toNat % 256, ht, ?_, ?_⟩
  · refine Int32.toBitVec_inj.1 (BitVec.eq_of_toNat_eq ?_)
    have h1 : (nI 255).toBitVec.toNat = 2 ^ 8 - 1 := rfl
    have h2 : (nI (z.toBitVec.toNat % 256)).toBitVec.toNat = (z.toBitVec.toNat % 256) % 2 ^ 32 := rfl
    rw [Int32.toBitVec_and, BitVec.toNat_and, h1, Nat.and_two_pow_sub_one_eq_mod, h2]
    omega
  · refine Int32.toInt_inj.1 ?_
    have h1 : z.toInt = (z.toBitVec.toNat : Int).bmod (2 ^ 32) := BitVec.toInt_eq_toNat_bmod _
    rw [Int8.toInt_toInt32, Int32.toInt_toInt8, sx_T ht, h1, Int.bmod_bmod_of_dvd (by decide), Int.bmod_def]
    generalize z.toBitVec.toNat = k at hk
    split <;> split <;> omega
section APP
variable {E : xEn} {x y n m : Nat} {sh : Nat → Option xSh} {S M : xSt} {Bd : Nat}
def bC (S : xSt) (len t : Nat) : xSt := sS (sA S 2 (upd (S.2.1 2) len (sx t))) 1 1 (nI (len + 1))
def bR (M : xSt) (len t : Nat) : xSt := sS (sA M 5 (upd (M.2.1 5) len (nI t))) 0 8 (nI (len + 1))
/-- what appending changes -/
def frA (S S' : xSt) : Prop := (∀ j, j ≠ 1 → S'.1 j = S.1 j) ∧ (∀ k, k ≠ 1 → S'.1 1 k = S.1 1 k) ∧ (∀ j, j ≠ 2 → S'.2.1 j = S.2.1 j) ∧ S'.2.2 = S.2.2
def frB (M M' : xSt) : Prop := (∀ k, k ≠ 8 → M'.1 0 k = M.1 0 k) ∧ (∀ j, j ≠ 5 → M'.2.1 j = M.2.1 j)
theorem frA_tr {S S1 S2 : xSt} (h : frA S S1) (h' : frA S1 S2) : frA S S2 := ⟨fun j a => (h'.1 j a).trans (h.1 j a), fun j a => (h'.2.1 j a).trans (h.2.1 j a), fun j a => (h'.2.2.1 j a).trans (h.2.2.1 j a), h'.2.2.2.trans h.2.2.2⟩
theorem frB_tr {M M1 M2 : xSt} (h : frB M M1) (h' : frB M1 M2) : frB M M2 := ⟨fun j a => (h'.1 j a).trans (h.1 j a), fun j a => (h'.2 j a).trans (h.2 j a)⟩
theorem frA_b {len t : Nat} : frA S (bC S len t) := ⟨fun j a => funext fun k => sS_nq a, fun k a => sS_n a, fun j a => sA_n a, rfl⟩
theorem frB_b {len t : Nat} : frB M (bR M len t) := ⟨fun k a => sS_n a, fun j a => sA_n a⟩
theorem RI_b {tx : Nat → Nat} {len t : Nat} (R : RI S M tx len) (hl : len < 500) (ht : t < 256) : RI (bC S len t) (bR M len t) (fun i => if i = len then t else tx i) (len + 1) := by
  obtain ⟨r1, r2, r3, r4, r5⟩ := R
  refine ⟨sS_s, sS_s, by omega, fun i hi => ?_, ?_⟩
  · show (sA S 2 (upd (S.2.1 2) len (sx t))).2.1 2 i = sx (if i = len then t else tx i) ∧ (sA M 5 (upd (M.2.1 5) len (nI t))).2.1 5 i = nI (if i = len then t else tx i) ∧ (if i = len then t else tx i) < 256
    rw [sA_s, sA_s]
    by_cases c : i = len
    · subst c
      rw [pk_us, pk_us, if_pos rfl]
      exact ⟨rfl, rfl, ht⟩
    · rw [pk_un c, pk_un c, if_neg c]
      exact r4 i (by omega)
  · unfold bC bR
    rw [sS_n (by omega), sS_n (by omega)]
    exact r5
theorem c_byte (hc : hC sh) {len s : Nat} (h1 : S.1 1 1 = nI len) (hl : len < 500) (hs : s < 2 ^ 31) (v : Int32) {t : Nat} (ht : (v >>> (nI s &&& 31)).toInt8.toInt32 = sx t) (d : Nat) :
    qX3_putWord_3 E d (x + 1) v (nI s) (wW E x sh S, n) = qX3_putWord_3 E d (x + 1) v (nI s + (-8 : Int32)) (wW E x sh (bC S len t), n) := by
  have a0 : sh 1 = some (sh3 1) := hc.2.1.1
  have a1 : sh (1 + 1) = some (2, 500, []) := hc.2.1.2.1
  have hv : vp_nar .byte (sx t) = sx t := by
    rw [← ht]
    exact pk_vb _
  rw [QX3_putWord_3, iLT_f (Nat.zero_le _) hs]
  simp (disch := omega) only [gO_3 a0, gR_3_0 a0, gI_3_1 a0, gP_3_1 a0, gI_3_2 a0, gP_3_2 a0, gR_3_3 a0, gR_3_4 a0, gR_3_5 a0, gI_3_6 a0, gP_3_6 a0, gI_3_7 a0, gP_3_7 a0, gI_3_8 a0, gP_3_8 a0, gI_3_9 a0, gP_3_9 a0, h1, aN_w a1, iLE_f, aBs_w a1, ht, hv, sA_1, QX3_putWord_42, cI_s, cL_s, cF_s, cD_s, cA_s, cV_s, nI_add, cond_true, cond_false, if_true, if_false]
  rfl
theorem r_byte {len s : Nat} (h1 : M.1 0 8 = nI len) (hl : len < 500) (hs : s < 2 ^ 31) (v : Int32) {t : Nat} (ht : (v >>> (nI s &&& 31)) &&& nI 255 = nI t) (u : Nat) :
    qX11_four_3 E u y v (nI s) (wW E y shM M, m) = qX11_four_3 E u y v (nI s + (-8 : Int32)) (wW E y shM (bR M len t), m) := by
  rw [QX11_four_3, iLT_f (Nat.zero_le _) hs]
  simp (disch := omega) only [gO_9 hM0, gI_9_0 hM0, gP_9_0 hM0, gR_9_1 hM0, gR_9_2 hM0, gI_9_3 hM0, gP_9_3 hM0, gI_9_4 hM0, gP_9_4 hM0, gR_9_5 hM0, gR_9_6 hM0, gR_9_7 hM0, gI_9_8 hM0, gP_9_8 hM0, gI_9_9 hM0, gP_9_9 hM0, gI_9_10 hM0, gP_9_10 hM0, gI_9_11 hM0, gP_9_11 hM0, gI_9_12 hM0, gP_9_12 hM0, gI_9_13 hM0, gP_9_13 hM0, gI_9_14 hM0, gP_9_14 hM0, gI_9_15 hM0, gP_9_15 hM0, gI_9_16 hM0, gP_9_16 hM0, gR_9_17 hM0, gR_9_18 hM0, gR_9_19 hM0, gR_9_20 hM0, gI_9_21 hM0, gP_9_21 hM0, gI_9_22 hM0, gP_9_22 hM0, gI_9_23 hM0, gP_9_23 hM0, gI_9_24 hM0, gP_9_24 hM0, gR_9_25 hM0, gI_9_26 hM0, gP_9_26 hM0, gI_9_27 hM0, gP_9_27 hM0, gI_9_28 hM0, gP_9_28 hM0, gL_9_29 hM0, gP_9_29 hM0, gL_9_30 hM0, gP_9_30 hM0, h1, sI_w hM5, sA_1, ht, cI_s, cL_s, cF_s, cD_s, cA_s, cV_s, nI_add, cond_true, cond_false, if_true, if_false]
  rfl
theorem j_byte (hc : hC sh) {tx : Nat → Nat} {len s : Nat} (R : RI S M tx len) (hl : len < 500) (hs : s < 2 ^ 31) (v : Int32) (d u : Nat) :
    ∃ S' M' tx', qX3_putWord_3 E d (x + 1) v (nI s) (wW E x sh S, n) = qX3_putWord_3 E d (x + 1) v (nI s + (-8 : Int32)) (wW E x sh S', n) ∧ qX11_four_3 E u y v (nI s) (wW E y shM M, m) = qX11_four_3 E u y v (nI s + (-8 : Int32)) (wW E y shM M', m) ∧ RI S' M' tx' (len + 1) ∧ frA S S' ∧ frB M M' := by
  obtain ⟨t, t1, t2, t3⟩ := by_w (v >>> (nI s &&& 31))
  exact ⟨_, _, _, c_byte hc R.1 hl hs v t3 d, r_byte R.2.1 hl hs v t2 u, RI_b R hl t1, frA_b, frB_b⟩
theorem m8_16 : nI 24 + (-8 : Int32) = nI 16 := by decide
theorem m8_8 : nI 16 + (-8 : Int32) = nI 8 := by decide
theorem m8_0 : nI 8 + (-8 : Int32) = nI 0 := by decide
theorem m8_e : nI 0 + (-8 : Int32) < nI 0 := by decide
theorem j_word (hc : hC sh) {tx : Nat → Nat} {len : Nat} (R : RI S M tx len) (hl : len + 4 ≤ 500) (v : Int32) (d u : Nat) :
    ∃ S' M' tx', xsem xT E (d + 1) kX3_putWord [.ref (x + 1), .int v] (wW E x sh S, n) = some (.inl none, (wW E x sh S', n)) ∧ xsem xT E (u + 1) kX11_four [.ref y, .int v] (wW E y shM M, m) = some (.inl none, (wW E y shM M', m)) ∧ RI S' M' tx' (len + 4) ∧ frA S S' ∧ frB M M' := by
  obtain ⟨S1, M1, t1, a1, b1, R1, f1, g1⟩ := j_byte (E := E) (x := x) (y := y) (n := n) (m := m) hc R (s := 24) (by omega) (by omega) v d u
  obtain ⟨S2, M2, t2, a2, b2, R2, f2, g2⟩ := j_byte (E := E) (x := x) (y := y) (n := n) (m := m) hc R1 (s := 16) (by omega) (by omega) v d u
  obtain ⟨S3, M3, t3, a3, b3, R3, f3, g3⟩ := j_byte (E := E) (x := x) (y := y) (n := n) (m := m) hc R2 (s := 8) (by omega) (by omega) v d u
  obtain ⟨S4, M4, t4, a4, b4, R4, f4, g4⟩ := j_byte (E := E) (x := x) (y := y) (n := n) (m := m) hc R3 (s := 0) (by omega) (by omega) v d u
  rw [m8_16] at a1 b1
  rw [m8_8] at a2 b2
  rw [m8_0] at a3 b3
  refine ⟨S4, M4, t4, ?_, ?_, R4, frA_tr (frA_tr f1 f2) (frA_tr f3 f4), frB_tr (frB_tr g1 g2) (frB_tr g3 g4)⟩
  · rw [eX3_putWord, QX3_putWord_0, a1, a2, a3, a4, QX3_putWord_3, if_pos m8_e, QX3_putWord_48]
  · rw [eX11_four, QX11_four_0, b1, b2, b3, b4, QX11_four_3, if_pos m8_e, QX11_four_39]
theorem T_append (hc : hC sh) (R : RR S M Bd) (a b c e f : Int32) (d u : Nat) : oT E x y n m sh [] Bd 0 (xsem xT E (d + 2) kX10_append [.ref x, .int a, .int b, .int c, .int e, .int f] (wW E x sh S, n)) (xsem xT E (u + 2) kX11_append [.ref y, .int a, .int b, .int c, .int e, .int f] (wW E y shM M, m)) := by
  obtain ⟨gs, w, un, tx, len, RGh, RIh⟩ := R
  have b0 := hc.1
  have a0 : sh 1 = some (sh3 1) := hc.2.1.1
  have a1 : sh (1 + 1) = some (2, 500, []) := hc.2.1.2.1
  have hl := RIh.2.2.1
  have h1 := RIh.1
  have h8 : (mZ M).1 0 8 = nI len := (frU_Z.1.2.2.1).trans RIh.2.1
  have hroom : xsem xT E (d + 1) kX3_hasRoom [.ref (x + 1), .int (nI 20)] (wW E x sh S, n) = some (.inl (some (.int (nI (if len + 20 ≤ 500 then 1 else 0)))), (wW E x sh S, n)) := by
    rw [eX3_hasRoom, QX3_hasRoom_0]
    simp (disch := omega) only [gO_3 a0, gR_3_0 a0, gI_3_1 a0, gP_3_1 a0, gI_3_2 a0, gP_3_2 a0, gR_3_3 a0, gR_3_4 a0, gR_3_5 a0, gI_3_6 a0, gP_3_6 a0, gI_3_7 a0, gP_3_7 a0, gI_3_8 a0, gP_3_8 a0, gI_3_9 a0, gP_3_9 a0, h1, aN_w a1, cI_s, cL_s, cF_s, cD_s, cA_s, cV_s, nI_add, cond_true, cond_false, if_true, if_false]
    by_cases z : len + 20 ≤ 500
    · rw [iLT_f z (by omega), if_pos z, QX3_hasRoom_19, xret5_1]
    · rw [iLT_t (by omega) (by omega), if_neg z, QX3_hasRoom_18, QX3_hasRoom_19, xret5_0]
  by_cases z : len + 20 ≤ 500
  · have RZ : RI S (mZ M) tx len := RI_fr RIh rfl rfl rfl (frU_Z.1.2.2.1) (frU_Z.1.2.2.2) frU_Z.2.2
    obtain ⟨S1, M1, t1, p1, q1, R1, f1, g1⟩ := j_word (E := E) (x := x) (y := y) (n := n) (m := m) hc RZ (by omega) a d u
    obtain ⟨S2, M2, t2, p2, q2, R2, f2, g2⟩ := j_word (E := E) (x := x) (y := y) (n := n) (m := m) hc R1 (by omega) b d u
    obtain ⟨S3, M3, t3, p3, q3, R3, f3, g3⟩ := j_word (E := E) (x := x) (y := y) (n := n) (m := m) hc R2 (by omega) c d u
    obtain ⟨S4, M4, t4, p4, q4, R4, f4, g4⟩ := j_word (E := E) (x := x) (y := y) (n := n) (m := m) hc R3 (by omega) e d u
    obtain ⟨S5, M5, t5, p5, q5, R5, f5, g5⟩ := j_word (E := E) (x := x) (y := y) (n := n) (m := m) hc R4 (by omega) f d u
    have fA := frA_tr f1 (frA_tr f2 (frA_tr f3 (frA_tr f4 f5)))
    have fB := frB_tr g1 (frB_tr g2 (frB_tr g3 (frB_tr g4 g5)))
    have h15 := R5.1
    have h85 := R5.2.1
    refine oT_ok (v := .int (nI (len + 4 + 4 + 4 + 4 + 4))) ⟨gs, w, un, t5, _, RG_fr RGh (congrFun (fA.1 0 (by omega)) 5) (congrFun (fA.1 0 (by omega)) 6) (fun j hj _ => ⟨fA.1 j (by omega), fA.2.2.1 j (by omega)⟩) ((fB.1 3 (by omega)).trans frU_Z.1.1) ((fB.1 4 (by omega)).trans frU_Z.1.2.1) (fun i hi => (congrFun (fB.2 1 (by omega)) i).trans (frU_Z.2.1 i hi)), R5⟩ ?_ ?_ ((fB.1 0 (by omega)).trans mZ_0)
    · rw [eX10_append, QX10_append_0]
      simp (disch := omega) only [gO_8 b0, gR_8_0 b0, gR_8_1 b0, gR_8_2 b0, gR_8_3 b0, gR_8_4 b0, gI_8_5 b0, gP_8_5 b0, gI_8_6 b0, gP_8_6 b0, gO_3 a0, gR_3_0 a0, gI_3_1 a0, gP_3_1 a0, gI_3_2 a0, gP_3_2 a0, gR_3_3 a0, gR_3_4 a0, gR_3_5 a0, gI_3_6 a0, gP_3_6 a0, gI_3_7 a0, gP_3_7 a0, gI_3_8 a0, gP_3_8 a0, gI_3_9 a0, gP_3_9 a0, hroom, if_pos z, iEQ_f, QX10_append_14, p1, p2, p3, p4, p5, h15, cI_s, cL_s, cF_s, cD_s, cA_s, cV_s, nI_add, cond_true, cond_false, if_true, if_false]
    · rw [eX11_append, QX11_append_0]
      simp (disch := omega) only [gO_9 hM0, gI_9_0 hM0, gP_9_0 hM0, gR_9_1 hM0, gR_9_2 hM0, gI_9_3 hM0, gP_9_3 hM0, gI_9_4 hM0, gP_9_4 hM0, gR_9_5 hM0, gR_9_6 hM0, gR_9_7 hM0, gI_9_8 hM0, gP_9_8 hM0, gI_9_9 hM0, gP_9_9 hM0, gI_9_10 hM0, gP_9_10 hM0, gI_9_11 hM0, gP_9_11 hM0, gI_9_12 hM0, gP_9_12 hM0, gI_9_13 hM0, gP_9_13 hM0, gI_9_14 hM0, gP_9_14 hM0, gI_9_15 hM0, gP_9_15 hM0, gI_9_16 hM0, gP_9_16 hM0, gR_9_17 hM0, gR_9_18 hM0, gR_9_19 hM0, gR_9_20 hM0, gI_9_21 hM0, gP_9_21 hM0, gI_9_22 hM0, gP_9_22 hM0, gI_9_23 hM0, gP_9_23 hM0, gI_9_24 hM0, gP_9_24 hM0, gR_9_25 hM0, gI_9_26 hM0, gP_9_26 hM0, gI_9_27 hM0, gP_9_27 hM0, gI_9_28 hM0, gP_9_28 hM0, gL_9_29 hM0, gP_9_29 hM0, gL_9_30 hM0, gP_9_30 hM0, cI_s, cL_s, cF_s, cD_s, cA_s, cV_s, nI_add, cond_true, cond_false, if_true, if_false]
      rw [show sS M 0 0 (nI 0) = mZ M from rfl]
      simp (disch := omega) only [h8, iLE_t, QX11_append_20, gO_9 hM0, gI_9_0 hM0, gP_9_0 hM0, gR_9_1 hM0, gR_9_2 hM0, gI_9_3 hM0, gP_9_3 hM0, gI_9_4 hM0, gP_9_4 hM0, gR_9_5 hM0, gR_9_6 hM0, gR_9_7 hM0, gI_9_8 hM0, gP_9_8 hM0, gI_9_9 hM0, gP_9_9 hM0, gI_9_10 hM0, gP_9_10 hM0, gI_9_11 hM0, gP_9_11 hM0, gI_9_12 hM0, gP_9_12 hM0, gI_9_13 hM0, gP_9_13 hM0, gI_9_14 hM0, gP_9_14 hM0, gI_9_15 hM0, gP_9_15 hM0, gI_9_16 hM0, gP_9_16 hM0, gR_9_17 hM0, gR_9_18 hM0, gR_9_19 hM0, gR_9_20 hM0, gI_9_21 hM0, gP_9_21 hM0, gI_9_22 hM0, gP_9_22 hM0, gI_9_23 hM0, gP_9_23 hM0, gI_9_24 hM0, gP_9_24 hM0, gR_9_25 hM0, gI_9_26 hM0, gP_9_26 hM0, gI_9_27 hM0, gP_9_27 hM0, gI_9_28 hM0, gP_9_28 hM0, gL_9_29 hM0, gP_9_29 hM0, gL_9_30 hM0, gP_9_30 hM0, q1, q2, q3, q4, q5, h85, cI_s, cL_s, cF_s, cD_s, cA_s, cV_s, nI_add, cond_true, cond_false, if_true, if_false]
  · refine oT_ok (v := .int (-1)) ⟨gs, w, un, tx, len, RG_fr RGh rfl rfl (fun j _ _ => ⟨rfl, rfl⟩) frU_Z.1.1 frU_Z.1.2.1 frU_Z.2.1, RI_fr RIh rfl rfl rfl (frU_Z.1.2.2.1) (frU_Z.1.2.2.2) frU_Z.2.2⟩ ?_ ?_ mZ_0
    · rw [eX10_append, QX10_append_0]
      simp (disch := omega) only [gO_8 b0, gR_8_0 b0, gR_8_1 b0, gR_8_2 b0, gR_8_3 b0, gR_8_4 b0, gI_8_5 b0, gP_8_5 b0, gI_8_6 b0, gP_8_6 b0, gO_3 a0, gR_3_0 a0, gI_3_1 a0, gP_3_1 a0, gI_3_2 a0, gP_3_2 a0, gR_3_3 a0, gR_3_4 a0, gR_3_5 a0, gI_3_6 a0, gP_3_6 a0, gI_3_7 a0, gP_3_7 a0, gI_3_8 a0, gP_3_8 a0, gI_3_9 a0, gP_3_9 a0, hroom, if_neg z, iEQ_t, cI_s, cL_s, cF_s, cD_s, cA_s, cV_s, nI_add, cond_true, cond_false, if_true, if_false]
    · rw [eX11_append, QX11_append_0]
      simp (disch := omega) only [gO_9 hM0, gI_9_0 hM0, gP_9_0 hM0, gR_9_1 hM0, gR_9_2 hM0, gI_9_3 hM0, gP_9_3 hM0, gI_9_4 hM0, gP_9_4 hM0, gR_9_5 hM0, gR_9_6 hM0, gR_9_7 hM0, gI_9_8 hM0, gP_9_8 hM0, gI_9_9 hM0, gP_9_9 hM0, gI_9_10 hM0, gP_9_10 hM0, gI_9_11 hM0, gP_9_11 hM0, gI_9_12 hM0, gP_9_12 hM0, gI_9_13 hM0, gP_9_13 hM0, gI_9_14 hM0, gP_9_14 hM0, gI_9_15 hM0, gP_9_15 hM0, gI_9_16 hM0, gP_9_16 hM0, gR_9_17 hM0, gR_9_18 hM0, gR_9_19 hM0, gR_9_20 hM0, gI_9_21 hM0, gP_9_21 hM0, gI_9_22 hM0, gP_9_22 hM0, gI_9_23 hM0, gP_9_23 hM0, gI_9_24 hM0, gP_9_24 hM0, gR_9_25 hM0, gI_9_26 hM0, gP_9_26 hM0, gI_9_27 hM0, gP_9_27 hM0, gI_9_28 hM0, gP_9_28 hM0, gL_9_29 hM0, gP_9_29 hM0, gL_9_30 hM0, gP_9_30 hM0, cI_s, cL_s, cF_s, cD_s, cA_s, cV_s, nI_add, cond_true, cond_false, if_true, if_false]
      rw [show sS M 0 0 (nI 0) = mZ M from rfl]
      simp (disch := omega) only [h8, iLE_f, cI_s, cL_s, cF_s, cD_s, cA_s, cV_s, nI_add, cond_true, cond_false, if_true, if_false]
end APP
