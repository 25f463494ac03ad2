/-! append, on both sides. -/
theorem by_w (z : Int32) : ∃ t, t < 256 ∧ z &&& nI 255 = nI t ∧ z.toInt8.toInt32 = sx t := by
  have hk : z.toBitVec.toNat < 2 ^ 32 := z.toBitVec.isLt
  have ht : z.toBitVec.toNat % 256 < 256 := Nat.mod_lt _ (by omega)
  refine ⟨z.toBitVec.toNat % 256, ht, ?_, ?_⟩
  · refine Int32.toBitVec_inj.1 (BitVec.eq_of_toNat_eq ?_)
    have h1 : (nI 255).toBitVec.toNat = 2 ^ 8 - 1 := rfl
    have h2 : (nI (z.toBitVec.toNat % 256)).toBitVec.toNat = (z.toBitVec.toNat % 256) % 2 ^ 32 := rfl
    rw [Int32.toBitVec_and, BitVec.toNat_and, h1, Nat.and_two_pow_sub_one_eq_mod, h2]
    omega
  · refine Int32.toInt_inj.1 ?_
    have h1 : z.toInt = (z.toBitVec.toNat : Int).bmod (2 ^ 32) := BitVec.toInt_eq_toNat_bmod _
    rw [Int8.toInt_toInt32, Int32.toInt_toInt8, sx_T ht, h1, Int.bmod_bmod_of_dvd (by decide), Int.bmod_def]
    generalize z.toBitVec.toNat = k at hk
    split <;> split <;> omega
section APP
variable {E : xEn} {z : Nat → Option va_E} {x y n m : Nat} {sh : Nat → Option xSh} {S M : xSt} {Bd : Nat}
def bC (S : xSt) (len t : Nat) : xSt := sS (sA S 2 (upd (S.2.1 2) len (sx t))) 1 1 (nI (len + 1))
def bR (M : xSt) (len t : Nat) : xSt := sS (sA M 5 (upd (M.2.1 5) len (nI t))) 0 8 (nI (len + 1))
/-- what appending changes -/
def frA (S S' : xSt) : Prop := (∀ j, j ≠ 1 → S'.1 j = S.1 j) ∧ (∀ k, k ≠ 1 → S'.1 1 k = S.1 1 k) ∧ (∀ j, j ≠ 2 → S'.2.1 j = S.2.1 j) ∧ S'.2.2 = S.2.2
def frB (M M' : xSt) : Prop := (∀ k, k ≠ 8 → M'.1 0 k = M.1 0 k) ∧ (∀ j, j ≠ 5 → M'.2.1 j = M.2.1 j)
theorem frA_tr {S S1 S2 : xSt} (h : frA S S1) (h' : frA S1 S2) : frA S S2 := ⟨fun j a => (h'.1 j a).trans (h.1 j a), fun j a => (h'.2.1 j a).trans (h.2.1 j a), fun j a => (h'.2.2.1 j a).trans (h.2.2.1 j a), h'.2.2.2.trans h.2.2.2⟩
theorem frB_tr {M M1 M2 : xSt} (h : frB M M1) (h' : frB M1 M2) : frB M M2 := ⟨fun j a => (h'.1 j a).trans (h.1 j a), fun j a => (h'.2 j a).trans (h.2 j a)⟩
theorem frA_b {len t : Nat} : frA S (bC S len t) := ⟨fun j a => funext fun k => sS_nq a, fun k a => sS_n a, fun j a => sA_n a, rfl⟩
theorem frB_b {len t : Nat} : frB M (bR M len t) := ⟨fun k a => sS_n a, fun j a => sA_n a⟩
theorem c_byte (hc : hC sh) {len s : Nat} (h1 : S.1 1 1 = nI len) (hl : len < 500) (hs : s < 2 ^ 31) (v : Int32) {t : Nat} (ht : (v >>> (nI s &&& 31)).toInt8.toInt32 = sx t) (d : Nat) :
    qX3_putWord_3 E d (x + 1) v (nI s) (wW E z x sh S, n) = qX3_putWord_3 E d (x + 1) v (nI s + (-8 : Int32)) (wW E z x sh (bC S len t), n) := by
  have a0 : sh 1 = some (sh3 1) := hc.2.1.1
  have a1 : sh (1 + 1) = some (2, 500, []) := hc.2.1.2.1
  have hv : vp_nar .byte (sx t) = sx t := by
    rw [← ht]
    exact pk_vb _
  rw [QX3_putWord_3, iLT_f (Nat.zero_le _) hs]
  simp (disch := omega) only [gO_3 a0, gR_3_0 a0, gI_3_1 a0, gP_3_1 a0, gI_3_2 a0, gP_3_2 a0, gR_3_3 a0, gR_3_4 a0, gR_3_5 a0, gI_3_6 a0, gP_3_6 a0, gI_3_7 a0, gP_3_7 a0, gI_3_8 a0, gP_3_8 a0, gI_3_9 a0, gP_3_9 a0, h1, aN_w a1, iLE_f, aBs_w a1, ht, hv, sA_1, QX3_putWord_42, cI_s, cL_s, cF_s, cD_s, cA_s, cV_s, nI_add, cond_true, cond_false, if_true, if_false]
  rfl
theorem m8_16 : nI 24 + (-8 : Int32) = nI 16 := by decide
theorem m8_8 : nI 16 + (-8 : Int32) = nI 8 := by decide
theorem m8_0 : nI 8 + (-8 : Int32) = nI 0 := by decide
theorem m8_e : nI 0 + (-8 : Int32) < nI 0 := by decide
end APP
