/-! WORDS OF LETTERS, AND FEEDING THEM. -/
theorem w_or (u : Nat) {c : Nat} (hc : c < 256) : (nI u <<< (nI 8 &&& 31)) ||| nI c = nI (u * 256 + c) := by
  refine Int32.toBitVec_inj.1 (BitVec.eq_of_toNat_eq ?_)
  have h8 : ((nI 8 &&& 31).toBitVec.smod 32) = 8#32 := by decide
  show ((BitVec.ofNat 32 u <<< ((nI 8 &&& 31).toBitVec.smod 32)) ||| BitVec.ofNat 32 c).toNat = (BitVec.ofNat 32 (u * 256 + c)).toNat
  rw [h8, BitVec.toNat_or, BitVec.shiftLeft_eq', BitVec.toNat_shiftLeft]
  simp only [BitVec.toNat_ofNat]
  have e1 : (u % 2 ^ 32) <<< (8 % 2 ^ 32) % 2 ^ 32 = (u % 2 ^ 24) <<< 8 := by
    show (u % 2 ^ 32) <<< 8 % 2 ^ 32 = _
    rw [Nat.shiftLeft_eq, Nat.shiftLeft_eq]
    omega
  have e2 : c % 2 ^ 32 = c := by omega
  rw [e1, e2, ← Nat.shiftLeft_add_eq_or_of_lt (by omega), Nat.shiftLeft_eq]
  omega
theorem w_shr {W : Nat} (hW : W < 2 ^ 31) : (nI W >>> (nI 24 &&& 31) = nI (W / 2 ^ 24)) ∧ (nI W >>> (nI 16 &&& 31) = nI (W / 2 ^ 16)) ∧ (nI W >>> (nI 8 &&& 31) = nI (W / 2 ^ 8)) ∧ nI W >>> (nI 0 &&& 31) = nI (W / 2 ^ 0) := by
  have hm : (BitVec.ofNat 32 W).msb = false := by
    rw [BitVec.msb_eq_false_iff_two_mul_lt, BitVec.toNat_ofNat]
    omega
  have go : ∀ (s : Nat) (b : BitVec 32), b = BitVec.ofNat 32 s → s < 32 → (BitVec.ofNat 32 W).sshiftRight' b = BitVec.ofNat 32 (W / 2 ^ s) := by
    intro s b hb hs
    subst hb
    show (BitVec.ofNat 32 W).sshiftRight (BitVec.ofNat 32 s).toNat = _
    rw [BitVec.sshiftRight_eq_of_msb_false hm]
    refine BitVec.eq_of_toNat_eq ?_
    rw [BitVec.toNat_ushiftRight, BitVec.toNat_ofNat, BitVec.toNat_ofNat, BitVec.toNat_ofNat, Nat.shiftRight_eq_div_pow, Nat.mod_eq_of_lt (show W < 2 ^ 32 by omega), Nat.mod_eq_of_lt (show s < 2 ^ 32 by omega)]
    have : W / 2 ^ s ≤ W := Nat.div_le_self _ _
    rw [Nat.mod_eq_of_lt (by omega)]
  exact ⟨Int32.toBitVec_inj.1 (go 24 _ (by decide) (by omega)), Int32.toBitVec_inj.1 (go 16 _ (by decide) (by omega)), Int32.toBitVec_inj.1 (go 8 _ (by decide) (by omega)), Int32.toBitVec_inj.1 (go 0 _ (by decide) (by omega))⟩
theorem w_b8 {v c : Nat} (hv : v < 2 ^ 31) (hc : c < 128) (h : v % 256 = c) : (nI v).toInt8.toInt32 = sx c := by
  refine Int32.toInt_inj.1 ?_
  rw [Int8.toInt_toInt32, Int32.toInt_toInt8, nI_toInt hv, sx_T (by omega), if_pos hc, Int.bmod_def]
  split <;> omega
def wrd (c : Nat → Nat) (j : Nat) : Nat := ((c (4 * j) * 256 + c (4 * j + 1)) * 256 + c (4 * j + 2)) * 256 + c (4 * j + 3)
theorem wrd_b {c : Nat → Nat} (hc : ∀ k, c k < 128) (j : Nat) : wrd c j < 2 ^ 31 ∧ (nI (wrd c j) >>> (nI 24 &&& 31)).toInt8.toInt32 = sx (c (4 * j)) ∧ (nI (wrd c j) >>> (nI 16 &&& 31)).toInt8.toInt32 = sx (c (4 * j + 1)) ∧ (nI (wrd c j) >>> (nI 8 &&& 31)).toInt8.toInt32 = sx (c (4 * j + 2)) ∧ (nI (wrd c j) >>> (nI 0 &&& 31)).toInt8.toInt32 = sx (c (4 * j + 3)) := by
  have h0 := hc (4 * j)
  have h1 := hc (4 * j + 1)
  have h2 := hc (4 * j + 2)
  have h3 := hc (4 * j + 3)
  have hW : wrd c j < 2 ^ 31 := by unfold wrd; omega
  obtain ⟨a1, a2, a3, a4⟩ := w_shr hW
  refine ⟨hW, ?_, ?_, ?_, ?_⟩
  · rw [a1]
    refine w_b8 ?_ h0 ?_ <;> unfold wrd <;> omega
  · rw [a2]
    refine w_b8 ?_ h1 ?_ <;> unfold wrd <;> omega
  · rw [a3]
    refine w_b8 ?_ h2 ?_ <;> unfold wrd <;> omega
  · rw [a4]
    refine w_b8 ?_ h3 ?_ <;> unfold wrd <;> omega
theorem RI_cg {S : xSt} {tx tx' : Nat → Nat} {len : Nat} (R : RI S tx len) (h : ∀ i, i < len → tx' i = tx i) : RI S tx' len := ⟨R.1, R.2.1, fun i hi => by rw [h i hi]; exact R.2.2 i hi⟩
theorem RI_b {S : xSt} {tx : Nat → Nat} {len : Nat} (R : RI S tx len) (h : len < 500) (hc : tx len < 256) : RI (bC S len (tx len)) tx (len + 1) := by
  refine ⟨sS_s, by omega, fun i hi => ?_⟩
  show (sA S 2 (upd (S.2.1 2) len (sx (tx len)))).2.1 2 i = _ ∧ _
  rw [sA_s]
  by_cases e : i = len
  · subst e
    exact ⟨pk_us, hc⟩
  · rw [pk_un e]
    exact R.2.2 i (by omega)
theorem CG_A {S S' : xSt} {g : Nat → Nat} {w un : Nat} (C : CG S g w un) (f : frA S S') : CG S' g w un := by
  obtain ⟨c5, c6, hw, hun, P, I, F⟩ := C
  exact ⟨(congrFun (f.1 0 (by omega)) 5).trans c5, (congrFun (f.1 0 (by omega)) 6).trans c6, hw, hun, pG_eq (fun j a b => ⟨f.1 j (by omega), f.2.2.1 j (by omega)⟩) P, I, F⟩
theorem frA_rf {S : xSt} : frA S S := ⟨fun _ _ => rfl, fun _ _ => rfl, fun _ _ => rfl, rfl⟩
section FEED
variable {E : xEn} {z : Nat → Option va_E} {x n : Nat} {sh : Nat → Option xSh} {S : xSt} {tx : Nat → Nat} {len : Nat}
theorem k_word (hc : hC sh) (R : RI S tx len) (hl : len + 4 ≤ 500) {c : Nat → Nat} (h8 : ∀ k, c k < 128) (j : Nat) (h0 : tx len = c (4 * j)) (h1 : tx (len + 1) = c (4 * j + 1)) (h2 : tx (len + 1 + 1) = c (4 * j + 2)) (h3 : tx (len + 1 + 1 + 1) = c (4 * j + 3)) (d : Nat) :
    ∃ S', xsem xT E (d + 1) kX3_putWord [.ref (x + 1), .int (nI (wrd c j))] (wW E z x sh S, n) = some (.inl none, (wW E z x sh S', n)) ∧ RI S' tx (len + 4) ∧ frA S S' := by
  obtain ⟨hW, b1, b2, b3, b4⟩ := wrd_b h8 j
  rw [← h0] at b1
  rw [← h1] at b2
  rw [← h2] at b3
  rw [← h3] at b4
  have k0 := h8 (4 * j)
  have k1 := h8 (4 * j + 1)
  have k2 := h8 (4 * j + 2)
  have k3 := h8 (4 * j + 3)
  have R1 := RI_b R (by omega) (by omega)
  have R2 := RI_b R1 (by omega) (by omega)
  have R3 := RI_b R2 (by omega) (by omega)
  have R4 := RI_b R3 (by omega) (by omega)
  have a1 := c_byte (E := E) (z := z) (x := x) (n := n) hc R.1 (by omega) (show 24 < 2 ^ 31 by omega) (nI (wrd c j)) b1 d
  have a2 := c_byte (E := E) (z := z) (x := x) (n := n) hc R1.1 (by omega) (show 16 < 2 ^ 31 by omega) (nI (wrd c j)) b2 d
  have a3 := c_byte (E := E) (z := z) (x := x) (n := n) hc R2.1 (by omega) (show 8 < 2 ^ 31 by omega) (nI (wrd c j)) b3 d
  have a4 := c_byte (E := E) (z := z) (x := x) (n := n) hc R3.1 (by omega) (show 0 < 2 ^ 31 by omega) (nI (wrd c j)) b4 d
  rw [m8_16] at a1
  rw [m8_8] at a2
  rw [m8_0] at a3
  refine ⟨_, ?_, R4, frA_tr (frA_tr frA_b frA_b) (frA_tr frA_b frA_b)⟩
  rw [eX3_putWord, QX3_putWord_0, a1, a2, a3, a4, QX3_putWord_3, if_pos m8_e, QX3_putWord_48]
theorem k_append (hc : hC sh) (R : RI S tx len) (hl : len + 20 ≤ 500) {c : Nat → Nat} (h8 : ∀ k, c k < 128) (ht : ∀ k, k < 20 → tx (len + k) = c k) (d : Nat) :
    ∃ S', xsem xT E (d + 2) kX10_append [.ref x, .int (nI (wrd c 0)), .int (nI (wrd c 1)), .int (nI (wrd c 2)), .int (nI (wrd c 3)), .int (nI (wrd c 4))] (wW E z x sh S, n) = some (.inl (some (.int (nI (len + 20)))), (wW E z x sh S', n)) ∧ RI S' tx (len + 20) ∧ frA S S' := by
  have b0 := hc.1
  have a0 : sh 1 = some (sh3 1) := hc.2.1.1
  have a1 : sh (1 + 1) = some (2, 500, []) := hc.2.1.2.1
  have h1 := R.1
  have hroom : xsem xT E (d + 1) kX3_hasRoom [.ref (x + 1), .int (nI 20)] (wW E z x sh S, n) = some (.inl (some (.int (nI 1))), (wW E z x sh S, n)) := by
    rw [eX3_hasRoom, QX3_hasRoom_0]
    simp (disch := omega) only [gO_3 a0, gR_3_0 a0, gI_3_1 a0, gP_3_1 a0, gI_3_2 a0, gP_3_2 a0, gR_3_3 a0, gR_3_4 a0, gR_3_5 a0, gI_3_6 a0, gP_3_6 a0, gI_3_7 a0, gP_3_7 a0, gI_3_8 a0, gP_3_8 a0, gI_3_9 a0, gP_3_9 a0, h1, aN_w a1, cI_s, cL_s, cF_s, cD_s, cA_s, cV_s, nI_add, cond_true, cond_false, if_true, if_false]
    rw [iLT_f hl (by omega), QX3_hasRoom_19, xret5_1]
  obtain ⟨S1, p1, R1, f1⟩ := k_word (E := E) (z := z) (x := x) (n := n) hc R (by omega) h8 0 (ht 0 (by omega)) (ht 1 (by omega)) (ht 2 (by omega)) (ht 3 (by omega)) d
  obtain ⟨S2, p2, R2, f2⟩ := k_word (E := E) (z := z) (x := x) (n := n) hc R1 (by omega) h8 1 (ht 4 (by omega)) (ht 5 (by omega)) (ht 6 (by omega)) (ht 7 (by omega)) d
  obtain ⟨S3, p3, R3, f3⟩ := k_word (E := E) (z := z) (x := x) (n := n) hc R2 (by omega) h8 2 (ht 8 (by omega)) (ht 9 (by omega)) (ht 10 (by omega)) (ht 11 (by omega)) d
  obtain ⟨S4, p4, R4, f4⟩ := k_word (E := E) (z := z) (x := x) (n := n) hc R3 (by omega) h8 3 (ht 12 (by omega)) (ht 13 (by omega)) (ht 14 (by omega)) (ht 15 (by omega)) d
  obtain ⟨S5, p5, R5, f5⟩ := k_word (E := E) (z := z) (x := x) (n := n) hc R4 (by omega) h8 4 (ht 16 (by omega)) (ht 17 (by omega)) (ht 18 (by omega)) (ht 19 (by omega)) d
  have h15 := R5.1
  refine ⟨S5, ?_, R5, frA_tr f1 (frA_tr f2 (frA_tr f3 (frA_tr f4 f5)))⟩
  rw [eX10_append, QX10_append_0]
  simp (disch := omega) only [gO_8 b0, gR_8_0 b0, gR_8_1 b0, gR_8_2 b0, gR_8_3 b0, gR_8_4 b0, gI_8_5 b0, gP_8_5 b0, gI_8_6 b0, gP_8_6 b0, gO_3 a0, gR_3_0 a0, gI_3_1 a0, gP_3_1 a0, gI_3_2 a0, gP_3_2 a0, gR_3_3 a0, gR_3_4 a0, gR_3_5 a0, gI_3_6 a0, gP_3_6 a0, gI_3_7 a0, gP_3_7 a0, gI_3_8 a0, gP_3_8 a0, gI_3_9 a0, gP_3_9 a0, hroom, iEQ_f, QX10_append_14, p1, p2, p3, p4, p5, h15, cI_s, cL_s, cF_s, cD_s, cA_s, cV_s, nI_add, cond_true, cond_false, if_true, if_false]
end FEED
