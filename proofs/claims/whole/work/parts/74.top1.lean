/-! WHAT A CALL COMES TO, on both sides: what is asked first. -/
def RR (S M : xSt) (Bd : Nat) : Prop := ∃ gs w un tx len, RG S M gs w un Bd ∧ RI S M tx len
def frU (M M' : xSt) : Prop := (M'.1 0 3 = M.1 0 3 ∧ M'.1 0 4 = M.1 0 4 ∧ M'.1 0 8 = M.1 0 8 ∧ M'.1 0 12 = M.1 0 12) ∧ (∀ i, i < 9900 → M'.2.1 1 i = M.2.1 1 i) ∧ M'.2.1 5 = M.2.1 5
theorem frU_rf {M : xSt} : frU M M := ⟨⟨rfl, rfl, rfl, rfl⟩, fun _ _ => rfl, rfl⟩
theorem frU_tr {M M1 M2 : xSt} (h : frU M M1) (h' : frU M1 M2) : frU M M2 := ⟨⟨h'.1.1.trans h.1.1, h'.1.2.1.trans h.1.2.1, h'.1.2.2.1.trans h.1.2.2.1, h'.1.2.2.2.trans h.1.2.2.2⟩, fun i hi => (h'.2.1 i hi).trans (h.2.1 i hi), h'.2.2.trans h.2.2⟩
theorem frU_S {M : xSt} {k : Nat} {v : Int32} (h : k ≠ 3 ∧ k ≠ 4 ∧ k ≠ 8 ∧ k ≠ 12) : frU M (sS M 0 k v) := ⟨⟨sS_n (by omega), sS_n (by omega), sS_n (by omega), sS_n (by omega)⟩, fun _ _ => rfl, rfl⟩
theorem RR_ro {S S' M M' : xSt} {gs : Nat → Nat → Nat} {w un Bd len : Nat} {tx : Nat → Nat} (R : RG S M gs w un Bd) (I : RI S M tx len) (f : frm 11 26 S S') (f' : frU M M') : RR S' M' Bd :=
  ⟨gs, w, un, tx, len, RG_fr R (frm_1 f (by omega)) (frm_1 f (by omega)) (fun j hj _ => f.1 j (by omega)) f'.1.1 f'.1.2.1 f'.2.1, RI_fr I (frm_1 f (by omega)) (frm_1 f (by omega)) (frm_2 f (by omega)) f'.1.2.2.1 f'.1.2.2.2 f'.2.2⟩
theorem i32_c (a : Int32) {b : Nat} (hb : b < 2 ^ 31) : (∃ p, p < b ∧ a = nI p) ∨ (a < 0 ∨ nI b ≤ a) := by
  by_cases h0 : a < 0
  · exact Or.inr (Or.inl h0)
  · have hz : (0 : Int32).toInt = 0 := by decide
    have h1 : 0 ≤ a.toInt := by
      have := Int32.not_lt.1 h0
      rw [Int32.le_iff_toInt_le, hz] at this
      exact this
    have h2 := Int32.toInt_lt a
    have e : a = nI a.toInt.toNat := by
      rw [← Int32.toInt_inj, nI_toInt (by omega)]
      omega
    by_cases c : a.toInt.toNat < b
    · exact Or.inl ⟨_, c, e⟩
    · refine Or.inr (Or.inr ?_)
      rw [e]
      exact nI_le (by omega) (by omega)
theorem ble_t {a b : Nat} (h : a ≤ b) : Nat.ble a b = true := Nat.ble_eq.mpr h
theorem xthr_5 {ρ : Type} {T : xR → Option ρ} {r : xR} : xthr 5 T r = T r := rfl

/-- what kind of answer: 0 int, 1 long, 3 a float that widens to a number, 4 double -/
def vtag : Value → Nat
  | .int _ => 0
  | .long _ => 1
  | .float r => if FP.f2d r &&& 0x7fffffffffffffff ≤ 0x7ff0000000000000 then 3 else 8
  | .double _ => 4
  | _ => 9
theorem vtag_f {r : UInt32} (h : FP.Core.fIsNaN r = false) : vtag (.float r) = 3 := by
  have e : FP.f2d r = FP.Core.f2d r := by
    unfold FP.f2d
    rw [if_neg (by rw [h]; decide)]
  have h2 : FP.f2d r &&& 0x7fffffffffffffff ≤ 0x7ff0000000000000 := by
    rw [e]
    exact fp_bits64 _ (FP.Core.f2d_out h)
  exact if_pos h2
/-- what a call comes to: the same answer, or the class throws what the reference says -/
def oT (E : xEn) (x y n m : Nat) (sh : Nat → Option xSh) (exs : List Nat) (Bd t : Nat) (cr mr : Option xR) : Prop :=
  ∃ S' M' w' n', RR S' M' Bd ∧ (∀ a, a ≠ n → w' a = wW E x sh S' a) ∧
    ((∃ v, vtag v = t ∧ cr = some (.inl (some v), (w', n')) ∧ mr = some (.inl (some v), (wW E y shM M', m)) ∧ M'.1 0 0 = nI 0) ∨
    (∃ k v ex, vtag v = t ∧ exs[k]? = some ex ∧ cr = some (.inr (xexc ex), (w', n')) ∧ mr = some (.inl (some v), (wW E y shM M', m)) ∧ M'.1 0 0 = nI (k + 1)))
section T1
variable {E : xEn} {x y n m : Nat} {sh : Nat → Option xSh} {S M : xSt} {g : Nat → Nat} {gs : Nat → Nat → Nat} {w un Bd len : Nat} {tx : Nat → Nat}
theorem oT_ok {S' M' : xSt} {exs : List Nat} {t : Nat} {cr mr : Option xR} {v : Value} (R : RR S' M' Bd) (hc : cr = some (.inl (some (v)), (wW E x sh S', n))) (hm : mr = some (.inl (some (v)), (wW E y shM M', m))) (h0 : M'.1 0 0 = nI 0) (ht : vtag v = t := by rfl) : oT E x y n m sh exs Bd t cr mr :=
  ⟨S', M', _, _, R, fun _ _ => rfl, Or.inl ⟨v, ht, hc, hm, h0⟩⟩
theorem oT_ex {S' M' : xSt} {exs : List Nat} {t : Nat} {cr mr : Option xR} {v : Value} {k ex : Nat} (R : RR S' M' Bd) (he : exs[k]? = some ex) (hc : cr = some (.inr (xexc ex), (wW E x sh S', n))) (hm : mr = some (.inl (some (v)), (wW E y shM M', m))) (h0 : M'.1 0 0 = nI (k + 1)) (ht : vtag v = t := by rfl) : oT E x y n m sh exs Bd t cr mr :=
  ⟨S', M', _, _, R, fun _ _ => rfl, Or.inr ⟨k, v, ex, ht, he, hc, hm, h0⟩⟩
/-- the reference begins: nothing is thrown -/
def mZ (M : xSt) : xSt := sS M 0 0 (nI 0)
theorem mZ_0 : (mZ M).1 0 0 = nI 0 := sS_s
theorem frU_Z : frU M (mZ M) := frU_S (by omega)
theorem GM_Z (h3 : M.1 0 3 = nI w) (hw : w < 9) (G : GR M w g) : GM (mZ M) w g := ⟨by unfold mZ; rw [sS_n (by omega)]; exact h3, by omega, G⟩
theorem frU_sS {k : Nat} {v : Int32} {M' : xSt} (h : frU M M') (hk : k ≠ 3 ∧ k ≠ 4 ∧ k ≠ 8 ∧ k ≠ 12) : frU M (sS M' 0 k v) := frU_tr h (frU_S hk)
theorem c_what_t {k last : Nat} (h : k ≤ last) (hl : last < 2 ^ 31) (d : Nat) : xsem xT E (d + 1) kX10_requireWhat [.ref x, .int (nI k), .int (nI last)] (wW E x sh S, n) = some (.inl none, (wW E x sh S, n)) := by
  rw [eX10_requireWhat, QX10_requireWhat_0, iLT_f (Nat.zero_le _) (by omega), iLE_t h hl, QX10_requireWhat_20]
theorem c_what_f {a : Int32} {last : Nat} (h : a < 0 ∨ nI (last + 1) ≤ a) (hl : last + 1 < 2 ^ 31) (d : Nat) : xsem xT E (d + 1) kX10_requireWhat [.ref x, .int a, .int (nI last)] (wW E x sh S, n) = some (.inr (xexc 0), (wW E x sh S, n)) := by
  have h9 : qX10_requireWhat_9 E d 0 0 (wW E x sh S, n) = some (.inr (xexc 0), (wW E x sh S, n)) := by
    rw [QX10_requireWhat_9]
    simp (disch := omega) only [ble_t, Bool.and_self, cI_s, cL_s, cF_s, cD_s, cA_s, cV_s, nI_add, cond_true, cond_false, if_true, if_false]
  rw [eX10_requireWhat, QX10_requireWhat_0]
  by_cases h0 : a < nI 0
  · rw [if_pos h0, h9]
  · have h1 : ¬ a ≤ nI last := by
      intro z
      have h2 := Int32.le_trans (h.resolve_left h0) z
      exact nI_ge (Nat.lt_succ_self _) hl h2
    rw [if_neg h0, if_neg h1, h9]
theorem c_place_t (hc : hC sh) (h5 : S.1 0 5 = nI w) (hw : w < 9) (P : pG S (27 + 12 * w) g) (I : iG g) {p : Nat} (hp : p < g 0) (d : Nat) : xsem xT E (d + 2) kX10_requirePlace [.ref x, .int (nI p)] (wW E x sh S, n) = some (.inl none, (wW E x sh S, n)) := by
  have b0 := hc.1
  have hG := hc.2.2.2.2.2.2 w hw
  have b2 := hG.1
  have b5 := hG.2.1
  have h8 := I.1.2.1
  have hgm := c_game (E := E) (x := x) (n := n) hc h5 hw d
  have hpl := s5_hasPlace_t (E := E) (x := x) (n := n) (S := S) b5 P.1.1 (by omega) hp d
  rw [eX10_requirePlace, QX10_requirePlace_0]
  simp (disch := omega) only [ble_t, Bool.and_self, gO_8 b0, gR_8_0 b0, gR_8_1 b0, gR_8_2 b0, gR_8_3 b0, gR_8_4 b0, gI_8_5 b0, gP_8_5 b0, gI_8_6 b0, gP_8_6 b0, cI_s, cL_s, cF_s, cD_s, cA_s, cV_s, nI_add, cond_true, cond_false, if_true, if_false]
  rw [hgm]
  simp (disch := omega) only [gO_2 b2, gR_2_0 b2, gR_2_1 b2, gR_2_2 b2, gR_2_3 b2, gI_2_4 b2, gP_2_4 b2, gI_2_5 b2, gP_2_5 b2, gI_2_6 b2, gP_2_6 b2, gI_2_7 b2, gP_2_7 b2, gI_2_8 b2, gP_2_8 b2, gO_5 b5, gI_5_0 b5, gP_5_0 b5, gI_5_1 b5, gP_5_1 b5, gI_5_2 b5, gP_5_2 b5, gR_5_3 b5, gR_5_4 b5, cI_s, cL_s, cF_s, cD_s, cA_s, cV_s, nI_add, cond_true, cond_false, if_true, if_false]
  rw [hpl]
  simp (disch := omega) only [iEQ_f, QX10_requirePlace_25, cI_s, cL_s, cF_s, cD_s, cA_s, cV_s, nI_add, cond_true, cond_false, if_true, if_false]
theorem c_place_f (hc : hC sh) (h5 : S.1 0 5 = nI w) (hw : w < 9) (P : pG S (27 + 12 * w) g) {a : Int32} (h : a < 0 ∨ nI (g 0) ≤ a) (d : Nat) : xsem xT E (d + 2) kX10_requirePlace [.ref x, .int a] (wW E x sh S, n) = some (.inr (xexc 1), (wW E x sh S, n)) := by
  have b0 := hc.1
  have hG := hc.2.2.2.2.2.2 w hw
  have b2 := hG.1
  have b5 := hG.2.1
  have hgm := c_game (E := E) (x := x) (n := n) hc h5 hw d
  have hpl := s5_hasPlace_f (E := E) (x := x) (n := n) (S := S) b5 P.1.1 h d
  rw [eX10_requirePlace, QX10_requirePlace_0]
  simp (disch := omega) only [ble_t, Bool.and_self, gO_8 b0, gR_8_0 b0, gR_8_1 b0, gR_8_2 b0, gR_8_3 b0, gR_8_4 b0, gI_8_5 b0, gP_8_5 b0, gI_8_6 b0, gP_8_6 b0, cI_s, cL_s, cF_s, cD_s, cA_s, cV_s, nI_add, cond_true, cond_false, if_true, if_false]
  rw [hgm]
  simp (disch := omega) only [gO_2 b2, gR_2_0 b2, gR_2_1 b2, gR_2_2 b2, gR_2_3 b2, gI_2_4 b2, gP_2_4 b2, gI_2_5 b2, gP_2_5 b2, gI_2_6 b2, gP_2_6 b2, gI_2_7 b2, gP_2_7 b2, gI_2_8 b2, gP_2_8 b2, gO_5 b5, gI_5_0 b5, gP_5_0 b5, gI_5_1 b5, gP_5_1 b5, gI_5_2 b5, gP_5_2 b5, gR_5_3 b5, gR_5_4 b5, cI_s, cL_s, cF_s, cD_s, cA_s, cV_s, nI_add, cond_true, cond_false, if_true, if_false]
  rw [hpl]
  simp (disch := omega) only [iEQ_t, cI_s, cL_s, cF_s, cD_s, cA_s, cV_s, nI_add, cond_true, cond_false, if_true, if_false]
theorem c_hand_t (hc : hC sh) (h5 : S.1 0 5 = nI w) (hw : w < 9) (P : pG S (27 + 12 * w) g) (I : iG g) {p : Nat} (hp : p ≤ g 0) (d : Nat) : xsem xT E (d + 2) kX10_requirePlaceOrHand [.ref x, .int (nI p)] (wW E x sh S, n) = some (.inl none, (wW E x sh S, n)) := by
  have b0 := hc.1
  have hG := hc.2.2.2.2.2.2 w hw
  have b2 := hG.1
  have b5 := hG.2.1
  have h8 := I.1.2.1
  have r0 : S.1 (27 + 12 * w + 1) 0 = nI (g 0) := P.1.1
  have hgm := c_game (E := E) (x := x) (n := n) hc h5 hw d
  rw [eX10_requirePlaceOrHand, QX10_requirePlaceOrHand_0, iLT_f (Nat.zero_le _) (by omega)]
  simp (disch := omega) only [ble_t, Bool.and_self, gO_8 b0, gR_8_0 b0, gR_8_1 b0, gR_8_2 b0, gR_8_3 b0, gR_8_4 b0, gI_8_5 b0, gP_8_5 b0, gI_8_6 b0, gP_8_6 b0, cI_s, cL_s, cF_s, cD_s, cA_s, cV_s, nI_add, cond_true, cond_false, if_true, if_false]
  rw [hgm]
  simp (disch := omega) only [gO_2 b2, gR_2_0 b2, gR_2_1 b2, gR_2_2 b2, gR_2_3 b2, gI_2_4 b2, gP_2_4 b2, gI_2_5 b2, gP_2_5 b2, gI_2_6 b2, gP_2_6 b2, gI_2_7 b2, gP_2_7 b2, gI_2_8 b2, gP_2_8 b2, gO_5 b5, gI_5_0 b5, gP_5_0 b5, gI_5_1 b5, gP_5_1 b5, gI_5_2 b5, gP_5_2 b5, gR_5_3 b5, gR_5_4 b5, r0, iLE_t, QX10_requirePlaceOrHand_29, cI_s, cL_s, cF_s, cD_s, cA_s, cV_s, nI_add, cond_true, cond_false, if_true, if_false]
theorem c_hand_f (hc : hC sh) (h5 : S.1 0 5 = nI w) (hw : w < 9) (P : pG S (27 + 12 * w) g) (I : iG g) {a : Int32} (h : a < 0 ∨ nI (g 0 + 1) ≤ a) (d : Nat) : xsem xT E (d + 2) kX10_requirePlaceOrHand [.ref x, .int a] (wW E x sh S, n) = some (.inr (xexc 0), (wW E x sh S, n)) := by
  have b0 := hc.1
  have hG := hc.2.2.2.2.2.2 w hw
  have b2 := hG.1
  have b5 := hG.2.1
  have h8 := I.1.2.1
  have r0 : S.1 (27 + 12 * w + 1) 0 = nI (g 0) := P.1.1
  have hgm := c_game (E := E) (x := x) (n := n) hc h5 hw d
  have h9 : qX10_requirePlaceOrHand_18 E (d + 1) 0 0 (wW E x sh S, n) = some (.inr (xexc 0), (wW E x sh S, n)) := by
    rw [QX10_requirePlaceOrHand_18]
    simp (disch := omega) only [ble_t, Bool.and_self, cI_s, cL_s, cF_s, cD_s, cA_s, cV_s, nI_add, cond_true, cond_false, if_true, if_false]
  rw [eX10_requirePlaceOrHand, QX10_requirePlaceOrHand_0]
  by_cases h0 : a < nI 0
  · rw [if_pos h0, h9]
  · have h1 : ¬ a ≤ nI (g 0) := fun z => nI_ge (Nat.lt_succ_self _) (by omega) (Int32.le_trans (h.resolve_left h0) z)
    rw [if_neg h0]
    simp (disch := omega) only [ble_t, Bool.and_self, gO_8 b0, gR_8_0 b0, gR_8_1 b0, gR_8_2 b0, gR_8_3 b0, gR_8_4 b0, gI_8_5 b0, gP_8_5 b0, gI_8_6 b0, gP_8_6 b0, cI_s, cL_s, cF_s, cD_s, cA_s, cV_s, nI_add, cond_true, cond_false, if_true, if_false]
    rw [hgm]
    simp (disch := omega) only [gO_2 b2, gR_2_0 b2, gR_2_1 b2, gR_2_2 b2, gR_2_3 b2, gI_2_4 b2, gP_2_4 b2, gI_2_5 b2, gP_2_5 b2, gI_2_6 b2, gP_2_6 b2, gI_2_7 b2, gP_2_7 b2, gI_2_8 b2, gP_2_8 b2, gO_5 b5, gI_5_0 b5, gP_5_0 b5, gI_5_1 b5, gP_5_1 b5, gI_5_2 b5, gP_5_2 b5, gR_5_3 b5, gR_5_4 b5, r0, if_neg h1, cI_s, cL_s, cF_s, cD_s, cA_s, cV_s, nI_add, cond_true, cond_false, if_true, if_false]
    exact h9
end T1
