/-! STRINGBUILDER over raw worlds: texts of letters below 128. -/
theorem xdef_12 : xdef 12 4 = [.null, .int (nI 0), .int (nI 0), .int (nI 0)] := rfl
theorem xdef_11 : xdef 11 4 = [.null, .int (nI 0), .int (nI 0), .int (nI 0)] := rfl
theorem xup_xup {w : Nat → Option va_E} {a : Nat} {e e' : va_E} : xup (xup w a e) a e' = xup w a e' := by
  funext b
  unfold xup
  cases Nat.beq b a <;> rfl
/-- the rows ahead of place n hold the text t; all are bytes -/
def Tx (f : Nat → Int32) (t : List Nat) : Prop := (∀ i, i < t.length → f i = nI (t.getD i 0)) ∧ (∀ c ∈ t, c < 128) ∧ ∀ i, fits .byte (.int (f i)) = true
/-- a builder at a, its bytes at v, m of them -/
def SB (w : Nat → Option va_E) (n a v m : Nat) (t : List Nat) : Prop := ∃ f, w a = some (.inr (12, [.ref v, .int (nI 0), .int (nI 0), .int (nI t.length)])) ∧ w v = some (.inl (1, m, .inl f)) ∧ a ≠ v ∧ a < n ∧ v < n ∧ Tx f t ∧ t.length ≤ m
/-- the cells ahead of n but a and v are as they were -/
def fq (a v : Nat) (w : Nat → Option va_E) (n : Nat) (w' : Nat → Option va_E) (n' : Nat) : Prop := n ≤ n' ∧ ∀ q, q ≠ a → q ≠ v → q < n → w' q = w q
theorem fq_rf {a v n : Nat} {w : Nat → Option va_E} : fq a v w n w n := ⟨Nat.le_refl _, fun _ _ _ _ => rfl⟩
theorem fq_tr {a v v' n n' n'' : Nat} {w w' w'' : Nat → Option va_E} (h : fq a v w n w' n') (hv : v' = v ∨ n ≤ v') (h' : fq a v' w' n' w'' n'') : fq a v w n w'' n'' :=
  ⟨Nat.le_trans h.1 h'.1, fun q h1 h2 h3 => (h'.2 q h1 (by rcases hv with rfl | hv <;> omega) (Nat.lt_of_lt_of_le h3 h.1)).trans (h.2 q h1 h2 h3)⟩
def cap (q m : Nat) : Nat := if q ≤ m then m else m + (if q - m < m + 2 then m + 2 else q - m)
theorem cap_ge {q m : Nat} : q ≤ cap q m ∧ m ≤ cap q m := by
  unfold cap
  split
  · omega
  · split <;> omega
theorem Tx_fit0 : ∀ i : Nat, fits .byte (.int ((fun _ => (0 : Int32)) i)) = true := fun _ => rfl
theorem fit_cpy {f g : Nat → Int32} {i j k : Nat} (hf : ∀ q, fits .byte (.int (f q)) = true) (hg : ∀ q, fits .byte (.int (g q)) = true) : ∀ q, fits .byte (.int (va_cpy f g i j k q)) = true := by
  intro q
  unfold va_cpy
  split
  · exact hf _
  · exact hg _
theorem Tx_keep {f g : Nat → Int32} {t : List Nat} (h : Tx f t) (hg : ∀ i, i < t.length → g i = f i) (hf : ∀ i, fits .byte (.int (g i)) = true) : Tx g t := ⟨fun i hi => (hg i hi).trans (h.1 i hi), h.2.1, hf⟩
theorem getD_app1 {t s : List Nat} {i : Nat} (h : i < t.length) : (t ++ s).getD i 0 = t.getD i 0 := by
  rw [List.getD_eq_getElem?_getD, List.getD_eq_getElem?_getD, List.getElem?_append_left h]
theorem getD_app2 {t s : List Nat} {i : Nat} (h : t.length ≤ i) : (t ++ s).getD i 0 = s.getD (i - t.length) 0 := by
  rw [List.getD_eq_getElem?_getD, List.getD_eq_getElem?_getD, List.getElem?_append_right h]
/-- what is written behind a text -/
theorem Tx_app {f g : Nat → Int32} {t s : List Nat} (h : Tx f t) (h1 : ∀ i, i < t.length → g i = f i) (h2 : ∀ i, i < s.length → g (t.length + i) = nI (s.getD i 0)) (hs : ∀ c ∈ s, c < 128) (hg : ∀ i, fits .byte (.int (g i)) = true) : Tx g (t ++ s) := by
  refine ⟨fun i hi => ?_, fun c hc => (List.mem_append.1 hc).elim (h.2.1 c) (hs c), hg⟩
  rw [List.length_append] at hi
  by_cases c : i < t.length
  · rw [h1 i c, h.1 i c, getD_app1 c]
  · rw [getD_app2 (by omega), ← h2 (i - t.length) (by omega), show t.length + (i - t.length) = i by omega]
theorem SB_fr {w w' : Nat → Option va_E} {n n' a v m : Nat} {t : List Nat} (h : SB w n a v m t) (h1 : w' a = w a) (h2 : w' v = w v) (hn : n ≤ n') : SB w' n' a v m t := by
  obtain ⟨f, a1, a2, a3, a4, a5, a6, a7⟩ := h
  exact ⟨f, h1.trans a1, h2.trans a2, a3, by omega, by omega, a6, a7⟩
section SBU
variable {E : xEn} {w : Nat → Option va_E} {n a v m q : Nat} {t : List Nat} {f : Nat → Int32}
theorem z_latA {fs : List Value} (h : w a = some (.inr (12, fs))) (h1 : fs[1]? = some (.int (nI 0))) (d : Nat) : xsem xT E (d + 1) kJ5_isLatin1_aae02 [.ref a] (w, n) = some (.inl (some (.int (nI 1))), (w, n)) := by
  rw [eJ5_isLatin1_aae02, QJ5_isLatin1_aae02_0, iEQ_f (by omega) (by omega) (by omega), gI_at h h1, iEQ_t rfl, QJ5_isLatin1_aae02_18]
  rfl
theorem z_newLen {σ : xH} {x1 x2 : Nat} (hm : m < 100000) (h1 : x1 < 100000) (h2 : x2 < 100000) (h3 : 0 < m + (if x1 < x2 then x2 else x1)) (d : Nat) : xsem xT E (d + 1) kJ8_newLength_cabcc [.int (nI m), .int (nI x1), .int (nI x2)] σ = some (.inl (some (.int (nI (m + (if x1 < x2 then x2 else x1))))), σ) := by
  have hl : (if x1 < x2 then x2 else x1) < 100000 := by split <;> omega
  rw [eJ8_newLength_cabcc, QJ8_newLength_cabcc_0, mxI_n (by omega) (by omega), nI_add, iLE_f h3 (by omega), iLT_f (by omega) (by omega)]
theorem z_newCap (h : w a = some (.inr (12, [.ref v, .int (nI 0), .int (nI 0), .int (nI t.length)]))) (hv : w v = some (.inl (1, m, .inl f))) (hq : m < q) (hq2 : q < 50000) (d : Nat) :
    xsem xT E (d + 2) kJ5_newCapacity_0f7a4 [.ref a, .int (nI q)] (w, n) = some (.inl (some (.int (nI (cap q m)))), (w, n)) := by
  have hc : cap q m = m + (if q - m < m + 2 then m + 2 else q - m) := if_neg (by omega)
  have hl : (if q - m < m + 2 then m + 2 else q - m) < 100000 := by split <;> omega
  rw [eJ5_newCapacity_0f7a4, QJ5_newCapacity_0f7a4_0, gR_at h rfl, aN_at hv rfl, gI_at h rfl, gI_at h rfl, xsh0l, xsh0l, pk_sub (by omega), nI_add, z_newLen (by omega) (by omega) (by omega) (by split <;> omega), cI_s, iEQ_f (by omega) (by omega) (by omega), QJ5_newCapacity_0f7a4_51, gI_at h rfl, xsh0r, hc]
theorem z_copyOf (hv : w v = some (.inl (1, m, .inl f))) (hvn : v < n) (hq : m < q) (hq2 : q ≤ 250) (hf : ∀ i, fits .byte (.int (f i)) = true) (d : Nat) :
    xsem xT E (d + 1) kJ7_copyOf_9075b [.ref v, .int (nI q)] (w, n) = some (.inl (some (.ref n)), (xup w n (.inl (1, q, .inl (va_cpy f (fun _ => 0) 0 0 m))), n + 1)) := by
  have hc : (nI q).toNatClampNeg = q := nI_clamp (by omega)
  have hl : decide (¬ nI q < 0) = true := decide_eq_true (nI_nlt (Nat.zero_le q) (by omega))
  have hv' : xup w n (.inl (1, q, xarr 1)) v = some (.inl (1, m, .inl f)) := by rw [xup_ne (by omega)]; exact hv
  have hn' : xup w n (.inl (1, q, xarr 1)) n = some (.inl (1, q, .inl fun _ => 0)) := by rw [xup_same]; rfl
  rw [eJ7_copyOf_9075b, QJ7_copyOf_9075b_0, aN_at hv rfl, iEQ_f (by omega) (by omega) (by omega), QJ7_copyOf_9075b_14, hc, hl]
  rw [show (Nat.ble (0 + 1) 1 && (Nat.ble (0 + q) 250 && Nat.ble q 100000)) = true by simp; omega]
  unfold nwA
  dsimp only [cond, Bool.and_self]
  rw [aN_at hv' rfl, mnI_n (by omega) (by omega), if_neg (by omega), cpB_at hv' hn' (by omega) (by omega) (by omega) (by omega) (by omega) (fun i _ => hf i)]
  rw [show xup (xup w n (.inl (1, q, xarr 1))) n (.inl (1, q, .inl (va_cpy f (fun _ => 0) 0 0 m))) = xup w n (.inl (1, q, .inl (va_cpy f (fun _ => 0) 0 0 m))) from xup_xup]
  rfl
/-- room for q letters -/
theorem z_ensure (h : SB w n a v m t) (hq2 : q ≤ 120) (hm : m ≤ 120) (d : Nat) :
    ∃ w' n' v', xsem xT E (d + 3) kJ5_ensureCapacityInternal_d00df [.ref a, .int (nI q)] (w, n) = some (.inl none, (w', n')) ∧ SB w' n' a v' (cap q m) t ∧ fq a v w n w' n' ∧ (v' = v ∨ n ≤ v') := by
  obtain ⟨f, h1, h2, h3, h4, h5, h6, h7⟩ := h
  by_cases c : q ≤ m
  · refine ⟨w, n, v, ?_, ⟨f, h1, by rw [cap, if_pos c]; exact h2, h3, h4, h5, h6, by rw [cap, if_pos c]; exact h7⟩, fq_rf, Or.inl rfl⟩
    have hle : nI q - nI m ≤ nI 0 := by
      rw [Int32.le_iff_toInt_le, pk_sub_toInt (by omega) (by omega), nI_toInt (by omega)]
      omega
    rw [eJ5_ensureCapacityInternal_d00df, QJ5_ensureCapacityInternal_d00df_0, gR_at h1 rfl, aN_at h2 rfl, gI_at h1 rfl, xsh0r, if_pos hle, QJ5_ensureCapacityInternal_d00df_38]
  · have hg := cap_ge (q := q) (m := m)
    have hcl : cap q m ≤ 250 := by
      unfold cap
      rw [if_neg c]
      split <;> omega
    have hle : ¬ nI q - nI m ≤ nI 0 := by
      rw [pk_sub (by omega)]
      exact nI_ge (by omega) (by omega)
    generalize hw1 : xup w n (.inl (1, cap q m, .inl (va_cpy f (fun _ => 0) 0 0 m))) = w1
    have k1 : w1 a = some (.inr (12, [.ref v, .int (nI 0), .int (nI 0), .int (nI t.length)])) := by rw [← hw1, xup_ne (by omega)]; exact h1
    have k2 : w1 n = some (.inl (1, cap q m, .inl (va_cpy f (fun _ => 0) 0 0 m))) := by rw [← hw1, xup_same]
    refine ⟨xup w1 a (.inr (12, [.ref n, .int (nI 0), .int (nI 0), .int (nI t.length)])), n + 1, n, ?_, ⟨va_cpy f (fun _ => 0) 0 0 m, by rw [xup_same], by rw [xup_ne (by omega)]; exact k2, by omega, by omega, by omega, ?_, by omega⟩, ⟨by omega, fun b b1 b2 b3 => by rw [xup_ne b1, ← hw1, xup_ne (by omega)]⟩, Or.inr (Nat.le_refl _)⟩
    · rw [eJ5_ensureCapacityInternal_d00df, QJ5_ensureCapacityInternal_d00df_0, gR_at h1 rfl, aN_at h2 rfl, gI_at h1 rfl, xsh0r, if_neg hle, gR_at h1 rfl, show (Nat.ble 0 1 && Nat.ble 0 250) = true from rfl, cond_true, gO_at h1, z_newCap (f := f) h1 h2 (by omega) (by omega), cI_s, gI_at h1 rfl, show (Nat.ble (0 + 1) 1 && Nat.ble (0 + 250) 250) = true from rfl, cond_true, xsh0l, z_copyOf h2 h5 (by omega) (by omega) h6.2.2, cA_s, hw1, gP_at k1 rfl, QJ5_ensureCapacityInternal_d00df_38]
      rfl
    · refine Tx_keep h6 (fun i hi => ?_) (fit_cpy h6.2.2 Tx_fit0)
      rw [pk_cpy_in (by omega) (by omega)]
      congr 1
      omega
end SBU
