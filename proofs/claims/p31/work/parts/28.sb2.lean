/-! STRINGBUILDER: what is appended, made, told. -/
theorem fit_upd {f : Nat → Int32} {i : Nat} {v : Int32} (hf : ∀ q, fits .byte (.int (f q)) = true) (hv : fits .byte (.int v) = true) : ∀ q, fits .byte (.int (upd f i v q)) = true := by
  intro q
  unfold upd
  split
  · exact hv
  · exact hf q
section SB2
variable {E : xEn} {w : Nat → Option va_E} {n a v m : Nat} {t : List Nat}
theorem z_getBytes {b vb L : Nat} {fb f : Nat → Int32} (h : isStr E w b vb L fb) (H : eS E) (hL : L < 1000) (hv : w v = some (.inl (1, m, .inl f))) (hne : vb ≠ v) {j : Nat} (hj : j + L ≤ m) (hm : m ≤ 250) (hf : ∀ q, q < L → fits .byte (.int (fb q)) = true) (d : Nat) :
    xsem xT E (d + 2) kJ0_getBytes_840e7 [.ref b, .ref v, .int (nI j), .int (nI 0)] (w, n) = some (.inl none, (xup w v (.inl (1, m, .inl (va_cpy fb f 0 j L))), n)) := by
  rw [eJ0_getBytes_840e7, QJ0_getBytes_840e7_0, gO_s h H, z_coder h H, cI_s, iEQ_t rfl, gU_s h H, gU_s h H, aN_s h H, xsh0l, cpI_s h H (by omega) hv hne (by omega) hj hf, QJ0_getBytes_840e7_43]
theorem z_inflate {b vb L : Nat} {fb : Nat → Int32} (h : isStr E w b vb L fb) (H : eS E) {fs : List Value} (ha : w a = some (.inr (12, fs))) (h1 : fs[1]? = some (.int (nI 0))) (d : Nat) :
    xsem xT E (d + 2) kJ5_inflateIfNeededFor_a7421 [.ref a, .ref b] (w, n) = some (.inl none, (w, n)) := by
  rw [eJ5_inflateIfNeededFor_a7421, QJ5_inflateIfNeededFor_a7421_0, iEQ_f (by omega) (by omega) (by omega), gI_at ha h1, gO_s h H, z_coder h H, cI_s, iEQ_t rfl, QJ5_inflateIfNeededFor_a7421_21]
/-- append(String) -/
theorem z_appS {b vb L : Nat} {fb : Nat → Int32} {s : List Nat} (h : SB w n a v m t) (hs : isStr E w b vb L fb) (H : eS E) (hL : L = s.length) (hb : b ≠ a ∧ b ≠ v ∧ vb ≠ a ∧ vb ≠ v) (hbn : b < n ∧ vb < n) (hfb : ∀ i, i < L → fb i = nI (s.getD i 0)) (hs8 : ∀ c ∈ s, c < 128) (hq : t.length + s.length ≤ 120) (hm : m ≤ 120) (d : Nat) :
    ∃ w' n' v', xsem xT E (d + 5) kJ5_append_cf1ce [.ref a, .ref b] (w, n) = some (.inl (some (.ref a)), (w', n')) ∧ SB w' n' a v' (cap (t.length + s.length) m) (t ++ s) ∧ fq a v w n w' n' ∧ (v' = v ∨ n ≤ v') := by
  obtain ⟨f0, k1, k2, k3, k4, k5, k6, k7⟩ := id h
  obtain ⟨w1, n1, v1, e1, S1, F1, V1⟩ := z_ensure (E := E) h hq hm (d + 1)
  obtain ⟨f, h1, h2, h3, h4, h5, h6, h7⟩ := S1
  have hb1 : w1 b = w b := F1.2 b hb.1 hb.2.1 hbn.1
  have hb2 : w1 vb = w vb := F1.2 vb hb.2.2.1 hb.2.2.2 hbn.2
  have hs1 := isStr_fr hs hb1 hb2
  have hvb : vb ≠ v1 := by rcases V1 with rfl | V1 <;> omega
  have hg := cap_ge (q := t.length + s.length) (m := m)
  have hcl : cap (t.length + s.length) m ≤ 250 := by
    unfold cap
    split
    · omega
    · split <;> omega
  have hfit : ∀ q, q < L → fits .byte (.int (fb q)) = true := by
    intro q hq
    rw [hfb q hq]
    refine fit_nI (hs8 _ ?_)
    rw [List.getD_eq_getElem?_getD, List.getElem?_eq_getElem (by omega)]
    exact List.getElem_mem _
  generalize hw2 : xup w1 v1 (.inl (1, cap (t.length + s.length) m, .inl (va_cpy fb f 0 t.length L))) = w2
  have g1 : w2 a = some (.inr (12, [.ref v1, .int (nI 0), .int (nI 0), .int (nI t.length)])) := by rw [← hw2, xup_ne h3]; exact h1
  have g2 : w2 v1 = some (.inl (1, cap (t.length + s.length) m, .inl (va_cpy fb f 0 t.length L))) := by rw [← hw2, xup_same]
  refine ⟨xup w2 a (.inr (12, [.ref v1, .int (nI 0), .int (nI 0), .int (nI (t.length + s.length))])), n1, v1, ?_, ⟨va_cpy fb f 0 t.length L, by rw [xup_same, List.length_append], by rw [xup_ne (Ne.symm h3)]; exact g2, h3, h4, h5, ?_, by rw [List.length_append]; omega⟩, ⟨F1.1, fun q q1 q2 q3 => ?_⟩, V1⟩
  · rw [eJ5_append_cf1ce, QJ5_append_cf1ce_0, QJ5_append_cf1ce_9, show (Nat.ble 0 1 && Nat.ble 0 250) = true from rfl, cond_true, gO_s hs H, z_length hs H, cI_s, gI_at k1 rfl, show (Nat.ble (0 + 1) 1 && Nat.ble (0 + 250) 250) = true from rfl, cond_true, gO_at k1, nI_add, hL, e1, cV_s, gI_at h1 rfl, cond_true, gO_at h1]
    rw [eJ5_putStringAt_47b60, QJ5_putStringAt_47b60_0, gO_at h1, z_inflate hs1 H h1 rfl, cV_s, gR_at h1 rfl, gI_at h1 rfl, gO_s hs1 H, z_getBytes (L := L) hs1 H (by omega) h2 hvb (by omega) hcl hfit, cV_s, hw2, cV_s, gI_at g1 rfl, nI_add, gP_at g1 rfl]
    rfl
  · refine Tx_app h6 (fun i hi => pk_cpy_out (by omega)) (fun i hi => ?_) hs8 (fun q => ?_)
    · rw [pk_cpy_in (by omega) (by omega), ← hfb i (by omega)]
      congr 1
      omega
    · unfold va_cpy
      split
      · next c => exact hfit _ (by omega)
      · exact h6.2.2 q
  · rw [xup_ne q1, ← hw2]
    by_cases c : q = v1
    · rcases V1 with V1 | V1 <;> omega
    · rw [xup_ne c]
      exact F1.2 q q1 q2 q3
theorem z_app4S {b vb L : Nat} {fb : Nat → Int32} {s : List Nat} (h : SB w n a v m t) (hs : isStr E w b vb L fb) (H : eS E) (hL : L = s.length) (hb : b ≠ a ∧ b ≠ v ∧ vb ≠ a ∧ vb ≠ v) (hbn : b < n ∧ vb < n) (hfb : ∀ i, i < L → fb i = nI (s.getD i 0)) (hs8 : ∀ c ∈ s, c < 128) (hq : t.length + s.length ≤ 120) (hm : m ≤ 120) (d : Nat) :
    ∃ w' n' v', xsem xT E (d + 6) kJ4_append_15ec4 [.ref a, .ref b] (w, n) = some (.inl (some (.ref a)), (w', n')) ∧ SB w' n' a v' (cap (t.length + s.length) m) (t ++ s) ∧ fq a v w n w' n' ∧ (v' = v ∨ n ≤ v') := by
  obtain ⟨w1, n1, v1, e1, r⟩ := z_appS h hs H hL hb hbn hfb hs8 hq hm d
  obtain ⟨f0, k1, -⟩ := id h
  refine ⟨w1, n1, v1, ?_, r⟩
  rw [eJ4_append_15ec4, QJ4_append_15ec4_0, show (Nat.ble (0 + 1) 1 && Nat.ble (0 + 250) 250) = true from rfl, cond_true, gO_at k1, e1, cA_s]
/-- append(char) -/
theorem z_appC {c : Nat} (h : SB w n a v m t) (hc : c < 128) (hq : t.length + 1 ≤ 120) (hm : m ≤ 120) (d : Nat) :
    ∃ w' n' v', xsem xT E (d + 5) kJ4_append_cf468 [.ref a, .int (nI c)] (w, n) = some (.inl (some (.ref a)), (w', n')) ∧ SB w' n' a v' (cap (t.length + 1) m) (t ++ [c]) ∧ fq a v w n w' n' ∧ (v' = v ∨ n ≤ v') := by
  obtain ⟨f0, k1, -⟩ := id h
  obtain ⟨w1, n1, v1, e1, S1, F1, V1⟩ := z_ensure (E := E) (q := t.length + 1) h hq hm d
  obtain ⟨f, h1, h2, h3, h4, h5, h6, h7⟩ := S1
  have hg := cap_ge (q := t.length + 1) (m := m)
  have hcl : cap (t.length + 1) m ≤ 250 := by
    unfold cap
    split
    · omega
    · split <;> omega
  obtain ⟨c1, c2, -, -⟩ := i8_nI c hc
  have hce : ∀ d', xsem xT E (d' + 1) kJ1_canEncode_fc78d [.int (nI c)] (w1, n1) = some (.inl (some (.int (nI 1))), (w1, n1)) := by
    intro d'
    rw [eJ1_canEncode_fc78d, QJ1_canEncode_fc78d_0, iLT_f (by omega) (by omega), QJ1_canEncode_fc78d_12]
    rfl
  generalize hw2 : xup w1 a (.inr (12, [.ref v1, .int (nI 0), .int (nI 0), .int (nI (t.length + 1))])) = w2
  have g2 : w2 v1 = some (.inl (1, cap (t.length + 1) m, .inl f)) := by rw [← hw2, xup_ne (Ne.symm h3)]; exact h2
  refine ⟨xup w2 v1 (.inl (1, cap (t.length + 1) m, .inl (upd f t.length (nI c)))), n1, v1, ?_, ⟨upd f t.length (nI c), by rw [xup_ne h3, ← hw2, xup_same, List.length_append]; rfl, by rw [xup_same], h3, h4, h5, ?_, by rw [List.length_append]; exact hg.1⟩, ⟨F1.1, fun q q1 q2 q3 => ?_⟩, V1⟩
  · rw [eJ4_append_cf468, QJ4_append_cf468_0, show (Nat.ble (0 + 1) 1 && Nat.ble (0 + 250) 250) = true from rfl, cond_true, gO_at k1]
    rw [eJ5_append_3fe6f, QJ5_append_3fe6f_0, gI_at k1 rfl, show (Nat.ble (0 + 1) 1 && Nat.ble (0 + 250) 250) = true from rfl, cond_true, gO_at k1, nI_add, e1, cV_s, cond_true, gO_at h1, z_latA h1 rfl, cI_s, iEQ_f (by omega) (by omega) (by omega), cond_true, hce, cI_s, iEQ_f (by omega) (by omega) (by omega), gR_at h1 rfl, gI_at h1 rfl, nI_add, gP_at h1 rfl]
    rw [show xup w1 a (.inr (12, ([.ref v1, .int (nI 0), .int (nI 0), .int (nI t.length)] : List Value).set 3 (.int (nI (t.length + 1))))) = w2 from hw2, sB_at g2 (by omega) (by omega), c1, c2, QJ5_append_3fe6f_75, cA_s]
  · refine Tx_app h6 (fun i hi => pk_un (by omega)) (fun i hi => ?_) (fun x hx => by rw [List.mem_singleton.1 hx]; exact hc) (fit_upd h6.2.2 (fit_nI hc))
    have hi0 : i = 0 := by simpa using hi
    subst hi0
    exact pk_us
  · by_cases c : q = v1
    · rcases V1 with V1 | V1 <;> omega
    · rw [xup_ne c, ← hw2, xup_ne q1]
      exact F1.2 q q1 q2 q3
/-- the digits of a number below 100 -/
def dg (k : Nat) : List Nat := if k < 10 then [48 + k] else [48 + k / 10, 48 + k % 10]
theorem dg_lt {k : Nat} (h : k < 100) : ∀ c ∈ dg k, c < 128 := by
  unfold dg
  intro c hc
  split at hc
  · rw [List.mem_singleton.1 hc]; omega
  · simp only [List.mem_cons, List.not_mem_nil, or_false] at hc
    omega
theorem z_size {σ : xH} (d : Nat) : ∀ k, k < 100 → xsem xT E (d + 1) kJ6_stringSize_0f7a4 [.int (nI k)] σ = some (.inl (some (.int (nI (dg k).length))), σ) := by
  intro k hk
  have h1 : ∀ k, k < 100 → ¬ (nI k < nI 0) ∧ ((k < 10 ∧ ¬ (-nI k) ≤ (-10 : Int32)) ∨ (¬ k < 10 ∧ (-nI k) ≤ (-10 : Int32) ∧ ¬ (-nI k) ≤ nI 10 * (-10 : Int32))) := by decide +kernel
  obtain ⟨a1, a2⟩ := h1 k hk
  rw [eJ6_stringSize_0f7a4, QJ6_stringSize_0f7a4_0, if_neg a1, QJ6_stringSize_0f7a4_11, QJ6_stringSize_0f7a4_16, iLE_f (by omega) (by omega)]
  rcases a2 with ⟨b1, b2⟩ | ⟨b1, b2, b3⟩
  · rw [if_neg b2, nI_add]
    unfold dg
    rw [if_pos b1]
    rfl
  · rw [if_pos b2, QJ6_stringSize_0f7a4_31, nI_add, QJ6_stringSize_0f7a4_16, iLE_f (by omega) (by omega), if_neg b3, nI_add]
    unfold dg
    rw [if_neg b1]
    rfl
theorem z_chars {f : Nat → Int32} (H : hW E w) {k p : Nat} (hk : k < 100) (hv : w v = some (.inl (1, m, .inl f))) (hst : ¬ isSA E v) (hp : p + (dg k).length ≤ m) (hm : m ≤ 250) (d : Nat) :
    ∃ g, xsem xT E (d + 1) kJ6_getChars_ba4f3 [.int (nI k), .int (nI (p + (dg k).length)), .ref v] (w, n) = some (.inl (some (.int (nI p))), (xup w v (.inl (1, m, .inl g)), n)) ∧ (∀ i, (i < p ∨ p + (dg k).length ≤ i) → g i = f i) ∧ ∀ i, i < (dg k).length → g (p + i) = nI ((dg k).getD i 0) := by
  have h1 : ∀ k, k < 100 → nI 0 ≤ nI k ∧ (-100 : Int32) < -nI k ∧ -(-nI k) = nI k ∧ (k < 10 ↔ (-9 : Int32) ≤ -nI k) := by decide +kernel
  obtain ⟨a1, a2, a3, a4⟩ := h1 k hk
  have hm1 : ∀ x, nI (x + 1) + (-1 : Int32) = nI x := pk_m1
  obtain ⟨c1, c2, -, -⟩ := i8_nI (48 + k % 10) (by omega)
  obtain ⟨e1, e2, -, -⟩ := i8_nI (48 + k / 10) (by omega)
  by_cases c : k < 10
  · have hl : dg k = [48 + k] := if_pos c
    rw [hl] at hp ⊢
    have hp : p + 1 ≤ m := hp
    refine ⟨upd f p (nI (48 + k % 10)), ?_, fun i hi => pk_un (by simp only [List.length_cons, List.length_nil] at hi; omega), fun i hi => ?_⟩
    · rw [eJ6_getChars_ba4f3, QJ6_getChars_ba4f3_0, if_pos a1, QJ6_getChars_ba4f3_11, QJ6_getChars_ba4f3_12, iEQ_t rfl, QJ6_getChars_ba4f3_22, if_pos a2, QJ6_getChars_ba4f3_72, a3, aB_1 H (by omega), show p + ([48 + k] : List Nat).length = p + 1 from rfl, hm1, sB_at hv (by omega) (by omega), c2, if_pos (a4.1 c), QJ6_getChars_ba4f3_104, iEQ_t rfl, QJ6_getChars_ba4f3_118]
    · have hi0 : i = 0 := by simpa using hi
      subst hi0
      rw [Nat.add_zero, pk_us, show k % 10 = k by omega]
      rfl
  · have hl : dg k = [48 + k / 10, 48 + k % 10] := if_neg c
    rw [hl] at hp ⊢
    have hp : p + 2 ≤ m := hp
    generalize hw1 : xup w v (.inl (1, m, .inl (upd f (p + 1) (nI (48 + k % 10))))) = w1
    have hne : ∀ a, isSA E a → a ≠ v := fun a ha z => hst (z ▸ ha)
    have H1 : hW E w1 := ⟨H.1, fun a ha => by rw [← hw1, xup_ne (hne a ha)]; exact H.2 a ha⟩
    have hv1 : w1 v = some (.inl (1, m, .inl (upd f (p + 1) (nI (48 + k % 10))))) := by rw [← hw1, xup_same]
    refine ⟨upd (upd f (p + 1) (nI (48 + k % 10))) p (nI (48 + k / 10)), ?_, fun i hi => ?_, fun i hi => ?_⟩
    · rw [eJ6_getChars_ba4f3, QJ6_getChars_ba4f3_0, if_pos a1, QJ6_getChars_ba4f3_11, QJ6_getChars_ba4f3_12, iEQ_t rfl, QJ6_getChars_ba4f3_22, if_pos a2, QJ6_getChars_ba4f3_72, a3, aB_1 H (by omega), show p + ([48 + k / 10, 48 + k % 10] : List Nat).length = p + 1 + 1 from rfl, hm1, sB_at hv (by omega) (by omega), c2, if_neg (fun z => c (a4.2 z)), hw1, aB_2 H1 (by omega), hm1, sB_at hv1 (by omega) (by omega), e2, QJ6_getChars_ba4f3_104, iEQ_t rfl, QJ6_getChars_ba4f3_118, ← hw1, xup_xup]
    · simp only [List.length_cons, List.length_nil] at hi
      rw [pk_un (by omega), pk_un (by omega)]
    · match i, hi with
      | 0, _ =>
        show upd (upd f (p + 1) (nI (48 + k % 10))) p (nI (48 + k / 10)) p = _
        rw [pk_us]
        rfl
      | 1, _ => rw [pk_un (by omega), pk_us]; rfl
/-- append(int), below 100 -/
theorem z_appI {k : Nat} (h : SB w n a v m t) (H : hW E w) (hn : ∀ q, isSA E q → q < n) (hk : k < 100) (hq : t.length + (dg k).length ≤ 120) (hm : m ≤ 120) (d : Nat) :
    ∃ w' n' v', xsem xT E (d + 5) kJ4_append_bf812 [.ref a, .int (nI k)] (w, n) = some (.inl (some (.ref a)), (w', n')) ∧ SB w' n' a v' (cap (t.length + (dg k).length) m) (t ++ dg k) ∧ fq a v w n w' n' ∧ (v' = v ∨ n ≤ v') := by
  obtain ⟨f0, k1, k2, -⟩ := id h
  obtain ⟨w1, n1, v1, e1, S1, F1, V1⟩ := z_ensure (E := E) h hq hm d
  obtain ⟨f, h1, h2, h3, h4, h5, h6, h7⟩ := S1
  have hg := cap_ge (q := t.length + (dg k).length) (m := m)
  have hcl : cap (t.length + (dg k).length) m ≤ 250 := by
    unfold cap
    split
    · omega
    · split <;> omega
  have hna : ∀ q, isSA E q → q ≠ a := fun q hq z => by
    have h9 := H.2 q hq
    rw [z, k1] at h9
    cases h9
  have hnv : ∀ q, isSA E q → q ≠ v := fun q hq z => by
    have h9 := H.2 q hq
    rw [z, k2] at h9
    cases h9
  have hnv1 : ∀ q, isSA E q → q ≠ v1 := fun q hq z => by
    rcases V1 with V1 | V1
    · exact hnv q hq (z.trans V1)
    · have := hn q hq
      omega
  have H1 : hW E w1 := ⟨H.1, fun q hq => by rw [F1.2 q (hna q hq) (hnv q hq) (hn q hq)]; exact H.2 q hq⟩
  obtain ⟨g, e2, g1, g2⟩ := z_chars (n := n1) (p := t.length) H1 hk h2 (fun z => hnv1 v1 z rfl) hg.1 hcl (d + 2)
  generalize hw2 : xup w1 v1 (.inl (1, cap (t.length + (dg k).length) m, .inl g)) = w2 at e2
  have q1 : w2 a = some (.inr (12, [.ref v1, .int (nI 0), .int (nI 0), .int (nI t.length)])) := by rw [← hw2, xup_ne h3]; exact h1
  refine ⟨xup w2 a (.inr (12, [.ref v1, .int (nI 0), .int (nI 0), .int (nI (t.length + (dg k).length))])), n1, v1, ?_, ⟨g, by rw [xup_same, List.length_append], by rw [xup_ne (Ne.symm h3), ← hw2, xup_same], h3, h4, h5, ?_, by rw [List.length_append]; exact hg.1⟩, ⟨F1.1, fun q b1 b2 b3 => ?_⟩, V1⟩
  · rw [eJ4_append_bf812, QJ4_append_bf812_0, show (Nat.ble (0 + 1) 1 && Nat.ble (0 + 250) 250) = true from rfl, cond_true, gO_at k1]
    rw [eJ5_append_c97b9, QJ5_append_c97b9_0, gI_at k1 rfl, show (Nat.ble 0 1 && Nat.ble 0 250) = true from rfl, cond_true, z_size _ k hk, cI_s, show (Nat.ble (0 + 1) 1 && Nat.ble (0 + 250) 250) = true from rfl, cond_true, gO_at k1, nI_add, e1, cV_s, cond_true, gO_at h1, z_latA h1 rfl, cI_s, iEQ_f (by omega) (by omega) (by omega), gR_at h1 rfl, cond_true, e2, cI_s, QJ5_append_c97b9_48, gP_at q1 rfl, cA_s]
    rfl
  · refine Tx_app h6 (fun i hi => g1 i (Or.inl hi)) g2 (dg_lt hk) (fun q => ?_)
    by_cases c : q < t.length ∨ t.length + (dg k).length ≤ q
    · rw [g1 q c]
      exact h6.2.2 q
    · have h8 := g2 (q - t.length) (by omega)
      rw [show t.length + (q - t.length) = q by omega] at h8
      rw [h8]
      refine fit_nI (dg_lt hk _ ?_)
      rw [List.getD_eq_getElem?_getD, List.getElem?_eq_getElem (by omega)]
      exact List.getElem_mem _
  · rw [xup_ne b1, ← hw2]
    by_cases c : q = v1
    · rcases V1 with V1 | V1 <;> omega
    · rw [xup_ne c]
      exact F1.2 q b1 b2 b3
/-- new StringBuilder() -/
theorem z_new0 (ha : w a = some (.inr (12, xdef 12 4))) (han : a < n) (d : Nat) :
    ∃ w', xsem xT E (d + 3) kJ4_init_da8c8 [.ref a] (w, n) = some (.inl none, (w', n + 1)) ∧ SB w' (n + 1) a n 16 [] ∧ ∀ q, q ≠ a → q < n → w' q = w q := by
  have hc : (nI 16).toNatClampNeg = 16 := nI_clamp (by omega)
  generalize hw1 : xup w n (.inl (1, 16, xarr 1)) = w1
  have h1 : w1 a = some (.inr (12, xdef 12 4)) := by rw [← hw1, xup_ne (by omega)]; exact ha
  generalize hw2 : xup w1 a (.inr (12, (xdef 12 4).set 0 (.ref n))) = w2
  have h2 : w2 a = some (.inr (12, (xdef 12 4).set 0 (.ref n))) := by rw [← hw2, xup_same]
  refine ⟨xup w2 a (.inr (12, ((xdef 12 4).set 0 (.ref n)).set 1 (.int (nI 0)))), ?_, ⟨fun _ => 0, ?_, ?_, by omega, by omega, by omega, ⟨fun i hi => absurd hi (Nat.not_lt_zero _), fun c hc => absurd hc List.not_mem_nil, Tx_fit0⟩, by decide⟩, fun q q1 q2 => ?_⟩
  · rw [eJ4_init_da8c8, QJ4_init_da8c8_0, show (Nat.ble (0 + 1) 1 && Nat.ble (0 + 16) 16) = true from rfl, cond_true, gO_at ha]
    rw [eJ5_init_d00df, QJ5_init_d00df_0, iEQ_f (by omega) (by omega) (by omega), hc]
    rw [show (decide (¬ nI 16 < 0) && (Nat.ble (0 + 1) 1 && (Nat.ble (0 + 16) 16 && Nat.ble 16 100000))) = true from rfl, cond_true]
    unfold nwA
    dsimp only
    rw [hw1, gP_at h1 rfl, hw2, if_pos (show narrow FieldType.byte (Value.int (nI 0)) = Value.int (nI 0) from rfl), gP_at h2 rfl, QJ5_init_d00df_38, cV_s]
  · rw [xup_same]
    rfl
  · rw [xup_ne (by omega), ← hw2, xup_ne (by omega), ← hw1, xup_same]
    rfl
  · rw [xup_ne q1, ← hw2, xup_ne q1, ← hw1, xup_ne (by omega)]
/-- new StringBuilder(String) -/
theorem z_newS {b vb L : Nat} {fb : Nat → Int32} {s : List Nat} (ha : w a = some (.inr (12, xdef 12 4))) (han : a < n) (hs : isStr E w b vb L fb) (H : eS E) (hL : L = s.length) (hb : b ≠ a ∧ vb ≠ a) (hbn : b < n ∧ vb < n) (hfb : ∀ i, i < L → fb i = nI (s.getD i 0)) (hs8 : ∀ c ∈ s, c < 128) (hq : s.length ≤ 44) (d : Nat) :
    ∃ w' n' v', xsem xT E (d + 9) kJ4_init_a7421 [.ref a, .ref b] (w, n) = some (.inl none, (w', n')) ∧ SB w' n' a v' (s.length + 16) s ∧ n ≤ v' ∧ n ≤ n' ∧ ∀ q, q ≠ a → q < n → w' q = w q := by
  have hc : (nI (s.length + 16)).toNatClampNeg = s.length + 16 := nI_clamp (by omega)
  have hl : decide (¬ nI (s.length + 16) < 0) = true := decide_eq_true (nI_nlt (Nat.zero_le _) (by omega))
  generalize hw0 : xup w a (.inr (12, (xdef 12 4).set 1 (.int (nI 0)))) = w0
  have h0 : w0 a = some (.inr (12, (xdef 12 4).set 1 (.int (nI 0)))) := by rw [← hw0, xup_same]
  generalize hw1 : xup w0 n (.inl (1, s.length + 16, xarr 1)) = w1
  have h1 : w1 a = some (.inr (12, (xdef 12 4).set 1 (.int (nI 0)))) := by rw [← hw1, xup_ne (by omega)]; exact h0
  generalize hw2 : xup w1 a (.inr (12, ((xdef 12 4).set 1 (.int (nI 0))).set 0 (.ref n))) = w2
  have hk : ∀ q, q ≠ a → q < n → w2 q = w q := fun q q1 q2 => by rw [← hw2, xup_ne q1, ← hw1, xup_ne (by omega), ← hw0, xup_ne q1]
  have S2 : SB w2 (n + 1) a n (s.length + 16) [] := ⟨fun _ => 0, by rw [← hw2, xup_same]; rfl, by rw [← hw2, xup_ne (by omega), ← hw1, xup_same]; rfl, by omega, by omega, by omega, ⟨fun i hi => absurd hi (Nat.not_lt_zero _), fun c hc => absurd hc List.not_mem_nil, Tx_fit0⟩, Nat.zero_le _⟩
  have hs2 : isStr E w2 b vb L fb := isStr_fr hs (hk b hb.1 hbn.1) (hk vb hb.2 hbn.2)
  obtain ⟨w3, n3, v3, e3, S3, F3, V3⟩ := z_app4S S2 hs2 H hL (show b ≠ a ∧ b ≠ n ∧ vb ≠ a ∧ vb ≠ n from ⟨hb.1, by omega, hb.2, by omega⟩) (show b < n + 1 ∧ vb < n + 1 by omega) hfb hs8 (by simp; omega) (by omega) d
  have hcap : cap (([] : List Nat).length + s.length) (s.length + 16) = s.length + 16 := if_pos (by simp)
  rw [hcap] at S3
  obtain ⟨f2, k1, -⟩ := id S2
  refine ⟨w3, n3, v3, ?_, S3, by rcases V3 with V3 | V3 <;> omega, by have := F3.1; omega, fun q q1 q2 => by rw [F3.2 q q1 (by omega) (by omega)]; exact hk q q1 q2⟩
  rw [eJ4_init_a7421, QJ4_init_a7421_0, show (Nat.ble (0 + 2) 2 && Nat.ble (0 + 310) 310) = true from rfl, cond_true, gO_at ha]
  rw [eJ5_init_a7421, QJ5_init_a7421_0, show (Nat.ble 0 2 && Nat.ble 0 310) = true from rfl, cond_true, gO_s hs H, z_length hs H, cI_s, iLE_f (by omega) (by omega), hL, nI_add, QJ5_init_a7421_24, show (Nat.ble 0 2 && Nat.ble 0 310) = true from rfl, cond_true, gO_s hs H, z_coder hs H, cI_s, if_pos (show narrow FieldType.byte (Value.int (nI 0)) = Value.int (nI 0) from rfl), gP_at ha rfl, hw0, iEQ_t rfl, hc, hl]
  rw [show (Nat.ble (0 + 1) 2 && (Nat.ble (0 + (s.length + 16)) 310 && Nat.ble (s.length + 16) 100000)) = true by simp; omega]
  rw [show (true && true) = true from rfl, cond_true]
  unfold nwA
  dsimp only
  rw [hw1, QJ5_init_a7421_53, gP_at h1 rfl, hw2]
  rw [show (Nat.ble (0 + 1 + 1) 2 && Nat.ble (0 + (s.length + 16) + 250) 310) = true by simp; omega]
  rw [cond_true]
  rw [gO_at k1, eJ4_append_cf1ce, QJ4_append_cf1ce_0, show (Nat.ble (0 + 1) 1 && Nat.ble (0 + 250) 250) = true from rfl, cond_true, gO_at k1, e3, cA_s, cA_s, cV_s]
/-- toString(): a new String -/
theorem z_toS (h : SB w n a v m t) (hne : t.length < m) (ht : t.length ≤ 120) (hm : m ≤ 250) (d : Nat) :
    ∃ w' f, xsem xT E (d + 6) kJ4_toString_0e30d [.ref a] (w, n) = some (.inl (some (.ref n)), (w', n + 2)) ∧ isStr E w' n (n + 1) t.length f ∧ (∀ i, i < t.length → f i = nI (t.getD i 0)) ∧ ∀ q, q < n → w' q = w q := by
  obtain ⟨f, h1, h2, h3, h4, h5, h6, h7⟩ := h
  have hc : (nI t.length - nI 0).toNatClampNeg = t.length := by rw [pk_sub (Nat.zero_le _), Nat.sub_zero]; exact nI_clamp (by omega)
  have hl : decide (¬ (nI t.length - nI 0) < 0) = true := by
    rw [pk_sub (Nat.zero_le _)]
    exact decide_eq_true (nI_nlt (Nat.zero_le _) (by omega))
  generalize hw1 : xup w n (.inr (11, xdef 11 4)) = w1
  have s1 : w1 n = some (.inr (11, xdef 11 4)) := by rw [← hw1, xup_same]
  have a1 : w1 a = some (.inr (12, [.ref v, .int (nI 0), .int (nI 0), .int (nI t.length)])) := by rw [← hw1, xup_ne (by omega)]; exact h1
  have v1 : w1 v = some (.inl (1, m, .inl f)) := by rw [← hw1, xup_ne (by omega)]; exact h2
  generalize hw2 : xup w1 n (.inr (11, (xdef 11 4).set 1 (.int (nI 0)))) = w2
  have s2 : w2 n = some (.inr (11, (xdef 11 4).set 1 (.int (nI 0)))) := by rw [← hw2, xup_same]
  have v2 : w2 v = some (.inl (1, m, .inl f)) := by rw [← hw2, xup_ne (by omega)]; exact v1
  generalize hw3 : xup w2 (n + 1) (.inl (1, t.length, xarr 1)) = w3
  have v3 : w3 v = some (.inl (1, m, .inl f)) := by rw [← hw3, xup_ne (by omega)]; exact v2
  have n3 : w3 (n + 1) = some (.inl (1, t.length, .inl fun _ => 0)) := by rw [← hw3, xup_same]; rfl
  generalize hw4 : xup w3 (n + 1) (.inl (1, t.length, .inl (va_cpy f (fun _ => 0) 0 0 t.length))) = w4
  have s4 : w4 n = some (.inr (11, (xdef 11 4).set 1 (.int (nI 0)))) := by rw [← hw4, xup_ne (by omega), ← hw3, xup_ne (by omega)]; exact s2
  refine ⟨xup w4 n (.inr (11, ((xdef 11 4).set 1 (.int (nI 0))).set 0 (.ref (n + 1)))), va_cpy f (fun _ => 0) 0 0 t.length, ?_, Or.inr ⟨.int (nI 0), .int (nI 0), by rw [xup_same]; rfl, by rw [xup_ne (by omega), ← hw4, xup_same]⟩, fun i hi => ?_, fun q hq => ?_⟩
  · rw [eJ4_toString_0e30d, QJ4_toString_0e30d_0, show (Nat.ble (0 + 1) 2 && Nat.ble (0 + 4) 124) = true from rfl, cond_true]
    unfold nwO
    dsimp only
    rw [hw1, show (Nat.ble (0 + 1 + 1) 2 && Nat.ble (0 + 4 + 120) 124) = true from rfl, cond_true, gO_at s1]
    rw [eJ0_init_81219, QJ0_init_81219_0, show (Nat.ble (0 + 1) 1 && Nat.ble (0 + 120) 120) = true from rfl, cond_true, gO_at s1]
    rw [eJ0_init_db425 (hv := rfl), QJ0_init_db425_0, show (Nat.ble 0 1 && Nat.ble 0 120) = true from rfl, cond_true, gO_at a1]
    rw [eJ5_getValue_6d5f1, QJ5_getValue_6d5f1_0, gR_at a1 rfl, cA_s, cond_true, gO_at a1, eJ4_length_8abf5, QJ4_length_8abf5_0, gO_at a1, eJ5_length_8abf5, QJ5_length_8abf5_0, gI_at a1 rfl, cI_s, cI_s, cond_true, gO_at a1, z_latA a1 rfl, cI_s, iEQ_f (by omega) (by omega) (by omega), if_pos (show narrow FieldType.byte (Value.int (nI 0)) = Value.int (nI 0) from rfl), gP_at s1 rfl, hw2, show (Nat.ble (0 + 1) 1 && Nat.ble (0 + 120) 120) = true from rfl, cond_true]
    rw [eJ7_copyOfRange_39247, QJ7_copyOfRange_39247_0, iEQ_t rfl, aN_at v2 rfl, iEQ_f (by omega) (by omega) (by omega), QJ7_copyOfRange_39247_10, show (Nat.ble (0 + 1) 1 && Nat.ble (0 + 120) 120) = true from rfl, cond_true]
    rw [eJ7_copyOfRangeByte_39247, QJ7_copyOfRangeByte_39247_0, show (Nat.ble 0 1 && Nat.ble 0 120) = true from rfl, cond_true, eJ7_checkLength_df160, QJ7_checkLength_df160_0, iLE_t (by omega) (by omega), QJ7_checkLength_df160_37, cV_s, hc, hl]
    rw [show (Nat.ble (0 + 1) 1 && (Nat.ble (0 + t.length) 120 && Nat.ble t.length 100000)) = true by simp; omega]
    rw [show (true && true) = true from rfl, cond_true]
    unfold nwA
    dsimp only
    rw [hw3, aN_at v3 rfl, pk_sub (Nat.zero_le _), pk_sub (Nat.zero_le _), Nat.sub_zero, Nat.sub_zero, mnI_n (by omega) (by omega), if_pos hne, cpB_at v3 n3 (by omega) (by omega) (by omega) (by omega) (by omega) (fun i _ => h6.2.2 i), hw4, cA_s, cA_s, gP_at s4 rfl, QJ0_init_db425_97, cV_s, cV_s]
  · rw [pk_cpy_in (by omega) (by omega), ← h6.1 i hi]
    congr 1
    omega
  · rw [xup_ne (by omega), ← hw4, xup_ne (by omega), ← hw3, xup_ne (by omega), ← hw2, xup_ne (by omega), ← hw1, xup_ne (by omega)]
end SB2
