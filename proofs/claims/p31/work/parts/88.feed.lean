/-! THE LAW FEEDS A TEXT AND HAS IT READ. -/
/-- not one of the class's cells -/
def oS (sh : Nat → Option xSh) (x a : Nat) : Prop := x ≤ a → sh (a - x) = none
theorem wW_out {E : xEn} {z : Nat → Option va_E} {x a : Nat} {sh : Nat → Option xSh} {S : xSt} (h : oS sh x a) : wW E z x sh S a = z a := by
  unfold wW
  cases hx : Nat.ble x a
  · rfl
  · rw [cond_true, h (Nat.le_of_ble_eq_true hx)]
theorem wW_xup {E : xEn} {z : Nat → Option va_E} {x a : Nat} {sh : Nat → Option xSh} {S : xSt} {e : va_E} (h : oS sh x a) : xup (wW E z x sh S) a e = wW E (xup z a e) x sh S := by
  funext b
  by_cases c : b = a
  · subst c
    rw [xup_same, wW_out h, xup_same]
  · rw [xup_ne c]
    unfold wW
    rw [xup_ne c]
theorem xup_self {w : Nat → Option va_E} {a : Nat} {e : va_E} (h : w a = some e) : xup w a e = w := by
  funext b
  by_cases c : b = a
  · subst c
    rw [xup_same, h]
  · rw [xup_ne c]
theorem hEn_lt {E : xEn} {z z' : Nat → Option va_E} {x n : Nat} (H : hEn E z x) (hx : x ≤ n) (h : ∀ a, a < n → z' a = z a) : hEn E z' x := ⟨⟨H.1.1, fun a ha => (h a (Nat.lt_of_lt_of_le (H.2 a ha) hx)).trans (H.1.2 a ha)⟩, H.2⟩
def aw (c : Nat → Nat) : Nat → Nat → Nat
  | 0 => fun _ => 0
  | k + 1 => fun j => if j = k / 4 then aw c k j * 256 + c k else aw c k j
def rwA (c : Nat → Nat) (k : Nat) : va_E := .inl (0, 5, .inl fun j => nI (aw c k j))
theorem aw_20 {c : Nat → Nat} : aw c 20 0 = wrd c 0 ∧ aw c 20 1 = wrd c 1 ∧ aw c 20 2 = wrd c 2 ∧ aw c 20 3 = wrd c 3 ∧ aw c 20 4 = wrd c 4 := by
  refine ⟨?_, ?_, ?_, ?_, ?_⟩ <;> (unfold wrd; simp [aw])
theorem aw_s {c : Nat → Nat} {k : Nat} : (upd (fun j => nI (aw c k j)) (k / 4) (nI (aw c k (k / 4) * 256 + c k)) : Nat → Int32) = fun j => nI (aw c (k + 1) j) := by
  funext j
  show _ = nI (if j = k / 4 then aw c k j * 256 + c k else aw c k j)
  by_cases e : j = k / 4
  · rw [if_pos e, e, pk_us]
  · rw [if_neg e, pk_un e]
theorem nz_4 {ρ : Type} {k : Option ρ} : nz (decide (¬ (nI 4) = 0)) k = k := rfl
theorem dv_4 : ∀ k, k < 20 → nI k / nI 4 = nI (k / 4) := by decide
section FD2
variable {E : xEn} {z : Nat → Option va_E} {x n b vb L : Nat} {sh : Nat → Option xSh} {S : xSt} {fb : Nat → Int32} {t : List Nat}
/-- the letter at a place of the text, a blank behind it -/
def txp (t : List Nat) (q : Nat) : Nat := if t.length ≤ q then 32 else t.getD q 0
theorem txp_lt {t : List Nat} (h : ∀ c ∈ t, c < 128) (q : Nat) : txp t q < 128 := by
  unfold txp
  split
  · omega
  · next hq =>
    refine h _ ?_
    rw [List.getD_eq_getElem?_getD, List.getElem?_eq_getElem (by omega)]
    exact List.getElem_mem _
theorem f_row {w : Nat → Option va_E} {a x0 i bc bs : Nat} (H : eS E) (hb : isStr E w b vb t.length fb) (hfb : ∀ q, q < t.length → fb q = nI (t.getD q 0)) (h8 : ∀ c ∈ t, c < 128) (hL : t.length ≤ 120) (hi : i < 1000) (hba : b ≠ a ∧ vb ≠ a) (hc1 : bc ≤ 40) (hc2 : bs ≤ 200) (d : Nat) :
    ∀ r k w', k + r = 20 → w' a = some (rwA (fun q => txp t (i + q)) k) → (w' b = w b ∧ w' vb = w vb) → qL_feeds_20 E (d + 4) bc bs x0 b (nI i) a (nI k) (w', n) = qL_feeds_75 E (d + 4) bc bs x0 b (nI i) a (xup w' a (rwA (fun q => txp t (i + q)) 20), n) := by
  intro r
  have g : (Nat.ble bc 40 && Nat.ble bs 200) = true := by rw [ble_t hc1, ble_t hc2]; rfl
  induction r with
  | zero =>
    intro k w' hk ha _
    have hk : k = 20 := hk
    subst hk
    rw [QL_feeds_20, iLE_t (Nat.le_refl _) (by omega), xup_self ha]
  | succ r ih =>
    intro k w' hk ha hw
    have hb' := isStr_fr hb hw.1 hw.2
    have ha' : w' a = some (.inl (0, 5, .inl fun j => nI (aw (fun q => txp t (i + q)) k j))) := ha
    have h67 : qL_feeds_67 E (d + 4) bc bs x0 b (nI i) a (nI k) a (nI (k / 4)) (nI (aw (fun q => txp t (i + q)) k (k / 4)) <<< (nI 8 &&& 31)) (nI (txp t (i + k))) (w', n) = qL_feeds_75 E (d + 4) bc bs x0 b (nI i) a (xup w' a (rwA (fun q => txp t (i + q)) 20), n) := by
      rw [QL_feeds_67, w_or _ (by have := txp_lt h8 (i + k); omega), sI_at ha' (by omega) (by omega), nI_add]
      rw [show xup w' a (.inl (0, 5, .inl (upd (fun j => nI (aw (fun q => txp t (i + q)) k j)) (k / 4) (nI (aw (fun q => txp t (i + q)) k (k / 4) * 256 + txp t (i + k)))))) = xup w' a (rwA (fun q => txp t (i + q)) (k + 1)) by unfold rwA; rw [← aw_s]]
      rw [ih (k + 1) _ (by omega) xup_same ⟨by rw [xup_ne hba.1]; exact hw.1, by rw [xup_ne hba.2]; exact hw.2⟩, xup_xup]
    rw [QL_feeds_20, iLE_f (show k < 20 by omega) (by omega), nz_4, nz_4, dv_4 k (by omega), aI_at ha' (by omega) (by omega), g, cond_true, gO_s hb' H, z_length hb' H, cI_s, nI_add]
    by_cases c : t.length ≤ i + k
    · rw [iLE_t c (by omega), QL_feeds_65, ← h67, show txp t (i + k) = 32 from if_pos c]
    · rw [iLE_f (by omega) (by omega), cond_true, gO_s hb' H]
      have hch : t.getD (i + k) 0 < 128 := by
        refine h8 _ ?_
        rw [List.getD_eq_getElem?_getD, List.getElem?_eq_getElem (by omega)]
        exact List.getElem_mem _
      rw [z_charAt hb' H (by omega) (show i + k < t.length by omega) hch (hfb _ (by omega)), cI_s, ← h67, show txp t (i + k) = t.getD (i + k) 0 from if_neg c]
theorem f_all (hc : hC sh) (H : eS E) (hx : x ≤ n) (hfb : ∀ q, q < t.length → fb q = nI (t.getD q 0)) (h8 : ∀ c ∈ t, c < 128) (hL : t.length ≤ 120) {m : Nat} (hm : t.length ≤ 20 * m) (hm1 : ∀ j, j < m → 20 * j < t.length) (d : Nat) :
    ∀ r j S z n, j + r = m → x ≤ n → isStr E z b vb t.length fb → oS sh x b → oS sh x vb → b < n → vb < n → (∀ a, n ≤ a → oS sh x a) → RI S (txp t) (20 * j) →
      ∃ S' z' n', qL_feeds_4 E (d + 4) j (5 * j) x b (nI (20 * j)) (nI (20 * j)) (wW E z x sh S, n) = some (.inl (some (.int (nI (20 * m)))), (wW E z' x sh S', n')) ∧ RI S' (txp t) (20 * m) ∧ frA S S' ∧ n ≤ n' ∧ ∀ a, a < n → z' a = z a := by
  intro r
  induction r with
  | zero =>
    intro j S z n hj hxn hb o1 o2 hbn hvn ho R
    have hj : j = m := hj
    subst hj
    have hb' : isStr E (wW E z x sh S) b vb t.length fb := isStr_fr hb (wW_out o1) (wW_out o2)
    have hj6 : 20 * j ≤ 140 := by
      by_cases c : j = 0
      · omega
      · have := hm1 (j - 1) (by omega)
        omega
    refine ⟨S, z, n, ?_, R, frA_rf, Nat.le_refl _, fun _ _ => rfl⟩
    rw [QL_feeds_4, ble_t (show j ≤ 40 by omega), ble_t (show 5 * j ≤ 200 by omega), show (true && true) = true from rfl, cond_true, gO_s hb' H, z_length hb' H, cI_s, iLE_t hm (by omega), QL_feeds_106]
  | succ r ih =>
    intro j S z n hj hxn hb o1 o2 hbn hvn ho R
    have hlt := hm1 j (by omega)
    have hb' : isStr E (wW E z x sh S) b vb t.length fb := isStr_fr hb (wW_out o1) (wW_out o2)
    have on := ho n (Nat.le_refl _)
    generalize hw1 : xup (wW E z x sh S) n (.inl (0, 5, xarr 0)) = w1
    have ha1 : w1 n = some (rwA (fun q => txp t (20 * j + q)) 0) := by rw [← hw1, xup_same]; rfl
    have hrow := f_row (n := n + 1) (x0 := x) (i := 20 * j) (bc := j + 1) (bs := 5 * j + 5) H hb' hfb h8 hL (by omega) (show b ≠ n ∧ vb ≠ n by omega) (by omega) (by omega) d 20 0 w1 rfl ha1 ⟨by rw [← hw1, xup_ne (by omega)], by rw [← hw1, xup_ne (by omega)]⟩
    have hw2 : xup w1 n (rwA (fun q => txp t (20 * j + q)) 20) = wW E (xup z n (rwA (fun q => txp t (20 * j + q)) 20)) x sh S := by rw [← hw1, xup_xup, wW_xup on]
    rw [hw2] at hrow
    generalize hz2 : xup z n (rwA (fun q => txp t (20 * j + q)) 20) = z2 at hrow
    have hz2k : ∀ a, a < n → z2 a = z a := fun a ha => by rw [← hz2, xup_ne (by omega)]
    have ha2 : wW E z2 x sh S n = some (.inl (0, 5, .inl fun i => nI (aw (fun q => txp t (20 * j + q)) 20 i))) := by rw [wW_out on, ← hz2, xup_same]; rfl
    obtain ⟨r0, r1, r2, r3, r4⟩ := aw_20 (c := fun q => txp t (20 * j + q))
    obtain ⟨S1, e1, R1, f1⟩ := k_append (E := E) (z := z2) (x := x) (n := n + 1) hc R (by omega) (c := fun q => txp t (20 * j + q)) (fun k => txp_lt h8 _) (fun k _ => rfl) (d + 2)
    obtain ⟨S3, z3, n3, e3, R3, f3, k3, k4⟩ := ih (j + 1) S1 z2 (n + 1) (by omega) (by omega) (isStr_fr hb (hz2k b hbn) (hz2k vb hvn)) o1 o2 (by omega) (by omega) (fun a ha => ho a (by omega)) R1
    refine ⟨S3, z3, n3, ?_, R3, frA_tr f1 f3, by omega, fun a ha => (k4 a (by omega)).trans (hz2k a ha)⟩
    rw [QL_feeds_4, ble_t (show j ≤ 40 by omega), ble_t (show 5 * j ≤ 200 by omega), show (true && true) = true from rfl, cond_true, gO_s hb' H, z_length hb' H, cI_s, iLE_f hlt (by omega), ble_t (show j + 1 ≤ 40 by omega), ble_t (show 5 * j + 5 ≤ 200 by omega), show (true && (true && Nat.ble 5 100000)) = true from rfl, cond_true]
    unfold nwA
    dsimp only
    rw [hw1, hrow, QL_feeds_75]
    rw [aI_at (i := 0) ha2 (by omega) (by omega), aI_at (i := 1) ha2 (by omega) (by omega), aI_at (i := 2) ha2 (by omega) (by omega), aI_at (i := 3) ha2 (by omega) (by omega), aI_at (i := 4) ha2 (by omega) (by omega)]
    rw [r0, r1, r2, r3, r4, ble_t (show j + 1 ≤ 40 by omega), ble_t (show 5 * j + 5 ≤ 200 by omega), show (true && true) = true from rfl, cond_true, gO_8 hc.1]
    rw [e1, cI_s, nI_add]
    exact e3
/-- read: what load tells -/
theorem k_read (hc : hC sh) (H : hEn E z x) (hx : x ≤ n) (hb : isStr E z b vb t.length fb) (o1 : oS sh x b) (o2 : oS sh x vb) (hbn : b < n) (hvn : vb < n) (ho : ∀ a, n ≤ a → oS sh x a) (hfb : ∀ q, q < t.length → fb q = nI (t.getD q 0)) (h8 : ∀ c ∈ t, c < 128) (hL : t.length ≤ 120) {g0 : Nat → Nat} {w un s : Nat} {l : List (Nat × Nat)} (C : CG S g0 w un) (R : S.1 1 1 = nI 0) (h2 : 2 ≤ s) (hs8 : s ≤ 8) (hl : l.length < 400) (k : stOk (gNew s) 0 l) (hT : t = wl 10 ++ 32 :: (dg s ++ 59 :: stL l)) (d : Nat) :
    ∃ S' z' n' w' un', xsem xT E (d + 12) kL_read [.ref x, .ref b] (wW E z x sh S, n) = some (.inl (some (.int (nI s))), (wW E z' x sh S', n')) ∧ CG S' (fin (sts (gNew s) l)) w' un' ∧ n ≤ n' ∧ ∀ a, a < n → z' a = z a := by
  have RI0 : RI S (txp t) (20 * 0) := ⟨R, by omega, fun i hi => absurd hi (by omega)⟩
  obtain ⟨S1, z1, n1, e1, R1, f1, k1, k2⟩ := f_all (E := E) (x := x) (n := n) (b := b) (vb := vb) (fb := fb) (t := t) hc H.1.1 hx hfb h8 hL (m := (t.length + 19) / 20) (by omega) (fun j hj => by omega) (d + 6) _ 0 S z n (by rw [Nat.zero_add]) hx hb o1 o2 hbn hvn ho RI0
  have hb1 : isStr E (wW E z1 x sh S1) b vb t.length fb := isStr_fr hb ((wW_out o1).trans (k2 b hbn)) ((wW_out o2).trans (k2 vb hvn))
  have X : sfx (txp t) t.length 0 (wl 10 ++ 32 :: (dg s ++ 59 :: stL l)) := by
    rw [← hT]
    refine ⟨by omega, fun i hi => ?_⟩
    rw [Nat.zero_add]
    exact if_neg (by omega)
  obtain ⟨S2, w2, u2, e2, C2⟩ := k_load (E := E) (z := z1) (x := x) (n := n1) hc (hEn_lt H hx k2) (CG_A C f1) R1 (show t.length ≤ 20 * ((t.length + 19) / 20) by omega) h2 hs8 hl k X (d + 1)
  refine ⟨S2, z1, n1, w2, u2, ?_, C2, k1, k2⟩
  have hf : xsem xT E (d + 11) kL_feeds [.ref x, .ref b] (wW E z x sh S, n) = some (.inl (some (.int (nI (20 * ((t.length + 19) / 20))))), (wW E z1 x sh S1, n1)) := by
    rw [eL_feeds, QL_feeds_0]
    exact e1
  rw [eL_read, QL_read_0, show (Nat.ble (0 + 40) 41 && Nat.ble (0 + 200) 206) = true from rfl, cond_true, hf, cI_s, iLE_t (Nat.zero_le _) (by omega), QL_read_13, show (Nat.ble (0 + 40) 41 && Nat.ble (0 + 200) 206) = true from rfl, cond_true, gO_s hb1 H.1.1, z_length hb1 H.1.1, cI_s, show (Nat.ble (0 + 40 + 1) 41 && Nat.ble (0 + 200 + 6) 206) = true from rfl, cond_true, gO_8 hc.1, e2, cI_s, QL_read_21]
end FD2
