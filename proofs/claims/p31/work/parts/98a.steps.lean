/-! THE LAW'S STEPS AND ITS LAST LOOK. -/
theorem SYm_up {lo m m' st l v k : Nat} {ad : Nat → Nat} (Z : SYm lo m st l v k ad) (h : m ≤ m') : SYm lo m' st l v k ad := ⟨⟨Z.1.1, by have := Z.1.2; omega⟩, ⟨Z.2.1.1, by have := Z.2.1.2; omega⟩, fun q => ⟨(Z.2.2.1 q).1, by have := (Z.2.2.1 q).2; omega⟩, fun i hi => ⟨(Z.2.2.2 i hi).1, by have := (Z.2.2.2 i hi).2; omega⟩⟩
theorem cat_x {E : xEn} {z : Nat → Option va_E} {x m : Nat} {sh : Nat → Option xSh} {S : xSt} {K : Int32 → xH → Option xR} : xcat1 (cI (xthr 5 some) (some (.inr (xexc 2), (wW E z x sh S, m))) K) = some (.inl (some (.int (-1001 : Int32))), (wW E z x sh S, m + 1)) := by
  show xcat1 (some (.inr "java/lang/IllegalStateException", (wW E z x sh S, m))) = _
  unfold xcat1
  exact if_pos rfl
section V484
variable {E : xEn} {n y B x0 x st k m w un a e at' : Nat} {X : Int32} {sh : Nat → Option xSh} {S : xSt} {z : Nat → Option va_E} {g : Nat → Nat}
theorem y_steals (hc : hC sh) (C : CG S g w un) (hp : a < g 0) (d : Nat) : (gCanS a g = true ∧ ∃ S' w' un' v, xsem xT E (d + 20) kL_steals [.ref x, .int (nI a)] (wW E z x sh S, m) = some (.inl (some (.int (nI v))), (wW E z x sh S', m)) ∧ v < 2 ^ 31 ∧ CG S' (gStep (gBl g) 3 a 0 g) w' un') ∨ (gCanS a g = false ∧ xsem xT E (d + 20) kL_steals [.ref x, .int (nI a)] (wW E z x sh S, m) = some (.inl (some (.int (-1001 : Int32))), (wW E z x sh S, m + 1))) := by
  have b0 := hc.1
  cases h : gCanS a g with
  | true =>
    obtain ⟨S', w', u', v, e1, hv, C'⟩ := k_steal (E := E) (z := z) (x := x) (n := m) hc C hp h (d + 11)
    refine Or.inl ⟨rfl, S', w', u', v, ?_, hv, C'⟩
    rw [eL_steals, QL_steals_0, show (Nat.ble (0 + 2) 2 && Nat.ble (0 + 12) 12) = true from rfl, cond_true, gO_8 b0, e1, cI_s]
    rfl
  | false =>
    have e1 := k_steal_x (E := E) (z := z) (x := x) (n := m) hc C hp h (d + 11)
    refine Or.inr ⟨rfl, ?_⟩
    rw [eL_steals, QL_steals_0, show (Nat.ble (0 + 2) 2 && Nat.ble (0 + 12) 12) = true from rfl, cond_true, gO_8 b0, e1, cat_x]
theorem y_plants (hc : hC sh) (C : CG S g w un) (hp : a < g 0) (d : Nat) : (gCanS (g 0) g = true ∧ ∃ S' w' un' v, xsem xT E (d + 20) kL_plants [.ref x, .int (nI a)] (wW E z x sh S, m) = some (.inl (some (.int (nI v))), (wW E z x sh S', m)) ∧ v < 2 ^ 31 ∧ CG S' (gStep (gBl g) 4 a 0 g) w' un') ∨ (gCanS (g 0) g = false ∧ xsem xT E (d + 20) kL_plants [.ref x, .int (nI a)] (wW E z x sh S, m) = some (.inl (some (.int (-1001 : Int32))), (wW E z x sh S, m + 1))) := by
  have b0 := hc.1
  cases h : gCanS (g 0) g with
  | true =>
    obtain ⟨S', w', u', v, e1, hv, C'⟩ := k_plant (E := E) (z := z) (x := x) (n := m) hc C hp h (d + 11)
    refine Or.inl ⟨rfl, S', w', u', v, ?_, hv, C'⟩
    rw [eL_plants, QL_plants_0, show (Nat.ble (0 + 2) 2 && Nat.ble (0 + 12) 12) = true from rfl, cond_true, gO_8 b0, e1, cI_s]
    rfl
  | false =>
    have e1 := k_plant_x (E := E) (z := z) (x := x) (n := m) hc C hp h (d + 11)
    refine Or.inr ⟨rfl, ?_⟩
    rw [eL_plants, QL_plants_0, show (Nat.ble (0 + 2) 2 && Nat.ble (0 + 12) 12) = true from rfl, cond_true, gO_8 b0, e1, cat_x]
theorem v_484 (hc : hC sh) (C : CG S g w un) (ha : a < g 0) (he : e < g 0) (hae : a ≠ e) {κ bc bs : Nat} (hκ : κ ≤ 2) (h1 : bc ≤ 2990) (h2 : bs ≤ 59900) (d : Nat) :
    ∃ S' w' un' bc' bs' a' b', qL_law_484 E (d + 20) bc bs x0 (nI n) (nI y) (nI B) X x st (nI at') (nI k) (nI a) (nI e) (nI (gBl g).toNat) (nI κ) (wW E z x sh S, m) = qL_law_541 E (d + 20) bc' bs' x0 (nI n) (nI y) (nI B) X x st (nI at') (nI k) (nI a) (nI e) (nI (gBl g).toNat) (nI κ) (wW E z x sh S', m) ∧ bc' ≤ bc + 3 ∧ bs' ≤ bs + 18 ∧ CG S' (gStep (gBl g) κ a' b' g) w' un' ∧ okS (gBl g) κ a' b' g ∧ (κ < 2 → a' = a ∧ b' = e) := by
  have b0 := hc.1
  rcases (show κ = 0 ∨ κ = 1 ∨ κ = 2 by omega) with rfl | rfl | rfl
  · obtain ⟨S', w', u', e1, C'⟩ := k_swap (E := E) (z := z) (x := x) (n := m) hc C ha he hae (d + 14)
    refine ⟨S', w', u', bc + 3, bs + 18, a, e, ?_, Nat.le_refl _, Nat.le_refl _, C', ⟨by omega, fun _ => ⟨ha, he, hae⟩, fun q => absurd q (by omega), fun q => absurd q (by omega)⟩, fun _ => ⟨rfl, rfl⟩⟩
    rw [QL_law_484, iEQ_t rfl, g_ble (by omega) (by omega), cond_true, gO_8 b0, e1, cI_s, if_pos rfl, QL_law_503, iEQ_f (by omega) (by omega) (by omega), QL_law_523, iEQ_f (by omega) (by omega) (by omega)]
  · obtain ⟨S', w', u', e1, C'⟩ := k_feint (E := E) (z := z) (x := x) (n := m) hc C ha he hae (d + 14)
    refine ⟨S', w', u', bc + 3, bs + 18, a, e, ?_, Nat.le_refl _, Nat.le_refl _, C', ⟨by omega, fun _ => ⟨ha, he, hae⟩, fun q => absurd q (by omega), fun q => absurd q (by omega)⟩, fun _ => ⟨rfl, rfl⟩⟩
    rw [QL_law_484, iEQ_f (by omega) (by omega) (by omega), QL_law_503, iEQ_t rfl, g_ble (by omega) (by omega), cond_true, gO_8 b0, e1, cI_s, if_pos rfl, QL_law_523, iEQ_f (by omega) (by omega) (by omega)]
  · obtain ⟨S', w', u', e1, C'⟩ := k_rest (E := E) (z := z) (x := x) (n := m) hc C (d + 14)
    refine ⟨S', w', u', bc, bs, 0, 0, ?_, by omega, by omega, C', ⟨by omega, fun q => absurd q (by omega), fun q => absurd q (by omega), fun q => absurd q (by omega)⟩, fun q => absurd q (by omega)⟩
    rw [QL_law_484, iEQ_f (by omega) (by omega) (by omega), QL_law_503, iEQ_f (by omega) (by omega) (by omega), QL_law_523, iEQ_t rfl, g_ble (by omega) (by omega), cond_true, gO_8 b0, e1, cI_s, if_pos rfl]
theorem v_484b {E : xEn} {κ bc bs : Nat} {σ : xH} {x16 : Int32} (h3 : 3 ≤ κ) (h4 : κ ≤ 4) (d : Nat) : qL_law_484 E (d + 20) bc bs x0 (nI n) (nI y) (nI B) X x st (nI at') (nI k) (nI a) (nI e) x16 (nI κ) σ = qL_law_541 E (d + 20) bc bs x0 (nI n) (nI y) (nI B) X x st (nI at') (nI k) (nI a) (nI e) x16 (nI κ) σ := by
  rw [QL_law_484, iEQ_f (by omega) (by omega) (by omega), QL_law_503, iEQ_f (by omega) (by omega) (by omega), QL_law_523, iEQ_f (by omega) (by omega) (by omega)]
/-- where a ball could not be taken or put -/
theorem v_429 (hc : hC sh) (C : CG S g w un) {κ bc bs : Nat} (hκ : κ = 3 ∨ κ = 4) (g0 : g 0 = n) (g1 : g 1 = at') (g2 : g 2 = k) (g6 : g 6 = y) (hcan : gCanS (if κ = 3 then a else n) g = false) (ha : a < n) (hn : n ≤ 4) (hk : k < 100) (h1 : bc ≤ 2990) (h2 : bs ≤ 59900) (d : Nat) :
    qL_law_429 E (d + 20) bc bs x0 (nI n) (nI y) (nI B) X x st (nI at') (nI k) (nI a) (nI e) (nI (gBl g).toNat) (nI κ) (wW E z x sh S, m) = qL_law_484 E (d + 20) (bc + 1) (bs + 6) x0 (nI n) (nI y) (nI B) X x st (nI at') (nI k) (nI a) (nI e) (nI (gBl g).toNat) (nI 2) (wW E z x sh S, m) := by
  have b0 := hc.1
  have I := C.2.2.2.2.2.1
  have hat : at' ≤ 4 := by rw [← g1]; have := I.1.2.2.1; omega
  have hy9 : y ≤ 9 := by rw [← g6]; exact I.1.2.2.2.2.2.2.2.1
  have hst := k_state (E := E) (z := z) (x := x) (n := m) hc C (k := 1) (by omega) (d + 17)
  rw [show gTold g 1 = k from g2] at hst
  have h461 : qL_law_461 E (d + 20) bc bs x0 (nI n) (nI y) (nI B) X x st (nI at') (nI k) (nI a) (nI e) (nI (gBl g).toNat) (nI 0) (wW E z x sh S, m) = qL_law_484 E (d + 20) (bc + 1) (bs + 6) x0 (nI n) (nI y) (nI B) X x st (nI at') (nI k) (nI a) (nI e) (nI (gBl g).toNat) (nI 2) (wW E z x sh S, m) := by
    rw [QL_law_461, iEQ_t rfl, g_ble (by omega) (by omega), cond_true, gO_8 b0, hst, cI_s, iEQ_t rfl, QL_law_481]
  have hno := gCanS_f hcan
  rw [QL_law_429]
  cases hb : gBl g with
  | false =>
    rw [hb] at h461
    rw [iEQ_t (show false.toNat = 0 from rfl), QL_law_460]
    exact h461
  | true =>
    rw [hb] at h461
    rw [iEQ_f (show true.toNat ≠ 0 by decide) (by decide) (by omega)]
    by_cases cy : y = 0
    · rw [iLE_t (by omega) (by omega), QL_law_460]
      exact h461
    · rw [iLE_f (by omega) (by omega)]
      have hne : at' ≠ (if κ = 3 then a else n) := fun q => hno ⟨hb, by omega, by rw [g1]; exact q⟩
      rcases hκ with rfl | rfl
      · rw [if_pos rfl] at hne
        rw [iEQ_t rfl, QL_law_453, iEQ_f hne (by omega) (by omega), QL_law_460]
        exact h461
      · rw [if_neg (by omega)] at hne
        rw [iEQ_f (by omega) (by omega) (by omega), QL_law_452, QL_law_453, iEQ_f hne (by omega) (by omega), QL_law_460]
        exact h461
end V484
section V311
variable {E : xEn} {n t c y b st l x0 N x k m B at' bc bs : Nat} {X : Int32} {f : Nat → Int32} {sh : Nat → Option xSh} {S : xSt} {z : Nat → Option va_E}
theorem v_step (hc : hC sh) (hs : ∀ j, 135 ≤ j → sh j = none) (hn : 2 ≤ n ∧ n ≤ 4) (hN : N < 2 ^ 31) (hk : k ≤ 2) (V : INV E n t c y b X st l x0 N f x sh k S z m B at') (h1 : bc ≤ 400 + 40 * k) (h2 : bs ≤ 20300 + 300 * k) (d : Nat) :
    ∃ S' z' m' at2 B2 bc' bs', qL_law_311 E (d + 20) bc bs x0 (nI n) (nI y) (nI B) X x st (nI at') (nI k) (wW E z x sh S, m) = qL_law_311 E (d + 20) bc' bs' x0 (nI n) (nI y) (nI B2) X x st (nI at2) (nI (k + 1)) (wW E z' x sh S', m') ∧ bc' ≤ 400 + 40 * (k + 1) ∧ bs' ≤ 20300 + 300 * (k + 1) ∧ INV E n t c y b X st l x0 N f x sh (k + 1) S' z' m' B2 at2 := by
  have b0 := hc.1
  obtain ⟨g, w, un, D, sq, ad, v, C, H, Y, Z, h0, hxm, hx0, hz0, L⟩ := V
  obtain ⟨⟨g0, g1, g2, g4, g5, g6⟩, hr, hB, hbk, -⟩ := id L
  have I := C.2.2.2.2.2.1
  have haI := bd_lt (v := cl N f (2 + k)) (m := n) (by omega)
  have hrI := bd_lt (v := cl N f (2 + k) >>> (nI 4 &&& 31)) (m := n - 1) (by omega)
  have hκI := bd_lt (v := cl N f (2 + k) >>> (nI 8 &&& 31)) (m := 5) (by omega)
  have hgb : gBl g = bkb X k := by
    unfold gBl
    rw [g2]
    exact hbk k (by omega)
  have hbl := k_blinks (E := E) (z := z) (x := x) (n := m) hc C (k := k) (by omega) (d + 17)
  rw [hbk k (by omega), ← hgb] at hbl
  generalize ha : bd (cl N f (2 + k)) n = a at *
  generalize hrr : bd (cl N f (2 + k) >>> (nI 4 &&& 31)) (n - 1) = r at *
  generalize hκ : bd (cl N f (2 + k) >>> (nI 8 &&& 31)) 5 = κ at *
  have he : (a + 1 + r) % n < n := Nat.mod_lt _ (by omega)
  have hae : a ≠ (a + 1 + r) % n := by
    rcases (show n = 2 ∨ n = 3 ∨ n = 4 by omega) with rfl | rfl | rfl <;> omega
  generalize hee : (a + 1 + r) % n = e at *
  have h386 : qL_law_311 E (d + 20) bc bs x0 (nI n) (nI y) (nI B) X x st (nI at') (nI k) (wW E z x sh S, m) = qL_law_386 E (d + 20) (bc + 1) (bs + 6) x0 (nI n) (nI y) (nI B) X x st (nI at') (nI k) (cl N f (2 + k)) (nI a) (nI e) (nI (gBl g).toNat) (wW E z x sh S, m) := by
    have hif : ∀ σ, (if (X >>> (nI k &&& 31)) &&& nI 1 = nI 1 then qL_law_370 E (d + 20) bc bs x0 (nI n) (nI y) (nI B) X x st (nI at') (nI k) (cl N f (2 + k)) (nI a) (nI e) (nI 1) σ else qL_law_369 E (d + 20) bc bs x0 (nI n) (nI y) (nI B) X x st (nI at') (nI k) (cl N f (2 + k)) (nI a) (nI e) σ) = qL_law_370 E (d + 20) bc bs x0 (nI n) (nI y) (nI B) X x st (nI at') (nI k) (cl N f (2 + k)) (nI a) (nI e) (nI (gBl g).toNat) σ := by
      intro σ
      rw [hgb]
      unfold bkb
      by_cases q : (X >>> (nI k &&& 31)) &&& nI 1 = nI 1
      · rw [if_pos q, decide_eq_true q]; rfl
      · rw [if_neg q, decide_eq_false q, QL_law_369]; rfl
    rw [QL_law_311, iLE_f (show k < 3 by omega) (by omega), g_ble (by omega) (by omega), cond_true, nI_add, y_cell hz0 (hE_w H) hN (by omega), cI_s]
    first | rw [g_ble (by omega) (by omega), cond_true] | rw [cond_true]
    rw [y_bound _ (by omega) (by omega), cI_s]
    first | rw [g_ble (by omega) (by omega), cond_true] | rw [cond_true]
    rw [pk_sub (show 1 ≤ n by omega), y_bound _ (by omega) (by omega), cI_s, nz_nI (by omega) (by omega), ha, hrr]
    simp only [nI_add]
    rw [pk_rem (by omega) (by omega) (by omega), hee, hif, QL_law_370, g_ble (by omega) (by omega), cond_true, gO_8 b0, hbl, cI_s, iEQ_t rfl]
  have fin : ∀ κ' a' b' S1 w1 u1 bc1 bs1 m1, m ≤ m1 → okS (gBl g) κ' a' b' g → (κ' < 2 → a' = a ∧ b' = e) → (κ' = 4 → a' = a) → CG S1 (gStep (gBl g) κ' a' b' g) w1 u1 → bc1 ≤ 400 + 40 * k + 15 → bs1 ≤ 20300 + 300 * k + 90 →
      qL_law_311 E (d + 20) bc bs x0 (nI n) (nI y) (nI B) X x st (nI at') (nI k) (wW E z x sh S, m) = qL_law_541 E (d + 20) bc1 bs1 x0 (nI n) (nI y) (nI B) X x st (nI at') (nI k) (nI a) (nI e) (nI (gBl g).toNat) (nI κ') (wW E z x sh S1, m1) →
      ∃ S' z' m' at2 B2 bc' bs', qL_law_311 E (d + 20) bc bs x0 (nI n) (nI y) (nI B) X x st (nI at') (nI k) (wW E z x sh S, m) = qL_law_311 E (d + 20) bc' bs' x0 (nI n) (nI y) (nI B2) X x st (nI at2) (nI (k + 1)) (wW E z' x sh S', m') ∧ bc' ≤ 400 + 40 * (k + 1) ∧ bs' ≤ 20300 + 300 * (k + 1) ∧ INV E n t c y b X st l x0 N f x sh (k + 1) S' z' m' B2 at2 := by
    intro κ' a' b' S1 w1 u1 bc1 bs1 m1 hmm ok q1 q2 C1 q3 q4 e0
    obtain ⟨z', m', at2, B2, bc', bs', e1, r1, r2, r3⟩ := v_541 (E := E) (S := S1) (m := m1) hc hs hn hk I L ok haI he hae q1 q2 C1 H Y (SYm_up Z hmm) h0 (Nat.le_trans hxm hmm) hx0 hz0 q3 q4 d
    exact ⟨S1, z', m', at2, B2, bc', bs', e0.trans e1, r1, r2, r3⟩
  have rest : ∀ bc1 bs1 m1, m ≤ m1 → bc1 ≤ bc + 4 → bs1 ≤ bs + 24 → qL_law_386 E (d + 20) (bc + 1) (bs + 6) x0 (nI n) (nI y) (nI B) X x st (nI at') (nI k) (cl N f (2 + k)) (nI a) (nI e) (nI (gBl g).toNat) (wW E z x sh S, m) = qL_law_484 E (d + 20) bc1 bs1 x0 (nI n) (nI y) (nI B) X x st (nI at') (nI k) (nI a) (nI e) (nI (gBl g).toNat) (nI 2) (wW E z x sh S, m1) →
      ∃ S' z' m' at2 B2 bc' bs', qL_law_311 E (d + 20) bc bs x0 (nI n) (nI y) (nI B) X x st (nI at') (nI k) (wW E z x sh S, m) = qL_law_311 E (d + 20) bc' bs' x0 (nI n) (nI y) (nI B2) X x st (nI at2) (nI (k + 1)) (wW E z' x sh S', m') ∧ bc' ≤ 400 + 40 * (k + 1) ∧ bs' ≤ 20300 + 300 * (k + 1) ∧ INV E n t c y b X st l x0 N f x sh (k + 1) S' z' m' B2 at2 := by
    intro bc1 bs1 m1 hmm q1 q2 e0
    obtain ⟨S1, w1, u1, bc2, bs2, a', b', e1, r1, r2, C1, ok, r3⟩ := v_484 (E := E) (n := n) (y := y) (B := B) (x0 := x0) (st := st) (k := k) (m := m1) (at' := at') (X := X) hc C (show a < g 0 by omega) (show e < g 0 by omega) hae (κ := 2) (bc := bc1) (bs := bs1) (Nat.le_refl _) (by omega) (by omega) d
    exact fin 2 a' b' S1 w1 u1 bc2 bs2 m1 hmm ok r3 (fun q => absurd q (by omega)) C1 (by omega) (by omega) (h386.trans (e0.trans e1))
  by_cases k3 : κ = 3
  · rcases y_steals (E := E) (z := z) (x := x) (m := m) hc C (a := a) (by omega) d with ⟨hcan, S1, w1, u1, v1, e1, hv, C1⟩ | ⟨hcan, e1⟩
    · obtain ⟨z1, z2, z3⟩ := gCanS_t hcan
      refine fin 3 a 0 S1 w1 u1 (bc + 1 + 2) (bs + 6 + 12) m (Nat.le_refl m) ⟨by omega, fun q => absurd q (by omega), fun _ => ⟨z1, z2, by omega⟩, fun q => absurd q (by omega)⟩ (fun q => absurd q (by omega)) (fun q => absurd q (by omega)) C1 (by omega) (by omega) (h386.trans ?_)
      rw [QL_law_386, g_ble (by omega) (by omega), cond_true, y_bound _ (by omega) (by omega), cI_s, hκ, iEQ_t k3, g_ble (by omega) (by omega), cond_true, e1, cI_s, iLT_f (Nat.zero_le _) hv, QL_law_413, iEQ_f (by omega) (by omega) (by omega), k3, v_484b (Nat.le_refl 3) (by omega)]
    · refine rest (bc + 1 + 2 + 1) (bs + 6 + 12 + 6) (m + 1) (Nat.le_succ m) (by omega) (by omega) ?_
      rw [QL_law_386, g_ble (by omega) (by omega), cond_true, y_bound _ (by omega) (by omega), cI_s, hκ, iEQ_t k3, g_ble (by omega) (by omega), cond_true, e1, cI_s, if_pos (show (-1001 : Int32) < nI 0 by decide), k3, v_429 hc C (Or.inl rfl) g0 g1 g2 g6 (by rw [if_pos rfl]; exact hcan) haI hn.2 (by omega) (by omega) (by omega)]
  · by_cases k4 : κ = 4
    · rcases y_plants (E := E) (z := z) (x := x) (m := m) hc C (a := a) (by omega) d with ⟨hcan, S1, w1, u1, v1, e1, hv, C1⟩ | ⟨hcan, e1⟩
      · obtain ⟨z1, z2, z3⟩ := gCanS_t hcan
        refine fin 4 a 0 S1 w1 u1 (bc + 1 + 2) (bs + 6 + 12) m (Nat.le_refl m) ⟨by omega, fun q => absurd q (by omega), fun q => absurd q (by omega), fun _ => ⟨z1, z2, z3, by omega⟩⟩ (fun q => absurd q (by omega)) (fun _ => rfl) C1 (by omega) (by omega) (h386.trans ?_)
        rw [QL_law_386, g_ble (by omega) (by omega), cond_true, y_bound _ (by omega) (by omega), cI_s, hκ, iEQ_f k3 (by omega) (by omega), QL_law_413, iEQ_t k4, g_ble (by omega) (by omega), cond_true, e1, cI_s, iLE_t (Nat.zero_le _) hv, k4, v_484b (by omega) (Nat.le_refl 4)]
      · refine rest (bc + 1 + 2 + 1) (bs + 6 + 12 + 6) (m + 1) (Nat.le_succ m) (by omega) (by omega) ?_
        rw [QL_law_386, g_ble (by omega) (by omega), cond_true, y_bound _ (by omega) (by omega), cI_s, hκ, iEQ_f k3 (by omega) (by omega), QL_law_413, iEQ_t k4, g_ble (by omega) (by omega), cond_true, e1, cI_s, if_neg (show ¬ nI 0 ≤ (-1001 : Int32) by decide), k4, v_429 hc C (Or.inr rfl) g0 g1 g2 g6 (by rw [if_neg (by omega), ← g0]; exact hcan) haI hn.2 (by omega) (by omega) (by omega)]
    · obtain ⟨S1, w1, u1, bc2, bs2, a', b', e1, r1, r2, C1, ok, r3⟩ := v_484 (E := E) (n := n) (y := y) (B := B) (x0 := x0) (st := st) (k := k) (m := m) (at' := at') (X := X) hc C (show a < g 0 by omega) (show e < g 0 by omega) hae (κ := κ) (bc := bc + 1) (bs := bs + 6) (by omega) (by omega) (by omega) d
      refine fin κ a' b' S1 w1 u1 bc2 bs2 m (Nat.le_refl m) ok r3 (fun q => absurd q k4) C1 (by omega) (by omega) (h386.trans (Eq.trans ?_ e1))
      rw [QL_law_386, g_ble (by omega) (by omega), cond_true, y_bound _ (by omega) (by omega), cI_s, hκ, iEQ_f k3 (by omega) (by omega), QL_law_413, iEQ_f k4 (by omega) (by omega)]
end V311
