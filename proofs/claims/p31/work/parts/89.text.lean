/-! THE LAW'S NUMBERS, AND ITS TEXT. -/
def bd (v : Int32) (m : Nat) : Nat := (v.toBitVec.toNat % 2 ^ 31) % m
theorem bd_lt {v : Int32} {m : Nat} (h : 0 < m) : bd v m < m := Nat.mod_lt _ h
def cl (N : Nat) (f : Nat → Int32) (k : Nat) : Int32 := if N ≤ k then nI 0 else f k
theorem y_bound {E : xEn} {σ : xH} (v : Int32) {m : Nat} (h0 : 0 < m) (hm : m < 2 ^ 31) (d : Nat) : xsem xT E (d + 1) kL_bound [.int v, .int (nI m)] σ = some (.inl (some (.int (nI (bd v m)))), σ) := by
  rw [eL_bound, QL_bound_0, nz_nI (by omega) hm, pk_and v 31 rfl, pk_rem (Nat.mod_lt _ (Nat.two_pow_pos 31)) h0 hm]
  rfl
/-- the script: where, how long, what -/
def cIn (E : xEn) (a N : Nat) (f : Nat → Int32) : Prop := a = eSa E ∧ N = eSn E ∧ f = eSf E
theorem y_cell {E : xEn} {w : Nat → Option va_E} {n a N : Nat} {f : Nat → Int32} (h : cIn E a N f) (H : hW E w) (hN : N < 2 ^ 31) {k : Nat} (hk : k < 2 ^ 31) (d : Nat) : xsem xT E (d + 1) kL_cell [.ref a, .int (nI k)] (w, n) = some (.inl (some (.int (cl N f k))), (w, n)) := by
  obtain ⟨rfl, rfl, rfl⟩ := h
  rw [eL_cell, QL_cell_0, aN_sc H]
  unfold cl
  by_cases c : eSn E ≤ k
  · rw [iLE_t c hk, if_pos c, QL_cell_12, QL_cell_13]
  · rw [iLE_f (by omega) (by omega), if_neg c, aI_sc H (by omega) hN, QL_cell_13]
/-- the law's own literals -/
def lit (j : Nat) : List Nat := if j = 27 then [115, 104, 101, 108, 108, 115, 32] else if j = 28 then [59, 98, 97, 108, 108, 32] else if j = 29 then [59, 116, 114, 117, 115, 116, 32] else if j = 30 then [59, 99, 97, 108, 109, 32] else if j = 31 then [59, 115, 108, 121, 32] else if j = 32 then [115, 99, 114, 97, 116, 99, 104, 32] else if j = 33 then [98, 108, 105, 110, 107, 32] else [59]
def isL (j : Nat) : Prop := j = 1 ∨ (27 ≤ j ∧ j < 34)
theorem lit_x {j : Nat} (h : isL j) : (lit j).map nI = xtx j ∧ (∀ c ∈ lit j, c < 128) ∧ (lit j).length ≤ 8 ∧ j < 34 := by
  have h1 : ∀ j, j < 34 → (j = 1 ∨ 27 ≤ j) → (lit j).map nI = xtx j ∧ (∀ c ∈ lit j, c < 128) ∧ (lit j).length ≤ 8 ∧ j < 34 := by decide +kernel
  rcases h with h | h
  · exact h1 j (by omega) (Or.inl h)
  · exact h1 j h.2 (Or.inr h.1)
theorem map_getD {l : List Nat} {r : List Int32} (h : l.map nI = r) {i : Nat} (hi : i < l.length) : r.getD i 0 = nI (l.getD i 0) := by
  rw [← h, List.getD_eq_getElem?_getD, List.getD_eq_getElem?_getD, List.getElem?_map, List.getElem?_eq_getElem hi]
  rfl
def chn (M m : Nat) : Prop := m = M ∨ 2 * m + 2 = M ∨ 4 * m + 6 = M
theorem chn_cap {M m q t : Nat} (h : chn M m) (h16 : 16 ≤ m) (htm : t ≤ m) (hq : q ≤ t + 8) (hqM : q ≤ M) : chn M (cap q m) ∧ 16 ≤ cap q m := by
  unfold cap chn at *
  by_cases c : q ≤ m
  · rw [if_pos c]; exact ⟨h, h16⟩
  · rw [if_neg c, if_pos (by omega)]
    omega
/-- a builder that grows along M, made from lo on -/
def tb (w : Nat → Option va_E) (n a : Nat) (t : List Nat) (M lo : Nat) : Prop := ∃ v m, SB w n a v m t ∧ chn M m ∧ 16 ≤ m ∧ lo ≤ a ∧ lo ≤ v ∧ lo ≤ n
section TBS
variable {E : xEn} {w : Nat → Option va_E} {n a M lo : Nat} {t : List Nat}
theorem tb_O {ρ : Type} {K : Option ρ} (h : tb w n a t M lo) : gO E (w, n) 12 a K = K := by
  obtain ⟨v, m, ⟨f, h1, -⟩, -⟩ := h
  exact gO_at h1
theorem tb_app {w' : Nat → Option va_E} {n' v v' m q : Nat} {t' : List Nat} (hM : M ≤ 120) (hm : chn M m) (h16 : 16 ≤ m) (hlo : lo ≤ a ∧ lo ≤ v ∧ lo ≤ n) (htm : t.length ≤ m) (hq : q ≤ t.length + 8) (hqM : q ≤ M) (S : SB w' n' a v' (cap q m) t') (F : fq a v w n w' n') (V : v' = v ∨ n ≤ v') : tb w' n' a t' M lo ∧ n ≤ n' ∧ ∀ b, b < lo → w' b = w b := by
  obtain ⟨c1, c2⟩ := chn_cap hm h16 htm hq hqM
  refine ⟨⟨v', _, S, c1, c2, hlo.1, by rcases V with V | V <;> omega, by have := F.1; omega⟩, F.1, fun b hb => F.2 b (by omega) (by omega) (by omega)⟩
theorem q_lit (h : tb w n a t M lo) (H : hEn E w lo) (hM : M ≤ 120) {j : Nat} (hj : isL j) (hq : t.length + (lit j).length ≤ M) (d : Nat) :
    ∃ w' n', xsem xT E (d + 6) kJ4_append_15ec4 [.ref a, .ref (E.2.1 j)] (w, n) = some (.inl (some (.ref a)), (w', n')) ∧ tb w' n' a (t ++ lit j) M lo ∧ hEn E w' lo ∧ n ≤ n' ∧ ∀ b, b < lo → w' b = w b := by
  obtain ⟨v, m, S, hc, h16, l1, l2, l3⟩ := h
  obtain ⟨x1, x2, x3, x4⟩ := lit_x hj
  have s1 := H.2 _ (isSA_K (E := E) x4)
  have s2 := H.2 _ (isSA_V (E := E) x4)
  have hmM : m ≤ M := by unfold chn at hc; omega
  have htm : t.length ≤ m := by obtain ⟨f, -, -, -, -, -, -, k⟩ := S; exact k
  have hln : (xtx j).length = (lit j).length := by rw [← x1, List.length_map]
  obtain ⟨w', n', v', e, S', F, V⟩ := z_app4S S (isStr_lit H.1 x4) H.1.1 (L := (xtx j).length) hln ⟨by omega, by omega, by omega, by omega⟩ ⟨by omega, by omega⟩ (fun i hi => map_getD x1 (by omega)) x2 (by omega) (by omega) d
  obtain ⟨r1, r2, r3⟩ := tb_app hM hc h16 ⟨l1, l2, l3⟩ htm (by omega) hq S' F V
  exact ⟨w', n', e, r1, hEn_lt H (Nat.le_refl _) r3, r2, r3⟩
theorem dg_len {k : Nat} : (dg k).length ≤ 2 ∧ 1 ≤ (dg k).length := by
  unfold dg
  split
  · exact ⟨by show 1 ≤ 2; omega, Nat.le_refl 1⟩
  · exact ⟨Nat.le_refl 2, by show 1 ≤ 2; omega⟩
theorem q_int (h : tb w n a t M lo) (H : hEn E w lo) (hM : M ≤ 120) {k : Nat} (hk : k < 100) (hq : t.length + (dg k).length ≤ M) (d : Nat) :
    ∃ w' n', xsem xT E (d + 5) kJ4_append_bf812 [.ref a, .int (nI k)] (w, n) = some (.inl (some (.ref a)), (w', n')) ∧ tb w' n' a (t ++ dg k) M lo ∧ hEn E w' lo ∧ n ≤ n' ∧ ∀ b, b < lo → w' b = w b := by
  obtain ⟨v, m, S, hc, h16, l1, l2, l3⟩ := h
  have hmM : m ≤ M := by unfold chn at hc; omega
  have htm : t.length ≤ m := by obtain ⟨f, -, -, -, -, -, -, k⟩ := S; exact k
  obtain ⟨w', n', v', e, S', F, V⟩ := z_appI S H.1 (fun q hq => by have := H.2 q hq; omega) hk (by omega) (by omega) d
  obtain ⟨r1, r2, r3⟩ := tb_app hM hc h16 ⟨l1, l2, l3⟩ htm (by have := (dg_len (k := k)).1; omega) hq S' F V
  exact ⟨w', n', e, r1, hEn_lt H (Nat.le_refl _) r3, r2, r3⟩
theorem q_chr (h : tb w n a t M lo) (H : hEn E w lo) (hM : M ≤ 120) {c : Nat} (hc8 : c < 128) (hq : t.length + 1 ≤ M) (d : Nat) :
    ∃ w' n', xsem xT E (d + 5) kJ4_append_cf468 [.ref a, .int (nI c)] (w, n) = some (.inl (some (.ref a)), (w', n')) ∧ tb w' n' a (t ++ [c]) M lo ∧ hEn E w' lo ∧ n ≤ n' ∧ ∀ b, b < lo → w' b = w b := by
  obtain ⟨v, m, S, hc, h16, l1, l2, l3⟩ := h
  have hmM : m ≤ M := by unfold chn at hc; omega
  have htm : t.length ≤ m := by obtain ⟨f, -, -, -, -, -, -, k⟩ := S; exact k
  obtain ⟨w', n', v', e, S', F, V⟩ := z_appC (E := E) S hc8 (by omega) (by omega) d
  obtain ⟨r1, r2, r3⟩ := tb_app hM hc h16 ⟨l1, l2, l3⟩ htm (by omega) hq S' F V
  exact ⟨w', n', e, r1, hEn_lt H (Nat.le_refl _) r3, r2, r3⟩
end TBS
/-- the law's first words -/
def tx0 (n t c y b : Nat) : List Nat := lit 27 ++ dg n ++ lit 28 ++ dg b ++ lit 29 ++ dg t ++ lit 30 ++ dg c ++ lit 31 ++ dg y ++ lit 1
theorem g_ble {a b c d : Nat} (h1 : a ≤ b) (h2 : c ≤ d) : (Nat.ble a b && Nat.ble c d) = true := by rw [ble_t h1, ble_t h2]; rfl
