/-! STRINGS: the literals and those that the law makes; what stays outside the world. -/
def inj (f : Nat → Nat) (m : Nat) : Prop := ∀ i j, i < m → j < m → f i = f j → i = j
/-- what the statics' addresses are like -/
def eS (E : xEn) : Prop := inj E.1 29 ∧ inj E.2.1 34 ∧ inj E.2.2.1 34 ∧ (∀ i, i < 34 → E.2.2.1 i ≠ E.2.2.2.1 ∧ E.2.2.1 i ≠ eD1 E ∧ E.2.2.1 i ≠ eD2 E ∧ E.2.2.1 i ≠ eDc E ∧ E.2.2.1 i ≠ eSa E) ∧ (eFm E).category = 1 ∧ eD1 E ≠ eD2 E ∧ eDc E ≠ E.2.2.2.1 ∧ eSa E ≠ E.2.2.2.1 ∧ eSa E ≠ eDc E
def isSA (E : xEn) (a : Nat) : Prop := (∃ i, i < 29 ∧ a = E.1 i) ∨ (∃ i, i < 34 ∧ (a = E.2.1 i ∨ a = E.2.2.1 i)) ∨ a = E.2.2.2.1 ∨ a = eD1 E ∨ a = eD2 E ∨ a = eDc E ∨ a = eSa E
/-- a world that leaves the statics alone -/
def hW (E : xEn) (w : Nat → Option va_E) : Prop := eS E ∧ ∀ a, isSA E a → w a = none
theorem isSA_T {E : xEn} {i : Nat} (h : i < 29) : isSA E (E.1 i) := Or.inl ⟨i, h, rfl⟩
theorem isSA_K {E : xEn} {i : Nat} (h : i < 34) : isSA E (E.2.1 i) := Or.inr (Or.inl ⟨i, h, Or.inl rfl⟩)
theorem isSA_V {E : xEn} {i : Nat} (h : i < 34) : isSA E (E.2.2.1 i) := Or.inr (Or.inl ⟨i, h, Or.inr rfl⟩)
theorem isSA_A {E : xEn} : isSA E E.2.2.2.1 := Or.inr (Or.inr (Or.inl rfl))
theorem isSA_1 {E : xEn} : isSA E (eD1 E) := Or.inr (Or.inr (Or.inr (Or.inl rfl)))
theorem isSA_2 {E : xEn} : isSA E (eD2 E) := Or.inr (Or.inr (Or.inr (Or.inr (Or.inl rfl))))
theorem isSA_C {E : xEn} : isSA E (eDc E) := Or.inr (Or.inr (Or.inr (Or.inr (Or.inr (Or.inl rfl)))))
theorem isSA_S {E : xEn} : isSA E (eSa E) := Or.inr (Or.inr (Or.inr (Or.inr (Or.inr (Or.inr rfl)))))
theorem xfind_in {f : Nat → Nat} : ∀ m i, inj f m → i < m → xfind f (f i) m = some i := by
  intro m
  induction m with
  | zero => exact fun i _ h => absurd h (Nat.not_lt_zero i)
  | succ m ih =>
    intro i hf hi
    unfold xfind
    by_cases e : i < m
    · rw [ih i (fun a b ha hb => hf a b (by omega) (by omega)) e]
    · have e : i = m := by omega
      subst e
      cases h : xfind f (f i) i with
      | none =>
        dsimp only
        rw [Nat.beq_refl]
        rfl
      | some j =>
        obtain ⟨h1, h2⟩ := iv_xfind h
        have := hf j i (by omega) (by omega) h2
        omega
theorem xfind_no {f : Nat → Nat} {a : Nat} : ∀ m, (∀ i, i < m → f i ≠ a) → xfind f a m = none := by
  intro m
  induction m with
  | zero => exact fun _ => rfl
  | succ m ih =>
    intro h
    unfold xfind
    rw [ih (fun i hi => h i (by omega))]
    dsimp only
    rw [Bool.eq_false_iff.2 (fun hb => h m (by omega) (Nat.eq_of_beq_eq_true hb))]
    rfl
set_option maxRecDepth 100000 in
theorem xt_c : ∀ j, j < 34 → ∀ i, i < (xtx j).length → ∃ c, c < 128 ∧ (xtx j).getD i 0 = nI c := by
  have h : ∀ j, j < 34 → ∀ i, i < (xtx j).length → 0 ≤ (xtx j).getD i 0 ∧ (xtx j).getD i 0 < 128 := by decide +kernel
  intro j hj i hi
  obtain ⟨h1, h2⟩ := h j hj i hi
  rw [Int32.le_iff_toInt_le] at h1
  rw [Int32.lt_iff_toInt_lt] at h2
  have e0 : ((0 : Int32)).toInt = 0 := by decide
  have e1 : ((128 : Int32)).toInt = 128 := by decide
  rw [e0] at h1
  rw [e1] at h2
  refine ⟨((xtx j).getD i 0).toInt.toNat, by omega, Int32.toInt_inj.1 ?_⟩
  rw [nI_toInt (by omega)]
  omega
set_option maxRecDepth 100000 in
theorem xt_len : ∀ j, j < 34 → (xtx j).length ≤ 8 := by decide +kernel
section STR
variable {ρ : Type} {E : xEn} {w : Nat → Option va_E} {n a b vb L : Nat} {fb : Nat → Int32}
/-- a String: a literal, or one of the world; its bytes, how many -/
def isStr (E : xEn) (w : Nat → Option va_E) (b vb L : Nat) (fb : Nat → Int32) : Prop :=
  (∃ j, j < 34 ∧ b = E.2.1 j ∧ vb = E.2.2.1 j ∧ L = (xtx j).length ∧ fb = (fun q => (xtx j).getD q 0) ∧ w b = none ∧ w vb = none) ∨
  (∃ h2 h3, w b = some (.inr (11, [.ref vb, .int (nI 0), h2, h3])) ∧ w vb = some (.inl (1, L, .inl fb)))
theorem isStr_fr {w' : Nat → Option va_E} (h : isStr E w b vb L fb) (h1 : w' b = w b) (h2 : w' vb = w vb) : isStr E w' b vb L fb := by
  rcases h with ⟨j, a1, a2, a3, a4, a5, a6, a7⟩ | ⟨h2', h3', b1, b2⟩
  · exact Or.inl ⟨j, a1, a2, a3, a4, a5, h1.trans a6, h2.trans a7⟩
  · exact Or.inr ⟨h2', h3', h1.trans b1, h2.trans b2⟩
theorem isStr_lit (H : hW E w) {j : Nat} (hj : j < 34) : isStr E w (E.2.1 j) (E.2.2.1 j) (xtx j).length (fun q => (xtx j).getD q 0) := Or.inl ⟨j, hj, rfl, rfl, rfl, rfl, H.2 _ (isSA_K hj), H.2 _ (isSA_V hj)⟩
theorem gO_s (h : isStr E w b vb L fb) (H : eS E) {K : Option ρ} : gO E (w, n) 99 b K = K := by
  unfold gO
  rcases h with ⟨j, hj, rfl, -, -, -, h6, -⟩ | ⟨h2, h3, h4, -⟩
  · dsimp only
    rw [h6]
    dsimp only
    rw [Nat.beq_refl, show xNS = 34 from rfl, xfind_in 34 j H.2.1 hj]
    rfl
  · dsimp only
    rw [h4]
    rfl
theorem gU_s (h : isStr E w b vb L fb) (H : eS E) {K : Nat → Option ρ} : gU E (w, n) b K = K vb := by
  unfold gU
  rcases h with ⟨j, hj, rfl, rfl, -, -, h6, -⟩ | ⟨h2, h3, h4, -⟩
  · dsimp only
    rw [h6]
    dsimp only
    rw [show xNS = 34 from rfl, xfind_in 34 j H.2.1 hj]
  · dsimp only
    rw [h4]
    dsimp only
    exact gR_at h4 rfl
theorem gC_s (h : isStr E w b vb L fb) (H : eS E) {K : Int32 → Option ρ} : gC E (w, n) b K = K (nI 0) := by
  unfold gC
  rcases h with ⟨j, hj, rfl, rfl, -, -, h6, -⟩ | ⟨h2, h3, h4, -⟩
  · dsimp only
    rw [h6]
    dsimp only
    rw [show xNS = 34 from rfl, xfind_in 34 j H.2.1 hj]
  · dsimp only
    rw [h4]
    dsimp only
    exact gI_at h4 rfl
theorem aN_s (h : isStr E w b vb L fb) (H : eS E) {K : Int32 → Option ρ} : aN E (w, n) vb K = K (nI L) := by
  rcases h with ⟨j, hj, rfl, rfl, rfl, -, -, h7⟩ | ⟨h2, h3, -, h4⟩
  · unfold aN
    dsimp only
    rw [h7]
    dsimp only
    rw [Bool.eq_false_iff.2 (fun z => (H.2.2.2.1 j hj).1 (Nat.eq_of_beq_eq_true z)), cond_false, show xNS = 34 from rfl, xfind_in 34 j H.2.2.1 hj]
  · exact aN_at h4 rfl
theorem aB_s (h : isStr E w b vb L fb) (H : eS E) (hL : L < 2 ^ 31) {i : Nat} (hi : i < L) {K : Int32 → Option ρ} : aB E (w, n) vb (nI i) K = K (fb i) := by
  rcases h with ⟨j, hj, rfl, rfl, rfl, rfl, -, h7⟩ | ⟨h2, h3, -, h4⟩
  · unfold aB
    dsimp only
    rw [h7]
    dsimp only
    rw [show xNS = 34 from rfl, xfind_in 34 j H.2.2.1 hj]
    dsimp only
    rw [xin_nI hi hL, cond_true, nI_clamp (by omega)]
  · exact aB_at h4 hi hL
theorem cpI_s (h : isStr E w b vb L fb) (H : eS E) (hL : L < 2 ^ 31) {v m j : Nat} {g : Nat → Int32} (hv : w v = some (.inl (1, m, .inl g))) (hne : vb ≠ v) (hm : m < 2 ^ 31) (hj : j + L ≤ m) (hf : ∀ q, q < L → fits .byte (.int (fb q)) = true) {K : xH → Option ρ} :
    cpI E (w, n) vb (nI 0) v (nI j) (nI L) K = K (xup w v (.inl (1, m, .inl (va_cpy fb g 0 j L))), n) := by
  rcases h with ⟨j0, hj0, rfl, rfl, rfl, rfl, -, h7⟩ | ⟨h2, h3, -, h4⟩
  · have hp : xcpr (nI 0) (nI j) (nI (xtx j0).length) (xtx j0).length m = true := by
      unfold xcpr
      rw [nI_toInt (by omega), nI_toInt (by omega), nI_toInt (by omega)]
      exact decide_eq_true (by omega)
    have hx : xbf (fun q => (xtx j0).getD q 0) (xtx j0).length = true := decide_eq_true hf
    unfold cpI
    dsimp only
    rw [hv]
    dsimp only
    rw [h7]
    dsimp only
    rw [show xNS = 34 from rfl, xfind_in 34 j0 H.2.2.1 hj0]
    dsimp only
    rw [hp, hx, nI_clamp (by omega), nI_clamp (by omega), nI_clamp (by omega)]
    rfl
  · exact cpB_at h4 hv hne (by omega) (by omega) hL hm hf
theorem aB_1 (H : hW E w) {i : Nat} (hi : i < 100) {K : Int32 → Option ρ} : aB E (w, n) (eD1 E) (nI i) K = K (nI (48 + i % 10)) := by
  unfold aB
  dsimp only
  rw [H.2 _ isSA_1]
  dsimp only
  rw [show xNS = 34 from rfl, xfind_no 34 (fun i hi => (H.1.2.2.2.1 i hi).2.1)]
  dsimp only
  rw [Nat.beq_refl, xin_nI hi (by omega), nI_clamp (by omega)]
  rfl
theorem aB_2 (H : hW E w) {i : Nat} (hi : i < 100) {K : Int32 → Option ρ} : aB E (w, n) (eD2 E) (nI i) K = K (nI (48 + i / 10)) := by
  unfold aB
  dsimp only
  rw [H.2 _ isSA_2]
  dsimp only
  rw [show xNS = 34 from rfl, xfind_no 34 (fun i hi => (H.1.2.2.2.1 i hi).2.2.1)]
  dsimp only
  rw [Bool.eq_false_iff.2 (fun z => H.1.2.2.2.2.2.1 (Nat.eq_of_beq_eq_true z).symm), Nat.beq_refl, xin_nI hi (by omega), nI_clamp (by omega)]
  rfl
theorem aN_c (H : hW E w) {K : Int32 → Option ρ} : aN E (w, n) (eDc E) K = K (nI 0) := by
  unfold aN
  dsimp only
  rw [H.2 _ isSA_C]
  dsimp only
  rw [Bool.eq_false_iff.2 (fun z => H.1.2.2.2.2.2.2.1 (Nat.eq_of_beq_eq_true z)), cond_false, show xNS = 34 from rfl, xfind_no 34 (fun i hi => (H.1.2.2.2.1 i hi).2.2.2.1)]
  dsimp only
  rw [Nat.beq_refl, cond_true]
theorem aN_sc (H : hW E w) {K : Int32 → Option ρ} : aN E (w, n) (eSa E) K = K (nI (eSn E)) := by
  unfold aN
  dsimp only
  rw [H.2 _ isSA_S]
  dsimp only
  rw [Bool.eq_false_iff.2 (fun z => H.1.2.2.2.2.2.2.2.1 (Nat.eq_of_beq_eq_true z)), cond_false, show xNS = 34 from rfl, xfind_no 34 (fun i hi => (H.1.2.2.2.1 i hi).2.2.2.2)]
  dsimp only
  rw [Bool.eq_false_iff.2 (fun z => H.1.2.2.2.2.2.2.2.2 (Nat.eq_of_beq_eq_true z)), Nat.beq_refl, cond_true, cond_false]
theorem aI_sc (H : hW E w) {i : Nat} (hi : i < eSn E) (hn : eSn E < 2 ^ 31) {K : Int32 → Option ρ} : aI E (w, n) (eSa E) (nI i) K = K (eSf E i) := by
  unfold aI
  dsimp only
  rw [H.2 _ isSA_S]
  dsimp only
  rw [Nat.beq_refl, xin_nI hi hn, nI_clamp (by omega)]
  rfl
-- the methods
theorem z_coder (h : isStr E w b vb L fb) (H : eS E) (d : Nat) : xsem xT E (d + 1) kJ0_coder_7d493 [.ref b] (w, n) = some (.inl (some (.int (nI 0))), (w, n)) := by
  rw [eJ0_coder_7d493, QJ0_coder_7d493_0, iEQ_f (by omega) (by omega) (by omega), gC_s h H, QJ0_coder_7d493_14]
  rfl
theorem z_latin (h : isStr E w b vb L fb) (H : eS E) (d : Nat) : xsem xT E (d + 1) kJ0_isLatin1_aae02 [.ref b] (w, n) = some (.inl (some (.int (nI 1))), (w, n)) := by
  rw [eJ0_isLatin1_aae02, QJ0_isLatin1_aae02_0, iEQ_f (by omega) (by omega) (by omega), gC_s h H, iEQ_t rfl, QJ0_isLatin1_aae02_18]
  rfl
theorem z_length (h : isStr E w b vb L fb) (H : eS E) (d : Nat) : xsem xT E (d + 2) kJ0_length_8abf5 [.ref b] (w, n) = some (.inl (some (.int (nI L))), (w, n)) := by
  rw [eJ0_length_8abf5, QJ0_length_8abf5_0, gU_s h H, aN_s h H, gO_s h H, z_coder h H, cI_s, xsh0r]
theorem z_check (H : eS E) {σ : xH} {i m : Nat} (hi : i < m) (hm : m < 2 ^ 31) (d : Nat) : xsem xT E (d + 2) kJ0_checkIndex_df160 [.int (nI i), .int (nI m)] σ = some (.inl none, σ) := by
  rw [eJ0_checkIndex_df160, QJ0_checkIndex_df160_0, eJ3_checkIndex_8e157 (hv := H.2.2.2.2.1), QJ3_checkIndex_8e157_0, iLT_f (by omega) (by omega), iLT_t hi hm, QJ3_checkIndex_8e157_16]
  rfl
theorem z_charAt (h : isStr E w b vb L fb) (H : eS E) (hL : L < 2 ^ 31) {i c : Nat} (hi : i < L) (hc : c < 128) (he : fb i = nI c) (d : Nat) : xsem xT E (d + 4) kJ0_charAt_5068e [.ref b, .int (nI i)] (w, n) = some (.inl (some (.int (nI c))), (w, n)) := by
  obtain ⟨-, -, c1, c2⟩ := i8_nI c hc
  have hx : ∀ {ρ : Type} {k : Option ρ}, xiret [7] (nI c) k = k := by
    intro ρ k
    show (bif decide (narrow .char (.int (nI c)) = .int (nI c)) then k else none) = k
    rw [c2]
    rfl
  rw [eJ0_charAt_5068e, QJ0_charAt_5068e_0, gO_s h H, z_latin h H, cI_s, iEQ_f (by omega) (by omega) (by omega), gU_s h H, eJ1_charAt_3b067, QJ1_charAt_3b067_0, aN_s h H, z_check H hi hL, cV_s, aB_s h H hL hi, he, c1, hx, cI_s, hx]
end STR
