/-! RAW WORLDS: what the operations do at a cell that is known. -/
section RAW
variable {ρ : Type} {E : xEn} {w : Nat → Option va_E} {n a : Nat}
theorem gR_at {ci k v : Nat} {fs : List Value} (h : w a = some (.inr (ci, fs))) (hv : fs[k]? = some (.ref v)) {K : Nat → Option ρ} : gR (w, n) ci k a K = K v := by
  unfold gR gV
  dsimp only
  rw [h]
  dsimp only
  rw [Nat.beq_refl, cond_true, hv]
theorem gI_at {ci k : Nat} {v : Int32} {fs : List Value} (h : w a = some (.inr (ci, fs))) (hv : fs[k]? = some (.int v)) {K : Int32 → Option ρ} : gI (w, n) ci k a K = K v := by
  unfold gI gV
  dsimp only
  rw [h]
  dsimp only
  rw [Nat.beq_refl, cond_true, hv]
theorem gP_at {ci k : Nat} {v : Value} {fs : List Value} (h : w a = some (.inr (ci, fs))) (hk : Nat.blt k fs.length = true) {K : xH → Option ρ} : gP (w, n) ci k a v K = K (xup w a (.inr (ci, fs.set k v)), n) := by
  unfold gP
  dsimp only
  rw [h]
  dsimp only
  rw [Nat.beq_refl, hk]
  rfl
theorem gO_at {ci : Nat} {fs : List Value} (h : w a = some (.inr (ci, fs))) {K : Option ρ} : gO E (w, n) ci a K = K := by
  unfold gO
  dsimp only
  rw [h]
  dsimp only
  rw [Nat.beq_refl, Bool.true_or, cond_true]
theorem xck_at {ci : Nat} {fs : List Value} (h : w a = some (.inr (ci, fs))) {K : Option ρ} : xck (w, n) ci a K = K := by
  unfold xck
  dsimp only
  rw [h]
  dsimp only
  rw [Nat.beq_refl, cond_true]
theorem aN_at {k m : Nat} {y} (h : w a = some (.inl (k, m, y))) (hk : Nat.ble k 6 = true) {K : Int32 → Option ρ} : aN E (w, n) a K = K (nI m) := by
  unfold aN
  dsimp only
  rw [h]
  dsimp only
  rw [hk, cond_true]
theorem aI_at {m i : Nat} {f : Nat → Int32} (h : w a = some (.inl (0, m, .inl f))) (hi : i < m) (hm : m < 2 ^ 31) {K : Int32 → Option ρ} : aI E (w, n) a (nI i) K = K (f i) := by
  unfold aI
  dsimp only
  rw [h]
  dsimp only
  rw [Nat.beq_refl, xin_nI hi hm, nI_clamp (by omega)]
  rfl
theorem sI_at {m i : Nat} {v : Int32} {f : Nat → Int32} (h : w a = some (.inl (0, m, .inl f))) (hi : i < m) (hm : m < 2 ^ 31) {K : xH → Option ρ} : sI (w, n) a (nI i) v K = K (xup w a (.inl (0, m, .inl (upd f i v))), n) := by
  unfold sI
  dsimp only
  rw [h]
  dsimp only
  rw [Nat.beq_refl, xin_nI hi hm, nI_clamp (by omega)]
  rfl
theorem aB_at {m i : Nat} {f : Nat → Int32} (h : w a = some (.inl (1, m, .inl f))) (hi : i < m) (hm : m < 2 ^ 31) {K : Int32 → Option ρ} : aB E (w, n) a (nI i) K = K (f i) := by
  unfold aB
  dsimp only
  rw [h]
  dsimp only
  rw [Nat.beq_refl, xin_nI hi hm, nI_clamp (by omega)]
  rfl
theorem sB_at {m i : Nat} {v : Int32} {f : Nat → Int32} (h : w a = some (.inl (1, m, .inl f))) (hi : i < m) (hm : m < 2 ^ 31) {K : xH → Option ρ} : sB (w, n) a (nI i) v K = K (xup w a (.inl (1, m, .inl (upd f i (vp_nar .byte v)))), n) := by
  unfold sB
  dsimp only
  rw [h]
  dsimp only
  rw [Nat.beq_refl, xin_nI hi hm, nI_clamp (by omega)]
  rfl
theorem aL_at {m i : Nat} {f : Nat → Int64} (h : w a = some (.inl (2, m, .inr (.inl f)))) (hi : i < m) (hm : m < 2 ^ 31) {K : Int64 → Option ρ} : aL (w, n) a (nI i) K = K (f i) := by
  unfold aL
  dsimp only
  rw [h]
  dsimp only
  rw [Nat.beq_refl, xin_nI hi hm, nI_clamp (by omega)]
  rfl
theorem sL_at {m i : Nat} {v : Int64} {f : Nat → Int64} (h : w a = some (.inl (2, m, .inr (.inl f)))) (hi : i < m) (hm : m < 2 ^ 31) {K : xH → Option ρ} : sL (w, n) a (nI i) v K = K (xup w a (.inl (2, m, .inr (.inl (vp_updL f i v)))), n) := by
  unfold sL
  dsimp only
  rw [h]
  dsimp only
  rw [Nat.beq_refl, xin_nI hi hm, nI_clamp (by omega)]
  rfl
theorem aQ_at {m i b : Nat} {f : Nat → Option Nat} (h : w a = some (.inl (6, m, .inr (.inr (.inr (.inr f)))))) (hi : i < m) (hm : m < 2 ^ 31) (hb : f i = some b) {K : Nat → Option ρ} : aQ E (w, n) a (nI i) K = K b := by
  unfold aQ
  dsimp only
  rw [h]
  dsimp only
  rw [xin_nI hi hm, nI_clamp (by omega), hb]
  rfl
theorem sQ_at {m i b : Nat} {f : Nat → Option Nat} {fs : List Value} (h : w a = some (.inl (6, m, .inr (.inr (.inr (.inr f)))))) (hi : i < m) (hm : m < 2 ^ 31) (hb : w b = some (.inr (9, fs))) {K : xH → Option ρ} : sQ E (w, n) a (nI i) b K = K (xup w a (.inl (6, m, .inr (.inr (.inr (.inr (va_up f i (some b))))))), n) := by
  unfold sQ
  dsimp only
  rw [h]
  dsimp only
  rw [xin_nI hi hm, nI_clamp (by omega)]
  unfold xfits
  dsimp only
  rw [hb]
  rfl
theorem cpB_at {m m' b i j k : Nat} {f g : Nat → Int32} (h : w a = some (.inl (1, m, .inl f))) (hb : w b = some (.inl (1, m', .inl g))) (hab : a ≠ b) (h1 : i + k ≤ m) (h2 : j + k ≤ m') (hm : m < 2 ^ 31) (hm' : m' < 2 ^ 31) (hf : ∀ q, q < m → fits .byte (.int (f q)) = true) {K : xH → Option ρ} :
    cpI E (w, n) a (nI i) b (nI j) (nI k) K = K (xup w b (.inl (1, m', .inl (va_cpy f g i j k))), n) := by
  have hne : Nat.beq a b = false := Bool.eq_false_iff.2 (fun hb => hab (Nat.eq_of_beq_eq_true hb))
  have hp : xcpr (nI i) (nI j) (nI k) m m' = true := by
    unfold xcpr
    rw [nI_toInt (by omega), nI_toInt (by omega), nI_toInt (by omega)]
    exact decide_eq_true (by omega)
  have hx : xbf f m = true := decide_eq_true hf
  unfold cpI
  dsimp only
  rw [hb]
  dsimp only
  rw [h]
  dsimp only
  rw [hne, hp, hx, nI_clamp (by omega), nI_clamp (by omega), nI_clamp (by omega)]
  rfl
end RAW
theorem xsh0r (x : Int32) : x >>> (nI 0 &&& 31) = x := sb_shr0 x
theorem xsh0l (x : Int32) : x <<< (nI 0 &&& 31) = x := sb_shl0 x
theorem fit_nI {c : Nat} (h : c < 128) : fits .byte (.int (nI c)) = true := by
  have h4 : ((-128 : Int32)).toInt = -128 := by decide
  have h5 : ((127 : Int32)).toInt = 127 := by decide
  simp only [fits, Bool.and_eq_true, decide_eq_true_eq, Int32.le_iff_toInt_le, h4, h5, nI_toInt (show c < 2 ^ 31 by omega)]
  omega
theorem i8_nI : ∀ c, c < 128 → (nI c).toInt8.toInt32 = nI c ∧ vp_nar .byte (nI c) = nI c ∧ (((nI c) &&& nI 255).toUInt32 % 65536).toInt32 = nI c ∧ decide (narrow .char (.int (nI c)) = .int (nI c)) = true := by decide +kernel
