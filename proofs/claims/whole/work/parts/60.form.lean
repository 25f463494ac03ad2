/-! THE ODDS' EXPRESSION, read on both sides. -/
def fS (g : Nat → Nat) : Nat → Nat → Nat → Nat → Prop
  | 0, _, a, b => a = b
  | k + 1, i, a, b => (g (61 + 2 * i) ≤ 1 ∧ a < 11 ∧ (g (61 + 2 * i) = 0 → g (61 + 2 * i + 1) ≤ 9999) ∧ (g (61 + 2 * i) = 1 → g (61 + 2 * i + 1) ≤ 3) ∧ fS g k (i + 1) (a + 1) b) ∨ (2 ≤ g (61 + 2 * i) ∧ g (61 + 2 * i) ≤ 5 ∧ 2 ≤ a ∧ fS g k (i + 1) (a - 1) b)
theorem fS_ok {g : Nat → Nat} : ∀ k i a, fS g k i a 1 → fOk g k i a := by
  intro k
  induction k with
  | zero => exact fun i a h => h
  | succ k ih =>
    intro i a h
    rcases h with ⟨h1, h2, h3, h4, h5⟩ | ⟨h1, h2, h3, h4⟩
    · exact Or.inl ⟨h1, h2, h3, h4, ih _ _ h5⟩
    · exact Or.inr ⟨h1, h2, h3, ih _ _ h4⟩
theorem fS_app {g : Nat → Nat} {k2 b c : Nat} : ∀ k i a, fS g k i a b → fS g k2 (i + k) b c → fS g (k + k2) i a c := by
  intro k
  induction k with
  | zero =>
    intro i a h h2
    have h : a = b := h
    subst h
    rw [Nat.zero_add]
    exact h2
  | succ k ih =>
    intro i a h h2
    rw [show i + (k + 1) = i + 1 + k by omega] at h2
    rw [show k + 1 + k2 = (k + k2) + 1 by omega]
    rcases h with ⟨h1, h3, h4, h5, h6⟩ | ⟨h1, h3, h4, h5⟩
    · exact Or.inl ⟨h1, h3, h4, h5, ih _ _ h6 h2⟩
    · exact Or.inr ⟨h1, h3, h4, ih _ _ h5 h2⟩
theorem fS_cg {g g' : Nat → Nat} {b : Nat} : ∀ k i a, (∀ j, i ≤ j → j < i + k → g' (61 + 2 * j) = g (61 + 2 * j) ∧ g' (61 + 2 * j + 1) = g (61 + 2 * j + 1)) → fS g k i a b → fS g' k i a b := by
  intro k
  induction k with
  | zero => exact fun i a _ h => h
  | succ k ih =>
    intro i a hg h
    obtain ⟨e1, e2⟩ := hg i (by omega) (by omega)
    have ih := fun a => ih (i + 1) a (fun j h1 h2 => hg j (by omega) (by omega))
    show (g' (61 + 2 * i) ≤ 1 ∧ a < 11 ∧ (g' (61 + 2 * i) = 0 → g' (61 + 2 * i + 1) ≤ 9999) ∧ (g' (61 + 2 * i) = 1 → g' (61 + 2 * i + 1) ≤ 3) ∧ fS g' k (i + 1) (a + 1) b) ∨ (2 ≤ g' (61 + 2 * i) ∧ g' (61 + 2 * i) ≤ 5 ∧ 2 ≤ a ∧ fS g' k (i + 1) (a - 1) b)
    rw [e1, e2]
    rcases h with ⟨h1, h3, h4, h5, h6⟩ | ⟨h1, h3, h4, h5⟩
    · exact Or.inl ⟨h1, h3, h4, h5, ih _ h6⟩
    · exact Or.inr ⟨h1, h3, h4, ih _ h5⟩
/-- codes that were added, and what they do to the pile, from at most B on -/
def seg (B : Nat) (g g' : Nat → Nat) (a b : Nat) : Prop := ∃ k, g' 11 = g 11 + k ∧ (∀ i, i ≠ 11 → (i < 61 + 2 * g 11 ∨ 61 + 2 * g' 11 ≤ i) → g' i = g i) ∧ ∀ dp, dp ≤ B → fS g' k (g 11) (dp + a) (dp + b)
theorem seg_rf {B a : Nat} {g : Nat → Nat} : seg B g g a a := ⟨0, rfl, fun _ _ _ => rfl, fun _ _ => rfl⟩
theorem seg_tr {B a b c : Nat} {g g1 g2 : Nat → Nat} (h : seg B g g1 a b) (h' : seg B g1 g2 b c) : seg B g g2 a c := by
  obtain ⟨k, e, f, s⟩ := h
  obtain ⟨k', e', f', s'⟩ := h'
  refine ⟨k + k', by omega, fun i h1 h2 => (f' i h1 (by omega)).trans (f i h1 (by omega)), fun dp hd => ?_⟩
  refine fS_app k _ _ (fS_cg k _ _ (fun j h1 h2 => ⟨f' _ (by omega) (by omega), f' _ (by omega) (by omega)⟩) (s dp hd)) ?_
  rw [← e]
  exact s' dp hd
theorem seg_sh {B a b : Nat} {g g' : Nat → Nat} (h : seg (B + 1) g g' a b) : seg B g g' (a + 1) (b + 1) := by
  obtain ⟨k, e, f, s⟩ := h
  refine ⟨k, e, f, fun dp hd => ?_⟩
  have := s (dp + 1) (by omega)
  rw [show dp + (a + 1) = dp + 1 + a by omega, show dp + (b + 1) = dp + 1 + b by omega]
  exact this
theorem seg_lo {B B' a b : Nat} {g g' : Nat → Nat} (h : seg B g g' a b) (hB : B' ≤ B) : seg B' g g' a b := by
  obtain ⟨k, e, f, s⟩ := h
  exact ⟨k, e, f, fun dp hd => s dp (by omega)⟩
theorem gEm_11 {g : Nat → Nat} {op v : Nat} : gEm g op v 11 = g 11 + 1 := updN_s
theorem gEm_a {g : Nat → Nat} {op v : Nat} : gEm g op v (61 + 2 * g 11) = op := by
  unfold gEm
  rw [updN_n (by omega), updN_n (by omega), updN_s]
theorem gEm_b {g : Nat → Nat} {op v : Nat} : gEm g op v (61 + 2 * g 11 + 1) = v := by
  unfold gEm
  rw [updN_n (by omega), updN_s]
theorem gEm_o {g : Nat → Nat} {op v i : Nat} (h : i ≠ 11) (h2 : i ≠ 61 + 2 * g 11) (h3 : i ≠ 61 + 2 * g 11 + 1) : gEm g op v i = g i := by
  unfold gEm
  rw [updN_n h, updN_n h3, updN_n h2]
theorem seg_push {B : Nat} {g : Nat → Nat} {op v : Nat} (hB : B < 11) (h : op ≤ 1) (h0 : op = 0 → v ≤ 9999) (h1 : op = 1 → v ≤ 3) : seg B g (gEm g op v) 0 1 := by
  refine ⟨1, gEm_11, fun i a b => gEm_o a (by rw [gEm_11] at b; omega) (by rw [gEm_11] at b; omega), fun dp hd => Or.inl ?_⟩
  rw [gEm_a, gEm_b]
  exact ⟨h, by omega, h0, h1, rfl⟩
theorem seg_op {B : Nat} {g : Nat → Nat} {op v : Nat} (h : 2 ≤ op) (h0 : op ≤ 5) : seg B g (gEm g op v) 2 1 := by
  refine ⟨1, gEm_11, fun i a b => gEm_o a (by rw [gEm_11] at b; omega) (by rw [gEm_11] at b; omega), fun dp hd => Or.inr ?_⟩
  rw [gEm_a]
  exact ⟨h, h0, by omega, rfl⟩
/-- the class's expression so far -/
def fF (S : xSt) (g : Nat → Nat) : Prop := S.1 23 1 = nI (g 11) ∧ ∀ k, k < g 11 → S.2.1 24 k = pEnc (g (61 + 2 * k)) (g (61 + 2 * k + 1))
/-- both sides say of a failure the same -/
def xF (S M : xSt) : Prop := S.1 1 8 = M.1 0 11 ∧ S.1 1 9 = M.1 0 12
theorem xF_of {S M : xSt} {c : Int32} {p : Nat} (h : cX S c p) (h' : mX M c p) : xF S M := ⟨h.1.trans h'.1.symm, h.2.trans h'.2.symm⟩
def RF (S M : xSt) (tx : Nat → Nat) (L : Nat) (g : Nat → Nat) (p dep : Nat) : Prop := cQ S tx L p ∧ mQ M tx L p ∧ rd M g ∧ fF S g ∧ M.1 0 15 = nI dep
def frC (S S' : xSt) : Prop := (∀ j, j ≠ 1 → j ≠ 23 → S'.1 j = S.1 j) ∧ (∀ k, k < 7 ∨ 9 < k → S'.1 1 k = S.1 1 k) ∧ (∀ j, j ≠ 1 → j ≠ 24 → S'.2.1 j = S.2.1 j) ∧ S'.2.2 = S.2.2
def frF (M M' : xSt) : Prop := (∀ k, k < 10 ∨ 16 ≤ k → M'.1 0 k = M.1 0 k) ∧ (∀ j, j ≠ 2 → M'.2.1 j = M.2.1 j) ∧ M'.2.2 = M.2.2
theorem frC_rf {S : xSt} : frC S S := ⟨fun _ _ _ => rfl, fun _ _ => rfl, fun _ _ _ => rfl, rfl⟩
theorem frC_tr {S S1 S2 : xSt} (h : frC S S1) (h' : frC S1 S2) : frC S S2 := ⟨fun j a b => (h'.1 j a b).trans (h.1 j a b), fun j hj => (h'.2.1 j hj).trans (h.2.1 j hj), fun j a b => (h'.2.2.1 j a b).trans (h.2.2.1 j a b), h'.2.2.2.trans h.2.2.2⟩
theorem frC_I {S S' : xSt} (h : frI S S') : frC S S' := ⟨fun j a _ => h.1 j a, h.2.1, fun j a _ => h.2.2.1 j a, h.2.2.2⟩
theorem frF_rf {M : xSt} : frF M M := ⟨fun _ _ => rfl, fun _ _ => rfl, rfl⟩
theorem frF_tr {M M1 M2 : xSt} (h : frF M M1) (h' : frF M1 M2) : frF M M2 := ⟨fun j a => (h'.1 j a).trans (h.1 j a), fun j hj => (h'.2.1 j hj).trans (h.2.1 j hj), h'.2.2.trans h.2.2⟩
theorem frF_R {M M' : xSt} (h : frR M M') : frF M M' := ⟨fun k hk => h.1 k (by omega), fun j _ => by rw [h.2], by rw [h.2]⟩
theorem fF_I {S S' : xSt} {g : Nat → Nat} (F : fF S g) (h : frI S S') : fF S' g := ⟨(congrFun (h.1 23 (by omega)) 1).trans F.1, fun k hk => by rw [h.2.2.1 24 (by omega)]; exact F.2 k hk⟩
theorem rd_R {M M' : xSt} {g : Nat → Nat} (R : rd M g) (h : frR M M') : rd M' g := fun k hk => by rw [h.2]; exact R k hk
section FM
variable {E : xEn} {x y n m : Nat} {sh : Nat → Option xSh} {S M : xSt} {L : Nat} {tx : Nat → Nat}
/-- a piece is read on both sides alike -/
def oF (E : xEn) (x y n m : Nat) (sh : Nat → Option xSh) (tx : Nat → Nat) (L : Nat) (S M : xSt) (g : Nat → Nat) (p dep s B a b : Nat) (cr mr : Option xR) : Prop :=
  (∃ S' M' g' p', cr = some (.inl (some (.int (nI 1))), (wW E x sh S', n)) ∧ mr = some (.inl (some (.int (nI 1))), (wW E y shM M', m)) ∧ RF S' M' tx L g' p' dep ∧ frC S S' ∧ frF M M' ∧ g' 11 + s ≤ p' ∧ p ≤ p' ∧ seg B g g' a b) ∨
  (∃ S' M', cr = some (.inl (some (.int (nI 0))), (wW E x sh S', n)) ∧ mr = some (.inl (some (.int (nI 0))), (wW E y shM M', m)) ∧ xF S' M' ∧ frC S S' ∧ frF M M')
theorem oF_fr {S0 M0 : xSt} {g0 g : Nat → Nat} {p0 p dep s B a b c : Nat} {cr mr : Option xR} (f1 : frC S0 S) (f2 : frF M0 M) (hp : p0 ≤ p) (hs : seg B g0 g a b) (h : oF E x y n m sh tx L S M g p dep s B b c cr mr) : oF E x y n m sh tx L S0 M0 g0 p0 dep s B a c cr mr := by
  rcases h with ⟨S', M', g', p', e1, e2, e3, e4, e5, e6, e7, e8⟩ | ⟨S', M', e1, e2, e3, e4, e5⟩
  · exact Or.inl ⟨S', M', g', p', e1, e2, e3, frC_tr f1 e4, frF_tr f2 e5, e6, by omega, seg_tr hs e8⟩
  · exact Or.inr ⟨S', M', e1, e2, e3, frC_tr f1 e4, frF_tr f2 e5⟩
/-- a part of the expression is put on both sides -/
theorem j_put (hF : sh 23 = some (sh1 23)) (hP : sh 24 = some (1, 500, [])) {g : Nat → Nat} {p dep : Nat} (R : RF S M tx L g p dep) (h11 : g 11 < 500) (op v : Nat) {w : Int32} (hw : w = pEnc op v) (d u : Nat) :
    ∃ S' M', xsem xT E (d + 1) kX1_put [.ref (x + 23), .int w] (wW E x sh S, n) = some (.inl none, (wW E x sh S', n)) ∧ xsem xT E (u + 1) kX11_emits [.ref y, .int (nI op), .int (nI v)] (wW E y shM M, m) = some (.inl none, (wW E y shM M', m)) ∧ RF S' M' tx L (gEm g op v) p dep ∧ frC S S' ∧ frF M M' := by
  obtain ⟨Q, K, R, F, hd⟩ := R
  obtain ⟨f, e1, e2⟩ := t_emits (E := E) (x := y) (n := m) R h11 op v u
  refine ⟨_, _, s1_put hF hP F.1 h11 w d, e1, ⟨?_, mQ_A K (by omega), ?_, ⟨?_, fun k hk => ?_⟩, hd⟩, ?_, ?_⟩
  · exact cQ_fr Q (by funext k; rw [sS_nq (by omega)]; rfl) (by rw [sS_a, sA_n (by omega)]) (by rw [sS_a, sA_n (by omega)]) rfl
  · intro k hk
    rw [sA_s]
    exact e2 k hk
  · rw [sS_s, gEm_11]
  · rw [gEm_11] at hk
    rw [sS_a, sA_s]
    by_cases e : k = g 11
    · rw [e, pk_us, gEm_a, gEm_b, hw]
    · rw [pk_un e, gEm_o (by omega) (by omega) (by omega), gEm_o (by omega) (by omega) (by omega)]
      exact F.2 k (by omega)
  · refine ⟨fun j a b => ?_, fun k _ => ?_, fun j a b => ?_, rfl⟩
    · funext k
      rw [sS_nq b]
      rfl
    · rw [sS_nq (by omega)]
      rfl
    · rw [sS_a, sA_n b]
  · exact ⟨fun _ _ => rfl, fun j hj => sA_n hj, rfl⟩
end FM
