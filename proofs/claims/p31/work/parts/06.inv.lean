/-! What an answer of a step's arms tells of stack, locals, 'info'. -/
section INV
variable {ρ : Type} {z : ρ}
theorem iv_if {b : Bool} {k : Option ρ} (h : (bif b then k else none) = some z) : b = true ∧ k = some z := by
  cases b
  · cases h
  · exact ⟨rfl, h⟩
theorem iv_nz {b : Bool} {k : Option ρ} (h : nz b k = some z) : b = true ∧ k = some z := iv_if h
theorem iv_kkI {q : Option Value} {k : Int32 → Option ρ} (h : kkI q k = some z) : ∃ x, q = some (.int x) ∧ k x = some z := by
  unfold kkI at h
  split at h
  · exact ⟨_, rfl, h⟩
  · cases h
theorem iv_t1I {st : List Value} {k : Int32 → List Value → Option ρ} (h : t1I st k = some z) : ∃ x r, st = .int x :: r ∧ k x r = some z := by
  unfold t1I at h
  split at h
  · exact ⟨_, _, rfl, h⟩
  · cases h
theorem iv_t2I {st : List Value} {k : Int32 → Int32 → List Value → Option ρ} (h : t2I st k = some z) : ∃ x y r, st = .int y :: .int x :: r ∧ k x y r = some z := by
  unfold t2I at h
  split at h
  · exact ⟨_, _, _, rfl, h⟩
  · cases h
theorem iv_kkL {q : Option Value} {k : Int64 → Option ρ} (h : kkL q k = some z) : ∃ x, q = some (.long x) ∧ k x = some z := by
  unfold kkL at h
  split at h
  · exact ⟨_, rfl, h⟩
  · cases h
theorem iv_t1L {st : List Value} {k : Int64 → List Value → Option ρ} (h : t1L st k = some z) : ∃ x r, st = .long x :: r ∧ k x r = some z := by
  unfold t1L at h
  split at h
  · exact ⟨_, _, rfl, h⟩
  · cases h
theorem iv_t2L {st : List Value} {k : Int64 → Int64 → List Value → Option ρ} (h : t2L st k = some z) : ∃ x y r, st = .long y :: .long x :: r ∧ k x y r = some z := by
  unfold t2L at h
  split at h
  · exact ⟨_, _, _, rfl, h⟩
  · cases h
theorem iv_kkF {q : Option Value} {k : UInt32 → Option ρ} (h : kkF q k = some z) : ∃ x, q = some (.float x) ∧ k x = some z := by
  unfold kkF at h
  split at h
  · exact ⟨_, rfl, h⟩
  · cases h
theorem iv_t1F {st : List Value} {k : UInt32 → List Value → Option ρ} (h : t1F st k = some z) : ∃ x r, st = .float x :: r ∧ k x r = some z := by
  unfold t1F at h
  split at h
  · exact ⟨_, _, rfl, h⟩
  · cases h
theorem iv_t2F {st : List Value} {k : UInt32 → UInt32 → List Value → Option ρ} (h : t2F st k = some z) : ∃ x y r, st = .float y :: .float x :: r ∧ k x y r = some z := by
  unfold t2F at h
  split at h
  · exact ⟨_, _, _, rfl, h⟩
  · cases h
theorem iv_kkD {q : Option Value} {k : UInt64 → Option ρ} (h : kkD q k = some z) : ∃ x, q = some (.double x) ∧ k x = some z := by
  unfold kkD at h
  split at h
  · exact ⟨_, rfl, h⟩
  · cases h
theorem iv_t1D {st : List Value} {k : UInt64 → List Value → Option ρ} (h : t1D st k = some z) : ∃ x r, st = .double x :: r ∧ k x r = some z := by
  unfold t1D at h
  split at h
  · exact ⟨_, _, rfl, h⟩
  · cases h
theorem iv_t2D {st : List Value} {k : UInt64 → UInt64 → List Value → Option ρ} (h : t2D st k = some z) : ∃ x y r, st = .double y :: .double x :: r ∧ k x y r = some z := by
  unfold t2D at h
  split at h
  · exact ⟨_, _, _, rfl, h⟩
  · cases h
theorem iv_kkA {q : Option Value} {k : Nat → Option ρ} (h : kkA q k = some z) : ∃ x, q = some (.ref x) ∧ k x = some z := by
  unfold kkA at h
  split at h
  · exact ⟨_, rfl, h⟩
  · cases h
theorem iv_t1A {st : List Value} {k : Nat → List Value → Option ρ} (h : t1A st k = some z) : ∃ x r, st = .ref x :: r ∧ k x r = some z := by
  unfold t1A at h
  split at h
  · exact ⟨_, _, rfl, h⟩
  · cases h
theorem iv_t2A {st : List Value} {k : Nat → Nat → List Value → Option ρ} (h : t2A st k = some z) : ∃ x y r, st = .ref y :: .ref x :: r ∧ k x y r = some z := by
  unfold t2A at h
  split at h
  · exact ⟨_, _, _, rfl, h⟩
  · cases h
theorem iv_t3I {st : List Value} {k : Int32 → Int32 → Nat → List Value → Option ρ} (h : t3I st k = some z) : ∃ x i a r, st = .int x :: .int i :: .ref a :: r ∧ k x i a r = some z := by
  unfold t3I at h
  split at h
  · exact ⟨_, _, _, _, rfl, h⟩
  · cases h
theorem iv_t3L {st : List Value} {k : Int64 → Int32 → Nat → List Value → Option ρ} (h : t3L st k = some z) : ∃ x i a r, st = .long x :: .int i :: .ref a :: r ∧ k x i a r = some z := by
  unfold t3L at h
  split at h
  · exact ⟨_, _, _, _, rfl, h⟩
  · cases h
theorem iv_t3D {st : List Value} {k : UInt64 → Int32 → Nat → List Value → Option ρ} (h : t3D st k = some z) : ∃ x i a r, st = .double x :: .int i :: .ref a :: r ∧ k x i a r = some z := by
  unfold t3D at h
  split at h
  · exact ⟨_, _, _, _, rfl, h⟩
  · cases h
theorem iv_t3A {st : List Value} {k : Nat → Int32 → Nat → List Value → Option ρ} (h : t3A st k = some z) : ∃ x i a r, st = .ref x :: .int i :: .ref a :: r ∧ k x i a r = some z := by
  unfold t3A at h
  split at h
  · exact ⟨_, _, _, _, rfl, h⟩
  · cases h
theorem iv_t2X {st : List Value} {k : Int32 → Nat → List Value → Option ρ} (h : t2X st k = some z) : ∃ i a r, st = .int i :: .ref a :: r ∧ k i a r = some z := by
  unfold t2X at h
  split at h
  · exact ⟨_, _, _, rfl, h⟩
  · cases h
theorem iv_tV {st : List Value} {k : Value → List Value → Option ρ} (h : tV st k = some z) : ∃ v r, st = v :: r ∧ v.category = 1 ∧ k v r = some z := by
  unfold tV at h
  split at h
  · obtain ⟨h1, h2⟩ := iv_if h
    exact ⟨_, _, rfl, Nat.eq_of_beq_eq_true h1, h2⟩
  · cases h
theorem iv_tVA {st : List Value} {k : Value → Nat → List Value → Option ρ} (h : tVA st k = some z) : ∃ v a r, st = v :: .ref a :: r ∧ k v a r = some z := by
  unfold tVA at h
  split at h
  · exact ⟨_, _, _, rfl, h⟩
  · cases h
theorem iv_t0 {st : List Value} {k : Option ρ} (h : t0 st k = some z) : st = [] ∧ k = some z := by
  unfold t0 at h
  split at h
  · exact ⟨rfl, h⟩
  · cases h
theorem iv_i1 {info : List Nat} {k : Nat → Option ρ} (h : i1 info k = some z) : ∃ t, info = [t] ∧ k t = some z := by
  unfold i1 at h
  split at h
  · exact ⟨_, rfl, h⟩
  · cases h
theorem iv_iSw {info : List Nat} {k : Nat → Nat → List Nat → Option ρ} (h : iSw info k = some z) : ∃ d lo ts, info = d :: lo :: ts ∧ k d lo ts = some z := by
  unfold iSw at h
  split at h
  · exact ⟨_, _, _, rfl, h⟩
  · cases h
theorem iv_xsw {x : Int32} {d : Nat} {K : Nat → Option ρ} : ∀ (ts : List Nat) (lo : Nat), xsw x d K lo ts = some z → (∃ j t, ts[j]? = some t ∧ x = nI (lo + j) ∧ K t = some z) ∨ ((∀ j, j < ts.length → ¬ x = nI (lo + j)) ∧ K d = some z) := by
  intro ts
  induction ts with
  | nil => exact fun lo h => Or.inr ⟨fun j hj => absurd hj (Nat.not_lt_zero j), h⟩
  | cons t ts ih =>
    intro lo h
    unfold xsw at h
    split at h
    · next hx => exact Or.inl ⟨0, t, rfl, hx, h⟩
    · next hx =>
      rcases ih (lo + 1) h with ⟨j, t', h1, h2, h3⟩ | ⟨h1, h2⟩
      · exact Or.inl ⟨j + 1, t', by simpa using h1, by rw [h2]; congr 1; omega, h3⟩
      · refine Or.inr ⟨fun j hj => ?_, h2⟩
        cases j with
        | zero => exact hx
        | succ j =>
          have h3 := h1 j (by simpa using hj)
          rwa [show lo + 1 + j = lo + (j + 1) by omega] at h3
theorem iv_gV {σ : xH} {ci k a : Nat} {K : Value → Option ρ} (h : gV σ ci k a K = some z) : ∃ fs v, σ.1 a = some (.inr (ci, fs)) ∧ fs[k]? = some v ∧ K v = some z := by
  unfold gV at h
  split at h
  · next c fs he =>
    obtain ⟨h1, h2⟩ := iv_if h
    have hc := Nat.eq_of_beq_eq_true h1
    subst hc
    split at h2
    · next v hv => exact ⟨fs, v, he, hv, h2⟩
    · cases h2
  · cases h
theorem iv_gI {σ : xH} {ci k a : Nat} {K : Int32 → Option ρ} (h : gI σ ci k a K = some z) : ∃ fs x, σ.1 a = some (.inr (ci, fs)) ∧ fs[k]? = some (.int x) ∧ K x = some z := by
  obtain ⟨fs, v, h1, h2, h3⟩ := iv_gV h
  cases v <;> first | exact ⟨fs, _, h1, h2, h3⟩ | cases h3
theorem iv_gL {σ : xH} {ci k a : Nat} {K : Int64 → Option ρ} (h : gL σ ci k a K = some z) : ∃ fs x, σ.1 a = some (.inr (ci, fs)) ∧ fs[k]? = some (.long x) ∧ K x = some z := by
  obtain ⟨fs, v, h1, h2, h3⟩ := iv_gV h
  cases v <;> first | exact ⟨fs, _, h1, h2, h3⟩ | cases h3
theorem iv_gR {σ : xH} {ci k a : Nat} {K : Nat → Option ρ} (h : gR σ ci k a K = some z) : ∃ fs x, σ.1 a = some (.inr (ci, fs)) ∧ fs[k]? = some (.ref x) ∧ K x = some z := by
  obtain ⟨fs, v, h1, h2, h3⟩ := iv_gV h
  cases v <;> first | exact ⟨fs, _, h1, h2, h3⟩ | cases h3
theorem iv_gP {σ : xH} {ci k a : Nat} {v : Value} {K : xH → Option ρ} (h : gP σ ci k a v K = some z) : ∃ fs, σ.1 a = some (.inr (ci, fs)) ∧ k < fs.length ∧ K (xup σ.1 a (.inr (ci, fs.set k v)), σ.2) = some z := by
  unfold gP at h
  split at h
  · next c fs he =>
    obtain ⟨h1, h2⟩ := iv_if h
    rw [Bool.and_eq_true] at h1
    have hc := Nat.eq_of_beq_eq_true h1.1
    subst hc
    exact ⟨fs, he, Nat.le_of_ble_eq_true h1.2, h2⟩
  · cases h
/-- a field's read: the class, the place, what lies there, by the tag -/
theorem iv_xfld {σ : xH} {info : List Nat} {a : Nat} {k : Value → Option ρ} (h : xfld σ info a k = some z) : ∃ ci i t n fs v, info = [ci, i, t, n] ∧ σ.1 a = some (.inr (ci, fs)) ∧ fs[i]? = some v ∧ k v = some z := by
  unfold xfld at h
  split at h
  · obtain ⟨fs, x, h1, h2, h3⟩ := iv_gI h
    exact ⟨_, _, _, _, fs, _, rfl, h1, h2, h3⟩
  · obtain ⟨fs, x, h1, h2, h3⟩ := iv_gI h
    exact ⟨_, _, _, _, fs, _, rfl, h1, h2, h3⟩
  · obtain ⟨fs, x, h1, h2, h3⟩ := iv_gI h
    exact ⟨_, _, _, _, fs, _, rfl, h1, h2, h3⟩
  · obtain ⟨fs, x, h1, h2, h3⟩ := iv_gL h
    exact ⟨_, _, _, _, fs, _, rfl, h1, h2, h3⟩
  · obtain ⟨fs, x, h1, h2, h3⟩ := iv_gR h
    exact ⟨_, _, _, _, fs, _, rfl, h1, h2, h3⟩
  · cases h
/-- the type that a tag names, of what may be put there -/
def xfit (t : Nat) (v : Value) : Prop := (t = 0 ∧ ∃ x, v = .int x) ∨ (t = 5 ∧ ∃ x, v = .int x ∧ narrow .boolean (.int x) = .int x) ∨ (t = 1 ∧ ∃ x, v = .long x) ∨ (t = 2 ∧ ∃ x, v = .ref x) ∨ (t = 6 ∧ ∃ x, v = .int x ∧ narrow .byte (.int x) = .int x)
theorem iv_xput {σ : xH} {info : List Nat} {a : Nat} {v : Value} {k : xH → Option ρ} (h : xput σ info a v k = some z) : ∃ ci i t n fs, info = [ci, i, t, n] ∧ σ.1 a = some (.inr (ci, fs)) ∧ i < fs.length ∧ xfit t v ∧ k (xup σ.1 a (.inr (ci, fs.set i v)), σ.2) = some z := by
  unfold xput at h
  split at h
  · obtain ⟨fs, h1, h2, h3⟩ := iv_gP h
    exact ⟨_, _, _, _, fs, rfl, h1, h2, Or.inl ⟨rfl, _, rfl⟩, h3⟩
  · split at h
    · next hn =>
      obtain ⟨fs, h1, h2, h3⟩ := iv_gP h
      exact ⟨_, _, _, _, fs, rfl, h1, h2, Or.inr (Or.inl ⟨rfl, _, rfl, hn⟩), h3⟩
    · cases h
  · split at h
    · next hn =>
      obtain ⟨fs, h1, h2, h3⟩ := iv_gP h
      exact ⟨_, _, _, _, fs, rfl, h1, h2, Or.inr (Or.inr (Or.inr (Or.inr ⟨rfl, _, rfl, hn⟩))), h3⟩
    · cases h
  · obtain ⟨fs, h1, h2, h3⟩ := iv_gP h
    exact ⟨_, _, _, _, fs, rfl, h1, h2, Or.inr (Or.inr (Or.inl ⟨rfl, _, rfl⟩)), h3⟩
  · obtain ⟨fs, h1, h2, h3⟩ := iv_gP h
    exact ⟨_, _, _, _, fs, rfl, h1, h2, Or.inr (Or.inr (Or.inr (Or.inl ⟨rfl, _, rfl⟩))), h3⟩
  · cases h
theorem iv_gO {E : xEn} {σ : xH} {ci a : Nat} {K : Option ρ} (h : gO E σ ci a K = some z) : ((∃ fs, σ.1 a = some (.inr (ci, fs))) ∨ (ci = 99 ∧ ∃ i, xfind E.2.1 a xNS = some i) ∨ (ci = 99 ∧ ∃ fs, σ.1 a = some (.inr (11, fs)))) ∧ K = some z := by
  unfold gO at h
  split at h
  · next c fs he =>
    obtain ⟨h1, h2⟩ := iv_if h
    rw [Bool.or_eq_true, Bool.and_eq_true] at h1
    rcases h1 with h1 | h1
    · have hc := Nat.eq_of_beq_eq_true h1
      subst hc
      exact ⟨Or.inl ⟨_, he⟩, h2⟩
    · have hc := Nat.eq_of_beq_eq_true h1.2
      subst hc
      exact ⟨Or.inr (Or.inr ⟨Nat.eq_of_beq_eq_true h1.1, _, he⟩), h2⟩
  · obtain ⟨h1, h2⟩ := iv_if h
    rw [Bool.and_eq_true] at h1
    exact ⟨Or.inr (Or.inl ⟨Nat.eq_of_beq_eq_true h1.1, Option.isSome_iff_exists.mp h1.2⟩), h2⟩
  · cases h
theorem iv_xfind {f : Nat → Nat} {a i : Nat} : ∀ {n : Nat}, xfind f a n = some i → i < n ∧ f i = a := by
  intro n
  induction n with
  | zero => intro h; cases h
  | succ n ih =>
    intro h
    unfold xfind at h
    split at h
    · next j hj =>
      cases h
      obtain ⟨h1, h2⟩ := ih hj
      exact ⟨by omega, h2⟩
    · obtain ⟨h1, h2⟩ := iv_if h
      cases h2
      exact ⟨Nat.lt_succ_self _, Nat.eq_of_beq_eq_true h1⟩
theorem iv_xin {i : Int32} {n : Nat} (h : xin i n = true) : vp_in i n := by
  unfold xin at h
  unfold vp_in
  exact of_decide_eq_true h
theorem iv_aI {E : xEn} {σ : xH} {a : Nat} {i : Int32} {K : Int32 → Option ρ} (h : aI E σ a i K = some z) : (∃ n f, σ.1 a = some (.inl (0, n, .inl f)) ∧ vp_in i n ∧ K (f i.toNatClampNeg) = some z) ∨ (a = eSa E ∧ vp_in i (eSn E) ∧ K (eSf E i.toNatClampNeg) = some z) := by
  unfold aI at h
  split at h
  · next k n f he =>
    obtain ⟨h1, h2⟩ := iv_if h
    rw [Bool.and_eq_true] at h1
    have hc := Nat.eq_of_beq_eq_true h1.1
    subst hc
    exact Or.inl ⟨n, f, he, iv_xin h1.2, h2⟩
  · obtain ⟨h1, h2⟩ := iv_if h
    rw [Bool.and_eq_true] at h1
    exact Or.inr ⟨Nat.eq_of_beq_eq_true h1.1, iv_xin h1.2, h2⟩
  · cases h
theorem iv_aL {σ : xH} {a : Nat} {i : Int32} {K : Int64 → Option ρ} (h : aL σ a i K = some z) : ∃ n f, σ.1 a = some (.inl (2, n, .inr (.inl f))) ∧ vp_in i n ∧ K (f i.toNatClampNeg) = some z := by
  unfold aL at h
  split at h
  · next k n f he =>
    obtain ⟨h1, h2⟩ := iv_if h
    rw [Bool.and_eq_true] at h1
    have hc := Nat.eq_of_beq_eq_true h1.1
    subst hc
    exact ⟨n, f, he, iv_xin h1.2, h2⟩
  · cases h
theorem iv_aD {σ : xH} {a : Nat} {i : Int32} {K : UInt64 → Option ρ} (h : aD σ a i K = some z) : False := by cases h
theorem iv_aB {E : xEn} {σ : xH} {a : Nat} {i : Int32} {K : Int32 → Option ρ} (h : aB E σ a i K = some z) : (∃ n f, σ.1 a = some (.inl (1, n, .inl f)) ∧ vp_in i n ∧ K (f i.toNatClampNeg) = some z) ∨ (∃ j, xfind E.2.2.1 a xNS = some j ∧ vp_in i (xtx j).length ∧ K ((xtx j).getD i.toNatClampNeg 0) = some z) ∨
    (a = eD1 E ∧ vp_in i 100 ∧ K (nI (48 + i.toNatClampNeg % 10)) = some z) ∨ (a = eD2 E ∧ vp_in i 100 ∧ K (nI (48 + i.toNatClampNeg / 10)) = some z) := by
  unfold aB at h
  split at h
  · next k n f he =>
    obtain ⟨h1, h2⟩ := iv_if h
    rw [Bool.and_eq_true] at h1
    have hc := Nat.eq_of_beq_eq_true h1.1
    subst hc
    exact Or.inl ⟨n, f, he, iv_xin h1.2, h2⟩
  · split at h
    · next j hj =>
      obtain ⟨h1, h2⟩ := iv_if h
      exact Or.inr (Or.inl ⟨j, hj, iv_xin h1, h2⟩)
    · cases hb : Nat.beq a (eD1 E) && xin i 100
      · rw [hb] at h
        obtain ⟨h1, h2⟩ := iv_if h
        rw [Bool.and_eq_true] at h1
        exact Or.inr (Or.inr (Or.inr ⟨Nat.eq_of_beq_eq_true h1.1, iv_xin h1.2, h2⟩))
      · rw [hb] at h
        rw [Bool.and_eq_true] at hb
        exact Or.inr (Or.inr (Or.inl ⟨Nat.eq_of_beq_eq_true hb.1, iv_xin hb.2, h⟩))
  · cases h
theorem iv_aQ {E : xEn} {σ : xH} {a : Nat} {i : Int32} {K : Nat → Option ρ} (h : aQ E σ a i K = some z) : (∃ k n f b, σ.1 a = some (.inl (k, n, .inr (.inr (.inr (.inr f))))) ∧ (k = 4 ∨ k = 5 ∨ k = 6) ∧ vp_in i n ∧ f i.toNatClampNeg = some b ∧ K b = some z) ∨ (a = E.2.2.2.1 ∧ vp_in i 29 ∧ K (E.1 i.toNatClampNeg) = some z) := by
  unfold aQ at h
  split at h
  · next k n f he =>
    obtain ⟨h1, h2⟩ := iv_if h
    rw [Bool.and_eq_true, Bool.and_eq_true] at h1
    split at h2
    · next b hb =>
      have k1 := Nat.le_of_ble_eq_true h1.1
      have k2 := Nat.le_of_ble_eq_true h1.2.1
      exact Or.inl ⟨k, n, f, b, he, ((Nat.lt_or_ge k 5).elim (fun q => Or.inl (Nat.le_antisymm (Nat.le_of_lt_succ q) k1)) (fun q => (Nat.lt_or_ge k 6).elim (fun q2 => Or.inr (Or.inl (Nat.le_antisymm (Nat.le_of_lt_succ q2) q))) (fun q2 => Or.inr (Or.inr (Nat.le_antisymm k2 q2))))), iv_xin h1.2.2, hb, h2⟩
    · cases h2
  · obtain ⟨h1, h2⟩ := iv_if h
    rw [Bool.and_eq_true] at h1
    exact Or.inr ⟨Nat.eq_of_beq_eq_true h1.1, iv_xin h1.2, h2⟩
  · cases h
theorem iv_aN {E : xEn} {σ : xH} {a : Nat} {K : Int32 → Option ρ} (h : aN E σ a K = some z) : (∃ k n x, σ.1 a = some (.inl (k, n, x)) ∧ k ≤ 6 ∧ K (nI n) = some z) ∨ (a = E.2.2.2.1 ∧ K 29 = some z) ∨ (∃ j, xfind E.2.2.1 a xNS = some j ∧ K (nI (xtx j).length) = some z) ∨ (a = eDc E ∧ K (nI 0) = some z) ∨ (a = eSa E ∧ K (nI (eSn E)) = some z) := by
  unfold aN at h
  split at h
  · next k n x he =>
    obtain ⟨h1, h2⟩ := iv_if h
    exact Or.inl ⟨k, n, x, he, Nat.le_of_ble_eq_true h1, h2⟩
  · cases hb : Nat.beq a E.2.2.2.1
    · rw [hb] at h
      dsimp only [cond] at h
      split at h
      · next j hj => exact Or.inr (Or.inr (Or.inl ⟨j, hj, h⟩))
      · cases hb2 : Nat.beq a (eDc E)
        · rw [hb2] at h
          obtain ⟨h1, h2⟩ := iv_if h
          exact Or.inr (Or.inr (Or.inr (Or.inr ⟨Nat.eq_of_beq_eq_true h1, h2⟩)))
        · rw [hb2] at h
          exact Or.inr (Or.inr (Or.inr (Or.inl ⟨Nat.eq_of_beq_eq_true hb2, h⟩)))
    · rw [hb] at h
      exact Or.inr (Or.inl ⟨Nat.eq_of_beq_eq_true hb, h⟩)
  · cases h
theorem iv_sI {σ : xH} {a : Nat} {i : Int32} {x : Int32} {K : xH → Option ρ} (h : sI σ a i x K = some z) : ∃ n f, σ.1 a = some (.inl (0, n, .inl f)) ∧ vp_in i n ∧ K (xup σ.1 a (.inl (0, n, .inl (upd f i.toNatClampNeg x))), σ.2) = some z := by
  unfold sI at h
  split at h
  · next k n f he =>
    obtain ⟨h1, h2⟩ := iv_if h
    rw [Bool.and_eq_true] at h1
    have hc := Nat.eq_of_beq_eq_true h1.1
    subst hc
    exact ⟨n, f, he, iv_xin h1.2, h2⟩
  · cases h
theorem iv_sB {σ : xH} {a : Nat} {i : Int32} {x : Int32} {K : xH → Option ρ} (h : sB σ a i x K = some z) : ∃ n f, σ.1 a = some (.inl (1, n, .inl f)) ∧ vp_in i n ∧ K (xup σ.1 a (.inl (1, n, .inl (upd f i.toNatClampNeg (vp_nar .byte x)))), σ.2) = some z := by
  unfold sB at h
  split at h
  · next k n f he =>
    obtain ⟨h1, h2⟩ := iv_if h
    rw [Bool.and_eq_true] at h1
    have hc := Nat.eq_of_beq_eq_true h1.1
    subst hc
    exact ⟨n, f, he, iv_xin h1.2, h2⟩
  · cases h
theorem iv_sL {σ : xH} {a : Nat} {i : Int32} {x : Int64} {K : xH → Option ρ} (h : sL σ a i x K = some z) : ∃ n f, σ.1 a = some (.inl (2, n, .inr (.inl f))) ∧ vp_in i n ∧ K (xup σ.1 a (.inl (2, n, .inr (.inl (vp_updL f i.toNatClampNeg x)))), σ.2) = some z := by
  unfold sL at h
  split at h
  · next k n f he =>
    obtain ⟨h1, h2⟩ := iv_if h
    rw [Bool.and_eq_true] at h1
    have hc := Nat.eq_of_beq_eq_true h1.1
    subst hc
    exact ⟨n, f, he, iv_xin h1.2, h2⟩
  · cases h
theorem iv_sD {σ : xH} {a : Nat} {i : Int32} {x : UInt64} {K : xH → Option ρ} (h : sD σ a i x K = some z) : False := by cases h
theorem iv_sQ {E : xEn} {σ : xH} {a : Nat} {i : Int32} {b : Nat} {K : xH → Option ρ} (h : sQ E σ a i b K = some z) : ∃ k n f, σ.1 a = some (.inl (k, n, .inr (.inr (.inr (.inr f))))) ∧ vp_in i n ∧ ((k = 4 ∧ ∃ j, xfind E.1 b 29 = some j) ∨ (k = 5 ∧ ∃ fs, σ.1 b = some (.inr (2, fs))) ∨ (k = 6 ∧ ∃ fs, σ.1 b = some (.inr (9, fs)))) ∧ K (xup σ.1 a (.inl (k, n, .inr (.inr (.inr (.inr (va_up f i.toNatClampNeg (some b))))))), σ.2) = some z := by
  unfold sQ at h
  split at h
  · next k n f he =>
    obtain ⟨h1, h2⟩ := iv_if h
    rw [Bool.and_eq_true] at h1
    refine ⟨k, n, f, he, iv_xin h1.1, ?_, h2⟩
    have h3 := h1.2
    unfold xfits at h3
    cases h4 : Nat.beq k 4
    · rw [h4] at h3
      cases h5 : Nat.beq k 5
      · rw [h5] at h3
        cases h6 : Nat.beq k 6
        · rw [h6] at h3; cases h3
        · rw [h6] at h3
          dsimp only [cond] at h3
          split at h3
          · next c fs hb =>
            have hc := Nat.eq_of_beq_eq_true h3
            subst hc
            exact Or.inr (Or.inr ⟨Nat.eq_of_beq_eq_true h6, fs, hb⟩)
          · cases h3
      · rw [h5] at h3
        dsimp only [cond] at h3
        split at h3
        · next c fs hb =>
          have hc := Nat.eq_of_beq_eq_true h3
          subst hc
          exact Or.inr (Or.inl ⟨Nat.eq_of_beq_eq_true h5, fs, hb⟩)
        · cases h3
    · rw [h4] at h3
      exact Or.inl ⟨Nat.eq_of_beq_eq_true h4, Option.isSome_iff_exists.mp h3⟩
  · cases h
theorem iv_xcpr {i j n : Int32} {m m' : Nat} (h : xcpr i j n m m' = true) : 0 ≤ i.toInt ∧ 0 ≤ j.toInt ∧ 0 ≤ n.toInt ∧ i.toInt + n.toInt ≤ m ∧ j.toInt + n.toInt ≤ m' := of_decide_eq_true h
theorem iv_cpI {E : xEn} {σ : xH} {a b : Nat} {i j n : Int32} {K : xH → Option ρ} (h : cpI E σ a i b j n K = some z) : ∃ k m f m' g, σ.1 b = some (.inl (k, m', .inl g)) ∧ k ≤ 1 ∧ (σ.1 a = some (.inl (k, m, .inl f)) ∨ (k = 1 ∧ ∃ s, xfind E.2.2.1 a xNS = some s ∧ m = (xtx s).length ∧ f = fun q => (xtx s).getD q 0)) ∧ xcpr i j n m m' = true ∧ (k = 0 ∨ xbf f m = true) ∧ K (xup σ.1 b (.inl (k, m', .inl (va_cpy f g i.toNatClampNeg j.toNatClampNeg n.toNatClampNeg))), σ.2) = some z := by
  unfold cpI at h
  split at h
  · next k' m' g hg =>
    split at h
    · next k m f he =>
      obtain ⟨h1, h2⟩ := iv_if h
      simp only [Bool.and_eq_true] at h1
      obtain ⟨q1, q2, -, q4, q5⟩ := h1
      have e1 := Nat.eq_of_beq_eq_true q1
      subst e1
      rw [Bool.or_eq_true] at q5
      exact ⟨k, m, f, m', g, hg, Nat.le_of_ble_eq_true q2, Or.inl he, q4, q5.imp Nat.eq_of_beq_eq_true id, h2⟩
    · split at h
      · next s hs =>
        obtain ⟨h1, h2⟩ := iv_if h
        simp only [Bool.and_eq_true] at h1
        have e1 := Nat.eq_of_beq_eq_true h1.1
        subst e1
        exact ⟨1, _, _, m', g, hg, Nat.le_refl 1, Or.inr ⟨rfl, s, hs, rfl, rfl⟩, h1.2.1, Or.inr h1.2.2, h2⟩
      · cases h
    · cases h
  · cases h
theorem iv_xck {σ : xH} {ci a : Nat} {K : Option ρ} (h : xck σ ci a K = some z) : (∃ fs, σ.1 a = some (.inr (ci, fs))) ∧ K = some z := by
  unfold xck at h
  split at h
  · next c fs he =>
    obtain ⟨h1, h2⟩ := iv_if h
    have hc := Nat.eq_of_beq_eq_true h1
    subst hc
    exact ⟨⟨fs, he⟩, h2⟩
  · cases h
theorem iv_iK {E : xEn} {info : List Nat} {k : Value → Option ρ} (h : iK E info k = some z) : (∃ c, info = [0, c] ∧ k (.int (nI c)) = some z) ∨ (∃ c, info = [1, c] ∧ k (.int (- nI c)) = some z) ∨ ∃ i, info = [2, i] ∧ i < xNS ∧ k (.ref (E.2.1 i)) = some z := by
  unfold iK at h
  split at h
  · exact Or.inl ⟨_, rfl, h⟩
  · exact Or.inr (Or.inl ⟨_, rfl, h⟩)
  · obtain ⟨h1, h2⟩ := iv_if h
    exact Or.inr (Or.inr ⟨_, rfl, Nat.le_of_ble_eq_true h1, h2⟩)
  · cases h
theorem iv_iK2 {info : List Nat} {k : Int64 → Option ρ} (h : iK2 info k = some z) : (∃ c, info = [0, c] ∧ k (lN c) = some z) ∨ ∃ c, info = [1, c] ∧ k (- lN c) = some z := by
  unfold iK2 at h
  split at h
  · exact Or.inl ⟨_, rfl, h⟩
  · exact Or.inr ⟨_, rfl, h⟩
  · cases h
theorem iv_iD {info : List Nat} {k : UInt64 → Option ρ} (h : iD info k = some z) : info = [0] ∧ k FP.dconst0 = some z := by
  unfold iD at h
  split at h
  · exact ⟨rfl, h⟩
  · cases h
theorem iv_iF {info : List Nat} {k : UInt32 → Option ρ} (h : iF info k = some z) : (info = [0] ∧ k FP.fconst0 = some z) ∨ (info = [1] ∧ k FP.fconst1 = some z) := by
  unfold iF at h
  split at h
  · exact Or.inl ⟨rfl, h⟩
  · exact Or.inr ⟨rfl, h⟩
  · cases h
theorem iv_xgf {E : xEn} {σ : xH} {info : List Nat} {a : Nat} {k : Value → Option ρ} (h : xgf E σ info a k = some z) : (info = [77] ∧ ∃ i, xfind E.1 a 29 = some i ∧ k (.ref (E.2.1 (xtt i))) = some z) ∨ (info = [78] ∧ ((∃ i, xfind E.2.1 a xNS = some i ∧ k (.ref (E.2.2.1 i)) = some z) ∨ ∃ fs q, σ.1 a = some (.inr (11, fs)) ∧ fs[0]? = some (.ref q) ∧ k (.ref q) = some z)) ∨
    (info = [79] ∧ ((∃ i, xfind E.2.1 a xNS = some i ∧ k (.int (nI 0)) = some z) ∨ ∃ fs x, σ.1 a = some (.inr (11, fs)) ∧ fs[1]? = some (.int x) ∧ k (.int x) = some z)) ∨ xfld σ info a k = some z := by
  unfold xgf at h
  split at h
  · split at h
    · next i hi => exact Or.inl ⟨rfl, i, hi, h⟩
    · cases h
  · unfold gU at h
    split at h
    · split at h
      · next i hi => exact Or.inr (Or.inl ⟨rfl, Or.inl ⟨i, hi, h⟩⟩)
      · cases h
    · exact Or.inr (Or.inl ⟨rfl, Or.inr (iv_gR h)⟩)
  · unfold gC at h
    split at h
    · split at h
      · next i hi => exact Or.inr (Or.inr (Or.inl ⟨rfl, Or.inl ⟨i, hi, h⟩⟩))
      · cases h
    · exact Or.inr (Or.inr (Or.inl ⟨rfl, Or.inr (iv_gI h)⟩))
  · exact Or.inr (Or.inr (Or.inr h))
theorem iv_xgs {E : xEn} {info : List Nat} {k : Value → Option ρ} (h : xgs E info k = some z) : (∃ i, info = [0, i] ∧ i < 29 ∧ k (.ref (E.1 i)) = some z) ∨ (info = [1] ∧ k (.ref E.2.2.2.1) = some z) ∨ (info = [2] ∧ k (.int 1) = some z) ∨ (info = [3] ∧ k (eFm E) = some z) ∨ (info = [4] ∧ k (.ref (eD1 E)) = some z) ∨ (info = [5] ∧ k (.ref (eD2 E)) = some z) ∨ (info = [6] ∧ k (.ref (eDc E)) = some z) := by
  unfold xgs at h
  split at h
  · obtain ⟨h1, h2⟩ := iv_if h
    exact Or.inl ⟨_, rfl, Nat.le_of_ble_eq_true h1, h2⟩
  · exact Or.inr (Or.inl ⟨rfl, h⟩)
  · exact Or.inr (Or.inr (Or.inl ⟨rfl, h⟩))
  · exact Or.inr (Or.inr (Or.inr (Or.inl ⟨rfl, h⟩)))
  · exact Or.inr (Or.inr (Or.inr (Or.inr (Or.inl ⟨rfl, h⟩))))
  · exact Or.inr (Or.inr (Or.inr (Or.inr (Or.inr (Or.inl ⟨rfl, h⟩)))))
  · exact Or.inr (Or.inr (Or.inr (Or.inr (Or.inr (Or.inr ⟨rfl, h⟩)))))
  · cases h
theorem iv_xiret {info : List Nat} {x : Int32} {k : Option ρ} (h : xiret info x k = some z) : ∃ t, info = [t] ∧ (t = 0 ∨ narrow (xty t) (.int x) = .int x) ∧ k = some z := by
  unfold xiret at h
  split at h
  · exact ⟨0, rfl, Or.inl rfl, h⟩
  · obtain ⟨h1, h2⟩ := iv_if h
    exact ⟨_, rfl, Or.inr (of_decide_eq_true h1), h2⟩
  · cases h
end INV
