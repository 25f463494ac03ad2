/-! WORLDS BY SHAPES: cell x + q has a shape; what may change is a state: ints of objects, rows of ints (and bytes), longs of objects, rows of longs, rows of tokens. Written by wip/whole/genfw.py. -/
abbrev xSh : Type := Nat × Nat × List (Nat × Nat)
abbrev xSt : Type := (Nat → Nat → Int32) × (Nat → Nat → Int32) × (Nat → Nat → Int64) × (Nat → Nat → Int64) × (Nat → Nat → Option Nat)
def fw (x : Nat) (S : xSt) (q k : Nat) (f : Nat × Nat) : Value := match f with
  | (0, _) => .int (S.1 q k)
  | (1, r) => .ref (x + r)
  | (3, _) => .null
  | _ => .long (S.2.2.1 q k)
def fws (x : Nat) (S : xSt) (q : Nat) : Nat → List (Nat × Nat) → List Value
  | _, [] => []
  | k, f :: fs => fw x S q k f :: fws x S q (k + 1) fs
def cw (E : xEn) (x : Nat) (S : xSt) (q : Nat) (h : xSh) : va_E := match h with
  | (0, ci, fl) => .inr (ci, fws x S q 0 fl)
  | (1, n, _) => .inl (0, n, .inl (S.2.1 q))
  | (2, n, _) => .inl (1, n, .inl (S.2.1 q))
  | (3, n, _) => .inl (2, n, .inr (.inl (S.2.2.2.1 q)))
  | (4, n, _) => .inl (4, n, .inr (.inr (.inr (.inr fun i => (S.2.2.2.2 q i).map E.1))))
  | (_, n, fl) => .inl (5, n, .inr (.inr (.inr (.inr fun i => (fl[i]?).map fun f => x + f.2))))
/-- the class's cells from x on, by their shapes; what is elsewhere is z's -/
def wW (E : xEn) (z : Nat → Option va_E) (x : Nat) (sh : Nat → Option xSh) (S : xSt) : Nat → Option va_E := fun a => bif Nat.ble x a then (match sh (a - x) with
  | some h => some (cw E x S (a - x) h)
  | none => z a) else z a
def sS (S : xSt) (q k : Nat) (v : Int32) : xSt := (fun q' k' => if q' = q ∧ k' = k then v else S.1 q' k', S.2)
def sA (S : xSt) (q : Nat) (f : Nat → Int32) : xSt := (S.1, fun q' => if q' = q then f else S.2.1 q', S.2.2)
def sJ (S : xSt) (q k : Nat) (v : Int64) : xSt := (S.1, S.2.1, fun q' k' => if q' = q ∧ k' = k then v else S.2.2.1 q' k', S.2.2.2)
def sG (S : xSt) (q : Nat) (f : Nat → Int64) : xSt := (S.1, S.2.1, S.2.2.1, fun q' => if q' = q then f else S.2.2.2.1 q', S.2.2.2.2)
def sT (S : xSt) (q : Nat) (f : Nat → Option Nat) : xSt := (S.1, S.2.1, S.2.2.1, S.2.2.2.1, fun q' => if q' = q then f else S.2.2.2.2 q')
section FW
variable {ρ : Type} {E : xEn} {z : Nat → Option va_E} {x : Nat} {sh : Nat → Option xSh} {S : xSt} {n q : Nat}
theorem wW_at {h : xSh} (hq : sh q = some h) : wW E z x sh S (x + q) = some (cw E x S q h) := by
  unfold wW
  rw [show Nat.ble x (x + q) = true from Nat.ble_eq.mpr (Nat.le_add_right _ _), Nat.add_sub_cancel_left, hq]
  rfl
theorem fws_congr {S' : xSt} (h1 : ∀ k, S'.1 q k = S.1 q k) (h2 : ∀ k, S'.2.2.1 q k = S.2.2.1 q k) : ∀ (fl : List (Nat × Nat)) (k : Nat), fws x S' q k fl = fws x S q k fl := by
  intro fl
  induction fl with
  | nil => exact fun _ => rfl
  | cons f fl ih =>
    intro k
    unfold fws
    rw [ih (k + 1)]
    congr 1
    unfold fw
    split
    · rw [h1]
    · rfl
    · rfl
    · rw [h2]
theorem cw_congr {S' : xSt} {h : xSh} (h1 : ∀ k, S'.1 q k = S.1 q k) (h2 : S'.2.1 q = S.2.1 q) (h3 : ∀ k, S'.2.2.1 q k = S.2.2.1 q k) (h4 : S'.2.2.2.1 q = S.2.2.2.1 q) (h5 : S'.2.2.2.2 q = S.2.2.2.2 q) : cw E x S' q h = cw E x S q h := by
  unfold cw
  split
  · rw [fws_congr h1 h3]
  · rw [h2]
  · rw [h2]
  · rw [h4]
  · rw [h5]
  · rfl
theorem wW_up {S' : xSt} {h : xSh} (hq : sh q = some h) {e : va_E} (he : cw E x S' q h = e) (hS : ∀ q', q' ≠ q → (∀ k, S'.1 q' k = S.1 q' k) ∧ S'.2.1 q' = S.2.1 q' ∧ (∀ k, S'.2.2.1 q' k = S.2.2.1 q' k) ∧ S'.2.2.2.1 q' = S.2.2.2.1 q' ∧ S'.2.2.2.2 q' = S.2.2.2.2 q') : xup (wW E z x sh S) (x + q) e = wW E z x sh S' := by
  funext a
  unfold xup
  cases hb : Nat.beq a (x + q)
  · rw [cond_false]
    have hne : a ≠ x + q := Nat.ne_of_beq_eq_false hb
    unfold wW
    cases hx : Nat.ble x a
    · rfl
    · rw [cond_true, cond_true]
      have hle := Nat.le_of_ble_eq_true hx
      have hq' : a - x ≠ q := by omega
      obtain ⟨g1, g2, g3, g4, g5⟩ := hS _ hq'
      cases hs : sh (a - x)
      · rfl
      · exact congrArg some (cw_congr (q := a - x) g1 g2 g3 g4 g5).symm
  · rw [cond_true, Nat.eq_of_beq_eq_true hb, wW_at hq, he]
theorem wW_sS {k : Nat} {v : Int32} {h : xSh} (hq : sh q = some h) : xup (wW E z x sh S) (x + q) (cw E x (sS S q k v) q h) = wW E z x sh (sS S q k v) :=
  wW_up hq rfl (fun q' hq' => ⟨fun k' => if_neg (fun c => hq' c.1), rfl, fun _ => rfl, rfl, rfl⟩)
theorem wW_sA {f : Nat → Int32} {h : xSh} (hq : sh q = some h) : xup (wW E z x sh S) (x + q) (cw E x (sA S q f) q h) = wW E z x sh (sA S q f) :=
  wW_up hq rfl (fun q' hq' => ⟨fun _ => rfl, if_neg hq', fun _ => rfl, rfl, rfl⟩)
theorem wW_sJ {k : Nat} {v : Int64} {h : xSh} (hq : sh q = some h) : xup (wW E z x sh S) (x + q) (cw E x (sJ S q k v) q h) = wW E z x sh (sJ S q k v) :=
  wW_up hq rfl (fun q' hq' => ⟨fun _ => rfl, rfl, fun k' => if_neg (fun c => hq' c.1), rfl, rfl⟩)
theorem wW_sG {f : Nat → Int64} {h : xSh} (hq : sh q = some h) : xup (wW E z x sh S) (x + q) (cw E x (sG S q f) q h) = wW E z x sh (sG S q f) :=
  wW_up hq rfl (fun q' hq' => ⟨fun _ => rfl, rfl, fun _ => rfl, if_neg hq', rfl⟩)
theorem wW_sT {f : Nat → Option Nat} {h : xSh} (hq : sh q = some h) : xup (wW E z x sh S) (x + q) (cw E x (sT S q f) q h) = wW E z x sh (sT S q f) :=
  wW_up hq rfl (fun q' hq' => ⟨fun _ => rfl, rfl, fun _ => rfl, rfl, if_neg hq'⟩)
theorem wW_at0 {h : xSh} (hq : sh 0 = some h) : wW E z x sh S x = some (cw E x S 0 h) := wW_at (q := 0) hq
theorem wW_sS0 {k : Nat} {v : Int32} {h : xSh} (hq : sh 0 = some h) : xup (wW E z x sh S) x (cw E x (sS S 0 k v) 0 h) = wW E z x sh (sS S 0 k v) := wW_sS (q := 0) hq
theorem wW_sJ0 {k : Nat} {v : Int64} {h : xSh} (hq : sh 0 = some h) : xup (wW E z x sh S) x (cw E x (sJ S 0 k v) 0 h) = wW E z x sh (sJ S 0 k v) := wW_sJ (q := 0) hq
theorem xin_nI {i N : Nat} (hi : i < N) (hN : N < 2 ^ 31) : xin (nI i) N = true := decide_eq_true (nI_in hi hN)
theorem sA_s (f : Nat → Int32) : (sA S q f).2.1 q = f := if_pos rfl
theorem sG_s (f : Nat → Int64) : (sG S q f).2.2.2.1 q = f := if_pos rfl
theorem sT_s (f : Nat → Option Nat) : (sT S q f).2.2.2.2 q = f := if_pos rfl
-- rows of ints, bytes, longs, tokens
theorem aI_w {N i : Nat} {l : List (Nat × Nat)} (hq : sh q = some (1, N, l)) (hi : i < N) (hN : N < 2 ^ 31) {K : Int32 → Option ρ} : aI E (wW E z x sh S, n) (x + q) (nI i) K = K (S.2.1 q i) := by
  have hc : (nI i).toNatClampNeg = i := nI_clamp (Nat.lt_trans hi hN)
  simp [aI, wW_at hq, cw, xin_nI hi hN, hc]
theorem sI_w {N i : Nat} {l : List (Nat × Nat)} (hq : sh q = some (1, N, l)) (hi : i < N) (hN : N < 2 ^ 31) {v : Int32} {K : xH → Option ρ} : sI (wW E z x sh S, n) (x + q) (nI i) v K = K (wW E z x sh (sA S q (upd (S.2.1 q) i v)), n) := by
  have hc : (nI i).toNatClampNeg = i := nI_clamp (Nat.lt_trans hi hN)
  rw [← wW_sA hq]
  simp [sI, wW_at hq, cw, xin_nI hi hN, hc, sA_s]
theorem aB_w {N i : Nat} {l : List (Nat × Nat)} (hq : sh q = some (2, N, l)) (hi : i < N) (hN : N < 2 ^ 31) {K : Int32 → Option ρ} : aB E (wW E z x sh S, n) (x + q) (nI i) K = K (S.2.1 q i) := by
  have hc : (nI i).toNatClampNeg = i := nI_clamp (Nat.lt_trans hi hN)
  simp [aB, wW_at hq, cw, xin_nI hi hN, hc]
theorem aBs_w {N i : Nat} {l : List (Nat × Nat)} (hq : sh q = some (2, N, l)) (hi : i < N) (hN : N < 2 ^ 31) {v : Int32} {K : xH → Option ρ} : sB (wW E z x sh S, n) (x + q) (nI i) v K = K (wW E z x sh (sA S q (upd (S.2.1 q) i (vp_nar .byte v))), n) := by
  have hc : (nI i).toNatClampNeg = i := nI_clamp (Nat.lt_trans hi hN)
  rw [← wW_sA hq]
  simp [sB, wW_at hq, cw, xin_nI hi hN, hc, sA_s]
theorem aL_w {N i : Nat} {l : List (Nat × Nat)} (hq : sh q = some (3, N, l)) (hi : i < N) (hN : N < 2 ^ 31) {K : Int64 → Option ρ} : aL (wW E z x sh S, n) (x + q) (nI i) K = K (S.2.2.2.1 q i) := by
  have hc : (nI i).toNatClampNeg = i := nI_clamp (Nat.lt_trans hi hN)
  simp [aL, wW_at hq, cw, xin_nI hi hN, hc]
theorem sL_w {N i : Nat} {l : List (Nat × Nat)} (hq : sh q = some (3, N, l)) (hi : i < N) (hN : N < 2 ^ 31) {v : Int64} {K : xH → Option ρ} : sL (wW E z x sh S, n) (x + q) (nI i) v K = K (wW E z x sh (sG S q (vp_updL (S.2.2.2.1 q) i v)), n) := by
  have hc : (nI i).toNatClampNeg = i := nI_clamp (Nat.lt_trans hi hN)
  rw [← wW_sG hq]
  simp [sL, wW_at hq, cw, xin_nI hi hN, hc, sG_s]
theorem aQ_w {N i t : Nat} {l : List (Nat × Nat)} (hq : sh q = some (4, N, l)) (hi : i < N) (hN : N < 2 ^ 31) (ht : S.2.2.2.2 q i = some t) {K : Nat → Option ρ} : aQ E (wW E z x sh S, n) (x + q) (nI i) K = K (E.1 t) := by
  have hc : (nI i).toNatClampNeg = i := nI_clamp (Nat.lt_trans hi hN)
  simp [aQ, wW_at hq, cw, xin_nI hi hN, hc, ht]
  rfl
theorem aQ_wG {N i r : Nat} {l : List (Nat × Nat)} (hq : sh q = some (5, N, l)) (hi : i < N) (hN : N < 2 ^ 31) (ht : (l[i]?).map Prod.snd = some r) {K : Nat → Option ρ} : aQ E (wW E z x sh S, n) (x + q) (nI i) K = K (x + r) := by
  have hc : (nI i).toNatClampNeg = i := nI_clamp (Nat.lt_trans hi hN)
  obtain ⟨f, hf, rfl⟩ := Option.map_eq_some_iff.1 ht
  simp [aQ, wW_at hq, cw, xin_nI hi hN, hc, hf]
  rfl
theorem xfind_some {f : Nat → Nat} {a t : Nat} : ∀ {m : Nat}, t < m → f t = a → (xfind f a m).isSome = true := by
  intro m
  induction m with
  | zero => exact fun h => absurd h (Nat.not_lt_zero _)
  | succ m ih =>
    intro h he
    unfold xfind
    cases hx : xfind f a m with
    | some i => rfl
    | none =>
      rcases Nat.lt_succ_iff_lt_or_eq.1 h with h | h
      · rw [hx] at ih
        exact absurd (ih h he) (by decide)
      · subst h
        dsimp only
        rw [he, Nat.beq_refl]
        rfl
theorem sQ_w {N i t : Nat} {l : List (Nat × Nat)} (hq : sh q = some (4, N, l)) (hi : i < N) (hN : N < 2 ^ 31) (ht : t < 29) {K : xH → Option ρ} : sQ E (wW E z x sh S, n) (x + q) (nI i) (E.1 t) K = K (wW E z x sh (sT S q (fun j => if j = i then some t else S.2.2.2.2 q j)), n) := by
  have hc : (nI i).toNatClampNeg = i := nI_clamp (Nat.lt_trans hi hN)
  have hfit : xfits E (wW E z x sh S, n) 4 (E.1 t) = true := by
    show (xfind E.1 (E.1 t) 29).isSome = true
    exact xfind_some ht rfl
  have hup : va_up (fun i => (S.2.2.2.2 q i).map E.1) i (some (E.1 t)) = fun j => ((if j = i then some t else S.2.2.2.2 q j) : Option Nat).map E.1 := by
    funext j
    unfold va_up
    by_cases hj : j = i
    · simp [hj]
    · simp [hj]
  rw [← wW_sT hq]
  simp [sQ, wW_at hq, cw, xin_nI hi hN, hc, sT_s, hfit, hup]
theorem aN_w {k N : Nat} {l : List (Nat × Nat)} (hq : sh q = some (k + 1, N, l)) {K : Int32 → Option ρ} : aN E (wW E z x sh S, n) (x + q) K = K (nI N) := by
  match k with
  | 0 => simp [aN, wW_at hq, cw]; rfl
  | 1 => simp [aN, wW_at hq, cw]; rfl
  | 2 => simp [aN, wW_at hq, cw]; rfl
  | 3 => simp [aN, wW_at hq, cw]; rfl
  | k + 4 => simp [aN, wW_at hq, cw]; rfl
theorem gO_w {ci : Nat} {l : List (Nat × Nat)} (hq : sh q = some (0, ci, l)) {K : Option ρ} : gO E (wW E z x sh S, n) ci (x + q) K = K := by
  simp [gO, wW_at hq, cw]
theorem cpI_w {q' N N' i j m : Nat} {l l' : List (Nat × Nat)} (hq : sh q = some (1, N, l)) (hq' : sh q' = some (1, N', l')) (hne : q ≠ q') (h1 : i + m ≤ N) (h2 : j + m ≤ N') (hN : N < 2 ^ 31) (hN' : N' < 2 ^ 31) {K : xH → Option ρ} :
    cpI E (wW E z x sh S, n) (x + q) (nI i) (x + q') (nI j) (nI m) K = K (wW E z x sh (sA S q' (va_cpy (S.2.1 q) (S.2.1 q') i j m)), n) := by
  have h3 : (nI i).toNatClampNeg = i := nI_clamp (by omega)
  have h4 : (nI j).toNatClampNeg = j := nI_clamp (by omega)
  have h5 : (nI m).toNatClampNeg = m := nI_clamp (by omega)
  have g3 : (nI i).toInt = (i : Int) := nI_toInt (by omega)
  have g4 : (nI j).toInt = (j : Int) := nI_toInt (by omega)
  have g5 : (nI m).toInt = (m : Int) := nI_toInt (by omega)
  have hb : Nat.beq (x + q) (x + q') = false := Bool.eq_false_iff.2 (fun hb => absurd (Nat.eq_of_beq_eq_true hb) (by omega))
  have hd : xcpr (nI i) (nI j) (nI m) N N' = true := by
    unfold xcpr
    rw [g3, g4, g5]
    exact decide_eq_true (by omega)
  rw [← wW_sA hq']
  simp only [cpI, wW_at hq, wW_at hq', cw, hb, hd, h3, h4, h5, sA_s, Nat.beq_refl, Bool.not_false, Bool.and_self, Bool.true_or, cond_true, show Nat.ble 0 1 = true from rfl]
def sh0 (q : Nat) : xSh := (0, 0, [(1, q + 1), (1, q + 2), (0, 0)])
theorem gO_0 (h : sh q = some (sh0 q)) {K : Option ρ} : gO E (wW E z x sh S, n) 0 (x + q) K = K := gO_w h
theorem gR_0_0 (h : sh q = some (sh0 q)) {K : Nat → Option ρ} : gR (wW E z x sh S, n) 0 0 (x + q) K = K (x + (q + 1)) := by simp [gR, gV, wW_at h, cw, sh0, fws, fw]
theorem gR_0_1 (h : sh q = some (sh0 q)) {K : Nat → Option ρ} : gR (wW E z x sh S, n) 0 1 (x + q) K = K (x + (q + 2)) := by simp [gR, gV, wW_at h, cw, sh0, fws, fw]
theorem gI_0_2 (h : sh q = some (sh0 q)) {K : Int32 → Option ρ} : gI (wW E z x sh S, n) 0 2 (x + q) K = K (S.1 q 2) := by simp [gI, gV, wW_at h, cw, sh0, fws, fw]
theorem gP_0_2 (h : sh q = some (sh0 q)) {v : Int32} {K : xH → Option ρ} : gP (wW E z x sh S, n) 0 2 (x + q) (.int v) K = K (wW E z x sh (sS S q 2 v), n) := by
  rw [← wW_sS h]
  simp [gP, wW_at h, cw, sh0, fws, fw, sS]
  rfl
def sh1 (q : Nat) : xSh := (0, 1, [(1, q + 1), (0, 0), (1, q + 2)])
theorem gO_1 (h : sh q = some (sh1 q)) {K : Option ρ} : gO E (wW E z x sh S, n) 1 (x + q) K = K := gO_w h
theorem gR_1_0 (h : sh q = some (sh1 q)) {K : Nat → Option ρ} : gR (wW E z x sh S, n) 1 0 (x + q) K = K (x + (q + 1)) := by simp [gR, gV, wW_at h, cw, sh1, fws, fw]
theorem gI_1_1 (h : sh q = some (sh1 q)) {K : Int32 → Option ρ} : gI (wW E z x sh S, n) 1 1 (x + q) K = K (S.1 q 1) := by simp [gI, gV, wW_at h, cw, sh1, fws, fw]
theorem gP_1_1 (h : sh q = some (sh1 q)) {v : Int32} {K : xH → Option ρ} : gP (wW E z x sh S, n) 1 1 (x + q) (.int v) K = K (wW E z x sh (sS S q 1 v), n) := by
  rw [← wW_sS h]
  simp [gP, wW_at h, cw, sh1, fws, fw, sS]
  rfl
theorem gR_1_2 (h : sh q = some (sh1 q)) {K : Nat → Option ρ} : gR (wW E z x sh S, n) 1 2 (x + q) K = K (x + (q + 2)) := by simp [gR, gV, wW_at h, cw, sh1, fws, fw]
def sh2 (q : Nat) : xSh := (0, 2, [(1, q + 1), (1, q + 4), (1, q + 6), (1, q + 9), (0, 0), (0, 0), (0, 0), (0, 0), (0, 0)])
theorem gO_2 (h : sh q = some (sh2 q)) {K : Option ρ} : gO E (wW E z x sh S, n) 2 (x + q) K = K := gO_w h
theorem gR_2_0 (h : sh q = some (sh2 q)) {K : Nat → Option ρ} : gR (wW E z x sh S, n) 2 0 (x + q) K = K (x + (q + 1)) := by simp [gR, gV, wW_at h, cw, sh2, fws, fw]
theorem gR_2_1 (h : sh q = some (sh2 q)) {K : Nat → Option ρ} : gR (wW E z x sh S, n) 2 1 (x + q) K = K (x + (q + 4)) := by simp [gR, gV, wW_at h, cw, sh2, fws, fw]
theorem gR_2_2 (h : sh q = some (sh2 q)) {K : Nat → Option ρ} : gR (wW E z x sh S, n) 2 2 (x + q) K = K (x + (q + 6)) := by simp [gR, gV, wW_at h, cw, sh2, fws, fw]
theorem gR_2_3 (h : sh q = some (sh2 q)) {K : Nat → Option ρ} : gR (wW E z x sh S, n) 2 3 (x + q) K = K (x + (q + 9)) := by simp [gR, gV, wW_at h, cw, sh2, fws, fw]
theorem gI_2_4 (h : sh q = some (sh2 q)) {K : Int32 → Option ρ} : gI (wW E z x sh S, n) 2 4 (x + q) K = K (S.1 q 4) := by simp [gI, gV, wW_at h, cw, sh2, fws, fw]
theorem gP_2_4 (h : sh q = some (sh2 q)) {v : Int32} {K : xH → Option ρ} : gP (wW E z x sh S, n) 2 4 (x + q) (.int v) K = K (wW E z x sh (sS S q 4 v), n) := by
  rw [← wW_sS h]
  simp [gP, wW_at h, cw, sh2, fws, fw, sS]
  rfl
theorem gI_2_5 (h : sh q = some (sh2 q)) {K : Int32 → Option ρ} : gI (wW E z x sh S, n) 2 5 (x + q) K = K (S.1 q 5) := by simp [gI, gV, wW_at h, cw, sh2, fws, fw]
theorem gP_2_5 (h : sh q = some (sh2 q)) {v : Int32} {K : xH → Option ρ} : gP (wW E z x sh S, n) 2 5 (x + q) (.int v) K = K (wW E z x sh (sS S q 5 v), n) := by
  rw [← wW_sS h]
  simp [gP, wW_at h, cw, sh2, fws, fw, sS]
  rfl
theorem gI_2_6 (h : sh q = some (sh2 q)) {K : Int32 → Option ρ} : gI (wW E z x sh S, n) 2 6 (x + q) K = K (S.1 q 6) := by simp [gI, gV, wW_at h, cw, sh2, fws, fw]
theorem gP_2_6 (h : sh q = some (sh2 q)) {v : Int32} {K : xH → Option ρ} : gP (wW E z x sh S, n) 2 6 (x + q) (.int v) K = K (wW E z x sh (sS S q 6 v), n) := by
  rw [← wW_sS h]
  simp [gP, wW_at h, cw, sh2, fws, fw, sS]
  rfl
theorem gI_2_7 (h : sh q = some (sh2 q)) {K : Int32 → Option ρ} : gI (wW E z x sh S, n) 2 7 (x + q) K = K (S.1 q 7) := by simp [gI, gV, wW_at h, cw, sh2, fws, fw]
theorem gP_2_7 (h : sh q = some (sh2 q)) {v : Int32} {K : xH → Option ρ} : gP (wW E z x sh S, n) 2 7 (x + q) (.int v) K = K (wW E z x sh (sS S q 7 v), n) := by
  rw [← wW_sS h]
  simp [gP, wW_at h, cw, sh2, fws, fw, sS]
  rfl
theorem gI_2_8 (h : sh q = some (sh2 q)) {K : Int32 → Option ρ} : gI (wW E z x sh S, n) 2 8 (x + q) K = K (S.1 q 8) := by simp [gI, gV, wW_at h, cw, sh2, fws, fw]
theorem gP_2_8 (h : sh q = some (sh2 q)) {v : Int32} {K : xH → Option ρ} : gP (wW E z x sh S, n) 2 8 (x + q) (.int v) K = K (wW E z x sh (sS S q 8 v), n) := by
  rw [← wW_sS h]
  simp [gP, wW_at h, cw, sh2, fws, fw, sS]
  rfl
def sh3 (q : Nat) : xSh := (0, 3, [(1, q + 1), (0, 0), (0, 0), (1, q + 2), (1, q + 3), (1, q + 4), (0, 0), (0, 0), (0, 0), (0, 0)])
theorem gO_3 (h : sh q = some (sh3 q)) {K : Option ρ} : gO E (wW E z x sh S, n) 3 (x + q) K = K := gO_w h
theorem gR_3_0 (h : sh q = some (sh3 q)) {K : Nat → Option ρ} : gR (wW E z x sh S, n) 3 0 (x + q) K = K (x + (q + 1)) := by simp [gR, gV, wW_at h, cw, sh3, fws, fw]
theorem gI_3_1 (h : sh q = some (sh3 q)) {K : Int32 → Option ρ} : gI (wW E z x sh S, n) 3 1 (x + q) K = K (S.1 q 1) := by simp [gI, gV, wW_at h, cw, sh3, fws, fw]
theorem gP_3_1 (h : sh q = some (sh3 q)) {v : Int32} {K : xH → Option ρ} : gP (wW E z x sh S, n) 3 1 (x + q) (.int v) K = K (wW E z x sh (sS S q 1 v), n) := by
  rw [← wW_sS h]
  simp [gP, wW_at h, cw, sh3, fws, fw, sS]
  rfl
theorem gI_3_2 (h : sh q = some (sh3 q)) {K : Int32 → Option ρ} : gI (wW E z x sh S, n) 3 2 (x + q) K = K (S.1 q 2) := by simp [gI, gV, wW_at h, cw, sh3, fws, fw]
theorem gP_3_2 (h : sh q = some (sh3 q)) {v : Int32} {K : xH → Option ρ} : gP (wW E z x sh S, n) 3 2 (x + q) (.int v) K = K (wW E z x sh (sS S q 2 v), n) := by
  rw [← wW_sS h]
  simp [gP, wW_at h, cw, sh3, fws, fw, sS]
  rfl
theorem gR_3_3 (h : sh q = some (sh3 q)) {K : Nat → Option ρ} : gR (wW E z x sh S, n) 3 3 (x + q) K = K (x + (q + 2)) := by simp [gR, gV, wW_at h, cw, sh3, fws, fw]
theorem gR_3_4 (h : sh q = some (sh3 q)) {K : Nat → Option ρ} : gR (wW E z x sh S, n) 3 4 (x + q) K = K (x + (q + 3)) := by simp [gR, gV, wW_at h, cw, sh3, fws, fw]
theorem gR_3_5 (h : sh q = some (sh3 q)) {K : Nat → Option ρ} : gR (wW E z x sh S, n) 3 5 (x + q) K = K (x + (q + 4)) := by simp [gR, gV, wW_at h, cw, sh3, fws, fw]
theorem gI_3_6 (h : sh q = some (sh3 q)) {K : Int32 → Option ρ} : gI (wW E z x sh S, n) 3 6 (x + q) K = K (S.1 q 6) := by simp [gI, gV, wW_at h, cw, sh3, fws, fw]
theorem gP_3_6 (h : sh q = some (sh3 q)) {v : Int32} {K : xH → Option ρ} : gP (wW E z x sh S, n) 3 6 (x + q) (.int v) K = K (wW E z x sh (sS S q 6 v), n) := by
  rw [← wW_sS h]
  simp [gP, wW_at h, cw, sh3, fws, fw, sS]
  rfl
theorem gI_3_7 (h : sh q = some (sh3 q)) {K : Int32 → Option ρ} : gI (wW E z x sh S, n) 3 7 (x + q) K = K (S.1 q 7) := by simp [gI, gV, wW_at h, cw, sh3, fws, fw]
theorem gP_3_7 (h : sh q = some (sh3 q)) {v : Int32} {K : xH → Option ρ} : gP (wW E z x sh S, n) 3 7 (x + q) (.int v) K = K (wW E z x sh (sS S q 7 v), n) := by
  rw [← wW_sS h]
  simp [gP, wW_at h, cw, sh3, fws, fw, sS]
  rfl
theorem gI_3_8 (h : sh q = some (sh3 q)) {K : Int32 → Option ρ} : gI (wW E z x sh S, n) 3 8 (x + q) K = K (S.1 q 8) := by simp [gI, gV, wW_at h, cw, sh3, fws, fw]
theorem gP_3_8 (h : sh q = some (sh3 q)) {v : Int32} {K : xH → Option ρ} : gP (wW E z x sh S, n) 3 8 (x + q) (.int v) K = K (wW E z x sh (sS S q 8 v), n) := by
  rw [← wW_sS h]
  simp [gP, wW_at h, cw, sh3, fws, fw, sS]
  rfl
theorem gI_3_9 (h : sh q = some (sh3 q)) {K : Int32 → Option ρ} : gI (wW E z x sh S, n) 3 9 (x + q) K = K (S.1 q 9) := by simp [gI, gV, wW_at h, cw, sh3, fws, fw]
theorem gP_3_9 (h : sh q = some (sh3 q)) {v : Int32} {K : xH → Option ρ} : gP (wW E z x sh S, n) 3 9 (x + q) (.int v) K = K (wW E z x sh (sS S q 9 v), n) := by
  rw [← wW_sS h]
  simp [gP, wW_at h, cw, sh3, fws, fw, sS]
  rfl
def sh4 (q : Nat) : xSh := (0, 4, [(1, q + 1), (0, 0), (0, 0), (0, 0), (0, 0)])
theorem gO_4 (h : sh q = some (sh4 q)) {K : Option ρ} : gO E (wW E z x sh S, n) 4 (x + q) K = K := gO_w h
theorem gR_4_0 (h : sh q = some (sh4 q)) {K : Nat → Option ρ} : gR (wW E z x sh S, n) 4 0 (x + q) K = K (x + (q + 1)) := by simp [gR, gV, wW_at h, cw, sh4, fws, fw]
theorem gI_4_1 (h : sh q = some (sh4 q)) {K : Int32 → Option ρ} : gI (wW E z x sh S, n) 4 1 (x + q) K = K (S.1 q 1) := by simp [gI, gV, wW_at h, cw, sh4, fws, fw]
theorem gP_4_1 (h : sh q = some (sh4 q)) {v : Int32} {K : xH → Option ρ} : gP (wW E z x sh S, n) 4 1 (x + q) (.int v) K = K (wW E z x sh (sS S q 1 v), n) := by
  rw [← wW_sS h]
  simp [gP, wW_at h, cw, sh4, fws, fw, sS]
  rfl
theorem gI_4_2 (h : sh q = some (sh4 q)) {K : Int32 → Option ρ} : gI (wW E z x sh S, n) 4 2 (x + q) K = K (S.1 q 2) := by simp [gI, gV, wW_at h, cw, sh4, fws, fw]
theorem gP_4_2 (h : sh q = some (sh4 q)) {v : Int32} {K : xH → Option ρ} : gP (wW E z x sh S, n) 4 2 (x + q) (.int v) K = K (wW E z x sh (sS S q 2 v), n) := by
  rw [← wW_sS h]
  simp [gP, wW_at h, cw, sh4, fws, fw, sS]
  rfl
theorem gI_4_3 (h : sh q = some (sh4 q)) {K : Int32 → Option ρ} : gI (wW E z x sh S, n) 4 3 (x + q) K = K (S.1 q 3) := by simp [gI, gV, wW_at h, cw, sh4, fws, fw]
theorem gP_4_3 (h : sh q = some (sh4 q)) {v : Int32} {K : xH → Option ρ} : gP (wW E z x sh S, n) 4 3 (x + q) (.int v) K = K (wW E z x sh (sS S q 3 v), n) := by
  rw [← wW_sS h]
  simp [gP, wW_at h, cw, sh4, fws, fw, sS]
  rfl
theorem gI_4_4 (h : sh q = some (sh4 q)) {K : Int32 → Option ρ} : gI (wW E z x sh S, n) 4 4 (x + q) K = K (S.1 q 4) := by simp [gI, gV, wW_at h, cw, sh4, fws, fw]
theorem gP_4_4 (h : sh q = some (sh4 q)) {v : Int32} {K : xH → Option ρ} : gP (wW E z x sh S, n) 4 4 (x + q) (.int v) K = K (wW E z x sh (sS S q 4 v), n) := by
  rw [← wW_sS h]
  simp [gP, wW_at h, cw, sh4, fws, fw, sS]
  rfl
def sh5 (q : Nat) : xSh := (0, 5, [(0, 0), (0, 0), (0, 0), (1, q + 1), (1, q + 2)])
theorem gO_5 (h : sh q = some (sh5 q)) {K : Option ρ} : gO E (wW E z x sh S, n) 5 (x + q) K = K := gO_w h
theorem gI_5_0 (h : sh q = some (sh5 q)) {K : Int32 → Option ρ} : gI (wW E z x sh S, n) 5 0 (x + q) K = K (S.1 q 0) := by simp [gI, gV, wW_at h, cw, sh5, fws, fw]
theorem gP_5_0 (h : sh q = some (sh5 q)) {v : Int32} {K : xH → Option ρ} : gP (wW E z x sh S, n) 5 0 (x + q) (.int v) K = K (wW E z x sh (sS S q 0 v), n) := by
  rw [← wW_sS h]
  simp [gP, wW_at h, cw, sh5, fws, fw, sS]
  rfl
theorem gI_5_1 (h : sh q = some (sh5 q)) {K : Int32 → Option ρ} : gI (wW E z x sh S, n) 5 1 (x + q) K = K (S.1 q 1) := by simp [gI, gV, wW_at h, cw, sh5, fws, fw]
theorem gP_5_1 (h : sh q = some (sh5 q)) {v : Int32} {K : xH → Option ρ} : gP (wW E z x sh S, n) 5 1 (x + q) (.int v) K = K (wW E z x sh (sS S q 1 v), n) := by
  rw [← wW_sS h]
  simp [gP, wW_at h, cw, sh5, fws, fw, sS]
  rfl
theorem gI_5_2 (h : sh q = some (sh5 q)) {K : Int32 → Option ρ} : gI (wW E z x sh S, n) 5 2 (x + q) K = K (S.1 q 2) := by simp [gI, gV, wW_at h, cw, sh5, fws, fw]
theorem gP_5_2 (h : sh q = some (sh5 q)) {v : Int32} {K : xH → Option ρ} : gP (wW E z x sh S, n) 5 2 (x + q) (.int v) K = K (wW E z x sh (sS S q 2 v), n) := by
  rw [← wW_sS h]
  simp [gP, wW_at h, cw, sh5, fws, fw, sS]
  rfl
theorem gR_5_3 (h : sh q = some (sh5 q)) {K : Nat → Option ρ} : gR (wW E z x sh S, n) 5 3 (x + q) K = K (x + (q + 1)) := by simp [gR, gV, wW_at h, cw, sh5, fws, fw]
theorem gR_5_4 (h : sh q = some (sh5 q)) {K : Nat → Option ρ} : gR (wW E z x sh S, n) 5 4 (x + q) K = K (x + (q + 2)) := by simp [gR, gV, wW_at h, cw, sh5, fws, fw]
def sh6 (q : Nat) : xSh := (0, 6, [(1, q + 1), (1, q + 2), (1, q + 3), (1, q + 4), (0, 0), (0, 0)])
theorem gO_6 (h : sh q = some (sh6 q)) {K : Option ρ} : gO E (wW E z x sh S, n) 6 (x + q) K = K := gO_w h
theorem gR_6_0 (h : sh q = some (sh6 q)) {K : Nat → Option ρ} : gR (wW E z x sh S, n) 6 0 (x + q) K = K (x + (q + 1)) := by simp [gR, gV, wW_at h, cw, sh6, fws, fw]
theorem gR_6_1 (h : sh q = some (sh6 q)) {K : Nat → Option ρ} : gR (wW E z x sh S, n) 6 1 (x + q) K = K (x + (q + 2)) := by simp [gR, gV, wW_at h, cw, sh6, fws, fw]
theorem gR_6_2 (h : sh q = some (sh6 q)) {K : Nat → Option ρ} : gR (wW E z x sh S, n) 6 2 (x + q) K = K (x + (q + 3)) := by simp [gR, gV, wW_at h, cw, sh6, fws, fw]
theorem gR_6_3 (h : sh q = some (sh6 q)) {K : Nat → Option ρ} : gR (wW E z x sh S, n) 6 3 (x + q) K = K (x + (q + 4)) := by simp [gR, gV, wW_at h, cw, sh6, fws, fw]
theorem gI_6_4 (h : sh q = some (sh6 q)) {K : Int32 → Option ρ} : gI (wW E z x sh S, n) 6 4 (x + q) K = K (S.1 q 4) := by simp [gI, gV, wW_at h, cw, sh6, fws, fw]
theorem gP_6_4 (h : sh q = some (sh6 q)) {v : Int32} {K : xH → Option ρ} : gP (wW E z x sh S, n) 6 4 (x + q) (.int v) K = K (wW E z x sh (sS S q 4 v), n) := by
  rw [← wW_sS h]
  simp [gP, wW_at h, cw, sh6, fws, fw, sS]
  rfl
theorem gI_6_5 (h : sh q = some (sh6 q)) {K : Int32 → Option ρ} : gI (wW E z x sh S, n) 6 5 (x + q) K = K (S.1 q 5) := by simp [gI, gV, wW_at h, cw, sh6, fws, fw]
theorem gP_6_5 (h : sh q = some (sh6 q)) {v : Int32} {K : xH → Option ρ} : gP (wW E z x sh S, n) 6 5 (x + q) (.int v) K = K (wW E z x sh (sS S q 5 v), n) := by
  rw [← wW_sS h]
  simp [gP, wW_at h, cw, sh6, fws, fw, sS]
  rfl
def sh7 (q : Nat) : xSh := (0, 7, [(1, q + 1), (0, 0), (0, 0), (0, 0), (0, 0), (0, 0)])
theorem gO_7 (h : sh q = some (sh7 q)) {K : Option ρ} : gO E (wW E z x sh S, n) 7 (x + q) K = K := gO_w h
theorem gR_7_0 (h : sh q = some (sh7 q)) {K : Nat → Option ρ} : gR (wW E z x sh S, n) 7 0 (x + q) K = K (x + (q + 1)) := by simp [gR, gV, wW_at h, cw, sh7, fws, fw]
theorem gI_7_1 (h : sh q = some (sh7 q)) {K : Int32 → Option ρ} : gI (wW E z x sh S, n) 7 1 (x + q) K = K (S.1 q 1) := by simp [gI, gV, wW_at h, cw, sh7, fws, fw]
theorem gP_7_1 (h : sh q = some (sh7 q)) {v : Int32} {K : xH → Option ρ} : gP (wW E z x sh S, n) 7 1 (x + q) (.int v) K = K (wW E z x sh (sS S q 1 v), n) := by
  rw [← wW_sS h]
  simp [gP, wW_at h, cw, sh7, fws, fw, sS]
  rfl
theorem gI_7_2 (h : sh q = some (sh7 q)) {K : Int32 → Option ρ} : gI (wW E z x sh S, n) 7 2 (x + q) K = K (S.1 q 2) := by simp [gI, gV, wW_at h, cw, sh7, fws, fw]
theorem gP_7_2 (h : sh q = some (sh7 q)) {v : Int32} {K : xH → Option ρ} : gP (wW E z x sh S, n) 7 2 (x + q) (.int v) K = K (wW E z x sh (sS S q 2 v), n) := by
  rw [← wW_sS h]
  simp [gP, wW_at h, cw, sh7, fws, fw, sS]
  rfl
theorem gI_7_3 (h : sh q = some (sh7 q)) {K : Int32 → Option ρ} : gI (wW E z x sh S, n) 7 3 (x + q) K = K (S.1 q 3) := by simp [gI, gV, wW_at h, cw, sh7, fws, fw]
theorem gP_7_3 (h : sh q = some (sh7 q)) {v : Int32} {K : xH → Option ρ} : gP (wW E z x sh S, n) 7 3 (x + q) (.int v) K = K (wW E z x sh (sS S q 3 v), n) := by
  rw [← wW_sS h]
  simp [gP, wW_at h, cw, sh7, fws, fw, sS]
  rfl
theorem gI_7_4 (h : sh q = some (sh7 q)) {K : Int32 → Option ρ} : gI (wW E z x sh S, n) 7 4 (x + q) K = K (S.1 q 4) := by simp [gI, gV, wW_at h, cw, sh7, fws, fw]
theorem gP_7_4 (h : sh q = some (sh7 q)) {v : Int32} {K : xH → Option ρ} : gP (wW E z x sh S, n) 7 4 (x + q) (.int v) K = K (wW E z x sh (sS S q 4 v), n) := by
  rw [← wW_sS h]
  simp [gP, wW_at h, cw, sh7, fws, fw, sS]
  rfl
theorem gI_7_5 (h : sh q = some (sh7 q)) {K : Int32 → Option ρ} : gI (wW E z x sh S, n) 7 5 (x + q) K = K (S.1 q 5) := by simp [gI, gV, wW_at h, cw, sh7, fws, fw]
theorem gP_7_5 (h : sh q = some (sh7 q)) {v : Int32} {K : xH → Option ρ} : gP (wW E z x sh S, n) 7 5 (x + q) (.int v) K = K (wW E z x sh (sS S q 5 v), n) := by
  rw [← wW_sS h]
  simp [gP, wW_at h, cw, sh7, fws, fw, sS]
  rfl
def sh8 : xSh := (0, 8, [(1, 1), (1, 6), (1, 11), (1, 14), (1, 26), (0, 0), (0, 0)])
theorem gO_8 (h : sh 0 = some sh8) {K : Option ρ} : gO E (wW E z x sh S, n) 8 x K = K := gO_w (q := 0) h
theorem gR_8_0 (h : sh 0 = some sh8) {K : Nat → Option ρ} : gR (wW E z x sh S, n) 8 0 x K = K (x + 1) := by simp [gR, gV, wW_at0 h, cw, sh8, fws, fw]
theorem gR_8_1 (h : sh 0 = some sh8) {K : Nat → Option ρ} : gR (wW E z x sh S, n) 8 1 x K = K (x + 6) := by simp [gR, gV, wW_at0 h, cw, sh8, fws, fw]
theorem gR_8_2 (h : sh 0 = some sh8) {K : Nat → Option ρ} : gR (wW E z x sh S, n) 8 2 x K = K (x + 11) := by simp [gR, gV, wW_at0 h, cw, sh8, fws, fw]
theorem gR_8_3 (h : sh 0 = some sh8) {K : Nat → Option ρ} : gR (wW E z x sh S, n) 8 3 x K = K (x + 14) := by simp [gR, gV, wW_at0 h, cw, sh8, fws, fw]
theorem gR_8_4 (h : sh 0 = some sh8) {K : Nat → Option ρ} : gR (wW E z x sh S, n) 8 4 x K = K (x + 26) := by simp [gR, gV, wW_at0 h, cw, sh8, fws, fw]
theorem gI_8_5 (h : sh 0 = some sh8) {K : Int32 → Option ρ} : gI (wW E z x sh S, n) 8 5 x K = K (S.1 0 5) := by simp [gI, gV, wW_at0 h, cw, sh8, fws, fw]
theorem gP_8_5 (h : sh 0 = some sh8) {v : Int32} {K : xH → Option ρ} : gP (wW E z x sh S, n) 8 5 x (.int v) K = K (wW E z x sh (sS S 0 5 v), n) := by
  rw [← wW_sS0 h]
  simp [gP, wW_at0 h, cw, sh8, fws, fw, sS]
  rfl
theorem gI_8_6 (h : sh 0 = some sh8) {K : Int32 → Option ρ} : gI (wW E z x sh S, n) 8 6 x K = K (S.1 0 6) := by simp [gI, gV, wW_at0 h, cw, sh8, fws, fw]
theorem gP_8_6 (h : sh 0 = some sh8) {v : Int32} {K : xH → Option ρ} : gP (wW E z x sh S, n) 8 6 x (.int v) K = K (wW E z x sh (sS S 0 6 v), n) := by
  rw [← wW_sS0 h]
  simp [gP, wW_at0 h, cw, sh8, fws, fw, sS]
  rfl
end FW
theorem iLE_t {α : Sort _} {a b : Nat} {A B : α} (h : a ≤ b) (hb : b < 2 ^ 31) : (if nI a ≤ nI b then A else B) = A := if_pos (nI_le h hb)
theorem iLE_f {α : Sort _} {a b : Nat} {A B : α} (h : b < a) (ha : a < 2 ^ 31) : (if nI a ≤ nI b then A else B) = B := if_neg (nI_ge h ha)
theorem iLT_t {α : Sort _} {a b : Nat} {A B : α} (h : a < b) (hb : b < 2 ^ 31) : (if nI a < nI b then A else B) = A := if_pos (nI_lt h hb)
theorem iLT_f {α : Sort _} {a b : Nat} {A B : α} (h : b ≤ a) (ha : a < 2 ^ 31) : (if nI a < nI b then A else B) = B := if_neg (nI_nlt h ha)
theorem iEQ_t {α : Sort _} {a b : Nat} {A B : α} (h : a = b) : (if nI a = nI b then A else B) = A := if_pos (by rw [h])
theorem iEQ_f {α : Sort _} {a b : Nat} {A B : α} (h : a ≠ b) (ha : a < 2 ^ 31) (hb : b < 2 ^ 31) : (if nI a = nI b then A else B) = B := if_neg (fun e => h ((nI_eq ha hb).1 e))
theorem cI_s {ρ : Type} {T : xR → Option ρ} {v : Int32} {σ : xH} {K : Int32 → xH → Option ρ} : cI T (some (.inl (some (.int v)), σ)) K = K v σ := rfl
theorem cL_s {ρ : Type} {T : xR → Option ρ} {v : Int64} {σ : xH} {K : Int64 → xH → Option ρ} : cL T (some (.inl (some (.long v)), σ)) K = K v σ := rfl
theorem cF_s {ρ : Type} {T : xR → Option ρ} {v : UInt32} {σ : xH} {K : UInt32 → xH → Option ρ} : cF T (some (.inl (some (.float v)), σ)) K = K v σ := rfl
theorem cD_s {ρ : Type} {T : xR → Option ρ} {v : UInt64} {σ : xH} {K : UInt64 → xH → Option ρ} : cD T (some (.inl (some (.double v)), σ)) K = K v σ := rfl
theorem cA_s {ρ : Type} {T : xR → Option ρ} {v : Nat} {σ : xH} {K : Nat → xH → Option ρ} : cA T (some (.inl (some (.ref v)), σ)) K = K v σ := rfl
theorem cV_s {ρ : Type} {T : xR → Option ρ} {σ : xH} {K : xH → Option ρ} : cV T (some (.inl none, σ)) K = K σ := rfl
theorem cI_x {σ : xH} {X : String} {K : Int32 → xH → Option xR} : cI (xthr 5 some) (some (.inr X, σ)) K = some (.inr X, σ) := rfl
theorem cV_x {σ : xH} {X : String} {K : xH → Option xR} : cV (xthr 5 some) (some (.inr X, σ)) K = some (.inr X, σ) := rfl
theorem xret5_0 {ρ : Type} {k : Option ρ} : xiret [5] (nI 0) k = k := rfl
theorem xret5_1 {ρ : Type} {k : Option ρ} : xiret [5] (nI 1) k = k := rfl
