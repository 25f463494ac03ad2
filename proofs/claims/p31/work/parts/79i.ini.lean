/-! OBJECTS ARE MADE: shapes with null in them; written by wip/whole/genini.py. -/
def shU (sh : Nat → Option xSh) (q : Nat) (h : xSh) : Nat → Option xSh := fun j => if j = q then some h else sh j
def zst : xSt := (fun _ _ => 0, fun _ _ => 0, fun _ _ => 0, fun _ _ => 0, fun _ _ => none)
/-- from q on nothing is written yet -/
def zS (S : xSt) (q : Nat) : Prop := ∀ j, q ≤ j → S.1 j = (fun _ => 0) ∧ S.2.1 j = (fun _ => 0) ∧ S.2.2.1 j = (fun _ => 0) ∧ S.2.2.2.1 j = (fun _ => 0) ∧ S.2.2.2.2 j = fun _ => none
theorem zS_z {q : Nat} : zS zst q := fun _ _ => ⟨rfl, rfl, rfl, rfl, rfl⟩
theorem zS_mo {S : xSt} {q q' : Nat} (zq : zS S q) (h : q ≤ q') : zS S q' := fun j hj => zq j (Nat.le_trans h hj)
section INI
variable {ρ : Type} {E : xEn} {z : Nat → Option va_E} {x n : Nat} {sh : Nat → Option xSh} {S : xSt} {q : Nat}
theorem shU_s {h : xSh} : shU sh q h q = some h := if_pos rfl
theorem shU_n {h : xSh} {j : Nat} (hj : j ≠ q) : shU sh q h j = sh j := if_neg hj
theorem wW_new {h : xSh} : xup (wW E z x sh S) (x + q) (cw E x S q h) = wW E z x (shU sh q h) S := by
  funext a
  unfold xup
  cases hb : Nat.beq a (x + q)
  · rw [cond_false]
    have hne : a ≠ x + q := Nat.ne_of_beq_eq_false hb
    unfold wW
    cases hx : Nat.ble x a
    · rfl
    · have hle := Nat.le_of_ble_eq_true hx
      rw [cond_true, cond_true, shU_n (show a - x ≠ q by omega)]
  · rw [cond_true, Nat.eq_of_beq_eq_true hb, wW_at shU_s]
theorem cwz (zq : zS S q) {h : xSh} : cw E x S q h = cw E x zst q h := by
  obtain ⟨z1, z2, z3, z4, z5⟩ := zq q (Nat.le_refl _)
  exact cw_congr (S := zst) (S' := S) (fun k => by rw [z1]; rfl) (by rw [z2]; rfl) (fun k => by rw [z3]; rfl) (by rw [z4]; rfl) (by rw [z5]; rfl)
theorem nw_w {h : xSh} {e : va_E} (he : cw E x S q h = e) : (xup (wW E z x sh S) (x + q) e, x + q + 1) = (wW E z x (shU sh q h) S, x + (q + 1)) := by
  subst he
  rw [wW_new]
  rfl
theorem nwA_0 (zq : zS S q) {N : Nat} {K : Nat → xH → Option ρ} : nwA (wW E z x sh S, x + q) 0 N K = K (x + q) (wW E z x (shU sh q (1, N, [])) S, x + (q + 1)) := by
  rw [← nw_w (e := .inl (0, N, xarr 0)) (by rw [cwz zq]; rfl)]
  rfl
theorem nwA_1 (zq : zS S q) {N : Nat} {K : Nat → xH → Option ρ} : nwA (wW E z x sh S, x + q) 1 N K = K (x + q) (wW E z x (shU sh q (2, N, [])) S, x + (q + 1)) := by
  rw [← nw_w (e := .inl (1, N, xarr 1)) (by rw [cwz zq]; rfl)]
  rfl
theorem nwA_2 (zq : zS S q) {N : Nat} {K : Nat → xH → Option ρ} : nwA (wW E z x sh S, x + q) 2 N K = K (x + q) (wW E z x (shU sh q (3, N, [])) S, x + (q + 1)) := by
  rw [← nw_w (e := .inl (2, N, xarr 2)) (by rw [cwz zq]; rfl)]
  rfl
theorem nwQ_4 (zq : zS S q) {N : Nat} {K : Nat → xH → Option ρ} : nwQ (wW E z x sh S, x + q) 4 N K = K (x + q) (wW E z x (shU sh q (4, N, [])) S, x + (q + 1)) := by
  rw [← nw_w (e := .inl (4, N, .inr (.inr (.inr (.inr fun _ => none))))) (by rw [cwz zq]; rfl)]
  rfl
theorem nwQ_5 (zq : zS S q) {N : Nat} {K : Nat → xH → Option ρ} : nwQ (wW E z x sh S, x + q) 5 N K = K (x + q) (wW E z x (shU sh q (5, N, [])) S, x + (q + 1)) := by
  rw [← nw_w (e := .inl (5, N, .inr (.inr (.inr (.inr fun _ => none))))) (by rw [cwz zq]; rfl)]
  rfl
def nh0 : xSh := (0, 0, [(3, 0), (3, 0), (0, 0)])
def nh1 : xSh := (0, 1, [(3, 0), (0, 0), (3, 0)])
def nh2 : xSh := (0, 2, [(3, 0), (3, 0), (3, 0), (3, 0), (0, 0), (0, 0), (0, 0), (0, 0), (0, 0)])
def nh3 : xSh := (0, 3, [(3, 0), (0, 0), (0, 0), (3, 0), (3, 0), (3, 0), (0, 0), (0, 0), (0, 0), (0, 0)])
def nh4 : xSh := (0, 4, [(3, 0), (0, 0), (0, 0), (0, 0), (0, 0)])
def nh5 : xSh := (0, 5, [(0, 0), (0, 0), (0, 0), (3, 0), (3, 0)])
def nh6 : xSh := (0, 6, [(3, 0), (3, 0), (3, 0), (3, 0), (0, 0), (0, 0)])
def nh7 : xSh := (0, 7, [(3, 0), (0, 0), (0, 0), (0, 0), (0, 0), (0, 0)])
def nh8 : xSh := (0, 8, [(3, 0), (3, 0), (3, 0), (3, 0), (3, 0), (0, 0), (0, 0)])
theorem nwO_0 (zq : zS S q) {K : Nat → xH → Option ρ} : nwO (wW E z x sh S, x + q) 0 3 K = K (x + q) (wW E z x (shU sh q nh0) S, x + (q + 1)) := by
  rw [← nw_w (h := nh0) (e := .inr (0, xdef 0 3)) (by rw [cwz zq]; rfl)]
  rfl
theorem nwO_1 (zq : zS S q) {K : Nat → xH → Option ρ} : nwO (wW E z x sh S, x + q) 1 3 K = K (x + q) (wW E z x (shU sh q nh1) S, x + (q + 1)) := by
  rw [← nw_w (h := nh1) (e := .inr (1, xdef 1 3)) (by rw [cwz zq]; rfl)]
  rfl
theorem nwO_2 (zq : zS S q) {K : Nat → xH → Option ρ} : nwO (wW E z x sh S, x + q) 2 9 K = K (x + q) (wW E z x (shU sh q nh2) S, x + (q + 1)) := by
  rw [← nw_w (h := nh2) (e := .inr (2, xdef 2 9)) (by rw [cwz zq]; rfl)]
  rfl
theorem nwO_3 (zq : zS S q) {K : Nat → xH → Option ρ} : nwO (wW E z x sh S, x + q) 3 10 K = K (x + q) (wW E z x (shU sh q nh3) S, x + (q + 1)) := by
  rw [← nw_w (h := nh3) (e := .inr (3, xdef 3 10)) (by rw [cwz zq]; rfl)]
  rfl
theorem nwO_4 (zq : zS S q) {K : Nat → xH → Option ρ} : nwO (wW E z x sh S, x + q) 4 5 K = K (x + q) (wW E z x (shU sh q nh4) S, x + (q + 1)) := by
  rw [← nw_w (h := nh4) (e := .inr (4, xdef 4 5)) (by rw [cwz zq]; rfl)]
  rfl
theorem nwO_5 (zq : zS S q) {K : Nat → xH → Option ρ} : nwO (wW E z x sh S, x + q) 5 5 K = K (x + q) (wW E z x (shU sh q nh5) S, x + (q + 1)) := by
  rw [← nw_w (h := nh5) (e := .inr (5, xdef 5 5)) (by rw [cwz zq]; rfl)]
  rfl
theorem nwO_6 (zq : zS S q) {K : Nat → xH → Option ρ} : nwO (wW E z x sh S, x + q) 6 6 K = K (x + q) (wW E z x (shU sh q nh6) S, x + (q + 1)) := by
  rw [← nw_w (h := nh6) (e := .inr (6, xdef 6 6)) (by rw [cwz zq]; rfl)]
  rfl
theorem nwO_7 (zq : zS S q) {K : Nat → xH → Option ρ} : nwO (wW E z x sh S, x + q) 7 6 K = K (x + q) (wW E z x (shU sh q nh7) S, x + (q + 1)) := by
  rw [← nw_w (h := nh7) (e := .inr (7, xdef 7 6)) (by rw [cwz zq]; rfl)]
  rfl
theorem gO_n0 {K : Option ρ} : gO E (wW E z x (shU sh q nh0) S, n) 0 (x + q) K = K := gO_w (l := [(3, 0), (3, 0), (0, 0)]) shU_s
theorem gO_n1 {K : Option ρ} : gO E (wW E z x (shU sh q nh1) S, n) 1 (x + q) K = K := gO_w (l := [(3, 0), (0, 0), (3, 0)]) shU_s
theorem gO_n2 {K : Option ρ} : gO E (wW E z x (shU sh q nh2) S, n) 2 (x + q) K = K := gO_w (l := [(3, 0), (3, 0), (3, 0), (3, 0), (0, 0), (0, 0), (0, 0), (0, 0), (0, 0)]) shU_s
theorem gO_n3 {K : Option ρ} : gO E (wW E z x (shU sh q nh3) S, n) 3 (x + q) K = K := gO_w (l := [(3, 0), (0, 0), (0, 0), (3, 0), (3, 0), (3, 0), (0, 0), (0, 0), (0, 0), (0, 0)]) shU_s
theorem gO_n4 {K : Option ρ} : gO E (wW E z x (shU sh q nh4) S, n) 4 (x + q) K = K := gO_w (l := [(3, 0), (0, 0), (0, 0), (0, 0), (0, 0)]) shU_s
theorem gO_n5 {K : Option ρ} : gO E (wW E z x (shU sh q nh5) S, n) 5 (x + q) K = K := gO_w (l := [(0, 0), (0, 0), (0, 0), (3, 0), (3, 0)]) shU_s
theorem gO_n6 {K : Option ρ} : gO E (wW E z x (shU sh q nh6) S, n) 6 (x + q) K = K := gO_w (l := [(3, 0), (3, 0), (3, 0), (3, 0), (0, 0), (0, 0)]) shU_s
theorem gO_n7 {K : Option ρ} : gO E (wW E z x (shU sh q nh7) S, n) 7 (x + q) K = K := gO_w (l := [(3, 0), (0, 0), (0, 0), (0, 0), (0, 0), (0, 0)]) shU_s
theorem gO_n8 {K : Option ρ} : gO E (wW E z x (shU sh q nh8) S, n) 8 (x + q) K = K := gO_w (l := [(3, 0), (3, 0), (3, 0), (3, 0), (3, 0), (0, 0), (0, 0)]) shU_s
theorem fws_len : ∀ (fl : List (Nat × Nat)) (k : Nat), (fws x S q k fl).length = fl.length := by
  intro fl
  induction fl with
  | nil => exact fun _ => rfl
  | cons f fl ih => exact fun k => congrArg (· + 1) (ih (k + 1))
theorem fws_set {r : Nat} : ∀ (fl : List (Nat × Nat)) (j k : Nat), (fws x S q j fl).set k (.ref (x + r)) = fws x S q j (fl.set k (1, r)) := by
  intro fl
  induction fl with
  | nil => exact fun _ _ => rfl
  | cons f fl ih =>
    intro j k
    cases k with
    | zero => rfl
    | succ k => exact congrArg (fw x S q j f :: ·) (ih (j + 1) k)
theorem fws_c {S' : xSt} : ∀ (fl : List (Nat × Nat)) (j : Nat), (∀ k, j ≤ k → S'.1 q k = S.1 q k) → (∀ k, S'.2.2.1 q k = S.2.2.1 q k) → fws x S' q j fl = fws x S q j fl := by
  intro fl
  induction fl with
  | nil => exact fun _ _ _ => rfl
  | cons f fl ih =>
    intro j h1 h2
    unfold fws
    rw [ih (j + 1) (fun k hk => h1 k (by omega)) h2]
    congr 1
    unfold fw
    split
    · rw [h1 j (Nat.le_refl _)]
    · rfl
    · rfl
    · rw [h2]
theorem fws_seti {v : Int32} : ∀ (fl : List (Nat × Nat)) (j k zq : Nat), fl[k]? = some (0, zq) → (fws x S q j fl).set k (.int v) = fws x (sS S q (j + k) v) q j fl := by
  intro fl
  induction fl with
  | nil => exact fun j k zq h => by simp at h
  | cons f fl ih =>
    intro j k zq h
    cases k with
    | zero =>
      have h : f = (0, zq) := Option.some.inj h
      subst h
      show Value.int v :: fws x S q (j + 1) fl = Value.int ((sS S q (j + 0) v).1 q j) :: fws x (sS S q (j + 0) v) q (j + 1) fl
      rw [fws_c (S := S) (S' := sS S q (j + 0) v) fl (j + 1) (fun k hk => sS_n (by omega)) (fun _ => rfl)]
      congr 2
      exact (sS_s (k := j)).symm
    | succ k =>
      have h : fl[k]? = some (0, zq) := h
      have e := ih (j + 1) k zq h
      rw [show j + 1 + k = j + (k + 1) by omega] at e
      show fw x S q j f :: (fws x S q (j + 1) fl).set k (.int v) = fw x (sS S q (j + (k + 1)) v) q j f :: fws x (sS S q (j + (k + 1)) v) q (j + 1) fl
      rw [e]
      congr 1
      unfold fw
      split
      · rw [sS_n (by omega)]
      · rfl
      · rfl
      · rfl
theorem gPn {ci k r : Nat} {fl fl' : List (Nat × Nat)} (hq : sh q = some (0, ci, fl)) (hk : Nat.blt k fl.length = true) (hf : fl.set k (1, r) = fl') {K : xH → Option ρ} : gP (wW E z x sh S, n) ci k (x + q) (.ref (x + r)) K = K (wW E z x (shU sh q (0, ci, fl')) S, n) := by
  subst hf
  have e : wW E z x sh S (x + q) = some (.inr (ci, fws x S q 0 fl)) := wW_at hq
  have hb : Nat.blt k (fws x S q 0 fl).length = true := by rw [fws_len]; exact hk
  rw [← wW_new]
  show gP (wW E z x sh S, n) ci k (x + q) (.ref (x + r)) K = K (xup (wW E z x sh S) (x + q) (.inr (ci, fws x S q 0 (fl.set k (1, r)))), n)
  rw [← fws_set]
  unfold gP
  dsimp only
  rw [e]
  dsimp only
  rw [Nat.beq_refl, hb]
  rfl
theorem gPi {ci k zq : Nat} {v : Int32} {fl : List (Nat × Nat)} (hq : sh q = some (0, ci, fl)) (hk : fl[k]? = some (0, zq)) {K : xH → Option ρ} : gP (wW E z x sh S, n) ci k (x + q) (.int v) K = K (wW E z x sh (sS S q k v), n) := by
  have e : wW E z x sh S (x + q) = some (.inr (ci, fws x S q 0 fl)) := wW_at hq
  have hl : k < fl.length := by
    rcases Nat.lt_or_ge k fl.length with h | h
    · exact h
    · rw [List.getElem?_eq_none h] at hk
      cases hk
  have hb : Nat.blt k (fws x S q 0 fl).length = true := by rw [fws_len]; exact Nat.ble_eq.mpr hl
  have es : (fws x S q 0 fl).set k (.int v) = fws x (sS S q k v) q 0 fl := by
    rw [fws_seti fl 0 k zq hk, Nat.zero_add]
  rw [← wW_sS hq]
  show gP (wW E z x sh S, n) ci k (x + q) (.int v) K = K (xup (wW E z x sh S) (x + q) (.inr (ci, fws x (sS S q k v) q 0 fl)), n)
  rw [← es]
  unfold gP
  dsimp only
  rw [e]
  dsimp only
  rw [Nat.beq_refl, hb]
  rfl
theorem n5 (h : sh q = some nh5) (zq : zS S (q + 1)) (d : Nat) : ∃ sh', xsem xT E (d + 1) kX5_init [.ref (x + q)] (wW E z x sh S, x + (q + 1)) = some (.inl none, (wW E z x sh' S, x + (q + 3))) ∧ sh' q = some (sh5 q) ∧ sh' (q + 1) = some (1, 8, []) ∧ sh' (q + 2) = some (1, 8, []) ∧ ∀ j, (j < q ∨ q + 3 ≤ j) → sh' j = sh j := by
  refine ⟨shU (shU (shU (shU sh (q + 1) (1, 8, [])) q (0, 5, [(0, 0), (0, 0), (0, 0), (1, q + 1), (3, 0)])) (q + 2) (1, 8, [])) q (0, 5, [(0, 0), (0, 0), (0, 0), (1, q + 1), (1, q + 2)]), ?_, shU_s, ?_, ?_, fun j hj => ?_⟩
  · rw [eX5_init, QX5_init_0]
    simp (disch := omega) only [ble_t, Bool.and_self, cI_s, cL_s, cF_s, cD_s, cA_s, cV_s, nI_add, cond_true, cond_false, if_true, if_false]
    rw [nwA_0 (q := q + 1) (zS_mo zq (by omega)), gPn (fl := [(0, 0), (0, 0), (0, 0), (3, 0), (3, 0)]) (fl' := [(0, 0), (0, 0), (0, 0), (1, q + 1), (3, 0)]) (k := 3) (r := q + 1) ((shU_n (q := q + 1) (j := q) (by omega)).trans h) rfl rfl, nwA_0 (q := q + 2) (zS_mo zq (by omega)), gPn (fl := [(0, 0), (0, 0), (0, 0), (1, q + 1), (3, 0)]) (fl' := [(0, 0), (0, 0), (0, 0), (1, q + 1), (1, q + 2)]) (k := 4) (r := q + 2) ((shU_n (q := q + 2) (j := q) (by omega)).trans shU_s) rfl rfl]
    all_goals rfl
  · rw [shU_n (by omega), shU_n (by omega), shU_n (by omega), shU_s]
  · rw [shU_n (by omega), shU_s]
  · rw [shU_n (by omega), shU_n (by omega), shU_n (by omega), shU_n (by omega)]
theorem n4 (h : sh q = some nh4) (zq : zS S (q + 1)) (d : Nat) : ∃ sh', xsem xT E (d + 1) kX4_init [.ref (x + q)] (wW E z x sh S, x + (q + 1)) = some (.inl none, (wW E z x sh' S, x + (q + 2))) ∧ sh' q = some (sh4 q) ∧ sh' (q + 1) = some (1, 9, []) ∧ ∀ j, (j < q ∨ q + 2 ≤ j) → sh' j = sh j := by
  refine ⟨shU (shU sh (q + 1) (1, 9, [])) q (0, 4, [(1, q + 1), (0, 0), (0, 0), (0, 0), (0, 0)]), ?_, shU_s, ?_, fun j hj => ?_⟩
  · rw [eX4_init, QX4_init_0]
    simp (disch := omega) only [ble_t, Bool.and_self, cI_s, cL_s, cF_s, cD_s, cA_s, cV_s, nI_add, cond_true, cond_false, if_true, if_false]
    rw [nwA_0 (q := q + 1) (zS_mo zq (by omega)), gPn (fl := [(3, 0), (0, 0), (0, 0), (0, 0), (0, 0)]) (fl' := [(1, q + 1), (0, 0), (0, 0), (0, 0), (0, 0)]) (k := 0) (r := q + 1) ((shU_n (q := q + 1) (j := q) (by omega)).trans h) rfl rfl]
    all_goals rfl
  · rw [shU_n (by omega), shU_s]
  · rw [shU_n (by omega), shU_n (by omega)]
theorem n0 (h : sh q = some nh0) (zq : zS S (q + 1)) (d : Nat) : ∃ sh', xsem xT E (d + 1) kX0_init [.ref (x + q)] (wW E z x sh S, x + (q + 1)) = some (.inl none, (wW E z x sh' S, x + (q + 3))) ∧ sh' q = some (sh0 q) ∧ sh' (q + 1) = some (1, 8, []) ∧ sh' (q + 2) = some (1, 8, []) ∧ ∀ j, (j < q ∨ q + 3 ≤ j) → sh' j = sh j := by
  refine ⟨shU (shU (shU (shU sh (q + 1) (1, 8, [])) q (0, 0, [(1, q + 1), (3, 0), (0, 0)])) (q + 2) (1, 8, [])) q (0, 0, [(1, q + 1), (1, q + 2), (0, 0)]), ?_, shU_s, ?_, ?_, fun j hj => ?_⟩
  · rw [eX0_init, QX0_init_0]
    simp (disch := omega) only [ble_t, Bool.and_self, cI_s, cL_s, cF_s, cD_s, cA_s, cV_s, nI_add, cond_true, cond_false, if_true, if_false]
    rw [nwA_0 (q := q + 1) (zS_mo zq (by omega)), gPn (fl := [(3, 0), (3, 0), (0, 0)]) (fl' := [(1, q + 1), (3, 0), (0, 0)]) (k := 0) (r := q + 1) ((shU_n (q := q + 1) (j := q) (by omega)).trans h) rfl rfl, nwA_0 (q := q + 2) (zS_mo zq (by omega)), gPn (fl := [(1, q + 1), (3, 0), (0, 0)]) (fl' := [(1, q + 1), (1, q + 2), (0, 0)]) (k := 1) (r := q + 2) ((shU_n (q := q + 2) (j := q) (by omega)).trans shU_s) rfl rfl]
    all_goals rfl
  · rw [shU_n (by omega), shU_n (by omega), shU_n (by omega), shU_s]
  · rw [shU_n (by omega), shU_s]
  · rw [shU_n (by omega), shU_n (by omega), shU_n (by omega), shU_n (by omega)]
theorem n1 (h : sh q = some nh1) (zq : zS S (q + 1)) (d : Nat) : ∃ sh', xsem xT E (d + 1) kX1_init [.ref (x + q)] (wW E z x sh S, x + (q + 1)) = some (.inl none, (wW E z x sh' S, x + (q + 3))) ∧ sh' q = some (sh1 q) ∧ sh' (q + 1) = some (1, 500, []) ∧ sh' (q + 2) = some (1, 11, []) ∧ ∀ j, (j < q ∨ q + 3 ≤ j) → sh' j = sh j := by
  refine ⟨shU (shU (shU (shU sh (q + 1) (1, 500, [])) q (0, 1, [(1, q + 1), (0, 0), (3, 0)])) (q + 2) (1, 11, [])) q (0, 1, [(1, q + 1), (0, 0), (1, q + 2)]), ?_, shU_s, ?_, ?_, fun j hj => ?_⟩
  · rw [eX1_init, QX1_init_0]
    simp (disch := omega) only [ble_t, Bool.and_self, cI_s, cL_s, cF_s, cD_s, cA_s, cV_s, nI_add, cond_true, cond_false, if_true, if_false]
    rw [nwA_0 (q := q + 1) (zS_mo zq (by omega)), gPn (fl := [(3, 0), (0, 0), (3, 0)]) (fl' := [(1, q + 1), (0, 0), (3, 0)]) (k := 0) (r := q + 1) ((shU_n (q := q + 1) (j := q) (by omega)).trans h) rfl rfl, nwA_0 (q := q + 2) (zS_mo zq (by omega)), gPn (fl := [(1, q + 1), (0, 0), (3, 0)]) (fl' := [(1, q + 1), (0, 0), (1, q + 2)]) (k := 2) (r := q + 2) ((shU_n (q := q + 2) (j := q) (by omega)).trans shU_s) rfl rfl]
    all_goals rfl
  · rw [shU_n (by omega), shU_n (by omega), shU_n (by omega), shU_s]
  · rw [shU_n (by omega), shU_s]
  · rw [shU_n (by omega), shU_n (by omega), shU_n (by omega), shU_n (by omega)]
theorem n3 (h : sh q = some nh3) (zq : zS S (q + 1)) (d : Nat) : ∃ sh', xsem xT E (d + 1) kX3_init [.ref (x + q)] (wW E z x sh S, x + (q + 1)) = some (.inl none, (wW E z x sh' (sS S q 9 (-1)), x + (q + 5))) ∧ sh' q = some (sh3 q) ∧ sh' (q + 1) = some (2, 500, []) ∧ sh' (q + 2) = some (4, 501, []) ∧ sh' (q + 3) = some (1, 501, []) ∧ sh' (q + 4) = some (1, 501, []) ∧ ∀ j, (j < q ∨ q + 5 ≤ j) → sh' j = sh j := by
  refine ⟨shU (shU (shU (shU (shU (shU (shU (shU sh (q + 1) (2, 500, [])) q (0, 3, [(1, q + 1), (0, 0), (0, 0), (3, 0), (3, 0), (3, 0), (0, 0), (0, 0), (0, 0), (0, 0)])) (q + 2) (4, 501, [])) q (0, 3, [(1, q + 1), (0, 0), (0, 0), (1, q + 2), (3, 0), (3, 0), (0, 0), (0, 0), (0, 0), (0, 0)])) (q + 3) (1, 501, [])) q (0, 3, [(1, q + 1), (0, 0), (0, 0), (1, q + 2), (1, q + 3), (3, 0), (0, 0), (0, 0), (0, 0), (0, 0)])) (q + 4) (1, 501, [])) q (0, 3, [(1, q + 1), (0, 0), (0, 0), (1, q + 2), (1, q + 3), (1, q + 4), (0, 0), (0, 0), (0, 0), (0, 0)]), ?_, shU_s, ?_, ?_, ?_, ?_, fun j hj => ?_⟩
  · rw [eX3_init, QX3_init_0]
    simp (disch := omega) only [ble_t, Bool.and_self, cI_s, cL_s, cF_s, cD_s, cA_s, cV_s, nI_add, cond_true, cond_false, if_true, if_false]
    rw [nwA_1 (q := q + 1) (zS_mo zq (by omega)), gPn (fl := [(3, 0), (0, 0), (0, 0), (3, 0), (3, 0), (3, 0), (0, 0), (0, 0), (0, 0), (0, 0)]) (fl' := [(1, q + 1), (0, 0), (0, 0), (3, 0), (3, 0), (3, 0), (0, 0), (0, 0), (0, 0), (0, 0)]) (k := 0) (r := q + 1) ((shU_n (q := q + 1) (j := q) (by omega)).trans h) rfl rfl, nwQ_4 (q := q + 2) (zS_mo zq (by omega)), gPn (fl := [(1, q + 1), (0, 0), (0, 0), (3, 0), (3, 0), (3, 0), (0, 0), (0, 0), (0, 0), (0, 0)]) (fl' := [(1, q + 1), (0, 0), (0, 0), (1, q + 2), (3, 0), (3, 0), (0, 0), (0, 0), (0, 0), (0, 0)]) (k := 3) (r := q + 2) ((shU_n (q := q + 2) (j := q) (by omega)).trans shU_s) rfl rfl, nwA_0 (q := q + 3) (zS_mo zq (by omega)), gPn (fl := [(1, q + 1), (0, 0), (0, 0), (1, q + 2), (3, 0), (3, 0), (0, 0), (0, 0), (0, 0), (0, 0)]) (fl' := [(1, q + 1), (0, 0), (0, 0), (1, q + 2), (1, q + 3), (3, 0), (0, 0), (0, 0), (0, 0), (0, 0)]) (k := 4) (r := q + 3) ((shU_n (q := q + 3) (j := q) (by omega)).trans shU_s) rfl rfl, nwA_0 (q := q + 4) (zS_mo zq (by omega)), gPn (fl := [(1, q + 1), (0, 0), (0, 0), (1, q + 2), (1, q + 3), (3, 0), (0, 0), (0, 0), (0, 0), (0, 0)]) (fl' := [(1, q + 1), (0, 0), (0, 0), (1, q + 2), (1, q + 3), (1, q + 4), (0, 0), (0, 0), (0, 0), (0, 0)]) (k := 5) (r := q + 4) ((shU_n (q := q + 4) (j := q) (by omega)).trans shU_s) rfl rfl]
    rw [gPi (ci := 3) (k := 9) (zq := 0) (fl := [(1, q + 1), (0, 0), (0, 0), (1, q + 2), (1, q + 3), (1, q + 4), (0, 0), (0, 0), (0, 0), (0, 0)]) shU_s rfl]
    all_goals rfl
  · rw [shU_n (by omega), shU_n (by omega), shU_n (by omega), shU_n (by omega), shU_n (by omega), shU_n (by omega), shU_n (by omega), shU_s]
  · rw [shU_n (by omega), shU_n (by omega), shU_n (by omega), shU_n (by omega), shU_n (by omega), shU_s]
  · rw [shU_n (by omega), shU_n (by omega), shU_n (by omega), shU_s]
  · rw [shU_n (by omega), shU_s]
  · rw [shU_n (by omega), shU_n (by omega), shU_n (by omega), shU_n (by omega), shU_n (by omega), shU_n (by omega), shU_n (by omega), shU_n (by omega)]
theorem n6 (h : sh q = some nh6) (zq : zS S (q + 1)) (d : Nat) : ∃ sh', xsem xT E (d + 1) kX6_init [.ref (x + q)] (wW E z x sh S, x + (q + 1)) = some (.inl none, (wW E z x sh' S, x + (q + 5))) ∧ sh' q = some (sh6 q) ∧ sh' (q + 1) = some (4, 60, []) ∧ sh' (q + 2) = some (1, 60, []) ∧ sh' (q + 3) = some (1, 60, []) ∧ sh' (q + 4) = some (1, 60, []) ∧ ∀ j, (j < q ∨ q + 5 ≤ j) → sh' j = sh j := by
  refine ⟨shU (shU (shU (shU (shU (shU (shU (shU sh (q + 1) (4, 60, [])) q (0, 6, [(1, q + 1), (3, 0), (3, 0), (3, 0), (0, 0), (0, 0)])) (q + 2) (1, 60, [])) q (0, 6, [(1, q + 1), (1, q + 2), (3, 0), (3, 0), (0, 0), (0, 0)])) (q + 3) (1, 60, [])) q (0, 6, [(1, q + 1), (1, q + 2), (1, q + 3), (3, 0), (0, 0), (0, 0)])) (q + 4) (1, 60, [])) q (0, 6, [(1, q + 1), (1, q + 2), (1, q + 3), (1, q + 4), (0, 0), (0, 0)]), ?_, shU_s, ?_, ?_, ?_, ?_, fun j hj => ?_⟩
  · rw [eX6_init, QX6_init_0]
    simp (disch := omega) only [ble_t, Bool.and_self, cI_s, cL_s, cF_s, cD_s, cA_s, cV_s, nI_add, cond_true, cond_false, if_true, if_false]
    rw [nwQ_4 (q := q + 1) (zS_mo zq (by omega)), gPn (fl := [(3, 0), (3, 0), (3, 0), (3, 0), (0, 0), (0, 0)]) (fl' := [(1, q + 1), (3, 0), (3, 0), (3, 0), (0, 0), (0, 0)]) (k := 0) (r := q + 1) ((shU_n (q := q + 1) (j := q) (by omega)).trans h) rfl rfl, nwA_0 (q := q + 2) (zS_mo zq (by omega)), gPn (fl := [(1, q + 1), (3, 0), (3, 0), (3, 0), (0, 0), (0, 0)]) (fl' := [(1, q + 1), (1, q + 2), (3, 0), (3, 0), (0, 0), (0, 0)]) (k := 1) (r := q + 2) ((shU_n (q := q + 2) (j := q) (by omega)).trans shU_s) rfl rfl, nwA_0 (q := q + 3) (zS_mo zq (by omega)), gPn (fl := [(1, q + 1), (1, q + 2), (3, 0), (3, 0), (0, 0), (0, 0)]) (fl' := [(1, q + 1), (1, q + 2), (1, q + 3), (3, 0), (0, 0), (0, 0)]) (k := 2) (r := q + 3) ((shU_n (q := q + 3) (j := q) (by omega)).trans shU_s) rfl rfl, nwA_0 (q := q + 4) (zS_mo zq (by omega)), gPn (fl := [(1, q + 1), (1, q + 2), (1, q + 3), (3, 0), (0, 0), (0, 0)]) (fl' := [(1, q + 1), (1, q + 2), (1, q + 3), (1, q + 4), (0, 0), (0, 0)]) (k := 3) (r := q + 4) ((shU_n (q := q + 4) (j := q) (by omega)).trans shU_s) rfl rfl]
    all_goals rfl
  · rw [shU_n (by omega), shU_n (by omega), shU_n (by omega), shU_n (by omega), shU_n (by omega), shU_n (by omega), shU_n (by omega), shU_s]
  · rw [shU_n (by omega), shU_n (by omega), shU_n (by omega), shU_n (by omega), shU_n (by omega), shU_s]
  · rw [shU_n (by omega), shU_n (by omega), shU_n (by omega), shU_s]
  · rw [shU_n (by omega), shU_s]
  · rw [shU_n (by omega), shU_n (by omega), shU_n (by omega), shU_n (by omega), shU_n (by omega), shU_n (by omega), shU_n (by omega), shU_n (by omega)]
/-- a game is made -/
theorem n2 (h : sh q = some nh2) (zq : zS S (q + 1)) (d : Nat) : ∃ sh' S', xsem xT E (d + 5) kX2_init [.ref (x + q)] (wW E z x sh S, x + (q + 1)) = some (.inl none, (wW E z x sh' S', x + (q + 12))) ∧ hG sh' q ∧ (∀ j, (j < q ∨ q + 12 ≤ j) → sh' j = sh j) ∧ frm q (q + 12) S S' ∧ pG S' q (gNew 3) := by
  obtain ⟨s1, e1, a1, a2, a3, a4⟩ := n5 (E := E) (z := z) (x := x) (sh := shU sh (q + 1) nh5) (q := q + 1) shU_s (zS_mo zq (show q + 1 ≤ q + 1 + 1 by omega)) (d + 3)
  have b1 : s1 q = some nh2 := (a4 q (by omega)).trans ((shU_n (by omega)).trans h)
  obtain ⟨t1, ht1⟩ : ∃ t, t = shU s1 q (0, 2, [(1, q + 1), (3, 0), (3, 0), (3, 0), (0, 0), (0, 0), (0, 0), (0, 0), (0, 0)]) := ⟨_, rfl⟩
  have c1 : t1 q = some (0, 2, [(1, q + 1), (3, 0), (3, 0), (3, 0), (0, 0), (0, 0), (0, 0), (0, 0), (0, 0)]) := by rw [ht1]; exact shU_s
  have c1n : ∀ j, j ≠ q → t1 j = s1 j := fun j hj => by rw [ht1]; exact shU_n hj
  obtain ⟨s2, e2, f1, f2, f3⟩ := n4 (E := E) (z := z) (x := x) (sh := shU t1 (q + 4) nh4) (q := q + 4) shU_s (zS_mo zq (show q + 1 ≤ q + 4 + 1 by omega)) (d + 3)
  have b2 : s2 q = some (0, 2, [(1, q + 1), (3, 0), (3, 0), (3, 0), (0, 0), (0, 0), (0, 0), (0, 0), (0, 0)]) := (f3 q (by omega)).trans ((shU_n (by omega)).trans c1)
  obtain ⟨t2, ht2⟩ : ∃ t, t = shU s2 q (0, 2, [(1, q + 1), (1, q + 4), (3, 0), (3, 0), (0, 0), (0, 0), (0, 0), (0, 0), (0, 0)]) := ⟨_, rfl⟩
  have c2 : t2 q = some (0, 2, [(1, q + 1), (1, q + 4), (3, 0), (3, 0), (0, 0), (0, 0), (0, 0), (0, 0), (0, 0)]) := by rw [ht2]; exact shU_s
  have c2n : ∀ j, j ≠ q → t2 j = s2 j := fun j hj => by rw [ht2]; exact shU_n hj
  obtain ⟨s3, e3, g1, g2, g3, g4⟩ := n0 (E := E) (z := z) (x := x) (sh := shU t2 (q + 6) nh0) (q := q + 6) shU_s (zS_mo zq (show q + 1 ≤ q + 6 + 1 by omega)) (d + 3)
  have b3 : s3 q = some (0, 2, [(1, q + 1), (1, q + 4), (3, 0), (3, 0), (0, 0), (0, 0), (0, 0), (0, 0), (0, 0)]) := (g4 q (by omega)).trans ((shU_n (by omega)).trans c2)
  obtain ⟨t3, ht3⟩ : ∃ t, t = shU s3 q (0, 2, [(1, q + 1), (1, q + 4), (1, q + 6), (3, 0), (0, 0), (0, 0), (0, 0), (0, 0), (0, 0)]) := ⟨_, rfl⟩
  have c3 : t3 q = some (0, 2, [(1, q + 1), (1, q + 4), (1, q + 6), (3, 0), (0, 0), (0, 0), (0, 0), (0, 0), (0, 0)]) := by rw [ht3]; exact shU_s
  have c3n : ∀ j, j ≠ q → t3 j = s3 j := fun j hj => by rw [ht3]; exact shU_n hj
  obtain ⟨s4, e4, k1, k2, k3, k4⟩ := n1 (E := E) (z := z) (x := x) (sh := shU t3 (q + 9) nh1) (q := q + 9) shU_s (zS_mo zq (show q + 1 ≤ q + 9 + 1 by omega)) (d + 3)
  have b4 : s4 q = some (0, 2, [(1, q + 1), (1, q + 4), (1, q + 6), (3, 0), (0, 0), (0, 0), (0, 0), (0, 0), (0, 0)]) := (k4 q (by omega)).trans ((shU_n (by omega)).trans c3)
  obtain ⟨t4, ht4⟩ : ∃ t, t = shU s4 q (sh2 q) := ⟨_, rfl⟩
  have c4 : t4 q = some (sh2 q) := by rw [ht4]; exact shU_s
  have c4n : ∀ j, j ≠ q → t4 j = s4 j := fun j hj => by rw [ht4]; exact shU_n hj
  have r4 : ∀ j, j ≠ q → (j < q + 9 ∨ q + 12 ≤ j) → t4 j = t3 j := fun j a b => (c4n j a).trans ((k4 j (by omega)).trans (shU_n (by omega)))
  have r3 : ∀ j, j ≠ q → (j < q + 6 ∨ q + 9 ≤ j) → t3 j = t2 j := fun j a b => (c3n j a).trans ((g4 j (by omega)).trans (shU_n (by omega)))
  have r2 : ∀ j, j ≠ q → (j < q + 4 ∨ q + 6 ≤ j) → t2 j = t1 j := fun j a b => (c2n j a).trans ((f3 j (by omega)).trans (shU_n (by omega)))
  have r1 : ∀ j, j ≠ q → (j < q + 1 ∨ q + 4 ≤ j) → t1 j = sh j := fun j a b => (c1n j a).trans ((a4 j (by omega)).trans (shU_n (by omega)))
  have d1 : ∀ j, q + 1 ≤ j → j < q + 4 → t4 j = s1 j := fun j a b => (r4 j (by omega) (by omega)).trans ((r3 j (by omega) (by omega)).trans ((r2 j (by omega) (by omega)).trans (c1n j (by omega))))
  have d2 : ∀ j, q + 4 ≤ j → j < q + 6 → t4 j = s2 j := fun j a b => (r4 j (by omega) (by omega)).trans ((r3 j (by omega) (by omega)).trans (c2n j (by omega)))
  have d3 : ∀ j, q + 6 ≤ j → j < q + 9 → t4 j = s3 j := fun j a b => (r4 j (by omega) (by omega)).trans (c3n j (by omega))
  have d4 : ∀ j, q + 9 ≤ j → j < q + 12 → t4 j = s4 j := fun j a b => c4n j (by omega)
  have hG4 : hG t4 q := ⟨c4, (d1 _ (by omega) (by omega)).trans a1, (d1 _ (by omega) (by omega)).trans a2, (d1 _ (by omega) (by omega)).trans a3, (d2 _ (by omega) (by omega)).trans f1, (d2 _ (by omega) (by omega)).trans f2, (d3 _ (by omega) (by omega)).trans g1, (d3 _ (by omega) (by omega)).trans g2, (d3 _ (by omega) (by omega)).trans g3, (d4 _ (by omega) (by omega)).trans k1, (d4 _ (by omega) (by omega)).trans k2, (d4 _ (by omega) (by omega)).trans k3⟩
  obtain ⟨S', e5, e6, e7⟩ := s2_reset (E := E) (z := z) (x := x) (n := x + (q + 12)) (S := S) hG4 (s := 3) (by omega) (by omega) d
  refine ⟨t4, S', ?_, hG4, fun j hj => (r4 j (by omega) (by omega)).trans ((r3 j (by omega) (by omega)).trans ((r2 j (by omega) (by omega)).trans (r1 j (by omega) (by omega)))), e6, e7⟩
  rw [eX2_init, QX2_init_0]
  simp (disch := omega) only [ble_t, Bool.and_self, cI_s, cL_s, cF_s, cD_s, cA_s, cV_s, nI_add, cond_true, cond_false, if_true, if_false]
  rw [nwO_5 zq, gO_n5 (q := q + 1), e1, cV_s, gPn (fl := [(3, 0), (3, 0), (3, 0), (3, 0), (0, 0), (0, 0), (0, 0), (0, 0), (0, 0)]) (fl' := [(1, q + 1), (3, 0), (3, 0), (3, 0), (0, 0), (0, 0), (0, 0), (0, 0), (0, 0)]) (k := 0) (r := q + 1) b1 rfl rfl, ← ht1]
  rw [nwO_4 (q := q + 4) (zS_mo zq (by omega)), gO_n4 (q := q + 4), e2, cV_s, gPn (fl := [(1, q + 1), (3, 0), (3, 0), (3, 0), (0, 0), (0, 0), (0, 0), (0, 0), (0, 0)]) (fl' := [(1, q + 1), (1, q + 4), (3, 0), (3, 0), (0, 0), (0, 0), (0, 0), (0, 0), (0, 0)]) (k := 1) (r := q + 4) b2 rfl rfl, ← ht2]
  rw [nwO_0 (q := q + 6) (zS_mo zq (by omega)), gO_n0 (q := q + 6), e3, cV_s, gPn (fl := [(1, q + 1), (1, q + 4), (3, 0), (3, 0), (0, 0), (0, 0), (0, 0), (0, 0), (0, 0)]) (fl' := [(1, q + 1), (1, q + 4), (1, q + 6), (3, 0), (0, 0), (0, 0), (0, 0), (0, 0), (0, 0)]) (k := 2) (r := q + 6) b3 rfl rfl, ← ht3]
  rw [nwO_1 (q := q + 9) (zS_mo zq (by omega)), gO_n1 (q := q + 9), e4, cV_s, gPn (fl := [(1, q + 1), (1, q + 4), (1, q + 6), (3, 0), (0, 0), (0, 0), (0, 0), (0, 0), (0, 0)]) (fl' := [(1, q + 1), (1, q + 4), (1, q + 6), (1, q + 9), (0, 0), (0, 0), (0, 0), (0, 0), (0, 0)]) (k := 3) (r := q + 9) b4 rfl rfl]
  rw [show shU s4 q (0, 2, [(1, q + 1), (1, q + 4), (1, q + 6), (1, q + 9), (0, 0), (0, 0), (0, 0), (0, 0), (0, 0)]) = t4 from ht4.symm]
  rw [gO_2 c4]
  rw [show x + (q + 9 + 3) = x + (q + 12) from rfl, e5, cV_s]
/-- the tricks' room is made -/
theorem n7 (h : sh q = some nh7) (zq : zS S (q + 1)) (d : Nat) : ∃ sh', xsem xT E (d + 2) kX9_init [.ref (x + q)] (wW E z x sh S, x + (q + 1)) = some (.inl none, (wW E z x sh' S, x + (q + 3))) ∧ hT sh' q ∧ ∀ j, (j < q ∨ q + 3 ≤ j) → sh' j = sh j := by
  obtain ⟨s1, e1, a1, a2, a3⟩ := n4 (E := E) (z := z) (x := x) (sh := shU sh (q + 1) nh4) (q := q + 1) shU_s (zS_mo zq (show q + 1 ≤ q + 1 + 1 by omega)) d
  have b1 : s1 q = some nh7 := (a3 q (by omega)).trans ((shU_n (by omega)).trans h)
  refine ⟨shU s1 q (sh7 q), ?_, ⟨shU_s, (shU_n (by omega)).trans a1, (shU_n (by omega)).trans a2⟩, fun j hj => (shU_n (by omega)).trans ((a3 j (by omega)).trans (shU_n (by omega)))⟩
  rw [eX9_init, QX9_init_0]
  simp (disch := omega) only [ble_t, Bool.and_self, cI_s, cL_s, cF_s, cD_s, cA_s, cV_s, nI_add, cond_true, cond_false, if_true, if_false]
  rw [nwO_4 zq, gO_n4 (q := q + 1), e1, cV_s, gPn (fl := [(3, 0), (0, 0), (0, 0), (0, 0), (0, 0), (0, 0)]) (fl' := [(1, q + 1), (0, 0), (0, 0), (0, 0), (0, 0), (0, 0)]) (k := 0) (r := q + 1) b1 rfl rfl]
  all_goals rfl
end INI
