/-! THE TWO PROGRAMS' OBJECTS ARE MADE; written by wip/whole/genini2.py. -/
section IN2
variable {ρ : Type} {E : xEn} {z : Nat → Option va_E} {x y n m : Nat} {sh : Nat → Option xSh} {S : xSt} {q : Nat}
theorem nw3' (zq : zS S q) {q' : Nat} (e : q + 1 = q') {K : Nat → xH → Option ρ} : nwO (wW E z x sh S, x + q) 3 10 K = K (x + q) (wW E z x (shU sh q nh3) S, x + q') := by
  subst e
  exact nwO_3 zq
theorem nw6' (zq : zS S q) {q' : Nat} (e : q + 1 = q') {K : Nat → xH → Option ρ} : nwO (wW E z x sh S, x + q) 6 6 K = K (x + q) (wW E z x (shU sh q nh6) S, x + q') := by
  subst e
  exact nwO_6 zq
theorem nw7' (zq : zS S q) {q' : Nat} (e : q + 1 = q') {K : Nat → xH → Option ρ} : nwO (wW E z x sh S, x + q) 7 6 K = K (x + q) (wW E z x (shU sh q nh7) S, x + q') := by
  subst e
  exact nwO_7 zq
theorem nw2' (zq : zS S q) {q' : Nat} (e : q + 1 = q') {K : Nat → xH → Option ρ} : nwO (wW E z x sh S, x + q) 2 9 K = K (x + q) (wW E z x (shU sh q nh2) S, x + q') := by
  subst e
  exact nwO_2 zq
theorem nwA_0' (zq : zS S q) {q' : Nat} (e : q + 1 = q') {N : Nat} {K : Nat → xH → Option ρ} : nwA (wW E z x sh S, x + q) 0 N K = K (x + q) (wW E z x (shU sh q (1, N, [])) S, x + q') := by
  subst e
  exact nwA_0 zq
theorem nwA_2' (zq : zS S q) {q' : Nat} (e : q + 1 = q') {N : Nat} {K : Nat → xH → Option ρ} : nwA (wW E z x sh S, x + q) 2 N K = K (x + q) (wW E z x (shU sh q (3, N, [])) S, x + q') := by
  subst e
  exact nwA_2 zq
theorem nwQ_5' (zq : zS S q) {q' : Nat} (e : q + 1 = q') {N : Nat} {K : Nat → xH → Option ρ} : nwQ (wW E z x sh S, x + q) 5 N K = K (x + q) (wW E z x (shU sh q (5, N, [])) S, x + q') := by
  subst e
  exact nwQ_5 zq
theorem gPn0 {ci k r : Nat} {fl fl' : List (Nat × Nat)} (hq : sh 0 = some (0, ci, fl)) (hk : Nat.blt k fl.length = true) (hf : fl.set k (1, r) = fl') {K : xH → Option ρ} : gP (wW E z x sh S, n) ci k x (.ref (x + r)) K = K (wW E z x (shU sh 0 (0, ci, fl')) S, n) := gPn (q := 0) hq hk hf
theorem gPi0 {ci k zq : Nat} {v : Int32} {fl : List (Nat × Nat)} (hq : sh 0 = some (0, ci, fl)) (hk : fl[k]? = some (0, zq)) {K : xH → Option ρ} : gP (wW E z x sh S, n) ci k x (.int v) K = K (wW E z x sh (sS S 0 k v), n) := gPi (q := 0) hq hk
theorem zS_fr {S' : xSt} {a b : Nat} (zq : zS S q) (f : frm a b S S') (h : b ≤ q) : zS S' q := fun j hj => by
  obtain ⟨z1, z2, z3, z4, z5⟩ := zq j hj
  obtain ⟨f1, f2⟩ := f.1 j (by omega)
  exact ⟨f1.trans z1, f2.trans z2, by rw [f.2]; exact z3, by rw [f.2]; exact z4, by rw [f.2]; exact z5⟩
theorem zS_S {p k : Nat} {v : Int32} (zq : zS S q) (h : p < q) : zS (sS S p k v) q := fun j hj => by
  obtain ⟨z1, z2, z3, z4, z5⟩ := zq j hj
  exact ⟨(funext fun i => sS_nq (by omega)).trans z1, z2, z3, z4, z5⟩
theorem sQ_g {a r N i : Nat} {l : List (Nat × Nat)} (hq : sh a = some (5, N, l)) (hl : l.length = i) (hi : i < N) (hN : N < 2 ^ 31) (hr : sh r = some (sh2 r)) {K : xH → Option ρ} : sQ E (wW E z x sh S, n) (x + a) (nI i) (x + r) K = K (wW E z x (shU sh a (5, N, l ++ [(0, r)])) S, n) := by
  have e : wW E z x sh S (x + a) = some (.inl (5, N, .inr (.inr (.inr (.inr fun i => (l[i]?).map fun f => x + f.2))))) := wW_at hq
  have hfit : xfits E (wW E z x sh S, n) 5 (x + r) = true := by
    unfold xfits
    show (match wW E z x sh S (x + r) with
      | some (.inr (c, _)) => Nat.beq c 2
      | _ => false) = true
    rw [wW_at hr]
    rfl
  have hc : (nI i).toNatClampNeg = i := nI_clamp (Nat.lt_trans hi hN)
  have hv : va_up (fun i => (l[i]?).map fun f => x + f.2) i (some (x + r)) = fun j => ((l ++ [(0, r)])[j]?).map fun f => x + f.2 := by
    funext j
    unfold va_up
    rcases Nat.lt_trichotomy j i with h | h | h
    · rw [if_neg (by omega), List.getElem?_append_left (by omega)]
    · subst h
      rw [if_pos rfl, List.getElem?_append_right (by omega), hl, Nat.sub_self]
      rfl
    · rw [if_neg (by omega), List.getElem?_append_right (by omega), List.getElem?_eq_none (l := [((0 : Nat), r)]) (show 1 ≤ j - l.length by omega)]
      show Option.map (fun f => x + f.2) l[j]? = none
      rw [List.getElem?_eq_none (show l.length ≤ j by omega)]
      rfl
  rw [← wW_new]
  show _ = K (xup (wW E z x sh S) (x + a) (.inl (5, N, .inr (.inr (.inr (.inr fun j => ((l ++ [(0, r)])[j]?).map fun f => x + f.2))))), n)
  rw [← hv]
  unfold sQ
  dsimp only
  rw [e]
  dsimp only
  rw [xin_nI hi hN, hfit, hc]
  rfl
/-- while the games are made: i of them stand -/
def JN (i : Nat) (sh : Nat → Option xSh) (S : xSt) : Prop :=
  sh 0 = some sh8 ∧ hI sh 1 ∧ hS6 sh ∧ hT sh 11 ∧ hG sh 14 ∧ (∃ l, sh 26 = some (5, 9, l) ∧ l.length = i ∧ ∀ j, j < i → (l[j]?).map Prod.snd = some (27 + 12 * j)) ∧ (∀ j, j < i → hG sh (27 + 12 * j)) ∧ (∀ j, 27 + 12 * i ≤ j → sh j = none) ∧ zS S (27 + 12 * i) ∧ (0 < i → pG S 27 (gNew 3)) ∧ (S.1 0 = fun _ => 0) ∧ S.1 1 1 = 0 ∧ S.1 1 9 = -1
theorem hG_cg {sh' : Nat → Option xSh} (h : hG sh q) (e : ∀ j, q ≤ j → j < q + 12 → sh' j = sh j) : hG sh' q := by
  obtain ⟨a0, a1, a2, a3, a4, a5, a6, a7, a8, a9, a10, a11⟩ := h
  exact ⟨(e _ (by omega) (by omega)).trans a0, (e _ (by omega) (by omega)).trans a1, (e _ (by omega) (by omega)).trans a2, (e _ (by omega) (by omega)).trans a3, (e _ (by omega) (by omega)).trans a4, (e _ (by omega) (by omega)).trans a5, (e _ (by omega) (by omega)).trans a6, (e _ (by omega) (by omega)).trans a7, (e _ (by omega) (by omega)).trans a8, (e _ (by omega) (by omega)).trans a9, (e _ (by omega) (by omega)).trans a10, (e _ (by omega) (by omega)).trans a11⟩
theorem lm_games (d : Nat) : ∀ k i sh S, i + k = 9 → JN i sh S → ∃ sh' S', qX10_init_59 E (d + 5) (26 + 12 * i) (2865 + 577 * i) x (nI i) (wW E z x sh S, x + (27 + 12 * i)) = some (.inl none, (wW E z x sh' S', x + 135)) ∧ JN 9 sh' S' := by
  intro k
  induction k with
  | zero =>
    intro i sh S hi J
    have hi : i = 9 := hi
    subst hi
    refine ⟨sh, S, ?_, J⟩
    obtain ⟨j0, _, _, _, _, ⟨l, hl, _⟩, _⟩ := J
    rw [QX10_init_59]
    simp (disch := omega) only [gR_8_4 j0, aN_w (k := 4) hl, iLE_t, QX10_init_87, cI_s, cL_s, cF_s, cD_s, cA_s, cV_s, nI_add, cond_true, cond_false, if_true, if_false]
  | succ k ih =>
    intro i sh S hi J
    obtain ⟨j0, j1, j2, j3, j4, ⟨l, hl, hn, hg⟩, j6, j7, j8, j9, j10, j11, j12⟩ := J
    obtain ⟨s1, S1, e1, g1, r1, f1, p1⟩ := n2 (E := E) (z := z) (x := x) (sh := shU sh (27 + 12 * i) nh2) (q := 27 + 12 * i) (S := S) shU_s (zS_mo j8 (by omega)) d
    have r1 : ∀ j, j < 27 + 12 * i ∨ 27 + 12 * i + 12 ≤ j → s1 j = sh j := fun j hj => (r1 j hj).trans (shU_n (by omega))
    have hl1 : s1 26 = some (5, 9, l) := (r1 26 (by omega)).trans hl
    have e2 : ∀ j, j ≠ 26 → (j < 27 + 12 * i ∨ 27 + 12 * i + 12 ≤ j) → shU s1 26 (5, 9, l ++ [(0, 27 + 12 * i)]) j = sh j := fun j a b => (shU_n a).trans (r1 j b)
    have J' : JN (i + 1) (shU s1 26 (5, 9, l ++ [(0, 27 + 12 * i)])) S1 := by
      refine ⟨(e2 0 (by omega) (by omega)).trans j0, ⟨(e2 1 (by omega) (by omega)).trans j1.1, (e2 2 (by omega) (by omega)).trans j1.2.1, (e2 3 (by omega) (by omega)).trans j1.2.2.1, (e2 4 (by omega) (by omega)).trans j1.2.2.2.1, (e2 5 (by omega) (by omega)).trans j1.2.2.2.2⟩, ⟨(e2 6 (by omega) (by omega)).trans j2.1, (e2 7 (by omega) (by omega)).trans j2.2.1, (e2 8 (by omega) (by omega)).trans j2.2.2.1, (e2 9 (by omega) (by omega)).trans j2.2.2.2.1, (e2 10 (by omega) (by omega)).trans j2.2.2.2.2⟩, ⟨(e2 11 (by omega) (by omega)).trans j3.1, (e2 12 (by omega) (by omega)).trans j3.2.1, (e2 13 (by omega) (by omega)).trans j3.2.2⟩, hG_cg j4 (fun j a b => e2 j (by omega) (by omega)), ⟨_, shU_s, by rw [List.length_append, hn]; rfl, fun j hj => ?_⟩, fun j hj => ?_, fun j hj => (e2 j (by omega) (by omega)).trans (j7 j (by omega)), zS_mo (zS_fr (zS_mo j8 (show 27 + 12 * i ≤ 27 + 12 * i + 12 by omega)) f1 (Nat.le_refl _)) (by omega), fun _ => ?_, ?_, ?_, ?_⟩
      · by_cases c : j < i
        · rw [List.getElem?_append_left (by omega)]
          exact hg j c
        · have c : j = i := by omega
          subst c
          rw [List.getElem?_append_right (by omega), hn, Nat.sub_self]
          rfl
      · by_cases c : j < i
        · exact hG_cg (j6 j c) (fun zq a b => e2 zq (by omega) (by omega))
        · have c : j = i := by omega
          subst c
          exact hG_cg g1 (fun zq a b => shU_n (by omega))
      · by_cases c : i = 0
        · subst c
          exact p1
        · exact pG_fr f1 (by omega) (j9 (by omega))
      · exact ((f1.1 0 (by omega)).1).trans j10
      · exact (frm_1 f1 (by omega)).trans j11
      · exact (frm_1 f1 (by omega)).trans j12
    obtain ⟨sh', S', e3, J9⟩ := ih (i + 1) _ S1 (by omega) J'
    refine ⟨sh', S', ?_, J9⟩
    rw [← e3, QX10_init_59]
    simp (disch := omega) only [gR_8_4 j0, aN_w (k := 4) hl, iLE_f, ble_t, Bool.and_self, cI_s, cL_s, cF_s, cD_s, cA_s, cV_s, nI_add, cond_true, cond_false, if_true, if_false]
    rw [nwO_2 (zS_mo j8 (Nat.le_refl _)), gO_n2, e1, cV_s, sQ_g hl1 hn (by omega) (by omega) g1.1]
    rw [show 26 + 12 * i + 1 + 11 = 26 + 12 * (i + 1) by omega, show 2865 + 577 * i + 9 + 568 = 2865 + 577 * (i + 1) by omega, show 27 + 12 * i + 12 = 27 + 12 * (i + 1) by omega]
/-- the class's object -/
theorem C_new (d : Nat) : ∃ sh S, xsem xT E (d + 6) kX10_init [.ref x] (wW E z x (shU (fun _ => none) 0 nh8) zst, x + 1) = some (.inl none, (wW E z x sh S, x + 135)) ∧ hC sh ∧ (∀ j, 135 ≤ j → sh j = none) ∧ pG S 27 (gNew 3) ∧ (S.1 0 = fun _ => 0) ∧ S.1 1 1 = 0 ∧ S.1 1 9 = -1 := by
  obtain ⟨t0, ht0⟩ : ∃ t, t = shU (fun _ => (none : Option xSh)) 0 nh8 := ⟨_, rfl⟩
  have c0 : t0 0 = some nh8 := by rw [ht0]; exact shU_s
  have m0 : ∀ j, 1 ≤ j → t0 j = none := fun j hj => by rw [ht0]; exact shU_n (by omega)
  have z1 : zS zst 2 := zS_z
  obtain ⟨s1, e1, a1, a2, a3, a4, a5, r1⟩ := n3 (E := E) (z := z) (x := x) (sh := shU t0 1 nh3) (q := 1) (S := zst) shU_s z1 (d + 4)
  obtain ⟨S1, hS1⟩ : ∃ t, t = sS zst 1 9 (-1) := ⟨_, rfl⟩
  rw [← hS1] at e1
  have zz1 : zS S1 2 := by rw [hS1]; exact zS_S z1 (by omega)
  have b1 : s1 0 = some (0, 8, [(3, 0), (3, 0), (3, 0), (3, 0), (3, 0), (0, 0), (0, 0)]) := (r1 0 (by omega)).trans ((shU_n (by omega)).trans c0)
  obtain ⟨t1, ht1⟩ : ∃ t, t = shU s1 0 (0, 8, [(1, 1), (3, 0), (3, 0), (3, 0), (3, 0), (0, 0), (0, 0)]) := ⟨_, rfl⟩
  have c1 : t1 0 = some (0, 8, [(1, 1), (3, 0), (3, 0), (3, 0), (3, 0), (0, 0), (0, 0)]) := by rw [ht1]; exact shU_s
  have k1 : ∀ j, 1 ≤ j → t1 j = s1 j := fun j hj => by rw [ht1]; exact shU_n (by omega)
  obtain ⟨s2, e2, g1, g2, g3, g4, g5, r2⟩ := n6 (E := E) (z := z) (x := x) (sh := shU t1 6 nh6) (q := 6) (S := S1) shU_s (zS_mo zz1 (by omega)) (d + 4)
  have b2 : s2 0 = some (0, 8, [(1, 1), (3, 0), (3, 0), (3, 0), (3, 0), (0, 0), (0, 0)]) := (r2 0 (by omega)).trans ((shU_n (by omega)).trans c1)
  obtain ⟨t2, ht2⟩ : ∃ t, t = shU s2 0 (0, 8, [(1, 1), (1, 6), (3, 0), (3, 0), (3, 0), (0, 0), (0, 0)]) := ⟨_, rfl⟩
  have c2 : t2 0 = some (0, 8, [(1, 1), (1, 6), (3, 0), (3, 0), (3, 0), (0, 0), (0, 0)]) := by rw [ht2]; exact shU_s
  have k2 : ∀ j, 1 ≤ j → t2 j = s2 j := fun j hj => by rw [ht2]; exact shU_n (by omega)
  obtain ⟨s3, e3, hT3, r3⟩ := n7 (E := E) (z := z) (x := x) (sh := shU t2 11 nh7) (q := 11) (S := S1) shU_s (zS_mo zz1 (by omega)) (d + 3)
  have b3 : s3 0 = some (0, 8, [(1, 1), (1, 6), (3, 0), (3, 0), (3, 0), (0, 0), (0, 0)]) := (r3 0 (by omega)).trans ((shU_n (by omega)).trans c2)
  obtain ⟨t3, ht3⟩ : ∃ t, t = shU s3 0 (0, 8, [(1, 1), (1, 6), (1, 11), (3, 0), (3, 0), (0, 0), (0, 0)]) := ⟨_, rfl⟩
  have c3 : t3 0 = some (0, 8, [(1, 1), (1, 6), (1, 11), (3, 0), (3, 0), (0, 0), (0, 0)]) := by rw [ht3]; exact shU_s
  have k3 : ∀ j, 1 ≤ j → t3 j = s3 j := fun j hj => by rw [ht3]; exact shU_n (by omega)
  obtain ⟨s4, S4, e4, hG4, r4, f4, p4⟩ := n2 (E := E) (z := z) (x := x) (sh := shU t3 14 nh2) (q := 14) (S := S1) shU_s (zS_mo zz1 (by omega)) d
  have b4 : s4 0 = some (0, 8, [(1, 1), (1, 6), (1, 11), (3, 0), (3, 0), (0, 0), (0, 0)]) := (r4 0 (by omega)).trans ((shU_n (by omega)).trans c3)
  obtain ⟨t4, ht4⟩ : ∃ t, t = shU s4 0 (0, 8, [(1, 1), (1, 6), (1, 11), (1, 14), (3, 0), (0, 0), (0, 0)]) := ⟨_, rfl⟩
  have c4 : t4 0 = some (0, 8, [(1, 1), (1, 6), (1, 11), (1, 14), (3, 0), (0, 0), (0, 0)]) := by rw [ht4]; exact shU_s
  have k4 : ∀ j, 1 ≤ j → t4 j = s4 j := fun j hj => by rw [ht4]; exact shU_n (by omega)
  have z4 : zS S4 26 := zS_fr (zS_mo zz1 (by omega)) f4 (Nat.le_refl _)
  obtain ⟨t5, ht5⟩ : ∃ t, t = shU (shU t4 26 (5, 9, [])) 0 sh8 := ⟨_, rfl⟩
  have k5 : ∀ j, 1 ≤ j → j ≠ 26 → t5 j = t4 j := fun j hj h => by rw [ht5]; exact (shU_n (by omega)).trans (shU_n h)
  have q4 : ∀ j, 1 ≤ j → (j < 14 ∨ 26 < j) → t5 j = t3 j := fun j a b => (k5 j a (by omega)).trans ((k4 j a).trans ((r4 j (by omega)).trans (shU_n (by omega))))
  have q3 : ∀ j, 1 ≤ j → (j < 11 ∨ 26 < j) → t5 j = t2 j := fun j a b => (q4 j a (by omega)).trans ((k3 j a).trans ((r3 j (by omega)).trans (shU_n (by omega))))
  have q2 : ∀ j, 1 ≤ j → (j < 6 ∨ 26 < j) → t5 j = t1 j := fun j a b => (q3 j a (by omega)).trans ((k2 j a).trans ((r2 j (by omega)).trans (shU_n (by omega))))
  have q1 : ∀ j, 26 < j → t5 j = t0 j := fun j b => (q2 j (by omega) (by omega)).trans ((k1 j (by omega)).trans ((r1 j (by omega)).trans (shU_n (by omega))))
  have u1 : ∀ j, 1 ≤ j → j < 6 → t5 j = s1 j := fun j a b => (q2 j a (by omega)).trans (k1 j a)
  have u2 : ∀ j, 1 ≤ j → j < 11 → t5 j = s2 j := fun j a b => (q3 j a (by omega)).trans (k2 j a)
  have u3 : ∀ j, 1 ≤ j → j < 14 → t5 j = s3 j := fun j a b => (q4 j a (by omega)).trans (k3 j a)
  have u4 : ∀ j, 1 ≤ j → j ≠ 26 → t5 j = s4 j := fun j a b => (k5 j a b).trans (k4 j a)
  have J : JN 0 t5 S4 := by
    refine ⟨by rw [ht5]; exact shU_s, ⟨(u1 1 (by omega) (by omega)).trans a1, (u1 2 (by omega) (by omega)).trans a2, (u1 3 (by omega) (by omega)).trans a3, (u1 4 (by omega) (by omega)).trans a4, (u1 5 (by omega) (by omega)).trans a5⟩, ⟨(u2 6 (by omega) (by omega)).trans g1, (u2 7 (by omega) (by omega)).trans g2, (u2 8 (by omega) (by omega)).trans g3, (u2 9 (by omega) (by omega)).trans g4, (u2 10 (by omega) (by omega)).trans g5⟩, ⟨(u3 11 (by omega) (by omega)).trans hT3.1, (u3 12 (by omega) (by omega)).trans hT3.2.1, (u3 13 (by omega) (by omega)).trans hT3.2.2⟩, hG_cg hG4 (fun j a b => u4 j (by omega) (by omega)), ⟨[], by rw [ht5]; exact (shU_n (by omega)).trans shU_s, rfl, fun j hj => absurd hj (Nat.not_lt_zero j)⟩, fun j hj => absurd hj (Nat.not_lt_zero j), fun j hj => (q1 j (by omega)).trans (m0 j (by omega)), zS_mo z4 (by omega), fun h => absurd h (Nat.lt_irrefl 0), ?_, ?_, ?_⟩
    · rw [(f4.1 0 (by omega)).1, hS1]
      exact funext fun k => sS_nq (by omega)
    · rw [frm_1 f4 (by omega), hS1, sS_n (by omega)]
      rfl
    · rw [frm_1 f4 (by omega), hS1, sS_s]
  obtain ⟨sh, S, e5, j0, j1, j2, j3, j4, ⟨l, hl, hn, hg⟩, j6, j7, j8, j9, j10, j11, j12⟩ := lm_games (E := E) (z := z) (x := x) d 9 0 t5 S4 (by omega) J
  refine ⟨sh, S, ?_, ⟨j0, j1, j2, j3, j4, ⟨l, hl, hg⟩, j6⟩, fun j hj => j7 j (by omega), j9 (by omega), j10, j11, j12⟩
  rw [eX10_init, QX10_init_0, ← ht0]
  simp (disch := omega) only [ble_t, Bool.and_self, cI_s, cL_s, cF_s, cD_s, cA_s, cV_s, nI_add, cond_true, cond_false, if_true, if_false]
  rw [nw3' (q := 1) (q' := 2) zS_z rfl, gO_n3, show xsem xT E (d + 5) kX3_init [.ref (x + 1)] (wW E z x (shU t0 1 nh3) zst, x + 2) = some (.inl none, (wW E z x s1 S1, x + 6)) from e1, cV_s, gPn0 (fl := [(3, 0), (3, 0), (3, 0), (3, 0), (3, 0), (0, 0), (0, 0)]) (fl' := [(1, 1), (3, 0), (3, 0), (3, 0), (3, 0), (0, 0), (0, 0)]) (k := 0) (r := 1) b1 rfl rfl, ← ht1]
  rw [nw6' (q := 6) (q' := 7) (zS_mo zz1 (by omega)) rfl, gO_n6, show xsem xT E (d + 5) kX6_init [.ref (x + 6)] (wW E z x (shU t1 6 nh6) S1, x + 7) = some (.inl none, (wW E z x s2 S1, x + 11)) from e2, cV_s, gPn0 (fl := [(1, 1), (3, 0), (3, 0), (3, 0), (3, 0), (0, 0), (0, 0)]) (fl' := [(1, 1), (1, 6), (3, 0), (3, 0), (3, 0), (0, 0), (0, 0)]) (k := 1) (r := 6) b2 rfl rfl, ← ht2]
  rw [nw7' (q := 11) (q' := 12) (zS_mo zz1 (by omega)) rfl, gO_n7, show xsem xT E (d + 5) kX9_init [.ref (x + 11)] (wW E z x (shU t2 11 nh7) S1, x + 12) = some (.inl none, (wW E z x s3 S1, x + 14)) from e3, cV_s, gPn0 (fl := [(1, 1), (1, 6), (3, 0), (3, 0), (3, 0), (0, 0), (0, 0)]) (fl' := [(1, 1), (1, 6), (1, 11), (3, 0), (3, 0), (0, 0), (0, 0)]) (k := 2) (r := 11) b3 rfl rfl, ← ht3]
  rw [nw2' (q := 14) (q' := 15) (zS_mo zz1 (by omega)) rfl, gO_n2, show xsem xT E (d + 5) kX2_init [.ref (x + 14)] (wW E z x (shU t3 14 nh2) S1, x + 15) = some (.inl none, (wW E z x s4 S4, x + 26)) from e4, cV_s, gPn0 (fl := [(1, 1), (1, 6), (1, 11), (3, 0), (3, 0), (0, 0), (0, 0)]) (fl' := [(1, 1), (1, 6), (1, 11), (1, 14), (3, 0), (0, 0), (0, 0)]) (k := 3) (r := 14) b4 rfl rfl, ← ht4]
  rw [nwQ_5' (q := 26) (q' := 27) z4 rfl, gPn0 (fl := [(1, 1), (1, 6), (1, 11), (1, 14), (3, 0), (0, 0), (0, 0)]) (fl' := [(1, 1), (1, 6), (1, 11), (1, 14), (1, 26), (0, 0), (0, 0)]) (k := 4) (r := 26) ((shU_n (q := 26) (j := 0) (by omega)).trans c4) rfl rfl, show shU (shU t4 26 (5, 9, [])) 0 (0, 8, [(1, 1), (1, 6), (1, 11), (1, 14), (1, 26), (0, 0), (0, 0)]) = t5 from ht5.symm]
  exact e5
end IN2
