/-! TEXTS piece by piece: what is from a place on. -/
def sfx (tx : Nat → Nat) (L p : Nat) (u : List Nat) : Prop := p + u.length = L ∧ ∀ i, i < u.length → tx (p + i) = u.getD i 0
/-- what is behind: nothing, or no letter of that kind first -/
def hd (k : Nat) (u : List Nat) : Prop := u.length = 0 ∨ kd (u.getD 0 0) ≠ k
section SFX
variable {tx : Nat → Nat} {L p : Nat}
theorem sfx_0 {c : Nat} {u : List Nat} (h : sfx tx L p (c :: u)) : p < L ∧ tx p = c := by
  have h1 := h.1
  have h2 := h.2 0 (Nat.zero_lt_succ _)
  rw [List.length_cons] at h1
  exact ⟨by omega, h2⟩
theorem sfx_s {c : Nat} {u : List Nat} (h : sfx tx L p (c :: u)) : sfx tx L (p + 1) u := by
  refine ⟨by have := h.1; rw [List.length_cons] at this; omega, fun i hi => ?_⟩
  have := h.2 (i + 1) (by rw [List.length_cons]; omega)
  rw [show p + 1 + i = p + (i + 1) by omega, this]
  rfl
theorem sfx_a : ∀ (r : List Nat) {u : List Nat} {p : Nat}, sfx tx L p (r ++ u) → sfx tx L (p + r.length) u := by
  intro r
  induction r with
  | nil => exact fun h => h
  | cons c r ih =>
    intro u p h
    have := ih (sfx_s h)
    rw [List.length_cons, show p + (r.length + 1) = p + 1 + r.length by omega]
    exact this
theorem sfx_hd {k : Nat} {u : List Nat} (h : sfx tx L p u) (hu : hd k u) : ¬ (p < L ∧ kd (tx p) = k) := by
  rintro ⟨h1, h2⟩
  have h3 := h.1
  have h4 := h.2 0 (by omega)
  rw [Nat.add_zero] at h4
  rcases hu with hu | hu
  · omega
  · exact hu (h4 ▸ h2)
theorem sfx_ru (hL : L ≤ 500) {k : Nat} : ∀ (r : List Nat) {u : List Nat} {p : Nat}, sfx tx L p (r ++ u) → (∀ c ∈ r, kd c = k) → hd k u → ru tx L k 500 p = p + r.length := by
  intro r
  induction r with
  | nil =>
    intro u p h _ hu
    exact ru_fix (sfx_hd h hu)
  | cons c r ih =>
    intro u p h hr hu
    obtain ⟨h1, h2⟩ := sfx_0 h
    rw [ru_step hL ⟨h1, by rw [h2]; exact hr c List.mem_cons_self⟩, ih (sfx_s h) (fun c hc => hr c (List.mem_cons_of_mem _ hc)) hu, List.length_cons]
    omega
/-- the next token behind a blank, or at once -/
theorem sfx_nx0 {u : List Nat} (h : sfx tx L p u) (hu : hd 0 u) : nx tx L p = p := ru_fix (sfx_hd h hu)
theorem sfx_nx1 (hL : L ≤ 500) {u : List Nat} (h : sfx tx L p (32 :: u)) (hu : hd 0 u) : nx tx L p = p + 1 := sfx_ru hL [32] h (fun c hc => by rw [List.mem_singleton.1 hc]; rfl) hu
/-- a word -/
theorem sfx_wd (hL : L ≤ 500) {i : Nat} (hi : i < 29) (h3 : 3 ≤ i) {r u : List Nat} (hr : r.map nI = xtx (xtt i)) (h0 : r ≠ []) (hk : ∀ c ∈ r, kd c = 2 ∧ c < 128) (h : sfx tx L p (r ++ 32 :: u)) (hu : hd 0 u) :
    tk tx L p = i ∧ ad tx L p = p + r.length + 1 := by
  obtain ⟨c, r', rfl⟩ := List.exists_cons_of_ne_nil h0
  obtain ⟨p1, p2⟩ := sfx_0 h
  have hkp : kd (tx p) = 2 := by rw [p2]; exact (hk c List.mem_cons_self).1
  have hen : en tx L p = p + (c :: r').length := by
    unfold en
    rw [hkp, if_neg (by omega)]
    exact sfx_ru hL (c :: r') h (fun c hc => (hk c hc).1) (Or.inr (by show kd 32 ≠ 2; decide))
  refine ⟨(tk_W hL p1 (by omega) hi h3).2 ⟨?_, (sp_at _ _).2 fun j hj => ?_⟩, ?_⟩
  · rw [hen, ← hr, List.length_map]
    omega
  · rw [← hr, List.length_map] at hj
    have e := h.2 j (by rw [List.length_append]; omega)
    have hm : (c :: r').getD j 0 ∈ c :: r' := by
      rw [List.getD_eq_getElem?_getD, List.getElem?_eq_getElem hj]
      exact List.getElem_mem _
    rw [getD_app1 hj] at e
    rw [e, ← hr, (sx_eq (by have := (hk _ hm).2; omega) (hk _ hm).2).2 rfl]
    rw [List.getD_eq_getElem?_getD, List.getD_eq_getElem?_getD, List.getElem?_map, List.getElem?_eq_getElem hj]
    rfl
  · unfold ad
    rw [if_pos p1, hen, sfx_nx1 hL (sfx_a (c :: r') h) hu]
/-- a sign -/
theorem sfx_sg (hL : L ≤ 500) (ht : ∀ i, i < L → tx i < 256) {u : List Nat} (h : sfx tx L p (59 :: u)) (hu : hd 0 u) : tk tx L p = 3 ∧ ad tx L p = p + 1 := by
  obtain ⟨p1, p2⟩ := sfx_0 h
  refine ⟨(tk_sg hL ht (by omega) (Nat.le_refl _)).2 ⟨p1, p2⟩, ?_⟩
  rw [← sg_ad p1 (show 3 < 10 by omega) p2]
  exact sfx_nx0 (sfx_s h) hu
theorem dg_kd {k : Nat} (h : k < 100) : ∀ c ∈ dg k, kd c = 1 := by
  unfold dg
  intro c hc
  have : 48 ≤ c ∧ c ≤ 57 := by
    split at hc
    · rw [List.mem_singleton.1 hc]; omega
    · simp only [List.mem_cons, List.not_mem_nil, or_false] at hc
      omega
  unfold kd
  rw [if_neg (by omega), if_pos this]
/-- a number; what is behind it is no digit -/
theorem sfx_nu (hL : L ≤ 500) {k : Nat} (hk : k < 100) {u : List Nat} (h : sfx tx L p (dg k ++ u)) (hu : hd 1 u) : tk tx L p = 1 ∧ nu tx L p = k ∧ ad tx L p = nx tx L (p + (dg k).length) := by
  have hne : dg k ≠ [] := by unfold dg; split <;> exact List.cons_ne_nil _ _
  have hru := sfx_ru hL (dg k) h (dg_kd hk) hu
  have hall : ∀ j, j < (dg k).length → tx (p + j) = (dg k).getD j 0 := fun j hj => by rw [h.2 j (by rw [List.length_append]; omega), getD_app1 hj]
  have h0 : 0 < (dg k).length := List.length_pos_iff.2 hne
  have p1 : p < L := by have := h.1; rw [List.length_append] at this; omega
  have hkp : kd (tx p) = 1 := by
    have := hall 0 h0
    rw [Nat.add_zero] at this
    rw [this]
    refine dg_kd hk _ ?_
    rw [List.getD_eq_getElem?_getD, List.getElem?_eq_getElem h0]
    exact List.getElem_mem _
  have hen : en tx L p = p + (dg k).length := by
    unfold en
    rw [hkp, if_neg (by omega)]
    exact hru
  refine ⟨(tk_1 hL).2 ⟨p1, hkp⟩, ?_, ?_⟩
  · unfold nu
    rw [if_pos p1, if_pos hkp, hen, Nat.add_sub_cancel_left]
    unfold dg at hall ⊢
    by_cases c : k < 10
    · rw [if_pos c] at hall ⊢
      have e := hall 0 (Nat.zero_lt_succ _)
      rw [Nat.add_zero] at e
      show (if 10000 < 0 * 10 + (tx p - 48) then 10000 else 0 * 10 + (tx p - 48)) = k
      rw [e]
      show (if 10000 < 0 * 10 + (48 + k - 48) then 10000 else 0 * 10 + (48 + k - 48)) = k
      rw [if_neg (by omega)]
      omega
    · rw [if_neg c] at hall ⊢
      have e := hall 0 (show 0 < 2 by omega)
      have e1 := hall 1 (show 1 < 2 by omega)
      rw [Nat.add_zero] at e
      show nC tx 1 (p + 1) (if 10000 < 0 * 10 + (tx p - 48) then 10000 else 0 * 10 + (tx p - 48)) = k
      rw [e]
      show (if 10000 < (if 10000 < 0 * 10 + (48 + k / 10 - 48) then 10000 else 0 * 10 + (48 + k / 10 - 48)) * 10 + (tx (p + 1) - 48) then 10000 else (if 10000 < 0 * 10 + (48 + k / 10 - 48) then 10000 else 0 * 10 + (48 + k / 10 - 48)) * 10 + (tx (p + 1) - 48)) = k
      rw [e1]
      show (if 10000 < (if 10000 < 0 * 10 + (48 + k / 10 - 48) then 10000 else 0 * 10 + (48 + k / 10 - 48)) * 10 + (48 + k % 10 - 48) then 10000 else (if 10000 < 0 * 10 + (48 + k / 10 - 48) then 10000 else 0 * 10 + (48 + k / 10 - 48)) * 10 + (48 + k % 10 - 48)) = k
      rw [if_neg (show ¬ 10000 < 0 * 10 + (48 + k / 10 - 48) by omega), if_neg (by omega)]
      omega
  · unfold ad
    rw [if_pos p1, hen]
/-- word, number, sign -/
theorem sfx_wns (hL : L ≤ 500) (ht : ∀ i, i < L → tx i < 256) {i : Nat} (hi : i < 29) (h3 : 3 ≤ i) {r u : List Nat} (hr : r.map nI = xtx (xtt i)) (h0 : r ≠ []) (hk : ∀ c ∈ r, kd c = 2 ∧ c < 128) {v : Nat} (hv : v < 100) (h : sfx tx L p (r ++ 32 :: (dg v ++ 59 :: u))) (hu : hd 0 u) :
    tk tx L p = i ∧ tk tx L (ad tx L p) = 1 ∧ nu tx L (ad tx L p) = v ∧ tk tx L (ad tx L (ad tx L p)) = 3 ∧ sfx tx L (ad tx L (ad tx L (ad tx L p))) u := by
  have hd0 : hd 0 (dg v ++ 59 :: u) := by
    refine Or.inr ?_
    have h0 : 0 < (dg v).length := List.length_pos_iff.2 (by unfold dg; split <;> exact List.cons_ne_nil _ _)
    rw [getD_app1 h0]
    have := dg_kd hv ((dg v).getD 0 0) (by
      rw [List.getD_eq_getElem?_getD, List.getElem?_eq_getElem h0]
      exact List.getElem_mem _)
    omega
  obtain ⟨a1, a2⟩ := sfx_wd hL hi h3 hr h0 hk h hd0
  have s1 : sfx tx L (p + r.length + 1) (dg v ++ 59 :: u) := sfx_s (sfx_a r h)
  obtain ⟨b1, b2, b3⟩ := sfx_nu hL hv s1 (Or.inr (by show kd 59 ≠ 1; decide))
  have s2 : sfx tx L (p + r.length + 1 + (dg v).length) (59 :: u) := sfx_a (dg v) s1
  rw [sfx_nx0 s2 (Or.inr (by show kd 59 ≠ 0; decide))] at b3
  obtain ⟨c1, c2⟩ := sfx_sg hL ht s2 hu
  rw [a2]
  refine ⟨a1, b1, b2, ?_, ?_⟩
  · rw [b3]; exact c1
  · rw [b3, c2]; exact sfx_s s2
/-- word, two numbers, sign -/
theorem sfx_wnns (hL : L ≤ 500) (ht : ∀ i, i < L → tx i < 256) {i : Nat} (hi : i < 29) (h3 : 3 ≤ i) {r u : List Nat} (hr : r.map nI = xtx (xtt i)) (h0 : r ≠ []) (hk : ∀ c ∈ r, kd c = 2 ∧ c < 128) {v v' : Nat} (hv : v < 100) (hv' : v' < 100) (h : sfx tx L p (r ++ 32 :: (dg v ++ 32 :: (dg v' ++ 59 :: u)))) (hu : hd 0 u) :
    tk tx L p = i ∧ tk tx L (ad tx L p) = 1 ∧ nu tx L (ad tx L p) = v ∧ tk tx L (ad tx L (ad tx L p)) = 1 ∧ nu tx L (ad tx L (ad tx L p)) = v' ∧ tk tx L (ad tx L (ad tx L (ad tx L p))) = 3 ∧ sfx tx L (ad tx L (ad tx L (ad tx L (ad tx L p)))) u := by
  have hd0 : ∀ v, v < 100 → ∀ u, hd 0 (dg v ++ u) := by
    intro v hv u
    refine Or.inr ?_
    have h0 : 0 < (dg v).length := List.length_pos_iff.2 (by unfold dg; split <;> exact List.cons_ne_nil _ _)
    rw [getD_app1 h0]
    have := dg_kd hv ((dg v).getD 0 0) (by
      rw [List.getD_eq_getElem?_getD, List.getElem?_eq_getElem h0]
      exact List.getElem_mem _)
    omega
  obtain ⟨a1, a2⟩ := sfx_wd hL hi h3 hr h0 hk h (hd0 v hv _)
  have s1 : sfx tx L (p + r.length + 1) (dg v ++ 32 :: (dg v' ++ 59 :: u)) := sfx_s (sfx_a r h)
  obtain ⟨b1, b2, b3⟩ := sfx_nu hL hv s1 (Or.inr (by show kd 32 ≠ 1; decide))
  have s2 : sfx tx L (p + r.length + 1 + (dg v).length) (32 :: (dg v' ++ 59 :: u)) := sfx_a (dg v) s1
  rw [sfx_nx1 hL s2 (hd0 v' hv' _)] at b3
  have s3 : sfx tx L (p + r.length + 1 + (dg v).length + 1) (dg v' ++ 59 :: u) := sfx_s s2
  obtain ⟨d1, d2, d3⟩ := sfx_nu hL hv' s3 (Or.inr (by show kd 59 ≠ 1; decide))
  have s4 : sfx tx L (p + r.length + 1 + (dg v).length + 1 + (dg v').length) (59 :: u) := sfx_a (dg v') s3
  rw [sfx_nx0 s4 (Or.inr (by show kd 59 ≠ 0; decide))] at d3
  obtain ⟨c1, c2⟩ := sfx_sg hL ht s4 hu
  rw [a2]
  refine ⟨a1, b1, b2, ?_, ?_, ?_, ?_⟩
  · rw [b3]; exact d1
  · rw [b3]; exact d2
  · rw [b3, d3]; exact c1
  · rw [b3, d3, c2]; exact sfx_s s4
theorem sfx_end {u : List Nat} (hL : L ≤ 500) (h : sfx tx L p []) : tk tx L p = 0 := (tk_0 hL).2 (by have := h.1; simp at this; omega)
end SFX
