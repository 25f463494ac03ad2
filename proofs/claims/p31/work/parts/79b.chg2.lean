/-! CALLS THAT CHANGE: steps and looks. -/
section CH2
variable {E : xEn} {z : Nat → Option va_E} {x y n m : Nat} {sh : Nat → Option xSh} {S M : xSt} {Bd : Nat}
theorem c_moveBall {w d0 k0 : Nat} (hc : hC sh) (hw : w < 9) {S1 S2 : xSt} {to : Nat} {g' : Nat → Nat} (a1 : xsem xT E (d0 + 5) kX10_change [.ref x] (wW E z x sh S, n) = some (.inl (some (.ref (x + (27 + 12 * ((w + 1) % 9))))), (wW E z x sh S1, n))) (f1 : xsem xT E (d0 + 5) kX2_makeStill [.ref (x + (27 + 12 * ((w + 1) % 9))), .int (nI to)] (wW E z x sh S1, n) = some (.inl (some (.int (nI k0))), (wW E z x sh S2, n))) (P2 : pG S2 (27 + 12 * ((w + 1) % 9)) g') (I' : iG g') : xsem xT E (d0 + 6) kX10_moveBall [.ref x, .int (nI to)] (wW E z x sh S, n) = some (.inl (some (.int (nI (mSum (gF g') (g' 0 + 1))))), (wW E z x sh S2, n)) := by
  have hw' : (w + 1) % 9 < 9 := Nat.mod_lt _ (by omega)
  have b0 := hc.1
  have hG' := hc.2.2.2.2.2.2 _ hw'
  have b2' := hG'.1
  have b4' := hG'.2.2.2.2.1
  have b41' : sh (27 + 12 * ((w + 1) % 9) + 4 + 1) = some (1, 9, []) := hG'.2.2.2.2.2.1
  have h8 := I'.1.2.1
  have hsm := s4_sum (E := E) (z := z) (x := x) (n := n) (S := S2) (f := gF g') (pl := g' 0 + 1) b4' b41' P2.2.1.1 (by omega) (fun p hp => P2.2.1.2.2.2.2 p (by omega)) (d0 + 4)
  rw [eX10_moveBall, QX10_moveBall_0]
  simp (disch := omega) only [gO_8 b0, gR_8_0 b0, gR_8_1 b0, gR_8_2 b0, gR_8_3 b0, gR_8_4 b0, gI_8_5 b0, gP_8_5 b0, gI_8_6 b0, gP_8_6 b0, cI_s, cL_s, cF_s, cD_s, cA_s, cV_s, nI_add, cond_true, cond_false, if_true, if_false]
  rw [a1]
  simp (disch := omega) only [gO_2 b2', gR_2_0 b2', gR_2_1 b2', gR_2_2 b2', gR_2_3 b2', gI_2_4 b2', gP_2_4 b2', gI_2_5 b2', gP_2_5 b2', gI_2_6 b2', gP_2_6 b2', gI_2_7 b2', gP_2_7 b2', gI_2_8 b2', gP_2_8 b2', cI_s, cL_s, cF_s, cD_s, cA_s, cV_s, nI_add, cond_true, cond_false, if_true, if_false]
  rw [f1]
  simp (disch := omega) only [gO_2 b2', gR_2_0 b2', gR_2_1 b2', gR_2_2 b2', gR_2_3 b2', gI_2_4 b2', gP_2_4 b2', gI_2_5 b2', gP_2_5 b2', gI_2_6 b2', gP_2_6 b2', gI_2_7 b2', gP_2_7 b2', gI_2_8 b2', gP_2_8 b2', gO_4 b4', gR_4_0 b4', gI_4_1 b4', gP_4_1 b4', gI_4_2 b4', gP_4_2 b4', gI_4_3 b4', gP_4_3 b4', gI_4_4 b4', gP_4_4 b4', cI_s, cL_s, cF_s, cD_s, cA_s, cV_s, nI_add, cond_true, cond_false, if_true, if_false]
  rw [hsm]
  simp (disch := omega) only [cI_s, cL_s, cF_s, cD_s, cA_s, cV_s, nI_add, cond_true, cond_false, if_true, if_false]
end CH2
