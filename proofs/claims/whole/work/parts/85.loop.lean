/-! THE LAW'S LOOP. -/
theorem lp_and (a : Int32) : ∃ v, v < 32 ∧ a &&& 31 = nI v := by
  refine ⟨(a.toBitVec &&& 31#32).toNat, ?_, ?_⟩
  · rw [BitVec.toNat_and]
    exact Nat.lt_of_le_of_lt Nat.and_le_right (by decide)
  · apply Int32.toBitVec_inj.mp
    show a.toBitVec &&& 31#32 = BitVec.ofNat 32 (a.toBitVec &&& 31#32).toNat
    rw [BitVec.ofNat_toNat, BitVec.setWidth_eq]
theorem lp_gt {N i : Nat} (hN : N ≤ 3072) (hi : i ≤ 4000) : nI N - 6 < nI i ↔ N < i + 6 := by
  have h6 : (6 : Int32).toInt = 6 := by decide
  rw [Int32.lt_iff_toInt_lt, Int32.toInt_sub, nI_toInt (by omega), nI_toInt (by omega), h6, Int.bmod_def]
  split <;> omega
section LR
variable {p : Program} {l : Launch} {e : Env} {s : State} {m : MethodId} {args : Array Value} {below : List Frame} {meth : Method} {c : Code}
variable {lds : xLds} {exs : List (String × Nat × String)} {G : xG} {E : xEn} {A : Nat → Prop} {d MC MS nL : Nat} {call : Nat → List Value → xH → Option xR} {Mt : Nat → Option xMth} {own : String} {ini : Bool} {cc : ByteArray} {ret : Option FieldType} {PO : xPool} {Q : State → Prop}
variable {pc bc bs : Nat} {L L' : xL} {st : List Value} {σ : xH}
theorem r_alen (C : xCx p l s m args meth c lds exs G E A d call Mt own ini cc nL ret PO) {b N : Nat} {xs : Nat → Int32} (hX : va_X b N xs s s.heap) (hbl : b < s.heap.size) (hbA : ¬ A b) (hd : decode cc pc = .ok (.arraylength, 1)) (kk : xTg p l e s m args below meth c d MC MS Q G A nL (pc + 1) L (.int (nI N) :: st) σ bc bs) : xTg p l e s m args below meth c d MC MS Q G A nL pc L (.ref b :: st) σ bc bs :=
  fun hbc hbs ls H locs hl hS => va_slen C.1 C.2.1 hX hbl hbA hS.2.2.2 hd (kk hbc hbs ls H locs hl hS)
theorem r_sald (C : xCx p l s m args meth c lds exs G E A d call Mt own ini cc nL ret PO) {b N i : Nat} {xs : Nat → Int32} (hX : va_X b N xs s s.heap) (hbl : b < s.heap.size) (hbA : ¬ A b) (hN : N ≤ 3072) (hi : i < N) (hd : decode cc pc = .ok (.iaload, 1)) (kk : xTg p l e s m args below meth c d MC MS Q G A nL (pc + 1) L (.int (xs i) :: st) σ bc bs) : xTg p l e s m args below meth c d MC MS Q G A nL pc L (.int (nI i) :: .ref b :: st) σ bc bs := by
  intro hbc hbs ls H locs hl hS
  have hc : (nI i).toNatClampNeg = i := nI_clamp (by omega)
  have hin : vp_in (nI i) N := by
    intro h
    rcases h with h | h
    · exact nI_nlt (Nat.zero_le _) (by omega) h
    · rw [hc] at h
      omega
  refine va_sld C.1 C.2.1 hX hbl hbA hS.2.2.2 hin hd ?_
  rw [hc]
  exact kk hbc hbs ls H locs hl hS
theorem r_bip (C : xCx p l s m args meth c lds exs G E A d call Mt own ini cc nL ret PO) {z : Int} {v : Int32} (hd : decode cc pc = .ok (.bipush z, 2)) (hv : (Int8.ofInt z).toInt32 = v) (kk : xTg p l e s m args below meth c d MC MS Q G A nL (pc + 2) L (.int v :: st) σ bc bs) : xTg p l e s m args below meth c d MC MS Q G A nL pc L st σ bc bs :=
  fun hbc hbs ls H locs hl hS => lv_bipush C.1 C.2.1 hd hv (kk hbc hbs ls H locs hl hS)
theorem r_isub (C : xCx p l s m args meth c lds exs G E A d call Mt own ini cc nL ret PO) {v w : Int32} (hd : decode cc pc = .ok (.isub, 1)) (kk : xTg p l e s m args below meth c d MC MS Q G A nL (pc + 1) L (.int (v - w) :: st) σ bc bs) : xTg p l e s m args below meth c d MC MS Q G A nL pc L (.int w :: .int v :: st) σ bc bs :=
  fun hbc hbs ls H locs hl hS => lv_isub C.1 C.2.1 hd (kk hbc hbs ls H locs hl hS)
theorem r_iand (C : xCx p l s m args meth c lds exs G E A d call Mt own ini cc nL ret PO) {v w : Int32} (hd : decode cc pc = .ok (.iand, 1)) (kk : xTg p l e s m args below meth c d MC MS Q G A nL (pc + 1) L (.int (v &&& w) :: st) σ bc bs) : xTg p l e s m args below meth c d MC MS Q G A nL pc L (.int w :: .int v :: st) σ bc bs :=
  fun hbc hbs ls H locs hl hS => lv_iand C.1 C.2.1 hd (kk hbc hbs ls H locs hl hS)
theorem r_gt (C : xCx p l s m args meth c lds exs G E A d call Mt own ini cc nL ret PO) {off : Int} {t : Nat} {v w : Int32} (hd : decode cc pc = .ok (.if_icmp .gt off, 3)) (ht : (pc : Int) + off = (t : Int)) (kt : w < v → xTg p l e s m args below meth c d MC MS Q G A nL t L st σ bc bs) (kf : ¬ w < v → xTg p l e s m args below meth c d MC MS Q G A nL (pc + 3) L st σ bc bs) : xTg p l e s m args below meth c d MC MS Q G A nL pc L (.int w :: .int v :: st) σ bc bs :=
  fun hbc hbs ls H locs hl hS => lv_icmp_gt C.1 C.2.1 hd ht (fun h => kt h hbc hbs ls H locs hl hS) (fun h => kf h hbc hbs ls H locs hl hS)
theorem r_swIn (C : xCx p l s m args meth c lds exs G E A d call Mt own ini cc nL ret PO) {dflt lo hi off : Int} {offs : Array Int} {len t : Nat} {v : Int32} (hd : decode cc pc = .ok (.tableswitch dflt lo hi offs, len)) (h1 : ¬ v.toInt < lo) (h2 : ¬ hi < v.toInt) (ho : offs[(v.toInt - lo).toNat]? = some off) (ht : (pc : Int) + off = (t : Int)) (kk : xTg p l e s m args below meth c d MC MS Q G A nL t L st σ bc bs) : xTg p l e s m args below meth c d MC MS Q G A nL pc L (.int v :: st) σ bc bs :=
  fun hbc hbs ls H locs hl hS => lv_tableIn C.1 C.2.1 hd h1 h2 ho ht (kk hbc hbs ls H locs hl hS)
theorem r_swOut (C : xCx p l s m args meth c lds exs G E A d call Mt own ini cc nL ret PO) {dflt lo hi : Int} {offs : Array Int} {len t : Nat} {v : Int32} (hd : decode cc pc = .ok (.tableswitch dflt lo hi offs, len)) (h : v.toInt < lo ∨ hi < v.toInt) (ht : (pc : Int) + dflt = (t : Int)) (kk : xTg p l e s m args below meth c d MC MS Q G A nL t L st σ bc bs) : xTg p l e s m args below meth c d MC MS Q G A nL pc L (.int v :: st) σ bc bs :=
  fun hbc hbs ls H locs hl hS => lv_tableOut C.1 C.2.1 hd h ht (kk hbc hbs ls H locs hl hS)
end LR
theorem lwd_28 : decode cL_law 28 = .ok (.iload 5, 2) := by decide +kernel
theorem lwd_30 : decode cL_law 30 = .ok (.aload_n 0, 1) := by decide +kernel
theorem lwd_31 : decode cL_law 31 = .ok (.arraylength, 1) := by decide +kernel
theorem lwd_32 : decode cL_law 32 = .ok (.bipush 6, 2) := by decide +kernel
theorem lwd_34 : decode cL_law 34 = .ok (.isub, 1) := by decide +kernel
theorem lwd_35 : decode cL_law 35 = .ok (.if_icmp .gt 1602, 3) := by decide +kernel
theorem lwd_38 : decode cL_law 38 = .ok (.aload_n 0, 1) := by decide +kernel
theorem lwd_39 : decode cL_law 39 = .ok (.iload 5, 2) := by decide +kernel
theorem lwd_41 : decode cL_law 41 = .ok (.iaload, 1) := by decide +kernel
theorem lwd_42 : decode cL_law 42 = .ok (.bipush 31, 2) := by decide +kernel
theorem lwd_44 : decode cL_law 44 = .ok (.iand, 1) := by decide +kernel
theorem lwd_45 : decode cL_law 45 = .ok (.tableswitch 1586 0 27 #[127, 200, 256, 312, 325, 381, 449, 505, 582, 625, 638, 701, 757, 770, 826, 882, 938, 1013, 1088, 1101, 1157, 1213, 1276, 1344, 1435, 1503, 1559, 1572], 127) := by decide +kernel
theorem lwd_1631 : decode cL_law 1631 = .ok (.iinc 5 6, 3) := by decide +kernel
theorem lwd_1634 : decode cL_law 1634 = .ok (.goto (-1606), 3) := by decide +kernel
section LOOP
variable {p : Program} {l : Launch} {e : Env} {s : State} {m : MethodId} {args : Array Value} {below : List Frame} {meth : Method} {c : Code}
variable {G : xG} {E : xEn} {A : Nat → Prop} {MC MS : Nat} {call : Nat → List Value → xH → Option xR} {Mt : Nat → Option xMth} {ini : Bool} {ret : Option FieldType} {PO : xPool} {Q : State → Prop}
variable {b N x i n bc bs Bd : Nat} {xs : Nat → Int32} {sh : Nat → Option xSh} {S M : xSt} {f : Nat → Int64} {g : Nat → UInt64}
theorem lw_switch (C : xCx p l s m args meth c xlds xexs G E A 41 call Mt RL ini cL_law 10 ret PO) (hNx : xNx s) (hX : va_X b N xs s s.heap) (hbl : b < s.heap.size) (hbA : ¬ A b) (hN : N ≤ 3072) (hSem : ∀ (d key : Nat) (M : xMth), (xT key).map (fun r => r.1) = some M → xMet xlds xexs l G E d M (xsem xT E d key)) (hc : hC sh) (hsh : ∀ j, 135 ≤ j → sh j = none) (HE : hEn E x) (HE2 : hEn E (x + 135)) (R : RR S M Bd) (hB : Bd < 2 ^ 31) (hi : i + 6 ≤ N) (hbc : bc + 8 ≤ MC) (hbs : bs + 80 ≤ MS) (kk : lwK p l e s m args below meth c MC MS Q G E A b x i sh Bd bc bs) {v : Nat} (hv : v < 32) : xTg p l e s m args below meth c 41 MC MS Q G A 10 45 (lL b x i) [.int (nI v)] (lwW E x sh S M f g, n) bc bs := by
  match v, hv with
  | 0, _ => exact r_swIn C lwd_45 (off := 127) (t := 172) (by decide +kernel) (by decide +kernel) (by decide +kernel) (by decide) (lw_case_0 C hNx hX hbl hbA hN hSem hc hsh HE HE2 R hB hi hbc hbs kk)
  | 1, _ => exact r_swIn C lwd_45 (off := 200) (t := 245) (by decide +kernel) (by decide +kernel) (by decide +kernel) (by decide) (lw_case_1 C hNx hX hbl hbA hN hSem hc hsh HE HE2 R hB hi hbc hbs kk)
  | 2, _ => exact r_swIn C lwd_45 (off := 256) (t := 301) (by decide +kernel) (by decide +kernel) (by decide +kernel) (by decide) (lw_case_2 C hNx hX hbl hbA hN hSem hc hsh HE HE2 R hB hi hbc hbs kk)
  | 3, _ => exact r_swIn C lwd_45 (off := 312) (t := 357) (by decide +kernel) (by decide +kernel) (by decide +kernel) (by decide) (lw_case_3 C hNx hX hbl hbA hN hSem hc hsh HE HE2 R hB hi hbc hbs kk)
  | 4, _ => exact r_swIn C lwd_45 (off := 325) (t := 370) (by decide +kernel) (by decide +kernel) (by decide +kernel) (by decide) (lw_case_4 C hNx hX hbl hbA hN hSem hc hsh HE HE2 R hB hi hbc hbs kk)
  | 5, _ => exact r_swIn C lwd_45 (off := 381) (t := 426) (by decide +kernel) (by decide +kernel) (by decide +kernel) (by decide) (lw_case_5 C hNx hX hbl hbA hN hSem hc hsh HE HE2 R hB hi hbc hbs kk)
  | 6, _ => exact r_swIn C lwd_45 (off := 449) (t := 494) (by decide +kernel) (by decide +kernel) (by decide +kernel) (by decide) (lw_case_6 C hNx hX hbl hbA hN hSem hc hsh HE HE2 R hB hi hbc hbs kk)
  | 7, _ => exact r_swIn C lwd_45 (off := 505) (t := 550) (by decide +kernel) (by decide +kernel) (by decide +kernel) (by decide) (lw_case_7 C hNx hX hbl hbA hN hSem hc hsh HE HE2 R hB hi hbc hbs kk)
  | 8, _ => exact r_swIn C lwd_45 (off := 582) (t := 627) (by decide +kernel) (by decide +kernel) (by decide +kernel) (by decide) (lw_case_8 C hNx hX hbl hbA hN hSem hc hsh HE HE2 R hB hi hbc hbs kk)
  | 9, _ => exact r_swIn C lwd_45 (off := 625) (t := 670) (by decide +kernel) (by decide +kernel) (by decide +kernel) (by decide) (lw_case_9 C hNx hX hbl hbA hN hSem hc hsh HE HE2 R hB hi hbc hbs kk)
  | 10, _ => exact r_swIn C lwd_45 (off := 638) (t := 683) (by decide +kernel) (by decide +kernel) (by decide +kernel) (by decide) (lw_case_10 C hNx hX hbl hbA hN hSem hc hsh HE HE2 R hB hi hbc hbs kk)
  | 11, _ => exact r_swIn C lwd_45 (off := 701) (t := 746) (by decide +kernel) (by decide +kernel) (by decide +kernel) (by decide) (lw_case_11 C hNx hX hbl hbA hN hSem hc hsh HE HE2 R hB hi hbc hbs kk)
  | 12, _ => exact r_swIn C lwd_45 (off := 757) (t := 802) (by decide +kernel) (by decide +kernel) (by decide +kernel) (by decide) (lw_case_12 C hNx hX hbl hbA hN hSem hc hsh HE HE2 R hB hi hbc hbs kk)
  | 13, _ => exact r_swIn C lwd_45 (off := 770) (t := 815) (by decide +kernel) (by decide +kernel) (by decide +kernel) (by decide) (lw_case_13 C hNx hX hbl hbA hN hSem hc hsh HE HE2 R hB hi hbc hbs kk)
  | 14, _ => exact r_swIn C lwd_45 (off := 826) (t := 871) (by decide +kernel) (by decide +kernel) (by decide +kernel) (by decide) (lw_case_14 C hNx hX hbl hbA hN hSem hc hsh HE HE2 R hB hi hbc hbs kk)
  | 15, _ => exact r_swIn C lwd_45 (off := 882) (t := 927) (by decide +kernel) (by decide +kernel) (by decide +kernel) (by decide) (lw_case_15 C hNx hX hbl hbA hN hSem hc hsh HE HE2 R hB hi hbc hbs kk)
  | 16, _ => exact r_swIn C lwd_45 (off := 938) (t := 983) (by decide +kernel) (by decide +kernel) (by decide +kernel) (by decide) (lw_case_16 C hNx hX hbl hbA hN hSem hc hsh HE HE2 R hB hi hbc hbs kk)
  | 17, _ => exact r_swIn C lwd_45 (off := 1013) (t := 1058) (by decide +kernel) (by decide +kernel) (by decide +kernel) (by decide) (lw_case_17 C hNx hX hbl hbA hN hSem hc hsh HE HE2 R hB hi hbc hbs kk)
  | 18, _ => exact r_swIn C lwd_45 (off := 1088) (t := 1133) (by decide +kernel) (by decide +kernel) (by decide +kernel) (by decide) (lw_case_18 C hNx hX hbl hbA hN hSem hc hsh HE HE2 R hB hi hbc hbs kk)
  | 19, _ => exact r_swIn C lwd_45 (off := 1101) (t := 1146) (by decide +kernel) (by decide +kernel) (by decide +kernel) (by decide) (lw_case_19 C hNx hX hbl hbA hN hSem hc hsh HE HE2 R hB hi hbc hbs kk)
  | 20, _ => exact r_swIn C lwd_45 (off := 1157) (t := 1202) (by decide +kernel) (by decide +kernel) (by decide +kernel) (by decide) (lw_case_20 C hNx hX hbl hbA hN hSem hc hsh HE HE2 R hB hi hbc hbs kk)
  | 21, _ => exact r_swIn C lwd_45 (off := 1213) (t := 1258) (by decide +kernel) (by decide +kernel) (by decide +kernel) (by decide) (lw_case_21 C hNx hX hbl hbA hN hSem hc hsh HE HE2 R hB hi hbc hbs kk)
  | 22, _ => exact r_swIn C lwd_45 (off := 1276) (t := 1321) (by decide +kernel) (by decide +kernel) (by decide +kernel) (by decide) (lw_case_22 C hNx hX hbl hbA hN hSem hc hsh HE HE2 R hB hi hbc hbs kk)
  | 23, _ => exact r_swIn C lwd_45 (off := 1344) (t := 1389) (by decide +kernel) (by decide +kernel) (by decide +kernel) (by decide) (lw_case_23 C hNx hX hbl hbA hN hSem hc hsh HE HE2 R hB hi hbc hbs kk)
  | 24, _ => exact r_swIn C lwd_45 (off := 1435) (t := 1480) (by decide +kernel) (by decide +kernel) (by decide +kernel) (by decide) (lw_case_24 C hNx hX hbl hbA hN hSem hc hsh HE HE2 R hB hi hbc hbs kk)
  | 25, _ => exact r_swIn C lwd_45 (off := 1503) (t := 1548) (by decide +kernel) (by decide +kernel) (by decide +kernel) (by decide) (lw_case_25 C hNx hX hbl hbA hN hSem hc hsh HE HE2 R hB hi hbc hbs kk)
  | 26, _ => exact r_swIn C lwd_45 (off := 1559) (t := 1604) (by decide +kernel) (by decide +kernel) (by decide +kernel) (by decide) (lw_case_26 C hNx hX hbl hbA hN hSem hc hsh HE HE2 R hB hi hbc hbs kk)
  | 27, _ => exact r_swIn C lwd_45 (off := 1572) (t := 1617) (by decide +kernel) (by decide +kernel) (by decide +kernel) (by decide) (lw_case_27 C hNx hX hbl hbA hN hSem hc hsh HE HE2 R hB hi hbc hbs kk)
  | 28, _ => exact r_swOut C lwd_45 (t := 1631) (by decide +kernel) (by decide) (kk S M f g n bc bs (RR_mo R (by omega)) (by omega) (by omega))
  | 29, _ => exact r_swOut C lwd_45 (t := 1631) (by decide +kernel) (by decide) (kk S M f g n bc bs (RR_mo R (by omega)) (by omega) (by omega))
  | 30, _ => exact r_swOut C lwd_45 (t := 1631) (by decide +kernel) (by decide) (kk S M f g n bc bs (RR_mo R (by omega)) (by omega) (by omega))
  | 31, _ => exact r_swOut C lwd_45 (t := 1631) (by decide +kernel) (by decide) (kk S M f g n bc bs (RR_mo R (by omega)) (by omega) (by omega))
  | v + 32, hv => exact absurd hv (by omega)
theorem lw_loop (C : xCx p l s m args meth c xlds xexs G E A 41 call Mt RL ini cL_law 10 ret PO) (hNx : xNx s) (hX : va_X b N xs s s.heap) (hbl : b < s.heap.size) (hbA : ¬ A b) (hN : N ≤ 3072) (hSem : ∀ (d key : Nat) (M : xMth), (xT key).map (fun r => r.1) = some M → xMet xlds xexs l G E d M (xsem xT E d key)) (hc : hC sh) (hsh : ∀ j, 135 ≤ j → sh j = none) (HE : hEn E x) (HE2 : hEn E (x + 135)) {bc0 bs0 : Nat} (hMC : bc0 + 5000 ≤ MC) (hMS : bs0 + 50000 ≤ MS) (hend : ∀ L σ bc bs, xTg p l e s m args below meth c 41 MC MS Q G A 10 1637 L [] σ bc bs) : ∀ (t k : Nat) (S M : xSt) (f : Nat → Int64) (g : Nat → UInt64) (n bc bs : Nat), N + 6 ≤ 6 * k + 6 * t → 6 * k ≤ N + 6 → RR S M (200 * k) → bc ≤ bc0 + 8 * k → bs ≤ bs0 + 80 * k →
    xTg p l e s m args below meth c 41 MC MS Q G A 10 28 (lL b x (6 * k)) [] (lwW E x sh S M f g, n) bc bs := by
  intro t
  induction t with
  | zero =>
    intro k S M f g n bc bs h1 h2 R hb1 hb2
    refine r_ild C lwd_28 (k := 5) rfl ?_
    refine r_ald C lwd_30 (k := 0) rfl rfl ?_
    refine r_alen C hX hbl hbA lwd_31 ?_
    refine r_bip C lwd_32 (v := 6) (by decide) ?_
    refine r_isub C lwd_34 ?_
    exact r_gt C lwd_35 (t := 1637) (by decide) (fun _ => hend _ _ _ _) (fun h => absurd ((lp_gt hN (by omega)).mpr (by omega)) h)
  | succ t ih =>
    intro k S M f g n bc bs h1 h2 R hb1 hb2
    refine r_ild C lwd_28 (k := 5) rfl ?_
    refine r_ald C lwd_30 (k := 0) rfl rfl ?_
    refine r_alen C hX hbl hbA lwd_31 ?_
    refine r_bip C lwd_32 (v := 6) (by decide) ?_
    refine r_isub C lwd_34 ?_
    refine r_gt C lwd_35 (t := 1637) (by decide) (fun _ => hend _ _ _ _) (fun h => ?_)
    have hi : 6 * k + 6 ≤ N := by
      have h9 : ¬ N < 6 * k + 6 := fun z => h ((lp_gt hN (by omega)).mpr z)
      omega
    refine r_ald C lwd_38 (k := 0) rfl rfl ?_
    refine r_ild C lwd_39 (k := 5) rfl ?_
    refine r_sald C hX hbl hbA hN (by omega) lwd_41 ?_
    refine r_bip C lwd_42 (v := 31) (by decide) ?_
    refine r_iand C lwd_44 ?_
    obtain ⟨v, hv, he⟩ := lp_and (xs (6 * k))
    rw [he]
    refine lw_switch C hNx hX hbl hbA hN hSem hc hsh HE HE2 R (by omega) hi (by omega) (by omega) (fun S' M' f' g' n' bc' bs' R' q1 q2 => ?_) hv
    have e6 : nI (6 * k) + Int32.ofInt 6 = nI (6 * (k + 1)) := by
      rw [show Int32.ofInt 6 = nI 6 from rfl, nI_add]
      rfl
    refine r_iinc C lwd_1631 (k := 5) (v := nI (6 * k)) rfl (by decide) (L' := [(5, .int (nI (6 * (k + 1)))), (0, .ref b), (1, .ref x), (2, .ref (x + 135)), (3, .ref (x + 146)), (4, .ref (x + 147))]) (by rw [e6]; rfl) ?_
    refine r_goto C lwd_1634 (t := 28) (by decide) ?_
    refine xTg_sub (L' := lL b x (6 * (k + 1))) (fun q hq => ?_) (ih (k + 1) S' M' f' g' n' bc' bs' (by omega) (by omega) (RR_mo R' (by omega)) (by omega) (by omega))
    simp only [lL, List.mem_cons, List.not_mem_nil, or_false] at hq ⊢
    rcases hq with h | h | h | h | h | h <;> simp [h]
end LOOP
