/-! THE LAW'S ENVIRONMENT, out of what the Statement gives of the start; written by wip/p31/genenv.py. -/
def enF : List Cond := flatC (Jvm.Cond.and given_1 narrow_1)
def enT (i : Nat) : Term := .static RX8 (xtn i) "LShellWatch$Token;"
def enS (i : Nat) : Term := bif Nat.blt i 27 then .string RX8 (if i = 0 then 115 else 120 + 3 * i) else .string RL (([53, 61, 63, 65, 67, 78, 83] : List Nat).getD (i - 27) 0)
def enV (i : Nat) : Term := .field (enS i) "java/lang/String" "value" "[B"
def enAll : Term := .static RX8 "ALL" "[LShellWatch$Token;"
def enO : Term := .static RJ6 "DigitOnes" "[B"
def enH : Term := .static RJ6 "DigitTens" "[B"
def enD : Term := .static RJx4a65c "DEFAULTCAPACITY_EMPTY_ELEMENTDATA" "[Ljava/lang/Object;"
def enX_1 : List Nat := [55, 15, 52, 61, 109, 112, 103, 106, 88, 91, 58, 94, 97, 100, 64, 82, 67, 70, 73, 76, 85, 79, 321, 324, 327, 330, 333, 336, 339]
def enX_2 : List Nat := [57, 17, 54, 63, 111, 114, 105, 108, 90, 93, 60, 96, 99, 102, 66, 84, 69, 72, 75, 78, 87, 81, 323, 326, 329, 332, 335, 338, 341]
def enX_4 : List Nat := [23, 24, 25, 26, 27, 28, 29, 30, 31, 32, 33, 34, 35, 36, 37, 38, 39, 40, 41, 42, 43, 44, 45, 46, 47, 48, 49, 50, 51]
def enX_3 : List Nat := [56, 16, 53, 62, 110, 113, 104, 107, 89, 92, 59, 95, 98, 101, 65, 83, 68, 71, 74, 77, 86, 80, 322, 325, 328, 331, 334, 337, 340]
def enX_5 : List Nat := [693, 707, 831, 836, 821, 826, 782, 787, 697, 792, 801, 811, 713, 762, 721, 730, 738, 745, 773, 754, 841, 849, 858, 866, 875, 884, 892, 615, 626, 636, 647, 657, 671, 683]
def enX_6 : List Nat := [694, 708, 832, 837, 822, 827, 783, 788, 698, 793, 802, 812, 714, 763, 722, 731, 739, 746, 774, 755, 842, 850, 859, 867, 876, 885, 893, 616, 627, 637, 648, 658, 672, 684]
def enX_7 : List Nat := [695, 709, 833, 838, 823, 828, 784, 789, 699, 794, 803, 813, 715, 764, 723, 732, 740, 747, 775, 756, 843, 851, 860, 868, 877, 886, 894, 617, 628, 638, 649, 659, 673, 685]
def enX_8 : List Nat := [696, 710, 834, 839, 824, 829, 785, 790, 700, 795, 804, 814, 716, 765, 724, 733, 741, 748, 776, 757, 844, 852, 861, 869, 878, 887, 895, 618, 629, 639, 650, 660, 674, 686]
def enX_dO : List Nat := [118, 119, 120, 121, 122, 123, 124, 125, 126, 127, 128, 129, 130, 131, 132, 133, 134, 135, 136, 137, 138, 139, 140, 141, 142, 143, 144, 145, 146, 147, 148, 149, 150, 151, 152, 153, 154, 155, 156, 157, 158, 159, 160, 161, 162, 163, 164, 165, 166, 167, 168, 169, 170, 171, 172, 173, 174, 175, 176, 177, 178, 179, 180, 181, 182, 183, 184, 185, 186, 187, 188, 189, 190, 191, 192, 193, 194, 195, 196, 197, 198, 199, 200, 201, 202, 203, 204, 205, 206, 207, 208, 209, 210, 211, 212, 213, 214, 215, 216, 217]
def enX_dT : List Nat := [221, 222, 223, 224, 225, 226, 227, 228, 229, 230, 231, 232, 233, 234, 235, 236, 237, 238, 239, 240, 241, 242, 243, 244, 245, 246, 247, 248, 249, 250, 251, 252, 253, 254, 255, 256, 257, 258, 259, 260, 261, 262, 263, 264, 265, 266, 267, 268, 269, 270, 271, 272, 273, 274, 275, 276, 277, 278, 279, 280, 281, 282, 283, 284, 285, 286, 287, 288, 289, 290, 291, 292, 293, 294, 295, 296, 297, 298, 299, 300, 301, 302, 303, 304, 305, 306, 307, 308, 309, 310, 311, 312, 313, 314, 315, 316, 317, 318, 319, 320]
def enX_l : List Nat := [0, 0, 0, 0, 0, 712, 0, 0]
def enXe : List (List Nat) := [[], [711], [835], [840], [825], [830], [786], [791], [701, 702, 703, 704, 705, 706], [796, 797, 798, 799, 800], [805, 806, 807, 808, 809, 810], [815, 816, 817, 818, 819, 820], [717, 718, 719, 720], [766, 767, 768, 769, 770, 771, 772], [725, 726, 727, 728, 729], [734, 735, 736, 737], [742, 743, 744], [749, 750, 751, 752, 753], [777, 778, 779, 780, 781], [758, 759, 760, 761], [845, 846, 847, 848], [853, 854, 855, 856, 857], [862, 863, 864, 865], [870, 871, 872, 873, 874], [879, 880, 881, 882, 883], [888, 889, 890, 891], [896, 897, 898, 899, 900, 901], [619, 620, 621, 622, 623, 624, 625], [630, 631, 632, 633, 634, 635], [640, 641, 642, 643, 644, 645, 646], [651, 652, 653, 654, 655, 656], [661, 662, 663, 664, 665], [675, 676, 677, 678, 679, 680, 681, 682], [687, 688, 689, 690, 691, 692]]
def enY_1 : List Nat := [858, 834, 856, 881, 979, 981, 975, 977, 954, 960, 863, 968, 970, 972, 896, 912, 898, 900, 902, 904, 928, 906, 1367, 1368, 1369, 1370, 1371, 1372, 1373]
def enY_l : List Nat := [1320, 1321, 1322, 1323, 1324, 1325, 1326, 1327]
def enY_x : List Nat := [428, 1013, 1036, 818, 458, 465, 423, 373]
def enY_i : List Nat := [198, 215, 162, 46, 119, 168, 89, 113, 38, 601, 632, 1218, 1038, 638]
theorem en_1 : ∀ i, i < 29 → enF[enX_1.getD i 0]? = some (.exactly (enT i) RX8) := by decide +kernel
theorem en_2 : ∀ i, i < 29 → enF[enX_2.getD i 0]? = some (.eq (.field (enT i) RX8 "text" "Ljava/lang/String;") (enS (xtt i))) := by decide +kernel
theorem en_3 : ∀ i, i < 29 → enF[enX_3.getD i 0]? = some (.eq (.field (enT i) "java/lang/Enum" "ordinal" "I") (.int (nI i))) := by decide +kernel
theorem en_4 : ∀ i, i < 29 → enF[enX_4.getD i 0]? = some (.eq (.elem enAll (.int (Int32.ofNat i))) (enT i)) := by decide +kernel
theorem en_5 : ∀ i, i < 34 → enF[enX_5.getD i 0]? = some (.exactly (enS i) "java/lang/String") := by decide +kernel
theorem en_6 : ∀ i, i < 34 → enF[enX_6.getD i 0]? = some (.eq (.field (enS i) "java/lang/String" "coder" "B") (.int 0)) := by decide +kernel
theorem en_7 : ∀ i, i < 34 → enF[enX_7.getD i 0]? = some (.arrayOf (enV i) .byte) := by decide +kernel
theorem en_8 : ∀ i, i < 34 → enF[enX_8.getD i 0]? = some (.eq (.length (enV i)) (.int (Int32.ofNat ((xbyt.map List.length).getD i 0)))) := by decide +kernel
theorem en_e : ∀ i, i < 34 → ∀ j, j < (xbyt.map List.length).getD i 0 → enF[(enXe.getD i []).getD j 0]? = some (.eq (.elem (enV i) (.int (Int32.ofNat j))) (.int ((xbyt.getD i []).getD j 0))) := by decide +kernel
theorem en_dO : ∀ j, j < 100 → enF[enX_dO.getD j 0]? = some (.eq (.elem enO (.int (Int32.ofNat j))) (.int (nI (48 + j % 10)))) := by decide +kernel
theorem en_dT : ∀ j, j < 100 → enF[enX_dT.getD j 0]? = some (.eq (.elem enH (.int (Int32.ofNat j))) (.int (nI (48 + j / 10)))) := by decide +kernel
theorem en_l : ∀ i, i < 8 → ∀ q, xlds[i]? = some q → (bif Nat.blt q.2.2.2 27 then decide (enF[enX_l.getD i 0]? = some (Cond.eq (.string q.1 q.2.1) (enS q.2.2.2))) else decide (Term.string q.1 q.2.1 = enS q.2.2.2)) = true := by
  have h : ∀ i, i < 8 → (match xlds[i]? with | some q => (bif Nat.blt q.2.2.2 27 then decide (enF[enX_l.getD i 0]? = some (Cond.eq (.string q.1 q.2.1) (enS q.2.2.2))) else decide (Term.string q.1 q.2.1 = enS q.2.2.2)) | none => true) = true := by decide +kernel
  intro i hi q hq
  have h1 := h i hi
  rw [hq] at h1
  exact h1
theorem en_y1 : ∀ i, i < 29 → tables_1[enY_1.getD i 0]? = some (.laysStatic RX8 (xtn i) "LShellWatch$Token;") := by decide +kernel
theorem en_yl : ∀ i, i < 8 → tables_1[enY_l.getD i 0]? = (xlds[i]?).map (fun q => Cond.stringRef q.1 q.2.1 q.2.2.1) := by decide +kernel
theorem en_yx : ∀ i, i < 8 → tables_1[enY_x.getD i 0]? = (xexs[i]?).map (fun q => Cond.stringRef q.1 q.2.1 q.2.2) := by decide +kernel
theorem en_yi {k : Nat} {r : vw_C} (h : vwCl[k]? = some r) : tables_1[enY_i.getD k 0]? = some (.instantiable r.1 r.2.2) := by
  match k, h with
  | 0, h => cases h; decide +kernel
  | 1, h => cases h; decide +kernel
  | 2, h => cases h; decide +kernel
  | 3, h => cases h; decide +kernel
  | 4, h => cases h; decide +kernel
  | 5, h => cases h; decide +kernel
  | 6, h => cases h; decide +kernel
  | 7, h => cases h; decide +kernel
  | 8, h => cases h; decide +kernel
  | 9, h => cases h; decide +kernel
  | 10, h => cases h; decide +kernel
  | 11, h => cases h; decide +kernel
  | 12, h => cases h; decide +kernel
  | 13, h => cases h; decide +kernel
  | k + 14, h => simp [vwCl] at h
theorem en_bd : ∀ i, i < 34 → ∀ j, j < 34 → (xbyt.map List.length).getD i 0 = (xbyt.map List.length).getD j 0 → (∀ k, k < (xbyt.map List.length).getD i 0 → (xbyt.getD i []).getD k 0 = (xbyt.getD j []).getD k 0) → i = j := by decide +kernel
theorem en_bl : ∀ i, i < 34 → (xbyt.map List.length).getD i 0 < 29 := by decide +kernel
theorem en_tt : ∀ i, i < 29 → xtt i < 34 := by decide +kernel
theorem en_lt : ∀ q ∈ xlds, q.2.2.2 < 34 := by decide +kernel
theorem en_TT {ty ty' : FieldType} {t N N' : Nat} {f f' : Nat → Value} {A : Nat → Prop} {U : State} {H : Heap} (h : va_T ty t N f A U H) (h' : va_T ty' t N' f' A U H) (hN : N < 2 ^ 31) (hN' : N' < 2 ^ 31) : N = N' ∧ ty = ty' ∧ ∀ k, k < N → f k = f' k := by
  obtain ⟨cell, a1, a2, -, -, a5, a6, -⟩ := h
  obtain ⟨cell', b1, b2, -, -, b5, b6, -⟩ := h'
  cases Option.some.inj (a1.symm.trans b1)
  have e : N = N' := (nI_eq hN hN').mp (a5.symm.trans b5)
  subst e
  refine ⟨rfl, ?_, fun k hk => Option.some.inj ((a6 k hk).symm.trans (b6 k hk))⟩
  obtain ⟨k1, q1, c1, r1⟩ := a2.2
  obtain ⟨k2, q2, c2, r2⟩ := b2.2
  cases Option.some.inj (q1.symm.trans q2)
  rw [r1] at r2
  cases r2
  rfl
theorem en_OO {o n d : String} {v v' : Value} {t : Nat} {A : Nat → Prop} {U : State} {H : Heap} (h : va_OF o n d v t A U H) (h' : va_OF o n d v' t A U H) : v = v' := by
  obtain ⟨cf, k, i, f, cell, a1, -, a3, -, a5, -⟩ := h
  obtain ⟨cf', k', i', f', cell', b1, -, b3, -, b5, -⟩ := h'
  cases Option.some.inj (a1.symm.trans b1)
  cases Option.some.inj (a3.symm.trans b3)
  exact Option.some.inj (a5.symm.trans b5)
theorem va_T.lt {ty : FieldType} {t N : Nat} {f : Nat → Value} {A : Nat → Prop} {U : State} {H : Heap} (h : va_T ty t N f A U H) : t < H.size := by
  obtain ⟨cell, a1, -⟩ := h
  exact (Array.getElem?_eq_some_iff.mp a1).1
theorem va_O.lt {C : String} {t : Nat} {A : Nat → Prop} {U : State} {H : Heap} (h : va_O C t A U H) : t < H.size := by
  obtain ⟨cell, a1, -⟩ := h
  exact (Array.getElem?_eq_some_iff.mp a1).1
theorem en_R {own tx : String} {k : Nat} {A : Array Value} {s : State} (h : (Cond.stringRef own k tx).before A s = true) : ∃ a, vk_R own k tx a s := by
  have hcur : ∃ cur, s.vm.findClass own = some cur := by
    have h1 := h
    simp only [Cond.before, Cond.holds, Cond.value] at h1
    cases hc : s.vm.findClass own with
    | none => simp [hc] at h1
    | some cur => exact ⟨cur, rfl⟩
  obtain ⟨cur, hcur⟩ := hcur
  obtain ⟨k, cf, i, a, -, -, -, -, -, he⟩ := Cond.stringRef_spec hcur h
  exact ⟨a, vk_R.of h he⟩
section EN
variable {b L : Nat} {s : State} {xs : Nat → Int32}
abbrev enA (s : State) : Nat → Prop := fun q => s.heap.size ≤ q
theorem en_hA : ∀ a : Nat, a < s.heap.size → ¬ enA s a := fun a h => Nat.not_le.mpr h
theorem en_h (hgv : (Jvm.Cond.and given_1 narrow_1).before #[Value.ref b] s = true) {w : Cond} {k : Nat} (h : enF[k]? = some w) : w.before #[Value.ref b] s = true := flat_of_before _ hgv _ (List.mem_of_getElem? h)
theorem en_t (hts : ∀ w ∈ lw_tbl, w.before #[Value.ref b] s = true) {w : Cond} {k : Nat} (h : tables_1[k]? = some w) : w.before #[Value.ref b] s = true := hts _ (List.mem_append_right _ (List.mem_of_getElem? h))
theorem en_K (hts : ∀ w ∈ lw_tbl, w.before #[Value.ref b] s = true) : ∃ G : xG, va_K G.1 vwCl (xtys G.2) s := by
  have h0 : ∀ k : Nat, ∃ q : ClassId × (Nat → Nat), ∀ r, vwCl[k]? = some r → u_Kn s r.1 r.2.1 r.2.2 q.1 q.2 := by
    intro k
    cases hr : vwCl[k]? with
    | none => exact ⟨(0, fun _ => 0), fun r h => by cases h⟩
    | some r =>
      obtain ⟨hin, -, -⟩ := xcl_ok hr
      obtain ⟨cC, iS, h⟩ := u_known (fun w hw => xTbl_ok hts w (List.mem_filter.mp hw).1) hin (en_t hts (en_yi hr))
      exact ⟨(cC, iS), fun r' h' => by cases h'; exact h⟩
  obtain ⟨D, hD⟩ := Classical.axiomOfChoice h0
  obtain ⟨c0, k0, p0, f0, g0, j0⟩ := Cond.arrayClass_spec (en_t hts (k := 87) (w := .arrayClass .int) (by decide +kernel))
  obtain ⟨c1, k1, p1, f1, g1, j1⟩ := Cond.arrayClass_spec (en_t hts (k := 86) (w := .arrayClass .byte) (by decide +kernel))
  obtain ⟨c2, k2, p2, f2, g2, j2⟩ := Cond.arrayClass_spec (en_t hts (k := 738) (w := .arrayClass .long) (by decide +kernel))
  obtain ⟨p4, c4, k4, q4, -, g4, j4, f4⟩ := Cond.arrayOver_spec (en_t hts (k := 52) (w := .arrayOver (.object "ShellWatch$Token")) (by decide +kernel))
  obtain ⟨p5, c5, k5, q5, -, g5, j5, f5⟩ := Cond.arrayOver_spec (en_t hts (k := 301) (w := .arrayOver (.object "ShellWatch$Game")) (by decide +kernel))
  obtain ⟨p6, c6, k6, q6, -, g6, j6, f6⟩ := Cond.arrayOver_spec (en_t hts (k := 1316) (w := .arrayOver (.object "java/lang/Object")) (by decide +kernel))
  refine ⟨((fun k => (D k).1, fun k => (D k).2), fun k => match k with | 0 => c0 | 1 => c1 | 2 => c2 | 3 => c2 | 4 => c4 | 5 => c5 | _ => c6), fun k q hq => hD k q hq, fun k q hk => ?_⟩
  match k, hk with
  | 0, hk => cases hk; exact ⟨fun n z => ⟨fun k h => (by cases h), k0, g0, p0, j0⟩, f0⟩
  | 1, hk => cases hk; exact ⟨fun n z => ⟨fun k h => (by cases h), k1, g1, p1, j1⟩, f1⟩
  | 2, hk => cases hk; exact ⟨fun n z => ⟨fun k h => (by cases h), k2, g2, p2, j2⟩, f2⟩
  | 3, hk => cases hk; exact ⟨fun n z => ⟨fun k h => (by cases h), k2, g2, p2, j2⟩, f2⟩
  | 4, hk => cases hk; exact ⟨fun n z => ⟨fun k h => (by cases h), k4, g4, p4, j4⟩, k4, p4, g4, j4, q4, f4⟩
  | 5, hk => cases hk; exact ⟨fun n z => ⟨fun k h => (by cases h), k5, g5, p5, j5⟩, k5, p5, g5, j5, q5, f5⟩
  | 6, hk => cases hk; exact ⟨fun n z => ⟨fun k h => (by cases h), k6, g6, p6, j6⟩, k6, p6, g6, j6, q6, f6⟩
  | k + 7, hk => simp [xtys] at hk
theorem en_S (hgv : (Jvm.Cond.and given_1 narrow_1).before #[Value.ref b] s = true) : ∃ adK adV : Nat → Nat, vk_S xNS (xbyt.map List.length) xbyt adK adV (enA s) s s.heap ∧ (∀ i, i < 34 → (enS i).eval #[Value.ref b] s none [] s = some (.ref (adK i))) ∧ inj adV 34 := by
  have h0 : ∀ i : Nat, ∃ q : Nat × Nat, i < 34 → (enS i).eval #[Value.ref b] s none [] s = some (.ref q.1) ∧ va_O "java/lang/String" q.1 (enA s) s s.heap ∧ va_OF "java/lang/String" "coder" "B" (.int 0) q.1 (enA s) s s.heap ∧ va_OF "java/lang/String" "value" "[B" (.ref q.2) q.1 (enA s) s s.heap ∧ va_T .byte q.2 ((xbyt.map List.length).getD i 0) (fun j => .int ((xbyt.getD i []).getD j 0)) (enA s) s s.heap := by
    intro i
    by_cases hi : i < 34
    · have hl := en_bl i hi
      obtain ⟨a, c, cA, kA, q1, q2, q3, q4, q5, q6, -⟩ := Cond.exactly_spec (args := #[Value.ref b]) (first := s) (o := none) (s := s) (idx := []) (t := enS i) (cls := "java/lang/String") (en_h hgv (en_5 i hi))
      obtain ⟨t, ht, hT⟩ := va_Tof (f := fun j => .int ((xbyt.getD i []).getD j 0)) (A := enA s) (by omega) (en_h hgv (en_7 i hi)) (va_eqt (en_h hgv (en_8 i hi))) (fun j hj => va_eqt (en_h hgv (en_e i hi j hj))) en_hA
      exact ⟨(a, t), fun _ => ⟨q1, ⟨cA, q3, q5, by rw [q6]; exact q2, en_hA a (Array.getElem?_eq_some_iff.mp q3).1⟩, vk_OFof q1 (va_eqt (en_h hgv (en_6 i hi))) en_hA, vk_OFof q1 ht en_hA, hT⟩⟩
    · exact ⟨(0, 0), fun h => absurd h hi⟩
  obtain ⟨ad, had⟩ := Classical.axiomOfChoice h0
  have hV : inj (fun i => (ad i).2) 34 := by
    intro i j hi hj e
    have h1 := (had i hi).2.2.2.2
    have h2 := (had j hj).2.2.2.2
    have e : (ad i).2 = (ad j).2 := e
    rw [← e] at h2
    have b1 := en_bl i hi
    have b2 := en_bl j hj
    obtain ⟨e1, -, e2⟩ := en_TT h1 h2 (by omega) (by omega)
    exact en_bd i hi j hj e1 (fun k hk => by
      have := e2 k hk
      exact Value.int.inj this)
  refine ⟨fun i => (ad i).1, fun i => (ad i).2, ⟨fun i hi => (had i hi).2, fun i j hi hj e => ?_⟩, fun i hi => (had i hi).1, hV⟩
  have h1 := (had i hi).2.2.2.1
  have h2 := (had j hj).2.2.2.1
  have e : (ad i).1 = (ad j).1 := e
  rw [← e] at h2
  exact hV i j hi hj (Value.ref.inj (en_OO h1 h2))
theorem en_E (hts : ∀ w ∈ lw_tbl, w.before #[Value.ref b] s = true) (hgv : (Jvm.Cond.and given_1 narrow_1).before #[Value.ref b] s = true) (hX : va_X b L xs s s.heap) (hL : L < 2 ^ 31) : ∃ E : xEn, xK xlds xexs E (enA s) s s.heap ∧ hEn E (fun _ => none) s.heap.size ∧ cIn E b L xs := by
  obtain ⟨adK, adV, hS, hK, hV⟩ := en_S hgv
  have h0 : ∀ i : Nat, ∃ t : Nat, i < 29 → (enT i).eval #[Value.ref b] s none [] s = some (.ref t) ∧ va_O RX8 t (enA s) s s.heap := by
    intro i
    by_cases hi : i < 29
    · obtain ⟨a, c, cA, kA, q1, q2, q3, q4, q5, q6, -⟩ := Cond.exactly_spec (args := #[Value.ref b]) (first := s) (o := none) (s := s) (idx := []) (t := enT i) (cls := RX8) (en_h hgv (en_1 i hi))
      exact ⟨a, fun _ => ⟨q1, cA, q3, q5, by rw [q6]; exact q2, en_hA a (Array.getElem?_eq_some_iff.mp q3).1⟩⟩
    · exact ⟨0, fun h => absurd h hi⟩
  obtain ⟨adT, hT⟩ := Classical.axiomOfChoice h0
  obtain ⟨tA, hAe, hAT⟩ := va_Tof (tm := enAll) (ty := .object RX8) (N := 29) (f := fun j => .ref (adT j)) (A := enA s) (by decide) (en_h hgv (k := 20) (by decide +kernel)) (va_eqt (en_h hgv (k := 21) (by decide +kernel))) (fun j hj => va_eqv (en_h hgv (en_4 j hj)) (hT j hj).1) en_hA
  obtain ⟨d1, hd1e, hd1T⟩ := va_Tof (tm := enO) (ty := .byte) (N := 100) (f := fun j => .int (nI (48 + j % 10))) (A := enA s) (by decide) (en_h hgv (k := 116) (by decide +kernel)) (va_eqt (en_h hgv (k := 117) (by decide +kernel))) (fun j hj => va_eqt (en_h hgv (en_dO j hj))) en_hA
  obtain ⟨d2, hd2e, hd2T⟩ := va_Tof (tm := enH) (ty := .byte) (N := 100) (f := fun j => .int (nI (48 + j / 10))) (A := enA s) (by decide) (en_h hgv (k := 219) (by decide +kernel)) (va_eqt (en_h hgv (k := 220) (by decide +kernel))) (fun j hj => va_eqt (en_h hgv (en_dT j hj))) en_hA
  obtain ⟨dC, hdCe, hdCT⟩ := va_Tof (tm := enD) (ty := .object "java/lang/Object") (N := 0) (f := fun _ => .null) (A := enA s) (by decide) (en_h hgv (k := 7) (by decide +kernel)) (va_eqt (en_h hgv (k := 9) (by decide +kernel))) (fun j hj => absurd hj (Nat.not_lt_zero j)) en_hA
  have hbT : va_T .int b L (fun j => .int (xs j)) (enA s) s s.heap := by
    obtain ⟨scr, x1, x2, x3, x4, x5⟩ := hX
    exact ⟨scr, x1, x2, x3, by omega, by rw [x4], x5, en_hA b (Array.getElem?_eq_some_iff.mp x1).1⟩
  have hini : (Cond.initialized RX8).before #[Value.ref b] s = true := en_t hts (k := 27) (by decide +kernel)
  have hini6 : (Cond.initialized RJ6).before #[Value.ref b] s = true := en_t hts (k := 12) (by decide +kernel)
  have hiniC : (Cond.initialized RJx4a65c).before #[Value.ref b] s = true := en_t hts (k := 32) (by decide +kernel)
  have hF : ∃ v : Value, va_Z RJ3 "SIOOBE_FORMATTER" "Ljava/util/function/BiFunction;" v (enA s) s s.heap ∧ v.category = 1 := by
    rcases va_Zqof (C := RJ3) (n := "SIOOBE_FORMATTER") (d := "Ljava/util/function/BiFunction;") (en_t hts (k := 777) (by decide +kernel)) (en_t hts (k := 9) (by decide +kernel)) (en_h hgv (k := 11) (by decide +kernel)) en_hA with h | ⟨t, h⟩
    · exact ⟨_, h, rfl⟩
    · exact ⟨_, h, rfl⟩
  obtain ⟨vF, hF, hFc⟩ := hF
  have hT3 : ∀ i, i < 29 → va_OF "java/lang/Enum" "ordinal" "I" (.int (nI i)) (adT i) (enA s) s s.heap := fun i hi => vk_OFof (hT i hi).1 (va_eqt (en_h hgv (en_3 i hi))) en_hA
  have hVb : ∀ i, i < 34 → va_T .byte (adV i) ((xbyt.map List.length).getD i 0) (fun j => .int ((xbyt.getD i []).getD j 0)) (enA s) s s.heap := fun i hi => (hS.1 i hi).2.2.2
  refine ⟨(adT, adK, adV, tA, vF, (d1, d2, dC), b, L, xs), ⟨fun i hi => va_Zref (en_t hts (en_y1 i hi)) hini (hT i hi).1 en_hA, va_Zref (en_t hts (k := 848) (by decide +kernel)) hini hAe en_hA, hAT, fun i hi => ⟨(hT i hi).2, vk_OFof (hT i hi).1 (va_eqv (en_h hgv (en_2 i hi)) (hK (xtt i) (en_tt i hi))) en_hA⟩, hS,
    va_Zof (en_t hts (k := 761) (by decide +kernel)) (en_t hts (k := 3) (by decide +kernel)) (va_eqi (en_h hgv (k := 10) (by decide +kernel))) en_hA, hF,
    vx_Zqof (en_t hts (k := 359) (by decide +kernel)) (en_t hts (k := 22) (by decide +kernel)) (en_h hgv (k := 4) (by decide +kernel)) en_hA,
    vx_Zqof (en_t hts (k := 361) (by decide +kernel)) (en_t hts (k := 22) (by decide +kernel)) (en_h hgv (k := 5) (by decide +kernel)) en_hA,
    fun w hw hn => va_Nw.of (by cases w <;> first | rfl | cases hn) (hts w hw), va_AO.of (en_t hts (k := 52) (by decide +kernel)), va_AO.of (en_t hts (k := 301) (by decide +kernel)), fun q hq => ?_, fun q hq => ?_,
    va_Zref (en_t hts (k := 1202) (by decide +kernel)) hini6 hd1e en_hA, hd1T, va_Zref (en_t hts (k := 1204) (by decide +kernel)) hini6 hd2e en_hA, hd2T, va_Zref (en_t hts (k := 650) (by decide +kernel)) hiniC hdCe en_hA, hdCT, hbT, va_AO.of (en_t hts (k := 1316) (by decide +kernel))⟩,
    ⟨⟨⟨fun i j hi hj e => ?_, hS.2, hV, fun i hi => ⟨fun e => ?_, fun e => ?_, fun e => ?_, fun e => ?_, fun e => ?_⟩, hFc, fun e => ?_, fun e => ?_, fun e => ?_, fun e => ?_⟩, fun _ _ => rfl⟩, fun a ha => ?_⟩, rfl, rfl, rfl⟩
  · have hq2 := en_lt q hq
    obtain ⟨i, hi⟩ := List.getElem?_of_mem hq
    have hin : i < 8 := (List.getElem?_eq_some_iff.mp hi).1
    have h1 := en_yl i hin
    have h2 := en_l i hin q hi
    rw [hi] at h1
    by_cases c : Nat.blt q.2.2.2 27 = true
    · rw [c, cond_true] at h2
      exact vk_R.of (en_t hts h1) (va_eqv (en_h hgv (of_decide_eq_true h2)) (hK _ hq2))
    · rw [Bool.eq_false_iff.2 c, cond_false] at h2
      exact vk_R.of (en_t hts h1) (by rw [of_decide_eq_true h2]; exact hK _ hq2)
  · obtain ⟨i, hi⟩ := List.getElem?_of_mem hq
    have hin : i < 8 := (List.getElem?_eq_some_iff.mp hi).1
    have h1 := en_yx i hin
    rw [hi] at h1
    exact en_R (en_t hts h1)
  · have e : adT i = adT j := e
    have h2 := hT3 j hj
    rw [← e] at h2
    exact (nI_eq (by omega) (by omega)).mp (Value.int.inj (en_OO (hT3 i hi) h2))
  · have e : adV i = tA := e
    have h1 := hVb i hi
    rw [e] at h1
    have b1 := en_bl i hi
    have := (en_TT h1 hAT (by omega) (by decide)).1
    omega
  · have e : adV i = d1 := e
    have h1 := hVb i hi
    rw [e] at h1
    have b1 := en_bl i hi
    have := (en_TT h1 hd1T (by omega) (by decide)).1
    omega
  · have e : adV i = d2 := e
    have h1 := hVb i hi
    rw [e] at h1
    have b1 := en_bl i hi
    have := (en_TT h1 hd2T (by omega) (by decide)).1
    omega
  · have e : adV i = dC := e
    have h1 := hVb i hi
    rw [e] at h1
    have b1 := en_bl i hi
    have := (en_TT h1 hdCT (by omega) (by decide)).2.1
    cases this
  · have e : adV i = b := e
    have h1 := hVb i hi
    rw [e] at h1
    have b1 := en_bl i hi
    have := (en_TT h1 hbT (by omega) hL).2.1
    cases this
  · have e : d1 = d2 := e
    have h2 := hd2T
    rw [← e] at h2
    have := (en_TT hd1T h2 (by decide) (by decide)).2.2 1 (by decide)
    exact absurd (Value.int.inj this) (by decide)
  · have e : dC = tA := e
    have h2 := hAT
    rw [← e] at h2
    have := (en_TT hdCT h2 (by decide) (by decide)).1
    omega
  · have e : b = tA := e
    have h2 := hAT
    rw [← e] at h2
    have := (en_TT hbT h2 hL (by decide)).2.1
    cases this
  · have e : b = dC := e
    have h2 := hdCT
    rw [← e] at h2
    have := (en_TT hbT h2 hL (by decide)).2.1
    cases this
  · rcases ha with ⟨i, hi, rfl⟩ | ⟨i, hi, h⟩ | rfl | rfl | rfl | rfl | rfl
    · exact (hT i hi).2.lt
    · rcases h with rfl | rfl
      · exact (hS.1 i hi).1.lt
      · exact (hVb i hi).lt
    · exact hAT.lt
    · exact hd1T.lt
    · exact hd2T.lt
    · exact hdCT.lt
    · exact hbT.lt
end EN
