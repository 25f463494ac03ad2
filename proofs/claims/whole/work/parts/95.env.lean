/-! THE LAW'S ENVIRONMENT, out of what the Statement gives of the start; written by wip/whole/genenv.py. -/
def enF : List Cond := flatC (Jvm.Cond.and given_1 narrow_1)
def enT (i : Nat) : Term := .static RX8 (xtn i) "LShellWatch$Token;"
def enS (i : Nat) : Term := .string RX8 (if i = 0 then 115 else 120 + 3 * i)
def enV (i : Nat) : Term := .field (enS i) "java/lang/String" "value" "[B"
def enAll : Term := .static RX8 "ALL" "[LShellWatch$Token;"
def enX_1 : List Nat := [51, 6, 48, 57, 105, 108, 99, 102, 84, 87, 54, 90, 93, 96, 60, 78, 63, 66, 69, 72, 81, 75, 111, 114, 129, 117, 120, 123, 126]
def enX_2 : List Nat := [53, 8, 50, 59, 107, 110, 101, 104, 86, 89, 56, 92, 95, 98, 62, 80, 65, 68, 71, 74, 83, 77, 113, 116, 131, 119, 122, 125, 128]
def enX_3 : List Nat := [52, 7, 49, 58, 106, 109, 100, 103, 85, 88, 55, 91, 94, 97, 61, 79, 64, 67, 70, 73, 82, 76, 112, 115, 130, 118, 121, 124, 127]
def enX_4 : List Nat := [14, 15, 16, 17, 18, 19, 20, 21, 22, 23, 24, 25, 26, 27, 28, 29, 30, 31, 32, 33, 34, 35, 36, 37, 38, 39, 40, 41, 42]
def enX_5 : List Nat := [813, 828, 962, 967, 952, 957, 910, 915, 817, 920, 930, 941, 833, 888, 842, 852, 861, 869, 900, 879, 972, 981, 1031, 991, 1001, 1011, 1020]
def enX_6 : List Nat := [814, 829, 963, 968, 953, 958, 911, 916, 818, 921, 931, 942, 834, 889, 843, 853, 862, 870, 901, 880, 973, 982, 1032, 992, 1002, 1012, 1021]
def enX_7 : List Nat := [815, 830, 964, 969, 954, 959, 912, 917, 819, 922, 932, 943, 835, 890, 844, 854, 863, 871, 902, 881, 974, 983, 1033, 993, 1003, 1013, 1022]
def enX_8 : List Nat := [816, 831, 965, 970, 955, 960, 913, 918, 820, 923, 933, 944, 836, 891, 845, 855, 864, 872, 903, 882, 975, 984, 1034, 994, 1004, 1014, 1023]
def enX_c : List Nat := [0, 156, 170, 184, 143, 0, 172, 186, 144, 158, 0, 187, 145, 159, 173, 0]
def enX_l : List Nat := [827, 929, 940, 951, 899, 909, 841, 851, 860, 868, 878, 887, 980, 990, 1039, 1000, 1010, 1019, 1030]
def enXe : List (List Nat) := [[], [832], [966], [971], [956], [961], [914], [919], [821, 822, 823, 824, 825, 826], [924, 925, 926, 927, 928], [934, 935, 936, 937, 938, 939], [945, 946, 947, 948, 949, 950], [837, 838, 839, 840], [892, 893, 894, 895, 896, 897, 898], [846, 847, 848, 849, 850], [856, 857, 858, 859], [865, 866, 867], [873, 874, 875, 876, 877], [904, 905, 906, 907, 908], [883, 884, 885, 886], [976, 977, 978, 979], [985, 986, 987, 988, 989], [1035, 1036, 1037, 1038], [995, 996, 997, 998, 999], [1005, 1006, 1007, 1008, 1009], [1015, 1016, 1017, 1018], [1024, 1025, 1026, 1027, 1028, 1029]]
def enY_1 : List Nat := [673, 603, 671, 696, 797, 799, 793, 795, 772, 778, 678, 786, 788, 790, 711, 727, 713, 715, 717, 719, 746, 721, 830, 832, 842, 834, 836, 838, 840]
def enY_l : List Nat := [1352, 1426, 1427, 1428, 1386, 1391, 1396, 1405, 1406, 1407, 1408, 1409, 1457, 1458, 1459, 1460, 1461, 1462, 1463]
def enY_x : List Nat := [996, 1033, 1072, 1111, 1130, 1146, 1147, 1172, 1174, 1201, 562, 963, 1085, 981, 940]
def enY_i : List Nat := [209, 227, 168, 37, 115, 174, 81, 109, 29, 1209]
theorem en_1 : ∀ i, i < 29 → enF[enX_1.getD i 0]? = some (.exactly (enT i) RX8) := by decide +kernel
theorem en_2 : ∀ i, i < 29 → enF[enX_2.getD i 0]? = some (.eq (.field (enT i) RX8 "text" "Ljava/lang/String;") (enS (xtt i))) := by decide +kernel
theorem en_3 : ∀ i, i < 29 → enF[enX_3.getD i 0]? = some (.eq (.field (enT i) "java/lang/Enum" "ordinal" "I") (.int (nI i))) := by decide +kernel
theorem en_4 : ∀ i, i < 29 → enF[enX_4.getD i 0]? = some (.eq (.elem enAll (.int (Int32.ofNat i))) (enT i)) := by decide +kernel
theorem en_5 : ∀ i, i < 27 → enF[enX_5.getD i 0]? = some (.exactly (enS i) "java/lang/String") := by decide +kernel
theorem en_6 : ∀ i, i < 27 → enF[enX_6.getD i 0]? = some (.eq (.field (enS i) "java/lang/String" "coder" "B") (.int 0)) := by decide +kernel
theorem en_7 : ∀ i, i < 27 → enF[enX_7.getD i 0]? = some (.arrayOf (enV i) .byte) := by decide +kernel
theorem en_8 : ∀ i, i < 27 → enF[enX_8.getD i 0]? = some (.eq (.length (enV i)) (.int (Int32.ofNat ((xbyt.map List.length).getD i 0)))) := by decide +kernel
theorem en_e : ∀ i, i < 27 → ∀ j, j < (xbyt.map List.length).getD i 0 → enF[(enXe.getD i []).getD j 0]? = some (.eq (.elem (enV i) (.int (Int32.ofNat j))) (.int ((xbyt.getD i []).getD j 0))) := by decide +kernel
theorem en_c : ∀ i, i < 4 → ∀ j, j < 4 → i ≠ j → enF[enX_c.getD (4 * i + j) 0]? = some (.not (.castable (xexc i) (xexc j))) := by decide +kernel
theorem en_l : ∀ i, i < 19 → enF[enX_l.getD i 0]? = (xlds[i]?).map (fun q => Cond.eq (.string q.1 q.2.1) (enS q.2.2.2)) := by decide +kernel
theorem en_y1 : ∀ i, i < 29 → tables_1[enY_1.getD i 0]? = some (.laysStatic RX8 (xtn i) "LShellWatch$Token;") := by decide +kernel
theorem en_yl : ∀ i, i < 19 → tables_1[enY_l.getD i 0]? = (xlds[i]?).map (fun q => Cond.stringRef q.1 q.2.1 q.2.2.1) := by decide +kernel
theorem en_yx : ∀ i, i < 15 → tables_1[enY_x.getD i 0]? = (xexs[i]?).map (fun q => Cond.stringRef q.1 q.2.1 q.2.2) := by decide +kernel
theorem en_yi {k : Nat} {r : vw_C} (h : vwCl[k]? = some r) : tables_1[enY_i.getD k 0]? = some (.instantiable r.1 r.2.2) := by
  match k, h with
  | 0, h => cases h; decide +kernel
  | 1, h => cases h; decide +kernel
  | 2, h => cases h; decide +kernel
  | 3, h => cases h; decide +kernel
  | 4, h => cases h; decide +kernel
  | 5, h => cases h; decide +kernel
  | 6, h => cases h; decide +kernel
  | 7, h => cases h; decide +kernel
  | 8, h => cases h; decide +kernel
  | 9, h => cases h; decide +kernel
  | k + 10, h => simp [vwCl] at h
theorem en_bd : ∀ i, i < 27 → ∀ j, j < 27 → (xbyt.map List.length).getD i 0 = (xbyt.map List.length).getD j 0 → (∀ k, k < (xbyt.map List.length).getD i 0 → (xbyt.getD i []).getD k 0 = (xbyt.getD j []).getD k 0) → i = j := by decide +kernel
theorem en_bl : ∀ i, i < 27 → (xbyt.map List.length).getD i 0 < 29 := by decide +kernel
theorem en_tt : ∀ i, i < 29 → xtt i < 27 := by decide +kernel
theorem en_lt : ∀ q ∈ xlds, q.2.2.2 < 27 := by decide +kernel
theorem en_TT {ty ty' : FieldType} {t N N' : Nat} {f f' : Nat → Value} {A : Nat → Prop} {U : State} {H : Heap} (h : va_T ty t N f A U H) (h' : va_T ty' t N' f' A U H) (hN : N < 2 ^ 31) (hN' : N' < 2 ^ 31) : N = N' ∧ ∀ k, k < N → f k = f' k := by
  obtain ⟨cell, a1, -, -, -, a5, a6, -⟩ := h
  obtain ⟨cell', b1, -, -, -, b5, b6, -⟩ := h'
  cases Option.some.inj (a1.symm.trans b1)
  have e : N = N' := (nI_eq hN hN').mp (a5.symm.trans b5)
  subst e
  exact ⟨rfl, fun k hk => Option.some.inj ((a6 k hk).symm.trans (b6 k hk))⟩
theorem en_OO {o n d : String} {v v' : Value} {t : Nat} {A : Nat → Prop} {U : State} {H : Heap} (h : va_OF o n d v t A U H) (h' : va_OF o n d v' t A U H) : v = v' := by
  obtain ⟨cf, k, i, f, cell, a1, -, a3, -, a5, -⟩ := h
  obtain ⟨cf', k', i', f', cell', b1, -, b3, -, b5, -⟩ := h'
  cases Option.some.inj (a1.symm.trans b1)
  cases Option.some.inj (a3.symm.trans b3)
  exact Option.some.inj (a5.symm.trans b5)
theorem va_T.lt {ty : FieldType} {t N : Nat} {f : Nat → Value} {A : Nat → Prop} {U : State} {H : Heap} (h : va_T ty t N f A U H) : t < H.size := by
  obtain ⟨cell, a1, -⟩ := h
  exact (Array.getElem?_eq_some_iff.mp a1).1
theorem va_O.lt {C : String} {t : Nat} {A : Nat → Prop} {U : State} {H : Heap} (h : va_O C t A U H) : t < H.size := by
  obtain ⟨cell, a1, -⟩ := h
  exact (Array.getElem?_eq_some_iff.mp a1).1
theorem en_R {own tx : String} {k : Nat} {A : Array Value} {s : State} (h : (Cond.stringRef own k tx).before A s = true) : ∃ a, vk_R own k tx a s := by
  have hcur : ∃ cur, s.vm.findClass own = some cur := by
    have h1 := h
    simp only [Cond.before, Cond.holds, Cond.value] at h1
    cases hc : s.vm.findClass own with
    | none => simp [hc] at h1
    | some cur => exact ⟨cur, rfl⟩
  obtain ⟨cur, hcur⟩ := hcur
  obtain ⟨k, cf, i, a, -, -, -, -, -, he⟩ := Cond.stringRef_spec hcur h
  exact ⟨a, vk_R.of h he⟩
section EN
variable {b : Nat} {s : State}
abbrev enA (s : State) : Nat → Prop := fun q => s.heap.size ≤ q
theorem en_hA : ∀ a : Nat, a < s.heap.size → ¬ enA s a := fun a h => Nat.not_le.mpr h
theorem en_h (hgv : (Jvm.Cond.and given_1 narrow_1).before #[Value.ref b] s = true) {w : Cond} {k : Nat} (h : enF[k]? = some w) : w.before #[Value.ref b] s = true := flat_of_before _ hgv _ (List.mem_of_getElem? h)
theorem en_t (hts : ∀ w ∈ lw_tbl, w.before #[Value.ref b] s = true) {w : Cond} {k : Nat} (h : tables_1[k]? = some w) : w.before #[Value.ref b] s = true := hts _ (List.mem_append_right _ (List.mem_of_getElem? h))
theorem en_Nx (hgv : (Jvm.Cond.and given_1 narrow_1).before #[Value.ref b] s = true) : xNx s := fun i j hi hj hne => va_Nc.of (en_h hgv (en_c i hi j hj hne))
theorem en_K (hts : ∀ w ∈ lw_tbl, w.before #[Value.ref b] s = true) : ∃ G : xG, va_K G.1 vwCl (xtys G.2) s := by
  have h0 : ∀ k : Nat, ∃ q : ClassId × (Nat → Nat), ∀ r, vwCl[k]? = some r → u_Kn s r.1 r.2.1 r.2.2 q.1 q.2 := by
    intro k
    cases hr : vwCl[k]? with
    | none => exact ⟨(0, fun _ => 0), fun r h => by cases h⟩
    | some r =>
      obtain ⟨hin, -, -⟩ := xcl_ok hr
      obtain ⟨cC, iS, h⟩ := u_known (fun w hw => hts w (List.mem_filter.mp hw).1) hin (en_t hts (en_yi hr))
      exact ⟨(cC, iS), fun r' h' => by cases h'; exact h⟩
  obtain ⟨D, hD⟩ := Classical.axiomOfChoice h0
  obtain ⟨c0, k0, p0, f0, g0, j0⟩ := Cond.arrayClass_spec (en_t hts (k := 79) (w := .arrayClass .int) (by decide +kernel))
  obtain ⟨c1, k1, p1, f1, g1, j1⟩ := Cond.arrayClass_spec (en_t hts (k := 78) (w := .arrayClass .byte) (by decide +kernel))
  obtain ⟨c2, k2, p2, f2, g2, j2⟩ := Cond.arrayClass_spec (en_t hts (k := 1316) (w := .arrayClass .long) (by decide +kernel))
  obtain ⟨c3, k3, p3, f3, g3, j3⟩ := Cond.arrayClass_spec (en_t hts (k := 1694) (w := .arrayClass .double) (by decide +kernel))
  obtain ⟨p4, c4, k4, q4, -, g4, j4, f4⟩ := Cond.arrayOver_spec (en_t hts (k := 43) (w := .arrayOver (.object "ShellWatch$Token")) (by decide +kernel))
  obtain ⟨p5, c5, k5, q5, -, g5, j5, f5⟩ := Cond.arrayOver_spec (en_t hts (k := 322) (w := .arrayOver (.object "ShellWatch$Game")) (by decide +kernel))
  refine ⟨((fun k => (D k).1, fun k => (D k).2), fun k => match k with | 0 => c0 | 1 => c1 | 2 => c2 | 3 => c3 | 4 => c4 | _ => c5), fun k q hq => hD k q hq, fun k q hk => ?_⟩
  match k, hk with
  | 0, hk => cases hk; exact ⟨fun n z => ⟨fun k h => (by cases h), k0, g0, p0, j0⟩, f0⟩
  | 1, hk => cases hk; exact ⟨fun n z => ⟨fun k h => (by cases h), k1, g1, p1, j1⟩, f1⟩
  | 2, hk => cases hk; exact ⟨fun n z => ⟨fun k h => (by cases h), k2, g2, p2, j2⟩, f2⟩
  | 3, hk => cases hk; exact ⟨fun n z => ⟨fun k h => (by cases h), k3, g3, p3, j3⟩, f3⟩
  | 4, hk => cases hk; exact ⟨fun n z => ⟨fun k h => (by cases h), k4, g4, p4, j4⟩, k4, p4, g4, j4, q4, f4⟩
  | 5, hk => cases hk; exact ⟨fun n z => ⟨fun k h => (by cases h), k5, g5, p5, j5⟩, k5, p5, g5, j5, q5, f5⟩
  | k + 6, hk => simp [xtys] at hk
theorem en_S (hgv : (Jvm.Cond.and given_1 narrow_1).before #[Value.ref b] s = true) : ∃ adK adV : Nat → Nat, vk_S xNS (xbyt.map List.length) xbyt adK adV (enA s) s s.heap ∧ (∀ i, i < 27 → (enS i).eval #[Value.ref b] s none [] s = some (.ref (adK i))) ∧ inj adV 27 := by
  have h0 : ∀ i : Nat, ∃ q : Nat × Nat, i < 27 → (enS i).eval #[Value.ref b] s none [] s = some (.ref q.1) ∧ va_O "java/lang/String" q.1 (enA s) s s.heap ∧ va_OF "java/lang/String" "coder" "B" (.int 0) q.1 (enA s) s s.heap ∧ va_OF "java/lang/String" "value" "[B" (.ref q.2) q.1 (enA s) s s.heap ∧ va_T .byte q.2 ((xbyt.map List.length).getD i 0) (fun j => .int ((xbyt.getD i []).getD j 0)) (enA s) s s.heap := by
    intro i
    by_cases hi : i < 27
    · have hl := en_bl i hi
      obtain ⟨a, c, cA, kA, q1, q2, q3, q4, q5, q6, -⟩ := Cond.exactly_spec (args := #[Value.ref b]) (first := s) (o := none) (s := s) (idx := []) (t := enS i) (cls := "java/lang/String") (en_h hgv (en_5 i hi))
      obtain ⟨t, ht, hT⟩ := va_Tof (f := fun j => .int ((xbyt.getD i []).getD j 0)) (A := enA s) (by omega) (en_h hgv (en_7 i hi)) (va_eqt (en_h hgv (en_8 i hi))) (fun j hj => va_eqt (en_h hgv (en_e i hi j hj))) en_hA
      exact ⟨(a, t), fun _ => ⟨q1, ⟨cA, q3, q5, by rw [q6]; exact q2, en_hA a (Array.getElem?_eq_some_iff.mp q3).1⟩, vk_OFof q1 (va_eqt (en_h hgv (en_6 i hi))) en_hA, vk_OFof q1 ht en_hA, hT⟩⟩
    · exact ⟨(0, 0), fun h => absurd h hi⟩
  obtain ⟨ad, had⟩ := Classical.axiomOfChoice h0
  have hV : inj (fun i => (ad i).2) 27 := by
    intro i j hi hj e
    have h1 := (had i hi).2.2.2.2
    have h2 := (had j hj).2.2.2.2
    have e : (ad i).2 = (ad j).2 := e
    rw [← e] at h2
    have b1 := en_bl i hi
    have b2 := en_bl j hj
    obtain ⟨e1, e2⟩ := en_TT h1 h2 (by omega) (by omega)
    exact en_bd i hi j hj e1 (fun k hk => by
      have := e2 k hk
      exact Value.int.inj this)
  refine ⟨fun i => (ad i).1, fun i => (ad i).2, ⟨fun i hi => (had i hi).2, fun i j hi hj e => ?_⟩, fun i hi => (had i hi).1, hV⟩
  have h1 := (had i hi).2.2.2.1
  have h2 := (had j hj).2.2.2.1
  have e : (ad i).1 = (ad j).1 := e
  rw [← e] at h2
  exact hV i j hi hj (Value.ref.inj (en_OO h1 h2))
theorem en_E (hts : ∀ w ∈ lw_tbl, w.before #[Value.ref b] s = true) (hgv : (Jvm.Cond.and given_1 narrow_1).before #[Value.ref b] s = true) : ∃ E : xEn, xK xlds xexs E (enA s) s s.heap ∧ ∀ y, s.heap.size ≤ y → hEn E y := by
  obtain ⟨adK, adV, hS, hK, hV⟩ := en_S hgv
  have h0 : ∀ i : Nat, ∃ t : Nat, i < 29 → (enT i).eval #[Value.ref b] s none [] s = some (.ref t) ∧ va_O RX8 t (enA s) s s.heap := by
    intro i
    by_cases hi : i < 29
    · obtain ⟨a, c, cA, kA, q1, q2, q3, q4, q5, q6, -⟩ := Cond.exactly_spec (args := #[Value.ref b]) (first := s) (o := none) (s := s) (idx := []) (t := enT i) (cls := RX8) (en_h hgv (en_1 i hi))
      exact ⟨a, fun _ => ⟨q1, cA, q3, q5, by rw [q6]; exact q2, en_hA a (Array.getElem?_eq_some_iff.mp q3).1⟩⟩
    · exact ⟨0, fun h => absurd h hi⟩
  obtain ⟨adT, hT⟩ := Classical.axiomOfChoice h0
  obtain ⟨tA, hAe, hAT⟩ := va_Tof (tm := enAll) (ty := .object RX8) (N := 29) (f := fun j => .ref (adT j)) (A := enA s) (by decide) (en_h hgv (k := 11) (by decide +kernel)) (va_eqt (en_h hgv (k := 12) (by decide +kernel))) (fun j hj => va_eqv (en_h hgv (en_4 j hj)) (hT j hj).1) en_hA
  have hini : (Cond.initialized RX8).before #[Value.ref b] s = true := en_t hts (k := 18) (by decide +kernel)
  have hF : ∃ v : Value, va_Z RJ3 "SIOOBE_FORMATTER" "Ljava/util/function/BiFunction;" v (enA s) s s.heap ∧ v.category = 1 := by
    rcases va_Zqof (C := RJ3) (n := "SIOOBE_FORMATTER") (d := "Ljava/util/function/BiFunction;") (en_t hts (k := 647) (by decide +kernel)) (en_t hts (k := 21) (by decide +kernel)) (en_h hgv (k := 44) (by decide +kernel)) en_hA with h | ⟨t, h⟩
    · exact ⟨_, h, rfl⟩
    · exact ⟨_, h, rfl⟩
  obtain ⟨vF, hF, hFc⟩ := hF
  have hT3 : ∀ i, i < 29 → va_OF "java/lang/Enum" "ordinal" "I" (.int (nI i)) (adT i) (enA s) s s.heap := fun i hi => vk_OFof (hT i hi).1 (va_eqt (en_h hgv (en_3 i hi))) en_hA
  refine ⟨(adT, adK, adV, tA, vF), ⟨fun i hi => va_Zref (en_t hts (en_y1 i hi)) hini (hT i hi).1 en_hA, va_Zref (en_t hts (k := 617) (by decide +kernel)) hini hAe en_hA, hAT, fun i hi => ⟨(hT i hi).2, vk_OFof (hT i hi).1 (va_eqv (en_h hgv (en_2 i hi)) (hK (xtt i) (en_tt i hi))) en_hA⟩, hS,
    va_Zof (en_t hts (k := 631) (by decide +kernel)) (en_t hts (k := 19) (by decide +kernel)) (va_eqi (en_h hgv (k := 43) (by decide +kernel))) en_hA, hF,
    vx_Zqof (en_t hts (k := 547) (by decide +kernel)) (en_t hts (k := 12) (by decide +kernel)) (en_h hgv (k := 4) (by decide +kernel)) en_hA,
    vx_Zqof (en_t hts (k := 549) (by decide +kernel)) (en_t hts (k := 12) (by decide +kernel)) (en_h hgv (k := 5) (by decide +kernel)) en_hA,
    fun w hw hn => va_Nw.of (by cases w <;> first | rfl | cases hn) (hts w hw), va_AO.of (en_t hts (k := 43) (by decide +kernel)), va_AO.of (en_t hts (k := 322) (by decide +kernel)), fun q hq => ?_, fun q hq => ?_⟩, fun y hy => ⟨fun i j hi hj e => ?_, hS.2, hV, fun i hi => ?_, fun i hi => ⟨?_, ?_, fun e => ?_⟩, ?_, hFc⟩⟩
  · have hq2 := en_lt q hq
    obtain ⟨i, hi⟩ := List.getElem?_of_mem hq
    have hi19 : i < 19 := (List.getElem?_eq_some_iff.mp hi).1
    have h1 := en_yl i hi19
    have h2 := en_l i hi19
    rw [hi] at h1 h2
    exact vk_R.of (en_t hts h1) (va_eqv (en_h hgv h2) (hK _ hq2))
  · obtain ⟨i, hi⟩ := List.getElem?_of_mem hq
    have hi15 : i < 15 := (List.getElem?_eq_some_iff.mp hi).1
    have h1 := en_yx i hi15
    rw [hi] at h1
    exact en_R (en_t hts h1)
  · have e : adT i = adT j := e
    have h2 := hT3 j hj
    rw [← e] at h2
    exact (nI_eq (by omega) (by omega)).mp (Value.int.inj (en_OO (hT3 i hi) h2))
  · exact Nat.lt_of_lt_of_le (hT i hi).2.lt hy
  · exact Nat.lt_of_lt_of_le (hS.1 i hi).1.lt hy
  · exact Nat.lt_of_lt_of_le (hS.1 i hi).2.2.2.lt hy
  · have e : adV i = tA := e
    have h1 := (hS.1 i hi).2.2.2
    rw [e] at h1
    have b1 := en_bl i hi
    have := (en_TT h1 hAT (by omega) (by decide)).1
    omega
  · exact Nat.lt_of_lt_of_le hAT.lt hy
end EN
