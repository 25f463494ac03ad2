/-! THE TABLE HOLDS: rows against the bytes; written by wip/whole/genval.py. -/
theorem xall_app {α : Type} {p : α → Bool} {l m : List α} (h : l.all p = true) (h2 : m.all p = true) : (l ++ m).all p = true := by rw [List.all_append, h, h2]; rfl
set_option maxRecDepth 100000 in
theorem vp_X0 : pX0.all (fun q => xokQ RX0 xMt q) = true := by
  have h := vp_X0_0
  exact h
set_option maxRecDepth 100000 in
theorem vp_X1 : pX1.all (fun q => xokQ RX1 xMt q) = true := by
  have h := xall_app vp_X1_0 (xall_app vp_X1_15 (vp_X1_30))
  exact h
set_option maxRecDepth 100000 in
theorem vp_X2 : pX2.all (fun q => xokQ RX2 xMt q) = true := by
  have h := xall_app vp_X2_0 (xall_app vp_X2_15 (xall_app vp_X2_30 (vp_X2_45)))
  exact h
set_option maxRecDepth 100000 in
theorem vp_X3 : pX3.all (fun q => xokQ RX3 xMt q) = true := by
  have h := xall_app vp_X3_0 (vp_X3_15)
  exact h
set_option maxRecDepth 100000 in
theorem vp_X4 : pX4.all (fun q => xokQ RX4 xMt q) = true := by
  have h := xall_app vp_X4_0 (vp_X4_15)
  exact h
set_option maxRecDepth 100000 in
theorem vp_X5 : pX5.all (fun q => xokQ RX5 xMt q) = true := by
  have h := vp_X5_0
  exact h
set_option maxRecDepth 100000 in
theorem vp_X6 : pX6.all (fun q => xokQ RX6 xMt q) = true := by
  have h := xall_app vp_X6_0 (xall_app vp_X6_15 (xall_app vp_X6_30 (vp_X6_45)))
  exact h
set_option maxRecDepth 100000 in
theorem vp_X7 : pX7.all (fun q => xokQ RX7 xMt q) = true := by
  have h := xall_app vp_X7_0 (xall_app vp_X7_15 (vp_X7_30))
  exact h
set_option maxRecDepth 100000 in
theorem vp_X9 : pX9.all (fun q => xokQ RX9 xMt q) = true := by
  have h := xall_app vp_X9_0 (vp_X9_15)
  exact h
set_option maxRecDepth 100000 in
theorem vp_X10 : pX10.all (fun q => xokQ RX10 xMt q) = true := by
  have h := xall_app vp_X10_0 (xall_app vp_X10_15 (xall_app vp_X10_30 (xall_app vp_X10_45 (xall_app vp_X10_60 (vp_X10_75)))))
  exact h
set_option maxRecDepth 100000 in
theorem vp_X11 : pX11.all (fun q => xokQ RX11 xMt q) = true := by
  have h := xall_app vp_X11_0 (xall_app vp_X11_4 (xall_app vp_X11_8 (xall_app vp_X11_12 (xall_app vp_X11_16 (xall_app vp_X11_20 (xall_app vp_X11_24 (xall_app vp_X11_28 (xall_app vp_X11_32 (xall_app vp_X11_36 (xall_app vp_X11_40 (xall_app vp_X11_44 (xall_app vp_X11_48 (xall_app vp_X11_52 (xall_app vp_X11_56 (xall_app vp_X11_60 (xall_app vp_X11_64 (xall_app vp_X11_68 (xall_app vp_X11_72 (xall_app vp_X11_76 (xall_app vp_X11_80 (xall_app vp_X11_84 (xall_app vp_X11_88 (xall_app vp_X11_92 (xall_app vp_X11_96 (vp_X11_100)))))))))))))))))))))))))
  exact h
set_option maxRecDepth 100000 in
theorem vp_J0 : pJ0.all (fun q => xokQ RJ0 xMt q) = true := by
  have h := vp_J0_0
  exact h
set_option maxRecDepth 100000 in
theorem vp_J1 : pJ1.all (fun q => xokQ RJ1 xMt q) = true := by
  have h := vp_J1_0
  exact h
set_option maxRecDepth 100000 in
theorem vp_J3 : pJ3.all (fun q => xokQ RJ3 xMt q) = true := by
  have h := vp_J3_0
  exact h
set_option maxRecDepth 100000 in
theorem vp_J7 : pJ7.all (fun q => xokQ RJ7 xMt q) = true := by
  have h := vp_J7_0
  exact h
