/-! THE TABLE HOLDS: rows against the bytes; written by wip/p31/genval.py. -/
theorem xall_app {α : Type} {p : α → Bool} {l m : List α} (h : l.all p = true) (h2 : m.all p = true) : (l ++ m).all p = true := by rw [List.all_append, h, h2]; rfl
set_option maxRecDepth 100000 in
theorem vp_X0 : pX0.all (fun q => xokQ RX0 xMt q) = true := by
  have h := vp_X0_0
  exact h
set_option maxRecDepth 100000 in
theorem vp_X1 : pX1.all (fun q => xokQ RX1 xMt q) = true := by
  have h := xall_app vp_X1_0 (vp_X1_15)
  exact h
set_option maxRecDepth 100000 in
theorem vp_X2 : pX2.all (fun q => xokQ RX2 xMt q) = true := by
  have h := xall_app vp_X2_0 (xall_app vp_X2_15 (xall_app vp_X2_30 (vp_X2_45)))
  exact h
set_option maxRecDepth 100000 in
theorem vp_X3 : pX3.all (fun q => xokQ RX3 xMt q) = true := by
  have h := xall_app vp_X3_0 (vp_X3_15)
  exact h
set_option maxRecDepth 100000 in
theorem vp_X4 : pX4.all (fun q => xokQ RX4 xMt q) = true := by
  have h := xall_app vp_X4_0 (vp_X4_15)
  exact h
set_option maxRecDepth 100000 in
theorem vp_X5 : pX5.all (fun q => xokQ RX5 xMt q) = true := by
  have h := vp_X5_0
  exact h
set_option maxRecDepth 100000 in
theorem vp_X6 : pX6.all (fun q => xokQ RX6 xMt q) = true := by
  have h := vp_X6_0
  exact h
set_option maxRecDepth 100000 in
theorem vp_X7 : pX7.all (fun q => xokQ RX7 xMt q) = true := by
  have h := xall_app vp_X7_0 (xall_app vp_X7_15 (vp_X7_30))
  exact h
set_option maxRecDepth 100000 in
theorem vp_X9 : pX9.all (fun q => xokQ RX9 xMt q) = true := by
  have h := vp_X9_0
  exact h
set_option maxRecDepth 100000 in
theorem vp_X10 : pX10.all (fun q => xokQ RX10 xMt q) = true := by
  have h := xall_app vp_X10_0 (xall_app vp_X10_15 (xall_app vp_X10_30 (vp_X10_45)))
  exact h
set_option maxRecDepth 100000 in
theorem vp_X11 : pX11.all (fun q => xokQ RX11 xMt q) = true := by
  have h := vp_X11_0
  exact h
set_option maxRecDepth 100000 in
theorem vp_X12 : pX12.all (fun q => xokQ RX12 xMt q) = true := by
  have h := xall_app vp_X12_0 (xall_app vp_X12_15 (vp_X12_30))
  exact h
set_option maxRecDepth 100000 in
theorem vp_L : pL.all (fun q => xokQ RL xMt q) = true := by
  have h := xall_app vp_L_0 (xall_app vp_L_15 (vp_L_30))
  exact h
set_option maxRecDepth 100000 in
theorem vp_J0 : pJ0.all (fun q => xokQ RJ0 xMt q) = true := by
  have h := vp_J0_0
  exact h
set_option maxRecDepth 100000 in
theorem vp_J1 : pJ1.all (fun q => xokQ RJ1 xMt q) = true := by
  have h := vp_J1_0
  exact h
set_option maxRecDepth 100000 in
theorem vp_J3 : pJ3.all (fun q => xokQ RJ3 xMt q) = true := by
  have h := vp_J3_0
  exact h
set_option maxRecDepth 100000 in
theorem vp_J4 : pJ4.all (fun q => xokQ RJ4 xMt q) = true := by
  have h := vp_J4_0
  exact h
set_option maxRecDepth 100000 in
theorem vp_J5 : pJ5.all (fun q => xokQ RJ5 xMt q) = true := by
  have h := xall_app vp_J5_0 (vp_J5_15)
  exact h
set_option maxRecDepth 100000 in
theorem vp_J6 : pJ6.all (fun q => xokQ RJ6 xMt q) = true := by
  have h := vp_J6_0
  exact h
set_option maxRecDepth 100000 in
theorem vp_J7 : pJ7.all (fun q => xokQ RJ7 xMt q) = true := by
  have h := vp_J7_0
  exact h
set_option maxRecDepth 100000 in
theorem vp_J8 : pJ8.all (fun q => xokQ RJ8 xMt q) = true := by
  have h := vp_J8_0
  exact h
set_option maxRecDepth 100000 in
theorem vp_J15 : pJ15.all (fun q => xokQ RJ15 xMt q) = true := by
  have h := vp_J15_0
  exact h
set_option maxRecDepth 100000 in
theorem vp_Jx4a65c : pJx4a65c.all (fun q => xokQ RJx4a65c xMt q) = true := by
  have h := vp_Jx4a65c_0
  exact h
set_option maxRecDepth 100000 in
theorem vp_Jxc12de : pJxc12de.all (fun q => xokQ RJxc12de xMt q) = true := by
  have h := vp_Jxc12de_0
  exact h
set_option maxRecDepth 100000 in
theorem vp_Jxa1e45 : pJxa1e45.all (fun q => xokQ RJxa1e45 xMt q) = true := by
  have h := vp_Jxa1e45_0
  exact h
