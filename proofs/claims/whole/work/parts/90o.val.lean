/-! THE POOLS HOLD: entries against the word tables; written by wip/whole/genval.py. -/
set_option maxRecDepth 100000 in
theorem vp_X11_100 : ([(0, 356, [9, 28, 0, 0]), (2, 359, [1, 215, 1, 9, 0, 0, 10]), (2, 362, [1, 219, 3, 0, 0, 0, 10]), (2, 371, [0, 231, 2, 1, 0, 0, 0])] : xPool).all (fun q => xokQ RX11 xMt q) = true := by decide +kernel
set_option maxRecDepth 100000 in
theorem vp_J0_0 : ([(6, 9, [78]), (2, 335, [1, 236, 1, 0, 0, 0, 100]), (2, 492, [1, 237, 1, 0, 0, 0, 100]), (2, 495, [0, 239, 2, 0, 0, 0, 0]), (1, 38, [2]), (6, 15, [79]), (1, 1053, [3]), (2, 1059, [0, 240, 3, 0, 0, 0, 0])] : xPool).all (fun q => xokQ RJ0 xMt q) = true := by decide +kernel
set_option maxRecDepth 100000 in
theorem vp_J1_0 : ([(2, 9, [0, 238, 2, 9, 0, 0, 0])] : xPool).all (fun q => xokQ RJ1 xMt q) = true := by decide +kernel
set_option maxRecDepth 100000 in
theorem vp_J3_0 : ([] : xPool).all (fun q => xokQ RJ3 xMt q) = true := by decide +kernel
set_option maxRecDepth 100000 in
theorem vp_J7_0 : ([] : xPool).all (fun q => xokQ RJ7 xMt q) = true := by decide +kernel
