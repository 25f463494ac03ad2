/-! THE POOLS HOLD: entries against the word tables; written by wip/p31/genval.py. -/
set_option maxRecDepth 100000 in
theorem vp_J5_0 : ([(1, 18, [2]), (0, 15, [12, 0, 2, 0]), (0, 22, [12, 1, 6, 0]), (2, 32, [1, 118, 1, 0, 0, 0, 100]), (2, 40, [1, 120, 1, 0, 0, 0, 100]), (2, 43, [9, 151, 2, 2, 1, 250, 13]), (0, 79, [12, 3, 0, 0]), (2, 100, [6, 130, 2, 9, 1, 250, 13]), (2, 208, [6, 134, 3, 9, 0, 0, 13]), (2, 83, [6, 132, 1, 0, 0, 0, 13]), (2, 191, [0, 153, 1, 0, 0, 0, 0]), (2, 245, [0, 154, 1, 0, 0, 0, 0]), (2, 248, [0, 155, 3, 0, 0, 0, 0]), (2, 104, [6, 131, 2, 0, 0, 0, 13]), (2, 108, [0, 138, 2, 2, 1, 250, 0])] : xPool).all (fun q => xokQ RJ5 xMt q) = true := by decide +kernel
set_option maxRecDepth 100000 in
theorem vp_J5_15 : ([(2, 114, [0, 137, 3, 0, 0, 0, 0]), (2, 397, [6, 133, 2, 9, 0, 0, 13]), (2, 399, [1, 144, 4, 9, 0, 0, 100])] : xPool).all (fun q => xokQ RJ5 xMt q) = true := by decide +kernel
set_option maxRecDepth 100000 in
theorem vp_J6_0 : ([(1, 83, [4]), (1, 87, [5])] : xPool).all (fun q => xokQ RJ6 xMt q) = true := by decide +kernel
set_option maxRecDepth 100000 in
theorem vp_J7_0 : ([(2, 339, [0, 140, 3, 2, 1, 120, 0]), (2, 343, [0, 141, 2, 9, 0, 0, 0])] : xPool).all (fun q => xokQ RJ7 xMt q) = true := by decide +kernel
set_option maxRecDepth 100000 in
theorem vp_J8_0 : ([] : xPool).all (fun q => xokQ RJ8 xMt q) = true := by decide +kernel
set_option maxRecDepth 100000 in
theorem vp_J15_0 : ([(2, 105, [0, 124, 3, 0, 0, 0, 0])] : xPool).all (fun q => xokQ RJ15 xMt q) = true := by decide +kernel
set_option maxRecDepth 100000 in
theorem vp_Jx4a65c_0 : ([(2, 1, [2, 157, 1, 9, 0, 0, 14]), (1, 39, [6]), (0, 9, [13, 1, 2, 0]), (0, 63, [13, 0, 0, 4]), (0, 48, [13, 2, 0, 0]), (2, 131, [1, 160, 4, 9, 1, 10, 14]), (2, 129, [1, 161, 1, 2, 1, 10, 14]), (2, 69, [1, 162, 2, 2, 1, 10, 14]), (4, 7, [6]), (2, 118, [0, 166, 2, 0, 0, 0, 0]), (2, 123, [1, 164, 2, 2, 0, 0, 14])] : xPool).all (fun q => xokQ RJx4a65c xMt q) = true := by decide +kernel
set_option maxRecDepth 100000 in
theorem vp_Jxc12de_0 : ([(2, 1, [2, 158, 1, 9, 0, 0, 14]), (0, 7, [13, 0, 0, 0])] : xPool).all (fun q => xokQ RJxc12de xMt q) = true := by decide +kernel
set_option maxRecDepth 100000 in
theorem vp_Jxa1e45_0 : ([] : xPool).all (fun q => xokQ RJxa1e45 xMt q) = true := by decide +kernel
