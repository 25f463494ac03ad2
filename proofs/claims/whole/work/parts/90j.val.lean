/-! THE POOLS HOLD: entries against the word tables; written by wip/whole/genval.py. -/
set_option maxRecDepth 100000 in
theorem vp_X11_0 : ([(0, 7, [9, 1, 2, 2]), (0, 13, [9, 2, 2, 2]), (0, 16, [9, 5, 2, 2]), (0, 20, [9, 6, 2, 2])] : xPool).all (fun q => xokQ RX11 xMt q) = true := by decide +kernel
set_option maxRecDepth 100000 in
theorem vp_X11_4 : ([(0, 23, [9, 7, 2, 2]), (0, 26, [9, 12, 0, 0]), (0, 30, [9, 17, 2, 2]), (0, 33, [9, 18, 2, 2])] : xPool).all (fun q => xokQ RX11 xMt q) = true := by decide +kernel
set_option maxRecDepth 100000 in
theorem vp_X11_8 : ([(0, 36, [9, 19, 2, 2]), (0, 39, [9, 20, 2, 2]), (0, 42, [9, 25, 2, 2]), (2, 45, [1, 149, 2, 9, 0, 0, 10])] : xPool).all (fun q => xokQ RX11 xMt q) = true := by decide +kernel
set_option maxRecDepth 100000 in
theorem vp_X11_12 : ([(0, 13, [9, 2, 2, 0]), (2, 49, [1, 146, 3, 9, 0, 0, 10]), (0, 53, [9, 0, 0, 0]), (0, 7, [9, 1, 2, 0])] : xPool).all (fun q => xokQ RX11 xMt q) = true := by decide +kernel
set_option maxRecDepth 100000 in
theorem vp_X11_16 : ([(0, 56, [9, 3, 0, 0]), (2, 59, [1, 145, 2, 0, 0, 0, 10]), (0, 63, [9, 4, 0, 0]), (2, 66, [0, 144, 3, 0, 0, 0, 0])] : xPool).all (fun q => xokQ RX11 xMt q) = true := by decide +kernel
