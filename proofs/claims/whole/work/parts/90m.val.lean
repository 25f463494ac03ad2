/-! THE POOLS HOLD: entries against the word tables; written by wip/whole/genval.py. -/
set_option maxRecDepth 100000 in
theorem vp_X11_60 : ([(0, 218, [9, 16, 0, 0]), (2, 223, [1, 186, 1, 0, 0, 0, 10]), (2, 228, [1, 187, 2, 0, 0, 0, 10]), (2, 233, [1, 185, 3, 0, 0, 0, 10])] : xPool).all (fun q => xokQ RX11 xMt q) = true := by decide +kernel
set_option maxRecDepth 100000 in
theorem vp_X11_64 : ([(2, 236, [1, 188, 4, 0, 0, 0, 10]), (2, 249, [1, 189, 1, 0, 0, 0, 10]), (2, 252, [1, 148, 3, 0, 0, 0, 10]), (2, 256, [1, 191, 2, 0, 0, 0, 10])] : xPool).all (fun q => xokQ RX11 xMt q) = true := by decide +kernel
set_option maxRecDepth 100000 in
theorem vp_X11_68 : ([(2, 259, [1, 190, 1, 0, 0, 0, 10]), (2, 262, [1, 147, 1, 9, 0, 0, 10]), (0, 279, [9, 22, 0, 0]), (0, 33, [9, 18, 2, 0])] : xPool).all (fun q => xokQ RX11 xMt q) = true := by decide +kernel
set_option maxRecDepth 100000 in
theorem vp_X11_72 : ([(2, 282, [1, 196, 1, 0, 0, 0, 10]), (0, 39, [9, 20, 2, 0]), (0, 285, [9, 21, 0, 0]), (2, 288, [1, 193, 1, 0, 0, 0, 10])] : xPool).all (fun q => xokQ RX11 xMt q) = true := by decide +kernel
set_option maxRecDepth 100000 in
theorem vp_X11_76 : ([(0, 30, [9, 17, 2, 0]), (2, 291, [1, 194, 2, 0, 0, 0, 10]), (0, 36, [9, 19, 2, 0]), (2, 294, [1, 195, 1, 0, 0, 0, 10])] : xPool).all (fun q => xokQ RX11 xMt q) = true := by decide +kernel
