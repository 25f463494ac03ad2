/-! THE POOLS HOLD: entries against the word tables; written by wip/whole/genval.py. -/
set_option maxRecDepth 100000 in
theorem vp_X11_20 : ([(2, 70, [1, 151, 2, 0, 0, 0, 10]), (2, 74, [1, 150, 1, 0, 0, 0, 10]), (0, 16, [9, 5, 2, 0]), (2, 78, [1, 155, 2, 1, 0, 0, 10])] : xPool).all (fun q => xokQ RX11 xMt q) = true := by decide +kernel
set_option maxRecDepth 100000 in
theorem vp_X11_24 : ([(2, 82, [1, 156, 2, 9, 0, 0, 10]), (2, 86, [1, 153, 1, 0, 0, 0, 10]), (2, 91, [0, 154, 3, 0, 0, 0, 0]), (2, 97, [0, 159, 2, 1, 0, 0, 0])] : xPool).all (fun q => xokQ RX11 xMt q) = true := by decide +kernel
set_option maxRecDepth 100000 in
theorem vp_X11_28 : ([(2, 108, [1, 152, 1, 0, 0, 0, 10]), (2, 112, [1, 158, 4, 9, 0, 0, 10]), (2, 116, [1, 157, 4, 9, 0, 0, 10]), (2, 119, [1, 160, 1, 9, 0, 0, 10])] : xPool).all (fun q => xokQ RX11 xMt q) = true := by decide +kernel
set_option maxRecDepth 100000 in
theorem vp_X11_32 : ([(2, 122, [1, 161, 4, 9, 0, 0, 10]), (2, 125, [1, 164, 4, 0, 0, 0, 10]), (2, 128, [1, 162, 1, 9, 0, 0, 10]), (2, 131, [1, 163, 1, 1, 0, 0, 10])] : xPool).all (fun q => xokQ RX11 xMt q) = true := by decide +kernel
set_option maxRecDepth 100000 in
theorem vp_X11_36 : ([(0, 20, [9, 6, 2, 0]), (2, 135, [1, 169, 3, 1, 0, 0, 10]), (0, 143, [9, 8, 0, 0]), (2, 146, [1, 172, 2, 9, 0, 0, 10])] : xPool).all (fun q => xokQ RX11 xMt q) = true := by decide +kernel
