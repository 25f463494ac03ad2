/-! THE POOLS HOLD: entries against the word tables; written by wip/whole/genval.py. -/
set_option maxRecDepth 100000 in
theorem vp_X11_40 : ([(0, 23, [9, 7, 2, 0]), (0, 149, [9, 11, 0, 0]), (0, 152, [9, 10, 0, 0]), (0, 155, [9, 9, 0, 0])] : xPool).all (fun q => xokQ RX11 xMt q) = true := by decide +kernel
set_option maxRecDepth 100000 in
theorem vp_X11_44 : ([(2, 158, [1, 175, 1, 0, 0, 0, 10]), (2, 161, [0, 176, 1, 0, 0, 0, 0]), (2, 164, [1, 234, 1, 0, 0, 0, 100]), (2, 168, [1, 235, 2, 0, 0, 0, 100])] : xPool).all (fun q => xokQ RX11 xMt q) = true := by decide +kernel
set_option maxRecDepth 100000 in
theorem vp_X11_48 : ([(2, 172, [1, 174, 3, 0, 0, 0, 10]), (2, 176, [0, 177, 1, 0, 0, 0, 0]), (0, 179, [9, 14, 0, 0]), (0, 182, [9, 13, 0, 0])] : xPool).all (fun q => xokQ RX11 xMt q) = true := by decide +kernel
set_option maxRecDepth 100000 in
theorem vp_X11_52 : ([(0, 186, [9, 15, 0, 0]), (2, 189, [1, 184, 1, 0, 0, 0, 10]), (2, 192, [1, 179, 2, 0, 0, 0, 10]), (2, 195, [1, 180, 3, 0, 0, 0, 10])] : xPool).all (fun q => xokQ RX11 xMt q) = true := by decide +kernel
set_option maxRecDepth 100000 in
theorem vp_X11_56 : ([(2, 198, [1, 181, 3, 9, 0, 0, 10]), (2, 202, [1, 178, 2, 0, 0, 0, 10]), (2, 212, [1, 182, 1, 0, 0, 0, 10]), (2, 215, [1, 183, 1, 0, 0, 0, 10])] : xPool).all (fun q => xokQ RX11 xMt q) = true := by decide +kernel
