/-! THE POOLS HOLD: entries against the word tables; written by wip/whole/genval.py. -/
set_option maxRecDepth 100000 in
theorem vp_X11_80 : ([(2, 297, [1, 197, 2, 0, 0, 0, 10]), (2, 300, [1, 165, 4, 0, 0, 0, 10]), (2, 302, [1, 167, 2, 0, 0, 0, 10]), (2, 305, [1, 168, 1, 0, 0, 0, 10])] : xPool).all (fun q => xokQ RX11 xMt q) = true := by decide +kernel
set_option maxRecDepth 100000 in
theorem vp_X11_84 : ([(2, 308, [1, 166, 2, 0, 0, 0, 10]), (0, 311, [9, 24, 5, 0]), (2, 315, [1, 199, 3, 9, 0, 0, 10]), (0, 318, [9, 23, 0, 0])] : xPool).all (fun q => xokQ RX11 xMt q) = true := by decide +kernel
set_option maxRecDepth 100000 in
theorem vp_X11_88 : ([(2, 321, [1, 198, 2, 0, 0, 0, 10]), (2, 324, [1, 201, 1, 0, 0, 0, 10]), (2, 327, [1, 202, 2, 0, 0, 0, 10]), (2, 330, [1, 203, 3, 0, 0, 0, 10])] : xPool).all (fun q => xokQ RX11 xMt q) = true := by decide +kernel
set_option maxRecDepth 100000 in
theorem vp_X11_92 : ([(2, 334, [1, 209, 1, 0, 0, 0, 10]), (2, 337, [1, 170, 2, 0, 0, 0, 10]), (0, 42, [9, 25, 2, 0]), (0, 340, [9, 26, 0, 0])] : xPool).all (fun q => xokQ RX11 xMt q) = true := by decide +kernel
set_option maxRecDepth 100000 in
theorem vp_X11_96 : ([(2, 343, [1, 216, 4, 9, 0, 0, 10]), (0, 346, [9, 30, 1, 0]), (0, 350, [9, 29, 1, 0]), (0, 353, [9, 27, 0, 0])] : xPool).all (fun q => xokQ RX11 xMt q) = true := by decide +kernel
