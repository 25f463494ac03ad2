/-! THE TABLE HOLDS: rows against the bytes; written by wip/p31/genval.py. -/
set_option maxRecDepth 100000 in
theorem vb_X11_init : (bX11_init.all fun b => xokB yX11_init.cls (decide (yX11_init.name = "<init>")) cX11_init 7 none pX11 xlds xexs b.2.2.2 b.1 b.2.2.1) = true := by decide +kernel
theorem vr_X11_init : xokR xT xlds xexs rX11_init := ⟨by decide +kernel, by decide +kernel, fun b hb => List.all_eq_true.1 vb_X11_init b hb, fun q hq => List.all_eq_true.1 vp_X11 q hq⟩
set_option maxRecDepth 100000 in
theorem vb_X12_init : (bX12_init.all fun b => xokB yX12_init.cls (decide (yX12_init.name = "<init>")) cX12_init 6 none pX12 xlds xexs b.2.2.2 b.1 b.2.2.1) = true := by decide +kernel
theorem vr_X12_init : xokR xT xlds xexs rX12_init := ⟨by decide +kernel, by decide +kernel, fun b hb => List.all_eq_true.1 vb_X12_init b hb, fun q hq => List.all_eq_true.1 vp_X12 q hq⟩
set_option maxRecDepth 100000 in
theorem vb_X12_by : (bX12_by.all fun b => xokB yX12_by.cls (decide (yX12_by.name = "<init>")) cX12_by 3 (some .int) pX12 xlds xexs b.2.2.2 b.1 b.2.2.1) = true := by decide +kernel
theorem vr_X12_by : xokR xT xlds xexs rX12_by := ⟨by decide +kernel, by decide +kernel, fun b hb => List.all_eq_true.1 vb_X12_by b hb, fun q hq => List.all_eq_true.1 vp_X12 q hq⟩
set_option maxRecDepth 100000 in
theorem vb_X12_moved : (bX12_moved.all fun b => xokB yX12_moved.cls (decide (yX12_moved.name = "<init>")) cX12_moved 5 (some .int) pX12 xlds xexs b.2.2.2 b.1 b.2.2.1) = true := by decide +kernel
theorem vr_X12_moved : xokR xT xlds xexs rX12_moved := ⟨by decide +kernel, by decide +kernel, fun b hb => List.all_eq_true.1 vb_X12_moved b hb, fun q hq => List.all_eq_true.1 vp_X12 q hq⟩
set_option maxRecDepth 100000 in
theorem vb_X12_weight : (bX12_weight.all fun b => xokB yX12_weight.cls (decide (yX12_weight.name = "<init>")) cX12_weight 4 (some .long) pX12 xlds xexs b.2.2.2 b.1 b.2.2.1) = true := by decide +kernel
theorem vr_X12_weight : xokR xT xlds xexs rX12_weight := ⟨by decide +kernel, by decide +kernel, fun b hb => List.all_eq_true.1 vb_X12_weight b hb, fun q hq => List.all_eq_true.1 vp_X12 q hq⟩
set_option maxRecDepth 100000 in
theorem vb_X12_open : (bX12_open.all fun b => xokB yX12_open.cls (decide (yX12_open.name = "<init>")) cX12_open 8 (some .long) pX12 xlds xexs b.2.2.2 b.1 b.2.2.1) = true := by decide +kernel
theorem vr_X12_open : xokR xT xlds xexs rX12_open := ⟨by decide +kernel, by decide +kernel, fun b hb => List.all_eq_true.1 vb_X12_open b hb, fun q hq => List.all_eq_true.1 vp_X12 q hq⟩
set_option maxRecDepth 100000 in
theorem vb_X12_blind : (bX12_blind.all fun b => xokB yX12_blind.cls (decide (yX12_blind.name = "<init>")) cX12_blind 11 (some .long) pX12 xlds xexs b.2.2.2 b.1 b.2.2.1) = true := by decide +kernel
theorem vr_X12_blind : xokR xT xlds xexs rX12_blind := ⟨by decide +kernel, by decide +kernel, fun b hb => List.all_eq_true.1 vb_X12_blind b hb, fun q hq => List.all_eq_true.1 vp_X12 q hq⟩
set_option maxRecDepth 100000 in
theorem vb_X12_isLike : (bX12_isLike.all fun b => xokB yX12_isLike.cls (decide (yX12_isLike.name = "<init>")) cX12_isLike 7 (some .boolean) pX12 xlds xexs b.2.2.2 b.1 b.2.2.1) = true := by decide +kernel
theorem vr_X12_isLike : xokR xT xlds xexs rX12_isLike := ⟨by decide +kernel, by decide +kernel, fun b hb => List.all_eq_true.1 vb_X12_isLike b hb, fun q hq => List.all_eq_true.1 vp_X12 q hq⟩
set_option maxRecDepth 100000 in
theorem vb_L_cell : (bL_cell.all fun b => xokB yL_cell.cls (decide (yL_cell.name = "<init>")) cL_cell 2 (some .int) pL xlds xexs b.2.2.2 b.1 b.2.2.1) = true := by decide +kernel
theorem vr_L_cell : xokR xT xlds xexs rL_cell := ⟨by decide +kernel, by decide +kernel, fun b hb => List.all_eq_true.1 vb_L_cell b hb, fun q hq => List.all_eq_true.1 vp_L q hq⟩
set_option maxRecDepth 100000 in
theorem vb_L_bound : (bL_bound.all fun b => xokB yL_bound.cls (decide (yL_bound.name = "<init>")) cL_bound 2 (some .int) pL xlds xexs b.2.2.2 b.1 b.2.2.1) = true := by decide +kernel
theorem vr_L_bound : xokR xT xlds xexs rL_bound := ⟨by decide +kernel, by decide +kernel, fun b hb => List.all_eq_true.1 vb_L_bound b hb, fun q hq => List.all_eq_true.1 vp_L q hq⟩
set_option maxRecDepth 100000 in
theorem vb_L_feeds : (bL_feeds.all fun b => xokB yL_feeds.cls (decide (yL_feeds.name = "<init>")) cL_feeds 6 (some .int) pL xlds xexs b.2.2.2 b.1 b.2.2.1) = true := by decide +kernel
theorem vr_L_feeds : xokR xT xlds xexs rL_feeds := ⟨by decide +kernel, by decide +kernel, fun b hb => List.all_eq_true.1 vb_L_feeds b hb, fun q hq => List.all_eq_true.1 vp_L q hq⟩
set_option maxRecDepth 100000 in
theorem vb_L_read : (bL_read.all fun b => xokB yL_read.cls (decide (yL_read.name = "<init>")) cL_read 2 (some .int) pL xlds xexs b.2.2.2 b.1 b.2.2.1) = true := by decide +kernel
theorem vr_L_read : xokR xT xlds xexs rL_read := ⟨by decide +kernel, by decide +kernel, fun b hb => List.all_eq_true.1 vb_L_read b hb, fun q hq => List.all_eq_true.1 vp_L q hq⟩
set_option maxRecDepth 100000 in
theorem vb_L_law : (bL_law.all fun b => xokB yL_law.cls (decide (yL_law.name = "<init>")) cL_law 19 (some .boolean) pL xlds xexs b.2.2.2 b.1 b.2.2.1) = true := by decide +kernel
theorem vr_L_law : xokR xT xlds xexs rL_law := ⟨by decide +kernel, by decide +kernel, fun b hb => List.all_eq_true.1 vb_L_law b hb, fun q hq => List.all_eq_true.1 vp_L q hq⟩
