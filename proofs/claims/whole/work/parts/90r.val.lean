/-! THE TABLE HOLDS: rows against the bytes; written by wip/whole/genval.py. -/
set_option maxRecDepth 100000 in
theorem vb_X5_init : (bX5_init.all fun b => xokB yX5_init.cls (decide (yX5_init.name = "<init>")) cX5_init 1 none pX5 xlds xexs b.2.2.2 b.1 b.2.2.1) = true := by decide +kernel
theorem vr_X5_init : xokR xT xlds xexs rX5_init := ⟨by decide +kernel, fun b hb => List.all_eq_true.1 vb_X5_init b hb, fun q hq => List.all_eq_true.1 vp_X5 q hq⟩
set_option maxRecDepth 100000 in
theorem vb_X5_reset : (bX5_reset.all fun b => xokB yX5_reset.cls (decide (yX5_reset.name = "<init>")) cX5_reset 3 none pX5 xlds xexs b.2.2.2 b.1 b.2.2.1) = true := by decide +kernel
theorem vr_X5_reset : xokR xT xlds xexs rX5_reset := ⟨by decide +kernel, fun b hb => List.all_eq_true.1 vb_X5_reset b hb, fun q hq => List.all_eq_true.1 vp_X5 q hq⟩
set_option maxRecDepth 100000 in
theorem vb_X5_copyFrom : (bX5_copyFrom.all fun b => xokB yX5_copyFrom.cls (decide (yX5_copyFrom.name = "<init>")) cX5_copyFrom 2 none pX5 xlds xexs b.2.2.2 b.1 b.2.2.1) = true := by decide +kernel
theorem vr_X5_copyFrom : xokR xT xlds xexs rX5_copyFrom := ⟨by decide +kernel, fun b hb => List.all_eq_true.1 vb_X5_copyFrom b hb, fun q hq => List.all_eq_true.1 vp_X5 q hq⟩
set_option maxRecDepth 100000 in
theorem vb_X5_hasPlace : (bX5_hasPlace.all fun b => xokB yX5_hasPlace.cls (decide (yX5_hasPlace.name = "<init>")) cX5_hasPlace 2 (some .boolean) pX5 xlds xexs b.2.2.2 b.1 b.2.2.1) = true := by decide +kernel
theorem vr_X5_hasPlace : xokR xT xlds xexs rX5_hasPlace := ⟨by decide +kernel, fun b hb => List.all_eq_true.1 vb_X5_hasPlace b hb, fun q hq => List.all_eq_true.1 vp_X5 q hq⟩
set_option maxRecDepth 100000 in
theorem vb_X5_hasTwoPlaces : (bX5_hasTwoPlaces.all fun b => xokB yX5_hasTwoPlaces.cls (decide (yX5_hasTwoPlaces.name = "<init>")) cX5_hasTwoPlaces 3 (some .boolean) pX5 xlds xexs b.2.2.2 b.1 b.2.2.1) = true := by decide +kernel
theorem vr_X5_hasTwoPlaces : xokR xT xlds xexs rX5_hasTwoPlaces := ⟨by decide +kernel, fun b hb => List.all_eq_true.1 vb_X5_hasTwoPlaces b hb, fun q hq => List.all_eq_true.1 vp_X5 q hq⟩
set_option maxRecDepth 100000 in
theorem vb_X5_isScratched : (bX5_isScratched.all fun b => xokB yX5_isScratched.cls (decide (yX5_isScratched.name = "<init>")) cX5_isScratched 2 (some .boolean) pX5 xlds xexs b.2.2.2 b.1 b.2.2.1) = true := by decide +kernel
theorem vr_X5_isScratched : xokR xT xlds xexs rX5_isScratched := ⟨by decide +kernel, fun b hb => List.all_eq_true.1 vb_X5_isScratched b hb, fun q hq => List.all_eq_true.1 vp_X5 q hq⟩
set_option maxRecDepth 100000 in
theorem vb_X5_setScratched : (bX5_setScratched.all fun b => xokB yX5_setScratched.cls (decide (yX5_setScratched.name = "<init>")) cX5_setScratched 3 none pX5 xlds xexs b.2.2.2 b.1 b.2.2.1) = true := by decide +kernel
theorem vr_X5_setScratched : xokR xT xlds xexs rX5_setScratched := ⟨by decide +kernel, fun b hb => List.all_eq_true.1 vb_X5_setScratched b hb, fun q hq => List.all_eq_true.1 vp_X5 q hq⟩
set_option maxRecDepth 100000 in
theorem vb_X5_number : (bX5_number.all fun b => xokB yX5_number.cls (decide (yX5_number.name = "<init>")) cX5_number 3 (some .int) pX5 xlds xexs b.2.2.2 b.1 b.2.2.1) = true := by decide +kernel
theorem vr_X5_number : xokR xT xlds xexs rX5_number := ⟨by decide +kernel, fun b hb => List.all_eq_true.1 vb_X5_number b hb, fun q hq => List.all_eq_true.1 vp_X5 q hq⟩
set_option maxRecDepth 100000 in
theorem vb_X5_exchange : (bX5_exchange.all fun b => xokB yX5_exchange.cls (decide (yX5_exchange.name = "<init>")) cX5_exchange 6 none pX5 xlds xexs b.2.2.2 b.1 b.2.2.1) = true := by decide +kernel
theorem vr_X5_exchange : xokR xT xlds xexs rX5_exchange := ⟨by decide +kernel, fun b hb => List.all_eq_true.1 vb_X5_exchange b hb, fun q hq => List.all_eq_true.1 vp_X5 q hq⟩
set_option maxRecDepth 100000 in
theorem vb_X5_placeBehind : (bX5_placeBehind.all fun b => xokB yX5_placeBehind.cls (decide (yX5_placeBehind.name = "<init>")) cX5_placeBehind 3 (some .int) pX5 xlds xexs b.2.2.2 b.1 b.2.2.1) = true := by decide +kernel
theorem vr_X5_placeBehind : xokR xT xlds xexs rX5_placeBehind := ⟨by decide +kernel, fun b hb => List.all_eq_true.1 vb_X5_placeBehind b hb, fun q hq => List.all_eq_true.1 vp_X5 q hq⟩
set_option maxRecDepth 100000 in
theorem vb_X5_swapsToFirst : (bX5_swapsToFirst.all fun b => xokB yX5_swapsToFirst.cls (decide (yX5_swapsToFirst.name = "<init>")) cX5_swapsToFirst 6 (some .int) pX5 xlds xexs b.2.2.2 b.1 b.2.2.1) = true := by decide +kernel
theorem vr_X5_swapsToFirst : xokR xT xlds xexs rX5_swapsToFirst := ⟨by decide +kernel, fun b hb => List.all_eq_true.1 vb_X5_swapsToFirst b hb, fun q hq => List.all_eq_true.1 vp_X5 q hq⟩
set_option maxRecDepth 100000 in
theorem vb_X6_init : (bX6_init.all fun b => xokB yX6_init.cls (decide (yX6_init.name = "<init>")) cX6_init 1 none pX6 xlds xexs b.2.2.2 b.1 b.2.2.1) = true := by decide +kernel
theorem vr_X6_init : xokR xT xlds xexs rX6_init := ⟨by decide +kernel, fun b hb => List.all_eq_true.1 vb_X6_init b hb, fun q hq => List.all_eq_true.1 vp_X6 q hq⟩
set_option maxRecDepth 100000 in
theorem vb_X6_clear : (bX6_clear.all fun b => xokB yX6_clear.cls (decide (yX6_clear.name = "<init>")) cX6_clear 1 none pX6 xlds xexs b.2.2.2 b.1 b.2.2.1) = true := by decide +kernel
theorem vr_X6_clear : xokR xT xlds xexs rX6_clear := ⟨by decide +kernel, fun b hb => List.all_eq_true.1 vb_X6_clear b hb, fun q hq => List.all_eq_true.1 vp_X6 q hq⟩
set_option maxRecDepth 100000 in
theorem vb_X6_readCommands : (bX6_readCommands.all fun b => xokB yX6_readCommands.cls (decide (yX6_readCommands.name = "<init>")) cX6_readCommands 5 (some .boolean) pX6 xlds xexs b.2.2.2 b.1 b.2.2.1) = true := by decide +kernel
theorem vr_X6_readCommands : xokR xT xlds xexs rX6_readCommands := ⟨by decide +kernel, fun b hb => List.all_eq_true.1 vb_X6_readCommands b hb, fun q hq => List.all_eq_true.1 vp_X6 q hq⟩
set_option maxRecDepth 100000 in
theorem vb_X6_numbersOf : (bX6_numbersOf.all fun b => xokB yX6_numbersOf.cls (decide (yX6_numbersOf.name = "<init>")) cX6_numbersOf 1 (some .int) pX6 xlds xexs b.2.2.2 b.1 b.2.2.1) = true := by decide +kernel
theorem vr_X6_numbersOf : xokR xT xlds xexs rX6_numbersOf := ⟨by decide +kernel, fun b hb => List.all_eq_true.1 vb_X6_numbersOf b hb, fun q hq => List.all_eq_true.1 vp_X6 q hq⟩
set_option maxRecDepth 100000 in
theorem vb_X6_readCommand : (bX6_readCommand.all fun b => xokB yX6_readCommand.cls (decide (yX6_readCommand.name = "<init>")) cX6_readCommand 6 (some .boolean) pX6 xlds xexs b.2.2.2 b.1 b.2.2.1) = true := by decide +kernel
theorem vr_X6_readCommand : xokR xT xlds xexs rX6_readCommand := ⟨by decide +kernel, fun b hb => List.all_eq_true.1 vb_X6_readCommand b hb, fun q hq => List.all_eq_true.1 vp_X6 q hq⟩
set_option maxRecDepth 100000 in
theorem vb_X6_readRepeat : (bX6_readRepeat.all fun b => xokB yX6_readRepeat.cls (decide (yX6_readRepeat.name = "<init>")) cX6_readRepeat 5 (some .boolean) pX6 xlds xexs b.2.2.2 b.1 b.2.2.1) = true := by decide +kernel
theorem vr_X6_readRepeat : xokR xT xlds xexs rX6_readRepeat := ⟨by decide +kernel, fun b hb => List.all_eq_true.1 vb_X6_readRepeat b hb, fun q hq => List.all_eq_true.1 vp_X6 q hq⟩
set_option maxRecDepth 100000 in
theorem vb_X6_put : (bX6_put.all fun b => xokB yX6_put.cls (decide (yX6_put.name = "<init>")) cX6_put 4 none pX6 xlds xexs b.2.2.2 b.1 b.2.2.1) = true := by decide +kernel
theorem vr_X6_put : xokR xT xlds xexs rX6_put := ⟨by decide +kernel, fun b hb => List.all_eq_true.1 vb_X6_put b hb, fun q hq => List.all_eq_true.1 vp_X6 q hq⟩
set_option maxRecDepth 100000 in
theorem vb_X6_performRange : (bX6_performRange.all fun b => xokB yX6_performRange.cls (decide (yX6_performRange.name = "<init>")) cX6_performRange 9 (some .boolean) pX6 xlds xexs b.2.2.2 b.1 b.2.2.1) = true := by decide +kernel
theorem vr_X6_performRange : xokR xT xlds xexs rX6_performRange := ⟨by decide +kernel, fun b hb => List.all_eq_true.1 vb_X6_performRange b hb, fun q hq => List.all_eq_true.1 vp_X6 q hq⟩
set_option maxRecDepth 100000 in
theorem vb_X6_performRepeat : (bX6_performRepeat.all fun b => xokB yX6_performRepeat.cls (decide (yX6_performRepeat.name = "<init>")) cX6_performRepeat 6 (some .boolean) pX6 xlds xexs b.2.2.2 b.1 b.2.2.1) = true := by decide +kernel
theorem vr_X6_performRepeat : xokR xT xlds xexs rX6_performRepeat := ⟨by decide +kernel, fun b hb => List.all_eq_true.1 vb_X6_performRepeat b hb, fun q hq => List.all_eq_true.1 vp_X6 q hq⟩
set_option maxRecDepth 100000 in
theorem vb_X6_performOne : (bX6_performOne.all fun b => xokB yX6_performOne.cls (decide (yX6_performOne.name = "<init>")) cX6_performOne 6 (some .boolean) pX6 xlds xexs b.2.2.2 b.1 b.2.2.1) = true := by decide +kernel
theorem vr_X6_performOne : xokR xT xlds xexs rX6_performOne := ⟨by decide +kernel, fun b hb => List.all_eq_true.1 vb_X6_performOne b hb, fun q hq => List.all_eq_true.1 vp_X6 q hq⟩
set_option maxRecDepth 100000 in
theorem vb_X6_isAllowed : (bX6_isAllowed.all fun b => xokB yX6_isAllowed.cls (decide (yX6_isAllowed.name = "<init>")) cX6_isAllowed 4 (some .boolean) pX6 xlds xexs b.2.2.2 b.1 b.2.2.1) = true := by decide +kernel
theorem vr_X6_isAllowed : xokR xT xlds xexs rX6_isAllowed := ⟨by decide +kernel, fun b hb => List.all_eq_true.1 vb_X6_isAllowed b hb, fun q hq => List.all_eq_true.1 vp_X6 q hq⟩
set_option maxRecDepth 100000 in
theorem vb_X7_read : (bX7_read.all fun b => xokB yX7_read.cls (decide (yX7_read.name = "<init>")) cX7_read 6 (some .boolean) pX7 xlds xexs b.2.2.2 b.1 b.2.2.1) = true := by decide +kernel
theorem vr_X7_read : xokR xT xlds xexs rX7_read := ⟨by decide +kernel, fun b hb => List.all_eq_true.1 vb_X7_read b hb, fun q hq => List.all_eq_true.1 vp_X7 q hq⟩
set_option maxRecDepth 100000 in
theorem vb_X7_bitOfSingle : (bX7_bitOfSingle.all fun b => xokB yX7_bitOfSingle.cls (decide (yX7_bitOfSingle.name = "<init>")) cX7_bitOfSingle 1 (some .int) pX7 xlds xexs b.2.2.2 b.1 b.2.2.1) = true := by decide +kernel
theorem vr_X7_bitOfSingle : xokR xT xlds xexs rX7_bitOfSingle := ⟨by decide +kernel, fun b hb => List.all_eq_true.1 vb_X7_bitOfSingle b hb, fun q hq => List.all_eq_true.1 vp_X7 q hq⟩
set_option maxRecDepth 100000 in
theorem vb_X7_readStatement : (bX7_readStatement.all fun b => xokB yX7_readStatement.cls (decide (yX7_readStatement.name = "<init>")) cX7_readStatement 2 (some .boolean) pX7 xlds xexs b.2.2.2 b.1 b.2.2.1) = true := by decide +kernel
theorem vr_X7_readStatement : xokR xT xlds xexs rX7_readStatement := ⟨by decide +kernel, fun b hb => List.all_eq_true.1 vb_X7_readStatement b hb, fun q hq => List.all_eq_true.1 vp_X7 q hq⟩
set_option maxRecDepth 100000 in
theorem vb_X7_readScratches : (bX7_readScratches.all fun b => xokB yX7_readScratches.cls (decide (yX7_readScratches.name = "<init>")) cX7_readScratches 3 (some .boolean) pX7 xlds xexs b.2.2.2 b.1 b.2.2.1) = true := by decide +kernel
theorem vr_X7_readScratches : xokR xT xlds xexs rX7_readScratches := ⟨by decide +kernel, fun b hb => List.all_eq_true.1 vb_X7_readScratches b hb, fun q hq => List.all_eq_true.1 vp_X7 q hq⟩
set_option maxRecDepth 100000 in
theorem vb_X7_readScratch : (bX7_readScratch.all fun b => xokB yX7_readScratch.cls (decide (yX7_readScratch.name = "<init>")) cX7_readScratch 3 (some .boolean) pX7 xlds xexs b.2.2.2 b.1 b.2.2.1) = true := by decide +kernel
theorem vr_X7_readScratch : xokR xT xlds xexs rX7_readScratch := ⟨by decide +kernel, fun b hb => List.all_eq_true.1 vb_X7_readScratch b hb, fun q hq => List.all_eq_true.1 vp_X7 q hq⟩
set_option maxRecDepth 100000 in
theorem vb_X7_readBlink : (bX7_readBlink.all fun b => xokB yX7_readBlink.cls (decide (yX7_readBlink.name = "<init>")) cX7_readBlink 4 (some .boolean) pX7 xlds xexs b.2.2.2 b.1 b.2.2.1) = true := by decide +kernel
theorem vr_X7_readBlink : xokR xT xlds xexs rX7_readBlink := ⟨by decide +kernel, fun b hb => List.all_eq_true.1 vb_X7_readBlink b hb, fun q hq => List.all_eq_true.1 vp_X7 q hq⟩
set_option maxRecDepth 100000 in
theorem vb_X7_readSetting : (bX7_readSetting.all fun b => xokB yX7_readSetting.cls (decide (yX7_readSetting.name = "<init>")) cX7_readSetting 6 (some .boolean) pX7 xlds xexs b.2.2.2 b.1 b.2.2.1) = true := by decide +kernel
theorem vr_X7_readSetting : xokR xT xlds xexs rX7_readSetting := ⟨by decide +kernel, fun b hb => List.all_eq_true.1 vb_X7_readSetting b hb, fun q hq => List.all_eq_true.1 vp_X7 q hq⟩
set_option maxRecDepth 100000 in
theorem vb_X7_greatestOf : (bX7_greatestOf.all fun b => xokB yX7_greatestOf.cls (decide (yX7_greatestOf.name = "<init>")) cX7_greatestOf 2 (some .int) pX7 xlds xexs b.2.2.2 b.1 b.2.2.1) = true := by decide +kernel
theorem vr_X7_greatestOf : xokR xT xlds xexs rX7_greatestOf := ⟨by decide +kernel, fun b hb => List.all_eq_true.1 vb_X7_greatestOf b hb, fun q hq => List.all_eq_true.1 vp_X7 q hq⟩
set_option maxRecDepth 100000 in
theorem vb_X7_set : (bX7_set.all fun b => xokB yX7_set.cls (decide (yX7_set.name = "<init>")) cX7_set 3 none pX7 xlds xexs b.2.2.2 b.1 b.2.2.1) = true := by decide +kernel
theorem vr_X7_set : xokR xT xlds xexs rX7_set := ⟨by decide +kernel, fun b hb => List.all_eq_true.1 vb_X7_set b hb, fun q hq => List.all_eq_true.1 vp_X7 q hq⟩
set_option maxRecDepth 100000 in
theorem vb_X9_init : (bX9_init.all fun b => xokB yX9_init.cls (decide (yX9_init.name = "<init>")) cX9_init 1 none pX9 xlds xexs b.2.2.2 b.1 b.2.2.1) = true := by decide +kernel
theorem vr_X9_init : xokR xT xlds xexs rX9_init := ⟨by decide +kernel, fun b hb => List.all_eq_true.1 vb_X9_init b hb, fun q hq => List.all_eq_true.1 vp_X9 q hq⟩
set_option maxRecDepth 100000 in
theorem vb_X9_find : (bX9_find.all fun b => xokB yX9_find.cls (decide (yX9_find.name = "<init>")) cX9_find 3 none pX9 xlds xexs b.2.2.2 b.1 b.2.2.1) = true := by decide +kernel
theorem vr_X9_find : xokR xT xlds xexs rX9_find := ⟨by decide +kernel, fun b hb => List.all_eq_true.1 vb_X9_find b hb, fun q hq => List.all_eq_true.1 vp_X9 q hq⟩
set_option maxRecDepth 100000 in
theorem vb_X9_tryAll : (bX9_tryAll.all fun b => xokB yX9_tryAll.cls (decide (yX9_tryAll.name = "<init>")) cX9_tryAll 8 none pX9 xlds xexs b.2.2.2 b.1 b.2.2.1) = true := by decide +kernel
theorem vr_X9_tryAll : xokR xT xlds xexs rX9_tryAll := ⟨by decide +kernel, fun b hb => List.all_eq_true.1 vb_X9_tryAll b hb, fun q hq => List.all_eq_true.1 vp_X9 q hq⟩
set_option maxRecDepth 100000 in
theorem vb_X9_takeIfLess : (bX9_takeIfLess.all fun b => xokB yX9_takeIfLess.cls (decide (yX9_takeIfLess.name = "<init>")) cX9_takeIfLess 6 none pX9 xlds xexs b.2.2.2 b.1 b.2.2.1) = true := by decide +kernel
theorem vr_X9_takeIfLess : xokR xT xlds xexs rX9_takeIfLess := ⟨by decide +kernel, fun b hb => List.all_eq_true.1 vb_X9_takeIfLess b hb, fun q hq => List.all_eq_true.1 vp_X9 q hq⟩
set_option maxRecDepth 100000 in
theorem vb_X9_number : (bX9_number.all fun b => xokB yX9_number.cls (decide (yX9_number.name = "<init>")) cX9_number 2 (some .int) pX9 xlds xexs b.2.2.2 b.1 b.2.2.1) = true := by decide +kernel
theorem vr_X9_number : xokR xT xlds xexs rX9_number := ⟨by decide +kernel, fun b hb => List.all_eq_true.1 vb_X9_number b hb, fun q hq => List.all_eq_true.1 vp_X9 q hq⟩
set_option maxRecDepth 100000 in
theorem vb_X10_init : (bX10_init.all fun b => xokB yX10_init.cls (decide (yX10_init.name = "<init>")) cX10_init 2 none pX10 xlds xexs b.2.2.2 b.1 b.2.2.1) = true := by decide +kernel
theorem vr_X10_init : xokR xT xlds xexs rX10_init := ⟨by decide +kernel, fun b hb => List.all_eq_true.1 vb_X10_init b hb, fun q hq => List.all_eq_true.1 vp_X10 q hq⟩
set_option maxRecDepth 100000 in
theorem vb_X10_append : (bX10_append.all fun b => xokB yX10_append.cls (decide (yX10_append.name = "<init>")) cX10_append 6 (some .int) pX10 xlds xexs b.2.2.2 b.1 b.2.2.1) = true := by decide +kernel
theorem vr_X10_append : xokR xT xlds xexs rX10_append := ⟨by decide +kernel, fun b hb => List.all_eq_true.1 vb_X10_append b hb, fun q hq => List.all_eq_true.1 vp_X10 q hq⟩
set_option maxRecDepth 100000 in
theorem vb_X10_load : (bX10_load.all fun b => xokB yX10_load.cls (decide (yX10_load.name = "<init>")) cX10_load 2 (some .int) pX10 xlds xexs b.2.2.2 b.1 b.2.2.1) = true := by decide +kernel
theorem vr_X10_load : xokR xT xlds xexs rX10_load := ⟨by decide +kernel, fun b hb => List.all_eq_true.1 vb_X10_load b hb, fun q hq => List.all_eq_true.1 vp_X10 q hq⟩
set_option maxRecDepth 100000 in
theorem vb_X10_run : (bX10_run.all fun b => xokB yX10_run.cls (decide (yX10_run.name = "<init>")) cX10_run 2 (some .int) pX10 xlds xexs b.2.2.2 b.1 b.2.2.1) = true := by decide +kernel
theorem vr_X10_run : xokR xT xlds xexs rX10_run := ⟨by decide +kernel, fun b hb => List.all_eq_true.1 vb_X10_run b hb, fun q hq => List.all_eq_true.1 vp_X10 q hq⟩
set_option maxRecDepth 100000 in
theorem vb_X10_errorOffset : (bX10_errorOffset.all fun b => xokB yX10_errorOffset.cls (decide (yX10_errorOffset.name = "<init>")) cX10_errorOffset 1 (some .int) pX10 xlds xexs b.2.2.2 b.1 b.2.2.1) = true := by decide +kernel
theorem vr_X10_errorOffset : xokR xT xlds xexs rX10_errorOffset := ⟨by decide +kernel, fun b hb => List.all_eq_true.1 vb_X10_errorOffset b hb, fun q hq => List.all_eq_true.1 vp_X10 q hq⟩
set_option maxRecDepth 100000 in
theorem vb_X10_state : (bX10_state.all fun b => xokB yX10_state.cls (decide (yX10_state.name = "<init>")) cX10_state 2 (some .int) pX10 xlds xexs b.2.2.2 b.1 b.2.2.1) = true := by decide +kernel
theorem vr_X10_state : xokR xT xlds xexs rX10_state := ⟨by decide +kernel, fun b hb => List.all_eq_true.1 vb_X10_state b hb, fun q hq => List.all_eq_true.1 vp_X10 q hq⟩
set_option maxRecDepth 100000 in
theorem vb_X10_shell : (bX10_shell.all fun b => xokB yX10_shell.cls (decide (yX10_shell.name = "<init>")) cX10_shell 3 (some .int) pX10 xlds xexs b.2.2.2 b.1 b.2.2.1) = true := by decide +kernel
theorem vr_X10_shell : xokR xT xlds xexs rX10_shell := ⟨by decide +kernel, fun b hb => List.all_eq_true.1 vb_X10_shell b hb, fun q hq => List.all_eq_true.1 vp_X10 q hq⟩
set_option maxRecDepth 100000 in
theorem vb_X10_belief : (bX10_belief.all fun b => xokB yX10_belief.cls (decide (yX10_belief.name = "<init>")) cX10_belief 2 (some .int) pX10 xlds xexs b.2.2.2 b.1 b.2.2.1) = true := by decide +kernel
theorem vr_X10_belief : xokR xT xlds xexs rX10_belief := ⟨by decide +kernel, fun b hb => List.all_eq_true.1 vb_X10_belief b hb, fun q hq => List.all_eq_true.1 vp_X10 q hq⟩
set_option maxRecDepth 100000 in
theorem vb_X10_chance : (bX10_chance.all fun b => xokB yX10_chance.cls (decide (yX10_chance.name = "<init>")) cX10_chance 4 (some .double) pX10 xlds xexs b.2.2.2 b.1 b.2.2.1) = true := by decide +kernel
theorem vr_X10_chance : xokR xT xlds xexs rX10_chance := ⟨by decide +kernel, fun b hb => List.all_eq_true.1 vb_X10_chance b hb, fun q hq => List.all_eq_true.1 vp_X10 q hq⟩
set_option maxRecDepth 100000 in
theorem vb_X10_doubt : (bX10_doubt.all fun b => xokB yX10_doubt.cls (decide (yX10_doubt.name = "<init>")) cX10_doubt 3 (some .float) pX10 xlds xexs b.2.2.2 b.1 b.2.2.1) = true := by decide +kernel
theorem vr_X10_doubt : xokR xT xlds xexs rX10_doubt := ⟨by decide +kernel, fun b hb => List.all_eq_true.1 vb_X10_doubt b hb, fun q hq => List.all_eq_true.1 vp_X10 q hq⟩
set_option maxRecDepth 100000 in
theorem vb_X10_guess : (bX10_guess.all fun b => xokB yX10_guess.cls (decide (yX10_guess.name = "<init>")) cX10_guess 1 (some .int) pX10 xlds xexs b.2.2.2 b.1 b.2.2.1) = true := by decide +kernel
theorem vr_X10_guess : xokR xT xlds xexs rX10_guess := ⟨by decide +kernel, fun b hb => List.all_eq_true.1 vb_X10_guess b hb, fun q hq => List.all_eq_true.1 vp_X10 q hq⟩
set_option maxRecDepth 100000 in
theorem vb_X10_blinks : (bX10_blinks.all fun b => xokB yX10_blinks.cls (decide (yX10_blinks.name = "<init>")) cX10_blinks 2 (some .boolean) pX10 xlds xexs b.2.2.2 b.1 b.2.2.1) = true := by decide +kernel
theorem vr_X10_blinks : xokR xT xlds xexs rX10_blinks := ⟨by decide +kernel, fun b hb => List.all_eq_true.1 vb_X10_blinks b hb, fun q hq => List.all_eq_true.1 vp_X10 q hq⟩
set_option maxRecDepth 100000 in
theorem vb_X10_odds : (bX10_odds.all fun b => xokB yX10_odds.cls (decide (yX10_odds.name = "<init>")) cX10_odds 3 (some .int) pX10 xlds xexs b.2.2.2 b.1 b.2.2.1) = true := by decide +kernel
theorem vr_X10_odds : xokR xT xlds xexs rX10_odds := ⟨by decide +kernel, fun b hb => List.all_eq_true.1 vb_X10_odds b hb, fun q hq => List.all_eq_true.1 vp_X10 q hq⟩
set_option maxRecDepth 100000 in
theorem vb_X10_fewest : (bX10_fewest.all fun b => xokB yX10_fewest.cls (decide (yX10_fewest.name = "<init>")) cX10_fewest 1 (some .int) pX10 xlds xexs b.2.2.2 b.1 b.2.2.1) = true := by decide +kernel
theorem vr_X10_fewest : xokR xT xlds xexs rX10_fewest := ⟨by decide +kernel, fun b hb => List.all_eq_true.1 vb_X10_fewest b hb, fun q hq => List.all_eq_true.1 vp_X10 q hq⟩
set_option maxRecDepth 100000 in
theorem vb_X10_rows : (bX10_rows.all fun b => xokB yX10_rows.cls (decide (yX10_rows.name = "<init>")) cX10_rows 3 (some .int) pX10 xlds xexs b.2.2.2 b.1 b.2.2.1) = true := by decide +kernel
theorem vr_X10_rows : xokR xT xlds xexs rX10_rows := ⟨by decide +kernel, fun b hb => List.all_eq_true.1 vb_X10_rows b hb, fun q hq => List.all_eq_true.1 vp_X10 q hq⟩
set_option maxRecDepth 100000 in
theorem vb_X10_fool : (bX10_fool.all fun b => xokB yX10_fool.cls (decide (yX10_fool.name = "<init>")) cX10_fool 2 (some .int) pX10 xlds xexs b.2.2.2 b.1 b.2.2.1) = true := by decide +kernel
theorem vr_X10_fool : xokR xT xlds xexs rX10_fool := ⟨by decide +kernel, fun b hb => List.all_eq_true.1 vb_X10_fool b hb, fun q hq => List.all_eq_true.1 vp_X10 q hq⟩
set_option maxRecDepth 100000 in
theorem vb_X10_caught : (bX10_caught.all fun b => xokB yX10_caught.cls (decide (yX10_caught.name = "<init>")) cX10_caught 4 (some .int) pX10 xlds xexs b.2.2.2 b.1 b.2.2.1) = true := by decide +kernel
theorem vr_X10_caught : xokR xT xlds xexs rX10_caught := ⟨by decide +kernel, fun b hb => List.all_eq_true.1 vb_X10_caught b hb, fun q hq => List.all_eq_true.1 vp_X10 q hq⟩
set_option maxRecDepth 100000 in
theorem vb_X10_swap : (bX10_swap.all fun b => xokB yX10_swap.cls (decide (yX10_swap.name = "<init>")) cX10_swap 3 (some .boolean) pX10 xlds xexs b.2.2.2 b.1 b.2.2.1) = true := by decide +kernel
theorem vr_X10_swap : xokR xT xlds xexs rX10_swap := ⟨by decide +kernel, fun b hb => List.all_eq_true.1 vb_X10_swap b hb, fun q hq => List.all_eq_true.1 vp_X10 q hq⟩
set_option maxRecDepth 100000 in
theorem vb_X10_feint : (bX10_feint.all fun b => xokB yX10_feint.cls (decide (yX10_feint.name = "<init>")) cX10_feint 3 (some .boolean) pX10 xlds xexs b.2.2.2 b.1 b.2.2.1) = true := by decide +kernel
theorem vr_X10_feint : xokR xT xlds xexs rX10_feint := ⟨by decide +kernel, fun b hb => List.all_eq_true.1 vb_X10_feint b hb, fun q hq => List.all_eq_true.1 vp_X10 q hq⟩
set_option maxRecDepth 100000 in
theorem vb_X10_rest : (bX10_rest.all fun b => xokB yX10_rest.cls (decide (yX10_rest.name = "<init>")) cX10_rest 1 (some .boolean) pX10 xlds xexs b.2.2.2 b.1 b.2.2.1) = true := by decide +kernel
theorem vr_X10_rest : xokR xT xlds xexs rX10_rest := ⟨by decide +kernel, fun b hb => List.all_eq_true.1 vb_X10_rest b hb, fun q hq => List.all_eq_true.1 vp_X10 q hq⟩
set_option maxRecDepth 100000 in
theorem vb_X10_steal : (bX10_steal.all fun b => xokB yX10_steal.cls (decide (yX10_steal.name = "<init>")) cX10_steal 2 (some .int) pX10 xlds xexs b.2.2.2 b.1 b.2.2.1) = true := by decide +kernel
theorem vr_X10_steal : xokR xT xlds xexs rX10_steal := ⟨by decide +kernel, fun b hb => List.all_eq_true.1 vb_X10_steal b hb, fun q hq => List.all_eq_true.1 vp_X10 q hq⟩
set_option maxRecDepth 100000 in
theorem vb_X10_plant : (bX10_plant.all fun b => xokB yX10_plant.cls (decide (yX10_plant.name = "<init>")) cX10_plant 2 (some .int) pX10 xlds xexs b.2.2.2 b.1 b.2.2.1) = true := by decide +kernel
theorem vr_X10_plant : xokR xT xlds xexs rX10_plant := ⟨by decide +kernel, fun b hb => List.all_eq_true.1 vb_X10_plant b hb, fun q hq => List.all_eq_true.1 vp_X10 q hq⟩
set_option maxRecDepth 100000 in
theorem vb_X10_peek : (bX10_peek.all fun b => xokB yX10_peek.cls (decide (yX10_peek.name = "<init>")) cX10_peek 2 (some .boolean) pX10 xlds xexs b.2.2.2 b.1 b.2.2.1) = true := by decide +kernel
theorem vr_X10_peek : xokR xT xlds xexs rX10_peek := ⟨by decide +kernel, fun b hb => List.all_eq_true.1 vb_X10_peek b hb, fun q hq => List.all_eq_true.1 vp_X10 q hq⟩
set_option maxRecDepth 100000 in
theorem vb_X10_bet : (bX10_bet.all fun b => xokB yX10_bet.cls (decide (yX10_bet.name = "<init>")) cX10_bet 3 (some .int) pX10 xlds xexs b.2.2.2 b.1 b.2.2.1) = true := by decide +kernel
theorem vr_X10_bet : xokR xT xlds xexs rX10_bet := ⟨by decide +kernel, fun b hb => List.all_eq_true.1 vb_X10_bet b hb, fun q hq => List.all_eq_true.1 vp_X10 q hq⟩
set_option maxRecDepth 100000 in
theorem vb_X10_scratch : (bX10_scratch.all fun b => xokB yX10_scratch.cls (decide (yX10_scratch.name = "<init>")) cX10_scratch 5 (some .boolean) pX10 xlds xexs b.2.2.2 b.1 b.2.2.1) = true := by decide +kernel
theorem vr_X10_scratch : xokR xT xlds xexs rX10_scratch := ⟨by decide +kernel, fun b hb => List.all_eq_true.1 vb_X10_scratch b hb, fun q hq => List.all_eq_true.1 vp_X10 q hq⟩
set_option maxRecDepth 100000 in
theorem vb_X10_blink : (bX10_blink.all fun b => xokB yX10_blink.cls (decide (yX10_blink.name = "<init>")) cX10_blink 4 (some .int) pX10 xlds xexs b.2.2.2 b.1 b.2.2.1) = true := by decide +kernel
theorem vr_X10_blink : xokR xT xlds xexs rX10_blink := ⟨by decide +kernel, fun b hb => List.all_eq_true.1 vb_X10_blink b hb, fun q hq => List.all_eq_true.1 vp_X10 q hq⟩
set_option maxRecDepth 100000 in
theorem vb_X10_suspect : (bX10_suspect.all fun b => xokB yX10_suspect.cls (decide (yX10_suspect.name = "<init>")) cX10_suspect 3 (some .int) pX10 xlds xexs b.2.2.2 b.1 b.2.2.1) = true := by decide +kernel
theorem vr_X10_suspect : xokR xT xlds xexs rX10_suspect := ⟨by decide +kernel, fun b hb => List.all_eq_true.1 vb_X10_suspect b hb, fun q hq => List.all_eq_true.1 vp_X10 q hq⟩
set_option maxRecDepth 100000 in
theorem vb_X10_undo : (bX10_undo.all fun b => xokB yX10_undo.cls (decide (yX10_undo.name = "<init>")) cX10_undo 1 (some .int) pX10 xlds xexs b.2.2.2 b.1 b.2.2.1) = true := by decide +kernel
theorem vr_X10_undo : xokR xT xlds xexs rX10_undo := ⟨by decide +kernel, fun b hb => List.all_eq_true.1 vb_X10_undo b hb, fun q hq => List.all_eq_true.1 vp_X10 q hq⟩
set_option maxRecDepth 100000 in
theorem vb_X10_checksum : (bX10_checksum.all fun b => xokB yX10_checksum.cls (decide (yX10_checksum.name = "<init>")) cX10_checksum 7 (some .long) pX10 xlds xexs b.2.2.2 b.1 b.2.2.1) = true := by decide +kernel
theorem vr_X10_checksum : xokR xT xlds xexs rX10_checksum := ⟨by decide +kernel, fun b hb => List.all_eq_true.1 vb_X10_checksum b hb, fun q hq => List.all_eq_true.1 vp_X10 q hq⟩
set_option maxRecDepth 100000 in
theorem vb_X10_game : (bX10_game.all fun b => xokB yX10_game.cls (decide (yX10_game.name = "<init>")) cX10_game 1 (some (.object "ShellWatch$Game")) pX10 xlds xexs b.2.2.2 b.1 b.2.2.1) = true := by decide +kernel
theorem vr_X10_game : xokR xT xlds xexs rX10_game := ⟨by decide +kernel, fun b hb => List.all_eq_true.1 vb_X10_game b hb, fun q hq => List.all_eq_true.1 vp_X10 q hq⟩
set_option maxRecDepth 100000 in
theorem vb_X10_change : (bX10_change.all fun b => xokB yX10_change.cls (decide (yX10_change.name = "<init>")) cX10_change 2 (some (.object "ShellWatch$Game")) pX10 xlds xexs b.2.2.2 b.1 b.2.2.1) = true := by decide +kernel
theorem vr_X10_change : xokR xT xlds xexs rX10_change := ⟨by decide +kernel, fun b hb => List.all_eq_true.1 vb_X10_change b hb, fun q hq => List.all_eq_true.1 vp_X10 q hq⟩
set_option maxRecDepth 100000 in
theorem vb_X10_moveBall : (bX10_moveBall.all fun b => xokB yX10_moveBall.cls (decide (yX10_moveBall.name = "<init>")) cX10_moveBall 3 (some .int) pX10 xlds xexs b.2.2.2 b.1 b.2.2.1) = true := by decide +kernel
theorem vr_X10_moveBall : xokR xT xlds xexs rX10_moveBall := ⟨by decide +kernel, fun b hb => List.all_eq_true.1 vb_X10_moveBall b hb, fun q hq => List.all_eq_true.1 vp_X10 q hq⟩
set_option maxRecDepth 100000 in
theorem vb_X10_requireLength : (bX10_requireLength.all fun b => xokB yX10_requireLength.cls (decide (yX10_requireLength.name = "<init>")) cX10_requireLength 2 none pX10 xlds xexs b.2.2.2 b.1 b.2.2.1) = true := by decide +kernel
theorem vr_X10_requireLength : xokR xT xlds xexs rX10_requireLength := ⟨by decide +kernel, fun b hb => List.all_eq_true.1 vb_X10_requireLength b hb, fun q hq => List.all_eq_true.1 vp_X10 q hq⟩
set_option maxRecDepth 100000 in
theorem vb_X10_requirePlace : (bX10_requirePlace.all fun b => xokB yX10_requirePlace.cls (decide (yX10_requirePlace.name = "<init>")) cX10_requirePlace 2 none pX10 xlds xexs b.2.2.2 b.1 b.2.2.1) = true := by decide +kernel
theorem vr_X10_requirePlace : xokR xT xlds xexs rX10_requirePlace := ⟨by decide +kernel, fun b hb => List.all_eq_true.1 vb_X10_requirePlace b hb, fun q hq => List.all_eq_true.1 vp_X10 q hq⟩
set_option maxRecDepth 100000 in
theorem vb_X10_requireTwoPlaces : (bX10_requireTwoPlaces.all fun b => xokB yX10_requireTwoPlaces.cls (decide (yX10_requireTwoPlaces.name = "<init>")) cX10_requireTwoPlaces 3 none pX10 xlds xexs b.2.2.2 b.1 b.2.2.1) = true := by decide +kernel
theorem vr_X10_requireTwoPlaces : xokR xT xlds xexs rX10_requireTwoPlaces := ⟨by decide +kernel, fun b hb => List.all_eq_true.1 vb_X10_requireTwoPlaces b hb, fun q hq => List.all_eq_true.1 vp_X10 q hq⟩
set_option maxRecDepth 100000 in
theorem vb_X10_requirePlaceOrHand : (bX10_requirePlaceOrHand.all fun b => xokB yX10_requirePlaceOrHand.cls (decide (yX10_requirePlaceOrHand.name = "<init>")) cX10_requirePlaceOrHand 2 none pX10 xlds xexs b.2.2.2 b.1 b.2.2.1) = true := by decide +kernel
theorem vr_X10_requirePlaceOrHand : xokR xT xlds xexs rX10_requirePlaceOrHand := ⟨by decide +kernel, fun b hb => List.all_eq_true.1 vb_X10_requirePlaceOrHand b hb, fun q hq => List.all_eq_true.1 vp_X10 q hq⟩
set_option maxRecDepth 100000 in
theorem vb_X10_requireWhat : (bX10_requireWhat.all fun b => xokB yX10_requireWhat.cls (decide (yX10_requireWhat.name = "<init>")) cX10_requireWhat 3 none pX10 xlds xexs b.2.2.2 b.1 b.2.2.1) = true := by decide +kernel
theorem vr_X10_requireWhat : xokR xT xlds xexs rX10_requireWhat := ⟨by decide +kernel, fun b hb => List.all_eq_true.1 vb_X10_requireWhat b hb, fun q hq => List.all_eq_true.1 vp_X10 q hq⟩
set_option maxRecDepth 100000 in
theorem vb_X10_countRows : (bX10_countRows.all fun b => xokB yX10_countRows.cls (decide (yX10_countRows.name = "<init>")) cX10_countRows 5 (some .int) pX10 xlds xexs b.2.2.2 b.1 b.2.2.1) = true := by decide +kernel
theorem vr_X10_countRows : xokR xT xlds xexs rX10_countRows := ⟨by decide +kernel, fun b hb => List.all_eq_true.1 vb_X10_countRows b hb, fun q hq => List.all_eq_true.1 vp_X10 q hq⟩
