/-! THE TABLE HOLDS: rows against the bytes; written by wip/p31/genval.py. -/
set_option maxRecDepth 100000 in
theorem vb_X4_init : (bX4_init.all fun b => xokB yX4_init.cls (decide (yX4_init.name = "<init>")) cX4_init 1 none pX4 xlds xexs b.2.2.2 b.1 b.2.2.1) = true := by decide +kernel
theorem vr_X4_init : xokR xT xlds xexs rX4_init := ⟨by decide +kernel, by decide +kernel, fun b hb => List.all_eq_true.1 vb_X4_init b hb, fun q hq => List.all_eq_true.1 vp_X4 q hq⟩
set_option maxRecDepth 100000 in
theorem vb_X4_reset : (bX4_reset.all fun b => xokB yX4_reset.cls (decide (yX4_reset.name = "<init>")) cX4_reset 2 none pX4 xlds xexs b.2.2.2 b.1 b.2.2.1) = true := by decide +kernel
theorem vr_X4_reset : xokR xT xlds xexs rX4_reset := ⟨by decide +kernel, by decide +kernel, fun b hb => List.all_eq_true.1 vb_X4_reset b hb, fun q hq => List.all_eq_true.1 vp_X4 q hq⟩
set_option maxRecDepth 100000 in
theorem vb_X4_copyFrom : (bX4_copyFrom.all fun b => xokB yX4_copyFrom.cls (decide (yX4_copyFrom.name = "<init>")) cX4_copyFrom 2 none pX4 xlds xexs b.2.2.2 b.1 b.2.2.1) = true := by decide +kernel
theorem vr_X4_copyFrom : xokR xT xlds xexs rX4_copyFrom := ⟨by decide +kernel, by decide +kernel, fun b hb => List.all_eq_true.1 vb_X4_copyFrom b hb, fun q hq => List.all_eq_true.1 vp_X4 q hq⟩
set_option maxRecDepth 100000 in
theorem vb_X4_know : (bX4_know.all fun b => xokB yX4_know.cls (decide (yX4_know.name = "<init>")) cX4_know 2 none pX4 xlds xexs b.2.2.2 b.1 b.2.2.1) = true := by decide +kernel
theorem vr_X4_know : xokR xT xlds xexs rX4_know := ⟨by decide +kernel, by decide +kernel, fun b hb => List.all_eq_true.1 vb_X4_know b hb, fun q hq => List.all_eq_true.1 vp_X4 q hq⟩
set_option maxRecDepth 100000 in
theorem vb_X4_ruleOut : (bX4_ruleOut.all fun b => xokB yX4_ruleOut.cls (decide (yX4_ruleOut.name = "<init>")) cX4_ruleOut 2 none pX4 xlds xexs b.2.2.2 b.1 b.2.2.1) = true := by decide +kernel
theorem vr_X4_ruleOut : xokR xT xlds xexs rX4_ruleOut := ⟨by decide +kernel, by decide +kernel, fun b hb => List.all_eq_true.1 vb_X4_ruleOut b hb, fun q hq => List.all_eq_true.1 vp_X4 q hq⟩
set_option maxRecDepth 100000 in
theorem vb_X4_sum : (bX4_sum.all fun b => xokB yX4_sum.cls (decide (yX4_sum.name = "<init>")) cX4_sum 3 (some .int) pX4 xlds xexs b.2.2.2 b.1 b.2.2.1) = true := by decide +kernel
theorem vr_X4_sum : xokR xT xlds xexs rX4_sum := ⟨by decide +kernel, by decide +kernel, fun b hb => List.all_eq_true.1 vb_X4_sum b hb, fun q hq => List.all_eq_true.1 vp_X4 q hq⟩
set_option maxRecDepth 100000 in
theorem vb_X4_greatest : (bX4_greatest.all fun b => xokB yX4_greatest.cls (decide (yX4_greatest.name = "<init>")) cX4_greatest 3 (some .int) pX4 xlds xexs b.2.2.2 b.1 b.2.2.1) = true := by decide +kernel
theorem vr_X4_greatest : xokR xT xlds xexs rX4_greatest := ⟨by decide +kernel, by decide +kernel, fun b hb => List.all_eq_true.1 vb_X4_greatest b hb, fun q hq => List.all_eq_true.1 vp_X4 q hq⟩
set_option maxRecDepth 100000 in
theorem vb_X4_countBelieved : (bX4_countBelieved.all fun b => xokB yX4_countBelieved.cls (decide (yX4_countBelieved.name = "<init>")) cX4_countBelieved 3 (some .int) pX4 xlds xexs b.2.2.2 b.1 b.2.2.1) = true := by decide +kernel
theorem vr_X4_countBelieved : xokR xT xlds xexs rX4_countBelieved := ⟨by decide +kernel, by decide +kernel, fun b hb => List.all_eq_true.1 vb_X4_countBelieved b hb, fun q hq => List.all_eq_true.1 vp_X4 q hq⟩
set_option maxRecDepth 100000 in
theorem vb_X4_likeliestShell : (bX4_likeliestShell.all fun b => xokB yX4_likeliestShell.cls (decide (yX4_likeliestShell.name = "<init>")) cX4_likeliestShell 3 (some .int) pX4 xlds xexs b.2.2.2 b.1 b.2.2.1) = true := by decide +kernel
theorem vr_X4_likeliestShell : xokR xT xlds xexs rX4_likeliestShell := ⟨by decide +kernel, by decide +kernel, fun b hb => List.all_eq_true.1 vb_X4_likeliestShell b hb, fun q hq => List.all_eq_true.1 vp_X4 q hq⟩
set_option maxRecDepth 100000 in
theorem vb_X4_followMove : (bX4_followMove.all fun b => xokB yX4_followMove.cls (decide (yX4_followMove.name = "<init>")) cX4_followMove 7 none pX4 xlds xexs b.2.2.2 b.1 b.2.2.1) = true := by decide +kernel
theorem vr_X4_followMove : xokR xT xlds xexs rX4_followMove := ⟨by decide +kernel, by decide +kernel, fun b hb => List.all_eq_true.1 vb_X4_followMove b hb, fun q hq => List.all_eq_true.1 vp_X4 q hq⟩
set_option maxRecDepth 100000 in
theorem vb_X4_followStill : (bX4_followStill.all fun b => xokB yX4_followStill.cls (decide (yX4_followStill.name = "<init>")) cX4_followStill 3 none pX4 xlds xexs b.2.2.2 b.1 b.2.2.1) = true := by decide +kernel
theorem vr_X4_followStill : xokR xT xlds xexs rX4_followStill := ⟨by decide +kernel, by decide +kernel, fun b hb => List.all_eq_true.1 vb_X4_followStill b hb, fun q hq => List.all_eq_true.1 vp_X4 q hq⟩
set_option maxRecDepth 100000 in
theorem vb_X4_exchange : (bX4_exchange.all fun b => xokB yX4_exchange.cls (decide (yX4_exchange.name = "<init>")) cX4_exchange 4 none pX4 xlds xexs b.2.2.2 b.1 b.2.2.1) = true := by decide +kernel
theorem vr_X4_exchange : xokR xT xlds xexs rX4_exchange := ⟨by decide +kernel, by decide +kernel, fun b hb => List.all_eq_true.1 vb_X4_exchange b hb, fun q hq => List.all_eq_true.1 vp_X4 q hq⟩
set_option maxRecDepth 100000 in
theorem vb_X4_mix : (bX4_mix.all fun b => xokB yX4_mix.cls (decide (yX4_mix.name = "<init>")) cX4_mix 6 none pX4 xlds xexs b.2.2.2 b.1 b.2.2.1) = true := by decide +kernel
theorem vr_X4_mix : xokR xT xlds xexs rX4_mix := ⟨by decide +kernel, by decide +kernel, fun b hb => List.all_eq_true.1 vb_X4_mix b hb, fun q hq => List.all_eq_true.1 vp_X4 q hq⟩
set_option maxRecDepth 100000 in
theorem vb_X4_wonder : (bX4_wonder.all fun b => xokB yX4_wonder.cls (decide (yX4_wonder.name = "<init>")) cX4_wonder 14 none pX4 xlds xexs b.2.2.2 b.1 b.2.2.1) = true := by decide +kernel
theorem vr_X4_wonder : xokR xT xlds xexs rX4_wonder := ⟨by decide +kernel, by decide +kernel, fun b hb => List.all_eq_true.1 vb_X4_wonder b hb, fun q hq => List.all_eq_true.1 vp_X4 q hq⟩
set_option maxRecDepth 100000 in
theorem vb_X4_pairsOf : (bX4_pairsOf.all fun b => xokB yX4_pairsOf.cls (decide (yX4_pairsOf.name = "<init>")) cX4_pairsOf 1 (some .int) pX4 xlds xexs b.2.2.2 b.1 b.2.2.1) = true := by decide +kernel
theorem vr_X4_pairsOf : xokR xT xlds xexs rX4_pairsOf := ⟨by decide +kernel, by decide +kernel, fun b hb => List.all_eq_true.1 vb_X4_pairsOf b hb, fun q hq => List.all_eq_true.1 vp_X4 q hq⟩
set_option maxRecDepth 100000 in
theorem vb_X4_settle : (bX4_settle.all fun b => xokB yX4_settle.cls (decide (yX4_settle.name = "<init>")) cX4_settle 2 none pX4 xlds xexs b.2.2.2 b.1 b.2.2.1) = true := by decide +kernel
theorem vr_X4_settle : xokR xT xlds xexs rX4_settle := ⟨by decide +kernel, by decide +kernel, fun b hb => List.all_eq_true.1 vb_X4_settle b hb, fun q hq => List.all_eq_true.1 vp_X4 q hq⟩
set_option maxRecDepth 100000 in
theorem vb_X4_halve : (bX4_halve.all fun b => xokB yX4_halve.cls (decide (yX4_halve.name = "<init>")) cX4_halve 2 none pX4 xlds xexs b.2.2.2 b.1 b.2.2.1) = true := by decide +kernel
theorem vr_X4_halve : xokR xT xlds xexs rX4_halve := ⟨by decide +kernel, by decide +kernel, fun b hb => List.all_eq_true.1 vb_X4_halve b hb, fun q hq => List.all_eq_true.1 vp_X4 q hq⟩
set_option maxRecDepth 100000 in
theorem vb_X4_divideByCommonDivisor : (bX4_divideByCommonDivisor.all fun b => xokB yX4_divideByCommonDivisor.cls (decide (yX4_divideByCommonDivisor.name = "<init>")) cX4_divideByCommonDivisor 3 none pX4 xlds xexs b.2.2.2 b.1 b.2.2.1) = true := by decide +kernel
theorem vr_X4_divideByCommonDivisor : xokR xT xlds xexs rX4_divideByCommonDivisor := ⟨by decide +kernel, by decide +kernel, fun b hb => List.all_eq_true.1 vb_X4_divideByCommonDivisor b hb, fun q hq => List.all_eq_true.1 vp_X4 q hq⟩
set_option maxRecDepth 100000 in
theorem vb_X4_commonDivisor : (bX4_commonDivisor.all fun b => xokB yX4_commonDivisor.cls (decide (yX4_commonDivisor.name = "<init>")) cX4_commonDivisor 6 (some .int) pX4 xlds xexs b.2.2.2 b.1 b.2.2.1) = true := by decide +kernel
theorem vr_X4_commonDivisor : xokR xT xlds xexs rX4_commonDivisor := ⟨by decide +kernel, by decide +kernel, fun b hb => List.all_eq_true.1 vb_X4_commonDivisor b hb, fun q hq => List.all_eq_true.1 vp_X4 q hq⟩
set_option maxRecDepth 100000 in
theorem vb_X5_init : (bX5_init.all fun b => xokB yX5_init.cls (decide (yX5_init.name = "<init>")) cX5_init 1 none pX5 xlds xexs b.2.2.2 b.1 b.2.2.1) = true := by decide +kernel
theorem vr_X5_init : xokR xT xlds xexs rX5_init := ⟨by decide +kernel, by decide +kernel, fun b hb => List.all_eq_true.1 vb_X5_init b hb, fun q hq => List.all_eq_true.1 vp_X5 q hq⟩
set_option maxRecDepth 100000 in
theorem vb_X5_reset : (bX5_reset.all fun b => xokB yX5_reset.cls (decide (yX5_reset.name = "<init>")) cX5_reset 3 none pX5 xlds xexs b.2.2.2 b.1 b.2.2.1) = true := by decide +kernel
theorem vr_X5_reset : xokR xT xlds xexs rX5_reset := ⟨by decide +kernel, by decide +kernel, fun b hb => List.all_eq_true.1 vb_X5_reset b hb, fun q hq => List.all_eq_true.1 vp_X5 q hq⟩
set_option maxRecDepth 100000 in
theorem vb_X5_copyFrom : (bX5_copyFrom.all fun b => xokB yX5_copyFrom.cls (decide (yX5_copyFrom.name = "<init>")) cX5_copyFrom 2 none pX5 xlds xexs b.2.2.2 b.1 b.2.2.1) = true := by decide +kernel
theorem vr_X5_copyFrom : xokR xT xlds xexs rX5_copyFrom := ⟨by decide +kernel, by decide +kernel, fun b hb => List.all_eq_true.1 vb_X5_copyFrom b hb, fun q hq => List.all_eq_true.1 vp_X5 q hq⟩
set_option maxRecDepth 100000 in
theorem vb_X5_hasPlace : (bX5_hasPlace.all fun b => xokB yX5_hasPlace.cls (decide (yX5_hasPlace.name = "<init>")) cX5_hasPlace 2 (some .boolean) pX5 xlds xexs b.2.2.2 b.1 b.2.2.1) = true := by decide +kernel
theorem vr_X5_hasPlace : xokR xT xlds xexs rX5_hasPlace := ⟨by decide +kernel, by decide +kernel, fun b hb => List.all_eq_true.1 vb_X5_hasPlace b hb, fun q hq => List.all_eq_true.1 vp_X5 q hq⟩
set_option maxRecDepth 100000 in
theorem vb_X5_isScratched : (bX5_isScratched.all fun b => xokB yX5_isScratched.cls (decide (yX5_isScratched.name = "<init>")) cX5_isScratched 2 (some .boolean) pX5 xlds xexs b.2.2.2 b.1 b.2.2.1) = true := by decide +kernel
theorem vr_X5_isScratched : xokR xT xlds xexs rX5_isScratched := ⟨by decide +kernel, by decide +kernel, fun b hb => List.all_eq_true.1 vb_X5_isScratched b hb, fun q hq => List.all_eq_true.1 vp_X5 q hq⟩
set_option maxRecDepth 100000 in
theorem vb_X5_setScratched : (bX5_setScratched.all fun b => xokB yX5_setScratched.cls (decide (yX5_setScratched.name = "<init>")) cX5_setScratched 3 none pX5 xlds xexs b.2.2.2 b.1 b.2.2.1) = true := by decide +kernel
theorem vr_X5_setScratched : xokR xT xlds xexs rX5_setScratched := ⟨by decide +kernel, by decide +kernel, fun b hb => List.all_eq_true.1 vb_X5_setScratched b hb, fun q hq => List.all_eq_true.1 vp_X5 q hq⟩
set_option maxRecDepth 100000 in
theorem vb_X5_exchange : (bX5_exchange.all fun b => xokB yX5_exchange.cls (decide (yX5_exchange.name = "<init>")) cX5_exchange 6 none pX5 xlds xexs b.2.2.2 b.1 b.2.2.1) = true := by decide +kernel
theorem vr_X5_exchange : xokR xT xlds xexs rX5_exchange := ⟨by decide +kernel, by decide +kernel, fun b hb => List.all_eq_true.1 vb_X5_exchange b hb, fun q hq => List.all_eq_true.1 vp_X5 q hq⟩
set_option maxRecDepth 100000 in
theorem vb_X5_placeBehind : (bX5_placeBehind.all fun b => xokB yX5_placeBehind.cls (decide (yX5_placeBehind.name = "<init>")) cX5_placeBehind 3 (some .int) pX5 xlds xexs b.2.2.2 b.1 b.2.2.1) = true := by decide +kernel
theorem vr_X5_placeBehind : xokR xT xlds xexs rX5_placeBehind := ⟨by decide +kernel, by decide +kernel, fun b hb => List.all_eq_true.1 vb_X5_placeBehind b hb, fun q hq => List.all_eq_true.1 vp_X5 q hq⟩
set_option maxRecDepth 100000 in
theorem vb_X6_init : (bX6_init.all fun b => xokB yX6_init.cls (decide (yX6_init.name = "<init>")) cX6_init 1 none pX6 xlds xexs b.2.2.2 b.1 b.2.2.1) = true := by decide +kernel
theorem vr_X6_init : xokR xT xlds xexs rX6_init := ⟨by decide +kernel, by decide +kernel, fun b hb => List.all_eq_true.1 vb_X6_init b hb, fun q hq => List.all_eq_true.1 vp_X6 q hq⟩
set_option maxRecDepth 100000 in
theorem vb_X7_read : (bX7_read.all fun b => xokB yX7_read.cls (decide (yX7_read.name = "<init>")) cX7_read 6 (some .boolean) pX7 xlds xexs b.2.2.2 b.1 b.2.2.1) = true := by decide +kernel
theorem vr_X7_read : xokR xT xlds xexs rX7_read := ⟨by decide +kernel, by decide +kernel, fun b hb => List.all_eq_true.1 vb_X7_read b hb, fun q hq => List.all_eq_true.1 vp_X7 q hq⟩
set_option maxRecDepth 100000 in
theorem vb_X7_bitOfSingle : (bX7_bitOfSingle.all fun b => xokB yX7_bitOfSingle.cls (decide (yX7_bitOfSingle.name = "<init>")) cX7_bitOfSingle 1 (some .int) pX7 xlds xexs b.2.2.2 b.1 b.2.2.1) = true := by decide +kernel
theorem vr_X7_bitOfSingle : xokR xT xlds xexs rX7_bitOfSingle := ⟨by decide +kernel, by decide +kernel, fun b hb => List.all_eq_true.1 vb_X7_bitOfSingle b hb, fun q hq => List.all_eq_true.1 vp_X7 q hq⟩
set_option maxRecDepth 100000 in
theorem vb_X7_readStatement : (bX7_readStatement.all fun b => xokB yX7_readStatement.cls (decide (yX7_readStatement.name = "<init>")) cX7_readStatement 2 (some .boolean) pX7 xlds xexs b.2.2.2 b.1 b.2.2.1) = true := by decide +kernel
theorem vr_X7_readStatement : xokR xT xlds xexs rX7_readStatement := ⟨by decide +kernel, by decide +kernel, fun b hb => List.all_eq_true.1 vb_X7_readStatement b hb, fun q hq => List.all_eq_true.1 vp_X7 q hq⟩
set_option maxRecDepth 100000 in
theorem vb_X7_readScratches : (bX7_readScratches.all fun b => xokB yX7_readScratches.cls (decide (yX7_readScratches.name = "<init>")) cX7_readScratches 3 (some .boolean) pX7 xlds xexs b.2.2.2 b.1 b.2.2.1) = true := by decide +kernel
theorem vr_X7_readScratches : xokR xT xlds xexs rX7_readScratches := ⟨by decide +kernel, by decide +kernel, fun b hb => List.all_eq_true.1 vb_X7_readScratches b hb, fun q hq => List.all_eq_true.1 vp_X7 q hq⟩
set_option maxRecDepth 100000 in
theorem vb_X7_readScratch : (bX7_readScratch.all fun b => xokB yX7_readScratch.cls (decide (yX7_readScratch.name = "<init>")) cX7_readScratch 3 (some .boolean) pX7 xlds xexs b.2.2.2 b.1 b.2.2.1) = true := by decide +kernel
theorem vr_X7_readScratch : xokR xT xlds xexs rX7_readScratch := ⟨by decide +kernel, by decide +kernel, fun b hb => List.all_eq_true.1 vb_X7_readScratch b hb, fun q hq => List.all_eq_true.1 vp_X7 q hq⟩
set_option maxRecDepth 100000 in
theorem vb_X7_readBlink : (bX7_readBlink.all fun b => xokB yX7_readBlink.cls (decide (yX7_readBlink.name = "<init>")) cX7_readBlink 4 (some .boolean) pX7 xlds xexs b.2.2.2 b.1 b.2.2.1) = true := by decide +kernel
theorem vr_X7_readBlink : xokR xT xlds xexs rX7_readBlink := ⟨by decide +kernel, by decide +kernel, fun b hb => List.all_eq_true.1 vb_X7_readBlink b hb, fun q hq => List.all_eq_true.1 vp_X7 q hq⟩
set_option maxRecDepth 100000 in
theorem vb_X7_readSetting : (bX7_readSetting.all fun b => xokB yX7_readSetting.cls (decide (yX7_readSetting.name = "<init>")) cX7_readSetting 6 (some .boolean) pX7 xlds xexs b.2.2.2 b.1 b.2.2.1) = true := by decide +kernel
theorem vr_X7_readSetting : xokR xT xlds xexs rX7_readSetting := ⟨by decide +kernel, by decide +kernel, fun b hb => List.all_eq_true.1 vb_X7_readSetting b hb, fun q hq => List.all_eq_true.1 vp_X7 q hq⟩
set_option maxRecDepth 100000 in
theorem vb_X7_greatestOf : (bX7_greatestOf.all fun b => xokB yX7_greatestOf.cls (decide (yX7_greatestOf.name = "<init>")) cX7_greatestOf 2 (some .int) pX7 xlds xexs b.2.2.2 b.1 b.2.2.1) = true := by decide +kernel
theorem vr_X7_greatestOf : xokR xT xlds xexs rX7_greatestOf := ⟨by decide +kernel, by decide +kernel, fun b hb => List.all_eq_true.1 vb_X7_greatestOf b hb, fun q hq => List.all_eq_true.1 vp_X7 q hq⟩
set_option maxRecDepth 100000 in
theorem vb_X7_set : (bX7_set.all fun b => xokB yX7_set.cls (decide (yX7_set.name = "<init>")) cX7_set 3 none pX7 xlds xexs b.2.2.2 b.1 b.2.2.1) = true := by decide +kernel
theorem vr_X7_set : xokR xT xlds xexs rX7_set := ⟨by decide +kernel, by decide +kernel, fun b hb => List.all_eq_true.1 vb_X7_set b hb, fun q hq => List.all_eq_true.1 vp_X7 q hq⟩
set_option maxRecDepth 100000 in
theorem vb_X9_init : (bX9_init.all fun b => xokB yX9_init.cls (decide (yX9_init.name = "<init>")) cX9_init 1 none pX9 xlds xexs b.2.2.2 b.1 b.2.2.1) = true := by decide +kernel
theorem vr_X9_init : xokR xT xlds xexs rX9_init := ⟨by decide +kernel, by decide +kernel, fun b hb => List.all_eq_true.1 vb_X9_init b hb, fun q hq => List.all_eq_true.1 vp_X9 q hq⟩
