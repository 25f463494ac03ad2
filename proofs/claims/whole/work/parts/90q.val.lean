/-! THE TABLE HOLDS: rows against the bytes; written by wip/whole/genval.py. -/
set_option maxRecDepth 100000 in
theorem vb_X0_init : (bX0_init.all fun b => xokB yX0_init.cls (decide (yX0_init.name = "<init>")) cX0_init 1 none pX0 xlds xexs b.2.2.2 b.1 b.2.2.1) = true := by decide +kernel
theorem vr_X0_init : xokR xT xlds xexs rX0_init := ⟨by decide +kernel, fun b hb => List.all_eq_true.1 vb_X0_init b hb, fun q hq => List.all_eq_true.1 vp_X0 q hq⟩
set_option maxRecDepth 100000 in
theorem vb_X0_clear : (bX0_clear.all fun b => xokB yX0_clear.cls (decide (yX0_clear.name = "<init>")) cX0_clear 1 none pX0 xlds xexs b.2.2.2 b.1 b.2.2.1) = true := by decide +kernel
theorem vr_X0_clear : xokR xT xlds xexs rX0_clear := ⟨by decide +kernel, fun b hb => List.all_eq_true.1 vb_X0_clear b hb, fun q hq => List.all_eq_true.1 vp_X0 q hq⟩
set_option maxRecDepth 100000 in
theorem vb_X0_copyFrom : (bX0_copyFrom.all fun b => xokB yX0_copyFrom.cls (decide (yX0_copyFrom.name = "<init>")) cX0_copyFrom 2 none pX0 xlds xexs b.2.2.2 b.1 b.2.2.1) = true := by decide +kernel
theorem vr_X0_copyFrom : xokR xT xlds xexs rX0_copyFrom := ⟨by decide +kernel, fun b hb => List.all_eq_true.1 vb_X0_copyFrom b hb, fun q hq => List.all_eq_true.1 vp_X0 q hq⟩
set_option maxRecDepth 100000 in
theorem vb_X0_isFull : (bX0_isFull.all fun b => xokB yX0_isFull.cls (decide (yX0_isFull.name = "<init>")) cX0_isFull 1 (some .boolean) pX0 xlds xexs b.2.2.2 b.1 b.2.2.1) = true := by decide +kernel
theorem vr_X0_isFull : xokR xT xlds xexs rX0_isFull := ⟨by decide +kernel, fun b hb => List.all_eq_true.1 vb_X0_isFull b hb, fun q hq => List.all_eq_true.1 vp_X0 q hq⟩
set_option maxRecDepth 100000 in
theorem vb_X0_tell : (bX0_tell.all fun b => xokB yX0_tell.cls (decide (yX0_tell.name = "<init>")) cX0_tell 3 none pX0 xlds xexs b.2.2.2 b.1 b.2.2.1) = true := by decide +kernel
theorem vr_X0_tell : xokR xT xlds xexs rX0_tell := ⟨by decide +kernel, fun b hb => List.all_eq_true.1 vb_X0_tell b hb, fun q hq => List.all_eq_true.1 vp_X0 q hq⟩
set_option maxRecDepth 100000 in
theorem vb_X0_has : (bX0_has.all fun b => xokB yX0_has.cls (decide (yX0_has.name = "<init>")) cX0_has 3 (some .boolean) pX0 xlds xexs b.2.2.2 b.1 b.2.2.1) = true := by decide +kernel
theorem vr_X0_has : xokR xT xlds xexs rX0_has := ⟨by decide +kernel, fun b hb => List.all_eq_true.1 vb_X0_has b hb, fun q hq => List.all_eq_true.1 vp_X0 q hq⟩
set_option maxRecDepth 100000 in
theorem vb_X1_init : (bX1_init.all fun b => xokB yX1_init.cls (decide (yX1_init.name = "<init>")) cX1_init 1 none pX1 xlds xexs b.2.2.2 b.1 b.2.2.1) = true := by decide +kernel
theorem vr_X1_init : xokR xT xlds xexs rX1_init := ⟨by decide +kernel, fun b hb => List.all_eq_true.1 vb_X1_init b hb, fun q hq => List.all_eq_true.1 vp_X1 q hq⟩
set_option maxRecDepth 100000 in
theorem vb_X1_clear : (bX1_clear.all fun b => xokB yX1_clear.cls (decide (yX1_clear.name = "<init>")) cX1_clear 1 none pX1 xlds xexs b.2.2.2 b.1 b.2.2.1) = true := by decide +kernel
theorem vr_X1_clear : xokR xT xlds xexs rX1_clear := ⟨by decide +kernel, fun b hb => List.all_eq_true.1 vb_X1_clear b hb, fun q hq => List.all_eq_true.1 vp_X1 q hq⟩
set_option maxRecDepth 100000 in
theorem vb_X1_reset : (bX1_reset.all fun b => xokB yX1_reset.cls (decide (yX1_reset.name = "<init>")) cX1_reset 1 none pX1 xlds xexs b.2.2.2 b.1 b.2.2.1) = true := by decide +kernel
theorem vr_X1_reset : xokR xT xlds xexs rX1_reset := ⟨by decide +kernel, fun b hb => List.all_eq_true.1 vb_X1_reset b hb, fun q hq => List.all_eq_true.1 vp_X1 q hq⟩
set_option maxRecDepth 100000 in
theorem vb_X1_copyFrom : (bX1_copyFrom.all fun b => xokB yX1_copyFrom.cls (decide (yX1_copyFrom.name = "<init>")) cX1_copyFrom 2 none pX1 xlds xexs b.2.2.2 b.1 b.2.2.1) = true := by decide +kernel
theorem vr_X1_copyFrom : xokR xT xlds xexs rX1_copyFrom := ⟨by decide +kernel, fun b hb => List.all_eq_true.1 vb_X1_copyFrom b hb, fun q hq => List.all_eq_true.1 vp_X1 q hq⟩
set_option maxRecDepth 100000 in
theorem vb_X1_put : (bX1_put.all fun b => xokB yX1_put.cls (decide (yX1_put.name = "<init>")) cX1_put 2 none pX1 xlds xexs b.2.2.2 b.1 b.2.2.1) = true := by decide +kernel
theorem vr_X1_put : xokR xT xlds xexs rX1_put := ⟨by decide +kernel, fun b hb => List.all_eq_true.1 vb_X1_put b hb, fun q hq => List.all_eq_true.1 vp_X1 q hq⟩
set_option maxRecDepth 100000 in
theorem vb_X1_readSum : (bX1_readSum.all fun b => xokB yX1_readSum.cls (decide (yX1_readSum.name = "<init>")) cX1_readSum 5 (some .boolean) pX1 xlds xexs b.2.2.2 b.1 b.2.2.1) = true := by decide +kernel
theorem vr_X1_readSum : xokR xT xlds xexs rX1_readSum := ⟨by decide +kernel, fun b hb => List.all_eq_true.1 vb_X1_readSum b hb, fun q hq => List.all_eq_true.1 vp_X1 q hq⟩
set_option maxRecDepth 100000 in
theorem vb_X1_readTerm : (bX1_readTerm.all fun b => xokB yX1_readTerm.cls (decide (yX1_readTerm.name = "<init>")) cX1_readTerm 5 (some .boolean) pX1 xlds xexs b.2.2.2 b.1 b.2.2.1) = true := by decide +kernel
theorem vr_X1_readTerm : xokR xT xlds xexs rX1_readTerm := ⟨by decide +kernel, fun b hb => List.all_eq_true.1 vb_X1_readTerm b hb, fun q hq => List.all_eq_true.1 vp_X1 q hq⟩
set_option maxRecDepth 100000 in
theorem vb_X1_readFactor : (bX1_readFactor.all fun b => xokB yX1_readFactor.cls (decide (yX1_readFactor.name = "<init>")) cX1_readFactor 4 (some .boolean) pX1 xlds xexs b.2.2.2 b.1 b.2.2.1) = true := by decide +kernel
theorem vr_X1_readFactor : xokR xT xlds xexs rX1_readFactor := ⟨by decide +kernel, fun b hb => List.all_eq_true.1 vb_X1_readFactor b hb, fun q hq => List.all_eq_true.1 vp_X1 q hq⟩
set_option maxRecDepth 100000 in
theorem vb_X1_variableOf : (bX1_variableOf.all fun b => xokB yX1_variableOf.cls (decide (yX1_variableOf.name = "<init>")) cX1_variableOf 1 (some .int) pX1 xlds xexs b.2.2.2 b.1 b.2.2.1) = true := by decide +kernel
theorem vr_X1_variableOf : xokR xT xlds xexs rX1_variableOf := ⟨by decide +kernel, fun b hb => List.all_eq_true.1 vb_X1_variableOf b hb, fun q hq => List.all_eq_true.1 vp_X1 q hq⟩
set_option maxRecDepth 100000 in
theorem vb_X1_value : (bX1_value.all fun b => xokB yX1_value.cls (decide (yX1_value.name = "<init>")) cX1_value 7 (some .int) pX1 xlds xexs b.2.2.2 b.1 b.2.2.1) = true := by decide +kernel
theorem vr_X1_value : xokR xT xlds xexs rX1_value := ⟨by decide +kernel, fun b hb => List.all_eq_true.1 vb_X1_value b hb, fun q hq => List.all_eq_true.1 vp_X1 q hq⟩
set_option maxRecDepth 100000 in
theorem vb_X1_result : (bX1_result.all fun b => xokB yX1_result.cls (decide (yX1_result.name = "<init>")) cX1_result 5 (some .int) pX1 xlds xexs b.2.2.2 b.1 b.2.2.1) = true := by decide +kernel
theorem vr_X1_result : xokR xT xlds xexs rX1_result := ⟨by decide +kernel, fun b hb => List.all_eq_true.1 vb_X1_result b hb, fun q hq => List.all_eq_true.1 vp_X1 q hq⟩
set_option maxRecDepth 100000 in
theorem vb_X1_variable : (bX1_variable.all fun b => xokB yX1_variable.cls (decide (yX1_variable.name = "<init>")) cX1_variable 4 (some .int) pX1 xlds xexs b.2.2.2 b.1 b.2.2.1) = true := by decide +kernel
theorem vr_X1_variable : xokR xT xlds xexs rX1_variable := ⟨by decide +kernel, fun b hb => List.all_eq_true.1 vb_X1_variable b hb, fun q hq => List.all_eq_true.1 vp_X1 q hq⟩
set_option maxRecDepth 100000 in
theorem vb_X2_init : (bX2_init.all fun b => xokB yX2_init.cls (decide (yX2_init.name = "<init>")) cX2_init 1 none pX2 xlds xexs b.2.2.2 b.1 b.2.2.1) = true := by decide +kernel
theorem vr_X2_init : xokR xT xlds xexs rX2_init := ⟨by decide +kernel, fun b hb => List.all_eq_true.1 vb_X2_init b hb, fun q hq => List.all_eq_true.1 vp_X2 q hq⟩
set_option maxRecDepth 100000 in
theorem vb_X2_reset : (bX2_reset.all fun b => xokB yX2_reset.cls (decide (yX2_reset.name = "<init>")) cX2_reset 2 none pX2 xlds xexs b.2.2.2 b.1 b.2.2.1) = true := by decide +kernel
theorem vr_X2_reset : xokR xT xlds xexs rX2_reset := ⟨by decide +kernel, fun b hb => List.all_eq_true.1 vb_X2_reset b hb, fun q hq => List.all_eq_true.1 vp_X2 q hq⟩
set_option maxRecDepth 100000 in
theorem vb_X2_copyFrom : (bX2_copyFrom.all fun b => xokB yX2_copyFrom.cls (decide (yX2_copyFrom.name = "<init>")) cX2_copyFrom 2 none pX2 xlds xexs b.2.2.2 b.1 b.2.2.1) = true := by decide +kernel
theorem vr_X2_copyFrom : xokR xT xlds xexs rX2_copyFrom := ⟨by decide +kernel, fun b hb => List.all_eq_true.1 vb_X2_copyFrom b hb, fun q hq => List.all_eq_true.1 vp_X2 q hq⟩
set_option maxRecDepth 100000 in
theorem vb_X2_number : (bX2_number.all fun b => xokB yX2_number.cls (decide (yX2_number.name = "<init>")) cX2_number 2 (some .int) pX2 xlds xexs b.2.2.2 b.1 b.2.2.1) = true := by decide +kernel
theorem vr_X2_number : xokR xT xlds xexs rX2_number := ⟨by decide +kernel, fun b hb => List.all_eq_true.1 vb_X2_number b hb, fun q hq => List.all_eq_true.1 vp_X2 q hq⟩
set_option maxRecDepth 100000 in
theorem vb_X2_isBlinkNext : (bX2_isBlinkNext.all fun b => xokB yX2_isBlinkNext.cls (decide (yX2_isBlinkNext.name = "<init>")) cX2_isBlinkNext 1 (some .boolean) pX2 xlds xexs b.2.2.2 b.1 b.2.2.1) = true := by decide +kernel
theorem vr_X2_isBlinkNext : xokR xT xlds xexs rX2_isBlinkNext := ⟨by decide +kernel, fun b hb => List.all_eq_true.1 vb_X2_isBlinkNext b hb, fun q hq => List.all_eq_true.1 vp_X2 q hq⟩
set_option maxRecDepth 100000 in
theorem vb_X2_canSteal : (bX2_canSteal.all fun b => xokB yX2_canSteal.cls (decide (yX2_canSteal.name = "<init>")) cX2_canSteal 2 (some .boolean) pX2 xlds xexs b.2.2.2 b.1 b.2.2.1) = true := by decide +kernel
theorem vr_X2_canSteal : xokR xT xlds xexs rX2_canSteal := ⟨by decide +kernel, fun b hb => List.all_eq_true.1 vb_X2_canSteal b hb, fun q hq => List.all_eq_true.1 vp_X2 q hq⟩
set_option maxRecDepth 100000 in
theorem vb_X2_canPlant : (bX2_canPlant.all fun b => xokB yX2_canPlant.cls (decide (yX2_canPlant.name = "<init>")) cX2_canPlant 1 (some .boolean) pX2 xlds xexs b.2.2.2 b.1 b.2.2.1) = true := by decide +kernel
theorem vr_X2_canPlant : xokR xT xlds xexs rX2_canPlant := ⟨by decide +kernel, fun b hb => List.all_eq_true.1 vb_X2_canPlant b hb, fun q hq => List.all_eq_true.1 vp_X2 q hq⟩
set_option maxRecDepth 100000 in
theorem vb_X2_makeMove : (bX2_makeMove.all fun b => xokB yX2_makeMove.cls (decide (yX2_makeMove.name = "<init>")) cX2_makeMove 5 (some .boolean) pX2 xlds xexs b.2.2.2 b.1 b.2.2.1) = true := by decide +kernel
theorem vr_X2_makeMove : xokR xT xlds xexs rX2_makeMove := ⟨by decide +kernel, fun b hb => List.all_eq_true.1 vb_X2_makeMove b hb, fun q hq => List.all_eq_true.1 vp_X2 q hq⟩
set_option maxRecDepth 100000 in
theorem vb_X2_makeStill : (bX2_makeStill.all fun b => xokB yX2_makeStill.cls (decide (yX2_makeStill.name = "<init>")) cX2_makeStill 3 (some .boolean) pX2 xlds xexs b.2.2.2 b.1 b.2.2.1) = true := by decide +kernel
theorem vr_X2_makeStill : xokR xT xlds xexs rX2_makeStill := ⟨by decide +kernel, fun b hb => List.all_eq_true.1 vb_X2_makeStill b hb, fun q hq => List.all_eq_true.1 vp_X2 q hq⟩
set_option maxRecDepth 100000 in
theorem vb_X2_countStep : (bX2_countStep.all fun b => xokB yX2_countStep.cls (decide (yX2_countStep.name = "<init>")) cX2_countStep 2 none pX2 xlds xexs b.2.2.2 b.1 b.2.2.1) = true := by decide +kernel
theorem vr_X2_countStep : xokR xT xlds xexs rX2_countStep := ⟨by decide +kernel, fun b hb => List.all_eq_true.1 vb_X2_countStep b hb, fun q hq => List.all_eq_true.1 vp_X2 q hq⟩
set_option maxRecDepth 100000 in
theorem vb_X2_lookUnder : (bX2_lookUnder.all fun b => xokB yX2_lookUnder.cls (decide (yX2_lookUnder.name = "<init>")) cX2_lookUnder 3 (some .boolean) pX2 xlds xexs b.2.2.2 b.1 b.2.2.1) = true := by decide +kernel
theorem vr_X2_lookUnder : xokR xT xlds xexs rX2_lookUnder := ⟨by decide +kernel, fun b hb => List.all_eq_true.1 vb_X2_lookUnder b hb, fun q hq => List.all_eq_true.1 vp_X2 q hq⟩
set_option maxRecDepth 100000 in
theorem vb_X2_playBet : (bX2_playBet.all fun b => xokB yX2_playBet.cls (decide (yX2_playBet.name = "<init>")) cX2_playBet 4 (some .int) pX2 xlds xexs b.2.2.2 b.1 b.2.2.1) = true := by decide +kernel
theorem vr_X2_playBet : xokR xT xlds xexs rX2_playBet := ⟨by decide +kernel, fun b hb => List.all_eq_true.1 vb_X2_playBet b hb, fun q hq => List.all_eq_true.1 vp_X2 q hq⟩
set_option maxRecDepth 100000 in
theorem vb_X3_init : (bX3_init.all fun b => xokB yX3_init.cls (decide (yX3_init.name = "<init>")) cX3_init 1 none pX3 xlds xexs b.2.2.2 b.1 b.2.2.1) = true := by decide +kernel
theorem vr_X3_init : xokR xT xlds xexs rX3_init := ⟨by decide +kernel, fun b hb => List.all_eq_true.1 vb_X3_init b hb, fun q hq => List.all_eq_true.1 vp_X3 q hq⟩
set_option maxRecDepth 100000 in
theorem vb_X3_hasRoom : (bX3_hasRoom.all fun b => xokB yX3_hasRoom.cls (decide (yX3_hasRoom.name = "<init>")) cX3_hasRoom 2 (some .boolean) pX3 xlds xexs b.2.2.2 b.1 b.2.2.1) = true := by decide +kernel
theorem vr_X3_hasRoom : xokR xT xlds xexs rX3_hasRoom := ⟨by decide +kernel, fun b hb => List.all_eq_true.1 vb_X3_hasRoom b hb, fun q hq => List.all_eq_true.1 vp_X3 q hq⟩
set_option maxRecDepth 100000 in
theorem vb_X3_putWord : (bX3_putWord.all fun b => xokB yX3_putWord.cls (decide (yX3_putWord.name = "<init>")) cX3_putWord 3 none pX3 xlds xexs b.2.2.2 b.1 b.2.2.1) = true := by decide +kernel
theorem vr_X3_putWord : xokR xT xlds xexs rX3_putWord := ⟨by decide +kernel, fun b hb => List.all_eq_true.1 vb_X3_putWord b hb, fun q hq => List.all_eq_true.1 vp_X3 q hq⟩
set_option maxRecDepth 100000 in
theorem vb_X3_begin : (bX3_begin.all fun b => xokB yX3_begin.cls (decide (yX3_begin.name = "<init>")) cX3_begin 5 none pX3 xlds xexs b.2.2.2 b.1 b.2.2.1) = true := by decide +kernel
theorem vr_X3_begin : xokR xT xlds xexs rX3_begin := ⟨by decide +kernel, fun b hb => List.all_eq_true.1 vb_X3_begin b hb, fun q hq => List.all_eq_true.1 vp_X3 q hq⟩
set_option maxRecDepth 100000 in
theorem vb_X3_kindAt : (bX3_kindAt.all fun b => xokB yX3_kindAt.cls (decide (yX3_kindAt.name = "<init>")) cX3_kindAt 3 (some .int) pX3 xlds xexs b.2.2.2 b.1 b.2.2.1) = true := by decide +kernel
theorem vr_X3_kindAt : xokR xT xlds xexs rX3_kindAt := ⟨by decide +kernel, fun b hb => List.all_eq_true.1 vb_X3_kindAt b hb, fun q hq => List.all_eq_true.1 vp_X3 q hq⟩
set_option maxRecDepth 100000 in
theorem vb_X3_addToken : (bX3_addToken.all fun b => xokB yX3_addToken.cls (decide (yX3_addToken.name = "<init>")) cX3_addToken 4 none pX3 xlds xexs b.2.2.2 b.1 b.2.2.1) = true := by decide +kernel
theorem vr_X3_addToken : xokR xT xlds xexs rX3_addToken := ⟨by decide +kernel, fun b hb => List.all_eq_true.1 vb_X3_addToken b hb, fun q hq => List.all_eq_true.1 vp_X3 q hq⟩
set_option maxRecDepth 100000 in
theorem vb_X3_numberIn : (bX3_numberIn.all fun b => xokB yX3_numberIn.cls (decide (yX3_numberIn.name = "<init>")) cX3_numberIn 5 (some .int) pX3 xlds xexs b.2.2.2 b.1 b.2.2.1) = true := by decide +kernel
theorem vr_X3_numberIn : xokR xT xlds xexs rX3_numberIn := ⟨by decide +kernel, fun b hb => List.all_eq_true.1 vb_X3_numberIn b hb, fun q hq => List.all_eq_true.1 vp_X3 q hq⟩
set_option maxRecDepth 100000 in
theorem vb_X3_tokenIn : (bX3_tokenIn.all fun b => xokB yX3_tokenIn.cls (decide (yX3_tokenIn.name = "<init>")) cX3_tokenIn 7 (some (.object "ShellWatch$Token")) pX3 xlds xexs b.2.2.2 b.1 b.2.2.1) = true := by decide +kernel
theorem vr_X3_tokenIn : xokR xT xlds xexs rX3_tokenIn := ⟨by decide +kernel, fun b hb => List.all_eq_true.1 vb_X3_tokenIn b hb, fun q hq => List.all_eq_true.1 vp_X3 q hq⟩
set_option maxRecDepth 100000 in
theorem vb_X3_isSpelled : (bX3_isSpelled.all fun b => xokB yX3_isSpelled.cls (decide (yX3_isSpelled.name = "<init>")) cX3_isSpelled 5 (some .boolean) pX3 xlds xexs b.2.2.2 b.1 b.2.2.1) = true := by decide +kernel
theorem vr_X3_isSpelled : xokR xT xlds xexs rX3_isSpelled := ⟨by decide +kernel, fun b hb => List.all_eq_true.1 vb_X3_isSpelled b hb, fun q hq => List.all_eq_true.1 vp_X3 q hq⟩
set_option maxRecDepth 100000 in
theorem vb_X3_put : (bX3_put.all fun b => xokB yX3_put.cls (decide (yX3_put.name = "<init>")) cX3_put 4 none pX3 xlds xexs b.2.2.2 b.1 b.2.2.1) = true := by decide +kernel
theorem vr_X3_put : xokR xT xlds xexs rX3_put := ⟨by decide +kernel, fun b hb => List.all_eq_true.1 vb_X3_put b hb, fun q hq => List.all_eq_true.1 vp_X3 q hq⟩
set_option maxRecDepth 100000 in
theorem vb_X3_token : (bX3_token.all fun b => xokB yX3_token.cls (decide (yX3_token.name = "<init>")) cX3_token 1 (some (.object "ShellWatch$Token")) pX3 xlds xexs b.2.2.2 b.1 b.2.2.1) = true := by decide +kernel
theorem vr_X3_token : xokR xT xlds xexs rX3_token := ⟨by decide +kernel, fun b hb => List.all_eq_true.1 vb_X3_token b hb, fun q hq => List.all_eq_true.1 vp_X3 q hq⟩
set_option maxRecDepth 100000 in
theorem vb_X3_number : (bX3_number.all fun b => xokB yX3_number.cls (decide (yX3_number.name = "<init>")) cX3_number 1 (some .int) pX3 xlds xexs b.2.2.2 b.1 b.2.2.1) = true := by decide +kernel
theorem vr_X3_number : xokR xT xlds xexs rX3_number := ⟨by decide +kernel, fun b hb => List.all_eq_true.1 vb_X3_number b hb, fun q hq => List.all_eq_true.1 vp_X3 q hq⟩
set_option maxRecDepth 100000 in
theorem vb_X3_is : (bX3_is.all fun b => xokB yX3_is.cls (decide (yX3_is.name = "<init>")) cX3_is 2 (some .boolean) pX3 xlds xexs b.2.2.2 b.1 b.2.2.1) = true := by decide +kernel
theorem vr_X3_is : xokR xT xlds xexs rX3_is := ⟨by decide +kernel, fun b hb => List.all_eq_true.1 vb_X3_is b hb, fun q hq => List.all_eq_true.1 vp_X3 q hq⟩
set_option maxRecDepth 100000 in
theorem vb_X3_advance : (bX3_advance.all fun b => xokB yX3_advance.cls (decide (yX3_advance.name = "<init>")) cX3_advance 1 none pX3 xlds xexs b.2.2.2 b.1 b.2.2.1) = true := by decide +kernel
theorem vr_X3_advance : xokR xT xlds xexs rX3_advance := ⟨by decide +kernel, fun b hb => List.all_eq_true.1 vb_X3_advance b hb, fun q hq => List.all_eq_true.1 vp_X3 q hq⟩
set_option maxRecDepth 100000 in
theorem vb_X3_take : (bX3_take.all fun b => xokB yX3_take.cls (decide (yX3_take.name = "<init>")) cX3_take 2 (some .boolean) pX3 xlds xexs b.2.2.2 b.1 b.2.2.1) = true := by decide +kernel
theorem vr_X3_take : xokR xT xlds xexs rX3_take := ⟨by decide +kernel, fun b hb => List.all_eq_true.1 vb_X3_take b hb, fun q hq => List.all_eq_true.1 vp_X3 q hq⟩
set_option maxRecDepth 100000 in
theorem vb_X3_takeNumber : (bX3_takeNumber.all fun b => xokB yX3_takeNumber.cls (decide (yX3_takeNumber.name = "<init>")) cX3_takeNumber 4 (some .int) pX3 xlds xexs b.2.2.2 b.1 b.2.2.1) = true := by decide +kernel
theorem vr_X3_takeNumber : xokR xT xlds xexs rX3_takeNumber := ⟨by decide +kernel, fun b hb => List.all_eq_true.1 vb_X3_takeNumber b hb, fun q hq => List.all_eq_true.1 vp_X3 q hq⟩
set_option maxRecDepth 100000 in
theorem vb_X3_fail : (bX3_fail.all fun b => xokB yX3_fail.cls (decide (yX3_fail.name = "<init>")) cX3_fail 2 (some .boolean) pX3 xlds xexs b.2.2.2 b.1 b.2.2.1) = true := by decide +kernel
theorem vr_X3_fail : xokR xT xlds xexs rX3_fail := ⟨by decide +kernel, fun b hb => List.all_eq_true.1 vb_X3_fail b hb, fun q hq => List.all_eq_true.1 vp_X3 q hq⟩
set_option maxRecDepth 100000 in
theorem vb_X4_init : (bX4_init.all fun b => xokB yX4_init.cls (decide (yX4_init.name = "<init>")) cX4_init 1 none pX4 xlds xexs b.2.2.2 b.1 b.2.2.1) = true := by decide +kernel
theorem vr_X4_init : xokR xT xlds xexs rX4_init := ⟨by decide +kernel, fun b hb => List.all_eq_true.1 vb_X4_init b hb, fun q hq => List.all_eq_true.1 vp_X4 q hq⟩
set_option maxRecDepth 100000 in
theorem vb_X4_reset : (bX4_reset.all fun b => xokB yX4_reset.cls (decide (yX4_reset.name = "<init>")) cX4_reset 2 none pX4 xlds xexs b.2.2.2 b.1 b.2.2.1) = true := by decide +kernel
theorem vr_X4_reset : xokR xT xlds xexs rX4_reset := ⟨by decide +kernel, fun b hb => List.all_eq_true.1 vb_X4_reset b hb, fun q hq => List.all_eq_true.1 vp_X4 q hq⟩
set_option maxRecDepth 100000 in
theorem vb_X4_copyFrom : (bX4_copyFrom.all fun b => xokB yX4_copyFrom.cls (decide (yX4_copyFrom.name = "<init>")) cX4_copyFrom 2 none pX4 xlds xexs b.2.2.2 b.1 b.2.2.1) = true := by decide +kernel
theorem vr_X4_copyFrom : xokR xT xlds xexs rX4_copyFrom := ⟨by decide +kernel, fun b hb => List.all_eq_true.1 vb_X4_copyFrom b hb, fun q hq => List.all_eq_true.1 vp_X4 q hq⟩
set_option maxRecDepth 100000 in
theorem vb_X4_know : (bX4_know.all fun b => xokB yX4_know.cls (decide (yX4_know.name = "<init>")) cX4_know 2 none pX4 xlds xexs b.2.2.2 b.1 b.2.2.1) = true := by decide +kernel
theorem vr_X4_know : xokR xT xlds xexs rX4_know := ⟨by decide +kernel, fun b hb => List.all_eq_true.1 vb_X4_know b hb, fun q hq => List.all_eq_true.1 vp_X4 q hq⟩
set_option maxRecDepth 100000 in
theorem vb_X4_ruleOut : (bX4_ruleOut.all fun b => xokB yX4_ruleOut.cls (decide (yX4_ruleOut.name = "<init>")) cX4_ruleOut 2 none pX4 xlds xexs b.2.2.2 b.1 b.2.2.1) = true := by decide +kernel
theorem vr_X4_ruleOut : xokR xT xlds xexs rX4_ruleOut := ⟨by decide +kernel, fun b hb => List.all_eq_true.1 vb_X4_ruleOut b hb, fun q hq => List.all_eq_true.1 vp_X4 q hq⟩
set_option maxRecDepth 100000 in
theorem vb_X4_sum : (bX4_sum.all fun b => xokB yX4_sum.cls (decide (yX4_sum.name = "<init>")) cX4_sum 3 (some .int) pX4 xlds xexs b.2.2.2 b.1 b.2.2.1) = true := by decide +kernel
theorem vr_X4_sum : xokR xT xlds xexs rX4_sum := ⟨by decide +kernel, fun b hb => List.all_eq_true.1 vb_X4_sum b hb, fun q hq => List.all_eq_true.1 vp_X4 q hq⟩
set_option maxRecDepth 100000 in
theorem vb_X4_greatest : (bX4_greatest.all fun b => xokB yX4_greatest.cls (decide (yX4_greatest.name = "<init>")) cX4_greatest 3 (some .int) pX4 xlds xexs b.2.2.2 b.1 b.2.2.1) = true := by decide +kernel
theorem vr_X4_greatest : xokR xT xlds xexs rX4_greatest := ⟨by decide +kernel, fun b hb => List.all_eq_true.1 vb_X4_greatest b hb, fun q hq => List.all_eq_true.1 vp_X4 q hq⟩
set_option maxRecDepth 100000 in
theorem vb_X4_countBelieved : (bX4_countBelieved.all fun b => xokB yX4_countBelieved.cls (decide (yX4_countBelieved.name = "<init>")) cX4_countBelieved 3 (some .int) pX4 xlds xexs b.2.2.2 b.1 b.2.2.1) = true := by decide +kernel
theorem vr_X4_countBelieved : xokR xT xlds xexs rX4_countBelieved := ⟨by decide +kernel, fun b hb => List.all_eq_true.1 vb_X4_countBelieved b hb, fun q hq => List.all_eq_true.1 vp_X4 q hq⟩
set_option maxRecDepth 100000 in
theorem vb_X4_likeliestShell : (bX4_likeliestShell.all fun b => xokB yX4_likeliestShell.cls (decide (yX4_likeliestShell.name = "<init>")) cX4_likeliestShell 3 (some .int) pX4 xlds xexs b.2.2.2 b.1 b.2.2.1) = true := by decide +kernel
theorem vr_X4_likeliestShell : xokR xT xlds xexs rX4_likeliestShell := ⟨by decide +kernel, fun b hb => List.all_eq_true.1 vb_X4_likeliestShell b hb, fun q hq => List.all_eq_true.1 vp_X4 q hq⟩
set_option maxRecDepth 100000 in
theorem vb_X4_placeOfRank : (bX4_placeOfRank.all fun b => xokB yX4_placeOfRank.cls (decide (yX4_placeOfRank.name = "<init>")) cX4_placeOfRank 3 (some .int) pX4 xlds xexs b.2.2.2 b.1 b.2.2.1) = true := by decide +kernel
theorem vr_X4_placeOfRank : xokR xT xlds xexs rX4_placeOfRank := ⟨by decide +kernel, fun b hb => List.all_eq_true.1 vb_X4_placeOfRank b hb, fun q hq => List.all_eq_true.1 vp_X4 q hq⟩
set_option maxRecDepth 100000 in
theorem vb_X4_countAheadOf : (bX4_countAheadOf.all fun b => xokB yX4_countAheadOf.cls (decide (yX4_countAheadOf.name = "<init>")) cX4_countAheadOf 4 (some .int) pX4 xlds xexs b.2.2.2 b.1 b.2.2.1) = true := by decide +kernel
theorem vr_X4_countAheadOf : xokR xT xlds xexs rX4_countAheadOf := ⟨by decide +kernel, fun b hb => List.all_eq_true.1 vb_X4_countAheadOf b hb, fun q hq => List.all_eq_true.1 vp_X4 q hq⟩
set_option maxRecDepth 100000 in
theorem vb_X4_followMove : (bX4_followMove.all fun b => xokB yX4_followMove.cls (decide (yX4_followMove.name = "<init>")) cX4_followMove 7 none pX4 xlds xexs b.2.2.2 b.1 b.2.2.1) = true := by decide +kernel
theorem vr_X4_followMove : xokR xT xlds xexs rX4_followMove := ⟨by decide +kernel, fun b hb => List.all_eq_true.1 vb_X4_followMove b hb, fun q hq => List.all_eq_true.1 vp_X4 q hq⟩
set_option maxRecDepth 100000 in
theorem vb_X4_followStill : (bX4_followStill.all fun b => xokB yX4_followStill.cls (decide (yX4_followStill.name = "<init>")) cX4_followStill 3 none pX4 xlds xexs b.2.2.2 b.1 b.2.2.1) = true := by decide +kernel
theorem vr_X4_followStill : xokR xT xlds xexs rX4_followStill := ⟨by decide +kernel, fun b hb => List.all_eq_true.1 vb_X4_followStill b hb, fun q hq => List.all_eq_true.1 vp_X4 q hq⟩
set_option maxRecDepth 100000 in
theorem vb_X4_exchange : (bX4_exchange.all fun b => xokB yX4_exchange.cls (decide (yX4_exchange.name = "<init>")) cX4_exchange 4 none pX4 xlds xexs b.2.2.2 b.1 b.2.2.1) = true := by decide +kernel
theorem vr_X4_exchange : xokR xT xlds xexs rX4_exchange := ⟨by decide +kernel, fun b hb => List.all_eq_true.1 vb_X4_exchange b hb, fun q hq => List.all_eq_true.1 vp_X4 q hq⟩
set_option maxRecDepth 100000 in
theorem vb_X4_mix : (bX4_mix.all fun b => xokB yX4_mix.cls (decide (yX4_mix.name = "<init>")) cX4_mix 6 none pX4 xlds xexs b.2.2.2 b.1 b.2.2.1) = true := by decide +kernel
theorem vr_X4_mix : xokR xT xlds xexs rX4_mix := ⟨by decide +kernel, fun b hb => List.all_eq_true.1 vb_X4_mix b hb, fun q hq => List.all_eq_true.1 vp_X4 q hq⟩
set_option maxRecDepth 100000 in
theorem vb_X4_wonder : (bX4_wonder.all fun b => xokB yX4_wonder.cls (decide (yX4_wonder.name = "<init>")) cX4_wonder 14 none pX4 xlds xexs b.2.2.2 b.1 b.2.2.1) = true := by decide +kernel
theorem vr_X4_wonder : xokR xT xlds xexs rX4_wonder := ⟨by decide +kernel, fun b hb => List.all_eq_true.1 vb_X4_wonder b hb, fun q hq => List.all_eq_true.1 vp_X4 q hq⟩
set_option maxRecDepth 100000 in
theorem vb_X4_pairsOf : (bX4_pairsOf.all fun b => xokB yX4_pairsOf.cls (decide (yX4_pairsOf.name = "<init>")) cX4_pairsOf 1 (some .int) pX4 xlds xexs b.2.2.2 b.1 b.2.2.1) = true := by decide +kernel
theorem vr_X4_pairsOf : xokR xT xlds xexs rX4_pairsOf := ⟨by decide +kernel, fun b hb => List.all_eq_true.1 vb_X4_pairsOf b hb, fun q hq => List.all_eq_true.1 vp_X4 q hq⟩
set_option maxRecDepth 100000 in
theorem vb_X4_settle : (bX4_settle.all fun b => xokB yX4_settle.cls (decide (yX4_settle.name = "<init>")) cX4_settle 2 none pX4 xlds xexs b.2.2.2 b.1 b.2.2.1) = true := by decide +kernel
theorem vr_X4_settle : xokR xT xlds xexs rX4_settle := ⟨by decide +kernel, fun b hb => List.all_eq_true.1 vb_X4_settle b hb, fun q hq => List.all_eq_true.1 vp_X4 q hq⟩
set_option maxRecDepth 100000 in
theorem vb_X4_halve : (bX4_halve.all fun b => xokB yX4_halve.cls (decide (yX4_halve.name = "<init>")) cX4_halve 2 none pX4 xlds xexs b.2.2.2 b.1 b.2.2.1) = true := by decide +kernel
theorem vr_X4_halve : xokR xT xlds xexs rX4_halve := ⟨by decide +kernel, fun b hb => List.all_eq_true.1 vb_X4_halve b hb, fun q hq => List.all_eq_true.1 vp_X4 q hq⟩
set_option maxRecDepth 100000 in
theorem vb_X4_divideByCommonDivisor : (bX4_divideByCommonDivisor.all fun b => xokB yX4_divideByCommonDivisor.cls (decide (yX4_divideByCommonDivisor.name = "<init>")) cX4_divideByCommonDivisor 3 none pX4 xlds xexs b.2.2.2 b.1 b.2.2.1) = true := by decide +kernel
theorem vr_X4_divideByCommonDivisor : xokR xT xlds xexs rX4_divideByCommonDivisor := ⟨by decide +kernel, fun b hb => List.all_eq_true.1 vb_X4_divideByCommonDivisor b hb, fun q hq => List.all_eq_true.1 vp_X4 q hq⟩
set_option maxRecDepth 100000 in
theorem vb_X4_commonDivisor : (bX4_commonDivisor.all fun b => xokB yX4_commonDivisor.cls (decide (yX4_commonDivisor.name = "<init>")) cX4_commonDivisor 6 (some .int) pX4 xlds xexs b.2.2.2 b.1 b.2.2.1) = true := by decide +kernel
theorem vr_X4_commonDivisor : xokR xT xlds xexs rX4_commonDivisor := ⟨by decide +kernel, fun b hb => List.all_eq_true.1 vb_X4_commonDivisor b hb, fun q hq => List.all_eq_true.1 vp_X4 q hq⟩
