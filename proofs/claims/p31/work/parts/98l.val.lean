/-! THE TABLE HOLDS: rows against the bytes; written by wip/p31/genval.py. -/
set_option maxRecDepth 100000 in
theorem vb_X0_init : (bX0_init.all fun b => xokB yX0_init.cls (decide (yX0_init.name = "<init>")) cX0_init 1 none pX0 xlds xexs b.2.2.2 b.1 b.2.2.1) = true := by decide +kernel
theorem vr_X0_init : xokR xT xlds xexs rX0_init := ⟨by decide +kernel, by decide +kernel, fun b hb => List.all_eq_true.1 vb_X0_init b hb, fun q hq => List.all_eq_true.1 vp_X0 q hq⟩
set_option maxRecDepth 100000 in
theorem vb_X0_clear : (bX0_clear.all fun b => xokB yX0_clear.cls (decide (yX0_clear.name = "<init>")) cX0_clear 1 none pX0 xlds xexs b.2.2.2 b.1 b.2.2.1) = true := by decide +kernel
theorem vr_X0_clear : xokR xT xlds xexs rX0_clear := ⟨by decide +kernel, by decide +kernel, fun b hb => List.all_eq_true.1 vb_X0_clear b hb, fun q hq => List.all_eq_true.1 vp_X0 q hq⟩
set_option maxRecDepth 100000 in
theorem vb_X0_copyFrom : (bX0_copyFrom.all fun b => xokB yX0_copyFrom.cls (decide (yX0_copyFrom.name = "<init>")) cX0_copyFrom 2 none pX0 xlds xexs b.2.2.2 b.1 b.2.2.1) = true := by decide +kernel
theorem vr_X0_copyFrom : xokR xT xlds xexs rX0_copyFrom := ⟨by decide +kernel, by decide +kernel, fun b hb => List.all_eq_true.1 vb_X0_copyFrom b hb, fun q hq => List.all_eq_true.1 vp_X0 q hq⟩
set_option maxRecDepth 100000 in
theorem vb_X0_isFull : (bX0_isFull.all fun b => xokB yX0_isFull.cls (decide (yX0_isFull.name = "<init>")) cX0_isFull 1 (some .boolean) pX0 xlds xexs b.2.2.2 b.1 b.2.2.1) = true := by decide +kernel
theorem vr_X0_isFull : xokR xT xlds xexs rX0_isFull := ⟨by decide +kernel, by decide +kernel, fun b hb => List.all_eq_true.1 vb_X0_isFull b hb, fun q hq => List.all_eq_true.1 vp_X0 q hq⟩
set_option maxRecDepth 100000 in
theorem vb_X0_tell : (bX0_tell.all fun b => xokB yX0_tell.cls (decide (yX0_tell.name = "<init>")) cX0_tell 3 none pX0 xlds xexs b.2.2.2 b.1 b.2.2.1) = true := by decide +kernel
theorem vr_X0_tell : xokR xT xlds xexs rX0_tell := ⟨by decide +kernel, by decide +kernel, fun b hb => List.all_eq_true.1 vb_X0_tell b hb, fun q hq => List.all_eq_true.1 vp_X0 q hq⟩
set_option maxRecDepth 100000 in
theorem vb_X0_has : (bX0_has.all fun b => xokB yX0_has.cls (decide (yX0_has.name = "<init>")) cX0_has 3 (some .boolean) pX0 xlds xexs b.2.2.2 b.1 b.2.2.1) = true := by decide +kernel
theorem vr_X0_has : xokR xT xlds xexs rX0_has := ⟨by decide +kernel, by decide +kernel, fun b hb => List.all_eq_true.1 vb_X0_has b hb, fun q hq => List.all_eq_true.1 vp_X0 q hq⟩
set_option maxRecDepth 100000 in
theorem vb_X1_init : (bX1_init.all fun b => xokB yX1_init.cls (decide (yX1_init.name = "<init>")) cX1_init 1 none pX1 xlds xexs b.2.2.2 b.1 b.2.2.1) = true := by decide +kernel
theorem vr_X1_init : xokR xT xlds xexs rX1_init := ⟨by decide +kernel, by decide +kernel, fun b hb => List.all_eq_true.1 vb_X1_init b hb, fun q hq => List.all_eq_true.1 vp_X1 q hq⟩
set_option maxRecDepth 100000 in
theorem vb_X1_clear : (bX1_clear.all fun b => xokB yX1_clear.cls (decide (yX1_clear.name = "<init>")) cX1_clear 1 none pX1 xlds xexs b.2.2.2 b.1 b.2.2.1) = true := by decide +kernel
theorem vr_X1_clear : xokR xT xlds xexs rX1_clear := ⟨by decide +kernel, by decide +kernel, fun b hb => List.all_eq_true.1 vb_X1_clear b hb, fun q hq => List.all_eq_true.1 vp_X1 q hq⟩
set_option maxRecDepth 100000 in
theorem vb_X1_reset : (bX1_reset.all fun b => xokB yX1_reset.cls (decide (yX1_reset.name = "<init>")) cX1_reset 1 none pX1 xlds xexs b.2.2.2 b.1 b.2.2.1) = true := by decide +kernel
theorem vr_X1_reset : xokR xT xlds xexs rX1_reset := ⟨by decide +kernel, by decide +kernel, fun b hb => List.all_eq_true.1 vb_X1_reset b hb, fun q hq => List.all_eq_true.1 vp_X1 q hq⟩
set_option maxRecDepth 100000 in
theorem vb_X1_copyFrom : (bX1_copyFrom.all fun b => xokB yX1_copyFrom.cls (decide (yX1_copyFrom.name = "<init>")) cX1_copyFrom 2 none pX1 xlds xexs b.2.2.2 b.1 b.2.2.1) = true := by decide +kernel
theorem vr_X1_copyFrom : xokR xT xlds xexs rX1_copyFrom := ⟨by decide +kernel, by decide +kernel, fun b hb => List.all_eq_true.1 vb_X1_copyFrom b hb, fun q hq => List.all_eq_true.1 vp_X1 q hq⟩
set_option maxRecDepth 100000 in
theorem vb_X1_put : (bX1_put.all fun b => xokB yX1_put.cls (decide (yX1_put.name = "<init>")) cX1_put 2 none pX1 xlds xexs b.2.2.2 b.1 b.2.2.1) = true := by decide +kernel
theorem vr_X1_put : xokR xT xlds xexs rX1_put := ⟨by decide +kernel, by decide +kernel, fun b hb => List.all_eq_true.1 vb_X1_put b hb, fun q hq => List.all_eq_true.1 vp_X1 q hq⟩
set_option maxRecDepth 100000 in
theorem vb_X1_readSum : (bX1_readSum.all fun b => xokB yX1_readSum.cls (decide (yX1_readSum.name = "<init>")) cX1_readSum 5 (some .boolean) pX1 xlds xexs b.2.2.2 b.1 b.2.2.1) = true := by decide +kernel
theorem vr_X1_readSum : xokR xT xlds xexs rX1_readSum := ⟨by decide +kernel, by decide +kernel, fun b hb => List.all_eq_true.1 vb_X1_readSum b hb, fun q hq => List.all_eq_true.1 vp_X1 q hq⟩
set_option maxRecDepth 100000 in
theorem vb_X1_readTerm : (bX1_readTerm.all fun b => xokB yX1_readTerm.cls (decide (yX1_readTerm.name = "<init>")) cX1_readTerm 5 (some .boolean) pX1 xlds xexs b.2.2.2 b.1 b.2.2.1) = true := by decide +kernel
theorem vr_X1_readTerm : xokR xT xlds xexs rX1_readTerm := ⟨by decide +kernel, by decide +kernel, fun b hb => List.all_eq_true.1 vb_X1_readTerm b hb, fun q hq => List.all_eq_true.1 vp_X1 q hq⟩
set_option maxRecDepth 100000 in
theorem vb_X1_readFactor : (bX1_readFactor.all fun b => xokB yX1_readFactor.cls (decide (yX1_readFactor.name = "<init>")) cX1_readFactor 4 (some .boolean) pX1 xlds xexs b.2.2.2 b.1 b.2.2.1) = true := by decide +kernel
theorem vr_X1_readFactor : xokR xT xlds xexs rX1_readFactor := ⟨by decide +kernel, by decide +kernel, fun b hb => List.all_eq_true.1 vb_X1_readFactor b hb, fun q hq => List.all_eq_true.1 vp_X1 q hq⟩
set_option maxRecDepth 100000 in
theorem vb_X1_variableOf : (bX1_variableOf.all fun b => xokB yX1_variableOf.cls (decide (yX1_variableOf.name = "<init>")) cX1_variableOf 1 (some .int) pX1 xlds xexs b.2.2.2 b.1 b.2.2.1) = true := by decide +kernel
theorem vr_X1_variableOf : xokR xT xlds xexs rX1_variableOf := ⟨by decide +kernel, by decide +kernel, fun b hb => List.all_eq_true.1 vb_X1_variableOf b hb, fun q hq => List.all_eq_true.1 vp_X1 q hq⟩
set_option maxRecDepth 100000 in
theorem vb_X2_init : (bX2_init.all fun b => xokB yX2_init.cls (decide (yX2_init.name = "<init>")) cX2_init 1 none pX2 xlds xexs b.2.2.2 b.1 b.2.2.1) = true := by decide +kernel
theorem vr_X2_init : xokR xT xlds xexs rX2_init := ⟨by decide +kernel, by decide +kernel, fun b hb => List.all_eq_true.1 vb_X2_init b hb, fun q hq => List.all_eq_true.1 vp_X2 q hq⟩
set_option maxRecDepth 100000 in
theorem vb_X2_reset : (bX2_reset.all fun b => xokB yX2_reset.cls (decide (yX2_reset.name = "<init>")) cX2_reset 2 none pX2 xlds xexs b.2.2.2 b.1 b.2.2.1) = true := by decide +kernel
theorem vr_X2_reset : xokR xT xlds xexs rX2_reset := ⟨by decide +kernel, by decide +kernel, fun b hb => List.all_eq_true.1 vb_X2_reset b hb, fun q hq => List.all_eq_true.1 vp_X2 q hq⟩
set_option maxRecDepth 100000 in
theorem vb_X2_copyFrom : (bX2_copyFrom.all fun b => xokB yX2_copyFrom.cls (decide (yX2_copyFrom.name = "<init>")) cX2_copyFrom 2 none pX2 xlds xexs b.2.2.2 b.1 b.2.2.1) = true := by decide +kernel
theorem vr_X2_copyFrom : xokR xT xlds xexs rX2_copyFrom := ⟨by decide +kernel, by decide +kernel, fun b hb => List.all_eq_true.1 vb_X2_copyFrom b hb, fun q hq => List.all_eq_true.1 vp_X2 q hq⟩
set_option maxRecDepth 100000 in
theorem vb_X2_number : (bX2_number.all fun b => xokB yX2_number.cls (decide (yX2_number.name = "<init>")) cX2_number 2 (some .int) pX2 xlds xexs b.2.2.2 b.1 b.2.2.1) = true := by decide +kernel
theorem vr_X2_number : xokR xT xlds xexs rX2_number := ⟨by decide +kernel, by decide +kernel, fun b hb => List.all_eq_true.1 vb_X2_number b hb, fun q hq => List.all_eq_true.1 vp_X2 q hq⟩
set_option maxRecDepth 100000 in
theorem vb_X2_isBlinkNext : (bX2_isBlinkNext.all fun b => xokB yX2_isBlinkNext.cls (decide (yX2_isBlinkNext.name = "<init>")) cX2_isBlinkNext 1 (some .boolean) pX2 xlds xexs b.2.2.2 b.1 b.2.2.1) = true := by decide +kernel
theorem vr_X2_isBlinkNext : xokR xT xlds xexs rX2_isBlinkNext := ⟨by decide +kernel, by decide +kernel, fun b hb => List.all_eq_true.1 vb_X2_isBlinkNext b hb, fun q hq => List.all_eq_true.1 vp_X2 q hq⟩
set_option maxRecDepth 100000 in
theorem vb_X2_canSteal : (bX2_canSteal.all fun b => xokB yX2_canSteal.cls (decide (yX2_canSteal.name = "<init>")) cX2_canSteal 2 (some .boolean) pX2 xlds xexs b.2.2.2 b.1 b.2.2.1) = true := by decide +kernel
theorem vr_X2_canSteal : xokR xT xlds xexs rX2_canSteal := ⟨by decide +kernel, by decide +kernel, fun b hb => List.all_eq_true.1 vb_X2_canSteal b hb, fun q hq => List.all_eq_true.1 vp_X2 q hq⟩
set_option maxRecDepth 100000 in
theorem vb_X2_canPlant : (bX2_canPlant.all fun b => xokB yX2_canPlant.cls (decide (yX2_canPlant.name = "<init>")) cX2_canPlant 1 (some .boolean) pX2 xlds xexs b.2.2.2 b.1 b.2.2.1) = true := by decide +kernel
theorem vr_X2_canPlant : xokR xT xlds xexs rX2_canPlant := ⟨by decide +kernel, by decide +kernel, fun b hb => List.all_eq_true.1 vb_X2_canPlant b hb, fun q hq => List.all_eq_true.1 vp_X2 q hq⟩
set_option maxRecDepth 100000 in
theorem vb_X2_makeMove : (bX2_makeMove.all fun b => xokB yX2_makeMove.cls (decide (yX2_makeMove.name = "<init>")) cX2_makeMove 5 (some .boolean) pX2 xlds xexs b.2.2.2 b.1 b.2.2.1) = true := by decide +kernel
theorem vr_X2_makeMove : xokR xT xlds xexs rX2_makeMove := ⟨by decide +kernel, by decide +kernel, fun b hb => List.all_eq_true.1 vb_X2_makeMove b hb, fun q hq => List.all_eq_true.1 vp_X2 q hq⟩
set_option maxRecDepth 100000 in
theorem vb_X2_makeStill : (bX2_makeStill.all fun b => xokB yX2_makeStill.cls (decide (yX2_makeStill.name = "<init>")) cX2_makeStill 3 (some .boolean) pX2 xlds xexs b.2.2.2 b.1 b.2.2.1) = true := by decide +kernel
theorem vr_X2_makeStill : xokR xT xlds xexs rX2_makeStill := ⟨by decide +kernel, by decide +kernel, fun b hb => List.all_eq_true.1 vb_X2_makeStill b hb, fun q hq => List.all_eq_true.1 vp_X2 q hq⟩
set_option maxRecDepth 100000 in
theorem vb_X2_countStep : (bX2_countStep.all fun b => xokB yX2_countStep.cls (decide (yX2_countStep.name = "<init>")) cX2_countStep 2 none pX2 xlds xexs b.2.2.2 b.1 b.2.2.1) = true := by decide +kernel
theorem vr_X2_countStep : xokR xT xlds xexs rX2_countStep := ⟨by decide +kernel, by decide +kernel, fun b hb => List.all_eq_true.1 vb_X2_countStep b hb, fun q hq => List.all_eq_true.1 vp_X2 q hq⟩
set_option maxRecDepth 100000 in
theorem vb_X2_lookUnder : (bX2_lookUnder.all fun b => xokB yX2_lookUnder.cls (decide (yX2_lookUnder.name = "<init>")) cX2_lookUnder 3 (some .boolean) pX2 xlds xexs b.2.2.2 b.1 b.2.2.1) = true := by decide +kernel
theorem vr_X2_lookUnder : xokR xT xlds xexs rX2_lookUnder := ⟨by decide +kernel, by decide +kernel, fun b hb => List.all_eq_true.1 vb_X2_lookUnder b hb, fun q hq => List.all_eq_true.1 vp_X2 q hq⟩
set_option maxRecDepth 100000 in
theorem vb_X3_init : (bX3_init.all fun b => xokB yX3_init.cls (decide (yX3_init.name = "<init>")) cX3_init 1 none pX3 xlds xexs b.2.2.2 b.1 b.2.2.1) = true := by decide +kernel
theorem vr_X3_init : xokR xT xlds xexs rX3_init := ⟨by decide +kernel, by decide +kernel, fun b hb => List.all_eq_true.1 vb_X3_init b hb, fun q hq => List.all_eq_true.1 vp_X3 q hq⟩
set_option maxRecDepth 100000 in
theorem vb_X3_hasRoom : (bX3_hasRoom.all fun b => xokB yX3_hasRoom.cls (decide (yX3_hasRoom.name = "<init>")) cX3_hasRoom 2 (some .boolean) pX3 xlds xexs b.2.2.2 b.1 b.2.2.1) = true := by decide +kernel
theorem vr_X3_hasRoom : xokR xT xlds xexs rX3_hasRoom := ⟨by decide +kernel, by decide +kernel, fun b hb => List.all_eq_true.1 vb_X3_hasRoom b hb, fun q hq => List.all_eq_true.1 vp_X3 q hq⟩
set_option maxRecDepth 100000 in
theorem vb_X3_putWord : (bX3_putWord.all fun b => xokB yX3_putWord.cls (decide (yX3_putWord.name = "<init>")) cX3_putWord 3 none pX3 xlds xexs b.2.2.2 b.1 b.2.2.1) = true := by decide +kernel
theorem vr_X3_putWord : xokR xT xlds xexs rX3_putWord := ⟨by decide +kernel, by decide +kernel, fun b hb => List.all_eq_true.1 vb_X3_putWord b hb, fun q hq => List.all_eq_true.1 vp_X3 q hq⟩
set_option maxRecDepth 100000 in
theorem vb_X3_begin : (bX3_begin.all fun b => xokB yX3_begin.cls (decide (yX3_begin.name = "<init>")) cX3_begin 5 none pX3 xlds xexs b.2.2.2 b.1 b.2.2.1) = true := by decide +kernel
theorem vr_X3_begin : xokR xT xlds xexs rX3_begin := ⟨by decide +kernel, by decide +kernel, fun b hb => List.all_eq_true.1 vb_X3_begin b hb, fun q hq => List.all_eq_true.1 vp_X3 q hq⟩
set_option maxRecDepth 100000 in
theorem vb_X3_kindAt : (bX3_kindAt.all fun b => xokB yX3_kindAt.cls (decide (yX3_kindAt.name = "<init>")) cX3_kindAt 3 (some .int) pX3 xlds xexs b.2.2.2 b.1 b.2.2.1) = true := by decide +kernel
theorem vr_X3_kindAt : xokR xT xlds xexs rX3_kindAt := ⟨by decide +kernel, by decide +kernel, fun b hb => List.all_eq_true.1 vb_X3_kindAt b hb, fun q hq => List.all_eq_true.1 vp_X3 q hq⟩
set_option maxRecDepth 100000 in
theorem vb_X3_addToken : (bX3_addToken.all fun b => xokB yX3_addToken.cls (decide (yX3_addToken.name = "<init>")) cX3_addToken 4 none pX3 xlds xexs b.2.2.2 b.1 b.2.2.1) = true := by decide +kernel
theorem vr_X3_addToken : xokR xT xlds xexs rX3_addToken := ⟨by decide +kernel, by decide +kernel, fun b hb => List.all_eq_true.1 vb_X3_addToken b hb, fun q hq => List.all_eq_true.1 vp_X3 q hq⟩
set_option maxRecDepth 100000 in
theorem vb_X3_numberIn : (bX3_numberIn.all fun b => xokB yX3_numberIn.cls (decide (yX3_numberIn.name = "<init>")) cX3_numberIn 5 (some .int) pX3 xlds xexs b.2.2.2 b.1 b.2.2.1) = true := by decide +kernel
theorem vr_X3_numberIn : xokR xT xlds xexs rX3_numberIn := ⟨by decide +kernel, by decide +kernel, fun b hb => List.all_eq_true.1 vb_X3_numberIn b hb, fun q hq => List.all_eq_true.1 vp_X3 q hq⟩
set_option maxRecDepth 100000 in
theorem vb_X3_tokenIn : (bX3_tokenIn.all fun b => xokB yX3_tokenIn.cls (decide (yX3_tokenIn.name = "<init>")) cX3_tokenIn 7 (some (.object "ShellWatch$Token")) pX3 xlds xexs b.2.2.2 b.1 b.2.2.1) = true := by decide +kernel
theorem vr_X3_tokenIn : xokR xT xlds xexs rX3_tokenIn := ⟨by decide +kernel, by decide +kernel, fun b hb => List.all_eq_true.1 vb_X3_tokenIn b hb, fun q hq => List.all_eq_true.1 vp_X3 q hq⟩
set_option maxRecDepth 100000 in
theorem vb_X3_isSpelled : (bX3_isSpelled.all fun b => xokB yX3_isSpelled.cls (decide (yX3_isSpelled.name = "<init>")) cX3_isSpelled 5 (some .boolean) pX3 xlds xexs b.2.2.2 b.1 b.2.2.1) = true := by decide +kernel
theorem vr_X3_isSpelled : xokR xT xlds xexs rX3_isSpelled := ⟨by decide +kernel, by decide +kernel, fun b hb => List.all_eq_true.1 vb_X3_isSpelled b hb, fun q hq => List.all_eq_true.1 vp_X3 q hq⟩
set_option maxRecDepth 100000 in
theorem vb_X3_put : (bX3_put.all fun b => xokB yX3_put.cls (decide (yX3_put.name = "<init>")) cX3_put 4 none pX3 xlds xexs b.2.2.2 b.1 b.2.2.1) = true := by decide +kernel
theorem vr_X3_put : xokR xT xlds xexs rX3_put := ⟨by decide +kernel, by decide +kernel, fun b hb => List.all_eq_true.1 vb_X3_put b hb, fun q hq => List.all_eq_true.1 vp_X3 q hq⟩
set_option maxRecDepth 100000 in
theorem vb_X3_token : (bX3_token.all fun b => xokB yX3_token.cls (decide (yX3_token.name = "<init>")) cX3_token 1 (some (.object "ShellWatch$Token")) pX3 xlds xexs b.2.2.2 b.1 b.2.2.1) = true := by decide +kernel
theorem vr_X3_token : xokR xT xlds xexs rX3_token := ⟨by decide +kernel, by decide +kernel, fun b hb => List.all_eq_true.1 vb_X3_token b hb, fun q hq => List.all_eq_true.1 vp_X3 q hq⟩
set_option maxRecDepth 100000 in
theorem vb_X3_number : (bX3_number.all fun b => xokB yX3_number.cls (decide (yX3_number.name = "<init>")) cX3_number 1 (some .int) pX3 xlds xexs b.2.2.2 b.1 b.2.2.1) = true := by decide +kernel
theorem vr_X3_number : xokR xT xlds xexs rX3_number := ⟨by decide +kernel, by decide +kernel, fun b hb => List.all_eq_true.1 vb_X3_number b hb, fun q hq => List.all_eq_true.1 vp_X3 q hq⟩
set_option maxRecDepth 100000 in
theorem vb_X3_is : (bX3_is.all fun b => xokB yX3_is.cls (decide (yX3_is.name = "<init>")) cX3_is 2 (some .boolean) pX3 xlds xexs b.2.2.2 b.1 b.2.2.1) = true := by decide +kernel
theorem vr_X3_is : xokR xT xlds xexs rX3_is := ⟨by decide +kernel, by decide +kernel, fun b hb => List.all_eq_true.1 vb_X3_is b hb, fun q hq => List.all_eq_true.1 vp_X3 q hq⟩
set_option maxRecDepth 100000 in
theorem vb_X3_advance : (bX3_advance.all fun b => xokB yX3_advance.cls (decide (yX3_advance.name = "<init>")) cX3_advance 1 none pX3 xlds xexs b.2.2.2 b.1 b.2.2.1) = true := by decide +kernel
theorem vr_X3_advance : xokR xT xlds xexs rX3_advance := ⟨by decide +kernel, by decide +kernel, fun b hb => List.all_eq_true.1 vb_X3_advance b hb, fun q hq => List.all_eq_true.1 vp_X3 q hq⟩
set_option maxRecDepth 100000 in
theorem vb_X3_take : (bX3_take.all fun b => xokB yX3_take.cls (decide (yX3_take.name = "<init>")) cX3_take 2 (some .boolean) pX3 xlds xexs b.2.2.2 b.1 b.2.2.1) = true := by decide +kernel
theorem vr_X3_take : xokR xT xlds xexs rX3_take := ⟨by decide +kernel, by decide +kernel, fun b hb => List.all_eq_true.1 vb_X3_take b hb, fun q hq => List.all_eq_true.1 vp_X3 q hq⟩
set_option maxRecDepth 100000 in
theorem vb_X3_takeNumber : (bX3_takeNumber.all fun b => xokB yX3_takeNumber.cls (decide (yX3_takeNumber.name = "<init>")) cX3_takeNumber 4 (some .int) pX3 xlds xexs b.2.2.2 b.1 b.2.2.1) = true := by decide +kernel
theorem vr_X3_takeNumber : xokR xT xlds xexs rX3_takeNumber := ⟨by decide +kernel, by decide +kernel, fun b hb => List.all_eq_true.1 vb_X3_takeNumber b hb, fun q hq => List.all_eq_true.1 vp_X3 q hq⟩
set_option maxRecDepth 100000 in
theorem vb_X3_fail : (bX3_fail.all fun b => xokB yX3_fail.cls (decide (yX3_fail.name = "<init>")) cX3_fail 2 (some .boolean) pX3 xlds xexs b.2.2.2 b.1 b.2.2.1) = true := by decide +kernel
theorem vr_X3_fail : xokR xT xlds xexs rX3_fail := ⟨by decide +kernel, by decide +kernel, fun b hb => List.all_eq_true.1 vb_X3_fail b hb, fun q hq => List.all_eq_true.1 vp_X3 q hq⟩
