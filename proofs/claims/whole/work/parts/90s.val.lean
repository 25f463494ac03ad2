/-! THE TABLE HOLDS: rows against the bytes; written by wip/whole/genval.py. -/
set_option maxRecDepth 100000 in
theorem vb_X11_init : (bX11_init.all fun b => xokB yX11_init.cls (decide (yX11_init.name = "<init>")) cX11_init 2 none pX11 xlds xexs b.2.2.2 b.1 b.2.2.1) = true := by decide +kernel
theorem vr_X11_init : xokR xT xlds xexs rX11_init := ⟨by decide +kernel, fun b hb => List.all_eq_true.1 vb_X11_init b hb, fun q hq => List.all_eq_true.1 vp_X11 q hq⟩
set_option maxRecDepth 100000 in
theorem vb_X11_thrown : (bX11_thrown.all fun b => xokB yX11_thrown.cls (decide (yX11_thrown.name = "<init>")) cX11_thrown 1 (some .int) pX11 xlds xexs b.2.2.2 b.1 b.2.2.1) = true := by decide +kernel
theorem vr_X11_thrown : xokR xT xlds xexs rX11_thrown := ⟨by decide +kernel, fun b hb => List.all_eq_true.1 vb_X11_thrown b hb, fun q hq => List.all_eq_true.1 vp_X11 q hq⟩
set_option maxRecDepth 100000 in
theorem vb_X11_isIn : (bX11_isIn.all fun b => xokB yX11_isIn.cls (decide (yX11_isIn.name = "<init>")) cX11_isIn 3 (some .boolean) pX11 xlds xexs b.2.2.2 b.1 b.2.2.1) = true := by decide +kernel
theorem vr_X11_isIn : xokR xT xlds xexs rX11_isIn := ⟨by decide +kernel, fun b hb => List.all_eq_true.1 vb_X11_isIn b hb, fun q hq => List.all_eq_true.1 vp_X11 q hq⟩
set_option maxRecDepth 100000 in
theorem vb_X11_get : (bX11_get.all fun b => xokB yX11_get.cls (decide (yX11_get.name = "<init>")) cX11_get 2 (some .int) pX11 xlds xexs b.2.2.2 b.1 b.2.2.1) = true := by decide +kernel
theorem vr_X11_get : xokR xT xlds xexs rX11_get := ⟨by decide +kernel, fun b hb => List.all_eq_true.1 vb_X11_get b hb, fun q hq => List.all_eq_true.1 vp_X11 q hq⟩
set_option maxRecDepth 100000 in
theorem vb_X11_put : (bX11_put.all fun b => xokB yX11_put.cls (decide (yX11_put.name = "<init>")) cX11_put 3 none pX11 xlds xexs b.2.2.2 b.1 b.2.2.1) = true := by decide +kernel
theorem vr_X11_put : xokR xT xlds xexs rX11_put := ⟨by decide +kernel, fun b hb => List.all_eq_true.1 vb_X11_put b hb, fun q hq => List.all_eq_true.1 vp_X11 q hq⟩
set_option maxRecDepth 100000 in
theorem vb_X11_change : (bX11_change.all fun b => xokB yX11_change.cls (decide (yX11_change.name = "<init>")) cX11_change 3 none pX11 xlds xexs b.2.2.2 b.1 b.2.2.1) = true := by decide +kernel
theorem vr_X11_change : xokR xT xlds xexs rX11_change := ⟨by decide +kernel, fun b hb => List.all_eq_true.1 vb_X11_change b hb, fun q hq => List.all_eq_true.1 vp_X11 q hq⟩
set_option maxRecDepth 100000 in
theorem vb_X11_right : (bX11_right.all fun b => xokB yX11_right.cls (decide (yX11_right.name = "<init>")) cX11_right 3 (some .boolean) pX11 xlds xexs b.2.2.2 b.1 b.2.2.1) = true := by decide +kernel
theorem vr_X11_right : xokR xT xlds xexs rX11_right := ⟨by decide +kernel, fun b hb => List.all_eq_true.1 vb_X11_right b hb, fun q hq => List.all_eq_true.1 vp_X11 q hq⟩
set_option maxRecDepth 100000 in
theorem vb_X11_begins : (bX11_begins.all fun b => xokB yX11_begins.cls (decide (yX11_begins.name = "<init>")) cX11_begins 3 none pX11 xlds xexs b.2.2.2 b.1 b.2.2.1) = true := by decide +kernel
theorem vr_X11_begins : xokR xT xlds xexs rX11_begins := ⟨by decide +kernel, fun b hb => List.all_eq_true.1 vb_X11_begins b hb, fun q hq => List.all_eq_true.1 vp_X11 q hq⟩
set_option maxRecDepth 100000 in
theorem vb_X11_shells : (bX11_shells.all fun b => xokB yX11_shells.cls (decide (yX11_shells.name = "<init>")) cX11_shells 1 (some .int) pX11 xlds xexs b.2.2.2 b.1 b.2.2.1) = true := by decide +kernel
theorem vr_X11_shells : xokR xT xlds xexs rX11_shells := ⟨by decide +kernel, fun b hb => List.all_eq_true.1 vb_X11_shells b hb, fun q hq => List.all_eq_true.1 vp_X11 q hq⟩
set_option maxRecDepth 100000 in
theorem vb_X11_blinksAt : (bX11_blinksAt.all fun b => xokB yX11_blinksAt.cls (decide (yX11_blinksAt.name = "<init>")) cX11_blinksAt 3 (some .boolean) pX11 xlds xexs b.2.2.2 b.1 b.2.2.1) = true := by decide +kernel
theorem vr_X11_blinksAt : xokR xT xlds xexs rX11_blinksAt := ⟨by decide +kernel, fun b hb => List.all_eq_true.1 vb_X11_blinksAt b hb, fun q hq => List.all_eq_true.1 vp_X11 q hq⟩
set_option maxRecDepth 100000 in
theorem vb_X11_blinksNow : (bX11_blinksNow.all fun b => xokB yX11_blinksNow.cls (decide (yX11_blinksNow.name = "<init>")) cX11_blinksNow 1 (some .boolean) pX11 xlds xexs b.2.2.2 b.1 b.2.2.1) = true := by decide +kernel
theorem vr_X11_blinksNow : xokR xT xlds xexs rX11_blinksNow := ⟨by decide +kernel, fun b hb => List.all_eq_true.1 vb_X11_blinksNow b hb, fun q hq => List.all_eq_true.1 vp_X11 q hq⟩
set_option maxRecDepth 100000 in
theorem vb_X11_rough : (bX11_rough.all fun b => xokB yX11_rough.cls (decide (yX11_rough.name = "<init>")) cX11_rough 3 (some .int) pX11 xlds xexs b.2.2.2 b.1 b.2.2.1) = true := by decide +kernel
theorem vr_X11_rough : xokR xT xlds xexs rX11_rough := ⟨by decide +kernel, fun b hb => List.all_eq_true.1 vb_X11_rough b hb, fun q hq => List.all_eq_true.1 vp_X11 q hq⟩
set_option maxRecDepth 100000 in
theorem vb_X11_exchanged : (bX11_exchanged.all fun b => xokB yX11_exchanged.cls (decide (yX11_exchanged.name = "<init>")) cX11_exchanged 3 (some .int) pX11 xlds xexs b.2.2.2 b.1 b.2.2.1) = true := by decide +kernel
theorem vr_X11_exchanged : xokR xT xlds xexs rX11_exchanged := ⟨by decide +kernel, fun b hb => List.all_eq_true.1 vb_X11_exchanged b hb, fun q hq => List.all_eq_true.1 vp_X11 q hq⟩
set_option maxRecDepth 100000 in
theorem vb_X11_had : (bX11_had.all fun b => xokB yX11_had.cls (decide (yX11_had.name = "<init>")) cX11_had 2 (some .long) pX11 xlds xexs b.2.2.2 b.1 b.2.2.1) = true := by decide +kernel
theorem vr_X11_had : xokR xT xlds xexs rX11_had := ⟨by decide +kernel, fun b hb => List.all_eq_true.1 vb_X11_had b hb, fun q hq => List.all_eq_true.1 vp_X11 q hq⟩
set_option maxRecDepth 100000 in
theorem vb_X11_stays : (bX11_stays.all fun b => xokB yX11_stays.cls (decide (yX11_stays.name = "<init>")) cX11_stays 4 none pX11 xlds xexs b.2.2.2 b.1 b.2.2.1) = true := by decide +kernel
theorem vr_X11_stays : xokR xT xlds xexs rX11_stays := ⟨by decide +kernel, fun b hb => List.all_eq_true.1 vb_X11_stays b hb, fun q hq => List.all_eq_true.1 vp_X11 q hq⟩
set_option maxRecDepth 100000 in
theorem vb_X11_seen : (bX11_seen.all fun b => xokB yX11_seen.cls (decide (yX11_seen.name = "<init>")) cX11_seen 10 none pX11 xlds xexs b.2.2.2 b.1 b.2.2.1) = true := by decide +kernel
theorem vr_X11_seen : xokR xT xlds xexs rX11_seen := ⟨by decide +kernel, fun b hb => List.all_eq_true.1 vb_X11_seen b hb, fun q hq => List.all_eq_true.1 vp_X11 q hq⟩
set_option maxRecDepth 100000 in
theorem vb_X11_unseen : (bX11_unseen.all fun b => xokB yX11_unseen.cls (decide (yX11_unseen.name = "<init>")) cX11_unseen 9 none pX11 xlds xexs b.2.2.2 b.1 b.2.2.1) = true := by decide +kernel
theorem vr_X11_unseen : xokR xT xlds xexs rX11_unseen := ⟨by decide +kernel, fun b hb => List.all_eq_true.1 vb_X11_unseen b hb, fun q hq => List.all_eq_true.1 vp_X11 q hq⟩
set_option maxRecDepth 100000 in
theorem vb_X11_common : (bX11_common.all fun b => xokB yX11_common.cls (decide (yX11_common.name = "<init>")) cX11_common 10 (some .long) pX11 xlds xexs b.2.2.2 b.1 b.2.2.1) = true := by decide +kernel
theorem vr_X11_common : xokR xT xlds xexs rX11_common := ⟨by decide +kernel, fun b hb => List.all_eq_true.1 vb_X11_common b hb, fun q hq => List.all_eq_true.1 vp_X11 q hq⟩
set_option maxRecDepth 100000 in
theorem vb_X11_reduces : (bX11_reduces.all fun b => xokB yX11_reduces.cls (decide (yX11_reduces.name = "<init>")) cX11_reduces 6 none pX11 xlds xexs b.2.2.2 b.1 b.2.2.1) = true := by decide +kernel
theorem vr_X11_reduces : xokR xT xlds xexs rX11_reduces := ⟨by decide +kernel, fun b hb => List.all_eq_true.1 vb_X11_reduces b hb, fun q hq => List.all_eq_true.1 vp_X11 q hq⟩
set_option maxRecDepth 100000 in
theorem vb_X11_thinks : (bX11_thinks.all fun b => xokB yX11_thinks.cls (decide (yX11_thinks.name = "<init>")) cX11_thinks 5 none pX11 xlds xexs b.2.2.2 b.1 b.2.2.1) = true := by decide +kernel
theorem vr_X11_thinks : xokR xT xlds xexs rX11_thinks := ⟨by decide +kernel, fun b hb => List.all_eq_true.1 vb_X11_thinks b hb, fun q hq => List.all_eq_true.1 vp_X11 q hq⟩
set_option maxRecDepth 100000 in
theorem vb_X11_believes : (bX11_believes.all fun b => xokB yX11_believes.cls (decide (yX11_believes.name = "<init>")) cX11_believes 2 none pX11 xlds xexs b.2.2.2 b.1 b.2.2.1) = true := by decide +kernel
theorem vr_X11_believes : xokR xT xlds xexs rX11_believes := ⟨by decide +kernel, fun b hb => List.all_eq_true.1 vb_X11_believes b hb, fun q hq => List.all_eq_true.1 vp_X11 q hq⟩
set_option maxRecDepth 100000 in
theorem vb_X11_sum : (bX11_sum.all fun b => xokB yX11_sum.cls (decide (yX11_sum.name = "<init>")) cX11_sum 4 (some .long) pX11 xlds xexs b.2.2.2 b.1 b.2.2.1) = true := by decide +kernel
theorem vr_X11_sum : xokR xT xlds xexs rX11_sum := ⟨by decide +kernel, fun b hb => List.all_eq_true.1 vb_X11_sum b hb, fun q hq => List.all_eq_true.1 vp_X11 q hq⟩
set_option maxRecDepth 100000 in
theorem vb_X11_ballBehind : (bX11_ballBehind.all fun b => xokB yX11_ballBehind.cls (decide (yX11_ballBehind.name = "<init>")) cX11_ballBehind 5 (some .int) pX11 xlds xexs b.2.2.2 b.1 b.2.2.1) = true := by decide +kernel
theorem vr_X11_ballBehind : xokR xT xlds xexs rX11_ballBehind := ⟨by decide +kernel, fun b hb => List.all_eq_true.1 vb_X11_ballBehind b hb, fun q hq => List.all_eq_true.1 vp_X11 q hq⟩
set_option maxRecDepth 100000 in
theorem vb_X11_steps : (bX11_steps.all fun b => xokB yX11_steps.cls (decide (yX11_steps.name = "<init>")) cX11_steps 7 (some .boolean) pX11 xlds xexs b.2.2.2 b.1 b.2.2.1) = true := by decide +kernel
theorem vr_X11_steps : xokR xT xlds xexs rX11_steps := ⟨by decide +kernel, fun b hb => List.all_eq_true.1 vb_X11_steps b hb, fun q hq => List.all_eq_true.1 vp_X11 q hq⟩
set_option maxRecDepth 100000 in
theorem vb_X11_looks : (bX11_looks.all fun b => xokB yX11_looks.cls (decide (yX11_looks.name = "<init>")) cX11_looks 6 (some .boolean) pX11 xlds xexs b.2.2.2 b.1 b.2.2.1) = true := by decide +kernel
theorem vr_X11_looks : xokR xT xlds xexs rX11_looks := ⟨by decide +kernel, fun b hb => List.all_eq_true.1 vb_X11_looks b hb, fun q hq => List.all_eq_true.1 vp_X11 q hq⟩
set_option maxRecDepth 100000 in
theorem vb_X11_canSteal : (bX11_canSteal.all fun b => xokB yX11_canSteal.cls (decide (yX11_canSteal.name = "<init>")) cX11_canSteal 2 (some .boolean) pX11 xlds xexs b.2.2.2 b.1 b.2.2.1) = true := by decide +kernel
theorem vr_X11_canSteal : xokR xT xlds xexs rX11_canSteal := ⟨by decide +kernel, fun b hb => List.all_eq_true.1 vb_X11_canSteal b hb, fun q hq => List.all_eq_true.1 vp_X11 q hq⟩
set_option maxRecDepth 100000 in
theorem vb_X11_canPlant : (bX11_canPlant.all fun b => xokB yX11_canPlant.cls (decide (yX11_canPlant.name = "<init>")) cX11_canPlant 1 (some .boolean) pX11 xlds xexs b.2.2.2 b.1 b.2.2.1) = true := by decide +kernel
theorem vr_X11_canPlant : xokR xT xlds xexs rX11_canPlant := ⟨by decide +kernel, fun b hb => List.all_eq_true.1 vb_X11_canPlant b hb, fun q hq => List.all_eq_true.1 vp_X11 q hq⟩
set_option maxRecDepth 100000 in
theorem vb_X11_factOf : (bX11_factOf.all fun b => xokB yX11_factOf.cls (decide (yX11_factOf.name = "<init>")) cX11_factOf 3 (some .long) pX11 xlds xexs b.2.2.2 b.1 b.2.2.1) = true := by decide +kernel
theorem vr_X11_factOf : xokR xT xlds xexs rX11_factOf := ⟨by decide +kernel, fun b hb => List.all_eq_true.1 vb_X11_factOf b hb, fun q hq => List.all_eq_true.1 vp_X11 q hq⟩
set_option maxRecDepth 100000 in
theorem vb_X11_oddsOf : (bX11_oddsOf.all fun b => xokB yX11_oddsOf.cls (decide (yX11_oddsOf.name = "<init>")) cX11_oddsOf 12 (some .int) pX11 xlds xexs b.2.2.2 b.1 b.2.2.1) = true := by decide +kernel
theorem vr_X11_oddsOf : xokR xT xlds xexs rX11_oddsOf := ⟨by decide +kernel, fun b hb => List.all_eq_true.1 vb_X11_oddsOf b hb, fun q hq => List.all_eq_true.1 vp_X11 q hq⟩
set_option maxRecDepth 100000 in
theorem vb_X11_append : (bX11_append.all fun b => xokB yX11_append.cls (decide (yX11_append.name = "<init>")) cX11_append 6 (some .int) pX11 xlds xexs b.2.2.2 b.1 b.2.2.1) = true := by decide +kernel
theorem vr_X11_append : xokR xT xlds xexs rX11_append := ⟨by decide +kernel, fun b hb => List.all_eq_true.1 vb_X11_append b hb, fun q hq => List.all_eq_true.1 vp_X11 q hq⟩
set_option maxRecDepth 100000 in
theorem vb_X11_four : (bX11_four.all fun b => xokB yX11_four.cls (decide (yX11_four.name = "<init>")) cX11_four 3 none pX11 xlds xexs b.2.2.2 b.1 b.2.2.1) = true := by decide +kernel
theorem vr_X11_four : xokR xT xlds xexs rX11_four := ⟨by decide +kernel, fun b hb => List.all_eq_true.1 vb_X11_four b hb, fun q hq => List.all_eq_true.1 vp_X11 q hq⟩
set_option maxRecDepth 100000 in
theorem vb_X11_errorOffset : (bX11_errorOffset.all fun b => xokB yX11_errorOffset.cls (decide (yX11_errorOffset.name = "<init>")) cX11_errorOffset 1 (some .int) pX11 xlds xexs b.2.2.2 b.1 b.2.2.1) = true := by decide +kernel
theorem vr_X11_errorOffset : xokR xT xlds xexs rX11_errorOffset := ⟨by decide +kernel, fun b hb => List.all_eq_true.1 vb_X11_errorOffset b hb, fun q hq => List.all_eq_true.1 vp_X11 q hq⟩
set_option maxRecDepth 100000 in
theorem vb_X11_fails : (bX11_fails.all fun b => xokB yX11_fails.cls (decide (yX11_fails.name = "<init>")) cX11_fails 3 (some .boolean) pX11 xlds xexs b.2.2.2 b.1 b.2.2.1) = true := by decide +kernel
theorem vr_X11_fails : xokR xT xlds xexs rX11_fails := ⟨by decide +kernel, fun b hb => List.all_eq_true.1 vb_X11_fails b hb, fun q hq => List.all_eq_true.1 vp_X11 q hq⟩
set_option maxRecDepth 100000 in
theorem vb_X11_here : (bX11_here.all fun b => xokB yX11_here.cls (decide (yX11_here.name = "<init>")) cX11_here 1 (some .int) pX11 xlds xexs b.2.2.2 b.1 b.2.2.1) = true := by decide +kernel
theorem vr_X11_here : xokR xT xlds xexs rX11_here := ⟨by decide +kernel, fun b hb => List.all_eq_true.1 vb_X11_here b hb, fun q hq => List.all_eq_true.1 vp_X11 q hq⟩
set_option maxRecDepth 100000 in
theorem vb_X11_isLetter : (bX11_isLetter.all fun b => xokB yX11_isLetter.cls (decide (yX11_isLetter.name = "<init>")) cX11_isLetter 1 (some .boolean) pX11 xlds xexs b.2.2.2 b.1 b.2.2.1) = true := by decide +kernel
theorem vr_X11_isLetter : xokR xT xlds xexs rX11_isLetter := ⟨by decide +kernel, fun b hb => List.all_eq_true.1 vb_X11_isLetter b hb, fun q hq => List.all_eq_true.1 vp_X11 q hq⟩
set_option maxRecDepth 100000 in
theorem vb_X11_isDigit : (bX11_isDigit.all fun b => xokB yX11_isDigit.cls (decide (yX11_isDigit.name = "<init>")) cX11_isDigit 1 (some .boolean) pX11 xlds xexs b.2.2.2 b.1 b.2.2.1) = true := by decide +kernel
theorem vr_X11_isDigit : xokR xT xlds xexs rX11_isDigit := ⟨by decide +kernel, fun b hb => List.all_eq_true.1 vb_X11_isDigit b hb, fun q hq => List.all_eq_true.1 vp_X11 q hq⟩
set_option maxRecDepth 100000 in
theorem vb_X11_takes : (bX11_takes.all fun b => xokB yX11_takes.cls (decide (yX11_takes.name = "<init>")) cX11_takes 4 (some .boolean) pX11 xlds xexs b.2.2.2 b.1 b.2.2.1) = true := by decide +kernel
theorem vr_X11_takes : xokR xT xlds xexs rX11_takes := ⟨by decide +kernel, fun b hb => List.all_eq_true.1 vb_X11_takes b hb, fun q hq => List.all_eq_true.1 vp_X11 q hq⟩
set_option maxRecDepth 100000 in
theorem vb_X11_sign : (bX11_sign.all fun b => xokB yX11_sign.cls (decide (yX11_sign.name = "<init>")) cX11_sign 2 (some .boolean) pX11 xlds xexs b.2.2.2 b.1 b.2.2.1) = true := by decide +kernel
theorem vr_X11_sign : xokR xT xlds xexs rX11_sign := ⟨by decide +kernel, fun b hb => List.all_eq_true.1 vb_X11_sign b hb, fun q hq => List.all_eq_true.1 vp_X11 q hq⟩
set_option maxRecDepth 100000 in
theorem vb_X11_reads : (bX11_reads.all fun b => xokB yX11_reads.cls (decide (yX11_reads.name = "<init>")) cX11_reads 3 (some .boolean) pX11 xlds xexs b.2.2.2 b.1 b.2.2.1) = true := by decide +kernel
theorem vr_X11_reads : xokR xT xlds xexs rX11_reads := ⟨by decide +kernel, fun b hb => List.all_eq_true.1 vb_X11_reads b hb, fun q hq => List.all_eq_true.1 vp_X11 q hq⟩
set_option maxRecDepth 100000 in
theorem vb_X11_emits : (bX11_emits.all fun b => xokB yX11_emits.cls (decide (yX11_emits.name = "<init>")) cX11_emits 4 none pX11 xlds xexs b.2.2.2 b.1 b.2.2.1) = true := by decide +kernel
theorem vr_X11_emits : xokR xT xlds xexs rX11_emits := ⟨by decide +kernel, fun b hb => List.all_eq_true.1 vb_X11_emits b hb, fun q hq => List.all_eq_true.1 vp_X11 q hq⟩
set_option maxRecDepth 100000 in
theorem vb_X11_readsFactor : (bX11_readsFactor.all fun b => xokB yX11_readsFactor.cls (decide (yX11_readsFactor.name = "<init>")) cX11_readsFactor 2 (some .boolean) pX11 xlds xexs b.2.2.2 b.1 b.2.2.1) = true := by decide +kernel
theorem vr_X11_readsFactor : xokR xT xlds xexs rX11_readsFactor := ⟨by decide +kernel, fun b hb => List.all_eq_true.1 vb_X11_readsFactor b hb, fun q hq => List.all_eq_true.1 vp_X11 q hq⟩
set_option maxRecDepth 100000 in
theorem vb_X11_readsTerm : (bX11_readsTerm.all fun b => xokB yX11_readsTerm.cls (decide (yX11_readsTerm.name = "<init>")) cX11_readsTerm 2 (some .boolean) pX11 xlds xexs b.2.2.2 b.1 b.2.2.1) = true := by decide +kernel
theorem vr_X11_readsTerm : xokR xT xlds xexs rX11_readsTerm := ⟨by decide +kernel, fun b hb => List.all_eq_true.1 vb_X11_readsTerm b hb, fun q hq => List.all_eq_true.1 vp_X11 q hq⟩
set_option maxRecDepth 100000 in
theorem vb_X11_readsSum : (bX11_readsSum.all fun b => xokB yX11_readsSum.cls (decide (yX11_readsSum.name = "<init>")) cX11_readsSum 2 (some .boolean) pX11 xlds xexs b.2.2.2 b.1 b.2.2.1) = true := by decide +kernel
theorem vr_X11_readsSum : xokR xT xlds xexs rX11_readsSum := ⟨by decide +kernel, fun b hb => List.all_eq_true.1 vb_X11_readsSum b hb, fun q hq => List.all_eq_true.1 vp_X11 q hq⟩
set_option maxRecDepth 100000 in
theorem vb_X11_once : (bX11_once.all fun b => xokB yX11_once.cls (decide (yX11_once.name = "<init>")) cX11_once 3 (some .boolean) pX11 xlds xexs b.2.2.2 b.1 b.2.2.1) = true := by decide +kernel
theorem vr_X11_once : xokR xT xlds xexs rX11_once := ⟨by decide +kernel, fun b hb => List.all_eq_true.1 vb_X11_once b hb, fun q hq => List.all_eq_true.1 vp_X11 q hq⟩
set_option maxRecDepth 100000 in
theorem vb_X11_readsScratch : (bX11_readsScratch.all fun b => xokB yX11_readsScratch.cls (decide (yX11_readsScratch.name = "<init>")) cX11_readsScratch 1 (some .boolean) pX11 xlds xexs b.2.2.2 b.1 b.2.2.1) = true := by decide +kernel
theorem vr_X11_readsScratch : xokR xT xlds xexs rX11_readsScratch := ⟨by decide +kernel, fun b hb => List.all_eq_true.1 vb_X11_readsScratch b hb, fun q hq => List.all_eq_true.1 vp_X11 q hq⟩
set_option maxRecDepth 100000 in
theorem vb_X11_readsBlink : (bX11_readsBlink.all fun b => xokB yX11_readsBlink.cls (decide (yX11_readsBlink.name = "<init>")) cX11_readsBlink 3 (some .boolean) pX11 xlds xexs b.2.2.2 b.1 b.2.2.1) = true := by decide +kernel
theorem vr_X11_readsBlink : xokR xT xlds xexs rX11_readsBlink := ⟨by decide +kernel, fun b hb => List.all_eq_true.1 vb_X11_readsBlink b hb, fun q hq => List.all_eq_true.1 vp_X11 q hq⟩
set_option maxRecDepth 100000 in
theorem vb_X11_readsOne : (bX11_readsOne.all fun b => xokB yX11_readsOne.cls (decide (yX11_readsOne.name = "<init>")) cX11_readsOne 4 (some .boolean) pX11 xlds xexs b.2.2.2 b.1 b.2.2.1) = true := by decide +kernel
theorem vr_X11_readsOne : xokR xT xlds xexs rX11_readsOne := ⟨by decide +kernel, fun b hb => List.all_eq_true.1 vb_X11_readsOne b hb, fun q hq => List.all_eq_true.1 vp_X11 q hq⟩
set_option maxRecDepth 100000 in
theorem vb_X11_readsStatement : (bX11_readsStatement.all fun b => xokB yX11_readsStatement.cls (decide (yX11_readsStatement.name = "<init>")) cX11_readsStatement 2 (some .boolean) pX11 xlds xexs b.2.2.2 b.1 b.2.2.1) = true := by decide +kernel
theorem vr_X11_readsStatement : xokR xT xlds xexs rX11_readsStatement := ⟨by decide +kernel, fun b hb => List.all_eq_true.1 vb_X11_readsStatement b hb, fun q hq => List.all_eq_true.1 vp_X11 q hq⟩
set_option maxRecDepth 100000 in
theorem vb_X11_readsSetup : (bX11_readsSetup.all fun b => xokB yX11_readsSetup.cls (decide (yX11_readsSetup.name = "<init>")) cX11_readsSetup 1 (some .boolean) pX11 xlds xexs b.2.2.2 b.1 b.2.2.1) = true := by decide +kernel
theorem vr_X11_readsSetup : xokR xT xlds xexs rX11_readsSetup := ⟨by decide +kernel, fun b hb => List.all_eq_true.1 vb_X11_readsSetup b hb, fun q hq => List.all_eq_true.1 vp_X11 q hq⟩
set_option maxRecDepth 100000 in
theorem vb_X11_starts : (bX11_starts.all fun b => xokB yX11_starts.cls (decide (yX11_starts.name = "<init>")) cX11_starts 2 (some .boolean) pX11 xlds xexs b.2.2.2 b.1 b.2.2.1) = true := by decide +kernel
theorem vr_X11_starts : xokR xT xlds xexs rX11_starts := ⟨by decide +kernel, fun b hb => List.all_eq_true.1 vb_X11_starts b hb, fun q hq => List.all_eq_true.1 vp_X11 q hq⟩
set_option maxRecDepth 100000 in
theorem vb_X11_load : (bX11_load.all fun b => xokB yX11_load.cls (decide (yX11_load.name = "<init>")) cX11_load 3 (some .int) pX11 xlds xexs b.2.2.2 b.1 b.2.2.1) = true := by decide +kernel
theorem vr_X11_load : xokR xT xlds xexs rX11_load := ⟨by decide +kernel, fun b hb => List.all_eq_true.1 vb_X11_load b hb, fun q hq => List.all_eq_true.1 vp_X11 q hq⟩
set_option maxRecDepth 100000 in
theorem vb_X11_kindHere : (bX11_kindHere.all fun b => xokB yX11_kindHere.cls (decide (yX11_kindHere.name = "<init>")) cX11_kindHere 1 (some .int) pX11 xlds xexs b.2.2.2 b.1 b.2.2.1) = true := by decide +kernel
theorem vr_X11_kindHere : xokR xT xlds xexs rX11_kindHere := ⟨by decide +kernel, fun b hb => List.all_eq_true.1 vb_X11_kindHere b hb, fun q hq => List.all_eq_true.1 vp_X11 q hq⟩
set_option maxRecDepth 100000 in
theorem vb_X11_readsRepeat : (bX11_readsRepeat.all fun b => xokB yX11_readsRepeat.cls (decide (yX11_readsRepeat.name = "<init>")) cX11_readsRepeat 2 (some .boolean) pX11 xlds xexs b.2.2.2 b.1 b.2.2.1) = true := by decide +kernel
theorem vr_X11_readsRepeat : xokR xT xlds xexs rX11_readsRepeat := ⟨by decide +kernel, fun b hb => List.all_eq_true.1 vb_X11_readsRepeat b hb, fun q hq => List.all_eq_true.1 vp_X11 q hq⟩
set_option maxRecDepth 100000 in
theorem vb_X11_readsCommand : (bX11_readsCommand.all fun b => xokB yX11_readsCommand.cls (decide (yX11_readsCommand.name = "<init>")) cX11_readsCommand 4 (some .boolean) pX11 xlds xexs b.2.2.2 b.1 b.2.2.1) = true := by decide +kernel
theorem vr_X11_readsCommand : xokR xT xlds xexs rX11_readsCommand := ⟨by decide +kernel, fun b hb => List.all_eq_true.1 vb_X11_readsCommand b hb, fun q hq => List.all_eq_true.1 vp_X11 q hq⟩
set_option maxRecDepth 100000 in
theorem vb_X11_readsScript : (bX11_readsScript.all fun b => xokB yX11_readsScript.cls (decide (yX11_readsScript.name = "<init>")) cX11_readsScript 1 (some .boolean) pX11 xlds xexs b.2.2.2 b.1 b.2.2.1) = true := by decide +kernel
theorem vr_X11_readsScript : xokR xT xlds xexs rX11_readsScript := ⟨by decide +kernel, fun b hb => List.all_eq_true.1 vb_X11_readsScript b hb, fun q hq => List.all_eq_true.1 vp_X11 q hq⟩
set_option maxRecDepth 100000 in
theorem vb_X11_isPlace : (bX11_isPlace.all fun b => xokB yX11_isPlace.cls (decide (yX11_isPlace.name = "<init>")) cX11_isPlace 2 (some .boolean) pX11 xlds xexs b.2.2.2 b.1 b.2.2.1) = true := by decide +kernel
theorem vr_X11_isPlace : xokR xT xlds xexs rX11_isPlace := ⟨by decide +kernel, fun b hb => List.all_eq_true.1 vb_X11_isPlace b hb, fun q hq => List.all_eq_true.1 vp_X11 q hq⟩
set_option maxRecDepth 100000 in
theorem vb_X11_does : (bX11_does.all fun b => xokB yX11_does.cls (decide (yX11_does.name = "<init>")) cX11_does 3 (some .boolean) pX11 xlds xexs b.2.2.2 b.1 b.2.2.1) = true := by decide +kernel
theorem vr_X11_does : xokR xT xlds xexs rX11_does := ⟨by decide +kernel, fun b hb => List.all_eq_true.1 vb_X11_does b hb, fun q hq => List.all_eq_true.1 vp_X11 q hq⟩
set_option maxRecDepth 100000 in
theorem vb_X11_runs : (bX11_runs.all fun b => xokB yX11_runs.cls (decide (yX11_runs.name = "<init>")) cX11_runs 5 none pX11 xlds xexs b.2.2.2 b.1 b.2.2.1) = true := by decide +kernel
theorem vr_X11_runs : xokR xT xlds xexs rX11_runs := ⟨by decide +kernel, fun b hb => List.all_eq_true.1 vb_X11_runs b hb, fun q hq => List.all_eq_true.1 vp_X11 q hq⟩
set_option maxRecDepth 100000 in
theorem vb_X11_run : (bX11_run.all fun b => xokB yX11_run.cls (decide (yX11_run.name = "<init>")) cX11_run 3 (some .int) pX11 xlds xexs b.2.2.2 b.1 b.2.2.1) = true := by decide +kernel
theorem vr_X11_run : xokR xT xlds xexs rX11_run := ⟨by decide +kernel, fun b hb => List.all_eq_true.1 vb_X11_run b hb, fun q hq => List.all_eq_true.1 vp_X11 q hq⟩
set_option maxRecDepth 100000 in
theorem vb_X11_believed : (bX11_believed.all fun b => xokB yX11_believed.cls (decide (yX11_believed.name = "<init>")) cX11_believed 3 (some .int) pX11 xlds xexs b.2.2.2 b.1 b.2.2.1) = true := by decide +kernel
theorem vr_X11_believed : xokR xT xlds xexs rX11_believed := ⟨by decide +kernel, fun b hb => List.all_eq_true.1 vb_X11_believed b hb, fun q hq => List.all_eq_true.1 vp_X11 q hq⟩
set_option maxRecDepth 100000 in
theorem vb_X11_toldOf : (bX11_toldOf.all fun b => xokB yX11_toldOf.cls (decide (yX11_toldOf.name = "<init>")) cX11_toldOf 2 (some .int) pX11 xlds xexs b.2.2.2 b.1 b.2.2.1) = true := by decide +kernel
theorem vr_X11_toldOf : xokR xT xlds xexs rX11_toldOf := ⟨by decide +kernel, fun b hb => List.all_eq_true.1 vb_X11_toldOf b hb, fun q hq => List.all_eq_true.1 vp_X11 q hq⟩
set_option maxRecDepth 100000 in
theorem vb_X11_toldOfShell : (bX11_toldOfShell.all fun b => xokB yX11_toldOfShell.cls (decide (yX11_toldOfShell.name = "<init>")) cX11_toldOfShell 4 (some .int) pX11 xlds xexs b.2.2.2 b.1 b.2.2.1) = true := by decide +kernel
theorem vr_X11_toldOfShell : xokR xT xlds xexs rX11_toldOfShell := ⟨by decide +kernel, fun b hb => List.all_eq_true.1 vb_X11_toldOfShell b hb, fun q hq => List.all_eq_true.1 vp_X11 q hq⟩
set_option maxRecDepth 100000 in
theorem vb_X11_state : (bX11_state.all fun b => xokB yX11_state.cls (decide (yX11_state.name = "<init>")) cX11_state 2 (some .int) pX11 xlds xexs b.2.2.2 b.1 b.2.2.1) = true := by decide +kernel
theorem vr_X11_state : xokR xT xlds xexs rX11_state := ⟨by decide +kernel, fun b hb => List.all_eq_true.1 vb_X11_state b hb, fun q hq => List.all_eq_true.1 vp_X11 q hq⟩
set_option maxRecDepth 100000 in
theorem vb_X11_shell : (bX11_shell.all fun b => xokB yX11_shell.cls (decide (yX11_shell.name = "<init>")) cX11_shell 3 (some .int) pX11 xlds xexs b.2.2.2 b.1 b.2.2.1) = true := by decide +kernel
theorem vr_X11_shell : xokR xT xlds xexs rX11_shell := ⟨by decide +kernel, fun b hb => List.all_eq_true.1 vb_X11_shell b hb, fun q hq => List.all_eq_true.1 vp_X11 q hq⟩
set_option maxRecDepth 100000 in
theorem vb_X11_belief : (bX11_belief.all fun b => xokB yX11_belief.cls (decide (yX11_belief.name = "<init>")) cX11_belief 2 (some .int) pX11 xlds xexs b.2.2.2 b.1 b.2.2.1) = true := by decide +kernel
theorem vr_X11_belief : xokR xT xlds xexs rX11_belief := ⟨by decide +kernel, fun b hb => List.all_eq_true.1 vb_X11_belief b hb, fun q hq => List.all_eq_true.1 vp_X11 q hq⟩
set_option maxRecDepth 100000 in
theorem vb_X11_chance : (bX11_chance.all fun b => xokB yX11_chance.cls (decide (yX11_chance.name = "<init>")) cX11_chance 2 (some .double) pX11 xlds xexs b.2.2.2 b.1 b.2.2.1) = true := by decide +kernel
theorem vr_X11_chance : xokR xT xlds xexs rX11_chance := ⟨by decide +kernel, fun b hb => List.all_eq_true.1 vb_X11_chance b hb, fun q hq => List.all_eq_true.1 vp_X11 q hq⟩
set_option maxRecDepth 100000 in
theorem vb_X11_doubt : (bX11_doubt.all fun b => xokB yX11_doubt.cls (decide (yX11_doubt.name = "<init>")) cX11_doubt 4 (some .float) pX11 xlds xexs b.2.2.2 b.1 b.2.2.1) = true := by decide +kernel
theorem vr_X11_doubt : xokR xT xlds xexs rX11_doubt := ⟨by decide +kernel, fun b hb => List.all_eq_true.1 vb_X11_doubt b hb, fun q hq => List.all_eq_true.1 vp_X11 q hq⟩
set_option maxRecDepth 100000 in
theorem vb_X11_guessed : (bX11_guessed.all fun b => xokB yX11_guessed.cls (decide (yX11_guessed.name = "<init>")) cX11_guessed 3 (some .int) pX11 xlds xexs b.2.2.2 b.1 b.2.2.1) = true := by decide +kernel
theorem vr_X11_guessed : xokR xT xlds xexs rX11_guessed := ⟨by decide +kernel, fun b hb => List.all_eq_true.1 vb_X11_guessed b hb, fun q hq => List.all_eq_true.1 vp_X11 q hq⟩
set_option maxRecDepth 100000 in
theorem vb_X11_guess : (bX11_guess.all fun b => xokB yX11_guess.cls (decide (yX11_guess.name = "<init>")) cX11_guess 1 (some .int) pX11 xlds xexs b.2.2.2 b.1 b.2.2.1) = true := by decide +kernel
theorem vr_X11_guess : xokR xT xlds xexs rX11_guess := ⟨by decide +kernel, fun b hb => List.all_eq_true.1 vb_X11_guess b hb, fun q hq => List.all_eq_true.1 vp_X11 q hq⟩
set_option maxRecDepth 100000 in
theorem vb_X11_blinks : (bX11_blinks.all fun b => xokB yX11_blinks.cls (decide (yX11_blinks.name = "<init>")) cX11_blinks 2 (some .boolean) pX11 xlds xexs b.2.2.2 b.1 b.2.2.1) = true := by decide +kernel
theorem vr_X11_blinks : xokR xT xlds xexs rX11_blinks := ⟨by decide +kernel, fun b hb => List.all_eq_true.1 vb_X11_blinks b hb, fun q hq => List.all_eq_true.1 vp_X11 q hq⟩
set_option maxRecDepth 100000 in
theorem vb_X11_odds : (bX11_odds.all fun b => xokB yX11_odds.cls (decide (yX11_odds.name = "<init>")) cX11_odds 2 (some .int) pX11 xlds xexs b.2.2.2 b.1 b.2.2.1) = true := by decide +kernel
theorem vr_X11_odds : xokR xT xlds xexs rX11_odds := ⟨by decide +kernel, fun b hb => List.all_eq_true.1 vb_X11_odds b hb, fun q hq => List.all_eq_true.1 vp_X11 q hq⟩
set_option maxRecDepth 100000 in
theorem vb_X11_fewest : (bX11_fewest.all fun b => xokB yX11_fewest.cls (decide (yX11_fewest.name = "<init>")) cX11_fewest 5 (some .int) pX11 xlds xexs b.2.2.2 b.1 b.2.2.1) = true := by decide +kernel
theorem vr_X11_fewest : xokR xT xlds xexs rX11_fewest := ⟨by decide +kernel, fun b hb => List.all_eq_true.1 vb_X11_fewest b hb, fun q hq => List.all_eq_true.1 vp_X11 q hq⟩
set_option maxRecDepth 100000 in
theorem vb_X11_rows : (bX11_rows.all fun b => xokB yX11_rows.cls (decide (yX11_rows.name = "<init>")) cX11_rows 4 (some .int) pX11 xlds xexs b.2.2.2 b.1 b.2.2.1) = true := by decide +kernel
theorem vr_X11_rows : xokR xT xlds xexs rX11_rows := ⟨by decide +kernel, fun b hb => List.all_eq_true.1 vb_X11_rows b hb, fun q hq => List.all_eq_true.1 vp_X11 q hq⟩
set_option maxRecDepth 100000 in
theorem vb_X11_fools : (bX11_fools.all fun b => xokB yX11_fools.cls (decide (yX11_fools.name = "<init>")) cX11_fools 4 none pX11 xlds xexs b.2.2.2 b.1 b.2.2.1) = true := by decide +kernel
theorem vr_X11_fools : xokR xT xlds xexs rX11_fools := ⟨by decide +kernel, fun b hb => List.all_eq_true.1 vb_X11_fools b hb, fun q hq => List.all_eq_true.1 vp_X11 q hq⟩
set_option maxRecDepth 100000 in
theorem vb_X11_tries : (bX11_tries.all fun b => xokB yX11_tries.cls (decide (yX11_tries.name = "<init>")) cX11_tries 9 none pX11 xlds xexs b.2.2.2 b.1 b.2.2.1) = true := by decide +kernel
theorem vr_X11_tries : xokR xT xlds xexs rX11_tries := ⟨by decide +kernel, fun b hb => List.all_eq_true.1 vb_X11_tries b hb, fun q hq => List.all_eq_true.1 vp_X11 q hq⟩
set_option maxRecDepth 100000 in
theorem vb_X11_fool : (bX11_fool.all fun b => xokB yX11_fool.cls (decide (yX11_fool.name = "<init>")) cX11_fool 2 (some .int) pX11 xlds xexs b.2.2.2 b.1 b.2.2.1) = true := by decide +kernel
theorem vr_X11_fool : xokR xT xlds xexs rX11_fool := ⟨by decide +kernel, fun b hb => List.all_eq_true.1 vb_X11_fool b hb, fun q hq => List.all_eq_true.1 vp_X11 q hq⟩
set_option maxRecDepth 100000 in
theorem vb_X11_caught : (bX11_caught.all fun b => xokB yX11_caught.cls (decide (yX11_caught.name = "<init>")) cX11_caught 6 (some .int) pX11 xlds xexs b.2.2.2 b.1 b.2.2.1) = true := by decide +kernel
theorem vr_X11_caught : xokR xT xlds xexs rX11_caught := ⟨by decide +kernel, fun b hb => List.all_eq_true.1 vb_X11_caught b hb, fun q hq => List.all_eq_true.1 vp_X11 q hq⟩
set_option maxRecDepth 100000 in
theorem vb_X11_areTwo : (bX11_areTwo.all fun b => xokB yX11_areTwo.cls (decide (yX11_areTwo.name = "<init>")) cX11_areTwo 3 (some .boolean) pX11 xlds xexs b.2.2.2 b.1 b.2.2.1) = true := by decide +kernel
theorem vr_X11_areTwo : xokR xT xlds xexs rX11_areTwo := ⟨by decide +kernel, fun b hb => List.all_eq_true.1 vb_X11_areTwo b hb, fun q hq => List.all_eq_true.1 vp_X11 q hq⟩
set_option maxRecDepth 100000 in
theorem vb_X11_swap : (bX11_swap.all fun b => xokB yX11_swap.cls (decide (yX11_swap.name = "<init>")) cX11_swap 3 (some .boolean) pX11 xlds xexs b.2.2.2 b.1 b.2.2.1) = true := by decide +kernel
theorem vr_X11_swap : xokR xT xlds xexs rX11_swap := ⟨by decide +kernel, fun b hb => List.all_eq_true.1 vb_X11_swap b hb, fun q hq => List.all_eq_true.1 vp_X11 q hq⟩
set_option maxRecDepth 100000 in
theorem vb_X11_feint : (bX11_feint.all fun b => xokB yX11_feint.cls (decide (yX11_feint.name = "<init>")) cX11_feint 3 (some .boolean) pX11 xlds xexs b.2.2.2 b.1 b.2.2.1) = true := by decide +kernel
theorem vr_X11_feint : xokR xT xlds xexs rX11_feint := ⟨by decide +kernel, fun b hb => List.all_eq_true.1 vb_X11_feint b hb, fun q hq => List.all_eq_true.1 vp_X11 q hq⟩
set_option maxRecDepth 100000 in
theorem vb_X11_rest : (bX11_rest.all fun b => xokB yX11_rest.cls (decide (yX11_rest.name = "<init>")) cX11_rest 1 (some .boolean) pX11 xlds xexs b.2.2.2 b.1 b.2.2.1) = true := by decide +kernel
theorem vr_X11_rest : xokR xT xlds xexs rX11_rest := ⟨by decide +kernel, fun b hb => List.all_eq_true.1 vb_X11_rest b hb, fun q hq => List.all_eq_true.1 vp_X11 q hq⟩
set_option maxRecDepth 100000 in
theorem vb_X11_steal : (bX11_steal.all fun b => xokB yX11_steal.cls (decide (yX11_steal.name = "<init>")) cX11_steal 3 (some .int) pX11 xlds xexs b.2.2.2 b.1 b.2.2.1) = true := by decide +kernel
theorem vr_X11_steal : xokR xT xlds xexs rX11_steal := ⟨by decide +kernel, fun b hb => List.all_eq_true.1 vb_X11_steal b hb, fun q hq => List.all_eq_true.1 vp_X11 q hq⟩
set_option maxRecDepth 100000 in
theorem vb_X11_plant : (bX11_plant.all fun b => xokB yX11_plant.cls (decide (yX11_plant.name = "<init>")) cX11_plant 3 (some .int) pX11 xlds xexs b.2.2.2 b.1 b.2.2.1) = true := by decide +kernel
theorem vr_X11_plant : xokR xT xlds xexs rX11_plant := ⟨by decide +kernel, fun b hb => List.all_eq_true.1 vb_X11_plant b hb, fun q hq => List.all_eq_true.1 vp_X11 q hq⟩
set_option maxRecDepth 100000 in
theorem vb_X11_peek : (bX11_peek.all fun b => xokB yX11_peek.cls (decide (yX11_peek.name = "<init>")) cX11_peek 2 (some .boolean) pX11 xlds xexs b.2.2.2 b.1 b.2.2.1) = true := by decide +kernel
theorem vr_X11_peek : xokR xT xlds xexs rX11_peek := ⟨by decide +kernel, fun b hb => List.all_eq_true.1 vb_X11_peek b hb, fun q hq => List.all_eq_true.1 vp_X11 q hq⟩
set_option maxRecDepth 100000 in
theorem vb_X11_bet : (bX11_bet.all fun b => xokB yX11_bet.cls (decide (yX11_bet.name = "<init>")) cX11_bet 6 (some .int) pX11 xlds xexs b.2.2.2 b.1 b.2.2.1) = true := by decide +kernel
theorem vr_X11_bet : xokR xT xlds xexs rX11_bet := ⟨by decide +kernel, fun b hb => List.all_eq_true.1 vb_X11_bet b hb, fun q hq => List.all_eq_true.1 vp_X11 q hq⟩
set_option maxRecDepth 100000 in
theorem vb_X11_scratch : (bX11_scratch.all fun b => xokB yX11_scratch.cls (decide (yX11_scratch.name = "<init>")) cX11_scratch 5 (some .boolean) pX11 xlds xexs b.2.2.2 b.1 b.2.2.1) = true := by decide +kernel
theorem vr_X11_scratch : xokR xT xlds xexs rX11_scratch := ⟨by decide +kernel, fun b hb => List.all_eq_true.1 vb_X11_scratch b hb, fun q hq => List.all_eq_true.1 vp_X11 q hq⟩
set_option maxRecDepth 100000 in
theorem vb_X11_blink : (bX11_blink.all fun b => xokB yX11_blink.cls (decide (yX11_blink.name = "<init>")) cX11_blink 4 (some .int) pX11 xlds xexs b.2.2.2 b.1 b.2.2.1) = true := by decide +kernel
theorem vr_X11_blink : xokR xT xlds xexs rX11_blink := ⟨by decide +kernel, fun b hb => List.all_eq_true.1 vb_X11_blink b hb, fun q hq => List.all_eq_true.1 vp_X11 q hq⟩
set_option maxRecDepth 100000 in
theorem vb_X11_suspect : (bX11_suspect.all fun b => xokB yX11_suspect.cls (decide (yX11_suspect.name = "<init>")) cX11_suspect 5 (some .int) pX11 xlds xexs b.2.2.2 b.1 b.2.2.1) = true := by decide +kernel
theorem vr_X11_suspect : xokR xT xlds xexs rX11_suspect := ⟨by decide +kernel, fun b hb => List.all_eq_true.1 vb_X11_suspect b hb, fun q hq => List.all_eq_true.1 vp_X11 q hq⟩
set_option maxRecDepth 100000 in
theorem vb_X11_undo : (bX11_undo.all fun b => xokB yX11_undo.cls (decide (yX11_undo.name = "<init>")) cX11_undo 1 (some .int) pX11 xlds xexs b.2.2.2 b.1 b.2.2.1) = true := by decide +kernel
theorem vr_X11_undo : xokR xT xlds xexs rX11_undo := ⟨by decide +kernel, fun b hb => List.all_eq_true.1 vb_X11_undo b hb, fun q hq => List.all_eq_true.1 vp_X11 q hq⟩
set_option maxRecDepth 100000 in
theorem vb_X11_joins : (bX11_joins.all fun b => xokB yX11_joins.cls (decide (yX11_joins.name = "<init>")) cX11_joins 4 (some .long) pX11 xlds xexs b.2.2.2 b.1 b.2.2.1) = true := by decide +kernel
theorem vr_X11_joins : xokR xT xlds xexs rX11_joins := ⟨by decide +kernel, fun b hb => List.all_eq_true.1 vb_X11_joins b hb, fun q hq => List.all_eq_true.1 vp_X11 q hq⟩
set_option maxRecDepth 100000 in
theorem vb_X11_checksum : (bX11_checksum.all fun b => xokB yX11_checksum.cls (decide (yX11_checksum.name = "<init>")) cX11_checksum 5 (some .long) pX11 xlds xexs b.2.2.2 b.1 b.2.2.1) = true := by decide +kernel
theorem vr_X11_checksum : xokR xT xlds xexs rX11_checksum := ⟨by decide +kernel, fun b hb => List.all_eq_true.1 vb_X11_checksum b hb, fun q hq => List.all_eq_true.1 vp_X11 q hq⟩
set_option maxRecDepth 100000 in
theorem vb_J0_length_8abf5 : (bJ0_length_8abf5.all fun b => xokB yJ0_length_8abf5.cls (decide (yJ0_length_8abf5.name = "<init>")) cJ0_length_8abf5 1 (some .int) pJ0 xlds xexs b.2.2.2 b.1 b.2.2.1) = true := by decide +kernel
theorem vr_J0_length_8abf5 : xokR xT xlds xexs rJ0_length_8abf5 := ⟨by decide +kernel, fun b hb => List.all_eq_true.1 vb_J0_length_8abf5 b hb, fun q hq => List.all_eq_true.1 vp_J0 q hq⟩
set_option maxRecDepth 100000 in
theorem vb_J0_charAt_5068e : (bJ0_charAt_5068e.all fun b => xokB yJ0_charAt_5068e.cls (decide (yJ0_charAt_5068e.name = "<init>")) cJ0_charAt_5068e 2 (some .char) pJ0 xlds xexs b.2.2.2 b.1 b.2.2.1) = true := by decide +kernel
theorem vr_J0_charAt_5068e : xokR xT xlds xexs rJ0_charAt_5068e := ⟨by decide +kernel, fun b hb => List.all_eq_true.1 vb_J0_charAt_5068e b hb, fun q hq => List.all_eq_true.1 vp_J0 q hq⟩
set_option maxRecDepth 100000 in
theorem vb_J0_coder_7d493 : (bJ0_coder_7d493.all fun b => xokB yJ0_coder_7d493.cls (decide (yJ0_coder_7d493.name = "<init>")) cJ0_coder_7d493 1 (some .byte) pJ0 xlds xexs b.2.2.2 b.1 b.2.2.1) = true := by decide +kernel
theorem vr_J0_coder_7d493 : xokR xT xlds xexs rJ0_coder_7d493 := ⟨by decide +kernel, fun b hb => List.all_eq_true.1 vb_J0_coder_7d493 b hb, fun q hq => List.all_eq_true.1 vp_J0 q hq⟩
set_option maxRecDepth 100000 in
theorem vb_J0_isLatin1_aae02 : (bJ0_isLatin1_aae02.all fun b => xokB yJ0_isLatin1_aae02.cls (decide (yJ0_isLatin1_aae02.name = "<init>")) cJ0_isLatin1_aae02 1 (some .boolean) pJ0 xlds xexs b.2.2.2 b.1 b.2.2.1) = true := by decide +kernel
theorem vr_J0_isLatin1_aae02 : xokR xT xlds xexs rJ0_isLatin1_aae02 := ⟨by decide +kernel, fun b hb => List.all_eq_true.1 vb_J0_isLatin1_aae02 b hb, fun q hq => List.all_eq_true.1 vp_J0 q hq⟩
set_option maxRecDepth 100000 in
theorem vb_J0_checkIndex_df160 : (bJ0_checkIndex_df160.all fun b => xokB yJ0_checkIndex_df160.cls (decide (yJ0_checkIndex_df160.name = "<init>")) cJ0_checkIndex_df160 2 none pJ0 xlds xexs b.2.2.2 b.1 b.2.2.1) = true := by decide +kernel
theorem vr_J0_checkIndex_df160 : xokR xT xlds xexs rJ0_checkIndex_df160 := ⟨by decide +kernel, fun b hb => List.all_eq_true.1 vb_J0_checkIndex_df160 b hb, fun q hq => List.all_eq_true.1 vp_J0 q hq⟩
set_option maxRecDepth 100000 in
theorem vb_J1_charAt_3b067 : (bJ1_charAt_3b067.all fun b => xokB yJ1_charAt_3b067.cls (decide (yJ1_charAt_3b067.name = "<init>")) cJ1_charAt_3b067 2 (some .char) pJ1 xlds xexs b.2.2.2 b.1 b.2.2.1) = true := by decide +kernel
theorem vr_J1_charAt_3b067 : xokR xT xlds xexs rJ1_charAt_3b067 := ⟨by decide +kernel, fun b hb => List.all_eq_true.1 vb_J1_charAt_3b067 b hb, fun q hq => List.all_eq_true.1 vp_J1 q hq⟩
set_option maxRecDepth 100000 in
theorem vb_J3_checkIndex_8e157 : (bJ3_checkIndex_8e157.all fun b => xokB yJ3_checkIndex_8e157.cls (decide (yJ3_checkIndex_8e157.name = "<init>")) cJ3_checkIndex_8e157 3 (some .int) pJ3 xlds xexs b.2.2.2 b.1 b.2.2.1) = true := by decide +kernel
theorem vr_J3_checkIndex_8e157 : xokR xT xlds xexs rJ3_checkIndex_8e157 := ⟨by decide +kernel, fun b hb => List.all_eq_true.1 vb_J3_checkIndex_8e157 b hb, fun q hq => List.all_eq_true.1 vp_J3 q hq⟩
set_option maxRecDepth 100000 in
theorem vb_J7_fill_53178 : (bJ7_fill_53178.all fun b => xokB yJ7_fill_53178.cls (decide (yJ7_fill_53178.name = "<init>")) cJ7_fill_53178 4 none pJ7 xlds xexs b.2.2.2 b.1 b.2.2.1) = true := by decide +kernel
theorem vr_J7_fill_53178 : xokR xT xlds xexs rJ7_fill_53178 := ⟨by decide +kernel, fun b hb => List.all_eq_true.1 vb_J7_fill_53178 b hb, fun q hq => List.all_eq_true.1 vp_J7 q hq⟩
theorem xal_nil {p : xRow → Prop} : ∀ r ∈ ([] : List xRow), p r := fun _ h => absurd h List.not_mem_nil
theorem xal_cons {p : xRow → Prop} {a : xRow} {l : List xRow} (h : p a) (hl : ∀ r ∈ l, p r) : ∀ r ∈ a :: l, p r := fun r hr => (List.mem_cons.1 hr).elim (fun e => e ▸ h) (hl r)
theorem xal_0 : ∀ r ∈ [rX0_init, rX0_clear, rX0_copyFrom, rX0_isFull, rX0_tell, rX0_has, rX1_init, rX1_clear, rX1_reset, rX1_copyFrom, rX1_put, rX1_readSum, rX1_readTerm, rX1_readFactor, rX1_variableOf, rX1_value, rX1_result, rX1_variable, rX2_init, rX2_reset], xokR xT xlds xexs r := xal_cons vr_X0_init <| xal_cons vr_X0_clear <| xal_cons vr_X0_copyFrom <| xal_cons vr_X0_isFull <| xal_cons vr_X0_tell <| xal_cons vr_X0_has <| xal_cons vr_X1_init <| xal_cons vr_X1_clear <| xal_cons vr_X1_reset <| xal_cons vr_X1_copyFrom <| xal_cons vr_X1_put <| xal_cons vr_X1_readSum <| xal_cons vr_X1_readTerm <| xal_cons vr_X1_readFactor <| xal_cons vr_X1_variableOf <| xal_cons vr_X1_value <| xal_cons vr_X1_result <| xal_cons vr_X1_variable <| xal_cons vr_X2_init <| xal_cons vr_X2_reset <| xal_nil
theorem xal_1 : ∀ r ∈ [rX2_copyFrom, rX2_number, rX2_isBlinkNext, rX2_canSteal, rX2_canPlant, rX2_makeMove, rX2_makeStill, rX2_countStep, rX2_lookUnder, rX2_playBet, rX3_init, rX3_hasRoom, rX3_putWord, rX3_begin, rX3_kindAt, rX3_addToken, rX3_numberIn, rX3_tokenIn, rX3_isSpelled, rX3_put], xokR xT xlds xexs r := xal_cons vr_X2_copyFrom <| xal_cons vr_X2_number <| xal_cons vr_X2_isBlinkNext <| xal_cons vr_X2_canSteal <| xal_cons vr_X2_canPlant <| xal_cons vr_X2_makeMove <| xal_cons vr_X2_makeStill <| xal_cons vr_X2_countStep <| xal_cons vr_X2_lookUnder <| xal_cons vr_X2_playBet <| xal_cons vr_X3_init <| xal_cons vr_X3_hasRoom <| xal_cons vr_X3_putWord <| xal_cons vr_X3_begin <| xal_cons vr_X3_kindAt <| xal_cons vr_X3_addToken <| xal_cons vr_X3_numberIn <| xal_cons vr_X3_tokenIn <| xal_cons vr_X3_isSpelled <| xal_cons vr_X3_put <| xal_nil
theorem xal_2 : ∀ r ∈ [rX3_token, rX3_number, rX3_is, rX3_advance, rX3_take, rX3_takeNumber, rX3_fail, rX4_init, rX4_reset, rX4_copyFrom, rX4_know, rX4_ruleOut, rX4_sum, rX4_greatest, rX4_countBelieved, rX4_likeliestShell, rX4_placeOfRank, rX4_countAheadOf, rX4_followMove, rX4_followStill], xokR xT xlds xexs r := xal_cons vr_X3_token <| xal_cons vr_X3_number <| xal_cons vr_X3_is <| xal_cons vr_X3_advance <| xal_cons vr_X3_take <| xal_cons vr_X3_takeNumber <| xal_cons vr_X3_fail <| xal_cons vr_X4_init <| xal_cons vr_X4_reset <| xal_cons vr_X4_copyFrom <| xal_cons vr_X4_know <| xal_cons vr_X4_ruleOut <| xal_cons vr_X4_sum <| xal_cons vr_X4_greatest <| xal_cons vr_X4_countBelieved <| xal_cons vr_X4_likeliestShell <| xal_cons vr_X4_placeOfRank <| xal_cons vr_X4_countAheadOf <| xal_cons vr_X4_followMove <| xal_cons vr_X4_followStill <| xal_nil
theorem xal_3 : ∀ r ∈ [rX4_exchange, rX4_mix, rX4_wonder, rX4_pairsOf, rX4_settle, rX4_halve, rX4_divideByCommonDivisor, rX4_commonDivisor, rX5_init, rX5_reset, rX5_copyFrom, rX5_hasPlace, rX5_hasTwoPlaces, rX5_isScratched, rX5_setScratched, rX5_number, rX5_exchange, rX5_placeBehind, rX5_swapsToFirst, rX6_init], xokR xT xlds xexs r := xal_cons vr_X4_exchange <| xal_cons vr_X4_mix <| xal_cons vr_X4_wonder <| xal_cons vr_X4_pairsOf <| xal_cons vr_X4_settle <| xal_cons vr_X4_halve <| xal_cons vr_X4_divideByCommonDivisor <| xal_cons vr_X4_commonDivisor <| xal_cons vr_X5_init <| xal_cons vr_X5_reset <| xal_cons vr_X5_copyFrom <| xal_cons vr_X5_hasPlace <| xal_cons vr_X5_hasTwoPlaces <| xal_cons vr_X5_isScratched <| xal_cons vr_X5_setScratched <| xal_cons vr_X5_number <| xal_cons vr_X5_exchange <| xal_cons vr_X5_placeBehind <| xal_cons vr_X5_swapsToFirst <| xal_cons vr_X6_init <| xal_nil
theorem xal_4 : ∀ r ∈ [rX6_clear, rX6_readCommands, rX6_numbersOf, rX6_readCommand, rX6_readRepeat, rX6_put, rX6_performRange, rX6_performRepeat, rX6_performOne, rX6_isAllowed, rX7_read, rX7_bitOfSingle, rX7_readStatement, rX7_readScratches, rX7_readScratch, rX7_readBlink, rX7_readSetting, rX7_greatestOf, rX7_set, rX9_init], xokR xT xlds xexs r := xal_cons vr_X6_clear <| xal_cons vr_X6_readCommands <| xal_cons vr_X6_numbersOf <| xal_cons vr_X6_readCommand <| xal_cons vr_X6_readRepeat <| xal_cons vr_X6_put <| xal_cons vr_X6_performRange <| xal_cons vr_X6_performRepeat <| xal_cons vr_X6_performOne <| xal_cons vr_X6_isAllowed <| xal_cons vr_X7_read <| xal_cons vr_X7_bitOfSingle <| xal_cons vr_X7_readStatement <| xal_cons vr_X7_readScratches <| xal_cons vr_X7_readScratch <| xal_cons vr_X7_readBlink <| xal_cons vr_X7_readSetting <| xal_cons vr_X7_greatestOf <| xal_cons vr_X7_set <| xal_cons vr_X9_init <| xal_nil
theorem xal_5 : ∀ r ∈ [rX9_find, rX9_tryAll, rX9_takeIfLess, rX9_number, rX10_init, rX10_append, rX10_load, rX10_run, rX10_errorOffset, rX10_state, rX10_shell, rX10_belief, rX10_chance, rX10_doubt, rX10_guess, rX10_blinks, rX10_odds, rX10_fewest, rX10_rows, rX10_fool], xokR xT xlds xexs r := xal_cons vr_X9_find <| xal_cons vr_X9_tryAll <| xal_cons vr_X9_takeIfLess <| xal_cons vr_X9_number <| xal_cons vr_X10_init <| xal_cons vr_X10_append <| xal_cons vr_X10_load <| xal_cons vr_X10_run <| xal_cons vr_X10_errorOffset <| xal_cons vr_X10_state <| xal_cons vr_X10_shell <| xal_cons vr_X10_belief <| xal_cons vr_X10_chance <| xal_cons vr_X10_doubt <| xal_cons vr_X10_guess <| xal_cons vr_X10_blinks <| xal_cons vr_X10_odds <| xal_cons vr_X10_fewest <| xal_cons vr_X10_rows <| xal_cons vr_X10_fool <| xal_nil
theorem xal_6 : ∀ r ∈ [rX10_caught, rX10_swap, rX10_feint, rX10_rest, rX10_steal, rX10_plant, rX10_peek, rX10_bet, rX10_scratch, rX10_blink, rX10_suspect, rX10_undo, rX10_checksum, rX10_game, rX10_change, rX10_moveBall, rX10_requireLength, rX10_requirePlace, rX10_requireTwoPlaces, rX10_requirePlaceOrHand], xokR xT xlds xexs r := xal_cons vr_X10_caught <| xal_cons vr_X10_swap <| xal_cons vr_X10_feint <| xal_cons vr_X10_rest <| xal_cons vr_X10_steal <| xal_cons vr_X10_plant <| xal_cons vr_X10_peek <| xal_cons vr_X10_bet <| xal_cons vr_X10_scratch <| xal_cons vr_X10_blink <| xal_cons vr_X10_suspect <| xal_cons vr_X10_undo <| xal_cons vr_X10_checksum <| xal_cons vr_X10_game <| xal_cons vr_X10_change <| xal_cons vr_X10_moveBall <| xal_cons vr_X10_requireLength <| xal_cons vr_X10_requirePlace <| xal_cons vr_X10_requireTwoPlaces <| xal_cons vr_X10_requirePlaceOrHand <| xal_nil
theorem xal_7 : ∀ r ∈ [rX10_requireWhat, rX10_countRows, rX11_init, rX11_thrown, rX11_isIn, rX11_get, rX11_put, rX11_change, rX11_right, rX11_begins, rX11_shells, rX11_blinksAt, rX11_blinksNow, rX11_rough, rX11_exchanged, rX11_had, rX11_stays, rX11_seen, rX11_unseen, rX11_common], xokR xT xlds xexs r := xal_cons vr_X10_requireWhat <| xal_cons vr_X10_countRows <| xal_cons vr_X11_init <| xal_cons vr_X11_thrown <| xal_cons vr_X11_isIn <| xal_cons vr_X11_get <| xal_cons vr_X11_put <| xal_cons vr_X11_change <| xal_cons vr_X11_right <| xal_cons vr_X11_begins <| xal_cons vr_X11_shells <| xal_cons vr_X11_blinksAt <| xal_cons vr_X11_blinksNow <| xal_cons vr_X11_rough <| xal_cons vr_X11_exchanged <| xal_cons vr_X11_had <| xal_cons vr_X11_stays <| xal_cons vr_X11_seen <| xal_cons vr_X11_unseen <| xal_cons vr_X11_common <| xal_nil
theorem xal_8 : ∀ r ∈ [rX11_reduces, rX11_thinks, rX11_believes, rX11_sum, rX11_ballBehind, rX11_steps, rX11_looks, rX11_canSteal, rX11_canPlant, rX11_factOf, rX11_oddsOf, rX11_append, rX11_four, rX11_errorOffset, rX11_fails, rX11_here, rX11_isLetter, rX11_isDigit, rX11_takes, rX11_sign], xokR xT xlds xexs r := xal_cons vr_X11_reduces <| xal_cons vr_X11_thinks <| xal_cons vr_X11_believes <| xal_cons vr_X11_sum <| xal_cons vr_X11_ballBehind <| xal_cons vr_X11_steps <| xal_cons vr_X11_looks <| xal_cons vr_X11_canSteal <| xal_cons vr_X11_canPlant <| xal_cons vr_X11_factOf <| xal_cons vr_X11_oddsOf <| xal_cons vr_X11_append <| xal_cons vr_X11_four <| xal_cons vr_X11_errorOffset <| xal_cons vr_X11_fails <| xal_cons vr_X11_here <| xal_cons vr_X11_isLetter <| xal_cons vr_X11_isDigit <| xal_cons vr_X11_takes <| xal_cons vr_X11_sign <| xal_nil
theorem xal_9 : ∀ r ∈ [rX11_reads, rX11_emits, rX11_readsFactor, rX11_readsTerm, rX11_readsSum, rX11_once, rX11_readsScratch, rX11_readsBlink, rX11_readsOne, rX11_readsStatement, rX11_readsSetup, rX11_starts, rX11_load, rX11_kindHere, rX11_readsRepeat, rX11_readsCommand, rX11_readsScript, rX11_isPlace, rX11_does, rX11_runs], xokR xT xlds xexs r := xal_cons vr_X11_reads <| xal_cons vr_X11_emits <| xal_cons vr_X11_readsFactor <| xal_cons vr_X11_readsTerm <| xal_cons vr_X11_readsSum <| xal_cons vr_X11_once <| xal_cons vr_X11_readsScratch <| xal_cons vr_X11_readsBlink <| xal_cons vr_X11_readsOne <| xal_cons vr_X11_readsStatement <| xal_cons vr_X11_readsSetup <| xal_cons vr_X11_starts <| xal_cons vr_X11_load <| xal_cons vr_X11_kindHere <| xal_cons vr_X11_readsRepeat <| xal_cons vr_X11_readsCommand <| xal_cons vr_X11_readsScript <| xal_cons vr_X11_isPlace <| xal_cons vr_X11_does <| xal_cons vr_X11_runs <| xal_nil
theorem xal_10 : ∀ r ∈ [rX11_run, rX11_believed, rX11_toldOf, rX11_toldOfShell, rX11_state, rX11_shell, rX11_belief, rX11_chance, rX11_doubt, rX11_guessed, rX11_guess, rX11_blinks, rX11_odds, rX11_fewest, rX11_rows, rX11_fools, rX11_tries, rX11_fool, rX11_caught, rX11_areTwo], xokR xT xlds xexs r := xal_cons vr_X11_run <| xal_cons vr_X11_believed <| xal_cons vr_X11_toldOf <| xal_cons vr_X11_toldOfShell <| xal_cons vr_X11_state <| xal_cons vr_X11_shell <| xal_cons vr_X11_belief <| xal_cons vr_X11_chance <| xal_cons vr_X11_doubt <| xal_cons vr_X11_guessed <| xal_cons vr_X11_guess <| xal_cons vr_X11_blinks <| xal_cons vr_X11_odds <| xal_cons vr_X11_fewest <| xal_cons vr_X11_rows <| xal_cons vr_X11_fools <| xal_cons vr_X11_tries <| xal_cons vr_X11_fool <| xal_cons vr_X11_caught <| xal_cons vr_X11_areTwo <| xal_nil
theorem xal_11 : ∀ r ∈ [rX11_swap, rX11_feint, rX11_rest, rX11_steal, rX11_plant, rX11_peek, rX11_bet, rX11_scratch, rX11_blink, rX11_suspect, rX11_undo, rX11_joins, rX11_checksum, rJ7_fill_53178, rJ0_length_8abf5, rJ0_charAt_5068e, rJ0_coder_7d493, rJ0_isLatin1_aae02, rJ0_checkIndex_df160, rJ1_charAt_3b067], xokR xT xlds xexs r := xal_cons vr_X11_swap <| xal_cons vr_X11_feint <| xal_cons vr_X11_rest <| xal_cons vr_X11_steal <| xal_cons vr_X11_plant <| xal_cons vr_X11_peek <| xal_cons vr_X11_bet <| xal_cons vr_X11_scratch <| xal_cons vr_X11_blink <| xal_cons vr_X11_suspect <| xal_cons vr_X11_undo <| xal_cons vr_X11_joins <| xal_cons vr_X11_checksum <| xal_cons vr_J7_fill_53178 <| xal_cons vr_J0_length_8abf5 <| xal_cons vr_J0_charAt_5068e <| xal_cons vr_J0_coder_7d493 <| xal_cons vr_J0_isLatin1_aae02 <| xal_cons vr_J0_checkIndex_df160 <| xal_cons vr_J1_charAt_3b067 <| xal_nil
theorem xal_12 : ∀ r ∈ [rJ3_checkIndex_8e157], xokR xT xlds xexs r := xal_cons vr_J3_checkIndex_8e157 <| xal_nil
theorem xal_app {p : xRow → Prop} {l m : List xRow} (h : ∀ r ∈ l, p r) (h2 : ∀ r ∈ m, p r) : ∀ r ∈ l ++ m, p r := fun r hr => (List.mem_append.1 hr).elim (h r) (h2 r)
theorem xrows_ok : ∀ r ∈ xrows, xokR xT xlds xexs r := xal_app xal_0 <| xal_app xal_1 <| xal_app xal_2 <| xal_app xal_3 <| xal_app xal_4 <| xal_app xal_5 <| xal_app xal_6 <| xal_app xal_7 <| xal_app xal_8 <| xal_app xal_9 <| xal_app xal_10 <| xal_app xal_11 <| xal_12
theorem xT_ok : ∀ key r, xT key = some r → xokR xT xlds xexs r := fun _ r h => xrows_ok r (List.mem_of_getElem? h)
