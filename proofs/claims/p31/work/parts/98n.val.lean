/-! THE TABLE HOLDS: rows against the bytes; written by wip/p31/genval.py. -/
set_option maxRecDepth 100000 in
theorem vb_X10_init : (bX10_init.all fun b => xokB yX10_init.cls (decide (yX10_init.name = "<init>")) cX10_init 2 none pX10 xlds xexs b.2.2.2 b.1 b.2.2.1) = true := by decide +kernel
theorem vr_X10_init : xokR xT xlds xexs rX10_init := ⟨by decide +kernel, by decide +kernel, fun b hb => List.all_eq_true.1 vb_X10_init b hb, fun q hq => List.all_eq_true.1 vp_X10 q hq⟩
set_option maxRecDepth 100000 in
theorem vb_X10_append : (bX10_append.all fun b => xokB yX10_append.cls (decide (yX10_append.name = "<init>")) cX10_append 6 (some .int) pX10 xlds xexs b.2.2.2 b.1 b.2.2.1) = true := by decide +kernel
theorem vr_X10_append : xokR xT xlds xexs rX10_append := ⟨by decide +kernel, by decide +kernel, fun b hb => List.all_eq_true.1 vb_X10_append b hb, fun q hq => List.all_eq_true.1 vp_X10 q hq⟩
set_option maxRecDepth 100000 in
theorem vb_X10_load : (bX10_load.all fun b => xokB yX10_load.cls (decide (yX10_load.name = "<init>")) cX10_load 2 (some .int) pX10 xlds xexs b.2.2.2 b.1 b.2.2.1) = true := by decide +kernel
theorem vr_X10_load : xokR xT xlds xexs rX10_load := ⟨by decide +kernel, by decide +kernel, fun b hb => List.all_eq_true.1 vb_X10_load b hb, fun q hq => List.all_eq_true.1 vp_X10 q hq⟩
set_option maxRecDepth 100000 in
theorem vb_X10_state : (bX10_state.all fun b => xokB yX10_state.cls (decide (yX10_state.name = "<init>")) cX10_state 2 (some .int) pX10 xlds xexs b.2.2.2 b.1 b.2.2.1) = true := by decide +kernel
theorem vr_X10_state : xokR xT xlds xexs rX10_state := ⟨by decide +kernel, by decide +kernel, fun b hb => List.all_eq_true.1 vb_X10_state b hb, fun q hq => List.all_eq_true.1 vp_X10 q hq⟩
set_option maxRecDepth 100000 in
theorem vb_X10_belief : (bX10_belief.all fun b => xokB yX10_belief.cls (decide (yX10_belief.name = "<init>")) cX10_belief 2 (some .int) pX10 xlds xexs b.2.2.2 b.1 b.2.2.1) = true := by decide +kernel
theorem vr_X10_belief : xokR xT xlds xexs rX10_belief := ⟨by decide +kernel, by decide +kernel, fun b hb => List.all_eq_true.1 vb_X10_belief b hb, fun q hq => List.all_eq_true.1 vp_X10 q hq⟩
set_option maxRecDepth 100000 in
theorem vb_X10_guess : (bX10_guess.all fun b => xokB yX10_guess.cls (decide (yX10_guess.name = "<init>")) cX10_guess 1 (some .int) pX10 xlds xexs b.2.2.2 b.1 b.2.2.1) = true := by decide +kernel
theorem vr_X10_guess : xokR xT xlds xexs rX10_guess := ⟨by decide +kernel, by decide +kernel, fun b hb => List.all_eq_true.1 vb_X10_guess b hb, fun q hq => List.all_eq_true.1 vp_X10 q hq⟩
set_option maxRecDepth 100000 in
theorem vb_X10_blinks : (bX10_blinks.all fun b => xokB yX10_blinks.cls (decide (yX10_blinks.name = "<init>")) cX10_blinks 2 (some .boolean) pX10 xlds xexs b.2.2.2 b.1 b.2.2.1) = true := by decide +kernel
theorem vr_X10_blinks : xokR xT xlds xexs rX10_blinks := ⟨by decide +kernel, by decide +kernel, fun b hb => List.all_eq_true.1 vb_X10_blinks b hb, fun q hq => List.all_eq_true.1 vp_X10 q hq⟩
set_option maxRecDepth 100000 in
theorem vb_X10_swap : (bX10_swap.all fun b => xokB yX10_swap.cls (decide (yX10_swap.name = "<init>")) cX10_swap 3 (some .boolean) pX10 xlds xexs b.2.2.2 b.1 b.2.2.1) = true := by decide +kernel
theorem vr_X10_swap : xokR xT xlds xexs rX10_swap := ⟨by decide +kernel, by decide +kernel, fun b hb => List.all_eq_true.1 vb_X10_swap b hb, fun q hq => List.all_eq_true.1 vp_X10 q hq⟩
set_option maxRecDepth 100000 in
theorem vb_X10_feint : (bX10_feint.all fun b => xokB yX10_feint.cls (decide (yX10_feint.name = "<init>")) cX10_feint 3 (some .boolean) pX10 xlds xexs b.2.2.2 b.1 b.2.2.1) = true := by decide +kernel
theorem vr_X10_feint : xokR xT xlds xexs rX10_feint := ⟨by decide +kernel, by decide +kernel, fun b hb => List.all_eq_true.1 vb_X10_feint b hb, fun q hq => List.all_eq_true.1 vp_X10 q hq⟩
set_option maxRecDepth 100000 in
theorem vb_X10_rest : (bX10_rest.all fun b => xokB yX10_rest.cls (decide (yX10_rest.name = "<init>")) cX10_rest 1 (some .boolean) pX10 xlds xexs b.2.2.2 b.1 b.2.2.1) = true := by decide +kernel
theorem vr_X10_rest : xokR xT xlds xexs rX10_rest := ⟨by decide +kernel, by decide +kernel, fun b hb => List.all_eq_true.1 vb_X10_rest b hb, fun q hq => List.all_eq_true.1 vp_X10 q hq⟩
set_option maxRecDepth 100000 in
theorem vb_X10_steal : (bX10_steal.all fun b => xokB yX10_steal.cls (decide (yX10_steal.name = "<init>")) cX10_steal 2 (some .int) pX10 xlds xexs b.2.2.2 b.1 b.2.2.1) = true := by decide +kernel
theorem vr_X10_steal : xokR xT xlds xexs rX10_steal := ⟨by decide +kernel, by decide +kernel, fun b hb => List.all_eq_true.1 vb_X10_steal b hb, fun q hq => List.all_eq_true.1 vp_X10 q hq⟩
set_option maxRecDepth 100000 in
theorem vb_X10_plant : (bX10_plant.all fun b => xokB yX10_plant.cls (decide (yX10_plant.name = "<init>")) cX10_plant 2 (some .int) pX10 xlds xexs b.2.2.2 b.1 b.2.2.1) = true := by decide +kernel
theorem vr_X10_plant : xokR xT xlds xexs rX10_plant := ⟨by decide +kernel, by decide +kernel, fun b hb => List.all_eq_true.1 vb_X10_plant b hb, fun q hq => List.all_eq_true.1 vp_X10 q hq⟩
set_option maxRecDepth 100000 in
theorem vb_X10_peek : (bX10_peek.all fun b => xokB yX10_peek.cls (decide (yX10_peek.name = "<init>")) cX10_peek 2 (some .boolean) pX10 xlds xexs b.2.2.2 b.1 b.2.2.1) = true := by decide +kernel
theorem vr_X10_peek : xokR xT xlds xexs rX10_peek := ⟨by decide +kernel, by decide +kernel, fun b hb => List.all_eq_true.1 vb_X10_peek b hb, fun q hq => List.all_eq_true.1 vp_X10 q hq⟩
set_option maxRecDepth 100000 in
theorem vb_X10_game : (bX10_game.all fun b => xokB yX10_game.cls (decide (yX10_game.name = "<init>")) cX10_game 1 (some (.object "ShellWatch$Game")) pX10 xlds xexs b.2.2.2 b.1 b.2.2.1) = true := by decide +kernel
theorem vr_X10_game : xokR xT xlds xexs rX10_game := ⟨by decide +kernel, by decide +kernel, fun b hb => List.all_eq_true.1 vb_X10_game b hb, fun q hq => List.all_eq_true.1 vp_X10 q hq⟩
set_option maxRecDepth 100000 in
theorem vb_X10_change : (bX10_change.all fun b => xokB yX10_change.cls (decide (yX10_change.name = "<init>")) cX10_change 2 (some (.object "ShellWatch$Game")) pX10 xlds xexs b.2.2.2 b.1 b.2.2.1) = true := by decide +kernel
theorem vr_X10_change : xokR xT xlds xexs rX10_change := ⟨by decide +kernel, by decide +kernel, fun b hb => List.all_eq_true.1 vb_X10_change b hb, fun q hq => List.all_eq_true.1 vp_X10 q hq⟩
set_option maxRecDepth 100000 in
theorem vb_X10_moveBall : (bX10_moveBall.all fun b => xokB yX10_moveBall.cls (decide (yX10_moveBall.name = "<init>")) cX10_moveBall 3 (some .int) pX10 xlds xexs b.2.2.2 b.1 b.2.2.1) = true := by decide +kernel
theorem vr_X10_moveBall : xokR xT xlds xexs rX10_moveBall := ⟨by decide +kernel, by decide +kernel, fun b hb => List.all_eq_true.1 vb_X10_moveBall b hb, fun q hq => List.all_eq_true.1 vp_X10 q hq⟩
set_option maxRecDepth 100000 in
theorem vb_X10_requireLength : (bX10_requireLength.all fun b => xokB yX10_requireLength.cls (decide (yX10_requireLength.name = "<init>")) cX10_requireLength 2 none pX10 xlds xexs b.2.2.2 b.1 b.2.2.1) = true := by decide +kernel
theorem vr_X10_requireLength : xokR xT xlds xexs rX10_requireLength := ⟨by decide +kernel, by decide +kernel, fun b hb => List.all_eq_true.1 vb_X10_requireLength b hb, fun q hq => List.all_eq_true.1 vp_X10 q hq⟩
set_option maxRecDepth 100000 in
theorem vb_X10_requirePlace : (bX10_requirePlace.all fun b => xokB yX10_requirePlace.cls (decide (yX10_requirePlace.name = "<init>")) cX10_requirePlace 2 none pX10 xlds xexs b.2.2.2 b.1 b.2.2.1) = true := by decide +kernel
theorem vr_X10_requirePlace : xokR xT xlds xexs rX10_requirePlace := ⟨by decide +kernel, by decide +kernel, fun b hb => List.all_eq_true.1 vb_X10_requirePlace b hb, fun q hq => List.all_eq_true.1 vp_X10 q hq⟩
set_option maxRecDepth 100000 in
theorem vb_X10_requireTwoPlaces : (bX10_requireTwoPlaces.all fun b => xokB yX10_requireTwoPlaces.cls (decide (yX10_requireTwoPlaces.name = "<init>")) cX10_requireTwoPlaces 3 none pX10 xlds xexs b.2.2.2 b.1 b.2.2.1) = true := by decide +kernel
theorem vr_X10_requireTwoPlaces : xokR xT xlds xexs rX10_requireTwoPlaces := ⟨by decide +kernel, by decide +kernel, fun b hb => List.all_eq_true.1 vb_X10_requireTwoPlaces b hb, fun q hq => List.all_eq_true.1 vp_X10 q hq⟩
set_option maxRecDepth 100000 in
theorem vb_X10_requirePlaceOrHand : (bX10_requirePlaceOrHand.all fun b => xokB yX10_requirePlaceOrHand.cls (decide (yX10_requirePlaceOrHand.name = "<init>")) cX10_requirePlaceOrHand 2 none pX10 xlds xexs b.2.2.2 b.1 b.2.2.1) = true := by decide +kernel
theorem vr_X10_requirePlaceOrHand : xokR xT xlds xexs rX10_requirePlaceOrHand := ⟨by decide +kernel, by decide +kernel, fun b hb => List.all_eq_true.1 vb_X10_requirePlaceOrHand b hb, fun q hq => List.all_eq_true.1 vp_X10 q hq⟩
set_option maxRecDepth 100000 in
theorem vb_X10_requireWhat : (bX10_requireWhat.all fun b => xokB yX10_requireWhat.cls (decide (yX10_requireWhat.name = "<init>")) cX10_requireWhat 3 none pX10 xlds xexs b.2.2.2 b.1 b.2.2.1) = true := by decide +kernel
theorem vr_X10_requireWhat : xokR xT xlds xexs rX10_requireWhat := ⟨by decide +kernel, by decide +kernel, fun b hb => List.all_eq_true.1 vb_X10_requireWhat b hb, fun q hq => List.all_eq_true.1 vp_X10 q hq⟩
