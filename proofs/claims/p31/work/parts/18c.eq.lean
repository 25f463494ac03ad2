/-! EQUATIONS OF THE BLOCKS, written by wip/p31/geneq.py. -/
noncomputable def qX5_init_0 (E : xEn) (d : Nat) (bc bs : Nat) (x0 : Nat) (σ : xH) : Option xR := xval E (xsem xT E d) 2 16 bX5_init (0, [(0, .ref x0)], [], σ, bc, bs)
set_option maxRecDepth 100000 in
theorem QX5_init_0 (E : xEn) (d : Nat) (bc bs : Nat) (x0 : Nat) (σ : xH) : qX5_init_0 E d bc bs x0 σ = bif Nat.ble (bc + 1) 2 && (Nat.ble (bs + 8) 16 && Nat.ble 8 100000) then nwA σ 0 8 (fun v1 σ1 => gP σ1 5 3 x0 (.ref v1) (fun σ2 => bif Nat.ble ((bc + 1) + 1) 2 && (Nat.ble ((bs + 8) + 8) 16 && Nat.ble 8 100000) then nwA σ2 0 8 (fun v2 σ3 => gP σ3 5 4 x0 (.ref v2) (fun σ4 => some (.inl none, σ4))) else none)) else none := xval_blkQ E (xsem xT E d) 2 16 bX5_init (pc := 0) rfl [(0, .ref x0)] [] σ bc bs
theorem eX5_init (E : xEn) (d : Nat) (x0 : Nat) (σ : xH) : xsem xT E (d + 1) kX5_init [.ref x0] σ = qX5_init_0 E d 0 0 x0 σ := rfl
noncomputable def qX5_reset_0 (E : xEn) (d : Nat) (x0 : Nat) (x1 : Int32) (σ : xH) : Option xR := xval E (xsem xT E d) 0 0 bX5_reset (0, [(0, .ref x0), (1, .int x1)], [], σ, 0, 0)
noncomputable def qX5_reset_17 (E : xEn) (d : Nat) (x0 : Nat) (x2 : Int32) (σ : xH) : Option xR := xval E (xsem xT E d) 0 0 bX5_reset (17, [(0, .ref x0), (2, .int x2)], [], σ, 0, 0)
noncomputable def qX5_reset_46 (E : xEn) (d : Nat) (σ : xH) : Option xR := xval E (xsem xT E d) 0 0 bX5_reset (46, [], [], σ, 0, 0)
set_option maxRecDepth 100000 in
theorem QX5_reset_0 (E : xEn) (d : Nat) (x0 : Nat) (x1 : Int32) (σ : xH) : qX5_reset_0 E d x0 x1 σ = gP σ 5 0 x0 (.int x1) (fun σ1 => gP σ1 5 1 x0 (.int (nI 0)) (fun σ2 => gP σ2 5 2 x0 (.int (nI 0)) (fun σ3 => qX5_reset_17 E d x0 (nI 0) σ3))) := xval_blkQ E (xsem xT E d) 0 0 bX5_reset (pc := 0) rfl [(0, .ref x0), (1, .int x1)] [] σ 0 0
set_option maxRecDepth 100000 in
theorem QX5_reset_17 (E : xEn) (d : Nat) (x0 : Nat) (x2 : Int32) (σ : xH) : qX5_reset_17 E d x0 x2 σ = gR σ 5 3 x0 (fun v1 => aN E σ v1 (fun v2 => if v2 ≤ x2 then qX5_reset_46 E d σ else gR σ 5 3 x0 (fun v3 => sI σ v3 x2 x2 (fun σ1 => gR σ1 5 4 x0 (fun v4 => sI σ1 v4 x2 (nI 0) (fun σ2 => qX5_reset_17 E d x0 (x2 + (nI 1)) σ2)))))) := xval_blkQ E (xsem xT E d) 0 0 bX5_reset (pc := 17) rfl [(0, .ref x0), (2, .int x2)] [] σ 0 0
set_option maxRecDepth 100000 in
theorem QX5_reset_46 (E : xEn) (d : Nat) (σ : xH) : qX5_reset_46 E d σ = some (.inl none, σ) := xval_blkQ E (xsem xT E d) 0 0 bX5_reset (pc := 46) rfl [] [] σ 0 0
theorem eX5_reset (E : xEn) (d : Nat) (x0 : Nat) (x1 : Int32) (σ : xH) : xsem xT E (d + 1) kX5_reset [.ref x0, .int x1] σ = qX5_reset_0 E d x0 x1 σ := rfl
noncomputable def qX5_copyFrom_0 (E : xEn) (d : Nat) (x0 : Nat) (x1 : Nat) (σ : xH) : Option xR := xval E (xsem xT E d) 0 0 bX5_copyFrom (0, [(0, .ref x0), (1, .ref x1)], [], σ, 0, 0)
set_option maxRecDepth 100000 in
theorem QX5_copyFrom_0 (E : xEn) (d : Nat) (x0 : Nat) (x1 : Nat) (σ : xH) : qX5_copyFrom_0 E d x0 x1 σ = gI σ 5 0 x1 (fun v1 => gP σ 5 0 x0 (.int v1) (fun σ1 => gI σ1 5 1 x1 (fun v2 => gP σ1 5 1 x0 (.int v2) (fun σ2 => gI σ2 5 2 x1 (fun v3 => gP σ2 5 2 x0 (.int v3) (fun σ3 => gR σ3 5 3 x1 (fun v4 => gR σ3 5 3 x0 (fun v5 => cpI E σ3 v4 (nI 0) v5 (nI 0) (nI 8) (fun σ4 => gR σ4 5 4 x1 (fun v6 => gR σ4 5 4 x0 (fun v7 => cpI E σ4 v6 (nI 0) v7 (nI 0) (nI 8) (fun σ5 => some (.inl none, σ5))))))))))))) := xval_blkQ E (xsem xT E d) 0 0 bX5_copyFrom (pc := 0) rfl [(0, .ref x0), (1, .ref x1)] [] σ 0 0
theorem eX5_copyFrom (E : xEn) (d : Nat) (x0 : Nat) (x1 : Nat) (σ : xH) : xsem xT E (d + 1) kX5_copyFrom [.ref x0, .ref x1] σ = qX5_copyFrom_0 E d x0 x1 σ := rfl
noncomputable def qX5_hasPlace_0 (E : xEn) (d : Nat) (x0 : Nat) (x1 : Int32) (σ : xH) : Option xR := xval E (xsem xT E d) 0 0 bX5_hasPlace (0, [(0, .ref x0), (1, .int x1)], [], σ, 0, 0)
noncomputable def qX5_hasPlace_16 (E : xEn) (d : Nat) (σ : xH) : Option xR := xval E (xsem xT E d) 0 0 bX5_hasPlace (16, [], [], σ, 0, 0)
noncomputable def qX5_hasPlace_17 (E : xEn) (d : Nat) (s0 : Int32) (σ : xH) : Option xR := xval E (xsem xT E d) 0 0 bX5_hasPlace (17, [], [.int s0], σ, 0, 0)
set_option maxRecDepth 100000 in
theorem QX5_hasPlace_0 (E : xEn) (d : Nat) (x0 : Nat) (x1 : Int32) (σ : xH) : qX5_hasPlace_0 E d x0 x1 σ = if x1 < (nI 0) then qX5_hasPlace_16 E d σ else gI σ 5 0 x0 (fun v1 => if v1 ≤ x1 then qX5_hasPlace_16 E d σ else qX5_hasPlace_17 E d (nI 1) σ) := xval_blkQ E (xsem xT E d) 0 0 bX5_hasPlace (pc := 0) rfl [(0, .ref x0), (1, .int x1)] [] σ 0 0
set_option maxRecDepth 100000 in
theorem QX5_hasPlace_16 (E : xEn) (d : Nat) (σ : xH) : qX5_hasPlace_16 E d σ = qX5_hasPlace_17 E d (nI 0) σ := xval_blkQ E (xsem xT E d) 0 0 bX5_hasPlace (pc := 16) rfl [] [] σ 0 0
set_option maxRecDepth 100000 in
theorem QX5_hasPlace_17 (E : xEn) (d : Nat) (s0 : Int32) (σ : xH) : qX5_hasPlace_17 E d s0 σ = xiret [5] s0 (some (.inl (some (.int s0)), σ)) := xval_blkQ E (xsem xT E d) 0 0 bX5_hasPlace (pc := 17) rfl [] [.int s0] σ 0 0
theorem eX5_hasPlace (E : xEn) (d : Nat) (x0 : Nat) (x1 : Int32) (σ : xH) : xsem xT E (d + 1) kX5_hasPlace [.ref x0, .int x1] σ = qX5_hasPlace_0 E d x0 x1 σ := rfl
noncomputable def qX5_isScratched_0 (E : xEn) (d : Nat) (x0 : Nat) (x1 : Int32) (σ : xH) : Option xR := xval E (xsem xT E d) 0 0 bX5_isScratched (0, [(0, .ref x0), (1, .int x1)], [], σ, 0, 0)
noncomputable def qX5_isScratched_24 (E : xEn) (d : Nat) (σ : xH) : Option xR := xval E (xsem xT E d) 0 0 bX5_isScratched (24, [], [], σ, 0, 0)
noncomputable def qX5_isScratched_25 (E : xEn) (d : Nat) (s0 : Int32) (σ : xH) : Option xR := xval E (xsem xT E d) 0 0 bX5_isScratched (25, [], [.int s0], σ, 0, 0)
set_option maxRecDepth 100000 in
theorem QX5_isScratched_0 (E : xEn) (d : Nat) (x0 : Nat) (x1 : Int32) (σ : xH) : qX5_isScratched_0 E d x0 x1 σ = gO E σ 5 x0 (cI (xthr 1 some) (xsem xT E d kX5_hasPlace [.ref x0, .int x1] σ) (fun v1 σ1 => if v1 = (nI 0) then qX5_isScratched_24 E d σ1 else gI σ1 5 2 x0 (fun v2 => if ((v2 >>> (x1 &&& 31)) &&& (nI 1)) = (nI 1) then qX5_isScratched_25 E d (nI 1) σ1 else qX5_isScratched_24 E d σ1))) := xval_blkQ E (xsem xT E d) 0 0 bX5_isScratched (pc := 0) rfl [(0, .ref x0), (1, .int x1)] [] σ 0 0
set_option maxRecDepth 100000 in
theorem QX5_isScratched_24 (E : xEn) (d : Nat) (σ : xH) : qX5_isScratched_24 E d σ = qX5_isScratched_25 E d (nI 0) σ := xval_blkQ E (xsem xT E d) 0 0 bX5_isScratched (pc := 24) rfl [] [] σ 0 0
set_option maxRecDepth 100000 in
theorem QX5_isScratched_25 (E : xEn) (d : Nat) (s0 : Int32) (σ : xH) : qX5_isScratched_25 E d s0 σ = xiret [5] s0 (some (.inl (some (.int s0)), σ)) := xval_blkQ E (xsem xT E d) 0 0 bX5_isScratched (pc := 25) rfl [] [.int s0] σ 0 0
theorem eX5_isScratched (E : xEn) (d : Nat) (x0 : Nat) (x1 : Int32) (σ : xH) : xsem xT E (d + 1) kX5_isScratched [.ref x0, .int x1] σ = qX5_isScratched_0 E d x0 x1 σ := rfl
noncomputable def qX5_setScratched_0 (E : xEn) (d : Nat) (x0 : Nat) (x1 : Int32) (x2 : Int32) (σ : xH) : Option xR := xval E (xsem xT E d) 0 0 bX5_setScratched (0, [(0, .ref x0), (1, .int x1), (2, .int x2)], [], σ, 0, 0)
noncomputable def qX5_setScratched_24 (E : xEn) (d : Nat) (x0 : Nat) (x1 : Int32) (s0 : Nat) (σ : xH) : Option xR := xval E (xsem xT E d) 0 0 bX5_setScratched (24, [(0, .ref x0), (1, .int x1)], [.ref s0], σ, 0, 0)
noncomputable def qX5_setScratched_34 (E : xEn) (d : Nat) (s0 : Nat) (s1 : Int32) (σ : xH) : Option xR := xval E (xsem xT E d) 0 0 bX5_setScratched (34, [], [.int s1, .ref s0], σ, 0, 0)
noncomputable def qX5_setScratched_37 (E : xEn) (d : Nat) (σ : xH) : Option xR := xval E (xsem xT E d) 0 0 bX5_setScratched (37, [], [], σ, 0, 0)
set_option maxRecDepth 100000 in
theorem QX5_setScratched_0 (E : xEn) (d : Nat) (x0 : Nat) (x1 : Int32) (x2 : Int32) (σ : xH) : qX5_setScratched_0 E d x0 x1 x2 σ = gO E σ 5 x0 (cI (xthr 1 some) (xsem xT E d kX5_hasPlace [.ref x0, .int x1] σ) (fun v1 σ1 => if v1 = (nI 0) then qX5_setScratched_37 E d σ1 else if x2 = (nI 0) then qX5_setScratched_24 E d x0 x1 x0 σ1 else gI σ1 5 2 x0 (fun v2 => qX5_setScratched_34 E d x0 (v2 ||| ((nI 1) <<< (x1 &&& 31))) σ1))) := xval_blkQ E (xsem xT E d) 0 0 bX5_setScratched (pc := 0) rfl [(0, .ref x0), (1, .int x1), (2, .int x2)] [] σ 0 0
set_option maxRecDepth 100000 in
theorem QX5_setScratched_24 (E : xEn) (d : Nat) (x0 : Nat) (x1 : Int32) (s0 : Nat) (σ : xH) : qX5_setScratched_24 E d x0 x1 s0 σ = gI σ 5 2 x0 (fun v1 => qX5_setScratched_34 E d s0 (v1 &&& (((nI 1) <<< (x1 &&& 31)) ^^^ (-1 : Int32))) σ) := xval_blkQ E (xsem xT E d) 0 0 bX5_setScratched (pc := 24) rfl [(0, .ref x0), (1, .int x1)] [.ref s0] σ 0 0
set_option maxRecDepth 100000 in
theorem QX5_setScratched_34 (E : xEn) (d : Nat) (s0 : Nat) (s1 : Int32) (σ : xH) : qX5_setScratched_34 E d s0 s1 σ = gP σ 5 2 s0 (.int s1) (fun σ1 => qX5_setScratched_37 E d σ1) := xval_blkQ E (xsem xT E d) 0 0 bX5_setScratched (pc := 34) rfl [] [.int s1, .ref s0] σ 0 0
set_option maxRecDepth 100000 in
theorem QX5_setScratched_37 (E : xEn) (d : Nat) (σ : xH) : qX5_setScratched_37 E d σ = some (.inl none, σ) := xval_blkQ E (xsem xT E d) 0 0 bX5_setScratched (pc := 37) rfl [] [] σ 0 0
theorem eX5_setScratched (E : xEn) (d : Nat) (x0 : Nat) (x1 : Int32) (x2 : Int32) (σ : xH) : xsem xT E (d + 1) kX5_setScratched [.ref x0, .int x1, .int x2] σ = qX5_setScratched_0 E d x0 x1 x2 σ := rfl
noncomputable def qX5_exchange_0 (E : xEn) (d : Nat) (x0 : Nat) (x1 : Int32) (x2 : Int32) (σ : xH) : Option xR := xval E (xsem xT E d) 0 0 bX5_exchange (0, [(0, .ref x0), (1, .int x1), (2, .int x2)], [], σ, 0, 0)
set_option maxRecDepth 100000 in
theorem QX5_exchange_0 (E : xEn) (d : Nat) (x0 : Nat) (x1 : Int32) (x2 : Int32) (σ : xH) : qX5_exchange_0 E d x0 x1 x2 σ = gR σ 5 3 x0 (fun v1 => aI E σ v1 x1 (fun v2 => gR σ 5 3 x0 (fun v3 => gR σ 5 3 x0 (fun v4 => aI E σ v4 x2 (fun v5 => sI σ v3 x1 v5 (fun σ1 => gR σ1 5 3 x0 (fun v6 => sI σ1 v6 x2 v2 (fun σ2 => gR σ2 5 4 x0 (fun v7 => aI E σ2 v7 x1 (fun v8 => gR σ2 5 4 x0 (fun v9 => gR σ2 5 4 x0 (fun v10 => aI E σ2 v10 x2 (fun v11 => sI σ2 v9 x1 (v11 + (nI 1)) (fun σ3 => gR σ3 5 4 x0 (fun v12 => sI σ3 v12 x2 (v8 + (nI 1)) (fun σ4 => gO E σ4 5 x0 (cI (xthr 1 some) (xsem xT E d kX5_isScratched [.ref x0, .int x1] σ4) (fun v13 σ5 => gO E σ5 5 x0 (cI (xthr 1 some) (xsem xT E d kX5_isScratched [.ref x0, .int x2] σ5) (fun v14 σ6 => gO E σ6 5 x0 (cV (xthr 1 some) (xsem xT E d kX5_setScratched [.ref x0, .int x1, .int v14] σ6) (fun σ7 => gO E σ7 5 x0 (cV (xthr 1 some) (xsem xT E d kX5_setScratched [.ref x0, .int x2, .int v13] σ7) (fun σ8 => gI σ8 5 1 x0 (fun v15 => cI (xthr 0 some) (xsem xT E d kX5_placeBehind [.int v15, .int x1, .int x2] σ8) (fun v16 σ9 => gP σ9 5 1 x0 (.int v16) (fun σ10 => some (.inl none, σ10)))))))))))))))))))))))))))) := xval_blkQ E (xsem xT E d) 0 0 bX5_exchange (pc := 0) rfl [(0, .ref x0), (1, .int x1), (2, .int x2)] [] σ 0 0
theorem eX5_exchange (E : xEn) (d : Nat) (x0 : Nat) (x1 : Int32) (x2 : Int32) (σ : xH) : xsem xT E (d + 1) kX5_exchange [.ref x0, .int x1, .int x2] σ = qX5_exchange_0 E d x0 x1 x2 σ := rfl
noncomputable def qX5_placeBehind_0 (E : xEn) (d : Nat) (x0 : Int32) (x1 : Int32) (x2 : Int32) (σ : xH) : Option xR := xval E (xsem xT E d) 0 0 bX5_placeBehind (0, [(0, .int x0), (1, .int x1), (2, .int x2)], [], σ, 0, 0)
noncomputable def qX5_placeBehind_7 (E : xEn) (d : Nat) (x0 : Int32) (x1 : Int32) (x2 : Int32) (σ : xH) : Option xR := xval E (xsem xT E d) 0 0 bX5_placeBehind (7, [(0, .int x0), (1, .int x1), (2, .int x2)], [], σ, 0, 0)
noncomputable def qX5_placeBehind_16 (E : xEn) (d : Nat) (x0 : Int32) (σ : xH) : Option xR := xval E (xsem xT E d) 0 0 bX5_placeBehind (16, [(0, .int x0)], [], σ, 0, 0)
noncomputable def qX5_placeBehind_17 (E : xEn) (d : Nat) (s0 : Int32) (σ : xH) : Option xR := xval E (xsem xT E d) 0 0 bX5_placeBehind (17, [], [.int s0], σ, 0, 0)
set_option maxRecDepth 100000 in
theorem QX5_placeBehind_0 (E : xEn) (d : Nat) (x0 : Int32) (x1 : Int32) (x2 : Int32) (σ : xH) : qX5_placeBehind_0 E d x0 x1 x2 σ = if x0 = x1 then some (.inl (some (.int x2)), σ) else qX5_placeBehind_7 E d x0 x1 x2 σ := xval_blkQ E (xsem xT E d) 0 0 bX5_placeBehind (pc := 0) rfl [(0, .int x0), (1, .int x1), (2, .int x2)] [] σ 0 0
set_option maxRecDepth 100000 in
theorem QX5_placeBehind_7 (E : xEn) (d : Nat) (x0 : Int32) (x1 : Int32) (x2 : Int32) (σ : xH) : qX5_placeBehind_7 E d x0 x1 x2 σ = if x0 = x2 then qX5_placeBehind_17 E d x1 σ else qX5_placeBehind_16 E d x0 σ := xval_blkQ E (xsem xT E d) 0 0 bX5_placeBehind (pc := 7) rfl [(0, .int x0), (1, .int x1), (2, .int x2)] [] σ 0 0
set_option maxRecDepth 100000 in
theorem QX5_placeBehind_16 (E : xEn) (d : Nat) (x0 : Int32) (σ : xH) : qX5_placeBehind_16 E d x0 σ = qX5_placeBehind_17 E d x0 σ := xval_blkQ E (xsem xT E d) 0 0 bX5_placeBehind (pc := 16) rfl [(0, .int x0)] [] σ 0 0
set_option maxRecDepth 100000 in
theorem QX5_placeBehind_17 (E : xEn) (d : Nat) (s0 : Int32) (σ : xH) : qX5_placeBehind_17 E d s0 σ = some (.inl (some (.int s0)), σ) := xval_blkQ E (xsem xT E d) 0 0 bX5_placeBehind (pc := 17) rfl [] [.int s0] σ 0 0
theorem eX5_placeBehind (E : xEn) (d : Nat) (x0 : Int32) (x1 : Int32) (x2 : Int32) (σ : xH) : xsem xT E (d + 1) kX5_placeBehind [.int x0, .int x1, .int x2] σ = qX5_placeBehind_0 E d x0 x1 x2 σ := rfl
noncomputable def qX6_init_0 (E : xEn) (d : Nat) (bc bs : Nat) (x0 : Nat) (σ : xH) : Option xR := xval E (xsem xT E d) 4 240 bX6_init (0, [(0, .ref x0)], [], σ, bc, bs)
set_option maxRecDepth 100000 in
theorem QX6_init_0 (E : xEn) (d : Nat) (bc bs : Nat) (x0 : Nat) (σ : xH) : qX6_init_0 E d bc bs x0 σ = bif Nat.ble (bc + 1) 4 && (Nat.ble (bs + 60) 240 && Nat.ble 60 100000) then nwQ σ 4 60 (fun v1 σ1 => gP σ1 6 0 x0 (.ref v1) (fun σ2 => bif Nat.ble ((bc + 1) + 1) 4 && (Nat.ble ((bs + 60) + 60) 240 && Nat.ble 60 100000) then nwA σ2 0 60 (fun v2 σ3 => gP σ3 6 1 x0 (.ref v2) (fun σ4 => bif Nat.ble (((bc + 1) + 1) + 1) 4 && (Nat.ble (((bs + 60) + 60) + 60) 240 && Nat.ble 60 100000) then nwA σ4 0 60 (fun v3 σ5 => gP σ5 6 2 x0 (.ref v3) (fun σ6 => bif Nat.ble ((((bc + 1) + 1) + 1) + 1) 4 && (Nat.ble ((((bs + 60) + 60) + 60) + 60) 240 && Nat.ble 60 100000) then nwA σ6 0 60 (fun v4 σ7 => gP σ7 6 3 x0 (.ref v4) (fun σ8 => some (.inl none, σ8))) else none)) else none)) else none)) else none := xval_blkQ E (xsem xT E d) 4 240 bX6_init (pc := 0) rfl [(0, .ref x0)] [] σ bc bs
theorem eX6_init (E : xEn) (d : Nat) (x0 : Nat) (σ : xH) : xsem xT E (d + 1) kX6_init [.ref x0] σ = qX6_init_0 E d 0 0 x0 σ := rfl
