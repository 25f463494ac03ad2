/-! EQUATIONS OF THE BLOCKS, written by wip/p31/geneq.py. -/
noncomputable def qX7_read_0 (E : xEn) (d : Nat) (x0 : Nat) (x1 : Nat) (σ : xH) : Option xR := xval E (xsem xT E d) 0 0 bX7_read (0, [(0, .ref x0), (1, .ref x1)], [], σ, 0, 0)
noncomputable def qX7_read_12 (E : xEn) (d : Nat) (x0 : Nat) (x1 : Nat) (σ : xH) : Option xR := xval E (xsem xT E d) 0 0 bX7_read (12, [(0, .ref x0), (1, .ref x1)], [], σ, 0, 0)
noncomputable def qX7_read_34 (E : xEn) (d : Nat) (σ : xH) : Option xR := xval E (xsem xT E d) 0 0 bX7_read (34, [], [], σ, 0, 0)
noncomputable def qX7_read_36 (E : xEn) (d : Nat) (x0 : Nat) (x1 : Nat) (x2 : Int32) (σ : xH) : Option xR := xval E (xsem xT E d) 0 0 bX7_read (36, [(0, .ref x0), (1, .ref x1), (2, .int x2)], [], σ, 0, 0)
noncomputable def qX7_read_46 (E : xEn) (d : Nat) (x0 : Nat) (x1 : Nat) (x3 : Int32) (x4 : Int32) (σ : xH) : Option xR := xval E (xsem xT E d) 0 0 bX7_read (46, [(0, .ref x0), (1, .ref x1), (3, .int x3), (4, .int x4)], [], σ, 0, 0)
noncomputable def qX7_read_87 (E : xEn) (d : Nat) (x0 : Nat) (x1 : Nat) (x3 : Int32) (x4 : Int32) (x5 : Int32) (σ : xH) : Option xR := xval E (xsem xT E d) 0 0 bX7_read (87, [(0, .ref x0), (1, .ref x1), (3, .int x3), (4, .int x4), (5, .int x5)], [], σ, 0, 0)
noncomputable def qX7_read_110 (E : xEn) (d : Nat) (σ : xH) : Option xR := xval E (xsem xT E d) 0 0 bX7_read (110, [], [], σ, 0, 0)
noncomputable def qX7_read_112 (E : xEn) (d : Nat) (x0 : Nat) (x1 : Nat) (x3 : Int32) (x4 : Int32) (σ : xH) : Option xR := xval E (xsem xT E d) 0 0 bX7_read (112, [(0, .ref x0), (1, .ref x1), (3, .int x3), (4, .int x4)], [], σ, 0, 0)
noncomputable def qX7_read_118 (E : xEn) (d : Nat) (σ : xH) : Option xR := xval E (xsem xT E d) 0 0 bX7_read (118, [], [], σ, 0, 0)
set_option maxRecDepth 100000 in
theorem QX7_read_0 (E : xEn) (d : Nat) (x0 : Nat) (x1 : Nat) (σ : xH) : qX7_read_0 E d x0 x1 σ = gO E σ 3 x0 (cI (xthr 1 some) (xsem xT E d kX3_take [.ref x0, .ref (E.1 10)] σ) (fun v1 σ1 => if v1 = (nI 0) then xiret [5] (nI 0) (some (.inl (some (.int (nI 0))), σ1)) else qX7_read_12 E d x0 x1 σ1)) := xval_blkQ E (xsem xT E d) 0 0 bX7_read (pc := 0) rfl [(0, .ref x0), (1, .ref x1)] [] σ 0 0
set_option maxRecDepth 100000 in
theorem QX7_read_12 (E : xEn) (d : Nat) (x0 : Nat) (x1 : Nat) (σ : xH) : qX7_read_12 E d x0 x1 σ = gO E σ 3 x0 (cI (xthr 1 some) (xsem xT E d kX3_takeNumber [.ref x0, .int (nI 2), .int (nI 8)] σ) (fun v1 σ1 => if v1 < (nI 0) then qX7_read_34 E d σ1 else gO E σ1 3 x0 (cI (xthr 1 some) (xsem xT E d kX3_take [.ref x0, .ref (E.1 3)] σ1) (fun v2 σ2 => if v2 = (nI 0) then qX7_read_34 E d σ2 else qX7_read_36 E d x0 x1 v1 σ2)))) := xval_blkQ E (xsem xT E d) 0 0 bX7_read (pc := 12) rfl [(0, .ref x0), (1, .ref x1)] [] σ 0 0
set_option maxRecDepth 100000 in
theorem QX7_read_34 (E : xEn) (d : Nat) (σ : xH) : qX7_read_34 E d σ = xiret [5] (nI 0) (some (.inl (some (.int (nI 0))), σ)) := xval_blkQ E (xsem xT E d) 0 0 bX7_read (pc := 34) rfl [] [] σ 0 0
set_option maxRecDepth 100000 in
theorem QX7_read_36 (E : xEn) (d : Nat) (x0 : Nat) (x1 : Nat) (x2 : Int32) (σ : xH) : qX7_read_36 E d x0 x1 x2 σ = gO E σ 2 x1 (cV (xthr 1 some) (xsem xT E d kX2_reset [.ref x1, .int x2] σ) (fun σ1 => qX7_read_46 E d x0 x1 (nI 0) (nI 0) σ1)) := xval_blkQ E (xsem xT E d) 0 0 bX7_read (pc := 36) rfl [(0, .ref x0), (1, .ref x1), (2, .int x2)] [] σ 0 0
set_option maxRecDepth 100000 in
theorem QX7_read_46 (E : xEn) (d : Nat) (x0 : Nat) (x1 : Nat) (x3 : Int32) (x4 : Int32) (σ : xH) : qX7_read_46 E d x0 x1 x3 x4 σ = if (nI 500) ≤ x4 then qX7_read_118 E d σ else gO E σ 3 x0 (cI (xthr 1 some) (xsem xT E d kX3_is [.ref x0, .ref (E.1 0)] σ) (fun v1 σ1 => if v1 = (nI 0) then gO E σ1 3 x0 (cA (xthr 1 some) (xsem xT E d kX3_token [.ref x0] σ1) (fun v2 σ2 => cI (xthr 0 some) (xsem xT E d kX7_bitOfSingle [.ref v2] σ2) (fun v3 σ3 => if (x3 &&& v3) = (nI 0) then qX7_read_87 E d x0 x1 x3 x4 v3 σ3 else gO E σ3 3 x0 (cI (xthr 1 some) (xsem xT E d kX3_fail [.ref x0, .int (-2 : Int32)] σ3) (fun v4 σ4 => xiret [5] v4 (some (.inl (some (.int v4)), σ4))))))) else qX7_read_118 E d σ1)) := xval_blkQ E (xsem xT E d) 0 0 bX7_read (pc := 46) rfl [(0, .ref x0), (1, .ref x1), (3, .int x3), (4, .int x4)] [] σ 0 0
set_option maxRecDepth 100000 in
theorem QX7_read_87 (E : xEn) (d : Nat) (x0 : Nat) (x1 : Nat) (x3 : Int32) (x4 : Int32) (x5 : Int32) (σ : xH) : qX7_read_87 E d x0 x1 x3 x4 x5 σ = cI (xthr 0 some) (xsem xT E d kX7_readStatement [.ref x0, .ref x1] σ) (fun v1 σ1 => if v1 = (nI 0) then qX7_read_110 E d σ1 else gO E σ1 3 x0 (cI (xthr 1 some) (xsem xT E d kX3_take [.ref x0, .ref (E.1 3)] σ1) (fun v2 σ2 => if v2 = (nI 0) then qX7_read_110 E d σ2 else qX7_read_112 E d x0 x1 (x3 ||| x5) x4 σ2))) := xval_blkQ E (xsem xT E d) 0 0 bX7_read (pc := 87) rfl [(0, .ref x0), (1, .ref x1), (3, .int x3), (4, .int x4), (5, .int x5)] [] σ 0 0
set_option maxRecDepth 100000 in
theorem QX7_read_110 (E : xEn) (d : Nat) (σ : xH) : qX7_read_110 E d σ = xiret [5] (nI 0) (some (.inl (some (.int (nI 0))), σ)) := xval_blkQ E (xsem xT E d) 0 0 bX7_read (pc := 110) rfl [] [] σ 0 0
set_option maxRecDepth 100000 in
theorem QX7_read_112 (E : xEn) (d : Nat) (x0 : Nat) (x1 : Nat) (x3 : Int32) (x4 : Int32) (σ : xH) : qX7_read_112 E d x0 x1 x3 x4 σ = qX7_read_46 E d x0 x1 x3 (x4 + (nI 1)) σ := xval_blkQ E (xsem xT E d) 0 0 bX7_read (pc := 112) rfl [(0, .ref x0), (1, .ref x1), (3, .int x3), (4, .int x4)] [] σ 0 0
set_option maxRecDepth 100000 in
theorem QX7_read_118 (E : xEn) (d : Nat) (σ : xH) : qX7_read_118 E d σ = xiret [5] (nI 1) (some (.inl (some (.int (nI 1))), σ)) := xval_blkQ E (xsem xT E d) 0 0 bX7_read (pc := 118) rfl [] [] σ 0 0
theorem eX7_read (E : xEn) (d : Nat) (x0 : Nat) (x1 : Nat) (σ : xH) : xsem xT E (d + 1) kX7_read [.ref x0, .ref x1] σ = qX7_read_0 E d x0 x1 σ := rfl
noncomputable def qX7_bitOfSingle_0 (E : xEn) (d : Nat) (x0 : Nat) (σ : xH) : Option xR := xval E (xsem xT E d) 0 0 bX7_bitOfSingle (0, [(0, .ref x0)], [], σ, 0, 0)
noncomputable def qX7_bitOfSingle_9 (E : xEn) (d : Nat) (x0 : Nat) (σ : xH) : Option xR := xval E (xsem xT E d) 0 0 bX7_bitOfSingle (9, [(0, .ref x0)], [], σ, 0, 0)
noncomputable def qX7_bitOfSingle_18 (E : xEn) (d : Nat) (x0 : Nat) (σ : xH) : Option xR := xval E (xsem xT E d) 0 0 bX7_bitOfSingle (18, [(0, .ref x0)], [], σ, 0, 0)
noncomputable def qX7_bitOfSingle_27 (E : xEn) (d : Nat) (x0 : Nat) (σ : xH) : Option xR := xval E (xsem xT E d) 0 0 bX7_bitOfSingle (27, [(0, .ref x0)], [], σ, 0, 0)
noncomputable def qX7_bitOfSingle_37 (E : xEn) (d : Nat) (x0 : Nat) (σ : xH) : Option xR := xval E (xsem xT E d) 0 0 bX7_bitOfSingle (37, [(0, .ref x0)], [], σ, 0, 0)
noncomputable def qX7_bitOfSingle_47 (E : xEn) (d : Nat) (x0 : Nat) (σ : xH) : Option xR := xval E (xsem xT E d) 0 0 bX7_bitOfSingle (47, [(0, .ref x0)], [], σ, 0, 0)
noncomputable def qX7_bitOfSingle_59 (E : xEn) (d : Nat) (σ : xH) : Option xR := xval E (xsem xT E d) 0 0 bX7_bitOfSingle (59, [], [], σ, 0, 0)
noncomputable def qX7_bitOfSingle_60 (E : xEn) (d : Nat) (s0 : Int32) (σ : xH) : Option xR := xval E (xsem xT E d) 0 0 bX7_bitOfSingle (60, [], [.int s0], σ, 0, 0)
set_option maxRecDepth 100000 in
theorem QX7_bitOfSingle_0 (E : xEn) (d : Nat) (x0 : Nat) (σ : xH) : qX7_bitOfSingle_0 E d x0 σ = bif Nat.beq x0 (E.1 14) then some (.inl (some (.int (nI 1))), σ) else qX7_bitOfSingle_9 E d x0 σ := xval_blkQ E (xsem xT E d) 0 0 bX7_bitOfSingle (pc := 0) rfl [(0, .ref x0)] [] σ 0 0
set_option maxRecDepth 100000 in
theorem QX7_bitOfSingle_9 (E : xEn) (d : Nat) (x0 : Nat) (σ : xH) : qX7_bitOfSingle_9 E d x0 σ = bif Nat.beq x0 (E.1 16) then some (.inl (some (.int (nI 2))), σ) else qX7_bitOfSingle_18 E d x0 σ := xval_blkQ E (xsem xT E d) 0 0 bX7_bitOfSingle (pc := 9) rfl [(0, .ref x0)] [] σ 0 0
set_option maxRecDepth 100000 in
theorem QX7_bitOfSingle_18 (E : xEn) (d : Nat) (x0 : Nat) (σ : xH) : qX7_bitOfSingle_18 E d x0 σ = bif Nat.beq x0 (E.1 17) then some (.inl (some (.int (nI 4))), σ) else qX7_bitOfSingle_27 E d x0 σ := xval_blkQ E (xsem xT E d) 0 0 bX7_bitOfSingle (pc := 18) rfl [(0, .ref x0)] [] σ 0 0
set_option maxRecDepth 100000 in
theorem QX7_bitOfSingle_27 (E : xEn) (d : Nat) (x0 : Nat) (σ : xH) : qX7_bitOfSingle_27 E d x0 σ = bif Nat.beq x0 (E.1 18) then some (.inl (some (.int (nI 8))), σ) else qX7_bitOfSingle_37 E d x0 σ := xval_blkQ E (xsem xT E d) 0 0 bX7_bitOfSingle (pc := 27) rfl [(0, .ref x0)] [] σ 0 0
set_option maxRecDepth 100000 in
theorem QX7_bitOfSingle_37 (E : xEn) (d : Nat) (x0 : Nat) (σ : xH) : qX7_bitOfSingle_37 E d x0 σ = bif Nat.beq x0 (E.1 19) then some (.inl (some (.int (nI 16))), σ) else qX7_bitOfSingle_47 E d x0 σ := xval_blkQ E (xsem xT E d) 0 0 bX7_bitOfSingle (pc := 37) rfl [(0, .ref x0)] [] σ 0 0
set_option maxRecDepth 100000 in
theorem QX7_bitOfSingle_47 (E : xEn) (d : Nat) (x0 : Nat) (σ : xH) : qX7_bitOfSingle_47 E d x0 σ = bif Nat.beq x0 (E.1 21) then qX7_bitOfSingle_60 E d (nI 32) σ else qX7_bitOfSingle_59 E d σ := xval_blkQ E (xsem xT E d) 0 0 bX7_bitOfSingle (pc := 47) rfl [(0, .ref x0)] [] σ 0 0
set_option maxRecDepth 100000 in
theorem QX7_bitOfSingle_59 (E : xEn) (d : Nat) (σ : xH) : qX7_bitOfSingle_59 E d σ = qX7_bitOfSingle_60 E d (nI 0) σ := xval_blkQ E (xsem xT E d) 0 0 bX7_bitOfSingle (pc := 59) rfl [] [] σ 0 0
set_option maxRecDepth 100000 in
theorem QX7_bitOfSingle_60 (E : xEn) (d : Nat) (s0 : Int32) (σ : xH) : qX7_bitOfSingle_60 E d s0 σ = some (.inl (some (.int s0)), σ) := xval_blkQ E (xsem xT E d) 0 0 bX7_bitOfSingle (pc := 60) rfl [] [.int s0] σ 0 0
theorem eX7_bitOfSingle (E : xEn) (d : Nat) (x0 : Nat) (σ : xH) : xsem xT E (d + 1) kX7_bitOfSingle [.ref x0] σ = qX7_bitOfSingle_0 E d x0 σ := rfl
noncomputable def qX7_readStatement_0 (E : xEn) (d : Nat) (x0 : Nat) (x1 : Nat) (σ : xH) : Option xR := xval E (xsem xT E d) 0 0 bX7_readStatement (0, [(0, .ref x0), (1, .ref x1)], [], σ, 0, 0)
noncomputable def qX7_readStatement_19 (E : xEn) (d : Nat) (x0 : Nat) (x1 : Nat) (σ : xH) : Option xR := xval E (xsem xT E d) 0 0 bX7_readStatement (19, [(0, .ref x0), (1, .ref x1)], [], σ, 0, 0)
noncomputable def qX7_readStatement_38 (E : xEn) (d : Nat) (x0 : Nat) (x1 : Nat) (σ : xH) : Option xR := xval E (xsem xT E d) 0 0 bX7_readStatement (38, [(0, .ref x0), (1, .ref x1)], [], σ, 0, 0)
noncomputable def qX7_readStatement_69 (E : xEn) (d : Nat) (x0 : Nat) (x1 : Nat) (σ : xH) : Option xR := xval E (xsem xT E d) 0 0 bX7_readStatement (69, [(0, .ref x0), (1, .ref x1)], [], σ, 0, 0)
set_option maxRecDepth 100000 in
theorem QX7_readStatement_0 (E : xEn) (d : Nat) (x0 : Nat) (x1 : Nat) (σ : xH) : qX7_readStatement_0 E d x0 x1 σ = gO E σ 3 x0 (cI (xthr 1 some) (xsem xT E d kX3_is [.ref x0, .ref (E.1 15)] σ) (fun v1 σ1 => if v1 = (nI 0) then qX7_readStatement_19 E d x0 x1 σ1 else gR σ1 2 0 x1 (fun v2 => cI (xthr 0 some) (xsem xT E d kX7_readScratches [.ref x0, .ref v2] σ1) (fun v3 σ2 => xiret [5] v3 (some (.inl (some (.int v3)), σ2)))))) := xval_blkQ E (xsem xT E d) 0 0 bX7_readStatement (pc := 0) rfl [(0, .ref x0), (1, .ref x1)] [] σ 0 0
set_option maxRecDepth 100000 in
theorem QX7_readStatement_19 (E : xEn) (d : Nat) (x0 : Nat) (x1 : Nat) (σ : xH) : qX7_readStatement_19 E d x0 x1 σ = gO E σ 3 x0 (cI (xthr 1 some) (xsem xT E d kX3_is [.ref x0, .ref (E.1 20)] σ) (fun v1 σ1 => if v1 = (nI 0) then qX7_readStatement_38 E d x0 x1 σ1 else gR σ1 2 2 x1 (fun v2 => cI (xthr 0 some) (xsem xT E d kX7_readBlink [.ref x0, .ref v2] σ1) (fun v3 σ2 => xiret [5] v3 (some (.inl (some (.int v3)), σ2)))))) := xval_blkQ E (xsem xT E d) 0 0 bX7_readStatement (pc := 19) rfl [(0, .ref x0), (1, .ref x1)] [] σ 0 0
set_option maxRecDepth 100000 in
theorem QX7_readStatement_38 (E : xEn) (d : Nat) (x0 : Nat) (x1 : Nat) (σ : xH) : qX7_readStatement_38 E d x0 x1 σ = gO E σ 3 x0 (cI (xthr 1 some) (xsem xT E d kX3_is [.ref x0, .ref (E.1 21)] σ) (fun v1 σ1 => if v1 = (nI 0) then qX7_readStatement_69 E d x0 x1 σ1 else gO E σ1 3 x0 (cV (xthr 1 some) (xsem xT E d kX3_advance [.ref x0] σ1) (fun σ2 => gR σ2 2 3 x1 (fun v2 => gO E σ2 1 v2 (cV (xthr 1 some) (xsem xT E d kX1_clear [.ref v2] σ2) (fun σ3 => gR σ3 2 3 x1 (fun v3 => gO E σ3 1 v3 (cI (xthr 3 some) (xsem xT E d kX1_readSum [.ref v3, .ref x0, .int (nI 0)] σ3) (fun v4 σ4 => xiret [5] v4 (some (.inl (some (.int v4)), σ4)))))))))))) := xval_blkQ E (xsem xT E d) 0 0 bX7_readStatement (pc := 38) rfl [(0, .ref x0), (1, .ref x1)] [] σ 0 0
set_option maxRecDepth 100000 in
theorem QX7_readStatement_69 (E : xEn) (d : Nat) (x0 : Nat) (x1 : Nat) (σ : xH) : qX7_readStatement_69 E d x0 x1 σ = cI (xthr 0 some) (xsem xT E d kX7_readSetting [.ref x0, .ref x1] σ) (fun v1 σ1 => xiret [5] v1 (some (.inl (some (.int v1)), σ1))) := xval_blkQ E (xsem xT E d) 0 0 bX7_readStatement (pc := 69) rfl [(0, .ref x0), (1, .ref x1)] [] σ 0 0
theorem eX7_readStatement (E : xEn) (d : Nat) (x0 : Nat) (x1 : Nat) (σ : xH) : xsem xT E (d + 1) kX7_readStatement [.ref x0, .ref x1] σ = qX7_readStatement_0 E d x0 x1 σ := rfl
noncomputable def qX7_readScratches_0 (E : xEn) (d : Nat) (x0 : Nat) (x1 : Nat) (σ : xH) : Option xR := xval E (xsem xT E d) 0 0 bX7_readScratches (0, [(0, .ref x0), (1, .ref x1)], [], σ, 0, 0)
noncomputable def qX7_readScratches_14 (E : xEn) (d : Nat) (x0 : Nat) (x1 : Nat) (σ : xH) : Option xR := xval E (xsem xT E d) 0 0 bX7_readScratches (14, [(0, .ref x0), (1, .ref x1)], [], σ, 0, 0)
noncomputable def qX7_readScratches_16 (E : xEn) (d : Nat) (x0 : Nat) (x1 : Nat) (x2 : Int32) (σ : xH) : Option xR := xval E (xsem xT E d) 0 0 bX7_readScratches (16, [(0, .ref x0), (1, .ref x1), (2, .int x2)], [], σ, 0, 0)
noncomputable def qX7_readScratches_43 (E : xEn) (d : Nat) (x0 : Nat) (x1 : Nat) (x2 : Int32) (σ : xH) : Option xR := xval E (xsem xT E d) 0 0 bX7_readScratches (43, [(0, .ref x0), (1, .ref x1), (2, .int x2)], [], σ, 0, 0)
noncomputable def qX7_readScratches_49 (E : xEn) (d : Nat) (σ : xH) : Option xR := xval E (xsem xT E d) 0 0 bX7_readScratches (49, [], [], σ, 0, 0)
set_option maxRecDepth 100000 in
theorem QX7_readScratches_0 (E : xEn) (d : Nat) (x0 : Nat) (x1 : Nat) (σ : xH) : qX7_readScratches_0 E d x0 x1 σ = gO E σ 3 x0 (cV (xthr 1 some) (xsem xT E d kX3_advance [.ref x0] σ) (fun σ1 => cI (xthr 0 some) (xsem xT E d kX7_readScratch [.ref x0, .ref x1] σ1) (fun v1 σ2 => if v1 = (nI 0) then xiret [5] (nI 0) (some (.inl (some (.int (nI 0))), σ2)) else qX7_readScratches_14 E d x0 x1 σ2))) := xval_blkQ E (xsem xT E d) 0 0 bX7_readScratches (pc := 0) rfl [(0, .ref x0), (1, .ref x1)] [] σ 0 0
set_option maxRecDepth 100000 in
theorem QX7_readScratches_14 (E : xEn) (d : Nat) (x0 : Nat) (x1 : Nat) (σ : xH) : qX7_readScratches_14 E d x0 x1 σ = qX7_readScratches_16 E d x0 x1 (nI 0) σ := xval_blkQ E (xsem xT E d) 0 0 bX7_readScratches (pc := 14) rfl [(0, .ref x0), (1, .ref x1)] [] σ 0 0
set_option maxRecDepth 100000 in
theorem QX7_readScratches_16 (E : xEn) (d : Nat) (x0 : Nat) (x1 : Nat) (x2 : Int32) (σ : xH) : qX7_readScratches_16 E d x0 x1 x2 σ = if (nI 500) ≤ x2 then qX7_readScratches_49 E d σ else gO E σ 3 x0 (cI (xthr 1 some) (xsem xT E d kX3_is [.ref x0, .ref (E.1 1)] σ) (fun v1 σ1 => if v1 = (nI 0) then qX7_readScratches_49 E d σ1 else cI (xthr 0 some) (xsem xT E d kX7_readScratch [.ref x0, .ref x1] σ1) (fun v2 σ2 => if v2 = (nI 0) then xiret [5] (nI 0) (some (.inl (some (.int (nI 0))), σ2)) else qX7_readScratches_43 E d x0 x1 x2 σ2))) := xval_blkQ E (xsem xT E d) 0 0 bX7_readScratches (pc := 16) rfl [(0, .ref x0), (1, .ref x1), (2, .int x2)] [] σ 0 0
set_option maxRecDepth 100000 in
theorem QX7_readScratches_43 (E : xEn) (d : Nat) (x0 : Nat) (x1 : Nat) (x2 : Int32) (σ : xH) : qX7_readScratches_43 E d x0 x1 x2 σ = qX7_readScratches_16 E d x0 x1 (x2 + (nI 1)) σ := xval_blkQ E (xsem xT E d) 0 0 bX7_readScratches (pc := 43) rfl [(0, .ref x0), (1, .ref x1), (2, .int x2)] [] σ 0 0
set_option maxRecDepth 100000 in
theorem QX7_readScratches_49 (E : xEn) (d : Nat) (σ : xH) : qX7_readScratches_49 E d σ = xiret [5] (nI 1) (some (.inl (some (.int (nI 1))), σ)) := xval_blkQ E (xsem xT E d) 0 0 bX7_readScratches (pc := 49) rfl [] [] σ 0 0
theorem eX7_readScratches (E : xEn) (d : Nat) (x0 : Nat) (x1 : Nat) (σ : xH) : xsem xT E (d + 1) kX7_readScratches [.ref x0, .ref x1] σ = qX7_readScratches_0 E d x0 x1 σ := rfl
noncomputable def qX7_readScratch_0 (E : xEn) (d : Nat) (x0 : Nat) (x1 : Nat) (σ : xH) : Option xR := xval E (xsem xT E d) 0 0 bX7_readScratch (0, [(0, .ref x0), (1, .ref x1)], [], σ, 0, 0)
noncomputable def qX7_readScratch_28 (E : xEn) (d : Nat) (x0 : Nat) (x1 : Nat) (σ : xH) : Option xR := xval E (xsem xT E d) 0 0 bX7_readScratch (28, [(0, .ref x0), (1, .ref x1)], [], σ, 0, 0)
noncomputable def qX7_readScratch_46 (E : xEn) (d : Nat) (x1 : Nat) (x2 : Int32) (σ : xH) : Option xR := xval E (xsem xT E d) 0 0 bX7_readScratch (46, [(1, .ref x1), (2, .int x2)], [], σ, 0, 0)
set_option maxRecDepth 100000 in
theorem QX7_readScratch_0 (E : xEn) (d : Nat) (x0 : Nat) (x1 : Nat) (σ : xH) : qX7_readScratch_0 E d x0 x1 σ = gO E σ 3 x0 (cI (xthr 1 some) (xsem xT E d kX3_is [.ref x0, .ref (E.1 1)] σ) (fun v1 σ1 => if v1 = (nI 0) then qX7_readScratch_28 E d x0 x1 σ1 else gO E σ1 3 x0 (cI (xthr 1 some) (xsem xT E d kX3_number [.ref x0] σ1) (fun v2 σ2 => gO E σ2 5 x1 (cI (xthr 1 some) (xsem xT E d kX5_isScratched [.ref x1, .int v2] σ2) (fun v3 σ3 => if v3 = (nI 0) then qX7_readScratch_28 E d x0 x1 σ3 else gO E σ3 3 x0 (cI (xthr 1 some) (xsem xT E d kX3_fail [.ref x0, .int (-4 : Int32)] σ3) (fun v4 σ4 => xiret [5] v4 (some (.inl (some (.int v4)), σ4)))))))))) := xval_blkQ E (xsem xT E d) 0 0 bX7_readScratch (pc := 0) rfl [(0, .ref x0), (1, .ref x1)] [] σ 0 0
set_option maxRecDepth 100000 in
theorem QX7_readScratch_28 (E : xEn) (d : Nat) (x0 : Nat) (x1 : Nat) (σ : xH) : qX7_readScratch_28 E d x0 x1 σ = gI σ 5 0 x1 (fun v1 => gO E σ 3 x0 (cI (xthr 1 some) (xsem xT E d kX3_takeNumber [.ref x0, .int (nI 0), .int (v1 - (nI 1))] σ) (fun v2 σ1 => if (nI 0) ≤ v2 then qX7_readScratch_46 E d x1 v2 σ1 else xiret [5] (nI 0) (some (.inl (some (.int (nI 0))), σ1))))) := xval_blkQ E (xsem xT E d) 0 0 bX7_readScratch (pc := 28) rfl [(0, .ref x0), (1, .ref x1)] [] σ 0 0
set_option maxRecDepth 100000 in
theorem QX7_readScratch_46 (E : xEn) (d : Nat) (x1 : Nat) (x2 : Int32) (σ : xH) : qX7_readScratch_46 E d x1 x2 σ = gO E σ 5 x1 (cV (xthr 1 some) (xsem xT E d kX5_setScratched [.ref x1, .int x2, .int (nI 1)] σ) (fun σ1 => xiret [5] (nI 1) (some (.inl (some (.int (nI 1))), σ1)))) := xval_blkQ E (xsem xT E d) 0 0 bX7_readScratch (pc := 46) rfl [(1, .ref x1), (2, .int x2)] [] σ 0 0
theorem eX7_readScratch (E : xEn) (d : Nat) (x0 : Nat) (x1 : Nat) (σ : xH) : xsem xT E (d + 1) kX7_readScratch [.ref x0, .ref x1] σ = qX7_readScratch_0 E d x0 x1 σ := rfl
noncomputable def qX7_readBlink_0 (E : xEn) (d : Nat) (x0 : Nat) (x1 : Nat) (σ : xH) : Option xR := xval E (xsem xT E d) 0 0 bX7_readBlink (0, [(0, .ref x0), (1, .ref x1)], [], σ, 0, 0)
noncomputable def qX7_readBlink_14 (E : xEn) (d : Nat) (x0 : Nat) (x1 : Nat) (σ : xH) : Option xR := xval E (xsem xT E d) 0 0 bX7_readBlink (14, [(0, .ref x0), (1, .ref x1)], [], σ, 0, 0)
noncomputable def qX7_readBlink_33 (E : xEn) (d : Nat) (x0 : Nat) (x1 : Nat) (x2 : Int32) (σ : xH) : Option xR := xval E (xsem xT E d) 0 0 bX7_readBlink (33, [(0, .ref x0), (1, .ref x1), (2, .int x2)], [], σ, 0, 0)
noncomputable def qX7_readBlink_48 (E : xEn) (d : Nat) (x1 : Nat) (x2 : Int32) (x3 : Int32) (σ : xH) : Option xR := xval E (xsem xT E d) 0 0 bX7_readBlink (48, [(1, .ref x1), (2, .int x2), (3, .int x3)], [], σ, 0, 0)
set_option maxRecDepth 100000 in
theorem QX7_readBlink_0 (E : xEn) (d : Nat) (x0 : Nat) (x1 : Nat) (σ : xH) : qX7_readBlink_0 E d x0 x1 σ = gO E σ 0 x1 (cI (xthr 1 some) (xsem xT E d kX0_isFull [.ref x1] σ) (fun v1 σ1 => if v1 = (nI 0) then qX7_readBlink_14 E d x0 x1 σ1 else gO E σ1 3 x0 (cI (xthr 1 some) (xsem xT E d kX3_fail [.ref x0, .int (-5 : Int32)] σ1) (fun v2 σ2 => xiret [5] v2 (some (.inl (some (.int v2)), σ2)))))) := xval_blkQ E (xsem xT E d) 0 0 bX7_readBlink (pc := 0) rfl [(0, .ref x0), (1, .ref x1)] [] σ 0 0
set_option maxRecDepth 100000 in
theorem QX7_readBlink_14 (E : xEn) (d : Nat) (x0 : Nat) (x1 : Nat) (σ : xH) : qX7_readBlink_14 E d x0 x1 σ = gO E σ 3 x0 (cV (xthr 1 some) (xsem xT E d kX3_advance [.ref x0] σ) (fun σ1 => gO E σ1 3 x0 (cI (xthr 1 some) (xsem xT E d kX3_takeNumber [.ref x0, .int (nI 0), .int (nI 9999)] σ1) (fun v1 σ2 => if (nI 0) ≤ v1 then qX7_readBlink_33 E d x0 x1 v1 σ2 else xiret [5] (nI 0) (some (.inl (some (.int (nI 0))), σ2)))))) := xval_blkQ E (xsem xT E d) 0 0 bX7_readBlink (pc := 14) rfl [(0, .ref x0), (1, .ref x1)] [] σ 0 0
set_option maxRecDepth 100000 in
theorem QX7_readBlink_33 (E : xEn) (d : Nat) (x0 : Nat) (x1 : Nat) (x2 : Int32) (σ : xH) : qX7_readBlink_33 E d x0 x1 x2 σ = gO E σ 3 x0 (cI (xthr 1 some) (xsem xT E d kX3_takeNumber [.ref x0, .int x2, .int (nI 9999)] σ) (fun v1 σ1 => if (nI 0) ≤ v1 then qX7_readBlink_48 E d x1 x2 v1 σ1 else xiret [5] (nI 0) (some (.inl (some (.int (nI 0))), σ1)))) := xval_blkQ E (xsem xT E d) 0 0 bX7_readBlink (pc := 33) rfl [(0, .ref x0), (1, .ref x1), (2, .int x2)] [] σ 0 0
set_option maxRecDepth 100000 in
theorem QX7_readBlink_48 (E : xEn) (d : Nat) (x1 : Nat) (x2 : Int32) (x3 : Int32) (σ : xH) : qX7_readBlink_48 E d x1 x2 x3 σ = gO E σ 0 x1 (cV (xthr 1 some) (xsem xT E d kX0_tell [.ref x1, .int x2, .int x3] σ) (fun σ1 => xiret [5] (nI 1) (some (.inl (some (.int (nI 1))), σ1)))) := xval_blkQ E (xsem xT E d) 0 0 bX7_readBlink (pc := 48) rfl [(1, .ref x1), (2, .int x2), (3, .int x3)] [] σ 0 0
theorem eX7_readBlink (E : xEn) (d : Nat) (x0 : Nat) (x1 : Nat) (σ : xH) : xsem xT E (d + 1) kX7_readBlink [.ref x0, .ref x1] σ = qX7_readBlink_0 E d x0 x1 σ := rfl
noncomputable def qX7_readSetting_0 (E : xEn) (d : Nat) (x0 : Nat) (x1 : Nat) (σ : xH) : Option xR := xval E (xsem xT E d) 0 0 bX7_readSetting (0, [(0, .ref x0), (1, .ref x1)], [], σ, 0, 0)
noncomputable def qX7_readSetting_22 (E : xEn) (d : Nat) (x0 : Nat) (x1 : Nat) (x2 : Nat) (x3 : Int32) (σ : xH) : Option xR := xval E (xsem xT E d) 0 0 bX7_readSetting (22, [(0, .ref x0), (1, .ref x1), (2, .ref x2), (3, .int x3)], [], σ, 0, 0)
noncomputable def qX7_readSetting_40 (E : xEn) (d : Nat) (x0 : Nat) (x1 : Nat) (x2 : Nat) (x3 : Int32) (σ : xH) : Option xR := xval E (xsem xT E d) 0 0 bX7_readSetting (40, [(0, .ref x0), (1, .ref x1), (2, .ref x2), (3, .int x3)], [], σ, 0, 0)
noncomputable def qX7_readSetting_44 (E : xEn) (d : Nat) (x0 : Nat) (x1 : Nat) (x2 : Nat) (x3 : Int32) (σ : xH) : Option xR := xval E (xsem xT E d) 0 0 bX7_readSetting (44, [(0, .ref x0), (1, .ref x1), (2, .ref x2), (3, .int x3)], [], σ, 0, 0)
noncomputable def qX7_readSetting_45 (E : xEn) (d : Nat) (x0 : Nat) (x1 : Nat) (x2 : Nat) (x3 : Int32) (s0 : Int32) (σ : xH) : Option xR := xval E (xsem xT E d) 0 0 bX7_readSetting (45, [(0, .ref x0), (1, .ref x1), (2, .ref x2), (3, .int x3)], [.int s0], σ, 0, 0)
noncomputable def qX7_readSetting_63 (E : xEn) (d : Nat) (x1 : Nat) (x2 : Nat) (x5 : Int32) (σ : xH) : Option xR := xval E (xsem xT E d) 0 0 bX7_readSetting (63, [(1, .ref x1), (2, .ref x2), (5, .int x5)], [], σ, 0, 0)
set_option maxRecDepth 100000 in
theorem QX7_readSetting_0 (E : xEn) (d : Nat) (x0 : Nat) (x1 : Nat) (σ : xH) : qX7_readSetting_0 E d x0 x1 σ = gO E σ 3 x0 (cA (xthr 1 some) (xsem xT E d kX3_token [.ref x0] σ) (fun v1 σ1 => cI (xthr 0 some) (xsem xT E d kX7_greatestOf [.ref v1, .ref x1] σ1) (fun v2 σ2 => if (nI 0) ≤ v2 then qX7_readSetting_22 E d x0 x1 v1 v2 σ2 else gO E σ2 3 x0 (cI (xthr 1 some) (xsem xT E d kX3_fail [.ref x0, .int (-2 : Int32)] σ2) (fun v3 σ3 => xiret [5] v3 (some (.inl (some (.int v3)), σ3))))))) := xval_blkQ E (xsem xT E d) 0 0 bX7_readSetting (pc := 0) rfl [(0, .ref x0), (1, .ref x1)] [] σ 0 0
set_option maxRecDepth 100000 in
theorem QX7_readSetting_22 (E : xEn) (d : Nat) (x0 : Nat) (x1 : Nat) (x2 : Nat) (x3 : Int32) (σ : xH) : qX7_readSetting_22 E d x0 x1 x2 x3 σ = gO E σ 3 x0 (cV (xthr 1 some) (xsem xT E d kX3_advance [.ref x0] σ) (fun σ1 => bif Nat.beq x2 (E.1 16) then qX7_readSetting_40 E d x0 x1 x2 x3 σ1 else bif Nat.beq x2 (E.1 17) then qX7_readSetting_40 E d x0 x1 x2 x3 σ1 else qX7_readSetting_44 E d x0 x1 x2 x3 σ1)) := xval_blkQ E (xsem xT E d) 0 0 bX7_readSetting (pc := 22) rfl [(0, .ref x0), (1, .ref x1), (2, .ref x2), (3, .int x3)] [] σ 0 0
set_option maxRecDepth 100000 in
theorem QX7_readSetting_40 (E : xEn) (d : Nat) (x0 : Nat) (x1 : Nat) (x2 : Nat) (x3 : Int32) (σ : xH) : qX7_readSetting_40 E d x0 x1 x2 x3 σ = qX7_readSetting_45 E d x0 x1 x2 x3 (nI 1) σ := xval_blkQ E (xsem xT E d) 0 0 bX7_readSetting (pc := 40) rfl [(0, .ref x0), (1, .ref x1), (2, .ref x2), (3, .int x3)] [] σ 0 0
set_option maxRecDepth 100000 in
theorem QX7_readSetting_44 (E : xEn) (d : Nat) (x0 : Nat) (x1 : Nat) (x2 : Nat) (x3 : Int32) (σ : xH) : qX7_readSetting_44 E d x0 x1 x2 x3 σ = qX7_readSetting_45 E d x0 x1 x2 x3 (nI 0) σ := xval_blkQ E (xsem xT E d) 0 0 bX7_readSetting (pc := 44) rfl [(0, .ref x0), (1, .ref x1), (2, .ref x2), (3, .int x3)] [] σ 0 0
set_option maxRecDepth 100000 in
theorem QX7_readSetting_45 (E : xEn) (d : Nat) (x0 : Nat) (x1 : Nat) (x2 : Nat) (x3 : Int32) (s0 : Int32) (σ : xH) : qX7_readSetting_45 E d x0 x1 x2 x3 s0 σ = gO E σ 3 x0 (cI (xthr 1 some) (xsem xT E d kX3_takeNumber [.ref x0, .int s0, .int x3] σ) (fun v1 σ1 => if (nI 0) ≤ v1 then qX7_readSetting_63 E d x1 x2 v1 σ1 else xiret [5] (nI 0) (some (.inl (some (.int (nI 0))), σ1)))) := xval_blkQ E (xsem xT E d) 0 0 bX7_readSetting (pc := 45) rfl [(0, .ref x0), (1, .ref x1), (2, .ref x2), (3, .int x3)] [.int s0] σ 0 0
set_option maxRecDepth 100000 in
theorem QX7_readSetting_63 (E : xEn) (d : Nat) (x1 : Nat) (x2 : Nat) (x5 : Int32) (σ : xH) : qX7_readSetting_63 E d x1 x2 x5 σ = cV (xthr 0 some) (xsem xT E d kX7_set [.ref x1, .ref x2, .int x5] σ) (fun σ1 => xiret [5] (nI 1) (some (.inl (some (.int (nI 1))), σ1))) := xval_blkQ E (xsem xT E d) 0 0 bX7_readSetting (pc := 63) rfl [(1, .ref x1), (2, .ref x2), (5, .int x5)] [] σ 0 0
theorem eX7_readSetting (E : xEn) (d : Nat) (x0 : Nat) (x1 : Nat) (σ : xH) : xsem xT E (d + 1) kX7_readSetting [.ref x0, .ref x1] σ = qX7_readSetting_0 E d x0 x1 σ := rfl
noncomputable def qX7_greatestOf_0 (E : xEn) (d : Nat) (x0 : Nat) (x1 : Nat) (σ : xH) : Option xR := xval E (xsem xT E d) 0 0 bX7_greatestOf (0, [(0, .ref x0), (1, .ref x1)], [], σ, 0, 0)
noncomputable def qX7_greatestOf_17 (E : xEn) (d : Nat) (x0 : Nat) (σ : xH) : Option xR := xval E (xsem xT E d) 0 0 bX7_greatestOf (17, [(0, .ref x0)], [], σ, 0, 0)
noncomputable def qX7_greatestOf_27 (E : xEn) (d : Nat) (x0 : Nat) (σ : xH) : Option xR := xval E (xsem xT E d) 0 0 bX7_greatestOf (27, [(0, .ref x0)], [], σ, 0, 0)
noncomputable def qX7_greatestOf_37 (E : xEn) (d : Nat) (x0 : Nat) (σ : xH) : Option xR := xval E (xsem xT E d) 0 0 bX7_greatestOf (37, [(0, .ref x0)], [], σ, 0, 0)
noncomputable def qX7_greatestOf_47 (E : xEn) (d : Nat) (x0 : Nat) (σ : xH) : Option xR := xval E (xsem xT E d) 0 0 bX7_greatestOf (47, [(0, .ref x0)], [], σ, 0, 0)
noncomputable def qX7_greatestOf_60 (E : xEn) (d : Nat) (σ : xH) : Option xR := xval E (xsem xT E d) 0 0 bX7_greatestOf (60, [], [], σ, 0, 0)
noncomputable def qX7_greatestOf_61 (E : xEn) (d : Nat) (s0 : Int32) (σ : xH) : Option xR := xval E (xsem xT E d) 0 0 bX7_greatestOf (61, [], [.int s0], σ, 0, 0)
set_option maxRecDepth 100000 in
theorem QX7_greatestOf_0 (E : xEn) (d : Nat) (x0 : Nat) (x1 : Nat) (σ : xH) : qX7_greatestOf_0 E d x0 x1 σ = bif Nat.beq x0 (E.1 14) then gR σ 2 0 x1 (fun v1 => gI σ 5 0 v1 (fun v2 => some (.inl (some (.int (v2 - (nI 1)))), σ))) else qX7_greatestOf_17 E d x0 σ := xval_blkQ E (xsem xT E d) 0 0 bX7_greatestOf (pc := 0) rfl [(0, .ref x0), (1, .ref x1)] [] σ 0 0
set_option maxRecDepth 100000 in
theorem QX7_greatestOf_17 (E : xEn) (d : Nat) (x0 : Nat) (σ : xH) : qX7_greatestOf_17 E d x0 σ = bif Nat.beq x0 (E.1 16) then some (.inl (some (.int (nI 99))), σ) else qX7_greatestOf_27 E d x0 σ := xval_blkQ E (xsem xT E d) 0 0 bX7_greatestOf (pc := 17) rfl [(0, .ref x0)] [] σ 0 0
set_option maxRecDepth 100000 in
theorem QX7_greatestOf_27 (E : xEn) (d : Nat) (x0 : Nat) (σ : xH) : qX7_greatestOf_27 E d x0 σ = bif Nat.beq x0 (E.1 17) then some (.inl (some (.int (nI 9))), σ) else qX7_greatestOf_37 E d x0 σ := xval_blkQ E (xsem xT E d) 0 0 bX7_greatestOf (pc := 27) rfl [(0, .ref x0)] [] σ 0 0
set_option maxRecDepth 100000 in
theorem QX7_greatestOf_37 (E : xEn) (d : Nat) (x0 : Nat) (σ : xH) : qX7_greatestOf_37 E d x0 σ = bif Nat.beq x0 (E.1 18) then some (.inl (some (.int (nI 9))), σ) else qX7_greatestOf_47 E d x0 σ := xval_blkQ E (xsem xT E d) 0 0 bX7_greatestOf (pc := 37) rfl [(0, .ref x0)] [] σ 0 0
set_option maxRecDepth 100000 in
theorem QX7_greatestOf_47 (E : xEn) (d : Nat) (x0 : Nat) (σ : xH) : qX7_greatestOf_47 E d x0 σ = bif Nat.beq x0 (E.1 19) then qX7_greatestOf_61 E d (nI 9999) σ else qX7_greatestOf_60 E d σ := xval_blkQ E (xsem xT E d) 0 0 bX7_greatestOf (pc := 47) rfl [(0, .ref x0)] [] σ 0 0
set_option maxRecDepth 100000 in
theorem QX7_greatestOf_60 (E : xEn) (d : Nat) (σ : xH) : qX7_greatestOf_60 E d σ = qX7_greatestOf_61 E d (-1 : Int32) σ := xval_blkQ E (xsem xT E d) 0 0 bX7_greatestOf (pc := 60) rfl [] [] σ 0 0
set_option maxRecDepth 100000 in
theorem QX7_greatestOf_61 (E : xEn) (d : Nat) (s0 : Int32) (σ : xH) : qX7_greatestOf_61 E d s0 σ = some (.inl (some (.int s0)), σ) := xval_blkQ E (xsem xT E d) 0 0 bX7_greatestOf (pc := 61) rfl [] [.int s0] σ 0 0
theorem eX7_greatestOf (E : xEn) (d : Nat) (x0 : Nat) (x1 : Nat) (σ : xH) : xsem xT E (d + 1) kX7_greatestOf [.ref x0, .ref x1] σ = qX7_greatestOf_0 E d x0 x1 σ := rfl
noncomputable def qX7_set_0 (E : xEn) (d : Nat) (x0 : Nat) (x1 : Nat) (x2 : Int32) (σ : xH) : Option xR := xval E (xsem xT E d) 0 0 bX7_set (0, [(0, .ref x0), (1, .ref x1), (2, .int x2)], [], σ, 0, 0)
noncomputable def qX7_set_26 (E : xEn) (d : Nat) (x0 : Nat) (x1 : Nat) (x2 : Int32) (σ : xH) : Option xR := xval E (xsem xT E d) 0 0 bX7_set (26, [(0, .ref x0), (1, .ref x1), (2, .int x2)], [], σ, 0, 0)
noncomputable def qX7_set_44 (E : xEn) (d : Nat) (x0 : Nat) (x1 : Nat) (x2 : Int32) (σ : xH) : Option xR := xval E (xsem xT E d) 0 0 bX7_set (44, [(0, .ref x0), (1, .ref x1), (2, .int x2)], [], σ, 0, 0)
noncomputable def qX7_set_62 (E : xEn) (d : Nat) (x0 : Nat) (x1 : Nat) (x2 : Int32) (σ : xH) : Option xR := xval E (xsem xT E d) 0 0 bX7_set (62, [(0, .ref x0), (1, .ref x1), (2, .int x2)], [], σ, 0, 0)
noncomputable def qX7_set_80 (E : xEn) (d : Nat) (x0 : Nat) (x1 : Nat) (x2 : Int32) (σ : xH) : Option xR := xval E (xsem xT E d) 0 0 bX7_set (80, [(0, .ref x0), (1, .ref x1), (2, .int x2)], [], σ, 0, 0)
noncomputable def qX7_set_92 (E : xEn) (d : Nat) (σ : xH) : Option xR := xval E (xsem xT E d) 0 0 bX7_set (92, [], [], σ, 0, 0)
set_option maxRecDepth 100000 in
theorem QX7_set_0 (E : xEn) (d : Nat) (x0 : Nat) (x1 : Nat) (x2 : Int32) (σ : xH) : qX7_set_0 E d x0 x1 x2 σ = bif Nat.beq x1 (E.1 14) then gR σ 2 0 x0 (fun v1 => gP σ 5 1 v1 (.int x2) (fun σ1 => gR σ1 2 1 x0 (fun v2 => gO E σ1 4 v2 (cV (xthr 1 some) (xsem xT E d kX4_know [.ref v2, .int x2] σ1) (fun σ2 => qX7_set_92 E d σ2))))) else qX7_set_26 E d x0 x1 x2 σ := xval_blkQ E (xsem xT E d) 0 0 bX7_set (pc := 0) rfl [(0, .ref x0), (1, .ref x1), (2, .int x2)] [] σ 0 0
set_option maxRecDepth 100000 in
theorem QX7_set_26 (E : xEn) (d : Nat) (x0 : Nat) (x1 : Nat) (x2 : Int32) (σ : xH) : qX7_set_26 E d x0 x1 x2 σ = bif Nat.beq x1 (E.1 16) then gR σ 2 1 x0 (fun v1 => gP σ 4 2 v1 (.int x2) (fun σ1 => qX7_set_92 E d σ1)) else qX7_set_44 E d x0 x1 x2 σ := xval_blkQ E (xsem xT E d) 0 0 bX7_set (pc := 26) rfl [(0, .ref x0), (1, .ref x1), (2, .int x2)] [] σ 0 0
set_option maxRecDepth 100000 in
theorem QX7_set_44 (E : xEn) (d : Nat) (x0 : Nat) (x1 : Nat) (x2 : Int32) (σ : xH) : qX7_set_44 E d x0 x1 x2 σ = bif Nat.beq x1 (E.1 17) then gR σ 2 1 x0 (fun v1 => gP σ 4 3 v1 (.int x2) (fun σ1 => qX7_set_92 E d σ1)) else qX7_set_62 E d x0 x1 x2 σ := xval_blkQ E (xsem xT E d) 0 0 bX7_set (pc := 44) rfl [(0, .ref x0), (1, .ref x1), (2, .int x2)] [] σ 0 0
set_option maxRecDepth 100000 in
theorem QX7_set_62 (E : xEn) (d : Nat) (x0 : Nat) (x1 : Nat) (x2 : Int32) (σ : xH) : qX7_set_62 E d x0 x1 x2 σ = bif Nat.beq x1 (E.1 18) then gR σ 2 1 x0 (fun v1 => gP σ 4 4 v1 (.int x2) (fun σ1 => qX7_set_92 E d σ1)) else qX7_set_80 E d x0 x1 x2 σ := xval_blkQ E (xsem xT E d) 0 0 bX7_set (pc := 62) rfl [(0, .ref x0), (1, .ref x1), (2, .int x2)] [] σ 0 0
set_option maxRecDepth 100000 in
theorem QX7_set_80 (E : xEn) (d : Nat) (x0 : Nat) (x1 : Nat) (x2 : Int32) (σ : xH) : qX7_set_80 E d x0 x1 x2 σ = bif Nat.beq x1 (E.1 19) then gP σ 2 6 x0 (.int x2) (fun σ1 => qX7_set_92 E d σ1) else qX7_set_92 E d σ := xval_blkQ E (xsem xT E d) 0 0 bX7_set (pc := 80) rfl [(0, .ref x0), (1, .ref x1), (2, .int x2)] [] σ 0 0
set_option maxRecDepth 100000 in
theorem QX7_set_92 (E : xEn) (d : Nat) (σ : xH) : qX7_set_92 E d σ = some (.inl none, σ) := xval_blkQ E (xsem xT E d) 0 0 bX7_set (pc := 92) rfl [] [] σ 0 0
theorem eX7_set (E : xEn) (d : Nat) (x0 : Nat) (x1 : Nat) (x2 : Int32) (σ : xH) : xsem xT E (d + 1) kX7_set [.ref x0, .ref x1, .int x2] σ = qX7_set_0 E d x0 x1 x2 σ := rfl
noncomputable def qX9_init_0 (E : xEn) (d : Nat) (bc bs : Nat) (x0 : Nat) (σ : xH) : Option xR := xval E (xsem xT E d) 2 14 bX9_init (0, [(0, .ref x0)], [], σ, bc, bs)
set_option maxRecDepth 100000 in
theorem QX9_init_0 (E : xEn) (d : Nat) (bc bs : Nat) (x0 : Nat) (σ : xH) : qX9_init_0 E d bc bs x0 σ = bif Nat.ble (bc + 1) 2 && Nat.ble (bs + 5) 14 then nwO σ 4 5 (fun v1 σ1 => bif Nat.ble ((bc + 1) + 1) 2 && Nat.ble ((bs + 5) + 9) 14 then gO E σ1 4 v1 (cV (xthr 4 some) (xsem xT E d kX4_init [.ref v1] σ1) (fun σ2 => gP σ2 7 0 x0 (.ref v1) (fun σ3 => some (.inl none, σ3)))) else none) else none := xval_blkQ E (xsem xT E d) 2 14 bX9_init (pc := 0) rfl [(0, .ref x0)] [] σ bc bs
theorem eX9_init (E : xEn) (d : Nat) (x0 : Nat) (σ : xH) : xsem xT E (d + 1) kX9_init [.ref x0] σ = qX9_init_0 E d 0 0 x0 σ := rfl
