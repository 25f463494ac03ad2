/-! EQUATIONS OF THE BLOCKS, written by wip/p31/geneq.py. -/
noncomputable def qX0_init_0 (E : xEn) (d : Nat) (bc bs : Nat) (x0 : Nat) (σ : xH) : Option xR := xval E (xsem xT E d) 2 16 bX0_init (0, [(0, .ref x0)], [], σ, bc, bs)
set_option maxRecDepth 100000 in
theorem QX0_init_0 (E : xEn) (d : Nat) (bc bs : Nat) (x0 : Nat) (σ : xH) : qX0_init_0 E d bc bs x0 σ = bif Nat.ble (bc + 1) 2 && (Nat.ble (bs + 8) 16 && Nat.ble 8 100000) then nwA σ 0 8 (fun v1 σ1 => gP σ1 0 0 x0 (.ref v1) (fun σ2 => bif Nat.ble ((bc + 1) + 1) 2 && (Nat.ble ((bs + 8) + 8) 16 && Nat.ble 8 100000) then nwA σ2 0 8 (fun v2 σ3 => gP σ3 0 1 x0 (.ref v2) (fun σ4 => some (.inl none, σ4))) else none)) else none := xval_blkQ E (xsem xT E d) 2 16 bX0_init (pc := 0) rfl [(0, .ref x0)] [] σ bc bs
theorem eX0_init (E : xEn) (d : Nat) (x0 : Nat) (σ : xH) : xsem xT E (d + 1) kX0_init [.ref x0] σ = qX0_init_0 E d 0 0 x0 σ := rfl
noncomputable def qX0_clear_0 (E : xEn) (d : Nat) (x0 : Nat) (σ : xH) : Option xR := xval E (xsem xT E d) 0 0 bX0_clear (0, [(0, .ref x0)], [], σ, 0, 0)
set_option maxRecDepth 100000 in
theorem QX0_clear_0 (E : xEn) (d : Nat) (x0 : Nat) (σ : xH) : qX0_clear_0 E d x0 σ = gP σ 0 2 x0 (.int (nI 0)) (fun σ1 => some (.inl none, σ1)) := xval_blkQ E (xsem xT E d) 0 0 bX0_clear (pc := 0) rfl [(0, .ref x0)] [] σ 0 0
theorem eX0_clear (E : xEn) (d : Nat) (x0 : Nat) (σ : xH) : xsem xT E (d + 1) kX0_clear [.ref x0] σ = qX0_clear_0 E d x0 σ := rfl
noncomputable def qX0_copyFrom_0 (E : xEn) (d : Nat) (x0 : Nat) (x1 : Nat) (σ : xH) : Option xR := xval E (xsem xT E d) 0 0 bX0_copyFrom (0, [(0, .ref x0), (1, .ref x1)], [], σ, 0, 0)
set_option maxRecDepth 100000 in
theorem QX0_copyFrom_0 (E : xEn) (d : Nat) (x0 : Nat) (x1 : Nat) (σ : xH) : qX0_copyFrom_0 E d x0 x1 σ = gI σ 0 2 x1 (fun v1 => gP σ 0 2 x0 (.int v1) (fun σ1 => gR σ1 0 0 x1 (fun v2 => gR σ1 0 0 x0 (fun v3 => gI σ1 0 2 x0 (fun v4 => cpI E σ1 v2 (nI 0) v3 (nI 0) v4 (fun σ2 => gR σ2 0 1 x1 (fun v5 => gR σ2 0 1 x0 (fun v6 => gI σ2 0 2 x0 (fun v7 => cpI E σ2 v5 (nI 0) v6 (nI 0) v7 (fun σ3 => some (.inl none, σ3))))))))))) := xval_blkQ E (xsem xT E d) 0 0 bX0_copyFrom (pc := 0) rfl [(0, .ref x0), (1, .ref x1)] [] σ 0 0
theorem eX0_copyFrom (E : xEn) (d : Nat) (x0 : Nat) (x1 : Nat) (σ : xH) : xsem xT E (d + 1) kX0_copyFrom [.ref x0, .ref x1] σ = qX0_copyFrom_0 E d x0 x1 σ := rfl
noncomputable def qX0_isFull_0 (E : xEn) (d : Nat) (x0 : Nat) (σ : xH) : Option xR := xval E (xsem xT E d) 0 0 bX0_isFull (0, [(0, .ref x0)], [], σ, 0, 0)
noncomputable def qX0_isFull_13 (E : xEn) (d : Nat) (σ : xH) : Option xR := xval E (xsem xT E d) 0 0 bX0_isFull (13, [], [], σ, 0, 0)
noncomputable def qX0_isFull_14 (E : xEn) (d : Nat) (s0 : Int32) (σ : xH) : Option xR := xval E (xsem xT E d) 0 0 bX0_isFull (14, [], [.int s0], σ, 0, 0)
set_option maxRecDepth 100000 in
theorem QX0_isFull_0 (E : xEn) (d : Nat) (x0 : Nat) (σ : xH) : qX0_isFull_0 E d x0 σ = gI σ 0 2 x0 (fun v1 => if v1 < (nI 8) then qX0_isFull_13 E d σ else qX0_isFull_14 E d (nI 1) σ) := xval_blkQ E (xsem xT E d) 0 0 bX0_isFull (pc := 0) rfl [(0, .ref x0)] [] σ 0 0
set_option maxRecDepth 100000 in
theorem QX0_isFull_13 (E : xEn) (d : Nat) (σ : xH) : qX0_isFull_13 E d σ = qX0_isFull_14 E d (nI 0) σ := xval_blkQ E (xsem xT E d) 0 0 bX0_isFull (pc := 13) rfl [] [] σ 0 0
set_option maxRecDepth 100000 in
theorem QX0_isFull_14 (E : xEn) (d : Nat) (s0 : Int32) (σ : xH) : qX0_isFull_14 E d s0 σ = xiret [5] s0 (some (.inl (some (.int s0)), σ)) := xval_blkQ E (xsem xT E d) 0 0 bX0_isFull (pc := 14) rfl [] [.int s0] σ 0 0
theorem eX0_isFull (E : xEn) (d : Nat) (x0 : Nat) (σ : xH) : xsem xT E (d + 1) kX0_isFull [.ref x0] σ = qX0_isFull_0 E d x0 σ := rfl
noncomputable def qX0_tell_0 (E : xEn) (d : Nat) (x0 : Nat) (x1 : Int32) (x2 : Int32) (σ : xH) : Option xR := xval E (xsem xT E d) 0 0 bX0_tell (0, [(0, .ref x0), (1, .int x1), (2, .int x2)], [], σ, 0, 0)
noncomputable def qX0_tell_42 (E : xEn) (d : Nat) (σ : xH) : Option xR := xval E (xsem xT E d) 0 0 bX0_tell (42, [], [], σ, 0, 0)
set_option maxRecDepth 100000 in
theorem QX0_tell_0 (E : xEn) (d : Nat) (x0 : Nat) (x1 : Int32) (x2 : Int32) (σ : xH) : qX0_tell_0 E d x0 x1 x2 σ = gI σ 0 2 x0 (fun v1 => gR σ 0 0 x0 (fun v2 => aN E σ v2 (fun v3 => if v3 ≤ v1 then qX0_tell_42 E d σ else gR σ 0 0 x0 (fun v4 => gI σ 0 2 x0 (fun v5 => sI σ v4 v5 x1 (fun σ1 => gR σ1 0 1 x0 (fun v6 => gI σ1 0 2 x0 (fun v7 => sI σ1 v6 v7 x2 (fun σ2 => gI σ2 0 2 x0 (fun v8 => gP σ2 0 2 x0 (.int (v8 + (nI 1))) (fun σ3 => qX0_tell_42 E d σ3))))))))))) := xval_blkQ E (xsem xT E d) 0 0 bX0_tell (pc := 0) rfl [(0, .ref x0), (1, .int x1), (2, .int x2)] [] σ 0 0
set_option maxRecDepth 100000 in
theorem QX0_tell_42 (E : xEn) (d : Nat) (σ : xH) : qX0_tell_42 E d σ = some (.inl none, σ) := xval_blkQ E (xsem xT E d) 0 0 bX0_tell (pc := 42) rfl [] [] σ 0 0
theorem eX0_tell (E : xEn) (d : Nat) (x0 : Nat) (x1 : Int32) (x2 : Int32) (σ : xH) : xsem xT E (d + 1) kX0_tell [.ref x0, .int x1, .int x2] σ = qX0_tell_0 E d x0 x1 x2 σ := rfl
noncomputable def qX0_has_0 (E : xEn) (d : Nat) (x0 : Nat) (x1 : Int32) (σ : xH) : Option xR := xval E (xsem xT E d) 0 0 bX0_has (0, [(0, .ref x0), (1, .int x1)], [], σ, 0, 0)
noncomputable def qX0_has_2 (E : xEn) (d : Nat) (x0 : Nat) (x1 : Int32) (x2 : Int32) (σ : xH) : Option xR := xval E (xsem xT E d) 0 0 bX0_has (2, [(0, .ref x0), (1, .int x1), (2, .int x2)], [], σ, 0, 0)
noncomputable def qX0_has_32 (E : xEn) (d : Nat) (x0 : Nat) (x1 : Int32) (x2 : Int32) (σ : xH) : Option xR := xval E (xsem xT E d) 0 0 bX0_has (32, [(0, .ref x0), (1, .int x1), (2, .int x2)], [], σ, 0, 0)
noncomputable def qX0_has_38 (E : xEn) (d : Nat) (σ : xH) : Option xR := xval E (xsem xT E d) 0 0 bX0_has (38, [], [], σ, 0, 0)
set_option maxRecDepth 100000 in
theorem QX0_has_0 (E : xEn) (d : Nat) (x0 : Nat) (x1 : Int32) (σ : xH) : qX0_has_0 E d x0 x1 σ = qX0_has_2 E d x0 x1 (nI 0) σ := xval_blkQ E (xsem xT E d) 0 0 bX0_has (pc := 0) rfl [(0, .ref x0), (1, .int x1)] [] σ 0 0
set_option maxRecDepth 100000 in
theorem QX0_has_2 (E : xEn) (d : Nat) (x0 : Nat) (x1 : Int32) (x2 : Int32) (σ : xH) : qX0_has_2 E d x0 x1 x2 σ = gI σ 0 2 x0 (fun v1 => if v1 ≤ x2 then qX0_has_38 E d σ else gR σ 0 0 x0 (fun v2 => aI E σ v2 x2 (fun v3 => if x1 < v3 then qX0_has_32 E d x0 x1 x2 σ else gR σ 0 1 x0 (fun v4 => aI E σ v4 x2 (fun v5 => if v5 < x1 then qX0_has_32 E d x0 x1 x2 σ else xiret [5] (nI 1) (some (.inl (some (.int (nI 1))), σ))))))) := xval_blkQ E (xsem xT E d) 0 0 bX0_has (pc := 2) rfl [(0, .ref x0), (1, .int x1), (2, .int x2)] [] σ 0 0
set_option maxRecDepth 100000 in
theorem QX0_has_32 (E : xEn) (d : Nat) (x0 : Nat) (x1 : Int32) (x2 : Int32) (σ : xH) : qX0_has_32 E d x0 x1 x2 σ = qX0_has_2 E d x0 x1 (x2 + (nI 1)) σ := xval_blkQ E (xsem xT E d) 0 0 bX0_has (pc := 32) rfl [(0, .ref x0), (1, .int x1), (2, .int x2)] [] σ 0 0
set_option maxRecDepth 100000 in
theorem QX0_has_38 (E : xEn) (d : Nat) (σ : xH) : qX0_has_38 E d σ = xiret [5] (nI 0) (some (.inl (some (.int (nI 0))), σ)) := xval_blkQ E (xsem xT E d) 0 0 bX0_has (pc := 38) rfl [] [] σ 0 0
theorem eX0_has (E : xEn) (d : Nat) (x0 : Nat) (x1 : Int32) (σ : xH) : xsem xT E (d + 1) kX0_has [.ref x0, .int x1] σ = qX0_has_0 E d x0 x1 σ := rfl
noncomputable def qX1_init_0 (E : xEn) (d : Nat) (bc bs : Nat) (x0 : Nat) (σ : xH) : Option xR := xval E (xsem xT E d) 2 511 bX1_init (0, [(0, .ref x0)], [], σ, bc, bs)
set_option maxRecDepth 100000 in
theorem QX1_init_0 (E : xEn) (d : Nat) (bc bs : Nat) (x0 : Nat) (σ : xH) : qX1_init_0 E d bc bs x0 σ = bif Nat.ble (bc + 1) 2 && (Nat.ble (bs + 500) 511 && Nat.ble 500 100000) then nwA σ 0 500 (fun v1 σ1 => gP σ1 1 0 x0 (.ref v1) (fun σ2 => bif Nat.ble ((bc + 1) + 1) 2 && (Nat.ble ((bs + 500) + 11) 511 && Nat.ble 11 100000) then nwA σ2 0 11 (fun v2 σ3 => gP σ3 1 2 x0 (.ref v2) (fun σ4 => some (.inl none, σ4))) else none)) else none := xval_blkQ E (xsem xT E d) 2 511 bX1_init (pc := 0) rfl [(0, .ref x0)] [] σ bc bs
theorem eX1_init (E : xEn) (d : Nat) (x0 : Nat) (σ : xH) : xsem xT E (d + 1) kX1_init [.ref x0] σ = qX1_init_0 E d 0 0 x0 σ := rfl
noncomputable def qX1_clear_0 (E : xEn) (d : Nat) (x0 : Nat) (σ : xH) : Option xR := xval E (xsem xT E d) 0 0 bX1_clear (0, [(0, .ref x0)], [], σ, 0, 0)
set_option maxRecDepth 100000 in
theorem QX1_clear_0 (E : xEn) (d : Nat) (x0 : Nat) (σ : xH) : qX1_clear_0 E d x0 σ = gP σ 1 1 x0 (.int (nI 0)) (fun σ1 => some (.inl none, σ1)) := xval_blkQ E (xsem xT E d) 0 0 bX1_clear (pc := 0) rfl [(0, .ref x0)] [] σ 0 0
theorem eX1_clear (E : xEn) (d : Nat) (x0 : Nat) (σ : xH) : xsem xT E (d + 1) kX1_clear [.ref x0] σ = qX1_clear_0 E d x0 σ := rfl
noncomputable def qX1_reset_0 (E : xEn) (d : Nat) (x0 : Nat) (σ : xH) : Option xR := xval E (xsem xT E d) 0 0 bX1_reset (0, [(0, .ref x0)], [], σ, 0, 0)
set_option maxRecDepth 100000 in
theorem QX1_reset_0 (E : xEn) (d : Nat) (x0 : Nat) (σ : xH) : qX1_reset_0 E d x0 σ = gO E σ 1 x0 (cV (xthr 1 some) (xsem xT E d kX1_clear [.ref x0] σ) (fun σ1 => gO E σ1 1 x0 (cV (xthr 1 some) (xsem xT E d kX1_put [.ref x0, .int (-5 : Int32)] σ1) (fun σ2 => gO E σ2 1 x0 (cV (xthr 1 some) (xsem xT E d kX1_put [.ref x0, .int (nI 1)] σ2) (fun σ3 => gO E σ3 1 x0 (cV (xthr 1 some) (xsem xT E d kX1_put [.ref x0, .int (-2 : Int32)] σ3) (fun σ4 => some (.inl none, σ4))))))))) := xval_blkQ E (xsem xT E d) 0 0 bX1_reset (pc := 0) rfl [(0, .ref x0)] [] σ 0 0
theorem eX1_reset (E : xEn) (d : Nat) (x0 : Nat) (σ : xH) : xsem xT E (d + 1) kX1_reset [.ref x0] σ = qX1_reset_0 E d x0 σ := rfl
noncomputable def qX1_copyFrom_0 (E : xEn) (d : Nat) (x0 : Nat) (x1 : Nat) (σ : xH) : Option xR := xval E (xsem xT E d) 0 0 bX1_copyFrom (0, [(0, .ref x0), (1, .ref x1)], [], σ, 0, 0)
set_option maxRecDepth 100000 in
theorem QX1_copyFrom_0 (E : xEn) (d : Nat) (x0 : Nat) (x1 : Nat) (σ : xH) : qX1_copyFrom_0 E d x0 x1 σ = gI σ 1 1 x1 (fun v1 => gP σ 1 1 x0 (.int v1) (fun σ1 => gR σ1 1 0 x1 (fun v2 => gR σ1 1 0 x0 (fun v3 => gI σ1 1 1 x0 (fun v4 => cpI E σ1 v2 (nI 0) v3 (nI 0) v4 (fun σ2 => some (.inl none, σ2))))))) := xval_blkQ E (xsem xT E d) 0 0 bX1_copyFrom (pc := 0) rfl [(0, .ref x0), (1, .ref x1)] [] σ 0 0
theorem eX1_copyFrom (E : xEn) (d : Nat) (x0 : Nat) (x1 : Nat) (σ : xH) : xsem xT E (d + 1) kX1_copyFrom [.ref x0, .ref x1] σ = qX1_copyFrom_0 E d x0 x1 σ := rfl
noncomputable def qX1_put_0 (E : xEn) (d : Nat) (x0 : Nat) (x1 : Int32) (σ : xH) : Option xR := xval E (xsem xT E d) 0 0 bX1_put (0, [(0, .ref x0), (1, .int x1)], [], σ, 0, 0)
noncomputable def qX1_put_32 (E : xEn) (d : Nat) (σ : xH) : Option xR := xval E (xsem xT E d) 0 0 bX1_put (32, [], [], σ, 0, 0)
set_option maxRecDepth 100000 in
theorem QX1_put_0 (E : xEn) (d : Nat) (x0 : Nat) (x1 : Int32) (σ : xH) : qX1_put_0 E d x0 x1 σ = gI σ 1 1 x0 (fun v1 => gR σ 1 0 x0 (fun v2 => aN E σ v2 (fun v3 => if v3 ≤ v1 then qX1_put_32 E d σ else gR σ 1 0 x0 (fun v4 => gI σ 1 1 x0 (fun v5 => sI σ v4 v5 x1 (fun σ1 => gI σ1 1 1 x0 (fun v6 => gP σ1 1 1 x0 (.int (v6 + (nI 1))) (fun σ2 => qX1_put_32 E d σ2)))))))) := xval_blkQ E (xsem xT E d) 0 0 bX1_put (pc := 0) rfl [(0, .ref x0), (1, .int x1)] [] σ 0 0
set_option maxRecDepth 100000 in
theorem QX1_put_32 (E : xEn) (d : Nat) (σ : xH) : qX1_put_32 E d σ = some (.inl none, σ) := xval_blkQ E (xsem xT E d) 0 0 bX1_put (pc := 32) rfl [] [] σ 0 0
theorem eX1_put (E : xEn) (d : Nat) (x0 : Nat) (x1 : Int32) (σ : xH) : xsem xT E (d + 1) kX1_put [.ref x0, .int x1] σ = qX1_put_0 E d x0 x1 σ := rfl
noncomputable def qX1_readSum_0 (E : xEn) (d : Nat) (x0 : Nat) (x1 : Nat) (x2 : Int32) (σ : xH) : Option xR := xval E (xsem xT E d) 0 0 bX1_readSum (0, [(0, .ref x0), (1, .ref x1), (2, .int x2)], [], σ, 0, 0)
noncomputable def qX1_readSum_11 (E : xEn) (d : Nat) (x0 : Nat) (x1 : Nat) (x2 : Int32) (σ : xH) : Option xR := xval E (xsem xT E d) 0 0 bX1_readSum (11, [(0, .ref x0), (1, .ref x1), (2, .int x2)], [], σ, 0, 0)
noncomputable def qX1_readSum_13 (E : xEn) (d : Nat) (x0 : Nat) (x1 : Nat) (x2 : Int32) (x3 : Int32) (σ : xH) : Option xR := xval E (xsem xT E d) 0 0 bX1_readSum (13, [(0, .ref x0), (1, .ref x1), (2, .int x2), (3, .int x3)], [], σ, 0, 0)
noncomputable def qX1_readSum_40 (E : xEn) (d : Nat) (x0 : Nat) (x1 : Nat) (x2 : Int32) (x3 : Int32) (σ : xH) : Option xR := xval E (xsem xT E d) 0 0 bX1_readSum (40, [(0, .ref x0), (1, .ref x1), (2, .int x2), (3, .int x3)], [], σ, 0, 0)
noncomputable def qX1_readSum_54 (E : xEn) (d : Nat) (x0 : Nat) (x1 : Nat) (x2 : Int32) (x3 : Int32) (σ : xH) : Option xR := xval E (xsem xT E d) 0 0 bX1_readSum (54, [(0, .ref x0), (1, .ref x1), (2, .int x2), (3, .int x3)], [], σ, 0, 0)
noncomputable def qX1_readSum_56 (E : xEn) (d : Nat) (x0 : Nat) (x1 : Nat) (x2 : Int32) (x3 : Int32) (s0 : Int32) (σ : xH) : Option xR := xval E (xsem xT E d) 0 0 bX1_readSum (56, [(0, .ref x0), (1, .ref x1), (2, .int x2), (3, .int x3)], [.int s0], σ, 0, 0)
noncomputable def qX1_readSum_73 (E : xEn) (d : Nat) (x0 : Nat) (x1 : Nat) (x2 : Int32) (x3 : Int32) (x4 : Int32) (σ : xH) : Option xR := xval E (xsem xT E d) 0 0 bX1_readSum (73, [(0, .ref x0), (1, .ref x1), (2, .int x2), (3, .int x3), (4, .int x4)], [], σ, 0, 0)
noncomputable def qX1_readSum_85 (E : xEn) (d : Nat) (σ : xH) : Option xR := xval E (xsem xT E d) 0 0 bX1_readSum (85, [], [], σ, 0, 0)
set_option maxRecDepth 100000 in
theorem QX1_readSum_0 (E : xEn) (d : Nat) (x0 : Nat) (x1 : Nat) (x2 : Int32) (σ : xH) : qX1_readSum_0 E d x0 x1 x2 σ = gO E σ 1 x0 (cI (xthr 1 some) (xsem xT E d kX1_readTerm [.ref x0, .ref x1, .int x2] σ) (fun v1 σ1 => if v1 = (nI 0) then xiret [5] (nI 0) (some (.inl (some (.int (nI 0))), σ1)) else qX1_readSum_11 E d x0 x1 x2 σ1)) := xval_blkQ E (xsem xT E d) 0 0 bX1_readSum (pc := 0) rfl [(0, .ref x0), (1, .ref x1), (2, .int x2)] [] σ 0 0
set_option maxRecDepth 100000 in
theorem QX1_readSum_11 (E : xEn) (d : Nat) (x0 : Nat) (x1 : Nat) (x2 : Int32) (σ : xH) : qX1_readSum_11 E d x0 x1 x2 σ = qX1_readSum_13 E d x0 x1 x2 (nI 0) σ := xval_blkQ E (xsem xT E d) 0 0 bX1_readSum (pc := 11) rfl [(0, .ref x0), (1, .ref x1), (2, .int x2)] [] σ 0 0
set_option maxRecDepth 100000 in
theorem QX1_readSum_13 (E : xEn) (d : Nat) (x0 : Nat) (x1 : Nat) (x2 : Int32) (x3 : Int32) (σ : xH) : qX1_readSum_13 E d x0 x1 x2 x3 σ = if (nI 500) ≤ x3 then qX1_readSum_85 E d σ else gO E σ 3 x1 (cI (xthr 1 some) (xsem xT E d kX3_is [.ref x1, .ref (E.1 4)] σ) (fun v1 σ1 => if v1 = (nI 0) then gO E σ1 3 x1 (cI (xthr 1 some) (xsem xT E d kX3_is [.ref x1, .ref (E.1 5)] σ1) (fun v2 σ2 => if v2 = (nI 0) then qX1_readSum_85 E d σ2 else qX1_readSum_40 E d x0 x1 x2 x3 σ2)) else qX1_readSum_40 E d x0 x1 x2 x3 σ1)) := xval_blkQ E (xsem xT E d) 0 0 bX1_readSum (pc := 13) rfl [(0, .ref x0), (1, .ref x1), (2, .int x2), (3, .int x3)] [] σ 0 0
set_option maxRecDepth 100000 in
theorem QX1_readSum_40 (E : xEn) (d : Nat) (x0 : Nat) (x1 : Nat) (x2 : Int32) (x3 : Int32) (σ : xH) : qX1_readSum_40 E d x0 x1 x2 x3 σ = gO E σ 3 x1 (cI (xthr 1 some) (xsem xT E d kX3_is [.ref x1, .ref (E.1 4)] σ) (fun v1 σ1 => if v1 = (nI 0) then qX1_readSum_54 E d x0 x1 x2 x3 σ1 else qX1_readSum_56 E d x0 x1 x2 x3 (-1 : Int32) σ1)) := xval_blkQ E (xsem xT E d) 0 0 bX1_readSum (pc := 40) rfl [(0, .ref x0), (1, .ref x1), (2, .int x2), (3, .int x3)] [] σ 0 0
set_option maxRecDepth 100000 in
theorem QX1_readSum_54 (E : xEn) (d : Nat) (x0 : Nat) (x1 : Nat) (x2 : Int32) (x3 : Int32) (σ : xH) : qX1_readSum_54 E d x0 x1 x2 x3 σ = qX1_readSum_56 E d x0 x1 x2 x3 (-2 : Int32) σ := xval_blkQ E (xsem xT E d) 0 0 bX1_readSum (pc := 54) rfl [(0, .ref x0), (1, .ref x1), (2, .int x2), (3, .int x3)] [] σ 0 0
set_option maxRecDepth 100000 in
theorem QX1_readSum_56 (E : xEn) (d : Nat) (x0 : Nat) (x1 : Nat) (x2 : Int32) (x3 : Int32) (s0 : Int32) (σ : xH) : qX1_readSum_56 E d x0 x1 x2 x3 s0 σ = gO E σ 3 x1 (cV (xthr 1 some) (xsem xT E d kX3_advance [.ref x1] σ) (fun σ1 => gO E σ1 1 x0 (cI (xthr 1 some) (xsem xT E d kX1_readTerm [.ref x0, .ref x1, .int x2] σ1) (fun v1 σ2 => if v1 = (nI 0) then xiret [5] (nI 0) (some (.inl (some (.int (nI 0))), σ2)) else qX1_readSum_73 E d x0 x1 x2 x3 s0 σ2)))) := xval_blkQ E (xsem xT E d) 0 0 bX1_readSum (pc := 56) rfl [(0, .ref x0), (1, .ref x1), (2, .int x2), (3, .int x3)] [.int s0] σ 0 0
set_option maxRecDepth 100000 in
theorem QX1_readSum_73 (E : xEn) (d : Nat) (x0 : Nat) (x1 : Nat) (x2 : Int32) (x3 : Int32) (x4 : Int32) (σ : xH) : qX1_readSum_73 E d x0 x1 x2 x3 x4 σ = gO E σ 1 x0 (cV (xthr 1 some) (xsem xT E d kX1_put [.ref x0, .int x4] σ) (fun σ1 => qX1_readSum_13 E d x0 x1 x2 (x3 + (nI 1)) σ1)) := xval_blkQ E (xsem xT E d) 0 0 bX1_readSum (pc := 73) rfl [(0, .ref x0), (1, .ref x1), (2, .int x2), (3, .int x3), (4, .int x4)] [] σ 0 0
set_option maxRecDepth 100000 in
theorem QX1_readSum_85 (E : xEn) (d : Nat) (σ : xH) : qX1_readSum_85 E d σ = xiret [5] (nI 1) (some (.inl (some (.int (nI 1))), σ)) := xval_blkQ E (xsem xT E d) 0 0 bX1_readSum (pc := 85) rfl [] [] σ 0 0
theorem eX1_readSum (E : xEn) (d : Nat) (x0 : Nat) (x1 : Nat) (x2 : Int32) (σ : xH) : xsem xT E (d + 1) kX1_readSum [.ref x0, .ref x1, .int x2] σ = qX1_readSum_0 E d x0 x1 x2 σ := rfl
noncomputable def qX1_readTerm_0 (E : xEn) (d : Nat) (x0 : Nat) (x1 : Nat) (x2 : Int32) (σ : xH) : Option xR := xval E (xsem xT E d) 0 0 bX1_readTerm (0, [(0, .ref x0), (1, .ref x1), (2, .int x2)], [], σ, 0, 0)
noncomputable def qX1_readTerm_11 (E : xEn) (d : Nat) (x0 : Nat) (x1 : Nat) (x2 : Int32) (σ : xH) : Option xR := xval E (xsem xT E d) 0 0 bX1_readTerm (11, [(0, .ref x0), (1, .ref x1), (2, .int x2)], [], σ, 0, 0)
noncomputable def qX1_readTerm_13 (E : xEn) (d : Nat) (x0 : Nat) (x1 : Nat) (x2 : Int32) (x3 : Int32) (σ : xH) : Option xR := xval E (xsem xT E d) 0 0 bX1_readTerm (13, [(0, .ref x0), (1, .ref x1), (2, .int x2), (3, .int x3)], [], σ, 0, 0)
noncomputable def qX1_readTerm_40 (E : xEn) (d : Nat) (x0 : Nat) (x1 : Nat) (x2 : Int32) (x3 : Int32) (σ : xH) : Option xR := xval E (xsem xT E d) 0 0 bX1_readTerm (40, [(0, .ref x0), (1, .ref x1), (2, .int x2), (3, .int x3)], [], σ, 0, 0)
noncomputable def qX1_readTerm_55 (E : xEn) (d : Nat) (x0 : Nat) (x1 : Nat) (x2 : Int32) (x3 : Int32) (σ : xH) : Option xR := xval E (xsem xT E d) 0 0 bX1_readTerm (55, [(0, .ref x0), (1, .ref x1), (2, .int x2), (3, .int x3)], [], σ, 0, 0)
noncomputable def qX1_readTerm_57 (E : xEn) (d : Nat) (x0 : Nat) (x1 : Nat) (x2 : Int32) (x3 : Int32) (s0 : Int32) (σ : xH) : Option xR := xval E (xsem xT E d) 0 0 bX1_readTerm (57, [(0, .ref x0), (1, .ref x1), (2, .int x2), (3, .int x3)], [.int s0], σ, 0, 0)
noncomputable def qX1_readTerm_74 (E : xEn) (d : Nat) (x0 : Nat) (x1 : Nat) (x2 : Int32) (x3 : Int32) (x4 : Int32) (σ : xH) : Option xR := xval E (xsem xT E d) 0 0 bX1_readTerm (74, [(0, .ref x0), (1, .ref x1), (2, .int x2), (3, .int x3), (4, .int x4)], [], σ, 0, 0)
noncomputable def qX1_readTerm_86 (E : xEn) (d : Nat) (σ : xH) : Option xR := xval E (xsem xT E d) 0 0 bX1_readTerm (86, [], [], σ, 0, 0)
set_option maxRecDepth 100000 in
theorem QX1_readTerm_0 (E : xEn) (d : Nat) (x0 : Nat) (x1 : Nat) (x2 : Int32) (σ : xH) : qX1_readTerm_0 E d x0 x1 x2 σ = gO E σ 1 x0 (cI (xthr 1 some) (xsem xT E d kX1_readFactor [.ref x0, .ref x1, .int x2] σ) (fun v1 σ1 => if v1 = (nI 0) then xiret [5] (nI 0) (some (.inl (some (.int (nI 0))), σ1)) else qX1_readTerm_11 E d x0 x1 x2 σ1)) := xval_blkQ E (xsem xT E d) 0 0 bX1_readTerm (pc := 0) rfl [(0, .ref x0), (1, .ref x1), (2, .int x2)] [] σ 0 0
set_option maxRecDepth 100000 in
theorem QX1_readTerm_11 (E : xEn) (d : Nat) (x0 : Nat) (x1 : Nat) (x2 : Int32) (σ : xH) : qX1_readTerm_11 E d x0 x1 x2 σ = qX1_readTerm_13 E d x0 x1 x2 (nI 0) σ := xval_blkQ E (xsem xT E d) 0 0 bX1_readTerm (pc := 11) rfl [(0, .ref x0), (1, .ref x1), (2, .int x2)] [] σ 0 0
set_option maxRecDepth 100000 in
theorem QX1_readTerm_13 (E : xEn) (d : Nat) (x0 : Nat) (x1 : Nat) (x2 : Int32) (x3 : Int32) (σ : xH) : qX1_readTerm_13 E d x0 x1 x2 x3 σ = if (nI 500) ≤ x3 then qX1_readTerm_86 E d σ else gO E σ 3 x1 (cI (xthr 1 some) (xsem xT E d kX3_is [.ref x1, .ref (E.1 6)] σ) (fun v1 σ1 => if v1 = (nI 0) then gO E σ1 3 x1 (cI (xthr 1 some) (xsem xT E d kX3_is [.ref x1, .ref (E.1 7)] σ1) (fun v2 σ2 => if v2 = (nI 0) then qX1_readTerm_86 E d σ2 else qX1_readTerm_40 E d x0 x1 x2 x3 σ2)) else qX1_readTerm_40 E d x0 x1 x2 x3 σ1)) := xval_blkQ E (xsem xT E d) 0 0 bX1_readTerm (pc := 13) rfl [(0, .ref x0), (1, .ref x1), (2, .int x2), (3, .int x3)] [] σ 0 0
set_option maxRecDepth 100000 in
theorem QX1_readTerm_40 (E : xEn) (d : Nat) (x0 : Nat) (x1 : Nat) (x2 : Int32) (x3 : Int32) (σ : xH) : qX1_readTerm_40 E d x0 x1 x2 x3 σ = gO E σ 3 x1 (cI (xthr 1 some) (xsem xT E d kX3_is [.ref x1, .ref (E.1 6)] σ) (fun v1 σ1 => if v1 = (nI 0) then qX1_readTerm_55 E d x0 x1 x2 x3 σ1 else qX1_readTerm_57 E d x0 x1 x2 x3 (-3 : Int32) σ1)) := xval_blkQ E (xsem xT E d) 0 0 bX1_readTerm (pc := 40) rfl [(0, .ref x0), (1, .ref x1), (2, .int x2), (3, .int x3)] [] σ 0 0
set_option maxRecDepth 100000 in
theorem QX1_readTerm_55 (E : xEn) (d : Nat) (x0 : Nat) (x1 : Nat) (x2 : Int32) (x3 : Int32) (σ : xH) : qX1_readTerm_55 E d x0 x1 x2 x3 σ = qX1_readTerm_57 E d x0 x1 x2 x3 (-4 : Int32) σ := xval_blkQ E (xsem xT E d) 0 0 bX1_readTerm (pc := 55) rfl [(0, .ref x0), (1, .ref x1), (2, .int x2), (3, .int x3)] [] σ 0 0
set_option maxRecDepth 100000 in
theorem QX1_readTerm_57 (E : xEn) (d : Nat) (x0 : Nat) (x1 : Nat) (x2 : Int32) (x3 : Int32) (s0 : Int32) (σ : xH) : qX1_readTerm_57 E d x0 x1 x2 x3 s0 σ = gO E σ 3 x1 (cV (xthr 1 some) (xsem xT E d kX3_advance [.ref x1] σ) (fun σ1 => gO E σ1 1 x0 (cI (xthr 1 some) (xsem xT E d kX1_readFactor [.ref x0, .ref x1, .int x2] σ1) (fun v1 σ2 => if v1 = (nI 0) then xiret [5] (nI 0) (some (.inl (some (.int (nI 0))), σ2)) else qX1_readTerm_74 E d x0 x1 x2 x3 s0 σ2)))) := xval_blkQ E (xsem xT E d) 0 0 bX1_readTerm (pc := 57) rfl [(0, .ref x0), (1, .ref x1), (2, .int x2), (3, .int x3)] [.int s0] σ 0 0
set_option maxRecDepth 100000 in
theorem QX1_readTerm_74 (E : xEn) (d : Nat) (x0 : Nat) (x1 : Nat) (x2 : Int32) (x3 : Int32) (x4 : Int32) (σ : xH) : qX1_readTerm_74 E d x0 x1 x2 x3 x4 σ = gO E σ 1 x0 (cV (xthr 1 some) (xsem xT E d kX1_put [.ref x0, .int x4] σ) (fun σ1 => qX1_readTerm_13 E d x0 x1 x2 (x3 + (nI 1)) σ1)) := xval_blkQ E (xsem xT E d) 0 0 bX1_readTerm (pc := 74) rfl [(0, .ref x0), (1, .ref x1), (2, .int x2), (3, .int x3), (4, .int x4)] [] σ 0 0
set_option maxRecDepth 100000 in
theorem QX1_readTerm_86 (E : xEn) (d : Nat) (σ : xH) : qX1_readTerm_86 E d σ = xiret [5] (nI 1) (some (.inl (some (.int (nI 1))), σ)) := xval_blkQ E (xsem xT E d) 0 0 bX1_readTerm (pc := 86) rfl [] [] σ 0 0
theorem eX1_readTerm (E : xEn) (d : Nat) (x0 : Nat) (x1 : Nat) (x2 : Int32) (σ : xH) : xsem xT E (d + 1) kX1_readTerm [.ref x0, .ref x1, .int x2] σ = qX1_readTerm_0 E d x0 x1 x2 σ := rfl
noncomputable def qX1_readFactor_0 (E : xEn) (d : Nat) (x0 : Nat) (x1 : Nat) (x2 : Int32) (σ : xH) : Option xR := xval E (xsem xT E d) 0 0 bX1_readFactor (0, [(0, .ref x0), (1, .ref x1), (2, .int x2)], [], σ, 0, 0)
noncomputable def qX1_readFactor_22 (E : xEn) (d : Nat) (x0 : Nat) (x1 : Nat) (x2 : Int32) (σ : xH) : Option xR := xval E (xsem xT E d) 0 0 bX1_readFactor (22, [(0, .ref x0), (1, .ref x1), (2, .int x2)], [], σ, 0, 0)
noncomputable def qX1_readFactor_51 (E : xEn) (d : Nat) (σ : xH) : Option xR := xval E (xsem xT E d) 0 0 bX1_readFactor (51, [], [], σ, 0, 0)
noncomputable def qX1_readFactor_52 (E : xEn) (d : Nat) (s0 : Int32) (σ : xH) : Option xR := xval E (xsem xT E d) 0 0 bX1_readFactor (52, [], [.int s0], σ, 0, 0)
noncomputable def qX1_readFactor_53 (E : xEn) (d : Nat) (x0 : Nat) (x1 : Nat) (σ : xH) : Option xR := xval E (xsem xT E d) 0 0 bX1_readFactor (53, [(0, .ref x0), (1, .ref x1)], [], σ, 0, 0)
noncomputable def qX1_readFactor_80 (E : xEn) (d : Nat) (x0 : Nat) (x1 : Nat) (x3 : Int32) (σ : xH) : Option xR := xval E (xsem xT E d) 0 0 bX1_readFactor (80, [(0, .ref x0), (1, .ref x1), (3, .int x3)], [], σ, 0, 0)
noncomputable def qX1_readFactor_84 (E : xEn) (d : Nat) (x0 : Nat) (x3 : Int32) (σ : xH) : Option xR := xval E (xsem xT E d) 0 0 bX1_readFactor (84, [(0, .ref x0), (3, .int x3)], [], σ, 0, 0)
set_option maxRecDepth 100000 in
theorem QX1_readFactor_0 (E : xEn) (d : Nat) (x0 : Nat) (x1 : Nat) (x2 : Int32) (σ : xH) : qX1_readFactor_0 E d x0 x1 x2 σ = gO E σ 3 x1 (cI (xthr 1 some) (xsem xT E d kX3_is [.ref x1, .ref (E.1 8)] σ) (fun v1 σ1 => if v1 = (nI 0) then qX1_readFactor_53 E d x0 x1 σ1 else if x2 < (nI 4) then qX1_readFactor_22 E d x0 x1 x2 σ1 else gO E σ1 3 x1 (cI (xthr 1 some) (xsem xT E d kX3_fail [.ref x1, .int (-6 : Int32)] σ1) (fun v2 σ2 => xiret [5] v2 (some (.inl (some (.int v2)), σ2)))))) := xval_blkQ E (xsem xT E d) 0 0 bX1_readFactor (pc := 0) rfl [(0, .ref x0), (1, .ref x1), (2, .int x2)] [] σ 0 0
set_option maxRecDepth 100000 in
theorem QX1_readFactor_22 (E : xEn) (d : Nat) (x0 : Nat) (x1 : Nat) (x2 : Int32) (σ : xH) : qX1_readFactor_22 E d x0 x1 x2 σ = gO E σ 3 x1 (cV (xthr 1 some) (xsem xT E d kX3_advance [.ref x1] σ) (fun σ1 => gO E σ1 1 x0 (cI (xthr 1 some) (xsem xT E d kX1_readSum [.ref x0, .ref x1, .int (x2 + (nI 1))] σ1) (fun v1 σ2 => if v1 = (nI 0) then qX1_readFactor_51 E d σ2 else gO E σ2 3 x1 (cI (xthr 1 some) (xsem xT E d kX3_take [.ref x1, .ref (E.1 9)] σ2) (fun v2 σ3 => if v2 = (nI 0) then qX1_readFactor_51 E d σ3 else qX1_readFactor_52 E d (nI 1) σ3)))))) := xval_blkQ E (xsem xT E d) 0 0 bX1_readFactor (pc := 22) rfl [(0, .ref x0), (1, .ref x1), (2, .int x2)] [] σ 0 0
set_option maxRecDepth 100000 in
theorem QX1_readFactor_51 (E : xEn) (d : Nat) (σ : xH) : qX1_readFactor_51 E d σ = qX1_readFactor_52 E d (nI 0) σ := xval_blkQ E (xsem xT E d) 0 0 bX1_readFactor (pc := 51) rfl [] [] σ 0 0
set_option maxRecDepth 100000 in
theorem QX1_readFactor_52 (E : xEn) (d : Nat) (s0 : Int32) (σ : xH) : qX1_readFactor_52 E d s0 σ = xiret [5] s0 (some (.inl (some (.int s0)), σ)) := xval_blkQ E (xsem xT E d) 0 0 bX1_readFactor (pc := 52) rfl [] [.int s0] σ 0 0
set_option maxRecDepth 100000 in
theorem QX1_readFactor_53 (E : xEn) (d : Nat) (x0 : Nat) (x1 : Nat) (σ : xH) : qX1_readFactor_53 E d x0 x1 σ = gO E σ 3 x1 (cA (xthr 1 some) (xsem xT E d kX3_token [.ref x1] σ) (fun v1 σ1 => cI (xthr 0 some) (xsem xT E d kX1_variableOf [.ref v1] σ1) (fun v2 σ2 => if v2 = (nI 0) then gO E σ2 3 x1 (cI (xthr 1 some) (xsem xT E d kX3_takeNumber [.ref x1, .int (nI 0), .int (nI 9999)] σ2) (fun v3 σ3 => if (nI 0) ≤ v3 then qX1_readFactor_84 E d x0 v3 σ3 else xiret [5] (nI 0) (some (.inl (some (.int (nI 0))), σ3)))) else qX1_readFactor_80 E d x0 x1 v2 σ2))) := xval_blkQ E (xsem xT E d) 0 0 bX1_readFactor (pc := 53) rfl [(0, .ref x0), (1, .ref x1)] [] σ 0 0
set_option maxRecDepth 100000 in
theorem QX1_readFactor_80 (E : xEn) (d : Nat) (x0 : Nat) (x1 : Nat) (x3 : Int32) (σ : xH) : qX1_readFactor_80 E d x0 x1 x3 σ = gO E σ 3 x1 (cV (xthr 1 some) (xsem xT E d kX3_advance [.ref x1] σ) (fun σ1 => qX1_readFactor_84 E d x0 x3 σ1)) := xval_blkQ E (xsem xT E d) 0 0 bX1_readFactor (pc := 80) rfl [(0, .ref x0), (1, .ref x1), (3, .int x3)] [] σ 0 0
set_option maxRecDepth 100000 in
theorem QX1_readFactor_84 (E : xEn) (d : Nat) (x0 : Nat) (x3 : Int32) (σ : xH) : qX1_readFactor_84 E d x0 x3 σ = gO E σ 1 x0 (cV (xthr 1 some) (xsem xT E d kX1_put [.ref x0, .int x3] σ) (fun σ1 => xiret [5] (nI 1) (some (.inl (some (.int (nI 1))), σ1)))) := xval_blkQ E (xsem xT E d) 0 0 bX1_readFactor (pc := 84) rfl [(0, .ref x0), (3, .int x3)] [] σ 0 0
theorem eX1_readFactor (E : xEn) (d : Nat) (x0 : Nat) (x1 : Nat) (x2 : Int32) (σ : xH) : xsem xT E (d + 1) kX1_readFactor [.ref x0, .ref x1, .int x2] σ = qX1_readFactor_0 E d x0 x1 x2 σ := rfl
noncomputable def qX1_variableOf_0 (E : xEn) (d : Nat) (x0 : Nat) (σ : xH) : Option xR := xval E (xsem xT E d) 0 0 bX1_variableOf (0, [(0, .ref x0)], [], σ, 0, 0)
noncomputable def qX1_variableOf_10 (E : xEn) (d : Nat) (x0 : Nat) (σ : xH) : Option xR := xval E (xsem xT E d) 0 0 bX1_variableOf (10, [(0, .ref x0)], [], σ, 0, 0)
noncomputable def qX1_variableOf_20 (E : xEn) (d : Nat) (x0 : Nat) (σ : xH) : Option xR := xval E (xsem xT E d) 0 0 bX1_variableOf (20, [(0, .ref x0)], [], σ, 0, 0)
noncomputable def qX1_variableOf_30 (E : xEn) (d : Nat) (x0 : Nat) (σ : xH) : Option xR := xval E (xsem xT E d) 0 0 bX1_variableOf (30, [(0, .ref x0)], [], σ, 0, 0)
noncomputable def qX1_variableOf_42 (E : xEn) (d : Nat) (σ : xH) : Option xR := xval E (xsem xT E d) 0 0 bX1_variableOf (42, [], [], σ, 0, 0)
noncomputable def qX1_variableOf_43 (E : xEn) (d : Nat) (s0 : Int32) (σ : xH) : Option xR := xval E (xsem xT E d) 0 0 bX1_variableOf (43, [], [.int s0], σ, 0, 0)
set_option maxRecDepth 100000 in
theorem QX1_variableOf_0 (E : xEn) (d : Nat) (x0 : Nat) (σ : xH) : qX1_variableOf_0 E d x0 σ = bif Nat.beq x0 (E.1 10) then some (.inl (some (.int (-5 : Int32))), σ) else qX1_variableOf_10 E d x0 σ := xval_blkQ E (xsem xT E d) 0 0 bX1_variableOf (pc := 0) rfl [(0, .ref x0)] [] σ 0 0
set_option maxRecDepth 100000 in
theorem QX1_variableOf_10 (E : xEn) (d : Nat) (x0 : Nat) (σ : xH) : qX1_variableOf_10 E d x0 σ = bif Nat.beq x0 (E.1 11) then some (.inl (some (.int (-6 : Int32))), σ) else qX1_variableOf_20 E d x0 σ := xval_blkQ E (xsem xT E d) 0 0 bX1_variableOf (pc := 10) rfl [(0, .ref x0)] [] σ 0 0
set_option maxRecDepth 100000 in
theorem QX1_variableOf_20 (E : xEn) (d : Nat) (x0 : Nat) (σ : xH) : qX1_variableOf_20 E d x0 σ = bif Nat.beq x0 (E.1 12) then some (.inl (some (.int (-7 : Int32))), σ) else qX1_variableOf_30 E d x0 σ := xval_blkQ E (xsem xT E d) 0 0 bX1_variableOf (pc := 20) rfl [(0, .ref x0)] [] σ 0 0
set_option maxRecDepth 100000 in
theorem QX1_variableOf_30 (E : xEn) (d : Nat) (x0 : Nat) (σ : xH) : qX1_variableOf_30 E d x0 σ = bif Nat.beq x0 (E.1 13) then qX1_variableOf_43 E d (-8 : Int32) σ else qX1_variableOf_42 E d σ := xval_blkQ E (xsem xT E d) 0 0 bX1_variableOf (pc := 30) rfl [(0, .ref x0)] [] σ 0 0
set_option maxRecDepth 100000 in
theorem QX1_variableOf_42 (E : xEn) (d : Nat) (σ : xH) : qX1_variableOf_42 E d σ = qX1_variableOf_43 E d (nI 0) σ := xval_blkQ E (xsem xT E d) 0 0 bX1_variableOf (pc := 42) rfl [] [] σ 0 0
set_option maxRecDepth 100000 in
theorem QX1_variableOf_43 (E : xEn) (d : Nat) (s0 : Int32) (σ : xH) : qX1_variableOf_43 E d s0 σ = some (.inl (some (.int s0)), σ) := xval_blkQ E (xsem xT E d) 0 0 bX1_variableOf (pc := 43) rfl [] [.int s0] σ 0 0
theorem eX1_variableOf (E : xEn) (d : Nat) (x0 : Nat) (σ : xH) : xsem xT E (d + 1) kX1_variableOf [.ref x0] σ = qX1_variableOf_0 E d x0 σ := rfl
noncomputable def qX2_init_0 (E : xEn) (d : Nat) (bc bs : Nat) (x0 : Nat) (σ : xH) : Option xR := xval E (xsem xT E d) 11 568 bX2_init (0, [(0, .ref x0)], [], σ, bc, bs)
set_option maxRecDepth 100000 in
theorem QX2_init_0 (E : xEn) (d : Nat) (bc bs : Nat) (x0 : Nat) (σ : xH) : qX2_init_0 E d bc bs x0 σ = bif Nat.ble (bc + 1) 11 && Nat.ble (bs + 5) 568 then nwO σ 5 5 (fun v1 σ1 => bif Nat.ble ((bc + 1) + 2) 11 && Nat.ble ((bs + 5) + 16) 568 then gO E σ1 5 v1 (cV (xthr 4 some) (xsem xT E d kX5_init [.ref v1] σ1) (fun σ2 => gP σ2 2 0 x0 (.ref v1) (fun σ3 => bif Nat.ble (((bc + 1) + 2) + 1) 11 && Nat.ble (((bs + 5) + 16) + 5) 568 then nwO σ3 4 5 (fun v2 σ4 => bif Nat.ble ((((bc + 1) + 2) + 1) + 1) 11 && Nat.ble ((((bs + 5) + 16) + 5) + 9) 568 then gO E σ4 4 v2 (cV (xthr 4 some) (xsem xT E d kX4_init [.ref v2] σ4) (fun σ5 => gP σ5 2 1 x0 (.ref v2) (fun σ6 => bif Nat.ble (((((bc + 1) + 2) + 1) + 1) + 1) 11 && Nat.ble (((((bs + 5) + 16) + 5) + 9) + 3) 568 then nwO σ6 0 3 (fun v3 σ7 => bif Nat.ble ((((((bc + 1) + 2) + 1) + 1) + 1) + 2) 11 && Nat.ble ((((((bs + 5) + 16) + 5) + 9) + 3) + 16) 568 then gO E σ7 0 v3 (cV (xthr 4 some) (xsem xT E d kX0_init [.ref v3] σ7) (fun σ8 => gP σ8 2 2 x0 (.ref v3) (fun σ9 => bif Nat.ble (((((((bc + 1) + 2) + 1) + 1) + 1) + 2) + 1) 11 && Nat.ble (((((((bs + 5) + 16) + 5) + 9) + 3) + 16) + 3) 568 then nwO σ9 1 3 (fun v4 σ10 => bif Nat.ble ((((((((bc + 1) + 2) + 1) + 1) + 1) + 2) + 1) + 2) 11 && Nat.ble ((((((((bs + 5) + 16) + 5) + 9) + 3) + 16) + 3) + 511) 568 then gO E σ10 1 v4 (cV (xthr 4 some) (xsem xT E d kX1_init [.ref v4] σ10) (fun σ11 => gP σ11 2 3 x0 (.ref v4) (fun σ12 => bif Nat.ble ((((((((bc + 1) + 2) + 1) + 1) + 1) + 2) + 1) + 2) 11 && Nat.ble ((((((((bs + 5) + 16) + 5) + 9) + 3) + 16) + 3) + 511) 568 then gO E σ12 2 x0 (cV (xthr 1 some) (xsem xT E d kX2_reset [.ref x0, .int (nI 3)] σ12) (fun σ13 => some (.inl none, σ13))) else none))) else none) else none))) else none) else none))) else none) else none))) else none) else none := xval_blkQ E (xsem xT E d) 11 568 bX2_init (pc := 0) rfl [(0, .ref x0)] [] σ bc bs
theorem eX2_init (E : xEn) (d : Nat) (x0 : Nat) (σ : xH) : xsem xT E (d + 1) kX2_init [.ref x0] σ = qX2_init_0 E d 0 0 x0 σ := rfl
noncomputable def qX2_reset_0 (E : xEn) (d : Nat) (x0 : Nat) (x1 : Int32) (σ : xH) : Option xR := xval E (xsem xT E d) 0 0 bX2_reset (0, [(0, .ref x0), (1, .int x1)], [], σ, 0, 0)
set_option maxRecDepth 100000 in
theorem QX2_reset_0 (E : xEn) (d : Nat) (x0 : Nat) (x1 : Int32) (σ : xH) : qX2_reset_0 E d x0 x1 σ = gR σ 2 0 x0 (fun v1 => gO E σ 5 v1 (cV (xthr 1 some) (xsem xT E d kX5_reset [.ref v1, .int x1] σ) (fun σ1 => gR σ1 2 1 x0 (fun v2 => gO E σ1 4 v2 (cV (xthr 1 some) (xsem xT E d kX4_reset [.ref v2, .int x1] σ1) (fun σ2 => gR σ2 2 2 x0 (fun v3 => gO E σ2 0 v3 (cV (xthr 1 some) (xsem xT E d kX0_clear [.ref v3] σ2) (fun σ3 => gR σ3 2 3 x0 (fun v4 => gO E σ3 1 v4 (cV (xthr 1 some) (xsem xT E d kX1_reset [.ref v4] σ3) (fun σ4 => gP σ4 2 4 x0 (.int (nI 0)) (fun σ5 => gP σ5 2 5 x0 (.int (nI 0)) (fun σ6 => gP σ6 2 6 x0 (.int (nI 100)) (fun σ7 => gP σ7 2 7 x0 (.int (nI 0)) (fun σ8 => gP σ8 2 8 x0 (.int (nI 0)) (fun σ9 => some (.inl none, σ9)))))))))))))))))) := xval_blkQ E (xsem xT E d) 0 0 bX2_reset (pc := 0) rfl [(0, .ref x0), (1, .int x1)] [] σ 0 0
theorem eX2_reset (E : xEn) (d : Nat) (x0 : Nat) (x1 : Int32) (σ : xH) : xsem xT E (d + 1) kX2_reset [.ref x0, .int x1] σ = qX2_reset_0 E d x0 x1 σ := rfl
noncomputable def qX2_copyFrom_0 (E : xEn) (d : Nat) (x0 : Nat) (x1 : Nat) (σ : xH) : Option xR := xval E (xsem xT E d) 0 0 bX2_copyFrom (0, [(0, .ref x0), (1, .ref x1)], [], σ, 0, 0)
set_option maxRecDepth 100000 in
theorem QX2_copyFrom_0 (E : xEn) (d : Nat) (x0 : Nat) (x1 : Nat) (σ : xH) : qX2_copyFrom_0 E d x0 x1 σ = gR σ 2 0 x0 (fun v1 => gR σ 2 0 x1 (fun v2 => gO E σ 5 v1 (cV (xthr 1 some) (xsem xT E d kX5_copyFrom [.ref v1, .ref v2] σ) (fun σ1 => gR σ1 2 1 x0 (fun v3 => gR σ1 2 1 x1 (fun v4 => gO E σ1 4 v3 (cV (xthr 1 some) (xsem xT E d kX4_copyFrom [.ref v3, .ref v4] σ1) (fun σ2 => gR σ2 2 2 x0 (fun v5 => gR σ2 2 2 x1 (fun v6 => gO E σ2 0 v5 (cV (xthr 1 some) (xsem xT E d kX0_copyFrom [.ref v5, .ref v6] σ2) (fun σ3 => gR σ3 2 3 x0 (fun v7 => gR σ3 2 3 x1 (fun v8 => gO E σ3 1 v7 (cV (xthr 1 some) (xsem xT E d kX1_copyFrom [.ref v7, .ref v8] σ3) (fun σ4 => gI σ4 2 4 x1 (fun v9 => gP σ4 2 4 x0 (.int v9) (fun σ5 => gI σ5 2 5 x1 (fun v10 => gP σ5 2 5 x0 (.int v10) (fun σ6 => gI σ6 2 6 x1 (fun v11 => gP σ6 2 6 x0 (.int v11) (fun σ7 => gI σ7 2 7 x1 (fun v12 => gP σ7 2 7 x0 (.int v12) (fun σ8 => gI σ8 2 8 x1 (fun v13 => gP σ8 2 8 x0 (.int v13) (fun σ9 => some (.inl none, σ9))))))))))))))))))))))))))) := xval_blkQ E (xsem xT E d) 0 0 bX2_copyFrom (pc := 0) rfl [(0, .ref x0), (1, .ref x1)] [] σ 0 0
theorem eX2_copyFrom (E : xEn) (d : Nat) (x0 : Nat) (x1 : Nat) (σ : xH) : xsem xT E (d + 1) kX2_copyFrom [.ref x0, .ref x1] σ = qX2_copyFrom_0 E d x0 x1 σ := rfl
noncomputable def qX2_number_0 (E : xEn) (d : Nat) (x0 : Nat) (x1 : Int32) (σ : xH) : Option xR := xval E (xsem xT E d) 0 0 bX2_number (0, [(0, .ref x0), (1, .int x1)], [], σ, 0, 0)
noncomputable def qX2_number_64 (E : xEn) (d : Nat) (x0 : Nat) (σ : xH) : Option xR := xval E (xsem xT E d) 0 0 bX2_number (64, [(0, .ref x0)], [], σ, 0, 0)
noncomputable def qX2_number_72 (E : xEn) (d : Nat) (x0 : Nat) (σ : xH) : Option xR := xval E (xsem xT E d) 0 0 bX2_number (72, [(0, .ref x0)], [], σ, 0, 0)
noncomputable def qX2_number_77 (E : xEn) (d : Nat) (x0 : Nat) (σ : xH) : Option xR := xval E (xsem xT E d) 0 0 bX2_number (77, [(0, .ref x0)], [], σ, 0, 0)
noncomputable def qX2_number_85 (E : xEn) (d : Nat) (x0 : Nat) (σ : xH) : Option xR := xval E (xsem xT E d) 0 0 bX2_number (85, [(0, .ref x0)], [], σ, 0, 0)
noncomputable def qX2_number_90 (E : xEn) (d : Nat) (x0 : Nat) (σ : xH) : Option xR := xval E (xsem xT E d) 0 0 bX2_number (90, [(0, .ref x0)], [], σ, 0, 0)
noncomputable def qX2_number_98 (E : xEn) (d : Nat) (x0 : Nat) (σ : xH) : Option xR := xval E (xsem xT E d) 0 0 bX2_number (98, [(0, .ref x0)], [], σ, 0, 0)
noncomputable def qX2_number_106 (E : xEn) (d : Nat) (x0 : Nat) (σ : xH) : Option xR := xval E (xsem xT E d) 0 0 bX2_number (106, [(0, .ref x0)], [], σ, 0, 0)
noncomputable def qX2_number_114 (E : xEn) (d : Nat) (x0 : Nat) (σ : xH) : Option xR := xval E (xsem xT E d) 0 0 bX2_number (114, [(0, .ref x0)], [], σ, 0, 0)
noncomputable def qX2_number_119 (E : xEn) (d : Nat) (x0 : Nat) (σ : xH) : Option xR := xval E (xsem xT E d) 0 0 bX2_number (119, [(0, .ref x0)], [], σ, 0, 0)
noncomputable def qX2_number_124 (E : xEn) (d : Nat) (x0 : Nat) (σ : xH) : Option xR := xval E (xsem xT E d) 0 0 bX2_number (124, [(0, .ref x0)], [], σ, 0, 0)
noncomputable def qX2_number_129 (E : xEn) (d : Nat) (x0 : Nat) (σ : xH) : Option xR := xval E (xsem xT E d) 0 0 bX2_number (129, [(0, .ref x0)], [], σ, 0, 0)
noncomputable def qX2_number_137 (E : xEn) (d : Nat) (x0 : Nat) (σ : xH) : Option xR := xval E (xsem xT E d) 0 0 bX2_number (137, [(0, .ref x0)], [], σ, 0, 0)
noncomputable def qX2_number_145 (E : xEn) (d : Nat) (x0 : Nat) (σ : xH) : Option xR := xval E (xsem xT E d) 0 0 bX2_number (145, [(0, .ref x0)], [], σ, 0, 0)
set_option maxRecDepth 100000 in
theorem QX2_number_0 (E : xEn) (d : Nat) (x0 : Nat) (x1 : Int32) (σ : xH) : qX2_number_0 E d x0 x1 σ = if x1 = (nI 0) then qX2_number_64 E d x0 σ else if x1 = (nI 1) then qX2_number_72 E d x0 σ else if x1 = (nI 2) then qX2_number_77 E d x0 σ else if x1 = (nI 3) then qX2_number_85 E d x0 σ else if x1 = (nI 4) then qX2_number_90 E d x0 σ else if x1 = (nI 5) then qX2_number_98 E d x0 σ else if x1 = (nI 6) then qX2_number_106 E d x0 σ else if x1 = (nI 7) then qX2_number_114 E d x0 σ else if x1 = (nI 8) then qX2_number_119 E d x0 σ else if x1 = (nI 9) then qX2_number_124 E d x0 σ else if x1 = (nI 10) then qX2_number_129 E d x0 σ else if x1 = (nI 11) then qX2_number_137 E d x0 σ else qX2_number_145 E d x0 σ := xval_blkQ E (xsem xT E d) 0 0 bX2_number (pc := 0) rfl [(0, .ref x0), (1, .int x1)] [] σ 0 0
set_option maxRecDepth 100000 in
theorem QX2_number_64 (E : xEn) (d : Nat) (x0 : Nat) (σ : xH) : qX2_number_64 E d x0 σ = gR σ 2 0 x0 (fun v1 => gI σ 5 0 v1 (fun v2 => some (.inl (some (.int v2)), σ))) := xval_blkQ E (xsem xT E d) 0 0 bX2_number (pc := 64) rfl [(0, .ref x0)] [] σ 0 0
set_option maxRecDepth 100000 in
theorem QX2_number_72 (E : xEn) (d : Nat) (x0 : Nat) (σ : xH) : qX2_number_72 E d x0 σ = gI σ 2 4 x0 (fun v1 => some (.inl (some (.int v1)), σ)) := xval_blkQ E (xsem xT E d) 0 0 bX2_number (pc := 72) rfl [(0, .ref x0)] [] σ 0 0
set_option maxRecDepth 100000 in
theorem QX2_number_77 (E : xEn) (d : Nat) (x0 : Nat) (σ : xH) : qX2_number_77 E d x0 σ = gR σ 2 0 x0 (fun v1 => gI σ 5 1 v1 (fun v2 => some (.inl (some (.int v2)), σ))) := xval_blkQ E (xsem xT E d) 0 0 bX2_number (pc := 77) rfl [(0, .ref x0)] [] σ 0 0
set_option maxRecDepth 100000 in
theorem QX2_number_85 (E : xEn) (d : Nat) (x0 : Nat) (σ : xH) : qX2_number_85 E d x0 σ = gI σ 2 5 x0 (fun v1 => some (.inl (some (.int v1)), σ)) := xval_blkQ E (xsem xT E d) 0 0 bX2_number (pc := 85) rfl [(0, .ref x0)] [] σ 0 0
set_option maxRecDepth 100000 in
theorem QX2_number_90 (E : xEn) (d : Nat) (x0 : Nat) (σ : xH) : qX2_number_90 E d x0 σ = gR σ 2 1 x0 (fun v1 => gI σ 4 2 v1 (fun v2 => some (.inl (some (.int v2)), σ))) := xval_blkQ E (xsem xT E d) 0 0 bX2_number (pc := 90) rfl [(0, .ref x0)] [] σ 0 0
set_option maxRecDepth 100000 in
theorem QX2_number_98 (E : xEn) (d : Nat) (x0 : Nat) (σ : xH) : qX2_number_98 E d x0 σ = gR σ 2 1 x0 (fun v1 => gI σ 4 3 v1 (fun v2 => some (.inl (some (.int v2)), σ))) := xval_blkQ E (xsem xT E d) 0 0 bX2_number (pc := 98) rfl [(0, .ref x0)] [] σ 0 0
set_option maxRecDepth 100000 in
theorem QX2_number_106 (E : xEn) (d : Nat) (x0 : Nat) (σ : xH) : qX2_number_106 E d x0 σ = gR σ 2 1 x0 (fun v1 => gI σ 4 4 v1 (fun v2 => some (.inl (some (.int v2)), σ))) := xval_blkQ E (xsem xT E d) 0 0 bX2_number (pc := 106) rfl [(0, .ref x0)] [] σ 0 0
set_option maxRecDepth 100000 in
theorem QX2_number_114 (E : xEn) (d : Nat) (x0 : Nat) (σ : xH) : qX2_number_114 E d x0 σ = gI σ 2 6 x0 (fun v1 => some (.inl (some (.int v1)), σ)) := xval_blkQ E (xsem xT E d) 0 0 bX2_number (pc := 114) rfl [(0, .ref x0)] [] σ 0 0
set_option maxRecDepth 100000 in
theorem QX2_number_119 (E : xEn) (d : Nat) (x0 : Nat) (σ : xH) : qX2_number_119 E d x0 σ = gI σ 2 7 x0 (fun v1 => some (.inl (some (.int v1)), σ)) := xval_blkQ E (xsem xT E d) 0 0 bX2_number (pc := 119) rfl [(0, .ref x0)] [] σ 0 0
set_option maxRecDepth 100000 in
theorem QX2_number_124 (E : xEn) (d : Nat) (x0 : Nat) (σ : xH) : qX2_number_124 E d x0 σ = gI σ 2 8 x0 (fun v1 => some (.inl (some (.int v1)), σ)) := xval_blkQ E (xsem xT E d) 0 0 bX2_number (pc := 124) rfl [(0, .ref x0)] [] σ 0 0
set_option maxRecDepth 100000 in
theorem QX2_number_129 (E : xEn) (d : Nat) (x0 : Nat) (σ : xH) : qX2_number_129 E d x0 σ = gR σ 2 1 x0 (fun v1 => gO E σ 4 v1 (cI (xthr 1 some) (xsem xT E d kX4_sum [.ref v1] σ) (fun v2 σ1 => some (.inl (some (.int v2)), σ1)))) := xval_blkQ E (xsem xT E d) 0 0 bX2_number (pc := 129) rfl [(0, .ref x0)] [] σ 0 0
set_option maxRecDepth 100000 in
theorem QX2_number_137 (E : xEn) (d : Nat) (x0 : Nat) (σ : xH) : qX2_number_137 E d x0 σ = gR σ 2 1 x0 (fun v1 => gO E σ 4 v1 (cI (xthr 1 some) (xsem xT E d kX4_countBelieved [.ref v1] σ) (fun v2 σ1 => some (.inl (some (.int v2)), σ1)))) := xval_blkQ E (xsem xT E d) 0 0 bX2_number (pc := 137) rfl [(0, .ref x0)] [] σ 0 0
set_option maxRecDepth 100000 in
theorem QX2_number_145 (E : xEn) (d : Nat) (x0 : Nat) (σ : xH) : qX2_number_145 E d x0 σ = gR σ 2 2 x0 (fun v1 => gI σ 0 2 v1 (fun v2 => some (.inl (some (.int v2)), σ))) := xval_blkQ E (xsem xT E d) 0 0 bX2_number (pc := 145) rfl [(0, .ref x0)] [] σ 0 0
theorem eX2_number (E : xEn) (d : Nat) (x0 : Nat) (x1 : Int32) (σ : xH) : xsem xT E (d + 1) kX2_number [.ref x0, .int x1] σ = qX2_number_0 E d x0 x1 σ := rfl
noncomputable def qX2_isBlinkNext_0 (E : xEn) (d : Nat) (x0 : Nat) (σ : xH) : Option xR := xval E (xsem xT E d) 0 0 bX2_isBlinkNext (0, [(0, .ref x0)], [], σ, 0, 0)
set_option maxRecDepth 100000 in
theorem QX2_isBlinkNext_0 (E : xEn) (d : Nat) (x0 : Nat) (σ : xH) : qX2_isBlinkNext_0 E d x0 σ = gR σ 2 2 x0 (fun v1 => gI σ 2 4 x0 (fun v2 => gO E σ 0 v1 (cI (xthr 1 some) (xsem xT E d kX0_has [.ref v1, .int v2] σ) (fun v3 σ1 => xiret [5] v3 (some (.inl (some (.int v3)), σ1)))))) := xval_blkQ E (xsem xT E d) 0 0 bX2_isBlinkNext (pc := 0) rfl [(0, .ref x0)] [] σ 0 0
theorem eX2_isBlinkNext (E : xEn) (d : Nat) (x0 : Nat) (σ : xH) : xsem xT E (d + 1) kX2_isBlinkNext [.ref x0] σ = qX2_isBlinkNext_0 E d x0 σ := rfl
noncomputable def qX2_canSteal_0 (E : xEn) (d : Nat) (x0 : Nat) (x1 : Int32) (σ : xH) : Option xR := xval E (xsem xT E d) 0 0 bX2_canSteal (0, [(0, .ref x0), (1, .int x1)], [], σ, 0, 0)
noncomputable def qX2_canSteal_32 (E : xEn) (d : Nat) (σ : xH) : Option xR := xval E (xsem xT E d) 0 0 bX2_canSteal (32, [], [], σ, 0, 0)
noncomputable def qX2_canSteal_33 (E : xEn) (d : Nat) (s0 : Int32) (σ : xH) : Option xR := xval E (xsem xT E d) 0 0 bX2_canSteal (33, [], [.int s0], σ, 0, 0)
set_option maxRecDepth 100000 in
theorem QX2_canSteal_0 (E : xEn) (d : Nat) (x0 : Nat) (x1 : Int32) (σ : xH) : qX2_canSteal_0 E d x0 x1 σ = gO E σ 2 x0 (cI (xthr 1 some) (xsem xT E d kX2_isBlinkNext [.ref x0] σ) (fun v1 σ1 => if v1 = (nI 0) then qX2_canSteal_32 E d σ1 else gR σ1 2 1 x0 (fun v2 => gI σ1 4 4 v2 (fun v3 => if v3 ≤ (nI 0) then qX2_canSteal_32 E d σ1 else gR σ1 2 0 x0 (fun v4 => gI σ1 5 1 v4 (fun v5 => if v5 = x1 then qX2_canSteal_33 E d (nI 1) σ1 else qX2_canSteal_32 E d σ1)))))) := xval_blkQ E (xsem xT E d) 0 0 bX2_canSteal (pc := 0) rfl [(0, .ref x0), (1, .int x1)] [] σ 0 0
set_option maxRecDepth 100000 in
theorem QX2_canSteal_32 (E : xEn) (d : Nat) (σ : xH) : qX2_canSteal_32 E d σ = qX2_canSteal_33 E d (nI 0) σ := xval_blkQ E (xsem xT E d) 0 0 bX2_canSteal (pc := 32) rfl [] [] σ 0 0
set_option maxRecDepth 100000 in
theorem QX2_canSteal_33 (E : xEn) (d : Nat) (s0 : Int32) (σ : xH) : qX2_canSteal_33 E d s0 σ = xiret [5] s0 (some (.inl (some (.int s0)), σ)) := xval_blkQ E (xsem xT E d) 0 0 bX2_canSteal (pc := 33) rfl [] [.int s0] σ 0 0
theorem eX2_canSteal (E : xEn) (d : Nat) (x0 : Nat) (x1 : Int32) (σ : xH) : xsem xT E (d + 1) kX2_canSteal [.ref x0, .int x1] σ = qX2_canSteal_0 E d x0 x1 σ := rfl
noncomputable def qX2_canPlant_0 (E : xEn) (d : Nat) (x0 : Nat) (σ : xH) : Option xR := xval E (xsem xT E d) 0 0 bX2_canPlant (0, [(0, .ref x0)], [], σ, 0, 0)
noncomputable def qX2_canPlant_38 (E : xEn) (d : Nat) (σ : xH) : Option xR := xval E (xsem xT E d) 0 0 bX2_canPlant (38, [], [], σ, 0, 0)
noncomputable def qX2_canPlant_39 (E : xEn) (d : Nat) (s0 : Int32) (σ : xH) : Option xR := xval E (xsem xT E d) 0 0 bX2_canPlant (39, [], [.int s0], σ, 0, 0)
set_option maxRecDepth 100000 in
theorem QX2_canPlant_0 (E : xEn) (d : Nat) (x0 : Nat) (σ : xH) : qX2_canPlant_0 E d x0 σ = gO E σ 2 x0 (cI (xthr 1 some) (xsem xT E d kX2_isBlinkNext [.ref x0] σ) (fun v1 σ1 => if v1 = (nI 0) then qX2_canPlant_38 E d σ1 else gR σ1 2 1 x0 (fun v2 => gI σ1 4 4 v2 (fun v3 => if v3 ≤ (nI 0) then qX2_canPlant_38 E d σ1 else gR σ1 2 0 x0 (fun v4 => gI σ1 5 1 v4 (fun v5 => gR σ1 2 0 x0 (fun v6 => gI σ1 5 0 v6 (fun v7 => if v5 = v7 then qX2_canPlant_39 E d (nI 1) σ1 else qX2_canPlant_38 E d σ1)))))))) := xval_blkQ E (xsem xT E d) 0 0 bX2_canPlant (pc := 0) rfl [(0, .ref x0)] [] σ 0 0
set_option maxRecDepth 100000 in
theorem QX2_canPlant_38 (E : xEn) (d : Nat) (σ : xH) : qX2_canPlant_38 E d σ = qX2_canPlant_39 E d (nI 0) σ := xval_blkQ E (xsem xT E d) 0 0 bX2_canPlant (pc := 38) rfl [] [] σ 0 0
set_option maxRecDepth 100000 in
theorem QX2_canPlant_39 (E : xEn) (d : Nat) (s0 : Int32) (σ : xH) : qX2_canPlant_39 E d s0 σ = xiret [5] s0 (some (.inl (some (.int s0)), σ)) := xval_blkQ E (xsem xT E d) 0 0 bX2_canPlant (pc := 39) rfl [] [.int s0] σ 0 0
theorem eX2_canPlant (E : xEn) (d : Nat) (x0 : Nat) (σ : xH) : xsem xT E (d + 1) kX2_canPlant [.ref x0] σ = qX2_canPlant_0 E d x0 σ := rfl
noncomputable def qX2_makeMove_0 (E : xEn) (d : Nat) (x0 : Nat) (x1 : Int32) (x2 : Int32) (x3 : Int32) (σ : xH) : Option xR := xval E (xsem xT E d) 0 0 bX2_makeMove (0, [(0, .ref x0), (1, .int x1), (2, .int x2), (3, .int x3)], [], σ, 0, 0)
noncomputable def qX2_makeMove_35 (E : xEn) (d : Nat) (x0 : Nat) (x4 : Int32) (σ : xH) : Option xR := xval E (xsem xT E d) 0 0 bX2_makeMove (35, [(0, .ref x0), (4, .int x4)], [], σ, 0, 0)
set_option maxRecDepth 100000 in
theorem QX2_makeMove_0 (E : xEn) (d : Nat) (x0 : Nat) (x1 : Int32) (x2 : Int32) (x3 : Int32) (σ : xH) : qX2_makeMove_0 E d x0 x1 x2 x3 σ = gO E σ 2 x0 (cI (xthr 1 some) (xsem xT E d kX2_isBlinkNext [.ref x0] σ) (fun v1 σ1 => gR σ1 2 1 x0 (fun v2 => gR σ1 2 0 x0 (fun v3 => gO E σ1 4 v2 (cV (xthr 1 some) (xsem xT E d kX4_followMove [.ref v2, .ref v3, .int x1, .int x2, .int x3, .int v1] σ1) (fun σ2 => if x1 = (nI 0) then qX2_makeMove_35 E d x0 v1 σ2 else gR σ2 2 0 x0 (fun v4 => gO E σ2 5 v4 (cV (xthr 1 some) (xsem xT E d kX5_exchange [.ref v4, .int x2, .int x3] σ2) (fun σ3 => qX2_makeMove_35 E d x0 v1 σ3))))))))) := xval_blkQ E (xsem xT E d) 0 0 bX2_makeMove (pc := 0) rfl [(0, .ref x0), (1, .int x1), (2, .int x2), (3, .int x3)] [] σ 0 0
set_option maxRecDepth 100000 in
theorem QX2_makeMove_35 (E : xEn) (d : Nat) (x0 : Nat) (x4 : Int32) (σ : xH) : qX2_makeMove_35 E d x0 x4 σ = gO E σ 2 x0 (cV (xthr 1 some) (xsem xT E d kX2_countStep [.ref x0, .int x4] σ) (fun σ1 => xiret [5] x4 (some (.inl (some (.int x4)), σ1)))) := xval_blkQ E (xsem xT E d) 0 0 bX2_makeMove (pc := 35) rfl [(0, .ref x0), (4, .int x4)] [] σ 0 0
theorem eX2_makeMove (E : xEn) (d : Nat) (x0 : Nat) (x1 : Int32) (x2 : Int32) (x3 : Int32) (σ : xH) : xsem xT E (d + 1) kX2_makeMove [.ref x0, .int x1, .int x2, .int x3] σ = qX2_makeMove_0 E d x0 x1 x2 x3 σ := rfl
noncomputable def qX2_makeStill_0 (E : xEn) (d : Nat) (x0 : Nat) (x1 : Int32) (σ : xH) : Option xR := xval E (xsem xT E d) 0 0 bX2_makeStill (0, [(0, .ref x0), (1, .int x1)], [], σ, 0, 0)
set_option maxRecDepth 100000 in
theorem QX2_makeStill_0 (E : xEn) (d : Nat) (x0 : Nat) (x1 : Int32) (σ : xH) : qX2_makeStill_0 E d x0 x1 σ = gO E σ 2 x0 (cI (xthr 1 some) (xsem xT E d kX2_isBlinkNext [.ref x0] σ) (fun v1 σ1 => gR σ1 2 1 x0 (fun v2 => gR σ1 2 0 x0 (fun v3 => gO E σ1 4 v2 (cV (xthr 1 some) (xsem xT E d kX4_followStill [.ref v2, .ref v3, .int v1] σ1) (fun σ2 => gR σ2 2 0 x0 (fun v4 => gP σ2 5 1 v4 (.int x1) (fun σ3 => gO E σ3 2 x0 (cV (xthr 1 some) (xsem xT E d kX2_countStep [.ref x0, .int v1] σ3) (fun σ4 => xiret [5] v1 (some (.inl (some (.int v1)), σ4)))))))))))) := xval_blkQ E (xsem xT E d) 0 0 bX2_makeStill (pc := 0) rfl [(0, .ref x0), (1, .int x1)] [] σ 0 0
theorem eX2_makeStill (E : xEn) (d : Nat) (x0 : Nat) (x1 : Int32) (σ : xH) : xsem xT E (d + 1) kX2_makeStill [.ref x0, .int x1] σ = qX2_makeStill_0 E d x0 x1 σ := rfl
noncomputable def qX2_countStep_0 (E : xEn) (d : Nat) (x0 : Nat) (x1 : Int32) (σ : xH) : Option xR := xval E (xsem xT E d) 0 0 bX2_countStep (0, [(0, .ref x0), (1, .int x1)], [], σ, 0, 0)
noncomputable def qX2_countStep_24 (E : xEn) (d : Nat) (σ : xH) : Option xR := xval E (xsem xT E d) 0 0 bX2_countStep (24, [], [], σ, 0, 0)
set_option maxRecDepth 100000 in
theorem QX2_countStep_0 (E : xEn) (d : Nat) (x0 : Nat) (x1 : Int32) (σ : xH) : qX2_countStep_0 E d x0 x1 σ = gI σ 2 4 x0 (fun v1 => gP σ 2 4 x0 (.int (v1 + (nI 1))) (fun σ1 => if x1 = (nI 0) then qX2_countStep_24 E d σ1 else gI σ1 2 5 x0 (fun v2 => gP σ1 2 5 x0 (.int (v2 + (nI 1))) (fun σ2 => qX2_countStep_24 E d σ2)))) := xval_blkQ E (xsem xT E d) 0 0 bX2_countStep (pc := 0) rfl [(0, .ref x0), (1, .int x1)] [] σ 0 0
set_option maxRecDepth 100000 in
theorem QX2_countStep_24 (E : xEn) (d : Nat) (σ : xH) : qX2_countStep_24 E d σ = some (.inl none, σ) := xval_blkQ E (xsem xT E d) 0 0 bX2_countStep (pc := 24) rfl [] [] σ 0 0
theorem eX2_countStep (E : xEn) (d : Nat) (x0 : Nat) (x1 : Int32) (σ : xH) : xsem xT E (d + 1) kX2_countStep [.ref x0, .int x1] σ = qX2_countStep_0 E d x0 x1 σ := rfl
noncomputable def qX2_lookUnder_0 (E : xEn) (d : Nat) (x0 : Nat) (x1 : Int32) (σ : xH) : Option xR := xval E (xsem xT E d) 0 0 bX2_lookUnder (0, [(0, .ref x0), (1, .int x1)], [], σ, 0, 0)
noncomputable def qX2_lookUnder_15 (E : xEn) (d : Nat) (x0 : Nat) (x1 : Int32) (σ : xH) : Option xR := xval E (xsem xT E d) 0 0 bX2_lookUnder (15, [(0, .ref x0), (1, .int x1)], [], σ, 0, 0)
noncomputable def qX2_lookUnder_16 (E : xEn) (d : Nat) (x0 : Nat) (x1 : Int32) (s0 : Int32) (σ : xH) : Option xR := xval E (xsem xT E d) 0 0 bX2_lookUnder (16, [(0, .ref x0), (1, .int x1)], [.int s0], σ, 0, 0)
noncomputable def qX2_lookUnder_32 (E : xEn) (d : Nat) (x0 : Nat) (x1 : Int32) (x2 : Int32) (σ : xH) : Option xR := xval E (xsem xT E d) 0 0 bX2_lookUnder (32, [(0, .ref x0), (1, .int x1), (2, .int x2)], [], σ, 0, 0)
noncomputable def qX2_lookUnder_40 (E : xEn) (d : Nat) (x2 : Int32) (σ : xH) : Option xR := xval E (xsem xT E d) 0 0 bX2_lookUnder (40, [(2, .int x2)], [], σ, 0, 0)
set_option maxRecDepth 100000 in
theorem QX2_lookUnder_0 (E : xEn) (d : Nat) (x0 : Nat) (x1 : Int32) (σ : xH) : qX2_lookUnder_0 E d x0 x1 σ = gR σ 2 0 x0 (fun v1 => gI σ 5 1 v1 (fun v2 => if v2 = x1 then qX2_lookUnder_16 E d x0 x1 (nI 1) σ else qX2_lookUnder_15 E d x0 x1 σ)) := xval_blkQ E (xsem xT E d) 0 0 bX2_lookUnder (pc := 0) rfl [(0, .ref x0), (1, .int x1)] [] σ 0 0
set_option maxRecDepth 100000 in
theorem QX2_lookUnder_15 (E : xEn) (d : Nat) (x0 : Nat) (x1 : Int32) (σ : xH) : qX2_lookUnder_15 E d x0 x1 σ = qX2_lookUnder_16 E d x0 x1 (nI 0) σ := xval_blkQ E (xsem xT E d) 0 0 bX2_lookUnder (pc := 15) rfl [(0, .ref x0), (1, .int x1)] [] σ 0 0
set_option maxRecDepth 100000 in
theorem QX2_lookUnder_16 (E : xEn) (d : Nat) (x0 : Nat) (x1 : Int32) (s0 : Int32) (σ : xH) : qX2_lookUnder_16 E d x0 x1 s0 σ = if s0 = (nI 0) then qX2_lookUnder_32 E d x0 x1 s0 σ else gR σ 2 1 x0 (fun v1 => gO E σ 4 v1 (cV (xthr 1 some) (xsem xT E d kX4_know [.ref v1, .int x1] σ) (fun σ1 => qX2_lookUnder_40 E d s0 σ1))) := xval_blkQ E (xsem xT E d) 0 0 bX2_lookUnder (pc := 16) rfl [(0, .ref x0), (1, .int x1)] [.int s0] σ 0 0
set_option maxRecDepth 100000 in
theorem QX2_lookUnder_32 (E : xEn) (d : Nat) (x0 : Nat) (x1 : Int32) (x2 : Int32) (σ : xH) : qX2_lookUnder_32 E d x0 x1 x2 σ = gR σ 2 1 x0 (fun v1 => gO E σ 4 v1 (cV (xthr 1 some) (xsem xT E d kX4_ruleOut [.ref v1, .int x1] σ) (fun σ1 => qX2_lookUnder_40 E d x2 σ1))) := xval_blkQ E (xsem xT E d) 0 0 bX2_lookUnder (pc := 32) rfl [(0, .ref x0), (1, .int x1), (2, .int x2)] [] σ 0 0
set_option maxRecDepth 100000 in
theorem QX2_lookUnder_40 (E : xEn) (d : Nat) (x2 : Int32) (σ : xH) : qX2_lookUnder_40 E d x2 σ = xiret [5] x2 (some (.inl (some (.int x2)), σ)) := xval_blkQ E (xsem xT E d) 0 0 bX2_lookUnder (pc := 40) rfl [(2, .int x2)] [] σ 0 0
theorem eX2_lookUnder (E : xEn) (d : Nat) (x0 : Nat) (x1 : Int32) (σ : xH) : xsem xT E (d + 1) kX2_lookUnder [.ref x0, .int x1] σ = qX2_lookUnder_0 E d x0 x1 σ := rfl
