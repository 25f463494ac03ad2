/-! EQUATIONS OF THE BLOCKS, written by wip/whole/geneq.py. -/
noncomputable def qX11_errorOffset_0 (E : xEn) (d : Nat) (x0 : Nat) (σ : xH) : Option xR := xval E (xsem xT E d) 0 0 bX11_errorOffset (0, [(0, .ref x0)], [], σ, 0, 0)
set_option maxRecDepth 100000 in
theorem QX11_errorOffset_0 (E : xEn) (d : Nat) (x0 : Nat) (σ : xH) : qX11_errorOffset_0 E d x0 σ = gP σ 9 0 x0 (.int (nI 0)) (fun σ1 => gI σ1 9 12 x0 (fun v1 => some (.inl (some (.int v1)), σ1))) := xval_blkQ E (xsem xT E d) 0 0 bX11_errorOffset (pc := 0) rfl [(0, .ref x0)] [] σ 0 0
theorem eX11_errorOffset (E : xEn) (d : Nat) (x0 : Nat) (σ : xH) : xsem xT E (d + 1) kX11_errorOffset [.ref x0] σ = qX11_errorOffset_0 E d x0 σ := rfl
noncomputable def qX11_fails_0 (E : xEn) (d : Nat) (x0 : Nat) (x1 : Int32) (x2 : Int32) (σ : xH) : Option xR := xval E (xsem xT E d) 0 0 bX11_fails (0, [(0, .ref x0), (1, .int x1), (2, .int x2)], [], σ, 0, 0)
noncomputable def qX11_fails_9 (E : xEn) (d : Nat) (x0 : Nat) (x1 : Int32) (x2 : Int32) (σ : xH) : Option xR := xval E (xsem xT E d) 0 0 bX11_fails (9, [(0, .ref x0), (1, .int x1), (2, .int x2)], [], σ, 0, 0)
set_option maxRecDepth 100000 in
theorem QX11_fails_0 (E : xEn) (d : Nat) (x0 : Nat) (x1 : Int32) (x2 : Int32) (σ : xH) : qX11_fails_0 E d x0 x1 x2 σ = gI σ 9 11 x0 (fun v1 => if v1 = (nI 0) then qX11_fails_9 E d x0 x1 x2 σ else xiret [5] (nI 0) (some (.inl (some (.int (nI 0))), σ))) := xval_blkQ E (xsem xT E d) 0 0 bX11_fails (pc := 0) rfl [(0, .ref x0), (1, .int x1), (2, .int x2)] [] σ 0 0
set_option maxRecDepth 100000 in
theorem QX11_fails_9 (E : xEn) (d : Nat) (x0 : Nat) (x1 : Int32) (x2 : Int32) (σ : xH) : qX11_fails_9 E d x0 x1 x2 σ = gP σ 9 11 x0 (.int x1) (fun σ1 => gP σ1 9 12 x0 (.int x2) (fun σ2 => xiret [5] (nI 0) (some (.inl (some (.int (nI 0))), σ2)))) := xval_blkQ E (xsem xT E d) 0 0 bX11_fails (pc := 9) rfl [(0, .ref x0), (1, .int x1), (2, .int x2)] [] σ 0 0
theorem eX11_fails (E : xEn) (d : Nat) (x0 : Nat) (x1 : Int32) (x2 : Int32) (σ : xH) : xsem xT E (d + 1) kX11_fails [.ref x0, .int x1, .int x2] σ = qX11_fails_0 E d x0 x1 x2 σ := rfl
noncomputable def qX11_here_0 (E : xEn) (d : Nat) (x0 : Nat) (σ : xH) : Option xR := xval E (xsem xT E d) 0 0 bX11_here (0, [(0, .ref x0)], [], σ, 0, 0)
noncomputable def qX11_here_38 (E : xEn) (d : Nat) (x0 : Nat) (σ : xH) : Option xR := xval E (xsem xT E d) 0 0 bX11_here (38, [(0, .ref x0)], [], σ, 0, 0)
noncomputable def qX11_here_61 (E : xEn) (d : Nat) (σ : xH) : Option xR := xval E (xsem xT E d) 0 0 bX11_here (61, [], [], σ, 0, 0)
noncomputable def qX11_here_62 (E : xEn) (d : Nat) (s0 : Int32) (σ : xH) : Option xR := xval E (xsem xT E d) 0 0 bX11_here (62, [], [.int s0], σ, 0, 0)
set_option maxRecDepth 100000 in
theorem QX11_here_0 (E : xEn) (d : Nat) (x0 : Nat) (σ : xH) : qX11_here_0 E d x0 σ = gI σ 9 10 x0 (fun v1 => gI σ 9 9 x0 (fun v2 => if v2 ≤ v1 then qX11_here_38 E d x0 σ else gR σ 9 7 x0 (fun v3 => gI σ 9 10 x0 (fun v4 => aI σ v3 v4 (fun v5 => if v5 = (nI 32) then gI σ 9 10 x0 (fun v6 => gP σ 9 10 x0 (.int (v6 + (nI 1))) (fun σ1 => qX11_here_0 E d x0 σ1)) else qX11_here_38 E d x0 σ))))) := xval_blkQ E (xsem xT E d) 0 0 bX11_here (pc := 0) rfl [(0, .ref x0)] [] σ 0 0
set_option maxRecDepth 100000 in
theorem QX11_here_38 (E : xEn) (d : Nat) (x0 : Nat) (σ : xH) : qX11_here_38 E d x0 σ = gI σ 9 10 x0 (fun v1 => gI σ 9 9 x0 (fun v2 => if v2 ≤ v1 then qX11_here_61 E d σ else gR σ 9 7 x0 (fun v3 => gI σ 9 10 x0 (fun v4 => aI σ v3 v4 (fun v5 => qX11_here_62 E d v5 σ))))) := xval_blkQ E (xsem xT E d) 0 0 bX11_here (pc := 38) rfl [(0, .ref x0)] [] σ 0 0
set_option maxRecDepth 100000 in
theorem QX11_here_61 (E : xEn) (d : Nat) (σ : xH) : qX11_here_61 E d σ = qX11_here_62 E d (-1 : Int32) σ := xval_blkQ E (xsem xT E d) 0 0 bX11_here (pc := 61) rfl [] [] σ 0 0
set_option maxRecDepth 100000 in
theorem QX11_here_62 (E : xEn) (d : Nat) (s0 : Int32) (σ : xH) : qX11_here_62 E d s0 σ = some (.inl (some (.int s0)), σ) := xval_blkQ E (xsem xT E d) 0 0 bX11_here (pc := 62) rfl [] [.int s0] σ 0 0
theorem eX11_here (E : xEn) (d : Nat) (x0 : Nat) (σ : xH) : xsem xT E (d + 1) kX11_here [.ref x0] σ = qX11_here_0 E d x0 σ := rfl
noncomputable def qX11_isLetter_0 (E : xEn) (d : Nat) (x0 : Int32) (σ : xH) : Option xR := xval E (xsem xT E d) 0 0 bX11_isLetter (0, [(0, .int x0)], [], σ, 0, 0)
noncomputable def qX11_isLetter_16 (E : xEn) (d : Nat) (σ : xH) : Option xR := xval E (xsem xT E d) 0 0 bX11_isLetter (16, [], [], σ, 0, 0)
noncomputable def qX11_isLetter_17 (E : xEn) (d : Nat) (s0 : Int32) (σ : xH) : Option xR := xval E (xsem xT E d) 0 0 bX11_isLetter (17, [], [.int s0], σ, 0, 0)
set_option maxRecDepth 100000 in
theorem QX11_isLetter_0 (E : xEn) (d : Nat) (x0 : Int32) (σ : xH) : qX11_isLetter_0 E d x0 σ = if x0 < (nI 97) then qX11_isLetter_16 E d σ else if (nI 122) < x0 then qX11_isLetter_16 E d σ else qX11_isLetter_17 E d (nI 1) σ := xval_blkQ E (xsem xT E d) 0 0 bX11_isLetter (pc := 0) rfl [(0, .int x0)] [] σ 0 0
set_option maxRecDepth 100000 in
theorem QX11_isLetter_16 (E : xEn) (d : Nat) (σ : xH) : qX11_isLetter_16 E d σ = qX11_isLetter_17 E d (nI 0) σ := xval_blkQ E (xsem xT E d) 0 0 bX11_isLetter (pc := 16) rfl [] [] σ 0 0
set_option maxRecDepth 100000 in
theorem QX11_isLetter_17 (E : xEn) (d : Nat) (s0 : Int32) (σ : xH) : qX11_isLetter_17 E d s0 σ = xiret [5] s0 (some (.inl (some (.int s0)), σ)) := xval_blkQ E (xsem xT E d) 0 0 bX11_isLetter (pc := 17) rfl [] [.int s0] σ 0 0
theorem eX11_isLetter (E : xEn) (d : Nat) (x0 : Int32) (σ : xH) : xsem xT E (d + 1) kX11_isLetter [.int x0] σ = qX11_isLetter_0 E d x0 σ := rfl
noncomputable def qX11_isDigit_0 (E : xEn) (d : Nat) (x0 : Int32) (σ : xH) : Option xR := xval E (xsem xT E d) 0 0 bX11_isDigit (0, [(0, .int x0)], [], σ, 0, 0)
noncomputable def qX11_isDigit_16 (E : xEn) (d : Nat) (σ : xH) : Option xR := xval E (xsem xT E d) 0 0 bX11_isDigit (16, [], [], σ, 0, 0)
noncomputable def qX11_isDigit_17 (E : xEn) (d : Nat) (s0 : Int32) (σ : xH) : Option xR := xval E (xsem xT E d) 0 0 bX11_isDigit (17, [], [.int s0], σ, 0, 0)
set_option maxRecDepth 100000 in
theorem QX11_isDigit_0 (E : xEn) (d : Nat) (x0 : Int32) (σ : xH) : qX11_isDigit_0 E d x0 σ = if x0 < (nI 48) then qX11_isDigit_16 E d σ else if (nI 57) < x0 then qX11_isDigit_16 E d σ else qX11_isDigit_17 E d (nI 1) σ := xval_blkQ E (xsem xT E d) 0 0 bX11_isDigit (pc := 0) rfl [(0, .int x0)] [] σ 0 0
set_option maxRecDepth 100000 in
theorem QX11_isDigit_16 (E : xEn) (d : Nat) (σ : xH) : qX11_isDigit_16 E d σ = qX11_isDigit_17 E d (nI 0) σ := xval_blkQ E (xsem xT E d) 0 0 bX11_isDigit (pc := 16) rfl [] [] σ 0 0
set_option maxRecDepth 100000 in
theorem QX11_isDigit_17 (E : xEn) (d : Nat) (s0 : Int32) (σ : xH) : qX11_isDigit_17 E d s0 σ = xiret [5] s0 (some (.inl (some (.int s0)), σ)) := xval_blkQ E (xsem xT E d) 0 0 bX11_isDigit (pc := 17) rfl [] [.int s0] σ 0 0
theorem eX11_isDigit (E : xEn) (d : Nat) (x0 : Int32) (σ : xH) : xsem xT E (d + 1) kX11_isDigit [.int x0] σ = qX11_isDigit_0 E d x0 σ := rfl
noncomputable def qX11_takes_0 (E : xEn) (d : Nat) (x0 : Nat) (x1 : Nat) (σ : xH) : Option xR := xval E (xsem xT E d) 0 0 bX11_takes (0, [(0, .ref x0), (1, .ref x1)], [], σ, 0, 0)
noncomputable def qX11_takes_7 (E : xEn) (d : Nat) (x0 : Nat) (x1 : Nat) (x2 : Int32) (σ : xH) : Option xR := xval E (xsem xT E d) 0 0 bX11_takes (7, [(0, .ref x0), (1, .ref x1), (2, .int x2)], [], σ, 0, 0)
noncomputable def qX11_takes_43 (E : xEn) (d : Nat) (x0 : Nat) (x1 : Nat) (x2 : Int32) (σ : xH) : Option xR := xval E (xsem xT E d) 0 0 bX11_takes (43, [(0, .ref x0), (1, .ref x1), (2, .int x2)], [], σ, 0, 0)
noncomputable def qX11_takes_53 (E : xEn) (d : Nat) (x0 : Nat) (x1 : Nat) (x2 : Int32) (σ : xH) : Option xR := xval E (xsem xT E d) 0 0 bX11_takes (53, [(0, .ref x0), (1, .ref x1), (2, .int x2)], [], σ, 0, 0)
noncomputable def qX11_takes_55 (E : xEn) (d : Nat) (x0 : Nat) (x1 : Nat) (x2 : Int32) (x3 : Int32) (σ : xH) : Option xR := xval E (xsem xT E d) 0 0 bX11_takes (55, [(0, .ref x0), (1, .ref x1), (2, .int x2), (3, .int x3)], [], σ, 0, 0)
noncomputable def qX11_takes_81 (E : xEn) (d : Nat) (x0 : Nat) (x1 : Nat) (x2 : Int32) (x3 : Int32) (σ : xH) : Option xR := xval E (xsem xT E d) 0 0 bX11_takes (81, [(0, .ref x0), (1, .ref x1), (2, .int x2), (3, .int x3)], [], σ, 0, 0)
noncomputable def qX11_takes_87 (E : xEn) (d : Nat) (x0 : Nat) (x2 : Int32) (σ : xH) : Option xR := xval E (xsem xT E d) 0 0 bX11_takes (87, [(0, .ref x0), (2, .int x2)], [], σ, 0, 0)
set_option maxRecDepth 100000 in
theorem QX11_takes_0 (E : xEn) (d : Nat) (x0 : Nat) (x1 : Nat) (σ : xH) : qX11_takes_0 E d x0 x1 σ = gO E σ 9 x0 (cI (xthr 1 some) (xsem xT E d kX11_here [.ref x0] σ) (fun v1 σ1 => qX11_takes_7 E d x0 x1 (nI 0) σ1)) := xval_blkQ E (xsem xT E d) 0 0 bX11_takes (pc := 0) rfl [(0, .ref x0), (1, .ref x1)] [] σ 0 0
set_option maxRecDepth 100000 in
theorem QX11_takes_7 (E : xEn) (d : Nat) (x0 : Nat) (x1 : Nat) (x2 : Int32) (σ : xH) : qX11_takes_7 E d x0 x1 x2 σ = gI σ 9 10 x0 (fun v1 => gI σ 9 9 x0 (fun v2 => if v2 ≤ (v1 + x2) then qX11_takes_43 E d x0 x1 x2 σ else gR σ 9 7 x0 (fun v3 => gI σ 9 10 x0 (fun v4 => aI σ v3 (v4 + x2) (fun v5 => cI (xthr 0 some) (xsem xT E d kX11_isLetter [.int v5] σ) (fun v6 σ1 => if v6 = (nI 0) then qX11_takes_43 E d x0 x1 x2 σ1 else qX11_takes_7 E d x0 x1 (x2 + (nI 1)) σ1)))))) := xval_blkQ E (xsem xT E d) 0 0 bX11_takes (pc := 7) rfl [(0, .ref x0), (1, .ref x1), (2, .int x2)] [] σ 0 0
set_option maxRecDepth 100000 in
theorem QX11_takes_43 (E : xEn) (d : Nat) (x0 : Nat) (x1 : Nat) (x2 : Int32) (σ : xH) : qX11_takes_43 E d x0 x1 x2 σ = gO E σ 99 x1 (cI (xthr 1 some) (xsem xT E d kJ0_length_8abf5 [.ref x1] σ) (fun v1 σ1 => if x2 = v1 then qX11_takes_53 E d x0 x1 x2 σ1 else xiret [5] (nI 0) (some (.inl (some (.int (nI 0))), σ1)))) := xval_blkQ E (xsem xT E d) 0 0 bX11_takes (pc := 43) rfl [(0, .ref x0), (1, .ref x1), (2, .int x2)] [] σ 0 0
set_option maxRecDepth 100000 in
theorem QX11_takes_53 (E : xEn) (d : Nat) (x0 : Nat) (x1 : Nat) (x2 : Int32) (σ : xH) : qX11_takes_53 E d x0 x1 x2 σ = qX11_takes_55 E d x0 x1 x2 (nI 0) σ := xval_blkQ E (xsem xT E d) 0 0 bX11_takes (pc := 53) rfl [(0, .ref x0), (1, .ref x1), (2, .int x2)] [] σ 0 0
set_option maxRecDepth 100000 in
theorem QX11_takes_55 (E : xEn) (d : Nat) (x0 : Nat) (x1 : Nat) (x2 : Int32) (x3 : Int32) (σ : xH) : qX11_takes_55 E d x0 x1 x2 x3 σ = if x2 ≤ x3 then qX11_takes_87 E d x0 x2 σ else gR σ 9 7 x0 (fun v1 => gI σ 9 10 x0 (fun v2 => aI σ v1 (v2 + x3) (fun v3 => gO E σ 99 x1 (cI (xthr 1 some) (xsem xT E d kJ0_charAt_5068e [.ref x1, .int x3] σ) (fun v4 σ1 => if v3 = v4 then qX11_takes_81 E d x0 x1 x2 x3 σ1 else xiret [5] (nI 0) (some (.inl (some (.int (nI 0))), σ1))))))) := xval_blkQ E (xsem xT E d) 0 0 bX11_takes (pc := 55) rfl [(0, .ref x0), (1, .ref x1), (2, .int x2), (3, .int x3)] [] σ 0 0
set_option maxRecDepth 100000 in
theorem QX11_takes_81 (E : xEn) (d : Nat) (x0 : Nat) (x1 : Nat) (x2 : Int32) (x3 : Int32) (σ : xH) : qX11_takes_81 E d x0 x1 x2 x3 σ = qX11_takes_55 E d x0 x1 x2 (x3 + (nI 1)) σ := xval_blkQ E (xsem xT E d) 0 0 bX11_takes (pc := 81) rfl [(0, .ref x0), (1, .ref x1), (2, .int x2), (3, .int x3)] [] σ 0 0
set_option maxRecDepth 100000 in
theorem QX11_takes_87 (E : xEn) (d : Nat) (x0 : Nat) (x2 : Int32) (σ : xH) : qX11_takes_87 E d x0 x2 σ = gI σ 9 10 x0 (fun v1 => gP σ 9 10 x0 (.int (v1 + x2)) (fun σ1 => xiret [5] (nI 1) (some (.inl (some (.int (nI 1))), σ1)))) := xval_blkQ E (xsem xT E d) 0 0 bX11_takes (pc := 87) rfl [(0, .ref x0), (2, .int x2)] [] σ 0 0
theorem eX11_takes (E : xEn) (d : Nat) (x0 : Nat) (x1 : Nat) (σ : xH) : xsem xT E (d + 1) kX11_takes [.ref x0, .ref x1] σ = qX11_takes_0 E d x0 x1 σ := rfl
noncomputable def qX11_sign_0 (E : xEn) (d : Nat) (x0 : Nat) (x1 : Int32) (σ : xH) : Option xR := xval E (xsem xT E d) 0 0 bX11_sign (0, [(0, .ref x0), (1, .int x1)], [], σ, 0, 0)
noncomputable def qX11_sign_19 (E : xEn) (d : Nat) (x0 : Nat) (σ : xH) : Option xR := xval E (xsem xT E d) 0 0 bX11_sign (19, [(0, .ref x0)], [], σ, 0, 0)
set_option maxRecDepth 100000 in
theorem QX11_sign_0 (E : xEn) (d : Nat) (x0 : Nat) (x1 : Int32) (σ : xH) : qX11_sign_0 E d x0 x1 σ = gO E σ 9 x0 (cI (xthr 1 some) (xsem xT E d kX11_here [.ref x0] σ) (fun v1 σ1 => if v1 = x1 then qX11_sign_19 E d x0 σ1 else gI σ1 9 10 x0 (fun v2 => gO E σ1 9 x0 (cI (xthr 1 some) (xsem xT E d kX11_fails [.ref x0, .int (-2 : Int32), .int v2] σ1) (fun v3 σ2 => xiret [5] v3 (some (.inl (some (.int v3)), σ2))))))) := xval_blkQ E (xsem xT E d) 0 0 bX11_sign (pc := 0) rfl [(0, .ref x0), (1, .int x1)] [] σ 0 0
set_option maxRecDepth 100000 in
theorem QX11_sign_19 (E : xEn) (d : Nat) (x0 : Nat) (σ : xH) : qX11_sign_19 E d x0 σ = gI σ 9 10 x0 (fun v1 => gP σ 9 10 x0 (.int (v1 + (nI 1))) (fun σ1 => xiret [5] (nI 1) (some (.inl (some (.int (nI 1))), σ1)))) := xval_blkQ E (xsem xT E d) 0 0 bX11_sign (pc := 19) rfl [(0, .ref x0)] [] σ 0 0
theorem eX11_sign (E : xEn) (d : Nat) (x0 : Nat) (x1 : Int32) (σ : xH) : xsem xT E (d + 1) kX11_sign [.ref x0, .int x1] σ = qX11_sign_0 E d x0 x1 σ := rfl
noncomputable def qX11_reads_0 (E : xEn) (d : Nat) (x0 : Nat) (x1 : Int32) (x2 : Int32) (σ : xH) : Option xR := xval E (xsem xT E d) 0 0 bX11_reads (0, [(0, .ref x0), (1, .int x1), (2, .int x2)], [], σ, 0, 0)
noncomputable def qX11_reads_21 (E : xEn) (d : Nat) (x0 : Nat) (x1 : Int32) (x2 : Int32) (σ : xH) : Option xR := xval E (xsem xT E d) 0 0 bX11_reads (21, [(0, .ref x0), (1, .int x1), (2, .int x2)], [], σ, 0, 0)
noncomputable def qX11_reads_34 (E : xEn) (d : Nat) (x0 : Nat) (x1 : Int32) (x2 : Int32) (σ : xH) : Option xR := xval E (xsem xT E d) 0 0 bX11_reads (34, [(0, .ref x0), (1, .int x1), (2, .int x2)], [], σ, 0, 0)
noncomputable def qX11_reads_77 (E : xEn) (d : Nat) (x0 : Nat) (x1 : Int32) (x2 : Int32) (s0 : Nat) (σ : xH) : Option xR := xval E (xsem xT E d) 0 0 bX11_reads (77, [(0, .ref x0), (1, .int x1), (2, .int x2)], [.ref s0], σ, 0, 0)
noncomputable def qX11_reads_97 (E : xEn) (d : Nat) (x0 : Nat) (x1 : Int32) (x2 : Int32) (s0 : Nat) (s1 : Int32) (σ : xH) : Option xR := xval E (xsem xT E d) 0 0 bX11_reads (97, [(0, .ref x0), (1, .int x1), (2, .int x2)], [.int s1, .ref s0], σ, 0, 0)
noncomputable def qX11_reads_113 (E : xEn) (d : Nat) (x0 : Nat) (x1 : Int32) (x2 : Int32) (σ : xH) : Option xR := xval E (xsem xT E d) 0 0 bX11_reads (113, [(0, .ref x0), (1, .int x1), (2, .int x2)], [], σ, 0, 0)
noncomputable def qX11_reads_138 (E : xEn) (d : Nat) (σ : xH) : Option xR := xval E (xsem xT E d) 0 0 bX11_reads (138, [], [], σ, 0, 0)
noncomputable def qX11_reads_142 (E : xEn) (d : Nat) (σ : xH) : Option xR := xval E (xsem xT E d) 0 0 bX11_reads (142, [], [], σ, 0, 0)
noncomputable def qX11_reads_143 (E : xEn) (d : Nat) (s0 : Int32) (σ : xH) : Option xR := xval E (xsem xT E d) 0 0 bX11_reads (143, [], [.int s0], σ, 0, 0)
set_option maxRecDepth 100000 in
theorem QX11_reads_0 (E : xEn) (d : Nat) (x0 : Nat) (x1 : Int32) (x2 : Int32) (σ : xH) : qX11_reads_0 E d x0 x1 x2 σ = gO E σ 9 x0 (cI (xthr 1 some) (xsem xT E d kX11_here [.ref x0] σ) (fun v1 σ1 => cI (xthr 0 some) (xsem xT E d kX11_isDigit [.int v1] σ1) (fun v2 σ2 => if v2 = (nI 0) then gI σ2 9 10 x0 (fun v3 => gO E σ2 9 x0 (cI (xthr 1 some) (xsem xT E d kX11_fails [.ref x0, .int (-2 : Int32), .int v3] σ2) (fun v4 σ3 => xiret [5] v4 (some (.inl (some (.int v4)), σ3))))) else qX11_reads_21 E d x0 x1 x2 σ2))) := xval_blkQ E (xsem xT E d) 0 0 bX11_reads (pc := 0) rfl [(0, .ref x0), (1, .int x1), (2, .int x2)] [] σ 0 0
set_option maxRecDepth 100000 in
theorem QX11_reads_21 (E : xEn) (d : Nat) (x0 : Nat) (x1 : Int32) (x2 : Int32) (σ : xH) : qX11_reads_21 E d x0 x1 x2 σ = gI σ 9 10 x0 (fun v1 => gP σ 9 14 x0 (.int v1) (fun σ1 => gP σ1 9 13 x0 (.int (nI 0)) (fun σ2 => qX11_reads_34 E d x0 x1 x2 σ2))) := xval_blkQ E (xsem xT E d) 0 0 bX11_reads (pc := 21) rfl [(0, .ref x0), (1, .int x1), (2, .int x2)] [] σ 0 0
set_option maxRecDepth 100000 in
theorem QX11_reads_34 (E : xEn) (d : Nat) (x0 : Nat) (x1 : Int32) (x2 : Int32) (σ : xH) : qX11_reads_34 E d x0 x1 x2 σ = gI σ 9 10 x0 (fun v1 => gI σ 9 9 x0 (fun v2 => if v2 ≤ v1 then qX11_reads_113 E d x0 x1 x2 σ else gR σ 9 7 x0 (fun v3 => gI σ 9 10 x0 (fun v4 => aI σ v3 v4 (fun v5 => cI (xthr 0 some) (xsem xT E d kX11_isDigit [.int v5] σ) (fun v6 σ1 => if v6 = (nI 0) then qX11_reads_113 E d x0 x1 x2 σ1 else gI σ1 9 13 x0 (fun v7 => if v7 ≤ (nI 100000) then qX11_reads_77 E d x0 x1 x2 x0 σ1 else gI σ1 9 13 x0 (fun v8 => qX11_reads_97 E d x0 x1 x2 x0 v8 σ1)))))))) := xval_blkQ E (xsem xT E d) 0 0 bX11_reads (pc := 34) rfl [(0, .ref x0), (1, .int x1), (2, .int x2)] [] σ 0 0
set_option maxRecDepth 100000 in
theorem QX11_reads_77 (E : xEn) (d : Nat) (x0 : Nat) (x1 : Int32) (x2 : Int32) (s0 : Nat) (σ : xH) : qX11_reads_77 E d x0 x1 x2 s0 σ = gI σ 9 13 x0 (fun v1 => gR σ 9 7 x0 (fun v2 => gI σ 9 10 x0 (fun v3 => aI σ v2 v3 (fun v4 => qX11_reads_97 E d x0 x1 x2 s0 ((((nI 10) * v1) + v4) - (nI 48)) σ)))) := xval_blkQ E (xsem xT E d) 0 0 bX11_reads (pc := 77) rfl [(0, .ref x0), (1, .int x1), (2, .int x2)] [.ref s0] σ 0 0
set_option maxRecDepth 100000 in
theorem QX11_reads_97 (E : xEn) (d : Nat) (x0 : Nat) (x1 : Int32) (x2 : Int32) (s0 : Nat) (s1 : Int32) (σ : xH) : qX11_reads_97 E d x0 x1 x2 s0 s1 σ = gP σ 9 13 s0 (.int s1) (fun σ1 => gI σ1 9 10 x0 (fun v1 => gP σ1 9 10 x0 (.int (v1 + (nI 1))) (fun σ2 => qX11_reads_34 E d x0 x1 x2 σ2))) := xval_blkQ E (xsem xT E d) 0 0 bX11_reads (pc := 97) rfl [(0, .ref x0), (1, .int x1), (2, .int x2)] [.int s1, .ref s0] σ 0 0
set_option maxRecDepth 100000 in
theorem QX11_reads_113 (E : xEn) (d : Nat) (x0 : Nat) (x1 : Int32) (x2 : Int32) (σ : xH) : qX11_reads_113 E d x0 x1 x2 σ = gI σ 9 13 x0 (fun v1 => cI (xthr 0 some) (xsem xT E d kX11_isIn [.int v1, .int x1, .int x2] σ) (fun v2 σ1 => if v2 = (nI 0) then gI σ1 9 14 x0 (fun v3 => gO E σ1 9 x0 (cI (xthr 1 some) (xsem xT E d kX11_fails [.ref x0, .int (-3 : Int32), .int v3] σ1) (fun v4 σ2 => if v4 = (nI 0) then qX11_reads_142 E d σ2 else qX11_reads_138 E d σ2))) else qX11_reads_138 E d σ1)) := xval_blkQ E (xsem xT E d) 0 0 bX11_reads (pc := 113) rfl [(0, .ref x0), (1, .int x1), (2, .int x2)] [] σ 0 0
set_option maxRecDepth 100000 in
theorem QX11_reads_138 (E : xEn) (d : Nat) (σ : xH) : qX11_reads_138 E d σ = qX11_reads_143 E d (nI 1) σ := xval_blkQ E (xsem xT E d) 0 0 bX11_reads (pc := 138) rfl [] [] σ 0 0
set_option maxRecDepth 100000 in
theorem QX11_reads_142 (E : xEn) (d : Nat) (σ : xH) : qX11_reads_142 E d σ = qX11_reads_143 E d (nI 0) σ := xval_blkQ E (xsem xT E d) 0 0 bX11_reads (pc := 142) rfl [] [] σ 0 0
set_option maxRecDepth 100000 in
theorem QX11_reads_143 (E : xEn) (d : Nat) (s0 : Int32) (σ : xH) : qX11_reads_143 E d s0 σ = xiret [5] s0 (some (.inl (some (.int s0)), σ)) := xval_blkQ E (xsem xT E d) 0 0 bX11_reads (pc := 143) rfl [] [.int s0] σ 0 0
theorem eX11_reads (E : xEn) (d : Nat) (x0 : Nat) (x1 : Int32) (x2 : Int32) (σ : xH) : xsem xT E (d + 1) kX11_reads [.ref x0, .int x1, .int x2] σ = qX11_reads_0 E d x0 x1 x2 σ := rfl
noncomputable def qX11_emits_0 (E : xEn) (d : Nat) (x0 : Nat) (x1 : Int32) (x2 : Int32) (σ : xH) : Option xR := xval E (xsem xT E d) 0 0 bX11_emits (0, [(0, .ref x0), (1, .int x1), (2, .int x2)], [], σ, 0, 0)
set_option maxRecDepth 100000 in
theorem QX11_emits_0 (E : xEn) (d : Nat) (x0 : Nat) (x1 : Int32) (x2 : Int32) (σ : xH) : qX11_emits_0 E d x0 x1 x2 σ = gR σ 9 2 x0 (fun v1 => aI σ v1 (nI 11) (fun v2 => gR σ 9 2 x0 (fun v3 => sI σ v3 ((nI 61) + ((nI 2) * v2)) x1 (fun σ1 => gR σ1 9 2 x0 (fun v4 => sI σ1 v4 (((nI 61) + ((nI 2) * v2)) + (nI 1)) x2 (fun σ2 => gR σ2 9 2 x0 (fun v5 => aI σ2 v5 (nI 11) (fun v6 => sI σ2 v5 (nI 11) (v6 + (nI 1)) (fun σ3 => some (.inl none, σ3)))))))))) := xval_blkQ E (xsem xT E d) 0 0 bX11_emits (pc := 0) rfl [(0, .ref x0), (1, .int x1), (2, .int x2)] [] σ 0 0
theorem eX11_emits (E : xEn) (d : Nat) (x0 : Nat) (x1 : Int32) (x2 : Int32) (σ : xH) : xsem xT E (d + 1) kX11_emits [.ref x0, .int x1, .int x2] σ = qX11_emits_0 E d x0 x1 x2 σ := rfl
noncomputable def qX11_readsFactor_0 (E : xEn) (d : Nat) (x0 : Nat) (σ : xH) : Option xR := xval E (xsem xT E d) 0 0 bX11_readsFactor (0, [(0, .ref x0)], [], σ, 0, 0)
noncomputable def qX11_readsFactor_28 (E : xEn) (d : Nat) (x0 : Nat) (σ : xH) : Option xR := xval E (xsem xT E d) 0 0 bX11_readsFactor (28, [(0, .ref x0)], [], σ, 0, 0)
noncomputable def qX11_readsFactor_64 (E : xEn) (d : Nat) (σ : xH) : Option xR := xval E (xsem xT E d) 0 0 bX11_readsFactor (64, [], [], σ, 0, 0)
noncomputable def qX11_readsFactor_66 (E : xEn) (d : Nat) (x0 : Nat) (σ : xH) : Option xR := xval E (xsem xT E d) 0 0 bX11_readsFactor (66, [(0, .ref x0)], [], σ, 0, 0)
noncomputable def qX11_readsFactor_78 (E : xEn) (d : Nat) (x0 : Nat) (σ : xH) : Option xR := xval E (xsem xT E d) 0 0 bX11_readsFactor (78, [(0, .ref x0)], [], σ, 0, 0)
noncomputable def qX11_readsFactor_101 (E : xEn) (d : Nat) (x0 : Nat) (σ : xH) : Option xR := xval E (xsem xT E d) 0 0 bX11_readsFactor (101, [(0, .ref x0)], [], σ, 0, 0)
noncomputable def qX11_readsFactor_112 (E : xEn) (d : Nat) (x0 : Nat) (σ : xH) : Option xR := xval E (xsem xT E d) 0 0 bX11_readsFactor (112, [(0, .ref x0)], [], σ, 0, 0)
noncomputable def qX11_readsFactor_125 (E : xEn) (d : Nat) (x0 : Nat) (σ : xH) : Option xR := xval E (xsem xT E d) 0 0 bX11_readsFactor (125, [(0, .ref x0)], [], σ, 0, 0)
noncomputable def qX11_readsFactor_138 (E : xEn) (d : Nat) (x0 : Nat) (σ : xH) : Option xR := xval E (xsem xT E d) 0 0 bX11_readsFactor (138, [(0, .ref x0)], [], σ, 0, 0)
noncomputable def qX11_readsFactor_151 (E : xEn) (d : Nat) (x0 : Nat) (σ : xH) : Option xR := xval E (xsem xT E d) 0 0 bX11_readsFactor (151, [(0, .ref x0)], [], σ, 0, 0)
noncomputable def qX11_readsFactor_164 (E : xEn) (d : Nat) (x0 : Nat) (σ : xH) : Option xR := xval E (xsem xT E d) 0 0 bX11_readsFactor (164, [(0, .ref x0)], [], σ, 0, 0)
noncomputable def qX11_readsFactor_165 (E : xEn) (d : Nat) (x0 : Nat) (s0 : Int32) (σ : xH) : Option xR := xval E (xsem xT E d) 0 0 bX11_readsFactor (165, [(0, .ref x0)], [.int s0], σ, 0, 0)
noncomputable def qX11_readsFactor_182 (E : xEn) (d : Nat) (x0 : Nat) (x1 : Int32) (σ : xH) : Option xR := xval E (xsem xT E d) 0 0 bX11_readsFactor (182, [(0, .ref x0), (1, .int x1)], [], σ, 0, 0)
set_option maxRecDepth 100000 in
theorem QX11_readsFactor_0 (E : xEn) (d : Nat) (x0 : Nat) (σ : xH) : qX11_readsFactor_0 E d x0 σ = gO E σ 9 x0 (cI (xthr 1 some) (xsem xT E d kX11_here [.ref x0] σ) (fun v1 σ1 => if v1 = (nI 40) then gI σ1 9 15 x0 (fun v2 => if v2 = (nI 4) then gI σ1 9 10 x0 (fun v3 => gO E σ1 9 x0 (cI (xthr 1 some) (xsem xT E d kX11_fails [.ref x0, .int (-6 : Int32), .int v3] σ1) (fun v4 σ2 => xiret [5] v4 (some (.inl (some (.int v4)), σ2))))) else qX11_readsFactor_28 E d x0 σ1) else qX11_readsFactor_78 E d x0 σ1)) := xval_blkQ E (xsem xT E d) 0 0 bX11_readsFactor (pc := 0) rfl [(0, .ref x0)] [] σ 0 0
set_option maxRecDepth 100000 in
theorem QX11_readsFactor_28 (E : xEn) (d : Nat) (x0 : Nat) (σ : xH) : qX11_readsFactor_28 E d x0 σ = gI σ 9 15 x0 (fun v1 => gP σ 9 15 x0 (.int (v1 + (nI 1))) (fun σ1 => gI σ1 9 10 x0 (fun v2 => gP σ1 9 10 x0 (.int (v2 + (nI 1))) (fun σ2 => gO E σ2 9 x0 (cI (xthr 1 some) (xsem xT E d kX11_readsSum [.ref x0] σ2) (fun v3 σ3 => if v3 = (nI 0) then qX11_readsFactor_64 E d σ3 else gO E σ3 9 x0 (cI (xthr 1 some) (xsem xT E d kX11_sign [.ref x0, .int (nI 41)] σ3) (fun v4 σ4 => if v4 = (nI 0) then qX11_readsFactor_64 E d σ4 else qX11_readsFactor_66 E d x0 σ4)))))))) := xval_blkQ E (xsem xT E d) 0 0 bX11_readsFactor (pc := 28) rfl [(0, .ref x0)] [] σ 0 0
set_option maxRecDepth 100000 in
theorem QX11_readsFactor_64 (E : xEn) (d : Nat) (σ : xH) : qX11_readsFactor_64 E d σ = xiret [5] (nI 0) (some (.inl (some (.int (nI 0))), σ)) := xval_blkQ E (xsem xT E d) 0 0 bX11_readsFactor (pc := 64) rfl [] [] σ 0 0
set_option maxRecDepth 100000 in
theorem QX11_readsFactor_66 (E : xEn) (d : Nat) (x0 : Nat) (σ : xH) : qX11_readsFactor_66 E d x0 σ = gI σ 9 15 x0 (fun v1 => gP σ 9 15 x0 (.int (v1 - (nI 1))) (fun σ1 => xiret [5] (nI 1) (some (.inl (some (.int (nI 1))), σ1)))) := xval_blkQ E (xsem xT E d) 0 0 bX11_readsFactor (pc := 66) rfl [(0, .ref x0)] [] σ 0 0
set_option maxRecDepth 100000 in
theorem QX11_readsFactor_78 (E : xEn) (d : Nat) (x0 : Nat) (σ : xH) : qX11_readsFactor_78 E d x0 σ = gO E σ 9 x0 (cI (xthr 1 some) (xsem xT E d kX11_here [.ref x0] σ) (fun v1 σ1 => cI (xthr 0 some) (xsem xT E d kX11_isDigit [.int v1] σ1) (fun v2 σ2 => if v2 = (nI 0) then qX11_readsFactor_112 E d x0 σ2 else gO E σ2 9 x0 (cI (xthr 1 some) (xsem xT E d kX11_reads [.ref x0, .int (nI 0), .int (nI 9999)] σ2) (fun v3 σ3 => if v3 = (nI 0) then xiret [5] (nI 0) (some (.inl (some (.int (nI 0))), σ3)) else qX11_readsFactor_101 E d x0 σ3))))) := xval_blkQ E (xsem xT E d) 0 0 bX11_readsFactor (pc := 78) rfl [(0, .ref x0)] [] σ 0 0
set_option maxRecDepth 100000 in
theorem QX11_readsFactor_101 (E : xEn) (d : Nat) (x0 : Nat) (σ : xH) : qX11_readsFactor_101 E d x0 σ = gI σ 9 13 x0 (fun v1 => gO E σ 9 x0 (cV (xthr 1 some) (xsem xT E d kX11_emits [.ref x0, .int (nI 0), .int v1] σ) (fun σ1 => xiret [5] (nI 1) (some (.inl (some (.int (nI 1))), σ1))))) := xval_blkQ E (xsem xT E d) 0 0 bX11_readsFactor (pc := 101) rfl [(0, .ref x0)] [] σ 0 0
set_option maxRecDepth 100000 in
theorem QX11_readsFactor_112 (E : xEn) (d : Nat) (x0 : Nat) (σ : xH) : qX11_readsFactor_112 E d x0 σ = gO E σ 9 x0 (cI (xthr 1 some) (xsem xT E d kX11_takes [.ref x0, .ref (E.2.1 8)] σ) (fun v1 σ1 => if v1 = (nI 0) then qX11_readsFactor_125 E d x0 σ1 else qX11_readsFactor_165 E d x0 (nI 0) σ1)) := xval_blkQ E (xsem xT E d) 0 0 bX11_readsFactor (pc := 112) rfl [(0, .ref x0)] [] σ 0 0
set_option maxRecDepth 100000 in
theorem QX11_readsFactor_125 (E : xEn) (d : Nat) (x0 : Nat) (σ : xH) : qX11_readsFactor_125 E d x0 σ = gO E σ 9 x0 (cI (xthr 1 some) (xsem xT E d kX11_takes [.ref x0, .ref (E.2.1 9)] σ) (fun v1 σ1 => if v1 = (nI 0) then qX11_readsFactor_138 E d x0 σ1 else qX11_readsFactor_165 E d x0 (nI 1) σ1)) := xval_blkQ E (xsem xT E d) 0 0 bX11_readsFactor (pc := 125) rfl [(0, .ref x0)] [] σ 0 0
set_option maxRecDepth 100000 in
theorem QX11_readsFactor_138 (E : xEn) (d : Nat) (x0 : Nat) (σ : xH) : qX11_readsFactor_138 E d x0 σ = gO E σ 9 x0 (cI (xthr 1 some) (xsem xT E d kX11_takes [.ref x0, .ref (E.2.1 10)] σ) (fun v1 σ1 => if v1 = (nI 0) then qX11_readsFactor_151 E d x0 σ1 else qX11_readsFactor_165 E d x0 (nI 2) σ1)) := xval_blkQ E (xsem xT E d) 0 0 bX11_readsFactor (pc := 138) rfl [(0, .ref x0)] [] σ 0 0
set_option maxRecDepth 100000 in
theorem QX11_readsFactor_151 (E : xEn) (d : Nat) (x0 : Nat) (σ : xH) : qX11_readsFactor_151 E d x0 σ = gO E σ 9 x0 (cI (xthr 1 some) (xsem xT E d kX11_takes [.ref x0, .ref (E.2.1 11)] σ) (fun v1 σ1 => if v1 = (nI 0) then qX11_readsFactor_164 E d x0 σ1 else qX11_readsFactor_165 E d x0 (nI 3) σ1)) := xval_blkQ E (xsem xT E d) 0 0 bX11_readsFactor (pc := 151) rfl [(0, .ref x0)] [] σ 0 0
set_option maxRecDepth 100000 in
theorem QX11_readsFactor_164 (E : xEn) (d : Nat) (x0 : Nat) (σ : xH) : qX11_readsFactor_164 E d x0 σ = qX11_readsFactor_165 E d x0 (-1 : Int32) σ := xval_blkQ E (xsem xT E d) 0 0 bX11_readsFactor (pc := 164) rfl [(0, .ref x0)] [] σ 0 0
set_option maxRecDepth 100000 in
theorem QX11_readsFactor_165 (E : xEn) (d : Nat) (x0 : Nat) (s0 : Int32) (σ : xH) : qX11_readsFactor_165 E d x0 s0 σ = if s0 = (-1 : Int32) then gI σ 9 10 x0 (fun v1 => gO E σ 9 x0 (cI (xthr 1 some) (xsem xT E d kX11_fails [.ref x0, .int (-2 : Int32), .int v1] σ) (fun v2 σ1 => xiret [5] v2 (some (.inl (some (.int v2)), σ1))))) else qX11_readsFactor_182 E d x0 s0 σ := xval_blkQ E (xsem xT E d) 0 0 bX11_readsFactor (pc := 165) rfl [(0, .ref x0)] [.int s0] σ 0 0
set_option maxRecDepth 100000 in
theorem QX11_readsFactor_182 (E : xEn) (d : Nat) (x0 : Nat) (x1 : Int32) (σ : xH) : qX11_readsFactor_182 E d x0 x1 σ = gO E σ 9 x0 (cV (xthr 1 some) (xsem xT E d kX11_emits [.ref x0, .int (nI 1), .int x1] σ) (fun σ1 => xiret [5] (nI 1) (some (.inl (some (.int (nI 1))), σ1)))) := xval_blkQ E (xsem xT E d) 0 0 bX11_readsFactor (pc := 182) rfl [(0, .ref x0), (1, .int x1)] [] σ 0 0
theorem eX11_readsFactor (E : xEn) (d : Nat) (x0 : Nat) (σ : xH) : xsem xT E (d + 1) kX11_readsFactor [.ref x0] σ = qX11_readsFactor_0 E d x0 σ := rfl
noncomputable def qX11_readsTerm_0 (E : xEn) (d : Nat) (x0 : Nat) (σ : xH) : Option xR := xval E (xsem xT E d) 0 0 bX11_readsTerm (0, [(0, .ref x0)], [], σ, 0, 0)
noncomputable def qX11_readsTerm_9 (E : xEn) (d : Nat) (x0 : Nat) (σ : xH) : Option xR := xval E (xsem xT E d) 0 0 bX11_readsTerm (9, [(0, .ref x0)], [], σ, 0, 0)
noncomputable def qX11_readsTerm_27 (E : xEn) (d : Nat) (x0 : Nat) (σ : xH) : Option xR := xval E (xsem xT E d) 0 0 bX11_readsTerm (27, [(0, .ref x0)], [], σ, 0, 0)
noncomputable def qX11_readsTerm_40 (E : xEn) (d : Nat) (x0 : Nat) (σ : xH) : Option xR := xval E (xsem xT E d) 0 0 bX11_readsTerm (40, [(0, .ref x0)], [], σ, 0, 0)
noncomputable def qX11_readsTerm_41 (E : xEn) (d : Nat) (x0 : Nat) (s0 : Int32) (σ : xH) : Option xR := xval E (xsem xT E d) 0 0 bX11_readsTerm (41, [(0, .ref x0)], [.int s0], σ, 0, 0)
noncomputable def qX11_readsTerm_61 (E : xEn) (d : Nat) (x0 : Nat) (x1 : Int32) (σ : xH) : Option xR := xval E (xsem xT E d) 0 0 bX11_readsTerm (61, [(0, .ref x0), (1, .int x1)], [], σ, 0, 0)
noncomputable def qX11_readsTerm_70 (E : xEn) (d : Nat) (σ : xH) : Option xR := xval E (xsem xT E d) 0 0 bX11_readsTerm (70, [], [], σ, 0, 0)
set_option maxRecDepth 100000 in
theorem QX11_readsTerm_0 (E : xEn) (d : Nat) (x0 : Nat) (σ : xH) : qX11_readsTerm_0 E d x0 σ = gO E σ 9 x0 (cI (xthr 1 some) (xsem xT E d kX11_readsFactor [.ref x0] σ) (fun v1 σ1 => if v1 = (nI 0) then xiret [5] (nI 0) (some (.inl (some (.int (nI 0))), σ1)) else qX11_readsTerm_9 E d x0 σ1)) := xval_blkQ E (xsem xT E d) 0 0 bX11_readsTerm (pc := 0) rfl [(0, .ref x0)] [] σ 0 0
set_option maxRecDepth 100000 in
theorem QX11_readsTerm_9 (E : xEn) (d : Nat) (x0 : Nat) (σ : xH) : qX11_readsTerm_9 E d x0 σ = gO E σ 9 x0 (cI (xthr 1 some) (xsem xT E d kX11_here [.ref x0] σ) (fun v1 σ1 => if v1 = (nI 42) then qX11_readsTerm_27 E d x0 σ1 else gO E σ1 9 x0 (cI (xthr 1 some) (xsem xT E d kX11_here [.ref x0] σ1) (fun v2 σ2 => if v2 = (nI 47) then qX11_readsTerm_27 E d x0 σ2 else qX11_readsTerm_70 E d σ2)))) := xval_blkQ E (xsem xT E d) 0 0 bX11_readsTerm (pc := 9) rfl [(0, .ref x0)] [] σ 0 0
set_option maxRecDepth 100000 in
theorem QX11_readsTerm_27 (E : xEn) (d : Nat) (x0 : Nat) (σ : xH) : qX11_readsTerm_27 E d x0 σ = gO E σ 9 x0 (cI (xthr 1 some) (xsem xT E d kX11_here [.ref x0] σ) (fun v1 σ1 => if v1 = (nI 42) then qX11_readsTerm_41 E d x0 (nI 4) σ1 else qX11_readsTerm_40 E d x0 σ1)) := xval_blkQ E (xsem xT E d) 0 0 bX11_readsTerm (pc := 27) rfl [(0, .ref x0)] [] σ 0 0
set_option maxRecDepth 100000 in
theorem QX11_readsTerm_40 (E : xEn) (d : Nat) (x0 : Nat) (σ : xH) : qX11_readsTerm_40 E d x0 σ = qX11_readsTerm_41 E d x0 (nI 5) σ := xval_blkQ E (xsem xT E d) 0 0 bX11_readsTerm (pc := 40) rfl [(0, .ref x0)] [] σ 0 0
set_option maxRecDepth 100000 in
theorem QX11_readsTerm_41 (E : xEn) (d : Nat) (x0 : Nat) (s0 : Int32) (σ : xH) : qX11_readsTerm_41 E d x0 s0 σ = gI σ 9 10 x0 (fun v1 => gP σ 9 10 x0 (.int (v1 + (nI 1))) (fun σ1 => gO E σ1 9 x0 (cI (xthr 1 some) (xsem xT E d kX11_readsFactor [.ref x0] σ1) (fun v2 σ2 => if v2 = (nI 0) then xiret [5] (nI 0) (some (.inl (some (.int (nI 0))), σ2)) else qX11_readsTerm_61 E d x0 s0 σ2)))) := xval_blkQ E (xsem xT E d) 0 0 bX11_readsTerm (pc := 41) rfl [(0, .ref x0)] [.int s0] σ 0 0
set_option maxRecDepth 100000 in
theorem QX11_readsTerm_61 (E : xEn) (d : Nat) (x0 : Nat) (x1 : Int32) (σ : xH) : qX11_readsTerm_61 E d x0 x1 σ = gO E σ 9 x0 (cV (xthr 1 some) (xsem xT E d kX11_emits [.ref x0, .int x1, .int (nI 0)] σ) (fun σ1 => qX11_readsTerm_9 E d x0 σ1)) := xval_blkQ E (xsem xT E d) 0 0 bX11_readsTerm (pc := 61) rfl [(0, .ref x0), (1, .int x1)] [] σ 0 0
set_option maxRecDepth 100000 in
theorem QX11_readsTerm_70 (E : xEn) (d : Nat) (σ : xH) : qX11_readsTerm_70 E d σ = xiret [5] (nI 1) (some (.inl (some (.int (nI 1))), σ)) := xval_blkQ E (xsem xT E d) 0 0 bX11_readsTerm (pc := 70) rfl [] [] σ 0 0
theorem eX11_readsTerm (E : xEn) (d : Nat) (x0 : Nat) (σ : xH) : xsem xT E (d + 1) kX11_readsTerm [.ref x0] σ = qX11_readsTerm_0 E d x0 σ := rfl
noncomputable def qX11_readsSum_0 (E : xEn) (d : Nat) (x0 : Nat) (σ : xH) : Option xR := xval E (xsem xT E d) 0 0 bX11_readsSum (0, [(0, .ref x0)], [], σ, 0, 0)
noncomputable def qX11_readsSum_9 (E : xEn) (d : Nat) (x0 : Nat) (σ : xH) : Option xR := xval E (xsem xT E d) 0 0 bX11_readsSum (9, [(0, .ref x0)], [], σ, 0, 0)
noncomputable def qX11_readsSum_27 (E : xEn) (d : Nat) (x0 : Nat) (σ : xH) : Option xR := xval E (xsem xT E d) 0 0 bX11_readsSum (27, [(0, .ref x0)], [], σ, 0, 0)
noncomputable def qX11_readsSum_40 (E : xEn) (d : Nat) (x0 : Nat) (σ : xH) : Option xR := xval E (xsem xT E d) 0 0 bX11_readsSum (40, [(0, .ref x0)], [], σ, 0, 0)
noncomputable def qX11_readsSum_41 (E : xEn) (d : Nat) (x0 : Nat) (s0 : Int32) (σ : xH) : Option xR := xval E (xsem xT E d) 0 0 bX11_readsSum (41, [(0, .ref x0)], [.int s0], σ, 0, 0)
noncomputable def qX11_readsSum_61 (E : xEn) (d : Nat) (x0 : Nat) (x1 : Int32) (σ : xH) : Option xR := xval E (xsem xT E d) 0 0 bX11_readsSum (61, [(0, .ref x0), (1, .int x1)], [], σ, 0, 0)
noncomputable def qX11_readsSum_70 (E : xEn) (d : Nat) (σ : xH) : Option xR := xval E (xsem xT E d) 0 0 bX11_readsSum (70, [], [], σ, 0, 0)
set_option maxRecDepth 100000 in
theorem QX11_readsSum_0 (E : xEn) (d : Nat) (x0 : Nat) (σ : xH) : qX11_readsSum_0 E d x0 σ = gO E σ 9 x0 (cI (xthr 1 some) (xsem xT E d kX11_readsTerm [.ref x0] σ) (fun v1 σ1 => if v1 = (nI 0) then xiret [5] (nI 0) (some (.inl (some (.int (nI 0))), σ1)) else qX11_readsSum_9 E d x0 σ1)) := xval_blkQ E (xsem xT E d) 0 0 bX11_readsSum (pc := 0) rfl [(0, .ref x0)] [] σ 0 0
set_option maxRecDepth 100000 in
theorem QX11_readsSum_9 (E : xEn) (d : Nat) (x0 : Nat) (σ : xH) : qX11_readsSum_9 E d x0 σ = gO E σ 9 x0 (cI (xthr 1 some) (xsem xT E d kX11_here [.ref x0] σ) (fun v1 σ1 => if v1 = (nI 43) then qX11_readsSum_27 E d x0 σ1 else gO E σ1 9 x0 (cI (xthr 1 some) (xsem xT E d kX11_here [.ref x0] σ1) (fun v2 σ2 => if v2 = (nI 45) then qX11_readsSum_27 E d x0 σ2 else qX11_readsSum_70 E d σ2)))) := xval_blkQ E (xsem xT E d) 0 0 bX11_readsSum (pc := 9) rfl [(0, .ref x0)] [] σ 0 0
set_option maxRecDepth 100000 in
theorem QX11_readsSum_27 (E : xEn) (d : Nat) (x0 : Nat) (σ : xH) : qX11_readsSum_27 E d x0 σ = gO E σ 9 x0 (cI (xthr 1 some) (xsem xT E d kX11_here [.ref x0] σ) (fun v1 σ1 => if v1 = (nI 43) then qX11_readsSum_41 E d x0 (nI 2) σ1 else qX11_readsSum_40 E d x0 σ1)) := xval_blkQ E (xsem xT E d) 0 0 bX11_readsSum (pc := 27) rfl [(0, .ref x0)] [] σ 0 0
set_option maxRecDepth 100000 in
theorem QX11_readsSum_40 (E : xEn) (d : Nat) (x0 : Nat) (σ : xH) : qX11_readsSum_40 E d x0 σ = qX11_readsSum_41 E d x0 (nI 3) σ := xval_blkQ E (xsem xT E d) 0 0 bX11_readsSum (pc := 40) rfl [(0, .ref x0)] [] σ 0 0
set_option maxRecDepth 100000 in
theorem QX11_readsSum_41 (E : xEn) (d : Nat) (x0 : Nat) (s0 : Int32) (σ : xH) : qX11_readsSum_41 E d x0 s0 σ = gI σ 9 10 x0 (fun v1 => gP σ 9 10 x0 (.int (v1 + (nI 1))) (fun σ1 => gO E σ1 9 x0 (cI (xthr 1 some) (xsem xT E d kX11_readsTerm [.ref x0] σ1) (fun v2 σ2 => if v2 = (nI 0) then xiret [5] (nI 0) (some (.inl (some (.int (nI 0))), σ2)) else qX11_readsSum_61 E d x0 s0 σ2)))) := xval_blkQ E (xsem xT E d) 0 0 bX11_readsSum (pc := 41) rfl [(0, .ref x0)] [.int s0] σ 0 0
set_option maxRecDepth 100000 in
theorem QX11_readsSum_61 (E : xEn) (d : Nat) (x0 : Nat) (x1 : Int32) (σ : xH) : qX11_readsSum_61 E d x0 x1 σ = gO E σ 9 x0 (cV (xthr 1 some) (xsem xT E d kX11_emits [.ref x0, .int x1, .int (nI 0)] σ) (fun σ1 => qX11_readsSum_9 E d x0 σ1)) := xval_blkQ E (xsem xT E d) 0 0 bX11_readsSum (pc := 61) rfl [(0, .ref x0), (1, .int x1)] [] σ 0 0
set_option maxRecDepth 100000 in
theorem QX11_readsSum_70 (E : xEn) (d : Nat) (σ : xH) : qX11_readsSum_70 E d σ = xiret [5] (nI 1) (some (.inl (some (.int (nI 1))), σ)) := xval_blkQ E (xsem xT E d) 0 0 bX11_readsSum (pc := 70) rfl [] [] σ 0 0
theorem eX11_readsSum (E : xEn) (d : Nat) (x0 : Nat) (σ : xH) : xsem xT E (d + 1) kX11_readsSum [.ref x0] σ = qX11_readsSum_0 E d x0 σ := rfl
noncomputable def qX11_once_0 (E : xEn) (d : Nat) (x0 : Nat) (x1 : Int32) (x2 : Int32) (σ : xH) : Option xR := xval E (xsem xT E d) 0 0 bX11_once (0, [(0, .ref x0), (1, .int x1), (2, .int x2)], [], σ, 0, 0)
noncomputable def qX11_once_20 (E : xEn) (d : Nat) (x0 : Nat) (x1 : Int32) (σ : xH) : Option xR := xval E (xsem xT E d) 0 0 bX11_once (20, [(0, .ref x0), (1, .int x1)], [], σ, 0, 0)
set_option maxRecDepth 100000 in
theorem QX11_once_0 (E : xEn) (d : Nat) (x0 : Nat) (x1 : Int32) (x2 : Int32) (σ : xH) : qX11_once_0 E d x0 x1 x2 σ = gI σ 9 16 x0 (fun v1 => if ((v1 >>> (x1 &&& 31)) &&& (nI 1)) = (nI 1) then gO E σ 9 x0 (cI (xthr 1 some) (xsem xT E d kX11_fails [.ref x0, .int (-2 : Int32), .int x2] σ) (fun v2 σ1 => xiret [5] v2 (some (.inl (some (.int v2)), σ1)))) else qX11_once_20 E d x0 x1 σ) := xval_blkQ E (xsem xT E d) 0 0 bX11_once (pc := 0) rfl [(0, .ref x0), (1, .int x1), (2, .int x2)] [] σ 0 0
set_option maxRecDepth 100000 in
theorem QX11_once_20 (E : xEn) (d : Nat) (x0 : Nat) (x1 : Int32) (σ : xH) : qX11_once_20 E d x0 x1 σ = gI σ 9 16 x0 (fun v1 => gP σ 9 16 x0 (.int (v1 ||| ((nI 1) <<< (x1 &&& 31)))) (fun σ1 => xiret [5] (nI 1) (some (.inl (some (.int (nI 1))), σ1)))) := xval_blkQ E (xsem xT E d) 0 0 bX11_once (pc := 20) rfl [(0, .ref x0), (1, .int x1)] [] σ 0 0
theorem eX11_once (E : xEn) (d : Nat) (x0 : Nat) (x1 : Int32) (x2 : Int32) (σ : xH) : xsem xT E (d + 1) kX11_once [.ref x0, .int x1, .int x2] σ = qX11_once_0 E d x0 x1 x2 σ := rfl
noncomputable def qX11_readsScratch_0 (E : xEn) (d : Nat) (x0 : Nat) (σ : xH) : Option xR := xval E (xsem xT E d) 0 0 bX11_readsScratch (0, [(0, .ref x0)], [], σ, 0, 0)
noncomputable def qX11_readsScratch_18 (E : xEn) (d : Nat) (x0 : Nat) (σ : xH) : Option xR := xval E (xsem xT E d) 0 0 bX11_readsScratch (18, [(0, .ref x0)], [], σ, 0, 0)
noncomputable def qX11_readsScratch_45 (E : xEn) (d : Nat) (x0 : Nat) (σ : xH) : Option xR := xval E (xsem xT E d) 0 0 bX11_readsScratch (45, [(0, .ref x0)], [], σ, 0, 0)
set_option maxRecDepth 100000 in
theorem QX11_readsScratch_0 (E : xEn) (d : Nat) (x0 : Nat) (σ : xH) : qX11_readsScratch_0 E d x0 σ = gR σ 9 2 x0 (fun v1 => aI σ v1 (nI 0) (fun v2 => gO E σ 9 x0 (cI (xthr 1 some) (xsem xT E d kX11_reads [.ref x0, .int (nI 0), .int (v2 - (nI 1))] σ) (fun v3 σ1 => if v3 = (nI 0) then xiret [5] (nI 0) (some (.inl (some (.int (nI 0))), σ1)) else qX11_readsScratch_18 E d x0 σ1)))) := xval_blkQ E (xsem xT E d) 0 0 bX11_readsScratch (pc := 0) rfl [(0, .ref x0)] [] σ 0 0
set_option maxRecDepth 100000 in
theorem QX11_readsScratch_18 (E : xEn) (d : Nat) (x0 : Nat) (σ : xH) : qX11_readsScratch_18 E d x0 σ = gR σ 9 2 x0 (fun v1 => gI σ 9 13 x0 (fun v2 => aI σ v1 ((nI 28) + v2) (fun v3 => if v3 = (nI 1) then gI σ 9 14 x0 (fun v4 => gO E σ 9 x0 (cI (xthr 1 some) (xsem xT E d kX11_fails [.ref x0, .int (-4 : Int32), .int v4] σ) (fun v5 σ1 => xiret [5] v5 (some (.inl (some (.int v5)), σ1))))) else qX11_readsScratch_45 E d x0 σ))) := xval_blkQ E (xsem xT E d) 0 0 bX11_readsScratch (pc := 18) rfl [(0, .ref x0)] [] σ 0 0
set_option maxRecDepth 100000 in
theorem QX11_readsScratch_45 (E : xEn) (d : Nat) (x0 : Nat) (σ : xH) : qX11_readsScratch_45 E d x0 σ = gR σ 9 2 x0 (fun v1 => gI σ 9 13 x0 (fun v2 => sI σ v1 ((nI 28) + v2) (nI 1) (fun σ1 => gO E σ1 9 x0 (cI (xthr 1 some) (xsem xT E d kX11_here [.ref x0] σ1) (fun v3 σ2 => cI (xthr 0 some) (xsem xT E d kX11_isDigit [.int v3] σ2) (fun v4 σ3 => if v4 = (nI 0) then xiret [5] (nI 1) (some (.inl (some (.int (nI 1))), σ3)) else qX11_readsScratch_0 E d x0 σ3)))))) := xval_blkQ E (xsem xT E d) 0 0 bX11_readsScratch (pc := 45) rfl [(0, .ref x0)] [] σ 0 0
theorem eX11_readsScratch (E : xEn) (d : Nat) (x0 : Nat) (σ : xH) : xsem xT E (d + 1) kX11_readsScratch [.ref x0] σ = qX11_readsScratch_0 E d x0 σ := rfl
noncomputable def qX11_readsBlink_0 (E : xEn) (d : Nat) (x0 : Nat) (x1 : Int32) (σ : xH) : Option xR := xval E (xsem xT E d) 0 0 bX11_readsBlink (0, [(0, .ref x0), (1, .int x1)], [], σ, 0, 0)
noncomputable def qX11_readsBlink_20 (E : xEn) (d : Nat) (x0 : Nat) (σ : xH) : Option xR := xval E (xsem xT E d) 0 0 bX11_readsBlink (20, [(0, .ref x0)], [], σ, 0, 0)
noncomputable def qX11_readsBlink_46 (E : xEn) (d : Nat) (x0 : Nat) (x2 : Int32) (σ : xH) : Option xR := xval E (xsem xT E d) 0 0 bX11_readsBlink (46, [(0, .ref x0), (2, .int x2)], [], σ, 0, 0)
noncomputable def qX11_readsBlink_72 (E : xEn) (d : Nat) (x0 : Nat) (x2 : Int32) (σ : xH) : Option xR := xval E (xsem xT E d) 0 0 bX11_readsBlink (72, [(0, .ref x0), (2, .int x2)], [], σ, 0, 0)
set_option maxRecDepth 100000 in
theorem QX11_readsBlink_0 (E : xEn) (d : Nat) (x0 : Nat) (x1 : Int32) (σ : xH) : qX11_readsBlink_0 E d x0 x1 σ = gR σ 9 2 x0 (fun v1 => aI σ v1 (nI 10) (fun v2 => if v2 = (nI 8) then gO E σ 9 x0 (cI (xthr 1 some) (xsem xT E d kX11_fails [.ref x0, .int (-5 : Int32), .int x1] σ) (fun v3 σ1 => xiret [5] v3 (some (.inl (some (.int v3)), σ1)))) else qX11_readsBlink_20 E d x0 σ)) := xval_blkQ E (xsem xT E d) 0 0 bX11_readsBlink (pc := 0) rfl [(0, .ref x0), (1, .int x1)] [] σ 0 0
set_option maxRecDepth 100000 in
theorem QX11_readsBlink_20 (E : xEn) (d : Nat) (x0 : Nat) (σ : xH) : qX11_readsBlink_20 E d x0 σ = gR σ 9 2 x0 (fun v1 => aI σ v1 (nI 10) (fun v2 => gO E σ 9 x0 (cI (xthr 1 some) (xsem xT E d kX11_reads [.ref x0, .int (nI 0), .int (nI 9999)] σ) (fun v3 σ1 => if v3 = (nI 0) then xiret [5] (nI 0) (some (.inl (some (.int (nI 0))), σ1)) else qX11_readsBlink_46 E d x0 ((nI 45) + ((nI 2) * v2)) σ1)))) := xval_blkQ E (xsem xT E d) 0 0 bX11_readsBlink (pc := 20) rfl [(0, .ref x0)] [] σ 0 0
set_option maxRecDepth 100000 in
theorem QX11_readsBlink_46 (E : xEn) (d : Nat) (x0 : Nat) (x2 : Int32) (σ : xH) : qX11_readsBlink_46 E d x0 x2 σ = gR σ 9 2 x0 (fun v1 => gI σ 9 13 x0 (fun v2 => sI σ v1 x2 v2 (fun σ1 => gI σ1 9 13 x0 (fun v3 => gO E σ1 9 x0 (cI (xthr 1 some) (xsem xT E d kX11_reads [.ref x0, .int v3, .int (nI 9999)] σ1) (fun v4 σ2 => if v4 = (nI 0) then xiret [5] (nI 0) (some (.inl (some (.int (nI 0))), σ2)) else qX11_readsBlink_72 E d x0 x2 σ2)))))) := xval_blkQ E (xsem xT E d) 0 0 bX11_readsBlink (pc := 46) rfl [(0, .ref x0), (2, .int x2)] [] σ 0 0
set_option maxRecDepth 100000 in
theorem QX11_readsBlink_72 (E : xEn) (d : Nat) (x0 : Nat) (x2 : Int32) (σ : xH) : qX11_readsBlink_72 E d x0 x2 σ = gR σ 9 2 x0 (fun v1 => gI σ 9 13 x0 (fun v2 => sI σ v1 (x2 + (nI 1)) v2 (fun σ1 => gR σ1 9 2 x0 (fun v3 => aI σ1 v3 (nI 10) (fun v4 => sI σ1 v3 (nI 10) (v4 + (nI 1)) (fun σ2 => xiret [5] (nI 1) (some (.inl (some (.int (nI 1))), σ2)))))))) := xval_blkQ E (xsem xT E d) 0 0 bX11_readsBlink (pc := 72) rfl [(0, .ref x0), (2, .int x2)] [] σ 0 0
theorem eX11_readsBlink (E : xEn) (d : Nat) (x0 : Nat) (x1 : Int32) (σ : xH) : xsem xT E (d + 1) kX11_readsBlink [.ref x0, .int x1] σ = qX11_readsBlink_0 E d x0 x1 σ := rfl
noncomputable def qX11_readsOne_0 (E : xEn) (d : Nat) (x0 : Nat) (x1 : Int32) (x2 : Int32) (x3 : Int32) (σ : xH) : Option xR := xval E (xsem xT E d) 0 0 bX11_readsOne (0, [(0, .ref x0), (1, .int x1), (2, .int x2), (3, .int x3)], [], σ, 0, 0)
noncomputable def qX11_readsOne_11 (E : xEn) (d : Nat) (x0 : Nat) (x1 : Int32) (σ : xH) : Option xR := xval E (xsem xT E d) 0 0 bX11_readsOne (11, [(0, .ref x0), (1, .int x1)], [], σ, 0, 0)
set_option maxRecDepth 100000 in
theorem QX11_readsOne_0 (E : xEn) (d : Nat) (x0 : Nat) (x1 : Int32) (x2 : Int32) (x3 : Int32) (σ : xH) : qX11_readsOne_0 E d x0 x1 x2 x3 σ = gO E σ 9 x0 (cI (xthr 1 some) (xsem xT E d kX11_reads [.ref x0, .int x2, .int x3] σ) (fun v1 σ1 => if v1 = (nI 0) then xiret [5] (nI 0) (some (.inl (some (.int (nI 0))), σ1)) else qX11_readsOne_11 E d x0 x1 σ1)) := xval_blkQ E (xsem xT E d) 0 0 bX11_readsOne (pc := 0) rfl [(0, .ref x0), (1, .int x1), (2, .int x2), (3, .int x3)] [] σ 0 0
set_option maxRecDepth 100000 in
theorem QX11_readsOne_11 (E : xEn) (d : Nat) (x0 : Nat) (x1 : Int32) (σ : xH) : qX11_readsOne_11 E d x0 x1 σ = gR σ 9 2 x0 (fun v1 => gI σ 9 13 x0 (fun v2 => sI σ v1 x1 v2 (fun σ1 => xiret [5] (nI 1) (some (.inl (some (.int (nI 1))), σ1))))) := xval_blkQ E (xsem xT E d) 0 0 bX11_readsOne (pc := 11) rfl [(0, .ref x0), (1, .int x1)] [] σ 0 0
theorem eX11_readsOne (E : xEn) (d : Nat) (x0 : Nat) (x1 : Int32) (x2 : Int32) (x3 : Int32) (σ : xH) : xsem xT E (d + 1) kX11_readsOne [.ref x0, .int x1, .int x2, .int x3] σ = qX11_readsOne_0 E d x0 x1 x2 x3 σ := rfl
noncomputable def qX11_readsStatement_0 (E : xEn) (d : Nat) (x0 : Nat) (σ : xH) : Option xR := xval E (xsem xT E d) 0 0 bX11_readsStatement (0, [(0, .ref x0)], [], σ, 0, 0)
noncomputable def qX11_readsStatement_24 (E : xEn) (d : Nat) (x0 : Nat) (x1 : Int32) (σ : xH) : Option xR := xval E (xsem xT E d) 0 0 bX11_readsStatement (24, [(0, .ref x0), (1, .int x1)], [], σ, 0, 0)
noncomputable def qX11_readsStatement_39 (E : xEn) (d : Nat) (x0 : Nat) (x1 : Int32) (σ : xH) : Option xR := xval E (xsem xT E d) 0 0 bX11_readsStatement (39, [(0, .ref x0), (1, .int x1)], [], σ, 0, 0)
noncomputable def qX11_readsStatement_78 (E : xEn) (d : Nat) (σ : xH) : Option xR := xval E (xsem xT E d) 0 0 bX11_readsStatement (78, [], [], σ, 0, 0)
noncomputable def qX11_readsStatement_79 (E : xEn) (d : Nat) (s0 : Int32) (σ : xH) : Option xR := xval E (xsem xT E d) 0 0 bX11_readsStatement (79, [], [.int s0], σ, 0, 0)
noncomputable def qX11_readsStatement_80 (E : xEn) (d : Nat) (x0 : Nat) (x1 : Int32) (σ : xH) : Option xR := xval E (xsem xT E d) 0 0 bX11_readsStatement (80, [(0, .ref x0), (1, .int x1)], [], σ, 0, 0)
noncomputable def qX11_readsStatement_113 (E : xEn) (d : Nat) (σ : xH) : Option xR := xval E (xsem xT E d) 0 0 bX11_readsStatement (113, [], [], σ, 0, 0)
noncomputable def qX11_readsStatement_114 (E : xEn) (d : Nat) (s0 : Int32) (σ : xH) : Option xR := xval E (xsem xT E d) 0 0 bX11_readsStatement (114, [], [.int s0], σ, 0, 0)
noncomputable def qX11_readsStatement_115 (E : xEn) (d : Nat) (x0 : Nat) (x1 : Int32) (σ : xH) : Option xR := xval E (xsem xT E d) 0 0 bX11_readsStatement (115, [(0, .ref x0), (1, .int x1)], [], σ, 0, 0)
noncomputable def qX11_readsStatement_148 (E : xEn) (d : Nat) (σ : xH) : Option xR := xval E (xsem xT E d) 0 0 bX11_readsStatement (148, [], [], σ, 0, 0)
noncomputable def qX11_readsStatement_149 (E : xEn) (d : Nat) (s0 : Int32) (σ : xH) : Option xR := xval E (xsem xT E d) 0 0 bX11_readsStatement (149, [], [.int s0], σ, 0, 0)
noncomputable def qX11_readsStatement_150 (E : xEn) (d : Nat) (x0 : Nat) (x1 : Int32) (σ : xH) : Option xR := xval E (xsem xT E d) 0 0 bX11_readsStatement (150, [(0, .ref x0), (1, .int x1)], [], σ, 0, 0)
noncomputable def qX11_readsStatement_184 (E : xEn) (d : Nat) (σ : xH) : Option xR := xval E (xsem xT E d) 0 0 bX11_readsStatement (184, [], [], σ, 0, 0)
noncomputable def qX11_readsStatement_185 (E : xEn) (d : Nat) (s0 : Int32) (σ : xH) : Option xR := xval E (xsem xT E d) 0 0 bX11_readsStatement (185, [], [.int s0], σ, 0, 0)
noncomputable def qX11_readsStatement_186 (E : xEn) (d : Nat) (x0 : Nat) (x1 : Int32) (σ : xH) : Option xR := xval E (xsem xT E d) 0 0 bX11_readsStatement (186, [(0, .ref x0), (1, .int x1)], [], σ, 0, 0)
noncomputable def qX11_readsStatement_221 (E : xEn) (d : Nat) (σ : xH) : Option xR := xval E (xsem xT E d) 0 0 bX11_readsStatement (221, [], [], σ, 0, 0)
noncomputable def qX11_readsStatement_222 (E : xEn) (d : Nat) (s0 : Int32) (σ : xH) : Option xR := xval E (xsem xT E d) 0 0 bX11_readsStatement (222, [], [.int s0], σ, 0, 0)
noncomputable def qX11_readsStatement_223 (E : xEn) (d : Nat) (x0 : Nat) (x1 : Int32) (σ : xH) : Option xR := xval E (xsem xT E d) 0 0 bX11_readsStatement (223, [(0, .ref x0), (1, .int x1)], [], σ, 0, 0)
noncomputable def qX11_readsStatement_240 (E : xEn) (d : Nat) (x0 : Nat) (x1 : Int32) (σ : xH) : Option xR := xval E (xsem xT E d) 0 0 bX11_readsStatement (240, [(0, .ref x0), (1, .int x1)], [], σ, 0, 0)
noncomputable def qX11_readsStatement_265 (E : xEn) (d : Nat) (σ : xH) : Option xR := xval E (xsem xT E d) 0 0 bX11_readsStatement (265, [], [], σ, 0, 0)
noncomputable def qX11_readsStatement_266 (E : xEn) (d : Nat) (s0 : Int32) (σ : xH) : Option xR := xval E (xsem xT E d) 0 0 bX11_readsStatement (266, [], [.int s0], σ, 0, 0)
set_option maxRecDepth 100000 in
theorem QX11_readsStatement_0 (E : xEn) (d : Nat) (x0 : Nat) (σ : xH) : qX11_readsStatement_0 E d x0 σ = gO E σ 9 x0 (cI (xthr 1 some) (xsem xT E d kX11_here [.ref x0] σ) (fun v1 σ1 => gI σ1 9 10 x0 (fun v2 => gO E σ1 9 x0 (cI (xthr 1 some) (xsem xT E d kX11_takes [.ref x0, .ref (E.2.1 13)] σ1) (fun v3 σ2 => if v3 = (nI 0) then qX11_readsStatement_24 E d x0 v2 σ2 else gO E σ2 9 x0 (cI (xthr 1 some) (xsem xT E d kX11_readsScratch [.ref x0] σ2) (fun v4 σ3 => xiret [5] v4 (some (.inl (some (.int v4)), σ3))))))))) := xval_blkQ E (xsem xT E d) 0 0 bX11_readsStatement (pc := 0) rfl [(0, .ref x0)] [] σ 0 0
set_option maxRecDepth 100000 in
theorem QX11_readsStatement_24 (E : xEn) (d : Nat) (x0 : Nat) (x1 : Int32) (σ : xH) : qX11_readsStatement_24 E d x0 x1 σ = gO E σ 9 x0 (cI (xthr 1 some) (xsem xT E d kX11_takes [.ref x0, .ref (E.2.1 18)] σ) (fun v1 σ1 => if v1 = (nI 0) then qX11_readsStatement_39 E d x0 x1 σ1 else gO E σ1 9 x0 (cI (xthr 1 some) (xsem xT E d kX11_readsBlink [.ref x0, .int x1] σ1) (fun v2 σ2 => xiret [5] v2 (some (.inl (some (.int v2)), σ2)))))) := xval_blkQ E (xsem xT E d) 0 0 bX11_readsStatement (pc := 24) rfl [(0, .ref x0), (1, .int x1)] [] σ 0 0
set_option maxRecDepth 100000 in
theorem QX11_readsStatement_39 (E : xEn) (d : Nat) (x0 : Nat) (x1 : Int32) (σ : xH) : qX11_readsStatement_39 E d x0 x1 σ = gO E σ 9 x0 (cI (xthr 1 some) (xsem xT E d kX11_takes [.ref x0, .ref (E.2.1 12)] σ) (fun v1 σ1 => if v1 = (nI 0) then qX11_readsStatement_80 E d x0 x1 σ1 else gO E σ1 9 x0 (cI (xthr 1 some) (xsem xT E d kX11_once [.ref x0, .int (nI 0), .int x1] σ1) (fun v2 σ2 => if v2 = (nI 0) then qX11_readsStatement_78 E d σ2 else gR σ2 9 2 x0 (fun v3 => aI σ2 v3 (nI 0) (fun v4 => gO E σ2 9 x0 (cI (xthr 1 some) (xsem xT E d kX11_readsOne [.ref x0, .int (nI 1), .int (nI 0), .int (v4 - (nI 1))] σ2) (fun v5 σ3 => if v5 = (nI 0) then qX11_readsStatement_78 E d σ3 else qX11_readsStatement_79 E d (nI 1) σ3)))))))) := xval_blkQ E (xsem xT E d) 0 0 bX11_readsStatement (pc := 39) rfl [(0, .ref x0), (1, .int x1)] [] σ 0 0
set_option maxRecDepth 100000 in
theorem QX11_readsStatement_78 (E : xEn) (d : Nat) (σ : xH) : qX11_readsStatement_78 E d σ = qX11_readsStatement_79 E d (nI 0) σ := xval_blkQ E (xsem xT E d) 0 0 bX11_readsStatement (pc := 78) rfl [] [] σ 0 0
set_option maxRecDepth 100000 in
theorem QX11_readsStatement_79 (E : xEn) (d : Nat) (s0 : Int32) (σ : xH) : qX11_readsStatement_79 E d s0 σ = xiret [5] s0 (some (.inl (some (.int s0)), σ)) := xval_blkQ E (xsem xT E d) 0 0 bX11_readsStatement (pc := 79) rfl [] [.int s0] σ 0 0
set_option maxRecDepth 100000 in
theorem QX11_readsStatement_80 (E : xEn) (d : Nat) (x0 : Nat) (x1 : Int32) (σ : xH) : qX11_readsStatement_80 E d x0 x1 σ = gO E σ 9 x0 (cI (xthr 1 some) (xsem xT E d kX11_takes [.ref x0, .ref (E.2.1 14)] σ) (fun v1 σ1 => if v1 = (nI 0) then qX11_readsStatement_115 E d x0 x1 σ1 else gO E σ1 9 x0 (cI (xthr 1 some) (xsem xT E d kX11_once [.ref x0, .int (nI 1), .int x1] σ1) (fun v2 σ2 => if v2 = (nI 0) then qX11_readsStatement_113 E d σ2 else gO E σ2 9 x0 (cI (xthr 1 some) (xsem xT E d kX11_readsOne [.ref x0, .int (nI 4), .int (nI 1), .int (nI 99)] σ2) (fun v3 σ3 => if v3 = (nI 0) then qX11_readsStatement_113 E d σ3 else qX11_readsStatement_114 E d (nI 1) σ3)))))) := xval_blkQ E (xsem xT E d) 0 0 bX11_readsStatement (pc := 80) rfl [(0, .ref x0), (1, .int x1)] [] σ 0 0
set_option maxRecDepth 100000 in
theorem QX11_readsStatement_113 (E : xEn) (d : Nat) (σ : xH) : qX11_readsStatement_113 E d σ = qX11_readsStatement_114 E d (nI 0) σ := xval_blkQ E (xsem xT E d) 0 0 bX11_readsStatement (pc := 113) rfl [] [] σ 0 0
set_option maxRecDepth 100000 in
theorem QX11_readsStatement_114 (E : xEn) (d : Nat) (s0 : Int32) (σ : xH) : qX11_readsStatement_114 E d s0 σ = xiret [5] s0 (some (.inl (some (.int s0)), σ)) := xval_blkQ E (xsem xT E d) 0 0 bX11_readsStatement (pc := 114) rfl [] [.int s0] σ 0 0
set_option maxRecDepth 100000 in
theorem QX11_readsStatement_115 (E : xEn) (d : Nat) (x0 : Nat) (x1 : Int32) (σ : xH) : qX11_readsStatement_115 E d x0 x1 σ = gO E σ 9 x0 (cI (xthr 1 some) (xsem xT E d kX11_takes [.ref x0, .ref (E.2.1 15)] σ) (fun v1 σ1 => if v1 = (nI 0) then qX11_readsStatement_150 E d x0 x1 σ1 else gO E σ1 9 x0 (cI (xthr 1 some) (xsem xT E d kX11_once [.ref x0, .int (nI 2), .int x1] σ1) (fun v2 σ2 => if v2 = (nI 0) then qX11_readsStatement_148 E d σ2 else gO E σ2 9 x0 (cI (xthr 1 some) (xsem xT E d kX11_readsOne [.ref x0, .int (nI 5), .int (nI 1), .int (nI 9)] σ2) (fun v3 σ3 => if v3 = (nI 0) then qX11_readsStatement_148 E d σ3 else qX11_readsStatement_149 E d (nI 1) σ3)))))) := xval_blkQ E (xsem xT E d) 0 0 bX11_readsStatement (pc := 115) rfl [(0, .ref x0), (1, .int x1)] [] σ 0 0
set_option maxRecDepth 100000 in
theorem QX11_readsStatement_148 (E : xEn) (d : Nat) (σ : xH) : qX11_readsStatement_148 E d σ = qX11_readsStatement_149 E d (nI 0) σ := xval_blkQ E (xsem xT E d) 0 0 bX11_readsStatement (pc := 148) rfl [] [] σ 0 0
set_option maxRecDepth 100000 in
theorem QX11_readsStatement_149 (E : xEn) (d : Nat) (s0 : Int32) (σ : xH) : qX11_readsStatement_149 E d s0 σ = xiret [5] s0 (some (.inl (some (.int s0)), σ)) := xval_blkQ E (xsem xT E d) 0 0 bX11_readsStatement (pc := 149) rfl [] [.int s0] σ 0 0
set_option maxRecDepth 100000 in
theorem QX11_readsStatement_150 (E : xEn) (d : Nat) (x0 : Nat) (x1 : Int32) (σ : xH) : qX11_readsStatement_150 E d x0 x1 σ = gO E σ 9 x0 (cI (xthr 1 some) (xsem xT E d kX11_takes [.ref x0, .ref (E.2.1 16)] σ) (fun v1 σ1 => if v1 = (nI 0) then qX11_readsStatement_186 E d x0 x1 σ1 else gO E σ1 9 x0 (cI (xthr 1 some) (xsem xT E d kX11_once [.ref x0, .int (nI 3), .int x1] σ1) (fun v2 σ2 => if v2 = (nI 0) then qX11_readsStatement_184 E d σ2 else gO E σ2 9 x0 (cI (xthr 1 some) (xsem xT E d kX11_readsOne [.ref x0, .int (nI 6), .int (nI 0), .int (nI 9)] σ2) (fun v3 σ3 => if v3 = (nI 0) then qX11_readsStatement_184 E d σ3 else qX11_readsStatement_185 E d (nI 1) σ3)))))) := xval_blkQ E (xsem xT E d) 0 0 bX11_readsStatement (pc := 150) rfl [(0, .ref x0), (1, .int x1)] [] σ 0 0
set_option maxRecDepth 100000 in
theorem QX11_readsStatement_184 (E : xEn) (d : Nat) (σ : xH) : qX11_readsStatement_184 E d σ = qX11_readsStatement_185 E d (nI 0) σ := xval_blkQ E (xsem xT E d) 0 0 bX11_readsStatement (pc := 184) rfl [] [] σ 0 0
set_option maxRecDepth 100000 in
theorem QX11_readsStatement_185 (E : xEn) (d : Nat) (s0 : Int32) (σ : xH) : qX11_readsStatement_185 E d s0 σ = xiret [5] s0 (some (.inl (some (.int s0)), σ)) := xval_blkQ E (xsem xT E d) 0 0 bX11_readsStatement (pc := 185) rfl [] [.int s0] σ 0 0
set_option maxRecDepth 100000 in
theorem QX11_readsStatement_186 (E : xEn) (d : Nat) (x0 : Nat) (x1 : Int32) (σ : xH) : qX11_readsStatement_186 E d x0 x1 σ = gO E σ 9 x0 (cI (xthr 1 some) (xsem xT E d kX11_takes [.ref x0, .ref (E.2.1 17)] σ) (fun v1 σ1 => if v1 = (nI 0) then qX11_readsStatement_223 E d x0 x1 σ1 else gO E σ1 9 x0 (cI (xthr 1 some) (xsem xT E d kX11_once [.ref x0, .int (nI 4), .int x1] σ1) (fun v2 σ2 => if v2 = (nI 0) then qX11_readsStatement_221 E d σ2 else gO E σ2 9 x0 (cI (xthr 1 some) (xsem xT E d kX11_readsOne [.ref x0, .int (nI 7), .int (nI 0), .int (nI 9999)] σ2) (fun v3 σ3 => if v3 = (nI 0) then qX11_readsStatement_221 E d σ3 else qX11_readsStatement_222 E d (nI 1) σ3)))))) := xval_blkQ E (xsem xT E d) 0 0 bX11_readsStatement (pc := 186) rfl [(0, .ref x0), (1, .int x1)] [] σ 0 0
set_option maxRecDepth 100000 in
theorem QX11_readsStatement_221 (E : xEn) (d : Nat) (σ : xH) : qX11_readsStatement_221 E d σ = qX11_readsStatement_222 E d (nI 0) σ := xval_blkQ E (xsem xT E d) 0 0 bX11_readsStatement (pc := 221) rfl [] [] σ 0 0
set_option maxRecDepth 100000 in
theorem QX11_readsStatement_222 (E : xEn) (d : Nat) (s0 : Int32) (σ : xH) : qX11_readsStatement_222 E d s0 σ = xiret [5] s0 (some (.inl (some (.int s0)), σ)) := xval_blkQ E (xsem xT E d) 0 0 bX11_readsStatement (pc := 222) rfl [] [.int s0] σ 0 0
set_option maxRecDepth 100000 in
theorem QX11_readsStatement_223 (E : xEn) (d : Nat) (x0 : Nat) (x1 : Int32) (σ : xH) : qX11_readsStatement_223 E d x0 x1 σ = gO E σ 9 x0 (cI (xthr 1 some) (xsem xT E d kX11_takes [.ref x0, .ref (E.2.1 19)] σ) (fun v1 σ1 => if v1 = (nI 0) then gO E σ1 9 x0 (cI (xthr 1 some) (xsem xT E d kX11_fails [.ref x0, .int (-2 : Int32), .int x1] σ1) (fun v2 σ2 => xiret [5] v2 (some (.inl (some (.int v2)), σ2)))) else qX11_readsStatement_240 E d x0 x1 σ1)) := xval_blkQ E (xsem xT E d) 0 0 bX11_readsStatement (pc := 223) rfl [(0, .ref x0), (1, .int x1)] [] σ 0 0
set_option maxRecDepth 100000 in
theorem QX11_readsStatement_240 (E : xEn) (d : Nat) (x0 : Nat) (x1 : Int32) (σ : xH) : qX11_readsStatement_240 E d x0 x1 σ = gP σ 9 15 x0 (.int (nI 0)) (fun σ1 => gO E σ1 9 x0 (cI (xthr 1 some) (xsem xT E d kX11_once [.ref x0, .int (nI 5), .int x1] σ1) (fun v1 σ2 => if v1 = (nI 0) then qX11_readsStatement_265 E d σ2 else gO E σ2 9 x0 (cI (xthr 1 some) (xsem xT E d kX11_readsSum [.ref x0] σ2) (fun v2 σ3 => if v2 = (nI 0) then qX11_readsStatement_265 E d σ3 else qX11_readsStatement_266 E d (nI 1) σ3))))) := xval_blkQ E (xsem xT E d) 0 0 bX11_readsStatement (pc := 240) rfl [(0, .ref x0), (1, .int x1)] [] σ 0 0
set_option maxRecDepth 100000 in
theorem QX11_readsStatement_265 (E : xEn) (d : Nat) (σ : xH) : qX11_readsStatement_265 E d σ = qX11_readsStatement_266 E d (nI 0) σ := xval_blkQ E (xsem xT E d) 0 0 bX11_readsStatement (pc := 265) rfl [] [] σ 0 0
set_option maxRecDepth 100000 in
theorem QX11_readsStatement_266 (E : xEn) (d : Nat) (s0 : Int32) (σ : xH) : qX11_readsStatement_266 E d s0 σ = xiret [5] s0 (some (.inl (some (.int s0)), σ)) := xval_blkQ E (xsem xT E d) 0 0 bX11_readsStatement (pc := 266) rfl [] [.int s0] σ 0 0
theorem eX11_readsStatement (E : xEn) (d : Nat) (x0 : Nat) (σ : xH) : xsem xT E (d + 1) kX11_readsStatement [.ref x0] σ = qX11_readsStatement_0 E d x0 σ := rfl
noncomputable def qX11_readsSetup_0 (E : xEn) (d : Nat) (x0 : Nat) (σ : xH) : Option xR := xval E (xsem xT E d) 0 0 bX11_readsSetup (0, [(0, .ref x0)], [], σ, 0, 0)
noncomputable def qX11_readsSetup_20 (E : xEn) (d : Nat) (x0 : Nat) (σ : xH) : Option xR := xval E (xsem xT E d) 0 0 bX11_readsSetup (20, [(0, .ref x0)], [], σ, 0, 0)
noncomputable def qX11_readsSetup_32 (E : xEn) (d : Nat) (x0 : Nat) (σ : xH) : Option xR := xval E (xsem xT E d) 0 0 bX11_readsSetup (32, [(0, .ref x0)], [], σ, 0, 0)
noncomputable def qX11_readsSetup_56 (E : xEn) (d : Nat) (x0 : Nat) (σ : xH) : Option xR := xval E (xsem xT E d) 0 0 bX11_readsSetup (56, [(0, .ref x0)], [], σ, 0, 0)
noncomputable def qX11_readsSetup_80 (E : xEn) (d : Nat) (σ : xH) : Option xR := xval E (xsem xT E d) 0 0 bX11_readsSetup (80, [], [], σ, 0, 0)
noncomputable def qX11_readsSetup_82 (E : xEn) (d : Nat) (x0 : Nat) (σ : xH) : Option xR := xval E (xsem xT E d) 0 0 bX11_readsSetup (82, [(0, .ref x0)], [], σ, 0, 0)
set_option maxRecDepth 100000 in
theorem QX11_readsSetup_0 (E : xEn) (d : Nat) (x0 : Nat) (σ : xH) : qX11_readsSetup_0 E d x0 σ = gO E σ 9 x0 (cI (xthr 1 some) (xsem xT E d kX11_takes [.ref x0, .ref (E.2.1 8)] σ) (fun v1 σ1 => if v1 = (nI 0) then gI σ1 9 10 x0 (fun v2 => gO E σ1 9 x0 (cI (xthr 1 some) (xsem xT E d kX11_fails [.ref x0, .int (-2 : Int32), .int v2] σ1) (fun v3 σ2 => xiret [5] v3 (some (.inl (some (.int v3)), σ2))))) else qX11_readsSetup_20 E d x0 σ1)) := xval_blkQ E (xsem xT E d) 0 0 bX11_readsSetup (pc := 0) rfl [(0, .ref x0)] [] σ 0 0
set_option maxRecDepth 100000 in
theorem QX11_readsSetup_20 (E : xEn) (d : Nat) (x0 : Nat) (σ : xH) : qX11_readsSetup_20 E d x0 σ = gO E σ 9 x0 (cI (xthr 1 some) (xsem xT E d kX11_reads [.ref x0, .int (nI 2), .int (nI 8)] σ) (fun v1 σ1 => if v1 = (nI 0) then xiret [5] (nI 0) (some (.inl (some (.int (nI 0))), σ1)) else qX11_readsSetup_32 E d x0 σ1)) := xval_blkQ E (xsem xT E d) 0 0 bX11_readsSetup (pc := 20) rfl [(0, .ref x0)] [] σ 0 0
set_option maxRecDepth 100000 in
theorem QX11_readsSetup_32 (E : xEn) (d : Nat) (x0 : Nat) (σ : xH) : qX11_readsSetup_32 E d x0 σ = gI σ 9 13 x0 (fun v1 => gO E σ 9 x0 (cV (xthr 1 some) (xsem xT E d kX11_begins [.ref x0, .int v1] σ) (fun σ1 => gP σ1 9 16 x0 (.int (nI 0)) (fun σ2 => gO E σ2 9 x0 (cI (xthr 1 some) (xsem xT E d kX11_sign [.ref x0, .int (nI 59)] σ2) (fun v2 σ3 => if v2 = (nI 0) then xiret [5] (nI 0) (some (.inl (some (.int (nI 0))), σ3)) else qX11_readsSetup_56 E d x0 σ3)))))) := xval_blkQ E (xsem xT E d) 0 0 bX11_readsSetup (pc := 32) rfl [(0, .ref x0)] [] σ 0 0
set_option maxRecDepth 100000 in
theorem QX11_readsSetup_56 (E : xEn) (d : Nat) (x0 : Nat) (σ : xH) : qX11_readsSetup_56 E d x0 σ = gO E σ 9 x0 (cI (xthr 1 some) (xsem xT E d kX11_here [.ref x0] σ) (fun v1 σ1 => if v1 = (-1 : Int32) then qX11_readsSetup_82 E d x0 σ1 else gO E σ1 9 x0 (cI (xthr 1 some) (xsem xT E d kX11_readsStatement [.ref x0] σ1) (fun v2 σ2 => if v2 = (nI 0) then qX11_readsSetup_80 E d σ2 else gO E σ2 9 x0 (cI (xthr 1 some) (xsem xT E d kX11_sign [.ref x0, .int (nI 59)] σ2) (fun v3 σ3 => if v3 = (nI 0) then qX11_readsSetup_80 E d σ3 else qX11_readsSetup_56 E d x0 σ3)))))) := xval_blkQ E (xsem xT E d) 0 0 bX11_readsSetup (pc := 56) rfl [(0, .ref x0)] [] σ 0 0
set_option maxRecDepth 100000 in
theorem QX11_readsSetup_80 (E : xEn) (d : Nat) (σ : xH) : qX11_readsSetup_80 E d σ = xiret [5] (nI 0) (some (.inl (some (.int (nI 0))), σ)) := xval_blkQ E (xsem xT E d) 0 0 bX11_readsSetup (pc := 80) rfl [] [] σ 0 0
set_option maxRecDepth 100000 in
theorem QX11_readsSetup_82 (E : xEn) (d : Nat) (x0 : Nat) (σ : xH) : qX11_readsSetup_82 E d x0 σ = gR σ 9 2 x0 (fun v1 => sI σ v1 (nI 36) (nI 0) (fun σ1 => gR σ1 9 2 x0 (fun v2 => gR σ1 9 2 x0 (fun v3 => aI σ1 v3 (nI 1) (fun v4 => sI σ1 v2 ((nI 36) + v4) (nI 1) (fun σ2 => xiret [5] (nI 1) (some (.inl (some (.int (nI 1))), σ2)))))))) := xval_blkQ E (xsem xT E d) 0 0 bX11_readsSetup (pc := 82) rfl [(0, .ref x0)] [] σ 0 0
theorem eX11_readsSetup (E : xEn) (d : Nat) (x0 : Nat) (σ : xH) : xsem xT E (d + 1) kX11_readsSetup [.ref x0] σ = qX11_readsSetup_0 E d x0 σ := rfl
noncomputable def qX11_starts_0 (E : xEn) (d : Nat) (x0 : Nat) (x1 : Int32) (σ : xH) : Option xR := xval E (xsem xT E d) 0 0 bX11_starts (0, [(0, .ref x0), (1, .int x1)], [], σ, 0, 0)
noncomputable def qX11_starts_24 (E : xEn) (d : Nat) (x0 : Nat) (x1 : Int32) (σ : xH) : Option xR := xval E (xsem xT E d) 0 0 bX11_starts (24, [(0, .ref x0), (1, .int x1)], [], σ, 0, 0)
set_option maxRecDepth 100000 in
theorem QX11_starts_0 (E : xEn) (d : Nat) (x0 : Nat) (x1 : Int32) (σ : xH) : qX11_starts_0 E d x0 x1 σ = gP σ 9 0 x0 (.int (nI 0)) (fun σ1 => gI σ1 9 8 x0 (fun v1 => cI (xthr 0 some) (xsem xT E d kX11_isIn [.int x1, .int (nI 0), .int v1] σ1) (fun v2 σ2 => gO E σ2 9 x0 (cI (xthr 1 some) (xsem xT E d kX11_right [.ref x0, .int v2, .int (nI 1)] σ2) (fun v3 σ3 => if v3 = (nI 0) then xiret [5] (nI 0) (some (.inl (some (.int (nI 0))), σ3)) else qX11_starts_24 E d x0 x1 σ3))))) := xval_blkQ E (xsem xT E d) 0 0 bX11_starts (pc := 0) rfl [(0, .ref x0), (1, .int x1)] [] σ 0 0
set_option maxRecDepth 100000 in
theorem QX11_starts_24 (E : xEn) (d : Nat) (x0 : Nat) (x1 : Int32) (σ : xH) : qX11_starts_24 E d x0 x1 σ = gP σ 9 9 x0 (.int x1) (fun σ1 => gP σ1 9 10 x0 (.int (nI 0)) (fun σ2 => gP σ2 9 8 x0 (.int (nI 0)) (fun σ3 => gP σ3 9 11 x0 (.int (nI 0)) (fun σ4 => gP σ4 9 12 x0 (.int (-1 : Int32)) (fun σ5 => xiret [5] (nI 1) (some (.inl (some (.int (nI 1))), σ5))))))) := xval_blkQ E (xsem xT E d) 0 0 bX11_starts (pc := 24) rfl [(0, .ref x0), (1, .int x1)] [] σ 0 0
theorem eX11_starts (E : xEn) (d : Nat) (x0 : Nat) (x1 : Int32) (σ : xH) : xsem xT E (d + 1) kX11_starts [.ref x0, .int x1] σ = qX11_starts_0 E d x0 x1 σ := rfl
noncomputable def qX11_load_0 (E : xEn) (d : Nat) (x0 : Nat) (x1 : Int32) (σ : xH) : Option xR := xval E (xsem xT E d) 0 0 bX11_load (0, [(0, .ref x0), (1, .int x1)], [], σ, 0, 0)
noncomputable def qX11_load_10 (E : xEn) (d : Nat) (x0 : Nat) (σ : xH) : Option xR := xval E (xsem xT E d) 0 0 bX11_load (10, [(0, .ref x0)], [], σ, 0, 0)
noncomputable def qX11_load_22 (E : xEn) (d : Nat) (x0 : Nat) (σ : xH) : Option xR := xval E (xsem xT E d) 0 0 bX11_load (22, [(0, .ref x0)], [], σ, 0, 0)
noncomputable def qX11_load_28 (E : xEn) (d : Nat) (x0 : Nat) (x2 : Int32) (σ : xH) : Option xR := xval E (xsem xT E d) 0 0 bX11_load (28, [(0, .ref x0), (2, .int x2)], [], σ, 0, 0)
noncomputable def qX11_load_52 (E : xEn) (d : Nat) (x0 : Nat) (σ : xH) : Option xR := xval E (xsem xT E d) 0 0 bX11_load (52, [(0, .ref x0)], [], σ, 0, 0)
set_option maxRecDepth 100000 in
theorem QX11_load_0 (E : xEn) (d : Nat) (x0 : Nat) (x1 : Int32) (σ : xH) : qX11_load_0 E d x0 x1 σ = gO E σ 9 x0 (cI (xthr 1 some) (xsem xT E d kX11_starts [.ref x0, .int x1] σ) (fun v1 σ1 => if v1 = (nI 0) then some (.inl (some (.int (nI 0))), σ1) else qX11_load_10 E d x0 σ1)) := xval_blkQ E (xsem xT E d) 0 0 bX11_load (pc := 0) rfl [(0, .ref x0), (1, .int x1)] [] σ 0 0
set_option maxRecDepth 100000 in
theorem QX11_load_10 (E : xEn) (d : Nat) (x0 : Nat) (σ : xH) : qX11_load_10 E d x0 σ = gO E σ 9 x0 (cI (xthr 1 some) (xsem xT E d kX11_readsSetup [.ref x0] σ) (fun v1 σ1 => if v1 = (nI 0) then gI σ1 9 11 x0 (fun v2 => some (.inl (some (.int v2)), σ1)) else qX11_load_22 E d x0 σ1)) := xval_blkQ E (xsem xT E d) 0 0 bX11_load (pc := 10) rfl [(0, .ref x0)] [] σ 0 0
set_option maxRecDepth 100000 in
theorem QX11_load_22 (E : xEn) (d : Nat) (x0 : Nat) (σ : xH) : qX11_load_22 E d x0 σ = gO E σ 9 x0 (cV (xthr 1 some) (xsem xT E d kX11_change [.ref x0] σ) (fun σ1 => qX11_load_28 E d x0 (nI 0) σ1)) := xval_blkQ E (xsem xT E d) 0 0 bX11_load (pc := 22) rfl [(0, .ref x0)] [] σ 0 0
set_option maxRecDepth 100000 in
theorem QX11_load_28 (E : xEn) (d : Nat) (x0 : Nat) (x2 : Int32) (σ : xH) : qX11_load_28 E d x0 x2 σ = if (nI 1100) ≤ x2 then qX11_load_52 E d x0 σ else gR σ 9 2 x0 (fun v1 => aI σ v1 x2 (fun v2 => gO E σ 9 x0 (cV (xthr 1 some) (xsem xT E d kX11_put [.ref x0, .int x2, .int v2] σ) (fun σ1 => qX11_load_28 E d x0 (x2 + (nI 1)) σ1)))) := xval_blkQ E (xsem xT E d) 0 0 bX11_load (pc := 28) rfl [(0, .ref x0), (2, .int x2)] [] σ 0 0
set_option maxRecDepth 100000 in
theorem QX11_load_52 (E : xEn) (d : Nat) (x0 : Nat) (σ : xH) : qX11_load_52 E d x0 σ = gO E σ 9 x0 (cI (xthr 1 some) (xsem xT E d kX11_shells [.ref x0] σ) (fun v1 σ1 => some (.inl (some (.int v1)), σ1))) := xval_blkQ E (xsem xT E d) 0 0 bX11_load (pc := 52) rfl [(0, .ref x0)] [] σ 0 0
theorem eX11_load (E : xEn) (d : Nat) (x0 : Nat) (x1 : Int32) (σ : xH) : xsem xT E (d + 1) kX11_load [.ref x0, .int x1] σ = qX11_load_0 E d x0 x1 σ := rfl
noncomputable def qX11_kindHere_0 (E : xEn) (d : Nat) (x0 : Nat) (σ : xH) : Option xR := xval E (xsem xT E d) 0 0 bX11_kindHere (0, [(0, .ref x0)], [], σ, 0, 0)
noncomputable def qX11_kindHere_14 (E : xEn) (d : Nat) (x0 : Nat) (σ : xH) : Option xR := xval E (xsem xT E d) 0 0 bX11_kindHere (14, [(0, .ref x0)], [], σ, 0, 0)
noncomputable def qX11_kindHere_28 (E : xEn) (d : Nat) (x0 : Nat) (σ : xH) : Option xR := xval E (xsem xT E d) 0 0 bX11_kindHere (28, [(0, .ref x0)], [], σ, 0, 0)
noncomputable def qX11_kindHere_42 (E : xEn) (d : Nat) (x0 : Nat) (σ : xH) : Option xR := xval E (xsem xT E d) 0 0 bX11_kindHere (42, [(0, .ref x0)], [], σ, 0, 0)
noncomputable def qX11_kindHere_56 (E : xEn) (d : Nat) (x0 : Nat) (σ : xH) : Option xR := xval E (xsem xT E d) 0 0 bX11_kindHere (56, [(0, .ref x0)], [], σ, 0, 0)
noncomputable def qX11_kindHere_70 (E : xEn) (d : Nat) (x0 : Nat) (σ : xH) : Option xR := xval E (xsem xT E d) 0 0 bX11_kindHere (70, [(0, .ref x0)], [], σ, 0, 0)
noncomputable def qX11_kindHere_84 (E : xEn) (d : Nat) (x0 : Nat) (σ : xH) : Option xR := xval E (xsem xT E d) 0 0 bX11_kindHere (84, [(0, .ref x0)], [], σ, 0, 0)
noncomputable def qX11_kindHere_99 (E : xEn) (d : Nat) (σ : xH) : Option xR := xval E (xsem xT E d) 0 0 bX11_kindHere (99, [], [], σ, 0, 0)
noncomputable def qX11_kindHere_100 (E : xEn) (d : Nat) (s0 : Int32) (σ : xH) : Option xR := xval E (xsem xT E d) 0 0 bX11_kindHere (100, [], [.int s0], σ, 0, 0)
set_option maxRecDepth 100000 in
theorem QX11_kindHere_0 (E : xEn) (d : Nat) (x0 : Nat) (σ : xH) : qX11_kindHere_0 E d x0 σ = gO E σ 9 x0 (cI (xthr 1 some) (xsem xT E d kX11_takes [.ref x0, .ref (E.2.1 20)] σ) (fun v1 σ1 => if v1 = (nI 0) then qX11_kindHere_14 E d x0 σ1 else qX11_kindHere_100 E d (nI 0) σ1)) := xval_blkQ E (xsem xT E d) 0 0 bX11_kindHere (pc := 0) rfl [(0, .ref x0)] [] σ 0 0
set_option maxRecDepth 100000 in
theorem QX11_kindHere_14 (E : xEn) (d : Nat) (x0 : Nat) (σ : xH) : qX11_kindHere_14 E d x0 σ = gO E σ 9 x0 (cI (xthr 1 some) (xsem xT E d kX11_takes [.ref x0, .ref (E.2.1 21)] σ) (fun v1 σ1 => if v1 = (nI 0) then qX11_kindHere_28 E d x0 σ1 else qX11_kindHere_100 E d (nI 1) σ1)) := xval_blkQ E (xsem xT E d) 0 0 bX11_kindHere (pc := 14) rfl [(0, .ref x0)] [] σ 0 0
set_option maxRecDepth 100000 in
theorem QX11_kindHere_28 (E : xEn) (d : Nat) (x0 : Nat) (σ : xH) : qX11_kindHere_28 E d x0 σ = gO E σ 9 x0 (cI (xthr 1 some) (xsem xT E d kX11_takes [.ref x0, .ref (E.2.1 22)] σ) (fun v1 σ1 => if v1 = (nI 0) then qX11_kindHere_42 E d x0 σ1 else qX11_kindHere_100 E d (nI 2) σ1)) := xval_blkQ E (xsem xT E d) 0 0 bX11_kindHere (pc := 28) rfl [(0, .ref x0)] [] σ 0 0
set_option maxRecDepth 100000 in
theorem QX11_kindHere_42 (E : xEn) (d : Nat) (x0 : Nat) (σ : xH) : qX11_kindHere_42 E d x0 σ = gO E σ 9 x0 (cI (xthr 1 some) (xsem xT E d kX11_takes [.ref x0, .ref (E.2.1 23)] σ) (fun v1 σ1 => if v1 = (nI 0) then qX11_kindHere_56 E d x0 σ1 else qX11_kindHere_100 E d (nI 3) σ1)) := xval_blkQ E (xsem xT E d) 0 0 bX11_kindHere (pc := 42) rfl [(0, .ref x0)] [] σ 0 0
set_option maxRecDepth 100000 in
theorem QX11_kindHere_56 (E : xEn) (d : Nat) (x0 : Nat) (σ : xH) : qX11_kindHere_56 E d x0 σ = gO E σ 9 x0 (cI (xthr 1 some) (xsem xT E d kX11_takes [.ref x0, .ref (E.2.1 24)] σ) (fun v1 σ1 => if v1 = (nI 0) then qX11_kindHere_70 E d x0 σ1 else qX11_kindHere_100 E d (nI 4) σ1)) := xval_blkQ E (xsem xT E d) 0 0 bX11_kindHere (pc := 56) rfl [(0, .ref x0)] [] σ 0 0
set_option maxRecDepth 100000 in
theorem QX11_kindHere_70 (E : xEn) (d : Nat) (x0 : Nat) (σ : xH) : qX11_kindHere_70 E d x0 σ = gO E σ 9 x0 (cI (xthr 1 some) (xsem xT E d kX11_takes [.ref x0, .ref (E.2.1 25)] σ) (fun v1 σ1 => if v1 = (nI 0) then qX11_kindHere_84 E d x0 σ1 else qX11_kindHere_100 E d (nI 5) σ1)) := xval_blkQ E (xsem xT E d) 0 0 bX11_kindHere (pc := 70) rfl [(0, .ref x0)] [] σ 0 0
set_option maxRecDepth 100000 in
theorem QX11_kindHere_84 (E : xEn) (d : Nat) (x0 : Nat) (σ : xH) : qX11_kindHere_84 E d x0 σ = gO E σ 9 x0 (cI (xthr 1 some) (xsem xT E d kX11_takes [.ref x0, .ref (E.2.1 26)] σ) (fun v1 σ1 => if v1 = (nI 0) then qX11_kindHere_99 E d σ1 else qX11_kindHere_100 E d (nI 6) σ1)) := xval_blkQ E (xsem xT E d) 0 0 bX11_kindHere (pc := 84) rfl [(0, .ref x0)] [] σ 0 0
set_option maxRecDepth 100000 in
theorem QX11_kindHere_99 (E : xEn) (d : Nat) (σ : xH) : qX11_kindHere_99 E d σ = qX11_kindHere_100 E d (-1 : Int32) σ := xval_blkQ E (xsem xT E d) 0 0 bX11_kindHere (pc := 99) rfl [] [] σ 0 0
set_option maxRecDepth 100000 in
theorem QX11_kindHere_100 (E : xEn) (d : Nat) (s0 : Int32) (σ : xH) : qX11_kindHere_100 E d s0 σ = some (.inl (some (.int s0)), σ) := xval_blkQ E (xsem xT E d) 0 0 bX11_kindHere (pc := 100) rfl [] [.int s0] σ 0 0
theorem eX11_kindHere (E : xEn) (d : Nat) (x0 : Nat) (σ : xH) : xsem xT E (d + 1) kX11_kindHere [.ref x0] σ = qX11_kindHere_0 E d x0 σ := rfl
noncomputable def qX11_readsRepeat_0 (E : xEn) (d : Nat) (x0 : Nat) (x1 : Int32) (σ : xH) : Option xR := xval E (xsem xT E d) 0 0 bX11_readsRepeat (0, [(0, .ref x0), (1, .int x1)], [], σ, 0, 0)
noncomputable def qX11_readsRepeat_22 (E : xEn) (d : Nat) (x0 : Nat) (x1 : Int32) (σ : xH) : Option xR := xval E (xsem xT E d) 0 0 bX11_readsRepeat (22, [(0, .ref x0), (1, .int x1)], [], σ, 0, 0)
noncomputable def qX11_readsRepeat_57 (E : xEn) (d : Nat) (σ : xH) : Option xR := xval E (xsem xT E d) 0 0 bX11_readsRepeat (57, [], [], σ, 0, 0)
noncomputable def qX11_readsRepeat_59 (E : xEn) (d : Nat) (x0 : Nat) (x1 : Int32) (σ : xH) : Option xR := xval E (xsem xT E d) 0 0 bX11_readsRepeat (59, [(0, .ref x0), (1, .int x1)], [], σ, 0, 0)
set_option maxRecDepth 100000 in
theorem QX11_readsRepeat_0 (E : xEn) (d : Nat) (x0 : Nat) (x1 : Int32) (σ : xH) : qX11_readsRepeat_0 E d x0 x1 σ = gI σ 9 22 x0 (fun v1 => gP σ 9 22 x0 (.int (v1 + (nI 1))) (fun σ1 => gO E σ1 9 x0 (cI (xthr 1 some) (xsem xT E d kX11_reads [.ref x0, .int (nI 1), .int (nI 20)] σ1) (fun v2 σ2 => if v2 = (nI 0) then xiret [5] (nI 0) (some (.inl (some (.int (nI 0))), σ2)) else qX11_readsRepeat_22 E d x0 x1 σ2)))) := xval_blkQ E (xsem xT E d) 0 0 bX11_readsRepeat (pc := 0) rfl [(0, .ref x0), (1, .int x1)] [] σ 0 0
set_option maxRecDepth 100000 in
theorem QX11_readsRepeat_22 (E : xEn) (d : Nat) (x0 : Nat) (x1 : Int32) (σ : xH) : qX11_readsRepeat_22 E d x0 x1 σ = gR σ 9 18 x0 (fun v1 => gI σ 9 13 x0 (fun v2 => sI σ v1 x1 v2 (fun σ1 => gO E σ1 9 x0 (cI (xthr 1 some) (xsem xT E d kX11_sign [.ref x0, .int (nI 40)] σ1) (fun v3 σ2 => if v3 = (nI 0) then qX11_readsRepeat_57 E d σ2 else gO E σ2 9 x0 (cI (xthr 1 some) (xsem xT E d kX11_readsScript [.ref x0] σ2) (fun v4 σ3 => if v4 = (nI 0) then qX11_readsRepeat_57 E d σ3 else gO E σ3 9 x0 (cI (xthr 1 some) (xsem xT E d kX11_sign [.ref x0, .int (nI 41)] σ3) (fun v5 σ4 => if v5 = (nI 0) then qX11_readsRepeat_57 E d σ4 else qX11_readsRepeat_59 E d x0 x1 σ4))))))))) := xval_blkQ E (xsem xT E d) 0 0 bX11_readsRepeat (pc := 22) rfl [(0, .ref x0), (1, .int x1)] [] σ 0 0
set_option maxRecDepth 100000 in
theorem QX11_readsRepeat_57 (E : xEn) (d : Nat) (σ : xH) : qX11_readsRepeat_57 E d σ = xiret [5] (nI 0) (some (.inl (some (.int (nI 0))), σ)) := xval_blkQ E (xsem xT E d) 0 0 bX11_readsRepeat (pc := 57) rfl [] [] σ 0 0
set_option maxRecDepth 100000 in
theorem QX11_readsRepeat_59 (E : xEn) (d : Nat) (x0 : Nat) (x1 : Int32) (σ : xH) : qX11_readsRepeat_59 E d x0 x1 σ = gR σ 9 20 x0 (fun v1 => gI σ 9 21 x0 (fun v2 => sI σ v1 x1 v2 (fun σ1 => gI σ1 9 22 x0 (fun v3 => gP σ1 9 22 x0 (.int (v3 - (nI 1))) (fun σ2 => xiret [5] (nI 1) (some (.inl (some (.int (nI 1))), σ2))))))) := xval_blkQ E (xsem xT E d) 0 0 bX11_readsRepeat (pc := 59) rfl [(0, .ref x0), (1, .int x1)] [] σ 0 0
theorem eX11_readsRepeat (E : xEn) (d : Nat) (x0 : Nat) (x1 : Int32) (σ : xH) : xsem xT E (d + 1) kX11_readsRepeat [.ref x0, .int x1] σ = qX11_readsRepeat_0 E d x0 x1 σ := rfl
noncomputable def qX11_readsCommand_0 (E : xEn) (d : Nat) (x0 : Nat) (σ : xH) : Option xR := xval E (xsem xT E d) 0 0 bX11_readsCommand (0, [(0, .ref x0)], [], σ, 0, 0)
noncomputable def qX11_readsCommand_28 (E : xEn) (d : Nat) (x0 : Nat) (x1 : Int32) (x2 : Int32) (σ : xH) : Option xR := xval E (xsem xT E d) 0 0 bX11_readsCommand (28, [(0, .ref x0), (1, .int x1), (2, .int x2)], [], σ, 0, 0)
noncomputable def qX11_readsCommand_45 (E : xEn) (d : Nat) (x0 : Nat) (x1 : Int32) (x2 : Int32) (σ : xH) : Option xR := xval E (xsem xT E d) 0 0 bX11_readsCommand (45, [(0, .ref x0), (1, .int x1), (2, .int x2)], [], σ, 0, 0)
noncomputable def qX11_readsCommand_67 (E : xEn) (d : Nat) (x0 : Nat) (x2 : Int32) (σ : xH) : Option xR := xval E (xsem xT E d) 0 0 bX11_readsCommand (67, [(0, .ref x0), (2, .int x2)], [], σ, 0, 0)
noncomputable def qX11_readsCommand_101 (E : xEn) (d : Nat) (x0 : Nat) (x2 : Int32) (x3 : Int32) (σ : xH) : Option xR := xval E (xsem xT E d) 0 0 bX11_readsCommand (101, [(0, .ref x0), (2, .int x2), (3, .int x3)], [], σ, 0, 0)
noncomputable def qX11_readsCommand_108 (E : xEn) (d : Nat) (x0 : Nat) (x2 : Int32) (x3 : Int32) (σ : xH) : Option xR := xval E (xsem xT E d) 0 0 bX11_readsCommand (108, [(0, .ref x0), (2, .int x2), (3, .int x3)], [], σ, 0, 0)
noncomputable def qX11_readsCommand_121 (E : xEn) (d : Nat) (x0 : Nat) (x2 : Int32) (x3 : Int32) (σ : xH) : Option xR := xval E (xsem xT E d) 0 0 bX11_readsCommand (121, [(0, .ref x0), (2, .int x2), (3, .int x3)], [], σ, 0, 0)
noncomputable def qX11_readsCommand_138 (E : xEn) (d : Nat) (x0 : Nat) (x3 : Int32) (σ : xH) : Option xR := xval E (xsem xT E d) 0 0 bX11_readsCommand (138, [(0, .ref x0), (3, .int x3)], [], σ, 0, 0)
noncomputable def qX11_readsCommand_151 (E : xEn) (d : Nat) (x0 : Nat) (x3 : Int32) (σ : xH) : Option xR := xval E (xsem xT E d) 0 0 bX11_readsCommand (151, [(0, .ref x0), (3, .int x3)], [], σ, 0, 0)
set_option maxRecDepth 100000 in
theorem QX11_readsCommand_0 (E : xEn) (d : Nat) (x0 : Nat) (σ : xH) : qX11_readsCommand_0 E d x0 σ = gO E σ 9 x0 (cI (xthr 1 some) (xsem xT E d kX11_here [.ref x0] σ) (fun v1 σ1 => gI σ1 9 10 x0 (fun v2 => gO E σ1 9 x0 (cI (xthr 1 some) (xsem xT E d kX11_kindHere [.ref x0] σ1) (fun v3 σ2 => if v3 = (-1 : Int32) then gO E σ2 9 x0 (cI (xthr 1 some) (xsem xT E d kX11_fails [.ref x0, .int (-2 : Int32), .int v2] σ2) (fun v4 σ3 => xiret [5] v4 (some (.inl (some (.int v4)), σ3)))) else qX11_readsCommand_28 E d x0 v2 v3 σ2))))) := xval_blkQ E (xsem xT E d) 0 0 bX11_readsCommand (pc := 0) rfl [(0, .ref x0)] [] σ 0 0
set_option maxRecDepth 100000 in
theorem QX11_readsCommand_28 (E : xEn) (d : Nat) (x0 : Nat) (x1 : Int32) (x2 : Int32) (σ : xH) : qX11_readsCommand_28 E d x0 x1 x2 σ = gI σ 9 21 x0 (fun v1 => if v1 = (nI 60) then gO E σ 9 x0 (cI (xthr 1 some) (xsem xT E d kX11_fails [.ref x0, .int (-5 : Int32), .int x1] σ) (fun v2 σ1 => xiret [5] v2 (some (.inl (some (.int v2)), σ1)))) else qX11_readsCommand_45 E d x0 x1 x2 σ) := xval_blkQ E (xsem xT E d) 0 0 bX11_readsCommand (pc := 28) rfl [(0, .ref x0), (1, .int x1), (2, .int x2)] [] σ 0 0
set_option maxRecDepth 100000 in
theorem QX11_readsCommand_45 (E : xEn) (d : Nat) (x0 : Nat) (x1 : Int32) (x2 : Int32) (σ : xH) : qX11_readsCommand_45 E d x0 x1 x2 σ = if x2 = (nI 6) then gI σ 9 22 x0 (fun v1 => if v1 = (nI 3) then gO E σ 9 x0 (cI (xthr 1 some) (xsem xT E d kX11_fails [.ref x0, .int (-6 : Int32), .int x1] σ) (fun v2 σ1 => xiret [5] v2 (some (.inl (some (.int v2)), σ1)))) else qX11_readsCommand_67 E d x0 x2 σ) else qX11_readsCommand_67 E d x0 x2 σ := xval_blkQ E (xsem xT E d) 0 0 bX11_readsCommand (pc := 45) rfl [(0, .ref x0), (1, .int x1), (2, .int x2)] [] σ 0 0
set_option maxRecDepth 100000 in
theorem QX11_readsCommand_67 (E : xEn) (d : Nat) (x0 : Nat) (x2 : Int32) (σ : xH) : qX11_readsCommand_67 E d x0 x2 σ = gI σ 9 21 x0 (fun v1 => gI σ 9 21 x0 (fun v2 => gP σ 9 21 x0 (.int (v2 + (nI 1))) (fun σ1 => gR σ1 9 17 x0 (fun v3 => sI σ1 v3 v1 x2 (fun σ2 => if x2 = (nI 6) then gO E σ2 9 x0 (cI (xthr 1 some) (xsem xT E d kX11_readsRepeat [.ref x0, .int v1] σ2) (fun v4 σ3 => xiret [5] v4 (some (.inl (some (.int v4)), σ3)))) else qX11_readsCommand_101 E d x0 x2 v1 σ2))))) := xval_blkQ E (xsem xT E d) 0 0 bX11_readsCommand (pc := 67) rfl [(0, .ref x0), (2, .int x2)] [] σ 0 0
set_option maxRecDepth 100000 in
theorem QX11_readsCommand_101 (E : xEn) (d : Nat) (x0 : Nat) (x2 : Int32) (x3 : Int32) (σ : xH) : qX11_readsCommand_101 E d x0 x2 x3 σ = if x2 = (nI 2) then xiret [5] (nI 1) (some (.inl (some (.int (nI 1))), σ)) else qX11_readsCommand_108 E d x0 x2 x3 σ := xval_blkQ E (xsem xT E d) 0 0 bX11_readsCommand (pc := 101) rfl [(0, .ref x0), (2, .int x2), (3, .int x3)] [] σ 0 0
set_option maxRecDepth 100000 in
theorem QX11_readsCommand_108 (E : xEn) (d : Nat) (x0 : Nat) (x2 : Int32) (x3 : Int32) (σ : xH) : qX11_readsCommand_108 E d x0 x2 x3 σ = gO E σ 9 x0 (cI (xthr 1 some) (xsem xT E d kX11_reads [.ref x0, .int (nI 0), .int (nI 9999)] σ) (fun v1 σ1 => if v1 = (nI 0) then xiret [5] (nI 0) (some (.inl (some (.int (nI 0))), σ1)) else qX11_readsCommand_121 E d x0 x2 x3 σ1)) := xval_blkQ E (xsem xT E d) 0 0 bX11_readsCommand (pc := 108) rfl [(0, .ref x0), (2, .int x2), (3, .int x3)] [] σ 0 0
set_option maxRecDepth 100000 in
theorem QX11_readsCommand_121 (E : xEn) (d : Nat) (x0 : Nat) (x2 : Int32) (x3 : Int32) (σ : xH) : qX11_readsCommand_121 E d x0 x2 x3 σ = gR σ 9 18 x0 (fun v1 => gI σ 9 13 x0 (fun v2 => sI σ v1 x3 v2 (fun σ1 => if x2 ≤ (nI 1) then qX11_readsCommand_138 E d x0 x3 σ1 else xiret [5] (nI 1) (some (.inl (some (.int (nI 1))), σ1))))) := xval_blkQ E (xsem xT E d) 0 0 bX11_readsCommand (pc := 121) rfl [(0, .ref x0), (2, .int x2), (3, .int x3)] [] σ 0 0
set_option maxRecDepth 100000 in
theorem QX11_readsCommand_138 (E : xEn) (d : Nat) (x0 : Nat) (x3 : Int32) (σ : xH) : qX11_readsCommand_138 E d x0 x3 σ = gO E σ 9 x0 (cI (xthr 1 some) (xsem xT E d kX11_reads [.ref x0, .int (nI 0), .int (nI 9999)] σ) (fun v1 σ1 => if v1 = (nI 0) then xiret [5] (nI 0) (some (.inl (some (.int (nI 0))), σ1)) else qX11_readsCommand_151 E d x0 x3 σ1)) := xval_blkQ E (xsem xT E d) 0 0 bX11_readsCommand (pc := 138) rfl [(0, .ref x0), (3, .int x3)] [] σ 0 0
set_option maxRecDepth 100000 in
theorem QX11_readsCommand_151 (E : xEn) (d : Nat) (x0 : Nat) (x3 : Int32) (σ : xH) : qX11_readsCommand_151 E d x0 x3 σ = gR σ 9 19 x0 (fun v1 => gI σ 9 13 x0 (fun v2 => sI σ v1 x3 v2 (fun σ1 => xiret [5] (nI 1) (some (.inl (some (.int (nI 1))), σ1))))) := xval_blkQ E (xsem xT E d) 0 0 bX11_readsCommand (pc := 151) rfl [(0, .ref x0), (3, .int x3)] [] σ 0 0
theorem eX11_readsCommand (E : xEn) (d : Nat) (x0 : Nat) (σ : xH) : xsem xT E (d + 1) kX11_readsCommand [.ref x0] σ = qX11_readsCommand_0 E d x0 σ := rfl
noncomputable def qX11_readsScript_0 (E : xEn) (d : Nat) (x0 : Nat) (σ : xH) : Option xR := xval E (xsem xT E d) 0 0 bX11_readsScript (0, [(0, .ref x0)], [], σ, 0, 0)
noncomputable def qX11_readsScript_26 (E : xEn) (d : Nat) (σ : xH) : Option xR := xval E (xsem xT E d) 0 0 bX11_readsScript (26, [], [], σ, 0, 0)
noncomputable def qX11_readsScript_28 (E : xEn) (d : Nat) (σ : xH) : Option xR := xval E (xsem xT E d) 0 0 bX11_readsScript (28, [], [], σ, 0, 0)
set_option maxRecDepth 100000 in
theorem QX11_readsScript_0 (E : xEn) (d : Nat) (x0 : Nat) (σ : xH) : qX11_readsScript_0 E d x0 σ = gO E σ 9 x0 (cI (xthr 1 some) (xsem xT E d kX11_here [.ref x0] σ) (fun v1 σ1 => cI (xthr 0 some) (xsem xT E d kX11_isLetter [.int v1] σ1) (fun v2 σ2 => if v2 = (nI 0) then qX11_readsScript_28 E d σ2 else gO E σ2 9 x0 (cI (xthr 1 some) (xsem xT E d kX11_readsCommand [.ref x0] σ2) (fun v3 σ3 => if v3 = (nI 0) then qX11_readsScript_26 E d σ3 else gO E σ3 9 x0 (cI (xthr 1 some) (xsem xT E d kX11_sign [.ref x0, .int (nI 59)] σ3) (fun v4 σ4 => if v4 = (nI 0) then qX11_readsScript_26 E d σ4 else qX11_readsScript_0 E d x0 σ4))))))) := xval_blkQ E (xsem xT E d) 0 0 bX11_readsScript (pc := 0) rfl [(0, .ref x0)] [] σ 0 0
set_option maxRecDepth 100000 in
theorem QX11_readsScript_26 (E : xEn) (d : Nat) (σ : xH) : qX11_readsScript_26 E d σ = xiret [5] (nI 0) (some (.inl (some (.int (nI 0))), σ)) := xval_blkQ E (xsem xT E d) 0 0 bX11_readsScript (pc := 26) rfl [] [] σ 0 0
set_option maxRecDepth 100000 in
theorem QX11_readsScript_28 (E : xEn) (d : Nat) (σ : xH) : qX11_readsScript_28 E d σ = xiret [5] (nI 1) (some (.inl (some (.int (nI 1))), σ)) := xval_blkQ E (xsem xT E d) 0 0 bX11_readsScript (pc := 28) rfl [] [] σ 0 0
theorem eX11_readsScript (E : xEn) (d : Nat) (x0 : Nat) (σ : xH) : xsem xT E (d + 1) kX11_readsScript [.ref x0] σ = qX11_readsScript_0 E d x0 σ := rfl
noncomputable def qX11_isPlace_0 (E : xEn) (d : Nat) (x0 : Nat) (x1 : Int32) (σ : xH) : Option xR := xval E (xsem xT E d) 0 0 bX11_isPlace (0, [(0, .ref x0), (1, .int x1)], [], σ, 0, 0)
set_option maxRecDepth 100000 in
theorem QX11_isPlace_0 (E : xEn) (d : Nat) (x0 : Nat) (x1 : Int32) (σ : xH) : qX11_isPlace_0 E d x0 x1 σ = gO E σ 9 x0 (cI (xthr 1 some) (xsem xT E d kX11_shells [.ref x0] σ) (fun v1 σ1 => cI (xthr 0 some) (xsem xT E d kX11_isIn [.int x1, .int (nI 0), .int (v1 - (nI 1))] σ1) (fun v2 σ2 => xiret [5] v2 (some (.inl (some (.int v2)), σ2))))) := xval_blkQ E (xsem xT E d) 0 0 bX11_isPlace (pc := 0) rfl [(0, .ref x0), (1, .int x1)] [] σ 0 0
theorem eX11_isPlace (E : xEn) (d : Nat) (x0 : Nat) (x1 : Int32) (σ : xH) : xsem xT E (d + 1) kX11_isPlace [.ref x0, .int x1] σ = qX11_isPlace_0 E d x0 x1 σ := rfl
noncomputable def qX11_does_0 (E : xEn) (d : Nat) (x0 : Nat) (x1 : Int32) (σ : xH) : Option xR := xval E (xsem xT E d) 0 0 bX11_does (0, [(0, .ref x0), (1, .int x1)], [], σ, 0, 0)
noncomputable def qX11_does_48 (E : xEn) (d : Nat) (x0 : Nat) (x1 : Int32) (x2 : Int32) (σ : xH) : Option xR := xval E (xsem xT E d) 0 0 bX11_does (48, [(0, .ref x0), (1, .int x1), (2, .int x2)], [], σ, 0, 0)
noncomputable def qX11_does_79 (E : xEn) (d : Nat) (σ : xH) : Option xR := xval E (xsem xT E d) 0 0 bX11_does (79, [], [], σ, 0, 0)
noncomputable def qX11_does_81 (E : xEn) (d : Nat) (x0 : Nat) (x1 : Int32) (x2 : Int32) (σ : xH) : Option xR := xval E (xsem xT E d) 0 0 bX11_does (81, [(0, .ref x0), (1, .int x1), (2, .int x2)], [], σ, 0, 0)
noncomputable def qX11_does_101 (E : xEn) (d : Nat) (σ : xH) : Option xR := xval E (xsem xT E d) 0 0 bX11_does (101, [], [], σ, 0, 0)
noncomputable def qX11_does_103 (E : xEn) (d : Nat) (x0 : Nat) (σ : xH) : Option xR := xval E (xsem xT E d) 0 0 bX11_does (103, [(0, .ref x0)], [], σ, 0, 0)
noncomputable def qX11_does_113 (E : xEn) (d : Nat) (σ : xH) : Option xR := xval E (xsem xT E d) 0 0 bX11_does (113, [], [], σ, 0, 0)
noncomputable def qX11_does_115 (E : xEn) (d : Nat) (x0 : Nat) (x2 : Int32) (σ : xH) : Option xR := xval E (xsem xT E d) 0 0 bX11_does (115, [(0, .ref x0), (2, .int x2)], [], σ, 0, 0)
noncomputable def qX11_does_131 (E : xEn) (d : Nat) (σ : xH) : Option xR := xval E (xsem xT E d) 0 0 bX11_does (131, [], [], σ, 0, 0)
noncomputable def qX11_does_133 (E : xEn) (d : Nat) (x0 : Nat) (x2 : Int32) (σ : xH) : Option xR := xval E (xsem xT E d) 0 0 bX11_does (133, [(0, .ref x0), (2, .int x2)], [], σ, 0, 0)
noncomputable def qX11_does_143 (E : xEn) (d : Nat) (σ : xH) : Option xR := xval E (xsem xT E d) 0 0 bX11_does (143, [], [], σ, 0, 0)
noncomputable def qX11_does_145 (E : xEn) (d : Nat) (x0 : Nat) (x2 : Int32) (σ : xH) : Option xR := xval E (xsem xT E d) 0 0 bX11_does (145, [(0, .ref x0), (2, .int x2)], [], σ, 0, 0)
noncomputable def qX11_does_160 (E : xEn) (d : Nat) (σ : xH) : Option xR := xval E (xsem xT E d) 0 0 bX11_does (160, [], [], σ, 0, 0)
noncomputable def qX11_does_162 (E : xEn) (d : Nat) (x0 : Nat) (x2 : Int32) (σ : xH) : Option xR := xval E (xsem xT E d) 0 0 bX11_does (162, [(0, .ref x0), (2, .int x2)], [], σ, 0, 0)
noncomputable def qX11_does_172 (E : xEn) (d : Nat) (σ : xH) : Option xR := xval E (xsem xT E d) 0 0 bX11_does (172, [], [], σ, 0, 0)
noncomputable def qX11_does_174 (E : xEn) (d : Nat) (x0 : Nat) (x2 : Int32) (σ : xH) : Option xR := xval E (xsem xT E d) 0 0 bX11_does (174, [(0, .ref x0), (2, .int x2)], [], σ, 0, 0)
noncomputable def qX11_does_190 (E : xEn) (d : Nat) (σ : xH) : Option xR := xval E (xsem xT E d) 0 0 bX11_does (190, [], [], σ, 0, 0)
noncomputable def qX11_does_194 (E : xEn) (d : Nat) (σ : xH) : Option xR := xval E (xsem xT E d) 0 0 bX11_does (194, [], [], σ, 0, 0)
noncomputable def qX11_does_195 (E : xEn) (d : Nat) (s0 : Int32) (σ : xH) : Option xR := xval E (xsem xT E d) 0 0 bX11_does (195, [], [.int s0], σ, 0, 0)
set_option maxRecDepth 100000 in
theorem QX11_does_0 (E : xEn) (d : Nat) (x0 : Nat) (x1 : Int32) (σ : xH) : qX11_does_0 E d x0 x1 σ = gR σ 9 18 x0 (fun v1 => aI σ v1 x1 (fun v2 => gR σ 9 17 x0 (fun v3 => aI σ v3 x1 (fun v4 => if v4 = (nI 0) then qX11_does_48 E d x0 x1 v2 σ else if v4 = (nI 1) then qX11_does_48 E d x0 x1 v2 σ else if v4 = (nI 2) then qX11_does_103 E d x0 σ else if v4 = (nI 3) then qX11_does_115 E d x0 v2 σ else if v4 = (nI 4) then qX11_does_145 E d x0 v2 σ else qX11_does_174 E d x0 v2 σ)))) := xval_blkQ E (xsem xT E d) 0 0 bX11_does (pc := 0) rfl [(0, .ref x0), (1, .int x1)] [] σ 0 0
set_option maxRecDepth 100000 in
theorem QX11_does_48 (E : xEn) (d : Nat) (x0 : Nat) (x1 : Int32) (x2 : Int32) (σ : xH) : qX11_does_48 E d x0 x1 x2 σ = gO E σ 9 x0 (cI (xthr 1 some) (xsem xT E d kX11_isPlace [.ref x0, .int x2] σ) (fun v1 σ1 => if v1 = (nI 0) then qX11_does_79 E d σ1 else gR σ1 9 19 x0 (fun v2 => aI σ1 v2 x1 (fun v3 => gO E σ1 9 x0 (cI (xthr 1 some) (xsem xT E d kX11_isPlace [.ref x0, .int v3] σ1) (fun v4 σ2 => if v4 = (nI 0) then qX11_does_79 E d σ2 else gR σ2 9 19 x0 (fun v5 => aI σ2 v5 x1 (fun v6 => if x2 = v6 then qX11_does_79 E d σ2 else qX11_does_81 E d x0 x1 x2 σ2)))))))) := xval_blkQ E (xsem xT E d) 0 0 bX11_does (pc := 48) rfl [(0, .ref x0), (1, .int x1), (2, .int x2)] [] σ 0 0
set_option maxRecDepth 100000 in
theorem QX11_does_79 (E : xEn) (d : Nat) (σ : xH) : qX11_does_79 E d σ = xiret [5] (nI 0) (some (.inl (some (.int (nI 0))), σ)) := xval_blkQ E (xsem xT E d) 0 0 bX11_does (pc := 79) rfl [] [] σ 0 0
set_option maxRecDepth 100000 in
theorem QX11_does_81 (E : xEn) (d : Nat) (x0 : Nat) (x1 : Int32) (x2 : Int32) (σ : xH) : qX11_does_81 E d x0 x1 x2 σ = gR σ 9 17 x0 (fun v1 => aI σ v1 x1 (fun v2 => gR σ 9 19 x0 (fun v3 => aI σ v3 x1 (fun v4 => gO E σ 9 x0 (cI (xthr 1 some) (xsem xT E d kX11_steps [.ref x0, .int v2, .int x2, .int v4] σ) (fun v5 σ1 => if v5 = (nI 0) then qX11_does_101 E d σ1 else qX11_does_101 E d σ1)))))) := xval_blkQ E (xsem xT E d) 0 0 bX11_does (pc := 81) rfl [(0, .ref x0), (1, .int x1), (2, .int x2)] [] σ 0 0
set_option maxRecDepth 100000 in
theorem QX11_does_101 (E : xEn) (d : Nat) (σ : xH) : qX11_does_101 E d σ = xiret [5] (nI 1) (some (.inl (some (.int (nI 1))), σ)) := xval_blkQ E (xsem xT E d) 0 0 bX11_does (pc := 101) rfl [] [] σ 0 0
set_option maxRecDepth 100000 in
theorem QX11_does_103 (E : xEn) (d : Nat) (x0 : Nat) (σ : xH) : qX11_does_103 E d x0 σ = gO E σ 9 x0 (cI (xthr 1 some) (xsem xT E d kX11_steps [.ref x0, .int (nI 2), .int (nI 0), .int (nI 0)] σ) (fun v1 σ1 => if v1 = (nI 0) then qX11_does_113 E d σ1 else qX11_does_113 E d σ1)) := xval_blkQ E (xsem xT E d) 0 0 bX11_does (pc := 103) rfl [(0, .ref x0)] [] σ 0 0
set_option maxRecDepth 100000 in
theorem QX11_does_113 (E : xEn) (d : Nat) (σ : xH) : qX11_does_113 E d σ = xiret [5] (nI 1) (some (.inl (some (.int (nI 1))), σ)) := xval_blkQ E (xsem xT E d) 0 0 bX11_does (pc := 113) rfl [] [] σ 0 0
set_option maxRecDepth 100000 in
theorem QX11_does_115 (E : xEn) (d : Nat) (x0 : Nat) (x2 : Int32) (σ : xH) : qX11_does_115 E d x0 x2 σ = gO E σ 9 x0 (cI (xthr 1 some) (xsem xT E d kX11_isPlace [.ref x0, .int x2] σ) (fun v1 σ1 => if v1 = (nI 0) then qX11_does_131 E d σ1 else gO E σ1 9 x0 (cI (xthr 1 some) (xsem xT E d kX11_canSteal [.ref x0, .int x2] σ1) (fun v2 σ2 => if v2 = (nI 0) then qX11_does_131 E d σ2 else qX11_does_133 E d x0 x2 σ2)))) := xval_blkQ E (xsem xT E d) 0 0 bX11_does (pc := 115) rfl [(0, .ref x0), (2, .int x2)] [] σ 0 0
set_option maxRecDepth 100000 in
theorem QX11_does_131 (E : xEn) (d : Nat) (σ : xH) : qX11_does_131 E d σ = xiret [5] (nI 0) (some (.inl (some (.int (nI 0))), σ)) := xval_blkQ E (xsem xT E d) 0 0 bX11_does (pc := 131) rfl [] [] σ 0 0
set_option maxRecDepth 100000 in
theorem QX11_does_133 (E : xEn) (d : Nat) (x0 : Nat) (x2 : Int32) (σ : xH) : qX11_does_133 E d x0 x2 σ = gO E σ 9 x0 (cI (xthr 1 some) (xsem xT E d kX11_steps [.ref x0, .int (nI 3), .int x2, .int (nI 0)] σ) (fun v1 σ1 => if v1 = (nI 0) then qX11_does_143 E d σ1 else qX11_does_143 E d σ1)) := xval_blkQ E (xsem xT E d) 0 0 bX11_does (pc := 133) rfl [(0, .ref x0), (2, .int x2)] [] σ 0 0
set_option maxRecDepth 100000 in
theorem QX11_does_143 (E : xEn) (d : Nat) (σ : xH) : qX11_does_143 E d σ = xiret [5] (nI 1) (some (.inl (some (.int (nI 1))), σ)) := xval_blkQ E (xsem xT E d) 0 0 bX11_does (pc := 143) rfl [] [] σ 0 0
set_option maxRecDepth 100000 in
theorem QX11_does_145 (E : xEn) (d : Nat) (x0 : Nat) (x2 : Int32) (σ : xH) : qX11_does_145 E d x0 x2 σ = gO E σ 9 x0 (cI (xthr 1 some) (xsem xT E d kX11_isPlace [.ref x0, .int x2] σ) (fun v1 σ1 => if v1 = (nI 0) then qX11_does_160 E d σ1 else gO E σ1 9 x0 (cI (xthr 1 some) (xsem xT E d kX11_canPlant [.ref x0] σ1) (fun v2 σ2 => if v2 = (nI 0) then qX11_does_160 E d σ2 else qX11_does_162 E d x0 x2 σ2)))) := xval_blkQ E (xsem xT E d) 0 0 bX11_does (pc := 145) rfl [(0, .ref x0), (2, .int x2)] [] σ 0 0
set_option maxRecDepth 100000 in
theorem QX11_does_160 (E : xEn) (d : Nat) (σ : xH) : qX11_does_160 E d σ = xiret [5] (nI 0) (some (.inl (some (.int (nI 0))), σ)) := xval_blkQ E (xsem xT E d) 0 0 bX11_does (pc := 160) rfl [] [] σ 0 0
set_option maxRecDepth 100000 in
theorem QX11_does_162 (E : xEn) (d : Nat) (x0 : Nat) (x2 : Int32) (σ : xH) : qX11_does_162 E d x0 x2 σ = gO E σ 9 x0 (cI (xthr 1 some) (xsem xT E d kX11_steps [.ref x0, .int (nI 4), .int x2, .int (nI 0)] σ) (fun v1 σ1 => if v1 = (nI 0) then qX11_does_172 E d σ1 else qX11_does_172 E d σ1)) := xval_blkQ E (xsem xT E d) 0 0 bX11_does (pc := 162) rfl [(0, .ref x0), (2, .int x2)] [] σ 0 0
set_option maxRecDepth 100000 in
theorem QX11_does_172 (E : xEn) (d : Nat) (σ : xH) : qX11_does_172 E d σ = xiret [5] (nI 1) (some (.inl (some (.int (nI 1))), σ)) := xval_blkQ E (xsem xT E d) 0 0 bX11_does (pc := 172) rfl [] [] σ 0 0
set_option maxRecDepth 100000 in
theorem QX11_does_174 (E : xEn) (d : Nat) (x0 : Nat) (x2 : Int32) (σ : xH) : qX11_does_174 E d x0 x2 σ = gO E σ 9 x0 (cI (xthr 1 some) (xsem xT E d kX11_isPlace [.ref x0, .int x2] σ) (fun v1 σ1 => if v1 = (nI 0) then qX11_does_194 E d σ1 else gO E σ1 9 x0 (cI (xthr 1 some) (xsem xT E d kX11_looks [.ref x0, .int x2] σ1) (fun v2 σ2 => if v2 = (nI 0) then qX11_does_190 E d σ2 else qX11_does_190 E d σ2)))) := xval_blkQ E (xsem xT E d) 0 0 bX11_does (pc := 174) rfl [(0, .ref x0), (2, .int x2)] [] σ 0 0
set_option maxRecDepth 100000 in
theorem QX11_does_190 (E : xEn) (d : Nat) (σ : xH) : qX11_does_190 E d σ = qX11_does_195 E d (nI 1) σ := xval_blkQ E (xsem xT E d) 0 0 bX11_does (pc := 190) rfl [] [] σ 0 0
set_option maxRecDepth 100000 in
theorem QX11_does_194 (E : xEn) (d : Nat) (σ : xH) : qX11_does_194 E d σ = qX11_does_195 E d (nI 0) σ := xval_blkQ E (xsem xT E d) 0 0 bX11_does (pc := 194) rfl [] [] σ 0 0
set_option maxRecDepth 100000 in
theorem QX11_does_195 (E : xEn) (d : Nat) (s0 : Int32) (σ : xH) : qX11_does_195 E d s0 σ = xiret [5] s0 (some (.inl (some (.int s0)), σ)) := xval_blkQ E (xsem xT E d) 0 0 bX11_does (pc := 195) rfl [] [.int s0] σ 0 0
theorem eX11_does (E : xEn) (d : Nat) (x0 : Nat) (x1 : Int32) (σ : xH) : xsem xT E (d + 1) kX11_does [.ref x0, .int x1] σ = qX11_does_0 E d x0 x1 σ := rfl
noncomputable def qX11_runs_0 (E : xEn) (d : Nat) (x0 : Nat) (x1 : Int32) (x2 : Int32) (σ : xH) : Option xR := xval E (xsem xT E d) 0 0 bX11_runs (0, [(0, .ref x0), (1, .int x1), (2, .int x2)], [], σ, 0, 0)
noncomputable def qX11_runs_2 (E : xEn) (d : Nat) (x0 : Nat) (x2 : Int32) (x3 : Int32) (σ : xH) : Option xR := xval E (xsem xT E d) 0 0 bX11_runs (2, [(0, .ref x0), (2, .int x2), (3, .int x3)], [], σ, 0, 0)
noncomputable def qX11_runs_28 (E : xEn) (d : Nat) (x0 : Nat) (x2 : Int32) (x3 : Int32) (x4 : Int32) (σ : xH) : Option xR := xval E (xsem xT E d) 0 0 bX11_runs (28, [(0, .ref x0), (2, .int x2), (3, .int x3), (4, .int x4)], [], σ, 0, 0)
noncomputable def qX11_runs_65 (E : xEn) (d : Nat) (x0 : Nat) (x2 : Int32) (x3 : Int32) (σ : xH) : Option xR := xval E (xsem xT E d) 0 0 bX11_runs (65, [(0, .ref x0), (2, .int x2), (3, .int x3)], [], σ, 0, 0)
noncomputable def qX11_runs_75 (E : xEn) (d : Nat) (x0 : Nat) (x2 : Int32) (x3 : Int32) (σ : xH) : Option xR := xval E (xsem xT E d) 0 0 bX11_runs (75, [(0, .ref x0), (2, .int x2), (3, .int x3)], [], σ, 0, 0)
noncomputable def qX11_runs_94 (E : xEn) (d : Nat) (x0 : Nat) (x2 : Int32) (x3 : Int32) (s0 : Nat) (σ : xH) : Option xR := xval E (xsem xT E d) 0 0 bX11_runs (94, [(0, .ref x0), (2, .int x2), (3, .int x3)], [.ref s0], σ, 0, 0)
noncomputable def qX11_runs_98 (E : xEn) (d : Nat) (x0 : Nat) (x2 : Int32) (x3 : Int32) (s0 : Nat) (σ : xH) : Option xR := xval E (xsem xT E d) 0 0 bX11_runs (98, [(0, .ref x0), (2, .int x2), (3, .int x3)], [.ref s0], σ, 0, 0)
noncomputable def qX11_runs_99 (E : xEn) (d : Nat) (x0 : Nat) (x2 : Int32) (x3 : Int32) (s0 : Nat) (s1 : Int32) (σ : xH) : Option xR := xval E (xsem xT E d) 0 0 bX11_runs (99, [(0, .ref x0), (2, .int x2), (3, .int x3)], [.int s1, .ref s0], σ, 0, 0)
noncomputable def qX11_runs_118 (E : xEn) (d : Nat) (x0 : Nat) (x2 : Int32) (x3 : Int32) (s0 : Nat) (s1 : Int32) (σ : xH) : Option xR := xval E (xsem xT E d) 0 0 bX11_runs (118, [(0, .ref x0), (2, .int x2), (3, .int x3)], [.int s1, .ref s0], σ, 0, 0)
noncomputable def qX11_runs_119 (E : xEn) (d : Nat) (x0 : Nat) (x2 : Int32) (x3 : Int32) (s0 : Nat) (s1 : Int32) (s2 : Int32) (σ : xH) : Option xR := xval E (xsem xT E d) 0 0 bX11_runs (119, [(0, .ref x0), (2, .int x2), (3, .int x3)], [.int s2, .int s1, .ref s0], σ, 0, 0)
noncomputable def qX11_runs_129 (E : xEn) (d : Nat) (σ : xH) : Option xR := xval E (xsem xT E d) 0 0 bX11_runs (129, [], [], σ, 0, 0)
set_option maxRecDepth 100000 in
theorem QX11_runs_0 (E : xEn) (d : Nat) (x0 : Nat) (x1 : Int32) (x2 : Int32) (σ : xH) : qX11_runs_0 E d x0 x1 x2 σ = qX11_runs_2 E d x0 x2 x1 σ := xval_blkQ E (xsem xT E d) 0 0 bX11_runs (pc := 0) rfl [(0, .ref x0), (1, .int x1), (2, .int x2)] [] σ 0 0
set_option maxRecDepth 100000 in
theorem QX11_runs_2 (E : xEn) (d : Nat) (x0 : Nat) (x2 : Int32) (x3 : Int32) (σ : xH) : qX11_runs_2 E d x0 x2 x3 σ = if x2 ≤ x3 then qX11_runs_129 E d σ else gI σ 9 24 x0 (fun v1 => if v1 = (nI 0) then gR σ 9 17 x0 (fun v2 => aI σ v2 x3 (fun v3 => if v3 = (nI 6) then qX11_runs_28 E d x0 x2 x3 (nI 0) σ else qX11_runs_75 E d x0 x2 x3 σ)) else qX11_runs_129 E d σ) := xval_blkQ E (xsem xT E d) 0 0 bX11_runs (pc := 2) rfl [(0, .ref x0), (2, .int x2), (3, .int x3)] [] σ 0 0
set_option maxRecDepth 100000 in
theorem QX11_runs_28 (E : xEn) (d : Nat) (x0 : Nat) (x2 : Int32) (x3 : Int32) (x4 : Int32) (σ : xH) : qX11_runs_28 E d x0 x2 x3 x4 σ = gR σ 9 18 x0 (fun v1 => aI σ v1 x3 (fun v2 => if v2 ≤ x4 then qX11_runs_65 E d x0 x2 x3 σ else gI σ 9 24 x0 (fun v3 => if v3 = (nI 0) then gR σ 9 20 x0 (fun v4 => aI σ v4 x3 (fun v5 => gO E σ 9 x0 (cV (xthr 1 some) (xsem xT E d kX11_runs [.ref x0, .int (x3 + (nI 1)), .int v5] σ) (fun σ1 => qX11_runs_28 E d x0 x2 x3 (x4 + (nI 1)) σ1)))) else qX11_runs_65 E d x0 x2 x3 σ))) := xval_blkQ E (xsem xT E d) 0 0 bX11_runs (pc := 28) rfl [(0, .ref x0), (2, .int x2), (3, .int x3), (4, .int x4)] [] σ 0 0
set_option maxRecDepth 100000 in
theorem QX11_runs_65 (E : xEn) (d : Nat) (x0 : Nat) (x2 : Int32) (x3 : Int32) (σ : xH) : qX11_runs_65 E d x0 x2 x3 σ = gR σ 9 20 x0 (fun v1 => aI σ v1 x3 (fun v2 => qX11_runs_2 E d x0 x2 v2 σ)) := xval_blkQ E (xsem xT E d) 0 0 bX11_runs (pc := 65) rfl [(0, .ref x0), (2, .int x2), (3, .int x3)] [] σ 0 0
set_option maxRecDepth 100000 in
theorem QX11_runs_75 (E : xEn) (d : Nat) (x0 : Nat) (x2 : Int32) (x3 : Int32) (σ : xH) : qX11_runs_75 E d x0 x2 x3 σ = gI σ 9 23 x0 (fun v1 => if v1 = (nI 200) then qX11_runs_94 E d x0 x2 x3 x0 σ else gO E σ 9 x0 (cI (xthr 1 some) (xsem xT E d kX11_does [.ref x0, .int x3] σ) (fun v2 σ1 => if v2 = (nI 0) then qX11_runs_94 E d x0 x2 x3 x0 σ1 else qX11_runs_98 E d x0 x2 x3 x0 σ1))) := xval_blkQ E (xsem xT E d) 0 0 bX11_runs (pc := 75) rfl [(0, .ref x0), (2, .int x2), (3, .int x3)] [] σ 0 0
set_option maxRecDepth 100000 in
theorem QX11_runs_94 (E : xEn) (d : Nat) (x0 : Nat) (x2 : Int32) (x3 : Int32) (s0 : Nat) (σ : xH) : qX11_runs_94 E d x0 x2 x3 s0 σ = qX11_runs_99 E d x0 x2 x3 s0 (nI 1) σ := xval_blkQ E (xsem xT E d) 0 0 bX11_runs (pc := 94) rfl [(0, .ref x0), (2, .int x2), (3, .int x3)] [.ref s0] σ 0 0
set_option maxRecDepth 100000 in
theorem QX11_runs_98 (E : xEn) (d : Nat) (x0 : Nat) (x2 : Int32) (x3 : Int32) (s0 : Nat) (σ : xH) : qX11_runs_98 E d x0 x2 x3 s0 σ = qX11_runs_99 E d x0 x2 x3 s0 (nI 0) σ := xval_blkQ E (xsem xT E d) 0 0 bX11_runs (pc := 98) rfl [(0, .ref x0), (2, .int x2), (3, .int x3)] [.ref s0] σ 0 0
set_option maxRecDepth 100000 in
theorem QX11_runs_99 (E : xEn) (d : Nat) (x0 : Nat) (x2 : Int32) (x3 : Int32) (s0 : Nat) (s1 : Int32) (σ : xH) : qX11_runs_99 E d x0 x2 x3 s0 s1 σ = if narrow .boolean (.int s1) = Value.int s1 then gP σ 9 24 s0 (.int s1) (fun σ1 => gI σ1 9 23 x0 (fun v1 => gI σ1 9 24 x0 (fun v2 => if v2 = (nI 0) then qX11_runs_118 E d x0 x2 x3 x0 v1 σ1 else qX11_runs_119 E d x0 x2 x3 x0 v1 (nI 0) σ1))) else none := xval_blkQ E (xsem xT E d) 0 0 bX11_runs (pc := 99) rfl [(0, .ref x0), (2, .int x2), (3, .int x3)] [.int s1, .ref s0] σ 0 0
set_option maxRecDepth 100000 in
theorem QX11_runs_118 (E : xEn) (d : Nat) (x0 : Nat) (x2 : Int32) (x3 : Int32) (s0 : Nat) (s1 : Int32) (σ : xH) : qX11_runs_118 E d x0 x2 x3 s0 s1 σ = qX11_runs_119 E d x0 x2 x3 s0 s1 (nI 1) σ := xval_blkQ E (xsem xT E d) 0 0 bX11_runs (pc := 118) rfl [(0, .ref x0), (2, .int x2), (3, .int x3)] [.int s1, .ref s0] σ 0 0
set_option maxRecDepth 100000 in
theorem QX11_runs_119 (E : xEn) (d : Nat) (x0 : Nat) (x2 : Int32) (x3 : Int32) (s0 : Nat) (s1 : Int32) (s2 : Int32) (σ : xH) : qX11_runs_119 E d x0 x2 x3 s0 s1 s2 σ = gP σ 9 23 s0 (.int (s1 + s2)) (fun σ1 => qX11_runs_2 E d x0 x2 (x3 + (nI 1)) σ1) := xval_blkQ E (xsem xT E d) 0 0 bX11_runs (pc := 119) rfl [(0, .ref x0), (2, .int x2), (3, .int x3)] [.int s2, .int s1, .ref s0] σ 0 0
set_option maxRecDepth 100000 in
theorem QX11_runs_129 (E : xEn) (d : Nat) (σ : xH) : qX11_runs_129 E d σ = some (.inl none, σ) := xval_blkQ E (xsem xT E d) 0 0 bX11_runs (pc := 129) rfl [] [] σ 0 0
theorem eX11_runs (E : xEn) (d : Nat) (x0 : Nat) (x1 : Int32) (x2 : Int32) (σ : xH) : xsem xT E (d + 1) kX11_runs [.ref x0, .int x1, .int x2] σ = qX11_runs_0 E d x0 x1 x2 σ := rfl
noncomputable def qX11_run_0 (E : xEn) (d : Nat) (x0 : Nat) (x1 : Int32) (σ : xH) : Option xR := xval E (xsem xT E d) 0 0 bX11_run (0, [(0, .ref x0), (1, .int x1)], [], σ, 0, 0)
noncomputable def qX11_run_10 (E : xEn) (d : Nat) (x0 : Nat) (σ : xH) : Option xR := xval E (xsem xT E d) 0 0 bX11_run (10, [(0, .ref x0)], [], σ, 0, 0)
noncomputable def qX11_run_32 (E : xEn) (d : Nat) (x0 : Nat) (σ : xH) : Option xR := xval E (xsem xT E d) 0 0 bX11_run (32, [(0, .ref x0)], [], σ, 0, 0)
noncomputable def qX11_run_56 (E : xEn) (d : Nat) (x0 : Nat) (σ : xH) : Option xR := xval E (xsem xT E d) 0 0 bX11_run (56, [(0, .ref x0)], [], σ, 0, 0)
set_option maxRecDepth 100000 in
theorem QX11_run_0 (E : xEn) (d : Nat) (x0 : Nat) (x1 : Int32) (σ : xH) : qX11_run_0 E d x0 x1 σ = gO E σ 9 x0 (cI (xthr 1 some) (xsem xT E d kX11_starts [.ref x0, .int x1] σ) (fun v1 σ1 => if v1 = (nI 0) then some (.inl (some (.int (nI 0))), σ1) else qX11_run_10 E d x0 σ1)) := xval_blkQ E (xsem xT E d) 0 0 bX11_run (pc := 0) rfl [(0, .ref x0), (1, .int x1)] [] σ 0 0
set_option maxRecDepth 100000 in
theorem QX11_run_10 (E : xEn) (d : Nat) (x0 : Nat) (σ : xH) : qX11_run_10 E d x0 σ = gP σ 9 21 x0 (.int (nI 0)) (fun σ1 => gP σ1 9 22 x0 (.int (nI 0)) (fun σ2 => gO E σ2 9 x0 (cI (xthr 1 some) (xsem xT E d kX11_readsScript [.ref x0] σ2) (fun v1 σ3 => if v1 = (nI 0) then gI σ3 9 11 x0 (fun v2 => some (.inl (some (.int v2)), σ3)) else qX11_run_32 E d x0 σ3)))) := xval_blkQ E (xsem xT E d) 0 0 bX11_run (pc := 10) rfl [(0, .ref x0)] [] σ 0 0
set_option maxRecDepth 100000 in
theorem QX11_run_32 (E : xEn) (d : Nat) (x0 : Nat) (σ : xH) : qX11_run_32 E d x0 σ = gO E σ 9 x0 (cI (xthr 1 some) (xsem xT E d kX11_here [.ref x0] σ) (fun v1 σ1 => if v1 = (-1 : Int32) then qX11_run_56 E d x0 σ1 else gI σ1 9 10 x0 (fun v2 => gO E σ1 9 x0 (cI (xthr 1 some) (xsem xT E d kX11_fails [.ref x0, .int (-2 : Int32), .int v2] σ1) (fun v3 σ2 => gI σ2 9 11 x0 (fun v4 => some (.inl (some (.int v4)), σ2))))))) := xval_blkQ E (xsem xT E d) 0 0 bX11_run (pc := 32) rfl [(0, .ref x0)] [] σ 0 0
set_option maxRecDepth 100000 in
theorem QX11_run_56 (E : xEn) (d : Nat) (x0 : Nat) (σ : xH) : qX11_run_56 E d x0 σ = gO E σ 9 x0 (cV (xthr 1 some) (xsem xT E d kX11_change [.ref x0] σ) (fun σ1 => gP σ1 9 23 x0 (.int (nI 0)) (fun σ2 => if narrow .boolean (.int (nI 0)) = Value.int (nI 0) then gP σ2 9 24 x0 (.int (nI 0)) (fun σ3 => gI σ3 9 21 x0 (fun v1 => gO E σ3 9 x0 (cV (xthr 1 some) (xsem xT E d kX11_runs [.ref x0, .int (nI 0), .int v1] σ3) (fun σ4 => gI σ4 9 23 x0 (fun v2 => some (.inl (some (.int v2)), σ4)))))) else none))) := xval_blkQ E (xsem xT E d) 0 0 bX11_run (pc := 56) rfl [(0, .ref x0)] [] σ 0 0
theorem eX11_run (E : xEn) (d : Nat) (x0 : Nat) (x1 : Int32) (σ : xH) : xsem xT E (d + 1) kX11_run [.ref x0, .int x1] σ = qX11_run_0 E d x0 x1 σ := rfl
noncomputable def qX11_believed_0 (E : xEn) (d : Nat) (x0 : Nat) (σ : xH) : Option xR := xval E (xsem xT E d) 0 0 bX11_believed (0, [(0, .ref x0)], [], σ, 0, 0)
noncomputable def qX11_believed_4 (E : xEn) (d : Nat) (x0 : Nat) (x1 : Int32) (x2 : Int32) (σ : xH) : Option xR := xval E (xsem xT E d) 0 0 bX11_believed (4, [(0, .ref x0), (1, .int x1), (2, .int x2)], [], σ, 0, 0)
noncomputable def qX11_believed_27 (E : xEn) (d : Nat) (x0 : Nat) (x2 : Int32) (s0 : Int32) (σ : xH) : Option xR := xval E (xsem xT E d) 0 0 bX11_believed (27, [(0, .ref x0), (2, .int x2)], [.int s0], σ, 0, 0)
noncomputable def qX11_believed_28 (E : xEn) (d : Nat) (x0 : Nat) (x2 : Int32) (s0 : Int32) (s1 : Int32) (σ : xH) : Option xR := xval E (xsem xT E d) 0 0 bX11_believed (28, [(0, .ref x0), (2, .int x2)], [.int s1, .int s0], σ, 0, 0)
noncomputable def qX11_believed_36 (E : xEn) (d : Nat) (x1 : Int32) (σ : xH) : Option xR := xval E (xsem xT E d) 0 0 bX11_believed (36, [(1, .int x1)], [], σ, 0, 0)
set_option maxRecDepth 100000 in
theorem QX11_believed_0 (E : xEn) (d : Nat) (x0 : Nat) (σ : xH) : qX11_believed_0 E d x0 σ = qX11_believed_4 E d x0 (nI 0) (nI 0) σ := xval_blkQ E (xsem xT E d) 0 0 bX11_believed (pc := 0) rfl [(0, .ref x0)] [] σ 0 0
set_option maxRecDepth 100000 in
theorem QX11_believed_4 (E : xEn) (d : Nat) (x0 : Nat) (x1 : Int32) (x2 : Int32) (σ : xH) : qX11_believed_4 E d x0 x1 x2 σ = gO E σ 9 x0 (cI (xthr 1 some) (xsem xT E d kX11_shells [.ref x0] σ) (fun v1 σ1 => if v1 < x2 then qX11_believed_36 E d x1 σ1 else gO E σ1 9 x0 (cL (xthr 1 some) (xsem xT E d kX11_had [.ref x0, .int x2] σ1) (fun v2 σ2 => if (lg_cmp v2 (lN 0)) ≤ (nI 0) then qX11_believed_27 E d x0 x2 x1 σ2 else qX11_believed_28 E d x0 x2 x1 (nI 1) σ2)))) := xval_blkQ E (xsem xT E d) 0 0 bX11_believed (pc := 4) rfl [(0, .ref x0), (1, .int x1), (2, .int x2)] [] σ 0 0
set_option maxRecDepth 100000 in
theorem QX11_believed_27 (E : xEn) (d : Nat) (x0 : Nat) (x2 : Int32) (s0 : Int32) (σ : xH) : qX11_believed_27 E d x0 x2 s0 σ = qX11_believed_28 E d x0 x2 s0 (nI 0) σ := xval_blkQ E (xsem xT E d) 0 0 bX11_believed (pc := 27) rfl [(0, .ref x0), (2, .int x2)] [.int s0] σ 0 0
set_option maxRecDepth 100000 in
theorem QX11_believed_28 (E : xEn) (d : Nat) (x0 : Nat) (x2 : Int32) (s0 : Int32) (s1 : Int32) (σ : xH) : qX11_believed_28 E d x0 x2 s0 s1 σ = qX11_believed_4 E d x0 (s0 + s1) (x2 + (nI 1)) σ := xval_blkQ E (xsem xT E d) 0 0 bX11_believed (pc := 28) rfl [(0, .ref x0), (2, .int x2)] [.int s1, .int s0] σ 0 0
set_option maxRecDepth 100000 in
theorem QX11_believed_36 (E : xEn) (d : Nat) (x1 : Int32) (σ : xH) : qX11_believed_36 E d x1 σ = some (.inl (some (.int x1)), σ) := xval_blkQ E (xsem xT E d) 0 0 bX11_believed (pc := 36) rfl [(1, .int x1)] [] σ 0 0
theorem eX11_believed (E : xEn) (d : Nat) (x0 : Nat) (σ : xH) : xsem xT E (d + 1) kX11_believed [.ref x0] σ = qX11_believed_0 E d x0 σ := rfl
noncomputable def qX11_toldOf_0 (E : xEn) (d : Nat) (x0 : Nat) (x1 : Int32) (σ : xH) : Option xR := xval E (xsem xT E d) 0 0 bX11_toldOf (0, [(0, .ref x0), (1, .int x1)], [], σ, 0, 0)
noncomputable def qX11_toldOf_64 (E : xEn) (d : Nat) (x0 : Nat) (σ : xH) : Option xR := xval E (xsem xT E d) 0 0 bX11_toldOf (64, [(0, .ref x0)], [], σ, 0, 0)
noncomputable def qX11_toldOf_69 (E : xEn) (d : Nat) (x0 : Nat) (σ : xH) : Option xR := xval E (xsem xT E d) 0 0 bX11_toldOf (69, [(0, .ref x0)], [], σ, 0, 0)
noncomputable def qX11_toldOf_75 (E : xEn) (d : Nat) (x0 : Nat) (σ : xH) : Option xR := xval E (xsem xT E d) 0 0 bX11_toldOf (75, [(0, .ref x0)], [], σ, 0, 0)
noncomputable def qX11_toldOf_81 (E : xEn) (d : Nat) (x0 : Nat) (σ : xH) : Option xR := xval E (xsem xT E d) 0 0 bX11_toldOf (81, [(0, .ref x0)], [], σ, 0, 0)
noncomputable def qX11_toldOf_87 (E : xEn) (d : Nat) (x0 : Nat) (σ : xH) : Option xR := xval E (xsem xT E d) 0 0 bX11_toldOf (87, [(0, .ref x0)], [], σ, 0, 0)
noncomputable def qX11_toldOf_93 (E : xEn) (d : Nat) (x0 : Nat) (σ : xH) : Option xR := xval E (xsem xT E d) 0 0 bX11_toldOf (93, [(0, .ref x0)], [], σ, 0, 0)
noncomputable def qX11_toldOf_99 (E : xEn) (d : Nat) (x0 : Nat) (σ : xH) : Option xR := xval E (xsem xT E d) 0 0 bX11_toldOf (99, [(0, .ref x0)], [], σ, 0, 0)
noncomputable def qX11_toldOf_106 (E : xEn) (d : Nat) (x0 : Nat) (σ : xH) : Option xR := xval E (xsem xT E d) 0 0 bX11_toldOf (106, [(0, .ref x0)], [], σ, 0, 0)
noncomputable def qX11_toldOf_113 (E : xEn) (d : Nat) (x0 : Nat) (σ : xH) : Option xR := xval E (xsem xT E d) 0 0 bX11_toldOf (113, [(0, .ref x0)], [], σ, 0, 0)
noncomputable def qX11_toldOf_120 (E : xEn) (d : Nat) (x0 : Nat) (σ : xH) : Option xR := xval E (xsem xT E d) 0 0 bX11_toldOf (120, [(0, .ref x0)], [], σ, 0, 0)
noncomputable def qX11_toldOf_127 (E : xEn) (d : Nat) (x0 : Nat) (σ : xH) : Option xR := xval E (xsem xT E d) 0 0 bX11_toldOf (127, [(0, .ref x0)], [], σ, 0, 0)
noncomputable def qX11_toldOf_133 (E : xEn) (d : Nat) (x0 : Nat) (σ : xH) : Option xR := xval E (xsem xT E d) 0 0 bX11_toldOf (133, [(0, .ref x0)], [], σ, 0, 0)
noncomputable def qX11_toldOf_138 (E : xEn) (d : Nat) (x0 : Nat) (σ : xH) : Option xR := xval E (xsem xT E d) 0 0 bX11_toldOf (138, [(0, .ref x0)], [], σ, 0, 0)
set_option maxRecDepth 100000 in
theorem QX11_toldOf_0 (E : xEn) (d : Nat) (x0 : Nat) (x1 : Int32) (σ : xH) : qX11_toldOf_0 E d x0 x1 σ = if x1 = (nI 0) then qX11_toldOf_64 E d x0 σ else if x1 = (nI 1) then qX11_toldOf_69 E d x0 σ else if x1 = (nI 2) then qX11_toldOf_75 E d x0 σ else if x1 = (nI 3) then qX11_toldOf_81 E d x0 σ else if x1 = (nI 4) then qX11_toldOf_87 E d x0 σ else if x1 = (nI 5) then qX11_toldOf_93 E d x0 σ else if x1 = (nI 6) then qX11_toldOf_99 E d x0 σ else if x1 = (nI 7) then qX11_toldOf_106 E d x0 σ else if x1 = (nI 8) then qX11_toldOf_113 E d x0 σ else if x1 = (nI 9) then qX11_toldOf_120 E d x0 σ else if x1 = (nI 10) then qX11_toldOf_127 E d x0 σ else if x1 = (nI 11) then qX11_toldOf_133 E d x0 σ else qX11_toldOf_138 E d x0 σ := xval_blkQ E (xsem xT E d) 0 0 bX11_toldOf (pc := 0) rfl [(0, .ref x0), (1, .int x1)] [] σ 0 0
set_option maxRecDepth 100000 in
theorem QX11_toldOf_64 (E : xEn) (d : Nat) (x0 : Nat) (σ : xH) : qX11_toldOf_64 E d x0 σ = gO E σ 9 x0 (cI (xthr 1 some) (xsem xT E d kX11_shells [.ref x0] σ) (fun v1 σ1 => some (.inl (some (.int v1)), σ1))) := xval_blkQ E (xsem xT E d) 0 0 bX11_toldOf (pc := 64) rfl [(0, .ref x0)] [] σ 0 0
set_option maxRecDepth 100000 in
theorem QX11_toldOf_69 (E : xEn) (d : Nat) (x0 : Nat) (σ : xH) : qX11_toldOf_69 E d x0 σ = gO E σ 9 x0 (cI (xthr 1 some) (xsem xT E d kX11_get [.ref x0, .int (nI 2)] σ) (fun v1 σ1 => some (.inl (some (.int v1)), σ1))) := xval_blkQ E (xsem xT E d) 0 0 bX11_toldOf (pc := 69) rfl [(0, .ref x0)] [] σ 0 0
set_option maxRecDepth 100000 in
theorem QX11_toldOf_75 (E : xEn) (d : Nat) (x0 : Nat) (σ : xH) : qX11_toldOf_75 E d x0 σ = gO E σ 9 x0 (cI (xthr 1 some) (xsem xT E d kX11_get [.ref x0, .int (nI 1)] σ) (fun v1 σ1 => some (.inl (some (.int v1)), σ1))) := xval_blkQ E (xsem xT E d) 0 0 bX11_toldOf (pc := 75) rfl [(0, .ref x0)] [] σ 0 0
set_option maxRecDepth 100000 in
theorem QX11_toldOf_81 (E : xEn) (d : Nat) (x0 : Nat) (σ : xH) : qX11_toldOf_81 E d x0 σ = gO E σ 9 x0 (cI (xthr 1 some) (xsem xT E d kX11_get [.ref x0, .int (nI 3)] σ) (fun v1 σ1 => some (.inl (some (.int v1)), σ1))) := xval_blkQ E (xsem xT E d) 0 0 bX11_toldOf (pc := 81) rfl [(0, .ref x0)] [] σ 0 0
set_option maxRecDepth 100000 in
theorem QX11_toldOf_87 (E : xEn) (d : Nat) (x0 : Nat) (σ : xH) : qX11_toldOf_87 E d x0 σ = gO E σ 9 x0 (cI (xthr 1 some) (xsem xT E d kX11_get [.ref x0, .int (nI 4)] σ) (fun v1 σ1 => some (.inl (some (.int v1)), σ1))) := xval_blkQ E (xsem xT E d) 0 0 bX11_toldOf (pc := 87) rfl [(0, .ref x0)] [] σ 0 0
set_option maxRecDepth 100000 in
theorem QX11_toldOf_93 (E : xEn) (d : Nat) (x0 : Nat) (σ : xH) : qX11_toldOf_93 E d x0 σ = gO E σ 9 x0 (cI (xthr 1 some) (xsem xT E d kX11_get [.ref x0, .int (nI 5)] σ) (fun v1 σ1 => some (.inl (some (.int v1)), σ1))) := xval_blkQ E (xsem xT E d) 0 0 bX11_toldOf (pc := 93) rfl [(0, .ref x0)] [] σ 0 0
set_option maxRecDepth 100000 in
theorem QX11_toldOf_99 (E : xEn) (d : Nat) (x0 : Nat) (σ : xH) : qX11_toldOf_99 E d x0 σ = gO E σ 9 x0 (cI (xthr 1 some) (xsem xT E d kX11_get [.ref x0, .int (nI 6)] σ) (fun v1 σ1 => some (.inl (some (.int v1)), σ1))) := xval_blkQ E (xsem xT E d) 0 0 bX11_toldOf (pc := 99) rfl [(0, .ref x0)] [] σ 0 0
set_option maxRecDepth 100000 in
theorem QX11_toldOf_106 (E : xEn) (d : Nat) (x0 : Nat) (σ : xH) : qX11_toldOf_106 E d x0 σ = gO E σ 9 x0 (cI (xthr 1 some) (xsem xT E d kX11_get [.ref x0, .int (nI 7)] σ) (fun v1 σ1 => some (.inl (some (.int v1)), σ1))) := xval_blkQ E (xsem xT E d) 0 0 bX11_toldOf (pc := 106) rfl [(0, .ref x0)] [] σ 0 0
set_option maxRecDepth 100000 in
theorem QX11_toldOf_113 (E : xEn) (d : Nat) (x0 : Nat) (σ : xH) : qX11_toldOf_113 E d x0 σ = gO E σ 9 x0 (cI (xthr 1 some) (xsem xT E d kX11_get [.ref x0, .int (nI 8)] σ) (fun v1 σ1 => some (.inl (some (.int v1)), σ1))) := xval_blkQ E (xsem xT E d) 0 0 bX11_toldOf (pc := 113) rfl [(0, .ref x0)] [] σ 0 0
set_option maxRecDepth 100000 in
theorem QX11_toldOf_120 (E : xEn) (d : Nat) (x0 : Nat) (σ : xH) : qX11_toldOf_120 E d x0 σ = gO E σ 9 x0 (cI (xthr 1 some) (xsem xT E d kX11_get [.ref x0, .int (nI 9)] σ) (fun v1 σ1 => some (.inl (some (.int v1)), σ1))) := xval_blkQ E (xsem xT E d) 0 0 bX11_toldOf (pc := 120) rfl [(0, .ref x0)] [] σ 0 0
set_option maxRecDepth 100000 in
theorem QX11_toldOf_127 (E : xEn) (d : Nat) (x0 : Nat) (σ : xH) : qX11_toldOf_127 E d x0 σ = gO E σ 9 x0 (cL (xthr 1 some) (xsem xT E d kX11_sum [.ref x0] σ) (fun v1 σ1 => some (.inl (some (.int v1.toInt32)), σ1))) := xval_blkQ E (xsem xT E d) 0 0 bX11_toldOf (pc := 127) rfl [(0, .ref x0)] [] σ 0 0
set_option maxRecDepth 100000 in
theorem QX11_toldOf_133 (E : xEn) (d : Nat) (x0 : Nat) (σ : xH) : qX11_toldOf_133 E d x0 σ = gO E σ 9 x0 (cI (xthr 1 some) (xsem xT E d kX11_believed [.ref x0] σ) (fun v1 σ1 => some (.inl (some (.int v1)), σ1))) := xval_blkQ E (xsem xT E d) 0 0 bX11_toldOf (pc := 133) rfl [(0, .ref x0)] [] σ 0 0
set_option maxRecDepth 100000 in
theorem QX11_toldOf_138 (E : xEn) (d : Nat) (x0 : Nat) (σ : xH) : qX11_toldOf_138 E d x0 σ = gO E σ 9 x0 (cI (xthr 1 some) (xsem xT E d kX11_get [.ref x0, .int (nI 10)] σ) (fun v1 σ1 => some (.inl (some (.int v1)), σ1))) := xval_blkQ E (xsem xT E d) 0 0 bX11_toldOf (pc := 138) rfl [(0, .ref x0)] [] σ 0 0
theorem eX11_toldOf (E : xEn) (d : Nat) (x0 : Nat) (x1 : Int32) (σ : xH) : xsem xT E (d + 1) kX11_toldOf [.ref x0, .int x1] σ = qX11_toldOf_0 E d x0 x1 σ := rfl
