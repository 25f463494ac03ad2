/-! EQUATIONS OF THE BLOCKS, written by wip/whole/geneq.py. -/
noncomputable def qJ7_fill_53178_0 (E : xEn) (d : Nat) (x0 : Nat) (x1 : Int32) (σ : xH) : Option xR := xval E (xsem xT E d) 0 0 bJ7_fill_53178 (0, [(0, .ref x0), (1, .int x1)], [], σ, 0, 0)
noncomputable def qJ7_fill_53178_5 (E : xEn) (d : Nat) (x0 : Nat) (x1 : Int32) (x2 : Int32) (x3 : Int32) (σ : xH) : Option xR := xval E (xsem xT E d) 0 0 bJ7_fill_53178 (5, [(0, .ref x0), (1, .int x1), (2, .int x2), (3, .int x3)], [], σ, 0, 0)
noncomputable def qJ7_fill_53178_20 (E : xEn) (d : Nat) (σ : xH) : Option xR := xval E (xsem xT E d) 0 0 bJ7_fill_53178 (20, [], [], σ, 0, 0)
set_option maxRecDepth 100000 in
theorem QJ7_fill_53178_0 (E : xEn) (d : Nat) (x0 : Nat) (x1 : Int32) (σ : xH) : qJ7_fill_53178_0 E d x0 x1 σ = aN E σ x0 (fun v1 => qJ7_fill_53178_5 E d x0 x1 (nI 0) v1 σ) := xval_blkQ E (xsem xT E d) 0 0 bJ7_fill_53178 (pc := 0) rfl [(0, .ref x0), (1, .int x1)] [] σ 0 0
set_option maxRecDepth 100000 in
theorem QJ7_fill_53178_5 (E : xEn) (d : Nat) (x0 : Nat) (x1 : Int32) (x2 : Int32) (x3 : Int32) (σ : xH) : qJ7_fill_53178_5 E d x0 x1 x2 x3 σ = if x3 ≤ x2 then qJ7_fill_53178_20 E d σ else sI σ x0 x2 x1 (fun σ1 => qJ7_fill_53178_5 E d x0 x1 (x2 + (nI 1)) x3 σ1) := xval_blkQ E (xsem xT E d) 0 0 bJ7_fill_53178 (pc := 5) rfl [(0, .ref x0), (1, .int x1), (2, .int x2), (3, .int x3)] [] σ 0 0
set_option maxRecDepth 100000 in
theorem QJ7_fill_53178_20 (E : xEn) (d : Nat) (σ : xH) : qJ7_fill_53178_20 E d σ = some (.inl none, σ) := xval_blkQ E (xsem xT E d) 0 0 bJ7_fill_53178 (pc := 20) rfl [] [] σ 0 0
theorem eJ7_fill_53178 (E : xEn) (d : Nat) (x0 : Nat) (x1 : Int32) (σ : xH) : xsem xT E (d + 1) kJ7_fill_53178 [.ref x0, .int x1] σ = qJ7_fill_53178_0 E d x0 x1 σ := rfl
noncomputable def qJ0_length_8abf5_0 (E : xEn) (d : Nat) (x0 : Nat) (σ : xH) : Option xR := xval E (xsem xT E d) 0 0 bJ0_length_8abf5 (0, [(0, .ref x0)], [], σ, 0, 0)
set_option maxRecDepth 100000 in
theorem QJ0_length_8abf5_0 (E : xEn) (d : Nat) (x0 : Nat) (σ : xH) : qJ0_length_8abf5_0 E d x0 σ = gU E x0 (fun v1 => aN E σ v1 (fun v2 => gO E σ 99 x0 (cI (xthr 1 some) (xsem xT E d kJ0_coder_7d493 [.ref x0] σ) (fun v3 σ1 => some (.inl (some (.int (v2 >>> (v3 &&& 31)))), σ1))))) := xval_blkQ E (xsem xT E d) 0 0 bJ0_length_8abf5 (pc := 0) rfl [(0, .ref x0)] [] σ 0 0
theorem eJ0_length_8abf5 (E : xEn) (d : Nat) (x0 : Nat) (σ : xH) : xsem xT E (d + 1) kJ0_length_8abf5 [.ref x0] σ = qJ0_length_8abf5_0 E d x0 σ := rfl
noncomputable def qJ0_charAt_5068e_0 (E : xEn) (d : Nat) (x0 : Nat) (x1 : Int32) (σ : xH) : Option xR := xval E (xsem xT E d) 0 0 bJ0_charAt_5068e (0, [(0, .ref x0), (1, .int x1)], [], σ, 0, 0)
set_option maxRecDepth 100000 in
theorem QJ0_charAt_5068e_0 (E : xEn) (d : Nat) (x0 : Nat) (x1 : Int32) (σ : xH) : qJ0_charAt_5068e_0 E d x0 x1 σ = gO E σ 99 x0 (cI (xthr 1 some) (xsem xT E d kJ0_isLatin1_aae02 [.ref x0] σ) (fun v1 σ1 => if v1 = (nI 0) then none else gU E x0 (fun v2 => cI (xthr 0 some) (xsem xT E d kJ1_charAt_3b067 [.ref v2, .int x1] σ1) (fun v3 σ2 => xiret [7] v3 (some (.inl (some (.int v3)), σ2)))))) := xval_blkQ E (xsem xT E d) 0 0 bJ0_charAt_5068e (pc := 0) rfl [(0, .ref x0), (1, .int x1)] [] σ 0 0
theorem eJ0_charAt_5068e (E : xEn) (d : Nat) (x0 : Nat) (x1 : Int32) (σ : xH) : xsem xT E (d + 1) kJ0_charAt_5068e [.ref x0, .int x1] σ = qJ0_charAt_5068e_0 E d x0 x1 σ := rfl
noncomputable def qJ0_coder_7d493_0 (E : xEn) (d : Nat) (x0 : Nat) (σ : xH) : Option xR := xval E (xsem xT E d) 0 0 bJ0_coder_7d493 (0, [(0, .ref x0)], [], σ, 0, 0)
noncomputable def qJ0_coder_7d493_14 (E : xEn) (d : Nat) (s0 : Int32) (σ : xH) : Option xR := xval E (xsem xT E d) 0 0 bJ0_coder_7d493 (14, [], [.int s0], σ, 0, 0)
set_option maxRecDepth 100000 in
theorem QJ0_coder_7d493_0 (E : xEn) (d : Nat) (x0 : Nat) (σ : xH) : qJ0_coder_7d493_0 E d x0 σ = if (nI 1) = (nI 0) then none else gC E x0 (qJ0_coder_7d493_14 E d (nI 0) σ) := xval_blkQ E (xsem xT E d) 0 0 bJ0_coder_7d493 (pc := 0) rfl [(0, .ref x0)] [] σ 0 0
set_option maxRecDepth 100000 in
theorem QJ0_coder_7d493_14 (E : xEn) (d : Nat) (s0 : Int32) (σ : xH) : qJ0_coder_7d493_14 E d s0 σ = xiret [6] s0 (some (.inl (some (.int s0)), σ)) := xval_blkQ E (xsem xT E d) 0 0 bJ0_coder_7d493 (pc := 14) rfl [] [.int s0] σ 0 0
theorem eJ0_coder_7d493 (E : xEn) (d : Nat) (x0 : Nat) (σ : xH) : xsem xT E (d + 1) kJ0_coder_7d493 [.ref x0] σ = qJ0_coder_7d493_0 E d x0 σ := rfl
noncomputable def qJ0_isLatin1_aae02_0 (E : xEn) (d : Nat) (x0 : Nat) (σ : xH) : Option xR := xval E (xsem xT E d) 0 0 bJ0_isLatin1_aae02 (0, [(0, .ref x0)], [], σ, 0, 0)
noncomputable def qJ0_isLatin1_aae02_18 (E : xEn) (d : Nat) (s0 : Int32) (σ : xH) : Option xR := xval E (xsem xT E d) 0 0 bJ0_isLatin1_aae02 (18, [], [.int s0], σ, 0, 0)
set_option maxRecDepth 100000 in
theorem QJ0_isLatin1_aae02_0 (E : xEn) (d : Nat) (x0 : Nat) (σ : xH) : qJ0_isLatin1_aae02_0 E d x0 σ = if (nI 1) = (nI 0) then none else gC E x0 (if (nI 0) = (nI 0) then qJ0_isLatin1_aae02_18 E d (nI 1) σ else none) := xval_blkQ E (xsem xT E d) 0 0 bJ0_isLatin1_aae02 (pc := 0) rfl [(0, .ref x0)] [] σ 0 0
set_option maxRecDepth 100000 in
theorem QJ0_isLatin1_aae02_18 (E : xEn) (d : Nat) (s0 : Int32) (σ : xH) : qJ0_isLatin1_aae02_18 E d s0 σ = xiret [5] s0 (some (.inl (some (.int s0)), σ)) := xval_blkQ E (xsem xT E d) 0 0 bJ0_isLatin1_aae02 (pc := 18) rfl [] [.int s0] σ 0 0
theorem eJ0_isLatin1_aae02 (E : xEn) (d : Nat) (x0 : Nat) (σ : xH) : xsem xT E (d + 1) kJ0_isLatin1_aae02 [.ref x0] σ = qJ0_isLatin1_aae02_0 E d x0 σ := rfl
noncomputable def qJ0_checkIndex_df160_0 (E : xEn) (d : Nat) (x0 : Int32) (x1 : Int32) (σ : xH) : Option xR := xval E (xsem xT E d) 0 0 bJ0_checkIndex_df160 (0, [(0, .int x0), (1, .int x1)], [], σ, 0, 0)
set_option maxRecDepth 100000 in
theorem QJ0_checkIndex_df160_0 (E : xEn) (d : Nat) (x0 : Int32) (x1 : Int32) (σ : xH) : qJ0_checkIndex_df160_0 E d x0 x1 σ = cI (xthr 0 some) (xsem xT E d kJ3_checkIndex_8e157 [.int x0, .int x1, E.2.2.2.2] σ) (fun v1 σ1 => some (.inl none, σ1)) := xval_blkQ E (xsem xT E d) 0 0 bJ0_checkIndex_df160 (pc := 0) rfl [(0, .int x0), (1, .int x1)] [] σ 0 0
theorem eJ0_checkIndex_df160 (E : xEn) (d : Nat) (x0 : Int32) (x1 : Int32) (σ : xH) : xsem xT E (d + 1) kJ0_checkIndex_df160 [.int x0, .int x1] σ = qJ0_checkIndex_df160_0 E d x0 x1 σ := rfl
noncomputable def qJ1_charAt_3b067_0 (E : xEn) (d : Nat) (x0 : Nat) (x1 : Int32) (σ : xH) : Option xR := xval E (xsem xT E d) 0 0 bJ1_charAt_3b067 (0, [(0, .ref x0), (1, .int x1)], [], σ, 0, 0)
set_option maxRecDepth 100000 in
theorem QJ1_charAt_3b067_0 (E : xEn) (d : Nat) (x0 : Nat) (x1 : Int32) (σ : xH) : qJ1_charAt_3b067_0 E d x0 x1 σ = aN E σ x0 (fun v1 => cV (xthr 0 some) (xsem xT E d kJ0_checkIndex_df160 [.int x1, .int v1] σ) (fun σ1 => aB E σ1 x0 x1 (fun v2 => xiret [7] (((v2 &&& (nI 255)).toUInt32 % 65536).toInt32) (some (.inl (some (.int (((v2 &&& (nI 255)).toUInt32 % 65536).toInt32))), σ1))))) := xval_blkQ E (xsem xT E d) 0 0 bJ1_charAt_3b067 (pc := 0) rfl [(0, .ref x0), (1, .int x1)] [] σ 0 0
theorem eJ1_charAt_3b067 (E : xEn) (d : Nat) (x0 : Nat) (x1 : Int32) (σ : xH) : xsem xT E (d + 1) kJ1_charAt_3b067 [.ref x0, .int x1] σ = qJ1_charAt_3b067_0 E d x0 x1 σ := rfl
noncomputable def qJ3_checkIndex_8e157_0 (E : xEn) (d : Nat) (x0 : Int32) (x1 : Int32) (x2 : Value) (σ : xH) : Option xR := xval E (xsem xT E d) 0 0 bJ3_checkIndex_8e157 (0, [(0, .int x0), (1, .int x1), (2, x2)], [], σ, 0, 0)
noncomputable def qJ3_checkIndex_8e157_16 (E : xEn) (d : Nat) (x0 : Int32) (σ : xH) : Option xR := xval E (xsem xT E d) 0 0 bJ3_checkIndex_8e157 (16, [(0, .int x0)], [], σ, 0, 0)
set_option maxRecDepth 100000 in
theorem QJ3_checkIndex_8e157_0 (E : xEn) (d : Nat) (x0 : Int32) (x1 : Int32) (x2 : Value) (σ : xH) : qJ3_checkIndex_8e157_0 E d x0 x1 x2 σ = if x0 < (nI 0) then none else if x0 < x1 then qJ3_checkIndex_8e157_16 E d x0 σ else none := xval_blkQ E (xsem xT E d) 0 0 bJ3_checkIndex_8e157 (pc := 0) rfl [(0, .int x0), (1, .int x1), (2, x2)] [] σ 0 0
set_option maxRecDepth 100000 in
theorem QJ3_checkIndex_8e157_16 (E : xEn) (d : Nat) (x0 : Int32) (σ : xH) : qJ3_checkIndex_8e157_16 E d x0 σ = some (.inl (some (.int x0)), σ) := xval_blkQ E (xsem xT E d) 0 0 bJ3_checkIndex_8e157 (pc := 16) rfl [(0, .int x0)] [] σ 0 0
theorem eJ3_checkIndex_8e157 (E : xEn) (d : Nat) (x0 : Int32) (x1 : Int32) (x2 : Value) (hv : x2.category = 1) (σ : xH) : xsem xT E (d + 1) kJ3_checkIndex_8e157 [.int x0, .int x1, x2] σ = qJ3_checkIndex_8e157_0 E d x0 x1 x2 σ := by
  show (bif Nat.ble (1 + (1 + (x2.category + 0))) 3 then _ else _) = _
  rw [hv]
  rfl
