/-! EQUATIONS OF THE REFERENCE'S CONSTRUCTOR, written by wip/whole/geninit11.py. -/
section EB
variable {ρ : Type} {E : xEn} {call : Nat → List Value → xH → Option xR} {MC MS : Nat} {fin : xR → Option ρ} {K : Nat → xL → List Value → xH → Nat → Nat → Option ρ} {ep : Nat} {r : List xI} {L : xL} {st : List Value} {σ : xH} {bc bs pc i a v : Nat} {info : List Nat}
theorem eb_ld {L' : xL} : exB E call MC MS fin K ep ((pc, .aload_n 0, info) :: r) ((0, .ref a) :: L') st σ bc bs = exB E call MC MS fin K ep r ((0, .ref a) :: L') (.ref a :: st) σ bc bs := rfl
theorem eb_oi {t : Nat} : exB E call MC MS fin K ep ((pc, .invokespecial i, [t]) :: r) L (.ref a :: []) σ bc bs = exB E call MC MS fin K ep r L [] σ bc bs := rfl
theorem eb_sip {z : Int} {k : Nat} (h : (Int16.ofInt z).toInt32 = nI k) : exB E call MC MS fin K ep ((pc, .sipush z, info) :: r) L st σ bc bs = exB E call MC MS fin K ep r L (.int (nI k) :: st) σ bc bs := by
  rw [← h]
  rfl
theorem eb_bip {z : Int} {k : Nat} (h : (Int8.ofInt z).toInt32 = nI k) : exB E call MC MS fin K ep ((pc, .bipush z, info) :: r) L st σ bc bs = exB E call MC MS fin K ep r L (.int (nI k) :: st) σ bc bs := by
  rw [← h]
  rfl
theorem eb_ic {z : Int} : exB E call MC MS fin K ep ((pc, .iconst z, info) :: r) L st σ bc bs = exB E call MC MS fin K ep r L (.int (Int32.ofInt z) :: st) σ bc bs := rfl
theorem eb_na {ty : ArrayType} : exB E call MC MS fin K ep ((pc, .newarray ty, info) :: r) L st σ bc bs = xnewa MC MS xarr info st σ bc bs (fun st σ bc bs => exB E call MC MS fin K ep r L st σ bc bs) := rfl
theorem eb_pr {ci k t : Nat} : exB E call MC MS fin K ep ((pc, .putfield i, [ci, k, 2, t]) :: r) L (.ref v :: .ref a :: st) σ bc bs = gP σ ci k a (.ref v) (fun σ => exB E call MC MS fin K ep r L st σ bc bs) := rfl
theorem eb_pi {ci k t : Nat} {w : Int32} : exB E call MC MS fin K ep ((pc, .putfield i, [ci, k, 0, t]) :: r) L (.int w :: .ref a :: st) σ bc bs = gP σ ci k a (.int w) (fun σ => exB E call MC MS fin K ep r L st σ bc bs) := rfl
theorem eb_nw {k N : Nat} {KK : Nat → xH → Option ρ} : nwA σ k N KK = KK σ.2 (xup σ.1 σ.2 (.inl (k, N, xarr k)), σ.2 + 1) := rfl
end EB
noncomputable def qX11_init_0 (E : xEn) (d : Nat) (bc bs : Nat) (x0 : Nat) (σ : xH) : Option xR := xval E (xsem xT E d) 10 13358 bX11_init (0, [(0, .ref x0)], [], σ, bc, bs)
noncomputable def qX11_init_100 (E : xEn) (d : Nat) (bc bs : Nat) (x0 : Nat) (x1 : Int32) (σ : xH) : Option xR := xval E (xsem xT E d) 10 13358 bX11_init (100, [(0, .ref x0), (1, .int x1)], [], σ, bc, bs)
noncomputable def qX11_init_124 (E : xEn) (d : Nat) (bc bs : Nat) (σ : xH) : Option xR := xval E (xsem xT E d) 10 13358 bX11_init (124, [], [], σ, bc, bs)
set_option maxRecDepth 100000 in
theorem QX11_init_0 (E : xEn) (d : Nat) (x0 : Nat) (σ : xH) : qX11_init_0 E d 0 0 x0 σ = nwA σ 0 11000 (fun v1 σ1 => gP σ1 9 1 x0 (.ref v1) (fun σ2 => nwA σ2 0 1100 (fun v2 σ3 => gP σ3 9 2 x0 (.ref v2) (fun σ4 => nwA σ4 2 9 (fun v3 σ5 => gP σ5 9 5 x0 (.ref v3) (fun σ6 => nwA σ6 2 501 (fun v4 σ7 => gP σ7 9 6 x0 (.ref v4) (fun σ8 => nwA σ8 0 500 (fun v5 σ9 => gP σ9 9 7 x0 (.ref v5) (fun σ10 => gP σ10 9 12 x0 (.int (-1 : Int32)) (fun σ11 => nwA σ11 0 60 (fun v6 σ12 => gP σ12 9 17 x0 (.ref v6) (fun σ13 => nwA σ13 0 60 (fun v7 σ14 => gP σ14 9 18 x0 (.ref v7) (fun σ15 => nwA σ15 0 60 (fun v8 σ16 => gP σ16 9 19 x0 (.ref v8) (fun σ17 => nwA σ17 0 60 (fun v9 σ18 => gP σ18 9 20 x0 (.ref v9) (fun σ19 => nwA σ19 0 8 (fun v10 σ20 => gP σ20 9 25 x0 (.ref v10) (fun σ21 => gO E σ21 9 x0 (cV (xthr 1 some) (xsem xT E d kX11_begins [.ref x0, .int (nI 3)] σ21) (fun σ22 => qX11_init_100 E d 10 13358 x0 (nI 0) σ22))))))))))))))))))))))) := by
  refine (xval_blkQ E (xsem xT E d) 10 13358 bX11_init (pc := 0) (b := ([0], [(0, .aload_n 0, []), (1, .invokespecial 1, [0]), (4, .aload_n 0, []), (5, .sipush 11000, []), (8, .newarray .int, [0]), (10, .putfield 7, [9, 1, 2, 2]), (13, .aload_n 0, []), (14, .sipush 1100, []), (17, .newarray .int, [0]), (19, .putfield 13, [9, 2, 2, 2]), (22, .aload_n 0, []), (23, .bipush 9, []), (25, .newarray .long, [2]), (27, .putfield 16, [9, 5, 2, 2]), (30, .aload_n 0, []), (31, .sipush 501, []), (34, .newarray .long, [2]), (36, .putfield 20, [9, 6, 2, 2]), (39, .aload_n 0, []), (40, .sipush 500, []), (43, .newarray .int, [0]), (45, .putfield 23, [9, 7, 2, 2]), (48, .aload_n 0, []), (49, .iconst (-1), []), (50, .putfield 26, [9, 12, 0, 0]), (53, .aload_n 0, []), (54, .bipush 60, []), (56, .newarray .int, [0]), (58, .putfield 30, [9, 17, 2, 2]), (61, .aload_n 0, []), (62, .bipush 60, []), (64, .newarray .int, [0]), (66, .putfield 33, [9, 18, 2, 2]), (69, .aload_n 0, []), (70, .bipush 60, []), (72, .newarray .int, [0]), (74, .putfield 36, [9, 19, 2, 2]), (77, .aload_n 0, []), (78, .bipush 60, []), (80, .newarray .int, [0]), (82, .putfield 39, [9, 20, 2, 2]), (85, .aload_n 0, []), (86, .bipush 8, []), (88, .newarray .int, [0]), (90, .putfield 42, [9, 25, 2, 2]), (93, .aload_n 0, []), (94, .iconst 3, []), (95, .invokevirtual 45, [1, 149, 2, 9, 0, 0, 10]), (98, .iconst 0, []), (99, .istore_n 1, [])], 100)) rfl [(0, .ref x0)] [] σ 0 0).trans ?_
  show exB E (xsem xT E d) 10 13358 some (xkq E (xsem xT E d) 10 13358 bX11_init) 100 [(0, .aload_n 0, []), (1, .invokespecial 1, [0]), (4, .aload_n 0, []), (5, .sipush 11000, []), (8, .newarray .int, [0]), (10, .putfield 7, [9, 1, 2, 2]), (13, .aload_n 0, []), (14, .sipush 1100, []), (17, .newarray .int, [0]), (19, .putfield 13, [9, 2, 2, 2]), (22, .aload_n 0, []), (23, .bipush 9, []), (25, .newarray .long, [2]), (27, .putfield 16, [9, 5, 2, 2]), (30, .aload_n 0, []), (31, .sipush 501, []), (34, .newarray .long, [2]), (36, .putfield 20, [9, 6, 2, 2]), (39, .aload_n 0, []), (40, .sipush 500, []), (43, .newarray .int, [0]), (45, .putfield 23, [9, 7, 2, 2]), (48, .aload_n 0, []), (49, .iconst (-1), []), (50, .putfield 26, [9, 12, 0, 0]), (53, .aload_n 0, []), (54, .bipush 60, []), (56, .newarray .int, [0]), (58, .putfield 30, [9, 17, 2, 2]), (61, .aload_n 0, []), (62, .bipush 60, []), (64, .newarray .int, [0]), (66, .putfield 33, [9, 18, 2, 2]), (69, .aload_n 0, []), (70, .bipush 60, []), (72, .newarray .int, [0]), (74, .putfield 36, [9, 19, 2, 2]), (77, .aload_n 0, []), (78, .bipush 60, []), (80, .newarray .int, [0]), (82, .putfield 39, [9, 20, 2, 2]), (85, .aload_n 0, []), (86, .bipush 8, []), (88, .newarray .int, [0]), (90, .putfield 42, [9, 25, 2, 2]), (93, .aload_n 0, []), (94, .iconst 3, []), (95, .invokevirtual 45, [1, 149, 2, 9, 0, 0, 10]), (98, .iconst 0, []), (99, .istore_n 1, [])] [(0, .ref x0)] [] σ 0 0 = _
  rw [eb_ld, eb_oi, eb_ld, eb_sip (k := 11000) (by decide), eb_na, xnewa_k (k := 11000) rfl, eb_pr]
  rw [eb_nw]
  refine congrArg (gP _ _ _ _ _) (funext fun _ => ?_)
  rw [eb_ld, eb_sip (k := 1100) (by decide), eb_na, xnewa_k (k := 1100) rfl, eb_pr]
  rw [eb_nw]
  refine congrArg (gP _ _ _ _ _) (funext fun _ => ?_)
  rw [eb_ld, eb_bip (k := 9) (by decide), eb_na, xnewa_k (k := 9) rfl, eb_pr]
  rw [eb_nw]
  refine congrArg (gP _ _ _ _ _) (funext fun _ => ?_)
  rw [eb_ld, eb_sip (k := 501) (by decide), eb_na, xnewa_k (k := 501) rfl, eb_pr]
  rw [eb_nw]
  refine congrArg (gP _ _ _ _ _) (funext fun _ => ?_)
  rw [eb_ld, eb_sip (k := 500) (by decide), eb_na, xnewa_k (k := 500) rfl, eb_pr]
  rw [eb_nw]
  refine congrArg (gP _ _ _ _ _) (funext fun _ => ?_)
  rw [eb_ld, eb_ic, eb_pi]
  refine congrArg (gP _ _ _ _ _) (funext fun _ => ?_)
  rw [eb_ld, eb_bip (k := 60) (by decide), eb_na, xnewa_k (k := 60) rfl, eb_pr]
  rw [eb_nw]
  refine congrArg (gP _ _ _ _ _) (funext fun _ => ?_)
  rw [eb_ld, eb_bip (k := 60) (by decide), eb_na, xnewa_k (k := 60) rfl, eb_pr]
  rw [eb_nw]
  refine congrArg (gP _ _ _ _ _) (funext fun _ => ?_)
  rw [eb_ld, eb_bip (k := 60) (by decide), eb_na, xnewa_k (k := 60) rfl, eb_pr]
  rw [eb_nw]
  refine congrArg (gP _ _ _ _ _) (funext fun _ => ?_)
  rw [eb_ld, eb_bip (k := 60) (by decide), eb_na, xnewa_k (k := 60) rfl, eb_pr]
  rw [eb_nw]
  refine congrArg (gP _ _ _ _ _) (funext fun _ => ?_)
  rw [eb_ld, eb_bip (k := 8) (by decide), eb_na, xnewa_k (k := 8) rfl, eb_pr]
  rw [eb_nw]
  refine congrArg (gP _ _ _ _ _) (funext fun _ => ?_)
  rw [eb_ld, eb_ic]
  rfl
set_option maxRecDepth 100000 in
theorem QX11_init_100 (E : xEn) (d : Nat) (bc bs : Nat) (x0 : Nat) (x1 : Int32) (σ : xH) : qX11_init_100 E d bc bs x0 x1 σ = if (nI 1100) ≤ x1 then qX11_init_124 E d bc bs σ else gR σ 9 2 x0 (fun v1 => aI σ v1 x1 (fun v2 => bif Nat.ble bc 10 && Nat.ble bs 13358 then gO E σ 9 x0 (cV (xthr 1 some) (xsem xT E d kX11_put [.ref x0, .int x1, .int v2] σ) (fun σ1 => qX11_init_100 E d bc bs x0 (x1 + (nI 1)) σ1)) else none)) := xval_blkQ E (xsem xT E d) 10 13358 bX11_init (pc := 100) rfl [(0, .ref x0), (1, .int x1)] [] σ bc bs
set_option maxRecDepth 100000 in
theorem QX11_init_124 (E : xEn) (d : Nat) (bc bs : Nat) (σ : xH) : qX11_init_124 E d bc bs σ = some (.inl none, σ) := xval_blkQ E (xsem xT E d) 10 13358 bX11_init (pc := 124) rfl [] [] σ bc bs
theorem eX11_init (E : xEn) (d : Nat) (x0 : Nat) (σ : xH) : xsem xT E (d + 1) kX11_init [.ref x0] σ = qX11_init_0 E d 0 0 x0 σ := rfl
