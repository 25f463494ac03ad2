/-! FLOATING POINT: quotients of small whole numbers are numbers. -/
theorem fp_bits64 (r : UInt64) (h : FP.Core.dIsNaN r = false) : r &&& 0x7fffffffffffffff ≤ 0x7ff0000000000000 := by
  have h1 : ¬ 9218868437227405312 < r.toNat % 2 ^ 63 := fun z => by
    rw [(FP.Core.isNaN_bits r).2 z] at h
    cases h
  have e1 : (0x7fffffffffffffff : UInt64).toNat = 2 ^ 63 - 1 := by decide
  have e2 : (0x7ff0000000000000 : UInt64).toNat = 9218868437227405312 := by decide
  rw [UInt64.le_iff_toNat_le, UInt64.toNat_and, e1, e2, Nat.and_two_pow_sub_one_eq_mod]
  omega
theorem fp_bits32 (r : UInt32) (h : FP.Core.fIsNaN r = false) : r &&& 0x7fffffff ≤ 0x7f800000 := by
  have h1 : ¬ 2139095040 < r.toNat % 2 ^ 31 := fun z => by
    rw [(FP.Core.isNaN_bits32 r).2 z] at h
    cases h
  have e1 : (0x7fffffff : UInt32).toNat = 2 ^ 31 - 1 := by decide
  have e2 : (0x7f800000 : UInt32).toNat = 2139095040 := by decide
  rw [UInt32.le_iff_toNat_le, UInt32.toNat_and, e1, e2, Nat.and_two_pow_sub_one_eq_mod]
  omega
theorem fp_i2d {a : Nat} (ha : a < 2 ^ 31) : FP.i2d (nI a) = FP.l2d (lN a) := by
  rw [← nI_l ha]
  exact FP.Core.i2d_l2d _
theorem fp_i2f {a : Nat} (ha : a < 2 ^ 31) : FP.i2f (nI a) = FP.l2f (lN a) := by
  rw [← nI_l ha]
  show FP.Core.i2f _ = FP.Core.l2f _
  unfold FP.Core.i2f FP.Core.l2f
  rw [Int32.toInt_toInt64]
theorem fp_dn (a b : Nat) (h0 : 0 < b) (hb : b < 2 ^ 31) : FP.Core.dIsNaN (FP.ddiv (FP.l2d (lN a)) (FP.l2d (lN b))) = false := by
  have hne : lN b ≠ 0 := fun z => by have := (pk_lEQ (a := b) (b := 0) (by omega) (by omega)).1 z; omega
  refine FP.Core.ddiv_out ?_ (FP.Core.l2d_fin _) (fun z => ?_)
  · refine Bool.eq_false_iff.2 (fun z => ?_)
    have h1 := (FP.Core.isNaN_bits _).1 z
    have h2 : (FP.l2d (lN a)).toNat % 2 ^ 63 < 1088 * 2 ^ 52 := FP.Core.l2d_mag (lN a)
    omega
  · exact FP.Core.l2d_ne_zero hne ((FP.Core.zero_bits2 _).1 z)
theorem fp_fn (a b : Nat) (h0 : 0 < b) (hb : b < 2 ^ 31) : FP.Core.fIsNaN (FP.fdiv (FP.l2f (lN a)) (FP.l2f (lN b))) = false := by
  have hne : lN b ≠ 0 := fun z => by have := (pk_lEQ (a := b) (b := 0) (by omega) (by omega)).1 z; omega
  refine FP.Core.fdiv_out ?_ (FP.Core.l2f_fin _) (fun z => ?_)
  · refine Bool.eq_false_iff.2 (fun z => ?_)
    have h1 := (FP.Core.isNaN_bits32 _).1 z
    have h2 : (FP.l2f (lN a)).toNat % 2 ^ 31 < 192 * 2 ^ 23 := FP.Core.l2f_mag (lN a)
    omega
  · exact FP.Core.l2f_ne_zero hne ((FP.Core.zero_bits232 _).1 z)
theorem fp_sn (a b : Nat) (h0 : 0 < b) (hb : b < 2 ^ 31) : FP.Core.fIsNaN (FP.fsub FP.fconst1 (FP.fdiv (FP.l2f (lN a)) (FP.l2f (lN b)))) = false :=
  FP.Core.fsub_out' ((FP.Core.fin_bits32 _).2 (by decide)) (fp_fn a b h0 hb)
theorem fp_nzd {ρ : Type} {a b : Nat} (h0 : 0 < b) (hb : b < 2 ^ 31) {k : Option ρ} : nz (decide ((FP.ddiv (FP.l2d (lN a)) (FP.l2d (lN b))) &&& 0x7fffffffffffffff ≤ 0x7ff0000000000000)) k = k := by
  unfold nz
  rw [decide_eq_true (fp_bits64 _ (fp_dn a b h0 hb))]
  rfl
theorem fp_nzf {ρ : Type} {a b : Nat} (h0 : 0 < b) (hb : b < 2 ^ 31) {k : Option ρ} : nz (decide ((FP.fdiv (FP.l2f (lN a)) (FP.l2f (lN b))) &&& 0x7fffffff ≤ 0x7f800000)) k = k := by
  unfold nz
  rw [decide_eq_true (fp_bits32 _ (fp_fn a b h0 hb))]
  rfl
theorem fp_nzs {ρ : Type} {a b : Nat} (h0 : 0 < b) (hb : b < 2 ^ 31) {k : Option ρ} : nz (decide ((FP.fsub FP.fconst1 (FP.fdiv (FP.l2f (lN a)) (FP.l2f (lN b)))) &&& 0x7fffffff ≤ 0x7f800000)) k = k := by
  unfold nz
  rw [decide_eq_true (fp_bits32 _ (fp_sn a b h0 hb))]
  rfl
