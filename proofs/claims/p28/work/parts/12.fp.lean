section FPART
theorem n64_of {a : UInt64} (h : FP.Core.val64 a ≠ .nan) : vf_n64 a := by
  have h1 := (FP.Core.ne_nan a).mp h
  unfold vf_n64
  rw [UInt64.le_iff_toNat_le, FP.Core.mask_toNat]
  exact h1
theorem n64_nn {a : UInt64} (h : FP.Core.dIsNaN a = false) : vf_n64 a := n64_of ((FP.Core.notNaN_iff a).mp h)
theorem i2d_small (b : Int32) : FP.Core.Small53 b.toInt64 := by
  have h1 := b.toInt_lt
  have h2 := b.le_toInt
  unfold FP.Core.Small53
  rw [Int32.toInt_toInt64]
  omega
theorem i2d_nz {b : Int32} (h : ¬ b = 0) : ¬ FP.Core.DZero (FP.Core.i2d b) := by
  intro z
  have h1 := FP.Core.zero_iff.mpr z
  rw [FP.Core.i2d_l2d, ← FP.Core.l2d_zero, FP.Core.dcmp_l2d (i2d_small b) (by unfold FP.Core.Small53; decide), Int32.toInt_toInt64] at h1
  have hz : (0 : Int64).toInt = 0 := by decide
  rw [hz] at h1
  have h2 : b.toInt ≠ 0 := fun q => h (Int32.toInt.inj (by rw [q]; rfl))
  split at h1
  · cases h1
  · cases h1
theorem dd_ok2' {a b : Int32} (h : ¬ b = 0) : vf_n64 (FP.ddiv (FP.i2d a) (FP.i2d b)) := by
  refine n64_nn (FP.Core.ddiv_out ?_ ?_ (i2d_nz h))
  · show FP.Core.dIsNaN (FP.Core.i2d a) = false
    rw [FP.Core.i2d_l2d]
    exact FP.Core.l2d_notNaN _
  · show FP.Core.DFin (FP.Core.i2d b)
    rw [FP.Core.i2d_l2d]
    exact FP.Core.l2d_fin _
theorem dd_ok {a b : Int32} (h : ¬ b ≤ 0) : vf_n64 (FP.ddiv (FP.i2d a) (FP.i2d b)) := dd_ok2' (fun e => h (by rw [e]; decide))
end FPART
