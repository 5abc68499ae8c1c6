section BITS
variable {S T : vS} {F H : vF} {p v : UInt64} {e : Int64} {W : Int}
theorem pow_split {a b c : Nat} (h : a + b = c) : 2 ^ c = 2 ^ a * 2 ^ b := by rw [← h, Nat.pow_add]
theorem i2d_fin {a : Int32} {P : Nat} (ha : a.toInt = P) : ∃ c q, FP.Core.val64 (FP.i2d a) = .fin false c q ∧ c * 2 ^ q.toNat = P * 2 ^ (-q).toNat := by
  have h := FP.Core.i2d_int a
  unfold FP.Core.DInt at h
  have e : FP.Core.val64 (FP.Core.i2d a) = FP.Core.roundRatio FP.Core.b64 false P 1 0 := by
    rw [FP.Core.val64_i2d]
    show FP.Core.roundRatio FP.Core.b64 (decide (a.toInt < 0)) a.toInt.natAbs 1 0 = _
    rw [ha, decide_eq_false (by omega)]
    rfl
  rw [e] at h
  show ∃ c q, FP.Core.val64 (FP.Core.i2d a) = .fin false c q ∧ c * 2 ^ q.toNat = P * 2 ^ (-q).toNat
  rw [e]
  rcases FP.Core.roundRatio_cases FP.Core.b64 false P 1 0 with ⟨c, q, hR⟩ | hR
  · rw [hR] at h ⊢
    have := FP.Core.whole_natAbs h
    rw [ha] at this
    exact ⟨c, q, rfl, this⟩
  · rw [hR] at h; exact h.elim
theorem quo_val {a b : Int32} {P N : Nat} (ha : a.toInt = P) (hb : b.toInt = N) (hN : 0 < N) : FP.Core.val64 (FP.ddiv (FP.i2d a) (FP.i2d b)) = FP.Core.roundRatio FP.Core.b64 false P N 0 := by
  obtain ⟨c, q, e1, h1⟩ := i2d_fin ha
  obtain ⟨d, r, e2, h2⟩ := i2d_fin hb
  have hd : 0 < d := by
    rcases Nat.eq_zero_or_pos d with z | z
    · rw [z, Nat.zero_mul] at h2
      have := Nat.mul_pos hN (Nat.two_pow_pos (-r).toNat)
      omega
    · exact z
  show FP.Core.val64 (FP.Core.ddiv (FP.i2d a) (FP.i2d b)) = _
  rw [FP.Core.val64_ddiv, e1, e2]
  show (if d = 0 then _ else FP.Core.roundRatio FP.Core.b64 (false != false) c d (q - r)) = _
  rw [if_neg (by omega)]
  refine FP.Core.roundRatio_congr hd hN ?_
  refine Nat.eq_of_mul_eq_mul_right (Nat.two_pow_pos (q.toNat + (-r).toNat)) ?_
  have l : c * N * 2 ^ (q - r - 0).toNat * 2 ^ (q.toNat + (-r).toNat) = (c * 2 ^ q.toNat) * (N * 2 ^ (-r).toNat) * 2 ^ (q - r - 0).toNat := by
    rw [Nat.pow_add]; ac_rfl
  rw [l, h1, ← h2]
  have x : (-q).toNat + r.toNat + (q - r - 0).toNat = (0 - (q - r)).toNat + (q.toNat + (-r).toNat) := by omega
  calc P * 2 ^ (-q).toNat * (d * 2 ^ r.toNat) * 2 ^ (q - r - 0).toNat = P * d * 2 ^ ((-q).toNat + r.toNat + (q - r - 0).toNat) := by rw [Nat.pow_add, Nat.pow_add]; ac_rfl
    _ = P * d * 2 ^ ((0 - (q - r)).toNat + (q.toNat + (-r).toNat)) := by rw [x]
    _ = P * d * 2 ^ (0 - (q - r)).toNat * 2 ^ (q.toNat + (-r).toNat) := by rw [Nat.pow_add]; ac_rfl
theorem shN_quo {a b : Int32} {P N : Nat} (ha : a.toInt = P) (hb : b.toInt = N) (hN : 0 < N) (hP : P ≤ N) : shN (FP.ddiv (FP.i2d a) (FP.i2d b)) := by
  have e := quo_val ha hb hN
  generalize FP.ddiv (FP.i2d a) (FP.i2d b) = s at e
  have hlt : N < 2 ^ 31 := by have := b.toInt_lt; omega
  have qm : FP.Core.b64.qmin = -1074 := by decide
  have nn : FP.Core.val64 s ≠ .nan := by rw [e]; exact FP.Core.roundRatio_ne_nan _ _ _ _ _
  rcases Nat.eq_zero_or_pos P with z | z
  · left
    have e0 : FP.Core.val64 (0 : UInt64) = FP.Core.val64 s := by
      rw [e, z]
      have : FP.Core.roundRatio FP.Core.b64 false 0 N 0 = .fin false 0 FP.Core.b64.qmin := by
        unfold FP.Core.roundRatio
        rw [if_pos rfl]
      rw [this]
      decide +kernel
    exact (FP.Core.val64_inj (by rw [e0]; exact nn) e0).symm
  · right
    -- the sign
    have hs : s.toNat < 2 ^ 63 := by
      have h1 := FP.Core.sgn_roundRatio FP.Core.b64 false P N 0
      rw [← e] at h1
      have h2 : FP.Core.mag FP.Core.b64 s.toNat ≤ FP.Core.infBits FP.Core.b64 := Nat.le_of_not_lt fun h => nn ((FP.Core.decode_nan _).mpr h)
      have h3 := FP.Core.sgn_decode h2 (FP.Core.lt_full64 s)
      have h4 : FP.Core.sgn (FP.Core.decode FP.Core.b64 s.toNat) = false := h1
      rw [h4] at h3
      have h5 := of_decide_eq_false h3.symm
      have : FP.Core.half FP.Core.b64 = 2 ^ 63 := FP.Core.half_b64
      omega
    have zb := FP.Core.zmag_bits nn
    have hm : s.toNat % 2 ^ 63 = s.toNat := Nat.mod_eq_of_lt hs
    rw [hm, e] at zb
    have f1 : FP.Core.fits FP.Core.b64 (.fin false (2 ^ 52) (-52)) := by rw [← one_val]; exact FP.Core.val64_fits _
    have lo : FP.Core.val64 (4467570830351532032 : UInt64) = .fin false (2 ^ 52) (-83) := by decide +kernel
    have f2 : FP.Core.fits FP.Core.b64 (.fin false (2 ^ 52) (-83)) := by rw [← lo]; exact FP.Core.val64_fits _
    have u1 : FP.Core.zmag FP.Core.b64 (.fin false (2 ^ 52) (-52)) = FP.Core.unitsOf FP.Core.b64 (1023 * 2 ^ 52) := by
      have := FP.Core.zmag_bits (a := FP.dconst1) (by rw [one_val]; exact FP.Core.Datum.noConfusion)
      rw [one_val] at this
      exact this
    have u2 : FP.Core.zmag FP.Core.b64 (.fin false (2 ^ 52) (-83)) = FP.Core.unitsOf FP.Core.b64 (992 * 2 ^ 52) := by
      have := FP.Core.zmag_bits (a := (4467570830351532032 : UInt64)) (by rw [lo]; exact FP.Core.Datum.noConfusion)
      rw [lo] at this
      exact this
    have z1 : FP.Core.zmag FP.Core.b64 (.fin false (2 ^ 52) (-52)) = 2 ^ 1074 := by
      unfold FP.Core.zmag FP.Core.inUnits
      rw [qm]
      dsimp only
      rw [show ((-52 : Int) - (-1074)).toNat = 1022 by decide, pow_split (show 52 + 1022 = 1074 by decide)]
    have z2 : FP.Core.zmag FP.Core.b64 (.fin false (2 ^ 52) (-83)) = 2 ^ 1043 := by
      unfold FP.Core.zmag FP.Core.inUnits
      rw [qm]
      dsimp only
      rw [show ((-83 : Int) - (-1074)).toNat = 991 by decide, pow_split (show 52 + 991 = 1043 by decide)]
    have iu : FP.Core.inUnits P 0 (-1074) = P * 2 ^ 1074 := by
      unfold FP.Core.inUnits
      rw [show ((0 : Int) - (-1074)).toNat = 1074 by decide]
    have t0 : ((-1074 : Int) - (-1074)).toNat = 0 := by decide
    have up := FP.Core.zmag_roundRatio_le FP.Core.good_b64 (s := false) (A := P) (B := N) (e := 0) (e0 := -1074) hN f1 FP.Core.Datum.noConfusion (by rw [qm]; exact Int.le_refl _) (by decide) (by
      rw [z1, qm, iu]
      rw [t0, Nat.pow_zero, Nat.mul_one, Nat.mul_comm]
      exact Nat.mul_le_mul_left _ hP)
    have dn := FP.Core.zmag_roundRatio_ge FP.Core.good_b64 (s := false) (A := P) (B := N) (e := 0) (e0 := -1074) hN f2 (by rw [qm]; exact Int.le_refl _) (by decide) (by
      rw [z2, qm, iu]
      rw [t0, Nat.pow_zero, Nat.mul_one]
      calc 2 ^ 1043 * N ≤ 2 ^ 1043 * 2 ^ 31 := Nat.mul_le_mul_left _ (by omega)
        _ = 1 * 2 ^ 1074 := by rw [Nat.one_mul, pow_split (show 1043 + 31 = 1074 by decide)]
        _ ≤ P * 2 ^ 1074 := Nat.mul_le_mul_right _ z)
    rw [zb, u1, FP.Core.unitsOf_le_iff] at up
    rw [zb, u2, FP.Core.unitsOf_le_iff] at dn
    clear u1 u2 z1 z2 iu zb
    omega
theorem shN_one : shN FP.dconst1 := Or.inr (by decide +kernel)
theorem share_sh (h : IR W F) (hW : W ≤ 1000) : shN (w_share F) := by
  obtain ⟨h1, h2, h3, h4, h5, h6, h7, h8, h9, h10, h11, h12, h13, h14, h15⟩ := h
  have lc := (Lc_0 (F := F)).2
  have t : (F 9 + F 10).toInt = (F 9).toInt + (F 10).toInt := by
    generalize Lc F = l at *
    clear h9 h8
    exact fb_addI (by omega) (by omega)
  unfold w_share
  rw [nm_eq]
  by_cases c : F 9 + F 10 = 0
  · rw [if_pos c]; exact shN_one
  · rw [if_neg c]
    have hz : ¬ (F 9 + F 10).toInt = 0 := fun q => c (Int32.toInt_inj.mp (by rw [q, z32]))
    have sq0 : 0 ≤ Zs F 3 := si_nonneg fun o ho => (h2 o ho).2.2.2.1
    have sq1 : 0 ≤ Zs F 10 := si_nonneg fun o ho => (h3 o ho).1
    have a := h11.1
    have b := h12.1
    have cc := h10
    have dd := h9
    generalize Zs F 3 = x3 at *
    generalize Zs F 10 = x10 at *
    exact shN_quo (P := (F 11).toInt.toNat) (N := (F 9 + F 10).toInt.toNat) (by omega) (by omega) (by omega) (by omega)
end BITS
