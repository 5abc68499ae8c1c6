section FMOD
theorem xor_neg (x y : Int32) : 0 ≤ (x ^^^ y) ↔ (x < 0 ↔ y < 0) := by
  have key : ∀ z : Int32, z < 0 ↔ z.toBitVec.msb = true := by
    intro z
    rw [Int32.lt_iff_toInt_lt, BitVec.msb_eq_toInt]
    show z.toInt < 0 ↔ decide (z.toBitVec.toInt < 0) = true
    rw [decide_eq_true_iff]
    rfl
  have h : 0 ≤ (x ^^^ y) ↔ ¬ (x ^^^ y) < 0 := Int32.not_lt.symm
  rw [h, key, key x, key y, Int32.toBitVec_xor, BitVec.msb_xor]
  cases x.toBitVec.msb <;> cases y.toBitVec.msb <;> simp
theorem i32_rem (x : Int32) {d : Nat} (h0 : 0 < d) (hd : d < 2 ^ 31) : (x - x / nI d * nI d).toInt = x.toInt.tmod d := by
  have hb := x.toInt_lt
  have hb2 := x.le_toInt
  have e1 : (x / nI d).toInt = x.toInt.tdiv d := by
    rw [Int32.toInt_div, nI_toInt hd]
    have h1 : (x.toInt.tdiv d).natAbs ≤ x.toInt.natAbs := by
      rw [Int.natAbs_tdiv]
      exact Nat.div_le_self _ _
    by_cases hq : d = 1
    · subst hq
      rw [show ((1 : Nat) : Int) = 1 from rfl, Int.tdiv_one]
      exact fb_bmod (by omega) (by omega)
    · have h2 : (x.toInt.tdiv d).natAbs ≤ x.toInt.natAbs / 2 := by
        rw [Int.natAbs_tdiv]
        exact Nat.div_le_div_left (by simp; omega) (by decide)
      exact fb_bmod (by omega) (by omega)
  have e2 : x.toInt.tdiv d * d = x.toInt - x.toInt.tmod d := by
    have := Int.mul_tdiv_add_tmod x.toInt d
    rw [Int.mul_comm] at this
    omega
  have h3 : (x.toInt.tmod d).natAbs ≤ x.toInt.natAbs := by
    rw [Int.natAbs_tmod]
    exact Nat.mod_le _ _
  have h4 : (0 ≤ x.toInt → 0 ≤ x.toInt.tmod d) := fun h => Int.tmod_nonneg _ h
  have h5 : (x.toInt ≤ 0 → x.toInt.tmod d ≤ 0) := fun h => by
    have q := Int.tmod_nonneg (d : Int) (a := -x.toInt) (by omega)
    rw [Int.neg_tmod] at q
    omega
  rw [Int32.toInt_sub, Int32.toInt_mul, e1, nI_toInt hd, e2]
  rw [fb_bmod (z := x.toInt - x.toInt.tmod ↑d) (by omega) (by omega), fb_bmod (by omega) (by omega)]
  omega
theorem fmod_in (S : vS) (x : Int32) {d : Nat} (h0 : 0 < d) (hd : d < 2 ^ 30) : vp_in (x_J9_floorMod_7cf53 S x (nI d)) d := by
  have hb := x.toInt_lt
  have hb2 := x.le_toInt
  have hm := i32_rem x h0 (by omega)
  generalize hr : x - x / nI d * nI d = r at hm
  have hn : ¬ nI d < 0 := nI_pos (by omega)
  have h3 : (x.toInt.tmod d).natAbs < d := by
    rw [Int.natAbs_tmod]
    exact Nat.mod_lt _ (by simpa using h0)
  have h4 : (0 ≤ x.toInt → 0 ≤ x.toInt.tmod d) := fun h => Int.tmod_nonneg _ h
  have h5 : (x.toInt ≤ 0 → x.toInt.tmod d ≤ 0) := fun h => by
    have q := Int.tmod_nonneg (d : Int) (a := -x.toInt) (by omega)
    rw [Int.neg_tmod] at q
    omega
  have z : (0 : Int32).toInt = 0 := by decide
  unfold x_J9_floorMod_7cf53 nm
  dsimp only
  rw [hr, vp_in_iff]
  by_cases hx : x < 0
  · have hx2 := Int32.lt_iff_toInt_lt.mp hx
    rw [if_neg (by rw [xor_neg]; intro q; exact hn (q.mp hx))]
    by_cases hz : r = 0
    · rw [if_pos hz, hz, z]
      omega
    · rw [if_neg hz]
      have hz2 : r.toInt ≠ 0 := fun q => hz (Int32.toInt_inj.mp (by rw [q, z]))
      rw [Int32.toInt_add, nI_toInt (by omega), hm]
      rw [fb_bmod (by omega) (by omega)]
      omega
  · have hx2 : ¬ x.toInt < 0 := fun q => hx (Int32.lt_iff_toInt_lt.mpr (by rw [z]; exact q))
    rw [if_pos (by rw [xor_neg]; exact ⟨fun q => absurd q hx, fun q => absurd q hn⟩)]
    omega
theorem fmod6 (S : vS) (x : Int32) : vp_in (x_J9_floorMod_7cf53 S x 6) 6 := fmod_in S x (d := 6) (by decide) (by decide)
theorem fmod8 (S : vS) (x : Int32) : vp_in (x_J9_floorMod_7cf53 S x 8) 8 := fmod_in S x (d := 8) (by decide) (by decide)
end FMOD
