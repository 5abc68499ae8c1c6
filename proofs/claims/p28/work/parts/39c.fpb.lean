section FPB
def lcmpV (x y : Int64) : Int32 := if y < x then 1 else if x = y then 0 else -1
section LC
variable {p : Program} {l : Launch} {e : Env} {R : Room} {s : State} {m : MethodId} {args : Array Value} {below : List Frame} {meth : Method} {c : Code} {H : Heap} {locs : List Loc} {cells slots : Nat} {Q : State → Prop}
variable {cc : ByteArray} {pc : Nat} {ls : Array Slot} {rest : List Value}
theorem lv_lcmp (hexec : p.tables.exec = Jvm.exec) (hb : c.code = cc) {x y : Int64} (hdg : decode cc pc = .ok (.lcmp, 1))
    (k : W p l e R s m args below meth c H locs cells slots Q (F0 m (pc + 1) ls (.int (lcmpV x y) :: rest))) : W p l e R s m args below meth c H locs cells slots Q (F0 m pc ls (.long y :: .long x :: rest)) := by
  intro T hT X
  obtain ⟨t, a, b⟩ := k T hT X
  refine ⟨t, ?_, b⟩
  unfold lcmpV at a
  by_cases h1 : y < x
  · rw [if_pos h1] at a
    jvm_step X.here [X.here.top, hexec, hb, hdg, h1]
    exact a
  · by_cases h2 : x = y
    · rw [if_neg h1, if_pos h2] at a
      jvm_step X.here [X.here.top, hexec, hb, hdg, h1, h2]
      exact a
    · rw [if_neg h1, if_neg h2] at a
      jvm_step X.here [X.here.top, hexec, hb, hdg, h1, h2]
      exact a
end LC
/-- a share: 0, or a normal double up to 1 -/
def shN (p : UInt64) : Prop := p = 0 ∨ (1 ≤ p.toNat / 2 ^ 52 ∧ p.toNat / 2 ^ 52 ≤ 1023 ∧ (p.toNat / 2 ^ 52 = 1023 → p.toNat % 2 ^ 52 = 0))
def SB (p v : UInt64) (e : Int64) (n : Nat) : Prop := ∃ k : Nat, v.toNat = p.toNat + k * 2 ^ 52 ∧ 1 ≤ p.toNat / 2 ^ 52 ∧ p.toNat / 2 ^ 52 + k ≤ 1023 ∧ e = Int64.ofNat (1023 - k) ∧ 1023 < p.toNat / 2 ^ 52 + k + n
theorem SB_zero {p v : UInt64} {e : Int64} (h : SB p v e 0) : False := by
  obtain ⟨k, h1, h2, h3, h4, h5⟩ := h
  omega
/-- a normal positive double -/
theorem norm_val {v : UInt64} {E T : Nat} (h : v.toNat = E * 2 ^ 52 + T) (hT : T < 2 ^ 52) (h1 : 1 ≤ E) (h2 : E ≤ 2046) : FP.Core.val64 v = .fin false (2 ^ 52 + T) ((E : Int) - 1075) := by
  unfold FP.Core.val64 FP.Core.decode
  have e1 : FP.Core.fieldE FP.Core.b64 v.toNat = E := by
    show v.toNat / 2 ^ 52 % 2048 = E
    omega
  have e2 : FP.Core.fieldT FP.Core.b64 v.toNat = T := by
    show v.toNat % 2 ^ 52 = T
    omega
  have e3 : FP.Core.fieldS FP.Core.b64 v.toNat = false := by
    show (v.toNat / 2 ^ 52 / 2048 % 2 == 1) = false
    have : v.toNat / 2 ^ 52 / 2048 % 2 = 0 := by omega
    rw [this]
    rfl
  have e4 : FP.Core.b64.exps = 2048 := rfl
  have e5 : FP.Core.b64.qmin = -1074 := by decide
  have e6 : FP.Core.b64.tails = 2 ^ 52 := rfl
  rw [e1, e2, e3, e4, e5, e6, if_neg (by omega), if_neg (by omega)]
  congr 1
  omega
theorem norm_split {v : UInt64} (h1 : 1 ≤ v.toNat / 2 ^ 52) (h2 : v.toNat / 2 ^ 52 ≤ 2046) : FP.Core.val64 v = .fin false (2 ^ 52 + v.toNat % 2 ^ 52) (((v.toNat / 2 ^ 52 : Nat) : Int) - 1075) := norm_val (by omega) (Nat.mod_lt _ (by decide)) h1 h2
theorem two_val : FP.Core.val64 4611686018427387904 = .fin false (2 ^ 52) (-51) := by decide +kernel
theorem one_val : FP.Core.val64 FP.dconst1 = .fin false (2 ^ 52) (-52) := by decide +kernel
theorem big_val : FP.Core.val64 4841369599423283200 = .fin false (2 ^ 52) 0 := by decide +kernel
theorem dbl_val {v : UInt64} (h1 : 1 ≤ v.toNat / 2 ^ 52) (h2 : v.toNat / 2 ^ 52 ≤ 1023) : FP.Core.val64 (FP.dmul v 4611686018427387904) = .fin false (2 ^ 52 + v.toNat % 2 ^ 52) (((v.toNat / 2 ^ 52 + 1 : Nat) : Int) - 1075) := by
  show FP.Core.val64 (FP.Core.dmul v 4611686018427387904) = _
  rw [FP.Core.val64_dmul, norm_split h1 (by omega), two_val]
  have hm := Nat.mod_lt v.toNat (show 2 ^ 52 > 0 by decide)
  generalize v.toNat % 2 ^ 52 = T at hm
  generalize v.toNat / 2 ^ 52 = E at h1 h2
  show FP.Core.roundRatio FP.Core.b64 false ((2 ^ 52 + T) * 2 ^ 52) 1 (((E : Int) - 1075) + -51) = _
  refine FP.Core.roundRatio_exact FP.Core.good_b64 (by decide) ⟨?_, ?_, ?_, ?_⟩ ?_
  · show 2 ^ 52 + T < 2 ^ 53
    omega
  · show (-1074 : Int) ≤ _
    omega
  · show _ ≤ (971 : Int)
    omega
  · right
    show 2 ^ 52 ≤ 2 ^ 52 + T
    omega
  · rw [show ((((E : Int) - 1075) + -51) - (((E + 1 : Nat) : Int) - 1075)).toNat = 0 by omega, show ((((E + 1 : Nat) : Int) - 1075) - (((E : Int) - 1075) + -51)).toNat = 52 by omega]
    omega
theorem dbl_bits {v : UInt64} (h1 : 1 ≤ v.toNat / 2 ^ 52) (h2 : v.toNat / 2 ^ 52 ≤ 1023) : (FP.dmul v 4611686018427387904).toNat = v.toNat + 2 ^ 52 := by
  have hv := v.toNat_lt
  have e : (v + 4503599627370496).toNat = v.toNat + 2 ^ 52 := by
    rw [UInt64.toNat_add]
    show (v.toNat + 4503599627370496) % 2 ^ 64 = _
    omega
  have h3 : FP.Core.val64 (v + 4503599627370496) = FP.Core.val64 (FP.dmul v 4611686018427387904) := by
    rw [dbl_val h1 h2]
    exact norm_val (by rw [e]; omega) (Nat.mod_lt _ (by decide)) (by omega) (by omega)
  have h4 : v + 4503599627370496 = FP.dmul v 4611686018427387904 := FP.Core.val64_inj (by rw [h3, dbl_val h1 h2]; exact FP.Core.Datum.noConfusion) h3
  rw [← h4, e]
theorem cmp_one {v : UInt64} (h1 : 1 ≤ v.toNat / 2 ^ 52) (h2 : v.toNat / 2 ^ 52 ≤ 2046) : (0 ≤ Op.cmpValue (FP.dcmp v FP.dconst1) .g) ↔ 1023 ≤ v.toNat / 2 ^ 52 := by
  have n1 : FP.Core.val64 v ≠ .nan := by rw [norm_split h1 h2]; exact FP.Core.Datum.noConfusion
  have n2 : FP.Core.val64 FP.dconst1 ≠ .nan := by rw [one_val]; exact FP.Core.Datum.noConfusion
  have hk : FP.Core.dkey v = (v.toNat : Int) := by
    unfold FP.Core.dkey
    rw [if_neg (by omega)]
  have hk1 : FP.Core.dkey FP.dconst1 = ((1023 * 2 ^ 52 : Nat) : Int) := by decide
  have hc : FP.dcmp v FP.dconst1 = some (compare (FP.Core.dkey v) (FP.Core.dkey FP.dconst1)) := FP.Core.dcmp_key n1 n2
  rw [hc, hk, hk1, FP.Core.compare_ite]
  split
  · constructor
    · intro q
      exact absurd q (by decide)
    · intro q
      omega
  · split
    · exact ⟨fun _ => by omega, fun _ => by decide⟩
    · exact ⟨fun _ => by omega, fun _ => by decide⟩
theorem SB_v {p v : UInt64} {e : Int64} {n : Nat} (h : SB p v e n) : 1 ≤ v.toNat / 2 ^ 52 ∧ v.toNat / 2 ^ 52 ≤ 1023 := by
  obtain ⟨k, h1, h2, h3, h4, h5⟩ := h
  omega
theorem SB_first {p : UInt64} (h : shN p) (c : 0 < (Op.cmpValue (FP.dcmp p FP.dconst0) .g)) : SB p p 1023 1024 := by
  rcases h with rfl | ⟨h1, h2, h3⟩
  · exact absurd c (by decide +kernel)
  · exact ⟨0, by omega, h1, by omega, rfl, by omega⟩
theorem SB_mul {p v : UInt64} {e : Int64} {n : Nat} (h : SB p v e n) : vf_n64 (FP.dmul v 4611686018427387904) := by
  obtain ⟨h1, h2⟩ := SB_v h
  refine n64_of ?_
  rw [dbl_val h1 h2]
  exact FP.Core.Datum.noConfusion
theorem SB_step {p v : UInt64} {e : Int64} {n : Nat} (h : SB p v e (n + 1)) (c1 : ¬ 0 ≤ (Op.cmpValue (FP.dcmp v FP.dconst1) .g)) (c2 : ¬ (lcmpV e 1) ≤ 0) : SB p (FP.dmul v 4611686018427387904) (e - 1) n := by
  obtain ⟨q1, q2⟩ := SB_v h
  have c3 : ¬ 1023 ≤ v.toNat / 2 ^ 52 := fun q => c1 ((cmp_one q1 (by omega)).mpr q)
  obtain ⟨k, h1, h2, h3, h4, h5⟩ := h
  refine ⟨k + 1, ?_, h2, by omega, ?_, by omega⟩
  · rw [dbl_bits q1 q2]
    omega
  · rw [h4]
    have hk : k + 1 ≤ 1023 := by omega
    apply Int64.toInt_inj.mp
    rw [Int64.toInt_sub, Int64.toInt_ofNat_of_lt (by omega), Int64.toInt_ofNat_of_lt (by omega)]
    have : (1 : Int64).toInt = 1 := by decide
    rw [this]
    rw [Int.bmod_eq_of_le (by omega) (by omega)]
    omega
theorem SB_e1 {p v : UInt64} {e : Int64} {n : Nat} (h : SB p v e n) (c1 : 0 ≤ (Op.cmpValue (FP.dcmp v FP.dconst1) .g)) : 1023 ≤ v.toNat / 2 ^ 52 ∧ v.toNat / 2 ^ 52 ≤ 1023 := by
  obtain ⟨q1, q2⟩ := SB_v h
  exact ⟨(cmp_one q1 (by omega)).mp c1, q2⟩
theorem SB_e2 {p v : UInt64} {e : Int64} {n : Nat} (h : SB p v e n) (c1 : ¬ 0 ≤ (Op.cmpValue (FP.dcmp v FP.dconst1) .g)) (c2 : (lcmpV e 1) ≤ 0) : 1023 ≤ v.toNat / 2 ^ 52 ∧ v.toNat / 2 ^ 52 ≤ 1023 := by
  obtain ⟨q1, q2⟩ := SB_v h
  have c3 : ¬ 1023 ≤ v.toNat / 2 ^ 52 := fun q => c1 ((cmp_one q1 (by omega)).mpr q)
  exfalso
  obtain ⟨k, h1, h2, h3, h4, h5⟩ := h
  have h6 : e.toInt = 1023 - (k : Int) := by
    rw [h4, Int64.toInt_ofNat_of_lt (by omega)]
    omega
  have h7 : ¬ (1 : Int64) < e := by
    intro q
    unfold lcmpV at c2
    rw [if_pos q] at c2
    exact absurd c2 (by decide)
  rw [Int64.lt_iff_toInt_lt, h6] at h7
  have : (1 : Int64).toInt = 1 := by decide
  omega
/-- 1.T less 1 -/
theorem sub_val {v : UInt64} (h : 1023 ≤ v.toNat / 2 ^ 52 ∧ v.toNat / 2 ^ 52 ≤ 1023) : ∃ s c q, FP.Core.val64 (FP.dsub v FP.dconst1) = .fin s c q ∧ FP.Core.inUnits c q (-1074) = FP.Core.inUnits (v.toNat % 2 ^ 52) (-52) (-1074) ∧ s = false := by
  have hm := Nat.mod_lt v.toNat (show 2 ^ 52 > 0 by decide)
  have e : FP.Core.val64 (FP.dsub v FP.dconst1) = FP.Core.round FP.Core.b64 (FP.Core.exactSum (FP.Core.val64 v) (FP.Core.negate (FP.Core.val64 FP.dconst1))) := FP.Core.val64_dsub _ _
  rw [norm_split (v := v) (by omega) (by omega), one_val] at e
  have hE : v.toNat / 2 ^ 52 = 1023 := by omega
  rw [hE] at e
  generalize v.toNat % 2 ^ 52 = T at hm e
  have e2 : FP.Core.exactSum (.fin false (2 ^ 52 + T) (((1023 : Nat) : Int) - 1075)) (FP.Core.negate (.fin false (2 ^ 52) (-52))) = .fin false T (-52) := by
    have e3 : FP.Core.sumUnits false (2 ^ 52 + T) (((1023 : Nat) : Int) - 1075) (!false) (2 ^ 52) (-52) (min (((1023 : Nat) : Int) - 1075) (-52)) = (T : Int) := by
      have : (((1023 : Nat) : Int) - 1075) = -52 := by decide
      rw [this]
      simp only [FP.Core.sumUnits, FP.Core.signed, FP.Core.inUnits, Int.min_self, Int.sub_self, Int.toNat_zero, Nat.pow_zero, Nat.mul_one]
      simp
      omega
    show FP.Core.Datum.fin (FP.Core.sumSign false (!false) (FP.Core.sumUnits false (2 ^ 52 + T) (((1023 : Nat) : Int) - 1075) (!false) (2 ^ 52) (-52) (min (((1023 : Nat) : Int) - 1075) (-52)))) (FP.Core.sumUnits false (2 ^ 52 + T) (((1023 : Nat) : Int) - 1075) (!false) (2 ^ 52) (-52) (min (((1023 : Nat) : Int) - 1075) (-52))).natAbs (min (((1023 : Nat) : Int) - 1075) (-52)) = _
    rw [e3]
    have e4 : FP.Core.sumSign false (!false) (T : Int) = false := by
      unfold FP.Core.sumSign
      split
      · rfl
      · exact decide_eq_false (by omega)
    rw [e4]
    rfl
  rw [e2] at e
  obtain ⟨c, q, h1, h2⟩ := FP.Core.round_exact FP.Core.good_b64 false (c := T) (q := -52) (by show T < 2 ^ 53; omega) (by decide) (by decide)
  exact ⟨false, c, q, by rw [e, h1], h2, rfl⟩
theorem SB_sub {v : UInt64} (h : 1023 ≤ v.toNat / 2 ^ 52 ∧ v.toNat / 2 ^ 52 ≤ 1023) : vf_n64 (FP.dsub v FP.dconst1) := by
  obtain ⟨s, c, q, h1, -⟩ := sub_val h
  refine n64_of ?_
  rw [h1]
  exact FP.Core.Datum.noConfusion
theorem SB_mul2 {v : UInt64} (h : 1023 ≤ v.toNat / 2 ^ 52 ∧ v.toNat / 2 ^ 52 ≤ 1023) : vf_n64 (FP.dmul (FP.dsub v FP.dconst1) 4841369599423283200) := by
  obtain ⟨s, c, q, h1, -⟩ := sub_val h
  exact n64_nn (FP.Core.dmul_out ⟨s, c, q, h1⟩ ⟨_, _, _, big_val⟩)
end FPB
