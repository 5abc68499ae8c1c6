section FPB
def lcmpV (x y : Int64) : Int32 := if y < x then 1 else if x = y then 0 else -1
section LC
variable {p : Program} {l : Launch} {e : Env} {R : Room} {s : State} {m : MethodId} {args : Array Value} {below : List Frame} {meth : Method} {c : Code} {H : Heap} {locs : List Loc} {cells slots : Nat} {Q : State → Prop}
variable {cc : ByteArray} {pc : Nat} {ls : Array Slot} {rest : List Value}
theorem lv_lcmp (hexec : p.tables.exec = Jvm.exec) (hb : c.code = cc) {x y : Int64} (hdg : decode cc pc = .ok (.lcmp, 1))
    (k : W p l e R s m args below meth c H locs cells slots Q (F0 m (pc + 1) ls (.int (lcmpV x y) :: rest))) : W p l e R s m args below meth c H locs cells slots Q (F0 m pc ls (.long y :: .long x :: rest)) := by
  intro T hT X
  obtain ⟨t, a, b⟩ := k T hT X
  refine ⟨t, ?_, b⟩
  unfold lcmpV at a
  by_cases h1 : y < x
  · rw [if_pos h1] at a
    jvm_step X.here [X.here.top, hexec, hb, hdg, h1]
    exact a
  · by_cases h2 : x = y
    · rw [if_neg h1, if_pos h2] at a
      jvm_step X.here [X.here.top, hexec, hb, hdg, h1, h2]
      exact a
    · rw [if_neg h1, if_neg h2] at a
      jvm_step X.here [X.here.top, hexec, hb, hdg, h1, h2]
      exact a
end LC
/-- a share: 0, or a normal double up to 1 -/
def shN (p : UInt64) : Prop := p = 0 ∨ (1 ≤ p.toNat / 2 ^ 52 ∧ p.toNat / 2 ^ 52 ≤ 1023 ∧ (p.toNat / 2 ^ 52 = 1023 → p.toNat % 2 ^ 52 = 0))
def SB (p v : UInt64) (e : Int64) (n : Nat) : Prop := ∃ k : Nat, v.toNat = p.toNat + k * 2 ^ 52 ∧ 1 ≤ p.toNat / 2 ^ 52 ∧ p.toNat / 2 ^ 52 + k ≤ 1023 ∧ e = Int64.ofNat (1023 - k) ∧ 1023 < p.toNat / 2 ^ 52 + k + n
theorem SB_zero {p v : UInt64} {e : Int64} (h : SB p v e 0) : False := by
  obtain ⟨k, h1, h2, h3, h4, h5⟩ := h
  omega
theorem SB_first {p : UInt64} (h : shN p) (c : 0 < (Op.cmpValue (FP.dcmp p FP.dconst0) .g)) : SB p p 1023 1024 := sorry
theorem SB_mul {p v : UInt64} {e : Int64} {n : Nat} (h : SB p v e n) : vf_n64 (FP.dmul v 4611686018427387904) := sorry
theorem SB_step {p v : UInt64} {e : Int64} {n : Nat} (h : SB p v e (n + 1)) (c1 : ¬ 0 ≤ (Op.cmpValue (FP.dcmp v FP.dconst1) .g)) (c2 : ¬ (lcmpV e 1) ≤ 0) : SB p (FP.dmul v 4611686018427387904) (e - 1) n := sorry
theorem SB_e1 {p v : UInt64} {e : Int64} {n : Nat} (h : SB p v e n) (c1 : 0 ≤ (Op.cmpValue (FP.dcmp v FP.dconst1) .g)) : 1023 ≤ v.toNat / 2 ^ 52 ∧ v.toNat / 2 ^ 52 ≤ 1023 := sorry
theorem SB_e2 {p v : UInt64} {e : Int64} {n : Nat} (h : SB p v e n) (c1 : ¬ 0 ≤ (Op.cmpValue (FP.dcmp v FP.dconst1) .g)) (c2 : (lcmpV e 1) ≤ 0) : 1023 ≤ v.toNat / 2 ^ 52 ∧ v.toNat / 2 ^ 52 ≤ 1023 := sorry
theorem SB_sub {v : UInt64} (h : 1023 ≤ v.toNat / 2 ^ 52 ∧ v.toNat / 2 ^ 52 ≤ 1023) : vf_n64 (FP.dsub v FP.dconst1) := sorry
theorem SB_mul2 {v : UInt64} (h : 1023 ≤ v.toNat / 2 ^ 52 ∧ v.toNat / 2 ^ 52 ≤ 1023) : vf_n64 (FP.dmul (FP.dsub v FP.dconst1) 4841369599423283200) := sorry
end FPB
