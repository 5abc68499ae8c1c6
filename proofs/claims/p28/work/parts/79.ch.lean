section CHS
def CH (T : vS) (len : Nat) : Prop := ∀ i, i < len → 33 ≤ (T 4 i).toInt ∧ (T 4 i).toInt ≤ 126
theorem ne10 : ¬ (1 : Int32) = 0 := by decide
end CHS
