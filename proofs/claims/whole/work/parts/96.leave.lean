section OPLEAVE
variable {S T : vS} {F H : vF} {G : vG} {p1 p2 p3 x y z : Int32} {k n i q : Nat}
theorem leave_def (hk : k < 8) (hm : x_X5_isMember T (nI k) = 1) : x_X5_leave T (nI k) = if 0 < T 1 (13 + 14 * k + 4) ∨ 0 < w_debts (T 1) (nI k) ∨ ¬ w_fromOthers (T 1) (nI k) ≤ 0 ∨ ¬ T 1 (13 + 14 * k + 12) ≤ T 1 8 then x_X5_fails (st T 0 6 0) 2 else x_X5_leave_L109 15 (st (x_X5_saves (st T 0 6 0)) 1 8 ((x_X5_saves (st T 0 6 0)) 1 8 - T 1 (13 + 14 * k + 12))) (nI k) 0 (T 1 (13 + 14 * k + 12)) := by
  have r1 : st T 0 6 0 1 = T 1 := st_row (by decide)
  have f4 : x_X5_of (st T 0 6 0) 1 (nI k) 4 = T 1 (13 + 14 * k + 4) := by
    have := f_of (st T 0 6 0) (.inl rfl) (st T 0 6 0 1, st T 0 6 0 6, st T 0 6 0 0 13) (nI k) 4
    rw [emm_self] at this
    rw [this, nof_4 hk, r1]
  have f12 : x_X5_of (st T 0 6 0) 1 (nI k) 12 = T 1 (13 + 14 * k + 12) := by
    have := f_of (st T 0 6 0) (.inl rfl) (st T 0 6 0 1, st T 0 6 0 6, st T 0 6 0 0 13) (nI k) 12
    rw [emm_self] at this
    rw [this, nof_12 hk, r1]
  have fo : x_X5_fromOthers (st T 0 6 0) 1 (nI k) = w_fromOthers (T 1) (nI k) := by
    have := f_fromOthers (st T 0 6 0) (.inl rfl) (st T 0 6 0 1, st T 0 6 0 6, st T 0 6 0 0 13) (nI k)
    rw [emm_self] at this
    rw [this, r1]
  unfold x_X5_leave
  simp only [nm_eq]
  rw [isMs, hm, if_neg (show ¬ (1 : Int32) = 0 by decide), f4, f12, fo, xdebts, r1]
  by_cases c1 : 0 < T 1 (13 + 14 * k + 4)
  · rw [if_pos c1, if_pos (Or.inl c1), nmp_eq]
  rw [if_neg c1]
  by_cases c2 : 0 < w_debts (T 1) (nI k)
  · rw [if_pos c2, if_pos (Or.inr (Or.inl c2)), nmp_eq]
  rw [if_neg c2]
  by_cases c3 : w_fromOthers (T 1) (nI k) ≤ 0
  · rw [if_pos c3]
    by_cases c4 : T 1 (13 + 14 * k + 12) ≤ T 1 8
    · rw [if_pos c4, if_neg (fun z => z.elim c1 fun z => z.elim c2 fun z => z.elim (fun z => z c3) (fun z => z c4))]
    · rw [if_neg c4, if_pos (Or.inr (Or.inr (Or.inr c4))), nmp_eq]
  · rw [if_neg c3, if_pos (Or.inr (Or.inr (Or.inl c3))), nmp_eq]
end OPLEAVE
