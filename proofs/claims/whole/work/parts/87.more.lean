section OPMORE
variable {S T : vS} {F H : vF} {G : vG} {p1 p2 p3 x y : Int32} {k n i q : Nat}
theorem op_weakest (h : RR S T) : CE (fun c => if c = 0 then 0 else 1) ((0, x_X4_weakest S), S) (x_X5_weakest T) := by
  unfold x_X4_weakest x_X5_weakest
  simp only [nm_eq]
  have hT : st T 0 6 0 = emm (st T 0 6 0) 2 (st T 0 6 0 2, st T 0 6 0 6, st T 0 6 0 0 13) := (emm_self _ 2).symm
  obtain ⟨G', e⟩ := weak_thm (T := st T 0 6 0) (G := (st T 0 6 0 2, st T 0 6 0 6, st T 0 6 0 0 13)) h.2.2.1 (Int.le_refl 999) h.2.1 (st_row (by decide))
  rw [← hT] at e
  have ec : x_X0_weakestNumber S 0 = v_X0_weakestNumber (cv S 0) := by
    have := e_X0_weakestNumber S 0 (cv S 0)
    rw [emb_cv] at this
    exact this
  rw [e, ec, nmp_eq]
  refine ⟨(h.thrown).thn, ?_, fun _ => rfl⟩
  show emm (st T 0 6 0) 2 G' 0 6 = 0
  rw [em_out (by decide) (by decide) (by omega)]; exact st06
theorem op_weeksToGo (h : RR S T) : CE (fun c => if c = 0 then 0 else 1) ((0, x_X4_weeksToGo S), S) (x_X5_weeksToGo T) := by
  unfold x_X4_weeksToGo x_X5_weeksToGo
  simp only [nm_eq]
  have ec : x_X0_mostLoanWeeks S 0 = v_X0_mostLoanWeeks (cv S 0) := by
    have := e_X0_mostLoanWeeks S 0 (cv S 0)
    rw [emb_cv] at this
    exact this
  have el : x_X5_longest (st T 0 6 0) = w_longest (T 1) := by
    have := f_longest (st T 0 6 0) (st T 0 6 0 1, st T 0 6 0 6, st T 0 6 0 0 13)
    rw [emm_self] at this
    rw [this]
    show w_longest (st T 0 6 0 1) = _
    rw [st_row (by decide)]
  rw [ec, el]
  exact CE.pure h mp01 (mostWeeks_eq h.2.1)
theorem op_paidShare (h : RR S T) : (x_X5_paidShare T).1 = x_X4_paidShare S ∧ (x_X5_paidShare T).2 = st T 0 6 0 ∧ RR S (x_X5_paidShare T).2 := by
  unfold x_X4_paidShare x_X5_paidShare
  simp only [nm_eq]
  have ec : x_X0_shareOfPaid S 0 = v_X0_shareOfPaid (cv S 0) := by
    have := e_X0_shareOfPaid S 0 (cv S 0)
    rw [emb_cv] at this
    exact this
  have el : x_X5_share (st T 0 6 0) = w_share (T 1) := by
    have := f_share (st T 0 6 0) (st T 0 6 0 1, st T 0 6 0 6, st T 0 6 0 0 13)
    rw [emm_self] at this
    rw [this]
    show w_share (st T 0 6 0 1) = _
    rw [st_row (by decide)]
  rw [ec, el, share_eq h.2.2.1 (by decide) h.2.1]
  exact ⟨rfl, trivial, h.thrown⟩
end OPMORE
