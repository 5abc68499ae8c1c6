section OPLEAVE
variable {S T : vS} {F H : vF} {G : vG} {p1 p2 p3 x y z : Int32} {k n i q : Nat}
theorem leave_def (hk : k < 8) (hm : x_X5_isMember T (nI k) = 1) : x_X5_leave T (nI k) = if 0 < T 1 (13 + 14 * k + 4) ∨ 0 < w_debts (T 1) (nI k) ∨ ¬ w_fromOthers (T 1) (nI k) ≤ 0 ∨ ¬ T 1 (13 + 14 * k + 12) ≤ T 1 8 then x_X5_fails (st T 0 6 0) 2 else x_X5_leave_L109 15 (st (x_X5_saves (st T 0 6 0)) 1 8 ((x_X5_saves (st T 0 6 0)) 1 8 - T 1 (13 + 14 * k + 12))) (nI k) 0 (T 1 (13 + 14 * k + 12)) := by
  have r1 : st T 0 6 0 1 = T 1 := st_row (by decide)
  have f4 : x_X5_of (st T 0 6 0) 1 (nI k) 4 = T 1 (13 + 14 * k + 4) := by
    have := f_of (st T 0 6 0) (.inl rfl) (st T 0 6 0 1, st T 0 6 0 6, st T 0 6 0 0 13) (nI k) 4
    rw [emm_self] at this
    rw [this, nof_4 hk, r1]
  have f12 : x_X5_of (st T 0 6 0) 1 (nI k) 12 = T 1 (13 + 14 * k + 12) := by
    have := f_of (st T 0 6 0) (.inl rfl) (st T 0 6 0 1, st T 0 6 0 6, st T 0 6 0 0 13) (nI k) 12
    rw [emm_self] at this
    rw [this, nof_12 hk, r1]
  have fo : x_X5_fromOthers (st T 0 6 0) 1 (nI k) = w_fromOthers (T 1) (nI k) := by
    have := f_fromOthers (st T 0 6 0) (.inl rfl) (st T 0 6 0 1, st T 0 6 0 6, st T 0 6 0 0 13) (nI k)
    rw [emm_self] at this
    rw [this, r1]
  unfold x_X5_leave
  simp only [nm_eq]
  rw [isMs, hm, if_neg (show ¬ (1 : Int32) = 0 by decide), f4, f12, fo, xdebts, r1]
  by_cases c1 : 0 < T 1 (13 + 14 * k + 4)
  · rw [if_pos c1, if_pos (Or.inl c1), nmp_eq]
  rw [if_neg c1]
  by_cases c2 : 0 < w_debts (T 1) (nI k)
  · rw [if_pos c2, if_pos (Or.inr (Or.inl c2)), nmp_eq]
  rw [if_neg c2]
  by_cases c3 : w_fromOthers (T 1) (nI k) ≤ 0
  · rw [if_pos c3]
    by_cases c4 : T 1 (13 + 14 * k + 12) ≤ T 1 8
    · rw [if_pos c4, if_neg (fun z => z.elim c1 fun z => z.elim c2 fun z => z.elim (fun z => z c3) (fun z => z c4))]
    · rw [if_neg c4, if_pos (Or.inr (Or.inr (Or.inr c4))), nmp_eq]
  · rw [if_neg c3, if_pos (Or.inr (Or.inr (Or.inl c3))), nmp_eq]
theorem op_leave (h : RR S T) (p1 : Int32) : CE (fun c => if c = 0 then 0 else if c = 2 then 1 else 2) (x_X4_leave S p1) (x_X5_leave T p1) := by
  rcases memb h p1 with ⟨k, hk, rfl, hh, e1, e2⟩ | ⟨e1, e2⟩
  · rw [leave_def hk e2]
    unfold x_X4_leave tbp
    rw [e1, if_pos rfl]
    have hW : (999 : Int) ≤ 1000 := by decide
    have mg : x_X0_mayGo S 0 k = v_X0_mayGo (cv S 0) k := by
      have := e_X0_mayGo S 0 (cv S 0) k hk
      rw [emb_cv] at this
      exact this
    have mi := mayGo_eq h.2.2.1 hW h.2.1 hk hh
    show CE _ (nm (x_X0_mayGo S 0 k) _) _
    rw [nm_eq, mg]
    by_cases c : 0 < T 1 (13 + 14 * k + 4) ∨ 0 < w_debts (T 1) (nI k) ∨ ¬ w_fromOthers (T 1) (nI k) ≤ 0 ∨ ¬ T 1 (13 + 14 * k + 12) ≤ T 1 8
    · rw [if_pos (mi.mpr c), if_pos c]
      exact CE.fail h (by decide) rfl
    · rw [if_neg (fun q => c (mi.mp q)), if_neg c]
      obtain ⟨S2, T2, q1, q2, k1, k2, k6, hS, hT⟩ := after_keep (y := 0) h
      rw [q1, q2, nm_eq, nmp_eq]
      have c4 : ¬ 0 < T2 1 (13 + 14 * k + 4) := fun z => c (Or.inl (by rw [← k2]; exact z))
      have cd : w_debts (T2 1) (nI k) = 0 := by
        have := debts_nn k1.2.2.1 hW hk
        rw [k2] at this ⊢
        exact Decidable.byContradiction fun z => c (Or.inr (Or.inl (this.mpr z)))
      have cf : T2 1 (13 + 14 * k + 12) ≤ T2 1 8 := Decidable.byContradiction fun z => c (Or.inr (Or.inr (Or.inr (by rw [← k2]; exact z))))
      have hh2 : T2 1 (13 + 14 * k + 0) = 1 := by rw [k2]; exact hh
      have hz := goes_zero k1.2.2.1 hW hk c4 cd
      obtain ⟨H', v1, v2⟩ := leave_v k1.2.2.1 (Int.le_refl 999) k1.2.1 hk hh2 hz
      have s1 : x_X0_dismiss S2 0 k = (T2 1 (13 + 14 * k + 12), emb S2 0 H') := by
        have := e_X0_dismiss S2 0 (cv S2 0) k hk
        rw [emb_cv, v1] at this
        exact this
      have s2 : x_X5_leave_L109 15 (st T2 1 8 (T2 1 8 - T 1 (13 + 14 * k + 12))) (nI k) 0 (T 1 (13 + 14 * k + 12)) = (T2 1 (13 + 14 * k + 12), emm T2 1 (fLeave (T2 1) k, T2 6, T2 0 13)) := by
        have e8 : st T2 1 8 (T2 1 8 - T2 1 (13 + 14 * k + 12)) = emm T2 1 (upq (T2 1, T2 6, T2 0 13) 8 (T2 1 8 - T2 1 (13 + 14 * k + 12))) := by
          have := es_q (T := T2) (q := 1) (G := (T2 1, T2 6, T2 0 13)) (i := 8) (x := T2 1 8 - T2 1 (13 + 14 * k + 12))
          rw [emm_self] at this
          exact this
        rw [← k2, e8, f_leave_L109, leave_w hk rfl]
        rfl
      rw [s1, s2]
      exact CE.rows k1 k6 v2 (leave_ir k1.2.2.1 (Int.le_refl 999) hk hh2 hz cf) rfl
  · unfold x_X4_leave x_X5_leave tbp
    simp only [nm_eq]
    rw [isMs, e1, e2, if_pos rfl, if_neg (by decide), nmp_eq]
    exact CE.fail h (by decide) rfl
end OPLEAVE
