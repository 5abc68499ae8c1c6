section OPSEE
variable {S T : vS} {F H : vF} {G : vG} {p1 p2 p3 x y : Int32} {k n i q : Nat}
theorem rng16 (p1 : Int32) : (∃ q, q < 16 ∧ p1 = nI q ∧ ¬ p1 < 0 ∧ p1 < 16 ∧ ¬ 15 < p1) ∨ (p1 < 0 ∨ (¬ p1 < 0 ∧ ¬ p1 < 16 ∧ 15 < p1)) := by
  by_cases c : p1 < 0
  · exact Or.inr (Or.inl c)
  · obtain ⟨q, hq, e⟩ := nI_of c
    by_cases c2 : q < 16
    · have a : nI q < (16 : Int32) := nI_lt (b := 16) c2 (by decide)
      have b : ¬ (15 : Int32) < nI q := nI_nlt (a := 15) (b := q) (by omega) (by decide)
      exact Or.inl ⟨q, c2, e, c, by rw [e]; exact a, by rw [e]; exact b⟩
    · have a : ¬ nI q < (16 : Int32) := nI_nlt (a := q) (b := 16) (by omega) hq
      have b : (15 : Int32) < nI q := nI_lt (a := 15) (by omega) hq
      exact Or.inr (Or.inr ⟨c, by rw [e]; exact a, by rw [e]; exact b⟩)
theorem rng14 (p1 : Int32) : (∃ q, q < 14 ∧ p1 = nI q ∧ ¬ p1 < 0 ∧ p1 < 14 ∧ ¬ 13 < p1) ∨ (p1 < 0 ∨ (¬ p1 < 0 ∧ ¬ p1 < 14 ∧ 13 < p1)) := by
  by_cases c : p1 < 0
  · exact Or.inr (Or.inl c)
  · obtain ⟨q, hq, e⟩ := nI_of c
    by_cases c2 : q < 14
    · have a : nI q < (14 : Int32) := nI_lt (b := 14) c2 (by decide)
      have b : ¬ (13 : Int32) < nI q := nI_nlt (a := 13) (b := q) (by omega) (by decide)
      exact Or.inl ⟨q, c2, e, c, by rw [e]; exact a, by rw [e]; exact b⟩
    · have a : ¬ nI q < (14 : Int32) := nI_nlt (a := q) (b := 14) (by omega) hq
      have b : (13 : Int32) < nI q := nI_lt (a := 13) (by omega) hq
      exact Or.inr (Or.inr ⟨c, by rw [e]; exact a, by rw [e]; exact b⟩)
theorem op_count (h : RR S T) (p1 : Int32) : CE (fun c => if c = 0 then 0 else 1) (x_X4_count S p1, S) (x_X5_count T p1) := by
  have ne1 : ¬ (1 : Int32) = 0 := by decide
  unfold x_X4_count x_X5_count
  simp only [nm_eq]
  rcases rng16 p1 with ⟨q, hq, rfl, n0, n4, n3⟩ | hno
  · rw [if_neg n0, if_pos n4, xin_yes n0 n3, if_neg ne1]
    refine CE.pure h mp01 ?_
    have el : x_X5_counted (st T 0 6 0) (nI q) = w_counted (T 0 3) (T 1) (nI q) := by
      have := f_counted (T := st T 0 6 0) (G := (st T 0 6 0 1, st T 0 6 0 6, st T 0 6 0 0 13)) (nI q)
      rw [emm_self] at this
      rw [this]
      show w_counted (st T 0 6 0 0 3) (st T 0 6 0 1) _ = _
      rw [show st T 0 6 0 0 3 = T 0 3 by rw [st_at, if_neg (by omega)], st_row (q := 0) (c := 1) (by decide)]
    rw [el]
    unfold x_X4_numberOf
    by_cases c : q = 15
    · subst c
      rw [if_pos (show nI 15 = 15 from rfl), counted_15]
      obtain ⟨o, s, a, b, c, d, f, g⟩ := h.1
      rw [d, f]
    · have nn : ∀ q : Nat, q < 15 → ¬ nI q = 15 := by decide
      rw [if_neg (nn q (by omega)), nm_eq]
      have ec : x_X0_figure S 0 (nI q) = v_X0_figure (cv S 0) (nI q) := by
        have := e_X0_figure S 0 (cv S 0) (nI q)
        rw [emb_cv] at this
        exact this
      rw [ec]
      exact figure_eq h.2.2.1 h.2.1 (by omega)
  · rcases hno with c | ⟨c, c2, c3⟩
    · rw [if_pos c, xin_no (Or.inl c), if_pos rfl, nmp_eq]
      exact CE.fail h (by decide) rfl
    · rw [if_neg c, if_neg c2, xin_no (Or.inr c3), if_pos rfl, nmp_eq]
      exact CE.fail h (by decide) rfl
end OPSEE
