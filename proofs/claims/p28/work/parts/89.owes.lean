section OPOWES
variable {S T : vS} {F H : vF} {G : vG} {p1 p2 p3 x y : Int32} {k n i q : Nat}
theorem isMs (T : vS) (p1 : Int32) : x_X5_isMember (st T 0 6 0) p1 = x_X5_isMember T p1 := by rw [isM, isM, st_row (by decide)]
theorem op_member (h : RR S T) (p1 p2 : Int32) : CE mp3 (x_X4_member S p1 p2, S) (x_X5_member T p1 p2) := by
  have ne1 : ¬ (1 : Int32) = 0 := by decide
  unfold x_X4_member x_X5_member tbq
  simp only [nm_eq]
  rw [isMs]
  rcases memb h p1 with ⟨k, hk, rfl, hh, e1, e2⟩ | ⟨e1, e2⟩
  · rw [e1, e2, if_pos rfl, if_neg ne1]
    rcases rng14 p2 with ⟨q, hq, rfl, n0, n4, n3⟩ | hno
    · rw [if_neg n0, if_pos n4, xin_yes n0 n3, if_neg ne1]
      refine CE.pure h rfl ?_
      have el : x_X5_ofMember (st T 0 6 0) (nI k) (nI q) = w_ofMember (T 1) (nI k) (nI q) := by
        have := f_ofMember (st T 0 6 0) (st T 0 6 0 1, st T 0 6 0 6, st T 0 6 0 0 13) (nI k) (nI q)
        rw [emm_self] at this
        rw [this]
        show w_ofMember (st T 0 6 0 1) _ _ = _
        rw [st_row (q := 0) (c := 1) (by decide)]
      have ea : x_X0_owedTo S 0 k = v_X0_owedTo (cv S 0) k := by
        have := e_X0_owedTo S 0 (cv S 0) k hk
        rw [emb_cv] at this
        exact this
      have eb : x_X2_property S 0 k (nI q) = v_X2_property (cv S 0) k (nI q) := by
        have := e_X2_property S 0 (cv S 0) k (nI q) hk
        rw [emb_cv] at this
        exact this
      rw [el, ← property_eq h.2.2.1 h.2.1 hk hh hq]
      unfold x_X4_propertyOf
      rw [nm_eq, nm_eq, ea, eb]
    · rcases hno with c | ⟨c, c2, c3⟩
      · rw [if_pos c, xin_no (Or.inl c), if_pos rfl, nmp_eq]
        exact CE.fail h (by decide) rfl
      · rw [if_neg c, if_neg c2, xin_no (Or.inr c3), if_pos rfl, nmp_eq]
        exact CE.fail h (by decide) rfl
  · rw [e1, e2, if_neg (show ¬ ((2 : Nat), (0 : Nat)).1 = 0 by decide), if_pos rfl, nmp_eq]
    exact CE.fail h (by decide) rfl
theorem op_owes (h : RR S T) (p1 p2 : Int32) : CE (fun c => if c = 0 then 0 else 1) (x_X4_owes S p1 p2, S) (x_X5_owes T p1 p2) := by
  have ne1 : ¬ (1 : Int32) = 0 := by decide
  unfold x_X4_owes x_X5_owes tbq
  simp only [nm_eq]
  rw [isMs, isMs]
  rcases memb h p1 with ⟨k, hk, rfl, hh, e1, e2⟩ | ⟨e1, e2⟩
  · rw [e1, e2, if_pos rfl, if_neg ne1]
    rcases memb h p2 with ⟨m, hm, rfl, hh2, g1, g2⟩ | ⟨g1, g2⟩
    · rw [g1, g2, if_pos rfl, if_neg ne1]
      refine CE.pure h mp01 ?_
      have e3 : S (gD 0 k) m = cv S 0 (125 + 8 * k + m) := by
        conv => lhs; rw [← emb_cv S 0]
        exact ebD hk hm
      unfold x_X5_debt
      rw [e3, nI_clamp (by omega), nI_clamp (by omega), st_row (by decide)]
      exact h.2.1.d hk hm
    · rw [g1, g2, if_neg (show ¬ ((2 : Nat), (0 : Nat)).1 = 0 by decide), if_pos rfl, nmp_eq]
      exact CE.fail h (by decide) rfl
  · rw [e1, e2, if_neg (show ¬ ((2 : Nat), (0 : Nat)).1 = 0 by decide), if_pos rfl, nmp_eq]
    exact CE.fail h (by decide) rfl
end OPOWES
