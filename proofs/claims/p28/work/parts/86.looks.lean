section OPLOOKS
variable {S T : vS} {F H : vF} {G : vG} {p1 p2 p3 x y : Int32} {k n i q : Nat}
theorem RR.thn (h : RR S T) : RR S (emm T 2 G) := h.cg (by funext j; exact em_out (by decide) (by decide) (by omega)) (by funext j; exact em_out (by decide) (by decide) (by omega)) (by funext j; exact em_out (by decide) (by decide) (by omega)) (em_out (by decide) (by decide) (by omega)) (em_out (by decide) (by decide) (by omega))
theorem CE.pure {mp : Nat → Int32} (h : RR S T) (h0 : mp 0 = 0) {r r' : Int32} (e : r = r') : CE mp ((0, r), S) (r', st T 0 6 0) := by
  refine ⟨h.thrown, ?_, fun _ => e⟩
  show st T 0 6 0 0 6 = mp 0
  rw [st06, h0]
theorem mp01 : (fun c : Nat => if c = 0 then (0 : Int32) else 1) 0 = 0 := rfl
theorem op_fundLasts (h : RR S T) (p1 : Int32) : CE (fun c => if c = 0 then 0 else 1) (x_X4_fundLasts S p1, S) (x_X5_fundLasts T p1) := by
  have em : x_X5_isMember (st T 0 6 0) p1 = x_X5_isMember T p1 := by rw [isM, isM, st_row (by decide)]
  unfold x_X4_fundLasts x_X5_fundLasts tbq
  simp only [nm_eq]
  rw [em]
  rcases memb h p1 with ⟨k, hk, rfl, hh, e1, e2⟩ | ⟨e1, e2⟩
  · rw [e1, e2, if_pos rfl, if_neg (show ¬ (1 : Int32) = 0 by decide)]
    have hT : st T 0 6 0 = emm (st T 0 6 0) 2 (st T 0 6 0 2, st T 0 6 0 6, st T 0 6 0 0 13) := (emm_self _ 2).symm
    obtain ⟨G', e⟩ := lasts_thm (T := st T 0 6 0) (G := (st T 0 6 0 2, st T 0 6 0 6, st T 0 6 0 0 13)) h.2.2.1 (Int.le_refl 999) h.2.1 hk hh (st_row (by decide))
    rw [← hT] at e
    have ec : x_X0_weeksOfFund S 0 k = v_X0_weeksOfFund (cv S 0) k := by
      have := e_X0_weeksOfFund S 0 (cv S 0) k hk
      rw [emb_cv] at this
      exact this
    rw [e, ec, nmp_eq]
    refine ⟨(h.thrown).thn, ?_, fun _ => rfl⟩
    show emm (st T 0 6 0) 2 G' 0 6 = 0
    rw [em_out (by decide) (by decide) (by omega)]; exact st06
  · rw [e1, e2, if_neg (show ¬ ((2 : Nat), (0 : Nat)).1 = 0 by decide), if_pos rfl, nmp_eq]
    exact CE.fail h (by decide) rfl
theorem op_ifCycle (h : RR S T) (p1 : Int32) : CE (fun c => if c = 0 then 0 else 1) (x_X4_ifCycle S p1, S) (x_X5_ifCycle T p1) := by
  have em : x_X5_isMember (st T 0 6 0) p1 = x_X5_isMember T p1 := by rw [isM, isM, st_row (by decide)]
  unfold x_X4_ifCycle x_X5_ifCycle tbq
  simp only [nm_eq]
  rw [em]
  rcases memb h p1 with ⟨k, hk, rfl, hh, e1, e2⟩ | ⟨e1, e2⟩
  · rw [e1, e2, if_pos rfl, if_neg (show ¬ (1 : Int32) = 0 by decide)]
    have ec : x_X2_nextLimit S 0 k = v_X2_nextLimit (cv S 0) k := by
      have := e_X2_nextLimit S 0 (cv S 0) k hk
      rw [emb_cv] at this
      exact this
    have el : x_X5_limitThen (st T 0 6 0) (nI k) = w_limitThen (T 1) (nI k) := by
      have := f_limitThen (st T 0 6 0) (st T 0 6 0 1, st T 0 6 0 6, st T 0 6 0 0 13) (nI k)
      rw [emm_self] at this
      rw [this]
      show w_limitThen (st T 0 6 0 1) _ = _
      rw [st_row (by decide)]
    rw [ec, el]
    exact CE.pure h mp01 (limit_rg h.2.1 hk hh)
  · rw [e1, e2, if_neg (show ¬ ((2 : Nat), (0 : Nat)).1 = 0 by decide), if_pos rfl, nmp_eq]
    exact CE.fail h (by decide) rfl
end OPLOOKS
