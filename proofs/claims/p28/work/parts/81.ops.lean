section OPSRR
variable {S T : vS} {F H : vF} {p1 p2 p3 x y : Int32} {k n i : Nat}
theorem CE.fail {mp : Nat → Int32} (h : RR S T) {c : Nat} (hc : c ≠ 0) {x : Int32} (hx : mp c = x) : CE mp ((c, 0), S) (x_X5_fails (st T 0 6 y) x) := by
  unfold x_X5_fails
  rw [nm_eq]
  refine ⟨(h.thrown).thrown, ?_, fun q => absurd (show c = 0 from q) hc⟩
  show st (st T 0 6 y) 0 6 x 0 6 = mp c
  rw [st_at, if_pos ⟨rfl, rfl⟩, hx]
/-- behind the saving, on rows -/
theorem after_keep (h : RR S T) : ∃ S2 T2, x_X1_keep S 0 = S2 ∧ x_X5_saves (st T 0 6 y) = T2 ∧ RR S2 T2 ∧ T2 1 = T 1 ∧ T2 0 6 = y ∧ S2 = emb S2 0 (cv S2 0) ∧ T2 = emm T2 1 (T2 1, T2 6, T2 0 13) := by
  obtain ⟨k1, k2, k3, _⟩ := (h.thrown (x := y)).keep
  refine ⟨_, _, rfl, rfl, ?_, ?_, ?_, (emb_cv _ 0).symm, (emm_self _ 1).symm⟩
  · have : x_X1_keep S 0 = x_X1_keep S 0 := rfl
    exact k1
  · rw [k2]; exact st_row (by decide)
  · rw [k3, st_at, if_pos ⟨rfl, rfl⟩]
theorem op_cycle (h : RR S T) : CE (fun c => if c = 0 then 0 else 1) (x_X4_cycle S) (x_X5_cycle T) := by
  have ec : x_X0_mayBeginCycle S 0 = w_mayCycle (T 1) := by
    have := e_X0_mayBeginCycle S 0 (cv S 0)
    rw [emb_cv] at this
    rw [this]
    exact mayCycle_eq h.2.2.1 h.2.1
  have em : x_X5_mayCycle (st T 0 6 0) = w_mayCycle (T 1) := by
    have := f_mayCycle (st T 0 6 0) (st T 0 6 0 1, st T 0 6 0 6, st T 0 6 0 0 13)
    rw [emm_self] at this
    rw [this]
    show w_mayCycle (st T 0 6 0 1) = _
    rw [st_row (by decide)]
  unfold x_X4_cycle x_X5_cycle
  simp only [nm_eq]
  rw [ec, em]
  by_cases c : w_mayCycle (T 1) = 0
  · rw [if_pos c, if_pos c, nmp_eq]
    exact CE.fail h (by decide) rfl
  · rw [if_neg c, if_neg c]
    obtain ⟨S2, T2, q1, q2, k1, k2, k6, hS, hT⟩ := after_keep (y := 0) h
    rw [q1, q2]
    obtain ⟨r, G', e, e1, hR', hI', _⟩ := cycle_thm k1.2.2.1 k1.2.1 (G := (T2 1, T2 6, T2 0 13)) rfl
    have eM : x_X5_cycles T2 = (r, emm T2 1 G') := by
      conv => lhs; rw [hT]
      rw [f_cycles, e]
      rfl
    have eC : x_X0_beginCycle S2 0 = emb S2 0 (v_X0_beginCycle (cv S2 0)) := by
      conv => lhs; rw [hS]
      exact e_X0_beginCycle S2 0 (cv S2 0)
    rw [eM, eC, nmp_eq, ebG_4]
    refine ⟨RR.rows k1.1 k1.2.2.2 hR' hI', ?_, fun _ => e1⟩
    show emm T2 1 G' 0 6 = 0
    rw [em_out (by decide) (by decide) (by omega)]; exact k6
theorem op_absent (h : RR S T) (p1 : Int32) : CE (fun c => if c = 0 then 0 else 1) (x_X4_absent S p1) (x_X5_absent T p1) := by
  have em : x_X5_isMember (st T 0 6 0) p1 = x_X5_isMember T p1 := by rw [isM, isM, st_row (by decide)]
  unfold x_X4_absent x_X5_absent
  simp only [nm_eq]
  rw [em]
  rcases memb h p1 with ⟨k, hk, rfl, hh, e1, e2⟩ | ⟨e1, e2⟩
  · rw [e1, e2, if_neg (by decide)]
    unfold tbp
    rw [if_pos rfl]
    obtain ⟨S2, T2, q1, q2, k1, k2, k6, hS, hT⟩ := after_keep (y := 0) h
    simp only [q1, q2]
    have hh2 : T2 1 (13 + 14 * k + 0) = 1 := by rw [k2]; exact hh
    have e7 := k1.2.1.s hk (w := 7) (by decide) (Or.inl hh2)
    have c7 : S2 (gM 0 k) 8 = T2 1 (13 + 14 * k + 7) := by rw [← e7]; exact (cvM_7 hk).symm
    have o7 : x_X5_of T2 1 (nI k) 7 = T2 1 (13 + 14 * k + 7) := by unfold x_X5_of; rw [cl8 hk, clw7]
    have main : ∀ z : Int32, (z = 0 ∨ z = 1) → z = T2 1 (13 + 14 * k + 7) + (1 - 2 * T2 1 (13 + 14 * k + 7)) → CE (fun c => if c = 0 then 0 else 1) ((0, x_X0_awayMembers (st S2 (gM 0 k) 8 z) 0), st S2 (gM 0 k) 8 z) (x_X5_absents (x_X5_adds T2 1 (nI k) 7 (1 - 2 * x_X5_of T2 1 (nI k) 7)), x_X5_adds T2 1 (nI k) 7 (1 - 2 * x_X5_of T2 1 (nI k) 7)) := by
      intro z hz ez
      have s1 : st S2 (gM 0 k) 8 z = emb S2 0 (upd (cv S2 0) (13 + 14 * k + 7) z) := by
        conv => lhs; rw [hS]
        exact esM_8 hk
      have s2 : x_X5_adds T2 1 (nI k) 7 (1 - 2 * x_X5_of T2 1 (nI k) 7) = emm T2 1 (upd (T2 1) (13 + 14 * k + 7) z, T2 6, T2 0 13) := by
        rw [o7]
        conv => lhs; rw [hT]
        rw [f_adds T2 (Or.inl rfl), nad_7 hk, ez]
        rfl
      have hR' : RG (upd (T2 1) (13 + 14 * k + 7) z) (upd (cv S2 0) (13 + 14 * k + 7) z) := by
        refine RG.up k1.2.1 rfl ?_ ?_
        all_goals first | omega | (intro o ho; omega)
      have hI' := k1.2.2.1.away hk hz
      rw [s1, s2, e_X0_awayMembers, f_absents]
      refine ⟨RR.rows k1.1 k1.2.2.2 hR' hI', ?_, fun _ => away_eq hI' hR'⟩
      show emm T2 1 (upd (T2 1) (13 + 14 * k + 7) z, T2 6, T2 0 13) 0 6 = 0
      rw [em_out (by decide) (by decide) (by omega)]; exact k6
    rw [c7]
    have f01 := (k1.2.2.1.1 k hk).2
    by_cases c : T2 1 (13 + 14 * k + 7) = 0
    · rw [if_pos (bz_iff.mpr c)]
      exact main 1 (Or.inr rfl) (by rw [c]; decide)
    · rw [if_neg (fun q => c (bz_iff.mp q))]
      exact main 0 (Or.inl rfl) (by rw [f01.resolve_left c]; decide)
  · rw [e1, e2, if_pos rfl, nmp_eq]
    unfold tbp
    rw [if_neg (by decide)]
    exact CE.fail h (by decide) rfl
end OPSRR
