section OPLEND
variable {S T : vS} {F H : vF} {p1 p2 p3 x y : Int32} {k n i : Nat}
theorem xof {w : Int32} : x_X5_of T 1 p1 w = w_of (T 1) p1 w := by
  have := f_of T (q := 1) (Or.inl rfl) (T 1, T 6, T 0 13) p1 w
  rw [emm_self] at this
  exact this
theorem help_no (h : x_X5_isMember T p1 = 0) : x_X5_mayHelp T p1 p2 = 1 := by
  unfold x_X5_mayHelp
  simp only [nm_eq]
  rw [h, if_pos rfl]
theorem help_rng (h : x_X5_isMember T p1 = 1) (h2 : p2 < 1 ∨ 2000 < p2) : x_X5_mayHelp T p1 p2 = 2 := by
  unfold x_X5_mayHelp
  simp only [nm_eq]
  rw [h, if_neg (by decide), xin_no h2, if_pos rfl]
theorem help_yes (h : x_X5_isMember T p1 = 1) (h1 : ¬ p2 < 1) (h2 : ¬ 2000 < p2) : x_X5_mayHelp T p1 p2 = if T 1 2 = (-1) then 3 else if T 1 2 = p1 then 3 else nm (w_of (T 1) p1 11) (fun r_50 => if r_50 = 0 then if ((T 1 8 * T 1 7) / 100) < p2 then 3 else 0 else 3) := by
  unfold x_X5_mayHelp
  simp only [nm_eq]
  rw [h, if_neg (by decide), xin_yes h1 h2, if_neg (by decide), xof]
theorem op_help (h : RR S T) (p1 p2 : Int32) : CE mp3 (x_X4_help S p1 p2) (x_X5_help T p1 p2) := by
  rw [help_def]
  unfold x_X4_help
  rcases memb h p1 with ⟨k, hk, rfl, hh, e1, e2⟩ | ⟨e1, e2⟩
  · rw [e1]
    unfold tbp x_X4_checkMoney
    rw [if_pos rfl]
    dsimp only
    by_cases c1 : p2 < 1
    · rw [if_pos c1, help_rng e2 (Or.inl c1), if_neg (by decide)]
      exact CE.no h (by decide) rfl
    · rw [if_neg c1]
      by_cases c2 : p2 ≤ 2000
      · rw [if_pos c2, help_yes e2 c1 (nlt_of_le c2), if_pos rfl]
        have ed : x_X0_mayHelp S 0 k p2 = v_X0_mayHelp (cv S 0) k p2 := by
          have := e_X0_mayHelp S 0 (cv S 0) k p2 hk
          rw [emb_cv] at this
          exact this
        obtain ⟨m0, m1⟩ := mayHelp_eq (x := p2) h.2.1 hk
        rw [nm_eq (x_X0_mayHelp S 0 k p2), ed]
        by_cases c4 : v_X0_mayHelp (cv S 0) k p2 = 0
        · rw [if_pos c4, m0 c4, if_neg (by decide)]
          exact CE.no h (by decide) rfl
        · obtain ⟨m2, m3⟩ := m1 c4
          rw [if_neg c4, m2, if_pos rfl, nm_eq, nm_eq]
          obtain ⟨S2, T2, q1, q2, k1, k2, k6, hS, hT⟩ := after_keep (y := 0) h
          rw [q1, q2]
          have t1 : 1 ≤ p2.toInt ∧ p2.toInt ≤ 2000 := by
            rw [Int32.lt_iff_toInt_lt, show (1 : Int32).toInt = 1 by decide] at c1
            rw [Int32.le_iff_toInt_le, show (2000 : Int32).toInt = 2000 by decide] at c2
            exact ⟨by omega, c2⟩
          rw [← k2] at m3
          have hI' := help_ir k1.2.2.1 (Int.le_refl 999) hk t1 m3
          obtain ⟨hR', e8⟩ := help_v (x := p2) k1.2.1 hk
          have eM : x_X5_helps T2 (nI k) p2 = (T2 1 8 - p2, emm T2 1 (fHelp (T2 1) k p2, T2 6, T2 0 13)) := by
            conv => lhs; rw [hT]
            rw [f_helps, helps_w hk]
            rfl
          have eC : x_X0_grantHelp S2 0 k p2 = emb S2 0 (v_X0_grantHelp (cv S2 0) k p2) := by
            conv => lhs; rw [hS]
            exact e_X0_grantHelp S2 0 (cv S2 0) k p2 hk
          rw [eM, eC, nmp_eq, ebG_6]
          exact CE.rows k1 k6 hR' hI' e8
      · rw [if_neg c2, help_rng e2 (Or.inr (fa_of_nle c2)), if_neg (by decide)]
        exact CE.no h (by decide) rfl
  · rw [e1, help_no e2]
    unfold tbp
    rw [if_neg (by decide), if_neg (by decide)]
    exact CE.no h (by decide) rfl
theorem lend_no (h : x_X5_isMember T p1 = 0) : x_X5_mayLend T p1 p2 p3 = 1 := by
  unfold x_X5_mayLend
  simp only [nm_eq]
  rw [h, if_pos rfl]
theorem lend_rng (h : x_X5_isMember T p1 = 1) (h2 : (p2 < 10 ∨ 2000 < p2) ∨ (p3 < 1 ∨ 52 < p3)) : x_X5_mayLend T p1 p2 p3 = 2 := by
  unfold x_X5_mayLend
  simp only [nm_eq]
  rw [h, if_neg (by decide)]
  by_cases c : p2 < 10 ∨ 2000 < p2
  · rw [xin_no c, if_pos rfl]
  · rw [xin_yes (fun q => c (Or.inl q)) (fun q => c (Or.inr q)), if_neg (by decide), xin_no (h2.resolve_left c), if_pos rfl]
theorem lend_yes (h : x_X5_isMember T p1 = 1) (h1 : ¬ p2 < 10) (h2 : ¬ 2000 < p2) (h3 : ¬ p3 < 1) (h4 : ¬ 52 < p3) : x_X5_mayLend T p1 p2 p3 = if 0 < w_of (T 1) p1 4 then 3 else if 0 < w_debts (T 1) p1 then 3 else if p2 ≤ w_of (T 1) p1 1 then 0 else 3 := by
  unfold x_X5_mayLend
  simp only [nm_eq]
  rw [h, if_neg (by decide), xin_yes h1 h2, if_neg (by decide), xin_yes h3 h4, if_neg (by decide), xof, xof, xdebts]
theorem op_lend (h : RR S T) (p1 p2 p3 : Int32) : CE mp3 (x_X4_lend S p1 p2 p3) (x_X5_lend T p1 p2 p3) := by
  rw [lend_def]
  unfold x_X4_lend
  rcases memb h p1 with ⟨k, hk, rfl, hh, e1, e2⟩ | ⟨e1, e2⟩
  · rw [e1]
    unfold tbp
    rw [if_pos rfl]
    dsimp only
    by_cases c1 : p2 < 10
    · rw [if_pos c1, lend_rng e2 (Or.inl (Or.inl c1)), if_neg (by decide)]
      exact CE.no h (by decide) rfl
    rw [if_neg c1]
    by_cases c2 : 2000 < p2
    · rw [if_pos c2, lend_rng e2 (Or.inl (Or.inr c2)), if_neg (by decide)]
      exact CE.no h (by decide) rfl
    rw [if_neg c2]
    by_cases c3 : p3 < 1
    · rw [if_pos c3, lend_rng e2 (Or.inr (Or.inl c3)), if_neg (by decide)]
      exact CE.no h (by decide) rfl
    rw [if_neg c3]
    by_cases c4 : p3 ≤ 52
    · rw [if_pos c4, lend_yes e2 c1 c2 c3 (nlt_of_le c4), nof_4 hk, nof_1 hk]
      have ed : x_X2_mayBorrow S 0 k p2 = v_X2_mayBorrow (cv S 0) k p2 := by
        have := e_X2_mayBorrow S 0 (cv S 0) k p2 hk
        rw [emb_cv] at this
        exact this
      have hb := mayBorrow_eq (x := p2) h.2.2.1 (by decide) h.2.1 hk hh
      rw [nm_eq (x_X2_mayBorrow S 0 k p2), ed]
      by_cases c5 : v_X2_mayBorrow (cv S 0) k p2 = 0
      · have e3 : (if 0 < T 1 (13 + 14 * k + 4) then 3 else if 0 < w_debts (T 1) (nI k) then 3 else if p2 ≤ T 1 (13 + 14 * k + 1) then 0 else 3) = (3 : Int32) := by
          rcases hb.mp c5 with q | q | q
          · rw [if_pos q]
          · rw [if_pos q]; split <;> rfl
          · rw [if_neg q]; split <;> (try rfl); split <;> rfl
        rw [if_pos c5, e3, if_neg (by decide)]
        exact CE.no h (by decide) rfl
      · have n1 : ¬ 0 < T 1 (13 + 14 * k + 4) := fun q => c5 (hb.mpr (Or.inl q))
        have n2 : ¬ 0 < w_debts (T 1) (nI k) := fun q => c5 (hb.mpr (Or.inr (Or.inl q)))
        have n3 : p2 ≤ T 1 (13 + 14 * k + 1) := by
          by_cases q : p2 ≤ T 1 (13 + 14 * k + 1)
          · exact q
          · exact absurd (hb.mpr (Or.inr (Or.inr q))) c5
        rw [if_neg c5, if_neg n1, if_neg n2, if_pos n3, if_pos rfl, nm_eq, nm_eq, nm_eq]
        obtain ⟨S2, T2, q1, q2, k1, k2, k6, hS, hT⟩ := after_keep (y := 0) h
        rw [q1, q2]
        have w0 : T2 1 (13 + 14 * k + 4) = 0 := by
          rw [k2]
          have a := (h.2.2.1.2.1 k hk).1
          rw [Int32.lt_iff_toInt_lt, z32] at n1
          exact Int32.toInt_inj.mp (by rw [z32]; omega)
        have hh2 : T2 1 (13 + 14 * k + 0) = 1 := by rw [k2]; exact hh
        have u10 : (10 : Int32).toInt = 10 := by decide
        have u2000 : (2000 : Int32).toInt = 2000 := by decide
        have u1 : (1 : Int32).toInt = 1 := by decide
        have u52 : (52 : Int32).toInt = 52 := by decide
        rw [Int32.lt_iff_toInt_lt, u10] at c1
        rw [Int32.lt_iff_toInt_lt, u2000] at c2
        rw [Int32.le_iff_toInt_le, u52] at c4
        have c3' := c3
        rw [Int32.lt_iff_toInt_lt, u1] at c3'
        obtain ⟨a, ha, ea⟩ := nI_of (x := p2) (by rw [Int32.lt_iff_toInt_lt, z32]; omega)
        obtain ⟨b, hb', eb⟩ := nI_of (x := p3) (by rw [Int32.lt_iff_toInt_lt, z32]; omega)
        have ta : p2.toInt = a := by rw [ea, nI_toInt ha]
        have tb_ : p3.toInt = b := by rw [eb, nI_toInt hb']
        have hI' : IR 999 (fLend (T2 1) k p2 p3) := by
          rw [ea, eb]
          exact lend_ir k1.2.2.1 (Int.le_refl 999) hk w0 hh2 ⟨by omega, by omega⟩ ⟨by omega, by omega⟩
        have hR' := lend_v (x := p2) (y := p3) k1.2.1 hk (fa_of_nlt c3)
        have eM : x_X5_lends T2 (nI k) p2 p3 = (w_due (fLend (T2 1) k p2 p3) (nI k), emm T2 1 (fLend (T2 1) k p2 p3, T2 6, T2 0 13)) := by
          conv => lhs; rw [hT]
          rw [f_lends, lends_w k1.2.2.1 hk rfl w0]
          rfl
        have eC : x_X0_grantLoan S2 0 k p2 p3 = emb S2 0 (v_X0_grantLoan (cv S2 0) k p2 p3) := by
          conv => lhs; rw [hS]
          exact e_X0_grantLoan S2 0 (cv S2 0) k p2 p3 hk
        rw [eM, eC, nmp_eq, e_X2_due _ _ _ _ hk]
        exact CE.rows k1 k6 hR' hI' (due_eq hI' hR' hk)
    · rw [if_neg c4, lend_rng e2 (Or.inr (Or.inr (fa_of_nle c4))), if_neg (by decide)]
      exact CE.no h (by decide) rfl
  · rw [e1, lend_no e2]
    unfold tbp
    rw [if_neg (by decide), if_neg (by decide)]
    exact CE.no h (by decide) rfl
end OPLEND
