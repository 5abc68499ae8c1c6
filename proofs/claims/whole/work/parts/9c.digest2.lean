section OPDIG2
variable {S T : vS} {F H : vF} {G : vG} {p1 p2 p3 x y z : Int32} {k n i q : Nat}
theorem d_mem (S : vS) : ∀ (n i : Nat) (v : Int64) (T : vS), i + n = 8 → RR S T → ∃ u G', x_X4_digest_L72 (n + 1) S i v = x_X4_digest_L72 1 S 8 u ∧ x_X5_digest_L67 (n + 1) T i v = x_X5_digest_L210 4 (emm T 2 G') 0 u := by
  intro n
  induction n with
  | zero =>
    intro i v T hi h
    obtain rfl : i = 8 := by omega
    refine ⟨v, (T 2, T 6, T 0 13), rfl, ?_⟩
    rw [x_X5_digest_L67.eq_2, if_pos (by decide), emm_self]
  | succ n ih =>
    intro i v T hi h
    have hi8 : i < 8 := by omega
    have hc : ¬ (8 : Int32) ≤ nI i := fun q => absurd (nI_of_le (a := 8) (b := i) (by omega) q (by decide)) (by omega)
    have hd := d_here h (i := i) hi8
    rw [x_X4_digest_L72.eq_2, x_X5_digest_L67.eq_2, if_neg hc, if_neg hc]
    rw [nm_eq (x_X5_of T 1 (nI i) 0)]
    by_cases c : x_X5_of T 1 (nI i) 0 = 1
    · have hh : T 1 (13 + 14 * i + 0) = 1 := by rw [xof, nof_0 hi8] at c; exact c
      rw [if_pos c, if_neg (fun q => hd.mp q c), nm_eq, nm_eq]
      unfold x_X4_mixedWithMember
      rw [nm_eq, mixed_eq]
      obtain ⟨u1, a1, a2⟩ := d_98 h hi8 hh v 14 0 (31 * v + (nI i).toInt64) rfl
      obtain ⟨u2, b1, b2⟩ := d_129 h hi8 v 8 0 u1 rfl
      obtain ⟨G1, e1⟩ := lasts_rr h hi8 hh
      have e2 := limit_rr (h.thn (G := G1)) hi8 (by
        rw [em_out (by decide) (by decide) (by omega)]; exact hh)
      rw [a1, b1, a2, nmp_eq, b2, nmp_eq, e1, nmp_eq]
      dsimp only
      rw [nm_eq, nm_eq, e2]
      obtain ⟨u, G2, c1, c2⟩ := ih (i + 1) (31 * (31 * u2 + (x_X0_weeksOfFund S 0 i).toInt64) + (x_X2_nextLimit S 0 i).toInt64) (emm T 2 G1) (by omega) h.thn
      exact ⟨u, G2, c1, by rw [c2, emm_emm]⟩
    · rw [if_neg c, if_pos (hd.mpr c)]
      exact ih (i + 1) v T (by omega) h
theorem weak_rr (h : RR S T) : ∃ G', x_X5_weakestOf T = (x_X0_weakestNumber S 0, emm T 2 G') := by
  obtain ⟨G', e⟩ := weak_thm (T := T) (G := (T 2, T 6, T 0 13)) h.2.2.1 (Int.le_refl 999) h.2.1 rfl
  rw [emm_self] at e
  have ec : x_X0_weakestNumber S 0 = v_X0_weakestNumber (cv S 0) := by
    have := e_X0_weakestNumber S 0 (cv S 0)
    rw [emb_cv] at this
    exact this
  exact ⟨G', by rw [e, ec]⟩
theorem most_rr (h : RR S T) : x_X5_longest T = x_X0_mostLoanWeeks S 0 := by
  have ec : x_X0_mostLoanWeeks S 0 = v_X0_mostLoanWeeks (cv S 0) := by
    have := e_X0_mostLoanWeeks S 0 (cv S 0)
    rw [emb_cv] at this
    exact this
  have el : x_X5_longest T = w_longest (T 1) := by
    have := f_longest T (T 1, T 6, T 0 13)
    rw [emm_self] at this
    exact this
  rw [ec, el]
  exact (mostWeeks_eq h.2.1).symm
theorem share_rr (h : RR S T) : x_X5_share T = x_X0_shareOfPaid S 0 ∧ shN (x_X0_shareOfPaid S 0) := by
  have ec : x_X0_shareOfPaid S 0 = v_X0_shareOfPaid (cv S 0) := by
    have := e_X0_shareOfPaid S 0 (cv S 0)
    rw [emb_cv] at this
    exact this
  have el : x_X5_share T = w_share (T 1) := by
    have := f_share T (T 1, T 6, T 0 13)
    rw [emm_self] at this
    exact this
  rw [ec, el, share_eq h.2.2.1 (by decide) h.2.1]
  exact ⟨rfl, share_sh h.2.2.1 (by decide)⟩
theorem d_three (h : RR S T) (x : Int32) (m : Nat) (hm : ∀ T : vS, ∀ i v n, i < 5 → x_X5_digest_L218 (n + 1) T i m v = nmp (x_X5_bringsBy T x (nI i)) (fun r s => x_X5_digest_L218 n s (i + 1) m (31 * v + r.toInt64))) (v : Int64) : ∃ r S' T', x_X4_mixedWithOutcomes S v x = (r, S') ∧ x_X5_digest_L218 6 T 0 m v = (r, T') ∧ RR S' T' ∧ T' 0 6 = T 0 6 := by
  obtain ⟨G', e1, e2⟩ := d_outs (S := S) x m hm v 5 0 v T rfl h
  unfold x_X4_mixedWithOutcomes
  rw [nm_eq]
  refine ⟨_, x_X4_tryWeek S x, _, ?_, e1, ?_, em_out (by decide) (by decide) (by omega)⟩
  · exact Prod.ext rfl e2
  · rw [try_eq]; exact rr_trial h.thn
theorem d_tail (h : RR S T) (u : Int64) : ∃ r S' T', x_X4_digest_L72 1 S 8 u = (r, S') ∧ x_X5_digest_L210 4 T 0 u = (r, T') ∧ RR S' T' ∧ T' 0 6 = T 0 6 := by
  rw [x_X4_digest_L72.eq_2, if_pos (by decide)]
  obtain ⟨r1, S1, T1, a1, b1, h1, t1⟩ := d_three h 0 0 (fun T i v n hi => by
    rw [x_X5_digest_L218.eq_2, if_neg (show ¬ (5 : Int32) ≤ nI i from fun q => absurd (nI_of_le (a := 5) (b := i) (by omega) q (by decide)) (by omega)), if_neg (by decide)]
    first | rfl | (simp only [nm_eq]; rfl) | simp only [nm_eq]) u
  obtain ⟨r2, S2, T2, a2, b2, h2, t2⟩ := d_three h1 1 1 (fun T i v n hi => by
    rw [x_X5_digest_L218.eq_2, if_neg (show ¬ (5 : Int32) ≤ nI i from fun q => absurd (nI_of_le (a := 5) (b := i) (by omega) q (by decide)) (by omega)), if_neg (by decide)]
    first | rfl | (simp only [nm_eq]; rfl) | simp only [nm_eq]) r1
  obtain ⟨r3, S3, T3, a3, b3, h3, t3⟩ := d_three h2 255 2 (fun T i v n hi => by
    rw [x_X5_digest_L218.eq_2, if_neg (show ¬ (5 : Int32) ≤ nI i from fun q => absurd (nI_of_le (a := 5) (b := i) (by omega) q (by decide)) (by omega)), if_pos (by decide)]
    first | rfl | (simp only [nm_eq]; rfl) | simp only [nm_eq]) r2
  rw [a1, nmp_eq]
  dsimp only
  rw [a2, nmp_eq]
  dsimp only
  rw [a3, nmp_eq]
  dsimp only
  rw [x_X5_digest_L210.eq_2, if_neg (by decide), b1, nmp_eq]
  dsimp only
  rw [x_X5_digest_L210.eq_2, if_neg (by decide), b2, nmp_eq]
  dsimp only
  rw [x_X5_digest_L210.eq_2, if_neg (by decide), b3, nmp_eq]
  dsimp only
  rw [x_X5_digest_L210.eq_2, if_pos (by decide)]
  obtain ⟨G4, e4⟩ := weak_rr h3
  have h4 := h3.thn (G := G4)
  rw [e4, nmp_eq]
  dsimp only
  have e5 := most_rr h4
  have e6 := share_rr h4
  have t4 : emm T3 2 G4 0 6 = T3 0 6 := em_out (by decide) (by decide) (by omega)
  generalize emm T3 2 G4 = T4 at h4 e5 e6 t4 ⊢
  obtain ⟨len, l1, l2, l3, l4, l5⟩ := h4.2.2.2
  simp only [nm_eq, mixed_eq]
  unfold x_X4_mixedWithText
  simp only [nm_eq, mixed_eq]
  have ed := fun P v => d_text h4 l1 l2 l3 l5 P 60 0 v rfl
  rw [e5, e6.1, ← bits_eq (S := S3) (T := T4) e6.2, l3, l2]
  refine ⟨_, S3, T4, rfl, ?_, h4, t4.trans (t3.trans (t2.trans t1))⟩
  rw [ed]
theorem d_set (h : RR S T) : ∀ (n i : Nat) (v : Int64), i + n = 4 → ∃ u, x_X4_digest_L31 (n + 1) S i v = x_X4_digest_L72 9 S 0 u ∧ x_X5_digest_L38 (n + 1) T i v = x_X5_digest_L67 9 T 0 u := by
  intro n
  induction n with
  | zero =>
    intro i v hi
    obtain rfl : i = 4 := by omega
    rw [x_X4_digest_L31.eq_2, x_X5_digest_L38.eq_2, if_pos (by decide), if_pos (by decide)]
    exact ⟨v, rfl, rfl⟩
  | succ n ih =>
    intro i v hi
    have hc : ¬ (4 : Int32) ≤ nI i := fun q => absurd (nI_of_le (a := 4) (b := i) (by omega) q (by decide)) (by omega)
    have e1 : S (gS 0) i = T 1 (4 + i) := by
      have : S (gS 0) i = cv S 0 (4 + i) := by
        conv => lhs; rw [← emb_cv S 0]
        exact ebS (by omega)
      rw [this]
      exact h.2.1.g (by omega)
    rw [x_X4_digest_L31.eq_2, x_X5_digest_L38.eq_2, if_neg hc, if_neg hc]
    simp only [nm_eq, mixed_eq]
    rw [e1]
    exact ih (i + 1) _ (by omega)
theorem d_cnt (h : RR S T) : ∀ (n i : Nat) (v : Int64), i + n = 16 → ∃ u, x_X4_digest_L6 (n + 1) S i v = x_X4_digest_L31 5 S 0 u ∧ x_X5_digest_L11 (n + 1) T i v = x_X5_digest_L38 5 T 0 u := by
  intro n
  induction n with
  | zero =>
    intro i v hi
    obtain rfl : i = 16 := by omega
    rw [x_X4_digest_L6.eq_2, x_X5_digest_L11.eq_2, if_pos (by decide), if_pos (by decide)]
    exact ⟨v, rfl, rfl⟩
  | succ n ih =>
    intro i v hi
    have hc : ¬ (16 : Int32) ≤ nI i := fun q => absurd (nI_of_le (a := 16) (b := i) (by omega) q (by decide)) (by omega)
    rw [x_X4_digest_L6.eq_2, x_X5_digest_L11.eq_2, if_neg hc, if_neg hc]
    simp only [nm_eq, mixed_eq]
    rw [d_num h (by omega)]
    exact ih (i + 1) _ (by omega)
theorem op_digest (h : RR S T) : (x_X5_digest T).1 = (x_X4_digest S).1 ∧ RR (x_X4_digest S).2 (x_X5_digest T).2 ∧ (x_X5_digest T).2 0 6 = 0 := by
  unfold x_X4_digest x_X5_digest
  rw [nm_eq]
  have h0 := h.thrown (x := 0)
  have t0 : st T 0 6 0 0 6 = 0 := st06
  generalize st T 0 6 0 = T0 at h0 t0 ⊢
  obtain ⟨u1, a1, b1⟩ := d_cnt h0 16 0 2713 rfl
  obtain ⟨u2, a2, b2⟩ := d_set h0 4 0 u1 rfl
  obtain ⟨u3, G', a3, b3⟩ := d_mem S 8 0 u2 T0 rfl h0
  obtain ⟨r, S', T', a4, b4, h4, t4⟩ := d_tail (h0.thn (G := G')) u3
  rw [a1, a2, a3, a4, b1, b2, b3, b4]
  refine ⟨rfl, h4, ?_⟩
  show T' 0 6 = 0
  rw [t4, em_out (by decide) (by decide) (by omega)]
  exact t0
end OPDIG2
