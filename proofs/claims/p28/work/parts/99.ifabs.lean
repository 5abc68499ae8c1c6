section OPABS
variable {S T : vS} {F H : vF} {G : vG} {p1 p2 p3 x y z : Int32} {k n i q : Nat}
theorem hh_trial (h : HH S T) : HH (emb S 1 F) T := by
  obtain ⟨o, s, a, b, c, d, f, g⟩ := h
  refine ⟨o, s, a, b, ?_, ?_, f, fun j hj => ?_⟩
  · rw [emb_out (show ¬ (19 * 1 ≤ hO ∧ hO < 19 * 1 + 19) by decide)]; exact c
  · rw [emb_out (show ¬ (19 * 1 ≤ hO ∧ hO < 19 * 1 + 19) by decide)]; exact d
  · rw [cv_emb_ne (show 1 ≠ 2 + (o + j) % 6 by omega)]; exact g j hj
/-- the trial's group is told by nobody -/
theorem rr_trial (h : RR S T) : RR (emb S 1 F) T := by
  refine ⟨hh_trial h.1, by rw [cv_emb_ne (by decide)]; exact h.2.1, h.2.2.1, ?_⟩
  obtain ⟨len, a, b, c, d, f⟩ := h.2.2.2
  refine ⟨len, a, ?_, c, d, ?_⟩
  · rw [emb_out (show ¬ (19 * 1 ≤ tO ∧ tO < 19 * 1 + 19) by decide)]; exact b
  · rw [← f]; funext j; exact emb_out (show ¬ (19 * 1 ≤ tC ∧ tC < 19 * 1 + 19) by decide)
/-- the trial's row behind its week -/
def trw (S : vS) (x : Int32) : vF := v_X0_endWeek (itVM 8 (bzr (cv S 0)) x 0)
theorem try_eq : x_X4_tryWeek S x = emb S 1 (trw S x) := by
  unfold x_X4_tryWeek trw
  simp only [nm_eq]
  rw [copy_thm (by decide), e_X0_letBeAway]
  have : v_X0_letBeAway (bzr (cv S 0)) x = itVM 8 (bzr (cv S 0)) x 0 := n_letAway 8 0 _ rfl
  rw [this, e_X0_endWeek]
theorem most_eq : ∀ (n i : Nat) (v : Int32), i + n = 8 → x_X0_mostPaidForOthersSince_L4 (n + 1) (emb S 1 F) 1 0 i v = mL n (fun o => F (13 + 14 * o + 13) - cv S 0 (13 + 14 * o + 13)) i v := by
  intro n
  induction n with
  | zero =>
    intro i v h
    obtain rfl : i = 8 := by omega
    rw [x_X0_mostPaidForOthersSince_L4.eq_2, if_pos (by decide)]
    rfl
  | succ n ih =>
    intro i v h
    have hc : ¬ (8 : Int32) ≤ nI i := fun q => absurd (nI_of_le (a := 8) (b := i) (by omega) q (by decide)) (by omega)
    have e1 : emb S 1 F (gM 1 i) 14 = F (13 + 14 * i + 13) := ebM_14 (by omega)
    have e0 : emb S 1 F (gM 0 i) 14 = cv S 0 (13 + 14 * i + 13) := by
      rw [emb_out (by unfold gM; omega)]
      exact (cvM_13 (by omega)).symm
    rw [x_X0_mostPaidForOthersSince_L4.eq_2, if_neg hc, nm_eq, e1, e0]
    exact ih (i + 1) _ (by omega)
theorem out_eq : ∀ q, q < 5 → x_X4_outcome (x_X4_tryWeek S x) (nI q) = (if q = 0 then trw S x 11 - cv S 0 11 else if q = 1 then trw S x 8 else if q = 2 then v_X0_bankDebts (trw S x) else if q = 3 then v_X0_debtsAmongMembers (trw S x) else m8 (fun o => trw S x (13 + 14 * o + 13) - cv S 0 (13 + 14 * o + 13))) := by
  intro q hq
  rw [try_eq]
  unfold x_X4_outcome
  simp only [nm_eq]
  obtain rfl | rfl | rfl | rfl | rfl : q = 0 ∨ q = 1 ∨ q = 2 ∨ q = 3 ∨ q = 4 := by omega
  · rw [if_pos (by decide), if_pos rfl, ebG_9, emb_out (show ¬ (19 * 1 ≤ gG 0 ∧ gG 0 < 19 * 1 + 19) by decide)]
    rfl
  · rw [if_neg (by decide), if_pos (by decide), if_neg (by decide), if_pos rfl, ebG_6]
  · rw [if_neg (by decide), if_neg (by decide), if_pos (by decide), if_neg (by decide), if_neg (by decide), if_pos rfl, e_X0_bankDebts]
  · rw [if_neg (by decide), if_neg (by decide), if_neg (by decide), if_pos (by decide), if_neg (by decide), if_neg (by decide), if_neg (by decide), if_pos rfl, e_X0_debtsAmongMembers]
  · rw [if_neg (by decide), if_neg (by decide), if_neg (by decide), if_neg (by decide), if_neg (by decide), if_neg (by decide), if_neg (by decide), if_neg (by decide)]
    exact most_eq 8 0 0 rfl
theorem outs (h : RR S T) (x : Int32) (hq : q < 5) : ∃ G', x_X5_bringsBy T x (nI q) = (x_X4_outcome (x_X4_tryWeek S x) (nI q), emm T 2 G') := by
  obtain ⟨G', e⟩ := outcome_thm (T := T) (G := (T 2, T 6, T 0 13)) h.2.2.1 (Int.le_refl 999) (RG.bz h.2.2.1 h.2.1) rfl x q hq
  rw [emm_self] at e
  refine ⟨G', e.trans ?_⟩
  rw [out_eq q hq]
  have e11 : bzr (cv S 0) 11 = cv S 0 11 := by unfold bzr; rw [if_neg (by omega)]
  have e13 : ∀ o, o < 8 → bzr (cv S 0) (13 + 14 * o + 13) = cv S 0 (13 + 14 * o + 13) := fun o ho => by unfold bzr; rw [if_neg (by omega)]
  have em : m8 (fun o => v_X0_endWeek (itVM 8 (bzr (cv S 0)) x 0) (13 + 14 * o + 13) - bzr (cv S 0) (13 + 14 * o + 13)) = m8 (fun o => trw S x (13 + 14 * o + 13) - cv S 0 (13 + 14 * o + 13)) := m8_congr fun o ho => by rw [e13 o ho]; rfl
  rw [em, e11]
  rfl
theorem rng5 (p1 : Int32) : (∃ q, q < 5 ∧ p1 = nI q ∧ ¬ p1 < 0 ∧ p1 < 5 ∧ ¬ 4 < p1) ∨ (p1 < 0 ∨ (¬ p1 < 0 ∧ ¬ p1 < 5 ∧ 4 < p1)) := by
  by_cases c : p1 < 0
  · exact Or.inr (Or.inl c)
  · obtain ⟨q, hq, e⟩ := nI_of c
    by_cases c2 : q < 5
    · have a : nI q < (5 : Int32) := nI_lt (b := 5) c2 (by decide)
      have b : ¬ (4 : Int32) < nI q := nI_nlt (a := 4) (b := q) (by omega) (by decide)
      exact Or.inl ⟨q, c2, e, c, by rw [e]; exact a, by rw [e]; exact b⟩
    · have a : ¬ nI q < (5 : Int32) := nI_nlt (a := q) (b := 5) (by omega) hq
      have b : (4 : Int32) < nI q := nI_lt (a := 4) (by omega) hq
      exact Or.inr (Or.inr ⟨c, by rw [e]; exact a, by rw [e]; exact b⟩)
theorem op_ifAbsent (h : RR S T) (p1 p2 : Int32) : CE (fun c => if c = 0 then 0 else 1) (x_X4_ifAbsent S p1 p2) (x_X5_ifAbsent T p1 p2) := by
  unfold x_X4_ifAbsent x_X5_ifAbsent
  simp only [nm_eq]
  by_cases c1 : p1 < 0
  · rw [if_pos c1, xin_no (Or.inl c1), if_pos rfl, nmp_eq]
    exact CE.fail h (by decide) rfl
  rw [if_neg c1]
  by_cases c2 : 255 < p1
  · rw [if_pos c2, xin_no (Or.inr c2), if_pos rfl, nmp_eq]
    exact CE.fail h (by decide) rfl
  rw [if_neg c2, xin_yes c1 c2, if_neg ne10]
  rcases rng5 p2 with ⟨q, hq, rfl, n0, n4, n3⟩ | hno | ⟨n0, n4, n3⟩
  · rw [if_neg n0, if_pos n4, xin_yes n0 n3, if_neg ne10]
    obtain ⟨G', e⟩ := outs (h.thrown (x := 0)) p1 hq
    rw [e, nmp_eq]
    refine ⟨?_, ?_, fun _ => rfl⟩
    · show RR (x_X4_tryWeek S p1) _
      rw [try_eq]
      exact rr_trial ((h.thrown).thn)
    · show emm (st T 0 6 0) 2 G' 0 6 = 0
      rw [em_out (by decide) (by decide) (by omega)]; exact st06
  · rw [if_pos hno, xin_no (Or.inl hno), if_pos rfl, nmp_eq]
    exact CE.fail h (by decide) rfl
  · rw [if_neg n0, if_neg n4, xin_no (Or.inr n3), if_pos rfl, nmp_eq]
    exact CE.fail h (by decide) rfl
end OPABS
