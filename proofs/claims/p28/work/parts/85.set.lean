section OPSET
variable {S T : vS} {F H : vF} {p1 p2 p3 x y : Int32} {k n i q : Nat}
theorem four (p1 : Int32) : (∃ q, q < 4 ∧ p1 = nI q ∧ ¬ p1 < 0 ∧ p1 < 4 ∧ ¬ 3 < p1) ∨ (p1 < 0 ∨ (¬ p1 < 0 ∧ ¬ p1 < 4 ∧ 3 < p1)) := by
  by_cases c : p1 < 0
  · exact Or.inr (Or.inl c)
  · obtain ⟨q, hq, e⟩ := nI_of c
    by_cases c2 : q < 4
    · have a : nI q < (4 : Int32) := nI_lt (b := 4) c2 (by decide)
      have b : ¬ (3 : Int32) < nI q := nI_nlt (a := 3) (b := q) (by omega) (by decide)
      exact Or.inl ⟨q, c2, e, c, by rw [e]; exact a, by rw [e]; exact b⟩
    · have a : ¬ nI q < (4 : Int32) := nI_nlt (a := q) (b := 4) (by omega) hq
      have b : (3 : Int32) < nI q := nI_lt (a := 3) (by omega) hq
      exact Or.inr (Or.inr ⟨c, by rw [e]; exact a, by rw [e]; exact b⟩)
theorem isFor_eq (hq : q < 4) : x_X5_isFor T (nI q) p2 = if p2 < lsE q then 0 else if msE q < p2 then 0 else 1 := by
  unfold x_X5_isFor x_X5_in lsE msE
  simp only [nm_eq]
  obtain rfl | rfl | rfl | rfl : q = 0 ∨ q = 1 ∨ q = 2 ∨ q = 3 := by omega
  · rw [if_pos (by decide)]; rfl
  · rw [if_neg (by decide), if_pos (by decide)]; rfl
  · rw [if_neg (by decide), if_neg (by decide), if_pos (by decide)]; rfl
  · rw [if_neg (by decide), if_neg (by decide), if_neg (by decide)]; rfl
theorem op_set (h : RR S T) (p1 p2 : Int32) : CE mp3 (x_X4_set S p1 p2) (x_X5_set T p1 p2) := by
  unfold x_X4_set x_X5_set x_X4_checkSetting tbp
  simp only [nm_eq]
  rcases four p1 with ⟨q, hq, rfl, n0, n4, n3⟩ | hno
  · have ne1 : ¬ (1 : Int32) = 0 := by decide
    have fo := isFor_eq (T := st T 0 6 0) (p2 := p2) hq
    rw [if_neg n0, if_pos n4, if_pos rfl, xin_yes n0 n3, if_neg ne1, nI_clamp (by omega)]
    by_cases c1 : p2 < lsE q
    · rw [if_pos c1] at fo
      rw [if_pos c1, fo, if_pos rfl, nmp_eq]
      exact CE.fail h (by decide) rfl
    · rw [if_neg c1] at fo
      rw [if_neg c1]
      by_cases c2 : p2 ≤ msE q
      · rw [if_neg (nlt_of_le c2)] at fo
        rw [if_pos c2, fo, if_neg ne1]
        obtain ⟨S2, T2, q1, q2, k1, k2, k6, hS, hT⟩ := after_keep (y := 0) h
        rw [q1, q2]
        have s1 : st S2 (gS 0) q p2 = emb S2 0 (upd (cv S2 0) (4 + q) p2) := by
          conv => lhs; rw [hS]
          exact esS hq
        have s2 : st T2 1 (4 + q) p2 = emm T2 1 (upd (T2 1) (4 + q) p2, T2 6, T2 0 13) := by
          conv => lhs; rw [hT]
          exact es_q
        have hR' : RG (upd (T2 1) (4 + q) p2) (upd (cv S2 0) (4 + q) p2) := by
          refine RG.up k1.2.1 rfl ?_ ?_
          all_goals first | omega | (intro o ho; omega)
        have hI' : IR 999 (upd (T2 1) (4 + q) p2) := by
          refine k1.2.2.1.set hq ?_
          rw [Int32.lt_iff_toInt_lt] at c1
          rw [Int32.le_iff_toInt_le] at c2
          refine ⟨fun z => ?_, fun z => ?_, fun z => ?_, fun z => ?_⟩
          · subst z
            have a : (lsE 0).toInt = 0 := by decide
            have b : (msE 0).toInt = 50 := by decide
            omega
          · subst z
            have a : (lsE 1).toInt = 0 := by decide
            have b : (msE 1).toInt = 99 := by decide
            omega
          · subst z
            have a : (lsE 2).toInt = 1 := by decide
            have b : (msE 2).toInt = 20 := by decide
            omega
          · subst z
            have a : (lsE 3).toInt = 0 := by decide
            have b : (msE 3).toInt = 100 := by decide
            omega
        have e0 : S2 (gS 0) q = T2 1 (4 + q) := by
          have : cv S2 0 (4 + q) = S2 (gS 0) q := by
            conv => rhs; rw [hS]
            exact (ebS hq).symm
          rw [← this]
          exact k1.2.1.g (by omega)
        rw [s1, s2]
        exact CE.rows k1 k6 hR' hI' e0
      · rw [if_pos (fa_of_nle c2)] at fo
        rw [if_neg c2, fo, if_pos rfl, nmp_eq]
        exact CE.fail h (by decide) rfl
  · have e : x_X5_in (st T 0 6 0) p1 0 3 = 0 := xin_no (hno.elim Or.inl fun z => Or.inr z.2.2)
    rw [e, if_pos rfl, nmp_eq]
    rcases hno with c | ⟨c, c2, _⟩
    · rw [if_pos c, if_neg (by decide)]
      exact CE.fail h (by decide) rfl
    · rw [if_neg c, if_neg c2, if_neg (by decide)]
      exact CE.fail h (by decide) rfl
end OPSET
