section OPADD
variable {S T : vS} {F H : vF} {G : vG} {p1 p2 p3 x y : Int32} {k n i q : Nat}
theorem nar_id (h1 : ¬ p1 < 33) (h2 : p1 ≤ 126) : vp_nar .char (p1.toUInt32 % 65536).toInt32 = p1 := by
  obtain ⟨q, hq, rfl⟩ := nI_of (x := p1) (by rw [Int32.lt_iff_toInt_lt] at h1 ⊢; have : (33 : Int32).toInt = 33 := by decide
                                             have : (0 : Int32).toInt = 0 := by decide
                                             omega)
  have b : q < 127 := by
    rw [Int32.le_iff_toInt_le, nI_toInt hq] at h2
    have : (126 : Int32).toInt = 126 := by decide
    omega
  have all : ∀ q : Nat, q < 127 → vp_nar .char ((nI q).toUInt32 % 65536).toInt32 = nI q := by decide
  exact all q b
theorem add_def (h0 : ¬ S tO 1 < 0) (h6 : ¬ 60 ≤ S tO 1) : x_X3_add S x = st (st S tC (S tO 1).toNatClampNeg (vp_nar .char x)) tO 1 (S tO 1 + 1) := by
  unfold x_X3_add
  rw [if_neg h0, if_neg h6, nm_eq, nm_eq, st_at, if_neg (fun z => absurd z.1 (by decide))]
def mpA (c : Nat) : Int32 := if c = 0 then 0 else if c = 1 then 2 else 1
theorem op_append (h : RR S T) (p1 : Int32) : CE mpA (x_X4_append S p1) (x_X5_append T p1) := by
  have ne1 : ¬ (1 : Int32) = 0 := by decide
  unfold x_X4_append x_X5_append
  simp only [nm_eq]
  obtain ⟨len, a, b, c, d, f⟩ := h.2.2.2
  by_cases c1 : p1 < 33
  · rw [if_pos c1, xin_no (Or.inl c1), if_pos rfl, nmp_eq]
    exact CE.fail h (by decide) rfl
  · rw [if_neg c1]
    by_cases c2 : p1 ≤ 126
    · have e5 : st T 0 6 0 0 5 = nI len := by rw [st_at, if_neg (by omega), c]
      rw [if_pos c2, xin_yes c1 (nlt_of_le c2), if_neg ne1, e5, b]
      by_cases c3 : len = 60
      · subst c3
        rw [if_neg (show ¬ nI 60 < 60 by decide), if_pos (show nI 60 = 60 from rfl), nmp_eq]
        exact CE.fail h (by decide) rfl
      · have l1 : nI len < (60 : Int32) := nI_lt (b := 60) (by omega) (by decide)
        have l2 : ¬ nI len = (60 : Int32) := fun z => by rw [z] at l1; exact absurd l1 (by decide)
        have l3 : ¬ nI len < 0 := nI_nlt (a := len) (b := 0) (by omega) (by omega)
        have l4 : ¬ 60 ≤ nI len := nle_of_lt l1
        rw [if_pos l1, if_neg l2, add_def (by rw [b]; exact l3) (by rw [b]; exact l4), b, nI_clamp (by omega), nar_id c1 c2]
        have e7 : nI len + 1 = nI (len + 1) := nI_add (a := len) (b := 1)
        have e6 : st (st T 0 6 0) 4 len p1 0 5 + 1 = nI (len + 1) := by rw [st_at, if_neg (by omega), e5]; exact e7
        rw [e6, e7]
        refine ⟨h.text ?_ ?_ ?_ ?_ ?_ ⟨len + 1, by omega, ?_, ?_, ?_, ?_⟩, ?_, fun _ => ?_⟩
        · intro j
          show st (st S tC len p1) tO 1 (nI (len + 1)) hO j = _
          rw [st_at, if_neg (fun z => absurd z.1 (by decide)), st_at, if_neg (fun z => absurd z.1 (by decide))]
        · intro g hg
          exact (cv_st (q := 155) (by omega)).trans (cv_st (q := 156) (by omega))
        · show st (st (st T 0 6 0) 4 len p1) 0 5 (nI (len + 1)) 0 3 = _
          rw [st_at, if_neg (by omega), st_at, if_neg (by omega), st_at, if_neg (by omega)]
        · show st (st (st T 0 6 0) 4 len p1) 0 5 (nI (len + 1)) 3 = _
          rw [st_row (q := 0) (c := 3) (by decide), st_row (q := 4) (c := 3) (by decide), st_row (q := 0) (c := 3) (by decide)]
        · show st (st (st T 0 6 0) 4 len p1) 0 5 (nI (len + 1)) 1 = _
          rw [st_row (q := 0) (c := 1) (by decide), st_row (q := 4) (c := 1) (by decide), st_row (q := 0) (c := 1) (by decide)]
        · show st (st S tC len p1) tO 1 (nI (len + 1)) tO 1 = _
          rw [st_at, if_pos ⟨rfl, rfl⟩]
        · show st (st (st T 0 6 0) 4 len p1) 0 5 (nI (len + 1)) 0 5 = _
          rw [st_at, if_pos ⟨rfl, rfl⟩]
        · intro i hi
          show 33 ≤ (st (st (st T 0 6 0) 4 len p1) 0 5 (nI (len + 1)) 4 i).toInt ∧ (st (st (st T 0 6 0) 4 len p1) 0 5 (nI (len + 1)) 4 i).toInt ≤ 126
          rw [st_at, if_neg (by omega), st_at]
          by_cases z : i = len
          · rw [if_pos ⟨rfl, z⟩]
            rw [Int32.lt_iff_toInt_lt] at c1
            rw [Int32.le_iff_toInt_le] at c2
            have u1 : (33 : Int32).toInt = 33 := by decide
            have u2 : (126 : Int32).toInt = 126 := by decide
            omega
          · rw [if_neg (fun w => z w.2), st_row (q := 0) (c := 4) (by decide)]
            exact d i (by omega)
        · show st (st S tC len p1) tO 1 (nI (len + 1)) tC = st (st (st T 0 6 0) 4 len p1) 0 5 (nI (len + 1)) 4
          rw [st_row (q := tO) (c := tC) (by decide), st_row (q := 0) (c := 4) (by decide)]
          funext j
          rw [st_at, st_at]
          by_cases z : j = len
          · rw [if_pos ⟨rfl, z⟩, if_pos ⟨rfl, z⟩]
          · rw [if_neg (fun w => z w.2), if_neg (fun w => z w.2), st_row (q := 0) (c := 4) (by decide), f]
        · show st (st (st T 0 6 0) 4 len p1) 0 5 (nI (len + 1)) 0 6 = 0
          rw [st_at, if_neg (by omega), st_at, if_neg (by omega)]
          exact st06
        · show st (st S tC len p1) tO 1 (nI (len + 1)) tO 1 = st (st (st T 0 6 0) 4 len p1) 0 5 (nI (len + 1)) 0 5
          rw [st_at, if_pos ⟨rfl, rfl⟩, st_at, if_pos ⟨rfl, rfl⟩]
    · rw [if_neg c2, xin_no (Or.inr ((by rw [Int32.le_iff_toInt_le] at c2; rw [Int32.lt_iff_toInt_lt]; omega))), if_pos rfl, nmp_eq]
      exact CE.fail h (by decide) rfl
end OPADD
