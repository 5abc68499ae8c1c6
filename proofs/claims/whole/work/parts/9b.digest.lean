section OPDIG
variable {S T : vS} {F H : vF} {G : vG} {p1 p2 p3 x y z : Int32} {k n i q : Nat}
theorem mixed_eq (S : vS) (a b : Int64) : x_X4_mixed S a b = 31 * a + b := rfl
theorem d_num (h : RR S T) (hq : q < 16) : x_X5_counted T (nI q) = x_X4_numberOf S (nI q) := by
  have el : x_X5_counted T (nI q) = w_counted (T 0 3) (T 1) (nI q) := by
    have := f_counted (T := T) (G := (T 1, T 6, T 0 13)) (nI q)
    rw [emm_self] at this
    exact this
  rw [el]
  unfold x_X4_numberOf
  by_cases c : q = 15
  · subst c
    rw [if_pos (show nI 15 = 15 from rfl), counted_15]
    obtain ⟨o, s, a, b, c, d, f, g⟩ := h.1
    rw [d, f]
  · have nn : ∀ q : Nat, q < 15 → ¬ nI q = 15 := by decide
    rw [if_neg (nn q (by omega)), nm_eq]
    have ec : x_X0_figure S 0 (nI q) = v_X0_figure (cv S 0) (nI q) := by
      have := e_X0_figure S 0 (cv S 0) (nI q)
      rw [emb_cv] at this
      exact this
    rw [ec]
    exact (figure_eq h.2.2.1 h.2.1 (by omega)).symm
theorem d_prop (h : RR S T) (hk : k < 8) (hh : T 1 (13 + 14 * k + 0) = 1) (hq : q < 14) : x_X5_ofMember T (nI k) (nI q) = x_X4_propertyOf S k (nI q) := by
  have el : x_X5_ofMember T (nI k) (nI q) = w_ofMember (T 1) (nI k) (nI q) := by
    have := f_ofMember T (T 1, T 6, T 0 13) (nI k) (nI q)
    rw [emm_self] at this
    exact this
  have ea : x_X0_owedTo S 0 k = v_X0_owedTo (cv S 0) k := by
    have := e_X0_owedTo S 0 (cv S 0) k hk
    rw [emb_cv] at this
    exact this
  have eb : x_X2_property S 0 k (nI q) = v_X2_property (cv S 0) k (nI q) := by
    have := e_X2_property S 0 (cv S 0) k (nI q) hk
    rw [emb_cv] at this
    exact this
  rw [el, ← property_eq h.2.2.1 h.2.1 hk hh hq]
  unfold x_X4_propertyOf
  rw [nm_eq, nm_eq, ea, eb]
theorem d_debt (h : RR S T) (hk : k < 8) (hi : i < 8) : x_X5_debt T 1 (nI k) (nI i) = S (gD 0 k) i := by
  have e3 : S (gD 0 k) i = cv S 0 (125 + 8 * k + i) := by
    conv => lhs; rw [← emb_cv S 0]
    exact ebD hk hi
  unfold x_X5_debt
  rw [e3, nI_clamp (by omega), nI_clamp (by omega)]
  exact (h.2.1.d hk hi).symm
theorem d_here (h : RR S T) (hi : i < 8) : (bz (S (gM 0 i) 1) = 0) ↔ ¬ x_X5_of T 1 (nI i) 0 = 1 := by
  rw [xof, nof_0 hi, ← h.2.2.1.here h.2.1 hi]
  have : S (gM 0 i) 1 = cv S 0 (13 + 14 * i + 0) := (cvM_0 hi).symm
  rw [this]
theorem d_98 (h : RR S T) (hk : k < 8) (hh : T 1 (13 + 14 * k + 0) = 1) (P : Int64) : ∀ (n i : Nat) (v : Int64), i + n = 14 → ∃ u, x_X4_mixedWithMember_L14 (n + 1) S k P i v = x_X4_mixedWithMember_L59 9 S k P 0 u ∧ x_X5_digest_L98 (n + 1) T i v k = (u, T) := by
  intro n
  induction n with
  | zero =>
    intro i v hi
    obtain rfl : i = 14 := by omega
    rw [x_X4_mixedWithMember_L14.eq_2, x_X5_digest_L98.eq_2, if_pos (by decide), if_pos (by decide)]
    exact ⟨v, rfl, rfl⟩
  | succ n ih =>
    intro i v hi
    have hc : ¬ (14 : Int32) ≤ nI i := fun q => absurd (nI_of_le (a := 14) (b := i) (by omega) q (by decide)) (by omega)
    rw [x_X4_mixedWithMember_L14.eq_2, x_X5_digest_L98.eq_2, if_neg hc, if_neg hc]
    simp only [nm_eq]
    rw [d_prop h hk hh (by omega), mixed_eq]
    exact ih (i + 1) _ (by omega)
theorem d_129 (h : RR S T) (hk : k < 8) (P : Int64) : ∀ (n i : Nat) (v : Int64), i + n = 8 → ∃ u, x_X4_mixedWithMember_L59 (n + 1) S k P i v = 31 * (31 * u + (x_X0_weeksOfFund S 0 k).toInt64) + (x_X2_nextLimit S 0 k).toInt64 ∧ x_X5_digest_L129 (n + 1) T i v k = (u, T) := by
  intro n
  induction n with
  | zero =>
    intro i v hi
    obtain rfl : i = 8 := by omega
    rw [x_X4_mixedWithMember_L59.eq_2, x_X5_digest_L129.eq_2, if_pos (by decide), if_pos (by decide)]
    simp only [nm_eq, mixed_eq]
    exact ⟨v, rfl, rfl⟩
  | succ n ih =>
    intro i v hi
    have hc : ¬ (8 : Int32) ≤ nI i := fun q => absurd (nI_of_le (a := 8) (b := i) (by omega) q (by decide)) (by omega)
    rw [x_X4_mixedWithMember_L59.eq_2, x_X5_digest_L129.eq_2, if_neg hc, if_neg hc]
    simp only [nm_eq, mixed_eq]
    have hd := d_here h (i := i) (by omega)
    by_cases c : x_X5_of T 1 (nI i) 0 = 1
    · rw [if_pos c, if_neg (fun q => hd.mp q c), d_debt h hk (by omega)]
      exact ih (i + 1) _ (by omega)
    · rw [if_neg c, if_pos (hd.mpr c)]
      exact ih (i + 1) _ (by omega)
theorem lasts_rr (h : RR S T) (hk : k < 8) (hh : T 1 (13 + 14 * k + 0) = 1) : ∃ G', x_X5_lasts T (nI k) = (x_X0_weeksOfFund S 0 k, emm T 2 G') := by
  obtain ⟨G', e⟩ := lasts_thm (T := T) (G := (T 2, T 6, T 0 13)) h.2.2.1 (Int.le_refl 999) h.2.1 hk hh rfl
  rw [emm_self] at e
  have ec : x_X0_weeksOfFund S 0 k = v_X0_weeksOfFund (cv S 0) k := by
    have := e_X0_weeksOfFund S 0 (cv S 0) k hk
    rw [emb_cv] at this
    exact this
  exact ⟨G', by rw [e, ec]⟩
theorem limit_rr (h : RR S T) (hk : k < 8) (hh : T 1 (13 + 14 * k + 0) = 1) : x_X5_limitThen T (nI k) = x_X2_nextLimit S 0 k := by
  have ec : x_X2_nextLimit S 0 k = v_X2_nextLimit (cv S 0) k := by
    have := e_X2_nextLimit S 0 (cv S 0) k hk
    rw [emb_cv] at this
    exact this
  have el : x_X5_limitThen T (nI k) = w_limitThen (T 1) (nI k) := by
    have := f_limitThen T (T 1, T 6, T 0 13) (nI k)
    rw [emm_self] at this
    exact this
  rw [ec, el]
  exact (limit_rg h.2.1 hk hh).symm
theorem d_text (h : RR S T) {len : Nat} (hl : len ≤ 60) (e1 : S tO 1 = nI len) (e2 : T 0 5 = nI len) (e4 : S tC = T 4) (P : Int64) : ∀ (n i : Nat) (v : Int64), i + n = 60 → x_X5_digest_L310 (n + 1) T i v = (x_X4_mixedWithText_L16 (n + 1) S P i v, T) := by
  intro n
  induction n with
  | zero =>
    intro i v hi
    obtain rfl : i = 60 := by omega
    rw [x_X4_mixedWithText_L16.eq_2, x_X5_digest_L310.eq_2, e1, e2, if_pos (nI_le (a := len) (b := 60) hl (by decide)), if_pos (nI_le (a := len) (b := 60) hl (by decide))]
  | succ n ih =>
    intro i v hi
    have hc : ¬ (60 : Int32) ≤ nI i := fun q => absurd (nI_of_le (a := 60) (b := i) (by omega) q (by decide)) (by omega)
    rw [x_X4_mixedWithText_L16.eq_2, x_X5_digest_L310.eq_2, e1, e2]
    by_cases c : nI len ≤ nI i
    · rw [if_pos c, if_pos c]
    · rw [if_neg c, if_neg c, if_neg hc, nm_eq, nm_eq, mixed_eq, e4]
      exact ih (i + 1) _ (by omega)
theorem d_outs (x : Int32) (m : Nat) (hm : ∀ T : vS, ∀ i v n, i < 5 → x_X5_digest_L218 (n + 1) T i m v = nmp (x_X5_bringsBy T x (nI i)) (fun r s => x_X5_digest_L218 n s (i + 1) m (31 * v + r.toInt64))) (P : Int64) : ∀ (n i : Nat) (v : Int64) (T : vS), i + n = 5 → RR S T → ∃ G', x_X5_digest_L218 (n + 1) T i m v = ((x_X4_mixedWithOutcomes_L11 (n + 1) (x_X4_tryWeek S x) P x i v).1, emm T 2 G') ∧ (x_X4_mixedWithOutcomes_L11 (n + 1) (x_X4_tryWeek S x) P x i v).2 = x_X4_tryWeek S x := by
  intro n
  induction n with
  | zero =>
    intro i v T hi h
    obtain rfl : i = 5 := by omega
    rw [x_X5_digest_L218.eq_2, x_X4_mixedWithOutcomes_L11.eq_2, if_pos (by decide), if_pos (by decide)]
    exact ⟨(T 2, T 6, T 0 13), by rw [emm_self], rfl⟩
  | succ n ih =>
    intro i v T hi h
    have hc : ¬ (5 : Int32) ≤ nI i := fun q => absurd (nI_of_le (a := 5) (b := i) (by omega) q (by decide)) (by omega)
    obtain ⟨G', e⟩ := outs h x (q := i) (by omega)
    rw [hm T i v (n + 1) (by omega), e, nmp_eq, x_X4_mixedWithOutcomes_L11.eq_2, if_neg hc, nm_eq, nm_eq, mixed_eq]
    obtain ⟨G2, e2, e3⟩ := ih (i + 1) (31 * v + (x_X4_outcome (x_X4_tryWeek S x) (nI i)).toInt64) (emm T 2 G') (by omega) h.thn
    dsimp only
    rw [e2, emm_emm]
    exact ⟨G2, rfl, e3⟩
end OPDIG
