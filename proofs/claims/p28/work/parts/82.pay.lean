section OPPAY
variable {S T : vS} {F H : vF} {p1 p2 p3 x y : Int32} {k n i : Nat}
/-- rows behind the saving, turned by both sides -/
theorem CE.rows {mp : Nat → Int32} {S2 T2 : vS} {G : vG} {r r' : Int32} (k1 : RR S2 T2) (h0 : T2 0 6 = mp 0) (hR : RG G.1 F) (hI : IR 999 G.1) (e : r = r') : CE mp ((0, r), emb S2 0 F) (r', emm T2 1 G) := by
  refine ⟨RR.rows k1.1 k1.2.2.2 hR hI, ?_, fun _ => e⟩
  show emm T2 1 G 0 6 = mp 0
  rw [em_out (by decide) (by decide) (by omega), h0]
theorem CE.no {mp : Nat → Int32} (h : RR S T) {c : Nat} (hc : c ≠ 0) (hx : mp c = x) : CE mp ((c, 0), S) (0, st T 0 6 x) := by
  refine ⟨h.thrown, ?_, fun q => absurd (show c = 0 from q) hc⟩
  show st T 0 6 x 0 6 = mp c
  rw [st_at, if_pos ⟨rfl, rfl⟩, hx]
/-- IOOBE, IAE, ISE as the law numbers them: 1, 2, 3 -/
def mp3 (c : Nat) : Int32 := if c = 0 then 0 else if c = 2 then 1 else if c = 3 then 2 else 3
theorem st06 : st T 0 6 x 0 6 = x := by rw [st_at, if_pos ⟨rfl, rfl⟩]
theorem pay_def : x_X5_payBack T p1 p2 = if x_X5_mayPay T p1 p2 = 0 then nmp (x_X5_pays (x_X5_saves (st T 0 6 0)) p1 p2) (fun r s => (r, s)) else (0, st T 0 6 (x_X5_mayPay T p1 p2)) := by
  unfold x_X5_payBack
  generalize x_X5_mayPay T p1 p2 = M
  simp only [nm_eq, st06]
  by_cases c : M = 0
  · rw [if_pos c, if_pos c, c]
  · rw [if_neg c, if_neg c]
theorem help_def : x_X5_help T p1 p2 = if x_X5_mayHelp T p1 p2 = 0 then nmp (x_X5_helps (x_X5_saves (st T 0 6 0)) p1 p2) (fun r s => (r, s)) else (0, st T 0 6 (x_X5_mayHelp T p1 p2)) := by
  unfold x_X5_help
  generalize x_X5_mayHelp T p1 p2 = M
  simp only [nm_eq, st06]
  by_cases c : M = 0
  · rw [if_pos c, if_pos c, c]
  · rw [if_neg c, if_neg c]
theorem lend_def : x_X5_lend T p1 p2 p3 = if x_X5_mayLend T p1 p2 p3 = 0 then nmp (x_X5_lends (x_X5_saves (st T 0 6 0)) p1 p2 p3) (fun r s => (r, s)) else (0, st T 0 6 (x_X5_mayLend T p1 p2 p3)) := by
  unfold x_X5_lend
  generalize x_X5_mayLend T p1 p2 p3 = M
  simp only [nm_eq, st06]
  by_cases c : M = 0
  · rw [if_pos c, if_pos c, c]
  · rw [if_neg c, if_neg c]
theorem xin_no {a b c : Int32} (h : a < b ∨ c < a) : x_X5_in T a b c = 0 := by
  unfold x_X5_in
  by_cases c1 : a < b
  · rw [if_pos c1]
  · rw [if_neg c1, if_pos (h.resolve_left c1)]
theorem xin_yes {a b c : Int32} (h1 : ¬ a < b) (h2 : ¬ c < a) : x_X5_in T a b c = 1 := by
  unfold x_X5_in
  rw [if_neg h1, if_neg h2]
theorem xdebts : x_X5_debts T 1 p1 = w_debts (T 1) p1 := by
  have := f_debts T (q := 1) (Or.inl rfl) (T 1, T 6, T 0 13) p1
  rw [emm_self] at this
  exact this
theorem pay_no (h : x_X5_isMember T p1 = 0) : x_X5_mayPay T p1 p2 = 1 := by
  unfold x_X5_mayPay
  simp only [nm_eq]
  rw [h, if_pos rfl]
theorem pay_rng (h : x_X5_isMember T p1 = 1) (h2 : p2 < 1 ∨ 2000 < p2) : x_X5_mayPay T p1 p2 = 2 := by
  unfold x_X5_mayPay
  simp only [nm_eq]
  rw [h, if_neg (by decide), xin_no h2, if_pos rfl]
theorem pay_yes (h : x_X5_isMember T p1 = 1) (h1 : ¬ p2 < 1) (h2 : ¬ 2000 < p2) : x_X5_mayPay T p1 p2 = if w_debts (T 1) p1 = 0 then 3 else 0 := by
  unfold x_X5_mayPay
  simp only [nm_eq]
  rw [h, if_neg (by decide), xin_yes h1 h2, if_neg (by decide), xdebts]
theorem op_payBack (h : RR S T) (p1 p2 : Int32) : CE mp3 (x_X4_payBack S p1 p2) (x_X5_payBack T p1 p2) := by
  rw [pay_def]
  unfold x_X4_payBack
  rcases memb h p1 with ⟨k, hk, rfl, hh, e1, e2⟩ | ⟨e1, e2⟩
  · rw [e1]
    unfold tbp x_X4_checkMoney
    rw [if_pos rfl]
    dsimp only
    by_cases c1 : p2 < 1
    · rw [if_pos c1, pay_rng e2 (Or.inl c1), if_neg (by decide)]
      exact CE.no h (by decide) rfl
    · rw [if_neg c1]
      by_cases c2 : p2 ≤ 2000
      · rw [if_pos c2, pay_yes e2 c1 (nlt_of_le c2), if_pos rfl]
        have ed : x_X2_hasDebts S 0 k = v_X2_hasDebts (cv S 0) k := by
          have := e_X2_hasDebts S 0 (cv S 0) k hk
          rw [emb_cv] at this
          exact this
        have hd := debts0 h.2.2.1 (by decide) h.2.1 hk
        simp only [nm_eq]
        rw [ed]
        by_cases c4 : v_X2_hasDebts (cv S 0) k = 0
        · rw [if_pos c4, if_pos (hd.mp c4), if_neg (by decide)]
          exact CE.no h (by decide) rfl
        · rw [if_neg c4, if_neg (fun q => c4 (hd.mpr q)), if_pos rfl]
          obtain ⟨S2, T2, q1, q2, k1, k2, k6, hS, hT⟩ := after_keep (y := 0) h
          rw [q1, q2]
          have t1 : 1 ≤ p2.toInt ∧ p2.toInt ≤ 2000 := by
            rw [Int32.lt_iff_toInt_lt, show (1 : Int32).toInt = 1 by decide] at c1
            rw [Int32.le_iff_toInt_le, show (2000 : Int32).toInt = 2000 by decide] at c2
            exact ⟨by omega, c2⟩
          obtain ⟨r, G', e, e3, hR', hI', _⟩ := pay_thm k1.2.2.1 (Int.le_refl 999) k1.2.1 hk t1 (G := (T2 1, T2 6, T2 0 13)) rfl
          have eM : x_X5_pays T2 (nI k) p2 = (r, emm T2 1 G') := by
            conv => lhs; rw [hT]
            rw [f_pays, e]
            rfl
          have eC : x_X0_takePayment S2 0 k p2 = mpe S2 0 (v_X0_takePayment (cv S2 0) k p2) := by
            conv => lhs; rw [hS]
            exact e_X0_takePayment S2 0 (cv S2 0) k p2 hk
          rw [eM, eC, nmp_eq, nmp_eq]
          exact CE.rows k1 k6 hR' hI' e3
      · rw [if_neg c2, pay_rng e2 (Or.inr (fa_of_nle c2)), if_neg (by decide)]
        exact CE.no h (by decide) rfl
  · rw [e1, pay_no e2]
    unfold tbp
    rw [if_neg (by decide), if_neg (by decide)]
    exact CE.no h (by decide) rfl
end OPPAY
