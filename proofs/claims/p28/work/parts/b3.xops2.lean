section XOPS2
variable {S T : vS} {F H : vF} {k m n i g w o p q : Nat} {x y d p1 p2 p3 : Int32} {c c' : Int} {u : Nat → Int}
/-- a loan begins -/
theorem xr_lend (h : XR c F) (hk : k < 8) (ha : 1 ≤ p2.toInt) (hb : 1 ≤ p3) : XR c (v_X0_grantLoan F k p2 p3) := by
  have hb' : ¬ p3 = 0 := fun z => by rw [z] at hb; exact absurd hb (by decide)
  unfold v_X0_grantLoan v_X2_borrow
  rw [if_pos hb]
  simp only [nm_eq]
  generalize p2 / p3 = v
  generalize p2 * F 4 / 1000 = z
  have e0 : ∀ y, (upd (upd (upd (upd (upd (upd F (13 + 14 * k + 2) p2) (13 + 14 * k + 5) v) (13 + 14 * k + 6) z) (13 + 14 * k + 3) p2) (13 + 14 * k + 4) p3) 9 y) 0 = F 0 := fun y => by
    rw [upd_ne (by omega), upd_ne (by omega), upd_ne (by omega), upd_ne (by omega), upd_ne (by omega), upd_ne (by omega)]
  unfold XR
  rw [e0]
  refine ⟨XB.up ?_ (Or.inl (nx_g (by decide) (by decide))), h.2⟩
  obtain ⟨⟨h1, h2, h3, h4, h5, h6, h7⟩, hw⟩ := h
  have fr : ∀ j, ¬ (13 + 14 * k + 2 ≤ j ∧ j ≤ 13 + 14 * k + 6) → (upd (upd (upd (upd (upd F (13 + 14 * k + 2) p2) (13 + 14 * k + 5) v) (13 + 14 * k + 6) z) (13 + 14 * k + 3) p2) (13 + 14 * k + 4) p3) j = F j := fun j hj => by
    rw [upd_ne (by omega), upd_ne (by omega), upd_ne (by omega), upd_ne (by omega), upd_ne (by omega)]
  refine ⟨fun m hm => ?_, fun m hm => ?_, fun m hm => ?_, ?_, fun m hm => ?_, fun m hm => ?_, ?_⟩
  · rw [fr _ (by omega)]; exact h1 m hm
  · rw [fr _ (by omega), fr _ (by omega)]; exact h2 m hm
  · rw [fr _ (by omega), fr _ (by omega)]; exact h3 m hm
  · rw [fr _ (by omega)]
    rcases h4 with h4 | ⟨q, hq, e1, e2⟩
    · exact Or.inl h4
    · exact Or.inr ⟨q, hq, e1, by rw [fr _ (by omega)]; exact e2⟩
  · rw [fr _ (by omega), fr _ (by omega), fr _ (by omega)]
    intro z
    obtain ⟨a, b, d⟩ := h5 m hm z
    exact ⟨a, b, fun o ho => by rw [fr _ (by omega), fr _ (by omega)]; exact d o ho⟩
  · by_cases e : m = k
    · subst e
      refine Or.inr ?_
      simp (disch := omega) only [upd_ne, upd_same]
      exact ⟨ha, Int.le_refl _⟩
    · rw [fr _ (by omega), fr _ (by omega), fr _ (by omega)]; exact h6 m hm
  · rw [fr _ (by omega)]; exact h7
theorem ok_lend (h : RX c S) (hk : k < 8) (hh : ¬ cv S 0 (13 + 14 * k + 0) = 0) (ha : 10 ≤ p2.toInt ∧ p2.toInt ≤ 2000) (hb : 1 ≤ p3.toInt ∧ p3.toInt ≤ 52) : OKs c S (x_X4_lend S (nI k) p2 p3) := by
  obtain ⟨T, hT⟩ := h.1
  have hop := (op_lend hT (nI k) p2 p3).1
  have i10 : (10 : Int32).toInt = 10 := by decide
  have i2000 : (2000 : Int32).toInt = 2000 := by decide
  have i1 : (1 : Int32).toInt = 1 := by decide
  have i52 : (52 : Int32).toInt = 52 := by decide
  have n1 : ¬ p2 < 10 := by rw [Int32.lt_iff_toInt_lt]; omega
  have n2 : ¬ (2000 : Int32) < p2 := by rw [Int32.lt_iff_toInt_lt]; omega
  have n3 : ¬ p3 < 1 := by rw [Int32.lt_iff_toInt_lt]; omega
  have n4 : p3 ≤ 52 := by rw [Int32.le_iff_toInt_le]; omega
  unfold x_X4_lend tbp at hop ⊢
  rw [mth_y hk hh, if_pos rfl] at hop ⊢
  dsimp only at hop ⊢
  rw [if_neg n1, if_neg n2, if_neg n3, if_pos n4, nm_eq] at hop ⊢
  by_cases cc : x_X2_mayBorrow S 0 k p2 = 0
  · rw [if_pos cc]; exact Or.inr ⟨rfl, rfl⟩
  · rw [if_neg cc] at hop ⊢
    simp only [nm_eq] at hop ⊢
    have e := e_X0_grantLoan (x_X1_keep S 0) 0 (cv (x_X1_keep S 0) 0) k p2 p3 hk
    rw [emb_cv, h.cvk] at e
    rw [e] at hop ⊢
    have hx := (xr_lend (p2 := p2) (p3 := p3) h.2.1 hk (by omega) (by rw [Int32.le_iff_toInt_le]; omega)).mono (show c ≤ c + 1 by omega)
    refine Or.inl ⟨rfl, ?_, h.mk (by omega) hop hx⟩
    show 0 ≤ (x_X2_due (emb (x_X1_keep S 0) 0 (v_X0_grantLoan (cv S 0) k p2 p3)) 0 k).toInt
    rw [e_X2_due _ _ _ _ hk]
    have hR := hop.2.1
    have ec : v_X2_due (cv (emb (x_X1_keep S 0) 0 (v_X0_grantLoan (cv S 0) k p2 p3)) 0) k = v_X2_due (v_X0_grantLoan (cv S 0) k p2 p3) k := by
      rw [← e_X2_due (emb (x_X1_keep S 0) 0 (v_X0_grantLoan (cv S 0) k p2 p3)) 0 _ k hk, emb_cv, e_X2_due _ _ _ _ hk]
    rw [← ec]
    exact due_nn hop.2.2.1 hR hk
/-- a week's answer -/
theorem week_nn {W : Int} {G G' : vG} {r : Int32} (hI : IR W F) (hW : W ≤ 999) (hG : G.1 = F) (e : w_ends G = (r, G')) : 0 ≤ r.toInt := by
  obtain ⟨Sh, hz, hcut⟩ := ends_cut G
  rw [hG] at hcut
  have hS1 := is_it 8 0 _ _ rfl (hI.is hW hz (u := 0))
  have := (Prod.mk.inj (e.symm.trans hcut)).1
  rw [this]
  exact hS1.2.2.2.2.2.1.2
theorem ok_week (h : RX c S) : OKs c S (x_X4_week S) := by
  obtain ⟨T, hT⟩ := h.1
  have hop := (op_week hT).1
  unfold x_X4_week at hop ⊢
  rw [nm_eq] at hop ⊢
  by_cases cc : x_X0_mayEndWeek S 0 = 0
  · rw [if_pos cc]; exact Or.inr ⟨rfl, rfl⟩
  · rw [if_neg cc] at hop ⊢
    simp only [nm_eq] at hop ⊢
    have e := e_X0_endWeek (x_X1_keep S 0) 0 (cv (x_X1_keep S 0) 0)
    rw [emb_cv, h.cvk] at e
    rw [e] at hop ⊢
    have hI := hT.2.2.1
    have w0 : cv S 0 0 = T 1 0 := hT.2.1.g (by decide)
    have hw : 0 ≤ (cv S 0 0).toInt ∧ (cv S 0 0).toInt ≤ 999 := by rw [w0]; exact hI.2.2.2.1
    refine Or.inl ⟨rfl, ?_, h.mk (by omega) hop (xr_week h.2.1 (LM_H hT) hw)⟩
    show 0 ≤ (emb (x_X1_keep S 0) 0 (v_X0_endWeek (cv S 0)) (gG 0) 9 - x_X1_keep S 0 (gG 0) 9).toInt
    rw [ebG_9]
    have e9 : x_X1_keep S 0 (gG 0) 9 = cv S 0 11 := by rw [← h.cvk]; rfl
    obtain ⟨r, G', e1, _, _, e2, _⟩ := week_thm hI (Int.le_refl 999) hT.2.1 (G := (T 1, T 6, T 0 13)) rfl
    rw [e9, e2]
    have : cv S 0 11 + r - cv S 0 11 = r := by grind
    rw [this]
    exact week_nn hI (Int.le_refl 999) rfl e1
/-- early enough a week always ends -/
theorem week_0 (h : RX c S) (hc : c ≤ 900) : (x_X4_week S).1.1 = 0 := by
  have hw := h.2.1.2
  unfold x_X4_week x_X0_mayEndWeek
  have e3 : S (gG 0) 3 = cv S 0 0 := rfl
  have n : ¬ (999 : Int32) ≤ S (gG 0) 3 := by
    have i : (999 : Int32).toInt = 999 := by decide
    rw [e3, Int32.le_iff_toInt_le, i]; omega
  rw [nm_eq, if_neg n, if_neg (by decide)]
  simp only [nm_eq]
/-- paying back -/
theorem xb_pay (hk : k < 8) {x : Int32} : ∀ (n i : Nat) (F : vF) (v : Int32), i + n = 8 → XB u c F → ¬ F (13 + 14 * k + 0) = 0 → (∀ p, p < 8 → 0 ≤ (F (125 + 8 * k + p)).toInt) → 0 ≤ v.toInt → v.toInt ≤ x.toInt →
    XB u c (v_X0_takePayment_L77 (n + 1) F k x i v).2 ∧ 0 ≤ ((v_X0_takePayment_L77 (n + 1) F k x i v).1).toInt ∧ (v_X0_takePayment_L77 (n + 1) F k x i v).2 0 = F 0 := by
  intro n
  induction n with
  | zero =>
    intro i F v hi h h0 hd hv hvx
    obtain rfl : i = 8 := by omega
    rw [v_X0_takePayment_L77.eq_2, if_pos le8]
    refine ⟨h, ?_, rfl⟩
    show 0 ≤ (x - v).toInt
    have := x.toInt_lt
    rw [fb_subI (by omega) (by omega)]
    omega
  | succ n ih =>
    intro i F v hi h h0 hd hv hvx
    have hi8 : i < 8 := by omega
    rw [v_X0_takePayment_L77.eq_2, if_neg (ge8 hi8)]
    simp only [nm_eq]
    rw [min_eq]
    have hs := min_rng (F (125 + 8 * k + i)) v (hd i hi8) hv
    have hz : F (125 + 8 * k + i) = 0 → (if F (125 + 8 * k + i) ≤ v then F (125 + 8 * k + i) else v) = 0 := by
      intro z
      rw [z] at hs ⊢
      rw [z32] at hs
      exact Int32.toInt_inj.mp (by rw [z32]; omega)
    generalize (if F (125 + 8 * k + i) ≤ v then F (125 + 8 * k + i) else v) = s at hs hz ⊢
    have b1 := (F (125 + 8 * k + i)).toInt_lt
    have b2 := v.toInt_lt
    have t1 : (F (125 + 8 * k + i) - s).toInt = (F (125 + 8 * k + i)).toInt - s.toInt := fb_subI (by omega) (by omega)
    have t2 : (v - s).toInt = v.toInt - s.toInt := fb_subI (by omega) (by omega)
    have hx : XB u c (upd F (125 + 8 * k + i) (F (125 + 8 * k + i) - s)) := by
      by_cases c0 : F (125 + 8 * k + i) = 0
      · rw [hz c0, c0, Int32.sub_self, fa_upd_same c0]; exact h
      · have hne : k ≠ i := fun z => c0 (by rw [← z]; exact h.1 k hk)
        have hh2 : ¬ F (13 + 14 * i + 0) = 0 := fun z => c0 ((h.2.2.2.2.1 i hi8 z).2.2 k hk).2
        exact h.dd hk hi8 hne h0 hh2
    obtain ⟨a, b, e⟩ := ih (i + 1) (upd F (125 + 8 * k + i) (F (125 + 8 * k + i) - s)) (v - s) (by omega) hx (by rw [upd_ne (by omega)]; exact h0) (fun p hp => by
      rw [upd_at]
      by_cases q : p = i
      · rw [if_pos (by omega), t1]; omega
      · rw [if_neg (by omega)]; exact hd p hp) (by rw [t2]; omega) (by rw [t2]; omega)
    exact ⟨a, b, by rw [e, upd_ne (by omega)]⟩
theorem xr_pay (h : XR c F) (hk : k < 8) (h0 : ¬ F (13 + 14 * k + 0) = 0) (hd : ∀ p, p < 8 → 0 ≤ (F (125 + 8 * k + p)).toInt) (h10 : 0 ≤ (F (13 + 14 * k + 10)).toInt) (h11 : 0 ≤ (F (13 + 14 * k + 11)).toInt) (hx : 0 ≤ x.toInt) :
    XR c (v_X0_takePayment F k x).2 ∧ 0 ≤ ((v_X0_takePayment F k x).1).toInt := by
  unfold v_X0_takePayment
  simp only [nm_eq]
  rw [min_eq]
  have hs := min_rng (F (13 + 14 * k + 10)) x h10 hx
  generalize (if F (13 + 14 * k + 10) ≤ x then F (13 + 14 * k + 10) else x) = s at hs ⊢
  have bx := x.toInt_lt
  have a1 : XB (fun _ => (F 0).toInt) c (upd (upd F (13 + 14 * k + 10) (F (13 + 14 * k + 10) - s)) 11 (upd F (13 + 14 * k + 10) (F (13 + 14 * k + 10) - s) 11 + s)) := (XB.h h.1 hk h0 (Or.inl rfl)).up (Or.inl (nx_g (by decide) (by decide)))
  have e11 : upd (upd F (13 + 14 * k + 10) (F (13 + 14 * k + 10) - s)) 11 (upd F (13 + 14 * k + 10) (F (13 + 14 * k + 10) - s) 11 + s) (13 + 14 * k + 11) = F (13 + 14 * k + 11) := by rw [upd_ne (by omega), upd_ne (by omega)]
  rw [e11]
  have b0 : ¬ upd (upd F (13 + 14 * k + 10) (F (13 + 14 * k + 10) - s)) 11 (upd F (13 + 14 * k + 10) (F (13 + 14 * k + 10) - s) 11 + s) (13 + 14 * k + 0) = 0 := by rw [upd_ne (by omega), upd_ne (by omega)]; exact h0
  have bd : ∀ p, p < 8 → 0 ≤ (upd (upd F (13 + 14 * k + 10) (F (13 + 14 * k + 10) - s)) 11 (upd F (13 + 14 * k + 10) (F (13 + 14 * k + 10) - s) 11 + s) (125 + 8 * k + p)).toInt := fun p hp => by rw [upd_ne (by omega), upd_ne (by omega)]; exact hd p hp
  have be : upd (upd F (13 + 14 * k + 10) (F (13 + 14 * k + 10) - s)) 11 (upd F (13 + 14 * k + 10) (F (13 + 14 * k + 10) - s) 11 + s) 0 = F 0 := by rw [upd_ne (by omega), upd_ne (by omega)]
  generalize upd (upd F (13 + 14 * k + 10) (F (13 + 14 * k + 10) - s)) 11 (upd F (13 + 14 * k + 10) (F (13 + 14 * k + 10) - s) 11 + s) = F1 at a1 b0 bd be ⊢
  have t1 : (x - s).toInt = x.toInt - s.toInt := fb_subI (by omega) (by omega)
  rw [min_eq]
  have hs2 := min_rng (F (13 + 14 * k + 11)) (x - s) h11 (by rw [t1]; omega)
  generalize (if F (13 + 14 * k + 11) ≤ x - s then F (13 + 14 * k + 11) else x - s) = z at hs2 ⊢
  have t2 : (x - s - z).toInt = x.toInt - s.toInt - z.toInt := by rw [fb_subI (by omega) (by omega), t1]
  have a2 : XB (fun _ => (F 0).toInt) c (upd (upd F1 (13 + 14 * k + 11) (F (13 + 14 * k + 11) - z)) 8 (upd F1 (13 + 14 * k + 11) (F (13 + 14 * k + 11) - z) 8 + z)) := (a1.h hk b0 (Or.inr rfl)).up (Or.inl (nx_g (by decide) (by decide)))
  obtain ⟨r1, r2, r3⟩ := xb_pay (x := x) hk 8 0 _ (x - s - z) rfl a2 (by rw [upd_ne (by omega), upd_ne (by omega)]; exact b0) (fun p hp => by rw [upd_ne (by omega), upd_ne (by omega)]; exact bd p hp) (by rw [t2]; omega) (by rw [t2]; omega)
  refine ⟨?_, r2⟩
  unfold XR
  rw [r3, upd_ne (by omega), upd_ne (by omega), be]
  exact ⟨r1, h.2⟩
theorem ok_payBack (h : RX c S) (hk : k < 8) (hh : ¬ cv S 0 (13 + 14 * k + 0) = 0) (ha : 1 ≤ p2.toInt ∧ p2.toInt ≤ 2000) : OKs c S (x_X4_payBack S (nI k) p2) := by
  obtain ⟨T, hT⟩ := h.1
  have hop := (op_payBack hT (nI k) p2).1
  have i2000 : (2000 : Int32).toInt = 2000 := by decide
  have i1 : (1 : Int32).toInt = 1 := by decide
  have n1 : ¬ p2 < 1 := by rw [Int32.lt_iff_toInt_lt]; omega
  have n2 : p2 ≤ 2000 := by rw [Int32.le_iff_toInt_le]; omega
  unfold x_X4_payBack tbp x_X4_checkMoney at hop ⊢
  rw [mth_y hk hh, if_pos rfl] at hop ⊢
  dsimp only at hop ⊢
  rw [if_neg n1, if_pos n2, if_pos rfl, nm_eq] at hop ⊢
  by_cases cc : x_X2_hasDebts S 0 k = 0
  · rw [if_pos cc]; exact Or.inr ⟨rfl, rfl⟩
  · rw [if_neg cc, nm_eq, nmp_eq] at hop ⊢
    have e := e_X0_takePayment (x_X1_keep S 0) 0 (cv (x_X1_keep S 0) 0) k p2 hk
    rw [emb_cv, h.cvk] at e
    rw [e] at hop ⊢
    have hD := hT.2.2.1.2.2.1 k hk
    obtain ⟨a, b⟩ := xr_pay (x := p2) h.2.1 hk hh (fun p hp => by rw [hT.2.1.d hk hp]; exact hD.2.2 p hp) (by rw [hT.2.1.h hk (w := 10) (by decide)]; exact hD.1) (by rw [hT.2.1.h hk (w := 11) (by decide)]; exact hD.2.1) (by omega)
    exact Or.inl ⟨rfl, b, h.mk (by omega) hop (a.mono (by omega))⟩
theorem ok_help (h : RX c S) (hk : k < 8) (hh : ¬ cv S 0 (13 + 14 * k + 0) = 0) (ha : 1 ≤ p2.toInt ∧ p2.toInt ≤ 2000) : OKs c S (x_X4_help S (nI k) p2) := by
  obtain ⟨T, hT⟩ := h.1
  have hop := (op_help hT (nI k) p2).1
  have i2000 : (2000 : Int32).toInt = 2000 := by decide
  have i1 : (1 : Int32).toInt = 1 := by decide
  have n1 : ¬ p2 < 1 := by rw [Int32.lt_iff_toInt_lt]; omega
  have n2 : p2 ≤ 2000 := by rw [Int32.le_iff_toInt_le]; omega
  unfold x_X4_help tbp x_X4_checkMoney at hop ⊢
  rw [mth_y hk hh, if_pos rfl] at hop ⊢
  dsimp only at hop ⊢
  rw [if_neg n1, if_pos n2, if_pos rfl, nm_eq] at hop ⊢
  by_cases cc : x_X0_mayHelp S 0 k p2 = 0
  · rw [if_pos cc]; exact Or.inr ⟨rfl, rfl⟩
  · rw [if_neg cc] at hop ⊢
    simp only [nm_eq] at hop ⊢
    have e := e_X0_grantHelp (x_X1_keep S 0) 0 (cv (x_X1_keep S 0) 0) k p2 hk
    rw [emb_cv, h.cvk] at e
    rw [e] at hop ⊢
    have hx : XR c (v_X0_grantHelp (cv S 0) k p2) := by
      unfold v_X0_grantHelp
      simp only [nm_eq]
      have a1 := (XB.up (i := 8) (x := cv S 0 8 - p2) h.2.1.1 (Or.inl (nx_g (by decide) (by decide)))).h (k := k) (w := 11) (x := upd (cv S 0) 8 (cv S 0 8 - p2) (13 + 14 * k + 11) + p2) hk (by rw [upd_ne (by omega)]; exact hh) (Or.inr rfl)
      unfold XR
      rw [upd_ne (show 0 ≠ 13 + 14 * k + 11 by omega), upd_ne (show 0 ≠ 8 by omega)]
      exact ⟨a1, h.2.1.2⟩
    refine Or.inl ⟨rfl, ?_, h.mk (by omega) hop (hx.mono (by omega))⟩
    show 0 ≤ (emb (x_X1_keep S 0) 0 (v_X0_grantHelp (cv S 0) k p2) (gG 0) 6).toInt
    have e8 : emb (x_X1_keep S 0) 0 (v_X0_grantHelp (cv S 0) k p2) (gG 0) 6 = cv (emb (x_X1_keep S 0) 0 (v_X0_grantHelp (cv S 0) k p2)) 0 8 := rfl
    rw [e8, hop.2.1.g (j := 8) (by decide)]
    exact hop.2.2.1.2.2.2.2.2.2.2.1.1
/-- a new cycle -/
theorem half {a : Nat} (ha : a < 2 ^ 31) : nI a / 2 = nI (a / 2) := pk_div (d := 2) ha (by decide) (by decide)
theorem limit_rng (hl : 20 ≤ (F (13 + 14 * k + 1)).toInt ∧ (F (13 + 14 * k + 1)).toInt ≤ 2000) : 20 ≤ (v_X2_nextLimit F k).toInt ∧ (v_X2_nextLimit F k).toInt ≤ 2000 ∧ (F (13 + 14 * k + 8) = 0 → (F (13 + 14 * k + 1)).toInt ≤ (v_X2_nextLimit F k).toInt) := by
  unfold v_X2_nextLimit
  generalize F (13 + 14 * k + 1) = l at hl ⊢
  obtain ⟨a, ha, rfl⟩ := nI_of (x := l) (by rw [Int32.lt_iff_toInt_lt, z32]; omega)
  rw [nI_toInt ha] at hl ⊢
  have i20 : (20 : Int32).toInt = 20 := by decide
  have i2000 : (2000 : Int32).toInt = 2000 := by decide
  rw [half ha, nI_add]
  by_cases c1 : F (13 + 14 * k + 8) = 0
  · rw [if_pos c1]
    by_cases c2 : (2000 : Int32) < nI (a + a / 2)
    · rw [if_pos c2, i2000]; exact ⟨by omega, by omega, fun _ => by omega⟩
    · rw [if_neg c2, nI_toInt (by omega)]
      rw [Int32.lt_iff_toInt_lt, i2000, nI_toInt (by omega)] at c2
      exact ⟨by omega, by omega, fun _ => by omega⟩
  · rw [if_neg c1]
    by_cases c2 : F (13 + 14 * k + 8) < 3
    · rw [if_pos c2, nI_toInt ha]; exact ⟨by omega, by omega, fun z => absurd z c1⟩
    · rw [if_neg c2]
      by_cases c3 : nI (a / 2) < 20
      · rw [if_pos c3, i20]; exact ⟨by omega, by omega, fun z => absurd z c1⟩
      · rw [if_neg c3, nI_toInt (by omega)]
        rw [Int32.lt_iff_toInt_lt, i20, nI_toInt (by omega)] at c3
        exact ⟨by omega, by omega, fun z => absurd z c1⟩
theorem xb_limit (h : XB u c F) (hk : k < 8) (hx : ¬ F (13 + 14 * k + 0) = 0 → 20 ≤ x.toInt ∧ x.toInt ≤ 2000) : XB u c (upd (upd F (13 + 14 * k + 1) x) (13 + 14 * k + 8) 0) := by
  obtain ⟨h1, h2, h3, h4, h5, h6, h7⟩ := h
  refine ⟨fun m hm => ?_, fun m hm => ?_, fun m hm => ?_, ?_, fun m hm => ?_, fun m hm => ?_, ?_⟩
  · rw [upd_ne (by omega), upd_ne (by omega)]; exact h1 m hm
  · rw [upd_ne (show 13 + 14 * m + 0 ≠ 13 + 14 * k + 8 by omega), upd_ne (show 13 + 14 * m + 0 ≠ 13 + 14 * k + 1 by omega), upd_ne (show 13 + 14 * m + 1 ≠ 13 + 14 * k + 8 by omega)]
    by_cases e : m = k
    · subst e
      rw [upd_same]; exact hx
    · rw [upd_ne (by omega)]; exact h2 m hm
  · obtain ⟨a, b, d⟩ := h3 m hm
    rw [upd_ne (show 13 + 14 * m + 9 ≠ 13 + 14 * k + 8 by omega), upd_ne (show 13 + 14 * m + 9 ≠ 13 + 14 * k + 1 by omega)]
    by_cases e : m = k
    · subst e
      rw [upd_same, z32]
      exact ⟨Int.le_refl _, by omega, d⟩
    · rw [upd_ne (by omega), upd_ne (by omega)]; exact ⟨a, b, d⟩
  · rw [upd_ne (by omega), upd_ne (by omega)]
    rcases h4 with h4 | ⟨q, hq, e1, e2⟩
    · exact Or.inl h4
    · exact Or.inr ⟨q, hq, e1, by rw [upd_ne (by omega), upd_ne (by omega)]; exact e2⟩
  · rw [upd_ne (show 13 + 14 * m + 0 ≠ 13 + 14 * k + 8 by omega), upd_ne (show 13 + 14 * m + 0 ≠ 13 + 14 * k + 1 by omega)]
    intro z
    obtain ⟨a, b, d⟩ := h5 m hm z
    rw [upd_ne (by omega), upd_ne (by omega), upd_ne (by omega), upd_ne (by omega)]
    exact ⟨a, b, fun o ho => by rw [upd_ne (by omega), upd_ne (by omega), upd_ne (by omega), upd_ne (by omega)]; exact d o ho⟩
  · rw [upd_ne (by omega), upd_ne (by omega), upd_ne (by omega), upd_ne (by omega), upd_ne (by omega), upd_ne (by omega)]; exact h6 m hm
  · rw [upd_ne (by omega), upd_ne (by omega)]; exact h7
theorem xb_cyc (h : XB u c F) (hc : c ≤ 1000) : XB u (c + 1) (upd F 1 (F 1 + 1)) ∧ 0 ≤ (F 1 + 1).toInt := by
  have h8 := h.2.2.2.2.2.2
  have one : (1 : Int32).toInt = 1 := by decide
  have e : (F 1 + 1).toInt = (F 1).toInt + 1 := by rw [fb_addI (by rw [one]; omega) (by rw [one]; omega), one]
  obtain ⟨h1, h2, h3, h4, h5, h6, h7⟩ := h
  refine ⟨⟨fun m hm => ?_, fun m hm => ?_, fun m hm => ?_, ?_, fun m hm => ?_, fun m hm => ?_, ?_⟩, by rw [e]; omega⟩
  · rw [upd_ne (by omega)]; exact h1 m hm
  · rw [upd_ne (by omega), upd_ne (by omega)]; exact h2 m hm
  · rw [upd_ne (by omega), upd_ne (by omega)]; exact h3 m hm
  · rw [upd_ne (by omega)]
    rcases h4 with h4 | ⟨q, hq, e1, e2⟩
    · exact Or.inl h4
    · exact Or.inr ⟨q, hq, e1, by rw [upd_ne (by omega)]; exact e2⟩
  · rw [upd_ne (by omega), upd_ne (by omega), upd_ne (by omega)]
    intro z
    obtain ⟨a, b, d⟩ := h5 m hm z
    exact ⟨a, b, fun o ho => by rw [upd_ne (by omega), upd_ne (by omega)]; exact d o ho⟩
  · rw [upd_ne (by omega), upd_ne (by omega), upd_ne (by omega)]; exact h6 m hm
  · rw [upd_same, e]; omega
theorem xb_cycle (hc : c ≤ 1000) : ∀ (n i : Nat) (F : vF), i + n = 8 → XB u c F → XB u (c + 1) (v_X0_beginCycle_L10 (n + 1) F i) ∧ 0 ≤ (v_X0_beginCycle_L10 (n + 1) F i 1).toInt ∧ v_X0_beginCycle_L10 (n + 1) F i 0 = F 0 := by
  intro n
  induction n with
  | zero =>
    intro i F hi h
    obtain rfl : i = 8 := by omega
    rw [v_X0_beginCycle_L10.eq_2, if_pos le8, nm_eq]
    obtain ⟨a, b⟩ := xb_cyc h hc
    exact ⟨a, by rw [upd_same]; exact b, by rw [upd_ne (by decide)]⟩
  | succ n ih =>
    intro i F hi h
    have hi8 : i < 8 := by omega
    rw [v_X0_beginCycle_L10.eq_2, if_neg (ge8 hi8)]
    simp only [nm_eq]
    obtain ⟨a, b, e⟩ := ih (i + 1) (upd (upd F (13 + 14 * i + 1) (v_X2_nextLimit F i)) (13 + 14 * i + 8) 0) (by omega) (xb_limit h hi8 fun z => ⟨(limit_rng (h.2.1 i hi8 z)).1, (limit_rng (h.2.1 i hi8 z)).2.1⟩)
    exact ⟨a, b, by rw [e, upd_ne (by omega), upd_ne (by omega)]⟩
theorem ok_cycle (h : RX c S) (hc : c ≤ 1000) : OKs c S (x_X4_cycle S) := by
  obtain ⟨T, hT⟩ := h.1
  have hop := (op_cycle hT).1
  unfold x_X4_cycle at hop ⊢
  rw [nm_eq] at hop ⊢
  by_cases cc : x_X0_mayBeginCycle S 0 = 0
  · rw [if_pos cc]; exact Or.inr ⟨rfl, rfl⟩
  · rw [if_neg cc] at hop ⊢
    simp only [nm_eq] at hop ⊢
    have e := e_X0_beginCycle (x_X1_keep S 0) 0 (cv (x_X1_keep S 0) 0)
    rw [emb_cv, h.cvk] at e
    rw [e] at hop ⊢
    obtain ⟨a, b, e0⟩ := xb_cycle hc 8 0 (cv S 0) rfl h.2.1.1
    have hx : XR (c + 1) (v_X0_beginCycle (cv S 0)) := by
      unfold XR v_X0_beginCycle
      rw [e0]
      exact ⟨a, by have := h.2.1.2; omega⟩
    refine Or.inl ⟨rfl, ?_, h.mk (by omega) hop hx⟩
    show 0 ≤ (emb (x_X1_keep S 0) 0 (v_X0_beginCycle (cv S 0)) (gG 0) 4).toInt
    rw [ebG_4]
    exact b
theorem ok_set (h : RX c S) (hq : q < 4) (h1 : ¬ p2 < lsE q) (h2 : p2 ≤ msE q) : OKs c S (x_X4_set S (nI q) p2) ∧ (x_X4_set S (nI q) p2).1.1 = 0 := by
  obtain ⟨T, hT⟩ := h.1
  have hop := (op_set hT (nI q) p2).1
  have a1 : ¬ nI q < 0 := nI_pos (by omega)
  have a2 : nI q < (4 : Int32) := nI_lt (b := 4) hq (by decide)
  unfold x_X4_set tbp x_X4_checkSetting at hop ⊢
  rw [if_neg a1, if_pos a2, if_pos rfl, nI_clamp (by omega), if_neg h1, if_pos h2] at hop ⊢
  simp only [nm_eq] at hop ⊢
  have e : st (x_X1_keep S 0) (gS 0) q p2 = emb (x_X1_keep S 0) 0 (upd (cv S 0) (4 + q) p2) := by
    have := esS (S := x_X1_keep S 0) (g := 0) (F := cv (x_X1_keep S 0) 0) (x := p2) hq
    rw [emb_cv, h.cvk] at this
    exact this
  rw [e] at hop ⊢
  refine ⟨Or.inl ⟨rfl, ?_, h.mk (by omega) hop ((h.2.1.mono (by omega)).up (nx_g (by omega) (by omega)))⟩, trivial⟩
  show 0 ≤ (x_X1_keep S 0 (gS 0) q).toInt
  have e1 : x_X1_keep S 0 (gS 0) q = cv S 0 (4 + q) := by
    have := ebS (S := x_X1_keep S 0) (g := 0) (F := cv (x_X1_keep S 0) 0) hq
    rw [emb_cv, h.cvk] at this
    exact this
  rw [e1, hT.2.1.g (by omega)]
  obtain ⟨s0, s1, s2, s3⟩ := hT.2.2.1.2.2.2.2.2.2.1
  rcases (show q = 0 ∨ q = 1 ∨ q = 2 ∨ q = 3 by omega) with rfl | rfl | rfl | rfl
  · exact s0.1
  · exact s1.1
  · exact Int.le_trans (by decide) s2.1
  · exact s3.1
theorem ok_undo (h : RX c S) : OKs c S (x_X4_undo S) := by
  obtain ⟨T, hT⟩ := h.1
  have hop := (op_undo hT).1
  unfold x_X4_undo at hop ⊢
  by_cases cc : 0 < S hO 2
  · rw [if_pos cc, nm_eq] at hop ⊢
    obtain ⟨o, s, ho, hs, e1, e2, e3, e4, e5, e6, e7, e8, e9⟩ := takeBack_thm hT.1 cc
    refine Or.inl ⟨rfl, ?_, ⟨_, hop⟩, ?_, fun g a b => ?_⟩
    · show 0 ≤ (x_X1_takeBack S 0 hO 2).toInt
      rw [e3, nI_toInt (by omega)]; omega
    · exact ((h.2.2 (2 + (o + s) % 6) (by omega) (by omega)).bzz.mono (by omega)).c189 e8
    · show XR (c + 1) (cv (x_X1_takeBack S 0) g)
      rw [e7 g (by omega) b]
      exact (h.2.2 g a b).mono (by omega)
  · rw [if_neg cc]; exact Or.inr ⟨rfl, rfl⟩
/-- the state that the constructor leaves -/
theorem row_0 (hg : g < 8) : cv sC0 g = cv sC0 0 := by
  funext i
  unfold cv
  by_cases hi : i < 189
  · rw [if_pos hi, if_pos hi]
    have hb := (inv_of i hi).1
    unfold sC0
    rw [if_pos (by omega), if_pos (by omega), show (19 * g + bkO i) % 19 = bkO i by omega, show (19 * 0 + bkO i) % 19 = bkO i by omega]
  · rw [if_neg hi, if_neg hi]
theorem rx_start (hT : RR sC0 T) : RX 0 sC0 := by
  have h0 : XR 0 (cv sC0 0) := by
    unfold XR XB
    refine ⟨⟨by decide +kernel, by decide +kernel, by decide +kernel, Or.inl (by decide +kernel), by decide +kernel, by decide +kernel, by decide +kernel⟩, by decide +kernel⟩
  exact ⟨⟨T, hT⟩, h0, fun g _ b => by rw [row_0 b]; exact h0⟩
end XOPS2
