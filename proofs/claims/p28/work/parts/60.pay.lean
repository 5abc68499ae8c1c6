section PAYS
variable {F H : vF} {G G' : vG} {m k i n p w : Nat} {x y v v' : Int32} {W : Int}
theorem min_eq (a b : Int32) : (if a < b then a else b) = (if a ≤ b then a else b) := by
  by_cases c : a < b
  · rw [if_pos c, if_pos (Int32.le_of_lt c)]
  · rw [if_neg c]
    by_cases c2 : a ≤ b
    · rw [if_pos c2]
      exact Int32.le_antisymm (fa_of_nlt c) c2
    · rw [if_neg c2]
theorem min_rng (a b : Int32) (ha : 0 ≤ a.toInt) (hb : 0 ≤ b.toInt) : 0 ≤ (if a ≤ b then a else b).toInt ∧ (if a ≤ b then a else b).toInt ≤ a.toInt ∧ (if a ≤ b then a else b).toInt ≤ b.toInt := by
  by_cases c : a ≤ b
  · rw [if_pos c]
    rw [Int32.le_iff_toInt_le] at c
    exact ⟨ha, Int.le_refl _, c⟩
  · rw [if_neg c]
    rw [Int32.le_iff_toInt_le] at c
    exact ⟨hb, by omega, Int.le_refl _⟩
theorem pay_loop (hm : m < 8) : ∀ (n i : Nat) (G : vG) (H : vF) (v : Int32), i + n = 8 → RG G.1 H → (∀ p, p < 8 → 0 ≤ (G.1 (125 + 8 * m + p)).toInt) → 0 ≤ v.toInt →
    ∃ r G', w_pays_L97 (n + 1) G (nI m) x i v = (r, G') ∧ (v_X0_takePayment_L77 (n + 1) H m x i v).1 = r ∧ RG G'.1 (v_X0_takePayment_L77 (n + 1) H m x i v).2 ∧ (∀ p, p < 8 → 0 ≤ (G'.1 (125 + 8 * m + p)).toInt) ∧ Zd G'.1 m ≤ Zd G.1 m ∧ (∀ j, ¬ (125 + 8 * m ≤ j ∧ j < 133 + 8 * m) → G'.1 j = G.1 j) ∧ G'.2 = G.2 := by
  intro n
  induction n with
  | zero =>
    intro i G H v h hR hD hv
    obtain rfl : i = 8 := by omega
    rw [w_pays_L97.eq_2, if_pos le8, v_X0_takePayment_L77.eq_2, if_pos le8]
    exact ⟨_, _, rfl, rfl, hR, hD, Int.le_refl _, fun _ _ => rfl, rfl⟩
  | succ n ih =>
    intro i G H v h hR hD hv
    have hi : i < 8 := by omega
    have ed := hR.d hm hi
    rw [w_pays_L97.eq_2, if_neg (ge8 hi), v_X0_takePayment_L77.eq_2, if_neg (ge8 hi)]
    simp only [nm_eq, ndebt hm hi, cl8 hm]
    unfold w_least
    rw [ed, min_eq]
    have hs := min_rng (G.1 (125 + 8 * m + i)) v (hD i hi) hv
    generalize (if G.1 (125 + 8 * m + i) ≤ v then G.1 (125 + 8 * m + i) else v) = s at hs ⊢
    have t1 : (G.1 (125 + 8 * m + i) - s).toInt = (G.1 (125 + 8 * m + i)).toInt - s.toInt := fb_subI (by have := (G.1 (125 + 8 * m + i)).toInt_lt; omega) (by have := (G.1 (125 + 8 * m + i)).toInt_lt; omega)
    have t2 : (v - s).toInt = v.toInt - s.toInt := fb_subI (by have := v.toInt_lt; omega) (by have := v.toInt_lt; omega)
    have hR1 : RG (upq G (125 + 8 * m + i) (G.1 (125 + 8 * m + i) - s)).1 (upd H (125 + 8 * m + i) (G.1 (125 + 8 * m + i) - s)) := by
      refine RG.up hR rfl ?_ ?_
      all_goals first | omega | (intro o ho; omega)
    obtain ⟨r, G', e1, e2, e3, e4, e5, e6, e7⟩ := ih (i + 1) (upq G (125 + 8 * m + i) (G.1 (125 + 8 * m + i) - s)) (upd H (125 + 8 * m + i) (G.1 (125 + 8 * m + i) - s)) (v - s) (by omega) hR1 (by
      intro p hp
      rw [upq_1, upd_at]
      by_cases c : p = i
      · rw [if_pos (by omega), t1]; omega
      · rw [if_neg (by omega)]; exact hD p hp) (by rw [t2]; omega)
    refine ⟨r, G', e1, e2, e3, e4, ?_, ?_, e7⟩
    · refine Int.le_trans e5 ?_
      rw [upq_1, Zd_up hi, t1]
      generalize Zd G.1 m = z
      omega
    · intro j hj
      rw [e6 j hj, upq_1, upd_ne (by omega)]
theorem pay_thm (h : IR W F) (hW : W ≤ 999) (hR : RG F H) (hm : m < 8) (hx : 1 ≤ x.toInt ∧ x.toInt ≤ 2000) (hG : G.1 = F) :
    ∃ r G', w_pays G (nI m) x = (r, G') ∧ (v_X0_takePayment H m x).1 = r ∧ RG G'.1 (v_X0_takePayment H m x).2 ∧ IR W G'.1 ∧ G'.2 = G.2 := by
  subst hG
  have e10 := hR.h hm (w := 10) (by decide)
  have e11 := hR.h hm (w := 11) (by decide)
  have g11 := hR.g (j := 11) (by decide)
  have g8 := hR.g (j := 8) (by decide)
  have hD := h.2.2.1 m hm
  have hs := min_rng (G.1 (13 + 14 * m + 10)) x hD.1 (by omega)
  unfold w_pays v_X0_takePayment w_least
  simp only [nm_eq, nof_10 hm, nof_11 hm, nad_10 hm, nad_11 hm, upq_1]
  rw [e10, min_eq]
  obtain ⟨s, es⟩ : ∃ s : Int32, s = (if G.1 (13 + 14 * m + 10) ≤ x then G.1 (13 + 14 * m + 10) else x) := ⟨_, rfl⟩
  rw [← es] at hs ⊢
  clear es
  have tx : (x - s).toInt = x.toInt - s.toInt := fb_subI (by omega) (by omega)
  simp (disch := omega) only [upd_ne, upd_same]
  rw [e11, min_eq]
  have hs2 := min_rng (G.1 (13 + 14 * m + 11)) (x - s) hD.2.1 (by omega)
  obtain ⟨u, eu⟩ : ∃ u : Int32, u = (if G.1 (13 + 14 * m + 11) ≤ x - s then G.1 (13 + 14 * m + 11) else x - s) := ⟨_, rfl⟩
  rw [← eu] at hs2 ⊢
  clear eu
  rw [← Int32.sub_eq_add_neg, ← Int32.sub_eq_add_neg, g8, g11]
  have hR1 : RG (upq (upq (upq (upq G (13 + 14 * m + 10) (G.1 (13 + 14 * m + 10) - s)) 11 (G.1 11 + s)) (13 + 14 * m + 11) (G.1 (13 + 14 * m + 11) - u)) 8 (G.1 8 + u)).1 (upd (upd (upd (upd H (13 + 14 * m + 10) (G.1 (13 + 14 * m + 10) - s)) 11 (G.1 11 + s)) (13 + 14 * m + 11) (G.1 (13 + 14 * m + 11) - u)) 8 (G.1 8 + u)) := by
    refine RG.up (RG.up (RG.up (RG.up hR rfl ?_ ?_) rfl ?_ ?_) rfl ?_ ?_) rfl ?_ ?_
    all_goals first | omega | (intro o ho; omega)
  have r10 : (upq (upq (upq (upq G (13 + 14 * m + 10) (G.1 (13 + 14 * m + 10) - s)) 11 (G.1 11 + s)) (13 + 14 * m + 11) (G.1 (13 + 14 * m + 11) - u)) 8 (G.1 8 + u)).1 (13 + 14 * m + 10) = G.1 (13 + 14 * m + 10) - s := by simp (disch := omega) only [upq_1, upd_ne, upd_same]
  have r11 : (upq (upq (upq (upq G (13 + 14 * m + 10) (G.1 (13 + 14 * m + 10) - s)) 11 (G.1 11 + s)) (13 + 14 * m + 11) (G.1 (13 + 14 * m + 11) - u)) 8 (G.1 8 + u)).1 (13 + 14 * m + 11) = G.1 (13 + 14 * m + 11) - u := by simp (disch := omega) only [upq_1, upd_ne, upd_same]
  have rp : (upq (upq (upq (upq G (13 + 14 * m + 10) (G.1 (13 + 14 * m + 10) - s)) 11 (G.1 11 + s)) (13 + 14 * m + 11) (G.1 (13 + 14 * m + 11) - u)) 8 (G.1 8 + u)).1 11 = G.1 11 + s := by simp (disch := omega) only [upq_1, upd_ne, upd_same]
  have r8 : (upq (upq (upq (upq G (13 + 14 * m + 10) (G.1 (13 + 14 * m + 10) - s)) 11 (G.1 11 + s)) (13 + 14 * m + 11) (G.1 (13 + 14 * m + 11) - u)) 8 (G.1 8 + u)).1 8 = G.1 8 + u := by simp (disch := omega) only [upq_1, upd_same]
  have rj : ∀ j, j ≠ 8 → j ≠ 11 → j ≠ 13 + 14 * m + 10 → j ≠ 13 + 14 * m + 11 → (upq (upq (upq (upq G (13 + 14 * m + 10) (G.1 (13 + 14 * m + 10) - s)) 11 (G.1 11 + s)) (13 + 14 * m + 11) (G.1 (13 + 14 * m + 11) - u)) 8 (G.1 8 + u)).1 j = G.1 j := by
    intro j a b c d
    simp only [upq_1]
    rw [upd_ne a, upd_ne d, upd_ne b, upd_ne c]
  have q2 : (upq (upq (upq (upq G (13 + 14 * m + 10) (G.1 (13 + 14 * m + 10) - s)) 11 (G.1 11 + s)) (13 + 14 * m + 11) (G.1 (13 + 14 * m + 11) - u)) 8 (G.1 8 + u)).2 = G.2 := by simp only [upq_2]
  generalize upq (upq (upq (upq G (13 + 14 * m + 10) (G.1 (13 + 14 * m + 10) - s)) 11 (G.1 11 + s)) (13 + 14 * m + 11) (G.1 (13 + 14 * m + 11) - u)) 8 (G.1 8 + u) = G5 at *
  have rd : ∀ p, G5.1 (125 + 8 * m + p) = G.1 (125 + 8 * m + p) := fun p => rj _ (by omega) (by omega) (by omega) (by omega)
  have tu : (x - s - u).toInt = (x - s).toInt - u.toInt := fb_subI (by omega) (by omega)
  obtain ⟨r, G', p1, p2, p3, p4, p5, p6, p7⟩ := pay_loop (x := x) hm 8 0 G5 _ (x - s - u) rfl hR1 (fun p hp => by rw [rd]; exact hD.2.2 p hp) (by omega)
  refine ⟨r, G', p1, p2, p3, ?_, p7.trans q2⟩
  -- what holds of the new row
  obtain ⟨h1, h2, h3, h4, h5, h6, h7, h8, h9, h10, h11, h12, h13, h14, h15⟩ := h
  have z10 : (G.1 (13 + 14 * m + 10)).toInt ≤ Zs G.1 10 := si_part (g := fun o => (G.1 (13 + 14 * o + 10)).toInt) (fun o ho => (h3 o ho).1) hm
  have z11 : (G.1 (13 + 14 * m + 11)).toInt ≤ Zs G.1 11 := si_part (g := fun o => (G.1 (13 + 14 * o + 11)).toInt) (fun o ho => (h3 o ho).2.1) hm
  have zp : 0 ≤ Zs G.1 3 ∧ 0 ≤ Zs G.1 10 ∧ 0 ≤ Zs G.1 11 := ⟨si_nonneg fun o ho => (h2 o ho).2.2.2.1, si_nonneg fun o ho => (h3 o ho).1, si_nonneg fun o ho => (h3 o ho).2.1⟩
  have lc := Lc_0 (F := G.1)
  have b10 : (G.1 (13 + 14 * m + 10)).toInt ≤ 1000000000 ∧ (G.1 11).toInt ≤ 1000000000 ∧ (G.1 (13 + 14 * m + 11)).toInt ≤ 1000000000 ∧ (G.1 8).toInt ≤ 1000000000 := by
    generalize Zs G.1 3 = z3 at *
    generalize Zs G.1 10 = zz at *
    generalize Zs G.1 11 = zy at *
    generalize Lc G.1 = l at *
    clear p5 rd tu tx hs2 hs
    exact ⟨by omega, by omega, by omega, by omega⟩
  have t10 : (G.1 (13 + 14 * m + 10) - s).toInt = (G.1 (13 + 14 * m + 10)).toInt - s.toInt := by
    clear p5 z10 z11 zp lc h9 h8 h11
    exact fb_subI (by omega) (by omega)
  have t11 : (G.1 (13 + 14 * m + 11) - u).toInt = (G.1 (13 + 14 * m + 11)).toInt - u.toInt := by
    clear p5 z10 z11 zp lc h9 h8 h11 t10
    exact fb_subI (by omega) (by omega)
  have tp : (G.1 11 + s).toInt = (G.1 11).toInt + s.toInt := by
    clear p5 z10 z11 zp lc h9 h8 h11 t10 t11
    exact fb_addI (by omega) (by omega)
  have t8 : (G.1 8 + u).toInt = (G.1 8).toInt + u.toInt := by
    have := h8.1
    clear p5 z10 z11 zp lc h9 h8 h11 t10 t11 tp
    exact fb_addI (by omega) (by omega)
  have fj : ∀ j, j < 125 → j ≠ 8 → j ≠ 11 → j ≠ 13 + 14 * m + 10 → j ≠ 13 + 14 * m + 11 → G'.1 j = G.1 j := fun j a b c d e => (p6 j (by omega)).trans (rj j b c d e)
  have f10 : G'.1 (13 + 14 * m + 10) = G.1 (13 + 14 * m + 10) - s := (p6 _ (by omega)).trans r10
  have f11 : G'.1 (13 + 14 * m + 11) = G.1 (13 + 14 * m + 11) - u := (p6 _ (by omega)).trans r11
  have fp : G'.1 11 = G.1 11 + s := (p6 _ (by omega)).trans rp
  have f8 : G'.1 8 = G.1 8 + u := (p6 _ (by omega)).trans r8
  have fd : ∀ o, o ≠ m → ∀ p, p < 8 → G'.1 (125 + 8 * o + p) = G.1 (125 + 8 * o + p) := fun o ho p hp => (p6 _ (by omega)).trans (rj _ (by omega) (by omega) (by omega) (by omega))
  have y3 : Zs G'.1 3 = Zs G.1 3 := Zs_cg fun o ho => fj _ (by omega) (by omega) (by omega) (by omega) (by omega)
  have y10 : Zs G'.1 10 = Zs G.1 10 - s.toInt := by
    rw [Zs_pt (F := G.1) hm fun o ho hne => fj _ (by omega) (by omega) (by omega) (by omega) (by omega), f10, t10]
    generalize Zs G.1 10 = z
    clear p5
    omega
  have y11 : Zs G'.1 11 = Zs G.1 11 - u.toInt := by
    rw [Zs_pt (F := G.1) hm fun o ho hne => fj _ (by omega) (by omega) (by omega) (by omega) (by omega), f11, t11]
    generalize Zs G.1 11 = z
    clear p5
    omega
  have yd : Zd G5.1 m = Zd G.1 m := Zd_cg fun p _ => rd p
  have yl : Lc G'.1 = Lc G.1 := by
    unfold Lc
    exact fb_si_cong fun o ho => by rw [fj _ (by omega) (by omega) (by omega) (by omega) (by omega)]
  clear rj rd
  refine ⟨?_, ?_, ?_, ?_, ?_, ?_, ?_, ?_, ?_, ?_, ?_, ?_, ?_, ?_, ?_⟩
  · intro o ho
    rw [fj _ (by omega) (by omega) (by omega) (by omega) (by omega), fj _ (by omega) (by omega) (by omega) (by omega) (by omega)]
    exact h1 o ho
  · intro o ho
    exact (h2 o ho).cg fun w _ _ => fj _ (by omega) (by omega) (by omega) (by omega) (by omega)
  · intro o ho
    unfold DMm
    by_cases c : o = m
    · subst c
      rw [f10, f11, t10, t11]
      refine ⟨?_, ?_, p4⟩
      · clear p5 z10 z11 zp lc h9 h8 h11 y3 y10 y11 yd yl
        omega
      · clear p5 z10 z11 zp lc h9 h8 h11 y3 y10 y11 yd yl
        omega
    · rw [fj _ (by omega) (by omega) (by omega) (by omega) (by omega), fj _ (by omega) (by omega) (by omega) (by omega) (by omega)]
      exact ⟨(h3 o ho).1, (h3 o ho).2.1, fun p hp => by rw [fd o c p hp]; exact (h3 o ho).2.2 p hp⟩
  · rw [fj 0 (by omega) (by omega) (by omega) (by omega) (by omega)]; exact h4
  · rw [fj 2 (by omega) (by omega) (by omega) (by omega) (by omega)]; exact h5
  · rw [fj 3 (by omega) (by omega) (by omega) (by omega) (by omega)]; exact h6
  · rw [fj 4 (by omega) (by omega) (by omega) (by omega) (by omega), fj 5 (by omega) (by omega) (by omega) (by omega) (by omega), fj 6 (by omega) (by omega) (by omega) (by omega) (by omega), fj 7 (by omega) (by omega) (by omega) (by omega) (by omega)]; exact h7
  · rw [f8, t8, fj 0 (by omega) (by omega) (by omega) (by omega) (by omega), y11]
    have a := h8.1
    have b := h8.2
    generalize Zs G.1 11 = z at *
    clear p5 y3 y10 yd yl h9 zp h11
    exact ⟨by omega, by omega⟩
  · rw [fj 9 (by omega) (by omega) (by omega) (by omega) (by omega), fj 10 (by omega) (by omega) (by omega) (by omega) (by omega), fp, tp, y3, y10]
    generalize Zs G.1 3 = z3 at *
    generalize Zs G.1 10 = z0 at *
    clear p5 yd yl h8 h11 y11 z11
    omega
  · rw [fp, tp]
    clear p5 z10 z11 zp lc h9 h8 h11 y3 y10 y11 yd yl
    omega
  · rw [fj 9 (by omega) (by omega) (by omega) (by omega) (by omega), fj 0 (by omega) (by omega) (by omega) (by omega) (by omega), yl]; exact h11
  · rw [fj 10 (by omega) (by omega) (by omega) (by omega) (by omega), fj 0 (by omega) (by omega) (by omega) (by omega) (by omega)]; exact h12
  · intro o ho
    rw [fj 0 (by omega) (by omega) (by omega) (by omega) (by omega), fj (13 + 14 * o + 12) (by omega) (by omega) (by omega) (by omega) (by omega)]
    refine ⟨?_, (h13 o ho).2⟩
    by_cases c : o = m
    · subst c
      exact Int.le_trans p5 (by rw [yd]; exact (h13 o ho).1)
    · rw [Zd_cg (F := G.1) fun p hp => fd o c p hp]; exact (h13 o ho).1
  · intro o ho q
    rw [fj _ (by omega) (by omega) (by omega) (by omega) (by omega)] at q
    rw [fj _ (by omega) (by omega) (by omega) (by omega) (by omega)]; exact h14 o ho q
  · intro o ho q
    rw [fj 3 (by omega) (by omega) (by omega) (by omega) (by omega)] at q
    rw [fj _ (by omega) (by omega) (by omega) (by omega) (by omega), fj _ (by omega) (by omega) (by omega) (by omega) (by omega), fj _ (by omega) (by omega) (by omega) (by omega) (by omega)]
    exact h15 o ho q
end PAYS
