section LEAVES
variable {F H : vF} {G G' : vG} {m k i n p w g : Nat} {x y v v' : Int32} {W : Int}
/-- row F without member m; the fund has paid what m saved -/
def fGone (F : vF) (m : Nat) : vF := fun j => if 13 + 14 * m ≤ j ∧ j < 27 + 14 * m then 0 else if j = 8 then F 8 - F (13 + 14 * m + 12) else F j
def fLeave (F : vF) (m : Nat) : vF := if F 2 = nI m then upd (fGone F m) 2 (w_nextChair (fGone F m) (nI m)) else fGone F m
theorem leave_loop (hm : m < 8) : ∀ (n i : Nat) (G : vG), i + n = 14 → w_leave_L109 (n + 1) G (nI m) i v = (v, ((if (G.1 2) = nI m then upd (fun j => if 13 + 14 * m + i ≤ j ∧ j < 27 + 14 * m then 0 else G.1 j) 2 (w_nextChair (fun j => if 13 + 14 * m + i ≤ j ∧ j < 27 + 14 * m then 0 else G.1 j) (nI m)) else (fun j => if 13 + 14 * m + i ≤ j ∧ j < 27 + 14 * m then 0 else G.1 j)), G.2)) := by
  intro n
  induction n with
  | zero =>
    intro i G h
    obtain rfl : i = 14 := by omega
    have e : (fun j => if 13 + 14 * m + 14 ≤ j ∧ j < 27 + 14 * m then 0 else G.1 j) = G.1 := by
      funext j
      rw [if_neg (by omega)]
    rw [e, w_leave_L109.eq_2, if_pos (by decide)]
    by_cases c : G.1 2 = nI m
    · rw [if_pos c, if_pos c, nm_eq, nm_eq]
      rfl
    · rw [if_neg c, if_neg c]
  | succ n ih =>
    intro i G h
    have hi : ¬ (14 : Int32) ≤ nI i := fun q => absurd (nI_of_le (a := 14) (b := i) (by omega) q (by decide)) (by omega)
    rw [w_leave_L109.eq_2, if_neg hi, nm_eq, cl8 hm, ih (i + 1) _ (by omega)]
    have e : (fun j => if 13 + 14 * m + (i + 1) ≤ j ∧ j < 27 + 14 * m then 0 else (upq G (13 + 14 * m + i) 0).1 j) = (fun j => if 13 + 14 * m + i ≤ j ∧ j < 27 + 14 * m then 0 else G.1 j) := by
      funext j
      rw [upq_1, upd_at]
      by_cases c : j = 13 + 14 * m + i
      · rw [if_pos c, if_neg (by omega), if_pos (by omega)]
      · rw [if_neg c]
        by_cases c2 : 13 + 14 * m + (i + 1) ≤ j ∧ j < 27 + 14 * m
        · rw [if_pos c2, if_pos (by omega)]
        · rw [if_neg c2, if_neg (by omega)]
    rw [e, upq_1, upd_ne (by omega), upq_2]
theorem leave_w (hm : m < 8) (hv : v = G.1 (13 + 14 * m + 12)) : w_leave_L109 15 (upq G 8 (G.1 8 - v)) (nI m) 0 v = (v, (fLeave G.1 m, G.2)) := by
  rw [leave_loop hm 14 0 _ rfl]
  have e : (fun j => if 13 + 14 * m + 0 ≤ j ∧ j < 27 + 14 * m then 0 else (upq G 8 (G.1 8 - v)).1 j) = fGone G.1 m := by
    funext j
    unfold fGone
    rw [upq_1, upd_at, Nat.add_zero, hv]
  rw [e, upq_1, upd_ne (by decide), upq_2]
  rfl
theorem gone_b (hw : w < 14) : fGone F m (13 + 14 * m + w) = 0 := by unfold fGone; rw [if_pos (by omega)]
theorem gone_8 : fGone F m 8 = F 8 - F (13 + 14 * m + 12) := by unfold fGone; rw [if_neg (by omega), if_pos rfl]
theorem gone_j {j : Nat} (h : ¬ (13 + 14 * m ≤ j ∧ j < 27 + 14 * m)) (h2 : j ≠ 8) : fGone F m j = F j := by unfold fGone; rw [if_neg h, if_neg h2]
/-- whoever may go owes nothing and has no loan -/
theorem goes_zero (h : IR W F) (hW : W ≤ 1000) (hm : m < 8) (h4 : ¬ 0 < F (13 + 14 * m + 4)) (hd : w_debts F (nI m) = 0) : (∀ w, w = 2 ∨ w = 3 ∨ w = 4 ∨ w = 5 ∨ w = 6 ∨ w = 10 ∨ w = 11 → F (13 + 14 * m + w) = 0) := by
  have hL := h.2.1 m hm
  have w0 : F (13 + 14 * m + 4) = 0 := by
    rw [Int32.lt_iff_toInt_lt, z32] at h4
    exact Int32.toInt_inj.mp (by rw [z32]; have := hL.1; omega)
  obtain ⟨b2, b3, b5, b6⟩ := hL.2.2.2.2.2.2.2.2 w0
  have hn := h.nd hW m hm
  have e := n_debts hm hn
  rw [hd, z32] at e
  obtain ⟨n1, n2, n3, n4⟩ := hn
  have h0 := si_nonneg (g := fun p => (F (125 + 8 * m + p)).toInt) (n := 8) n3
  generalize fb_si (fun p => (F (125 + 8 * m + p)).toInt) 8 = z at *
  have b10 : F (13 + 14 * m + 10) = 0 := Int32.toInt_inj.mp (by rw [z32]; omega)
  have b11 : F (13 + 14 * m + 11) = 0 := Int32.toInt_inj.mp (by rw [z32]; omega)
  intro w hw
  rcases hw with rfl | rfl | rfl | rfl | rfl | rfl | rfl
  · exact b2
  · exact b3
  · exact w0
  · exact b5
  · exact b6
  · exact b10
  · exact b11
theorem leave_ir (h : IR W F) (hW : W ≤ 999) (hm : m < 8) (hh : F (13 + 14 * m + 0) = 1) (hz : ∀ w, w = 2 ∨ w = 3 ∨ w = 4 ∨ w = 5 ∨ w = 6 ∨ w = 10 ∨ w = 11 → F (13 + 14 * m + w) = 0) (hf : F (13 + 14 * m + 12) ≤ F 8) : IR W (fLeave F m) := by
  have base : IR W (fGone F m) := by
    obtain ⟨h1, h2, h3, h4, h5, h6, h7, h8, h9, h10, h11, h12, h13, h14, h15⟩ := h
    have s := (h13 m hm).2
    have e : ∀ j, j < 13 → j ≠ 8 → fGone F m j = F j := fun j a b => gone_j (by omega) b
    have eo : ∀ o, o ≠ m → ∀ w, w < 14 → fGone F m (13 + 14 * o + w) = F (13 + 14 * o + w) := fun o ho w hw => gone_j (by omega) (by omega)
    have ed : ∀ o p, fGone F m (125 + 8 * o + p) = F (125 + 8 * o + p) := fun o p => gone_j (by omega) (by omega)
    have z : ∀ w, w = 3 ∨ w = 10 ∨ w = 11 → Zs (fGone F m) w = Zs F w := fun w hw => Zs_cg fun o ho => by
      by_cases c : o = m
      · subst c; rw [gone_b (by omega), hz w (by omega)]
      · exact eo o c w (by omega)
    have zd : ∀ o, Zd (fGone F m) o = Zd F o := fun o => Zd_cg fun p _ => ed o p
    have zl : Lc (fGone F m) = Lc F := by
      unfold Lc
      refine fb_si_cong fun o ho => ?_
      by_cases c : o = m
      · subst c; rw [gone_b (by decide), hz 4 (by decide)]
      · rw [eo o c 4 (by decide)]
    have z11 : 0 ≤ Zs F 11 := si_nonneg fun o ho => (h3 o ho).2.1
    rw [Int32.le_iff_toInt_le] at hf
    have t8 : (F 8 - F (13 + 14 * m + 12)).toInt = (F 8).toInt - (F (13 + 14 * m + 12)).toInt := by
      have := (F 8).toInt_lt
      exact fb_subI (by omega) (by omega)
    refine ⟨?_, ?_, ?_, ?_, ?_, ?_, ?_, ?_, ?_, ?_, ?_, ?_, ?_, ?_, ?_⟩
    · intro o ho
      by_cases c : o = m
      · subst c; rw [gone_b (by decide), gone_b (by decide)]; exact ⟨Or.inl rfl, Or.inl rfl⟩
      · rw [eo o c 0 (by decide), eo o c 7 (by decide)]; exact h1 o ho
    · intro o ho
      by_cases c : o = m
      · subst c
        unfold LMm
        rw [gone_b (by decide), gone_b (by decide), gone_b (by decide), gone_b (by decide), gone_b (by decide), z32]
        exact ⟨by decide, by decide, by decide, by decide, by decide, by decide, by decide, by decide, fun _ => ⟨rfl, rfl, rfl, rfl⟩⟩
      · exact (h2 o ho).cg fun w a b => eo o c w (by omega)
    · intro o ho
      unfold DMm
      simp only [ed]
      by_cases c : o = m
      · subst c
        rw [gone_b (by decide), gone_b (by decide), z32]
        exact ⟨by decide, by decide, (h3 o ho).2.2⟩
      · rw [eo o c 10 (by decide), eo o c 11 (by decide)]; exact h3 o ho
    · rw [e 0 (by decide) (by decide)]; exact h4
    · rw [e 2 (by decide) (by decide)]; exact h5
    · rw [e 3 (by decide) (by decide)]; exact h6
    · rw [e 4 (by decide) (by decide), e 5 (by decide) (by decide), e 6 (by decide) (by decide), e 7 (by decide) (by decide)]; exact h7
    · rw [gone_8, t8, e 0 (by decide) (by decide), z 11 (by decide)]
      generalize Zs F 11 = y at *
      exact ⟨by omega, by omega⟩
    · rw [e 9 (by decide) (by decide), e 10 (by decide) (by decide), e 11 (by decide) (by decide), z 3 (by decide), z 10 (by decide)]; exact h9
    · rw [e 11 (by decide) (by decide)]; exact h10
    · rw [e 9 (by decide) (by decide), e 0 (by decide) (by decide), zl]; exact h11
    · rw [e 10 (by decide) (by decide), e 0 (by decide) (by decide)]; exact h12
    · intro o ho
      rw [zd o, e 0 (by decide) (by decide)]
      by_cases c : o = m
      · subst c
        rw [gone_b (by decide), z32]
        exact ⟨(h13 o ho).1, Int.le_refl 0, Int.mul_nonneg (by decide) h4.1⟩
      · rw [eo o c 12 (by decide)]; exact h13 o ho
    · intro o ho q
      by_cases c : o = m
      · subst c; exact gone_b (by decide)
      · rw [eo o c 0 (by decide)] at q
        rw [eo o c 4 (by decide)]; exact h14 o ho q
    · intro o ho q
      by_cases c : o = m
      · subst c; exact ⟨gone_b (by decide), gone_b (by decide), gone_b (by decide)⟩
      · rw [e 3 (by decide) (by decide)] at q
        rw [eo o c 0 (by decide), eo o c 1 (by decide), eo o c 8 (by decide)]
        exact h15 o ho q
  unfold fLeave
  by_cases c : F 2 = nI m
  · rw [if_pos c]
    have hc : chairOK (w_nextChair (fGone F m) (nI m)) := next_ok (Or.inr (vp_in_nI hm (by decide)))
    generalize w_nextChair (fGone F m) (nI m) = y at hc ⊢
    generalize fGone F m = F' at base ⊢
    unfold IR at base ⊢
    simp (disch := omega) only [upd_ne, upd_same, Zs_g, Zd_h, LMm_g, DMm_g, Lc_g]
    exact ⟨base.1, base.2.1, base.2.2.1, base.2.2.2.1, hc, base.2.2.2.2.2⟩
  · rw [if_neg c]; exact base
theorem leave_v (h : IR W F) (hW : W ≤ 999) (hR : RG F H) (hm : m < 8) (hh : F (13 + 14 * m + 0) = 1) (hz : ∀ w, w = 2 ∨ w = 3 ∨ w = 4 ∨ w = 5 ∨ w = 6 ∨ w = 10 ∨ w = 11 → F (13 + 14 * m + w) = 0) : ∃ H', v_X0_dismiss H m = (F (13 + 14 * m + 12), H') ∧ RG (fLeave F m) H' := by
  have g8 := hR.g (j := 8) (by decide)
  have g2 := hR.g (j := 2) (by decide)
  have e12 := hR.s hm (w := 12) (by decide) (Or.inl hh)
  have hlt : ¬ (F 3).toInt ≤ (m : Int) := fun q => by
    have := (h.2.2.2.2.2.2.2.2.2.2.2.2.2.2 m hm q).1
    exact absurd (this.symm.trans hh) (by decide)
  -- the rows before the chair goes on
  have hR1 : RG (fGone F m) (upd (upd H 8 (H 8 - H (13 + 14 * m + 12))) (13 + 14 * m + 0) 0) := by
    constructor
    · intro j hj
      have ok2 : ¬ (13 + 14 * m ≤ j ∧ j < 27 + 14 * m) → okA (hrF F) j := by
        intro nb
        refine ⟨hj.1, hj.2.1, fun s => ?_⟩
        have := hj.2.2 s
        obtain ⟨s1, s2, _⟩ := s
        unfold hrF at this ⊢
        have hne : (j - 13) / 14 ≠ m := by omega
        rw [gone_j (by omega) (by omega), gone_j (by omega) (by omega)] at this
        exact this
      by_cases c : 13 + 14 * m ≤ j ∧ j < 27 + 14 * m
      · obtain ⟨w, hw, rfl⟩ : ∃ w, w < 14 ∧ j = 13 + 14 * m + w := ⟨j - (13 + 14 * m), by omega, by omega⟩
        rw [gone_b hw]
        by_cases c0 : w = 0
        · subst c0; rw [upd_same]
        · rw [upd_ne (by omega), upd_ne (by omega)]
          by_cases c1 : w = 2 ∨ w = 3 ∨ w = 4 ∨ w = 5 ∨ w = 6 ∨ w = 10 ∨ w = 11
          · rw [hR.h hm (by omega), hz w c1]
          · exfalso
            have := hj.2.2 ⟨by omega, by omega, by omega⟩
            rw [show (13 + 14 * m + w - 13) / 14 = m by omega] at this
            unfold hrF at this
            rw [gone_b (by decide), gone_j (by omega) (by omega)] at this
            rcases this with q | q
            · exact absurd q (by decide)
            · exact hlt q
      · rw [upd_ne (by omega)]
        by_cases c8 : j = 8
        · subst c8; rw [gone_8, upd_same, g8, e12]
        · rw [gone_j c c8, upd_ne c8]
          exact hR.1 j (ok2 c)
    · rw [upd_ne (by omega), upd_ne (by decide), gone_j (by omega) (by decide)]; exact hR.2
  unfold v_X0_dismiss fLeave
  simp only [nm_eq]
  simp (disch := omega) only [upd_ne]
  rw [g2, e12]
  by_cases c : F 2 = nI m
  · rw [if_pos c, if_pos c]
    refine ⟨_, rfl, ?_⟩
    rw [← e12]
    have hN := h.nd (Int.le_trans hW (by decide))
    have e : v_X0_nextChair (upd (upd H 8 (H 8 - H (13 + 14 * m + 12))) (13 + 14 * m + 0) 0) = w_nextChair (fGone F m) (nI m) := by
      refine next_eq (Or.inr (vp_in_nI hm (by decide))) (by rw [upd_ne (by omega), upd_ne (by decide), g2, c]) ?_ ?_
      · intro o ho
        by_cases q : o = m
        · subst q
          rw [upd_same, gone_b (by decide)]
          decide
        · rw [upd_ne (by omega), upd_ne (by omega), gone_j (by omega) (by omega)]
          exact h.here hR ho
      · intro o ho q
        have hne : o ≠ m := fun z => by
          subst z
          rw [gone_b (by decide)] at q
          exact absurd q (by decide)
        have hNo : NDm (fGone F m) o := by
          have := hN o ho
          unfold NDm at this ⊢
          have ed : ∀ p, fGone F m (125 + 8 * o + p) = F (125 + 8 * o + p) := fun p => gone_j (by omega) (by omega)
          simp only [ed]
          rw [gone_j (by omega) (by omega), gone_j (by omega) (by omega)]
          exact this
        refine hasDebts_iff ho hNo ?_ ?_ ?_
        · rw [upd_ne (by omega), upd_ne (by omega), gone_j (by omega) (by omega)]; exact hR.h ho (by decide)
        · rw [upd_ne (by omega), upd_ne (by omega), gone_j (by omega) (by omega)]; exact hR.h ho (by decide)
        · intro p hp; rw [upd_ne (by omega), upd_ne (by omega), gone_j (by omega) (by omega)]; exact hR.d ho hp
    rw [e]
    refine RG.up hR1 rfl (by decide) (fun o ho => by omega)
  · rw [if_neg c, if_neg c]
    refine ⟨_, rfl, ?_⟩
    rw [← e12]
    exact hR1
end LEAVES
