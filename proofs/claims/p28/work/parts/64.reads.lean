section READS
variable {F H : vF} {G G' : vG} {m k i n p w g : Nat} {x y v v' : Int32} {W : Int} {T : vS}
theorem owed_eq (hR : RG F H) (hm : m < 8) : v_X0_owedTo H m = w_fromOthers F (nI m) := by
  rw [t_v_X0_owedTo, t_w_fromOthers hm]
  exact s8_congr fun j hj => hR.d hj hm
theorem owed_nn (h : IR W F) (hW : W ≤ 1000) (hm : m < 8) : w_fromOthers F (nI m) = 0 ↔ w_fromOthers F (nI m) ≤ 0 := by
  rw [t_w_fromOthers hm]
  have hb : ∀ j, j < 8 → (F (125 + 8 * j + m)).toInt ≤ 2100000 := by
    intro j hj
    have a := si_part (g := fun p => (F (125 + 8 * j + p)).toInt) (h.2.2.1 j hj).2.2 hm
    have b := (h.2.2.2.2.2.2.2.2.2.2.2.2.1 j hj).1
    have c := h.2.2.2.1
    have a' : (F (125 + 8 * j + m)).toInt ≤ Zd F j := a
    clear a
    generalize Zd F j = z at *
    omega
  have hs : fb_si (fun p => (F (125 + 8 * p + m)).toInt) 8 ≤ 16800000 := by
    have := si_le (g := fun p => (F (125 + 8 * p + m)).toInt) (h := fun _ => 2100000) 8 hb
    exact Int.le_trans this (by decide)
  have hn : ∀ j, j < 8 → 0 ≤ (F (125 + 8 * j + m)).toInt := fun j hj => (h.2.2.1 j hj).2.2 m hm
  have e := s8_toInt (f := fun o => F (125 + 8 * o + m)) hn (Int.lt_of_le_of_lt hs (by decide))
  have h0 := si_nonneg (g := fun p => (F (125 + 8 * p + m)).toInt) (n := 8) hn
  rw [← Int32.toInt_inj, Int32.le_iff_toInt_le, e, z32]
  generalize fb_si (fun p => (F (125 + 8 * p + m)).toInt) 8 = z at *
  omega
theorem mayGo_eq (h : IR W F) (hW : W ≤ 1000) (hR : RG F H) (hm : m < 8) (hh : F (13 + 14 * m + 0) = 1) : v_X0_mayGo H m = 0 ↔ (0 < F (13 + 14 * m + 4) ∨ 0 < w_debts F (nI m) ∨ ¬ w_fromOthers F (nI m) ≤ 0 ∨ ¬ F (13 + 14 * m + 12) ≤ F 8) := by
  have e4 := hR.h hm (w := 4) (by decide)
  have e12 := hR.s hm (w := 12) (by decide) (Or.inl hh)
  have hd := debts0 h hW hR hm
  have hdn := debts_nn h hW hm
  have ho := owed_nn h hW hm
  unfold v_X0_mayGo
  rw [nm_eq]
  by_cases c1 : v_X2_hasLoan H m = 0
  · have c1' : ¬ 0 < F (13 + 14 * m + 4) := by
      have := hasLoan_iff.mp c1
      rw [e4] at this
      exact nlt_of_le this
    rw [if_pos c1, nm_eq]
    by_cases c2 : v_X2_hasDebts H m = 0
    · have c2' : ¬ 0 < w_debts F (nI m) := fun q => hdn.mp q (hd.mp c2)
      rw [if_pos c2, nm_eq, owed_eq hR hm]
      by_cases c3 : w_fromOthers F (nI m) = 0
      · rw [if_pos c3, hR.g (j := 8) (by decide), e12]
        by_cases c4 : F 8 < F (13 + 14 * m + 12)
        · rw [if_pos c4]
          exact ⟨fun _ => Or.inr (Or.inr (Or.inr (nle_of_lt c4))), fun _ => rfl⟩
        · rw [if_neg c4]
          exact ⟨fun q => absurd q (by decide), fun q => absurd (((q.resolve_left c1').resolve_left c2').resolve_left (fun q => q (ho.mp c3))) (fun q => q (fa_of_nlt c4))⟩
      · rw [if_neg c3]
        exact ⟨fun _ => Or.inr (Or.inr (Or.inl fun q => c3 (ho.mpr q))), fun _ => rfl⟩
    · rw [if_neg c2]
      exact ⟨fun _ => Or.inr (Or.inl (hdn.mpr fun q => c2 (hd.mpr q))), fun _ => rfl⟩
  · rw [if_neg c1]
    refine ⟨fun _ => Or.inl ?_, fun _ => rfl⟩
    rw [← e4]
    exact fa_of_nle fun q => c1 (hasLoan_iff.mpr q)
theorem away_eq (h : IR W F) (hR : RG F H) : v_X0_awayMembers H = w_absents F := by
  rw [t_v_X0_awayMembers, t_w_absents]
  refine s8_congr fun j hj => ?_
  have := h.here hR hj
  rcases (h.1 j hj).1 with e | e
  · rw [if_pos (this.mpr (by rw [e]; decide)), e, Int32.zero_mul]
  · rw [if_neg (fun q => this.mp q e), hR.s hj (w := 7) (by decide) (Or.inl e), e, Int32.one_mul]
    rcases (h.1 j hj).2 with e2 | e2 <;> rw [e2] <;> decide
theorem sum_eq {w : Nat} (hR : RG F H) (hw : w < 14) (hw2 : w = 0 ∨ w = 2 ∨ w = 3 ∨ w = 4 ∨ w = 5 ∨ w = 6 ∨ w = 10 ∨ w = 11) : s8 (fun i => H (13 + 14 * i + w)) = w_sumOf F (nI w) := by
  rw [t_w_sumOf hw]
  exact s8_congr fun j hj => hR.h hj hw2
theorem toOthers_eq (hR : RG F H) (hm : m < 8) : v_X2_debtToMembers H m = w_toOthers F (nI m) := by
  rw [t_v_X2_debtToMembers, t_w_toOthers hm]
  exact s8_congr fun j hj => hR.d hm hj
theorem among_eq (hR : RG F H) : v_X0_debtsAmongMembers H = w_among F := by
  rw [t_v_X0_debtsAmongMembers, t_w_among]
  exact s8_congr fun j hj => toOthers_eq hR hj
/-- the model's counts, kp states being saved -/
def w_counted (kp : Int32) (F : vF) (p1 : Int32) : Int32 := if 5 ≤ p1 then if 9 ≤ p1 then if 12 ≤ p1 then if p1 = 12 then (((F 9) + (F 10)) - (F 11)) else if p1 = 13 then (F 12) else if p1 = 14 then nm (w_absents F) (fun r_170 => r_170) else kp else (F ((9 + p1) - 9).toNatClampNeg) else if p1 = 5 then nm (w_sumOf F 3) (fun r_52 => r_52) else if p1 = 6 then nm (w_sumOf F 10) (fun r_67 => r_67) else if p1 = 7 then nm (w_sumOf F 11) (fun r_82 => r_82) else nm (w_among F) (fun r_92 => r_92) else if 3 ≤ p1 then if p1 = 3 then nm (w_members F) (fun r_25 => r_25) else (F 8) else (F p1.toNatClampNeg)
theorem f_counted (p1 : Int32) : x_X5_counted (emm T 1 G) p1 = w_counted (T 0 3) G.1 p1 := by
  unfold x_X5_counted w_counted
  have e : emm T 1 G 0 3 = T 0 3 := em_out (by decide) (by decide) (by omega)
  simp only [nm_eq, em_q, f_absents, f_sumOf, f_among T (q := 1) (Or.inl rfl), f_members, e]
theorem figure_eq (h : IR W F) (hR : RG F H) {kp : Int32} {q : Nat} (hq : q < 15) : v_X0_figure H (nI q) = w_counted kp F (nI q) := by
  have g := fun j (hj : j < 13) => hR.g (j := j) hj
  have e3 := members_eq h hR
  have e5 := sum_eq (w := 3) hR (by decide) (by decide)
  have e6 := sum_eq (w := 10) hR (by decide) (by decide)
  have e7 := sum_eq (w := 11) hR (by decide) (by decide)
  have e8 := among_eq hR
  have e14 := away_eq h hR
  have c9 : ((9 + nI 9) - 9).toNatClampNeg = 9 := by decide
  have c10 : ((9 + nI 10) - 9).toNatClampNeg = 10 := by decide
  have c11 : ((9 + nI 11) - 9).toNatClampNeg = 11 := by decide
  have c0 : (nI 0).toNatClampNeg = 0 := by decide
  have c1 : (nI 1).toNatClampNeg = 1 := by decide
  have c2 : (nI 2).toNatClampNeg = 2 := by decide
  unfold v_X0_figure w_counted
  simp only [nm_eq, t_v_X0_loansLeft, t_v_X0_bankDebts, t_v_X0_fundDebts]
  rw [e3, e5, e6, e7, e8, e14, g 0 (by decide), g 1 (by decide), g 2 (by decide), g 8 (by decide), g 9 (by decide), g 10 (by decide), g 11 (by decide), g 12 (by decide)]
  obtain rfl | rfl | rfl | rfl | rfl | rfl | rfl | rfl | rfl | rfl | rfl | rfl | rfl | rfl | rfl : q = 0 ∨ q = 1 ∨ q = 2 ∨ q = 3 ∨ q = 4 ∨ q = 5 ∨ q = 6 ∨ q = 7 ∨ q = 8 ∨ q = 9 ∨ q = 10 ∨ q = 11 ∨ q = 12 ∨ q = 13 ∨ q = 14 := by omega
  all_goals (repeat (first | rw [if_pos (by decide)] | rw [if_neg (by decide)]))
  all_goals first | rfl | rw [c0] | rw [c1] | rw [c2] | rw [c9] | rw [c10] | rw [c11]
theorem counted_15 {kp : Int32} : w_counted kp F (nI 15) = kp := by
  unfold w_counted
  repeat (first | rw [if_pos (by decide)] | rw [if_neg (by decide)])
theorem property_eq (h : IR W F) (hR : RG F H) (hm : m < 8) (hh : F (13 + 14 * m + 0) = 1) {q : Nat} (hq : q < 14) : (if nI q = 11 then v_X0_owedTo H m else v_X2_property H m (nI q)) = w_ofMember F (nI m) (nI q) := by
  have s := fun w (hw : w < 14) => hR.s hm (w := w) hw (Or.inl hh)
  have ed := due_eq h hR hm
  have et := toOthers_eq hR hm
  have eo := owed_eq hR hm
  have a7 : (if bz (F (13 + 14 * m + 7)) = 0 then (0 : Int32) else 1) = F (13 + 14 * m + 7) := by
    rcases (h.1 m hm).2 with e | e <;> rw [e] <;> decide
  unfold v_X2_property w_ofMember
  simp only [nm_eq]
  rw [ed, et, eo, s 1 (by decide), s 2 (by decide), s 3 (by decide), s 4 (by decide), s 7 (by decide), s 8 (by decide), s 9 (by decide), s 10 (by decide), s 11 (by decide), s 12 (by decide), s 13 (by decide), a7]
  obtain rfl | rfl | rfl | rfl | rfl | rfl | rfl | rfl | rfl | rfl | rfl | rfl | rfl | rfl : q = 0 ∨ q = 1 ∨ q = 2 ∨ q = 3 ∨ q = 4 ∨ q = 5 ∨ q = 6 ∨ q = 7 ∨ q = 8 ∨ q = 9 ∨ q = 10 ∨ q = 11 ∨ q = 12 ∨ q = 13 := by omega
  all_goals (repeat (first | rw [if_pos (by decide)] | rw [if_neg (by decide)]))
  · rw [show (1 + nI 0 : Int32) = 1 by decide, nof_1 hm]
  · rw [show (1 + nI 1 : Int32) = 2 by decide, nof_2 hm]
  · rw [show (1 + nI 2 : Int32) = 3 by decide, nof_3 hm]
  · rw [show (1 + nI 3 : Int32) = 4 by decide, nof_4 hm]
  · rw [show ((7 + nI 5) - 5 : Int32) = 7 by decide, nof_7 hm]
  · rw [show ((7 + nI 6) - 5 : Int32) = 8 by decide, nof_8 hm]
  · rw [show ((7 + nI 7) - 5 : Int32) = 9 by decide, nof_9 hm]
  · rw [show ((7 + nI 8) - 5 : Int32) = 10 by decide, nof_10 hm]
  · rw [nof_11 hm]
  · rw [show nI 12 = (12 : Int32) from rfl, nof_12 hm]
  · rw [show nI 13 = (13 : Int32) from rfl, nof_13 hm]
theorem share_eq (h : IR W F) (hW : W ≤ 1000) (hR : RG F H) : v_X0_shareOfPaid H = w_share F := by
  obtain ⟨h1, h2, h3, h4, h5, h6, h7, h8, h9, h10, h11, h12, h13, h14, h15⟩ := h
  have lc := (Lc_0 (F := F)).2
  have t : (F 9 + F 10).toInt = (F 9).toInt + (F 10).toInt := by
    generalize Lc F = l at *
    clear h9 h8
    exact fb_addI (by omega) (by omega)
  unfold v_X0_shareOfPaid w_share
  rw [nm_eq, nm_eq, hR.g (j := 9) (by decide), hR.g (j := 10) (by decide), hR.g (j := 11) (by decide)]
  have : F 9 + F 10 ≤ 0 ↔ F 9 + F 10 = 0 := by
    rw [← Int32.toInt_inj, Int32.le_iff_toInt_le, t, z32]
    have a := h11.1
    have b := h12.1
    clear h9 h8 h11 lc t
    omega
  by_cases c : F 9 + F 10 = 0
  · rw [if_pos c, if_pos (this.mpr c)]
  · rw [if_neg c, if_neg (fun q => c (this.mp q))]
end READS
