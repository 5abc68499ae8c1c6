section SETTLE
variable {F H : vF} {G : vG} {hr : Nat → Prop} {m k i n : Nat} {x y v : Int32} {B : Nat → Int32}
theorem n_loanEnds (hm : m < 8) : w_loanEnds G (nI m) = upq (upq (upq (upq (upq G (13 + 14 * m + 2) 0) (13 + 14 * m + 3) 0) (13 + 14 * m + 4) 0) (13 + 14 * m + 5) 0) (13 + 14 * m + 6) 0 := by
  unfold w_loanEnds
  rw [w_loanEnds_L2.eq_2, if_neg (by decide), nm_eq, w_loanEnds_L2.eq_2, if_neg (by decide), nm_eq, w_loanEnds_L2.eq_2, if_neg (by decide), nm_eq, w_loanEnds_L2.eq_2, if_neg (by decide), nm_eq, w_loanEnds_L2.eq_2, if_neg (by decide), nm_eq, w_loanEnds_L2.eq_2, if_pos (by decide), cl8 hm]
theorem n_partOf (hm : m < 8) : w_partOf F (nI m) = if F (13 + 14 * m + 4) = 1 then F (13 + 14 * m + 3) else F (13 + 14 * m + 5) := by
  unfold w_partOf
  simp only [nm_eq, nof_3 hm, nof_4 hm, nof_5 hm]
theorem n_due (hm : m < 8) : w_due F (nI m) = if F (13 + 14 * m + 4) = 0 then 0 else w_partOf F (nI m) + F (13 + 14 * m + 6) := by
  unfold w_due
  simp only [nm_eq, nof_4 hm, nof_6 hm]
def wTail (G : vG) (m : Nat) : vG := nm (upq (upq G (13 + 14 * m + 3) (G.1 (13 + 14 * m + 3) + -(w_partOf G.1 (nI m)))) (13 + 14 * m + 4) (G.1 (13 + 14 * m + 4) + -1)) (fun G2 => if G.1 (13 + 14 * m + 4) + -1 = 0 then w_loanEnds G2 (nI m) else G2)
theorem sr_lessen (hm : m < 8) (hS : SR hr B G H v) : SR hr B (wTail G m) (v_X2_lessenLoan H m) v := by
  have e3 := hS.h hm (w := 3) (by decide)
  have e4 := hS.h hm (w := 4) (by decide)
  have e5 := hS.h hm (w := 5) (by decide)
  have hp : v_X2_part H m = w_partOf G.1 (nI m) := by
    unfold v_X2_part
    rw [n_partOf hm, e3, e4, e5]
  unfold wTail v_X2_lessenLoan
  simp only [nm_eq, hp]
  simp (disch := omega) only [upd_ne, upd_same]
  have e4' : H (13 + 14 * m + 4) - 1 = G.1 (13 + 14 * m + 4) + -1 := by rw [e4]; exact Int32.sub_eq_add_neg _ _
  have e3' : H (13 + 14 * m + 3) - w_partOf G.1 (nI m) = G.1 (13 + 14 * m + 3) + -w_partOf G.1 (nI m) := by rw [e3]; exact Int32.sub_eq_add_neg _ _
  rw [e4', e3']
  by_cases c : G.1 (13 + 14 * m + 4) + -1 = 0
  · rw [if_pos c, if_pos c, n_loanEnds hm]
    have h1 : G.1 (13 + 14 * m + 4) = 1 := by grind
    have h3 : G.1 (13 + 14 * m + 3) + -w_partOf G.1 (nI m) = 0 := by
      rw [n_partOf hm, if_pos h1]
      grind
    rw [h3, c]
    refine ⟨?_, ?_, ?_, ?_, ?_⟩
    · intro j hj
      by_cases c2 : j = 13 + 14 * m + 2
      · subst c2; simp (disch := omega) only [upq_1, upd_ne, upd_same]
      by_cases c3 : j = 13 + 14 * m + 3
      · subst c3; simp (disch := omega) only [upq_1, upd_ne, upd_same]
      by_cases c4 : j = 13 + 14 * m + 4
      · subst c4; simp (disch := omega) only [upq_1, upd_ne, upd_same]
      by_cases c5 : j = 13 + 14 * m + 5
      · subst c5; simp (disch := omega) only [upq_1, upd_ne, upd_same]
      by_cases c6 : j = 13 + 14 * m + 6
      · subst c6; simp (disch := omega) only [upq_1, upd_ne, upd_same]
      simp (disch := omega) only [upq_1, upd_ne]
      exact hS.1 j hj
    · simp (disch := omega) only [upq_1, upd_ne]
      exact hS.2.1
    · intro o ho
      simp (disch := omega) only [upq_2, upd_ne]
      exact hS.2.2.1 o ho
    · intro o ho
      simp (disch := omega) only [upq_1, upd_ne]
      exact hS.2.2.2.1 o ho
    · intro o ho
      simp (disch := omega) only [upq_1, upd_ne]
      exact hS.2.2.2.2 o ho
  · rw [if_neg c, if_neg c]
    refine SR.up (SR.up hS rfl ?_ ?_ ?_) rfl ?_ ?_ ?_
    all_goals first | omega | (intro o ho; omega)
def wStep (G : vG) (m : Nat) (v : Int32) : Int32 × vG :=
  if G.1 (13 + 14 * m + 0) = 1 then (if G.1 (13 + 14 * m + 4) ≤ 0 then (v, G)
    else nm (upq G 10 (G.1 10 + G.1 (13 + 14 * m + 6))) (fun G1 => if G1.1 (13 + 14 * m + 7) = 0 then (v + w_due G1.1 (nI m), wTail G1 m)
      else nmp (w_misses G1 (nI m)) (fun r G2 => (v + r, wTail G2 m))))
  else (v, G)
theorem n_ends_L30 (hi : i < 8) : w_ends_L30 (n + 1) G i v = w_ends_L30 n (wStep G i v).2 (i + 1) (wStep G i v).1 := by
  rw [w_ends_L30.eq_2, if_neg (ge8 hi)]
  unfold wStep
  simp only [nm_eq, nmp_eq, nof_0 hi, nof_4 hi, nof_6 hi, nof_7 hi, nad_3 hi, nad_4 hi]
  by_cases c1 : G.1 (13 + 14 * i + 0) = 1
  · simp only [if_pos c1]
    by_cases c2 : G.1 (13 + 14 * i + 4) ≤ 0
    · simp only [if_pos c2]
    · simp only [if_neg c2]
      generalize upq G 10 (G.1 10 + G.1 (13 + 14 * i + 6)) = G1
      have key : ∀ (G2 : vG) (u : Int32), (if (upq (upq G2 (13 + 14 * i + 3) (G2.1 (13 + 14 * i + 3) + -w_partOf G2.1 (nI i))) (13 + 14 * i + 4) ((upq G2 (13 + 14 * i + 3) (G2.1 (13 + 14 * i + 3) + -w_partOf G2.1 (nI i))).1 (13 + 14 * i + 4) + -1)).1 (13 + 14 * i + 4) = 0 then
          w_ends_L30 n (w_loanEnds (upq (upq G2 (13 + 14 * i + 3) (G2.1 (13 + 14 * i + 3) + -w_partOf G2.1 (nI i))) (13 + 14 * i + 4) ((upq G2 (13 + 14 * i + 3) (G2.1 (13 + 14 * i + 3) + -w_partOf G2.1 (nI i))).1 (13 + 14 * i + 4) + -1)) (nI i)) (i + 1) u
          else w_ends_L30 n (upq (upq G2 (13 + 14 * i + 3) (G2.1 (13 + 14 * i + 3) + -w_partOf G2.1 (nI i))) (13 + 14 * i + 4) ((upq G2 (13 + 14 * i + 3) (G2.1 (13 + 14 * i + 3) + -w_partOf G2.1 (nI i))).1 (13 + 14 * i + 4) + -1)) (i + 1) u) = w_ends_L30 n (wTail G2 i) (i + 1) u := by
        intro G2 u
        unfold wTail
        rw [nm_eq]
        simp (disch := omega) only [upq_1, upd_same, upd_ne]
        by_cases c3 : G2.1 (13 + 14 * i + 4) + -1 = 0
        · rw [if_pos c3, if_pos c3]
        · rw [if_neg c3, if_neg c3]
      by_cases c4 : G1.1 (13 + 14 * i + 7) = 0
      · simp only [if_pos c4]
        exact key _ _
      · simp only [if_neg c4]
        exact key _ _
  · simp only [if_neg c1]
def vStep (H : vF) (m : Nat) : vF := if bz (H (13 + 14 * m + 0)) = 0 then H else if v_X2_hasLoan H m = 0 then H else v_X0_settleDue H m
theorem n_endWeek_L10 (hi : i < 8) : v_X0_endWeek_L10 (n + 1) H i = v_X0_endWeek_L10 n (vStep H i) (i + 1) := by
  rw [v_X0_endWeek_L10.eq_2, if_neg (ge8 hi)]
  unfold vStep
  simp only [nm_eq]
  by_cases c1 : bz (H (13 + 14 * i + 0)) = 0
  · simp only [if_pos c1]
  · simp only [if_neg c1]
    by_cases c2 : v_X2_hasLoan H i = 0
    · simp only [if_pos c2]
    · simp only [if_neg c2]
theorem hasLoan_iff : v_X2_hasLoan H m = 0 ↔ H (13 + 14 * m + 4) ≤ 0 := by
  unfold v_X2_hasLoan
  by_cases c : H (13 + 14 * m + 4) ≤ 0
  · simp [c]
  · simp [c]
theorem sr_step (hm : m < 8) (hS : SR hr B G H v) : SR hr B (wStep G m v).2 (vStep H m) (wStep G m v).1 := by
  unfold wStep vStep
  by_cases c1 : G.1 (13 + 14 * m + 0) = 1
  · rw [if_pos c1, if_neg (fun q => (hS.here hm).mp q c1)]
    have e4 := hS.h hm (w := 4) (by decide)
    have e6 := hS.h hm (w := 6) (by decide)
    have g10 := hS.g (j := 10) (by decide) (by decide)
    by_cases c2 : G.1 (13 + 14 * m + 4) ≤ 0
    · rw [if_pos c2, if_pos (hasLoan_iff.mpr (by rw [e4]; exact c2))]
      exact hS
    · have c2' : ¬ v_X2_hasLoan H m = 0 := fun q => c2 (by rw [← e4]; exact hasLoan_iff.mp q)
      rw [if_neg c2, if_neg c2', nm_eq]
      unfold v_X0_settleDue
      simp only [nm_eq, nmp_eq]
      have hS1 : SR hr B (upq G 10 (G.1 10 + G.1 (13 + 14 * m + 6))) (upd H 10 (H 10 + H (13 + 14 * m + 6))) v := by
        refine SR.up hS (by rw [g10, e6]) (by omega) ?_ ?_
        all_goals (intro o ho; omega)
      have hd : v_X2_due H m = w_due (upq G 10 (G.1 10 + G.1 (13 + 14 * m + 6))).1 (nI m) := by
        have c0 : ¬ G.1 (13 + 14 * m + 4) = 0 := fun q => c2 (by rw [q]; decide)
        rw [n_due hm, n_partOf hm]
        simp (disch := omega) only [upq_1, upd_ne]
        rw [if_neg c0]
        unfold v_X2_due v_X2_part
        rw [nm_eq, if_neg c2', nm_eq, e4, hS.h hm (w := 3) (by decide), hS.h hm (w := 5) (by decide), e6]
      have c1' : (upq G 10 (G.1 10 + G.1 (13 + 14 * m + 6))).1 (13 + 14 * m + 0) = 1 := by
        simp (disch := omega) only [upq_1, upd_ne]
        exact c1
      rw [hd]
      generalize upq G 10 (G.1 10 + G.1 (13 + 14 * m + 6)) = G1 at hS1 c1' ⊢
      generalize upd H 10 (H 10 + H (13 + 14 * m + 6)) = H1 at hS1 ⊢
      have e7 := hS1.s hm (w := 7) (by decide) c1'
      by_cases c3 : G1.1 (13 + 14 * m + 7) = 0
      · rw [if_pos c3, if_pos (bz_iff.mpr (e7.trans c3))]
        dsimp only
        exact sr_lessen hm (hS1.pay rfl)
      · rw [if_neg c3, if_neg (fun q => c3 (e7.symm.trans (bz_iff.mp q)))]
        obtain ⟨r, G', h1, h2⟩ := sr_misses hm hS1 c1'
        rw [h1]
        dsimp only
        exact sr_lessen hm h2
  · rw [if_neg c1, if_pos ((hS.here hm).mpr c1)]
    exact hS
def itS : Nat → vG → Nat → Int32 → Int32 × vG
  | 0, G, _, v => (v, G)
  | n + 1, G, i, v => itS n (wStep G i v).2 (i + 1) (wStep G i v).1
def itV : Nat → vF → Nat → vF
  | 0, H, _ => H
  | n + 1, H, i => itV n (vStep H i) (i + 1)
theorem sr_it : ∀ (n i : Nat) (G : vG) (H : vF) (v : Int32), i + n = 8 → SR hr B G H v → SR hr B (itS n G i v).2 (itV n H i) (itS n G i v).1 := by
  intro n
  induction n with
  | zero => intro i G H v h hS; exact hS
  | succ n ih => intro i G H v h hS; exact ih (i + 1) _ _ _ (by omega) (sr_step (by omega) hS)
theorem n_ends_it : ∀ (n i : Nat) (G : vG) (v : Int32), i + n = 8 → w_ends_L30 (n + 1) G i v = w_ends_L145 9 (upq (itS n G i v).2 11 ((itS n G i v).2.1 11 + (itS n G i v).1)) 0 (itS n G i v).1 := by
  intro n
  induction n with
  | zero =>
    intro i G v h
    obtain rfl : i = 8 := by omega
    rw [w_ends_L30.eq_2, if_pos le8, nm_eq]
    rfl
  | succ n ih =>
    intro i G v h
    rw [n_ends_L30 (by omega), ih _ _ _ (by omega)]
    rfl
end SETTLE
