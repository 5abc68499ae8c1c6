section WEEKR
variable {F H : vF} {G : vG} {hr : Nat → Prop} {m k i n : Nat} {x y v : Int32} {B : Nat → Int32}
theorem sr_tail (hm : m < 8) {x d a b u : Int32} (hS : SR hr B G H (v + x)) (ha : a = G.1 (13 + 14 * m + 10)) (hb : b = H (13 + 14 * m + 10)) :
    ∃ r G', (if w_helpers G.1 = 0 then if bz u = 0 then if d - x ≤ 0 then (x, upu (upq G (13 + 14 * m + 10) (a + (d - x))) 0) else (x, upu (upq G (13 + 14 * m + 10) (a + (d - x))) 1) else (x, upu (upq G (13 + 14 * m + 10) (a + (d - x))) 1) else w_misses_L122 9 G (nI m) 0 0 (w_helpers G.1) (d - x) d) = (r, G') ∧ SR hr B G' (if v_X0_memberCount H - v_X0_awayMembers H ≤ 0 then upd H (13 + 14 * m + 10) (b + (d - x)) else v_X0_shareRest H m (d - x) (v_X0_memberCount H - v_X0_awayMembers H)) (v + r) := by
  obtain ⟨hh, c, hc, hc2⟩ := hS.helpers
  rw [hh, hc2]
  have hup : SR hr B (upq G (13 + 14 * m + 10) (a + (d - x))) (upd H (13 + 14 * m + 10) (b + (d - x))) (v + x) := by
    refine SR.up hS ?_ ?_ ?_ ?_
    · rw [ha, hb, hS.h hm (by decide)]
    all_goals first | omega | (intro o ho; omega)
  by_cases c0 : c = 0
  · subst c0
    rw [if_pos (show nI 0 = 0 by decide), if_pos (show nI 0 ≤ 0 by decide)]
    by_cases c1 : bz u = 0
    · rw [if_pos c1]
      by_cases c2 : d - x ≤ 0
      · rw [if_pos c2]; exact ⟨_, _, rfl, hup.unp⟩
      · rw [if_neg c2]; exact ⟨_, _, rfl, hup.unp⟩
    · rw [if_neg c1]; exact ⟨_, _, rfl, hup.unp⟩
  · have hpos : ¬ nI c ≤ 0 := nI_nle (by omega) (by omega)
    rw [if_neg (fun q => hpos (by rw [q]; decide)), if_neg hpos]
    unfold v_X0_shareRest
    rw [if_pos (fa_of_nle hpos), nm_eq, nm_eq]
    obtain ⟨G', h1, h2⟩ := sr_share hm (rest := d - x) (h := nI c) (d := d) (hn := c) rfl (by omega) hc 8 0 0 G H (v + x) _ rfl (Nat.le_refl 0) (by exact (Int32.sub_zero _).symm) hS
    refine ⟨d, G', h1, ?_⟩
    have e : v + x + (d - x) = v + d := by grind
    rw [← e]
    exact h2
theorem sr_misses (hm : m < 8) (hS : SR hr B G H v) (c1 : G.1 (13 + 14 * m + 0) = 1) : ∃ r G', w_misses G (nI m) = (r, G') ∧ SR hr B G' (v_X0_coverMissed H m (w_due G.1 (nI m))) (v + r) := by
  unfold w_misses v_X0_coverMissed
  generalize w_due G.1 (nI m) = d
  have e8 := hS.s hm (w := 8) (by decide) c1
  have e9 := hS.s hm (w := 9) (by decide) c1
  have e11 := hS.s hm (w := 11) (by decide) c1
  have e10 := hS.s hm (w := 10) (by decide) c1
  have g12 := hS.g (j := 12) (by decide) (by decide)
  have g8 := hS.g (j := 8) (by decide) (by decide)
  simp only [nm_eq, nad_8 hm, nad_9 hm, nad_11 hm, nad_10 hm, upq_1, upq_2]
  simp (disch := omega) only [upd_ne, upd_same]
  have key : ∀ x : Int32, SR hr B (upq (upq (upq (upq (upq G (13 + 14 * m + 8) (G.1 (13 + 14 * m + 8) + 1)) (13 + 14 * m + 9) (G.1 (13 + 14 * m + 9) + 1)) 12 (G.1 12 + 1)) 8 (G.1 8 - x)) (13 + 14 * m + 11) (G.1 (13 + 14 * m + 11) + x)) (upd (upd (upd (upd (upd (upd H (13 + 14 * m + 8) (H (13 + 14 * m + 8) + 1)) (13 + 14 * m + 9) (H (13 + 14 * m + 9) + 1)) 12 (H 12 + 1)) 8 (H 8 - x)) (13 + 14 * m + 11) (H (13 + 14 * m + 11) + x)) 11 (H 11 + x)) (v + x) := by
    intro x
    refine SR.pay ?_ (by simp (disch := omega) only [upd_ne])
    refine SR.up (SR.up (SR.up (SR.up (SR.up hS (by rw [e8]) ?_ ?_ ?_) (by rw [e9]) ?_ ?_ ?_) (by rw [g12]) ?_ ?_ ?_) (by rw [g8]) ?_ ?_ ?_) (by rw [e11]) ?_ ?_ ?_
    all_goals first | omega | (intro o ho; omega)
  by_cases c : d ≤ G.1 8
  · have c' : ¬ H 8 < d := by rw [g8]; exact nlt_of_le c
    simp only [if_pos c, if_neg c']
    have k := key d
    clear c c' key g8
    have q := sr_tail (d := d) (u := G.2.2) hm k (by simp (disch := omega) only [upq_1, upd_ne]; rfl) (by simp (disch := omega) only [upd_ne]; rfl)
    simp only [upq_1] at q
    exact q
  · have c' : G.1 8 < d := fa_of_nle c
    simp only [if_neg c, g8, if_pos c']
    have k := key (G.1 8)
    rw [g8] at k
    clear c c' key g8
    generalize G.1 8 = x at k ⊢
    have q := sr_tail (d := d) (u := G.2.2) hm k (by simp (disch := omega) only [upq_1, upd_ne]; rfl) (by simp (disch := omega) only [upd_ne]; rfl)
    simp only [upq_1] at q
    exact q
end WEEKR
