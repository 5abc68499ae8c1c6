section FRAMES
variable {F H : vF} {G : vG} {m k i n : Nat} {x y v : Int32}
/-- places that no due changes -/
def Fx (j : Nat) : Prop := j < 8 ∨ j = 9 ∨ j = 11 ∨ (13 ≤ j ∧ j < 125 ∧ ((j - 13) % 14 = 0 ∨ (j - 13) % 14 = 1 ∨ (j - 13) % 14 = 7 ∨ (j - 13) % 14 = 12))
/-- what no due changes of a row -/
def FX (F F' : vF) : Prop := ∀ j, Fx j → F' j = F j
theorem FX.rf : FX F F := fun _ _ => rfl
theorem FX.up {F' : vF} (h : FX F F') (hi : ¬ Fx i) : FX F (upd F' i x) := by
  intro j hj
  have hne : j ≠ i := fun e => hi (by rw [← e]; exact hj)
  rw [upd_ne hne]
  exact h j hj
theorem nFx_w {w : Nat} (hm : m < 8) (hw : w < 14 ∧ w ≠ 0 ∧ w ≠ 1 ∧ w ≠ 7 ∧ w ≠ 12) : ¬ Fx (13 + 14 * m + w) := by
  unfold Fx
  have e : (13 + 14 * m + w - 13) % 14 = w := by omega
  rw [e]
  omega
theorem nFx_d (hm : m < 8) (hi : i < 8) : ¬ Fx (125 + 8 * m + i) := by
  unfold Fx
  omega
theorem nFx_g (h : i = 8 ∨ i = 10 ∨ i = 12) : ¬ Fx i := by
  unfold Fx
  omega
theorem fx_share (hm : m < 8) {rest h d : Int32} : ∀ (n i : Nat) (a : Int32) (F : vF) (G : vG), i + n = 8 → FX F G.1 → FX F (w_misses_L122 (n + 1) G (nI m) i a h rest d).2.1 := by
  intro n
  induction n with
  | zero =>
    intro i a F G hi hF
    obtain rfl : i = 8 := by omega
    rw [w_misses_L122.eq_2, if_pos le8]
    exact hF
  | succ n ih =>
    intro i a F G hi hF
    have hi8 : i < 8 := by omega
    rw [w_misses_L122.eq_2, if_neg (ge8 hi8), nm_eq, nof_0 hi8]
    by_cases c1 : G.1 (13 + 14 * i + 0) = 1
    · rw [if_pos c1, nm_eq, nof_7 hi8]
      by_cases c2 : G.1 (13 + 14 * i + 7) = 0
      · rw [if_pos c2]
        by_cases c3 : (rest - rest / h * h) ≤ a
        · rw [if_pos c3]
          simp only [nm_eq, nad_13 hi8, cl8 hm]
          refine ih (i + 1) _ F _ (by omega) ?_
          exact FX.up (FX.up hF (nFx_d hm hi8)) (nFx_w hi8 (by decide))
        · rw [if_neg c3]
          simp only [nm_eq, nad_13 hi8, cl8 hm]
          refine ih (i + 1) _ F _ (by omega) ?_
          exact FX.up (FX.up hF (nFx_d hm hi8)) (nFx_w hi8 (by decide))
      · rw [if_neg c2]
        exact ih (i + 1) a F G (by omega) hF
    · rw [if_neg c1]
      exact ih (i + 1) a F G (by omega) hF
theorem fx_misses (hm : m < 8) (hF : FX F G.1) : FX F (w_misses G (nI m)).2.1 := by
  unfold w_misses
  generalize w_due G.1 (nI m) = d
  simp only [nm_eq, nad_8 hm, nad_9 hm, nad_11 hm, nad_10 hm, upq_2]
  have key : ∀ x y : Int32, ∀ a b c e : Int32, FX F (upq (upq (upq (upq (upq G (13 + 14 * m + 8) a) (13 + 14 * m + 9) b) 12 c) 8 x) (13 + 14 * m + 11) e).1 := fun x y a b c e =>
    FX.up (FX.up (FX.up (FX.up (FX.up hF (nFx_w hm (by decide))) (nFx_w hm (by decide))) (nFx_g (by decide))) (nFx_g (by decide))) (nFx_w hm (by decide))
  have tail : ∀ (G5 : vG) (x d a u : Int32), FX F G5.1 → FX F (if w_helpers G5.1 = 0 then if bz u = 0 then if d - x ≤ 0 then (x, upu (upq G5 (13 + 14 * m + 10) a) 0) else (x, upu (upq G5 (13 + 14 * m + 10) a) 1) else (x, upu (upq G5 (13 + 14 * m + 10) a) 1) else w_misses_L122 9 G5 (nI m) 0 0 (w_helpers G5.1) (d - x) d).2.1 := by
    intro G5 x d a u h
    have h2 : FX F (upd G5.1 (13 + 14 * m + 10) a) := h.up (nFx_w hm (by decide))
    by_cases c1 : w_helpers G5.1 = 0
    · rw [if_pos c1]
      by_cases c2 : bz u = 0
      · rw [if_pos c2]
        by_cases c3 : d - x ≤ 0
        · rw [if_pos c3]; exact h2
        · rw [if_neg c3]; exact h2
      · rw [if_neg c2]; exact h2
    · rw [if_neg c1]
      exact fx_share hm 8 0 _ F G5 rfl h
  split
  · exact tail _ _ _ _ _ (key _ d _ _ _ _)
  · exact tail _ _ _ _ _ (key _ d _ _ _ _)
theorem fx_tail (hm : m < 8) (hF : FX F G.1) : FX F (wTail G m).1 := by
  unfold wTail
  rw [nm_eq]
  have h2 : FX F (upq (upq G (13 + 14 * m + 3) (G.1 (13 + 14 * m + 3) + -(w_partOf G.1 (nI m)))) (13 + 14 * m + 4) (G.1 (13 + 14 * m + 4) + -1)).1 := FX.up (FX.up hF (nFx_w hm (by decide))) (nFx_w hm (by decide))
  by_cases c : G.1 (13 + 14 * m + 4) + -1 = 0
  · rw [if_pos c, n_loanEnds hm]
    exact FX.up (FX.up (FX.up (FX.up (FX.up h2 (nFx_w hm (by decide))) (nFx_w hm (by decide))) (nFx_w hm (by decide))) (nFx_w hm (by decide))) (nFx_w hm (by decide))
  · rw [if_neg c]
    exact h2
theorem fx_step (hm : m < 8) (hF : FX F G.1) : FX F (wStep G m v).2.1 := by
  unfold wStep
  by_cases c1 : G.1 (13 + 14 * m + 0) = 1
  · rw [if_pos c1]
    by_cases c2 : G.1 (13 + 14 * m + 4) ≤ 0
    · rw [if_pos c2]; exact hF
    · rw [if_neg c2, nm_eq]
      have h1 : FX F (upq G 10 (G.1 10 + G.1 (13 + 14 * m + 6))).1 := FX.up hF (nFx_g (by decide))
      generalize upq G 10 (G.1 10 + G.1 (13 + 14 * m + 6)) = G1 at h1 ⊢
      by_cases c3 : G1.1 (13 + 14 * m + 7) = 0
      · rw [if_pos c3]; dsimp only; exact fx_tail hm h1
      · rw [if_neg c3, nmp_eq]; dsimp only; exact fx_tail hm (fx_misses hm h1)
  · rw [if_neg c1]; exact hF
theorem fx_it : ∀ (n i : Nat) (G : vG) (v : Int32), i + n = 8 → FX F G.1 → FX F (itS n G i v).2.1 := by
  intro n
  induction n with
  | zero => intro i G v h hF; exact hF
  | succ n ih => intro i G v h hF; exact ih (i + 1) _ _ (by omega) (fx_step (by omega) hF)
end FRAMES
