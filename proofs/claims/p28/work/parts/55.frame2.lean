section FRAMES2
variable {F H : vF} {G : vG} {m k i n : Nat} {x y v : Int32} {P : Nat → Prop}
def GX (P : Nat → Prop) (F F' : vF) : Prop := ∀ j, P j → F' j = F j
/-- P has none of the places that a due of member m may change -/
def NP (P : Nat → Prop) (m : Nat) : Prop := (∀ i, i = 8 ∨ i = 10 ∨ i = 12 → ¬ P i) ∧ (∀ w, w < 14 ∧ w ≠ 0 ∧ w ≠ 1 ∧ w ≠ 7 ∧ w ≠ 12 ∧ w ≠ 13 → ¬ P (13 + 14 * m + w)) ∧ (∀ o, o < 8 → ¬ P (13 + 14 * o + 13)) ∧ ∀ p, p < 8 → ¬ P (125 + 8 * m + p)
theorem NP.g (h : NP P m) {i : Nat} (hi : i = 8 ∨ i = 10 ∨ i = 12) : ¬ P i := h.1 i hi
theorem NP.w (h : NP P m) {w : Nat} (hw : w < 14 ∧ w ≠ 0 ∧ w ≠ 1 ∧ w ≠ 7 ∧ w ≠ 12 ∧ w ≠ 13) : ¬ P (13 + 14 * m + w) := h.2.1 w hw
theorem NP.s (h : NP P m) {o : Nat} (ho : o < 8) : ¬ P (13 + 14 * o + 13) := h.2.2.1 o ho
theorem NP.d (h : NP P m) {p : Nat} (hp : p < 8) : ¬ P (125 + 8 * m + p) := h.2.2.2 p hp
theorem GX.rf : GX P F F := fun _ _ => rfl
theorem GX.up {F' : vF} (h : GX P F F') (hi : ¬ P i) : GX P F (upd F' i x) := by
  intro j hj
  have hne : j ≠ i := fun e => hi (by rw [← e]; exact hj)
  rw [upd_ne hne]
  exact h j hj
theorem np_FrI (hm : m < 8) : NP (FrI m) m := by
  refine ⟨?_, ?_, ?_, ?_⟩
  · intro i hi h
    have := h.1; have := h.2.1; have := h.2.2.1
    omega
  · intro w hw h
    have := h.2.2.2.1; have := h.2.2.2.2.1
    omega
  · intro o ho h
    have := h.2.2.2.2.2.1
    omega
  · intro p hp h
    have := h.2.2.2.2.2.2
    omega
theorem gx_share (hm : m < 8) (hP : NP P m) {rest h d : Int32} : ∀ (n i : Nat) (a : Int32) (F : vF) (G : vG), i + n = 8 → GX P F G.1 → GX P F (w_misses_L122 (n + 1) G (nI m) i a h rest d).2.1 := by
  intro n
  induction n with
  | zero =>
    intro i a F G hi hF
    obtain rfl : i = 8 := by omega
    rw [w_misses_L122.eq_2, if_pos le8]
    exact hF
  | succ n ih =>
    intro i a F G hi hF
    have hi8 : i < 8 := by omega
    rw [w_misses_L122.eq_2, if_neg (ge8 hi8), nm_eq, nof_0 hi8]
    by_cases c1 : G.1 (13 + 14 * i + 0) = 1
    · rw [if_pos c1, nm_eq, nof_7 hi8]
      by_cases c2 : G.1 (13 + 14 * i + 7) = 0
      · rw [if_pos c2]
        by_cases c3 : (rest - rest / h * h) ≤ a
        · rw [if_pos c3]
          simp only [nm_eq, nad_13 hi8, cl8 hm]
          refine ih (i + 1) _ F _ (by omega) ?_
          exact GX.up (GX.up hF (hP.d hi8)) (hP.s hi8)
        · rw [if_neg c3]
          simp only [nm_eq, nad_13 hi8, cl8 hm]
          refine ih (i + 1) _ F _ (by omega) ?_
          exact GX.up (GX.up hF (hP.d hi8)) (hP.s hi8)
      · rw [if_neg c2]
        exact ih (i + 1) a F G (by omega) hF
    · rw [if_neg c1]
      exact ih (i + 1) a F G (by omega) hF
theorem gx_misses (hm : m < 8) (hP : NP P m) (hF : GX P F G.1) : GX P F (w_misses G (nI m)).2.1 := by
  unfold w_misses
  generalize w_due G.1 (nI m) = d
  simp only [nm_eq, nad_8 hm, nad_9 hm, nad_11 hm, nad_10 hm, upq_2]
  have key : ∀ x y : Int32, ∀ a b c e : Int32, GX P F (upq (upq (upq (upq (upq G (13 + 14 * m + 8) a) (13 + 14 * m + 9) b) 12 c) 8 x) (13 + 14 * m + 11) e).1 := fun x y a b c e =>
    GX.up (GX.up (GX.up (GX.up (GX.up hF (hP.w (by decide))) (hP.w (by decide))) (hP.g (by decide))) (hP.g (by decide))) (hP.w (by decide))
  have tail : ∀ (G5 : vG) (x d a u : Int32), GX P F G5.1 → GX P F (if w_helpers G5.1 = 0 then if bz u = 0 then if d - x ≤ 0 then (x, upu (upq G5 (13 + 14 * m + 10) a) 0) else (x, upu (upq G5 (13 + 14 * m + 10) a) 1) else (x, upu (upq G5 (13 + 14 * m + 10) a) 1) else w_misses_L122 9 G5 (nI m) 0 0 (w_helpers G5.1) (d - x) d).2.1 := by
    intro G5 x d a u h
    have h2 : GX P F (upd G5.1 (13 + 14 * m + 10) a) := h.up (hP.w (by decide))
    by_cases c1 : w_helpers G5.1 = 0
    · rw [if_pos c1]
      by_cases c2 : bz u = 0
      · rw [if_pos c2]
        by_cases c3 : d - x ≤ 0
        · rw [if_pos c3]; exact h2
        · rw [if_neg c3]; exact h2
      · rw [if_neg c2]; exact h2
    · rw [if_neg c1]
      exact gx_share hm hP 8 0 _ F G5 rfl h
  split
  · exact tail _ _ _ _ _ (key _ d _ _ _ _)
  · exact tail _ _ _ _ _ (key _ d _ _ _ _)
theorem gx_tail (hm : m < 8) (hP : NP P m) (hF : GX P F G.1) : GX P F (wTail G m).1 := by
  unfold wTail
  rw [nm_eq]
  have h2 : GX P F (upq (upq G (13 + 14 * m + 3) (G.1 (13 + 14 * m + 3) + -(w_partOf G.1 (nI m)))) (13 + 14 * m + 4) (G.1 (13 + 14 * m + 4) + -1)).1 := GX.up (GX.up hF (hP.w (by decide))) (hP.w (by decide))
  by_cases c : G.1 (13 + 14 * m + 4) + -1 = 0
  · rw [if_pos c, n_loanEnds hm]
    exact GX.up (GX.up (GX.up (GX.up (GX.up h2 (hP.w (by decide))) (hP.w (by decide))) (hP.w (by decide))) (hP.w (by decide))) (hP.w (by decide))
  · rw [if_neg c]
    exact h2
theorem gx_step (hm : m < 8) (hP : NP P m) (hF : GX P F G.1) : GX P F (wStep G m v).2.1 := by
  unfold wStep
  by_cases c1 : G.1 (13 + 14 * m + 0) = 1
  · rw [if_pos c1]
    by_cases c2 : G.1 (13 + 14 * m + 4) ≤ 0
    · rw [if_pos c2]; exact hF
    · rw [if_neg c2, nm_eq]
      have h1 : GX P F (upq G 10 (G.1 10 + G.1 (13 + 14 * m + 6))).1 := GX.up hF (hP.g (by decide))
      generalize upq G 10 (G.1 10 + G.1 (13 + 14 * m + 6)) = G1 at h1 ⊢
      by_cases c3 : G1.1 (13 + 14 * m + 7) = 0
      · rw [if_pos c3]; dsimp only; exact gx_tail hm hP h1
      · rw [if_neg c3, nmp_eq]; dsimp only; exact gx_tail hm hP (gx_misses hm hP h1)
  · rw [if_neg c1]; exact hF
theorem wS_fr (hm : m < 8) : ∀ j, FrI m j → (wStep G m v).2.1 j = G.1 j := gx_step hm (np_FrI hm) GX.rf
theorem nh_step (hi : i < 8) (h : ∀ o, o < 8 → G.1 (13 + 14 * o + 0) = 0 → G.1 (13 + 14 * o + 4) = 0) : ∀ o, o < 8 → (wStep G i v).2.1 (13 + 14 * o + 0) = 0 → (wStep G i v).2.1 (13 + 14 * o + 4) = 0 := by
  intro o ho h0
  rw [wS_fr hi _ (FrI_0 hi ho)] at h0
  by_cases c : o = i
  · subst c
    rw [wS_none (Or.inl (fun q => absurd (h0.symm.trans q) (by decide)))]
    exact h o ho h0
  · rw [wS_fr hi _ (FrI_w hi ho c (by decide))]
    exact h o ho h0
theorem nh_it : ∀ (n i : Nat) (G : vG) (v : Int32), i + n = 8 → (∀ o, o < 8 → G.1 (13 + 14 * o + 0) = 0 → G.1 (13 + 14 * o + 4) = 0) → ∀ o, o < 8 → (itS n G i v).2.1 (13 + 14 * o + 0) = 0 → (itS n G i v).2.1 (13 + 14 * o + 4) = 0 := by
  intro n
  induction n with
  | zero => intro i G v h hI; exact hI
  | succ n ih => intro i G v h hI; exact ih (i + 1) _ _ (by omega) (nh_step (by omega) hI)
theorem nh8_step (hi : i < 8) : ∀ o, o < 8 → G.1 (13 + 14 * o + 0) = 0 → (wStep G i v).2.1 (13 + 14 * o + 8) = G.1 (13 + 14 * o + 8) := by
  intro o ho h0
  by_cases c : o = i
  · subst c
    rw [wS_none (Or.inl (fun q => absurd (h0.symm.trans q) (by decide)))]
  · exact wS_fr hi _ (FrI_w hi ho c (by decide))
theorem nh8_it : ∀ (n i : Nat) (G : vG) (v : Int32), i + n = 8 → ∀ o, o < 8 → G.1 (13 + 14 * o + 0) = 0 → (itS n G i v).2.1 (13 + 14 * o + 8) = G.1 (13 + 14 * o + 8) := by
  intro n
  induction n with
  | zero => intro i G v h o ho h0; rfl
  | succ n ih =>
    intro i G v h o ho h0
    refine (ih (i + 1) (wStep G i v).2 (wStep G i v).1 (by omega) o ho ?_).trans (nh8_step (by omega) o ho h0)
    rw [wS_fr (by omega) _ (FrI_0 (by omega) ho)]
    exact h0
end FRAMES2
