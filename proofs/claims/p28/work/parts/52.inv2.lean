section INVS2
variable {F H : vF} {G G' : vG} {m k i n p w : Nat} {x y v v' : Int32} {W : Int}
def LMm (F : vF) (m : Nat) : Prop := 0 ≤ (F (13 + 14 * m + 4)).toInt ∧ (F (13 + 14 * m + 4)).toInt ≤ 52 ∧ 0 ≤ (F (13 + 14 * m + 5)).toInt ∧ 0 ≤ (F (13 + 14 * m + 3)).toInt ∧ (F (13 + 14 * m + 3)).toInt ≤ 2000 ∧ (F (13 + 14 * m + 5)).toInt * (F (13 + 14 * m + 4)).toInt ≤ (F (13 + 14 * m + 3)).toInt ∧ 0 ≤ (F (13 + 14 * m + 6)).toInt ∧ (F (13 + 14 * m + 6)).toInt ≤ 100 ∧ (F (13 + 14 * m + 4) = 0 → F (13 + 14 * m + 2) = 0 ∧ F (13 + 14 * m + 3) = 0 ∧ F (13 + 14 * m + 5) = 0 ∧ F (13 + 14 * m + 6) = 0)
def DMm (F : vF) (m : Nat) : Prop := 0 ≤ (F (13 + 14 * m + 10)).toInt ∧ 0 ≤ (F (13 + 14 * m + 11)).toInt ∧ ∀ p, p < 8 → 0 ≤ (F (125 + 8 * m + p)).toInt
theorem LMm.cg {F' : vF} (h : LMm F m) (e : ∀ w, 2 ≤ w → w ≤ 6 → F' (13 + 14 * m + w) = F (13 + 14 * m + w)) : LMm F' m := by
  unfold LMm
  rw [e 2 (by decide) (by decide), e 3 (by decide) (by decide), e 4 (by decide) (by decide), e 5 (by decide) (by decide), e 6 (by decide) (by decide)]
  exact h
theorem LMm.part (h : LMm F m) (hm : m < 8) (h1 : 1 ≤ (F (13 + 14 * m + 4)).toInt) : (w_partOf F (nI m)).toInt = (if (F (13 + 14 * m + 4)).toInt = 1 then (F (13 + 14 * m + 3)).toInt else (F (13 + 14 * m + 5)).toInt) ∧ 0 ≤ (w_partOf F (nI m)).toInt ∧ (w_partOf F (nI m)).toInt ≤ (F (13 + 14 * m + 3)).toInt := by
  obtain ⟨a1, a2, a3, a4, a5, a6, a7, a8, a9⟩ := h
  rw [n_partOf hm]
  have one : (1 : Int32).toInt = 1 := by decide
  by_cases c : F (13 + 14 * m + 4) = 1
  · rw [if_pos c, if_pos (by rw [c, one])]
    exact ⟨rfl, a4, Int.le_refl _⟩
  · have c' : ¬ (F (13 + 14 * m + 4)).toInt = 1 := fun q => c (Int32.toInt_inj.mp (by rw [q, one]))
    rw [if_neg c, if_neg c']
    have h2 : 0 ≤ (F (13 + 14 * m + 5)).toInt * ((F (13 + 14 * m + 4)).toInt - 1) := Int.mul_nonneg a3 (by omega)
    rw [Int.mul_sub, Int.mul_one] at h2
    exact ⟨rfl, a3, by omega⟩
theorem LMm.rng (h : LMm F m) (hm : m < 8) (h1 : 1 ≤ (F (13 + 14 * m + 4)).toInt) : 0 ≤ (w_partOf F (nI m)).toInt ∧ (w_partOf F (nI m)).toInt ≤ (F (13 + 14 * m + 3)).toInt := (h.part hm h1).2
theorem LMm.due (h : LMm F m) (hm : m < 8) (h1 : 1 ≤ (F (13 + 14 * m + 4)).toInt) : (w_due F (nI m)).toInt = (w_partOf F (nI m)).toInt + (F (13 + 14 * m + 6)).toInt := by
  have hp := h.rng hm h1
  obtain ⟨a1, a2, a3, a4, a5, a6, a7, a8, a9⟩ := h
  rw [n_due hm, if_neg (fun q => by rw [q, z32] at h1; omega), fb_addI (by omega) (by omega)]
theorem wT_end (hm : m < 8) (c : G.1 (13 + 14 * m + 4) + -1 = 0) : wTail G m = upq (upq (upq (upq (upq (upq (upq G (13 + 14 * m + 3) (G.1 (13 + 14 * m + 3) + -(w_partOf G.1 (nI m)))) (13 + 14 * m + 4) (G.1 (13 + 14 * m + 4) + -1)) (13 + 14 * m + 2) 0) (13 + 14 * m + 3) 0) (13 + 14 * m + 4) 0) (13 + 14 * m + 5) 0) (13 + 14 * m + 6) 0 := by
  unfold wTail
  rw [nm_eq, if_pos c, n_loanEnds hm]
theorem wT_go (c : ¬ G.1 (13 + 14 * m + 4) + -1 = 0) : wTail G m = upq (upq G (13 + 14 * m + 3) (G.1 (13 + 14 * m + 3) + -(w_partOf G.1 (nI m)))) (13 + 14 * m + 4) (G.1 (13 + 14 * m + 4) + -1) := by
  unfold wTail
  rw [nm_eq, if_neg c]
theorem wt_end (hm : m < 8) (c : G.1 (13 + 14 * m + 4) + -1 = 0) : (∀ w, 2 ≤ w → w ≤ 6 → (wTail G m).1 (13 + 14 * m + w) = 0) ∧ (∀ j, ¬ (13 + 14 * m + 2 ≤ j ∧ j ≤ 13 + 14 * m + 6) → (wTail G m).1 j = G.1 j) ∧ (wTail G m).2 = G.2 := by
  rw [wT_end hm c]
  clear c
  refine ⟨?_, ?_, by simp only [upq_2]⟩
  · intro w h1 h2
    obtain rfl | rfl | rfl | rfl | rfl : w = 2 ∨ w = 3 ∨ w = 4 ∨ w = 5 ∨ w = 6 := by omega
    all_goals simp (disch := omega) only [upq_1, upd_ne, upd_same]
  · intro j hj
    simp (disch := omega) only [upq_1, upd_ne]
theorem wt_go (c : ¬ G.1 (13 + 14 * m + 4) + -1 = 0) : (wTail G m).1 (13 + 14 * m + 3) = G.1 (13 + 14 * m + 3) + -(w_partOf G.1 (nI m)) ∧ (wTail G m).1 (13 + 14 * m + 4) = G.1 (13 + 14 * m + 4) + -1 ∧ (∀ j, j ≠ 13 + 14 * m + 3 → j ≠ 13 + 14 * m + 4 → (wTail G m).1 j = G.1 j) ∧ (wTail G m).2 = G.2 := by
  rw [wT_go c]
  clear c
  refine ⟨?_, ?_, ?_, by simp only [upq_2]⟩
  · simp (disch := omega) only [upq_1, upd_ne, upd_same]
  · simp (disch := omega) only [upq_1, upd_same]
  · intro j h1 h2
    simp (disch := omega) only [upq_1, upd_ne]
theorem m1I : (-1 : Int32).toInt = -1 := by decide
theorem tl_end (hm : m < 8) (hL : LMm G.1 m) (h1 : 1 ≤ (G.1 (13 + 14 * m + 4)).toInt) (c4 : (G.1 (13 + 14 * m + 4)).toInt = 1) : ((wTail G m).1 (13 + 14 * m + 3)).toInt = (G.1 (13 + 14 * m + 3)).toInt - (w_partOf G.1 (nI m)).toInt ∧ LMm (wTail G m).1 m ∧ (∀ j, ¬ (13 + 14 * m + 2 ≤ j ∧ j ≤ 13 + 14 * m + 6) → (wTail G m).1 j = G.1 j) ∧ (wTail G m).2 = G.2 := by
  have hp0 := (hL.part hm h1).1
  rw [if_pos c4] at hp0
  have c : G.1 (13 + 14 * m + 4) + -1 = 0 := by
    refine Int32.toInt_inj.mp ?_
    rw [fb_addI (by rw [c4, m1I]; decide) (by rw [c4, m1I]; decide), c4, m1I, z32]
    decide
  obtain ⟨t1, t2, t3⟩ := wt_end hm c
  refine ⟨?_, ?_, t2, t3⟩
  · rw [t1 3 (by decide) (by decide), hp0, z32]
    omega
  · unfold LMm
    rw [t1 2 (by decide) (by decide), t1 3 (by decide) (by decide), t1 4 (by decide) (by decide), t1 5 (by decide) (by decide), t1 6 (by decide) (by decide), z32]
    exact ⟨by decide, by decide, by decide, by decide, by decide, by decide, by decide, by decide, fun _ => ⟨rfl, rfl, rfl, rfl⟩⟩
theorem tl_go (hm : m < 8) (hL : LMm G.1 m) (h1 : 1 ≤ (G.1 (13 + 14 * m + 4)).toInt) (c4 : ¬ (G.1 (13 + 14 * m + 4)).toInt = 1) : ((wTail G m).1 (13 + 14 * m + 3)).toInt = (G.1 (13 + 14 * m + 3)).toInt - (w_partOf G.1 (nI m)).toInt ∧ LMm (wTail G m).1 m ∧ (∀ j, ¬ (13 + 14 * m + 2 ≤ j ∧ j ≤ 13 + 14 * m + 6) → (wTail G m).1 j = G.1 j) ∧ (wTail G m).2 = G.2 := by
  have hp0 := (hL.part hm h1).1
  rw [if_neg c4] at hp0
  have hp := hL.rng hm h1
  obtain ⟨a1, a2, a3, a4, a5, a6, a7, a8, a9⟩ := hL
  have e4 : (G.1 (13 + 14 * m + 4) + -1).toInt = (G.1 (13 + 14 * m + 4)).toInt - 1 := by
    rw [fb_addI (by rw [m1I]; omega) (by rw [m1I]; omega), m1I]
    omega
  have c : ¬ G.1 (13 + 14 * m + 4) + -1 = 0 := by
    intro q
    rw [q, z32] at e4
    omega
  obtain ⟨t1, t2, t3, t4⟩ := wt_go c
  have hn : (-w_partOf G.1 (nI m)).toInt = -(w_partOf G.1 (nI m)).toInt := fb_negI (by omega)
  have e3 : (G.1 (13 + 14 * m + 3) + -w_partOf G.1 (nI m)).toInt = (G.1 (13 + 14 * m + 3)).toInt - (w_partOf G.1 (nI m)).toInt := by
    rw [fb_addI (by rw [hn]; omega) (by rw [hn]; omega), hn]
    omega
  rw [← t1] at e3
  rw [← t2] at e4
  refine ⟨e3, ?_, fun j hj => t3 j (by omega) (by omega), t4⟩
  unfold LMm
  rw [e3, e4, t3 (13 + 14 * m + 5) (by omega) (by omega), t3 (13 + 14 * m + 6) (by omega) (by omega), hp0]
  refine ⟨by omega, by omega, a3, by omega, by omega, ?_, a7, a8, fun q => absurd q (by rw [t2]; exact c)⟩
  rw [Int.mul_sub, Int.mul_one]
  omega
theorem tl_spec (hm : m < 8) (hL : LMm G.1 m) (h1 : 1 ≤ (G.1 (13 + 14 * m + 4)).toInt) : ((wTail G m).1 (13 + 14 * m + 3)).toInt = (G.1 (13 + 14 * m + 3)).toInt - (w_partOf G.1 (nI m)).toInt ∧ LMm (wTail G m).1 m ∧ (∀ j, ¬ (13 + 14 * m + 2 ≤ j ∧ j ≤ 13 + 14 * m + 6) → (wTail G m).1 j = G.1 j) ∧ (wTail G m).2 = G.2 := by
  by_cases c4 : (G.1 (13 + 14 * m + 4)).toInt = 1
  · exact tl_end hm hL h1 c4
  · exact tl_go hm hL h1 c4
end INVS2
