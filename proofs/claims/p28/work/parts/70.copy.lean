section COPIES
variable {S : vS} {F H : vF} {g g2 k n i o : Nat} {x : Int32}
theorem emb_cong {F' : vF} (h : ∀ i, i < 189 → F' i = F i) : emb S g F' = emb S g F := by
  funext q j
  by_cases c : 19 * g ≤ q ∧ q < 19 * g + 19
  · unfold emb
    rw [if_pos c, if_pos c]
    cases e : inv (q - 19 * g) j with
    | none => rfl
    | some i => exact h i (inv_back (by omega) e).1
  · rw [emb_out c, emb_out c]
theorem rd2 (hg : g2 ≠ g) (hk : k < 8) (s : Nat) : emb S g F (gM g2 k) s = S (gM g2 k) s := emb_out (by unfold gM; omega)
theorem emb_up {f : Nat → Int32} {F' : vF} (ho : o < 19) (h1 : ∀ j i, inv o j = some i → F' i = f j) (h2 : ∀ j, inv o j = none → f j = S (19 * g + o) j) (h3 : ∀ i, i < 189 → bkO i ≠ o → F' i = F i) : va_up (emb S g F) (19 * g + o) f = emb S g F' := by
  funext q j
  unfold va_up
  by_cases c : q = 19 * g + o
  · subst c
    rw [if_pos rfl]
    cases e : inv o j with
    | none => rw [emb_none (by rw [show 19 * g + o - 19 * g = o by omega]; exact e)]; exact h2 j e
    | some i => rw [emb_at ho e]; exact (h1 j i e).symm
  · rw [if_neg c]
    by_cases c2 : 19 * g ≤ q ∧ q < 19 * g + 19
    · unfold emb
      rw [if_pos c2, if_pos c2]
      cases e : inv (q - 19 * g) j with
      | none => rfl
      | some i =>
        have b := inv_back (by omega) e
        exact (h3 i b.1 (by rw [b.2.1]; omega)).symm
    · rw [emb_out c2, emb_out c2]
theorem cpy_D (hg : g2 ≠ g) (hk : k < 8) : cpy (emb S g F) (gD g2 k) (gD g k) 8 = emb S g (fun i => if 125 + 8 * k ≤ i ∧ i < 133 + 8 * k then S (gD g2 k) (i - (125 + 8 * k)) else F i) := by
  unfold cpy
  rw [gD_o (g := g)]
  refine emb_up (by omega) ?_ ?_ ?_
  · intro j i e
    rcases Nat.lt_or_ge j 8 with hj | hj
    · rw [iD_ hk hj] at e
      obtain rfl := Option.some.inj e
      rw [if_pos ⟨by omega, by omega⟩]
      unfold va_cpy
      rw [if_pos ⟨by omega, by omega⟩, emb_out (by unfold gD; omega)]
      congr 1
      omega
    · exfalso
      unfold inv at e
      rw [if_neg (by omega), if_neg (by omega), if_neg (by omega), if_pos ⟨by omega, by omega⟩, if_neg (by omega)] at e
      exact absurd e (by simp)
  · intro j e
    rcases Nat.lt_or_ge j 8 with hj | hj
    · rw [iD_ hk hj] at e; exact absurd e (by simp)
    · unfold va_cpy
      rw [if_neg (by omega)]
      exact emb_none (by rw [show 19 * g + (11 + k) - 19 * g = 11 + k by omega]; exact e)
  · intro i hi hb
    rw [if_neg]
    intro q
    refine hb ?_
    unfold bkO
    rw [if_neg (by omega), if_neg (by omega), if_neg (by omega), if_neg (by omega)]
    omega
theorem cpy_S (hg : g2 ≠ g) : cpy (emb S g F) (gS g2) (gS g) 4 = emb S g (fun i => if 4 ≤ i ∧ i < 8 then S (gS g2) (i - 4) else F i) := by
  unfold cpy
  rw [show gS g = 19 * g + 2 from rfl]
  have i2 : ∀ j, inv 2 j = if j < 4 then some (4 + j) else none := fun j => rfl
  refine emb_up (by omega) ?_ ?_ ?_
  · intro j i e
    rw [i2] at e
    rcases Nat.lt_or_ge j 4 with hj | hj
    · rw [if_pos hj] at e
      obtain rfl := Option.some.inj e
      rw [if_pos ⟨by omega, by omega⟩]
      unfold va_cpy
      rw [if_pos ⟨by omega, by omega⟩, emb_out (by unfold gS; omega)]
      congr 1
      omega
    · rw [if_neg (by omega)] at e; exact absurd e (by simp)
  · intro j e
    rw [i2] at e
    rcases Nat.lt_or_ge j 4 with hj | hj
    · rw [if_pos hj] at e; exact absurd e (by simp)
    · unfold va_cpy
      rw [if_neg (by omega)]
      exact emb_none (by rw [show 19 * g + 2 - 19 * g = 2 by omega, i2, if_neg (by omega)])
  · intro i hi hb
    rw [if_neg]
    intro q
    refine hb ?_
    unfold bkO
    rw [if_neg (by omega), if_pos (by omega)]
def fcp (F H : vF) (k : Nat) : vF := fun i => if 13 + 14 * k ≤ i ∧ i < 27 + 14 * k then bzr H i else if 125 + 8 * k ≤ i ∧ i < 133 + 8 * k then H i else F i
theorem copy_M (hg : g2 ≠ g) (hk : k < 8) : x_X2_copyFrom (emb S g F) g k g2 k = emb S g (fcp F (cv S g2) k) := by
  have e : x_X2_copyFrom (emb S g F) g k g2 k = cpy (emb S g (upd (upd (upd (upd (upd (upd (upd (upd (upd (upd (upd (upd (upd (upd F (13 + 14 * k + 0) (bz (S (gM g2 k) 1))) (13 + 14 * k + 1) (S (gM g2 k) 2)) (13 + 14 * k + 2) (S (gM g2 k) 3)) (13 + 14 * k + 5) (S (gM g2 k) 4)) (13 + 14 * k + 6) (S (gM g2 k) 5)) (13 + 14 * k + 3) (S (gM g2 k) 6)) (13 + 14 * k + 4) (S (gM g2 k) 7)) (13 + 14 * k + 7) (bz (S (gM g2 k) 8))) (13 + 14 * k + 8) (S (gM g2 k) 9)) (13 + 14 * k + 9) (S (gM g2 k) 10)) (13 + 14 * k + 10) (S (gM g2 k) 11)) (13 + 14 * k + 11) (S (gM g2 k) 12)) (13 + 14 * k + 12) (S (gM g2 k) 13)) (13 + 14 * k + 13) (S (gM g2 k) 14))) (gD g2 k) (gD g k) 8 := by
    unfold x_X2_copyFrom
    simp only [nm_eq, rd2 hg hk 1, rd2 hg hk 2, rd2 hg hk 3, rd2 hg hk 4, rd2 hg hk 5, rd2 hg hk 6, rd2 hg hk 7, rd2 hg hk 8, rd2 hg hk 9, rd2 hg hk 10, rd2 hg hk 11, rd2 hg hk 12, rd2 hg hk 13, rd2 hg hk 14, esM_1 hk, esM_2 hk, esM_3 hk, esM_4 hk, esM_5 hk, esM_6 hk, esM_7 hk, esM_8 hk, esM_9 hk, esM_10 hk, esM_11 hk, esM_12 hk, esM_13 hk, esM_14 hk]
  rw [e, cpy_D hg hk]
  congr 1
  funext i
  unfold fcp
  by_cases c1 : 125 + 8 * k ≤ i ∧ i < 133 + 8 * k
  · obtain ⟨p, hp, rfl⟩ : ∃ p, p < 8 ∧ i = 125 + 8 * k + p := ⟨i - (125 + 8 * k), by omega, by omega⟩
    rw [if_pos c1, if_neg (by omega), if_pos c1, cvD hk hp, Nat.add_sub_cancel_left]
  · rw [if_neg c1]
    by_cases c2 : 13 + 14 * k ≤ i ∧ i < 27 + 14 * k
    · rw [if_pos c2]
      obtain ⟨w, hw, rfl⟩ : ∃ w, w < 14 ∧ i = 13 + 14 * k + w := ⟨i - (13 + 14 * k), by omega, by omega⟩
      clear c1 c2 e
      unfold bzr
      obtain rfl | rfl | rfl | rfl | rfl | rfl | rfl | rfl | rfl | rfl | rfl | rfl | rfl | rfl : w = 0 ∨ w = 1 ∨ w = 2 ∨ w = 3 ∨ w = 4 ∨ w = 5 ∨ w = 6 ∨ w = 7 ∨ w = 8 ∨ w = 9 ∨ w = 10 ∨ w = 11 ∨ w = 12 ∨ w = 13 := by omega
      · rw [show 13 + 14 * k + 0 = 13 + 14 * k + 0 from rfl]
        simp (disch := omega) only [upd_same, upd_ne]
        rw [if_pos ⟨by omega, by omega, by omega⟩, cvM_0 hk]
      · rw [show 13 + 14 * k + 1 = 13 + 14 * k + 1 from rfl]
        simp (disch := omega) only [upd_same, upd_ne]
        rw [if_neg (by omega), cvM_1 hk]
      · rw [show 13 + 14 * k + 2 = 13 + 14 * k + 2 from rfl]
        simp (disch := omega) only [upd_same, upd_ne]
        rw [if_neg (by omega), cvM_2 hk]
      · rw [show 13 + 14 * k + 3 = 13 + 14 * k + 3 from rfl]
        simp (disch := omega) only [upd_same, upd_ne]
        rw [if_neg (by omega), cvM_3 hk]
      · rw [show 13 + 14 * k + 4 = 13 + 14 * k + 4 from rfl]
        simp (disch := omega) only [upd_same, upd_ne]
        rw [if_neg (by omega), cvM_4 hk]
      · rw [show 13 + 14 * k + 5 = 13 + 14 * k + 5 from rfl]
        simp (disch := omega) only [upd_same, upd_ne]
        rw [if_neg (by omega), cvM_5 hk]
      · rw [show 13 + 14 * k + 6 = 13 + 14 * k + 6 from rfl]
        simp (disch := omega) only [upd_same, upd_ne]
        rw [if_neg (by omega), cvM_6 hk]
      · rw [show 13 + 14 * k + 7 = 13 + 14 * k + 7 from rfl]
        simp (disch := omega) only [upd_same, upd_ne]
        rw [if_pos ⟨by omega, by omega, by omega⟩, cvM_7 hk]
      · rw [show 13 + 14 * k + 8 = 13 + 14 * k + 8 from rfl]
        simp (disch := omega) only [upd_same, upd_ne]
        rw [if_neg (by omega), cvM_8 hk]
      · rw [show 13 + 14 * k + 9 = 13 + 14 * k + 9 from rfl]
        simp (disch := omega) only [upd_same, upd_ne]
        rw [if_neg (by omega), cvM_9 hk]
      · rw [show 13 + 14 * k + 10 = 13 + 14 * k + 10 from rfl]
        simp (disch := omega) only [upd_same, upd_ne]
        rw [if_neg (by omega), cvM_10 hk]
      · rw [show 13 + 14 * k + 11 = 13 + 14 * k + 11 from rfl]
        simp (disch := omega) only [upd_same, upd_ne]
        rw [if_neg (by omega), cvM_11 hk]
      · rw [show 13 + 14 * k + 12 = 13 + 14 * k + 12 from rfl]
        simp (disch := omega) only [upd_same, upd_ne]
        rw [if_neg (by omega), cvM_12 hk]
      · rw [show 13 + 14 * k + 13 = 13 + 14 * k + 13 from rfl]
        simp (disch := omega) only [upd_same, upd_ne]
        rw [if_neg (by omega), cvM_13 hk]
    · rw [if_neg c2, if_neg c1]
      clear e
      simp (disch := omega) only [upd_ne]
theorem copy_loop (hg : g2 ≠ g) : ∀ (n i : Nat) (F : vF), i + n = 8 → (∀ j, (13 ≤ j ∧ j < 13 + 14 * i) ∨ (125 ≤ j ∧ j < 125 + 8 * i) → F j = bzr (cv S g2) j) → x_X0_copyFrom_L2 (n + 1) (emb S g F) g g2 i = emb S g (bzr (cv S g2)) := by
  intro n
  induction n with
  | zero =>
    intro i F h hF
    obtain rfl : i = 8 := by omega
    rw [x_X0_copyFrom_L2.eq_2, if_pos le8]
    have rg : ∀ (F : vF) s, emb S g F (gG g2) s = S (gG g2) s := fun F s => emb_out (by unfold gG; omega)
    simp only [nm_eq, cpy_S hg, rg, esG_2, esG_3, esG_4, esG_5, esG_6, esG_7, esG_8, esG_9, esG_10]
    refine emb_cong fun i hi => ?_
    have b0 : ∀ j, j < 13 → bzr (cv S g2) j = cv S g2 j := fun j hj => by unfold bzr; rw [if_neg (by omega)]
    by_cases c : i < 13
    · rw [b0 i c]
      obtain rfl | rfl | rfl | rfl | rfl | rfl | rfl | rfl | rfl | rfl | rfl | rfl | rfl : i = 0 ∨ i = 1 ∨ i = 2 ∨ i = 3 ∨ i = 4 ∨ i = 5 ∨ i = 6 ∨ i = 7 ∨ i = 8 ∨ i = 9 ∨ i = 10 ∨ i = 11 ∨ i = 12 := by omega
      all_goals simp (disch := omega) only [upd_same, upd_ne, if_pos, if_neg]
      all_goals rfl
    · rw [← hF i (by omega)]
      simp (disch := omega) only [upd_ne]
      rw [if_neg (by omega)]
  | succ n ih =>
    intro i F h hF
    have hi : i < 8 := by omega
    rw [x_X0_copyFrom_L2.eq_2, if_neg (ge8 hi), nm_eq, copy_M hg hi]
    refine ih (i + 1) _ (by omega) fun j hj => ?_
    unfold fcp
    by_cases c1 : 13 + 14 * i ≤ j ∧ j < 27 + 14 * i
    · rw [if_pos c1]
    · rw [if_neg c1]
      by_cases c2 : 125 + 8 * i ≤ j ∧ j < 133 + 8 * i
      · rw [if_pos c2]
        unfold bzr
        rw [if_neg (by omega)]
      · rw [if_neg c2]
        exact hF j (by omega)
/-- copying a group -/
theorem copy_thm (hg : g2 ≠ g) : x_X0_copyFrom S g g2 = emb S g (bzr (cv S g2)) := by
  have := copy_loop (S := S) (g := g) (g2 := g2) hg 8 0 (cv S g) rfl fun j hj => absurd hj (by omega)
  rw [emb_cv] at this
  exact this
end COPIES
