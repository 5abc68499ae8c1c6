section XWEEK
variable {S T : vS} {F H : vF} {k m n i g w o p : Nat} {x y d : Int32} {c c' : Int} {u : Nat → Int}
/-- in the middle of a week -/
def XL (u : Nat → Int) (c : Int) (F : vF) : Prop := XB u c F ∧ ∀ m, m < 8 → LMm F m
theorem XL.gg (h : XL u c F) (h3 : 3 ≤ i ∨ i = 0) (h13 : i < 13) : XL u c (upd F i x) := ⟨h.1.up (h3.elim (fun q => Or.inl (nx_g q h13)) Or.inr), fun m hm => by rw [LMm_g h13]; exact h.2 m hm⟩
theorem XL.ww (h : XL u c F) (hk : k < 8) (hw : w = 7 ∨ w = 12 ∨ w = 13) : XL u c (upd F (13 + 14 * k + w) x) := ⟨h.1.up (Or.inl (nx_w hk (by omega))), fun m hm => by rw [LMm_w (by omega)]; exact h.2 m hm⟩
/-- what a member owes bank and fund -/
theorem XB.h (h : XB u c F) (hk : k < 8) (hh : ¬ F (13 + 14 * k + 0) = 0) (hw : w = 10 ∨ w = 11) : XB u c (upd F (13 + 14 * k + w) x) := by
  obtain ⟨h1, h2, h3, h4, h5, h6, h7⟩ := h
  refine ⟨fun m hm => ?_, fun m hm => ?_, fun m hm => ?_, ?_, fun m hm => ?_, fun m hm => ?_, ?_⟩
  · rw [upd_ne (by omega)]; exact h1 m hm
  · rw [upd_ne (by omega), upd_ne (by omega)]; exact h2 m hm
  · rw [upd_ne (by omega), upd_ne (by omega)]; exact h3 m hm
  · rw [upd_ne (by omega)]
    rcases h4 with h4 | ⟨q, hq, e1, e2⟩
    · exact Or.inl h4
    · exact Or.inr ⟨q, hq, e1, by rw [upd_ne (by omega)]; exact e2⟩
  · rw [upd_ne (by omega)]
    intro h0
    have hne : m ≠ k := fun z => hh (by rw [← z]; exact h0)
    obtain ⟨a, b, d⟩ := h5 m hm h0
    rw [upd_ne (by omega), upd_ne (by omega)]
    exact ⟨a, b, fun o ho => by rw [upd_ne (by omega), upd_ne (by omega)]; exact d o ho⟩
  · rw [upd_ne (by omega), upd_ne (by omega), upd_ne (by omega)]; exact h6 m hm
  · rw [upd_ne (by omega)]; exact h7
/-- what two members owe one another -/
theorem XB.dd (h : XB u c F) (hk : k < 8) (hp : p < 8) (hne : k ≠ p) (hh : ¬ F (13 + 14 * k + 0) = 0) (hh2 : ¬ F (13 + 14 * p + 0) = 0) : XB u c (upd F (125 + 8 * k + p) x) := by
  obtain ⟨h1, h2, h3, h4, h5, h6, h7⟩ := h
  refine ⟨fun m hm => ?_, fun m hm => ?_, fun m hm => ?_, ?_, fun m hm => ?_, fun m hm => ?_, ?_⟩
  · rw [upd_ne (by omega)]; exact h1 m hm
  · rw [upd_ne (by omega), upd_ne (by omega)]; exact h2 m hm
  · rw [upd_ne (by omega), upd_ne (by omega)]; exact h3 m hm
  · rw [upd_ne (by omega)]
    rcases h4 with h4 | ⟨q, hq, e1, e2⟩
    · exact Or.inl h4
    · exact Or.inr ⟨q, hq, e1, by rw [upd_ne (by omega)]; exact e2⟩
  · rw [upd_ne (by omega)]
    intro h0
    have n1 : m ≠ k := fun z => hh (by rw [← z]; exact h0)
    have n2 : m ≠ p := fun z => hh2 (by rw [← z]; exact h0)
    obtain ⟨a, b, d⟩ := h5 m hm h0
    rw [upd_ne (by omega), upd_ne (by omega)]
    exact ⟨a, b, fun o ho => by rw [upd_ne (by omega), upd_ne (by omega)]; exact d o ho⟩
  · rw [upd_ne (by omega), upd_ne (by omega), upd_ne (by omega)]; exact h6 m hm
  · rw [upd_ne (by omega)]; exact h7
theorem XL.h (h : XL u c F) (hk : k < 8) (hh : ¬ F (13 + 14 * k + 0) = 0) (hw : w = 10 ∨ w = 11) : XL u c (upd F (13 + 14 * k + w) x) := ⟨h.1.h hk hh hw, fun m hm => by rw [LMm_w (by omega)]; exact h.2 m hm⟩
theorem XL.dd (h : XL u c F) (hk : k < 8) (hp : p < 8) (hne : k ≠ p) (hh : ¬ F (13 + 14 * k + 0) = 0) (hh2 : ¬ F (13 + 14 * p + 0) = 0) : XL u c (upd F (125 + 8 * k + p) x) := ⟨h.1.dd hk hp hne hh hh2, fun m hm => by rw [LMm_d (by omega) hm]; exact h.2 m hm⟩
/-- one more is missed -/
theorem XL.miss (h : XL u c F) (hk : k < 8) (hu : u k ≤ 1000) : XL (fun m => if m = k then u m + 1 else u m) c (upd (upd F (13 + 14 * k + 8) (F (13 + 14 * k + 8) + 1)) (13 + 14 * k + 9) (F (13 + 14 * k + 9) + 1)) := by
  obtain ⟨⟨h1, h2, h3, h4, h5, h6, h7⟩, hL⟩ := h
  refine ⟨⟨fun m hm => ?_, fun m hm => ?_, fun m hm => ?_, ?_, fun m hm => ?_, fun m hm => ?_, ?_⟩, fun m hm => by rw [LMm_w (by omega), LMm_w (by omega)]; exact hL m hm⟩
  · rw [upd_ne (by omega), upd_ne (by omega)]; exact h1 m hm
  · rw [upd_ne (by omega), upd_ne (by omega), upd_ne (by omega), upd_ne (by omega)]; exact h2 m hm
  · obtain ⟨a, b, d⟩ := h3 m hm
    dsimp only
    by_cases e : m = k
    · subst e
      have one : (1 : Int32).toInt = 1 := by decide
      rw [if_pos rfl, upd_ne (by omega), upd_same, upd_same, fb_addI (by rw [one]; omega) (by rw [one]; omega), fb_addI (by rw [one]; omega) (by rw [one]; omega), one]
      omega
    · rw [if_neg e, upd_ne (by omega), upd_ne (by omega), upd_ne (by omega), upd_ne (by omega)]
      exact ⟨a, b, d⟩
  · rw [upd_ne (by omega), upd_ne (by omega)]
    rcases h4 with h4 | ⟨q, hq, e1, e2⟩
    · exact Or.inl h4
    · exact Or.inr ⟨q, hq, e1, by rw [upd_ne (by omega), upd_ne (by omega)]; exact e2⟩
  · rw [upd_ne (by omega), upd_ne (by omega)]
    intro h0
    obtain ⟨a, b, d⟩ := h5 m hm h0
    rw [upd_ne (by omega), upd_ne (by omega), upd_ne (by omega), upd_ne (by omega)]
    exact ⟨a, b, fun o ho => by rw [upd_ne (by omega), upd_ne (by omega), upd_ne (by omega), upd_ne (by omega)]; exact d o ho⟩
  · rw [upd_ne (by omega), upd_ne (by omega), upd_ne (by omega), upd_ne (by omega), upd_ne (by omega), upd_ne (by omega)]; exact h6 m hm
  · rw [upd_ne (by omega), upd_ne (by omega)]; exact h7
/-- the rest shared among the helpers -/
theorem xl_share (hk : k < 8) {p2 p3 v4 : Int32} : ∀ (n i : Nat) (F : vF) (v5 : Int32), i + n = 8 → XL u c F → ¬ F (13 + 14 * k + 0) = 0 → ¬ F (13 + 14 * k + 7) = 0 → XL u c (v_X0_shareRest_L29 (n + 1) F k p2 p3 i v5 v4) := by
  intro n
  induction n with
  | zero =>
    intro i F v5 hi h h0 h7
    obtain rfl : i = 8 := by omega
    rw [v_X0_shareRest_L29.eq_2, if_pos le8, nm_eq]
    exact h.gg (Or.inl (by decide)) (by decide)
  | succ n ih =>
    intro i F v5 hi h h0 h7
    have hi8 : i < 8 := by omega
    rw [v_X0_shareRest_L29.eq_2, if_neg (ge8 hi8)]
    by_cases c1 : bz (F (13 + 14 * i + 0)) = 0
    · rw [if_pos c1]; exact ih _ _ _ (by omega) h h0 h7
    · rw [if_neg c1]
      have c1' : ¬ F (13 + 14 * i + 0) = 0 := fun q => c1 (bz_iff.mpr q)
      by_cases c2 : bz (F (13 + 14 * i + 7)) = 0
      · rw [if_pos c2]
        have c2' : F (13 + 14 * i + 7) = 0 := bz_iff.mp c2
        have hne : k ≠ i := fun z => h7 (by rw [z]; exact c2')
        have step : ∀ s t : Int32, XL u c (upd (upd F (125 + 8 * k + i) s) (13 + 14 * i + 13) t) := fun s t => (h.dd hk hi8 hne h0 c1').ww hi8 (by omega)
        have s0 : ∀ s t : Int32, ¬ upd (upd F (125 + 8 * k + i) s) (13 + 14 * i + 13) t (13 + 14 * k + 0) = 0 := fun s t => by rw [upd_ne (by omega), upd_ne (by omega)]; exact h0
        have s7 : ∀ s t : Int32, ¬ upd (upd F (125 + 8 * k + i) s) (13 + 14 * i + 13) t (13 + 14 * k + 7) = 0 := fun s t => by rw [upd_ne (by omega), upd_ne (by omega)]; exact h7
        by_cases c3 : v5 ≤ 0
        · rw [if_pos c3]
          simp only [nm_eq]
          exact ih _ _ _ (by omega) (step _ _) (s0 _ _) (s7 _ _)
        · rw [if_neg c3]
          simp only [nm_eq]
          exact ih _ _ _ (by omega) (step _ _) (s0 _ _) (s7 _ _)
      · rw [if_neg c2]; exact ih _ _ _ (by omega) h h0 h7
theorem xl_cover (hk : k < 8) (h : XL u c F) (hu : u k ≤ 1000) (h0 : ¬ F (13 + 14 * k + 0) = 0) (h7 : ¬ F (13 + 14 * k + 7) = 0) : XL (fun m => if m = k then u m + 1 else u m) c (v_X0_coverMissed F k d) := by
  unfold v_X0_coverMissed
  simp only [nm_eq]
  have e9 : upd F (13 + 14 * k + 8) (F (13 + 14 * k + 8) + 1) (13 + 14 * k + 9) = F (13 + 14 * k + 9) := upd_ne (by omega)
  rw [e9]
  have a1 := (h.miss hk hu).gg (i := 12) (x := (upd (upd F (13 + 14 * k + 8) (F (13 + 14 * k + 8) + 1)) (13 + 14 * k + 9) (F (13 + 14 * k + 9) + 1)) 12 + 1) (Or.inl (by decide)) (by decide)
  have b0 : ¬ (upd (upd (upd F (13 + 14 * k + 8) (F (13 + 14 * k + 8) + 1)) (13 + 14 * k + 9) (F (13 + 14 * k + 9) + 1)) 12 ((upd (upd F (13 + 14 * k + 8) (F (13 + 14 * k + 8) + 1)) (13 + 14 * k + 9) (F (13 + 14 * k + 9) + 1)) 12 + 1)) (13 + 14 * k + 0) = 0 := by
    rw [upd_ne (by omega), upd_ne (by omega), upd_ne (by omega)]; exact h0
  have b7 : ¬ (upd (upd (upd F (13 + 14 * k + 8) (F (13 + 14 * k + 8) + 1)) (13 + 14 * k + 9) (F (13 + 14 * k + 9) + 1)) 12 ((upd (upd F (13 + 14 * k + 8) (F (13 + 14 * k + 8) + 1)) (13 + 14 * k + 9) (F (13 + 14 * k + 9) + 1)) 12 + 1)) (13 + 14 * k + 7) = 0 := by
    rw [upd_ne (by omega), upd_ne (by omega), upd_ne (by omega)]; exact h7
  generalize (upd (upd (upd F (13 + 14 * k + 8) (F (13 + 14 * k + 8) + 1)) (13 + 14 * k + 9) (F (13 + 14 * k + 9) + 1)) 12 ((upd (upd F (13 + 14 * k + 8) (F (13 + 14 * k + 8) + 1)) (13 + 14 * k + 9) (F (13 + 14 * k + 9) + 1)) 12 + 1)) = F1 at a1 b0 b7 ⊢
  generalize (if F1 8 < d then F1 8 else d) = z
  have a2 := a1.gg (i := 8) (x := F1 8 - z) (Or.inl (by decide)) (by decide)
  have b0 : ¬ upd F1 8 (F1 8 - z) (13 + 14 * k + 0) = 0 := by rw [upd_ne (by omega)]; exact b0
  have b7 : ¬ upd F1 8 (F1 8 - z) (13 + 14 * k + 7) = 0 := by rw [upd_ne (by omega)]; exact b7
  generalize upd F1 8 (F1 8 - z) = F2 at a2 b0 b7 ⊢
  have a3 := a2.h (x := F2 (13 + 14 * k + 11) + z) hk b0 (w := 11) (Or.inr rfl)
  have b0 : ¬ upd F2 (13 + 14 * k + 11) (F2 (13 + 14 * k + 11) + z) (13 + 14 * k + 0) = 0 := by rw [upd_ne (by omega)]; exact b0
  have b7 : ¬ upd F2 (13 + 14 * k + 11) (F2 (13 + 14 * k + 11) + z) (13 + 14 * k + 7) = 0 := by rw [upd_ne (by omega)]; exact b7
  generalize upd F2 (13 + 14 * k + 11) (F2 (13 + 14 * k + 11) + z) = F3 at a3 b0 b7 ⊢
  have a4 := a3.gg (i := 11) (x := F3 11 + z) (Or.inl (by decide)) (by decide)
  have b0 : ¬ upd F3 11 (F3 11 + z) (13 + 14 * k + 0) = 0 := by rw [upd_ne (by omega)]; exact b0
  have b7 : ¬ upd F3 11 (F3 11 + z) (13 + 14 * k + 7) = 0 := by rw [upd_ne (by omega)]; exact b7
  generalize upd F3 11 (F3 11 + z) = F4 at a4 b0 b7 ⊢
  generalize v_X0_memberCount F4 - v_X0_awayMembers F4 = h4
  by_cases c1 : h4 ≤ 0
  · rw [if_pos c1]
    exact a4.h hk b0 (Or.inl rfl)
  · rw [if_neg c1]
    unfold v_X0_shareRest
    by_cases c2 : 0 < h4
    · rw [if_pos c2, nm_eq, nm_eq]
      exact xl_share hk 8 0 _ _ rfl a4 b0 b7
    · rw [if_neg c2]; exact a4
/-- what covering and sharing leave alone -/
def NC (k j : Nat) : Prop := j ≠ 8 ∧ j ≠ 11 ∧ j ≠ 12 ∧ ¬ (13 + 14 * k + 8 ≤ j ∧ j ≤ 13 + 14 * k + 11) ∧ (∀ o, o < 8 → j ≠ 13 + 14 * o + 13) ∧ (∀ p, p < 8 → j ≠ 125 + 8 * k + p)
theorem share_fr {p2 p3 v4 : Int32} {j : Nat} (hj : NC k j) : ∀ (n i : Nat) (F : vF) (v5 : Int32), i + n = 8 → v_X0_shareRest_L29 (n + 1) F k p2 p3 i v5 v4 j = F j := by
  obtain ⟨j1, j2, j3, j4, j5, j6⟩ := hj
  intro n
  induction n with
  | zero =>
    intro i F v5 hi
    obtain rfl : i = 8 := by omega
    rw [v_X0_shareRest_L29.eq_2, if_pos le8, nm_eq, upd_ne j2]
  | succ n ih =>
    intro i F v5 hi
    have hi8 : i < 8 := by omega
    rw [v_X0_shareRest_L29.eq_2, if_neg (ge8 hi8)]
    by_cases c1 : bz (F (13 + 14 * i + 0)) = 0
    · rw [if_pos c1]; exact ih _ _ _ (by omega)
    · rw [if_neg c1]
      by_cases c2 : bz (F (13 + 14 * i + 7)) = 0
      · rw [if_pos c2]
        by_cases c3 : v5 ≤ 0
        · rw [if_pos c3]
          simp only [nm_eq]
          rw [ih _ _ _ (by omega), upd_ne (j5 i hi8), upd_ne (j6 i hi8)]
        · rw [if_neg c3]
          simp only [nm_eq]
          rw [ih _ _ _ (by omega), upd_ne (j5 i hi8), upd_ne (j6 i hi8)]
      · rw [if_neg c2]; exact ih _ _ _ (by omega)
theorem cover_fr {j : Nat} (hj : NC k j) : v_X0_coverMissed F k d j = F j := by
  have hj' := hj
  obtain ⟨j1, j2, j3, j4, j5, j6⟩ := hj'
  have key : ∀ (G : vF) (z : Int32), G j = F j → (if v_X0_memberCount G - v_X0_awayMembers G ≤ 0 then upd G (13 + 14 * k + 10) (G (13 + 14 * k + 10) + (d - z)) else v_X0_shareRest G k (d - z) (v_X0_memberCount G - v_X0_awayMembers G)) j = F j := by
    intro G z e
    split
    · rw [upd_ne (by omega)]; exact e
    · unfold v_X0_shareRest
      split
      · simp only [nm_eq]
        rw [share_fr hj 8 0 _ _ rfl]; exact e
      · exact e
  unfold v_X0_coverMissed
  simp only [nm_eq]
  refine key _ _ ?_
  rw [upd_ne j2, upd_ne (by omega), upd_ne j1, upd_ne j3, upd_ne (by omega), upd_ne (by omega)]
theorem cover_4 (hk : k < 8) : v_X0_coverMissed F k d (13 + 14 * k + 4) = F (13 + 14 * k + 4) := cover_fr ⟨by omega, by omega, by omega, by omega, fun o ho => by omega, fun p hp => by omega⟩
theorem lessen_fr {j : Nat} (hj : ¬ (13 + 14 * k + 2 ≤ j ∧ j ≤ 13 + 14 * k + 6)) : v_X2_lessenLoan F k j = F j := by
  unfold v_X2_lessenLoan
  simp only [nm_eq]
  split
  · rw [upd_ne (by omega), upd_ne (by omega), upd_ne (by omega), upd_ne (by omega), upd_ne (by omega)]
  · rw [upd_ne (by omega), upd_ne (by omega)]
theorem step_fr {j : Nat} (hj : NC k j) (h10 : j ≠ 10) (hl : ¬ (13 + 14 * k + 2 ≤ j ∧ j ≤ 13 + 14 * k + 6)) : vStep H k j = H j := by
  unfold vStep
  split
  · rfl
  · split
    · rfl
    · unfold v_X0_settleDue
      simp only [nm_eq]
      split
      · rw [lessen_fr hl, upd_ne hj.2.1, upd_ne h10]
      · rw [lessen_fr hl, cover_fr hj, upd_ne h10]
theorem it_0 : ∀ (n i : Nat) (H : vF), i + n = 8 → itV n H i 0 = H 0 := by
  intro n
  induction n with
  | zero => intro i H h; rfl
  | succ n ih =>
    intro i H h
    show itV n (vStep H i) (i + 1) 0 = H 0
    rw [ih _ _ (by omega)]
    exact step_fr ⟨by omega, by omega, by omega, by omega, fun o ho => by omega, fun p hp => by omega⟩ (by omega) (by omega)
/-- a member who is not absent -/
theorem step_na (h7 : H (13 + 14 * k + 7) = 0) {j : Nat} (h10 : j ≠ 10) (h11 : j ≠ 11) (hl : ¬ (13 + 14 * k + 2 ≤ j ∧ j ≤ 13 + 14 * k + 6)) : vStep H k j = H j := by
  unfold vStep
  split
  · rfl
  · split
    · rfl
    · unfold v_X0_settleDue
      simp only [nm_eq]
      rw [if_pos (bz_iff.mpr (by rw [upd_ne (by omega)]; exact h7)), lessen_fr hl, upd_ne h11, upd_ne h10]
theorem it_na : ∀ (n i : Nat) (H : vF), i + n = 8 → (∀ m, m < 8 → H (13 + 14 * m + 7) = 0) → ∀ j, j ≠ 10 → j ≠ 11 → (∀ m, m < 8 → ¬ (13 + 14 * m + 2 ≤ j ∧ j ≤ 13 + 14 * m + 6)) → itV n H i j = H j := by
  intro n
  induction n with
  | zero => intro i H h _ j _ _ _; rfl
  | succ n ih =>
    intro i H h h7 j h10 h11 hl
    show itV n (vStep H i) (i + 1) j = H j
    rw [ih _ _ (by omega) (fun m hm => by rw [step_na (h7 i (by omega)) (by omega) (by omega) (by omega)]; exact h7 m hm) j h10 h11 hl]
    exact step_na (h7 i (by omega)) h10 h11 (hl i (by omega))
theorem save_fr {j : Nat} (h8 : j ≠ 8) (h12 : ∀ m, m < 8 → j ≠ 13 + 14 * m + 12) : ∀ (n i : Nat) (H : vF), i + n = 8 → itVS n H i j = H j := by
  intro n
  induction n with
  | zero => intro i H h; rfl
  | succ n ih =>
    intro i H h
    show itVS n (vSave H i) (i + 1) j = H j
    rw [ih _ _ (by omega)]
    unfold vSave
    split
    · rfl
    · split
      · rw [upd_ne h8, upd_ne (h12 i (by omega))]
      · rfl
theorem zero_fr {j : Nat} (h7 : ∀ m, m < 8 → j ≠ 13 + 14 * m + 7) : ∀ (n i : Nat) (H : vF), i + n = 8 → itVZ n H i j = H j := by
  intro n
  induction n with
  | zero => intro i H h; rfl
  | succ n ih =>
    intro i H h
    show itVZ n (upd H (13 + 14 * i + 7) 0) (i + 1) j = H j
    rw [ih _ _ (by omega), upd_ne (h7 i (by omega))]
theorem vEnd_fr {j : Nat} (h0 : j ≠ 0) (h2 : j ≠ 2) : vEnd H j = H j := by
  unfold vEnd
  rw [nm_eq]
  split
  · rw [upd_ne h0]
  · split
    · rw [upd_ne h2, upd_ne h0]
    · rw [upd_ne h0]
theorem week_eq : v_X0_endWeek H = itVZ 8 (vEnd (itVS 8 (itV 8 H 0) 0)) 0 := n_endWeek_it 8 0 H rfl
/-- a week without absent members: nothing is owed anew -/
theorem week_na (h7 : ∀ m, m < 8 → H (13 + 14 * m + 7) = 0) {j : Nat} (h13 : 13 ≤ j) (hl : ∀ m, m < 8 → ¬ (13 + 14 * m + 2 ≤ j ∧ j ≤ 13 + 14 * m + 7) ∧ j ≠ 13 + 14 * m + 12) : v_X0_endWeek H j = H j := by
  rw [week_eq, zero_fr (fun m hm => by have := (hl m hm).1; omega) 8 0 _ rfl, vEnd_fr (by omega) (by omega), save_fr (by omega) (fun m hm => (hl m hm).2) 8 0 _ rfl]
  exact it_na 8 0 H rfl h7 j (by omega) (by omega) fun m hm => by have := (hl m hm).1; omega
theorem xl_lessen (hk : k < 8) (h : XL u c F) (h4 : ¬ F (13 + 14 * k + 4) ≤ 0) : XL u c (v_X2_lessenLoan F k) := by
  obtain ⟨⟨h1, h2, h3, h5, h6, h7, h8⟩, hL⟩ := h
  have l := hL k hk
  have g := h7 k hk
  have hw1 : 1 ≤ (F (13 + 14 * k + 4)).toInt := by
    rw [Int32.le_iff_toInt_le, z32] at h4; omega
  have g : 1 ≤ (F (13 + 14 * k + 3)).toInt ∧ (F (13 + 14 * k + 3)).toInt ≤ (F (13 + 14 * k + 2)).toInt := by
    rcases g with g | g
    · rw [g, z32] at hw1; omega
    · exact g
  obtain ⟨l1, l2, l3, l4, l5, l6, l7, l8, l9⟩ := l
  have m1 : (F (13 + 14 * k + 4) - 1).toInt = (F (13 + 14 * k + 4)).toInt - 1 := by
    have one : (1 : Int32).toInt = 1 := by decide
    rw [fb_subI (by rw [one]; omega) (by rw [one]; omega), one]
  have base : ∀ (G : vF), (∀ j, ¬ (13 + 14 * k + 2 ≤ j ∧ j ≤ 13 + 14 * k + 6) → G j = F j) → LMm G k → (G (13 + 14 * k + 4) = 0 ∨ (1 ≤ (G (13 + 14 * k + 3)).toInt ∧ (G (13 + 14 * k + 3)).toInt ≤ (G (13 + 14 * k + 2)).toInt)) → XL u c G := by
    intro G e hl hg
    refine ⟨⟨fun m hm => ?_, fun m hm => ?_, fun m hm => ?_, ?_, fun m hm => ?_, fun m hm => ?_, ?_⟩, fun m hm => ?_⟩
    · rw [e _ (by omega)]; exact h1 m hm
    · rw [e _ (by omega), e _ (by omega)]; exact h2 m hm
    · rw [e _ (by omega), e _ (by omega)]; exact h3 m hm
    · rw [e _ (by omega)]
      rcases h5 with h5 | ⟨q, hq, e1, e2⟩
      · exact Or.inl h5
      · exact Or.inr ⟨q, hq, e1, by rw [e _ (by omega)]; exact e2⟩
    · rw [e _ (by omega), e _ (by omega), e _ (by omega)]
      intro h0
      obtain ⟨a, b, d⟩ := h6 m hm h0
      exact ⟨a, b, fun o ho => by rw [e _ (by omega), e _ (by omega)]; exact d o ho⟩
    · by_cases q : m = k
      · subst q; exact hg
      · rw [e _ (by omega), e _ (by omega), e _ (by omega)]; exact h7 m hm
    · rw [e _ (by omega)]; exact h8
    · by_cases q : m = k
      · subst q; exact hl
      · exact (hL m hm).cg fun w a b => e _ (by omega)
  unfold v_X2_lessenLoan
  simp only [nm_eq]
  have e4 : upd F (13 + 14 * k + 3) (F (13 + 14 * k + 3) - v_X2_part F k) (13 + 14 * k + 4) = F (13 + 14 * k + 4) := upd_ne (by omega)
  rw [e4, upd_same]
  by_cases c1 : F (13 + 14 * k + 4) - 1 = 0
  · rw [if_pos c1]
    have c1' : (F (13 + 14 * k + 4)).toInt = 1 := by
      have := congrArg Int32.toInt c1
      rw [m1, z32] at this
      omega
    have c4 : F (13 + 14 * k + 4) = 1 := Int32.toInt_inj.mp (by rw [c1']; decide)
    have ep : v_X2_part F k = F (13 + 14 * k + 3) := by unfold v_X2_part; rw [if_pos c4]
    have z3 : F (13 + 14 * k + 3) - F (13 + 14 * k + 3) = 0 := Int32.sub_self _
    rw [ep, z3, c1]
    have o4 : upd (upd (upd (upd (upd F (13 + 14 * k + 3) 0) (13 + 14 * k + 4) 0) (13 + 14 * k + 2) 0) (13 + 14 * k + 5) 0) (13 + 14 * k + 6) 0 (13 + 14 * k + 4) = 0 := by simp (disch := omega) only [upd_ne, upd_same]
    refine base _ (fun j hj => ?_) ?_ (Or.inl o4)
    · rw [upd_ne (by omega), upd_ne (by omega), upd_ne (by omega), upd_ne (by omega), upd_ne (by omega)]
    · unfold LMm
      simp (disch := omega) only [upd_ne, upd_same]
      decide
  · rw [if_neg c1]
    have c1' : ¬ (F (13 + 14 * k + 4)).toInt = 1 := fun q => c1 (Int32.toInt_inj.mp (by rw [m1, z32, q]; rfl))
    have c4 : ¬ F (13 + 14 * k + 4) = 1 := fun q => c1' (by rw [q]; decide)
    have ep : v_X2_part F k = F (13 + 14 * k + 5) := by unfold v_X2_part; rw [if_neg c4]
    rw [ep]
    have q1 : (F (13 + 14 * k + 5)).toInt * ((F (13 + 14 * k + 4)).toInt - 1) = (F (13 + 14 * k + 5)).toInt * (F (13 + 14 * k + 4)).toInt - (F (13 + 14 * k + 5)).toInt := by rw [Int.mul_sub, Int.mul_one]
    have q2 : 0 ≤ (F (13 + 14 * k + 5)).toInt * ((F (13 + 14 * k + 4)).toInt - 1) := Int.mul_nonneg l3 (by omega)
    have q3 : (F (13 + 14 * k + 5)).toInt ≤ (F (13 + 14 * k + 5)).toInt * ((F (13 + 14 * k + 4)).toInt - 1) := by
      have := Int.mul_le_mul_of_nonneg_left (show (1 : Int) ≤ (F (13 + 14 * k + 4)).toInt - 1 by omega) l3
      rw [Int.mul_one] at this
      exact this
    have m3 : (F (13 + 14 * k + 3) - F (13 + 14 * k + 5)).toInt = (F (13 + 14 * k + 3)).toInt - (F (13 + 14 * k + 5)).toInt := by
      generalize (F (13 + 14 * k + 5)).toInt * ((F (13 + 14 * k + 4)).toInt - 1) = z at *
      generalize (F (13 + 14 * k + 5)).toInt * (F (13 + 14 * k + 4)).toInt = z2 at *
      exact fb_subI (by omega) (by omega)
    have k4 : (F (13 + 14 * k + 4) - 1) = 0 → False := c1
    refine base _ (fun j hj => ?_) ?_ (Or.inr ?_)
    · rw [upd_ne (by omega), upd_ne (by omega)]
    · unfold LMm
      simp (disch := omega) only [upd_ne, upd_same]
      rw [m1, m3, q1]
      generalize (F (13 + 14 * k + 5)).toInt * ((F (13 + 14 * k + 4)).toInt - 1) = z at *
      generalize (F (13 + 14 * k + 5)).toInt * (F (13 + 14 * k + 4)).toInt = z2 at *
      refine ⟨by omega, by omega, l3, by omega, by omega, by omega, l7, l8, fun q => (c1 q).elim⟩
    · simp (disch := omega) only [upd_ne, upd_same]
      rw [m3]
      generalize (F (13 + 14 * k + 5)).toInt * ((F (13 + 14 * k + 4)).toInt - 1) = z at *
      generalize (F (13 + 14 * k + 5)).toInt * (F (13 + 14 * k + 4)).toInt = z2 at *
      omega
/-- one member's due -/
theorem xl_step (hk : k < 8) (h : XL u c H) (hu : u k ≤ 1000) : XL (fun m => if m = k then u m + 1 else u m) c (vStep H k) := by
  have keep : ∀ {G : vF}, XL u c G → XL (fun m => if m = k then u m + 1 else u m) c G := fun h => ⟨h.1.mono (Int.le_refl _) fun m _ => by
    by_cases e : m = k
    · rw [if_pos e]; omega
    · rw [if_neg e]; exact Int.le_refl _, h.2⟩
  unfold vStep
  by_cases c1 : bz (H (13 + 14 * k + 0)) = 0
  · rw [if_pos c1]; exact keep h
  · rw [if_neg c1]
    have c1' : ¬ H (13 + 14 * k + 0) = 0 := fun q => c1 (bz_iff.mpr q)
    by_cases c2 : v_X2_hasLoan H k = 0
    · rw [if_pos c2]; exact keep h
    · rw [if_neg c2]
      have c2' : ¬ H (13 + 14 * k + 4) ≤ 0 := fun q => c2 (hasLoan_iff.mpr q)
      unfold v_X0_settleDue
      simp only [nm_eq]
      generalize v_X2_due H k = d
      have a1 := h.gg (i := 10) (x := H 10 + H (13 + 14 * k + 6)) (Or.inl (by decide)) (by decide)
      have b0 : ¬ upd H 10 (H 10 + H (13 + 14 * k + 6)) (13 + 14 * k + 0) = 0 := by rw [upd_ne (by omega)]; exact c1'
      have b4 : ¬ upd H 10 (H 10 + H (13 + 14 * k + 6)) (13 + 14 * k + 4) ≤ 0 := by rw [upd_ne (by omega)]; exact c2'
      generalize upd H 10 (H 10 + H (13 + 14 * k + 6)) = F at a1 b0 b4 ⊢
      by_cases c3 : bz (F (13 + 14 * k + 7)) = 0
      · rw [if_pos c3]
        exact keep (xl_lessen hk (a1.gg (Or.inl (by decide)) (by decide)) (by rw [upd_ne (by omega)]; exact b4))
      · rw [if_neg c3]
        have c3' : ¬ F (13 + 14 * k + 7) = 0 := fun q => c3 (bz_iff.mpr q)
        refine xl_lessen hk (xl_cover hk a1 hu b0 c3') ?_
        rw [cover_4 hk]
        exact b4
theorem xl_it {W : Int} (hW : W ≤ 999) : ∀ (n i : Nat) (H : vF), i + n = 8 → XL (fun m => W + (if m < i then 1 else 0)) c H → XL (fun m => W + (if m < 8 then 1 else 0)) c (itV n H i) := by
  intro n
  induction n with
  | zero =>
    intro i H h hx
    obtain rfl : i = 8 := by omega
    exact hx
  | succ n ih =>
    intro i H h hx
    show XL _ c (itV n (vStep H i) (i + 1))
    have hs := xl_step (k := i) (by omega) hx (by rw [if_neg (Nat.lt_irrefl i)]; omega)
    refine ih _ _ (by omega) ⟨hs.1.mono (Int.le_refl _) fun m _ => ?_, hs.2⟩
    by_cases e : m = i
    · subst e
      rw [if_pos rfl, if_neg (Nat.lt_irrefl m), if_pos (Nat.lt_succ_self m)]
      omega
    · rw [if_neg e]
      by_cases q : m < i
      · rw [if_pos q, if_pos (by omega)]; exact Int.le_refl _
      · rw [if_neg q, if_neg (by omega)]; exact Int.le_refl _
/-- the next chair is a member, or nobody -/
theorem next_here : v_X0_nextChair H = -1 ∨ ∃ k, k < 8 ∧ v_X0_nextChair H = nI k ∧ ¬ H (13 + 14 * k + 0) = 0 := by
  have key : ∀ n i, i + n = 9 → v_X0_nextChair_L2 (n + 1) H i = -1 ∨ ∃ k, k < 8 ∧ v_X0_nextChair_L2 (n + 1) H i = nI k ∧ ¬ H (13 + 14 * k + 0) = 0 := by
    intro n
    induction n with
    | zero =>
      intro i hi
      obtain rfl : i = 9 := by omega
      rw [v_X0_nextChair_L2.eq_2, if_pos (by decide)]
      exact Or.inl rfl
    | succ n ih =>
      intro i hi
      have c1 : ¬ (8 : Int32) < nI i := nI_nlt (a := 8) (b := i) (by omega) (by decide)
      have ih := ih (i + 1) (by omega)
      rw [v_X0_nextChair_L2.eq_2, if_neg c1, nm_eq]
      by_cases hv : vp_in (fmW (H 2 + nI i) 8) 8
      · obtain ⟨k, hk, ek⟩ := vp_in_of hv (by decide)
        rw [ek, find_nI hk]
        by_cases c2 : bz (H (13 + 14 * k + 0)) = 0
        · rw [if_pos c2, oc_n]; exact ih
        · rw [if_neg c2, oc_s, nm_eq]
          by_cases c3 : v_X2_hasDebts H k = 0
          · rw [if_pos c3]
            exact Or.inr ⟨k, hk, rfl, fun q => c2 (bz_iff.mpr q)⟩
          · rw [if_neg c3]; exact ih
      · rw [find_none hv, oc_n]; exact ih
  exact key 8 1 rfl
theorem XB.chair (h : XB u c F) (hx : x = -1 ∨ ∃ k, k < 8 ∧ x = nI k ∧ ¬ F (13 + 14 * k + 0) = 0) : XB u c (upd F 2 x) := by
  obtain ⟨h1, h2, h3, h4, h5, h6, h7⟩ := h
  refine ⟨fun m hm => ?_, fun m hm => ?_, fun m hm => ?_, ?_, fun m hm => ?_, fun m hm => ?_, ?_⟩
  · rw [upd_ne (by omega)]; exact h1 m hm
  · rw [upd_ne (by omega), upd_ne (by omega)]; exact h2 m hm
  · rw [upd_ne (by omega), upd_ne (by omega)]; exact h3 m hm
  · rw [upd_same]
    rcases hx with hx | ⟨q, hq, e1, e2⟩
    · exact Or.inl hx
    · exact Or.inr ⟨q, hq, e1, by rw [upd_ne (by omega)]; exact e2⟩
  · rw [upd_ne (by omega), upd_ne (by omega), upd_ne (by omega)]
    intro h0
    obtain ⟨a, b, d⟩ := h5 m hm h0
    exact ⟨a, b, fun o ho => by rw [upd_ne (by omega), upd_ne (by omega)]; exact d o ho⟩
  · rw [upd_ne (by omega), upd_ne (by omega), upd_ne (by omega)]; exact h6 m hm
  · rw [upd_ne (by omega)]; exact h7
theorem xr_week (h : XR c H) (hL : ∀ m, m < 8 → LMm H m) (hW : 0 ≤ (H 0).toInt ∧ (H 0).toInt ≤ 999) : XR (c + 1) (v_X0_endWeek H) := by
  have h0 : XL (fun m => (H 0).toInt + (if m < 0 then 1 else 0)) c H := ⟨XB.mono h.1 (Int.le_refl _) fun m _ => by rw [if_neg (Nat.not_lt_zero m)]; omega, hL⟩
  have h1 := (xl_it hW.2 8 0 H rfl h0).1
  have e0 := it_0 8 0 H rfl
  rw [week_eq]
  generalize itV 8 H 0 = H1 at h1 e0 ⊢
  have h2 : XB (fun m => (H 0).toInt + (if m < 8 then 1 else 0)) c (itVS 8 H1 0) := h1.cg fun j hj1 hj => by
    refine save_fr (fun z => nx_g (by omega) (by omega) hj) (fun m hm z => nx_w (w := 12) hm (by omega) (by rw [← z]; exact hj)) 8 0 _ rfl
  have e1 : itVS 8 H1 0 0 = H 0 := by
    rw [save_fr (by omega) (fun m hm => by omega) 8 0 _ rfl]; exact e0
  generalize itVS 8 H1 0 = H2 at h2 e1 ⊢
  have one : (1 : Int32).toInt = 1 := by decide
  have h3 : XB (fun m => (H 0).toInt + (if m < 8 then 1 else 0)) c (vEnd H2) ∧ vEnd H2 0 = H 0 + 1 := by
    have a := h2.up (i := 0) (x := H2 0 + 1) (Or.inr rfl)
    unfold vEnd
    rw [nm_eq]
    by_cases c1 : H2 6 ≤ 0
    · rw [if_pos c1]; exact ⟨a, by rw [upd_same, e1]⟩
    · rw [if_neg c1]
      by_cases c2 : H2 0 + 1 - (H2 0 + 1) / H2 6 * H2 6 = 0
      · rw [if_pos c2]; exact ⟨a.chair next_here, by rw [upd_ne (by decide), upd_same, e1]⟩
      · rw [if_neg c2]; exact ⟨a, by rw [upd_same, e1]⟩
  generalize vEnd H2 = H3 at h3 ⊢
  have h4 : XB (fun m => (H 0).toInt + (if m < 8 then 1 else 0)) c (itVZ 8 H3 0) := h3.1.cg fun j hj1 hj => by
    refine zero_fr (fun m hm z => nx_w (w := 7) hm (by omega) (by rw [← z]; exact hj)) 8 0 _ rfl
  have e4 : itVZ 8 H3 0 0 = H 0 + 1 := by rw [zero_fr (fun m hm => by omega) 8 0 _ rfl]; exact h3.2
  unfold XR
  rw [e4, fb_addI (by rw [one]; omega) (by rw [one]; omega), one]
  exact ⟨h4.mono (by omega) fun m hm => by rw [if_pos hm]; exact Int.le_refl _, by have := h.2; omega⟩
end XWEEK
