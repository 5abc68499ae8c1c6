section IRS
variable {F H : vF} {G G' : vG} {m k i n p w : Nat} {x y v v' : Int32} {W : Int}
/-- the number of loans -/
def Lc (F : vF) : Int := fb_si (fun o => if F (13 + 14 * o + 4) = 0 then 0 else 1) 8
theorem Lc_0 : 0 ≤ Lc F ∧ Lc F ≤ 8 := by
  unfold Lc
  constructor
  · refine si_nonneg fun o _ => ?_
    by_cases c : F (13 + 14 * o + 4) = 0
    · rw [if_pos c]; decide
    · rw [if_neg c]; decide
  · have := si_le (g := fun o => if F (13 + 14 * o + 4) = 0 then (0 : Int) else 1) (h := fun _ => 1) 8 fun o _ => by
      by_cases c : F (13 + 14 * o + 4) = 0
      · rw [if_pos c]; decide
      · rw [if_neg c]; decide
    exact Int.le_trans this (by decide)
/-- what holds of a row between calls; the number of the week is at most W -/
def IR (W : Int) (F : vF) : Prop :=
  (∀ o, o < 8 → ((F (13 + 14 * o + 0) = 0 ∨ F (13 + 14 * o + 0) = 1) ∧ (F (13 + 14 * o + 7) = 0 ∨ F (13 + 14 * o + 7) = 1))) ∧ (∀ o, o < 8 → LMm F o) ∧ (∀ o, o < 8 → DMm F o) ∧
  (0 ≤ (F 0).toInt ∧ (F 0).toInt ≤ W) ∧ chairOK (F 2) ∧ vp_in (F 3) 9 ∧ ((0 ≤ (F 4).toInt ∧ (F 4).toInt ≤ 50) ∧ (0 ≤ (F 5).toInt ∧ (F 5).toInt ≤ 99) ∧ (1 ≤ (F 6).toInt ∧ (F 6).toInt ≤ 20) ∧ (0 ≤ (F 7).toInt ∧ (F 7).toInt ≤ 100)) ∧
  (0 ≤ (F 8).toInt ∧ (F 8).toInt + Zs F 11 ≤ 792 * (F 0).toInt) ∧
  (F 9).toInt + (F 10).toInt = (F 11).toInt + Zs F 3 + Zs F 10 ∧
  0 ≤ (F 11).toInt ∧ (0 ≤ (F 9).toInt ∧ (F 9).toInt ≤ 16000 * (F 0).toInt + 2000 * Lc F) ∧ (0 ≤ (F 10).toInt ∧ (F 10).toInt ≤ 800 * (F 0).toInt) ∧
  (∀ o, o < 8 → Zd F o ≤ 2100 * (F 0).toInt ∧ 0 ≤ (F (13 + 14 * o + 12)).toInt ∧ (F (13 + 14 * o + 12)).toInt ≤ 99 * (F 0).toInt) ∧ (∀ o, o < 8 → F (13 + 14 * o + 0) = 0 → F (13 + 14 * o + 4) = 0) ∧
  (∀ o : Nat, o < 8 → (F 3).toInt ≤ (o : Int) → F (13 + 14 * o + 0) = 0 ∧ F (13 + 14 * o + 1) = 0 ∧ F (13 + 14 * o + 8) = 0)
theorem IR.is (h : IR W F) (hW : W ≤ 999) {Sh : Nat → Int32} (hz : ∀ o, o < 8 → Sh o = 0) {u : Int32} : IS (F 0).toInt 0 (F, Sh, u) 0 := by
  obtain ⟨h1, h2, h3, h4, h5, h6, h7, h8, h9, h10, h11, h12, h13, h14, h15⟩ := h
  have hl := Lc_0 (F := F)
  have hZ : Zq Sh = 0 := by
    have : Zq Sh = fb_si (fun _ => (0 : Int)) 8 := fb_si_cong fun o ho => by rw [hz o ho, z32]
    rw [this]; rfl
  refine ⟨fun o ho => (h1 o ho).1, h2, h3, h8, ?_, ⟨h10, by rw [z32]; exact Int.le_refl 0⟩, ⟨h11.1, ?_⟩, ⟨h12.1, ?_⟩, ?_, ⟨h4.1, ?_⟩, ?_, ?_⟩
  · rw [z32, Int.add_zero]; exact h9
  · have := h11.2
    have := hl.2
    generalize Lc F = L at *
    clear hZ h9 h8
    show (F 9).toInt ≤ _
    omega
  · have := h12.2
    show (F 10).toInt ≤ 800 * (F 0).toInt + 100 * ((0 : Nat) : Int)
    clear hZ h9 h8 hl
    omega
  · intro o ho
    rw [if_neg (Nat.not_lt_zero o), Int.add_zero]
    exact (h13 o ho).1
  · have := h4.2
    clear hZ h9 h8 hl
    omega
  · intro q hq
    show 0 ≤ (Sh q).toInt
    rw [hz q hq, z32]
    exact Int.le_refl 0
  · show Zq Sh ≤ _
    rw [hZ]
    decide
/-- the savings of a week, exactly -/
theorem save_8 {pb : Nat → Bool} : ∀ (n i : Nat) (G : vG), i + n = 8 → (∀ o, o < 8 → hpB G.1 o = pb o) → 0 ≤ (G.1 5).toInt → (G.1 5).toInt ≤ 99 → 0 ≤ (G.1 8).toInt → (G.1 8).toInt + 99 * n ≤ 1073741824 →
    ((itWS n G i).1 8).toInt = (G.1 8).toInt + (G.1 5).toInt * ((fb_ct pb 8 : Int) - fb_ct pb i) ∧ (G.1 8).toInt ≤ ((itWS n G i).1 8).toInt ∧ ((itWS n G i).1 8).toInt ≤ (G.1 8).toInt + 99 * n := by
  intro n
  induction n with
  | zero =>
    intro i G h _ _ _ h0 _
    obtain rfl : i = 8 := by omega
    show (G.1 8).toInt = _ ∧ (G.1 8).toInt ≤ (G.1 8).toInt ∧ (G.1 8).toInt ≤ (G.1 8).toInt + 99 * ((0 : Nat) : Int)
    rw [Int.sub_self, Int.mul_zero, Int.add_zero]
    exact ⟨rfl, Int.le_refl _, by omega⟩
  | succ n ih =>
    intro i G h hf h5 h5' h8 h8'
    have hi : i < 8 := by omega
    show ((itWS n (wSave G i) (i + 1)).1 8).toInt = _ ∧ _ ≤ ((itWS n (wSave G i) (i + 1)).1 8).toInt ∧ ((itWS n (wSave G i) (i + 1)).1 8).toInt ≤ _
    have hfi := hf i hi
    unfold hpB at hfi
    by_cases c : pb i = true
    · rw [c, decide_eq_true_iff] at hfi
      have e : wSave G i = upq (upq G 8 (G.1 8 + G.1 5)) (13 + 14 * i + 12) (G.1 (13 + 14 * i + 12) + G.1 5) := by
        unfold wSave
        rw [if_pos hfi.1, if_pos hfi.2]
      have e8 : (wSave G i).1 8 = G.1 8 + G.1 5 := by
        rw [e]; simp (disch := omega) only [upq_1, upd_ne, upd_same]
      have e5 : (wSave G i).1 5 = G.1 5 := by
        rw [e]; simp (disch := omega) only [upq_1, upd_ne]
      have t8 : (G.1 8 + G.1 5).toInt = (G.1 8).toInt + (G.1 5).toInt := fb_addI (by omega) (by omega)
      have hf' : ∀ o, o < 8 → hpB (wSave G i).1 o = pb o := by
        intro o ho
        rw [← hf o ho, e]
        unfold hpB
        simp (disch := omega) only [upq_1, upd_ne]
      have := ih (i + 1) (wSave G i) (by omega) hf' (by rw [e5]; exact h5) (by rw [e5]; exact h5') (by rw [e8, t8]; omega) (by rw [e8, t8]; omega)
      rw [e8, e5, t8] at this
      have hc1 : (fb_ct pb (i + 1) : Int) = fb_ct pb i + 1 := by
        rw [fb_ct_succ, if_pos c]; omega
      rw [hc1] at this
      generalize ((itWS n (wSave G i) (i + 1)).1 8).toInt = z at this ⊢
      obtain ⟨b1, b2, b3⟩ := this
      refine ⟨?_, by omega, by omega⟩
      rw [b1]
      have : (G.1 5).toInt * ((fb_ct pb 8 : Int) - fb_ct pb i) = (G.1 5).toInt * ((fb_ct pb 8 : Int) - (fb_ct pb i + 1)) + (G.1 5).toInt := by
        rw [show (fb_ct pb 8 : Int) - fb_ct pb i = ((fb_ct pb 8 : Int) - (fb_ct pb i + 1)) + 1 by omega, Int.mul_add, Int.mul_one]
      rw [this]
      omega
    · have c' : pb i = false := by simpa using c
      rw [c', decide_eq_false_iff_not] at hfi
      have e : wSave G i = G := by
        unfold wSave
        by_cases c1 : G.1 (13 + 14 * i + 0) = 1
        · rw [if_pos c1, if_neg (fun q => hfi ⟨c1, q⟩)]
        · rw [if_neg c1]
      rw [e]
      have := ih (i + 1) G (by omega) hf h5 h5' h8 (by omega)
      have hc1 : fb_ct pb (i + 1) = fb_ct pb i := by rw [fb_ct_succ, if_neg c, Nat.add_zero]
      rw [hc1] at this
      generalize ((itWS n G (i + 1)).1 8).toInt = z at this ⊢
      obtain ⟨b1, b2, b3⟩ := this
      exact ⟨b1, b2, by omega⟩
theorem next_ok {c : Int32} (hc : chairOK c) : chairOK (w_nextChair F c) := by
  have key : ∀ n i, i + n = 10 → 1 ≤ i → chairOK (w_nextChair_L2 n F c i) := by
    intro n
    induction n with
    | zero => intro i _ _; exact Or.inr (vp_in_nI (by decide) (by decide) : vp_in (nI 0) 8)
    | succ n ih =>
      intro i hi h1
      rw [w_nextChair_L2.eq_2]
      by_cases c1 : 8 < nI i
      · rw [if_pos c1]; exact Or.inl rfl
      · rw [if_neg c1]
        have hi9 : i < 9 := nI_of_nlt (a := i) (b := 8) (by decide) c1 (by omega)
        have hv := rem8 hc h1 hi9
        rw [nm_eq]
        generalize (c + nI i) - (c + nI i) / 8 * 8 = x at hv ⊢
        rw [nm_eq]
        by_cases c2 : w_of F x 0 = 1
        · rw [if_pos c2, nm_eq]
          by_cases c3 : w_debts F x = 0
          · rw [if_pos c3]; exact Or.inr hv
          · rw [if_neg c3]; exact ih _ (by omega) (by omega)
        · rw [if_neg c2]; exact ih _ (by omega) (by omega)
  exact key 9 1 rfl (Nat.le_refl 1)
theorem end_vals (hc : chairOK (G.1 2)) : (wEnd G).1 0 = G.1 0 + 1 ∧ chairOK ((wEnd G).1 2) ∧ (wEnd G).1 8 = G.1 8 := by
  unfold wEnd
  by_cases c : ((G.1 0 + 1) - (G.1 0 + 1) / G.1 6 * G.1 6) = 0
  · rw [if_pos c]
    simp (disch := omega) only [upq_1, upd_ne, upd_same]
    exact ⟨trivial, next_ok hc, trivial⟩
  · rw [if_neg c]
    simp (disch := omega) only [upq_1, upd_ne, upd_same]
    exact ⟨trivial, hc, trivial⟩
theorem zero_vals : ∀ (n i : Nat) (G : vG), i + n = 8 → (∀ o, i ≤ o → o < 8 → (itZ n G i).1 (13 + 14 * o + 7) = 0) ∧ (∀ j, (∀ o, i ≤ o → o < 8 → j ≠ 13 + 14 * o + 7) → (itZ n G i).1 j = G.1 j) ∧ (itZ n G i).2 = G.2 := by
  intro n
  induction n with
  | zero => intro i G h; exact ⟨fun o h1 h2 => absurd h2 (by omega), fun _ _ => rfl, rfl⟩
  | succ n ih =>
    intro i G h
    obtain ⟨a, b, c⟩ := ih (i + 1) (upq G (13 + 14 * i + 7) 0) (by omega)
    refine ⟨?_, ?_, c⟩
    · intro o h1 h2
      by_cases e : o = i
      · subst e
        refine (b _ fun o' h3 h4 => by omega).trans ?_
        rw [upq_1, upd_same]
      · exact a o (by omega) h2
    · intro j hj
      refine (b j fun o h3 h4 => hj o (by omega) h4).trans ?_
      rw [upq_1, upd_ne (hj i (Nat.le_refl i) (by omega))]
theorem itS_2 : ∀ (n i : Nat) (G : vG), i + n = 8 → (itWS n G i).1 0 = G.1 0 ∧ (itWS n G i).1 2 = G.1 2 ∧ (itWS n G i).2 = G.2 := by
  intro n
  induction n with
  | zero => intro i G h; exact ⟨rfl, rfl, rfl⟩
  | succ n ih =>
    intro i G h
    have key : (wSave G i).1 0 = G.1 0 ∧ (wSave G i).1 2 = G.1 2 ∧ (wSave G i).2 = G.2 := by
      unfold wSave
      by_cases c1 : G.1 (13 + 14 * i + 0) = 1
      · rw [if_pos c1]
        by_cases c2 : G.1 (13 + 14 * i + 7) = 0
        · rw [if_pos c2]
          refine ⟨?_, ?_, by simp only [upq_2]⟩
          · simp (disch := omega) only [upq_1, upd_ne]
          · simp (disch := omega) only [upq_1, upd_ne]
        · rw [if_neg c2]; exact ⟨rfl, rfl, rfl⟩
      · rw [if_neg c1]; exact ⟨rfl, rfl, rfl⟩
    obtain ⟨a, b, c⟩ := ih (i + 1) (wSave G i) (by omega)
    exact ⟨a.trans key.1, b.trans key.2.1, c.trans key.2.2⟩
theorem save_12 : ∀ (n i : Nat) (G : vG), i + n = 8 → 0 ≤ (G.1 5).toInt → (G.1 5).toInt ≤ 99 → (∀ o, o < 8 → i ≤ o → 0 ≤ (G.1 (13 + 14 * o + 12)).toInt ∧ (G.1 (13 + 14 * o + 12)).toInt ≤ 1000000) →
    ∀ o, o < 8 → (G.1 (13 + 14 * o + 12)).toInt ≤ ((itWS n G i).1 (13 + 14 * o + 12)).toInt ∧ ((itWS n G i).1 (13 + 14 * o + 12)).toInt ≤ (G.1 (13 + 14 * o + 12)).toInt + (if i ≤ o then 99 else 0) := by
  intro n
  induction n with
  | zero =>
    intro i G h _ _ _ o ho
    rw [if_neg (by omega), Int.add_zero]
    exact ⟨Int.le_refl _, Int.le_refl _⟩
  | succ n ih =>
    intro i G h h5 h5' hs o ho
    have hi : i < 8 := by omega
    show _ ≤ ((itWS n (wSave G i) (i + 1)).1 _).toInt ∧ ((itWS n (wSave G i) (i + 1)).1 _).toInt ≤ _
    have e5 : (wSave G i).1 5 = G.1 5 := fy_save hi 5 (Fy_g (by decide))
    have en : ∀ o, o ≠ i → (wSave G i).1 (13 + 14 * o + 12) = G.1 (13 + 14 * o + 12) := by
      intro o c
      unfold wSave
      by_cases c1 : G.1 (13 + 14 * i + 0) = 1
      · rw [if_pos c1]
        by_cases c2 : G.1 (13 + 14 * i + 7) = 0
        · rw [if_pos c2, upq_1, upd_ne (by omega), upq_1, upd_ne (by omega)]
        · rw [if_neg c2]
      · rw [if_neg c1]
    have ei : (G.1 (13 + 14 * i + 12)).toInt ≤ ((wSave G i).1 (13 + 14 * i + 12)).toInt ∧ ((wSave G i).1 (13 + 14 * i + 12)).toInt ≤ (G.1 (13 + 14 * i + 12)).toInt + 99 := by
      have hsi := hs i hi (Nat.le_refl i)
      unfold wSave
      by_cases c1 : G.1 (13 + 14 * i + 0) = 1
      · rw [if_pos c1]
        by_cases c2 : G.1 (13 + 14 * i + 7) = 0
        · rw [if_pos c2, upq_1, upd_same, fb_addI (by omega) (by omega)]
          exact ⟨by omega, by omega⟩
        · rw [if_neg c2]
          exact ⟨Int.le_refl _, by omega⟩
      · rw [if_neg c1]
        exact ⟨Int.le_refl _, by omega⟩
    have := ih (i + 1) (wSave G i) (by omega) (by rw [e5]; exact h5) (by rw [e5]; exact h5') (fun o' ho' hle => by rw [en o' (by omega)]; exact hs o' ho' (by omega)) o ho
    by_cases c : o = i
    · subst c
      rw [if_neg (by omega), Int.add_zero] at this
      rw [if_pos (Nat.le_refl o)]
      exact ⟨Int.le_trans ei.1 this.1, Int.le_trans this.2 ei.2⟩
    · rw [en o c] at this
      by_cases c5 : i ≤ o
      · rw [if_pos c5]; rw [if_pos (by omega)] at this; exact this
      · rw [if_neg c5]; rw [if_neg (by omega)] at this; exact this
end IRS
