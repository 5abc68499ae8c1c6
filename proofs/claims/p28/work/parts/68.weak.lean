section WEAKEST
variable {F H : vF} {G G' : vG} {m k i n p w g o : Nat} {x y v v' u q : Int32} {W B : Int} {T : vS} {hb : Nat → Bool} {s5 : Int32}
theorem due_not (h : IR W F) (hm : m < 8) (h0 : F (13 + 14 * m + 0) = 0) : w_due F (nI m) = 0 := by
  rw [n_due hm, if_pos (h.2.2.2.2.2.2.2.2.2.2.2.2.2.1 m hm h0)]
/-- what the model's try with member m alone brings -/
theorem weak_try (h : IR W F) (hW : W ≤ 999) (hm : m < 8) (hh : F (13 + 14 * m + 0) = 1) (hT : T 1 = F) : ∃ r G', x_X5_endsWith (x_X5_tries (emm T 2 G)) (1 <<< ((nI m) &&& 31)) = (r, emm T 2 G') ∧ (s8 G'.2.1).toInt = (if (F 8).toInt < (w_due F (nI m)).toInt ∧ ¬ oth m (fun o => decide (F (13 + 14 * o + 0) = 1)) = 0 then (w_due F (nI m)).toInt - (F 8).toInt else 0) := by
  have he : ∀ j, j < 189 → cpT T G.1 j = F j := fun j hj => by unfold cpT; rw [if_pos hj, hT]
  have hP := PA_of h hW hm hh he
  obtain ⟨r, G', e, s0, s1, s2, _⟩ := alone_week (G := (cpT T G.1, G.2)) hm hP (by decide) rfl
  refine ⟨r, G', ?_, ?_⟩
  · rw [tries_eq, f_endsWith, e]; rfl
  · have hd := (hP.2.2.1).due0 hm
    have hf := hP.2.2.2.2.2.1
    have ed : w_due (cpT T G.1) (nI m) = w_due F (nI m) := by rw [n_due hm, n_due hm, n_partOf hm, n_partOf hm, he _ (by omega), he _ (by omega), he _ (by omega), he _ (by omega)]
    rw [ed, he 8 (by decide)] at s1 s2
    rw [ed] at hd
    rw [he 8 (by decide)] at hf
    generalize (w_due F (nI m)).toInt = d at *
    by_cases c : (F 8).toInt < d
    · by_cases c0 : oth m (fun o => decide (F (13 + 14 * o + 0) = 1)) = 0
      · rw [if_neg (fun q => q.2 c0)]
        have z := ((s2 c).1 c0).2
        rw [sh_toInt s0 (by rw [z]; decide), z]
      · rw [if_pos ⟨c, c0⟩]
        have z := (s2 c).2 c0
        rw [sh_toInt s0 (by rw [z]; omega), z]
    · rw [if_neg (fun q => c q.1)]
      have z := (s1 (by omega)).2.1
      rw [sh_toInt s0 (by rw [z]; decide), z]
theorem weak_loop (h : IR W F) (hW : W ≤ 999) (hR : RG F H) (hT : T 1 = F) : ∀ (n i : Nat) (G : vG) (a b : Int32), i + n = 8 → 0 ≤ a.toInt → ∃ G', x_X5_weakestOf_L6 (n + 1) (emm T 2 G) i a b = ((if 2 ≤ fb_ct (fun o => decide (F (13 + 14 * o + 0) = 1)) 8 then v_X0_weakestNumber_L26 (n + 1) H i a b else b), emm T 2 G') := by
  intro n
  induction n with
  | zero =>
    intro i G a b hi ha
    obtain rfl : i = 8 := by omega
    refine ⟨G, ?_⟩
    rw [x_X5_weakestOf_L6.eq_2, if_pos le8, v_X0_weakestNumber_L26.eq_2, if_pos le8]
    split <;> rfl
  | succ n ih =>
    intro i G a b hi ha
    have hi8 : i < 8 := by omega
    have e0 : x_X5_of (emm T 2 G) 1 (nI i) 0 = F (13 + 14 * i + 0) := by
      unfold x_X5_of
      rw [cl8 hi8, clw0, em_out (by decide) (by decide) (by omega), hT]
    rw [x_X5_weakestOf_L6.eq_2, if_neg (ge8 hi8), nm_eq, e0, v_X0_weakestNumber_L26.eq_2, if_neg (ge8 hi8)]
    simp only [nm_eq]
    rw [due_eq h hR hi8, hR.g (j := 8) (by decide)]
    have hf := h.2.2.2.2.2.2.2.1.1
    have f8 : (F 8).toInt ≤ 792000 := by
      have z11 : 0 ≤ Zs F 11 := si_nonneg fun o ho => (h.2.2.1 o ho).2.1
      have a1 := h.2.2.2.2.2.2.2.1.2
      have a2 := h.2.2.2.1.2
      generalize Zs F 11 = z at *
      omega
    have hd := (h.2.1 i hi8).due0 hi8
    have hx : (w_due F (nI i) - F 8).toInt = (w_due F (nI i)).toInt - (F 8).toInt := by
      generalize w_due F (nI i) = d at *
      exact fb_subI (by omega) (by omega)
    by_cases c1 : F (13 + 14 * i + 0) = 1
    · rw [if_pos c1]
      obtain ⟨r, G', e, hs⟩ := weak_try (G := G) h hW hi8 c1 hT
      rw [e, nmp_eq]
      dsimp only
      have h6 : emm T 2 G' 6 = G'.2.1 := by funext j; exact em_6 (Or.inr rfl)
      have hoc := oth_ct (hb := fun o => decide (F (13 + 14 * o + 0) = 1)) hi8 (decide_eq_true c1)
      simp only [shared_0, h6]
      generalize s8 G'.2.1 = s at hs ⊢
      generalize w_due F (nI i) = d at *
      obtain ⟨oc_, hoc_⟩ : ∃ z, z = oth i (fun o => decide (F (13 + 14 * o + 0) = 1)) := ⟨_, rfl⟩
      rw [← hoc_] at hs hoc
      obtain ⟨ct, hct⟩ : ∃ z, z = fb_ct (fun o => decide (F (13 + 14 * o + 0) = 1)) 8 := ⟨_, rfl⟩
      have ih := ih (i + 1) G'
      rw [← hct] at ih hoc ⊢
      clear hct hoc_ e
      by_cases c2 : 2 ≤ ct
      · simp only [if_pos c2] at ih ⊢
        by_cases c3 : (F 8).toInt < d.toInt
        · rw [if_pos ⟨c3, by omega⟩] at hs
          have es : s = d - F 8 := Int32.toInt_inj.mp (by rw [hs, hx])
          rw [es]
          by_cases c4 : d - F 8 ≤ a
          · rw [if_pos c4, if_pos c4, if_pos c4]; exact ih a b (by omega) ha
          · rw [if_neg c4, if_neg c4, if_neg c4]; exact ih _ _ (by omega) (by rw [hx]; omega)
        · rw [if_neg (fun q => c3 q.1)] at hs
          have c4 : s ≤ a := by rw [Int32.le_iff_toInt_le, hs]; exact ha
          have c5 : d - F 8 ≤ a := by rw [Int32.le_iff_toInt_le, hx]; omega
          rw [if_pos c4, if_pos c4, if_pos c5]; exact ih a b (by omega) ha
      · simp only [if_neg c2] at ih ⊢
        rw [if_neg (fun q => q.2 (by omega))] at hs
        have c4 : s ≤ a := by rw [Int32.le_iff_toInt_le, hs]; exact ha
        rw [if_pos c4, if_pos c4]; exact ih a b (by omega) ha
    · rw [if_neg c1]
      have c0 := ((h.1 i hi8).1).resolve_right c1
      have d0 := due_not h hi8 c0
      rw [d0] at hx ⊢
      have c5 : (0 : Int32) - F 8 ≤ a := by rw [Int32.le_iff_toInt_le, hx, z32]; omega
      obtain ⟨G', e⟩ := ih (i + 1) G a b (by omega) ha
      refine ⟨G', ?_⟩
      rw [e, if_pos c5]
theorem weak_thm (h : IR W F) (hW : W ≤ 999) (hR : RG F H) (hT : T 1 = F) : ∃ G', x_X5_weakestOf (emm T 2 G) = (v_X0_weakestNumber H, emm T 2 G') := by
  obtain ⟨G', e⟩ := weak_loop (G := G) h hW hR hT 8 0 0 (-1) rfl (by decide)
  refine ⟨G', ?_⟩
  unfold x_X5_weakestOf v_X0_weakestNumber
  rw [e, nm_eq, members_eq h hR, members_ct h]
  have h8 := fb_ct_le (fun o => decide (F (13 + 14 * o + 0) = 1)) 8
  by_cases c : 2 ≤ fb_ct (fun o => decide (F (13 + 14 * o + 0) = 1)) 8
  · rw [if_pos c, if_pos (show (2 : Int32) ≤ nI _ from nI_le (a := 2) c (by omega))]
  · rw [if_neg c, if_neg (fun q : (2 : Int32) ≤ nI _ => c (by have := nI_of_le (a := 2) (b := fb_ct (fun o => decide (F (13 + 14 * o + 0) = 1)) 8) (by omega) q (by decide); omega))]
end WEAKEST
