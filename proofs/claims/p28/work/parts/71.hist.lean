section HISTS
variable {S T : vS} {F H : vF} {g g2 k n i o s : Nat} {x : Int32} {W : Int}
theorem fm6 (S : vS) {a : Nat} (ha : a < 2 ^ 30) : x_J9_floorMod_7cf53 S (nI a) 6 = nI (a % 6) := by
  unfold x_J9_floorMod_7cf53
  rw [nm_eq, if_pos]
  · exact pk_rem (d := 6) (by omega) (by decide) (by decide)
  · rw [xor_neg]
    exact ⟨fun q => absurd q (nI_pos (by omega)), fun q => absurd q (by decide)⟩
theorem cv_st {q j : Nat} (h : ¬ (19 * g ≤ q ∧ q < 19 * g + 19)) : cv (st S q j x) g = cv S g := by
  funext i
  unfold cv
  by_cases c : i < 189
  · rw [if_pos c, if_pos c, st_at, if_neg]
    have := (inv_of i c).1
    omega
  · rw [if_neg c, if_neg c]
theorem cv_emb_same : ∀ i, i < 189 → cv (emb S g F) g i = F i := fun i hi => cv_emb hi
/-- row j of the model's past -/
def pst (T : vS) (j : Nat) : vF := fun i => T 3 (189 * j + i)
theorem copy_now : ∀ (n i : Nat) (T : vS), i + n = 189 → (T 0 3).toNatClampNeg = k → ∀ c j, x_X5_saves_L52 (n + 1) T i c j = (if c = 3 ∧ 189 * k + i ≤ j ∧ j < 189 * k + 189 then T 1 (j - 189 * k) else if c = 0 ∧ j = 3 then T 0 3 + 1 else T c j) := by
  intro n
  induction n with
  | zero =>
    intro i T h hk c j
    obtain rfl : i = 189 := by omega
    rw [x_X5_saves_L52.eq_2, if_pos (by decide), nm_eq, st_at, if_neg (show ¬ (c = 3 ∧ 189 * k + 189 ≤ j ∧ j < 189 * k + 189) by omega)]
  | succ n ih =>
    intro i T h hk c j
    have hc : ¬ (189 : Int32) ≤ nI i := fun q => absurd (nI_of_le (a := 189) (b := i) (by omega) q (by decide)) (by omega)
    have e3 : st T 3 (189 * (T 0 3).toNatClampNeg + i) (T 1 i) 0 3 = T 0 3 := by rw [st_at, if_neg (by omega)]
    rw [x_X5_saves_L52.eq_2, if_neg hc, nm_eq, ih (i + 1) _ (by omega) (by rw [e3]; exact hk), e3, hk]
    simp only [st_at]
    by_cases c1 : c = 3 ∧ 189 * k + i ≤ j ∧ j < 189 * k + 189
    · rw [if_pos c1]
      by_cases c2 : j = 189 * k + i
      · rw [if_neg (by omega), if_neg (by omega), if_pos ⟨c1.1, c2⟩, c2, Nat.add_sub_cancel_left]
      · rw [if_pos (by omega), if_neg (by omega)]
    · rw [if_neg c1, if_neg (by omega)]
      by_cases c2 : c = 0 ∧ j = 3
      · rw [if_pos c2, if_pos c2]
      · rw [if_neg c2, if_neg c2, if_neg (by omega)]
theorem shift_down : ∀ (n i : Nat) (T : vS), i + n = 945 → T 0 3 = nI 6 → ∃ T1, x_X5_saves_L11 (n + 1) T i = x_X5_saves_L52 190 T1 0 ∧ ∀ c j, T1 c j = (if c = 3 ∧ i ≤ j ∧ j < 945 then T 3 (j + 189) else if c = 0 ∧ j = 3 then nI 5 else T c j) := by
  intro n
  induction n with
  | zero =>
    intro i T h hk
    obtain rfl : i = 945 := by omega
    rw [x_X5_saves_L11.eq_2, if_pos (by decide), nm_eq]
    refine ⟨_, rfl, fun c j => ?_⟩
    rw [st_at, hk, if_neg (show ¬ (c = 3 ∧ 945 ≤ j ∧ j < 945) by omega)]
    rfl
  | succ n ih =>
    intro i T h hk
    have hc : ¬ (945 : Int32) ≤ nI i := fun q => absurd (nI_of_le (a := 945) (b := i) (by omega) q (by omega)) (by omega)
    rw [x_X5_saves_L11.eq_2, if_neg hc, nm_eq]
    obtain ⟨T1, e, h1⟩ := ih (i + 1) (st T 3 i (T 3 (i + 189))) (by omega) (by rw [st_at, if_neg (by omega)]; exact hk)
    refine ⟨T1, e, fun c j => ?_⟩
    rw [h1]
    simp only [st_at]
    by_cases c1 : c = 3 ∧ i ≤ j ∧ j < 945
    · rw [if_pos c1]
      by_cases c2 : j = i
      · rw [if_neg (by omega), if_neg (by omega), if_pos ⟨c1.1, c2⟩, c2]
      · rw [if_pos (by omega), if_neg (by omega)]
    · rw [if_neg c1, if_neg (by omega)]
      by_cases c2 : c = 0 ∧ j = 3
      · rw [if_pos c2, if_pos c2]
      · rw [if_neg c2, if_neg c2, if_neg (by omega)]
/-- the model saves a state: past row by row -/
theorem saves_vals (hs : s ≤ 6) (hk : T 0 3 = nI s) : (∀ j, j < s → ¬ s = 6 → ∀ i, i < 189 → pst (x_X5_saves T) j i = pst T j i) ∧ (s = 6 → ∀ j, j < 5 → ∀ i, i < 189 → pst (x_X5_saves T) j i = pst T (j + 1) i) ∧ (∀ i, i < 189 → pst (x_X5_saves T) (if s = 6 then 5 else s) i = T 1 i) ∧ x_X5_saves T 0 3 = nI (if s = 6 then 6 else s + 1) ∧ (∀ c j, c ≠ 3 → ¬ (c = 0 ∧ j = 3) → x_X5_saves T c j = T c j) := by
  unfold x_X5_saves
  by_cases c6 : s = 6
  · subst c6
    have hk6 : T 0 3 = 6 := hk
    rw [if_pos hk6]
    obtain ⟨T1, e, h1⟩ := shift_down 945 0 T rfl hk
    have k1 : T1 0 3 = nI 5 := by rw [h1, if_neg (by omega), if_pos ⟨rfl, rfl⟩]
    have hv := copy_now (k := 5) 189 0 T1 rfl (by rw [k1]; exact nI_clamp (by decide))
    rw [e]
    refine ⟨fun j _ q => absurd rfl q, fun _ j hj i hi => ?_, fun i hi => ?_, ?_, fun c j hc hcj => ?_⟩
    · unfold pst
      rw [hv, if_neg (by omega), if_neg (by omega), h1, if_pos ⟨rfl, by omega, by omega⟩, show 189 * j + i + 189 = 189 * (j + 1) + i by omega]
    · unfold pst
      rw [if_pos rfl, hv, if_pos ⟨rfl, by omega, by omega⟩, h1, if_neg (by omega), if_neg (by omega), Nat.add_sub_cancel_left]
    · rw [hv, if_neg (by omega), if_pos ⟨rfl, rfl⟩, k1, if_pos rfl]; decide
    · rw [hv, if_neg (by omega), if_neg hcj, h1, if_neg (by omega), if_neg hcj]
  · have n6 : ¬ T 0 3 = 6 := by rw [hk]; exact fun q => c6 ((nI_eq (b := 6) (by omega) (by decide)).mp q)
    rw [if_neg n6]
    have hv := copy_now (k := s) 189 0 T rfl (by rw [hk]; exact nI_clamp (by omega))
    refine ⟨fun j hj _ i hi => ?_, fun q => absurd q c6, fun i hi => ?_, ?_, fun c j hc hcj => ?_⟩
    · unfold pst
      rw [hv, if_neg (by omega), if_neg (by omega)]
    · unfold pst
      rw [if_neg c6, hv, if_pos ⟨rfl, by omega, by omega⟩, Nat.add_sub_cancel_left]
    · rw [hv, if_neg (by omega), if_pos ⟨rfl, rfl⟩, hk, if_neg c6, nI_1]
    · rw [hv, if_neg (by omega), if_neg hcj]
/-- the saved states on both sides -/
def HH (S T : vS) : Prop := ∃ o s : Nat, o < 6 ∧ s ≤ 6 ∧ S hO 1 = nI o ∧ S hO 2 = nI s ∧ T 0 3 = nI s ∧ ∀ j, j < s → RG (pst T j) (cv S (2 + (o + j) % 6)) ∧ IR 999 (pst T j)
theorem keep_thm (hH : HH S T) (hR : RG (T 1) (cv S 0)) (hI : IR 999 (T 1)) : HH (x_X1_keep S 0) (x_X5_saves T) ∧ cv (x_X1_keep S 0) 0 = cv S 0 ∧ (∀ q j, 152 ≤ q → q ≠ hO → x_X1_keep S 0 q j = S q j) ∧ (∀ c j, c ≠ 3 → ¬ (c = 0 ∧ j = 3) → x_X5_saves T c j = T c j) := by
  obtain ⟨o, s, ho, hs, e1, e2, e3, hrow⟩ := hH
  obtain ⟨v1, v2, v3, v4, v5⟩ := saves_vals hs e3
  have hm : x_J9_floorMod_7cf53 S (nI o + nI s) 6 = nI ((o + s) % 6) := by rw [nI_add]; exact fm6 S (by omega)
  have hc6 : (nI ((o + s) % 6)).toNatClampNeg = (o + s) % 6 := nI_clamp (by omega)
  -- the copy
  have hk0 : x_X1_keep S 0 = (if 6 ≤ S hO 2 then st (emb S ((o + s) % 6 + 2) (bzr (cv S 0))) hO 1 (nI ((o + 1) % 6)) else st (emb S ((o + s) % 6 + 2) (bzr (cv S 0))) hO 2 (S hO 2 + 1)) := by
    have eh : ∀ (F : vF) j, emb S ((o + s) % 6 + 2) F hO j = S hO j := fun F j => emb_out (by unfold hO; omega)
    unfold x_X1_keep
    rw [e1, e2, hm, nm_eq, hc6, copy_thm (by omega), nm_eq, eh, eh, e1, e2]
    have e4 : nI o + 1 = nI (o + 1) := nI_1 o
    have f6' : x_J9_floorMod_7cf53 (emb S ((o + s) % 6 + 2) (bzr (cv S 0))) (nI (o + 1)) 6 = nI ((o + 1) % 6) := fm6 _ (by omega)
    rw [e4, f6', nm_eq, nm_eq, nm_eq]
  have hne : ∀ g, g < 8 → ¬ (19 * g ≤ hO ∧ hO < 19 * g + 19) := fun g hg => by unfold hO; omega
  have hcv : ∀ g, g < 8 → ∀ j x, cv (st (emb S ((o + s) % 6 + 2) (bzr (cv S 0))) hO j x) g = cv (emb S ((o + s) % 6 + 2) (bzr (cv S 0))) g := fun g hg j x => cv_st (hne g hg)
  have hRb := hR.bz hI
  have hnew : ∀ {F' : vF}, (∀ i, i < 189 → F' i = T 1 i) → RG F' (cv (emb S ((o + s) % 6 + 2) (bzr (cv S 0))) ((o + s) % 6 + 2)) ∧ IR 999 F' := by
    intro F' hF
    exact ⟨hRb.c189 hF (fun j hj => cv_emb hj.1) (cv_emb (by decide)), hI.c189 hF⟩
  have hold : ∀ g, g < 8 → g ≠ (o + s) % 6 + 2 → cv (emb S ((o + s) % 6 + 2) (bzr (cv S 0))) g = cv S g := fun g _ h => cv_emb_ne (Ne.symm h)
  have htxt : ∀ q j, 152 ≤ q → q ≠ hO → ∀ j2 x, st (emb S ((o + s) % 6 + 2) (bzr (cv S 0))) hO j2 x q j = S q j := by
    intro q j h1 h2 j2 x
    rw [st_at, if_neg (fun z => h2 z.1), emb_out (by omega)]
  have rows : ∀ {F F' : vF} {H' : vF}, RG F H' ∧ IR 999 F → (∀ i, i < 189 → F' i = F i) → RG F' H' ∧ IR 999 F' := fun h e => ⟨h.1.c189 e (fun _ _ => rfl) rfl, h.2.c189 e⟩
  by_cases c6 : s = 6
  · subst c6
    have c : (6 : Int32) ≤ S hO 2 := by rw [e2]; decide
    rw [if_pos c] at hk0
    rw [hk0]
    refine ⟨⟨(o + 1) % 6, 6, by omega, by omega, by rw [st_at, if_pos ⟨rfl, rfl⟩], ?_, by rw [v4, if_pos rfl], ?_⟩, ?_, fun q j a b => htxt q j a b _ _, v5⟩
    · rw [st_at, if_neg (by omega), emb_out (by unfold hO; omega)]; exact e2
    · intro j hj
      rw [hcv _ (by omega)]
      by_cases c5 : j = 5
      · subst c5
        have : 2 + ((o + 1) % 6 + 5) % 6 = (o + 6) % 6 + 2 := by omega
        rw [this]
        exact hnew fun i hi => by have := v3 i hi; rw [if_pos rfl] at this; exact this
      · rw [hold _ (by omega) (by omega)]
        have := hrow (j + 1) (by omega)
        rw [show (o + (j + 1)) % 6 = ((o + 1) % 6 + j) % 6 by omega] at this
        exact rows this fun i hi => v2 rfl j (by omega) i hi
    · rw [hcv 0 (by decide), hold 0 (by decide) (by omega)]
  · have c : ¬ (6 : Int32) ≤ S hO 2 := by rw [e2]; exact fun q => absurd (nI_of_le (a := 6) (b := s) (by omega) q (by decide)) (by omega)
    rw [if_neg c] at hk0
    rw [hk0]
    rw [if_neg c6] at v3 v4
    refine ⟨⟨o, s + 1, ho, by omega, ?_, ?_, v4, ?_⟩, ?_, fun q j a b => htxt q j a b _ _, v5⟩
    · rw [st_at, if_neg (by omega), emb_out (by unfold hO; omega)]; exact e1
    · rw [st_at, if_pos ⟨rfl, rfl⟩, e2, nI_1]
    · intro j hj
      rw [hcv _ (by omega)]
      by_cases c5 : j = s
      · subst c5
        rw [show 2 + (o + j) % 6 = (o + j) % 6 + 2 by omega]
        exact hnew v3
      · rw [hold _ (by omega) (by omega)]
        exact rows (hrow j (by omega)) fun i hi => v1 j (by omega) c6 i hi
    · rw [hcv 0 (by decide), hold 0 (by decide) (by omega)]
theorem undo_loop : ∀ (n i : Nat) (T : vS), i + n = 189 → (T 0 3).toNatClampNeg = k → (x_X5_undo_L30 (n + 1) T i).1 = T 0 3 ∧ ∀ c j, (x_X5_undo_L30 (n + 1) T i).2 c j = (if c = 1 ∧ i ≤ j ∧ j < 189 then T 3 (189 * k + j) else T c j) := by
  intro n
  induction n with
  | zero =>
    intro i T h hk
    obtain rfl : i = 189 := by omega
    rw [x_X5_undo_L30.eq_2, if_pos (by decide)]
    refine ⟨rfl, fun c j => ?_⟩
    rw [if_neg (by omega)]
  | succ n ih =>
    intro i T h hk
    have hc : ¬ (189 : Int32) ≤ nI i := fun q => absurd (nI_of_le (a := 189) (b := i) (by omega) q (by decide)) (by omega)
    rw [x_X5_undo_L30.eq_2, if_neg hc, nm_eq]
    have e3 : st T 1 i (T 3 (189 * (T 0 3).toNatClampNeg + i)) 0 3 = T 0 3 := by rw [st_at, if_neg (by omega)]
    obtain ⟨a, b⟩ := ih (i + 1) (st T 1 i (T 3 (189 * (T 0 3).toNatClampNeg + i))) (by omega) (by rw [e3]; exact hk)
    refine ⟨a.trans e3, fun c j => ?_⟩
    rw [b, hk]
    simp only [st_at]
    by_cases c1 : c = 1 ∧ i ≤ j ∧ j < 189
    · rw [if_pos c1]
      by_cases c2 : j = i
      · rw [if_neg (by omega), if_pos ⟨c1.1, c2⟩, c2]
      · rw [if_pos (by omega), if_neg (by omega)]
    · rw [if_neg c1, if_neg (by omega), if_neg (by omega)]
theorem takeBack_thm (hH : HH S T) (hs : 0 < S hO 2) : ∃ o s : Nat, o < 6 ∧ s + 1 ≤ 6 ∧ S hO 2 = nI (s + 1) ∧ T 0 3 = nI (s + 1) ∧ x_X1_takeBack S 0 hO 2 = nI s ∧ x_X1_takeBack S 0 hO 1 = nI o ∧ S hO 1 = nI o ∧ (∀ q j, 152 ≤ q → q ≠ hO → x_X1_takeBack S 0 q j = S q j) ∧ (∀ g, 0 < g → g < 8 → cv (x_X1_takeBack S 0) g = cv S g) ∧ (∀ j, j < 189 → cv (x_X1_takeBack S 0) 0 j = bzr (cv S (2 + (o + s) % 6)) j) ∧ ∀ j, j < s + 1 → RG (pst T j) (cv S (2 + (o + j) % 6)) ∧ IR 999 (pst T j) := by
  obtain ⟨o, s', ho, hs', e1, e2, e3, hrow⟩ := hH
  obtain ⟨s, rfl⟩ : ∃ s, s' = s + 1 := by
    rcases Nat.eq_zero_or_pos s' with q | q
    · subst q; rw [e2] at hs; exact absurd hs (by decide)
    · exact ⟨s' - 1, by omega⟩
  have hne : ∀ g, g < 8 → ¬ (19 * g ≤ hO ∧ hO < 19 * g + 19) := fun g hg => by unfold hO; omega
  have eS2 : ∀ x, st S hO 2 x hO 1 = S hO 1 := fun x => by rw [st_at, if_neg (by omega)]
  have eS3 : ∀ x, st S hO 2 x hO 2 = x := fun x => by rw [st_at, if_pos ⟨rfl, rfl⟩]
  have hk : x_X1_takeBack S 0 = emb (st S hO 2 (nI s)) 0 (bzr (cv S (2 + (o + s) % 6))) := by
    unfold x_X1_takeBack
    rw [if_pos hs, nm_eq, eS2, eS3, e1, e2, nI_pred, nI_add, fm6 _ (by omega), nm_eq, nI_clamp (by omega), nm_eq, copy_thm (by omega), cv_st (hne _ (by omega)), show (o + s) % 6 + 2 = 2 + (o + s) % 6 by omega]
  refine ⟨o, s, ho, hs', e2, e3, ?_, ?_, e1, ?_, ?_, ?_, hrow⟩
  · rw [hk, emb_out (by unfold hO; omega), eS3]
  · rw [hk, emb_out (by unfold hO; omega), eS2, e1]
  · intro q j h1 h2
    rw [hk, emb_out (by omega), st_at, if_neg (fun z => h2 z.1)]
  · intro g h0 hg
    rw [hk, cv_emb_ne (by omega), cv_st (hne g hg)]
  · intro j hj
    rw [hk]
    exact cv_emb hj
end HISTS
