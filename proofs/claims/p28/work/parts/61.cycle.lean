section CYCLES
variable {F H : vF} {G G' : vG} {m k i n p w : Nat} {x y v v' : Int32} {W : Int}
theorem mL_zero {f : Nat → Int32} : ∀ (n i : Nat) (v : Int32), 0 ≤ v.toInt → (∀ j, i ≤ j → j < i + n → 0 ≤ (f j).toInt) → (mL n f i v = 0 ↔ v = 0 ∧ ∀ j, i ≤ j → j < i + n → f j = 0) := by
  intro n
  induction n with
  | zero =>
    intro i v _ _
    exact ⟨fun q => ⟨q, fun j a b => absurd a (by omega)⟩, fun q => q.1⟩
  | succ n ih =>
    intro i v hv hf
    have hfi := hf i (Nat.le_refl i) (by omega)
    show mL n f (i + 1) (if v < f i then f i else v) = 0 ↔ _
    have h2 : 0 ≤ (if v < f i then f i else v).toInt := by
      by_cases c : v < f i
      · rw [if_pos c]; exact hfi
      · rw [if_neg c]; exact hv
    rw [ih (i + 1) _ h2 fun j a b => hf j (by omega) (by omega)]
    constructor
    · rintro ⟨a, b⟩
      have key : v = 0 ∧ f i = 0 := by
        by_cases c : v < f i
        · rw [if_pos c] at a
          rw [Int32.lt_iff_toInt_lt, a, z32] at c
          omega
        · rw [if_neg c] at a
          rw [Int32.lt_iff_toInt_lt, a, z32] at c
          exact ⟨a, Int32.toInt_inj.mp (by rw [z32]; omega)⟩
      refine ⟨key.1, fun j h1 h3 => ?_⟩
      by_cases e : j = i
      · rw [e]; exact key.2
      · exact b j (by omega) (by omega)
    · rintro ⟨a, b⟩
      refine ⟨?_, fun j h1 h3 => b j (by omega) (by omega)⟩
      rw [b i (Nat.le_refl i) (by omega), a]
      rfl
theorem m8_zero {f : Nat → Int32} (h : ∀ j, j < 8 → 0 ≤ (f j).toInt) : m8 f = 0 ↔ ∀ j, j < 8 → f j = 0 := by
  unfold m8
  rw [mL_zero 8 0 0 (by decide) fun j _ b => h j (by omega)]
  exact ⟨fun q j hj => q.2 j (Nat.zero_le j) (by omega), fun q => ⟨rfl, fun j _ b => q j (by omega)⟩⟩
theorem s8_zero {f : Nat → Int32} (h : ∀ j, j < 8 → 0 ≤ (f j).toInt) (hs : fb_si (fun p => (f p).toInt) 8 < 2147483648) : s8 f = 0 ↔ ∀ j, j < 8 → f j = 0 := by
  have e := s8_toInt h hs
  constructor
  · intro q j hj
    rw [q, z32] at e
    have := si_part (g := fun p => (f p).toInt) h hj
    have h0 := h j hj
    exact Int32.toInt_inj.mp (by rw [z32]; omega)
  · intro q
    have : s8 f = s8 (fun _ => 0) := s8_congr q
    rw [this]; decide
theorem mostWeeks_eq (hR : RG F H) : v_X0_mostLoanWeeks H = w_longest F := by
  rw [t_v_X0_mostLoanWeeks, t_w_longest]
  exact m8_congr fun j hj => hR.h hj (by decide)
theorem bankDebts_eq (hR : RG F H) : v_X0_bankDebts H = w_sumOf F 10 := by
  rw [t_v_X0_bankDebts, show (10 : Int32) = nI 10 from rfl, t_w_sumOf (by decide)]
  exact s8_congr fun j hj => hR.h hj (by decide)
theorem mayCycle_eq (h : IR W F) (hR : RG F H) : v_X0_mayBeginCycle H = w_mayCycle F := by
  unfold v_X0_mayBeginCycle w_mayCycle
  rw [nm_eq, nm_eq, nm_eq, nm_eq, mostWeeks_eq hR, bankDebts_eq hR, t_w_longest, show (4 : Int32) = nI 4 from rfl, t_w_sumOf (by decide)]
  have hb : fb_si (fun p => (F (13 + 14 * p + 4)).toInt) 8 ≤ 416 := by
    have := si_le (g := fun p => (F (13 + 14 * p + 4)).toInt) (h := fun _ => 52) 8 fun o ho => (h.2.1 o ho).2.1
    exact Int.le_trans this (by decide)
  have e1 := m8_zero (f := fun i => F (13 + 14 * i + 4)) fun o ho => (h.2.1 o ho).1
  have e2 := s8_zero (f := fun i => F (13 + 14 * i + 4)) (fun o ho => (h.2.1 o ho).1) (Int.lt_of_le_of_lt hb (by decide))
  by_cases c : m8 (fun i => F (13 + 14 * i + 4)) = 0
  · rw [if_pos c, if_pos (e2.mpr (e1.mp c))]
  · rw [if_neg c, if_neg (fun q => c (e1.mpr (e2.mp q)))]
theorem limit_eq (hm : m < 8) (e1 : H (13 + 14 * m + 1) = F (13 + 14 * m + 1)) (e8 : H (13 + 14 * m + 8) = F (13 + 14 * m + 8)) : v_X2_nextLimit H m = w_limitThen F (nI m) := by
  unfold v_X2_nextLimit w_limitThen w_least
  simp only [nm_eq, nof_1 hm, nof_8 hm]
  rw [e1, e8]
  generalize F (13 + 14 * m + 1) = l
  by_cases c : F (13 + 14 * m + 8) = 0
  · rw [if_pos c, if_pos c]
    by_cases c2 : 2000 < l + l / 2
    · rw [if_pos c2, if_neg (nle_of_lt c2)]
    · rw [if_neg c2, if_pos (fa_of_nlt c2)]
  · rw [if_neg c, if_neg c]
    by_cases c2 : F (13 + 14 * m + 8) < 3
    · rw [if_pos c2, if_neg (nle_of_lt c2)]
    · rw [if_neg c2, if_pos (fa_of_nlt c2)]
      by_cases c3 : l / 2 < 20
      · rw [if_pos c3, if_neg (nle_of_lt c3)]
      · rw [if_neg c3, if_pos (fa_of_nlt c3)]
theorem limit_rg (hR : RG F H) (hm : m < 8) (hh : F (13 + 14 * m + 0) = 1) : v_X2_nextLimit H m = w_limitThen F (nI m) :=
  limit_eq hm (hR.s hm (by decide) (Or.inl hh)) (hR.s hm (by decide) (Or.inl hh))
/-- rows that agree on all but limits and misses of members, and the number of the cycle -/
theorem IR.cgs {F' : vF} (h : IR W F) (e : ∀ j, j ≠ 1 → (∀ o, o < 8 → F (13 + 14 * o + 0) = 1 → j ≠ 13 + 14 * o + 1 ∧ j ≠ 13 + 14 * o + 8) → F' j = F j) : IR W F' := by
  have eg : ∀ j, j < 13 → j ≠ 1 → F' j = F j := fun j a b => e j b fun o _ _ => ⟨by omega, by omega⟩
  have ew : ∀ o w, w < 14 ∧ w ≠ 1 ∧ w ≠ 8 → F' (13 + 14 * o + w) = F (13 + 14 * o + w) := fun o w hw => e _ (by omega) fun _ _ _ => ⟨by omega, by omega⟩
  have ed : ∀ o p, F' (125 + 8 * o + p) = F (125 + 8 * o + p) := fun o p => e _ (by omega) fun _ _ _ => ⟨by omega, by omega⟩
  have en : ∀ o, o < 8 → F (13 + 14 * o + 0) = 0 → F' (13 + 14 * o + 1) = F (13 + 14 * o + 1) ∧ F' (13 + 14 * o + 8) = F (13 + 14 * o + 8) := fun o ho h0 =>
    ⟨e _ (by omega) fun o' ho' h1 => ⟨fun q => by
        have : o = o' := by omega
        subst this; exact absurd (h0.symm.trans h1) (by decide), by omega⟩,
     e _ (by omega) fun o' ho' h1 => ⟨by omega, fun q => by
        have : o = o' := by omega
        subst this; exact absurd (h0.symm.trans h1) (by decide)⟩⟩
  have z : ∀ w, w < 14 ∧ w ≠ 1 ∧ w ≠ 8 → Zs F' w = Zs F w := fun w hw => Zs_cg fun o _ => ew o w hw
  have zd : ∀ o, Zd F' o = Zd F o := fun o => Zd_cg fun p _ => ed o p
  have zl : Lc F' = Lc F := by
    unfold Lc
    exact fb_si_cong fun o _ => by rw [ew o 4 (by decide)]
  obtain ⟨h1, h2, h3, h4, h5, h6, h7, h8, h9, h10, h11, h12, h13, h14, h15⟩ := h
  refine ⟨?_, ?_, ?_, ?_, ?_, ?_, ?_, ?_, ?_, ?_, ?_, ?_, ?_, ?_, ?_⟩
  · intro o ho; rw [ew o 0 (by decide), ew o 7 (by decide)]; exact h1 o ho
  · intro o ho; exact (h2 o ho).cg fun w a b => ew o w (by omega)
  · intro o ho
    unfold DMm
    simp only [ed]
    rw [ew o 10 (by decide), ew o 11 (by decide)]; exact h3 o ho
  · rw [eg 0 (by decide) (by decide)]; exact h4
  · rw [eg 2 (by decide) (by decide)]; exact h5
  · rw [eg 3 (by decide) (by decide)]; exact h6
  · rw [eg 4 (by decide) (by decide), eg 5 (by decide) (by decide), eg 6 (by decide) (by decide), eg 7 (by decide) (by decide)]; exact h7
  · rw [eg 8 (by decide) (by decide), eg 0 (by decide) (by decide), z 11 (by decide)]; exact h8
  · rw [eg 9 (by decide) (by decide), eg 10 (by decide) (by decide), eg 11 (by decide) (by decide), z 3 (by decide), z 10 (by decide)]; exact h9
  · rw [eg 11 (by decide) (by decide)]; exact h10
  · rw [eg 9 (by decide) (by decide), eg 0 (by decide) (by decide), zl]; exact h11
  · rw [eg 10 (by decide) (by decide), eg 0 (by decide) (by decide)]; exact h12
  · intro o ho; rw [zd o, eg 0 (by decide) (by decide), ew o 12 (by decide)]; exact h13 o ho
  · intro o ho q
    rw [ew o 0 (by decide)] at q
    rw [ew o 4 (by decide)]; exact h14 o ho q
  · intro o ho q
    rw [eg 3 (by decide) (by decide)] at q
    have := h15 o ho q
    rw [ew o 0 (by decide), (en o ho this.1).1, (en o ho this.1).2]
    exact this
theorem cycle_loop (h : IR W F) : ∀ (n i : Nat) (G : vG) (H : vF), i + n = 8 → RG G.1 H → (∀ j, (∀ o, o < 8 → F (13 + 14 * o + 0) = 1 → j ≠ 13 + 14 * o + 1 ∧ j ≠ 13 + 14 * o + 8) → G.1 j = F j) →
    ∃ G', w_cycles_L2 (n + 1) G i = (F 1 + 1, G') ∧ RG G'.1 (v_X0_beginCycle_L10 (n + 1) H i) ∧ (∀ j, j ≠ 1 → (∀ o, o < 8 → F (13 + 14 * o + 0) = 1 → j ≠ 13 + 14 * o + 1 ∧ j ≠ 13 + 14 * o + 8) → G'.1 j = F j) ∧ v_X0_beginCycle_L10 (n + 1) H i 1 = F 1 + 1 ∧ G'.2 = G.2 := by
  intro n
  induction n with
  | zero =>
    intro i G H hi hR hE
    obtain rfl : i = 8 := by omega
    rw [w_cycles_L2.eq_2, if_pos le8, v_X0_beginCycle_L10.eq_2, if_pos le8]
    have e1 : G.1 1 = F 1 := hE 1 fun o _ _ => ⟨by omega, by omega⟩
    simp only [nm_eq, upq_1, upd_same, e1]
    refine ⟨_, rfl, ?_, ?_, ?_, rfl⟩
    · refine RG.up hR ?_ ?_ ?_
      · rw [hR.g (by decide), e1]
      · omega
      · intro o ho; omega
    · intro j hj he
      rw [upq_1, upd_ne hj]
      exact hE j he
    · rw [hR.g (by decide), e1]
  | succ n ih =>
    intro i G H hi hR hE
    have hi8 : i < 8 := by omega
    have e0 : G.1 (13 + 14 * i + 0) = F (13 + 14 * i + 0) := hE _ fun o _ _ => ⟨by omega, by omega⟩
    rw [w_cycles_L2.eq_2, if_neg (ge8 hi8), nm_eq, nof_0 hi8, v_X0_beginCycle_L10.eq_2, if_neg (ge8 hi8)]
    by_cases c : G.1 (13 + 14 * i + 0) = 1
    · rw [if_pos c]
      simp only [nm_eq]
      rw [limit_rg hR hi8 c]
      generalize w_limitThen G.1 (nI i) = l
      have hR1 : RG (upq (upq G (13 + 14 * i + 1) l) (13 + 14 * i + 8) 0).1 (upd (upd H (13 + 14 * i + 1) l) (13 + 14 * i + 8) 0) := by
        refine RG.up (RG.up hR rfl ?_ ?_) rfl ?_ ?_
        all_goals first | omega | (intro o ho; omega)
      obtain ⟨G', p1, p2, p3, p4, p5⟩ := ih (i + 1) _ _ (by omega) hR1 (by
        intro j hj
        have := hj i hi8 (by rw [← e0]; exact c)
        rw [upq_1, upd_ne this.2, upq_1, upd_ne this.1]
        exact hE j hj)
      exact ⟨G', p1, p2, p3, p4, p5⟩
    · rw [if_neg c]
      simp only [nm_eq]
      have c0 : F (13 + 14 * i + 0) = 0 := by
        rw [e0] at c
        exact ((h.1 i hi8).1).resolve_right c
      have hR1 : RG G.1 (upd (upd H (13 + 14 * i + 1) (v_X2_nextLimit H i)) (13 + 14 * i + 8) 0) := by
        by_cases q : hrF G.1 i
        · have e3 : G.1 3 = F 3 := hE 3 fun o _ _ => ⟨by omega, by omega⟩
          have q2 : (F 3).toInt ≤ (i : Int) := by
            rcases q with q | q
            · exact absurd q c
            · rw [e3] at q; exact q
          have q3 := h.2.2.2.2.2.2.2.2.2.2.2.2.2.2 i hi8 q2
          have hE1 : G.1 (13 + 14 * i + 1) = 0 := (hE _ fun o _ ho => ⟨fun z => by
            have : i = o := by omega
            subst this; exact absurd (c0.symm.trans ho) (by decide), by omega⟩).trans q3.2.1
          have hE8 : G.1 (13 + 14 * i + 8) = 0 := (hE _ fun o _ ho => ⟨by omega, fun z => by
            have : i = o := by omega
            subst this; exact absurd (c0.symm.trans ho) (by decide)⟩).trans q3.2.2
          have f1 := hR.s hi8 (w := 1) (by decide) q
          have f8 := hR.s hi8 (w := 8) (by decide) q
          have hl : v_X2_nextLimit H i = 0 := by
            unfold v_X2_nextLimit
            rw [f1, f8, hE1, hE8]
            decide
          rw [hl]
          have s1 : upd H (13 + 14 * i + 1) 0 = H := fa_upd_same (f1.trans hE1)
          rw [s1, fa_upd_same (f8.trans hE8)]
          exact hR
        · have n1 : ¬ okA (hrF G.1) (13 + 14 * i + 1) := fun z => q (by
            have := z.2.2 ⟨by omega, by omega, Or.inl (by omega)⟩
            rw [show (13 + 14 * i + 1 - 13) / 14 = i by omega] at this
            exact this)
          have n8 : ¬ okA (hrF G.1) (13 + 14 * i + 8) := fun z => q (by
            have := z.2.2 ⟨by omega, by omega, Or.inr (Or.inl (by omega))⟩
            rw [show (13 + 14 * i + 8 - 13) / 14 = i by omega] at this
            exact this)
          exact ⟨(hR.1.right n1).right n8, by rw [upd_ne (by omega), upd_ne (by omega)]; exact hR.2⟩
      exact ih (i + 1) _ _ (by omega) hR1 hE
theorem cycle_thm (h : IR W F) (hR : RG F H) (hG : G.1 = F) :
    ∃ r G', w_cycles G = (r, G') ∧ v_X0_beginCycle H 1 = r ∧ RG G'.1 (v_X0_beginCycle H) ∧ IR W G'.1 ∧ G'.2 = G.2 := by
  subst hG
  obtain ⟨G', p1, p2, p3, p4, p5⟩ := cycle_loop h 8 0 G H rfl hR fun _ _ => rfl
  exact ⟨_, G', p1, p4, p2, h.cgs p3, p5⟩
end CYCLES
