section ENDSR
variable {F H : vF} {G : vG} {hr : Nat → Prop} {m k i n : Nat} {x y v : Int32} {B : Nat → Int32}
theorem si_mono {g : Nat → Int} {a : Nat} : ∀ n, (∀ p, a ≤ p → p < a + n → 0 ≤ g p) → fb_si g a ≤ fb_si g (a + n) := by
  intro n
  induction n with
  | zero => intro h; exact Int.le_refl _
  | succ n ih =>
    intro h
    have h1 := ih fun p h1 h2 => h p h1 (by omega)
    have h2 := h (a + n) (by omega) (by omega)
    rw [← Nat.add_assoc, fb_si_succ]
    omega
theorem si_nonneg {g : Nat → Int} {n : Nat} (h : ∀ p, p < n → 0 ≤ g p) : 0 ≤ fb_si g n := by
  have := si_mono (g := g) (a := 0) n fun p _ h2 => h p (by omega)
  rw [Nat.zero_add] at this
  exact this
theorem sL_toInt {f : Nat → Int32} : ∀ (n i : Nat) (v : Int32), v.toInt = fb_si (fun p => (f p).toInt) i → (∀ p, p < i + n → 0 ≤ (f p).toInt) → fb_si (fun p => (f p).toInt) (i + n) < 2147483648 → (sL n f i v).toInt = fb_si (fun p => (f p).toInt) (i + n) := by
  intro n
  induction n with
  | zero => intro i v h1 h2 h3; exact h1
  | succ n ih =>
    intro i v h1 h2 h3
    have hb := si_mono (g := fun p => (f p).toInt) (a := i + 1) n fun p _ h => h2 p (by omega)
    have h0 := si_nonneg (g := fun p => (f p).toInt) (n := i) fun p h => h2 p (by omega)
    have hi := h2 i (by omega)
    rw [fb_si_succ] at hb
    rw [show i + 1 + n = i + (n + 1) by omega] at hb
    have e : (v + f i).toInt = fb_si (fun p => (f p).toInt) (i + 1) := by
      rw [fb_si_succ, fb_addI (by omega) (by omega), h1]
    have := ih (i + 1) (v + f i) e (fun p h => h2 p (by omega)) (by rw [show i + 1 + n = i + (n + 1) by omega]; exact h3)
    rw [show i + 1 + n = i + (n + 1) by omega] at this
    exact this
theorem s8_toInt {f : Nat → Int32} (h : ∀ p, p < 8 → 0 ≤ (f p).toInt) (h2 : fb_si (fun p => (f p).toInt) 8 < 2147483648) : (s8 f).toInt = fb_si (fun p => (f p).toInt) 8 :=
  sL_toInt 8 0 0 rfl h h2
/-- debts are not below 0, and small -/
def NDm (F : vF) (o : Nat) : Prop := 0 ≤ (F (13 + 14 * o + 10)).toInt ∧ 0 ≤ (F (13 + 14 * o + 11)).toInt ∧ (∀ p, p < 8 → 0 ≤ (F (125 + 8 * o + p)).toInt) ∧ (F (13 + 14 * o + 10)).toInt + (F (13 + 14 * o + 11)).toInt + fb_si (fun p => (F (125 + 8 * o + p)).toInt) 8 < 2147483648
def ND (F : vF) : Prop := ∀ o, o < 8 → NDm F o
theorem z32 : (0 : Int32).toInt = 0 := by decide
theorem n_debts (hm : m < 8) (h : NDm F m) : (w_debts F (nI m)).toInt = (F (13 + 14 * m + 10)).toInt + (F (13 + 14 * m + 11)).toInt + fb_si (fun p => (F (125 + 8 * m + p)).toInt) 8 := by
  obtain ⟨h1, h2, h3, h4⟩ := h
  have h0 := si_nonneg (g := fun p => (F (125 + 8 * m + p)).toInt) (n := 8) h3
  unfold w_debts
  simp only [nm_eq, nof_10 hm, nof_11 hm, t_w_toOthers hm]
  have e := s8_toInt (f := fun p => F (125 + 8 * m + p)) h3 (by omega)
  rw [fb_addI (by rw [e, fb_addI (by omega) (by omega)]; omega) (by rw [e, fb_addI (by omega) (by omega)]; omega), e, fb_addI (by omega) (by omega)]
theorem hasDebts_iff (hm : m < 8) (h : NDm F m) (e10 : H (13 + 14 * m + 10) = F (13 + 14 * m + 10)) (e11 : H (13 + 14 * m + 11) = F (13 + 14 * m + 11)) (ed : ∀ p, p < 8 → H (125 + 8 * m + p) = F (125 + 8 * m + p)) : v_X2_hasDebts H m = 0 ↔ w_debts F (nI m) = 0 := by
  have hn := n_debts hm h
  obtain ⟨h1, h2, h3, h4⟩ := h
  have h0 := si_nonneg (g := fun p => (F (125 + 8 * m + p)).toInt) (n := 8) h3
  have e := s8_toInt (f := fun p => F (125 + 8 * m + p)) h3 (by omega)
  have ec : s8 (fun o => H (125 + 8 * m + o)) = s8 (fun o => F (125 + 8 * m + o)) := s8_congr ed
  rw [← Int32.toInt_inj (x := w_debts F (nI m)), hn, z32]
  unfold v_X2_hasDebts
  rw [nm_eq, t_v_X2_debtToMembers, e10, e11, ec]
  by_cases c1 : 0 < F (13 + 14 * m + 10)
  · rw [if_pos c1]
    rw [Int32.lt_iff_toInt_lt, z32] at c1
    constructor
    · intro q; exact absurd q (by decide)
    · intro q; omega
  · rw [if_neg c1]
    rw [Int32.lt_iff_toInt_lt, z32] at c1
    by_cases c2 : 0 < F (13 + 14 * m + 11)
    · rw [if_pos c2]
      rw [Int32.lt_iff_toInt_lt, z32] at c2
      constructor
      · intro q; exact absurd q (by decide)
      · intro q; omega
    · rw [if_neg c2]
      rw [Int32.lt_iff_toInt_lt, z32] at c2
      by_cases c3 : s8 (fun o => F (125 + 8 * m + o)) ≤ 0
      · rw [if_pos c3]
        rw [Int32.le_iff_toInt_le, z32, e] at c3
        constructor
        · intro _; omega
        · intro _; rfl
      · rw [if_neg c3]
        rw [Int32.le_iff_toInt_le, z32, e] at c3
        constructor
        · intro q; exact absurd q (by decide)
        · intro q; omega
theorem fm_rem (h : ¬ x < 0) : fmW x 8 = x - x / 8 * 8 := by
  unfold fmW x_J9_floorMod_7cf53
  rw [nm_eq, if_pos]
  rw [xor_neg]
  exact ⟨fun q => absurd q h, fun q => absurd q (by decide)⟩
theorem chair_nneg (h : chairOK x) (h1 : 1 ≤ n) (h2 : n < 9) : ¬ x + nI n < 0 := by
  rcases h with rfl | h
  · obtain ⟨i, rfl⟩ : ∃ i, n = i + 1 := ⟨n - 1, by omega⟩
    have e : (-1 : Int32) + nI (i + 1) = nI i := by
      rw [Int32.add_comm, pk_m1]
    rw [e]
    exact nI_pos (by omega)
  · obtain ⟨j, hj, rfl⟩ := vp_in_of h (by decide)
    rw [nI_add]
    exact nI_pos (by omega)
/-- the next chair on both sides -/
theorem next_eq {F H : vF} {c : Int32} (hc : chairOK c) (e2 : H 2 = c) (hh : ∀ o, o < 8 → (bz (H (13 + 14 * o + 0)) = 0 ↔ ¬ F (13 + 14 * o + 0) = 1)) (hd : ∀ o, o < 8 → F (13 + 14 * o + 0) = 1 → (v_X2_hasDebts H o = 0 ↔ w_debts F (nI o) = 0)) : v_X0_nextChair H = w_nextChair F c := by
  have key : ∀ n i, i + n = 10 → 1 ≤ i → v_X0_nextChair_L2 n H i = w_nextChair_L2 n F c i := by
    intro n
    induction n with
    | zero => intro i _ _; rfl
    | succ n ih =>
      intro i hi h1
      rw [v_X0_nextChair_L2.eq_2, w_nextChair_L2.eq_2]
      by_cases c1 : 8 < nI i
      · rw [if_pos c1, if_pos c1]
      · rw [if_neg c1, if_neg c1]
        have hi9 : i < 9 := nI_of_nlt (a := i) (b := 8) (by decide) c1 (by omega)
        rw [nm_eq, nm_eq, e2, fm_rem (chair_nneg hc h1 hi9)]
        obtain ⟨j, hj, ej⟩ := vp_in_of (rem8 hc h1 hi9) (by decide)
        rw [ej, nm_eq, nof_0 hj, find_nI hj, ih (i + 1) (by omega) (by omega)]
        by_cases c2 : F (13 + 14 * j + 0) = 1
        · rw [if_pos c2, if_neg (fun q => (hh j hj).mp q c2), oc_s, nm_eq, nm_eq]
          by_cases c3 : w_debts F (nI j) = 0
          · rw [if_pos c3, if_pos ((hd j hj c2).mpr c3)]
          · rw [if_neg c3, if_neg (fun q => c3 ((hd j hj c2).mp q))]
        · rw [if_neg c2, if_pos ((hh j hj).mpr c2), oc_n]
  exact key 9 1 rfl (Nat.le_refl 1)
theorem SR.book (h : SR hr B G H v) : SR hr B (upq G 11 (G.1 11 + v)) H 0 := by
  refine ⟨h.1.left okA_11, ?_, ?_, ?_, ?_⟩
  · rw [upq_1, upd_same, Int32.add_zero]; exact h.2.1
  · intro o ho; rw [upq_2]; exact h.2.2.1 o ho
  · intro o ho; rw [upq_1, upd_ne (by omega)]; exact h.2.2.2.1 o ho
  · intro o ho; rw [upq_1, upd_ne (by omega)]; exact h.2.2.2.2 o ho
def wSave (G : vG) (i : Nat) : vG := if G.1 (13 + 14 * i + 0) = 1 then (if G.1 (13 + 14 * i + 7) = 0 then upq (upq G 8 (G.1 8 + G.1 5)) (13 + 14 * i + 12) (G.1 (13 + 14 * i + 12) + G.1 5) else G) else G
def vSave (H : vF) (i : Nat) : vF := if bz (H (13 + 14 * i + 0)) = 0 then H else if bz (H (13 + 14 * i + 7)) = 0 then upd (upd H (13 + 14 * i + 12) (H (13 + 14 * i + 12) + H 5)) 8 (H 8 + H 5) else H
def itWS : Nat → vG → Nat → vG
  | 0, G, _ => G
  | n + 1, G, i => itWS n (wSave G i) (i + 1)
def itVS : Nat → vF → Nat → vF
  | 0, H, _ => H
  | n + 1, H, i => itVS n (vSave H i) (i + 1)
theorem n_save_v : ∀ (n i : Nat) (H : vF), i + n = 8 → v_X0_saveMoney_L10 (n + 1) H i = itVS n H i := by
  intro n
  induction n with
  | zero =>
    intro i H h
    obtain rfl : i = 8 := by omega
    rw [v_X0_saveMoney_L10.eq_2, if_pos le8]
    rfl
  | succ n ih =>
    intro i H h
    rw [v_X0_saveMoney_L10.eq_2, if_neg (ge8 (by omega))]
    show _ = itVS n (vSave H i) (i + 1)
    unfold vSave
    by_cases c1 : bz (H (13 + 14 * i + 0)) = 0
    · rw [if_pos c1, if_pos c1]; exact ih _ _ (by omega)
    · rw [if_neg c1, if_neg c1]
      by_cases c2 : bz (H (13 + 14 * i + 7)) = 0
      · rw [if_pos c2, if_pos c2, nm_eq, nm_eq]
        simp (disch := omega) only [upd_ne]
        exact ih _ _ (by omega)
      · rw [if_neg c2, if_neg c2]; exact ih _ _ (by omega)
/-- the end of a week, behind the savings -/
def wEnd (G : vG) : vG := upq (if ((G.1 0 + 1) - (G.1 0 + 1) / G.1 6 * G.1 6) = 0 then upq G 2 (w_nextChair G.1 (G.1 2)) else G) 0 (G.1 0 + 1)
def vEnd (H : vF) : vF := nm (upd H 0 (H 0 + 1)) (fun H1 => if H 6 ≤ 0 then H1 else if ((H 0 + 1) - (H 0 + 1) / H 6 * H 6) = 0 then upd H1 2 (v_X0_nextChair H1) else H1)
theorem n_save_w : ∀ (n i : Nat) (G : vG), i + n = 8 → w_ends_L145 (n + 1) G i v = w_ends_L229 9 (wEnd (itWS n G i)) 0 v := by
  intro n
  induction n with
  | zero =>
    intro i G h
    obtain rfl : i = 8 := by omega
    rw [w_ends_L145.eq_2, if_pos le8]
    show _ = w_ends_L229 9 (wEnd G) 0 v
    unfold wEnd
    by_cases c : ((G.1 0 + 1) - (G.1 0 + 1) / G.1 6 * G.1 6) = 0
    · rw [if_pos c, if_pos c, nm_eq, nm_eq, nm_eq]
      simp (disch := omega) only [upq_1, upd_ne]
    · rw [if_neg c, if_neg c, nm_eq]
  | succ n ih =>
    intro i G h
    have hi : i < 8 := by omega
    rw [w_ends_L145.eq_2, if_neg (ge8 hi), nm_eq, nof_0 hi]
    show _ = w_ends_L229 9 (wEnd (itWS n (wSave G i) (i + 1))) 0 v
    unfold wSave
    by_cases c1 : G.1 (13 + 14 * i + 0) = 1
    · rw [if_pos c1, if_pos c1, nm_eq, nof_7 hi]
      by_cases c2 : G.1 (13 + 14 * i + 7) = 0
      · rw [if_pos c2, if_pos c2, nm_eq, nm_eq, nad_12 hi]
        simp (disch := omega) only [upq_1, upd_ne]
        exact ih _ _ (by omega)
      · rw [if_neg c2, if_neg c2]; exact ih _ _ (by omega)
    · rw [if_neg c1, if_neg c1]; exact ih _ _ (by omega)
theorem sr_save (hi : i < 8) (hS : SR hr B G H v) : SR hr B (wSave G i) (vSave H i) v := by
  unfold wSave vSave
  by_cases c1 : G.1 (13 + 14 * i + 0) = 1
  · rw [if_pos c1, if_neg (fun q => (hS.here hi).mp q c1)]
    have e7 := hS.s hi (w := 7) (by decide) c1
    have e12 := hS.s hi (w := 12) (by decide) c1
    have g5 := hS.g (j := 5) (by decide) (by decide)
    have g8 := hS.g (j := 8) (by decide) (by decide)
    by_cases c2 : G.1 (13 + 14 * i + 7) = 0
    · rw [if_pos c2, if_pos (bz_iff.mpr (e7.trans c2))]
      rw [show upd (upd H (13 + 14 * i + 12) (H (13 + 14 * i + 12) + H 5)) 8 (H 8 + H 5) = upd (upd H 8 (H 8 + H 5)) (13 + 14 * i + 12) (H (13 + 14 * i + 12) + H 5) from fa_upd_swap _ (by omega) _ _]
      refine SR.up (SR.up hS (by rw [g5, g8]) ?_ ?_ ?_) (by rw [e12, g5]) ?_ ?_ ?_
      all_goals first | omega | (intro o ho; omega)
    · rw [if_neg c2, if_neg (fun q => c2 (e7.symm.trans (bz_iff.mp q)))]
      exact hS
  · rw [if_neg c1, if_pos ((hS.here hi).mpr c1)]
    exact hS
theorem sr_itS : ∀ (n i : Nat) (G : vG) (H : vF), i + n = 8 → SR hr B G H v → SR hr B (itWS n G i) (itVS n H i) v := by
  intro n
  induction n with
  | zero => intro i G H h hS; exact hS
  | succ n ih => intro i G H h hS; exact ih (i + 1) _ _ (by omega) (sr_save (by omega) hS)
theorem sr_end (hS : SR hr B G H v) (h6 : ¬ G.1 6 ≤ 0) (hc : chairOK (G.1 2)) (hN : ND G.1) : SR hr B (wEnd G) (vEnd H) v := by
  unfold wEnd vEnd
  have g0 := hS.g (j := 0) (by decide) (by decide)
  have g2 := hS.g (j := 2) (by decide) (by decide)
  have g6 := hS.g (j := 6) (by decide) (by decide)
  rw [nm_eq, g6, if_neg h6, g0]
  by_cases c : ((G.1 0 + 1) - (G.1 0 + 1) / G.1 6 * G.1 6) = 0
  · rw [if_pos c, if_pos c]
    have e : v_X0_nextChair (upd H 0 (G.1 0 + 1)) = w_nextChair G.1 (G.1 2) := by
      refine next_eq hc (by rw [upd_ne (by decide)]; exact g2) ?_ ?_
      · intro o ho
        rw [upd_ne (by omega)]
        exact hS.here ho
      · intro o ho c1
        refine hasDebts_iff ho (hN o ho) ?_ ?_ ?_
        · rw [upd_ne (by omega)]; exact hS.h ho (by decide)
        · rw [upd_ne (by omega)]; exact hS.h ho (by decide)
        · intro p hp; rw [upd_ne (by omega)]; exact hS.d ho hp
    rw [e, show upd (upd H 0 (G.1 0 + 1)) 2 (w_nextChair G.1 (G.1 2)) = upd (upd H 2 (w_nextChair G.1 (G.1 2))) 0 (G.1 0 + 1) from fa_upd_swap _ (by omega) _ _]
    refine SR.up (SR.up hS rfl ?_ ?_ ?_) rfl ?_ ?_ ?_
    all_goals first | omega | (intro o ho; omega)
  · rw [if_neg c, if_neg c]
    refine SR.up hS rfl ?_ ?_ ?_
    all_goals first | omega | (intro o ho; omega)
def itZ : Nat → vG → Nat → vG
  | 0, G, _ => G
  | n + 1, G, i => itZ n (upq G (13 + 14 * i + 7) 0) (i + 1)
def itVZ : Nat → vF → Nat → vF
  | 0, H, _ => H
  | n + 1, H, i => itVZ n (upd H (13 + 14 * i + 7) 0) (i + 1)
theorem n_zero_w : ∀ (n i : Nat) (G : vG), i + n = 8 → w_ends_L229 (n + 1) G i v = (v, itZ n G i) := by
  intro n
  induction n with
  | zero =>
    intro i G h
    obtain rfl : i = 8 := by omega
    rw [w_ends_L229.eq_2, if_pos le8]
    rfl
  | succ n ih =>
    intro i G h
    rw [w_ends_L229.eq_2, if_neg (ge8 (by omega)), nm_eq]
    exact ih _ _ (by omega)
theorem zero_bit : ∀ j, j < 8 → ¬ (((0 : Int32) >>> ((nI j) &&& 31)) &&& 1) = 1 := by decide
theorem n_zero_v : ∀ (n i : Nat) (H : vF), i + n = 8 → v_X0_letBeAway_L2 (n + 1) H 0 i = itVZ n H i := by
  intro n
  induction n with
  | zero =>
    intro i G h
    obtain rfl : i = 8 := by omega
    rw [v_X0_letBeAway_L2.eq_2, if_pos le8]
    rfl
  | succ n ih =>
    intro i G h
    rw [v_X0_letBeAway_L2.eq_2, if_neg (ge8 (by omega)), if_neg (zero_bit i (by omega)), nm_eq]
    exact ih _ _ (by omega)
theorem sr_zero : ∀ (n i : Nat) (G : vG) (H : vF), i + n = 8 → SR hr B G H v → SR hr B (itZ n G i) (itVZ n H i) v := by
  intro n
  induction n with
  | zero => intro i G H h hS; exact hS
  | succ n ih =>
    intro i G H h hS
    refine ih (i + 1) _ _ (by omega) (SR.up hS rfl ?_ ?_ ?_)
    all_goals first | omega | (intro o ho; omega)
theorem n_shares : ∀ (n i : Nat) (G : vG), i + n = 8 → (∀ o, o < i → G.2.1 o = 0) → ∃ Sh : Nat → Int32, (∀ o, o < 8 → Sh o = 0) ∧ w_ends_L9 (n + 1) G i = w_ends_L30 9 (G.1, Sh, G.2.2) 0 0 := by
  intro n
  induction n with
  | zero =>
    intro i G h hz
    obtain rfl : i = 8 := by omega
    rw [w_ends_L9.eq_2, if_pos le8]
    exact ⟨G.2.1, hz, rfl⟩
  | succ n ih =>
    intro i G h hz
    rw [w_ends_L9.eq_2, if_neg (ge8 (by omega)), nm_eq]
    have := ih (i + 1) (up6 G i 0) (by omega) (fun o ho => by
      rw [up6_2, upd_at]
      by_cases c : o = i
      · rw [if_pos c]
      · rw [if_neg c]; exact hz o (by omega))
    exact this
theorem n_endWeek_it : ∀ (n i : Nat) (H : vF), i + n = 8 → v_X0_endWeek_L10 (n + 1) H i = itVZ 8 (vEnd (itVS 8 (itV n H i) 0)) 0 := by
  intro n
  induction n with
  | zero =>
    intro i H h
    obtain rfl : i = 8 := by omega
    rw [v_X0_endWeek_L10.eq_2, if_pos le8, nm_eq]
    unfold v_X0_saveMoney
    rw [n_save_v 8 0 _ rfl, nm_eq]
    show _ = itVZ 8 (vEnd (itVS 8 H 0)) 0
    generalize itVS 8 H 0 = H1
    unfold vEnd
    simp (disch := omega) only [upd_ne, upd_same, nm_eq]
    unfold v_X0_letBeAway
    by_cases c1 : H1 6 ≤ 0
    · rw [if_pos c1, if_pos c1, n_zero_v 8 0 _ rfl]
    · rw [if_neg c1, if_neg c1]
      by_cases c2 : ((H1 0 + 1) - (H1 0 + 1) / H1 6 * H1 6) = 0
      · rw [if_pos c2, if_pos c2, n_zero_v 8 0 _ rfl]
      · rw [if_neg c2, if_neg c2, n_zero_v 8 0 _ rfl]
  | succ n ih =>
    intro i H h
    rw [n_endWeek_L10 (by omega), ih _ _ (by omega)]
    rfl
/-- the model's week, cut at its stages -/
theorem ends_cut (G : vG) : ∃ Sh : Nat → Int32, (∀ o, o < 8 → Sh o = 0) ∧ w_ends G = ((itS 8 (G.1, Sh, 0) 0 0).1, itZ 8 (wEnd (itWS 8 (upq (itS 8 (G.1, Sh, 0) 0 0).2 11 ((itS 8 (G.1, Sh, 0) 0 0).2.1 11 + (itS 8 (G.1, Sh, 0) 0 0).1)) 0)) 0) := by
  obtain ⟨Sh, h1, h2⟩ := n_shares 8 0 (upu G 0) rfl (fun o ho => absurd ho (by omega))
  rw [upu_1, upu_3] at h2
  refine ⟨Sh, h1, ?_⟩
  unfold w_ends
  rw [nm_eq, h2, n_ends_it 8 0 _ _ rfl, n_save_w 8 0 _ rfl, n_zero_w 8 0 _ rfl]
end ENDSR
