section LASTS
variable {F H : vF} {G G' : vG} {m k i n p w g o : Nat} {x y v v' u q : Int32} {W B : Int} {T : vS} {hb : Nat → Bool} {s5 : Int32}
def cpT (T : vS) (f : vF) : vF := fun j => if j < 189 then T 1 j else f j
theorem tries_loop : ∀ (n i : Nat) (G : vG), i + n = 189 → (∀ j, j < i → G.1 j = T 1 j) → x_X5_tries_L2 (n + 1) (emm T 2 G) i = emm T 2 (cpT T G.1, G.2) := by
  intro n
  induction n with
  | zero =>
    intro i G h hj
    obtain rfl : i = 189 := by omega
    rw [x_X5_tries_L2.eq_2, if_pos (by decide)]
    have : cpT T G.1 = G.1 := by
      funext j
      unfold cpT
      by_cases c : j < 189
      · rw [if_pos c, hj j c]
      · rw [if_neg c]
    rw [this]
  | succ n ih =>
    intro i G h hj
    have c : ¬ (189 : Int32) ≤ nI i := fun q => absurd (nI_of_le (a := 189) (b := i) (by omega) q (by decide)) (by omega)
    rw [x_X5_tries_L2.eq_2, if_neg c, nm_eq, es_q, em_out (by decide) (by decide) (by omega)]
    rw [ih (i + 1) _ (by omega) (fun j h => by
      rw [upq_1, upd_at]
      by_cases c : j = i
      · rw [if_pos c, c]
      · rw [if_neg c]; exact hj j (by omega))]
    have : cpT T (upq G i (T 1 i)).1 = cpT T G.1 := by
      funext j
      unfold cpT
      by_cases c : j < 189
      · rw [if_pos c, if_pos c]
      · rw [if_neg c, if_neg c, upq_1, upd_ne (by omega)]
    rw [this, upq_2]
theorem tries_eq : x_X5_tries (emm T 2 G) = emm T 2 (cpT T G.1, G.2) := tries_loop 189 0 G rfl fun j h => absurd h (Nat.not_lt_zero j)
theorem oth_ct (hm : m < 8) (h : hb m = true) : oth m hb + 1 = fb_ct hb 8 := by
  have e : (fun o => hb o && decide (o ≠ m)) = fun k => if k = m then false else hb k := by
    funext o
    by_cases c : o = m
    · subst c; simp
    · simp [c]
  have := fb_ct_upd hb false hm
  unfold oth
  rw [e]
  rw [if_pos h] at this
  simpa using this
theorem members_ct (h : IR W F) : w_members F = nI (fb_ct (fun o => decide (F (13 + 14 * o + 0) = 1)) 8) := by
  rw [t_w_members]
  have := sL_ct (f := fun i => F (13 + 14 * i + 0)) (p := fun o => decide (F (13 + 14 * o + 0) = 1)) 8 0 (fun j _ hj => by
    rcases (h.1 j (by omega)).1 with e | e
    · rw [e]; decide
    · rw [e]; decide)
  rw [Nat.zero_add] at this
  exact this
/-- from a row between calls to a row for trying -/
theorem PA_of (h : IR W F) (hW : W ≤ 999) (hm : m < 8) (hh : F (13 + 14 * m + 0) = 1) {F' : vF} (he : ∀ j, j < 189 → F' j = F j) : PA m (fun o => decide (F (13 + 14 * o + 0) = 1)) (F 5) 792000 F' := by
  obtain ⟨h1, h2, h3, h4, h5, h6, h7, h8, h9, h10, h11, h12, h13, h14, h15⟩ := h
  have hD := h3 m hm
  have a := si_part (g := fun o => (F (13 + 14 * o + 10)).toInt) (fun o ho => (h3 o ho).1) hm
  have b := si_part (g := fun o => (F (13 + 14 * o + 11)).toInt) (fun o ho => (h3 o ho).2.1) hm
  have c := (h13 m hm).1
  have z3 : 0 ≤ Zs F 3 := si_nonneg fun o ho => (h2 o ho).2.2.2.1
  have z11 : 0 ≤ Zs F 11 := si_nonneg fun o ho => (h3 o ho).2.1
  have a' : (F (13 + 14 * m + 10)).toInt ≤ Zs F 10 := a
  have b' : (F (13 + 14 * m + 11)).toInt ≤ Zs F 11 := b
  have L := (Lc_0 (F := F)).2
  have n10 := hD.1
  have n11 := hD.2.1
  have eZ : Zd F' m = Zd F m := Zd_cg fun p hp => he _ (by omega)
  have big : (F 8).toInt ≤ 792000 ∧ (F (13 + 14 * m + 10)).toInt ≤ 300000000 ∧ (F (13 + 14 * m + 11)).toInt ≤ 792000 ∧ Zd F m ≤ 300000000 := by
    clear a b h1 h2 h3 h5 h6 h7 h13 h14 h15 eZ hD
    generalize Zd F m = zd at *
    generalize Zs F 3 = y3 at *
    generalize Zs F 10 = y10 at *
    generalize Zs F 11 = y11 at *
    generalize Lc F = l at *
    exact ⟨by omega, by omega, by omega, by omega⟩
  refine ⟨?_, ?_, ?_, ?_, h7.2.1, ?_, ?_, ?_, ?_, ?_⟩
  · rw [he _ (by omega)]; exact hh
  · intro o ho; rw [he _ (by omega)]
  · exact (h2 m hm).cg fun w _ _ => he _ (by omega)
  · exact he 5 (by omega)
  · rw [he 8 (by omega)]; exact ⟨h8.1, big.1⟩
  · rw [he _ (by omega)]; exact ⟨hD.1, big.2.1⟩
  · rw [he _ (by omega)]; exact ⟨hD.2.1, big.2.2.1⟩
  · intro q hq; rw [he _ (by omega)]; exact hD.2.2 q hq
  · rw [eZ]; exact big.2.2.2
theorem shift_m (hm : m < 8) : (nI m) &&& 31 = (nI m) &&& 31 := rfl
theorem sh_toInt {f : Nat → Int32} (h : ∀ q, q < 8 → 0 ≤ (f q).toInt) (hz : Zq f ≤ 1000000) : (s8 f).toInt = Zq f := s8_toInt h (Int.lt_of_le_of_lt hz (by decide))
/-- one turn of the model's loop over weeks -/
theorem lasts_turn (hm : m < 8) (hP : PA m hb s5 B G.1) (hB : B ≤ 400000000) (hk : k ≤ 100) :
    ∃ G', ((w_due G.1 (nI m)).toInt ≤ (G.1 8).toInt → x_X5_lasts_L6 (n + 1) (emm T 2 G) (nI m) k = x_X5_lasts_L6 n (emm T 2 G') (nI m) (k + 1) ∧ PA m hb s5 (B + 2100) G'.1 ∧ (G'.1 8).toInt = (G.1 8).toInt - (w_due G.1 (nI m)).toInt + s5.toInt * (oth m hb : Int)) ∧
      ((G.1 8).toInt < (w_due G.1 (nI m)).toInt → x_X5_lasts_L6 (n + 1) (emm T 2 G) (nI m) k = (nI k, emm T 2 G')) ∧
      (G.1 (13 + 14 * m + 4) + -1 = 0 → G'.1 (13 + 14 * m + 4) = 0) ∧
      (¬ G.1 (13 + 14 * m + 4) ≤ 0 → ¬ G.1 (13 + 14 * m + 4) + -1 = 0 → G'.1 (13 + 14 * m + 4) = G.1 (13 + 14 * m + 4) + -1 ∧ G'.1 (13 + 14 * m + 3) = G.1 (13 + 14 * m + 3) + -(w_partOf G.1 (nI m)) ∧ G'.1 (13 + 14 * m + 5) = G.1 (13 + 14 * m + 5) ∧ G'.1 (13 + 14 * m + 6) = G.1 (13 + 14 * m + 6)) ∧
      (G.1 (13 + 14 * m + 4) = 0 → G'.1 (13 + 14 * m + 4) = 0) := by
  obtain ⟨r, G', e, s0, s1, s2, s3, s4, s5'⟩ := alone_week hm hP hB rfl
  have c : ¬ (100 : Int32) < nI k := nI_nlt (by omega) (by decide)
  have hE : x_X5_lasts_L6 (n + 1) (emm T 2 G) (nI m) k = (if bz (G'.2.2) = 0 then (if s8 G'.2.1 ≤ 0 then x_X5_lasts_L6 n (emm T 2 G') (nI m) (k + 1) else (nI k, emm T 2 G')) else (nI k, emm T 2 G')) := by
    rw [x_X5_lasts_L6.eq_2, if_neg c, f_endsWith, e, mpm_mk, nmp_eq]
    dsimp only
    have h6 : emm T 2 G' 6 = G'.2.1 := by funext j; exact em_6 (Or.inr rfl)
    have h13 : emm T 2 G' 0 13 = G'.2.2 := em_u (Or.inr rfl)
    simp only [nm_eq, shared_0, h6, h13]
  have hd := hP.2.2.1.due0 hm
  have hf := hP.2.2.2.2.2.1
  refine ⟨G', fun hle => ?_, fun hlt => ?_, s3, s4, s5'⟩
  · obtain ⟨a1, a2, a3, a4⟩ := s1 hle
    refine ⟨?_, a3, a4⟩
    rw [hE, if_pos a1, if_pos]
    rw [Int32.le_iff_toInt_le, z32, sh_toInt s0 (by rw [a2]; decide), a2]
    exact Int.le_refl 0
  · obtain ⟨a1, a2⟩ := s2 hlt
    rw [hE]
    by_cases c0 : oth m hb = 0
    · rw [if_neg (a1 c0).1]
    · by_cases c1 : bz G'.2.2 = 0
      · have z := a2 c0
        rw [if_pos c1, if_neg]
        generalize (w_due G.1 (nI m)).toInt = d at *
        rw [Int32.le_iff_toInt_le, z32, sh_toInt s0 (by rw [z]; omega), z]
        omega
      · rw [if_neg c1]
theorem lasts_none (hm : m < 8) : ∀ (n k : Nat) (G : vG) (B : Int), k + (n + 1) = 102 → PA m hb s5 B G.1 → B + 2100 * n ≤ 400000000 → G.1 (13 + 14 * m + 4) = 0 → ∃ G', x_X5_lasts_L6 (n + 1) (emm T 2 G) (nI m) k = (-1, emm T 2 G') := by
  intro n
  induction n with
  | zero =>
    intro k G B hk _ _ _
    obtain rfl : k = 101 := by omega
    exact ⟨G, by rw [x_X5_lasts_L6.eq_2, if_pos (by decide)]⟩
  | succ n ih =>
    intro k G B hk hP hB h0
    have d0 : (w_due G.1 (nI m)).toInt ≤ (G.1 8).toInt := by
      rw [n_due hm, if_pos h0, z32]
      exact hP.2.2.2.2.2.1.1
    obtain ⟨G', a, _, _, _, b⟩ := lasts_turn (T := T) (n := n + 1) hm hP (by omega) (show k ≤ 100 by omega)
    obtain ⟨a1, a2, _⟩ := a d0
    rw [a1]
    exact ih (k + 1) G' (B + 2100) (by omega) a2 (by omega) (b h0)
theorem lasts_loop (hm : m < 8) {w0 : Nat} {sav : Int32} (hw : w0 ≤ 52) (h4 : H (13 + 14 * m + 4) = nI w0) (hsv : sav.toInt = s5.toInt * (oth m hb : Int)) (hsb : sav.toInt ≤ 1000 ∧ 0 ≤ sav.toInt) : ∀ (j k n : Nat) (G : vG) (B : Int) (left ready : Int32), k + (n + 1) = 102 → k + j = w0 → PA m hb s5 B G.1 → B + 2100 * n ≤ 400000000 → G.1 (13 + 14 * m + 4) = nI j → (1 ≤ j → G.1 (13 + 14 * m + 5) = H (13 + 14 * m + 5) ∧ G.1 (13 + 14 * m + 6) = H (13 + 14 * m + 6) ∧ G.1 (13 + 14 * m + 3) = left) → G.1 8 = ready →
    ∃ G', x_X5_lasts_L6 (n + 1) (emm T 2 G) (nI m) k = (v_X0_weeksOfFund_L28 (j + 1) H m k sav left ready, emm T 2 G') := by
  intro j
  induction j with
  | zero =>
    intro k n G B left ready hk hj hP hB h0 _ _
    obtain ⟨G', e⟩ := lasts_none (T := T) hm n k G B hk hP hB h0
    refine ⟨G', ?_⟩
    rw [e, v_X0_weeksOfFund_L28.eq_2, h4, if_pos (nI_le (by omega) (by omega))]
  | succ j ih =>
    intro k n G B left ready hk hj hP hB hw4 hl hr
    obtain ⟨l5, l6, l3⟩ := hl (by omega)
    obtain ⟨n', rfl⟩ : ∃ n', n = n' + 1 := ⟨n - 1, by omega⟩
    obtain ⟨G', a, b, c0, c1, _⟩ := lasts_turn (T := T) (n := n' + 1) hm hP (by omega) (show k ≤ 100 by omega)
    have hd := hP.2.2.1.due0 hm
    have hf := hP.2.2.2.2.2.1
    have wpos : ¬ G.1 (13 + 14 * m + 4) ≤ 0 := by rw [hw4]; exact nI_nle (by omega) (by omega)
    have wne : ¬ G.1 (13 + 14 * m + 4) = 0 := fun q => wpos (by rw [q]; decide)
    rw [v_X0_weeksOfFund_L28.eq_2, h4, if_neg (nI_ge (by omega) (by omega))]
    have epred : nI w0 - 1 = nI (w0 - 1) := by
      obtain ⟨t, rfl⟩ : ∃ t, w0 = t + 1 := ⟨w0 - 1, by omega⟩
      rw [nI_pred]
      rfl
    rw [epred]
    have key : ∀ (x65 left' : Int32), w_due G.1 (nI m) = x65 → (1 ≤ j → G'.1 (13 + 14 * m + 5) = H (13 + 14 * m + 5) ∧ G'.1 (13 + 14 * m + 6) = H (13 + 14 * m + 6) ∧ G'.1 (13 + 14 * m + 3) = left') → G'.1 (13 + 14 * m + 4) = nI j →
        ∃ G', x_X5_lasts_L6 (n' + 1 + 1) (emm T 2 G) (nI m) k = ((if x65 ≤ ready then v_X0_weeksOfFund_L28 (j + 1) H m (k + 1) sav left' (ready + (sav - x65)) else nI k), emm T 2 G') := by
      intro x65 left' hx hl' hw'
      rw [hx] at a b hd
      by_cases cc : x65 ≤ ready
      · have cc' := cc
        rw [Int32.le_iff_toInt_le] at cc'
        rw [hr] at a b hf
        obtain ⟨a1, a2, a3⟩ := a cc'
        rw [if_pos cc, a1]
        have er : G'.1 8 = ready + (sav - x65) := by
          refine Int32.toInt_inj.mp ?_
          have e1 : (sav - x65).toInt = sav.toInt - x65.toInt := fb_subI (by omega) (by omega)
          rw [a3, ← hsv, fb_addI (by rw [e1]; omega) (by rw [e1]; omega), e1]
          omega
        exact ih (k + 1) n' G' (B + 2100) left' _ (by omega) (by omega) a2 (by omega) hw' hl' er
      · rw [if_neg cc]
        rw [Int32.le_iff_toInt_le, ← hr] at cc
        exact ⟨G', b (by omega)⟩
    by_cases cj : j = 0
    · subst cj
      have e1 : G.1 (13 + 14 * m + 4) = 1 := hw4
      rw [if_pos (by rw [show k = w0 - 1 by omega]), nm_eq]
      simp only [nm_eq]
      have := key (left + H (13 + 14 * m + 6)) (left - left) (by rw [n_due hm, if_neg wne, n_partOf hm, if_pos e1, l3, l6]) (fun q => absurd q (by decide)) (c0 (by rw [e1]; decide))
      exact this
    · have ne1 : ¬ G.1 (13 + 14 * m + 4) = 1 := by
        rw [hw4]
        exact fun q => absurd ((nI_eq (a := j + 1) (b := 1) (by omega) (by decide)).mp q) (by omega)
      have em1 : G.1 (13 + 14 * m + 4) + -1 = nI j := by rw [hw4, pk_m1]
      have ne0 : ¬ G.1 (13 + 14 * m + 4) + -1 = 0 := by
        rw [em1]
        exact nI_ne0 (by omega) (by omega)
      obtain ⟨d4, d3, d5, d6⟩ := c1 wpos ne0
      rw [if_neg (fun q => absurd ((nI_eq (a := k) (b := w0 - 1) (by omega) (by omega)).mp q) (by omega))]
      simp only [nm_eq]
      have := key (H (13 + 14 * m + 5) + H (13 + 14 * m + 6)) (left - H (13 + 14 * m + 5)) (by rw [n_due hm, if_neg wne, n_partOf hm, if_neg ne1, l5, l6]) (fun _ => ⟨d5.trans l5, d6.trans l6, by rw [d3, n_partOf hm, if_neg ne1, l3, l5]; exact (Int32.sub_eq_add_neg _ _).symm⟩) (d4.trans em1)
      exact this
/-- how long the fund lasts, on both sides -/
theorem lasts_thm (h : IR W F) (hW : W ≤ 999) (hR : RG F H) (hm : m < 8) (hh : F (13 + 14 * m + 0) = 1) (hT : T 1 = F) : ∃ G', x_X5_lasts (emm T 2 G) (nI m) = (v_X0_weeksOfFund H m, emm T 2 G') := by
  have hP := PA_of h hW hm hh (F' := cpT T G.1) (fun j hj => by unfold cpT; rw [if_pos hj, hT])
  unfold x_X5_lasts v_X0_weeksOfFund
  simp only [nm_eq]
  rw [tries_eq]
  have hL := h.2.1 m hm
  have g5 := hR.g (j := 5) (by decide)
  have g8 := hR.g (j := 8) (by decide)
  have e3 := hR.h hm (w := 3) (by decide)
  have e4 := hR.h hm (w := 4) (by decide)
  have e5 := hR.h hm (w := 5) (by decide)
  have e6 := hR.h hm (w := 6) (by decide)
  obtain ⟨w0, hw0, ew⟩ := nI_of (x := F (13 + 14 * m + 4)) (by rw [Int32.lt_iff_toInt_lt, z32]; exact Int.not_lt.mpr hL.1)
  have hw52 : w0 ≤ 52 := by
    have := hL.2.1
    rw [ew, nI_toInt hw0] at this
    omega
  rw [g5, g8, e3, e4, ew, nI_clamp hw0, members_eq h hR, members_ct h]
  have hoc := oth_ct (hb := fun o => decide (F (13 + 14 * o + 0) = 1)) hm (decide_eq_true hh)
  have ho8 : oth m (fun o => decide (F (13 + 14 * o + 0) = 1)) ≤ 8 := fb_ct_le _ 8
  rw [← hoc, nI_pred]
  have s5 := h.2.2.2.2.2.2.1.2.1
  obtain ⟨c5, hc5, ec5⟩ := nI_of (x := F 5) (by rw [Int32.lt_iff_toInt_lt, z32]; exact Int.not_lt.mpr s5.1)
  have t5 : (F 5).toInt = c5 := by rw [ec5, nI_toInt hc5]
  have hmul : oth m (fun o => decide (F (13 + 14 * o + 0) = 1)) * c5 ≤ 8 * 99 := Nat.mul_le_mul ho8 (by omega)
  obtain ⟨oc_, hoc_⟩ : ∃ z, z = oth m (fun o => decide (F (13 + 14 * o + 0) = 1)) := ⟨_, rfl⟩
  rw [← hoc_] at hoc ho8 hmul ⊢
  have tsv : (nI oc_ * F 5).toInt = ((oc_ * c5 : Nat) : Int) := by rw [ec5, pk_mul, nI_toInt (by omega)]
  refine lasts_loop (T := T) (hb := fun o => decide (F (13 + 14 * o + 0) = 1)) (s5 := F 5) hm hw52 (e4.trans ew) ?_ ?_ w0 0 101 (cpT T G.1, G.2) 792000 _ _ rfl (Nat.zero_add w0) hP (by decide) ?_ ?_ ?_
  · rw [← hoc_, tsv, t5, Int.natCast_mul, Int.mul_comm]
  · rw [tsv]; exact ⟨by omega, by omega⟩
  · show cpT T G.1 _ = _
    unfold cpT
    rw [if_pos (by omega), hT, ew]
  · intro _
    show cpT T G.1 _ = _ ∧ cpT T G.1 _ = _ ∧ cpT T G.1 _ = _
    unfold cpT
    rw [if_pos (by omega), if_pos (by omega), if_pos (by omega), hT, e5, e6]
    exact ⟨rfl, rfl, rfl⟩
  · show cpT T G.1 8 = _
    unfold cpT
    rw [if_pos (by omega), hT]
end LASTS
