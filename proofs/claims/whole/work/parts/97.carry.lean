section CARRY
variable {S T : vS} {F H : vF} {G : vG} {p1 p2 p3 x y z : Int32} {k n i q j p len : Nat} {w a b kd lo hi v : Int32} {tx : Nat → Int32}
theorem numL_hi : ∀ (n : Nat) (v : Int32) (p : Nat), v ≤ hi → (numL tx len hi n v p).1 ≤ hi := by
  intro n
  induction n with
  | zero => intro v p h; exact h
  | succ n ih =>
    intro v p h
    rw [numL.eq_2]
    split
    · exact h
    split
    · exact h
    split
    · exact h
    split
    · rename_i q; exact ih _ _ q
    · exact h
theorem pAmt_rng (h0 : (0 : Int32) ≤ hi) (h : ¬ (pAmt tx len lo hi p).1 = 0) : ¬ (pAmt tx len lo hi p).2.2 < lo ∧ (pAmt tx len lo hi p).2.2 ≤ hi := by
  unfold pAmt at h ⊢
  dsimp only at h ⊢
  refine ⟨fun c => h (if_pos c), numL_hi 60 0 p h0⟩
/-- what a reading's numbers keep to -/
def RK (r : PT) : Prop := (r.2.2.1 = 1 → ¬ r.2.2.2.2.1 < 10 ∧ r.2.2.2.2.1 ≤ 2000 ∧ ¬ r.2.2.2.2.2 < 1 ∧ r.2.2.2.2.2 ≤ 52) ∧ (r.2.2.1 = 3 ∨ r.2.2.1 = 4 → ¬ r.2.2.2.2.1 < 1 ∧ r.2.2.2.2.1 ≤ 2000)
theorem RK_mon (hkd : ¬ kd = 1) (h : ¬ (pMon tx len p kd a b).1 = 0) : RK (pMon tx len p kd a b) := by
  unfold pMon at h ⊢
  by_cases c1 : (pWho tx len p).1 = 0
  · rw [if_pos c1] at h; exact absurd rfl h
  rw [if_neg c1] at h ⊢
  by_cases c2 : nx tx len (pWho tx len p).2.1 = 42
  · rw [if_pos c2] at h ⊢
    exact ⟨fun q => absurd q hkd, fun _ => pAmt_rng (by decide) h⟩
  · rw [if_neg c2] at h; exact absurd rfl h
theorem RK_ln (h : ¬ (pLn tx len p 1 a b).1 = 0) : RK (pLn tx len p 1 a b) := by
  unfold pLn at h ⊢
  by_cases c1 : (pWho tx len p).1 = 0
  · rw [if_pos c1] at h; exact absurd rfl h
  rw [if_neg c1] at h ⊢
  by_cases c2 : nx tx len (pWho tx len p).2.1 = 42
  · rw [if_pos c2] at h ⊢
    by_cases c3 : (pAmt tx len 10 2000 ((pWho tx len p).2.1 + 1)).1 = 0
    · rw [if_pos c3] at h; exact absurd rfl h
    rw [if_neg c3] at h ⊢
    unfold pWk at h ⊢
    by_cases c4 : nx tx len (pAmt tx len 10 2000 ((pWho tx len p).2.1 + 1)).2.1 = 47
    · rw [if_pos c4] at h ⊢
      have r1 := pAmt_rng (by decide) c3
      have r2 := pAmt_rng (by decide) h
      exact ⟨fun _ => ⟨r1.1, r1.2, r2.1, r2.2⟩, fun q => absurd q (by decide : ¬ ((1 : Int32) = 3 ∨ (1 : Int32) = 4))⟩
    · rw [if_neg c4] at h; exact absurd rfl h
  · rw [if_neg c2] at h; exact absurd rfl h
theorem RK_no {u : Int32} {z : Nat} (h : ¬ (kd = 1 ∨ kd = 3 ∨ kd = 4)) : RK (u, z, kd, w, a, b) := ⟨fun q => absurd (Or.inl q) h, fun q => absurd (Or.inr q) h⟩
theorem RK_O (h : ¬ (pO tx len p kd w a b).1 = 0) : RK (pO tx len p kd w a b) := by
  unfold pO at h ⊢
  by_cases c1 : nx tx len p = 97
  · rw [if_pos c1] at h ⊢
    by_cases q : (wd tx len 1 p).1 = 0
    · rw [if_pos q]; exact RK_no (by decide)
    · rw [if_neg q]; exact RK_no (by decide)
  rw [if_neg c1] at h ⊢
  by_cases c2 : nx tx len p = 99
  · rw [if_pos c2]; exact RK_no (by decide)
  rw [if_neg c2] at h ⊢
  by_cases c3 : nx tx len p = 104
  · rw [if_pos c3] at h ⊢
    by_cases q : (wd tx len 3 p).1 = 0
    · rw [if_pos q] at h; exact absurd rfl h
    · rw [if_neg q] at h ⊢; exact RK_mon (by decide) h
  rw [if_neg c3] at h ⊢
  by_cases c4 : nx tx len p = 108
  · rw [if_pos c4] at h ⊢
    by_cases q : (wd tx len 0 p).1 = 0
    · rw [if_pos q] at h; exact absurd rfl h
    · rw [if_neg q] at h ⊢; exact RK_ln h
  rw [if_neg c4] at h ⊢
  by_cases c5 : nx tx len p = 112
  · rw [if_pos c5] at h ⊢
    by_cases q : (wd tx len 2 p).1 = 0
    · rw [if_pos q] at h; exact absurd rfl h
    · rw [if_neg q] at h ⊢; exact RK_mon (by decide) h
  rw [if_neg c5] at h ⊢
  by_cases c6 : nx tx len p = 119
  · rw [if_pos c6]; exact RK_no (by decide)
  rw [if_neg c6] at h; exact absurd rfl h
/-- both sides have turned their rows, and agree whether it could be done -/
def DO (S T : vS) (z m : Int32 × vS) : Prop := ∃ r r' H' G', z = (r, emb S 0 H') ∧ m = (r', emm T 1 G') ∧ (r = 0 ↔ r' = 0) ∧ RG G'.1 H' ∧ IR 999 G'.1
theorem DO.no (hR : RG (T 1) (cv S 0)) (hI : IR 999 (T 1)) : DO S T (0, S) (0, T) :=
  ⟨0, 0, cv S 0, (T 1, T 6, T 0 13), by rw [emb_cv], by rw [emm_self], Iff.rfl, hR, hI⟩
theorem found (hR : RG (T 1) (cv S 0)) (hI : IR 999 (T 1)) (p1 : Int32) : (∃ k, k < 8 ∧ p1 = nI k ∧ T 1 (13 + 14 * k + 0) = 1 ∧ x_X0_find S 0 p1 = some k ∧ x_X5_isMember T p1 = 1) ∨ (x_X0_find S 0 p1 = none ∧ x_X5_isMember T p1 = 0) := by
  have ef : x_X0_find S 0 p1 = v_X0_find (cv S 0) p1 := by
    have := e_X0_find S 0 (cv S 0) p1
    rw [emb_cv] at this
    exact this
  rw [ef, isM]
  by_cases hv : vp_in p1 8
  · obtain ⟨k, hk, rfl⟩ := vp_in_of hv (by decide)
    rw [find_nI hk]
    have hh := hI.here hR hk
    have w : w_isMember (T 1) (nI k) = if T 1 (13 + 14 * k + 0) = 1 then 1 else 0 := by
      have n7 : ¬ (7 : Int32) < nI k := nI_nlt (b := k) (a := 7) (by omega) (by decide)
      unfold w_isMember w_in
      rw [nm_eq, if_neg (nI_pos (by omega)), if_neg n7, if_neg (by decide), nm_eq, nof_0 hk]
    rw [w]
    by_cases c : T 1 (13 + 14 * k + 0) = 1
    · rw [if_pos c, if_neg (fun q => hh.mp q c)]
      exact Or.inl ⟨k, hk, rfl, c, rfl, rfl⟩
    · rw [if_neg c, if_pos (hh.mpr c)]
      exact Or.inr ⟨rfl, rfl⟩
  · rw [find_none hv]
    refine Or.inr ⟨rfl, ?_⟩
    unfold w_isMember w_in
    rw [nm_eq]
    by_cases c1 : p1 < 0
    · rw [if_pos c1, if_pos rfl]
    · rw [if_neg c1]
      by_cases c2 : 7 < p1
      · rw [if_pos c2, if_pos rfl]
      · exfalso
        refine hv (vin_of (n := 8) c1 ?_ (by decide) (Nat.le_refl 8))
        intro q
        rw [Int32.le_iff_toInt_le, show (nI 8).toInt = 8 by decide] at q
        rw [Int32.lt_iff_toInt_lt, show (7 : Int32).toInt = 7 by decide] at c2
        omega
theorem ne10 : ¬ (1 : Int32) = 0 := by decide
theorem do_loan (hR : RG (T 1) (cv S 0)) (hI : IR 999 (T 1)) (hk : k < 8) (hh : T 1 (13 + 14 * k + 0) = 1) (e2 : x_X5_isMember T (nI k) = 1) (r : ¬ S tO 5 < 10 ∧ S tO 5 ≤ 2000 ∧ ¬ S tO 6 < 1 ∧ S tO 6 ≤ 52) :
    DO S T (nmp (x_X4_carryOutLoan S k) (fun r s => if r = 0 then (0, s) else (1, s))) (if (if x_X5_mayLend T (nI k) (S tO 5) (S tO 6) = 0 then (1 : Int32) else 0) = 0 then (0, T) else nmp (x_X5_lends T (nI k) (S tO 5) (S tO 6)) (fun _ s => (1, s))) := by
  unfold x_X4_carryOutLoan
  generalize S tO 5 = p2 at r ⊢
  generalize S tO 6 = p3 at r ⊢
  obtain ⟨c1, c2, c3, c4⟩ := r
  rw [lend_yes e2 c1 (nlt_of_le c2) c3 (nlt_of_le c4), nof_4 hk, nof_1 hk]
  have ed : x_X2_mayBorrow S 0 k p2 = v_X2_mayBorrow (cv S 0) k p2 := by
    have := e_X2_mayBorrow S 0 (cv S 0) k p2 hk
    rw [emb_cv] at this
    exact this
  have hb := mayBorrow_eq (x := p2) hI (by decide) hR hk hh
  rw [nm_eq (x_X2_mayBorrow S 0 k p2), ed]
  by_cases c5 : v_X2_mayBorrow (cv S 0) k p2 = 0
  · have e3 : (if 0 < T 1 (13 + 14 * k + 4) then 3 else if 0 < w_debts (T 1) (nI k) then 3 else if p2 ≤ T 1 (13 + 14 * k + 1) then 0 else 3) = (3 : Int32) := by
      rcases hb.mp c5 with q | q | q
      · rw [if_pos q]
      · rw [if_pos q]; split <;> rfl
      · rw [if_neg q]; split <;> (try rfl); split <;> rfl
    rw [if_pos c5, e3, if_neg (by decide : ¬ (3 : Int32) = 0), if_pos rfl, nmp_eq, if_pos c5]
    exact DO.no hR hI
  · have n1 : ¬ 0 < T 1 (13 + 14 * k + 4) := fun q => c5 (hb.mpr (Or.inl q))
    have n2 : ¬ 0 < w_debts (T 1) (nI k) := fun q => c5 (hb.mpr (Or.inr (Or.inl q)))
    have n3 : p2 ≤ T 1 (13 + 14 * k + 1) := by
      by_cases q : p2 ≤ T 1 (13 + 14 * k + 1)
      · exact q
      · exact absurd (hb.mpr (Or.inr (Or.inr q))) c5
    rw [if_neg c5, if_neg n1, if_neg n2, if_pos n3, if_pos rfl, if_neg ne10, nm_eq, nmp_eq, if_neg c5]
    have w0 : T 1 (13 + 14 * k + 4) = 0 := by
      have a := (hI.2.1 k hk).1
      rw [Int32.lt_iff_toInt_lt, z32] at n1
      exact Int32.toInt_inj.mp (by rw [z32]; omega)
    have u10 : (10 : Int32).toInt = 10 := by decide
    have u2000 : (2000 : Int32).toInt = 2000 := by decide
    have u1 : (1 : Int32).toInt = 1 := by decide
    have u52 : (52 : Int32).toInt = 52 := by decide
    rw [Int32.lt_iff_toInt_lt, u10] at c1
    rw [Int32.le_iff_toInt_le, u2000] at c2
    rw [Int32.le_iff_toInt_le, u52] at c4
    have c3' := c3
    rw [Int32.lt_iff_toInt_lt, u1] at c3'
    obtain ⟨a, ha, ea⟩ := nI_of (x := p2) (by rw [Int32.lt_iff_toInt_lt, z32]; omega)
    obtain ⟨b, hb', eb⟩ := nI_of (x := p3) (by rw [Int32.lt_iff_toInt_lt, z32]; omega)
    have ta : p2.toInt = a := by rw [ea, nI_toInt ha]
    have tb_ : p3.toInt = b := by rw [eb, nI_toInt hb']
    have hI' : IR 999 (fLend (T 1) k p2 p3) := by
      rw [ea, eb]
      exact lend_ir hI (Int.le_refl 999) hk w0 hh ⟨by omega, by omega⟩ ⟨by omega, by omega⟩
    have hR' := lend_v (x := p2) (y := p3) hR hk (fa_of_nlt c3)
    have eM : x_X5_lends T (nI k) p2 p3 = (w_due (fLend (T 1) k p2 p3) (nI k), emm T 1 (fLend (T 1) k p2 p3, T 6, T 0 13)) := by
      conv => lhs; rw [← emm_self T 1]
      rw [f_lends, lends_w hI hk rfl w0]
      rfl
    have eC : x_X0_grantLoan S 0 k p2 p3 = emb S 0 (v_X0_grantLoan (cv S 0) k p2 p3) := by
      conv => lhs; rw [← emb_cv S 0]
      exact e_X0_grantLoan S 0 (cv S 0) k p2 p3 hk
    rw [eM, eC, nmp_eq]
    exact ⟨1, 1, _, _, rfl, rfl, Iff.rfl, hR', hI'⟩
theorem do_pay (hR : RG (T 1) (cv S 0)) (hI : IR 999 (T 1)) (hk : k < 8) (e2 : x_X5_isMember T (nI k) = 1) (r : ¬ S tO 5 < 1 ∧ S tO 5 ≤ 2000) :
    DO S T (nmp (x_X4_carryOutPayment S k) (fun r s => if r = 0 then (0, s) else (1, s))) (if (if x_X5_mayPay T (nI k) (S tO 5) = 0 then (1 : Int32) else 0) = 0 then (0, T) else nmp (x_X5_pays T (nI k) (S tO 5)) (fun _ s => (1, s))) := by
  unfold x_X4_carryOutPayment
  generalize S tO 5 = p2 at r ⊢
  obtain ⟨c1, c2⟩ := r
  rw [pay_yes e2 c1 (nlt_of_le c2)]
  have ed : x_X2_hasDebts S 0 k = v_X2_hasDebts (cv S 0) k := by
    have := e_X2_hasDebts S 0 (cv S 0) k hk
    rw [emb_cv] at this
    exact this
  have hd := debts0 hI (by decide) hR hk
  rw [nm_eq (x_X2_hasDebts S 0 k), ed]
  by_cases c4 : v_X2_hasDebts (cv S 0) k = 0
  · rw [if_pos c4, if_pos (hd.mp c4), if_neg (by decide : ¬ (3 : Int32) = 0), if_pos rfl, nmp_eq, if_pos c4]
    exact DO.no hR hI
  · rw [if_neg c4, if_neg (fun q => c4 (hd.mpr q)), if_pos rfl, if_neg ne10]
    have t1 : 1 ≤ p2.toInt ∧ p2.toInt ≤ 2000 := by
      rw [Int32.lt_iff_toInt_lt, show (1 : Int32).toInt = 1 by decide] at c1
      rw [Int32.le_iff_toInt_le, show (2000 : Int32).toInt = 2000 by decide] at c2
      exact ⟨by omega, c2⟩
    obtain ⟨r, G', e, e3, hR', hI', _⟩ := pay_thm hI (Int.le_refl 999) hR hk t1 (G := (T 1, T 6, T 0 13)) rfl
    have eM : x_X5_pays T (nI k) p2 = (r, emm T 1 G') := by
      conv => lhs; rw [← emm_self T 1]
      rw [f_pays, e]
      rfl
    have eC : x_X0_takePayment S 0 k p2 = mpe S 0 (v_X0_takePayment (cv S 0) k p2) := by
      conv => lhs; rw [← emb_cv S 0]
      exact e_X0_takePayment S 0 (cv S 0) k p2 hk
    rw [eM, eC, nmp_eq, nmp_eq, nmp_eq]
    dsimp only
    rw [if_neg c4]
    exact ⟨1, 1, _, _, rfl, rfl, Iff.rfl, hR', hI'⟩
theorem do_help (hR : RG (T 1) (cv S 0)) (hI : IR 999 (T 1)) (hk : k < 8) (e2 : x_X5_isMember T (nI k) = 1) (r : ¬ S tO 5 < 1 ∧ S tO 5 ≤ 2000) :
    DO S T (nmp (x_X4_carryOutHelp S k) (fun r s => if r = 0 then (0, s) else (1, s))) (if (if x_X5_mayHelp T (nI k) (S tO 5) = 0 then (1 : Int32) else 0) = 0 then (0, T) else nmp (x_X5_helps T (nI k) (S tO 5)) (fun _ s => (1, s))) := by
  unfold x_X4_carryOutHelp
  generalize S tO 5 = p2 at r ⊢
  obtain ⟨c1, c2⟩ := r
  rw [help_yes e2 c1 (nlt_of_le c2)]
  have ed : x_X0_mayHelp S 0 k p2 = v_X0_mayHelp (cv S 0) k p2 := by
    have := e_X0_mayHelp S 0 (cv S 0) k p2 hk
    rw [emb_cv] at this
    exact this
  obtain ⟨m0, m1⟩ := mayHelp_eq (x := p2) hR hk
  rw [nm_eq (x_X0_mayHelp S 0 k p2), ed]
  by_cases c4 : v_X0_mayHelp (cv S 0) k p2 = 0
  · rw [if_pos c4, m0 c4, if_neg (by decide : ¬ (3 : Int32) = 0), if_pos rfl, nmp_eq, if_pos c4]
    exact DO.no hR hI
  · obtain ⟨m2, m3⟩ := m1 c4
    rw [if_neg c4, m2, if_pos rfl, if_neg ne10, nm_eq (x_X0_grantHelp S 0 k p2), nmp_eq, if_neg c4]
    have t1 : 1 ≤ p2.toInt ∧ p2.toInt ≤ 2000 := by
      rw [Int32.lt_iff_toInt_lt, show (1 : Int32).toInt = 1 by decide] at c1
      rw [Int32.le_iff_toInt_le, show (2000 : Int32).toInt = 2000 by decide] at c2
      exact ⟨by omega, c2⟩
    have hI' := help_ir hI (Int.le_refl 999) hk t1 m3
    obtain ⟨hR', e8⟩ := help_v (x := p2) hR hk
    have eM : x_X5_helps T (nI k) p2 = (T 1 8 - p2, emm T 1 (fHelp (T 1) k p2, T 6, T 0 13)) := by
      conv => lhs; rw [← emm_self T 1]
      rw [f_helps, helps_w hk]
      rfl
    have eC : x_X0_grantHelp S 0 k p2 = emb S 0 (v_X0_grantHelp (cv S 0) k p2) := by
      conv => lhs; rw [← emb_cv S 0]
      exact e_X0_grantHelp S 0 (cv S 0) k p2 hk
    rw [eM, eC, nmp_eq]
    exact ⟨1, 1, _, _, rfl, rfl, Iff.rfl, hR', hI'⟩
theorem do_away (hR : RG (T 1) (cv S 0)) (hI : IR 999 (T 1)) (hk : k < 8) : DO S T (1, st S (gM 0 k) 8 1) (1, st T 1 ((13 + 14 * (nI k).toNatClampNeg) + 7) 1) := by
  have s1 : st S (gM 0 k) 8 1 = emb S 0 (upd (cv S 0) (13 + 14 * k + 7) 1) := by
    conv => lhs; rw [← emb_cv S 0]
    exact esM_8 hk
  have s2 : st T 1 ((13 + 14 * (nI k).toNatClampNeg) + 7) 1 = emm T 1 (upd (T 1) (13 + 14 * k + 7) 1, T 6, T 0 13) := by
    rw [nI_clamp (by omega)]
    conv => lhs; rw [← emm_self T 1]
    exact es_q
  rw [s1, s2]
  refine ⟨1, 1, _, _, rfl, rfl, Iff.rfl, ?_, hI.away hk (Or.inr rfl)⟩
  refine RG.up hR rfl ?_ ?_
  all_goals first | omega | (intro o ho; omega)
theorem do_week (hR : RG (T 1) (cv S 0)) (hI : IR 999 (T 1)) : DO S T (x_X4_carryOutWeek S) (if (if 999 ≤ T 1 0 then (0 : Int32) else 1) = 0 then (0, T) else nmp (x_X5_ends T 1) (fun _ s => (1, s))) := by
  unfold x_X4_carryOutWeek x_X0_mayEndWeek
  have e3 : S (gG 0) 3 = T 1 0 := (cvG_0 (S := S) (g := 0)).symm.trans (hR.g (by decide))
  rw [nm_eq, e3]
  by_cases c : 999 ≤ T 1 0
  · rw [if_pos c, if_pos rfl, if_pos rfl]
    exact DO.no hR hI
  · rw [if_neg c, if_neg ne10, if_neg ne10, nm_eq]
    obtain ⟨r, G', e, hR', hI', e11, _, e0, _⟩ := week_thm hI (Int.le_refl 999) hR (G := (T 1, T 6, T 0 13)) rfl
    have eM : x_X5_ends T 1 = (r, emm T 1 G') := by
      conv => lhs; rw [← emm_self T 1]
      rw [f_ends T (Or.inl rfl), e]
      rfl
    have eC : x_X0_endWeek S 0 = emb S 0 (v_X0_endWeek (cv S 0)) := by
      conv => lhs; rw [← emb_cv S 0]
      exact e_X0_endWeek S 0 (cv S 0)
    rw [eM, eC, nmp_eq]
    refine ⟨1, 1, _, _, rfl, rfl, Iff.rfl, hR', ?_⟩
    obtain ⟨h1, h2, h3, h4, h5⟩ := hI'
    refine ⟨h1, h2, h3, ⟨h4.1, ?_⟩, h5⟩
    rw [e0]
    rw [Int32.le_iff_toInt_le] at c
    have : (999 : Int32).toInt = 999 := by decide
    omega
theorem do_cycle (hR : RG (T 1) (cv S 0)) (hI : IR 999 (T 1)) : DO S T (x_X4_carryOutCycle S) (if x_X5_mayCycle T = 0 then (0, T) else nmp (x_X5_cycles T) (fun _ s => (1, s))) := by
  have ec : x_X0_mayBeginCycle S 0 = w_mayCycle (T 1) := by
    have := e_X0_mayBeginCycle S 0 (cv S 0)
    rw [emb_cv] at this
    rw [this]
    exact mayCycle_eq hI hR
  have em : x_X5_mayCycle T = w_mayCycle (T 1) := by
    have := f_mayCycle T (T 1, T 6, T 0 13)
    rw [emm_self] at this
    exact this
  unfold x_X4_carryOutCycle
  rw [nm_eq, ec, em]
  by_cases c : w_mayCycle (T 1) = 0
  · rw [if_pos c, if_pos c, c]
    exact DO.no hR hI
  · rw [if_neg c, if_neg c, nm_eq]
    obtain ⟨r, G', e, e1, hR', hI', _⟩ := cycle_thm hI hR (G := (T 1, T 6, T 0 13)) rfl
    have eM : x_X5_cycles T = (r, emm T 1 G') := by
      conv => lhs; rw [← emm_self T 1]
      rw [f_cycles, e]
      rfl
    have eC : x_X0_beginCycle S 0 = emb S 0 (v_X0_beginCycle (cv S 0)) := by
      conv => lhs; rw [← emb_cv S 0]
      exact e_X0_beginCycle S 0 (cv S 0)
    rw [eM, eC, nmp_eq]
    exact ⟨_, 1, _, _, rfl, rfl, ⟨fun q => absurd q c, fun q => absurd q ne10⟩, hR', hI'⟩
theorem oc_k {α β : Type} {k : α} {a : β} {f : α → β} : oc (some k) a f = f k := rfl
theorem oc_nn {α β : Type} {a : β} {f : α → β} : oc (none : Option α) a f = a := rfl
/-- one order of the text is carried out on both sides -/
theorem carry (hR : RG (T 1) (cv S 0)) (hI : IR 999 (T 1)) (hj : j < 64) (rc : RC (T 5) j (1, p, S tO 3, S tO 4, S tO 5, S tO 6)) (rk : RK (1, p, S tO 3, S tO 4, S tO 5, S tO 6)) : DO S T (x_X4_carryOut S) (x_X5_does T (nI j)) := by
  obtain ⟨c0, c1, c2, c3, c4⟩ := rc
  obtain ⟨r1, r2⟩ := rk
  dsimp only at c0 c1 c2 c3 c4 r1 r2
  have hcl : (nI j).toNatClampNeg = j := nI_clamp (by omega)
  unfold x_X5_does x_X5_may x_X4_carryOut
  simp only [nm_eq]
  rw [hcl]
  rcases c4 with q | q | q | q | q | q
  · have k0 : T 5 (4 * j) = 0 := by rw [c0, q]; decide
    rw [if_neg (by rw [q]; decide), if_neg (by rw [q]; decide), k0, if_pos (show (0 : Int32) = 0 from rfl), if_pos (show (0 : Int32) = 0 from rfl), c1 (by rw [q]; decide), c2 (by rw [q]; decide), c3 q]
    rcases found hR hI (S tO 4) with ⟨k, hk, ek, hh, e1, e2⟩ | ⟨e1, e2⟩
    · rw [e1, ek, oc_k]
      rw [ek] at e2
      have := do_loan hR hI hk hh e2 (r1 q)
      show DO S T (nmp (x_X4_carryOutFor S k) _) _
      unfold x_X4_carryOutFor
      rw [if_pos q]
      exact this
    · rw [e1, oc_nn, lend_no e2, if_neg ne10, if_pos rfl]
      exact DO.no hR hI
  · have k0 : T 5 (4 * j) = 1 := by rw [c0, q]; decide
    rw [if_neg (by rw [q]; decide), if_neg (by rw [q]; decide), k0, if_neg (show ¬ (1 : Int32) = 0 by decide), if_neg (show ¬ (1 : Int32) = 0 by decide), if_pos (show (1 : Int32) = 1 from rfl), if_pos (show (1 : Int32) = 1 from rfl), c1 (by rw [q]; decide)]
    rcases found hR hI (S tO 4) with ⟨k, hk, ek, hh, e1, e2⟩ | ⟨e1, e2⟩
    · rw [e1, ek, oc_k]
      rw [ek] at e2
      rw [e2, if_neg ne10]
      have := do_away hR hI hk
      show DO S T (nmp (x_X4_carryOutFor S k) _) _
      unfold x_X4_carryOutFor
      rw [if_neg (by rw [q]; decide), if_pos q]
      exact this
    · rw [e1, oc_nn, e2, if_pos rfl]
      exact DO.no hR hI
  · have k0 : T 5 (4 * j) = 2 := by rw [c0, q]; decide
    rw [if_neg (by rw [q]; decide), if_neg (by rw [q]; decide), k0, if_neg (show ¬ (2 : Int32) = 0 by decide), if_neg (show ¬ (2 : Int32) = 0 by decide), if_neg (show ¬ (2 : Int32) = 1 by decide), if_neg (show ¬ (2 : Int32) = 1 by decide), if_pos (show (2 : Int32) = 2 from rfl), if_pos (show (2 : Int32) = 2 from rfl), c1 (by rw [q]; decide), c2 (by rw [q]; decide)]
    rcases found hR hI (S tO 4) with ⟨k, hk, ek, hh, e1, e2⟩ | ⟨e1, e2⟩
    · rw [e1, ek, oc_k]
      rw [ek] at e2
      have := do_pay hR hI hk e2 (r2 (Or.inl q))
      show DO S T (nmp (x_X4_carryOutFor S k) _) _
      unfold x_X4_carryOutFor
      rw [if_neg (by rw [q]; decide), if_neg (by rw [q]; decide), if_pos q]
      exact this
    · rw [e1, oc_nn, pay_no e2, if_neg ne10, if_pos rfl]
      exact DO.no hR hI
  · have k0 : T 5 (4 * j) = 3 := by rw [c0, q]; decide
    rw [if_neg (by rw [q]; decide), if_neg (by rw [q]; decide), k0, if_neg (show ¬ (3 : Int32) = 0 by decide), if_neg (show ¬ (3 : Int32) = 0 by decide), if_neg (show ¬ (3 : Int32) = 1 by decide), if_neg (show ¬ (3 : Int32) = 1 by decide), if_neg (show ¬ (3 : Int32) = 2 by decide), if_neg (show ¬ (3 : Int32) = 2 by decide), if_pos (show (3 : Int32) = 3 from rfl), if_pos (show (3 : Int32) = 3 from rfl), c1 (by rw [q]; decide), c2 (by rw [q]; decide)]
    rcases found hR hI (S tO 4) with ⟨k, hk, ek, hh, e1, e2⟩ | ⟨e1, e2⟩
    · rw [e1, ek, oc_k]
      rw [ek] at e2
      have := do_help hR hI hk e2 (r2 (Or.inr q))
      show DO S T (nmp (x_X4_carryOutFor S k) _) _
      unfold x_X4_carryOutFor
      rw [if_neg (by rw [q]; decide), if_neg (by rw [q]; decide), if_neg (by rw [q]; decide), if_pos q]
      exact this
    · rw [e1, oc_nn, help_no e2, if_neg ne10, if_pos rfl]
      exact DO.no hR hI
  · have k0 : T 5 (4 * j) = 4 := by rw [c0, q]; decide
    rw [if_pos q, k0, if_neg (show ¬ (4 : Int32) = 0 by decide), if_neg (show ¬ (4 : Int32) = 0 by decide), if_neg (show ¬ (4 : Int32) = 1 by decide), if_neg (show ¬ (4 : Int32) = 1 by decide), if_neg (show ¬ (4 : Int32) = 2 by decide), if_neg (show ¬ (4 : Int32) = 2 by decide), if_neg (show ¬ (4 : Int32) = 3 by decide), if_neg (show ¬ (4 : Int32) = 3 by decide), if_pos (show (4 : Int32) = 4 from rfl), if_pos (show (4 : Int32) = 4 from rfl)]
    exact do_week hR hI
  · have k0 : T 5 (4 * j) = 5 := by rw [c0, q]; decide
    rw [if_neg (by rw [q]; decide), if_pos q, k0, if_neg (show ¬ (5 : Int32) = 0 by decide), if_neg (show ¬ (5 : Int32) = 0 by decide), if_neg (show ¬ (5 : Int32) = 1 by decide), if_neg (show ¬ (5 : Int32) = 1 by decide), if_neg (show ¬ (5 : Int32) = 2 by decide), if_neg (show ¬ (5 : Int32) = 2 by decide), if_neg (show ¬ (5 : Int32) = 3 by decide), if_neg (show ¬ (5 : Int32) = 3 by decide), if_neg (show ¬ (5 : Int32) = 4 by decide), if_neg (show ¬ (5 : Int32) = 4 by decide)]
    exact do_cycle hR hI
end CARRY
