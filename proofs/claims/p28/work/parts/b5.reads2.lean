section BREADS2
variable {S T : vS} {F H : vF} {k m n i j g w o p q : Nat} {x y d p1 p2 p3 : Int32} {c c' : Int} {f h : Nat → Int32}
/-- without a loan the fund is never asked -/
theorem bl_none (h4 : H (13 + 14 * k + 4) = 0) : v_X0_weeksOfFund H k = -1 := by
  unfold v_X0_weeksOfFund
  simp only [nm_eq]
  rw [h4, show (0 : Int32).toNatClampNeg + 1 = 0 + 1 from rfl, v_X0_weeksOfFund_L28.eq_2, h4, if_pos (by decide)]
theorem due_none (h4 : H (13 + 14 * k + 4) = 0) : v_X2_due H k = 0 := by
  unfold v_X2_due
  rw [nm_eq, if_pos (hasLoan_iff.mpr (by rw [h4]; decide))]
/-- the fund does not last for the first due -/
theorem bl_zero (hd : (H 8).toInt < (v_X2_due H k).toInt) (h8 : 0 ≤ (H 8).toInt) (h4' : 0 ≤ (H (13 + 14 * k + 4)).toInt) : v_X0_weeksOfFund H k = 0 ∧ 0 < H (13 + 14 * k + 4) := by
  have hl : ¬ v_X2_hasLoan H k = 0 := by
    intro z
    unfold v_X2_due at hd
    rw [nm_eq, if_pos z, z32] at hd
    omega
  have h4 : ¬ H (13 + 14 * k + 4) ≤ 0 := fun z => hl (hasLoan_iff.mpr z)
  have ed : v_X2_due H k = v_X2_part H k + H (13 + 14 * k + 6) := by
    unfold v_X2_due
    rw [nm_eq, if_neg hl, nm_eq]
  have hdl : ¬ v_X2_due H k ≤ H 8 := by rw [Int32.le_iff_toInt_le]; omega
  refine ⟨?_, fa_of_nle h4⟩
  unfold v_X0_weeksOfFund
  simp only [nm_eq]
  rw [v_X0_weeksOfFund_L28.eq_2]
  have n0 : nI 0 = (0 : Int32) := rfl
  rw [n0, if_neg h4]
  by_cases c1 : (0 : Int32) = H (13 + 14 * k + 4) - 1
  · rw [if_pos c1, nm_eq]
    have e4 : H (13 + 14 * k + 4) = 1 := by
      have : H (13 + 14 * k + 4) = (H (13 + 14 * k + 4) - 1) + 1 := by grind
      rw [this, ← c1]; rfl
    have ep : v_X2_part H k = H (13 + 14 * k + 3) := by unfold v_X2_part; rw [if_pos e4]
    rw [if_neg (by rw [← ep, ← ed]; exact hdl)]
  · rw [if_neg c1]
    simp only [nm_eq]
    have e4 : ¬ H (13 + 14 * k + 4) = 1 := fun z => c1 (by rw [z]; rfl)
    have ep : v_X2_part H k = H (13 + 14 * k + 5) := by unfold v_X2_part; rw [if_neg e4]
    rw [if_neg (by rw [← ep, ← ed]; exact hdl)]
/-- the weakest member would hurt at once -/
theorem weak_prop (h8 : 0 ≤ (H 8).toInt) (hd : ∀ j, j < 8 → 0 ≤ (v_X2_due H j).toInt) : v_X0_weakestNumber H = -1 ∨ ∃ k, k < 8 ∧ v_X0_weakestNumber H = nI k ∧ (H 8).toInt < (v_X2_due H k).toInt := by
  have key : ∀ n i v2 v1, i + n = 8 → 0 ≤ v2.toInt → (v1 = -1 ∨ ∃ k, k < 8 ∧ v1 = nI k ∧ (H 8).toInt < (v_X2_due H k).toInt) → (v_X0_weakestNumber_L26 (n + 1) H i v2 v1 = -1 ∨ ∃ k, k < 8 ∧ v_X0_weakestNumber_L26 (n + 1) H i v2 v1 = nI k ∧ (H 8).toInt < (v_X2_due H k).toInt) := by
    intro n
    induction n with
    | zero =>
      intro i v2 v1 hi _ h1
      obtain rfl : i = 8 := by omega
      rw [v_X0_weakestNumber_L26.eq_2, if_pos le8]
      exact h1
    | succ n ih =>
      intro i v2 v1 hi h2 h1
      have hi8 : i < 8 := by omega
      rw [v_X0_weakestNumber_L26.eq_2, if_neg (ge8 hi8)]
      simp only [nm_eq]
      have a := hd i hi8
      have b1 := (v_X2_due H i).toInt_lt
      have b2 := (H 8).toInt_lt
      have e : (v_X2_due H i - H 8).toInt = (v_X2_due H i).toInt - (H 8).toInt := fb_subI (by omega) (by omega)
      by_cases c1 : v_X2_due H i - H 8 ≤ v2
      · rw [if_pos c1]; exact ih _ _ _ (by omega) h2 h1
      · rw [if_neg c1]
        rw [Int32.le_iff_toInt_le, e] at c1
        exact ih _ _ _ (by omega) (by rw [e]; omega) (Or.inr ⟨i, hi8, rfl, by omega⟩)
  unfold v_X0_weakestNumber
  rw [nm_eq]
  split
  · exact key 8 0 0 (-1) rfl (by decide) (Or.inl rfl)
  · exact Or.inl rfl
/-- the share that is paid is from 0 to 1 -/
theorem sh_nn {v : UInt64} (hv : shN v) : FP.Core.val64 v ≠ .nan := by
  rcases hv with rfl | ⟨h1, h2, h3⟩
  · decide +kernel
  · rw [norm_split h1 (by omega)]; exact FP.Core.Datum.noConfusion
theorem sh_key {v : UInt64} (hv : shN v) : FP.Core.dkey v = (v.toNat : Int) := by
  unfold FP.Core.dkey
  rcases hv with rfl | ⟨h1, h2, h3⟩
  · decide
  · rw [if_neg (by omega)]
theorem sh_lo {v : UInt64} (hv : shN v) : ¬ Op.cmpValue (FP.dcmp v FP.dconst0) .l < 0 := by
  have hk0 : FP.Core.dkey FP.dconst0 = 0 := by decide
  have : FP.dcmp v FP.dconst0 = some (compare (FP.Core.dkey v) (FP.Core.dkey FP.dconst0)) := FP.Core.dcmp_key (sh_nn hv) (by decide +kernel)
  rw [this, sh_key hv, hk0, FP.Core.compare_ite, if_neg (by omega)]
  split <;> decide
theorem sh_hi {v : UInt64} (hv : shN v) : ¬ 0 < Op.cmpValue (FP.dcmp v FP.dconst1) .g := by
  have hk1 : FP.Core.dkey FP.dconst1 = ((1023 * 2 ^ 52 : Nat) : Int) := by decide
  have : FP.dcmp v FP.dconst1 = some (compare (FP.Core.dkey v) (FP.Core.dkey FP.dconst1)) := FP.Core.dcmp_key (sh_nn hv) (by decide +kernel)
  have hle : v.toNat ≤ 1023 * 2 ^ 52 := by
    rcases hv with rfl | ⟨h1, h2, h3⟩
    · decide
    · omega
  rw [this, sh_key hv, hk1, FP.Core.compare_ite]
  split
  · decide
  · rw [if_pos (by omega)]; decide
theorem share_01 (hT : RR S T) : shN (x_X4_paidShare S) := by
  rw [rd_share, share_eq hT.2.2.1 (by decide) hT.2.1]
  exact share_sh hT.2.2.1 (by decide)
/-- what a week without absent members would bring -/
theorem bt_0 : ∀ j, j < 8 → bt 0 j = 0 := by decide +kernel
theorem itVM_zero : ∀ (n i : Nat) (H : vF), i + n = 8 → ∀ m, i ≤ m → m < 8 → itVM n H 0 i (13 + 14 * m + 7) = 0 := by
  intro n
  induction n with
  | zero => intro i H h m a b; omega
  | succ n ih =>
    intro i H h m a b
    show itVM n (upd H (13 + 14 * i + 7) (bt 0 i)) 0 (i + 1) (13 + 14 * m + 7) = 0
    by_cases e : m = i
    · subst e
      rw [itVM_vals n (m + 1) _ (by omega) _ (fun o h1 h2 => by omega), upd_same]
      exact bt_0 m b
    · exact ih (i + 1) _ (by omega) m (by omega) b
theorem trw_j (h13 : 13 ≤ j) (hl : ∀ m, m < 8 → ¬ (13 + 14 * m + 2 ≤ j ∧ j ≤ 13 + 14 * m + 7) ∧ j ≠ 13 + 14 * m + 12) (h0 : ∀ m, m < 8 → j ≠ 13 + 14 * m + 0) : trw S 0 j = cv S 0 j := by
  unfold trw
  rw [week_na (fun m hm => itVM_zero 8 0 _ rfl m (by omega) hm) h13 hl, itVM_vals 8 0 _ rfl _ (fun o _ ho => by have := (hl o ho).1; omega)]
  refine bzr_o fun z => ?_
  obtain ⟨a, b, z⟩ := z
  have e : j = 13 + 14 * ((j - 13) / 14) + (j - 13) % 14 := by omega
  rcases z with z | z
  · exact h0 ((j - 13) / 14) (by omega) (by omega)
  · have := (hl ((j - 13) / 14) (by omega)).1; omega
theorem absent_val (hq : q < 5) : x_X4_ifAbsent S 0 (nI q) = ((0, x_X4_outcome (x_X4_tryWeek S 0) (nI q)), emb S 1 (trw S 0)) := by
  have n0 : ¬ nI q < 0 := nI_pos (by omega)
  have n5 : nI q < (5 : Int32) := nI_lt (b := 5) hq (by decide)
  unfold x_X4_ifAbsent
  rw [if_neg (by decide), if_neg (by decide), if_neg n0, if_pos n5, nm_eq, nm_eq, try_eq]
theorem absent_2 : x_X4_ifAbsent S 0 2 = ((0, s8 (fun i => cv S 0 (13 + 14 * i + 10))), emb S 1 (trw S 0)) := by
  refine (absent_val (q := 2) (by decide)).trans ?_
  rw [out_eq 2 (by decide), if_neg (by decide), if_neg (by decide), if_pos rfl, t_v_X0_bankDebts]
  refine congrArg (fun z : Int32 => (((0 : Nat), z), emb S 1 (trw S 0))) (s8_congr fun i hi => ?_)
  exact trw_j (by omega) (fun m hm => by omega) (fun m hm => by omega)
theorem absent_3 : x_X4_ifAbsent S 0 3 = ((0, s8 (fun i => s8 (fun o => cv S 0 (125 + 8 * i + o)))), emb S 1 (trw S 0)) := by
  refine (absent_val (q := 3) (by decide)).trans ?_
  rw [out_eq 3 (by decide), if_neg (by decide), if_neg (by decide), if_neg (by decide), if_pos rfl, t_v_X0_debtsAmongMembers]
  refine congrArg (fun z : Int32 => (((0 : Nat), z), emb S 1 (trw S 0))) (s8_congr fun i hi => ?_)
  rw [t_v_X2_debtToMembers]
  exact s8_congr fun o ho => trw_j (by omega) (fun m hm => by omega) (fun m hm => by omega)
theorem absent_4 : x_X4_ifAbsent S 0 4 = ((0, 0), emb S 1 (trw S 0)) := by
  refine (absent_val (q := 4) (by decide)).trans ?_
  rw [out_eq 4 (by decide), if_neg (by decide), if_neg (by decide), if_neg (by decide), if_neg (by decide)]
  have e : m8 (fun o => trw S 0 (13 + 14 * o + 13) - cv S 0 (13 + 14 * o + 13)) = m8 (fun _ => 0) := m8_congr fun o ho => by
    rw [trw_j (by omega) (fun m hm => by omega) (fun m hm => by omega), Int32.sub_self]
  rw [e]
  rfl
theorem RX.trial (h : RX c S) : RX c (emb S 1 F) := by
  obtain ⟨⟨T, hT⟩, h0, hg⟩ := h
  exact ⟨⟨T, rr_trial hT⟩, by rw [cv_emb_ne (by decide)]; exact h0, fun g a b => by rw [cv_emb_ne (by omega)]; exact hg g a b⟩
end BREADS2
