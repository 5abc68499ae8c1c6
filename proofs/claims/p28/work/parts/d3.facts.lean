section DBK0
variable {S T : vS} {H : vF} {cy : Int} {m k : Nat}
def bC (H : vF) (i : Nat) : Int32 := if H (13 + 14 * i + 0) = 0 then 0 else 1
def bL (H : vF) (i : Nat) : Int32 := H (13 + 14 * i + 3)
def bB (H : vF) (i : Nat) : Int32 := H (13 + 14 * i + 10)
def bF (H : vF) (i : Nat) : Int32 := H (13 + 14 * i + 11)
def bR (H : vF) (i : Nat) : Int32 := s8 (fun o => H (125 + 8 * i + o))
def bO (H : vF) (i : Nat) : Int32 := s8 (fun o => H (125 + 8 * o + i))
def bA (H : vF) (i : Nat) : Int32 := if H (13 + 14 * i + 0) = 0 then 0 else if H (13 + 14 * i + 7) = 0 then 0 else 1
def bQ (H : vF) (i : Nat) : Int32 := H (13 + 14 * i + 4)
theorem pf_lim (hrx : RX cy S) (hm : m < 8) (hh : ¬ cv S 0 (13 + 14 * m + 0) = 0) : ¬ pV (cv S 0) m 0 < 20 ∧ ¬ 2000 < pV (cv S 0) m 0 := by
  have h := hrx.2.1.1.2.1 m hm hh
  have e : pV (cv S 0) m 0 = cv S 0 (13 + 14 * m + 1) := rfl
  have i20 : (20 : Int32).toInt = 20 := by decide
  have i2000 : (2000 : Int32).toInt = 2000 := by decide
  rw [e, Int32.lt_iff_toInt_lt, Int32.lt_iff_toInt_lt, i20, i2000]
  omega
theorem pf_mis (hrx : RX cy S) (hm : m < 8) : ¬ pV (cv S 0) m 7 < pV (cv S 0) m 6 := by
  have h := hrx.2.1.1.2.2.1 m hm
  have e7 : pV (cv S 0) m 7 = cv S 0 (13 + 14 * m + 9) := rfl
  have e6 : pV (cv S 0) m 6 = cv S 0 (13 + 14 * m + 8) := rfl
  rw [e7, e6, Int32.lt_iff_toInt_lt]
  omega
theorem pf_due (hrx : RX cy S) (hm : m < 8) : ¬ pV (cv S 0) m 4 < 0 := by
  obtain ⟨T, hT⟩ := hrx.1
  have h := due_nn hT.2.2.1 hT.2.1 hm
  have e : pV (cv S 0) m 4 = v_X2_due (cv S 0) m := rfl
  rw [e, Int32.lt_iff_toInt_lt, z32]
  omega
theorem pf_loan (hrx : RX cy S) (hm : m < 8) : (pV (cv S 0) m 3 ≤ 0 ∧ pV (cv S 0) m 2 ≤ 0 ∧ pV (cv S 0) m 1 ≤ 0 ∧ pV (cv S 0) m 4 = 0 ∧ v_X0_weeksOfFund (cv S 0) m = -1 ∧ ¬ pV (cv S 0) m 1 < pV (cv S 0) m 2 ∧ ¬ 0 < pV (cv S 0) m 3) ∨ (¬ pV (cv S 0) m 3 ≤ 0 ∧ ¬ pV (cv S 0) m 2 ≤ 0 ∧ ¬ pV (cv S 0) m 1 ≤ 0 ∧ ¬ pV (cv S 0) m 1 < pV (cv S 0) m 2 ∧ 0 < pV (cv S 0) m 3) := by
  obtain ⟨T, hT⟩ := hrx.1
  have hL := LM_H hT m hm
  have hg := hrx.2.1.1.2.2.2.2.2.1 m hm
  have e1 : pV (cv S 0) m 1 = cv S 0 (13 + 14 * m + 2) := rfl
  have e2 : pV (cv S 0) m 2 = cv S 0 (13 + 14 * m + 3) := rfl
  have e3 : pV (cv S 0) m 3 = cv S 0 (13 + 14 * m + 4) := rfl
  have e4 : pV (cv S 0) m 4 = v_X2_due (cv S 0) m := rfl
  by_cases c : cv S 0 (13 + 14 * m + 4) = 0
  · obtain ⟨a, b, d, f⟩ := hL.2.2.2.2.2.2.2.2 c
    rw [e1, e2, e3, e4, a, b, c, due_none c, bl_none c]
    exact Or.inl ⟨by decide, by decide, by decide, rfl, rfl, by decide, by decide⟩
  · have h4 := hL.1
    have h4' : ¬ (cv S 0 (13 + 14 * m + 4)).toInt = 0 := fun z => c (Int32.toInt_inj.mp (by rw [z]; decide))
    rcases hg with hg | hg
    · exact absurd hg c
    · rw [e1, e2, e3]
      refine Or.inr ⟨?_, ?_, ?_, ?_, ?_⟩
      · rw [Int32.le_iff_toInt_le, z32]; omega
      · rw [Int32.le_iff_toInt_le, z32]; omega
      · rw [Int32.le_iff_toInt_le, z32]; omega
      · rw [Int32.lt_iff_toInt_lt]; omega
      · rw [Int32.lt_iff_toInt_lt, z32]; omega
theorem pf_nl (hrx : RX cy S) (hm : m < 8) (hh : ¬ cv S 0 (13 + 14 * m + 0) = 0) : ¬ v_X2_nextLimit (cv S 0) m < 20 ∧ ¬ 2000 < v_X2_nextLimit (cv S 0) m ∧ (¬ 0 < pV (cv S 0) m 6 → ¬ v_X2_nextLimit (cv S 0) m < pV (cv S 0) m 0) := by
  obtain ⟨a, b, d⟩ := limit_rng (hrx.2.1.1.2.1 m hm hh)
  have e0 : pV (cv S 0) m 0 = cv S 0 (13 + 14 * m + 1) := rfl
  have e6 : pV (cv S 0) m 6 = cv S 0 (13 + 14 * m + 8) := rfl
  have i20 : (20 : Int32).toInt = 20 := by decide
  have i2000 : (2000 : Int32).toInt = 2000 := by decide
  have h8 := (hrx.2.1.1.2.2.1 m hm).1
  refine ⟨by rw [Int32.lt_iff_toInt_lt, i20]; omega, by rw [Int32.lt_iff_toInt_lt, i2000]; omega, fun q => ?_⟩
  rw [e6, Int32.lt_iff_toInt_lt, z32] at q
  have z : cv S 0 (13 + 14 * m + 8) = 0 := Int32.toInt_inj.mp (by rw [z32]; omega)
  have := d z
  rw [e0, Int32.lt_iff_toInt_lt]
  omega
/-- what one who is no member adds -/
theorem nh_zero (hrx : RX cy S) (hm : m < 8) (hh : cv S 0 (13 + 14 * m + 0) = 0) : bC (cv S 0) m = 0 ∧ bL (cv S 0) m = 0 ∧ bB (cv S 0) m = 0 ∧ bF (cv S 0) m = 0 ∧ bR (cv S 0) m = 0 ∧ bO (cv S 0) m = 0 ∧ bA (cv S 0) m = 0 ∧ bQ (cv S 0) m = 0 := by
  obtain ⟨T, hT⟩ := hrx.1
  obtain ⟨a, b, d⟩ := hrx.2.1.1.2.2.2.2.1 m hm hh
  have h0 : T 1 (13 + 14 * m + 0) = 0 := by rw [← hT.2.1.h hm (w := 0) (by decide)]; exact hh
  have h4 : cv S 0 (13 + 14 * m + 4) = 0 := by rw [hT.2.1.h hm (w := 4) (by decide)]; exact hT.2.2.1.2.2.2.2.2.2.2.2.2.2.2.2.2.1 m hm h0
  have h3 := ((LM_H hT m hm).2.2.2.2.2.2.2.2 h4).2.1
  refine ⟨if_pos hh, h3, a, b, ?_, ?_, if_pos hh, h4⟩
  · exact (s8_congr fun o ho => (d o ho).1).trans (show s8 (fun _ => (0 : Int32)) = 0 from rfl)
  · exact (s8_congr fun o ho => (d o ho).2).trans (show s8 (fun _ => (0 : Int32)) = 0 from rfl)
theorem bQ_nn (hrx : RX cy S) : ∀ j, j < 8 → 0 ≤ (bQ (cv S 0) j).toInt := by
  obtain ⟨T, hT⟩ := hrx.1
  exact fun j hj => (LM_H hT j hj).1
/-- the sums -/
theorem tf_3 : pS (bC (cv S 0)) 8 = cV S 3 := by
  rw [cV_3, s8_pS]
  refine pS_cong 8 fun j hj => ?_
  unfold bC
  by_cases c : cv S 0 (13 + 14 * j + 0) = 0
  · rw [if_pos c, if_pos (bz_iff.mpr c)]
  · rw [if_neg c, if_neg (fun q => c (bz_iff.mp q))]
theorem tf_5 : pS (bL (cv S 0)) 8 = cV S 5 := cV_5.symm
theorem tf_6 : pS (bB (cv S 0)) 8 = cV S 6 := cV_6.symm
theorem tf_7 : pS (bF (cv S 0)) 8 = cV S 7 := cV_7.symm
theorem tf_8 : pS (bR (cv S 0)) 8 = cV S 8 := cV_8.symm
theorem tf_o : pS (bO (cv S 0)) 8 = pS (bR (cv S 0)) 8 := pS_swap (r := fun i o => cv S 0 (125 + 8 * o + i)) 8 8
theorem tf_14 : pS (bA (cv S 0)) 8 = cV S 14 := by
  rw [cV_14, s8_pS]
  refine pS_cong 8 fun j hj => ?_
  unfold bA
  by_cases c : cv S 0 (13 + 14 * j + 0) = 0
  · rw [if_pos c, if_pos (bz_iff.mpr c)]
  · rw [if_neg c, if_neg (fun q => c (bz_iff.mp q))]
    by_cases d : cv S 0 (13 + 14 * j + 7) = 0
    · rw [if_pos d, if_pos (bz_iff.mpr d)]
    · rw [if_neg d, if_neg (fun q => d (bz_iff.mp q))]
theorem tf_w : x_X4_weeksToGo S = pM (bQ (cv S 0)) 8 := rd_togo
theorem tf_4 (hrx : RX cy S) : ¬ cV S 4 < 0 := by
  obtain ⟨T, hT⟩ := hrx.1
  rw [cV_4, hT.2.1.g (by decide), Int32.lt_iff_toInt_lt, z32]
  have := hT.2.2.1.2.2.2.2.2.2.2.1.1
  omega
theorem tf_12 : cV S 12 = cV S 9 + cV S 10 - cV S 11 := by rw [cV_12, cV_9, cV_10, cV_11]
theorem bk_arith {a b p u v : Int32} {y z : Int} (e : a.toInt + b.toInt = p.toInt + y + z) (ha : 0 ≤ a.toInt) (hb : 0 ≤ b.toInt) (hp : 0 ≤ p.toInt) (hy : 0 ≤ y) (hz : 0 ≤ z) (hab : a.toInt + b.toInt < 100000000) (hu : u.toInt = y) (hv : v.toInt = z) : a + b - p = u + v := by
  refine Int32.toInt_inj.mp ?_
  have t := fb_addI (x := a) (y := b) (by omega) (by omega)
  rw [fb_subI (by rw [t]; omega) (by rw [t]; omega), t, fb_addI (by omega) (by omega), hu, hv]
  omega
theorem bk_lt {a b p : Int32} {y z W L : Int} (e : a.toInt + b.toInt = p.toInt + y + z) (hp : 0 ≤ p.toInt) (hy : 0 ≤ y) (hz : 0 ≤ z) (hW : W ≤ 999) (hL : L ≤ 8) (ha : a.toInt ≤ 16000 * W + 2000 * L) (hb : b.toInt ≤ 800 * W) : a.toInt + b.toInt < 100000000 ∧ y < 2147483648 ∧ z < 2147483648 := by omega
theorem bk_row {F : vF} (hI : IR 999 F) : F 9 + F 10 - F 11 = s8 (fun o => F (13 + 14 * o + 3)) + s8 (fun o => F (13 + 14 * o + 10)) := by
  obtain ⟨h1, h2, h3, h4, h5, h6, h7, h8, h9, h10, h11, h12, h13, h14, h15⟩ := hI
  have n3 : ∀ o, o < 8 → 0 ≤ (F (13 + 14 * o + 3)).toInt := fun o ho => (h2 o ho).2.2.2.1
  have n10 : ∀ o, o < 8 → 0 ≤ (F (13 + 14 * o + 10)).toInt := fun o ho => (h3 o ho).1
  have z3 : 0 ≤ Zs F 3 := si_nonneg n3
  have z10 : 0 ≤ Zs F 10 := si_nonneg n10
  obtain ⟨b1, b2, b3⟩ := bk_lt h9 h10 z3 z10 h4.2 (Lc_0 (F := F)).2 h11.2 h12.2
  exact bk_arith h9 h11.1 h12.1 h10 z3 z10 b1 (s8_toInt n3 b2) (s8_toInt n10 b3)
theorem tf_bk (hrx : RX cy S) : cV S 12 = pS (bL (cv S 0)) 8 + pS (bB (cv S 0)) 8 := by
  obtain ⟨T, hT⟩ := hrx.1
  have hR := hT.2.1
  have eL : pS (bL (cv S 0)) 8 = s8 (fun o => T 1 (13 + 14 * o + 3)) := (pS_cong (h := fun o => T 1 (13 + 14 * o + 3)) 8 fun j hj => hR.h hj (w := 3) (by decide)).trans s8_pS.symm
  have eB : pS (bB (cv S 0)) 8 = s8 (fun o => T 1 (13 + 14 * o + 10)) := (pS_cong (h := fun o => T 1 (13 + 14 * o + 10)) 8 fun j hj => hR.h hj (w := 10) (by decide)).trans s8_pS.symm
  rw [cV_12, hR.g (j := 9) (by decide), hR.g (j := 10) (by decide), hR.2, eL, eB]
  exact bk_row hT.2.2.1
theorem tf_chair (hrx : RX cy S) : cV S 2 = -1 ∨ ∃ k, k < 8 ∧ cV S 2 = nI k ∧ ¬ cv S 0 (13 + 14 * k + 0) = 0 := by
  rw [cV_2]
  exact hrx.2.1.1.2.2.2.1
theorem nI_n1 {k : Nat} (hk : k < 8) : ¬ nI k = -1 := by
  have : ∀ k, k < 8 → ¬ nI k = -1 := by decide
  exact this k hk
theorem tf_weak (hrx : RX cy S) : x_X4_weakest S = -1 ∨ ∃ k, k < 8 ∧ x_X4_weakest S = nI k ∧ ¬ cv S 0 (13 + 14 * k + 0) = 0 ∧ ¬ pV (cv S 0) k 3 ≤ 0 ∧ v_X0_weeksOfFund (cv S 0) k = 0 := by
  obtain ⟨T, hT⟩ := hrx.1
  have h8 : 0 ≤ (cv S 0 8).toInt := by rw [hT.2.1.g (by decide)]; exact hT.2.2.1.2.2.2.2.2.2.2.1.1
  rw [rd_weak]
  rcases weak_prop h8 (fun j hj => due_nn hT.2.2.1 hT.2.1 hj) with h | ⟨k, hk, e, hd⟩
  · exact Or.inl h
  · obtain ⟨a, b⟩ := bl_zero hd h8 (LM_H hT k hk).1
    refine Or.inr ⟨k, hk, e, fun z => ?_, nle_of_lt b, a⟩
    have z4 := (nh_zero hrx hk z).2.2.2.2.2.2.2
    have z4 : cv S 0 (13 + 14 * k + 4) = 0 := z4
    rw [z4] at b
    exact absurd b (by decide)
end DBK0
