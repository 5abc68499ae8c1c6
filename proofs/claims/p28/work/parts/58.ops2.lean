section OPS2
variable {F H : vF} {G G' : vG} {m k i n p w : Nat} {x y v v' : Int32} {W : Int}
/-- the row behind a new loan -/
def fLend (F : vF) (m : Nat) (a b : Int32) : vF := upd (upd (upd (upd (upd (upd F (13 + 14 * m + 2) a) (13 + 14 * m + 3) a) (13 + 14 * m + 4) b) (13 + 14 * m + 5) (a / b)) (13 + 14 * m + 6) (a * F 4 / 1000)) 9 (F 9 + a)
theorem lends_w (h : IR W F) (hm : m < 8) (hG : G.1 = F) (h0 : F (13 + 14 * m + 4) = 0) : w_lends G (nI m) x y = (w_due (fLend F m x y) (nI m), (fLend F m x y, G.2)) := by
  obtain ⟨b2, b3, b5, b6⟩ := (h.2.1 m hm).2.2.2.2.2.2.2.2 h0
  subst hG
  clear h
  unfold w_lends fLend
  simp only [nm_eq, nad_2 hm, nad_3 hm, nad_4 hm, nad_5 hm, nad_6 hm, upq_1]
  simp (disch := omega) only [upd_ne]
  rw [b2, b3, h0, b5, b6]
  simp only [Int32.zero_add]
  rfl
theorem lend_v (hR : RG F H) (hm : m < 8) (hy : 1 ≤ y) : RG (fLend F m x y) (v_X0_grantLoan H m x y) := by
  have g4 := hR.g (j := 4) (by decide)
  have g9 := hR.g (j := 9) (by decide)
  unfold v_X0_grantLoan v_X2_borrow fLend
  rw [if_pos hy]
  simp only [nm_eq]
  simp (disch := omega) only [upd_ne]
  rw [g4, g9]
  have e : upd (upd (upd (upd (upd (upd H (13 + 14 * m + 2) x) (13 + 14 * m + 5) (x / y)) (13 + 14 * m + 6) (x * F 4 / 1000)) (13 + 14 * m + 3) x) (13 + 14 * m + 4) y) 9 (F 9 + x) = upd (upd (upd (upd (upd (upd H (13 + 14 * m + 2) x) (13 + 14 * m + 3) x) (13 + 14 * m + 4) y) (13 + 14 * m + 5) (x / y)) (13 + 14 * m + 6) (x * F 4 / 1000)) 9 (F 9 + x) := by
    congr 1
    funext j
    simp only [upd_at]
    by_cases c3 : j = 13 + 14 * m + 3
    · subst c3; simp (disch := omega) only [if_pos, if_neg]
    by_cases c4 : j = 13 + 14 * m + 4
    · subst c4; simp (disch := omega) only [if_pos, if_neg]
    simp only [if_neg c3, if_neg c4]
  rw [e]
  refine RG.up (RG.up (RG.up (RG.up (RG.up (RG.up hR rfl ?_ ?_) rfl ?_ ?_) rfl ?_ ?_) rfl ?_ ?_) rfl ?_ ?_) rfl ?_ ?_
  all_goals first | omega | (intro o ho; omega)
theorem lend_ir (h : IR W F) (hW : W ≤ 999) (hm : m < 8) (h0 : F (13 + 14 * m + 4) = 0) (hh : F (13 + 14 * m + 0) = 1) {a b : Nat} (ha : 10 ≤ a ∧ a ≤ 2000) (hb : 1 ≤ b ∧ b ≤ 52) : IR W (fLend F m (nI a) (nI b)) := by
  have hL := h.2.1 m hm
  obtain ⟨b2, b3, b5, b6⟩ := hL.2.2.2.2.2.2.2.2 h0
  have h7 := h.2.2.2.2.2.2.1.1
  have ta : (nI a).toInt = a := nI_toInt (by omega)
  have tb : (nI b).toInt = b := nI_toInt (by omega)
  have td : (nI a / nI b).toInt = (a / b : Nat) := by
    have : a / b ≤ a := Nat.div_le_self a b
    rw [pk_div (by omega) (by omega) (by omega), nI_toInt (by omega)]
  obtain ⟨c, hc, ec⟩ : ∃ c : Nat, c ≤ 50 ∧ F 4 = nI c := by
    obtain ⟨j, hj, e⟩ := nI_of (x := F 4) (by rw [Int32.lt_iff_toInt_lt, z32]; omega)
    refine ⟨j, ?_, e⟩
    have := h7.2
    rw [e, nI_toInt hj] at this
    omega
  have hac : a * c ≤ 100000 := by
    have := Nat.mul_le_mul ha.2 hc
    omega
  have ti : (nI a * F 4 / 1000).toInt = (a * c / 1000 : Nat) := by
    rw [ec, pk_mul, show (1000 : Int32) = nI 1000 from rfl, pk_div (by omega) (by decide) (by decide), nI_toInt (by omega)]
  have hl : Lc (fLend F m (nI a) (nI b)) = Lc F + 1 := by
    unfold fLend
    rw [Lc_g (by decide), Lc_w (by decide), Lc_w (by decide), Lc_up hm ?_ (nI_ne0 (by omega) (by omega)), Lc_w (by decide), Lc_w (by decide)]
    simp (disch := omega) only [upd_ne]
    exact h0
  have hs3 : Zs (fLend F m (nI a) (nI b)) 3 = Zs F 3 + a := by
    unfold fLend
    simp (disch := omega) only [Zs_g, Zs_w]
    rw [Zs_up hm]
    simp (disch := omega) only [Zs_w, upd_ne]
    rw [ta, b3, z32]
    omega
  have hs : ∀ w, w = 10 ∨ w = 11 → Zs (fLend F m (nI a) (nI b)) w = Zs F w := by
    intro w hw
    unfold fLend
    simp (disch := omega) only [Zs_g, Zs_w]
  have hd : ∀ o, Zd (fLend F m (nI a) (nI b)) o = Zd F o := by
    intro o
    unfold fLend
    simp (disch := omega) only [Zd_h]
  have r2 : fLend F m (nI a) (nI b) (13 + 14 * m + 2) = nI a := by unfold fLend; simp (disch := omega) only [upd_ne, upd_same]
  have r3 : fLend F m (nI a) (nI b) (13 + 14 * m + 3) = nI a := by unfold fLend; simp (disch := omega) only [upd_ne, upd_same]
  have r4 : fLend F m (nI a) (nI b) (13 + 14 * m + 4) = nI b := by unfold fLend; simp (disch := omega) only [upd_ne, upd_same]
  have r5 : fLend F m (nI a) (nI b) (13 + 14 * m + 5) = nI a / nI b := by unfold fLend; simp (disch := omega) only [upd_ne, upd_same]
  have r6 : fLend F m (nI a) (nI b) (13 + 14 * m + 6) = nI a * F 4 / 1000 := by unfold fLend; simp (disch := omega) only [upd_ne, upd_same]
  have r9 : fLend F m (nI a) (nI b) 9 = F 9 + nI a := by unfold fLend; rw [upd_same]
  have rj : ∀ j, j ≠ 9 → ¬ (13 + 14 * m + 2 ≤ j ∧ j ≤ 13 + 14 * m + 6) → fLend F m (nI a) (nI b) j = F j := by
    intro j h1 h2
    unfold fLend
    simp (disch := omega) only [upd_ne]
  generalize fLend F m (nI a) (nI b) = F' at *
  obtain ⟨h1, h2, h3, h4, h5, h6, h7', h8, h9, h10, h11, h12, h13, h14, h15⟩ := h
  have lc := Lc_0 (F := F)
  have t9 : (F' 9).toInt = (F 9).toInt + a := by
    rw [r9, ← ta]
    have A := h11; have B := h4; have C := lc.2
    generalize Lc F = l at *
    clear hs3 hl h9 h8 ti td hL
    refine fb_addI ?_ ?_ <;> rw [ta] <;> omega
  refine ⟨?_, ?_, ?_, ?_, ?_, ?_, ?_, ?_, ?_, ?_, ?_, ?_, ?_, ?_, ?_⟩
  · intro o ho
    rw [rj _ (by omega) (by omega), rj _ (by omega) (by omega)]
    exact h1 o ho
  · intro o ho
    by_cases c : o = m
    · subst c
      unfold LMm
      rw [r2, r3, r4, r5, r6, ta, tb, td, ti]
      have q1 : (a / b) * b ≤ a := Nat.div_mul_le_self a b
      have q2 : a * c / 1000 ≤ 100 := by clear td ti; omega
      refine ⟨by omega, by omega, Int.natCast_nonneg _, by omega, by omega, ?_, Int.natCast_nonneg _, Int.ofNat_le.mpr q2, fun q => absurd q (nI_ne0 (by omega) (by omega))⟩
      exact_mod_cast q1
    · exact (h2 o ho).cg fun w _ _ => rj _ (by omega) (by omega)
  · intro o ho
    unfold DMm
    rw [rj _ (by omega) (by omega), rj _ (by omega) (by omega)]
    refine ⟨(h3 o ho).1, (h3 o ho).2.1, fun p hp => ?_⟩
    rw [rj _ (by omega) (by omega)]
    exact (h3 o ho).2.2 p hp
  · rw [rj 0 (by omega) (by omega)]; exact h4
  · rw [rj 2 (by omega) (by omega)]; exact h5
  · rw [rj 3 (by omega) (by omega)]; exact h6
  · rw [rj 4 (by omega) (by omega), rj 5 (by omega) (by omega), rj 6 (by omega) (by omega), rj 7 (by omega) (by omega)]; exact h7'
  · rw [rj 8 (by omega) (by omega), rj 0 (by omega) (by omega), hs 11 (Or.inr rfl)]; exact h8
  · rw [t9, rj 10 (by omega) (by omega), rj 11 (by omega) (by omega), hs3, hs 10 (Or.inl rfl)]
    generalize Zs F 3 = z3 at *
    generalize Zs F 10 = z10 at *
    clear hs hd hs3 h8
    omega
  · rw [rj 11 (by omega) (by omega)]; exact h10
  · rw [t9, rj 0 (by omega) (by omega), hl]
    generalize Lc F = l at *
    clear hs hd hs3 h8 h9
    exact ⟨by omega, by omega⟩
  · rw [rj 10 (by omega) (by omega), rj 0 (by omega) (by omega)]; exact h12
  · intro o ho
    rw [hd o, rj 0 (by omega) (by omega), rj _ (by omega) (by omega)]; exact h13 o ho
  · intro o ho q
    rw [rj _ (by omega) (by omega)] at q
    by_cases c : o = m
    · subst c; exact absurd (q.symm.trans hh) (by decide)
    · rw [rj _ (by omega) (by omega)]; exact h14 o ho q
  · intro o ho q
    rw [rj 3 (by omega) (by omega)] at q
    rw [rj _ (by omega) (by omega), rj _ (by omega) (by omega), rj _ (by omega) (by omega)]
    exact h15 o ho q
end OPS2
