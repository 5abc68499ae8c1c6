section OPS1
variable {F H : vF} {G G' : vG} {m k i n p w : Nat} {x y v v' : Int32} {W : Int}
theorem RG.g (h : RG F H) {j : Nat} (hj : j < 13) : H j = F j := by
  by_cases c : j = 11
  · rw [c]; exact h.2
  · exact (h.1 j (okA_g hj c)).symm
theorem RG.d (h : RG F H) (hm : m < 8) (hi : i < 8) : H (125 + 8 * m + i) = F (125 + 8 * m + i) := (h.1 _ (okA_d hm hi)).symm
theorem RG.h (h : RG F H) (hm : m < 8) {w : Nat} (hw : w = 0 ∨ w = 2 ∨ w = 3 ∨ w = 4 ∨ w = 5 ∨ w = 6 ∨ w = 10 ∨ w = 11) : H (13 + 14 * m + w) = F (13 + 14 * m + w) := (h.1 _ (okA_h hm hw)).symm
theorem RG.s (h : RG F H) (hm : m < 8) {w : Nat} (hw : w < 14) (e : hrF F m) : H (13 + 14 * m + w) = F (13 + 14 * m + w) := (h.1 _ (okA_s hm hw e)).symm
theorem RG.up (h : RG F H) (e : x = y) (h3 : i ≠ 3) (h0 : ∀ o, o < 8 → i ≠ 13 + 14 * o + 0) : RG (upd F i x) (upd H i y) := by
  refine ⟨(h.1.up e).hr fun j hj => okA_mono ?_ hj, by rw [upd_at, upd_at, h.2, e]⟩
  intro m hm q
  unfold hrF at q ⊢
  rw [upd_ne (Ne.symm (h0 m hm)), upd_ne (Ne.symm h3)] at q
  exact q
theorem IR.here (h : IR W F) (hR : RG F H) (hm : m < 8) : bz (H (13 + 14 * m + 0)) = 0 ↔ ¬ F (13 + 14 * m + 0) = 1 := by
  rw [bz_iff, hR.h hm (Or.inl rfl)]
  rcases (h.1 m hm).1 with e | e <;> rw [e] <;> decide
theorem LMm_g (h : i < 13) : LMm (upd F i x) m = LMm F m := by unfold LMm; simp (disch := omega) only [upd_ne]
theorem LMm_d (h : 125 ≤ i) (hm : m < 8) : LMm (upd F i x) m = LMm F m := by unfold LMm; simp (disch := omega) only [upd_ne]
theorem LMm_w (h : (w < 2 ∨ 6 < w) ∧ w < 14) : LMm (upd F (13 + 14 * k + w) x) m = LMm F m := by unfold LMm; simp (disch := omega) only [upd_ne]
theorem LMm_o (h : k ≠ m) (hw : w < 14) : LMm (upd F (13 + 14 * k + w) x) m = LMm F m := by unfold LMm; simp (disch := omega) only [upd_ne]
theorem DMm_g (h : i < 13) : DMm (upd F i x) m = DMm F m := by unfold DMm; simp (disch := omega) only [upd_ne]
theorem DMm_w (h : w ≠ 10 ∧ w ≠ 11 ∧ w < 14) (hk : k < 8) : DMm (upd F (13 + 14 * k + w) x) m = DMm F m := by unfold DMm; simp (disch := omega) only [upd_ne]
theorem DMm_o (h : k ≠ m) (hw : w < 14) (hk : k < 8) : DMm (upd F (13 + 14 * k + w) x) m = DMm F m := by unfold DMm; simp (disch := omega) only [upd_ne]
theorem Lc_g (h : i < 13) : Lc (upd F i x) = Lc F := by
  unfold Lc
  exact fb_si_cong fun o ho => by rw [upd_ne (by omega)]
theorem Lc_d (h : 125 ≤ i) : Lc (upd F i x) = Lc F := by
  unfold Lc
  exact fb_si_cong fun o ho => by rw [upd_ne (by omega)]
theorem Lc_w (h : w ≠ 4 ∧ w < 14) : Lc (upd F (13 + 14 * k + w) x) = Lc F := by
  unfold Lc
  exact fb_si_cong fun o ho => by rw [upd_ne (by omega)]
theorem Lc_up (hk : k < 8) (h0 : F (13 + 14 * k + 4) = 0) (hx : ¬ x = 0) : Lc (upd F (13 + 14 * k + 4) x) = Lc F + 1 := by
  have e : (fun o => if upd F (13 + 14 * k + 4) x (13 + 14 * o + 4) = 0 then (0 : Int) else 1) = fun o => if o = k then 1 else (fun o => if F (13 + 14 * o + 4) = 0 then (0 : Int) else 1) o := by
    funext o
    rw [upd_at]
    by_cases c : o = k
    · subst c; rw [if_pos rfl, if_pos rfl, if_neg hx]
    · rw [if_neg (show ¬ 13 + 14 * o + 4 = 13 + 14 * k + 4 by omega), if_neg c]
  unfold Lc
  rw [e, fb_si_upd _ _ hk]
  rw [if_pos h0]
  omega
theorem due_eq (h : IR W F) (hR : RG F H) (hm : m < 8) : v_X2_due H m = w_due F (nI m) := by
  have e3 := hR.h hm (w := 3) (by decide)
  have e4 := hR.h hm (w := 4) (by decide)
  have e5 := hR.h hm (w := 5) (by decide)
  have e6 := hR.h hm (w := 6) (by decide)
  have h4 := (h.2.1 m hm).1
  unfold v_X2_due
  rw [nm_eq, n_due hm, n_partOf hm]
  by_cases c : F (13 + 14 * m + 4) = 0
  · rw [if_pos c, if_pos (hasLoan_iff.mpr (by rw [e4, c]; decide))]
  · have c2 : ¬ F (13 + 14 * m + 4) ≤ 0 := by
      intro q
      rw [Int32.le_iff_toInt_le, z32] at q
      exact c (Int32.toInt_inj.mp (by rw [z32]; omega))
    rw [if_neg c, if_neg (fun q => c2 (by rw [← e4]; exact hasLoan_iff.mp q)), nm_eq]
    unfold v_X2_part
    rw [e3, e4, e5, e6]
theorem IR.nd (h : IR W F) (hW : W ≤ 1000) : ND F := by
  obtain ⟨h1, h2, h3, h4, h5, h6, h7, h8, h9, h10, h11, h12, h13, h14, h15⟩ := h
  intro o ho
  have hD := h3 o ho
  have a := si_part (g := fun o => (F (13 + 14 * o + 10)).toInt) (fun o ho => (h3 o ho).1) ho
  have b := si_part (g := fun o => (F (13 + 14 * o + 11)).toInt) (fun o ho => (h3 o ho).2.1) ho
  have c := (h13 o ho).1
  have z3 : 0 ≤ Zs F 3 := si_nonneg fun o ho => (h2 o ho).2.2.2.1
  have a' : (F (13 + 14 * o + 10)).toInt ≤ Zs F 10 := a
  have b' : (F (13 + 14 * o + 11)).toInt ≤ Zs F 11 := b
  have L := (Lc_0 (F := F)).2
  refine ⟨hD.1, hD.2.1, hD.2.2, ?_⟩
  show _ + _ + Zd F o < _
  clear a b h1 h2 h3 h5 h6 h7 h13 h14 h15
  generalize Zd F o = zd at *
  generalize Zs F 3 = y3 at *
  generalize Zs F 10 = y10 at *
  generalize Zs F 11 = y11 at *
  generalize Lc F = l at *
  omega
theorem debts0 (h : IR W F) (hW : W ≤ 1000) (hR : RG F H) (hm : m < 8) : v_X2_hasDebts H m = 0 ↔ w_debts F (nI m) = 0 :=
  hasDebts_iff hm (h.nd hW m hm) (hR.h hm (by decide)) (hR.h hm (by decide)) fun p hp => hR.d hm hp
theorem debts_nn (h : IR W F) (hW : W ≤ 1000) (hm : m < 8) : 0 < w_debts F (nI m) ↔ ¬ w_debts F (nI m) = 0 := by
  have e := n_debts hm (h.nd hW m hm)
  obtain ⟨h1, h2, h3, h4⟩ := h.nd hW m hm
  have h0 := si_nonneg (g := fun p => (F (125 + 8 * m + p)).toInt) (n := 8) h3
  rw [Int32.lt_iff_toInt_lt, z32, e, ← Int32.toInt_inj, z32, e]
  generalize fb_si (fun p => (F (125 + 8 * m + p)).toInt) 8 = z at *
  omega
/-- what both sides say of a wish to borrow -/
theorem mayBorrow_eq (h : IR W F) (hW : W ≤ 1000) (hR : RG F H) (hm : m < 8) (hh : F (13 + 14 * m + 0) = 1) : v_X2_mayBorrow H m x = 0 ↔ (0 < F (13 + 14 * m + 4) ∨ 0 < w_debts F (nI m) ∨ ¬ x ≤ F (13 + 14 * m + 1)) := by
  have e4 := hR.h hm (w := 4) (by decide)
  have e1 := hR.s hm (w := 1) (by decide) (Or.inl hh)
  have hd := debts0 h hW hR hm
  have hdn := debts_nn h hW hm
  unfold v_X2_mayBorrow
  rw [nm_eq]
  by_cases c1 : v_X2_hasLoan H m = 0
  · have c1' : ¬ 0 < F (13 + 14 * m + 4) := by
      have := hasLoan_iff.mp c1
      rw [e4] at this
      exact nlt_of_le this
    rw [if_pos c1, nm_eq]
    by_cases c2 : v_X2_hasDebts H m = 0
    · have c2' : ¬ 0 < w_debts F (nI m) := fun q => hdn.mp q (hd.mp c2)
      rw [if_pos c2, e1]
      by_cases c3 : F (13 + 14 * m + 1) < x
      · rw [if_pos c3]
        exact ⟨fun _ => Or.inr (Or.inr (nle_of_lt c3)), fun _ => rfl⟩
      · rw [if_neg c3]
        exact ⟨fun q => absurd q (by decide), fun q => absurd (q.resolve_left c1') (fun q => q.elim c2' (fun q => q (fa_of_nlt c3)))⟩
    · rw [if_neg c2]
      exact ⟨fun _ => Or.inr (Or.inl (hdn.mpr fun q => c2 (hd.mpr q))), fun _ => rfl⟩
  · rw [if_neg c1]
    refine ⟨fun _ => Or.inl ?_, fun _ => rfl⟩
    rw [← e4]
    exact fa_of_nle fun q => c1 (hasLoan_iff.mpr q)
/-- absent -/
theorem IR.away (h : IR W F) (hm : m < 8) (hx : x = 0 ∨ x = 1) : IR W (upd F (13 + 14 * m + 7) x) := by
  unfold IR at h ⊢
  simp (disch := omega) only [upd_ne, Zs_w, Zd_h, LMm_w, DMm_w, Lc_w]
  refine ⟨fun o ho => ⟨(h.1 o ho).1, ?_⟩, h.2⟩
  rw [upd_at]
  split
  · exact hx
  · exact (h.1 o ho).2
/-- set -/
theorem IR.set (h : IR W F) {s : Nat} (hs : s < 4) (hx : (s = 0 → 0 ≤ x.toInt ∧ x.toInt ≤ 50) ∧ (s = 1 → 0 ≤ x.toInt ∧ x.toInt ≤ 99) ∧ (s = 2 → 1 ≤ x.toInt ∧ x.toInt ≤ 20) ∧ (s = 3 → 0 ≤ x.toInt ∧ x.toInt ≤ 100)) : IR W (upd F (4 + s) x) := by
  unfold IR at h ⊢
  simp (disch := omega) only [upd_ne, Zs_g, Zd_h, LMm_g, DMm_g, Lc_g]
  obtain ⟨h1, h2, h3, h4, h5, h6, h7, h8⟩ := h
  refine ⟨h1, h2, h3, h4, h5, h6, ?_, h8⟩
  obtain ⟨a, b, c, d⟩ := h7
  obtain ⟨x0, x1, x2, x3⟩ := hx
  obtain rfl | rfl | rfl | rfl : s = 0 ∨ s = 1 ∨ s = 2 ∨ s = 3 := by omega
  · simp (disch := omega) only [upd_ne]
    exact ⟨x0 rfl, b, c, d⟩
  · simp (disch := omega) only [upd_ne]
    exact ⟨a, x1 rfl, c, d⟩
  · simp (disch := omega) only [upd_ne]
    exact ⟨a, b, x2 rfl, d⟩
  · simp (disch := omega) only [upd_ne]
    exact ⟨a, b, c, x3 rfl⟩
end OPS1
