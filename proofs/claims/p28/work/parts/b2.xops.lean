section XOPS
variable {S T : vS} {F H : vF} {k m n i g w o p q : Nat} {x y d p1 p2 p3 : Int32} {c c' : Int} {u : Nat → Int}
/-- a call that is done, or refused and nothing is changed -/
def OKs (c : Int) (S : vS) (z : (Nat × Int32) × vS) : Prop := (z.1.1 = 0 ∧ 0 ≤ z.1.2.toInt ∧ RX (c + 1) z.2) ∨ (z.1.1 = 1 ∧ z.2 = S)
theorem mth (hk : k < 8) : x_X4_memberOrThrow S (nI k) = if cv S 0 (13 + 14 * k + 0) = 0 then (2, 0) else (0, k) := by
  have ef : x_X0_find S 0 (nI k) = v_X0_find (cv S 0) (nI k) := by
    have := e_X0_find S 0 (cv S 0) (nI k)
    rw [emb_cv] at this
    exact this
  unfold x_X4_memberOrThrow
  rw [ef, find_nI hk]
  by_cases c : cv S 0 (13 + 14 * k + 0) = 0
  · rw [if_pos c, if_pos (bz_iff.mpr c)]; rfl
  · rw [if_neg c, if_neg (fun z => c (bz_iff.mp z))]; rfl
theorem mth_y (hk : k < 8) (h : ¬ cv S 0 (13 + 14 * k + 0) = 0) : x_X4_memberOrThrow S (nI k) = (0, k) := by rw [mth hk, if_neg h]
theorem hereT (hT : RR S T) (hk : k < 8) (h : ¬ cv S 0 (13 + 14 * k + 0) = 0) : T 1 (13 + 14 * k + 0) = 1 := by
  have := hT.2.2.1.here hT.2.1 hk
  exact Decidable.byContradiction fun z => h (bz_iff.mp (this.mpr z))
theorem hereR (hT : RR S T) (hk : k < 8) : cv S 0 (13 + 14 * k + 0) = 0 ↔ ¬ T 1 (13 + 14 * k + 0) = 1 := by
  rw [← bz_iff]
  exact hT.2.2.1.here hT.2.1 hk
/-- dues are never below 0 -/
theorem due_nn {W : Int} (hI : IR W F) (hR : RG F H) (hm : m < 8) : 0 ≤ (v_X2_due H m).toInt := by
  rw [due_eq hI hR hm]
  have hL := hI.2.1 m hm
  by_cases c0 : F (13 + 14 * m + 4) = 0
  · rw [n_due hm, if_pos c0]; decide
  · have h1 : 1 ≤ (F (13 + 14 * m + 4)).toInt := by
      have := hL.1
      have : ¬ (F (13 + 14 * m + 4)).toInt = 0 := fun z => c0 (Int32.toInt_inj.mp (by rw [z]; decide))
      omega
    have a := hL.due hm h1
    have b := hL.rng hm h1
    have d := hL.2.2.2.2.2.2.1
    rw [a]; omega
theorem LM_H (hT : RR S T) : ∀ m, m < 8 → LMm (cv S 0) m := fun m hm => (hT.2.2.1.2.1 m hm).cg fun w a b => hT.2.1.h hm (by omega)
/-- joining -/
theorem xb_join (h : XB u c F) (hk : k < 8) (h0 : F (13 + 14 * k + 0) = 0) (hx : x = F 2 ∨ x = nI k) : XB u c (upd (upd (upd F 2 x) (13 + 14 * k + 0) 1) (13 + 14 * k + 1) 200) := by
  obtain ⟨h1, h2, h3, h4, h5, h6, h7⟩ := h
  refine ⟨fun m hm => ?_, fun m hm => ?_, fun m hm => ?_, ?_, fun m hm => ?_, fun m hm => ?_, ?_⟩
  · rw [upd_ne (by omega), upd_ne (by omega), upd_ne (by omega)]; exact h1 m hm
  · by_cases e : m = k
    · subst e
      intro _
      rw [upd_same]; decide
    · rw [upd_ne (by omega), upd_ne (by omega), upd_ne (by omega), upd_ne (by omega), upd_ne (by omega), upd_ne (by omega)]; exact h2 m hm
  · rw [upd_ne (by omega), upd_ne (by omega), upd_ne (by omega), upd_ne (by omega), upd_ne (by omega), upd_ne (by omega)]; exact h3 m hm
  · rw [upd_ne (by omega), upd_ne (by omega), upd_same]
    rcases hx with rfl | rfl
    · rcases h4 with h4 | ⟨q, hq, e1, e2⟩
      · exact Or.inl h4
      · refine Or.inr ⟨q, hq, e1, ?_⟩
        have : q ≠ k := fun z => e2 (by rw [z]; exact h0)
        rw [upd_ne (by omega), upd_ne (by omega), upd_ne (by omega)]; exact e2
    · exact Or.inr ⟨k, hk, rfl, by rw [upd_ne (by omega), upd_same]; decide⟩
  · by_cases e : m = k
    · subst e
      rw [upd_ne (by omega), upd_same]
      intro z; exact absurd z (by decide)
    · rw [upd_ne (by omega), upd_ne (by omega), upd_ne (by omega), upd_ne (by omega), upd_ne (by omega), upd_ne (by omega), upd_ne (by omega), upd_ne (by omega), upd_ne (by omega)]
      intro z
      obtain ⟨a, b, d⟩ := h5 m hm z
      exact ⟨a, b, fun o ho => by rw [upd_ne (by omega), upd_ne (by omega), upd_ne (by omega), upd_ne (by omega), upd_ne (by omega), upd_ne (by omega)]; exact d o ho⟩
  · rw [upd_ne (by omega), upd_ne (by omega), upd_ne (by omega), upd_ne (by omega), upd_ne (by omega), upd_ne (by omega), upd_ne (by omega), upd_ne (by omega), upd_ne (by omega)]; exact h6 m hm
  · rw [upd_ne (by omega), upd_ne (by omega), upd_ne (by omega)]; exact h7
theorem xr_admit (h : XR c F) (h3 : F 3 = nI k) (hk : k < 8) (h0 : F (13 + 14 * k + 0) = 0) : (v_X0_admit F).1 = nI k ∧ XR c (v_X0_admit F).2 := by
  have hlt : nI k < (8 : Int32) := nI_lt (b := 8) (by omega) (by decide)
  have fin : ∀ x, (x = F 2 ∨ x = nI k) → ∀ y, XR c (upd (upd (upd (upd F 2 x) (13 + 14 * k + 0) 1) (13 + 14 * k + 1) 200) 3 y) := by
    intro x hx y
    have a := (xb_join (x := x) h.1 hk h0 hx).up (i := 3) (x := y) (Or.inl (nx_g (by decide) (by decide)))
    unfold XR
    have e : upd (upd (upd (upd F 2 x) (13 + 14 * k + 0) 1) (13 + 14 * k + 1) 200) 3 y 0 = F 0 := by rw [upd_ne (by omega), upd_ne (by omega), upd_ne (by omega), upd_ne (by omega)]
    rw [e]
    exact ⟨a, h.2⟩
  unfold v_X0_admit
  rw [nm_eq, h3, if_neg (nI_pos (by omega)), if_pos hlt, nm_eq, cl8 hk]
  by_cases c1 : v_X0_memberCount F = 0
  · rw [if_pos c1]
    simp only [nm_eq]
    exact ⟨trivial, fin _ (Or.inr rfl) _⟩
  · rw [if_neg c1]
    simp only [nm_eq]
    refine ⟨trivial, ?_⟩
    have := fin (F 2) (Or.inl rfl)
    rw [fa_upd_same (f := F) (i := 2) (x := F 2) rfl] at this
    exact this _
theorem ok_join (h : RX c S) : OKs c S (x_X4_join S) := by
  obtain ⟨T, hT⟩ := h.1
  have hop := (op_join hT).1
  obtain ⟨g, hg9, hg⟩ : ∃ g, g < 9 ∧ T 1 3 = nI g := vp_in_of hT.2.2.1.2.2.2.2.2.1 (by decide)
  have e3 : cv S 0 3 = T 1 3 := hT.2.1.g (by decide)
  have e1 : S (gG 0) 2 = nI g := (cvG_3 (S := S) (g := 0)).symm.trans (e3.trans hg)
  unfold x_X4_join at hop ⊢
  by_cases cc : S (gG 0) 2 < 8
  · rw [if_pos cc, nm_eq, nmp_eq] at hop ⊢
    have hg8 : g < 8 := by
      rw [e1] at cc
      exact nI_of_lt (b := 8) (by decide) cc (by omega)
    have e := e_X0_admit (x_X1_keep S 0) 0 (cv (x_X1_keep S 0) 0)
    rw [emb_cv, h.cvk] at e
    have h0 : cv S 0 (13 + 14 * g + 0) = 0 := by rw [hT.2.1.h hg8 (by decide)]; exact (join_row hT.2.2.1 hg hg8).1
    obtain ⟨a, b⟩ := xr_admit h.2.1 (e3.trans hg) hg8 h0
    rw [e] at hop ⊢
    refine Or.inl ⟨rfl, ?_, ?_⟩
    · show 0 ≤ ((v_X0_admit (cv S 0)).1).toInt
      rw [a, nI_toInt (by omega)]; omega
    · exact h.mk (by omega) hop (b.mono (by omega))
  · rw [if_neg cc]
    exact Or.inr ⟨rfl, rfl⟩
/-- leaving -/
theorem s8_of_zero {f : Nat → Int32} (h : s8 f ≤ 0) (hn : ∀ j, j < 8 → 0 ≤ (f j).toInt) (hs : fb_si (fun p => (f p).toInt) 8 < 2147483648) : ∀ j, j < 8 → f j = 0 := by
  refine (s8_zero hn hs).mp ?_
  have e := s8_toInt hn hs
  have a := si_nonneg (g := fun p => (f p).toInt) (n := 8) hn
  rw [Int32.le_iff_toInt_le, z32] at h
  exact Int32.toInt_inj.mp (by rw [z32]; omega)
theorem debt_bd {W : Int} (hI : IR W F) (hW : W ≤ 1000) {j : Nat} (hj : j < 8) (hk : k < 8) : 0 ≤ (F (125 + 8 * j + k)).toInt ∧ (F (125 + 8 * j + k)).toInt ≤ 2100000 := by
  have a := si_part (g := fun p => (F (125 + 8 * j + p)).toInt) (hI.2.2.1 j hj).2.2 hk
  have b := (hI.2.2.2.2.2.2.2.2.2.2.2.2.1 j hj).1
  have d := hI.2.2.2.1
  have a' : (F (125 + 8 * j + k)).toInt ≤ Zd F j := a
  refine ⟨(hI.2.2.1 j hj).2.2 k hk, ?_⟩
  clear a
  generalize Zd F j = z at *
  omega
theorem si_bd {f : Nat → Int32} (h : ∀ j, j < 8 → (f j).toInt ≤ 2100000) : fb_si (fun p => (f p).toInt) 8 < 2147483648 := by
  have := si_le (g := fun p => (f p).toInt) (h := fun _ => 2100000) 8 h
  exact Int.lt_of_le_of_lt this (by decide)
theorem xr_dismiss (h : XR c F) (hk : k < 8) (z10 : F (13 + 14 * k + 10) = 0) (z11 : F (13 + 14 * k + 11) = 0) (zd : ∀ o, o < 8 → F (125 + 8 * k + o) = 0 ∧ F (125 + 8 * o + k) = 0) : (v_X0_dismiss F k).1 = F (13 + 14 * k + 12) ∧ XR c (v_X0_dismiss F k).2 := by
  obtain ⟨⟨h1, h2, h3, h4, h5, h6, h7⟩, hw⟩ := h
  have base : ∀ y z, (z = -1 ∨ ∃ q, q < 8 ∧ z = nI q ∧ ¬ (upd (upd F 8 y) (13 + 14 * k + 0) 0) (13 + 14 * q + 0) = 0) → XB (fun _ => (F 0).toInt) c (upd (upd (upd F 8 y) (13 + 14 * k + 0) 0) 2 z) := by
    intro y z hz
    refine ⟨fun m hm => ?_, fun m hm => ?_, fun m hm => ?_, ?_, fun m hm => ?_, fun m hm => ?_, ?_⟩
    · rw [upd_ne (by omega), upd_ne (by omega), upd_ne (by omega)]; exact h1 m hm
    · by_cases e : m = k
      · subst e
        rw [upd_ne (by omega), upd_same]
        intro q; exact absurd rfl q
      · rw [upd_ne (by omega), upd_ne (by omega), upd_ne (by omega), upd_ne (by omega), upd_ne (by omega), upd_ne (by omega)]; exact h2 m hm
    · rw [upd_ne (by omega), upd_ne (by omega), upd_ne (by omega), upd_ne (by omega), upd_ne (by omega), upd_ne (by omega)]; exact h3 m hm
    · rw [upd_same]
      rcases hz with hz | ⟨q, hq, e1, e2⟩
      · exact Or.inl hz
      · exact Or.inr ⟨q, hq, e1, by rw [upd_ne (by omega)]; exact e2⟩
    · rw [upd_ne (show 13 + 14 * m + 10 ≠ 2 by omega), upd_ne (show 13 + 14 * m + 10 ≠ 13 + 14 * k + 0 by omega), upd_ne (show 13 + 14 * m + 10 ≠ 8 by omega), upd_ne (show 13 + 14 * m + 11 ≠ 2 by omega), upd_ne (show 13 + 14 * m + 11 ≠ 13 + 14 * k + 0 by omega), upd_ne (show 13 + 14 * m + 11 ≠ 8 by omega)]
      intro q
      have dd : F (13 + 14 * m + 10) = 0 ∧ F (13 + 14 * m + 11) = 0 ∧ ∀ o, o < 8 → F (125 + 8 * m + o) = 0 ∧ F (125 + 8 * o + m) = 0 := by
        by_cases e : m = k
        · subst e; exact ⟨z10, z11, zd⟩
        · rw [upd_ne (by omega), upd_ne (by omega), upd_ne (by omega)] at q
          exact h5 m hm q
      exact ⟨dd.1, dd.2.1, fun o ho => by rw [upd_ne (by omega), upd_ne (by omega), upd_ne (by omega), upd_ne (by omega), upd_ne (by omega), upd_ne (by omega)]; exact dd.2.2 o ho⟩
    · rw [upd_ne (by omega), upd_ne (by omega), upd_ne (by omega), upd_ne (by omega), upd_ne (by omega), upd_ne (by omega), upd_ne (by omega), upd_ne (by omega), upd_ne (by omega)]; exact h6 m hm
    · rw [upd_ne (by omega), upd_ne (by omega), upd_ne (by omega)]; exact h7
  unfold v_X0_dismiss
  simp only [nm_eq]
  by_cases c1 : upd (upd F 8 (F 8 - F (13 + 14 * k + 12))) (13 + 14 * k + 0) 0 2 = nI k
  · rw [if_pos c1]
    refine ⟨by simp (disch := omega) only [upd_ne], ?_⟩
    unfold XR
    have e0 : ∀ z, (upd (upd (upd F 8 (F 8 - F (13 + 14 * k + 12))) (13 + 14 * k + 0) 0) 2 z) 0 = F 0 := fun z => by rw [upd_ne (by omega), upd_ne (by omega), upd_ne (by omega)]
    dsimp only
    rw [e0]
    exact ⟨base _ _ next_here, hw⟩
  · rw [if_neg c1]
    refine ⟨by simp (disch := omega) only [upd_ne], ?_⟩
    unfold XR
    dsimp only
    have e0 : (upd (upd F 8 (F 8 - F (13 + 14 * k + 12))) (13 + 14 * k + 0) 0) 0 = F 0 := by rw [upd_ne (by omega), upd_ne (by omega)]
    have e2 : (upd (upd F 8 (F 8 - F (13 + 14 * k + 12))) (13 + 14 * k + 0) 0) 2 = F 2 := by rw [upd_ne (by omega), upd_ne (by omega)]
    rw [e0]
    have := base (F 8 - F (13 + 14 * k + 12)) (F 2) (h4.imp_right fun ⟨q, hq, e1, e3⟩ => ⟨q, hq, e1, by
      have : q ≠ k := fun z => c1 (by rw [e2, e1, z])
      rw [upd_ne (by omega), upd_ne (by omega)]; exact e3⟩)
    rw [fa_upd_same e2] at this
    exact ⟨this, hw⟩
theorem ok_leave (h : RX c S) (hk : k < 8) (hh : ¬ cv S 0 (13 + 14 * k + 0) = 0) : OKs c S (x_X4_leave S (nI k)) := by
  obtain ⟨T, hT⟩ := h.1
  have hop := (op_leave hT (nI k)).1
  have hW : (999 : Int) ≤ 1000 := by decide
  have hI := hT.2.2.1
  have hR := hT.2.1
  have ht := hereT hT hk hh
  have mg : x_X0_mayGo S 0 k = v_X0_mayGo (cv S 0) k := by
    have := e_X0_mayGo S 0 (cv S 0) k hk
    rw [emb_cv] at this
    exact this
  unfold x_X4_leave tbp at hop ⊢
  rw [mth_y hk hh, if_pos rfl] at hop ⊢
  dsimp only at hop ⊢
  rw [nm_eq, mg] at hop ⊢
  by_cases cc : v_X0_mayGo (cv S 0) k = 0
  · rw [if_pos cc]; exact Or.inr ⟨rfl, rfl⟩
  · rw [if_neg cc, nm_eq, nmp_eq] at hop ⊢
    have e := e_X0_dismiss (x_X1_keep S 0) 0 (cv (x_X1_keep S 0) 0) k hk
    rw [emb_cv, h.cvk] at e
    rw [e] at hop ⊢
    have mi := fun z => cc ((mayGo_eq hI hW hR hk ht).mpr z)
    have hz := goes_zero hI hW hk (fun z => mi (Or.inl z)) (Decidable.byContradiction fun z => mi (Or.inr (Or.inl ((debts_nn hI hW hk).mpr z))))
    -- the debts on both sides
    have hd0 : v_X2_hasDebts (cv S 0) k = 0 := (debts0 hI hW hR hk).mpr (Decidable.byContradiction fun z => mi (Or.inr (Or.inl ((debts_nn hI hW hk).mpr z))))
    have row : ∀ o, o < 8 → cv S 0 (125 + 8 * k + o) = 0 := by
      have hle : v_X2_debtToMembers (cv S 0) k ≤ 0 := by
        unfold v_X2_hasDebts at hd0
        rw [nm_eq] at hd0
        refine Decidable.byContradiction fun z => ?_
        rw [if_neg z] at hd0
        split at hd0
        · exact absurd hd0 (by decide)
        · split at hd0 <;> exact absurd hd0 (by decide)
      rw [t_v_X2_debtToMembers] at hle
      refine s8_of_zero hle (fun j hj => ?_) (si_bd fun j hj => ?_)
      · rw [hR.d hk hj]; exact (debt_bd hI hW hk hj).1
      · rw [hR.d hk hj]; exact (debt_bd hI hW hk hj).2
    have col : ∀ o, o < 8 → cv S 0 (125 + 8 * o + k) = 0 := by
      have hle : w_fromOthers (T 1) (nI k) ≤ 0 := Decidable.byContradiction fun z => mi (Or.inr (Or.inr (Or.inl z)))
      rw [← owed_eq hR hk, t_v_X0_owedTo] at hle
      refine s8_of_zero hle (fun j hj => ?_) (si_bd fun j hj => ?_)
      · rw [hR.d hj hk]; exact (debt_bd hI hW hj hk).1
      · rw [hR.d hj hk]; exact (debt_bd hI hW hj hk).2
    obtain ⟨a, b⟩ := xr_dismiss h.2.1 hk (by rw [hR.h hk (w := 10) (by decide)]; exact hz 10 (by decide)) (by rw [hR.h hk (w := 11) (by decide)]; exact hz 11 (by decide)) fun o ho => ⟨row o ho, col o ho⟩
    refine Or.inl ⟨rfl, ?_, ?_⟩
    · show 0 ≤ ((v_X0_dismiss (cv S 0) k).1).toInt
      rw [a, hR.s hk (w := 12) (by decide) (Or.inl ht)]
      exact (hI.2.2.2.2.2.2.2.2.2.2.2.2.1 k hk).2.1
    · exact h.mk (by omega) hop (b.mono (by omega))
/-- what changes no place that counts -/
theorem xr_nx (h : XR c F) (hi : ¬ xrl i) : XR c (upd F i x) := h.up hi
theorem ok_absent (h : RX c S) (hk : k < 8) (hh : ¬ cv S 0 (13 + 14 * k + 0) = 0) : OKs c S (x_X4_absent S (nI k)) ∧ (x_X4_absent S (nI k)).1.1 = 0 := by
  obtain ⟨T, hT⟩ := h.1
  have hop := (op_absent hT (nI k)).1
  have key : ∀ x, st (x_X1_keep S 0) (gM 0 k) 8 x = emb (x_X1_keep S 0) 0 (upd (cv S 0) (13 + 14 * k + 7) x) := by
    intro x
    have := esM_8 (S := x_X1_keep S 0) (g := 0) (F := cv (x_X1_keep S 0) 0) (x := x) hk
    rw [emb_cv, h.cvk] at this
    exact this
  have aw : ∀ F, 0 ≤ (x_X0_awayMembers (emb (x_X1_keep S 0) 0 F) 0).toInt := by
    intro F
    rw [e_X0_awayMembers, t_v_X0_awayMembers]
    obtain ⟨d, hd, e⟩ := s8_cnt (f := fun i => if bz (F (13 + 14 * i + 0)) = 0 then 0 else if bz (F (13 + 14 * i + 7)) = 0 then 0 else 1) (fun j hj => by
      split
      · exact Or.inl rfl
      · split
        · exact Or.inl rfl
        · exact Or.inr rfl)
    rw [e, nI_toInt (by omega)]; omega
  unfold x_X4_absent tbp at hop ⊢
  rw [mth_y hk hh, if_pos rfl] at hop ⊢
  dsimp only at hop ⊢
  simp only [nm_eq] at hop ⊢
  by_cases cc : bz (x_X1_keep S 0 (gM 0 k) 8) = 0
  · rw [if_pos cc, key] at hop ⊢
    exact ⟨Or.inl ⟨rfl, aw _, h.mk (by omega) hop ((h.2.1.mono (by omega)).up (nx_w hk (by omega)))⟩, rfl⟩
  · rw [if_neg cc, key] at hop ⊢
    exact ⟨Or.inl ⟨rfl, aw _, h.mk (by omega) hop ((h.2.1.mono (by omega)).up (nx_w hk (by omega)))⟩, rfl⟩
end XOPS
