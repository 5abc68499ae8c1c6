section XRS
variable {S T : vS} {F H : vF} {k m n i g w : Nat} {x y : Int32} {c c' : Int}
/-- what more holds of a class's row between calls; u bounds what was missed, c the number of the cycle -/
def XB (u : Nat → Int) (c : Int) (F : vF) : Prop :=
  (∀ m, m < 8 → F (125 + 8 * m + m) = 0) ∧
  (∀ m, m < 8 → ¬ F (13 + 14 * m + 0) = 0 → 20 ≤ (F (13 + 14 * m + 1)).toInt ∧ (F (13 + 14 * m + 1)).toInt ≤ 2000) ∧
  (∀ m, m < 8 → 0 ≤ (F (13 + 14 * m + 8)).toInt ∧ (F (13 + 14 * m + 8)).toInt ≤ (F (13 + 14 * m + 9)).toInt ∧ (F (13 + 14 * m + 9)).toInt ≤ u m) ∧
  (F 2 = -1 ∨ ∃ k, k < 8 ∧ F 2 = nI k ∧ ¬ F (13 + 14 * k + 0) = 0) ∧
  (∀ m, m < 8 → F (13 + 14 * m + 0) = 0 → F (13 + 14 * m + 10) = 0 ∧ F (13 + 14 * m + 11) = 0 ∧ ∀ o, o < 8 → F (125 + 8 * m + o) = 0 ∧ F (125 + 8 * o + m) = 0) ∧
  (∀ m, m < 8 → F (13 + 14 * m + 4) = 0 ∨ (1 ≤ (F (13 + 14 * m + 3)).toInt ∧ (F (13 + 14 * m + 3)).toInt ≤ (F (13 + 14 * m + 2)).toInt)) ∧
  (0 ≤ (F 1).toInt ∧ (F 1).toInt ≤ c)
/-- .. and of the number of the week -/
def XR (c : Int) (F : vF) : Prop := XB (fun _ => (F 0).toInt) c F ∧ (F 0).toInt ≤ c
/-- the places that XR speaks of -/
def xrl (j : Nat) : Prop := j < 3 ∨ (13 ≤ j ∧ j < 125 ∧ (j - 13) % 14 ≠ 5 ∧ (j - 13) % 14 ≠ 6 ∧ (j - 13) % 14 ≠ 7 ∧ (j - 13) % 14 ≠ 12 ∧ (j - 13) % 14 ≠ 13) ∨ (125 ≤ j ∧ j < 189)
theorem xrl_g (h : i < 3) : xrl i := Or.inl h
theorem xrl_w (hm : m < 8) (hw : w < 12) (h : w ≠ 5 ∧ w ≠ 6 ∧ w ≠ 7) : xrl (13 + 14 * m + w) := Or.inr (Or.inl (by
  have : (13 + 14 * m + w - 13) % 14 = w := by omega
  rw [this]
  omega))
theorem xrl_d (hm : m < 8) (hk : k < 8) : xrl (125 + 8 * m + k) := Or.inr (Or.inr (by omega))
theorem XB.cg {u : Nat → Int} {F' : vF} (h : XB u c F) (e : ∀ j, 1 ≤ j → xrl j → F' j = F j) : XB u c F' := by
  obtain ⟨h1, h2, h3, h4, h5, h6, h7⟩ := h
  refine ⟨fun m hm => ?_, fun m hm => ?_, fun m hm => ?_, ?_, fun m hm => ?_, fun m hm => ?_, ?_⟩
  · rw [e _ (by omega) (xrl_d hm hm)]; exact h1 m hm
  · rw [e _ (by omega) (xrl_w (w := 0) hm (by decide) (by decide)), e _ (by omega) (xrl_w (w := 1) hm (by decide) (by decide))]; exact h2 m hm
  · rw [e _ (by omega) (xrl_w (w := 8) hm (by decide) (by decide)), e _ (by omega) (xrl_w (w := 9) hm (by decide) (by decide))]; exact h3 m hm
  · rw [e 2 (by decide) (xrl_g (by decide))]
    rcases h4 with h4 | ⟨k, hk, e1, e2⟩
    · exact Or.inl h4
    · exact Or.inr ⟨k, hk, e1, by rw [e _ (by omega) (xrl_w (w := 0) hk (by decide) (by decide))]; exact e2⟩
  · rw [e _ (by omega) (xrl_w (w := 0) hm (by decide) (by decide)), e _ (by omega) (xrl_w (w := 10) hm (by decide) (by decide)), e _ (by omega) (xrl_w (w := 11) hm (by decide) (by decide))]
    intro h0
    obtain ⟨a, b, d⟩ := h5 m hm h0
    exact ⟨a, b, fun o ho => by rw [e _ (by omega) (xrl_d hm ho), e _ (by omega) (xrl_d ho hm)]; exact d o ho⟩
  · rw [e _ (by omega) (xrl_w (w := 2) hm (by decide) (by decide)), e _ (by omega) (xrl_w (w := 3) hm (by decide) (by decide)), e _ (by omega) (xrl_w (w := 4) hm (by decide) (by decide))]; exact h6 m hm
  · rw [e 1 (by decide) (xrl_g (by decide))]; exact h7
theorem XB.mono {u u' : Nat → Int} (h : XB u c F) (hc : c ≤ c') (hu : ∀ m, m < 8 → u m ≤ u' m) : XB u' c' F := ⟨h.1, h.2.1, fun m hm => ⟨(h.2.2.1 m hm).1, (h.2.2.1 m hm).2.1, Int.le_trans (h.2.2.1 m hm).2.2 (hu m hm)⟩, h.2.2.2.1, h.2.2.2.2.1, h.2.2.2.2.2.1, h.2.2.2.2.2.2.1, Int.le_trans h.2.2.2.2.2.2.2 hc⟩
theorem XB.up {u : Nat → Int} (h : XB u c F) (hi : ¬ xrl i ∨ i = 0) : XB u c (upd F i x) := h.cg fun j h1 hj => upd_ne (fun z => hi.elim (fun q => q (by rw [← z]; exact hj)) (fun q => by omega))
theorem XR.cg {F' : vF} (h : XR c F) (e : ∀ j, xrl j → F' j = F j) : XR c F' := by
  unfold XR at h ⊢
  rw [e 0 (xrl_g (by decide))]
  exact ⟨XB.cg h.1 fun j _ hj => e j hj, h.2⟩
theorem XR.up (h : XR c F) (hi : ¬ xrl i) : XR c (upd F i x) := h.cg fun j hj => upd_ne (fun z => hi (by rw [← z]; exact hj))
theorem XR.mono (h : XR c F) (hc : c ≤ c') : XR c' F := ⟨XB.mono h.1 hc fun _ _ => Int.le_refl _, Int.le_trans h.2 hc⟩
theorem xrl_lt {j : Nat} (h : xrl j) : j < 189 := by unfold xrl at h; omega
theorem XR.c189 {F' : vF} (h : XR c F) (e : ∀ j, j < 189 → F' j = F j) : XR c F' := h.cg fun j hj => e j (xrl_lt hj)
theorem nx_g (h : 3 ≤ i) (h2 : i < 13) : ¬ xrl i := by unfold xrl; omega
theorem nx_w (hm : m < 8) (h : w = 5 ∨ w = 6 ∨ w = 7 ∨ w = 12 ∨ w = 13) : ¬ xrl (13 + 14 * m + w) := by
  unfold xrl
  have : (13 + 14 * m + w - 13) % 14 = w := by omega
  rw [this]
  omega
theorem bzr_0 (hm : m < 8) : bzr F (13 + 14 * m + 0) = bz (F (13 + 14 * m + 0)) := by unfold bzr; rw [if_pos (by omega)]
theorem bzr_o {j : Nat} (h : ¬ (13 ≤ j ∧ j < 125 ∧ ((j - 13) % 14 = 0 ∨ (j - 13) % 14 = 7))) : bzr F j = F j := by unfold bzr; rw [if_neg h]
theorem bzr_w (hm : m < 8) (hw : w < 14) (h : w ≠ 0 ∧ w ≠ 7) : bzr F (13 + 14 * m + w) = F (13 + 14 * m + w) := bzr_o (by
  have : (13 + 14 * m + w - 13) % 14 = w := by omega
  rw [this]
  omega)
theorem bzr_d (h : 125 ≤ i) : bzr F i = F i := bzr_o (by omega)
theorem bzr_g (h : i < 13) : bzr F i = F i := bzr_o (by omega)
theorem XR.bzz (h : XR c F) : XR c (bzr F) := by
  unfold XR at h ⊢
  rw [bzr_g (i := 0) (by decide)]
  obtain ⟨⟨h1, h2, h3, h4, h5, h6, h7⟩, hw⟩ := h
  refine ⟨⟨fun m hm => ?_, fun m hm => ?_, fun m hm => ?_, ?_, fun m hm => ?_, fun m hm => ?_, ?_⟩, hw⟩
  · rw [bzr_d (by omega)]; exact h1 m hm
  · rw [bzr_0 hm, bz_iff, bzr_w (w := 1) hm (by decide) (by decide)]; exact h2 m hm
  · rw [bzr_w (w := 8) hm (by decide) (by decide), bzr_w (w := 9) hm (by decide) (by decide)]; exact h3 m hm
  · rw [bzr_g (by decide)]
    rcases h4 with h4 | ⟨k, hk, e1, e2⟩
    · exact Or.inl h4
    · exact Or.inr ⟨k, hk, e1, by rw [bzr_0 hk, bz_iff]; exact e2⟩
  · rw [bzr_0 hm, bz_iff, bzr_w (w := 10) hm (by decide) (by decide), bzr_w (w := 11) hm (by decide) (by decide)]
    intro h0
    obtain ⟨a, b, d⟩ := h5 m hm h0
    exact ⟨a, b, fun o ho => by rw [bzr_d (by omega), bzr_d (by omega)]; exact d o ho⟩
  · rw [bzr_w (w := 2) hm (by decide) (by decide), bzr_w (w := 3) hm (by decide) (by decide), bzr_w (w := 4) hm (by decide) (by decide)]; exact h6 m hm
  · rw [bzr_g (by decide)]; exact h7
/-- a state of the class that some state of the other side goes with, and what more holds of its groups -/
def RX (c : Int) (S : vS) : Prop := (∃ T, RR S T) ∧ XR c (cv S 0) ∧ ∀ g, 2 ≤ g → g < 8 → XR c (cv S g)
theorem RX.mono (h : RX c S) (hc : c ≤ c') : RX c' S := ⟨h.1, h.2.1.mono hc, fun g a b => (h.2.2 g a b).mono hc⟩
theorem keep_cv (hH : HH S T) : ∀ g, 2 ≤ g → g < 8 → cv (x_X1_keep S 0) g = cv S g ∨ ∀ j, j < 189 → cv (x_X1_keep S 0) g j = bzr (cv S 0) j := by
  obtain ⟨o, s, ho, hs, e1, e2, e3, -⟩ := hH
  have hm : x_J9_floorMod_7cf53 S (nI o + nI s) 6 = nI ((o + s) % 6) := by rw [nI_add]; exact fm6 S (by omega)
  have hc6 : (nI ((o + s) % 6)).toNatClampNeg = (o + s) % 6 := nI_clamp (by omega)
  have hk0 : x_X1_keep S 0 = (if 6 ≤ S hO 2 then st (emb S ((o + s) % 6 + 2) (bzr (cv S 0))) hO 1 (nI ((o + 1) % 6)) else st (emb S ((o + s) % 6 + 2) (bzr (cv S 0))) hO 2 (S hO 2 + 1)) := by
    have eh : ∀ (F : vF) j, emb S ((o + s) % 6 + 2) F hO j = S hO j := fun F j => emb_out (by unfold hO; omega)
    unfold x_X1_keep
    rw [e1, e2, hm, nm_eq, hc6, copy_thm (by omega), nm_eq, eh, eh, e1, e2]
    have e4 : nI o + 1 = nI (o + 1) := nI_1 o
    have f6' : x_J9_floorMod_7cf53 (emb S ((o + s) % 6 + 2) (bzr (cv S 0))) (nI (o + 1)) 6 = nI ((o + 1) % 6) := fm6 _ (by omega)
    rw [e4, f6', nm_eq, nm_eq, nm_eq]
  have hne : ∀ g, g < 8 → ¬ (19 * g ≤ hO ∧ hO < 19 * g + 19) := fun g hg => by unfold hO; omega
  have key : ∀ g, g < 8 → ∀ q x, cv (st (emb S ((o + s) % 6 + 2) (bzr (cv S 0))) hO q x) g = cv S g ∨ ∀ j, j < 189 → cv (st (emb S ((o + s) % 6 + 2) (bzr (cv S 0))) hO q x) g j = bzr (cv S 0) j := by
    intro g hg q x
    rw [cv_st (hne g hg)]
    by_cases c : (o + s) % 6 + 2 = g
    · rw [c]
      exact Or.inr fun j hj => cv_emb hj
    · exact Or.inl (cv_emb_ne c)
  intro g h2 h8
  rw [hk0]
  by_cases c : (6 : Int32) ≤ S hO 2
  · rw [if_pos c]; exact key g h8 _ _
  · rw [if_neg c]; exact key g h8 _ _
theorem RX.kept (h : RX c S) : ∀ g, 2 ≤ g → g < 8 → XR c (cv (x_X1_keep S 0) g) := by
  obtain ⟨⟨T, hT⟩, h0, hg⟩ := h
  intro g a b
  rcases keep_cv hT.1 g a b with e | e
  · rw [e]; exact hg g a b
  · exact h0.bzz.c189 e
/-- a call that saves and writes a row -/
theorem RX.mk (h : RX c S) (hc : c ≤ c') (hT : RR (emb (x_X1_keep S 0) 0 H) T) (hx : XR c' H) : RX c' (emb (x_X1_keep S 0) 0 H) :=
  ⟨⟨T, hT⟩, hx.c189 fun j hj => cv_emb hj, fun g a b => by rw [cv_emb_ne (by omega)]; exact (h.kept g a b).mono hc⟩
theorem RX.cvk (h : RX c S) : cv (x_X1_keep S 0) 0 = cv S 0 := by
  obtain ⟨⟨T, hT⟩, -⟩ := h
  exact hT.keep.2.2.2
end XRS
