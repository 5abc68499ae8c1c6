section WEEKALL
variable {F H : vF} {G : vG} {hr : Nat → Prop} {m k i n : Nat} {x y v : Int32} {B : Nat → Int32}
/-- places that savings and the end of a week do not change -/
def Fy (j : Nat) : Prop := j ≠ 0 ∧ j ≠ 2 ∧ j ≠ 8 ∧ ¬ (13 ≤ j ∧ j < 125 ∧ ((j - 13) % 14 = 7 ∨ (j - 13) % 14 = 12))
def FY (F F' : vF) : Prop := ∀ j, Fy j → F' j = F j
theorem FY.rf : FY F F := fun _ _ => rfl
theorem FY.tr {F1 F2 : vF} (h : FY F F1) (h2 : FY F1 F2) : FY F F2 := fun j hj => (h2 j hj).trans (h j hj)
theorem FY.up {F' : vF} (h : FY F F') (hi : ¬ Fy i) : FY F (upd F' i x) := by
  intro j hj
  have hne : j ≠ i := fun e => hi (by rw [← e]; exact hj)
  rw [upd_ne hne]
  exact h j hj
theorem nFy_g (h : i = 0 ∨ i = 2 ∨ i = 8) : ¬ Fy i := by unfold Fy; omega
theorem nFy_w {w : Nat} (hm : m < 8) (hw : w = 7 ∨ w = 12) : ¬ Fy (13 + 14 * m + w) := by
  unfold Fy
  have e : (13 + 14 * m + w - 13) % 14 = w := by omega
  rw [e]
  omega
theorem fy_save (hi : i < 8) : FY G.1 (wSave G i).1 := by
  unfold wSave
  by_cases c1 : G.1 (13 + 14 * i + 0) = 1
  · rw [if_pos c1]
    by_cases c2 : G.1 (13 + 14 * i + 7) = 0
    · rw [if_pos c2]
      exact FY.up (FY.up FY.rf (nFy_g (by decide))) (nFy_w hi (by decide))
    · rw [if_neg c2]; exact FY.rf
  · rw [if_neg c1]; exact FY.rf
theorem fy_itS : ∀ (n i : Nat) (G : vG), i + n = 8 → FY G.1 (itWS n G i).1 := by
  intro n
  induction n with
  | zero => intro i G h; exact FY.rf
  | succ n ih => intro i G h; exact (fy_save (by omega)).tr (ih (i + 1) _ (by omega))
theorem fy_end : FY G.1 (wEnd G).1 := by
  unfold wEnd
  by_cases c : ((G.1 0 + 1) - (G.1 0 + 1) / G.1 6 * G.1 6) = 0
  · rw [if_pos c]
    exact FY.up (FY.up FY.rf (nFy_g (by decide))) (nFy_g (by decide))
  · rw [if_neg c]
    exact FY.up FY.rf (nFy_g (by decide))
theorem fy_itZ : ∀ (n i : Nat) (G : vG), i + n = 8 → FY G.1 (itZ n G i).1 := by
  intro n
  induction n with
  | zero => intro i G h; exact FY.rf
  | succ n ih =>
    intro i G h
    have h1 : FY G.1 (upq G (13 + 14 * i + 7) 0).1 := FY.up FY.rf (nFy_w (by omega) (by decide))
    exact h1.tr (ih (i + 1) _ (by omega))
theorem Fy_g {j : Nat} (h : j < 13 ∧ j ≠ 0 ∧ j ≠ 2 ∧ j ≠ 8) : Fy j := ⟨h.2.1, h.2.2.1, h.2.2.2, fun q => absurd q.1 (by omega)⟩
theorem Fy_w {w : Nat} (hm : m < 8) (hw : w < 14 ∧ w ≠ 7 ∧ w ≠ 12) : Fy (13 + 14 * m + w) := by
  unfold Fy
  have e : (13 + 14 * m + w - 13) % 14 = w := by omega
  rw [e]
  omega
theorem Fy_d {p : Nat} : Fy (125 + 8 * m + p) := by
  unfold Fy
  omega
theorem ND.fy {F' : vF} (h : FY F F') (hN : ND F) : ND F' := by
  intro o ho
  have h10 := h _ (Fy_w ho (w := 10) (by decide))
  have h11 := h _ (Fy_w ho (w := 11) (by decide))
  have hd : ∀ p, F' (125 + 8 * o + p) = F (125 + 8 * o + p) := fun p => h _ Fy_d
  unfold NDm
  simp only [h10, h11, hd]
  exact hN o ho
/-- what is left of a model's week, once the dues are settled -/
def wRest (G : vG) (v : Int32) : vG := itZ 8 (wEnd (itWS 8 (upq G 11 (G.1 11 + v)) 0)) 0
theorem fy_rest : FY (upd G.1 11 (G.1 11 + v)) (wRest G v).1 := (fy_itS 8 0 (upq G 11 (G.1 11 + v)) rfl).tr (fy_end.tr (fy_itZ 8 0 _ rfl))
theorem sr_week (hG : G.1 = F) (hA : AG (okA hr) F H) (h11 : H 11 = F 11) (hf : ∀ o, o < 8 → (F (13 + 14 * o + 0) = 0 ∨ F (13 + 14 * o + 0) = 1)) (hh : ∀ o, o < 8 → F (13 + 14 * o + 0) = 1 → hr o) (h6 : ¬ F 6 ≤ 0) (hc : chairOK (F 2)) (hN : ∀ Sh : Nat → Int32, (∀ o, o < 8 → Sh o = 0) → ND (itS 8 (F, Sh, 0) 0 0).2.1) :
    ∃ r G', w_ends G = (r, G') ∧ SR hr (fun o => H (13 + 14 * o + 13)) G' (v_X0_endWeek H) 0 ∧ v_X0_endWeek H 11 = H 11 + r := by
  subst hG
  obtain ⟨Sh, hz, hcut⟩ := ends_cut G
  refine ⟨_, _, hcut, ?_⟩
  have hS0 : SR hr (fun o => H (13 + 14 * o + 13)) (G.1, Sh, (0 : Int32)) H 0 := by
    refine ⟨hA, ?_, ?_, hf, hh⟩
    · rw [Int32.add_zero]; exact h11
    · intro o ho
      show H (13 + 14 * o + 13) = H (13 + 14 * o + 13) + Sh o
      rw [hz o ho, Int32.add_zero]
  have hS1 := sr_it 8 0 _ _ _ rfl hS0
  have hX := fx_it (F := G.1) 8 0 (G.1, Sh, 0) 0 rfl FX.rf
  have hN1 := hN Sh hz
  generalize itS 8 (G.1, Sh, 0) 0 0 = p at hS1 hX hN1 ⊢
  obtain ⟨r, G1⟩ := p
  dsimp only at hS1 hX hN1 ⊢
  have hS2 := hS1.book
  have e6 : G1.1 6 = G.1 6 := hX 6 (Or.inl (by decide))
  have e2 : G1.1 2 = G.1 2 := hX 2 (Or.inl (by decide))
  have e11 : G1.1 11 = G.1 11 := hX 11 (Or.inr (Or.inr (Or.inl rfl)))
  have hN2 : ND (upq G1 11 (G1.1 11 + r)).1 := by
    intro o ho
    have := hN1 o ho
    unfold NDm at this ⊢
    simp (disch := omega) only [upq_1, upd_ne]
    exact this
  have hS3 := sr_itS 8 0 _ _ rfl hS2
  have hY := fy_itS 8 0 (upq G1 11 (G1.1 11 + r)) rfl
  have hN3 := ND.fy hY hN2
  have f6 : (itWS 8 (upq G1 11 (G1.1 11 + r)) 0).1 6 = G.1 6 := (hY 6 (Fy_g (by decide))).trans (by rw [upq_1, upd_ne (by decide)]; exact e6)
  have c2 : chairOK ((itWS 8 (upq G1 11 (G1.1 11 + r)) 0).1 2) := by
    have : ∀ (n i : Nat) (G : vG), i + n = 8 → (itWS n G i).1 2 = G.1 2 := by
      intro n
      induction n with
      | zero => intro i G h; rfl
      | succ n ih =>
        intro i G h
        refine (ih (i + 1) _ (by omega)).trans ?_
        unfold wSave
        by_cases c1 : G.1 (13 + 14 * i + 0) = 1
        · rw [if_pos c1]
          by_cases c2 : G.1 (13 + 14 * i + 7) = 0
          · rw [if_pos c2]
            simp (disch := omega) only [upq_1, upd_ne]
          · rw [if_neg c2]
        · rw [if_neg c1]
    rw [this 8 0 _ rfl, upq_1, upd_ne (by decide), e2]
    exact hc
  have hS4 := sr_end hS3 (by rw [f6]; exact h6) c2 hN3
  have hS5 := sr_zero 8 0 _ _ rfl hS4
  have hv : v_X0_endWeek H = itVZ 8 (vEnd (itVS 8 (itV 8 H 0) 0)) 0 := n_endWeek_it 8 0 H rfl
  rw [hv]
  refine ⟨hS5, ?_⟩
  rw [hS5.2.1, Int32.add_zero, h11]
  have := (fy_rest (G := G1) (v := r)) 11 (Fy_g (by decide))
  unfold wRest at this
  rw [this, upd_same, e11]
end WEEKALL
