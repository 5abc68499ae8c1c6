section WEEKTHM
variable {F H : vF} {G G' : vG} {m k i n p w : Nat} {x y v v' : Int32} {W : Int}
/-- the members of whom both sides hold all -/
def hrF (F : vF) (m : Nat) : Prop := F (13 + 14 * m + 0) = 1 ∨ (F 3).toInt ≤ (m : Int)
/-- the class's row H is the model's row F -/
def RG (F H : vF) : Prop := AG (okA (hrF F)) F H ∧ H 11 = F 11
theorem AG.hr {A A' : Nat → Prop} (h : AG A F H) (e : ∀ j, A' j → A j) : AG A' F H := fun j hj => h j (e j hj)
theorem okA_mono {hr hr' : Nat → Prop} (h : ∀ m, m < 8 → hr' m → hr m) {j : Nat} (hj : okA hr' j) : okA hr j := by
  refine ⟨hj.1, hj.2.1, fun s => ?_⟩
  have := hj.2.2 s
  exact h _ (by have := s.2.1; omega) this
/-- a model's week's row, seen from the row before -/
theorem ir_rest {G1 : vG} (hI : IR W F) (hW : W ≤ 999) (hS : IS (F 0).toInt 8 G1 v) (hX : FX F G1.1) (hnh : ∀ o, o < 8 → G1.1 (13 + 14 * o + 0) = 0 → G1.1 (13 + 14 * o + 4) = 0) (hn8 : ∀ o, o < 8 → F (13 + 14 * o + 0) = 0 → G1.1 (13 + 14 * o + 8) = F (13 + 14 * o + 8)) :
    IR (W + 1) (wRest G1 v).1 ∧ ((wRest G1 v).1 0).toInt = (F 0).toInt + 1 ∧ (∀ o, o < 8 → (wRest G1 v).1 (13 + 14 * o + 0) = F (13 + 14 * o + 0)) ∧ (wRest G1 v).1 3 = F 3 ∧ (∀ o, o < 8 → (wRest G1 v).1 (13 + 14 * o + 7) = 0) := by
  obtain ⟨h1, h2, h3, h4, h5, h6, h7, h8, h9, h10, h11, h12, h13, h14, h15⟩ := hI
  have hz := hS.zs
  have hbd := hS
  obtain ⟨i1, i2, i3, i4, i5, i6, i7, i8, i9, i10, i11, i12⟩ := hS
  -- the stages
  have hY := fy_rest (G := G1) (v := v)
  have s0 := itS_2 8 0 (upq G1 11 (G1.1 11 + v)) rfl
  have f0 : G1.1 0 = F 0 := hX 0 (Or.inl (by decide))
  have f2 : G1.1 2 = F 2 := hX 2 (Or.inl (by decide))
  have f3 : G1.1 3 = F 3 := hX 3 (Or.inl (by decide))
  have f4 : G1.1 4 = F 4 := hX 4 (Or.inl (by decide))
  have f5 : G1.1 5 = F 5 := hX 5 (Or.inl (by decide))
  have f6 : G1.1 6 = F 6 := hX 6 (Or.inl (by decide))
  have f7 : G1.1 7 = F 7 := hX 7 (Or.inl (by decide))
  have f9 : G1.1 9 = F 9 := hX 9 (Or.inr (Or.inl rfl))
  have f11 : G1.1 11 = F 11 := hX 11 (Or.inr (Or.inr (Or.inl rfl)))
  have hc : chairOK ((itWS 8 (upq G1 11 (G1.1 11 + v)) 0).1 2) := by
    rw [s0.2.1, upq_1, upd_ne (by decide), f2]; exact h5
  obtain ⟨e0, e2, e8⟩ := end_vals hc
  obtain ⟨z7, zj, _⟩ := zero_vals 8 0 (wEnd (itWS 8 (upq G1 11 (G1.1 11 + v)) 0)) rfl
  have b8 := i4.1
  have b8' := i4.2
  have zs11 := hz.2.2.1
  have w0 := h4.1
  have w1 := h4.2
  have up8 : (G1.1 8).toInt ≤ 792000 := by
    clear hz i5 i7 i8 h9 h11 h12 h8
    generalize Zs G1.1 11 = z at b8' zs11
    omega
  have hs8 := save_8 (pb := hpB (upq G1 11 (G1.1 11 + v)).1) 8 0 (upq G1 11 (G1.1 11 + v)) rfl (fun _ _ => rfl) (by rw [upq_1, upd_ne (by decide), f5]; exact h7.2.1.1) (by rw [upq_1, upd_ne (by decide), f5]; exact h7.2.1.2) (by rw [upq_1, upd_ne (by decide)]; exact b8) (by rw [upq_1, upd_ne (by decide)]; exact Int.le_trans (Int.add_le_add_right up8 _) (by decide))
  have g0 : (wRest G1 v).1 0 = F 0 + 1 := by
    unfold wRest
    rw [zj 0 (fun o _ ho => by omega), e0, s0.1, upq_1, upd_ne (by decide), f0]
  have g2 : chairOK ((wRest G1 v).1 2) := by
    unfold wRest
    rw [zj 2 (fun o _ ho => by omega)]; exact e2
  have g8 : (wRest G1 v).1 8 = (itWS 8 (upq G1 11 (G1.1 11 + v)) 0).1 8 := by
    unfold wRest
    rw [zj 8 (fun o _ ho => by omega)]; exact e8
  have u8 : (upq G1 11 (G1.1 11 + v)).1 8 = G1.1 8 := by rw [upq_1, upd_ne (by decide)]
  rw [u8, ← g8] at hs8
  have g7 : ∀ o, o < 8 → (wRest G1 v).1 (13 + 14 * o + 7) = 0 := fun o ho => z7 o (Nat.zero_le o) ho
  have gw : ∀ o, o < 8 → ∀ w, w < 14 ∧ w ≠ 7 ∧ w ≠ 12 → (wRest G1 v).1 (13 + 14 * o + w) = G1.1 (13 + 14 * o + w) := fun o ho w hw => by
    rw [hY _ (Fy_w ho hw), upd_ne (by omega)]
  have gd : ∀ o, o < 8 → ∀ p, (wRest G1 v).1 (125 + 8 * o + p) = G1.1 (125 + 8 * o + p) := fun o ho p => by
    rw [hY _ Fy_d, upd_ne (by omega)]
  have gg : ∀ j, j < 13 ∧ j ≠ 0 ∧ j ≠ 2 ∧ j ≠ 8 → j ≠ 11 → (wRest G1 v).1 j = G1.1 j := fun j hj h11 => by
    rw [hY _ (Fy_g hj), upd_ne h11]
  have g11 : (wRest G1 v).1 11 = G1.1 11 + v := by rw [hY _ (Fy_g (by decide)), upd_same]
  have gf : ∀ o, o < 8 → (wRest G1 v).1 (13 + 14 * o + 0) = F (13 + 14 * o + 0) := fun o ho => by
    rw [gw o ho 0 (by decide)]
    exact hX _ (Or.inr (Or.inr (Or.inr ⟨by omega, by omega, Or.inl (by omega)⟩)))
  have g1 : ∀ o, o < 8 → (wRest G1 v).1 (13 + 14 * o + 1) = F (13 + 14 * o + 1) := fun o ho => by
    rw [gw o ho 1 (by decide)]
    exact hX _ (Or.inr (Or.inr (Or.inr ⟨by omega, by omega, Or.inr (Or.inl (by omega))⟩)))
  have f12 : ∀ o, o < 8 → G1.1 (13 + 14 * o + 12) = F (13 + 14 * o + 12) := fun o ho => hX _ (Or.inr (Or.inr (Or.inr ⟨by omega, by omega, Or.inr (Or.inr (Or.inr (by omega)))⟩)))
  have u12 : ∀ o, (upq G1 11 (G1.1 11 + v)).1 (13 + 14 * o + 12) = G1.1 (13 + 14 * o + 12) := fun o => by rw [upq_1, upd_ne (by omega)]
  have g12 : ∀ o, o < 8 → (F (13 + 14 * o + 12)).toInt ≤ ((wRest G1 v).1 (13 + 14 * o + 12)).toInt ∧ ((wRest G1 v).1 (13 + 14 * o + 12)).toInt ≤ (F (13 + 14 * o + 12)).toInt + 99 := by
    intro o ho
    have q := save_12 8 0 (upq G1 11 (G1.1 11 + v)) rfl (by rw [upq_1, upd_ne (by decide), f5]; exact h7.2.1.1) (by rw [upq_1, upd_ne (by decide), f5]; exact h7.2.1.2) (fun o ho _ => by
      rw [u12, f12 o ho]
      have a := (h13 o ho).2.1
      have b := (h13 o ho).2.2
      clear hz i5 i7 i8 h9 h11 h12 h8 b8' hs8
      exact ⟨a, by omega⟩) o ho
    rw [u12, f12 o ho, if_pos (Nat.zero_le o)] at q
    have e : (wRest G1 v).1 (13 + 14 * o + 12) = (itWS 8 (upq G1 11 (G1.1 11 + v)) 0).1 (13 + 14 * o + 12) := by
      unfold wRest
      rw [zj _ (fun o' _ ho' => by omega)]
      unfold wEnd
      by_cases c : (((itWS 8 (upq G1 11 (G1.1 11 + v)) 0).1 0 + 1) - ((itWS 8 (upq G1 11 (G1.1 11 + v)) 0).1 0 + 1) / (itWS 8 (upq G1 11 (G1.1 11 + v)) 0).1 6 * (itWS 8 (upq G1 11 (G1.1 11 + v)) 0).1 6) = 0
      · rw [if_pos c, upq_1, upd_ne (by omega), upq_1, upd_ne (by omega)]
      · rw [if_neg c, upq_1, upd_ne (by omega)]
    rw [e]
    exact q
  have hw0 : (F 0 + 1).toInt = (F 0).toInt + 1 := by
    have one : (1 : Int32).toInt = 1 := by decide
    clear hz i5 i7 i8 h9 h11 h12 h8 b8' hs8
    rw [fb_addI (by rw [one]; omega) (by rw [one]; omega), one]
  have e3s : Zs (wRest G1 v).1 3 = Zs G1.1 3 := Zs_cg fun o ho => gw o ho 3 (by decide)
  have e10s : Zs (wRest G1 v).1 10 = Zs G1.1 10 := Zs_cg fun o ho => gw o ho 10 (by decide)
  have e11s : Zs (wRest G1 v).1 11 = Zs G1.1 11 := Zs_cg fun o ho => gw o ho 11 (by decide)
  have eds : ∀ o, o < 8 → Zd (wRest G1 v).1 o = Zd G1.1 o := fun o ho => Zd_cg fun p _ => gd o ho p
  have z3n := hz.1
  have z10n := hz.2.1
  have hv : (G1.1 11 + v).toInt = (G1.1 11).toInt + v.toInt := by
    have a := i5; have b := i6; have c := i7; have d := i8
    generalize Zs G1.1 3 = z3 at *
    generalize Zs G1.1 10 = z10 at *
    clear e3s e10s e11s eds hs8 b8' hz hw0 h9 h8 h11
    exact fb_addI (by omega) (by omega)
  refine ⟨⟨?_, ?_, ?_, ?_, g2, ?_, ?_, ?_, ?_, ?_, ?_, ?_, ?_, ?_, ?_⟩, by rw [g0, hw0], gf, by rw [gg 3 (by decide) (by decide), f3], g7⟩
  · intro o ho
    exact ⟨by rw [gf o ho]; exact (h1 o ho).1, Or.inl (g7 o ho)⟩
  · intro o ho
    exact (i2 o ho).cg fun w a b => gw o ho w (by omega)
  · intro o ho
    have := i3 o ho
    unfold DMm
    simp only [gd o ho]
    rw [gw o ho 10 (by decide), gw o ho 11 (by decide)]
    exact this
  · rw [g0, hw0]; exact ⟨by omega, by omega⟩
  · rw [gg 3 (by decide) (by decide), f3]; exact h6
  · rw [gg 4 (by decide) (by decide), gg 5 (by decide) (by decide), gg 6 (by decide) (by decide), gg 7 (by decide) (by decide), f4, f5, f6, f7]; exact h7
  · rw [e11s, g0, hw0]
    generalize Zs G1.1 11 = z at *
    generalize ((wRest G1 v).1 8).toInt = t at hs8 ⊢
    have c1 := hs8.2.1
    have c2 := hs8.2.2
    clear hs8 e3s e10s e11s hz i5 h8 h9
    exact ⟨by omega, by omega⟩
  · rw [e3s, e10s, gg 9 (by decide) (by decide), gg 10 (by decide) (by decide), g11, hv]
    exact i5
  · rw [g11, hv]
    exact Int.add_nonneg i6.1 i6.2
  · have := (Lc_0 (F := (wRest G1 v).1)).1
    rw [gg 9 (by decide) (by decide), g0, hw0]
    generalize Lc (wRest G1 v).1 = L at this ⊢
    have c := i7
    clear hs8 e3s e10s e11s hz i5 h8 h9 hv
    exact ⟨c.1, by omega⟩
  · rw [gg 10 (by decide) (by decide), g0, hw0]
    have c := i8
    clear hs8 e3s e10s e11s hz i5 h8 h9 hv
    exact ⟨c.1, by omega⟩
  · intro o ho
    rw [eds o ho, g0, hw0]
    have := i9 o ho
    rw [if_pos ho] at this
    have s12 := g12 o ho
    have o12 := (h13 o ho).2
    generalize Zd G1.1 o = z at this ⊢
    generalize ((wRest G1 v).1 (13 + 14 * o + 12)).toInt = t at s12 ⊢
    clear hs8 e3s e10s e11s hz i5 h8 h9 hv
    exact ⟨by omega, by omega, by omega⟩
  · intro o ho q
    rw [gw o ho 4 (by decide)]
    rw [gw o ho 0 (by decide)] at q
    exact hnh o ho q
  · intro o ho q
    rw [gg 3 (by decide) (by decide), f3] at q
    have q2 := h15 o ho q
    rw [gf o ho, g1 o ho, gw o ho 8 (by decide), hn8 o ho q2.1]
    exact q2
/-- a week on both sides -/
theorem week_thm (hI : IR W F) (hW : W ≤ 999) (hR : RG F H) (hG : G.1 = F) :
    ∃ r G', w_ends G = (r, G') ∧ RG G'.1 (v_X0_endWeek H) ∧ IR (W + 1) G'.1 ∧ v_X0_endWeek H 11 = H 11 + r ∧ (∀ o, o < 8 → v_X0_endWeek H (13 + 14 * o + 13) = H (13 + 14 * o + 13) + G'.2.1 o) ∧ (G'.1 0).toInt = (F 0).toInt + 1 ∧ (∀ o, o < 8 → G'.1 (13 + 14 * o + 0) = F (13 + 14 * o + 0)) ∧ G'.1 3 = F 3 := by
  have h6 : ¬ F 6 ≤ 0 := by
    have := hI.2.2.2.2.2.2.1.2.2.1.1
    rw [Int32.le_iff_toInt_le, z32]
    omega
  obtain ⟨r, G', e1, hS, e2⟩ := sr_week (hr := hrF F) hG hR.1 hR.2 (fun o ho => (hI.1 o ho).1) (fun o ho q => Or.inl q) h6 hI.2.2.2.2.1 (fun Sh hz => (is_it 8 0 _ _ rfl (hI.is hW hz)).nd)
  obtain ⟨Sh, hz, hcut⟩ := ends_cut G
  rw [hG] at hcut
  have hS1 := is_it 8 0 _ _ rfl (hI.is hW hz (u := 0))
  have hX := fx_it (F := F) 8 0 (F, Sh, 0) 0 rfl FX.rf
  have hnh := nh_it 8 0 (F, Sh, 0) 0 rfl hI.2.2.2.2.2.2.2.2.2.2.2.2.2.1
  have hr := ir_rest hI hW hS1 hX hnh (fun o ho h0 => nh8_it 8 0 (F, Sh, 0) 0 rfl o ho h0)
  have e3 : G' = wRest (itS 8 (F, Sh, 0) 0 0).2 (itS 8 (F, Sh, 0) 0 0).1 := by
    have := e1.symm.trans hcut
    exact (Prod.mk.inj this).2
  rw [← e3] at hr
  obtain ⟨k1, k2, k3, k4, k5⟩ := hr
  refine ⟨r, G', e1, ⟨hS.1.hr fun j hj => okA_mono ?_ hj, ?_⟩, k1, e2, hS.2.2.1, k2, k3, k4⟩
  · intro m hm q
    unfold hrF at q ⊢
    rw [k3 m hm, k4] at q
    exact q
  · rw [hS.2.1, Int32.add_zero]
end WEEKTHM
