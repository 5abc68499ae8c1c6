section OPS3
variable {F H : vF} {G G' : vG} {m k i n p w : Nat} {x y v v' : Int32} {W : Int}
/-- what both sides say of a wish for help -/
theorem mayHelp_eq (hR : RG F H) (hm : m < 8) : (v_X0_mayHelp H m x = 0 → (if F 2 = (-1) then 3 else if F 2 = nI m then 3 else nm (w_of F (nI m) 11) (fun r_50 => if r_50 = 0 then if ((F 8 * F 7) / 100) < x then 3 else 0 else 3)) = (3 : Int32)) ∧ (¬ v_X0_mayHelp H m x = 0 → (if F 2 = (-1) then 3 else if F 2 = nI m then 3 else nm (w_of F (nI m) 11) (fun r_50 => if r_50 = 0 then if ((F 8 * F 7) / 100) < x then 3 else 0 else 3)) = (0 : Int32) ∧ ¬ ((F 8 * F 7) / 100) < x) := by
  have e11 := hR.h hm (w := 11) (by decide)
  rw [nm_eq, nof_11 hm]
  unfold v_X0_mayHelp
  rw [hR.g (j := 2) (by decide), hR.g (j := 7) (by decide), hR.g (j := 8) (by decide), e11]
  by_cases c1 : F 2 = -1
  · rw [if_pos c1, if_pos c1]; exact ⟨fun _ => rfl, fun q => absurd rfl q⟩
  · rw [if_neg c1, if_neg c1]
    by_cases c2 : F 2 = nI m
    · rw [if_pos c2, if_pos c2]; exact ⟨fun _ => rfl, fun q => absurd rfl q⟩
    · rw [if_neg c2, if_neg c2]
      by_cases c3 : F (13 + 14 * m + 11) = 0
      · rw [if_pos c3, if_pos c3]
        by_cases c4 : ((F 8 * F 7) / 100) < x
        · rw [if_pos c4, if_pos c4]; exact ⟨fun _ => rfl, fun q => absurd rfl q⟩
        · rw [if_neg c4, if_neg c4]; exact ⟨fun q => absurd q (by decide), fun _ => ⟨rfl, c4⟩⟩
      · rw [if_neg c3, if_neg c3]; exact ⟨fun _ => rfl, fun q => absurd rfl q⟩
def fHelp (F : vF) (m : Nat) (x : Int32) : vF := upd (upd F 8 (F 8 - x)) (13 + 14 * m + 11) (F (13 + 14 * m + 11) + x)
theorem helps_w (hm : m < 8) : w_helps G (nI m) x = (G.1 8 - x, (fHelp G.1 m x, G.2)) := by
  unfold w_helps fHelp
  simp only [nm_eq, nad_11 hm, upq_1]
  simp (disch := omega) only [upd_ne, upd_same]
  rfl
theorem help_v (hR : RG F H) (hm : m < 8) : RG (fHelp F m x) (v_X0_grantHelp H m x) ∧ v_X0_grantHelp H m x 8 = F 8 - x := by
  have e11 := hR.h hm (w := 11) (by decide)
  have g8 := hR.g (j := 8) (by decide)
  unfold v_X0_grantHelp fHelp
  simp only [nm_eq]
  simp (disch := omega) only [upd_ne, upd_same]
  rw [g8, e11]
  refine ⟨RG.up (RG.up hR rfl ?_ ?_) rfl ?_ ?_, rfl⟩
  all_goals first | omega | (intro o ho; omega)
theorem help_ir (h : IR W F) (hW : W ≤ 999) (hm : m < 8) (hx : 1 ≤ x.toInt ∧ x.toInt ≤ 2000) (hle : ¬ ((F 8 * F 7) / 100) < x) : IR W (fHelp F m x) := by
  have a8 := h.2.2.2.2.2.2.2.1
  have a4 := h.2.2.2.1
  have a7 := h.2.2.2.2.2.2.1.2.2.2
  have z11 : 0 ≤ Zs F 11 ∧ (F (13 + 14 * m + 11)).toInt ≤ Zs F 11 ∧ 0 ≤ (F (13 + 14 * m + 11)).toInt := ⟨si_nonneg fun o ho => (h.2.2.1 o ho).2.1, si_part (g := fun o => (F (13 + 14 * o + 11)).toInt) (fun o ho => (h.2.2.1 o ho).2.1) hm, (h.2.2.1 m hm).2.1⟩
  have f8 : (F 8).toInt ≤ 792000 := by
    generalize Zs F 11 = z at *
    omega
  obtain ⟨f, hf, ef⟩ := nI_of (x := F 8) (by rw [Int32.lt_iff_toInt_lt, z32]; exact Int.not_lt.mpr a8.1)
  obtain ⟨g, hg, eg⟩ := nI_of (x := F 7) (by rw [Int32.lt_iff_toInt_lt, z32]; exact Int.not_lt.mpr a7.1)
  have tf : (F 8).toInt = f := by rw [ef, nI_toInt hf]
  have tg : (F 7).toInt = g := by rw [eg, nI_toInt hg]
  have hfg : f * g ≤ f * 100 := Nat.mul_le_mul_left f (by omega)
  have hxf : x.toInt ≤ f := by
    rw [ef, eg, pk_mul, show (100 : Int32) = nI 100 from rfl, pk_div (by omega) (by decide) (by decide), Int32.lt_iff_toInt_lt, nI_toInt (by omega)] at hle
    have : f * g / 100 ≤ f := by omega
    omega
  have t8 : (F 8 - x).toInt = (F 8).toInt - x.toInt := fb_subI (by omega) (by omega)
  have t11 : (F (13 + 14 * m + 11) + x).toInt = (F (13 + 14 * m + 11)).toInt + x.toInt := by
    have := z11.2.1
    have := z11.2.2
    generalize Zs F 11 = z at *
    exact fb_addI (by omega) (by omega)
  clear hfg hle
  have hz : Zs (fHelp F m x) 11 = Zs F 11 + x.toInt := by
    unfold fHelp
    rw [Zs_up hm, Zs_g (by decide), upd_ne (by omega), t11]
    generalize Zs F 11 = z at *
    omega
  have hs : ∀ w, w = 3 ∨ w = 10 → Zs (fHelp F m x) w = Zs F w := by
    intro w hw
    unfold fHelp
    clear tf tg t8 t11 hz hxf
    simp (disch := omega) only [Zs_g, Zs_w]
  have r8 : fHelp F m x 8 = F 8 - x := by unfold fHelp; clear tf tg t8 t11 hz hxf; simp (disch := omega) only [upd_ne, upd_same]
  have r11 : fHelp F m x (13 + 14 * m + 11) = F (13 + 14 * m + 11) + x := by unfold fHelp; rw [upd_same]
  have rj : ∀ j, j ≠ 8 → j ≠ 13 + 14 * m + 11 → fHelp F m x j = F j := by
    intro j h1 h2
    unfold fHelp
    rw [upd_ne h2, upd_ne h1]
  have hd : ∀ o, Zd (fHelp F m x) o = Zd F o := by
    intro o
    unfold fHelp
    rw [Zd_h (by omega), Zd_h (by omega)]
  have hl : Lc (fHelp F m x) = Lc F := by
    unfold fHelp
    rw [Lc_w (by decide), Lc_g (by decide)]
  generalize fHelp F m x = F' at *
  obtain ⟨h1, h2, h3, h4, h5, h6, h7', h8, h9, h10, h11, h12, h13, h14, h15⟩ := h
  refine ⟨?_, ?_, ?_, ?_, ?_, ?_, ?_, ?_, ?_, ?_, ?_, ?_, ?_, ?_, ?_⟩
  · intro o ho
    rw [rj _ (by omega) (by omega), rj _ (by omega) (by omega)]
    exact h1 o ho
  · intro o ho
    exact (h2 o ho).cg fun w _ _ => rj _ (by omega) (by omega)
  · intro o ho
    unfold DMm
    rw [rj (13 + 14 * o + 10) (by omega) (by omega)]
    refine ⟨(h3 o ho).1, ?_, fun p hp => by rw [rj _ (by omega) (by omega)]; exact (h3 o ho).2.2 p hp⟩
    by_cases c : o = m
    · subst c; rw [r11, t11]; exact Int.add_nonneg z11.2.2 (by omega)
    · rw [rj _ (by omega) (by omega)]; exact (h3 o ho).2.1
  · rw [rj 0 (by omega) (by omega)]; exact h4
  · rw [rj 2 (by omega) (by omega)]; exact h5
  · rw [rj 3 (by omega) (by omega)]; exact h6
  · rw [rj 4 (by omega) (by omega), rj 5 (by omega) (by omega), rj 6 (by omega) (by omega), rj 7 (by omega) (by omega)]; exact h7'
  · rw [r8, t8, rj 0 (by omega) (by omega), hz]
    generalize Zs F 11 = z at *
    exact ⟨by omega, by omega⟩
  · rw [rj 9 (by omega) (by omega), rj 10 (by omega) (by omega), rj 11 (by omega) (by omega), hs 3 (Or.inl rfl), hs 10 (Or.inr rfl)]; exact h9
  · rw [rj 11 (by omega) (by omega)]; exact h10
  · rw [rj 9 (by omega) (by omega), rj 0 (by omega) (by omega), hl]; exact h11
  · rw [rj 10 (by omega) (by omega), rj 0 (by omega) (by omega)]; exact h12
  · intro o ho
    rw [hd o, rj 0 (by omega) (by omega), rj _ (by omega) (by omega)]; exact h13 o ho
  · intro o ho q
    rw [rj _ (by omega) (by omega)] at q
    rw [rj _ (by omega) (by omega)]; exact h14 o ho q
  · intro o ho q
    rw [rj 3 (by omega) (by omega)] at q
    rw [rj _ (by omega) (by omega), rj _ (by omega) (by omega), rj _ (by omega) (by omega)]
    exact h15 o ho q
end OPS3
