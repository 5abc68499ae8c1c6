section OUTCOMES
variable {F H : vF} {G G' : vG} {m k i n p w g o : Nat} {x y v v' u q : Int32} {W B : Int} {T : vS}
theorem IR.c189 {F' : vF} (h : IR W F) (e : ∀ j, j < 189 → F' j = F j) : IR W F' := by
  have eg : ∀ j, j < 13 → F' j = F j := fun j a => e j (by omega)
  have ew : ∀ o, o < 8 → ∀ w, w < 14 → F' (13 + 14 * o + w) = F (13 + 14 * o + w) := fun o ho w hw => e _ (by omega)
  have ed : ∀ o, o < 8 → ∀ p, p < 8 → F' (125 + 8 * o + p) = F (125 + 8 * o + p) := fun o ho p hp => e _ (by omega)
  have z : ∀ w, w < 14 → Zs F' w = Zs F w := fun w hw => Zs_cg fun o ho => ew o ho w hw
  have zl : Lc F' = Lc F := by
    unfold Lc
    exact fb_si_cong fun o ho => by rw [ew o ho 4 (by decide)]
  obtain ⟨h1, h2, h3, h4, h5, h6, h7, h8, h9, h10, h11, h12, h13, h14, h15⟩ := h
  refine ⟨?_, ?_, ?_, ?_, ?_, ?_, ?_, ?_, ?_, ?_, ?_, ?_, ?_, ?_, ?_⟩
  · intro o ho; rw [ew o ho 0 (by decide), ew o ho 7 (by decide)]; exact h1 o ho
  · intro o ho; exact (h2 o ho).cg fun w a b => ew o ho w (by omega)
  · intro o ho
    unfold DMm
    rw [ew o ho 10 (by decide), ew o ho 11 (by decide)]
    exact ⟨(h3 o ho).1, (h3 o ho).2.1, fun p hp => by rw [ed o ho p hp]; exact (h3 o ho).2.2 p hp⟩
  · rw [eg 0 (by decide)]; exact h4
  · rw [eg 2 (by decide)]; exact h5
  · rw [eg 3 (by decide)]; exact h6
  · rw [eg 4 (by decide), eg 5 (by decide), eg 6 (by decide), eg 7 (by decide)]; exact h7
  · rw [eg 8 (by decide), eg 0 (by decide), z 11 (by decide)]; exact h8
  · rw [eg 9 (by decide), eg 10 (by decide), eg 11 (by decide), z 3 (by decide), z 10 (by decide)]; exact h9
  · rw [eg 11 (by decide)]; exact h10
  · rw [eg 9 (by decide), eg 0 (by decide), zl]; exact h11
  · rw [eg 10 (by decide), eg 0 (by decide)]; exact h12
  · intro o ho; rw [Zd_cg (F := F) fun p hp => ed o ho p hp, eg 0 (by decide), ew o ho 12 (by decide)]; exact h13 o ho
  · intro o ho q
    rw [ew o ho 0 (by decide)] at q
    rw [ew o ho 4 (by decide)]; exact h14 o ho q
  · intro o ho q
    rw [eg 3 (by decide)] at q
    rw [ew o ho 0 (by decide), ew o ho 1 (by decide), ew o ho 8 (by decide)]; exact h15 o ho q
theorem RG.c189 {F' H' : vF} (h : RG F H) (e : ∀ j, j < 189 → F' j = F j) (e2 : ∀ j, okA (hrF F) j → H' j = H j) (e3 : H' 11 = H 11) : RG F' H' := by
  have k : ∀ j, okA (hrF F') j → okA (hrF F) j := fun j hj => okA_mono (fun m hm q => by
    unfold hrF at q ⊢
    rw [e _ (by omega), e 3 (by decide)] at q
    exact q) hj
  refine ⟨fun j hj => ?_, by rw [e3, e 11 (by decide)]; exact h.2⟩
  rw [e j hj.1, e2 j (k j hj)]
  exact h.1 j (k j hj)
/-- a row with its flags made 0 or 1 -/
def bzr (H : vF) : vF := fun j => if 13 ≤ j ∧ j < 125 ∧ ((j - 13) % 14 = 0 ∨ (j - 13) % 14 = 7) then bz (H j) else H j
theorem RG.bz (hI : IR W F) (h : RG F H) : RG F (bzr H) := by
  refine h.c189 (fun _ _ => rfl) (fun j hj => ?_) (by unfold bzr; rw [if_neg (by omega)])
  unfold bzr
  by_cases c : 13 ≤ j ∧ j < 125 ∧ ((j - 13) % 14 = 0 ∨ (j - 13) % 14 = 7)
  · rw [if_pos c, ← h.1 j hj]
    obtain ⟨o, ho, q⟩ : ∃ o, o < 8 ∧ (j = 13 + 14 * o + 0 ∨ j = 13 + 14 * o + 7) := ⟨(j - 13) / 14, by omega, by omega⟩
    rcases q with rfl | rfl
    · exact bz_id (hI.1 o ho).1
    · exact bz_id (hI.1 o ho).2
  · rw [if_neg c]
theorem itVM_vals : ∀ (n i : Nat) (H : vF), i + n = 8 → ∀ j, (∀ o, i ≤ o → o < 8 → j ≠ 13 + 14 * o + 7) → itVM n H x i j = H j := by
  intro n
  induction n with
  | zero => intro i H h j _; rfl
  | succ n ih =>
    intro i H h j hj
    refine (ih (i + 1) _ (by omega) j fun o a b => hj o (by omega) b).trans ?_
    exact upd_ne (hj i (Nat.le_refl i) (by omega))
theorem bank_loop : ∀ (n i : Nat) (G : vG) (a c : Int32), i + n = 8 → x_X5_bringsBy_L37 (n + 1) (emm T 2 G) x y i a = (if y = 2 then (sL n (fun o => G.1 (13 + 14 * o + 10)) i a, emm T 2 G) else if y = 3 then (w_among G.1, emm T 2 G) else (m8 G.2.1, emm T 2 G)) := by
  intro n
  induction n with
  | zero =>
    intro i G a c h
    obtain rfl : i = 8 := by omega
    have h6 : emm T 2 G 6 = G.2.1 := by funext j; exact em_6 (Or.inr rfl)
    rw [x_X5_bringsBy_L37.eq_2, if_pos le8]
    simp only [nm_eq, f_among T (q := 2) (Or.inr rfl), shared_1, h6]
    rfl
  | succ n ih =>
    intro i G a c h
    rw [x_X5_bringsBy_L37.eq_2, if_neg (ge8 (by omega)), nm_eq, nm_eq, f_of T (q := 2) (Or.inr rfl), nof_10 (by omega), ih _ _ _ c (by omega)]
    rfl
/-- a try on both sides: all five outcomes -/
theorem outcome_thm (h : IR W F) (hW : W ≤ 999) (hR : RG F H) (hT : T 1 = F) (x : Int32) : ∀ q, q < 5 → ∃ G', x_X5_bringsBy (emm T 2 G) x (nI q) = ((if q = 0 then v_X0_endWeek (itVM 8 H x 0) 11 - H 11 else if q = 1 then v_X0_endWeek (itVM 8 H x 0) 8 else if q = 2 then v_X0_bankDebts (v_X0_endWeek (itVM 8 H x 0)) else if q = 3 then v_X0_debtsAmongMembers (v_X0_endWeek (itVM 8 H x 0)) else m8 (fun o => v_X0_endWeek (itVM 8 H x 0) (13 + 14 * o + 13) - H (13 + 14 * o + 13))), emm T 2 G') := by
  intro q hq
  have he : ∀ j, j < 189 → cpT T G.1 j = F j := fun j hj => by unfold cpT; rw [if_pos hj, hT]
  have hI1 := h.c189 he
  have hR1 : RG (cpT T G.1) H := hR.c189 he (fun _ _ => rfl) rfl
  obtain ⟨hRm, hIm⟩ := mask_rel (x := x) 8 0 (cpT T G.1, G.2) H rfl hR1 hI1
  obtain ⟨r, G', e, hR2, hI2, e11, e13, _⟩ := week_thm hIm hW hRm rfl
  have m11 : itVM 8 H x 0 11 = H 11 := itVM_vals 8 0 H rfl 11 fun o _ _ => by omega
  have m13 : ∀ o, o < 8 → itVM 8 H x 0 (13 + 14 * o + 13) = H (13 + 14 * o + 13) := fun o ho => itVM_vals 8 0 H rfl _ fun o' _ _ => by omega
  have e2 : x_X5_endsWith (emm T 2 (cpT T G.1, G.2)) x = (r, emm T 2 G') := by
    rw [f_endsWith]
    have : w_endsWith (cpT T G.1, G.2) x = w_ends (itM 8 (cpT T G.1, G.2) x 0) := n_endsWith 8 0 _ rfl
    rw [this, e]
    rfl
  generalize itVM 8 H x 0 = Hm at *
  refine ⟨G', ?_⟩
  unfold x_X5_bringsBy
  rw [nm_eq, tries_eq, e2, nmp_eq]
  dsimp only
  have a0 : v_X0_endWeek Hm 11 - H 11 = r := by rw [e11, m11]; grind
  have a1 : v_X0_endWeek Hm 8 = G'.1 8 := hR2.g (by decide)
  have a2 := bankDebts_eq hR2
  have a3 := among_eq hR2
  have a4 : m8 (fun o => v_X0_endWeek Hm (13 + 14 * o + 13) - H (13 + 14 * o + 13)) = m8 G'.2.1 := m8_congr fun o ho => by
    rw [e13 o ho, m13 o ho]; grind
  rw [a0, a1, a2, a3, a4]
  have s8e : sL 8 (fun o => G'.1 (13 + 14 * o + 10)) 0 0 = w_sumOf G'.1 10 := (t_w_sumOf (F := G'.1) (k := 10) (by decide)).symm
  have b := bank_loop (T := T) (x := x) (y := nI q) 8 0 G' 0 0 rfl
  obtain rfl | rfl | rfl | rfl | rfl : q = 0 ∨ q = 1 ∨ q = 2 ∨ q = 3 ∨ q = 4 := by omega
  · rw [if_neg (by decide), if_pos (by decide), if_pos (by decide)]
  · rw [if_neg (by decide), if_neg (by decide), if_neg (by decide), if_pos (by decide), em_q]
  · rw [if_pos (by decide), b, if_pos (by decide), if_neg (by decide), if_neg (by decide), if_pos (by decide), s8e]
  · rw [if_pos (by decide), b, if_neg (by decide), if_pos (by decide), if_neg (by decide), if_neg (by decide), if_neg (by decide), if_pos (by decide)]
  · rw [if_pos (by decide), b, if_neg (by decide), if_neg (by decide), if_neg (by decide), if_neg (by decide), if_neg (by decide), if_neg (by decide)]
end OUTCOMES
