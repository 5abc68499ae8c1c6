section JOINS
variable {F H : vF} {G G' : vG} {m k i n p w g : Nat} {x y v v' : Int32} {W : Int}
def w_joinT (G : vG) : Int32 × vG := nm (G.1 3) (fun x => nm (w_members G.1) (fun r => if r = 0 then nm (upq G 2 x) (fun a => nm (w_adds a x 0 1) (fun b => nm (w_adds b x 1 200) (fun c => nm (upq c 3 (c.1 3 + 1)) (fun d => (x, d))))) else nm (upq G 2 (G.1 2)) (fun a => nm (w_adds a x 0 1) (fun b => nm (w_adds b x 1 200) (fun c => nm (upq c 3 (c.1 3 + 1)) (fun d => (x, d)))))))
def fJoin (F : vF) (g : Nat) : vF := upd (upd (upd (if w_members F = 0 then upd F 2 (nI g) else F) (13 + 14 * g + 0) 1) (13 + 14 * g + 1) 200) 3 (nI (g + 1))
theorem members_eq (h : IR W F) (hR : RG F H) : v_X0_memberCount H = w_members F := by
  rw [t_v_X0_memberCount, t_w_members]
  refine s8_congr fun j hj => ?_
  have := h.here hR hj
  rcases (h.1 j hj).1 with e | e
  · rw [if_pos (this.mpr (by rw [e]; decide)), e]
  · rw [if_neg (fun q => this.mp q e), e]
theorem join_row (h : IR W F) (hg : F 3 = nI g) (hg8 : g < 8) : F (13 + 14 * g + 0) = 0 ∧ F (13 + 14 * g + 1) = 0 ∧ F (13 + 14 * g + 8) = 0 :=
  h.2.2.2.2.2.2.2.2.2.2.2.2.2.2 g hg8 (by rw [hg, nI_toInt (by omega)]; exact Int.le_refl _)
theorem join_w (h : IR W F) (hG : G.1 = F) (hg : F 3 = nI g) (hg8 : g < 8) : w_joinT G = (nI g, (fJoin F g, G.2)) := by
  obtain ⟨z0, z1, _⟩ := join_row h hg hg8
  subst hG
  clear h
  unfold w_joinT fJoin
  simp only [nm_eq, hg, nad_0 hg8, nad_1 hg8, upq_1]
  by_cases c : w_members G.1 = 0
  · rw [if_pos c, if_pos c]
    simp (disch := omega) only [upd_ne]
    rw [z0, z1, hg, nI_1, Int32.zero_add, Int32.zero_add]
    rfl
  · rw [if_neg c, if_neg c]
    simp (disch := omega) only [upd_ne]
    rw [z0, z1, hg, nI_1, Int32.zero_add, Int32.zero_add]
    unfold upq
    rw [fa_upd_same rfl]
theorem join_v (h : IR W F) (hR : RG F H) (hg : F 3 = nI g) (hg8 : g < 8) : ∃ H', v_X0_admit H = (nI g, H') ∧ RG (fJoin F g) H' := by
  have g3 := hR.g (j := 3) (by decide)
  unfold v_X0_admit
  have hlt : nI g < (8 : Int32) := nI_lt (b := 8) (by omega) (by decide)
  rw [nm_eq, g3, hg, if_neg (nI_pos (by omega)), if_pos hlt, nm_eq, members_eq h hR, cl8 hg8]
  have key : ∀ (F1 H1 : vF), AG (okA (hrF F)) F1 H1 → H1 11 = F1 11 → (∀ o, o < 8 → F1 (13 + 14 * o + 0) = F (13 + 14 * o + 0)) → RG (upd (upd (upd F1 (13 + 14 * g + 0) 1) (13 + 14 * g + 1) 200) 3 (nI (g + 1))) (upd (upd (upd H1 (13 + 14 * g + 0) 1) (13 + 14 * g + 1) 200) 3 (nI (g + 1))) := by
    intro F1 H1 hA h11 hf
    refine ⟨(((hA.up rfl).up rfl).up rfl).hr fun j hj => okA_mono ?_ hj, ?_⟩
    · intro m hm q
      unfold hrF at q ⊢
      rw [upd_same, upd_ne (by omega), upd_ne (by omega), upd_at, nI_toInt (by omega)] at q
      rw [hg, nI_toInt (by omega)]
      by_cases c : m = g
      · right; omega
      · rw [if_neg (by omega), hf m hm] at q
        rcases q with q | q
        · exact Or.inl q
        · right; omega
    · rw [upd_ne (by decide), upd_ne (by omega), upd_ne (by omega), upd_ne (by decide), upd_ne (by omega), upd_ne (by omega), h11]
  unfold fJoin
  by_cases c : w_members F = 0
  · rw [if_pos c, if_pos c]
    simp only [nm_eq]
    simp (disch := omega) only [upd_ne]
    rw [g3, hg, nI_1]
    refine ⟨_, rfl, key _ _ (hR.1.up rfl) ?_ ?_⟩
    · rw [upd_ne (by decide), upd_ne (by decide)]; exact hR.2
    · intro o ho; rw [upd_ne (by omega)]
  · rw [if_neg c, if_neg c]
    simp only [nm_eq]
    simp (disch := omega) only [upd_ne]
    rw [g3, hg, nI_1]
    exact ⟨_, rfl, key _ _ hR.1 hR.2 fun _ _ => rfl⟩
theorem join_ir (h : IR W F) (hg : F 3 = nI g) (hg8 : g < 8) : IR W (fJoin F g) := by
  obtain ⟨z0, z1, z8⟩ := join_row h hg hg8
  have r0 : fJoin F g (13 + 14 * g + 0) = 1 := by unfold fJoin; rw [upd_ne (by omega), upd_ne (by omega), upd_same]
  have r3 : fJoin F g 3 = nI (g + 1) := by unfold fJoin; rw [upd_same]
  have r2 : chairOK (fJoin F g 2) := by
    unfold fJoin
    rw [upd_ne (by omega), upd_ne (by omega), upd_ne (by omega)]
    by_cases c : w_members F = 0
    · rw [if_pos c, upd_same]; exact Or.inr (vp_in_nI hg8 (by decide))
    · rw [if_neg c]; exact h.2.2.2.2.1
  have rj : ∀ j, j ≠ 2 → j ≠ 3 → j ≠ 13 + 14 * g + 0 → j ≠ 13 + 14 * g + 1 → fJoin F g j = F j := by
    intro j a b c d
    unfold fJoin
    rw [upd_ne b, upd_ne d, upd_ne c]
    by_cases q : w_members F = 0
    · rw [if_pos q, upd_ne a]
    · rw [if_neg q]
  generalize fJoin F g = F' at *
  have z : ∀ w, w < 14 ∧ w ≠ 1 ∧ w ≠ 0 → Zs F' w = Zs F w := fun w hw => Zs_cg fun o _ => rj _ (by omega) (by omega) (by omega) (by omega)
  have zd : ∀ o, Zd F' o = Zd F o := fun o => Zd_cg fun p _ => rj _ (by omega) (by omega) (by omega) (by omega)
  have zl : Lc F' = Lc F := by
    unfold Lc
    exact fb_si_cong fun o _ => by rw [rj _ (by omega) (by omega) (by omega) (by omega)]
  obtain ⟨h1, h2, h3, h4, h5, h6, h7, h8, h9, h10, h11, h12, h13, h14, h15⟩ := h
  have e : ∀ j, j < 13 → j ≠ 2 → j ≠ 3 → F' j = F j := fun j a b c => rj j b c (by omega) (by omega)
  refine ⟨?_, ?_, ?_, ?_, r2, ?_, ?_, ?_, ?_, ?_, ?_, ?_, ?_, ?_, ?_⟩
  · intro o ho
    rw [rj (13 + 14 * o + 7) (by omega) (by omega) (by omega) (by omega)]
    refine ⟨?_, (h1 o ho).2⟩
    by_cases c : o = g
    · subst c; exact Or.inr r0
    · rw [rj _ (by omega) (by omega) (by omega) (by omega)]; exact (h1 o ho).1
  · intro o ho; exact (h2 o ho).cg fun w a b => rj _ (by omega) (by omega) (by omega) (by omega)
  · intro o ho
    unfold DMm
    rw [rj _ (by omega) (by omega) (by omega) (by omega), rj _ (by omega) (by omega) (by omega) (by omega)]
    exact ⟨(h3 o ho).1, (h3 o ho).2.1, fun p hp => by rw [rj _ (by omega) (by omega) (by omega) (by omega)]; exact (h3 o ho).2.2 p hp⟩
  · rw [e 0 (by decide) (by decide) (by decide)]; exact h4
  · rw [r3]; exact vp_in_nI (by omega) (by decide)
  · rw [e 4 (by decide) (by decide) (by decide), e 5 (by decide) (by decide) (by decide), e 6 (by decide) (by decide) (by decide), e 7 (by decide) (by decide) (by decide)]; exact h7
  · rw [e 8 (by decide) (by decide) (by decide), e 0 (by decide) (by decide) (by decide), z 11 (by decide)]; exact h8
  · rw [e 9 (by decide) (by decide) (by decide), e 10 (by decide) (by decide) (by decide), e 11 (by decide) (by decide) (by decide), z 3 (by decide), z 10 (by decide)]; exact h9
  · rw [e 11 (by decide) (by decide) (by decide)]; exact h10
  · rw [e 9 (by decide) (by decide) (by decide), e 0 (by decide) (by decide) (by decide), zl]; exact h11
  · rw [e 10 (by decide) (by decide) (by decide), e 0 (by decide) (by decide) (by decide)]; exact h12
  · intro o ho; rw [zd o, e 0 (by decide) (by decide) (by decide), rj _ (by omega) (by omega) (by omega) (by omega)]; exact h13 o ho
  · intro o ho q
    rw [rj (13 + 14 * o + 4) (by omega) (by omega) (by omega) (by omega)]
    by_cases c : o = g
    · subst c; exact h14 o ho z0
    · rw [rj _ (by omega) (by omega) (by omega) (by omega)] at q
      exact h14 o ho q
  · intro o ho q
    rw [r3, nI_toInt (by omega)] at q
    have := h15 o ho (by rw [hg, nI_toInt (by omega)]; omega)
    rw [rj (13 + 14 * o + 0) (by omega) (by omega) (by omega) (by omega), rj (13 + 14 * o + 1) (by omega) (by omega) (by omega) (by omega), rj (13 + 14 * o + 8) (by omega) (by omega) (by omega) (by omega)]
    exact this
end JOINS
