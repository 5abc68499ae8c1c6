section INVS3
variable {F H : vF} {G G' : vG} {m k i n p w : Nat} {x y v v' : Int32} {W : Int}
/-- the model's row in the middle of a week W, at member i; v is paid and not yet in the books -/
def IS (W : Int) (i : Nat) (G : vG) (v : Int32) : Prop :=
  (∀ o, o < 8 → (G.1 (13 + 14 * o + 0) = 0 ∨ G.1 (13 + 14 * o + 0) = 1)) ∧ (∀ o, o < 8 → LMm G.1 o) ∧ (∀ o, o < 8 → DMm G.1 o) ∧
  (0 ≤ (G.1 8).toInt ∧ (G.1 8).toInt + Zs G.1 11 ≤ 792 * W) ∧
  (G.1 9).toInt + (G.1 10).toInt = (G.1 11).toInt + v.toInt + Zs G.1 3 + Zs G.1 10 ∧
  (0 ≤ (G.1 11).toInt ∧ 0 ≤ v.toInt) ∧ (0 ≤ (G.1 9).toInt ∧ (G.1 9).toInt ≤ 16000 * W + 16000) ∧ (0 ≤ (G.1 10).toInt ∧ (G.1 10).toInt ≤ 800 * W + 100 * i) ∧
  (∀ o, o < 8 → Zd G.1 o ≤ 2100 * W + (if o < i then 2100 else 0)) ∧ (0 ≤ W ∧ W ≤ 1000) ∧
  (∀ q, q < 8 → 0 ≤ (G.2.1 q).toInt) ∧ Zq G.2.1 ≤ 2100 * i
theorem IS.mono (h : IS W i G v) : IS W (i + 1) G v := by
  obtain ⟨h1, h2, h3, h4, h5, h6, h7, h8, h9, h10, h11, h12⟩ := h
  refine ⟨h1, h2, h3, h4, h5, h6, h7, ⟨h8.1, by omega⟩, ?_, h10, h11, by omega⟩
  intro o ho
  have := h9 o ho
  by_cases c : o < i
  · rw [if_pos c] at this; rw [if_pos (by omega)]; exact this
  · rw [if_neg c] at this
    by_cases c2 : o < i + 1
    · rw [if_pos c2]; omega
    · rw [if_neg c2]; exact this
theorem IS.zs (h : IS W i G v) : 0 ≤ Zs G.1 3 ∧ 0 ≤ Zs G.1 10 ∧ 0 ≤ Zs G.1 11 ∧ (∀ o, o < 8 → (G.1 (13 + 14 * o + 10)).toInt ≤ Zs G.1 10) ∧ (∀ o, o < 8 → (G.1 (13 + 14 * o + 11)).toInt ≤ Zs G.1 11) := by
  obtain ⟨h1, h2, h3, h4, h5, h6, h7, h8, h9, h10, h11, h12⟩ := h
  refine ⟨si_nonneg fun o ho => (h2 o ho).2.2.2.1, si_nonneg fun o ho => (h3 o ho).1, si_nonneg fun o ho => (h3 o ho).2.1, ?_, ?_⟩
  · intro o ho
    exact si_part (g := fun o => (G.1 (13 + 14 * o + 10)).toInt) (fun o ho => (h3 o ho).1) ho
  · intro o ho
    exact si_part (g := fun o => (G.1 (13 + 14 * o + 11)).toInt) (fun o ho => (h3 o ho).2.1) ho
/-- places that a settled due of member i does not change -/
def FrI (i j : Nat) : Prop := j ≠ 8 ∧ j ≠ 10 ∧ j ≠ 12 ∧ ¬ (13 + 14 * i + 2 ≤ j ∧ j ≤ 13 + 14 * i + 6) ∧ ¬ (13 + 14 * i + 8 ≤ j ∧ j ≤ 13 + 14 * i + 11) ∧ Fs i j
theorem FrI_g {j : Nat} (h : j < 8 ∨ j = 9 ∨ j = 11) : FrI i j := ⟨by omega, by omega, by omega, by omega, by omega, Fs_g (by omega)⟩
theorem FrI_0 {o : Nat} (hi : i < 8) (ho : o < 8) : FrI i (13 + 14 * o + 0) := ⟨by omega, by omega, by omega, by omega, by omega, Fs_w ho (by omega)⟩
theorem FrI_7 {o : Nat} (hi : i < 8) (ho : o < 8) : FrI i (13 + 14 * o + 7) := ⟨by omega, by omega, by omega, by omega, by omega, Fs_w ho (by omega)⟩
theorem FrI_w {o w : Nat} (hi : i < 8) (ho : o < 8) (h : o ≠ i) (hw : w < 13) : FrI i (13 + 14 * o + w) := ⟨by omega, by omega, by omega, by omega, by omega, Fs_w ho (by omega)⟩
theorem FrI_d {o p : Nat} (hi : i < 8) (ho : o < 8) (h : o ≠ i) (hp : p < 8) : FrI i (125 + 8 * o + p) := ⟨by omega, by omega, by omega, by omega, by omega, Fs_d h hp⟩
theorem FrI_t {j : Nat} (h : FrI i j) : ¬ (13 + 14 * i + 2 ≤ j ∧ j ≤ 13 + 14 * i + 6) := h.2.2.2.1
theorem FrI_10 {j : Nat} (h : FrI i j) : j ≠ 10 := h.2.1
theorem FrI_m {j : Nat} (h : FrI i j) : Fm i j := ⟨h.1, h.2.2.1, by have := h.2.2.2.2.1; omega, by have := h.2.2.2.2.1; omega, by have := h.2.2.2.2.1; omega, by have := h.2.2.2.2.1; omega, h.2.2.2.2.2⟩
theorem IS.bd (h : IS W i G v) (hi : i < 8) : (0 ≤ v.toInt ∧ v.toInt ≤ 200000000) ∧ (0 ≤ (G.1 8).toInt ∧ (G.1 8).toInt ≤ 792000) ∧ (0 ≤ (G.1 (13 + 14 * i + 10)).toInt ∧ (G.1 (13 + 14 * i + 10)).toInt ≤ 200000000) ∧ (0 ≤ (G.1 (13 + 14 * i + 11)).toInt ∧ (G.1 (13 + 14 * i + 11)).toInt ≤ 792000) ∧ Zd G.1 i ≤ 2100000 ∧ Zq G.2.1 ≤ 16800 ∧ (0 ≤ (G.1 10).toInt ∧ (G.1 10).toInt ≤ 1000000) := by
  obtain ⟨z1, z2, z3, z4, z5⟩ := h.zs
  have z4 := z4 i hi
  have z5 := z5 i hi
  obtain ⟨i1, i2, i3, i4, i5, i6, i7, i8, i9, i10, i11, i12⟩ := h
  have hD := i3 i hi
  have d1 := hD.1
  have d2 := hD.2.1
  have hZi := i9 i hi
  rw [if_neg (by omega)] at hZi
  exact ⟨⟨by omega, by omega⟩, ⟨by omega, by omega⟩, ⟨by omega, by omega⟩, ⟨by omega, by omega⟩, by omega, by omega, ⟨by omega, by omega⟩⟩
theorem is_fin (hi : i < 8) (h : IS W i G v) {it pt fx bx sx : Int} (hfr : ∀ j, FrI i j → G'.1 j = G.1 j)
    (hL : LMm G'.1 i) (h3 : (G'.1 (13 + 14 * i + 3)).toInt = (G.1 (13 + 14 * i + 3)).toInt - pt) (h10 : (G'.1 (13 + 14 * i + 10)).toInt = (G.1 (13 + 14 * i + 10)).toInt + bx) (h11 : (G'.1 (13 + 14 * i + 11)).toInt = (G.1 (13 + 14 * i + 11)).toInt + fx)
    (g8 : (G'.1 8).toInt = (G.1 8).toInt - fx) (g10 : (G'.1 10).toInt = (G.1 10).toInt + it) (hv : v'.toInt = v.toInt + (pt + it - bx)) 
    (hZ : Zd G'.1 i = Zd G.1 i + sx) (hDi : ∀ p, p < 8 → 0 ≤ (G'.1 (125 + 8 * i + p)).toInt) (hQ : ∀ q, q < 8 → 0 ≤ (G'.2.1 q).toInt) (hZQ : Zq G'.2.1 = Zq G.2.1 + sx)
    (b1 : 0 ≤ fx) (b2 : 0 ≤ bx) (b3 : 0 ≤ sx) (b4 : fx + bx + sx ≤ 2100) (b5 : 0 ≤ it) (b6 : it ≤ 100) (b7 : fx ≤ (G.1 8).toInt) (b8 : 0 ≤ pt + it - bx) : IS W (i + 1) G' v' := by
  have g9 : G'.1 9 = G.1 9 := hfr _ (FrI_g (by decide))
  have g11 : G'.1 11 = G.1 11 := hfr _ (FrI_g (by decide))
  have hf : ∀ o, o < 8 → G'.1 (13 + 14 * o + 0) = G.1 (13 + 14 * o + 0) := fun o ho => hfr _ (FrI_0 hi ho)
  have ho : ∀ o, o < 8 → o ≠ i → ∀ w, (2 ≤ w ∧ w ≤ 6) ∨ w = 10 ∨ w = 11 → G'.1 (13 + 14 * o + w) = G.1 (13 + 14 * o + w) := fun o ho hne w hw => hfr _ (FrI_w hi ho hne (by omega))
  have hd : ∀ o, o < 8 → o ≠ i → ∀ p, p < 8 → G'.1 (125 + 8 * o + p) = G.1 (125 + 8 * o + p) := fun o ho hne p hp => hfr _ (FrI_d hi ho hne hp)
  have z3 := Zs_pt (w := 3) hi (F := G.1) (F' := G'.1) fun o h1 h2 => ho o h1 h2 3 (by omega)
  have z10 := Zs_pt (w := 10) hi (F := G.1) (F' := G'.1) fun o h1 h2 => ho o h1 h2 10 (by omega)
  have z11 := Zs_pt (w := 11) hi (F := G.1) (F' := G'.1) fun o h1 h2 => ho o h1 h2 11 (by omega)
  obtain ⟨i1, i2, i3, i4, i5, i6, i7, i8, i9, i10, i11, i12⟩ := h
  refine ⟨?_, ?_, ?_, ⟨by omega, by omega⟩, by rw [g9, g11]; omega, ⟨by rw [g11]; omega, by omega⟩, by rw [g9]; exact i7, ⟨by omega, by omega⟩, ?_, i10, hQ, by omega⟩
  · intro o h1; rw [hf o h1]; exact i1 o h1
  · intro o h1
    by_cases c : o = i
    · rw [c]; exact hL
    · exact (i2 o h1).cg fun w a b => ho o h1 c w (Or.inl ⟨a, b⟩)
  · intro o h1
    by_cases c : o = i
    · subst c
      have := i3 o h1
      exact ⟨by rw [h10]; have := this.1; omega, by rw [h11]; have := this.2.1; omega, hDi⟩
    · have := i3 o h1
      unfold DMm
      rw [ho o h1 c 10 (by omega), ho o h1 c 11 (by omega)]
      exact ⟨this.1, this.2.1, fun p hp => by rw [hd o h1 c p hp]; exact this.2.2 p hp⟩
  · intro o h1
    have := i9 o h1
    by_cases c : o = i
    · subst c
      rw [if_neg (by omega)] at this
      rw [if_pos (by omega), hZ]
      omega
    · rw [Zd_cg (F := G.1) (fun p hp => hd o h1 c p hp)]
      by_cases c2 : o < i
      · rw [if_pos c2] at this; rw [if_pos (by omega)]; exact this
      · rw [if_neg c2] at this; rw [if_neg (by omega)]; exact this
theorem wS_none (c : ¬ G.1 (13 + 14 * i + 0) = 1 ∨ G.1 (13 + 14 * i + 4) ≤ 0) : wStep G i v = (v, G) := by
  unfold wStep
  by_cases c1 : G.1 (13 + 14 * i + 0) = 1
  · rw [if_pos c1, if_pos (c.resolve_left (fun q => q c1))]
  · rw [if_neg c1]
theorem wS_pres (c1 : G.1 (13 + 14 * i + 0) = 1) (c2 : ¬ G.1 (13 + 14 * i + 4) ≤ 0) (c3 : (upq G 10 (G.1 10 + G.1 (13 + 14 * i + 6))).1 (13 + 14 * i + 7) = 0) : wStep G i v = (v + w_due (upq G 10 (G.1 10 + G.1 (13 + 14 * i + 6))).1 (nI i), wTail (upq G 10 (G.1 10 + G.1 (13 + 14 * i + 6))) i) := by
  unfold wStep
  rw [if_pos c1, if_neg c2, nm_eq, if_pos c3]
theorem wS_miss (c1 : G.1 (13 + 14 * i + 0) = 1) (c2 : ¬ G.1 (13 + 14 * i + 4) ≤ 0) (c3 : ¬ (upq G 10 (G.1 10 + G.1 (13 + 14 * i + 6))).1 (13 + 14 * i + 7) = 0) {r : Int32} {G2 : vG} (e : w_misses (upq G 10 (G.1 10 + G.1 (13 + 14 * i + 6))) (nI i) = (r, G2)) : wStep G i v = (v + r, wTail G2 i) := by
  unfold wStep
  rw [if_pos c1, if_neg c2, nm_eq, if_neg c3, e, nmp_eq]
theorem is_pres (hi : i < 8) (h : IS W i G v) (c2 : ¬ G.1 (13 + 14 * i + 4) ≤ 0) {G1 : vG} (hq : ∀ j, j ≠ 10 → G1.1 j = G.1 j) (hq10 : (G1.1 10).toInt = (G.1 10).toInt + (G.1 (13 + 14 * i + 6)).toInt) (hq2 : G1.2 = G.2) : IS W (i + 1) (wTail G1 i) (v + w_due G1.1 (nI i)) := by
  rw [Int32.le_iff_toInt_le, z32] at c2
  have hL := h.2.1 i hi
  have hL1 : LMm G1.1 i := hL.cg fun w _ _ => hq _ (by omega)
  have w1 : 1 ≤ (G1.1 (13 + 14 * i + 4)).toInt := by rw [hq _ (by omega)]; omega
  have hp := hL1.rng hi w1
  have hdu := hL1.due hi w1
  rw [hq (13 + 14 * i + 6) (by omega)] at hdu
  rw [hq (13 + 14 * i + 3) (by omega)] at hp
  have a5 := hL.2.2.2.2.1
  have a7 := hL.2.2.2.2.2.2.1
  have a8 := hL.2.2.2.2.2.2.2.1
  obtain ⟨⟨bv1, bv2⟩, ⟨bf1, bf2⟩, ⟨bb1, bb2⟩, ⟨bd1, bd2⟩, bz1, bq1, ⟨bt1, bt2⟩⟩ := h.bd hi
  obtain ⟨pt, hpt⟩ : ∃ pt : Int, pt = (w_partOf G1.1 (nI i)).toInt := ⟨_, rfl⟩
  obtain ⟨d, hdd⟩ : ∃ d : Int32, d = w_due G1.1 (nI i) := ⟨_, rfl⟩
  rw [← hpt] at hp hdu
  rw [← hdd] at hdu
  rw [← hdd]
  have hv : (v + d).toInt = v.toInt + (pt + (G.1 (13 + 14 * i + 6)).toInt - 0) := by
    clear hpt hdd
    rw [fb_addI (by omega) (by omega), hdu]
    omega
  have b8 : 0 ≤ pt + (G.1 (13 + 14 * i + 6)).toInt - 0 := by
    clear hpt
    omega
  have n8 : ¬ (13 + 14 * i + 2 ≤ 8 ∧ 8 ≤ 13 + 14 * i + 6) := by clear hpt hv; omega
  have n10 : ¬ (13 + 14 * i + 2 ≤ 13 + 14 * i + 10 ∧ 13 + 14 * i + 10 ≤ 13 + 14 * i + 6) := by clear hpt hv; omega
  have n11 : ¬ (13 + 14 * i + 2 ≤ 13 + 14 * i + 11 ∧ 13 + 14 * i + 11 ≤ 13 + 14 * i + 6) := by clear hpt hv; omega
  have nD : ∀ p, ¬ (13 + 14 * i + 2 ≤ 125 + 8 * i + p ∧ 125 + 8 * i + p ≤ 13 + 14 * i + 6) := fun p => by clear hpt hv; omega
  have nt : ¬ (13 + 14 * i + 2 ≤ 10 ∧ 10 ≤ 13 + 14 * i + 6) := by clear hpt hv; omega
  have q8 := hq 8 (by clear hpt hv; omega)
  have q3 := hq (13 + 14 * i + 3) (by clear hpt hv; omega)
  have q10 := hq (13 + 14 * i + 10) (by clear hpt hv; omega)
  have q11 := hq (13 + 14 * i + 11) (by clear hpt hv; omega)
  have qD : ∀ p, G1.1 (125 + 8 * i + p) = G.1 (125 + 8 * i + p) := fun p => hq _ (by clear hpt hv; omega)
  obtain ⟨t1, t2, t3, t4⟩ := tl_spec hi hL1 w1
  have eD : ∀ p, (wTail G1 i).1 (125 + 8 * i + p) = G.1 (125 + 8 * i + p) := fun p => (t3 _ (nD p)).trans (qD p)
  exact is_fin (it := (G.1 (13 + 14 * i + 6)).toInt) (pt := pt) (fx := 0) (bx := 0) (sx := 0) hi h (fun j hj => (t3 j (FrI_t hj)).trans (hq j (FrI_10 hj))) t2 (by rw [t1, q3, hpt]) (by rw [t3 _ n10, q10, Int.add_zero]) (by rw [t3 _ n11, q11, Int.add_zero]) (by rw [t3 _ n8, q8, Int.sub_zero]) (by rw [t3 _ nt, hq10]) hv (by rw [Zd_cg (F := G.1) fun p hp => eD p, Int.add_zero])
    (fun p hp => by rw [eD]; exact (h.2.2.1 i hi).2.2 p hp) (fun q hq' => by rw [t4, hq2]; exact h.2.2.2.2.2.2.2.2.2.2.1 q hq') (by rw [t4, hq2, Int.add_zero]) (Int.le_refl 0) (Int.le_refl 0) (Int.le_refl 0) (by decide) a7 a8 bf1 b8
theorem is_miss (hi : i < 8) (h : IS W i G v) (c2 : ¬ G.1 (13 + 14 * i + 4) ≤ 0) {G1 : vG} (hq : ∀ j, j ≠ 10 → G1.1 j = G.1 j) (hq10 : (G1.1 10).toInt = (G.1 10).toInt + (G.1 (13 + 14 * i + 6)).toInt) (hq2 : G1.2 = G.2) : ∃ r G2, w_misses G1 (nI i) = (r, G2) ∧ IS W (i + 1) (wTail G2 i) (v + r) := by
  rw [Int32.le_iff_toInt_le, z32] at c2
  have hL := h.2.1 i hi
  have hL1 : LMm G1.1 i := hL.cg fun w _ _ => hq _ (by omega)
  have w1 : 1 ≤ (G1.1 (13 + 14 * i + 4)).toInt := by rw [hq _ (by omega)]; omega
  have hp := hL1.rng hi w1
  have hdu := hL1.due hi w1
  rw [hq (13 + 14 * i + 6) (by omega)] at hdu
  rw [hq (13 + 14 * i + 3) (by omega)] at hp
  have a5 := hL.2.2.2.2.1
  have a7 := hL.2.2.2.2.2.2.1
  have a8 := hL.2.2.2.2.2.2.2.1
  obtain ⟨⟨bv1, bv2⟩, ⟨bf1, bf2⟩, ⟨bb1, bb2⟩, ⟨bd1, bd2⟩, bz1, bq1, ⟨bt1, bt2⟩⟩ := h.bd hi
  obtain ⟨pt, hpt⟩ : ∃ pt : Int, pt = (w_partOf G1.1 (nI i)).toInt := ⟨_, rfl⟩
  obtain ⟨d, hdd⟩ : ∃ d : Int32, d = w_due G1.1 (nI i) := ⟨_, rfl⟩
  rw [← hpt] at hp hdu
  rw [← hdd] at hdu
  have hDi := (h.2.2.1 i hi).2.2
  have hFm : ∀ w, w < 8 → Fm i (13 + 14 * i + w) := fun w hw => by
    clear hpt
    exact ⟨by omega, by omega, by omega, by omega, by omega, by omega, Fs_w hi (by omega)⟩
  have hF10 : Fm i 10 := by
    clear hpt
    exact ⟨by omega, by omega, by omega, by omega, by omega, by omega, Fs_g (by omega)⟩
  have n8 : ¬ (13 + 14 * i + 2 ≤ 8 ∧ 8 ≤ 13 + 14 * i + 6) := by clear hpt; omega
  have n10 : ¬ (13 + 14 * i + 2 ≤ 13 + 14 * i + 10 ∧ 13 + 14 * i + 10 ≤ 13 + 14 * i + 6) := by clear hpt; omega
  have n11 : ¬ (13 + 14 * i + 2 ≤ 13 + 14 * i + 11 ∧ 13 + 14 * i + 11 ≤ 13 + 14 * i + 6) := by clear hpt; omega
  have nD : ∀ p, ¬ (13 + 14 * i + 2 ≤ 125 + 8 * i + p ∧ 125 + 8 * i + p ≤ 13 + 14 * i + 6) := fun p => by clear hpt; omega
  have nt : ¬ (13 + 14 * i + 2 ≤ 10 ∧ 10 ≤ 13 + 14 * i + 6) := by clear hpt; omega
  have q8 := hq 8 (by clear hpt; omega)
  have q3 := hq (13 + 14 * i + 3) (by clear hpt; omega)
  have q10 := hq (13 + 14 * i + 10) (by clear hpt; omega)
  have q11 := hq (13 + 14 * i + 11) (by clear hpt; omega)
  have eD1 : ∀ p, G1.1 (125 + 8 * i + p) = G.1 (125 + 8 * i + p) := fun p => hq _ (by clear hpt; omega)
  have eZ : Zd G1.1 i = Zd G.1 i := Zd_cg fun p _ => eD1 p
  have dd : 0 ≤ d.toInt ∧ d.toInt ≤ 2100 := by clear hpt eZ; omega
  have big8 : (G.1 8).toInt ≤ 536870912 := by clear hpt eZ; omega
  have big10 : (G.1 (13 + 14 * i + 10)).toInt ≤ 536870912 := by clear hpt eZ; omega
  have big11 : (G.1 (13 + 14 * i + 11)).toInt ≤ 536870912 := by clear hpt eZ; omega
  obtain ⟨r, G2, fx, bx, sx, r0, r1, r2, r3, r4, r5, r6, r7, r8, r9, r10, r11, r12, r13, _⟩ := ms_spec hi (G := G1) hdd.symm dd ⟨by rw [q8]; exact bf1, by rw [q8]; exact big8⟩ ⟨by rw [q10]; exact bb1, by rw [q10]; exact big10⟩ ⟨by rw [q11]; exact bd1, by rw [q11]; exact big11⟩ (fun q hq' => by rw [eD1]; exact hDi q hq') (by rw [eZ]; exact Int.le_trans bz1 (by decide)) (by rw [hq2]; exact h.2.2.2.2.2.2.2.2.2.2.1) (by rw [hq2]; exact Int.le_trans bq1 (by decide))
  refine ⟨r, G2, r0, ?_⟩
  rw [q8] at r1 r6
  rw [q11] at r7
  rw [q10] at r8
  rw [eZ] at r9
  have hfx : fx ≤ (G.1 8).toInt ∧ 0 ≤ fx := by
    rw [r1]
    by_cases q : d.toInt ≤ (G.1 8).toInt
    · rw [if_pos q]; exact ⟨q, dd.1⟩
    · rw [if_neg q]; exact ⟨Int.le_refl _, bf1⟩
  have hv : (v + r).toInt = v.toInt + (pt + (G.1 (13 + 14 * i + 6)).toInt - bx) := by
    clear hpt r0 r1 r6 r7 r8 r9 r11 eZ
    rw [fb_addI (by omega) (by omega), r5, hdu]
  have b4 : fx + bx + sx ≤ 2100 := by
    clear hpt r0 r1 r6 r7 r8 r9 r11 eZ
    omega
  have b8 : 0 ≤ pt + (G.1 (13 + 14 * i + 6)).toInt - bx := by
    clear hpt r0 r1 r6 r7 r8 r9 r11 eZ hv
    omega
  have hL2 : LMm G2.1 i := hL1.cg fun w a b => r13 _ (hFm w (Nat.lt_of_le_of_lt b (by decide)))
  have e4 : G2.1 (13 + 14 * i + 4) = G1.1 (13 + 14 * i + 4) := r13 _ (hFm 4 (by decide))
  have e3 : G2.1 (13 + 14 * i + 3) = G1.1 (13 + 14 * i + 3) := r13 _ (hFm 3 (by decide))
  have e5 : G2.1 (13 + 14 * i + 5) = G1.1 (13 + 14 * i + 5) := r13 _ (hFm 5 (by decide))
  have ep : w_partOf G2.1 (nI i) = w_partOf G1.1 (nI i) := by rw [n_partOf hi, n_partOf hi, e3, e4, e5]
  obtain ⟨t1, t2, t3, t4⟩ := tl_spec hi hL2 (by rw [e4]; exact w1)
  exact is_fin (it := (G.1 (13 + 14 * i + 6)).toInt) (pt := pt) (fx := fx) (bx := bx) (sx := sx) hi h (fun j hj => (t3 j (FrI_t hj)).trans ((r13 j (FrI_m hj)).trans (hq j (FrI_10 hj)))) t2 (by rw [t1, ep, e3, q3, hpt]) (by rw [t3 _ n10, r8]) (by rw [t3 _ n11, r7]) (by rw [t3 _ n8, r6]) (by rw [t3 _ nt, r13 10 hF10, hq10]) hv (by rw [Zd_cg (F := G2.1) fun p _ => t3 _ (nD p), r9])
    (fun p hp => by rw [t3 _ (nD p)]; exact r10 p hp) (fun q hq' => by rw [t4]; exact r12 q hq') (by rw [t4, r11, hq2]) hfx.2 r2 r3 b4 a7 a8 hfx.1 b8
theorem is_step (hi : i < 8) (h : IS W i G v) : IS W (i + 1) (wStep G i v).2 (wStep G i v).1 := by
  by_cases c1 : G.1 (13 + 14 * i + 0) = 1
  · by_cases c2 : G.1 (13 + 14 * i + 4) ≤ 0
    · rw [wS_none (Or.inr c2)]; exact h.mono
    · have hq : ∀ j, j ≠ 10 → (upq G 10 (G.1 10 + G.1 (13 + 14 * i + 6))).1 j = G.1 j := fun j hj => by rw [upq_1, upd_ne hj]
      have hq10 : ((upq G 10 (G.1 10 + G.1 (13 + 14 * i + 6))).1 10).toInt = (G.1 10).toInt + (G.1 (13 + 14 * i + 6)).toInt := by
        obtain ⟨a1, a2, a3, a4, a5, a6, a7, a8, a9⟩ := h.2.1 i hi
        have b := h.2.2.2.2.2.2.2.1
        have b2 := h.2.2.2.2.2.2.2.2.2.1
        clear a6 a9 h
        rw [upq_1, upd_same, fb_addI (by omega) (by omega)]
      have hq2 : (upq G 10 (G.1 10 + G.1 (13 + 14 * i + 6))).2 = G.2 := upq_2
      by_cases c3 : (upq G 10 (G.1 10 + G.1 (13 + 14 * i + 6))).1 (13 + 14 * i + 7) = 0
      · rw [wS_pres c1 c2 c3]
        dsimp only
        exact is_pres hi h c2 hq hq10 hq2
      · obtain ⟨r, G2, e, hI⟩ := is_miss (v := v) hi h c2 hq hq10 hq2
        rw [wS_miss c1 c2 c3 e]
        dsimp only
        exact hI
  · rw [wS_none (Or.inl c1)]; exact h.mono
theorem is_it : ∀ (n i : Nat) (G : vG) (v : Int32), i + n = 8 → IS W i G v → IS W 8 (itS n G i v).2 (itS n G i v).1 := by
  intro n
  induction n with
  | zero =>
    intro i G v h hI
    obtain rfl : i = 8 := by omega
    exact hI
  | succ n ih => intro i G v h hI; exact ih (i + 1) _ _ (by omega) (is_step (by omega) hI)
theorem IS.nd (h : IS W 8 G v) : ND G.1 := by
  have hz := h.zs
  obtain ⟨i1, i2, i3, i4, i5, i6, i7, i8, i9, i10, i11, i12⟩ := h
  intro o ho
  have h1 := hz.2.2.2.1 o ho
  have h2 := hz.2.2.2.2 o ho
  have h3 := i9 o ho
  rw [if_pos ho] at h3
  have h4 := i3 o ho
  refine ⟨h4.1, h4.2.1, h4.2.2, ?_⟩
  show _ + _ + Zd G.1 o < _
  omega
end INVS3
