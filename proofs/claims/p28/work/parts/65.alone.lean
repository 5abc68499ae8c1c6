section ALONE
variable {F H : vF} {G G' : vG} {m k i n p w g o : Nat} {x y v v' u : Int32} {W : Int} {T : vS}
/-- what matters of a week in which only member m is absent -/
def Em (m j : Nat) : Prop := j = 5 ∨ j = 8 ∨ (13 ≤ j ∧ j < 125 ∧ ((j - 13) % 14 = 0 ∨ (j - 13) % 14 = 7 ∨ (j - 13) / 14 = m)) ∨ (125 + 8 * m ≤ j ∧ j < 133 + 8 * m)
theorem wt_fr (hm : m < 8) : (∀ j, ¬ (13 + 14 * m + 2 ≤ j ∧ j ≤ 13 + 14 * m + 6) → (wTail G m).1 j = G.1 j) ∧ (wTail G m).2 = G.2 := by
  by_cases c : G.1 (13 + 14 * m + 4) + -1 = 0
  · exact (wt_end hm c).2
  · obtain ⟨_, _, a, b⟩ := wt_go c
    exact ⟨fun j hj => a j (by omega) (by omega), b⟩
theorem Em_t {j : Nat} (hj : Em m j) (ho : o < 8) (hne : o ≠ m) : ¬ (13 + 14 * o + 2 ≤ j ∧ j ≤ 13 + 14 * o + 6) := by
  rintro ⟨a, b⟩
  obtain ⟨w, hw, rfl⟩ : ∃ w, (2 ≤ w ∧ w ≤ 6) ∧ j = 13 + 14 * o + w := ⟨j - (13 + 14 * o), by omega, by omega⟩
  have e1 : (13 + 14 * o + w - 13) % 14 = w := by omega
  have e2 : (13 + 14 * o + w - 13) / 14 = o := by omega
  unfold Em at hj
  rw [e1, e2] at hj
  clear e1 e2
  omega
theorem Em_10 {j : Nat} (hj : Em m j) : j ≠ 10 := by
  intro q
  subst q
  unfold Em at hj
  omega
theorem step_o (ho : o < 8) (hne : o ≠ m) (h7 : G.1 (13 + 14 * o + 7) = 0) : ∃ v' G', wStep G o v = (v', G') ∧ (∀ j, Em m j → G'.1 j = G.1 j) ∧ G'.2 = G.2 := by
  by_cases c1 : G.1 (13 + 14 * o + 0) = 1
  · by_cases c2 : G.1 (13 + 14 * o + 4) ≤ 0
    · exact ⟨v, G, wS_none (Or.inr c2), fun _ _ => rfl, rfl⟩
    · have c3 : (upq G 10 (G.1 10 + G.1 (13 + 14 * o + 6))).1 (13 + 14 * o + 7) = 0 := by rw [upq_1, upd_ne (by omega)]; exact h7
      refine ⟨_, _, wS_pres c1 c2 c3, ?_, ?_⟩
      · intro j hj
        rw [(wt_fr ho).1 j (Em_t hj ho hne), upq_1, upd_ne (Em_10 hj)]
      · rw [(wt_fr ho).2, upq_2]
  · exact ⟨v, G, wS_none (Or.inl c1), fun _ _ => rfl, rfl⟩
theorem itS_add : ∀ (a b i : Nat) (G : vG) (v : Int32), itS (a + b) G i v = itS b (itS a G i v).2 (i + a) (itS a G i v).1 := by
  intro a
  induction a with
  | zero => intro b i G v; rw [Nat.zero_add]; rfl
  | succ a ih =>
    intro b i G v
    rw [show a + 1 + b = (a + b) + 1 by omega]
    show itS (a + b) (wStep G i v).2 (i + 1) (wStep G i v).1 = _
    rw [ih, show i + 1 + a = i + (a + 1) by omega]
    rfl
theorem it_others : ∀ (n i : Nat) (G : vG) (v : Int32), i + n ≤ 8 → (∀ o, i ≤ o → o < i + n → o ≠ m) → (∀ o, o < 8 → o ≠ m → G.1 (13 + 14 * o + 7) = 0) → (∀ j, Em m j → (itS n G i v).2.1 j = G.1 j) ∧ (itS n G i v).2.2 = G.2 := by
  intro n
  induction n with
  | zero => intro i G v _ _ _; exact ⟨fun _ _ => rfl, rfl⟩
  | succ n ih =>
    intro i G v hi hne h7
    obtain ⟨v', G', e, s1, s2⟩ := step_o (m := m) (v := v) (show i < 8 by omega) (hne i (Nat.le_refl i) (by omega)) (h7 i (by omega) (hne i (Nat.le_refl i) (by omega)))
    have r := ih (i + 1) G' v' (by omega) (fun o a b => hne o (by omega) (by omega)) (fun o ho q => by
      rw [s1 _ (Or.inr (Or.inr (Or.inl ⟨by omega, by omega, Or.inr (Or.inl (by omega))⟩)))]
      exact h7 o ho q)
    have e2 : itS (n + 1) G i v = itS n G' (i + 1) v' := by
      show itS n (wStep G i v).2 (i + 1) (wStep G i v).1 = _
      rw [e]
    rw [e2]
    exact ⟨fun j hj => (r.1 j hj).trans (s1 j hj), r.2.trans s2⟩
theorem Em_w (hm : m < 8) (hw : w < 14) : Em m (13 + 14 * m + w) := Or.inr (Or.inr (Or.inl ⟨by omega, by omega, Or.inr (Or.inr (by omega))⟩))
theorem Em_0 (ho : o < 8) : Em m (13 + 14 * o + 0) := Or.inr (Or.inr (Or.inl ⟨by omega, by omega, Or.inl (by omega)⟩))
theorem Em_7 (ho : o < 8) : Em m (13 + 14 * o + 7) := Or.inr (Or.inr (Or.inl ⟨by omega, by omega, Or.inr (Or.inl (by omega))⟩))
theorem Em_d (hp : p < 8) : Em m (125 + 8 * m + p) := Or.inr (Or.inr (Or.inr ⟨by omega, by omega⟩))
theorem Em_5 : Em m 5 := Or.inl rfl
theorem Em_8 : Em m 8 := Or.inr (Or.inl rfl)
/-- a week that only member m misses, up to the savings -/
theorem alone_settle (hm : m < 8) (hh : F (13 + 14 * m + 0) = 1) (h7 : ¬ F (13 + 14 * m + 7) = 0) (h7o : ∀ o, o < 8 → o ≠ m → F (13 + 14 * o + 7) = 0) (hL : LMm F m)
    (hf : 0 ≤ (F 8).toInt ∧ (F 8).toInt ≤ 536870912) (hb : 0 ≤ (F (13 + 14 * m + 10)).toInt ∧ (F (13 + 14 * m + 10)).toInt ≤ 536870912) (hfd : 0 ≤ (F (13 + 14 * m + 11)).toInt ∧ (F (13 + 14 * m + 11)).toInt ≤ 536870912) (hD : ∀ q, q < 8 → 0 ≤ (F (125 + 8 * m + q)).toInt) (hZ : Zd F m ≤ 536870912)
    {Sh : Nat → Int32} (hSh : ∀ o, o < 8 → Sh o = 0) (hu : bz u = 0) :
    ∃ G1 fx bx sx, (itS 8 (F, Sh, u) 0 0).2 = G1 ∧ fx = (if (w_due F (nI m)).toInt ≤ (F 8).toInt then (w_due F (nI m)).toInt else (F 8).toInt) ∧ 0 ≤ bx ∧ 0 ≤ sx ∧ fx + bx + sx = (w_due F (nI m)).toInt ∧
      (G1.1 8).toInt = (F 8).toInt - fx ∧ (G1.1 (13 + 14 * m + 11)).toInt = (F (13 + 14 * m + 11)).toInt + fx ∧ (G1.1 (13 + 14 * m + 10)).toInt = (F (13 + 14 * m + 10)).toInt + bx ∧ Zd G1.1 m = Zd F m + sx ∧ (∀ q, q < 8 → 0 ≤ (G1.1 (125 + 8 * m + q)).toInt) ∧ Zq G1.2.1 = sx ∧ (∀ q, q < 8 → 0 ≤ (G1.2.1 q).toInt) ∧
      (bz G1.2.2 = 0 ↔ bx = 0) ∧ (fb_ct (hpB F) 8 = 0 → sx = 0) ∧ (¬ fb_ct (hpB F) 8 = 0 → bx = 0) ∧ LMm G1.1 m ∧ (∀ o, o < 8 → G1.1 (13 + 14 * o + 0) = F (13 + 14 * o + 0) ∧ G1.1 (13 + 14 * o + 7) = F (13 + 14 * o + 7)) ∧ G1.1 5 = F 5 ∧
      (F (13 + 14 * m + 4) + -1 = 0 → G1.1 (13 + 14 * m + 4) = 0) ∧
      (¬ F (13 + 14 * m + 4) ≤ 0 → ¬ F (13 + 14 * m + 4) + -1 = 0 → G1.1 (13 + 14 * m + 4) = F (13 + 14 * m + 4) + -1 ∧ G1.1 (13 + 14 * m + 3) = F (13 + 14 * m + 3) + -(w_partOf F (nI m)) ∧ G1.1 (13 + 14 * m + 5) = F (13 + 14 * m + 5) ∧ G1.1 (13 + 14 * m + 6) = F (13 + 14 * m + 6)) ∧
      (F (13 + 14 * m + 4) = 0 → G1.1 (13 + 14 * m + 4) = 0) := by
  have hZq : Zq Sh = 0 := by
    have : Zq Sh = fb_si (fun _ => (0 : Int)) 8 := fb_si_cong fun o ho => by rw [hSh o ho, z32]
    rw [this]; rfl
  have hSn : ∀ q, q < 8 → 0 ≤ (Sh q).toInt := fun q hq => by rw [hSh q hq, z32]; exact Int.le_refl 0
  -- up to m
  have split : itS 8 (F, Sh, u) 0 0 = itS (7 - m) (wStep (itS m (F, Sh, u) 0 0).2 m (itS m (F, Sh, u) 0 0).1).2 (m + 1) (wStep (itS m (F, Sh, u) 0 0).2 m (itS m (F, Sh, u) 0 0).1).1 := by
    rw [show 8 = m + (1 + (7 - m)) by omega, itS_add, Nat.zero_add, itS_add]
    rfl
  have A := it_others (m := m) m 0 (F, Sh, u) 0 (by omega) (fun o _ b => by omega) h7o
  rw [split]
  generalize (itS m (F, Sh, u) 0 0).1 = va
  generalize (itS m (F, Sh, u) 0 0).2 = Ga at A ⊢
  obtain ⟨A1, A2⟩ := A
  have aw : ∀ w, w < 14 → Ga.1 (13 + 14 * m + w) = F (13 + 14 * m + w) := fun w hw => A1 _ (Em_w hm hw)
  have ad : ∀ p, p < 8 → Ga.1 (125 + 8 * m + p) = F (125 + 8 * m + p) := fun p hp => A1 _ (Em_d hp)
  have Aq1 : Ga.2.1 = Sh := by rw [A2]
  have Aq2 : Ga.2.2 = u := by rw [A2]
  have hLa : LMm Ga.1 m := hL.cg fun w _ b => aw w (by omega)
  have hda : w_due Ga.1 (nI m) = w_due F (nI m) := by rw [n_due hm, n_due hm, n_partOf hm, n_partOf hm, aw 3 (by decide), aw 4 (by decide), aw 5 (by decide), aw 6 (by decide)]
  have hpa : w_partOf Ga.1 (nI m) = w_partOf F (nI m) := by rw [n_partOf hm, n_partOf hm, aw 3 (by decide), aw 4 (by decide), aw 5 (by decide)]
  have hZa : Zd Ga.1 m = Zd F m := Zd_cg ad
  have hca : fb_ct (hpB Ga.1) 8 = fb_ct (hpB F) 8 := fb_ct_cong fun o ho => by
    unfold hpB
    rw [A1 _ (Em_0 ho), A1 _ (Em_7 ho)]
  -- behind m, once the state behind m's step is known
  have fin : ∀ (Gb : vG) (vb : Int32), (∀ o, o < 8 → o ≠ m → Gb.1 (13 + 14 * o + 7) = 0) → (∀ j, Em m j → (itS (7 - m) Gb (m + 1) vb).2.1 j = Gb.1 j) ∧ (itS (7 - m) Gb (m + 1) vb).2.2 = Gb.2 := fun Gb vb h => it_others (7 - m) (m + 1) Gb vb (by omega) (fun o a b => by omega) h
  by_cases c2 : F (13 + 14 * m + 4) ≤ 0
  · -- no loan
    have w0 : F (13 + 14 * m + 4) = 0 := by
      rw [Int32.le_iff_toInt_le, z32] at c2
      exact Int32.toInt_inj.mp (by rw [z32]; have := hL.1; omega)
    have d0 : w_due F (nI m) = 0 := by rw [n_due hm, if_pos w0]
    rw [wS_none (Or.inr (by rw [aw 4 (by decide)]; exact c2))]
    dsimp only
    obtain ⟨B1, B2⟩ := fin Ga va (fun o ho hne => by rw [A1 _ (Em_7 ho)]; exact h7o o ho hne)
    generalize (itS (7 - m) Ga (m + 1) va).2 = G1 at B1 B2 ⊢
    rw [d0, z32]
    refine ⟨G1, 0, 0, 0, rfl, by rw [if_pos hf.1], Int.le_refl 0, Int.le_refl 0, rfl, ?_, ?_, ?_, ?_, ?_, ?_, ?_, ?_, fun _ => rfl, fun _ => rfl, ?_, ?_, ?_, ?_, ?_, ?_⟩
    · rw [B1 _ Em_8, A1 _ Em_8, Int.sub_zero]
    · rw [B1 _ (Em_w hm (by decide)), aw 11 (by decide), Int.add_zero]
    · rw [B1 _ (Em_w hm (by decide)), aw 10 (by decide), Int.add_zero]
    · rw [Zd_cg (F := Ga.1) fun p hp => B1 _ (Em_d hp), hZa, Int.add_zero]
    · intro q hq; rw [B1 _ (Em_d hq), ad q hq]; exact hD q hq
    · rw [B2, Aq1]; exact hZq
    · intro q hq; rw [B2, Aq1]; exact hSn q hq
    · rw [B2, Aq2]; exact ⟨fun _ => rfl, fun _ => hu⟩
    · exact hLa.cg fun w _ b => B1 _ (Em_w hm (by omega))
    · intro o ho; exact ⟨(B1 _ (Em_0 ho)).trans (A1 _ (Em_0 ho)), (B1 _ (Em_7 ho)).trans (A1 _ (Em_7 ho))⟩
    · exact (B1 _ Em_5).trans (A1 _ Em_5)
    · intro q; rw [w0] at q; exact absurd q (by decide)
    · intro q; exact absurd c2 q
    · intro _; rw [B1 _ (Em_w hm (by decide)), aw 4 (by decide)]; exact w0
  · -- a loan: the due is missed
    have w1 : 1 ≤ (F (13 + 14 * m + 4)).toInt := by
      rw [Int32.le_iff_toInt_le, z32] at c2
      omega
    have hdv := hL.due hm w1
    have hpv := hL.rng hm w1
    have c1' : Ga.1 (13 + 14 * m + 0) = 1 := by rw [aw 0 (by decide)]; exact hh
    have c2' : ¬ Ga.1 (13 + 14 * m + 4) ≤ 0 := by rw [aw 4 (by decide)]; exact c2
    have q10 : ∀ j, j ≠ 10 → (upq Ga 10 (Ga.1 10 + Ga.1 (13 + 14 * m + 6))).1 j = Ga.1 j := fun j hj => by rw [upq_1, upd_ne hj]
    have q2 : (upq Ga 10 (Ga.1 10 + Ga.1 (13 + 14 * m + 6))).2 = Ga.2 := upq_2
    have c3' : ¬ (upq Ga 10 (Ga.1 10 + Ga.1 (13 + 14 * m + 6))).1 (13 + 14 * m + 7) = 0 := by rw [q10 _ (by omega), aw 7 (by decide)]; exact h7
    have w4 : F (13 + 14 * m + 4) = 0 → False := fun q => by rw [q, z32] at w1; exact absurd w1 (by decide)
    have dd : 0 ≤ (w_due F (nI m)).toInt ∧ (w_due F (nI m)).toInt ≤ 2100 := by
      have a5 := hL.2.2.2.2.1
      have a7 := hL.2.2.2.2.2.2.1
      have a8 := hL.2.2.2.2.2.2.2.1
      rw [hdv]
      generalize (w_partOf F (nI m)).toInt = t at *
      clear hZ hZa hZq hdv
      exact ⟨by omega, by omega⟩
    obtain ⟨r, G2, fx, bx, sx, r0, r1, r2, r3, r4, r5, r6, r7, r8, r9, r10, r11, r12, r13, r14, r15, r16⟩ := ms_spec hm (G := upq Ga 10 (Ga.1 10 + Ga.1 (13 + 14 * m + 6))) (d := w_due F (nI m)) (by
        rw [← hda, n_due hm, n_due hm, n_partOf hm, n_partOf hm, q10 _ (by omega), q10 _ (by omega), q10 _ (by omega), q10 _ (by omega)]) dd (by rw [q10 _ (by omega), A1 _ Em_8]; exact hf) (by rw [q10 _ (by omega), aw 10 (by decide)]; exact hb) (by rw [q10 _ (by omega), aw 11 (by decide)]; exact hfd) (fun q hq => by rw [q10 _ (by omega), ad q hq]; exact hD q hq) (by
        rw [Zd_cg (F := Ga.1) fun p _ => q10 _ (by omega), hZa]; exact hZ) (by rw [q2, Aq1]; exact hSn) (by rw [q2, Aq1, hZq]; decide)
    rw [wS_miss c1' c2' c3' r0]
    dsimp only
    have ct : fb_ct (hpB (upq Ga 10 (Ga.1 10 + Ga.1 (13 + 14 * m + 6))).1) 8 = fb_ct (hpB F) 8 := by
      rw [← hca]
      exact fb_ct_cong fun o ho => by
        unfold hpB
        rw [q10 _ (by omega), q10 _ (by omega)]
    rw [ct] at r15 r16
    have f2 : ∀ j, Fm m j → j ≠ 10 → G2.1 j = Ga.1 j := fun j h1 h2 => (r13 j h1).trans (q10 j h2)
    have hFm : ∀ w, w < 8 → Fm m (13 + 14 * m + w) := fun w hw => by
      clear r1 r6 r7 r8 r9 r11 hZ hZa hZq hdv dd
      exact ⟨by omega, by omega, by omega, by omega, by omega, by omega, Fs_w hm (by omega)⟩
    have f2w : ∀ w, w < 8 → G2.1 (13 + 14 * m + w) = F (13 + 14 * m + w) := fun w hw => (f2 _ (hFm w hw) (by omega)).trans (aw w (by omega))
    have hL2 : LMm G2.1 m := hL.cg fun w _ b => f2w w (by omega)
    obtain ⟨t1, t2, t3, t4⟩ := tl_spec hm hL2 (by rw [f2w 4 (by decide)]; exact w1)
    have f0 : ∀ o, o < 8 → ∀ w, w = 0 ∨ w = 7 → (wTail G2 m).1 (13 + 14 * o + w) = F (13 + 14 * o + w) := fun o ho w hw => by
      clear r1 r6 r7 r8 r9 r11 hZ hZa hZq hdv dd t1
      rw [t3 _ (by omega), f2 _ ⟨by omega, by omega, by omega, by omega, by omega, by omega, Fs_w ho (by omega)⟩ (by omega)]
      rcases hw with rfl | rfl
      · exact A1 _ (Em_0 ho)
      · exact A1 _ (Em_7 ho)
    obtain ⟨B1, B2⟩ := fin (wTail G2 m) (va + r) (fun o ho hne => by rw [f0 o ho 7 (Or.inr rfl)]; exact h7o o ho hne)
    have n8 : ¬ (13 + 14 * m + 2 ≤ 8 ∧ 8 ≤ 13 + 14 * m + 6) := by clear r1 r6 r7 r8 r9 r11 hZ hZa hZq hdv dd t1; omega
    have n10 : ¬ (13 + 14 * m + 2 ≤ 13 + 14 * m + 10 ∧ 13 + 14 * m + 10 ≤ 13 + 14 * m + 6) := by clear r1 r6 r7 r8 r9 r11 hZ hZa hZq hdv dd t1; omega
    have n11 : ¬ (13 + 14 * m + 2 ≤ 13 + 14 * m + 11 ∧ 13 + 14 * m + 11 ≤ 13 + 14 * m + 6) := by clear r1 r6 r7 r8 r9 r11 hZ hZa hZq hdv dd t1; omega
    have nD : ∀ p, ¬ (13 + 14 * m + 2 ≤ 125 + 8 * m + p ∧ 125 + 8 * m + p ≤ 13 + 14 * m + 6) := fun p => by clear r1 r6 r7 r8 r9 r11 hZ hZa hZq hdv dd t1; omega
    have n5 : ¬ (13 + 14 * m + 2 ≤ 5 ∧ 5 ≤ 13 + 14 * m + 6) := by clear r1 r6 r7 r8 r9 r11 hZ hZa hZq hdv dd t1; omega
    have fm5 : Fm m 5 := by
      clear r1 r6 r7 r8 r9 r11 hZ hZa hZq hdv dd t1
      exact ⟨by omega, by omega, by omega, by omega, by omega, by omega, Fs_g (by omega)⟩
    generalize (itS (7 - m) (wTail G2 m) (m + 1) (va + r)).2 = G1 at B1 B2 ⊢
    rw [q10 8 (by decide), A1 _ Em_8] at r1 r6
    rw [q10 _ (by omega), aw 11 (by decide)] at r7
    rw [q10 _ (by omega), aw 10 (by decide)] at r8
    rw [Zd_cg (F := Ga.1) (F' := (upq Ga 10 (Ga.1 10 + Ga.1 (13 + 14 * m + 6))).1) fun p _ => q10 _ (by omega), hZa] at r9
    rw [q2, Aq1, hZq] at r11
    rw [q2, Aq2] at r14
    have B2' : G1.2 = G2.2 := B2.trans t4
    refine ⟨G1, fx, bx, sx, rfl, r1, r2, r3, r4, ?_, ?_, ?_, ?_, ?_, ?_, ?_, ?_, r15, r16, ?_, ?_, ?_, ?_, ?_, fun q => absurd q w4⟩
    · rw [B1 _ Em_8, t3 _ n8]; exact r6
    · rw [B1 _ (Em_w hm (by decide)), t3 _ n11]; exact r7
    · rw [B1 _ (Em_w hm (by decide)), t3 _ n10]; exact r8
    · rw [Zd_cg (F := G2.1) fun p hp => (B1 _ (Em_d hp)).trans (t3 _ (nD p))]; exact r9
    · intro q hq; rw [B1 _ (Em_d hq), t3 _ (nD q)]; exact r10 q hq
    · rw [B2', r11, Int.zero_add]
    · intro q hq; rw [B2']; exact r12 q hq
    · rw [B2', r14]; exact ⟨fun q => q.2, fun q => ⟨hu, q⟩⟩
    · exact t2.cg fun w _ b => B1 _ (Em_w hm (Nat.lt_of_le_of_lt b (by decide)))
    · intro o ho; exact ⟨(B1 _ (Em_0 ho)).trans (f0 o ho 0 (Or.inl rfl)), (B1 _ (Em_7 ho)).trans (f0 o ho 7 (Or.inr rfl))⟩
    · rw [B1 _ Em_5, t3 _ n5, f2 5 fm5 (by decide)]; exact A1 _ Em_5
    · intro q
      rw [B1 _ (Em_w hm (by decide))]
      exact (wt_end hm (by rw [f2w 4 (by decide)]; exact q)).1 4 (by decide) (by decide)
    · intro _ q
      obtain ⟨s1, s2, s3, _⟩ := wt_go (G := G2) (m := m) (by rw [f2w 4 (by decide)]; exact q)
      rw [B1 _ (Em_w hm (by decide)), B1 _ (Em_w hm (by decide)), B1 _ (Em_w hm (by decide)), B1 _ (Em_w hm (by decide)), s1, s2, s3 _ (by omega) (by omega), s3 _ (by omega) (by omega), f2w 3 (by decide), f2w 4 (by decide), f2w 5 (by decide), f2w 6 (by decide)]
      have : w_partOf G2.1 (nI m) = w_partOf F (nI m) := by rw [n_partOf hm, n_partOf hm, f2w 3 (by decide), f2w 4 (by decide), f2w 5 (by decide)]
      rw [this]
      exact ⟨rfl, rfl, rfl, rfl⟩
end ALONE
