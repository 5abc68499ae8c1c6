section MASKS
variable {F H : vF} {G G' : vG} {m k i n p w g o : Nat} {x y v v' u q : Int32} {W : Int} {T : vS}
def bt (x : Int32) (i : Nat) : Int32 := (x >>> ((nI i) &&& 31)) &&& 1
theorem bt_01 : bt x i = 0 ∨ bt x i = 1 := by
  unfold bt
  obtain ⟨j, hj, e⟩ := pk_andE (x >>> ((nI i) &&& 31)) (m := 1) 1 (by decide)
  rw [e]
  obtain rfl | rfl : j = 0 ∨ j = 1 := by omega
  · exact Or.inl rfl
  · exact Or.inr rfl
theorem bt_one : ∀ m, m < 8 → ∀ o, o < 8 → bt (1 <<< ((nI m) &&& 31)) o = if o = m then 1 else 0 := by decide +kernel
def itM : Nat → vG → Int32 → Nat → vG
  | 0, G, _, _ => G
  | n + 1, G, x, i => itM n (upq G (13 + 14 * i + 7) (bt x i)) x (i + 1)
def itVM : Nat → vF → Int32 → Nat → vF
  | 0, H, _, _ => H
  | n + 1, H, x, i => itVM n (upd H (13 + 14 * i + 7) (bt x i)) x (i + 1)
theorem n_endsWith : ∀ (n i : Nat) (G : vG), i + n = 8 → w_endsWith_L2 (n + 1) G x i = w_ends (itM n G x i) := by
  intro n
  induction n with
  | zero =>
    intro i G h
    obtain rfl : i = 8 := by omega
    rw [w_endsWith_L2.eq_2, if_pos le8, nmp_eq]
    rfl
  | succ n ih =>
    intro i G h
    rw [w_endsWith_L2.eq_2, if_neg (ge8 (by omega)), nm_eq]
    exact ih _ _ (by omega)
theorem n_letAway : ∀ (n i : Nat) (H : vF), i + n = 8 → v_X0_letBeAway_L2 (n + 1) H x i = itVM n H x i := by
  intro n
  induction n with
  | zero =>
    intro i H h
    obtain rfl : i = 8 := by omega
    rw [v_X0_letBeAway_L2.eq_2, if_pos le8]
    rfl
  | succ n ih =>
    intro i H h
    rw [v_X0_letBeAway_L2.eq_2, if_neg (ge8 (by omega))]
    show _ = itVM n (upd H (13 + 14 * i + 7) (bt x i)) x (i + 1)
    rw [← ih _ _ (by omega)]
    have hb := bt_01 (x := x) (i := i)
    by_cases c : ((x >>> ((nI i) &&& 31)) &&& 1) = 1
    · rw [if_pos c, nm_eq]
      have : bt x i = 1 := c
      rw [this]
    · rw [if_neg c, nm_eq]
      have : bt x i = 0 := hb.resolve_right c
      rw [this]
theorem itM_vals : ∀ (n i : Nat) (G : vG), i + n = 8 → (∀ o, i ≤ o → o < 8 → (itM n G x i).1 (13 + 14 * o + 7) = bt x o) ∧ (∀ j, (∀ o, i ≤ o → o < 8 → j ≠ 13 + 14 * o + 7) → (itM n G x i).1 j = G.1 j) ∧ (itM n G x i).2 = G.2 := by
  intro n
  induction n with
  | zero => intro i G h; exact ⟨fun o h1 h2 => absurd h2 (by omega), fun _ _ => rfl, rfl⟩
  | succ n ih =>
    intro i G h
    obtain ⟨a, b, c⟩ := ih (i + 1) (upq G (13 + 14 * i + 7) (bt x i)) (by omega)
    refine ⟨?_, ?_, c⟩
    · intro o h1 h2
      by_cases e : o = i
      · subst e
        refine (b _ fun o' h3 h4 => by omega).trans ?_
        rw [upq_1, upd_same]
      · exact a o (by omega) h2
    · intro j hj
      refine (b j fun o h3 h4 => hj o (by omega) h4).trans ?_
      rw [upq_1, upd_ne (hj i (Nat.le_refl i) (by omega))]
theorem mask_rel : ∀ (n i : Nat) (G : vG) (H : vF), i + n = 8 → RG G.1 H → IR W G.1 → RG (itM n G x i).1 (itVM n H x i) ∧ IR W (itM n G x i).1 := by
  intro n
  induction n with
  | zero => intro i G H h hR hI; exact ⟨hR, hI⟩
  | succ n ih =>
    intro i G H h hR hI
    refine ih (i + 1) _ _ (by omega) ?_ ?_
    · refine RG.up hR rfl ?_ ?_
      all_goals first | omega | (intro o ho; omega)
    · exact hI.away (by omega) bt_01
theorem sh_loop0 : ∀ (n i : Nat) (T : vS) (a b : Int32), i + n = 8 → x_X5_shared_L7 (n + 1) T 0 i a b = sL n (T 6) i b := by
  intro n
  induction n with
  | zero =>
    intro i T a b h
    obtain rfl : i = 8 := by omega
    rw [x_X5_shared_L7.eq_2, if_pos le8, if_pos rfl]
    rfl
  | succ n ih =>
    intro i T a b h
    rw [x_X5_shared_L7.eq_2, if_neg (ge8 (by omega)), nm_eq, nm_eq]
    show _ = sL n (T 6) (i + 1) (b + T 6 i)
    by_cases c : T 6 i ≤ a
    · rw [if_pos c]; exact ih _ _ _ _ (by omega)
    · rw [if_neg c]; exact ih _ _ _ _ (by omega)
theorem sh_loop1 : ∀ (n i : Nat) (T : vS) (a b : Int32), i + n = 8 → x_X5_shared_L7 (n + 1) T 1 i a b = mL n (T 6) i a := by
  intro n
  induction n with
  | zero =>
    intro i T a b h
    obtain rfl : i = 8 := by omega
    rw [x_X5_shared_L7.eq_2, if_pos le8, if_neg (by decide)]
    rfl
  | succ n ih =>
    intro i T a b h
    rw [x_X5_shared_L7.eq_2, if_neg (ge8 (by omega)), nm_eq, nm_eq]
    show _ = mL n (T 6) (i + 1) (if a < T 6 i then T 6 i else a)
    by_cases c : T 6 i ≤ a
    · rw [if_pos c, if_neg (nlt_of_le c)]; exact ih _ _ _ _ (by omega)
    · rw [if_neg c, if_pos (fa_of_nle c)]; exact ih _ _ _ _ (by omega)
theorem shared_0 : x_X5_shared T 0 = s8 (T 6) := sh_loop0 8 0 T 0 0 rfl
theorem shared_1 : x_X5_shared T 1 = m8 (T 6) := sh_loop1 8 0 T 0 0 rfl
/-- a row in which only member m will be absent; hb: who is here -/
def PA (m : Nat) (hb : Nat → Bool) (s5 : Int32) (B : Int) (F : vF) : Prop :=
  F (13 + 14 * m + 0) = 1 ∧ (∀ o, o < 8 → decide (F (13 + 14 * o + 0) = 1) = hb o) ∧ LMm F m ∧ F 5 = s5 ∧ (0 ≤ s5.toInt ∧ s5.toInt ≤ 99) ∧ (0 ≤ (F 8).toInt ∧ (F 8).toInt ≤ B) ∧ (0 ≤ (F (13 + 14 * m + 10)).toInt ∧ (F (13 + 14 * m + 10)).toInt ≤ 300000000) ∧ (0 ≤ (F (13 + 14 * m + 11)).toInt ∧ (F (13 + 14 * m + 11)).toInt ≤ B) ∧ (∀ q, q < 8 → 0 ≤ (F (125 + 8 * m + q)).toInt) ∧ Zd F m ≤ 300000000
/-- the others who are here -/
def oth (m : Nat) (hb : Nat → Bool) : Nat := fb_ct (fun o => hb o && decide (o ≠ m)) 8
theorem LMm.due0 (h : LMm F m) (hm : m < 8) : 0 ≤ (w_due F (nI m)).toInt ∧ (w_due F (nI m)).toInt ≤ 2100 := by
  by_cases c : F (13 + 14 * m + 4) = 0
  · rw [n_due hm, if_pos c, z32]; decide
  · have w1 : 1 ≤ (F (13 + 14 * m + 4)).toInt := by
      have a := h.1
      have b : (F (13 + 14 * m + 4)).toInt ≠ 0 := fun q => c (Int32.toInt_inj.mp (by rw [q, z32]))
      omega
    have hp := h.rng hm w1
    rw [h.due hm w1]
    obtain ⟨a1, a2, a3, a4, a5, a6, a7, a8, a9⟩ := h
    generalize (w_partOf F (nI m)).toInt = t at *
    exact ⟨by omega, by omega⟩
theorem alone_week {hb : Nat → Bool} {s5 : Int32} {B : Int} (hm : m < 8) (hP : PA m hb s5 B F) (hB : B ≤ 400000000) (hG : G.1 = F) :
    ∃ r G', w_endsWith G (1 <<< ((nI m) &&& 31)) = (r, G') ∧ (∀ q, q < 8 → 0 ≤ (G'.2.1 q).toInt) ∧
      ((w_due F (nI m)).toInt ≤ (F 8).toInt → bz G'.2.2 = 0 ∧ Zq G'.2.1 = 0 ∧ PA m hb s5 (B + 2100) G'.1 ∧ (G'.1 8).toInt = (F 8).toInt - (w_due F (nI m)).toInt + s5.toInt * (oth m hb : Int)) ∧
      ((F 8).toInt < (w_due F (nI m)).toInt → (oth m hb = 0 → ¬ bz G'.2.2 = 0 ∧ Zq G'.2.1 = 0) ∧ (¬ oth m hb = 0 → Zq G'.2.1 = (w_due F (nI m)).toInt - (F 8).toInt)) ∧
      (F (13 + 14 * m + 4) + -1 = 0 → G'.1 (13 + 14 * m + 4) = 0) ∧
      (¬ F (13 + 14 * m + 4) ≤ 0 → ¬ F (13 + 14 * m + 4) + -1 = 0 → G'.1 (13 + 14 * m + 4) = F (13 + 14 * m + 4) + -1 ∧ G'.1 (13 + 14 * m + 3) = F (13 + 14 * m + 3) + -(w_partOf F (nI m)) ∧ G'.1 (13 + 14 * m + 5) = F (13 + 14 * m + 5) ∧ G'.1 (13 + 14 * m + 6) = F (13 + 14 * m + 6)) ∧
      (F (13 + 14 * m + 4) = 0 → G'.1 (13 + 14 * m + 4) = 0) := by
  subst hG
  obtain ⟨p1, p2, p3, p4, p5, p6, p7, p8, p9, p10⟩ := hP
  have hw : w_endsWith G (1 <<< ((nI m) &&& 31)) = w_ends (itM 8 G (1 <<< ((nI m) &&& 31)) 0) := n_endsWith 8 0 G rfl
  obtain ⟨m7, mj, m2⟩ := itM_vals (x := 1 <<< ((nI m) &&& 31)) 8 0 G rfl
  have m7 := fun o (ho : o < 8) => (m7 o (Nat.zero_le o) ho).trans (bt_one m hm o ho)
  rw [hw]
  generalize itM 8 G (1 <<< ((nI m) &&& 31)) 0 = Gm at m7 mj m2 ⊢
  have mw : ∀ o w, w < 14 ∧ w ≠ 7 → Gm.1 (13 + 14 * o + w) = G.1 (13 + 14 * o + w) := fun o w hw => mj _ fun o' _ ho' => by omega
  have mg : ∀ j, j < 13 → Gm.1 j = G.1 j := fun j hj => mj _ fun o' _ ho' => by omega
  have md : ∀ o p, Gm.1 (125 + 8 * o + p) = G.1 (125 + 8 * o + p) := fun o p => mj _ fun o' _ ho' => by omega
  obtain ⟨Sh, hz, hcut⟩ := ends_cut Gm
  have hdm : w_due Gm.1 (nI m) = w_due G.1 (nI m) := by rw [n_due hm, n_due hm, n_partOf hm, n_partOf hm, mw m 3 (by decide), mw m 4 (by decide), mw m 5 (by decide), mw m 6 (by decide)]
  have hpm : w_partOf Gm.1 (nI m) = w_partOf G.1 (nI m) := by rw [n_partOf hm, n_partOf hm, mw m 3 (by decide), mw m 4 (by decide), mw m 5 (by decide)]
  have hct : fb_ct (hpB Gm.1) 8 = oth m hb := by
    unfold oth
    refine fb_ct_cong fun o ho => ?_
    have a := p2 o ho
    unfold hpB
    rw [mw o 0 (by decide), m7 o ho, ← a]
    by_cases c : o = m
    · subst c; simp
    · simp [c]
  have hZm : Zd Gm.1 m = Zd G.1 m := Zd_cg fun p _ => md m p
  obtain ⟨G1, fx, bx, sx, t0, t1, t2, t3, t4, t5, t6, t7, t8, t9, t10, t11, t12, t13, t14, t15, t16, t17, t18, t19, t20⟩ := alone_settle (u := 0) (F := Gm.1) hm (by rw [mw m 0 (by decide)]; exact p1) (by rw [m7 m hm, if_pos rfl]; decide) (fun o ho hne => by rw [m7 o ho, if_neg hne]) (p3.cg fun w _ b => mw m w (by omega))
    (by rw [mg 8 (by decide)]; exact ⟨p6.1, Int.le_trans p6.2 (Int.le_trans hB (by decide))⟩) (by rw [mw m 10 (by decide)]; exact ⟨p7.1, Int.le_trans p7.2 (by decide)⟩) (by rw [mw m 11 (by decide)]; exact ⟨p8.1, Int.le_trans p8.2 (Int.le_trans hB (by decide))⟩) (fun q hq => by rw [md m q]; exact p9 q hq) (by rw [hZm]; exact Int.le_trans p10 (by decide)) hz (by decide)
  rw [hdm, mg 8 (by decide)] at t1
  rw [hdm] at t4
  rw [mg 8 (by decide)] at t5
  rw [mw m 11 (by decide)] at t6
  rw [mw m 10 (by decide)] at t7
  rw [hZm] at t8
  rw [hct] at t13 t14
  rw [mw m 4 (by decide)] at t18
  rw [mw m 4 (by decide), mw m 3 (by decide), mw m 5 (by decide), mw m 6 (by decide), hpm] at t19
  rw [mw m 4 (by decide)] at t20
  -- the rest of the week
  rw [t0] at hcut
  generalize (itS 8 (Gm.1, Sh, (0 : Int32)) 0 0).1 = vv at hcut
  refine ⟨vv, wRest G1 vv, hcut, ?_⟩
  have hY := fy_rest (G := G1) (v := vv)
  have s0 := itS_2 8 0 (upq G1 11 (G1.1 11 + vv)) rfl
  obtain ⟨zz7, zj, z2⟩ := zero_vals 8 0 (wEnd (itWS 8 (upq G1 11 (G1.1 11 + vv)) 0)) rfl
  have e2 : (wEnd (itWS 8 (upq G1 11 (G1.1 11 + vv)) 0)).2 = G1.2 := by
    rw [← show (upq G1 11 (G1.1 11 + vv)).2 = G1.2 from upq_2, ← s0.2.2]
    unfold wEnd
    by_cases c : (((itWS 8 (upq G1 11 (G1.1 11 + vv)) 0).1 0 + 1) - ((itWS 8 (upq G1 11 (G1.1 11 + vv)) 0).1 0 + 1) / (itWS 8 (upq G1 11 (G1.1 11 + vv)) 0).1 6 * (itWS 8 (upq G1 11 (G1.1 11 + vv)) 0).1 6) = 0
    · rw [if_pos c, upq_2, upq_2]
    · rw [if_neg c, upq_2]
  have r2 : (wRest G1 vv).2 = G1.2 := z2.trans e2
  have e8 : (wEnd (itWS 8 (upq G1 11 (G1.1 11 + vv)) 0)).1 8 = (itWS 8 (upq G1 11 (G1.1 11 + vv)) 0).1 8 := by
    unfold wEnd
    by_cases c : (((itWS 8 (upq G1 11 (G1.1 11 + vv)) 0).1 0 + 1) - ((itWS 8 (upq G1 11 (G1.1 11 + vv)) 0).1 0 + 1) / (itWS 8 (upq G1 11 (G1.1 11 + vv)) 0).1 6 * (itWS 8 (upq G1 11 (G1.1 11 + vv)) 0).1 6) = 0
    · rw [if_pos c, upq_1, upd_ne (by decide), upq_1, upd_ne (by decide)]
    · rw [if_neg c, upq_1, upd_ne (by decide)]
  have r8 : (wRest G1 vv).1 8 = (itWS 8 (upq G1 11 (G1.1 11 + vv)) 0).1 8 := (zj 8 (fun o _ ho => by omega)).trans e8
  have rw_ : ∀ w, w < 14 ∧ w ≠ 7 ∧ w ≠ 12 → ∀ o, o < 8 → (wRest G1 vv).1 (13 + 14 * o + w) = G1.1 (13 + 14 * o + w) := fun w hw o ho => by rw [hY _ (Fy_w ho hw), upd_ne (by omega)]
  have rd : ∀ p, (wRest G1 vv).1 (125 + 8 * m + p) = G1.1 (125 + 8 * m + p) := fun p => by rw [hY _ Fy_d, upd_ne (by omega)]
  have r5 : (wRest G1 vv).1 5 = G1.1 5 := by rw [hY _ (Fy_g (by decide)), upd_ne (by decide)]
  have c1 : fb_ct (hpB (upq G1 11 (G1.1 11 + vv)).1) 8 = oth m hb := by
    rw [← hct]
    exact fb_ct_cong fun o ho => by
      unfold hpB
      rw [upq_1, upd_ne (by omega), upd_ne (by omega), (t16 o ho).1, (t16 o ho).2]
  have u5 : (upq G1 11 (G1.1 11 + vv)).1 5 = s5 := by rw [upq_1, upd_ne (by decide), t17, mg 5 (by decide), p4]
  have u8 : (upq G1 11 (G1.1 11 + vv)).1 8 = G1.1 8 := by rw [upq_1, upd_ne (by decide)]
  have fx0 : 0 ≤ fx ∧ fx ≤ (G.1 8).toInt ∧ ((w_due G.1 (nI m)).toInt ≤ (G.1 8).toInt → fx = (w_due G.1 (nI m)).toInt) ∧ ((G.1 8).toInt < (w_due G.1 (nI m)).toInt → fx = (G.1 8).toInt) := by
    have hd0 := (p3.due0 hm).1
    rw [t1]
    by_cases c : (w_due G.1 (nI m)).toInt ≤ (G.1 8).toInt
    · rw [if_pos c]
      exact ⟨hd0, c, fun _ => rfl, fun q => absurd q (by
        generalize (w_due G.1 (nI m)).toInt = d at *
        clear t1 t4 t5 t6 t7 t8 hZm
        omega)⟩
    · rw [if_neg c]
      exact ⟨p6.1, Int.le_refl _, fun q => absurd q c, fun _ => rfl⟩
  have hs8 := save_8 (pb := hpB (upq G1 11 (G1.1 11 + vv)).1) 8 0 (upq G1 11 (G1.1 11 + vv)) rfl (fun _ _ => rfl) (by rw [u5]; exact p5.1) (by rw [u5]; exact p5.2) (by
      rw [u8, t5]
      have := fx0.2.1
      clear t1 t4 t5 t6 t7 t8 hZm
      omega) (by
      rw [u8, t5]
      have := fx0.1
      have := p6.2
      clear t1 t4 t5 t6 t7 t8 hZm
      omega)
  have e0 : fb_ct (hpB (upq G1 11 (G1.1 11 + vv)).1) 0 = 0 := rfl
  rw [u8, u5, c1, e0, ← r8, t5] at hs8
  have h8eq := hs8.1
  have h8lo := hs8.2.1
  have h8hi := hs8.2.2
  rw [show ((oth m hb : Nat) : Int) - ((0 : Nat) : Int) = (oth m hb : Int) from Int.sub_zero _] at h8eq
  have q2 : (wRest G1 vv).2.1 = G1.2.1 := by rw [r2]
  have q3 : (wRest G1 vv).2.2 = G1.2.2 := by rw [r2]
  have fhi := (p3.due0 hm).2
  have flo := (p3.due0 hm).1
  clear hcut hY s0 zz7 zj z2 e2 e8 r8 hs8 hZm hct c1 u5 u8 e0 hdm hpm t0
  generalize wRest G1 vv = R at *
  generalize (w_due G.1 (nI m)).toInt = d at *
  refine ⟨fun q hq => ?_, fun hle => ?_, fun hlt => ?_, fun q => ?_, fun q1 q => ?_, fun q => ?_⟩
  · show 0 ≤ (R.2.1 q).toInt
    rw [q2]; exact t11 q hq
  · have ef := fx0.2.2.1 hle
    have eb : bx = 0 ∧ sx = 0 := by
      rw [ef] at t4
      clear t1 t5 t6 t7 t8 h8eq h8lo h8hi fx0
      exact ⟨by omega, by omega⟩
    refine ⟨?_, ?_, ?_, ?_⟩
    · show bz R.2.2 = 0
      rw [q3]; exact t12.mpr eb.1
    · show Zq R.2.1 = 0
      rw [q2, t10]; exact eb.2
    · refine ⟨?_, ?_, ?_, ?_, p5, ?_, ?_, ?_, ?_, ?_⟩
      · show R.1 _ = 1
        rw [rw_ 0 (by decide) m hm, (t16 m hm).1, mw m 0 (by decide)]; exact p1
      · intro o ho
        show decide (R.1 _ = 1) = hb o
        rw [rw_ 0 (by decide) o ho, (t16 o ho).1, mw o 0 (by decide)]; exact p2 o ho
      · exact t15.cg fun w _ b => rw_ w (by omega) m hm
      · show R.1 5 = s5
        rw [r5, t17, mg 5 (by decide)]; exact p4
      · show 0 ≤ (R.1 8).toInt ∧ (R.1 8).toInt ≤ B + 2100
        have a := fx0.1; have b := fx0.2.1; have c := p6.2
        clear t1 t4 t5 t6 t7 t8 h8eq fx0 ef eb hle fhi flo
        exact ⟨by omega, by omega⟩
      · show 0 ≤ (R.1 (13 + 14 * m + 10)).toInt ∧ (R.1 (13 + 14 * m + 10)).toInt ≤ 300000000
        rw [rw_ 10 (by decide) m hm, t7, eb.1, Int.add_zero]; exact p7
      · show 0 ≤ (R.1 (13 + 14 * m + 11)).toInt ∧ (R.1 (13 + 14 * m + 11)).toInt ≤ B + 2100
        rw [rw_ 11 (by decide) m hm, t6, ef]
        clear t1 t4 t5 t6 t7 t8 h8eq h8lo h8hi fx0 hle
        exact ⟨by omega, by omega⟩
      · intro q hq
        show 0 ≤ (R.1 (125 + 8 * m + q)).toInt
        rw [rd]; exact t9 q hq
      · show Zd R.1 m ≤ 300000000
        rw [Zd_cg (F := G1.1) fun p _ => rd p, t8, eb.2, Int.add_zero]; exact p10
    · show (R.1 8).toInt = _
      rw [h8eq, ef]
  · have ef := fx0.2.2.2 hlt
    refine ⟨fun c0 => ?_, fun c0 => ?_⟩
    · have es := t13 c0
      have eb : ¬ bx = 0 := by
        rw [ef, es] at t4
        clear t1 t5 t6 t7 t8 h8eq h8lo h8hi fx0
        omega
      refine ⟨?_, ?_⟩
      · show ¬ bz R.2.2 = 0
        rw [q3]; exact fun q => eb (t12.mp q)
      · show Zq R.2.1 = 0
        rw [q2, t10]; exact es
    · have eb := t14 c0
      show Zq R.2.1 = _
      rw [q2, t10]
      rw [ef, eb] at t4
      clear t1 t5 t6 t7 t8 h8eq h8lo h8hi fx0
      omega
  · show R.1 (13 + 14 * m + 4) = 0
    rw [rw_ 4 (by decide) m hm]; exact t18 q
  · show R.1 (13 + 14 * m + 4) = _ ∧ R.1 (13 + 14 * m + 3) = _ ∧ R.1 (13 + 14 * m + 5) = _ ∧ R.1 (13 + 14 * m + 6) = _
    rw [rw_ 4 (by decide) m hm, rw_ 3 (by decide) m hm, rw_ 5 (by decide) m hm, rw_ 6 (by decide) m hm]; exact t19 q1 q
  · show R.1 (13 + 14 * m + 4) = 0
    rw [rw_ 4 (by decide) m hm]; exact t20 q
end MASKS
