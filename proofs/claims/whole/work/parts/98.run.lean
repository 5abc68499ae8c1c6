section OPRUN
variable {S T : vS} {F H : vF} {G : vG} {p1 p2 p3 x y z : Int32} {k n i q j p len : Nat} {w a b kd v : Int32} {tx td : Nat → Int32}
/-- class and model while the text is carried out -/
def RLn (S T : vS) : Prop := HH S T ∧ RG (T 1) (cv S 0) ∧ IR 999 (T 1) ∧ S tC = T 4 ∧ T 0 6 = 0 ∧ T 0 5 = 0
theorem RLn.clear (h : RLn S T) : RR (x_X3_clear S) T := by
  obtain ⟨a, b, c, d, e, f⟩ := h
  rw [clear_def]
  have ec : ∀ g, g < 8 → cv (st S tO 1 0) g = cv S g := fun g hg => cv_st (q := 155) (by omega)
  refine ⟨a.txt ?_ ec rfl rfl, by rw [ec 0 (by decide)]; exact b, c, 0, by decide, ?_, f, fun i hi => absurd hi (by omega), ?_⟩
  · intro j
    show st S tO 1 0 hO j = _
    rw [st_at, if_neg (fun z => absurd z.1 (by decide))]
  · rw [st_at, if_pos ⟨rfl, rfl⟩]; rfl
  · rw [← d]; exact st_row (q := tO) (c := tC) (by decide)
theorem RLn.tst (h : RLn S T) : RLn (tst S x kd w a b) T := by
  obtain ⟨h1, h2, h3, h4, h5, h6⟩ := h
  exact ⟨h1.txt (fun j => tst_o (by decide)) cv_tst rfl rfl, by rw [cv_tst 0 (by decide)]; exact h2, h3, h4, h5, h6⟩
theorem RLn.rows (h : RLn S T) (hR : RG G.1 F) (hI : IR 999 G.1) : RLn (emb S 0 F) (emm T 1 G) := by
  obtain ⟨h1, h2, h3, h4, h5, h6⟩ := h
  have e0 : emm T 1 G 1 = G.1 := by funext j; exact em_q
  refine ⟨(h1.emb).cg (em_out (by decide) (by decide) (by omega)) (by funext j; exact em_out (by decide) (by decide) (by omega)), ?_, by rw [e0]; exact hI, ?_, by rw [em_out (by decide) (by decide) (by omega)]; exact h5, by rw [em_out (by decide) (by decide) (by omega)]; exact h6⟩
  · rw [e0]
    exact hR.c189 (fun _ _ => rfl) (fun j hj => cv_emb hj.1) (cv_emb (by decide))
  · funext j
    rw [emb_txt (by decide), em_out (by decide) (by decide) (by omega), h4]
theorem run_loop {K' : Nat} {Pf : Nat → Nat} (h60 : len ≤ 60) (hK : K' ≤ 13) (hP : ∀ j, j < K' → RCp tx len td j (Pf j) ∧ Pf j ≤ len ∧ (j + 1 = K' → nxt tx len (Pf j) = len) ∧ (j + 1 < K' → nx tx len (nxt tx len (Pf j)) = 59 ∧ Pf (j + 1) = nxt tx len (Pf j) + 1)) :
    ∀ (m j : Nat) (S T : vS), m + j = 16 → j < K' → RLn S T → S tC = tx → S tO 1 = nI len → S tO 2 = nI (Pf j) → T 5 = td → T 0 11 = nI K' →
    ∃ r S2 T2, x_X4_run_L42 (m + 45) S j (nI j) = ((0, r), S2) ∧ x_X5_run_L29 (m + 1) T j = (r, T2) ∧ RR S2 T2 ∧ T2 0 6 = 0 := by
  intro m
  induction m with
  | zero => intro j S T h1 h2; omega
  | succ m ih =>
    intro j S T h1 h2 hRL htx hL hp htd h11
    obtain ⟨⟨g1, g2⟩, g3, g4, g5⟩ := hP j h2
    have c60 : ¬ (60 : Int32) ≤ nI j := fun q => absurd (nI_of_le (a := 60) (b := j) (by omega) q (by decide)) (by omega)
    have cK : ¬ (nI K' : Int32) ≤ nI j := nI_ge h2 (by omega)
    have hs := SQ_O (tx := tx) (len := len) (p := Pf j) (k := S tO 3) (w := S tO 4) (a := S tO 5) (b := S tO 6) (k2 := 0) (w2 := 0) (a2 := 0) (b2 := 0)
    have hs' := SQ_O (tx := tx) (len := len) (p := Pf j) (k := 0) (w := 0) (a := 0) (b := 0) (k2 := S tO 3) (w2 := S tO 4) (a2 := S tO 5) (b2 := S tO 6)
    have hO : x_X3_readOrder S = tP S (pO tx len (Pf j) (S tO 3) (S tO 4) (S tO 5) (S tO 6)) := by
      have := c_order (S := S) (k := S tO 3) (w := S tO 4) (a := S tO 5) (b := S tO 6) hL h60 g3
      rw [← hp, tst_self, htx] at this
      exact this
    have rc := RC_stale g2 hs' (by rw [g1]; decide)
    have q1 : (pO tx len (Pf j) (S tO 3) (S tO 4) (S tO 5) (S tO 6)).1 = 1 := hs.1.trans g1
    have qn : (pO tx len (Pf j) (S tO 3) (S tO 4) (S tO 5) (S tO 6)).2.1 = nxt tx len (Pf j) := hs.2.1
    have rk := RK_O (tx := tx) (len := len) (p := Pf j) (kd := S tO 3) (w := S tO 4) (a := S tO 5) (b := S tO 6) (by rw [q1]; decide)
    have hle := (pO_le (tx := tx) (k := S tO 3) (w := S tO 4) (a := S tO 5) (b := S tO 6) g3).1
    rw [x_X4_run_L42.eq_2, if_neg c60, hO, x_X5_run_L29.eq_2, h11, if_neg cK]
    generalize pO tx len (Pf j) (S tO 3) (S tO 4) (S tO 5) (S tO 6) = Q at *
    obtain ⟨u, pp, kd, w, a, b⟩ := Q
    dsimp only at q1 qn hle
    subst q1
    subst qn
    unfold tP
    dsimp only
    rw [nmp_eq (1, _), if_neg ne10]
    have hRL1 : RLn (tst S (nI (nxt tx len (Pf j))) kd w a b) T := hRL.tst
    have hL1 : tst S (nI (nxt tx len (Pf j))) kd w a b tO 1 = nI len := hL
    have hX1 : tst S (nI (nxt tx len (Pf j))) kd w a b tC = tx := htx
    have cr : DO (tst S (nI (nxt tx len (Pf j))) kd w a b) T (x_X4_carryOut (tst S (nI (nxt tx len (Pf j))) kd w a b)) (x_X5_does T (nI j)) := by
      refine carry (p := nxt tx len (Pf j)) hRL1.2.1 hRL1.2.2.1 (by omega) ?_ ?_
      · rw [htd]; exact rc
      · exact rk
    have h2p : tst S (nI (nxt tx len (Pf j))) kd w a b tO 2 = nI (nxt tx len (Pf j)) := rfl
    generalize tst S (nI (nxt tx len (Pf j))) kd w a b = S1 at hRL1 hL1 hX1 cr h2p ⊢
    obtain ⟨r, r', H', G', ez, em, hiff, hR', hI'⟩ := cr
    rw [ez, em, nmp_eq, nmp_eq]
    have hRL2 := hRL1.rows (F := H') hR' hI'
    have hL2 : emb S1 0 H' tO 1 = nI len := by rw [emb_txt (by decide)]; exact hL1
    have hX2 : emb S1 0 H' tC = tx := by rw [← hX1]; funext i; exact emb_txt (by decide)
    have hp2 : emb S1 0 H' tO 2 = nI (nxt tx len (Pf j)) := by rw [emb_txt (by decide)]; exact h2p
    have ht2 : emm T 1 G' 5 = td := by rw [← htd]; funext i; exact em_out (by decide) (by decide) (by omega)
    have h112 : emm T 1 G' 0 11 = nI K' := by rw [em_out (by decide) (by decide) (by omega)]; exact h11
    generalize emb S1 0 H' = S2 at hRL2 hL2 hX2 hp2 ⊢
    generalize emm T 1 G' = T2 at hRL2 ht2 h112 ⊢
    dsimp only
    by_cases c0 : r = 0
    · rw [if_pos c0, if_pos (hiff.mp c0), nm_eq]
      exact ⟨_, _, _, rfl, rfl, hRL2.clear, hRL2.2.2.2.2.1⟩
    · rw [if_neg c0, if_neg (fun q => c0 (hiff.mpr q)), nm_eq, nI_1]
      have hm : x_X3_readMark S2 59 = if nx tx len (nxt tx len (Pf j)) = 59 then (1, tst S2 (nI (nxt tx len (Pf j) + 1)) (S2 tO 3) (S2 tO 4) (S2 tO 5) (S2 tO 6)) else (0, S2) := by
        have := c_mark (S := S2) (x := 59) (k := S2 tO 3) (w := S2 tO 4) (a := S2 tO 5) (b := S2 tO 6) hL2 h60 hle
        rw [← hp2, tst_self, hX2] at this
        exact this
      rw [hm]
      by_cases cl : j + 1 = K'
      · have en := g4 cl
        have nn : ¬ nx tx len (nxt tx len (Pf j)) = 59 := fun z => by
          have := nx_lt z (by decide)
          omega
        rw [if_neg nn, nmp_eq, if_pos rfl, nm_eq, x_X5_run_L29.eq_def]
        cases m with
        | zero => omega
        | succ m =>
          dsimp only
          rw [h112, cl, if_pos (nI_le (Nat.le_refl _) (by omega))]
          exact ⟨_, _, _, rfl, rfl, hRL2.clear, hRL2.2.2.2.2.1⟩
      · obtain ⟨e59, eP⟩ := g5 (by omega)
        rw [if_pos e59, nmp_eq, if_neg ne10]
        have := ih (j + 1) (tst S2 (nI (nxt tx len (Pf j) + 1)) (S2 tO 3) (S2 tO 4) (S2 tO 5) (S2 tO 6)) T2 (by omega) (by omega) hRL2.tst hX2 hL2 (by rw [eP]; rfl) ht2 h112
        exact this
theorem op_run (h : RR S T) : CE (fun c => if c = 0 then 0 else 1) (x_X4_run S) (x_X5_run T) := by
  obtain ⟨len, r, q, k', w', a', b', f', v', td', K', hl, h5, e1, e2, hq, hd, hP⟩ := texts (h.thrown (x := 0))
  unfold x_X4_run x_X5_run
  rw [nm_eq (st T 0 6 0), e1, e2, nmp_eq, nmp_eq]
  have R := RR.texts (x := nI q) (k := k') (w := w') (a := a') (b := b') (y := nI q) (f := f') (v := v') (n0 := nI K') (td := td') (h.thrown (x := 0))
  rcases hd with ⟨r0, _⟩ | ⟨r1, ql, f0⟩
  · subst r0
    rw [if_pos rfl, if_pos rfl, nmp_eq]
    have := CE.fail (mp := fun c => if c = 0 then 0 else 1) (c := 3) (x := 1) (y := 0) R (by decide) rfl
    have e : st (mst (st T 0 6 0) (nI q) f' v' (nI K') td') 0 6 0 = mst (st T 0 6 0) (nI q) f' v' (nI K') td' := by
      funext c i
      rw [st_at]
      by_cases z : c = 0 ∧ i = 6
      · rw [if_pos z, z.1, z.2]
        show 0 = st T 0 6 0 0 6
        rw [st06]
      · rw [if_neg z]
    rw [e] at this
    exact this
  · subst r1
    rw [if_neg ne10, if_neg ne10]
    obtain ⟨k0, k13, Pf, p0, hPf⟩ := hP rfl
    have t6 : mst (st T 0 6 0) (nI q) f' v' (nI K') td' 0 6 = 0 := by
      show st T 0 6 0 0 6 = 0
      exact st06
    have t4 : mst (st T 0 6 0) (nI q) f' v' (nI K') td' 4 = T 4 := by
      show st T 0 6 0 4 = T 4
      exact st_row (by decide)
    have t5 : mst (st T 0 6 0) (nI q) f' v' (nI K') td' 5 = td' := rfl
    have t11 : mst (st T 0 6 0) (nI q) f' v' (nI K') td' 0 11 = nI K' := rfl
    have h5' : mst (st T 0 6 0) (nI q) f' v' (nI K') td' 0 5 = nI len := h5
    have et : st T 0 6 0 4 = T 4 := st_row (by decide)
    rw [et] at hPf
    generalize tst S (nI q) k' w' a' b' = S1 at R ⊢
    generalize mst (st T 0 6 0) (nI q) f' v' (nI K') td' = T1 at R t6 t4 t5 t11 h5' ⊢
    obtain ⟨ka, kb, kc, kd⟩ := keep_thm R.1 R.2.1 R.2.2.1
    obtain ⟨len2, l1, l2, l3, l4, l5⟩ := R.2.2.2
    have ll : len2 = len := by
      have := l3.symm.trans h5'
      exact (nI_eq (by omega) (by omega)).mp this
    subst ll
    simp only [nm_eq]
    have kr := tst_start (x_X1_keep S1 0)
    rw [kr]
    have hr : ∀ c, c ≠ 3 → c ≠ 0 → x_X5_saves T1 c = T1 c := fun c h1 h2 => by funext i; exact kd c i h1 (by omega)
    have rl : RLn (tst (x_X1_keep S1 0) (nI 0) (x_X1_keep S1 0 tO 3) (x_X1_keep S1 0 tO 4) (x_X1_keep S1 0 tO 5) (x_X1_keep S1 0 tO 6)) (st (x_X5_saves T1) 0 5 0) := by
      refine RLn.tst ⟨ka.cg ?_ ?_, ?_, ?_, ?_, ?_, ?_⟩
      · rw [st_at, if_neg (by omega)]
      · exact st_row (by decide)
      · rw [st_row (q := 0) (c := 1) (by decide), hr 1 (by decide) (by decide), kb]; exact R.2.1
      · rw [st_row (q := 0) (c := 1) (by decide), hr 1 (by decide) (by decide)]; exact R.2.2.1
      · rw [st_row (q := 0) (c := 4) (by decide), hr 4 (by decide) (by decide), ← l5]
        funext i
        exact kc tC i (by decide) (by decide)
      · rw [st_at, if_neg (by omega), kd 0 6 (by decide) (by omega)]; exact t6
      · rw [st_at, if_pos ⟨rfl, rfl⟩]
    have := run_loop (len := len2) (tx := T 4) (td := td') (K' := K') (Pf := Pf) l1 k13 (fun j hj => hPf j hj) 16 0 _ _ rfl k0 rl ?_ ?_ ?_ ?_ ?_
    · obtain ⟨r, S2, T2, u1, u2, u3, u4⟩ := this
      have z0 : (0 : Int32) = nI 0 := rfl
      rw [z0, u1]
      rw [show (16 : Nat) + 1 = 17 from rfl] at u2
      rw [← z0, u2]
      exact ⟨u3, u4, fun _ => rfl⟩
    · rw [← t4, ← l5]
      funext i
      exact kc tC i (by decide) (by decide)
    · show x_X1_keep S1 0 tO 1 = _
      rw [kc tO 1 (by decide) (by decide)]; exact l2
    · rw [p0]; rfl
    · rw [st_row (q := 0) (c := 5) (by decide), hr 5 (by decide) (by decide)]; exact t5
    · rw [st_at, if_neg (by omega), kd 0 11 (by decide) (by omega)]; exact t11
end OPRUN
