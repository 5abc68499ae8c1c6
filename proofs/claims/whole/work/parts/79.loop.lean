section TEXTLOOP
variable {S T : vS} {len p n i K : Nat} {k w a b f v : Int32} {td : Nat → Int32}
def nxt (tx : Nat → Int32) (len p : Nat) : Nat := (pO tx len p 0 0 0 0).2.1
def RCp (tx : Nat → Int32) (len : Nat) (td : Nat → Int32) (j p : Nat) : Prop := (pO tx len p 0 0 0 0).1 = 1 ∧ RC td j (pO tx len p 0 0 0 0)
theorem RC_cg {td' : Nat → Int32} {q : PT} (h : RC td K q) (e : ∀ j, j < 4 * (K + 1) → td' j = td j) : RC td' K q := by
  obtain ⟨r1, r2, r3, r4, r5⟩ := h
  exact ⟨by rw [e _ (by omega)]; exact r1, fun z => by rw [e _ (by omega)]; exact r2 z, fun z => by rw [e _ (by omega)]; exact r3 z, fun z => by rw [e _ (by omega)]; exact r4 z, r5⟩
theorem m_semi (hL : T 0 5 = nI len) (h60 : len ≤ 60) (hp : p ≤ len) {y : Int32} : x_X5_isAt (mst T (nI p) f v y td) 59 59 = if nx (T 4) len p = 59 then 1 else 0 := by
  by_cases c1 : nx (T 4) len p = 59
  · have hlt := nx_lt c1 (by decide)
    have e : T 4 p = 59 := by unfold nx at c1; rw [if_pos hlt] at c1; exact c1
    rw [if_pos c1]
    exact m_at1 hL h60 hp ⟨hlt, by rw [e]; exact Int32.lt_irrefl, by rw [e]; exact Int32.lt_irrefl⟩
  · rw [if_neg c1]
    refine m_at0 hL h60 hp ?_
    rintro ⟨h1, h2, h3⟩
    refine c1 ?_
    unfold nx
    rw [if_pos h1]
    exact Int32.le_antisymm (fa_of_nlt h3) (fa_of_nlt h2)
theorem m_end (hL : T 0 5 = nI len) (h60 : len ≤ 60) (hp : p ≤ len) {y : Int32} : x_X5_isText_L17 (n + 1) (mst T (nI p) f v y td) 0 = (if p = len then 1 else 0, mst T (nI p) (fl len p) v y td) := by
  rw [x_X5_isText_L17.eq_2, if_pos rfl, mst_5, mst_7, hL]
  unfold fl
  by_cases c : p < len
  · rw [if_neg (nI_ge c (by omega)), nm_eq, mst_s8, mst_7, mst_5, hL, if_neg (fun q => absurd ((nI_eq (a := p) (b := len) (by omega) (by omega)).mp q) (by omega)), if_neg (show ¬ p = len by omega), if_pos c]
  · have e : p = len := by omega
    subst e
    rw [if_pos (nI_le (Nat.le_refl _) (by omega)), nm_eq, mst_s8, mst_7, mst_5, hL, if_pos rfl, if_pos rfl, if_neg c]
theorem text_loop (hL : S tO 1 = nI len) (hLT : T 0 5 = nI len) (h60 : len ≤ 60) (hC : CH T len) (htx : S tC = T 4) : ∀ (n K p : Nat) (k w a b f v : Int32) (td : Nat → Int32), K + n = 60 → 5 * K ≤ p → p ≤ len →
    ∃ r q k' w' a' b' f' v' td' K', x_X3_readAll_L6 (n + 1) (tst S (nI p) k w a b) K = (r, tst S (nI q) k' w' a' b') ∧ x_X5_isText_L17 (n + 2) (mst T (nI p) f v (nI K) td) 1 = (r, mst T (nI q) f' v' (nI K') td') ∧ q ≤ len ∧ ((r = 0 ∧ f' = fl len q) ∨ (r = 1 ∧ q = len ∧ f' = 0)) ∧ (∀ j, j < 4 * K → td' j = td j) ∧
      (r = 1 → K < K' ∧ K' ≤ 13 ∧ ∃ Pf : Nat → Nat, Pf K = p ∧ ∀ j, K ≤ j → j < K' → RCp (T 4) len td' j (Pf j) ∧ Pf j ≤ len ∧ (j + 1 = K' → nxt (T 4) len (Pf j) = len) ∧ (j + 1 < K' → nx (T 4) len (nxt (T 4) len (Pf j)) = 59 ∧ Pf (j + 1) = nxt (T 4) len (Pf j) + 1)) := by
  intro n
  induction n with
  | zero => intro K p k w a b f v td h1 h2 h3; omega
  | succ n ih =>
    intro K p k w a b f v td h1 h2 h3
    have hK : K ≤ 15 := by omega
    have hc : ¬ (60 : Int32) ≤ nI K := fun q => absurd (nI_of_le (a := 60) (b := K) (by omega) q (by decide)) (by omega)
    have hq := pO_le (tx := T 4) (k := k) (w := w) (a := a) (b := b) h3
    have hs := SQ_O (tx := T 4) (len := len) (p := p) (k := k) (w := w) (a := a) (b := b) (k2 := 0) (w2 := 0) (a2 := 0) (b2 := 0)
    obtain ⟨f1, v1, td1, e1, ef, et, er⟩ := m_order (T := T) (f := f) (v := v) (td := td) (k := k) (w := w) (a := a) (b := b) hLT h60 hC hK h3
    rw [x_X3_readAll_L6.eq_2, if_neg hc, c_order hL h60 h3, nmp_eq (tP S _), htx, x_X5_isText_L17.eq_2, if_neg (by decide : ¬ (1 : Int32) = 0), e1, nmp_eq ((pO (T 4) len p k w a b).1, mst T (nI (pO (T 4) len p k w a b).2.1) f1 v1 (nI K) td1)]
    unfold tP
    have hn : nxt (T 4) len p = (pO (T 4) len p k w a b).2.1 := hs.2.1.symm
    have ho : (pO (T 4) len p 0 0 0 0).1 = (pO (T 4) len p k w a b).1 := hs.1.symm
    generalize pO (T 4) len p k w a b = Q at hq hs e1 ef er hn ho ⊢
    obtain ⟨hq1, hq2, hq3⟩ := hq
    dsimp only
    by_cases c0 : Q.1 = 0
    · rw [if_pos c0, if_pos c0]
      refine ⟨0, Q.2.1, _, _, _, _, f1, v1, td1, K, rfl, rfl, hq1, Or.inl ⟨rfl, ef c0⟩, fun j hj => et j (by omega), fun z => absurd z (by decide)⟩
    · have one := hq2.resolve_left c0
      have hp4 := hq3 c0
      have hrc : RCp (T 4) len td1 K p := ⟨ho.trans one, RC_stale (er c0) hs c0⟩
      have ne1 : ¬ (1 : Int32) = 0 := by decide
      rw [if_neg c0, if_neg c0]
      simp only [tst_2, tst_1, hL, nm_eq, mst_11, mst_s11, nI_1, m_semi hLT h60 hq1]
      by_cases c1 : Q.2.1 < len
      · rw [if_pos (nI_lt c1 (by omega)), c_mark hL h60 hq1, htx]
        by_cases c2 : nx (T 4) len Q.2.1 = 59
        · simp only [if_pos c2, nmp_eq]
          rw [if_neg ne1, if_neg ne1, mst_7, mst_s7, nI_1]
          obtain ⟨r, q, k', w', a', b', f', v', td', K', g1, g2, g3, g4, g5, g6⟩ := ih (K + 1) (Q.2.1 + 1) Q.2.2.1 Q.2.2.2.1 Q.2.2.2.2.1 Q.2.2.2.2.2 f1 v1 td1 (by omega) (by omega) (by omega)
          refine ⟨r, q, k', w', a', b', f', v', td', K', g1, g2, g3, g4, fun j hj => (g5 j (by omega)).trans (et j (by omega)), fun z => ?_⟩
          obtain ⟨l1, l2, Pf, l3, l4⟩ := g6 z
          refine ⟨by omega, l2, fun j => if j ≤ K then p else Pf j, if_pos (Nat.le_refl K), fun j j1 j2 => ?_⟩
          by_cases cj : j = K
          · subst cj
            dsimp only
            rw [if_pos (Nat.le_refl j), if_neg (by omega), hn]
            exact ⟨⟨hrc.1, RC_cg hrc.2 fun i hi => g5 i hi⟩, h3, fun q => absurd q (by omega), fun _ => ⟨c2, l3⟩⟩
          · dsimp only
            rw [if_neg (by omega), if_neg (by omega)]
            exact l4 j (by omega) j2
        · simp only [if_neg c2, nmp_eq, if_true]
          rw [mst_7, mst_s7, Int32.add_zero, m_end hLT h60 hq1, if_neg (by omega)]
          exact ⟨0, Q.2.1, _, _, _, _, _, _, td1, K + 1, rfl, rfl, hq1, Or.inl ⟨rfl, rfl⟩, fun j hj => et j (by omega), fun z => absurd z (by decide)⟩
      · have el : Q.2.1 = len := by omega
        have c2 : ¬ nx (T 4) len Q.2.1 = 59 := fun z => absurd (nx_lt z (by decide)) c1
        rw [if_neg (nI_nlt (by omega) (by omega))]
        simp only [if_neg c2, if_true]
        rw [mst_7, mst_s7, Int32.add_zero, m_end hLT h60 hq1, if_pos el]
        refine ⟨1, Q.2.1, _, _, _, _, _, _, td1, K + 1, rfl, rfl, hq1, Or.inr ⟨rfl, el, by unfold fl; rw [if_neg c1]⟩, fun j hj => et j (by omega), fun _ => ⟨by omega, by omega, fun _ => p, rfl, fun j j1 j2 => ?_⟩⟩
        have : j = K := by omega
        subst this
        exact ⟨hrc, h3, fun _ => by rw [hn]; exact el, fun q => absurd q (by omega)⟩
end TEXTLOOP
