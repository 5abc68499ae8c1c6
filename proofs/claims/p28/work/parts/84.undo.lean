section OPUNDO
variable {S T : vS} {F H : vF} {p1 p2 p3 x y : Int32} {k n i : Nat}
theorem op_undo (h : RR S T) : CE (fun c => if c = 0 then 0 else 1) (x_X4_undo S) (x_X5_undo T) := by
  have e3 : st T 0 6 0 0 3 = T 0 3 := by rw [st_at, if_neg (by omega)]
  unfold x_X4_undo x_X5_undo
  simp only [nm_eq]
  rw [e3]
  by_cases c : 0 < S hO 2
  · obtain ⟨o, s, ho, hs, t1, t2, t3, t4, t5, t6, t7, t8, t9⟩ := takeBack_thm h.1 c
    have ns : ¬ T 0 3 = 0 := by rw [t2]; exact nI_ne0 (by omega) (by omega)
    rw [if_pos c, if_neg ns, t2, nI_pred]
    have k3 : st (st T 0 6 0) 0 3 (nI s) 0 3 = nI s := by rw [st_at, if_pos ⟨rfl, rfl⟩]
    obtain ⟨u1, u2⟩ := undo_loop (k := s) 189 0 (st (st T 0 6 0) 0 3 (nI s)) rfl (by rw [k3]; exact nI_clamp (by omega))
    generalize x_X5_undo_L30 (189 + 1) (st (st T 0 6 0) 0 3 (nI s)) 0 = z at u1 u2 ⊢
    obtain ⟨zr, T'⟩ := z
    dsimp only at u1 u2
    have v : ∀ c j, T' c j = if c = 1 ∧ 0 ≤ j ∧ j < 189 then T 3 (189 * s + j) else if c = 0 ∧ j = 3 then nI s else if c = 0 ∧ j = 6 then 0 else T c j := by
      intro c j
      rw [u2]
      simp only [st_at]
      by_cases c1 : c = 1 ∧ 0 ≤ j ∧ j < 189
      · rw [if_pos c1, if_pos c1, if_neg (by omega), if_neg (by omega)]
      · rw [if_neg c1, if_neg c1]
    have r3 : T' 3 = T 3 := by funext j; rw [v, if_neg (by omega), if_neg (by omega), if_neg (by omega)]
    have r4 : T' 4 = T 4 := by funext j; rw [v, if_neg (by omega), if_neg (by omega), if_neg (by omega)]
    have r1 : ∀ j, j < 189 → T' 1 j = pst T s j := fun j hj => by rw [v, if_pos ⟨rfl, Nat.zero_le j, hj⟩]; rfl
    have r03 : T' 0 3 = nI s := by rw [v, if_neg (by omega), if_pos ⟨rfl, rfl⟩]
    have r05 : T' 0 5 = T 0 5 := by rw [v, if_neg (by omega), if_neg (by omega), if_neg (by omega)]
    have r06 : T' 0 6 = 0 := by rw [v, if_neg (by omega), if_neg (by omega), if_pos ⟨rfl, rfl⟩]
    obtain ⟨w1, w2⟩ := t9 s (by omega)
    refine ⟨⟨⟨o, s, ho, by omega, t4, t3, r03, fun j hj => ?_⟩, ?_, w2.c189 r1, ?_⟩, r06, fun _ => ?_⟩
    · have : pst T' j = pst T j := by funext i; unfold pst; rw [r3]
      rw [this, t7 _ (by omega) (by omega)]
      exact t9 j (by omega)
    · refine (w1.bz w2).c189 r1 (fun j hj => t8 j hj.1) (t8 11 (by decide))
    · obtain ⟨len, p1, p2, p3, p4, p5⟩ := h.2.2.2
      refine ⟨len, p1, by show x_X1_takeBack S 0 tO 1 = _; rw [t6 tO 1 (by decide) (by decide)]; exact p2, r05.trans p3, ?_, ?_⟩
      · show CH T' len
        unfold CH; rw [r4]; exact p4
      · show x_X1_takeBack S 0 tC = T' 4
        rw [r4, ← p5]
        funext j
        exact t6 tC j (by decide) (by decide)
    · show x_X1_takeBack S 0 hO 2 = zr
      rw [t3, u1, k3]
  · have ns : T 0 3 = 0 := by
      obtain ⟨o, s, ho, hs, e1, e2, e4, _⟩ := h.1
      rw [e2] at c
      have : s = 0 := by
        rcases Nat.eq_zero_or_pos s with q | q
        · exact q
        · exact absurd (nI_lt (a := 0) q (by omega)) c
      rw [e4, this]; rfl
    rw [if_neg c, if_pos ns, nmp_eq]
    exact CE.fail h (by decide) rfl
end OPUNDO
