section OPFIRST
variable {S T : vS} {F H : vF} {G : vG} {p1 p2 p3 x y z : Int32} {n i q : Nat}
theorem tst_start (S : vS) : x_X3_restart S = tst S (nI 0) (S tO 3) (S tO 4) (S tO 5) (S tO 6) := by
  unfold x_X3_restart
  rw [nm_eq]
  conv => lhs; rw [← tst_self S]
  funext c j
  rw [st_at]
  by_cases h : c = tO ∧ j = 2
  · rw [if_pos h, h.1, h.2, tst_2]; rfl
  · rw [if_neg h]
    unfold tst
    by_cases c1 : c = tO
    · rw [if_pos c1, if_pos c1, if_neg (fun z => h ⟨c1, z⟩), if_neg (fun z => h ⟨c1, z⟩)]
    · rw [if_neg c1, if_neg c1]
theorem mst_start (T : vS) : st (st (st T 0 7 0) 0 11 0) 0 8 0 = mst T (nI 0) 0 (T 0 9) (nI 0) (T 5) := by
  funext c j
  rw [st_at, st_at, st_at]
  unfold mst
  by_cases c1 : c = 0
  · subst c1
    rw [if_pos rfl]
    by_cases j7 : j = 7
    · subst j7; rw [if_neg (by omega), if_neg (by omega), if_pos ⟨rfl, rfl⟩, if_pos rfl]; rfl
    · rw [if_neg j7]
      by_cases j8 : j = 8
      · subst j8; rw [if_pos ⟨rfl, rfl⟩, if_pos rfl]
      · rw [if_neg (fun z => j8 z.2), if_neg j8]
        by_cases j9 : j = 9
        · subst j9; rw [if_neg (by omega), if_neg (by omega), if_pos rfl]
        · rw [if_neg j9]
          by_cases j1 : j = 11
          · subst j1; rw [if_pos ⟨rfl, rfl⟩, if_pos rfl]; rfl
          · rw [if_neg (fun z => j1 z.2), if_neg (fun z => j7 z.2), if_neg j1]
  · rw [if_neg (fun z => c1 z.1), if_neg (fun z => c1 z.1), if_neg (fun z => c1 z.1), if_neg c1]
    by_cases c5 : c = 5
    · rw [if_pos c5, c5]
    · rw [if_neg c5]
theorem texts (h : RR S T) : ∃ len r q k' w' a' b' f' v' td' K', len ≤ 60 ∧ T 0 5 = nI len ∧ x_X3_readAll S = (r, tst S (nI q) k' w' a' b') ∧ x_X5_isText T = (r, mst T (nI q) f' v' (nI K') td') ∧ q ≤ len ∧ ((r = 0 ∧ f' = fl len q) ∨ (r = 1 ∧ q = len ∧ f' = 0)) ∧
      (r = 1 → 0 < K' ∧ K' ≤ 13 ∧ ∃ Pf : Nat → Nat, Pf 0 = 0 ∧ ∀ j, j < K' → RCp (T 4) len td' j (Pf j) ∧ Pf j ≤ len ∧ (j + 1 = K' → nxt (T 4) len (Pf j) = len) ∧ (j + 1 < K' → nx (T 4) len (nxt (T 4) len (Pf j)) = 59 ∧ Pf (j + 1) = nxt (T 4) len (Pf j) + 1)) := by
  obtain ⟨len, a, b, c, d, f⟩ := h.2.2.2
  obtain ⟨r, q, k', w', a', b', f', v', td', K', e1, e2, e3, e4, _, e6⟩ := text_loop (S := S) (T := T) b c a d f 60 0 0 (S tO 3) (S tO 4) (S tO 5) (S tO 6) 0 (T 0 9) (T 5) rfl (by omega) (by omega)
  refine ⟨len, r, q, k', w', a', b', f', v', td', K', a, c, ?_, ?_, e3, e4, fun z => ?_⟩
  · unfold x_X3_readAll
    rw [nm_eq, tst_start]; exact e1
  · unfold x_X5_isText
    rw [nm_eq, nm_eq, nm_eq, mst_start]; exact e2
  · obtain ⟨g1, g2, Pf, g3, g4⟩ := e6 z
    exact ⟨g1, g2, Pf, g3, fun j hj => g4 j (by omega) hj⟩
end OPFIRST
