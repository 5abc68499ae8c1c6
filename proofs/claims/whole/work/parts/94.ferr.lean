section OPFERR
variable {S T : vS} {F H : vF} {G : vG} {p1 p2 p3 x y z : Int32} {n i q : Nat}
theorem op_firstError (h : RR S T) : CE (fun c => if c = 0 then 0 else 1) ((0, (x_X4_firstError S).1), (x_X4_firstError S).2) (x_X5_firstError T) := by
  obtain ⟨len, r, q, k', w', a', b', f', v', td', K', hl, h5, e1, e2, hq, hd, _⟩ := texts (h.thrown (x := 0))
  unfold x_X4_firstError x_X5_firstError
  simp only [nm_eq]
  rw [e1, e2, nmp_eq, nmp_eq]
  have t6 : mst (st T 0 6 0) (nI q) f' v' (nI K') td' 0 6 = 0 := by
    show st T 0 6 0 0 6 = 0
    exact st06
  have R := RR.texts (x := nI q) (k := k') (w := w') (a := a') (b := b') (y := nI q) (f := f') (v := v') (n0 := nI K') (td := td') (h.thrown (x := 0))
  rcases hd with ⟨r0, f0⟩ | ⟨r1, ql, f0⟩
  · subst r0
    rw [if_pos rfl]
    show CE _ ((0, nI q), _) (if bz f' = 0 then (st T 0 6 0 0 5, _) else (nI q, _))
    by_cases c : q < len
    · have : f' = 1 := by rw [f0]; exact if_pos c
      rw [this, if_neg (by decide)]
      rw [this] at R t6
      exact ⟨R, t6, fun _ => rfl⟩
    · have : f' = 0 := by rw [f0]; exact if_neg c
      rw [this, if_pos (by decide)]
      rw [this] at R t6
      refine ⟨R, t6, fun _ => ?_⟩
      show nI q = st T 0 6 0 0 5
      rw [h5, show q = len by omega]
  · subst r1
    rw [if_neg (show ¬ (1 : Int32) = 0 by decide)]
    refine ⟨R, t6, fun _ => ?_⟩
    show nI q = st T 0 6 0 0 5
    rw [h5, ql]
end OPFERR
