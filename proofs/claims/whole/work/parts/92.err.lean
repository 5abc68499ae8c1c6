section OPERR
variable {S T : vS} {F H : vF} {G : vG} {p1 p2 p3 x y z k w a b f v n0 : Int32} {td : Nat → Int32} {n i q : Nat}
theorem cv_tst (g : Nat) (hg : g < 8) : cv (tst S x k w a b) g = cv S g := by
  funext i
  unfold cv
  by_cases c : i < 189
  · rw [if_pos c, if_pos c, tst_o]
    have := (inv_of i c).1
    have e : tO = 155 := rfl
    omega
  · rw [if_neg c, if_neg c]
theorem RR.texts (h : RR S T) : RR (tst S x k w a b) (mst T y f v n0 td) := by
  refine h.text (fun j => tst_o (by decide)) cv_tst rfl rfl rfl ?_
  obtain ⟨len, a, b, c, d, f⟩ := h.2.2.2
  exact ⟨len, a, b, c, d, f⟩
end OPERR
