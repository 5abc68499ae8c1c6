section OPAPP
variable {S T : vS} {F H : vF} {G : vG} {p1 p2 p3 x y : Int32} {k n i q : Nat}
theorem HH.txt (h : HH S T) {S2 T2 : vS} (ho : ∀ j, S2 hO j = S hO j) (hc : ∀ g, g < 8 → cv S2 g = cv S g) (e3 : T2 0 3 = T 0 3) (e : T2 3 = T 3) : HH S2 T2 := by
  obtain ⟨o, s, a, b, c, d, f, g⟩ := h
  refine ⟨o, s, a, b, (ho 1).trans c, (ho 2).trans d, e3.trans f, fun j hj => ?_⟩
  have : pst T2 j = pst T j := by funext i; unfold pst; rw [e]
  rw [this, hc _ (by omega)]
  exact g j hj
theorem RR.text (h : RR S T) {S2 T2 : vS} (ho : ∀ j, S2 hO j = S hO j) (hc : ∀ g, g < 8 → cv S2 g = cv S g) (e3 : T2 0 3 = T 0 3) (e : T2 3 = T 3) (e1 : T2 1 = T 1) (t : TXR S2 T2) : RR S2 T2 :=
  ⟨h.1.txt ho hc e3 e, by rw [hc 0 (by decide), e1]; exact h.2.1, by rw [e1]; exact h.2.2.1, t⟩
theorem clear_def : x_X3_clear S = st S tO 1 0 := rfl
theorem op_clearBuffer (h : RR S T) : CE (fun c => if c = 0 then 0 else 1) ((0, (x_X4_clearBuffer S).1), (x_X4_clearBuffer S).2) (x_X5_clearBuffer T) := by
  unfold x_X4_clearBuffer x_X5_clearBuffer
  simp only [nm_eq]
  rw [clear_def]
  obtain ⟨len, a, b, c, d, f⟩ := h.2.2.2
  refine ⟨h.text ?_ ?_ ?_ ?_ ?_ ⟨0, by decide, ?_, ?_, fun i hi => absurd hi (by omega), ?_⟩, ?_, fun _ => ?_⟩
  · intro j
    show st S tO 1 0 hO j = _
    rw [st_at, if_neg (fun z => absurd z.1 (by decide))]
  · intro g hg
    exact cv_st (q := 155) (by omega)
  · show st (st T 0 6 0) 0 5 0 0 3 = _
    rw [st_at, if_neg (by omega), st_at, if_neg (by omega)]
  · show st (st T 0 6 0) 0 5 0 3 = _
    rw [st_row (q := 0) (c := 3) (by decide), st_row (q := 0) (c := 3) (by decide)]
  · show st (st T 0 6 0) 0 5 0 1 = _
    rw [st_row (q := 0) (c := 1) (by decide), st_row (q := 0) (c := 1) (by decide)]
  · show st S tO 1 0 tO 1 = nI 0
    rw [st_at, if_pos ⟨rfl, rfl⟩]; rfl
  · show st (st T 0 6 0) 0 5 0 0 5 = nI 0
    rw [st_at, if_pos ⟨rfl, rfl⟩]; rfl
  · show st S tO 1 0 tC = st (st T 0 6 0) 0 5 0 4
    rw [st_row (q := tO) (c := tC) (by decide), st_row (q := 0) (c := 4) (by decide), st_row (q := 0) (c := 4) (by decide)]
    exact f
  · show st (st T 0 6 0) 0 5 0 0 6 = 0
    rw [st_at, if_neg (by omega)]
    exact st06
  · show S tO 1 = st T 0 6 0 0 5
    rw [st_at, if_neg (by omega), b, c]
end OPAPP
