section RRS
variable {S T : vS} {F H : vF} {p1 x y : Int32} {k n i : Nat}
/-- the texts of both sides -/
def TXR (S T : vS) : Prop := ∃ len : Nat, len ≤ 60 ∧ S tO 1 = nI len ∧ T 0 5 = nI len ∧ CH T len ∧ S tC = T 4
/-- class and model between calls -/
def RR (S T : vS) : Prop := HH S T ∧ RG (T 1) (cv S 0) ∧ IR 999 (T 1) ∧ TXR S T
theorem HH.cg {T' : vS} (h : HH S T) (e3 : T' 0 3 = T 0 3) (e : T' 3 = T 3) : HH S T' := by
  obtain ⟨o, s, a, b, c, d, f, g⟩ := h
  refine ⟨o, s, a, b, c, d, e3.trans f, fun j hj => ?_⟩
  have : pst T' j = pst T j := by funext i; unfold pst; rw [e]
  rw [this]
  exact g j hj
theorem TXR.cg {T' : vS} (h : TXR S T) (e5 : T' 0 5 = T 0 5) (e : T' 4 = T 4) : TXR S T' := by
  obtain ⟨len, a, b, c, d, f⟩ := h
  refine ⟨len, a, b, e5.trans c, ?_, f.trans e.symm⟩
  unfold CH
  rw [e]
  exact d
theorem RR.cg {T' : vS} (h : RR S T) (e1 : T' 1 = T 1) (e3 : T' 3 = T 3) (e4 : T' 4 = T 4) (e03 : T' 0 3 = T 0 3) (e05 : T' 0 5 = T 0 5) : RR S T' :=
  ⟨h.1.cg e03 e3, by rw [e1]; exact h.2.1, by rw [e1]; exact h.2.2.1, h.2.2.2.cg e05 e4⟩
theorem st_row {q j c : Nat} (h : c ≠ q) : st T q j x c = T c := by
  funext i
  rw [st_at, if_neg (fun z => h z.1)]
theorem RR.thrown (h : RR S T) : RR S (st T 0 6 x) := h.cg (st_row (by decide)) (st_row (by decide)) (st_row (by decide)) (by rw [st_at, if_neg (by omega)]) (by rw [st_at, if_neg (by omega)])
/-- a call's end on both sides: codes by mp, answers alike -/
def CE (mp : Nat → Int32) (z : (Nat × Int32) × vS) (m : Int32 × vS) : Prop := RR z.2 m.2 ∧ m.2 0 6 = mp z.1.1 ∧ (z.1.1 = 0 → z.1.2 = m.1)
theorem isM (T : vS) (p1 : Int32) : x_X5_isMember T p1 = w_isMember (T 1) p1 := by
  have := f_isMember T (T 1, T 6, T 0 13) p1
  rw [emm_self] at this
  exact this
/-- who is meant, on both sides -/
theorem memb (h : RR S T) (p1 : Int32) : (∃ k, k < 8 ∧ p1 = nI k ∧ T 1 (13 + 14 * k + 0) = 1 ∧ x_X4_memberOrThrow S p1 = (0, k) ∧ x_X5_isMember T p1 = 1) ∨ (x_X4_memberOrThrow S p1 = (2, 0) ∧ x_X5_isMember T p1 = 0) := by
  have ef : x_X0_find S 0 p1 = v_X0_find (cv S 0) p1 := by
    have := e_X0_find S 0 (cv S 0) p1
    rw [emb_cv] at this
    exact this
  unfold x_X4_memberOrThrow
  rw [ef, isM]
  by_cases hv : vp_in p1 8
  · obtain ⟨k, hk, rfl⟩ := vp_in_of hv (by decide)
    rw [find_nI hk]
    have hh := h.2.2.1.here h.2.1 hk
    have w : w_isMember (T 1) (nI k) = if T 1 (13 + 14 * k + 0) = 1 then 1 else 0 := by
      have n7 : ¬ (7 : Int32) < nI k := nI_nlt (b := k) (a := 7) (by omega) (by decide)
      unfold w_isMember w_in
      rw [nm_eq, if_neg (nI_pos (by omega)), if_neg n7, if_neg (by decide), nm_eq, nof_0 hk]
    rw [w]
    by_cases c : T 1 (13 + 14 * k + 0) = 1
    · rw [if_pos c, if_neg (fun q => hh.mp q c)]
      exact Or.inl ⟨k, hk, rfl, c, rfl, rfl⟩
    · rw [if_neg c, if_pos (hh.mpr c)]
      exact Or.inr ⟨rfl, rfl⟩
  · rw [find_none hv]
    refine Or.inr ⟨rfl, ?_⟩
    unfold w_isMember w_in
    rw [nm_eq]
    by_cases c1 : p1 < 0
    · rw [if_pos c1, if_pos rfl]
    · rw [if_neg c1]
      by_cases c2 : 7 < p1
      · rw [if_pos c2, if_pos rfl]
      · exfalso
        refine hv (vin_of (n := 8) c1 ?_ (by decide) (Nat.le_refl 8))
        intro q
        rw [Int32.le_iff_toInt_le, show (nI 8).toInt = 8 by decide] at q
        rw [Int32.lt_iff_toInt_lt, show (7 : Int32).toInt = 7 by decide] at c2
        omega
/-- the group's row and the text are told apart -/
theorem emb_txt {F : vF} {q j : Nat} (hq : 152 ≤ q) : emb S 0 F q j = S q j := emb_out (by omega)
theorem HH.emb {F : vF} (h : HH S T) : HH (emb S 0 F) T := by
  obtain ⟨o, s, a, b, c, d, f, g⟩ := h
  refine ⟨o, s, a, b, by rw [emb_txt (by decide)]; exact c, by rw [emb_txt (by decide)]; exact d, f, fun j hj => ?_⟩
  rw [cv_emb_ne (by omega)]
  exact g j hj
theorem TXR.emb {F : vF} (h : TXR S T) : TXR (emb S 0 F) T := by
  obtain ⟨len, a, b, c, d, f⟩ := h
  refine ⟨len, a, by rw [emb_txt (by decide)]; exact b, c, d, ?_⟩
  rw [← f]
  funext j
  exact emb_txt (by decide)
/-- both sides with new rows -/
theorem RR.rows {G : vG} (h1 : HH S T) (h4 : TXR S T) (hR : RG G.1 F) (hI : IR 999 G.1) : RR (emb S 0 F) (emm T 1 G) := by
  have e0 : emm T 1 G 1 = G.1 := by funext j; exact em_q
  refine ⟨(h1.emb).cg (em_out (by decide) (by decide) (by omega)) (by funext j; exact em_out (by decide) (by decide) (by omega)), ?_, by rw [e0]; exact hI, (h4.emb).cg (em_out (by decide) (by decide) (by omega)) (by funext j; exact em_out (by decide) (by decide) (by omega))⟩
  rw [e0]
  exact hR.c189 (fun _ _ => rfl) (fun j hj => cv_emb hj.1) (cv_emb (by decide))
/-- both sides save their states -/
theorem RR.keep (h : RR S T) : RR (x_X1_keep S 0) (x_X5_saves T) ∧ x_X5_saves T 1 = T 1 ∧ x_X5_saves T 0 6 = T 0 6 ∧ cv (x_X1_keep S 0) 0 = cv S 0 := by
  obtain ⟨a, b, c, d⟩ := keep_thm h.1 h.2.1 h.2.2.1
  have e1 : x_X5_saves T 1 = T 1 := by funext j; exact d 1 j (by decide) (by omega)
  have e4 : x_X5_saves T 4 = T 4 := by funext j; exact d 4 j (by decide) (by omega)
  have tO' : ∀ j, x_X1_keep S 0 tO j = S tO j := fun j => c tO j (by decide) (by decide)
  refine ⟨⟨a, by rw [e1, b]; exact h.2.1, by rw [e1]; exact h.2.2.1, ?_⟩, e1, d 0 6 (by decide) (by omega), b⟩
  obtain ⟨len, p1, p2, p3, p4, p5⟩ := h.2.2.2
  refine ⟨len, p1, by rw [tO']; exact p2, by rw [d 0 5 (by decide) (by omega)]; exact p3, ?_, ?_⟩
  · unfold CH; rw [e4]; exact p4
  · rw [e4, ← p5]
    funext j
    exact c tC j (by decide) (by decide)
/-- the week -/
theorem op_week (h : RR S T) : CE (fun c => if c = 0 then 0 else 1) (x_X4_week S) (x_X5_week T) := by
  have hI := h.2.2.1
  have w0 := hI.2.2.2.1
  unfold x_X4_week x_X5_week x_X0_mayEndWeek
  have e3 : S (gG 0) 3 = T 1 0 := (cvG_0 (S := S) (g := 0)).symm.trans (h.2.1.g (by decide))
  have t1 : (T 1 0 + 1).toInt = (T 1 0).toInt + 1 := by
    have one : (1 : Int32).toInt = 1 := by decide
    rw [fb_addI (by rw [one]; omega) (by rw [one]; omega), one]
  have s1 : st T 0 6 0 1 0 = T 1 0 := by rw [st_at, if_neg (by omega)]
  simp only [nm_eq]
  rw [e3, s1]
  by_cases c : 999 ≤ T 1 0
  · have c2 : ¬ T 1 0 + 1 ≤ 999 := by
      rw [Int32.le_iff_toInt_le, t1]
      rw [Int32.le_iff_toInt_le] at c
      have : (999 : Int32).toInt = 999 := by decide
      omega
    rw [if_pos c, if_pos rfl, if_neg c2]
    unfold x_X5_fails
    rw [nm_eq, nmp_eq]
    refine ⟨(h.thrown).thrown, ?_, fun q => absurd (show (1 : Nat) = 0 from q) (by decide)⟩
    show st (st T 0 6 0) 0 6 1 0 6 = 1
    rw [st_at, if_pos ⟨rfl, rfl⟩]
  · have c2 : T 1 0 + 1 ≤ 999 := by
      rw [Int32.le_iff_toInt_le, t1]
      rw [Int32.le_iff_toInt_le] at c
      have : (999 : Int32).toInt = 999 := by decide
      omega
    rw [if_neg c, if_neg (by decide), if_pos c2]
    obtain ⟨k1, k2, k3, k4⟩ := (h.thrown (x := 0)).keep
    have r1 : st T 0 6 0 1 = T 1 := st_row (by decide)
    rw [r1] at k2
    generalize x_X5_saves (st T 0 6 0) = T2 at k1 k2 k3 ⊢
    generalize x_X1_keep S 0 = S2 at k1 k4 ⊢
    have k6 : T2 0 6 = 0 := by rw [k3, st_at, if_pos ⟨rfl, rfl⟩]
    have hS : S2 = emb S2 0 (cv S2 0) := (emb_cv S2 0).symm
    have hT : T2 = emm T2 1 (T2 1, T2 6, T2 0 13) := (emm_self T2 1).symm
    obtain ⟨r, G', e, hR', hI', e11, _, e0, _⟩ := week_thm k1.2.2.1 (Int.le_refl 999) k1.2.1 (G := (T2 1, T2 6, T2 0 13)) rfl
    have eM : x_X5_ends T2 1 = (r, emm T2 1 G') := by
      conv => lhs; rw [hT]
      rw [f_ends T2 (Or.inl rfl), e]
      rfl
    have eC : x_X0_endWeek S2 0 = emb S2 0 (v_X0_endWeek (cv S2 0)) := by
      conv => lhs; rw [hS]
      exact e_X0_endWeek S2 0 (cv S2 0)
    rw [eM, eC, nmp_eq, ebG_9]
    have hI999 : IR 999 G'.1 := by
      obtain ⟨h1, h2, h3, h4, h5⟩ := hI'
      refine ⟨h1, h2, h3, ⟨h4.1, ?_⟩, h5⟩
      rw [e0, k2]
      rw [Int32.le_iff_toInt_le] at c
      have : (999 : Int32).toInt = 999 := by decide
      omega
    refine ⟨RR.rows k1.1 k1.2.2.2 hR' hI999, ?_, fun _ => ?_⟩
    · show emm T2 1 G' 0 6 = 0
      rw [em_out (by decide) (by decide) (by omega)]; exact k6
    · show v_X0_endWeek (cv S2 0) 11 - S2 (gG 0) 9 = r
      rw [e11]
      have : S2 (gG 0) 9 = cv S2 0 11 := cvG_11.symm
      rw [this]
      grind
end RRS
