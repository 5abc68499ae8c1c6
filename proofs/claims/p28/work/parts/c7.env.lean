section LAWENV
/-- what the Statement gives of the start, flat -/
def flN : List Cond := flatC (Cond.and given_1 narrow_1)
set_option maxRecDepth 100000 in
theorem ms_xm : ∀ q ∈ xmE, Cond.exactly (.string RX4 q.1) "java/lang/String" ∈ flN := by decide +kernel
set_option maxRecDepth 100000 in
theorem ms_l0 : Cond.arrayOf (.static RX4 "LEAST_SETTING" "[I") .int ∈ flN ∧ Cond.eq (.length (.static RX4 "LEAST_SETTING" "[I")) (.int (Int32.ofNat 4)) ∈ flN ∧ ∀ j, j < 4 → Cond.eq (.elem (.static RX4 "LEAST_SETTING" "[I") (.int (Int32.ofNat j))) (.int (lsE j)) ∈ flN := by decide +kernel
set_option maxRecDepth 100000 in
theorem ms_m0 : Cond.arrayOf (.static RX4 "MOST_SETTING" "[I") .int ∈ flN ∧ Cond.eq (.length (.static RX4 "MOST_SETTING" "[I")) (.int (Int32.ofNat 4)) ∈ flN ∧ ∀ j, j < 4 → Cond.eq (.elem (.static RX4 "MOST_SETTING" "[I") (.int (Int32.ofNat j))) (.int (msE j)) ∈ flN := by decide +kernel
set_option maxRecDepth 100000 in
theorem ms_st : Cond.isRef (.static Bundle.tN "UNASSIGNED_STACK" Bundle.steD) ∈ flN ∧ Cond.isRef (.static Bundle.tN "SUPPRESSED_SENTINEL" Bundle.listD) ∈ flN := by decide +kernel
set_option maxRecDepth 100000 in
theorem mt_ls : ∀ q ∈ [(RX4, "LEAST_SETTING", "[I"), (RX4, "MOST_SETTING", "[I"), (Bundle.tN, "UNASSIGNED_STACK", Bundle.steD), (Bundle.tN, "SUPPRESSED_SENTINEL", Bundle.listD)], Cond.laysStatic q.1 q.2.1 q.2.2 ∈ lw_tbl ∧ Cond.initialized q.1 ∈ lw_tbl := by decide +kernel
set_option maxRecDepth 100000 in
theorem mt_xm : ∀ q ∈ xmE, Cond.stringRef RX4 q.1 q.2 ∈ lw_tbl := by decide +kernel
set_option maxRecDepth 100000 in
theorem mt_xc : ∀ X ∈ xcE, Cond.castable X X ∈ lw_tbl := by decide +kernel
set_option maxRecDepth 100000 in
theorem mt_xd : ∀ w ∈ xdE, w ∈ lw_tbl := by decide +kernel
set_option maxRecDepth 100000 in
theorem mt_nl : ∀ w ∈ nl_all, w ∈ lw_tbl := by decide +kernel
set_option maxRecDepth 100000 in
theorem mt_ar : Cond.arrayClass .int ∈ lw_tbl ∧ Cond.arrayClass .char ∈ lw_tbl ∧ Cond.arrayOver (.object RX2) ∈ lw_tbl ∧ Cond.arrayOver (.object RX0) ∈ lw_tbl := by decide +kernel
set_option maxRecDepth 100000 in
theorem mt_in : Cond.instantiable RX0 11 ∈ lw_tbl ∧ Cond.instantiable RX1 3 ∈ lw_tbl ∧ Cond.instantiable RX2 16 ∈ lw_tbl ∧ Cond.instantiable RX3 7 ∈ lw_tbl ∧ Cond.instantiable RX4 4 ∈ lw_tbl := by decide +kernel
variable {args : Array Value} {s : State}
theorem bk_int (x : Int32) : Int32.ofNat x.toBitVec.toNat = x := by
  apply Int32.toBitVec_inj.mp
  show BitVec.ofNat 32 x.toBitVec.toNat = x.toBitVec
  rw [BitVec.ofNat_toNat, BitVec.setWidth_eq]
/-- what nobody writes, the script among it -/
def scV (b L : Nat) (xs : Nat → Int32) (t0 t1 : Nat) : vE := (fun k => if k = 0 then b else L, fun j => (xs j).toBitVec.toNat, fun k => if k = 0 then t0 else t1)
theorem nv_start {b L : Nat} {xs : Nat → Int32} (hX : va_X b L xs s s.heap) (hbl : b < s.heap.size) (hts : ∀ w ∈ lw_tbl, w.before args s = true) (hgv : (Cond.and given_1 narrow_1).before args s = true) : ∃ t0 t1 : Nat, nv (scV b L xs t0 t1) (fun q : Nat => s.heap.size ≤ q) s s.heap := by
  have hs : ∀ c ∈ flN, c.before args s = true := flat_of_before _ hgv
  have hA : ∀ a : Nat, a < s.heap.size → ¬ (fun q : Nat => s.heap.size ≤ q) a := fun a h q => absurd (show s.heap.size ≤ a from q) (by omega)
  obtain ⟨t0, e0, T0⟩ := va_Tof (args := args) (s := s) (tm := .static RX4 "LEAST_SETTING" "[I") (ty := .int) (N := 4) (f := fun j => .int (lsE j)) (A := fun q : Nat => s.heap.size ≤ q) (by decide) (hs _ ms_l0.1) (va_eqt (hs _ ms_l0.2.1)) (fun j hj => va_eqt (hs _ (ms_l0.2.2 j hj))) hA
  obtain ⟨t1, e1, T1⟩ := va_Tof (args := args) (s := s) (tm := .static RX4 "MOST_SETTING" "[I") (ty := .int) (N := 4) (f := fun j => .int (msE j)) (A := fun q : Nat => s.heap.size ≤ q) (by decide) (hs _ ms_m0.1) (va_eqt (hs _ ms_m0.2.1)) (fun j hj => va_eqt (hs _ (ms_m0.2.2 j hj))) hA
  have l : ∀ (C n d : String), (C, n, d) ∈ [(RX4, "LEAST_SETTING", "[I"), (RX4, "MOST_SETTING", "[I"), (Bundle.tN, "UNASSIGNED_STACK", Bundle.steD), (Bundle.tN, "SUPPRESSED_SENTINEL", Bundle.listD)] → (Cond.laysStatic C n d).before args s = true ∧ (Cond.initialized C).before args s = true := fun C n d h => ⟨hts _ (mt_ls _ h).1, hts _ (mt_ls _ h).2⟩
  have l2 := l RX4 "LEAST_SETTING" "[I" (List.mem_of_getElem? (i := 0) rfl)
  have l3 := l RX4 "MOST_SETTING" "[I" (List.mem_of_getElem? (i := 1) rfl)
  have l4 := l Bundle.tN "UNASSIGNED_STACK" Bundle.steD (List.mem_of_getElem? (i := 2) rfl)
  have l5 := l Bundle.tN "SUPPRESSED_SENTINEL" Bundle.listD (List.mem_of_getElem? (i := 3) rfl)
  have hsc : va_T .int b L (fun j => .int (Int32.ofNat (xs j).toBitVec.toNat)) (fun q : Nat => s.heap.size ≤ q) s s.heap := by
    obtain ⟨scr, h1, h2, h3, h4, h5⟩ := hX
    exact ⟨scr, h1, h2, h3, by omega, by rw [h4], fun j hj => (h5 j hj).trans (congrArg (fun z => some (Value.int z)) (bk_int (xs j)).symm), hA b hbl⟩
  refine ⟨t0, t1, ⟨hsc, trivial, trivial, ⟨va_Zof l2.1 l2.2 e0 hA, T0⟩, ⟨va_Zof l3.1 l3.2 e1 hA, T1⟩, vx_Zqof l4.1 l4.2 (hs _ ms_st.1) hA, vx_Zqof l5.1 l5.2 (hs _ ms_st.2) hA⟩, trivial, fun q hq => ?_, fun X hX => va_Nw.of rfl (hts _ (mt_xc X hX)), fun w hw => ?_⟩
  · obtain ⟨a, c, cA, kA, q1, -⟩ := Cond.exactly_spec (args := args) (first := s) (o := none) (s := s) (idx := []) (t := .string RX4 q.1) (cls := "java/lang/String") (hs _ (ms_xm q hq))
    exact ⟨a, vk_R.of (hts _ (mt_xm q hq)) q1⟩
  · have h1 := hts w (mt_xd w hw)
    obtain ⟨x, rfl⟩ := xdE_in hw
    exact va_Nw.of rfl h1
theorem ao_start (hts : ∀ w ∈ lw_tbl, w.before args s = true) : aoC s := ⟨va_AO.of (hts _ mt_ar.2.2.1), va_AO.of (hts _ mt_ar.2.2.2)⟩
theorem ar_int (h : (Cond.arrayClass .int).before args s = true) : ∃ cA, ArrOfT s cA .int ∧ va_RA s cA .int := by
  obtain ⟨c, k, comp, h1, h2, h3⟩ := Cond.arrayClass_spec (args := args) (first := s) (o := none) (s := s) (idx := []) h
  exact ⟨c, fun n z => ⟨fun k h => (by cases h), k, h2, comp, h3⟩, h1⟩
theorem ar_char (h : (Cond.arrayClass .char).before args s = true) : ∃ cA, ArrOfT s cA .char ∧ va_RA s cA .char := by
  obtain ⟨c, k, comp, h1, h2, h3⟩ := Cond.arrayClass_spec (args := args) (first := s) (o := none) (s := s) (idx := []) h
  exact ⟨c, fun n z => ⟨fun k h => (by cases h), k, h2, comp, h3⟩, h1⟩
theorem ar_obj {C : String} (h : (Cond.arrayOver (.object C)).before args s = true) : ∃ cA, ArrOfT s cA (.object C) ∧ va_RA s cA (.object C) := by
  obtain ⟨comp, c, k, h1, -, h3, h4, h5⟩ := Cond.arrayOver_spec (args := args) (first := s) (o := none) (s := s) (idx := []) h
  exact ⟨c, fun n z => ⟨fun k h => (by cases h), k, h3, comp, h4⟩, k, comp, h3, h4, h1, h5⟩
theorem kC_start (hts : ∀ w ∈ lw_tbl, w.before args s = true) : ∃ D : va_G, kC D s := by
  obtain ⟨c0, i0, h0⟩ := u_known (C := RX0) (T := TX0) (N := 11) (n := 11) hts (fun w h => (gin_X00 w h).1) (hts _ mt_in.1)
  obtain ⟨c1, i1, h1⟩ := u_known (C := RX1) (T := TX1) (N := 3) (n := 3) hts (fun w h => (gin_X10 w h).1) (hts _ mt_in.2.1)
  obtain ⟨c2, i2, h2⟩ := u_known (C := RX2) (T := TX2) (N := 16) (n := 16) hts (fun w h => (gin_X20 w h).1) (hts _ mt_in.2.2.1)
  obtain ⟨c3, i3, h3⟩ := u_known (C := RX3) (T := TX3) (N := 7) (n := 7) hts (fun w h => (gin_X30 w h).1) (hts _ mt_in.2.2.2.1)
  obtain ⟨c4, i4, h4⟩ := u_known (C := RX4) (T := TX4) (N := 4) (n := 4) hts (fun w h => (gin_X40 w h).1) (hts _ mt_in.2.2.2.2)
  obtain ⟨a0, g0⟩ := ar_int (hts _ mt_ar.1)
  obtain ⟨a1, g1⟩ := ar_char (hts _ mt_ar.2.1)
  obtain ⟨a2, g2⟩ := ar_obj (hts _ mt_ar.2.2.1)
  obtain ⟨a3, g3⟩ := ar_obj (hts _ mt_ar.2.2.2)
  refine ⟨(fun k => if k = 0 then c0 else if k = 1 then c1 else if k = 2 then c2 else if k = 3 then c3 else if k = 4 then c4 else if k = 10 then a0 else if k = 11 then a1 else if k = 12 then a2 else a3, fun k => if k = 0 then i0 else if k = 1 then i1 else if k = 2 then i2 else if k = 3 then i3 else i4), ⟨fun k q hq => ?_, fun k q hq => ?_⟩, fun w hw => va_Nw.of (nest_tabs (nl_nest w hw)) (hts _ (mt_nl w hw))⟩
  · match k, hq with
    | 0, hq => cases hq; exact h0
    | 1, hq => cases hq; exact h1
    | 2, hq => cases hq; exact h2
    | 3, hq => cases hq; exact h3
    | 4, hq => cases hq; exact h4
    | k + 5, hq => exact absurd (List.getElem?_eq_some_iff.mp hq).1 (by show ¬ k + 5 < 5; omega)
  · match k, hq with
    | 0, hq => cases hq; exact g0
    | 1, hq => cases hq; exact g1
    | 2, hq => cases hq; exact g2
    | 3, hq => cases hq; exact g3
    | k + 4, hq => exact absurd (List.getElem?_eq_some_iff.mp hq).1 (by show ¬ k + 4 < 4; omega)
def sM0 : vS := fun q => if q = 1 then upd (upd (upd (upd (upd (fun _ => 0) 2 (-1)) 4 5) 5 5) 6 4) 7 50 else fun _ => 0
/-- class and model as their constructors leave them -/
theorem rr_start : RR sC0 sM0 := by
  have hrow : ∀ j, j < 189 → cv sC0 0 j = sM0 1 j := by decide +kernel
  refine ⟨⟨0, 0, by decide, by decide, rfl, rfl, rfl, fun j hj => absurd hj (by omega)⟩, ⟨fun j hj => (hrow j hj.1).symm, hrow 11 (by decide)⟩, ?_, 0, by decide, rfl, rfl, fun i hi => absurd hi (by omega), rfl⟩
  unfold IR
  refine ⟨by decide +kernel, fun o ho => ?_, fun o ho => ?_, by decide +kernel, Or.inl rfl, ?_, by decide +kernel, by decide +kernel, by decide +kernel, by decide +kernel, by decide +kernel, by decide +kernel, by decide +kernel, by decide +kernel, by decide +kernel⟩
  · unfold LMm
    revert o
    decide +kernel
  · unfold DMm
    revert o
    decide +kernel
  · exact vp_in_nI (n := 0) (N := 9) (by decide) (by decide)
end LAWENV
