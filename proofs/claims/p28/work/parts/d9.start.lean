/-! THE CLAIM OUT OF ONE WALK OF THE LAW'S BODY. Your part is whole_start (and what it stands on); all else here is the same for every law, but numbers. -/
def R_law : String := "JointLoansLaw"
def lw_P (b : Addr) (xs : List Int32) (args : Array Value) (s : State) : Prop := args = #[.ref b] ∧ s.IntsAt b xs ∧ xs.length ≤ 260 ∧ (Jvm.Cond.and given_1 narrow_1).before args s = true
/-- what a walk over the start with the record d0 says of its end, said of the start itself -/
theorem lw_closed {s t : State} {o : Outcome} {d0 : Drawn} {L : List Loc} {k n : Nat} (hd0 : s.drawn.sameBut d0 lw_cs) (hv : ∃ v, o = .returned v) (hW : (s.setDrawn d0).WarmedH t.vm) (hs : (s.setDrawn d0).sameButNew ({ t with vm := s.vm } : State) L k n) : State.butDraws s t lw_cs (fun t1 => Framed s o t1 L k n) := by
  have h2 : t.drawn = d0 := congrArg State.drawn hs.1
  refine ⟨⟨hv, hW, State.sameButNew.setDrawn hs s.drawn⟩, ?_, by decide⟩
  rw [h2]
  exact hd0
def lw_Q (_ : Array Value) (s : State) (o : Outcome) (t : State) : Prop := o = .returned (some (.int 1)) ∧ State.butDraws s t lw_cs (fun t1 => Framed s o t1 [] 661153 7118009)
def lw_Z (below : List Frame) (a : Array Value) (s : State) : State → Prop := fun t => ∃ o, t.status = .running ∧ Ended t below o ∧ lw_Q a s o t
/-- the law's own end, with 1 on the stack, nothing written that was there before, its room as the claim has it; d0: the record of draws at this point (at the entry s.drawn: begin with 'refine W.base ?_' and 'have hd0 := Drawn.sameBut.refl s.drawn lw_cs') -/
theorem lw_ret {p : Program} {l : Launch} {e : Env} {s : State} {m : MethodId} {below : List Frame} {meth : Method} {c : Code} {b : Nat} {d0 : Drawn} (hd0 : s.drawn.sameBut d0 lw_cs) (hx : p.tables.exec = Jvm.exec) (hb : c.code = code) (hr : meth.sig.returnType = ret) (hlocks : meth.locks = false) {pc : Nat} {H : Heap} {ls : Array Slot} (hdg : decode code pc = .ok (.ireturn, 1)) : W p l e room_1 (s.setDrawn d0) m #[Value.ref b] below meth c H [] 661153 7118009 (lw_Z below #[Value.ref b] s) (F0 m pc ls [.int 1]) := by
  intro T hT X
  obtain ⟨fs, hret, hrun, hended, hW, hframe⟩ := X.leave (v := some (.int 1)) (hlocks := hlocks) (fun h => by rw [hr] at h; cases h)
  have hmeth' : T.vm.method? m = some meth := X.method'
  refine ⟨T.setFrames fs, ?_, .returned (some (.int 1)), hrun, hended, rfl, lw_closed hd0 ⟨_, rfl⟩ hW hframe⟩
  jvm_step X.here [X.here.top, hx, hb, hdg, hmeth', hr, ret, narrow_b1]
  (try refine ⟨rfl, ?_⟩); (try refine ⟨rfl, ?_⟩)
  first | (intro acts; rw [hret _ acts rfl rfl rfl]) | rw [hret _ _ rfl rfl rfl]
  exact Steps.refl _
/-- what holds at the law's entry: the machine, the code, the tables' words (any of lw_tbl by 'hts w (by decide +kernel)'), the script of L ints xs at the cell b, what the Statement gives of the start (any of its parts by flat_of_before) -/
def lw_At (p : Program) (s : State) (m : MethodId) (meth : Method) (c : Code) (b L : Nat) (xs : Nat → Int32) : Prop :=
  p.tables.exec = Jvm.exec ∧ c.code = code ∧ meth.sig.returnType = ret ∧ c.maxLocals = 10 ∧ s.vm.findClass R_law = some m.cls ∧ (∀ w ∈ lw_tbl, w.before #[Value.ref b] s = true) ∧ va_X b L xs s s.heap ∧ b < s.heap.size ∧ meth.locks = false ∧ (Jvm.Cond.and given_1 narrow_1).before #[Value.ref b] s = true
section WSTART
variable {p : Program} {l : Launch} {e : Env} {R : Room} {s : State} {m : MethodId} {args : Array Value} {below : List Frame} {meth : Method} {c : Code} {H : Heap} {locs : List Loc} {cells slots : Nat} {Q : State → Prop}
variable {cc : ByteArray} {nL : Nat} {Ts : List Cond} {own : String} {ret : Option FieldType} {D : va_G} {A : Nat → Prop} {H0 : Heap} {ws : va_W}
variable {pc : Nat} {ls : Array Slot} {rest : List Value}
/-- a public constructor is called -/
theorem l_callP (B : Cx p m c cc nL s args Ts own meth ret D) (hL : LW D A H0 ws H locs) (hao : aoC s) {o mc ms i : Nat} {e0 : va_E} (hi : ws[i]? = some (o, e0)) {index n maxL : Nat} {y : MethodName} {bytes : ByteArray} {wsy : List Cond} {rm : Room} {As : List Value} {P : va_W → Prop}
    (hM : Met l y wsy rm (pI D H.size o e0 As) (va_Qv P (bI D (aI H.size o)) (aI H.size o)) mc ms (aI H.size o)) (cw : CallB R s args own index y bytes maxL none wsy rm mc ms n ∧ y.name = "<init>" ∧ (Cond.instanceMethod y).before args s = true) (hn : As.length = n) (hl : ls.size = nL) (hr : (rest.map fun v => v.category).sum ≤ 8) (d : decode cc pc = .ok (.invokespecial index, 3)) (hf : cells + mc ≤ R.cells ∧ slots + ms ≤ R.slots)
    (kk : ∀ (u : va_W) (H1 : Heap) (locs1 : List Loc), P u → (∀ e1 new, u = (o, e1) :: new → LW D A H0 (ws.set i (o, e1) ++ new) H1 locs1) → W p l e R s m args below meth c H1 locs1 (cells + mc) (slots + ms) Q (F0 m (pc + 3) ls rest)) : W p l e R s m args below meth c H locs cells slots Q (F0 m pc ls (As.reverse ++ .ref o :: rest)) := by
  have hoA : A o := hL.2.1.2 i _ hi
  have hol : o < H.size := vx_lt hL.1 hi
  have hF : ∀ q, aI H.size o q → A q := by
    rintro q (h | h)
    · rw [h]
      exact hoA
    · exact hL.2.2.2 q (Nat.le_trans hL.2.2.1.1 h)
  have hone : va_P D vwCl [(o, e0)] H := by
    intro k q hk
    cases k with
    | zero =>
      cases hk
      exact hL.1 i _ hi
    | succ k => simp at hk
  refine va_callv (va_runI (As := As) (rest := rest) B.1 hM cw ⟨fun a U g mk q => ⟨q.1, q.2.1, q.2.2.1, q.2.2.2.1.call, ⟨va_AO.moved (u := U) (U := U.calling g mk a) (Vm.Alike.refl U.vm) q.2.2.2.2.1.1, va_AO.moved (u := U) (U := U.calling g mk a) (Vm.Alike.refl U.vm) q.2.2.2.2.1.2⟩, q.2.2.2.2.2⟩, fun U hU hW => ⟨rfl, by rw [hU], by rw [hU]; exact hone, B.2.1.warm hW, ⟨va_AO.moved hW.alike hao.1, va_AO.moved hW.alike hao.2⟩, hol⟩⟩ rfl hn hl rfl (lv_room hr) d hf) hL.2.2.1 (fun q _ h => hF q h) hF (fun u t H1 locs1 ht _ hp hB _ hfr hS => ?_)
  refine kk u H1 locs1 hp (fun e1 new he => ?_)
  subst he
  obtain ⟨hP, hD⟩ := hB
  rw [ht] at hP
  exact hL.merge hi hP hD hfr hS
end WSTART
set_option maxRecDepth 100000 in
/-- from the entry, for every script of at most 260 ints, the law comes to its end with true -/
theorem whole_start {p : Program} {e : Env} {s : State} {m : MethodId} {below : List Frame} {meth : Method} {c : Code} (l : Launch) (hflags : l.flags = flags0) {b L : Nat} {xs : Nat → Int32} (hL : L ≤ 260) (C0 : lw_At p s m meth c b L xs) : W p l e room_1 s m #[Value.ref b] below meth c s.heap [] 0 0 (lw_Z below #[Value.ref b] s) (entryFrame m ([Value.ref b] : List Value).toArray 10) := by
  obtain ⟨hx, hb, hr, hml, hown, hts, hX, hbl, hlocks, hgv⟩ := id C0
  obtain ⟨D, hK⟩ := kC_start hts
  obtain ⟨t0, t1, hE⟩ := nv_start hX hbl hts hgv
  have hao := ao_start hts
  have hl0 : l.stackTraces = false := by
    unfold Launch.stackTraces
    rw [hflags]
    decide +kernel
  have B : Cx p m c code 10 s #[Value.ref b] lw_tbl RL meth ret D := ⟨⟨hx, hb, hml, hown, hts⟩, hK, hr, hlocks⟩
  have hbA : ¬ (fun q : Nat => s.heap.size ≤ q) b := Nat.not_le.mpr hbl
  have hl := lv_entry ([.ref b]) (n := 10) (Nat.le_of_ble_eq_true rfl)
  rw [lg_entry_eq]
  generalize (lg_sl ([.ref b]) ++ List.replicate (10 - (lg_sl ([.ref b])).length) Slot.unset).toArray = ls at hl ⊢
  have hl : lv_has ls 10 [(0, .ref b)] := hl
  have hW0 : LW D (fun q : Nat => s.heap.size ≤ q) s.heap [] s.heap [] := ⟨fun k q h => by simp at h, ⟨fun i j p q h => by simp at h, fun k q h => by simp at h⟩, va_S.rf, fun q h => h⟩
  refine l_new B hW0 cls4 (fun w h => (gin_X40 w h).1) tyX4 tyX4_ok (hts (.classLink RL 10 RX4) (by decide +kernel)) (hts _ mt_in.2.2.2.2) (hts (.initialized RX4) (by decide +kernel)) (fs := jV .null .null .null .null) (by decide +kernel) ⟨Nat.le_of_ble_eq_true rfl, Nat.le_of_ble_eq_true rfl⟩ dL_law_0 (fun q H hW => ?_)
  refine lv_dup hx hb dL_law_3 rfl ?_
  refine l_callP B hW hao (i := 0) (As := []) (rest := [.ref q]) rfl (c_X4_init l _ q) (cwI 0 hts gL_law_X4_init rfl rfl rfl (hts (.initialized RX4) (by decide +kernel)) (hts (.methodLink RL 108 yX4_init) (by decide +kernel)) (hts (.instanceMethod yX4_init) (by decide +kernel)) rfl hd_X4_init.2 ⟨Nat.le_of_ble_eq_true rfl, Nat.le_of_ble_eq_true rfl⟩) rfl hl.1 (Nat.le_of_ble_eq_true rfl) dL_law_4 ⟨Nat.le_of_ble_eq_true rfl, Nat.le_of_ble_eq_true rfl⟩ (fun u H locs hu hW => ?_)
  obtain ⟨g0, g1, h, a, gs, t, d, hgs, hu⟩ := hu
  have hW := hW _ _ hu
  have hW : LW D (fun q : Nat => s.heap.size ≤ q) s.heap (jlF D q g0 g1 h a gs t d) H locs := hW
  refine lv_astore_n (lv' := [(1, .ref q), (0, .ref b)]) hx hb dL_law_7 rfl hl (by decide) rfl (fun ls hl => ?_)
  have hls := hl.1
  obtain ⟨ad, e1, hC⟩ := world_of hgs hW.1 hW.2.1
  subst e1
  have hW : Wd D 157 (cC D ad) ad (fun q : Nat => s.heap.size ≤ q) s.heap sC0 H locs := ⟨hC.1, hC.2, hW.2.2⟩
  have hl : lv_has ls 10 [(0, .ref b), (1, .ref (ad jO))] := lv_sub hl [1, 0] rfl
  have x0 := rx_start rr_start
  have g3 : cv sC0 0 3 = nI 0 := by decide +kernel
  obtain ⟨j0, k0⟩ := join_0 x0 g3 (by decide)
  have x1 : RX 1 (x_X4_join sC0).2 := (ok_join x0).elim (fun z => z.2.2) (fun z => absurd (z.1.symm.trans j0) (by decide))
  refine lv_aload_n hx hb dL_law_8 rfl (lv_at hl 1 rfl) ?_
  refine lb_ok hW (x_runVX B hW hE (As := []) (rest := []) hqj cC_j cls4 (c_X4_join (D := D) (ad := ad) (V := scV b L xs t0 t1) l _ hl0 sC0) (cwV 0 B.1.2.2.2.2 gL_law_X4_join rfl rfl rfl hd_X4_join ⟨Nat.le_of_ble_eq_true rfl, Nat.le_of_ble_eq_true rfl⟩) rfl hls (Nat.le_of_ble_eq_true rfl) dL_law_9 ⟨Nat.le_of_ble_eq_true rfl, Nat.le_of_ble_eq_true rfl⟩) j0 (fun H locs hW => ?_)
  refine lv_pop hx hb dL_law_12 rfl ?_
  have g4 : cv (x_X4_join sC0).2 0 3 = nI 1 := k0
  generalize (x_X4_join sC0).2 = S1 at x1 g4 hW
  obtain ⟨j1, k1⟩ := join_0 x1 g4 (by decide)
  have x2 : RX 2 (x_X4_join S1).2 := (ok_join x1).elim (fun z => z.2.2) (fun z => absurd (z.1.symm.trans j1) (by decide))
  refine lv_aload_n hx hb dL_law_13 rfl (lv_at hl 1 rfl) ?_
  refine lb_ok hW (x_runVX B hW hE (As := []) (rest := []) hqj cC_j cls4 (c_X4_join (D := D) (ad := ad) (V := scV b L xs t0 t1) l _ hl0 S1) (cwV 0 B.1.2.2.2.2 gL_law_X4_join rfl rfl rfl hd_X4_join ⟨Nat.le_of_ble_eq_true rfl, Nat.le_of_ble_eq_true rfl⟩) rfl hls (Nat.le_of_ble_eq_true rfl) dL_law_14 ⟨Nat.le_of_ble_eq_true rfl, Nat.le_of_ble_eq_true rfl⟩) j1 (fun H locs hW => ?_)
  refine lv_pop hx hb dL_law_17 rfl ?_
  have g5 : cv (x_X4_join S1).2 0 3 = nI 2 := k1
  generalize (x_X4_join S1).2 = S2 at x2 g5 hW
  obtain ⟨j2, k2⟩ := join_0 x2 g5 (by decide)
  have x3 : RX 3 (x_X4_join S2).2 := (ok_join x2).elim (fun z => z.2.2) (fun z => absurd (z.1.symm.trans j2) (by decide))
  refine lv_aload_n hx hb dL_law_18 rfl (lv_at hl 1 rfl) ?_
  refine lb_ok hW (x_runVX B hW hE (As := []) (rest := []) hqj cC_j cls4 (c_X4_join (D := D) (ad := ad) (V := scV b L xs t0 t1) l _ hl0 S2) (cwV 0 B.1.2.2.2.2 gL_law_X4_join rfl rfl rfl hd_X4_join ⟨Nat.le_of_ble_eq_true rfl, Nat.le_of_ble_eq_true rfl⟩) rfl hls (Nat.le_of_ble_eq_true rfl) dL_law_19 ⟨Nat.le_of_ble_eq_true rfl, Nat.le_of_ble_eq_true rfl⟩) j2 (fun H locs hW => ?_)
  refine lv_pop hx hb dL_law_22 rfl ?_
  have g6 : cv (x_X4_join S2).2 0 3 = nI 3 := k2
  generalize (x_X4_join S2).2 = S3 at x3 g6 hW
  refine lv_iconst (v := 1) hx hb dL_law_23 (by decide) ?_
  refine lv_istore_n (lv' := [(2, .int 1), (0, .ref b), (1, .ref (ad jO))]) hx hb dL_law_24 rfl hl (by decide) rfl (fun ls hl => ?_)
  have hls := hl.1
  refine lv_aload_n hx hb dL_law_25 rfl (lv_at hl 1 rfl) ?_
  refine va_slen hx hb hX hbl hbA hW.2.2.1 dL_law_26 ?_
  refine lv_iconst (v := 4) hx hb dL_law_27 (by decide) ?_
  refine lv_idiv hx hb dL_law_28 (by decide) ?_
  refine lv_bipush (v := 30) hx hb dL_law_29 (by decide) ?_
  have hend : ∀ (H1 : Heap) (locs1 : List Loc) (cells1 slots1 : Nat) (ls1 : Array Slot), (∀ q ∈ locs1, (fun q : Nat => s.heap.size ≤ q) q.base) → lv_has ls1 10 [(2, .int 1)] → cells1 ≤ 661153 → slots1 ≤ 7118009 → W p l e room_1 s m #[Value.ref b] below meth c H1 locs1 cells1 slots1 (lw_Z below #[Value.ref b] s) (F0 m 164 ls1 []) := by
    intro H1 locs1 cells1 slots1 ls1 hq hl1 hc hs
    refine lv_iload_n hx hb dL_law_164 rfl (lv_at hl1 0 rfl) ?_
    refine W.widen (k := 661153) (n := 7118009) hc hs ?_
    refine va_forget (fun q hq' => hq q hq') ?_
    exact lw_ret (Drawn.sameBut.refl s.drawn lw_cs) hx hb hr hlocks dL_law_165
  have ed : Int32.ofNat L / 4 = nI (L / 4) := pk_div (a := L) (d := 4) (by omega) (by decide) (by decide)
  refine lv_icmp_le (tgt := 39) hx hb dL_law_31 (by decide) (fun cq => ?_) (fun cq => ?_)
  · skip
    refine lv_aload_n hx hb dL_law_39 rfl (lv_at hl 1 rfl) ?_
    refine va_slen hx hb hX hbl hbA hW.2.2.1 dL_law_40 ?_
    refine lv_iconst (v := 4) hx hb dL_law_41 (by decide) ?_
    refine lv_idiv hx hb dL_law_42 (by decide) ?_
    rw [ed]
    have hq4 : L / 4 ≤ 30 := by
      rw [ed, Int32.le_iff_toInt_le, nI_toInt (by omega), show (30 : Int32).toInt = 30 by decide] at cq
      omega
    refine lv_istore_n (lv' := [(3, .int (nI (L / 4))), (2, .int 1), (0, .ref b), (1, .ref (ad jO))]) hx hb dL_law_43 rfl hl (by decide) rfl (fun ls hl => ?_)
    have hls := hl.1
    refine lv_iconst (v := 0) hx hb dL_law_44 (by decide) ?_
    refine lv_istore (lv' := [(4, .int 0), (3, .int (nI (L / 4))), (2, .int 1), (0, .ref b), (1, .ref (ad jO))]) hx hb dL_law_45 hl (by decide) rfl (fun ls hl => ?_)
    have hls := hl.1
    have hl := lv_sub hl [3, 4, 2, 1, 0] rfl
    have hl : lv_has ls 10 [(0, .ref b), (1, .ref (ad jO)), (2, .int 1), (3, .int (nI (L / 4))), (4, .int (nI 0))] := hl
    exact law_loop B hl0 hE hL hq4 hend (L / 4) 0 S3 H locs _ _ ls (by omega) x3 hW hl (Nat.le_of_ble_eq_true rfl) (Nat.le_of_ble_eq_true rfl)
  · skip
    refine lv_bipush (v := 30) hx hb dL_law_34 (by decide) ?_
    refine lv_goto (tgt := 43) hx hb dL_law_36 (by decide) ?_
    refine lv_istore_n (lv' := [(3, .int (nI 30)), (2, .int 1), (0, .ref b), (1, .ref (ad jO))]) hx hb dL_law_43 rfl hl (by decide) rfl (fun ls hl => ?_)
    have hls := hl.1
    refine lv_iconst (v := 0) hx hb dL_law_44 (by decide) ?_
    refine lv_istore (lv' := [(4, .int 0), (3, .int (nI 30)), (2, .int 1), (0, .ref b), (1, .ref (ad jO))]) hx hb dL_law_45 hl (by decide) rfl (fun ls hl => ?_)
    have hls := hl.1
    have hl := lv_sub hl [3, 4, 2, 1, 0] rfl
    have hl : lv_has ls 10 [(0, .ref b), (1, .ref (ad jO)), (2, .int 1), (3, .int (nI 30)), (4, .int (nI 0))] := hl
    exact law_loop B hl0 hE hL (Nat.le_refl 30) hend 30 0 S3 H locs _ _ ls (by omega) x3 hW hl (Nat.le_of_ble_eq_true rfl) (Nat.le_of_ble_eq_true rfl)
