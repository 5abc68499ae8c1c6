/-! THE CLAIM OUT OF ONE WALK OF THE LAW'S BODY. Your part is whole_start (and what it stands on); all else here is the same for every law, but numbers. -/
def R_law : String := "JointLoansLaw"
def lw_P (b : Addr) (xs : List Int32) (args : Array Value) (s : State) : Prop := args = #[.ref b] ∧ s.IntsAt b xs ∧ xs.length ≤ 2048 ∧ (Jvm.Cond.and given_1 narrow_1).before args s = true
/-- what a walk over the start with the record d0 says of its end, said of the start itself -/
theorem lw_closed {s t : State} {o : Outcome} {d0 : Drawn} {L : List Loc} {k n : Nat} (hd0 : s.drawn.sameBut d0 lw_cs) (hv : ∃ v, o = .returned v) (hW : (s.setDrawn d0).WarmedH t.vm) (hs : (s.setDrawn d0).sameButNew ({ t with vm := s.vm } : State) L k n) : State.butDraws s t lw_cs (fun t1 => Framed s o t1 L k n) := by
  have h2 : t.drawn = d0 := congrArg State.drawn hs.1
  refine ⟨⟨hv, hW, State.sameButNew.setDrawn hs s.drawn⟩, ?_, by decide⟩
  rw [h2]
  exact hd0
def lw_Q (_ : Array Value) (s : State) (o : Outcome) (t : State) : Prop := o = .returned (some (.int 1)) ∧ State.butDraws s t lw_cs (fun t1 => Framed s o t1 [] 601024 7293034)
def lw_Z (below : List Frame) (a : Array Value) (s : State) : State → Prop := fun t => ∃ o, t.status = .running ∧ Ended t below o ∧ lw_Q a s o t
/-- the law's own end, with 1 on the stack, nothing written that was there before, its room as the claim has it; d0: the record of draws at this point (at the entry s.drawn: begin with 'refine W.base ?_' and 'have hd0 := Drawn.sameBut.refl s.drawn lw_cs') -/
theorem lw_ret {p : Program} {l : Launch} {e : Env} {s : State} {m : MethodId} {below : List Frame} {meth : Method} {c : Code} {b : Nat} {d0 : Drawn} (hd0 : s.drawn.sameBut d0 lw_cs) (hx : p.tables.exec = Jvm.exec) (hb : c.code = code) (hr : meth.sig.returnType = ret) (hlocks : meth.locks = false) {pc : Nat} {H : Heap} {ls : Array Slot} (hdg : decode code pc = .ok (.ireturn, 1)) : W p l e room_1 (s.setDrawn d0) m #[Value.ref b] below meth c H [] 601024 7293034 (lw_Z below #[Value.ref b] s) (F0 m pc ls [.int 1]) := by
  intro T hT X
  obtain ⟨fs, hret, hrun, hended, hW, hframe⟩ := X.leave (v := some (.int 1)) (hlocks := hlocks) (fun h => by rw [hr] at h; cases h)
  have hmeth' : T.vm.method? m = some meth := X.method'
  refine ⟨T.setFrames fs, ?_, .returned (some (.int 1)), hrun, hended, rfl, lw_closed hd0 ⟨_, rfl⟩ hW hframe⟩
  jvm_step X.here [X.here.top, hx, hb, hdg, hmeth', hr, ret, narrow_b1]
  (try refine ⟨rfl, ?_⟩); (try refine ⟨rfl, ?_⟩)
  first | (intro acts; rw [hret _ acts rfl rfl rfl]) | rw [hret _ _ rfl rfl rfl]
  exact Steps.refl _
/-- what holds at the law's entry: the machine, the code, the tables' words (any of lw_tbl by 'hts w (by decide +kernel)'), the script of L ints xs at the cell b, what the Statement gives of the start (any of its parts by flat_of_before) -/
def lw_At (p : Program) (s : State) (m : MethodId) (meth : Method) (c : Code) (b L : Nat) (xs : Nat → Int32) : Prop :=
  p.tables.exec = Jvm.exec ∧ c.code = code ∧ meth.sig.returnType = ret ∧ c.maxLocals = 9 ∧ s.vm.findClass R_law = some m.cls ∧ (∀ w ∈ lw_tbl, w.before #[Value.ref b] s = true) ∧ va_X b L xs s s.heap ∧ b < s.heap.size ∧ meth.locks = false ∧ (Jvm.Cond.and given_1 narrow_1).before #[Value.ref b] s = true
section WSTART
variable {p : Program} {l : Launch} {e : Env} {R : Room} {s : State} {m : MethodId} {args : Array Value} {below : List Frame} {meth : Method} {c : Code} {H : Heap} {locs : List Loc} {cells slots : Nat} {Q : State → Prop}
variable {cc : ByteArray} {nL : Nat} {Ts : List Cond} {own : String} {ret : Option FieldType} {D : va_G} {A : Nat → Prop} {H0 : Heap} {ws : va_W}
variable {pc : Nat} {ls : Array Slot} {rest : List Value}
/-- a public constructor is called -/
theorem l_callP (B : Cx p m c cc nL s args Ts own meth ret D) (hL : LW D A H0 ws H locs) (hao : aoC s) {o mc ms i : Nat} {e0 : va_E} (hi : ws[i]? = some (o, e0)) {index n maxL : Nat} {y : MethodName} {bytes : ByteArray} {wsy : List Cond} {rm : Room} {As : List Value} {P : va_W → Prop}
    (hM : Met l y wsy rm (pI D H.size o e0 As) (va_Qv P (bI D (aI H.size o)) (aI H.size o)) mc ms (aI H.size o)) (cw : CallB R s args own index y bytes maxL none wsy rm mc ms n ∧ y.name = "<init>" ∧ (Cond.instanceMethod y).before args s = true) (hn : As.length = n) (hl : ls.size = nL) (hr : (rest.map fun v => v.category).sum ≤ 8) (d : decode cc pc = .ok (.invokespecial index, 3)) (hf : cells + mc ≤ R.cells ∧ slots + ms ≤ R.slots)
    (kk : ∀ (u : va_W) (H1 : Heap) (locs1 : List Loc), P u → (∀ e1 new, u = (o, e1) :: new → LW D A H0 (ws.set i (o, e1) ++ new) H1 locs1) → W p l e R s m args below meth c H1 locs1 (cells + mc) (slots + ms) Q (F0 m (pc + 3) ls rest)) : W p l e R s m args below meth c H locs cells slots Q (F0 m pc ls (As.reverse ++ .ref o :: rest)) := by
  have hoA : A o := hL.2.1.2 i _ hi
  have hol : o < H.size := vx_lt hL.1 hi
  have hF : ∀ q, aI H.size o q → A q := by
    rintro q (h | h)
    · rw [h]
      exact hoA
    · exact hL.2.2.2 q (Nat.le_trans hL.2.2.1.1 h)
  have hone : va_P D vwCl [(o, e0)] H := by
    intro k q hk
    cases k with
    | zero =>
      cases hk
      exact hL.1 i _ hi
    | succ k => simp at hk
  refine va_callv (va_runI (As := As) (rest := rest) B.1 hM cw ⟨fun a U g mk q => ⟨q.1, q.2.1, q.2.2.1, q.2.2.2.1.call, ⟨va_AO.moved (u := U) (U := U.calling g mk a) (Vm.Alike.refl U.vm) q.2.2.2.2.1.1, va_AO.moved (u := U) (U := U.calling g mk a) (Vm.Alike.refl U.vm) q.2.2.2.2.1.2⟩, q.2.2.2.2.2⟩, fun U hU hW => ⟨rfl, by rw [hU], by rw [hU]; exact hone, B.2.1.warm hW, ⟨va_AO.moved hW.alike hao.1, va_AO.moved hW.alike hao.2⟩, hol⟩⟩ rfl hn hl rfl (lv_room hr) d hf) hL.2.2.1 (fun q _ h => hF q h) hF (fun u t H1 locs1 ht _ hp hB _ hfr hS => ?_)
  refine kk u H1 locs1 hp (fun e1 new he => ?_)
  subst he
  obtain ⟨hP, hD⟩ := hB
  rw [ht] at hP
  exact hL.merge hi hP hD hfr hS
end WSTART
set_option maxRecDepth 100000 in
/-- from the entry, for every script of at most 2048 ints, the law comes to its end with true -/
theorem whole_start {p : Program} {e : Env} {s : State} {m : MethodId} {below : List Frame} {meth : Method} {c : Code} (l : Launch) (hflags : l.flags = flags0) {b L : Nat} {xs : Nat → Int32} (hL : L ≤ 2048) (C0 : lw_At p s m meth c b L xs) : W p l e room_1 s m #[Value.ref b] below meth c s.heap [] 0 0 (lw_Z below #[Value.ref b] s) (entryFrame m ([Value.ref b] : List Value).toArray 9) := by
  obtain ⟨hx, hb, hr, hml, hown, hts, hX, hbl, hlocks, hgv⟩ := id C0
  obtain ⟨D, hK⟩ := kC_start hts
  obtain ⟨V, hE⟩ := nv_start hts hgv
  have hN := nc_start hgv
  have hao := ao_start hts
  have hl0 : l.stackTraces = false := by
    unfold Launch.stackTraces
    rw [hflags]
    decide +kernel
  have B : Cx p m c code 9 s #[Value.ref b] lw_tbl RL meth ret D := ⟨⟨hx, hb, hml, hown, hts⟩, hK, hr, hlocks⟩
  have hbA : ¬ (fun q : Nat => s.heap.size ≤ q) b := Nat.not_le.mpr hbl
  have hl := lv_entry ([.ref b]) (n := 9) (Nat.le_of_ble_eq_true rfl)
  rw [lg_entry_eq]
  generalize (lg_sl ([.ref b]) ++ List.replicate (9 - (lg_sl ([.ref b])).length) Slot.unset).toArray = ls at hl ⊢
  have hl : lv_has ls 9 [(0, .ref b)] := hl
  have hW0 : LW D (fun q : Nat => s.heap.size ≤ q) s.heap [] s.heap [] := ⟨fun k q h => by simp at h, ⟨fun i j p q h => by simp at h, fun k q h => by simp at h⟩, va_S.rf, fun q h => h⟩
  refine l_new B hW0 cls4 (fun w h => (gin_X40 w h).1) tyX4 tyX4_ok (hts (.classLink RL 8 RX4) (by decide +kernel)) (hts _ mt_in.2.2.2.2.1) (hts (.initialized RX4) (by decide +kernel)) (fs := jV .null .null .null .null) (by decide +kernel) ⟨Nat.le_of_ble_eq_true rfl, Nat.le_of_ble_eq_true rfl⟩ dL_law_0 (fun q H hW => ?_)
  refine lv_dup hx hb dL_law_3 rfl ?_
  refine l_callP B hW hao (i := 0) (As := []) (rest := [.ref q]) rfl (c_X4_init l _ q) (cwI 0 hts gL_law_X4_init rfl rfl rfl (hts (.initialized RX4) (by decide +kernel)) (hts (.methodLink RL 76 yX4_init) (by decide +kernel)) (hts (.instanceMethod yX4_init) (by decide +kernel)) rfl hd_X4_init.2 ⟨Nat.le_of_ble_eq_true rfl, Nat.le_of_ble_eq_true rfl⟩) rfl hl.1 (Nat.le_of_ble_eq_true rfl) dL_law_4 ⟨Nat.le_of_ble_eq_true rfl, Nat.le_of_ble_eq_true rfl⟩ (fun u H locs hu hW => ?_)
  obtain ⟨g0, g1, h, a, gs, t, d, hgs, hu⟩ := hu
  have hW := hW _ _ hu
  have hW : LW D (fun q : Nat => s.heap.size ≤ q) s.heap (jlF D q g0 g1 h a gs t d) H locs := hW
  refine lv_astore_n (lv' := [(1, .ref q), (0, .ref b)]) hx hb dL_law_7 rfl hl (by decide) rfl (fun ls hl => ?_)
  refine l_new B hW cls5 (fun w h => (gin_X50 w h).1) tyX5 tyX5_ok (hts (.classLink RL 77 RX5) (by decide +kernel)) (hts _ mt_in.2.2.2.2.2) (hts (.initialized RX5) (by decide +kernel)) (fs := oV .null .null .null .null .null .null) (by decide +kernel) ⟨Nat.le_of_ble_eq_true rfl, Nat.le_of_ble_eq_true rfl⟩ dL_law_8 (fun q2 H hW => ?_)
  refine lv_dup hx hb dL_law_11 rfl ?_
  have hlen := jl_len D q g0 g1 h a gs t d hgs
  refine l_callP B hW hao (i := 157) (As := []) (rest := [.ref q2]) (at_last hlen) (c_X5_init l _ q2) (cwI 0 hts gL_law_X5_init rfl rfl rfl (hts (.initialized RX5) (by decide +kernel)) (hts (.methodLink RL 79 yX5_init) (by decide +kernel)) (hts (.instanceMethod yX5_init) (by decide +kernel)) rfl hd_X5_init.2 ⟨Nat.le_of_ble_eq_true rfl, Nat.le_of_ble_eq_true rfl⟩) rfl hl.1 (Nat.le_of_ble_eq_true rfl) dL_law_12 ⟨Nat.le_of_ble_eq_true rfl, Nat.le_of_ble_eq_true rfl⟩ (fun u H locs hu hW => ?_)
  obtain ⟨ad2, had2, hu⟩ := hu
  subst had2
  have hW := hW (cM D ad2 0 (sM0 0)) ((wl 7 (cM D ad2) ad2 sM0).tail) (hu.trans rfl)
  rw [set_last hlen] at hW
  have hW : LW D (fun q : Nat => s.heap.size ≤ q) s.heap (jlF D q g0 g1 h a gs t d ++ wl 7 (cM D ad2) ad2 sM0) H locs := hW
  refine lv_astore_n (lv' := [(2, .ref (ad2 0)), (1, .ref q), (0, .ref b)]) hx hb dL_law_15 rfl hl (by decide) rfl (fun ls hl => ?_)
  refine lv_iconst (v := 1) hx hb dL_law_16 (by decide) ?_
  refine l_newa B hW (atype := .long) (hts _ mt_ar.2.2.1) (ty := .long) rfl (k := 4) (cT := D.1 14) rfl (N' := 1) (a0 := (1, .inr (.inl (fun _ => 0)))) (fun _ => rfl) ⟨by decide, by decide⟩ (Nat.le_of_ble_eq_true rfl) ⟨Nat.le_of_ble_eq_true rfl, Nat.le_of_ble_eq_true rfl⟩ dL_law_17 (fun z H hW => ?_)
  refine lv_astore_n (lv' := [(3, .ref z), (2, .ref (ad2 0)), (1, .ref q), (0, .ref b)]) hx hb dL_law_19 rfl hl (by decide) rfl (fun ls hl => ?_)
  refine lv_iconst (v := 0) hx hb dL_law_20 (by decide) ?_
  refine lv_istore (lv' := [(4, .int (nI 0)), (3, .ref z), (2, .ref (ad2 0)), (1, .ref q), (0, .ref b)]) hx hb dL_law_21 hl (by decide) rfl (fun ls hl => ?_)
  obtain ⟨ad, e1, e2, hC, hM, hap⟩ := world_of hgs hW.1 hW.2.1
  subst e1
  subst e2
  refine law_loop B hl0 hE hN hX hbl hbA hL hap ?_ (L + 5) 0 sC0 sM0 H locs _ _ ls (by omega) (by omega) ⟨hC.1, hC.2, hW.2.2⟩ ⟨hM.1, hM.2, hW.2.2⟩ rr_start (lv_sub hl [4, 3, 2, 1, 0] rfl) (Nat.le_of_ble_eq_true rfl) (Nat.le_of_ble_eq_true rfl)
  intro H1 locs1 cells1 slots1 ls1 hq hc hs
  refine lv_iconst (v := 1) hx hb dL_law_1365 (by decide) ?_
  refine W.widen (k := 601024) (n := 7293034) hc hs ?_
  refine va_forget (fun q hq' => hq q hq') ?_
  exact lw_ret (Drawn.sameBut.refl s.drawn lw_cs) hx hb hr hlocks dL_law_1366
