section ENV
abbrev vE : Type := (Nat → Nat) × (Nat → Nat) × (Nat → Nat)
abbrev xuE : List String := ["java/lang/RuntimeException", "java/lang/Exception"]
def lnE : List Nat := [4, 4, 3, 4, 4, 5]
def byE : List (List Int32) := [[108, 111, 97, 110], [97, 119, 97, 121], [112, 97, 121], [104, 101, 108, 112], [119, 101, 101, 107], [99, 121, 99, 108, 101]]
def ixE : List (Nat × String) := [(40, "loan"), (56, "away"), (58, "pay"), (60, "help"), (62, "week"), (64, "cycle")]
def lsE (j : Nat) : Int32 := [0, 0, 1, 0].getD j 0
def msE (j : Nat) : Int32 := [50, 99, 20, 100].getD j 0
def exN (k : Nat) : String := if k = 1 then "java/lang/IllegalStateException" else if k = 2 then "java/lang/IndexOutOfBoundsException" else "java/lang/IllegalArgumentException"
def xcE : List String := ["java/lang/IllegalStateException", "java/lang/IndexOutOfBoundsException", "java/lang/IllegalArgumentException"]
def xdE : List Cond := [.declares (Bundle.initS "java/lang/RuntimeException"), .declares (Bundle.initS "java/lang/Exception"), .declares (Bundle.initS Bundle.tN)]
theorem xdE_in {w : Cond} (h : w ∈ xdE) : ∃ x, w = .declares x := by
  simp only [xdE, List.mem_cons, List.not_mem_nil, or_false] at h
  rcases h with h | h | h <;> exact ⟨_, h⟩
def xmE : List (Nat × String) := [(112, "the member has no debts"), (122, "the help cannot be granted"), (134, "there are loans or debts to the bank"), (152, "the value is out of range"), (195, "no state is saved"), (200, "there is no such property"), (211, "there is no such number"), (217, "absent or what is out of range"), (275, "there is no such member"), (278, "there is no such setting"), (280, "money is out of range"), (39, "all numbers are given"), (60, "the member cannot leave"), (68, "sum or weeks is out of range"), (77, "the member cannot borrow this"), (97, "there is no week behind this one")]
/-- what nobody writes: words, tables, strings -/
def nvH (V : vE) (A : Nat → Prop) (U : State) (H : Heap) : Prop :=
  va_T .int (V.1 0) (V.1 1) (fun j => .int (Int32.ofNat (V.2.1 j))) A U H ∧ True ∧ True ∧
  (va_Z RX4 "LEAST_SETTING" "[I" (.ref (V.2.2 0)) A U H ∧ va_T .int (V.2.2 0) 4 (fun j => .int (lsE j)) A U H) ∧ (va_Z RX4 "MOST_SETTING" "[I" (.ref (V.2.2 1)) A U H ∧ va_T .int (V.2.2 1) 4 (fun j => .int (msE j)) A U H) ∧
  vx_Zq Bundle.tN "UNASSIGNED_STACK" Bundle.steD A U H ∧ vx_Zq Bundle.tN "SUPPRESSED_SENTINEL" Bundle.listD A U H
def nvT (V : vE) (U : State) : Prop :=
  True ∧ (∀ q ∈ xmE, ∃ a, vk_R RX4 q.1 q.2 a U) ∧ (∀ X ∈ xcE, va_Nw (.castable X X) U) ∧ ∀ w ∈ xdE, va_Nw w U
def nv (V : vE) (A : Nat → Prop) (U : State) (H : Heap) : Prop := nvH V A U H ∧ nvT V U
theorem nvH.moved {V : vE} {A : Nat → Prop} {u U : State} {H : Heap} (hvm : u.vm.Alike U.vm) (h : nvH V A u H) : nvH V A U H :=
  ⟨h.1.moved hvm, trivial, trivial, ⟨h.2.2.2.1.1.moved hvm, h.2.2.2.1.2.moved hvm⟩, ⟨h.2.2.2.2.1.1.moved hvm, h.2.2.2.2.1.2.moved hvm⟩, h.2.2.2.2.2.1.moved hvm, h.2.2.2.2.2.2.moved hvm⟩
theorem nvH.kept {V : vE} {A : Nat → Prop} {U : State} {H H1 : Heap} (h : nvH V A U H) (hq : ∀ a : Nat, a < H.size → ¬ A a → H1[a]? = H[a]?) : nvH V A U H1 :=
  ⟨h.1.kept hq, trivial, trivial, ⟨h.2.2.2.1.1.kept hq, h.2.2.2.1.2.kept hq⟩, ⟨h.2.2.2.2.1.1.kept hq, h.2.2.2.2.1.2.kept hq⟩, h.2.2.2.2.2.1.kept hq, h.2.2.2.2.2.2.kept hq⟩
theorem nvH.narrow {V : vE} {A B : Nat → Prop} {U : State} {H : Heap} (h : nvH V A U H) (hAB : ∀ q, B q → A q) : nvH V B U H :=
  ⟨h.1.narrow hAB, trivial, trivial, ⟨h.2.2.2.1.1.narrow hAB, h.2.2.2.1.2.narrow hAB⟩, ⟨h.2.2.2.2.1.1.narrow hAB, h.2.2.2.2.1.2.narrow hAB⟩, h.2.2.2.2.2.1.narrow hAB, h.2.2.2.2.2.2.narrow hAB⟩
theorem nvT.warm {V : vE} {s U : State} (hW : s.WarmedH U.vm) (h : nvT V s) : nvT V U :=
  ⟨trivial, fun q hq => (h.2.1 q hq).imp fun a ha => vk_R.warm hW ha, fun X hX => va_Nw.warmC hW (h.2.2.1 X hX), fun w hw => by
    obtain ⟨x, rfl⟩ := xdE_in hw
    exact va_Nw.warmD hW (h.2.2.2 _ hw)⟩
theorem nvT.same {V : vE} {u U : State} (hv : U.vm = u.vm) (h : nvT V u) : nvT V U :=
  ⟨trivial, fun q hq => (h.2.1 q hq).imp fun a ha => vk_R.same hv ha, fun X hX => va_Nw.same rfl hv.symm (h.2.2.1 X hX), fun w hw => by
    obtain ⟨x, rfl⟩ := xdE_in hw
    exact va_Nw.same rfl hv.symm (h.2.2.2 _ hw)⟩
theorem nv.go {V : vE} {A B : Nat → Prop} {s U : State} {H0 H : Heap} (h : nv V A s H0) (hq : ∀ a : Nat, a < H0.size → ¬ A a → H[a]? = H0[a]?) (hAB : ∀ q, B q → A q) (hU : U.heap = H) (hW : s.WarmedH U.vm) : nv V B U U.heap := by
  rw [hU]
  exact ⟨((h.1.kept hq).moved hW.alike).narrow hAB, h.2.warm hW⟩
def pE (D : va_G) (N : Nat) (cf : Nat → (Nat → Int32) → va_E) (ad : Nat → Nat) (sz : Nat) (V : vE) (S : vS) (av : List Value) : Array Value → State → Prop := va_Pc av (fun U => (U.heap.size = sz ∧ va_P D vwCl (wl N cf ad S) U.heap ∧ kC D U ∧ va_D (fun _ => True) (wl N cf ad S)) ∧ nv V (aW N ad sz) U U.heap)
def xX (D : va_G) (N : Nat) (cf : Nat → (Nat → Int32) → va_E) (ad : Nat → Nat) (A : Nat → Prop) (px : String → vS → Prop) : String → State → State → Prop := vx_X (fun _ : vS => True) (fun E u t => px E u ∧ bW D N cf ad A u t) A
def rmX (d k : Nat) : Room := { frames := d, cells := k, slots := 6 * k, locals := 35 * d }
def tb {α β : Type} (d : β) (z : (Nat × α) × vS) (f : α → vS → (Nat × β) × vS) : (Nat × β) × vS := if z.1.1 = 0 then f z.1.2 z.2 else ((z.1.1, d), z.2)
theorem tb_ok {α β : Type} {d : β} {z0 : (Nat × β) × vS} {p : (Nat × α) × vS} {f : α → vS → (Nat × β) × vS} {r : α} {S1 : vS} (h : z0 = tb d p f) (e : ((0, r), S1) = p) : z0 = f r S1 := by
  rw [h, ← e]
  rfl
theorem tb_ex {α β : Type} {d : β} {z0 : (Nat × β) × vS} {p : (Nat × α) × vS} {f : α → vS → (Nat × β) × vS} {k : Nat} {r : α} {S1 : vS} (h : z0 = tb d p f) (e : ((k, r), S1) = p) (hk : k ≠ 0) : z0 = ((k, d), S1) := by
  rw [h, ← e]
  unfold tb
  rw [if_neg hk]
end ENV
section ENVROWS
variable {p : Program} {l : Launch} {e : Env} {R : Room} {s : State} {m : MethodId} {args : Array Value} {below : List Frame} {meth : Method} {c : Code} {H : Heap} {locs : List Loc} {cells slots : Nat} {Q : State → Prop}
variable {cc : ByteArray} {nL : Nat} {Ts : List Cond} {own : String} {ret : Option FieldType} {D : va_G} {N : Nat} {cf : Nat → (Nat → Int32) → va_E} {ad : Nat → Nat} {A : Nat → Prop} {S : vS} {V : vE}
variable {pc : Nat} {ls : Array Slot} {rest : List Value}
theorem w_widen {g : JFrame} {k n : Nat} (h1 : cells ≤ k) (h2 : slots ≤ n) (kk : W p l e R s m args below meth c H locs k n Q g) : W p l e R s m args below meth c H locs cells slots Q g := fun T hT X => kk T hT (stand_widen X h1 h2)
theorem pE_blind {sz : Nat} {av : List Value} : FrameBlind (pE D N cf ad sz V S av) := fun a U g mk q => ⟨q.1, ⟨q.2.1.1, q.2.1.2.1, q.2.1.2.2.1.call, q.2.1.2.2.2⟩, nvH.moved (u := U) (U := U.calling g mk a) (Vm.Alike.refl U.vm) q.2.2.1, nvT.same (u := U) (U := U.calling g mk a) rfl q.2.2.2⟩
theorem pE_go (hk : kC D s) (hW : Wd D N cf ad A s.heap S H locs) (hE : nv V A s s.heap) {av : List Value} : ∀ U : State, U.heap = H → s.WarmedH U.vm → pE D N cf ad H.size V S av av.toArray U := fun U hU h => ⟨rfl, ⟨by rw [hU], by rw [hU]; exact hW.1, hk.warm h, hW.2.1.weaken (fun _ _ _ _ => trivial)⟩, hE.go hW.2.2.1.2.1 (aW_A hW) hU h⟩
theorem x_runVE (B : Cx p m c cc nL s args Ts own meth ret D) (hW : Wd D N cf ad A s.heap S H locs) (hE : nv V A s s.heap) {q ci : Nat} {fs : List Value} {C : String} {T : u_T} {NN : Nat} (hq : q < N) (he : cf q (S q) = .inr (ci, fs)) (hc : ClsOK ci C T NN) {index n maxL : Nat} {y : MethodName} {bytes : ByteArray} {rt : Option FieldType} {ws : List Cond} {rm : Room} {Qc : Array Value → State → Outcome → State → Prop} {free : Addr → Prop} {As : List Value}
    (hM : Met l y ws rm (pE D N cf ad H.size V S (.ref (ad q) :: As)) Qc 0 0 free) (cw : CallW R s args own C index y bytes maxL rt ws rm 0 0 n) (hn : As.length = n) (hl : ls.size = nL) (hr : (rest.map fun v => v.category).sum ≤ 8) (d : decode cc pc = .ok (.invokevirtual index, 3)) (hf : cells ≤ R.cells ∧ slots ≤ R.slots) :
    va_Run p l e R s m args below meth c H locs cells slots 0 0 (F0 m pc ls (As.reverse ++ .ref (ad q) :: rest)) rest (Qc (Value.ref (ad q) :: As).toArray) free :=
  va_runV B.1 hM cw ⟨pE_blind, va_recv B.2.1.1 hW.1 hc.1 (by rw [wl_get hq, he]), pE_go B.2.1 hW hE⟩ rfl hn hl rfl (lv_room hr) d hf
theorem x_runVNE (B : Cx p m c cc nL s args Ts own meth ret D) (hW : Wd D N cf ad A s.heap S H locs) (hE : nv V A s s.heap) {q ci : Nat} {fs : List Value} {C host : String} {T : u_T} {NN : Nat} (hq : q < N) (he : cf q (S q) = .inr (ci, fs)) (hc : ClsOK ci C T NN) {index n maxL : Nat} {y : MethodName} {bytes : ByteArray} {rt : Option FieldType} {ws : List Cond} {rm : Room} {Qc : Array Value → State → Outcome → State → Prop} {free : Addr → Prop} {As : List Value}
    (hM : Met l y ws rm (pE D N cf ad H.size V S (.ref (ad q) :: As)) Qc 0 0 free) (cw : va_CN R s args own index y host bytes maxL rt ws rm 0 0 n ∧ (Cond.instanceMethod y).before args s = true ∧ (Cond.selects C y y).before args s = true) (hn : As.length = n) (hl : ls.size = nL) (hr : (rest.map fun v => v.category).sum ≤ 8) (d : decode cc pc = .ok (.invokevirtual index, 3)) (hf : cells ≤ R.cells ∧ slots ≤ R.slots) :
    va_Run p l e R s m args below meth c H locs cells slots 0 0 (F0 m pc ls (As.reverse ++ .ref (ad q) :: rest)) rest (Qc (Value.ref (ad q) :: As).toArray) free :=
  va_runVN B.1 hM cw ⟨pE_blind, va_recv B.2.1.1 hW.1 hc.1 (by rw [wl_get hq, he]), pE_go B.2.1 hW hE⟩ rfl hn hl rfl (lv_room hr) d hf
theorem x_runSE (B : Cx p m c cc nL s args Ts own meth ret D) (hW : Wd D N cf ad A s.heap S H locs) (hE : nv V A s s.heap) {index n maxL : Nat} {y : MethodName} {bytes : ByteArray} {rt : Option FieldType} {ws : List Cond} {rm : Room} {Qc : Array Value → State → Outcome → State → Prop} {free : Addr → Prop} {As : List Value}
    (hM : Met l y ws rm (pE D N cf ad H.size V S As) Qc 0 0 free) (cw : CallB R s args own index y bytes maxL rt ws rm 0 0 n ∧ (Cond.static y).before args s = true) (hn : As.length = n) (hl : ls.size = nL) (hr : (rest.map fun v => v.category).sum ≤ 8) (d : decode cc pc = .ok (.invokestatic index, 3)) (hf : cells ≤ R.cells ∧ slots ≤ R.slots) :
    va_Run p l e R s m args below meth c H locs cells slots 0 0 (F0 m pc ls (As.reverse ++ rest)) rest (Qc As.toArray) free :=
  va_runS B.1 hM cw ⟨pE_blind, pE_go B.2.1 hW hE⟩ rfl hn hl rfl (lv_room hr) d hf
end ENVROWS
section ENVSTARTS
variable {l : Launch} {y : MethodName} {ws ws' : List Cond} {cc : ByteArray} {maxL sz : Nat} {ret : Option FieldType} {D : va_G} {N : Nat} {cf : Nat → (Nat → Int32) → va_E} {ad : Nat → Nat} {S : vS} {V : vE} {av : List Value} {rm : Room} {Qc : (Nat → Prop) → Array Value → State → Outcome → State → Prop} {XC : (Nat → Prop) → String → State → State → Prop} {mc ms : Nat} {own : String}
theorem x_metE (hw : ws = Cond.code y cc maxL ret :: ws') (hy : plainFor y = true ∧ y.cls = own ∧ (lg_sl av).length ≤ maxL)
    (body : ∀ (p : Program) (e : Env) (s : State) (m : MethodId) (args : Array Value) (below : List Frame) (meth : Method) (c : Code) (A : Nat → Prop) (ls : Array Slot), Cx p m c cc maxL s args ws own meth ret D → Wd D N cf ad A s.heap S s.heap [] → nv V A s s.heap → lv_has ls maxL (lv_args 0 av) → ls.size = maxL →
      W p l e rm s m args below meth c s.heap [] 0 0 (MQ below (Qc A) args s 0 0 A) (F0 m 0 ls [])) :
    Met l y ws rm (pE D N cf ad sz V S av) (Qc (aW N ad sz)) 0 0 (aW N ad sz) := by
  refine x_ofWF (cc := cc) (maxL := maxL) (ret := ret) hy.1 hw ?_
  intro p e s m args below meth c s₁ B hml hv
  obtain ⟨rfl, ⟨hsz, hP, hK, hD0⟩, hE⟩ := hv
  have hts := atoms_spec (ws := ws) B.pre
  have hown : s.vm.findClass y.cls = some m.cls := findClass_of_methodNamed B.named
  rw [hy.2.1] at hown
  subst hsz
  have hl := lv_entry av (n := maxL) hy.2.2
  rw [lg_entry_eq]
  generalize (lg_sl av ++ List.replicate (maxL - (lg_sl av).length) Slot.unset).toArray = ls at hl ⊢
  refine body p e s m av.toArray below meth c _ ls ⟨⟨B.exec, B.bytes, hml, hown, hts⟩, hK, B.returns, B.notSynchronized⟩ ⟨hP, ⟨hD0.1, fun k q hk => ?_⟩, va_S.rf, fun q h => Or.inr h⟩ hE hl hl.1
  obtain ⟨h1, h2⟩ := wl_in hk
  exact Or.inl ⟨k, h1, by rw [h2]⟩
theorem x_metX (hw : ws = Cond.code y cc maxL ret :: ws') (hy : plainName y.cls = true ∧ y.cls = own ∧ (lg_sl av).length ≤ maxL)
    (body : ∀ (p : Program) (e : Env) (s : State) (m : MethodId) (args : Array Value) (below : List Frame) (meth : Method) (c : Code) (A : Nat → Prop) (ls : Array Slot), Cx p m c cc maxL s args ws own meth ret D → (∀ x ∈ c.exceptionTable.toList, False) → Wd D N cf ad A s.heap S s.heap [] → nv V A s s.heap → lv_has ls maxL (lv_args 0 av) → ls.size = maxL →
      W p l e rm s m args below meth c s.heap [] 0 0 (vx_MQ below (Qc A) (XC A) args s mc ms A) (F0 m 0 ls [])) :
    vx_Met l y ws rm (pE D N cf ad sz V S av) (Qc (aW N ad sz)) (XC (aW N ad sz)) mc ms (aW N ad sz) := by
  refine vx_ofW (cc := cc) (maxL := maxL) (ret := ret) hy.1 hw ?_
  intro p e s m args below meth c s₁ B hml htab hv
  obtain ⟨rfl, ⟨hsz, hP, hK, hD0⟩, hE⟩ := hv
  have hts := atoms_spec (ws := ws) B.pre
  have hown : s.vm.findClass y.cls = some m.cls := findClass_of_methodNamed B.named
  rw [hy.2.1] at hown
  subst hsz
  have hl := lv_entry av (n := maxL) hy.2.2
  rw [lg_entry_eq]
  generalize (lg_sl av ++ List.replicate (maxL - (lg_sl av).length) Slot.unset).toArray = ls at hl ⊢
  refine body p e s m av.toArray below meth c _ ls ⟨⟨B.exec, B.bytes, hml, hown, hts⟩, hK, B.returns, B.notSynchronized⟩ htab ⟨hP, ⟨hD0.1, fun k q hk => ?_⟩, va_S.rf, fun q h => Or.inr h⟩ hE hl hl.1
  obtain ⟨h1, h2⟩ := wl_in hk
  exact Or.inl ⟨k, h1, by rw [h2]⟩
end ENVSTARTS
