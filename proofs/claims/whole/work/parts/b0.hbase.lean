section HBASE
def NcT (U : State) : Prop := va_Nc "java/lang/IllegalArgumentException" "java/lang/IndexOutOfBoundsException" U ∧ va_Nc "java/lang/IllegalStateException" "java/lang/IndexOutOfBoundsException" U ∧ va_Nc "java/lang/IllegalStateException" "java/lang/IllegalArgumentException" U
theorem NcT.moved {u U : State} (hvm : u.vm.Alike U.vm) (h : NcT u) : NcT U := ⟨h.1.moved hvm, h.2.1.moved hvm, h.2.2.moved hvm⟩
/-- where a helper of the law begins -/
def pH (D : va_G) (N : Nat) (cf : Nat → (Nat → Int32) → va_E) (ad : Nat → Nat) (sz : Nat) (V : vE) (S : vS) (av : List Value) : Array Value → State → Prop := va_Pc av (fun U => ((U.heap.size = sz ∧ va_P D vwCl (wl N cf ad S) U.heap ∧ kC D U ∧ va_D (fun _ => True) (wl N cf ad S)) ∧ nv V (aW N ad sz) U U.heap) ∧ NcT U)
/-- what a helper leaves -/
def hL (mp : Nat → Int32) (z : (Nat × Int32) × vS) : Int32 × vS := if z.1.1 = 0 then (0, st z.2 oL 0 z.1.2) else (mp z.1.1, z.2)
section
variable {l : Launch} {y : MethodName} {ws ws' : List Cond} {cc : ByteArray} {maxL sz : Nat} {ret : Option FieldType} {D : va_G} {N : Nat} {cf : Nat → (Nat → Int32) → va_E} {ad : Nat → Nat} {S : vS} {V : vE} {av : List Value} {rm : Room} {Qc : (Nat → Prop) → Array Value → State → Outcome → State → Prop} {XC : (Nat → Prop) → String → State → State → Prop} {mc ms : Nat} {own : String} {hh : List (Nat × Nat × Nat × Nat)}
theorem pH_blind : FrameBlind (pH D N cf ad sz V S av) := fun a U g mk q => ⟨q.1, (pE_blind (D := D) (N := N) (cf := cf) (ad := ad) (S := S) (V := V) (sz := sz) (av := av) a U g mk ⟨q.1, q.2.1⟩).2, q.2.2.moved (U := U.calling g mk a) (Vm.Alike.refl U.vm)⟩
theorem pH_go {A : Nat → Prop} {s : State} {H : Heap} {locs : List Loc} (hk : kC D s) (hW : Wd D N cf ad A s.heap S H locs) (hE : nv V A s s.heap) (hN : NcT s) : ∀ U : State, U.heap = H → s.WarmedH U.vm → pH D N cf ad H.size V S av av.toArray U := fun U hU h => ⟨rfl, (pE_go hk hW hE (av := av) U hU h).2, hN.moved h.alike⟩
theorem x_metH (hw : ws = Cond.codeWith y cc maxL ret hh :: ws') (hy : plainName y.cls = true ∧ y.cls = own ∧ (lg_sl av).length ≤ maxL)
    (body : ∀ (p : Program) (e : Env) (s : State) (m : MethodId) (args : Array Value) (below : List Frame) (meth : Method) (c : Code) (A : Nat → Prop) (ls : Array Slot), Cx p m c cc maxL s args ws own meth ret D → c.exceptionTable.toList = tableOf hh → Wd D N cf ad A s.heap S s.heap [] → nv V A s s.heap → NcT s → lv_has ls maxL (lv_args 0 av) → ls.size = maxL →
      W p l e rm s m args below meth c s.heap [] 0 0 (vx_MQ below (Qc A) (XC A) args s mc ms A) (F0 m 0 ls [])) :
    vx_Met l y ws rm (pH D N cf ad sz V S av) (Qc (aW N ad sz)) (XC (aW N ad sz)) mc ms (aW N ad sz) := by
  refine vx_ofWH (cc := cc) (maxL := maxL) (ret := ret) (hh := hh) hy.1 hw ?_
  intro p e s m args below meth c s₁ B hml hv
  obtain ⟨rfl, ⟨⟨hsz, hP, hK, hD0⟩, hE⟩, hN⟩ := hv
  have hts := atoms_spec (ws := ws) B.pre
  have htab := vx_table (x := y) B (hts _ (by rw [hw]; exact List.mem_cons_self))
  have hown : s.vm.findClass y.cls = some m.cls := findClass_of_methodNamed B.named
  rw [hy.2.1] at hown
  subst hsz
  have hl := lv_entry av (n := maxL) hy.2.2
  rw [lg_entry_eq]
  generalize (lg_sl av ++ List.replicate (maxL - (lg_sl av).length) Slot.unset).toArray = ls at hl ⊢
  refine body p e s m av.toArray below meth c _ ls ⟨⟨B.exec, B.bytes, hml, hown, hts⟩, hK, B.returns, B.notSynchronized⟩ htab ⟨hP, ⟨hD0.1, fun k q hk => ?_⟩, va_S.rf, fun q h => Or.inr h⟩ hE hN hl hl.1
  obtain ⟨h1, h2⟩ := wl_in hk
  exact Or.inl ⟨k, h1, by rw [h2]⟩
end
section
variable {p : Program} {l : Launch} {e : Env} {R : Room} {s : State} {m : MethodId} {args : Array Value} {below : List Frame} {meth : Method} {c : Code} {H : Heap} {locs : List Loc} {cells slots : Nat} {Q : State → Prop}
variable {cc : ByteArray} {nL : Nat} {Ts : List Cond} {own : String} {ret : Option FieldType} {D : va_G} {ad : Nat → Nat} {A : Nat → Prop} {S : vS} {H0 : Heap}
variable {pc : Nat} {ls : Array Slot} {rest : List Value}
theorem oL_st (D : va_G) (ad : Nat → Nat) (S : vS) (x : Int32) : cC D ad oL (upd (S oL) 0 x) = Sum.inl (D.1 14, 1, .inr (.inl (vp_updL (fun j => (S oL j).toInt64) 0 x.toInt64))) := by
  have h : (fun j => (upd (S oL) 0 x j).toInt64) = vp_updL (fun j => (S oL j).toInt64) 0 x.toInt64 := by
    funext j
    unfold upd vp_updL
    by_cases h : j = 0
    · rw [if_pos h, if_pos h]
    · rw [if_neg h, if_neg h]
  rw [cC_o, h]
/-- out[0] is written -/
theorem x_last (B : Cx p m c cc nL s args Ts own meth ret D) (hW : Wd D 158 (cC D ad) ad A H0 S H locs) {x : Int32} (d : decode cc pc = .ok (.lastore, 1))
    (kk : ∀ (H1 : Heap) (locs1 : List Loc) (S1 : vS), S1 = st S oL 0 x → Wd D 158 (cC D ad) ad A H0 S1 H1 locs1 → W p l e R s m args below meth c H1 locs1 cells slots Q (F0 m (pc + 1) ls rest)) : W p l e R s m args below meth c H locs cells slots Q (F0 m pc ls (.long x.toInt64 :: .int 0 :: .ref (ad oL) :: rest)) := by
  refine va_last (f := fun j => (S oL j).toInt64) B.1.1 B.1.2.1 B.2.1.1 hW.1 hW.2.1 hW.2.2.1 oL 4 (by rw [wl_get hqo, cC_o]) rfl (vp_in_nI (n := 0) (N := 1) (by decide) (by decide)) d (fun H1 locs1 hP hD hS => ?_)
  have e : (0 : Int32).toNatClampNeg = 0 := by decide
  rw [e, ← oL_st D ad S x, wl_set hqo] at hP hD
  exact kk H1 locs1 _ rfl ⟨hP, hD, hS, hW.2.2.2⟩
/-- out[0] is read -/
theorem x_lald (B : Cx p m c cc nL s args Ts own meth ret D) (hW : Wd D 158 (cC D ad) ad A H0 S H locs) (d : decode cc pc = .ok (.laload, 1))
    (kk : W p l e R s m args below meth c H locs cells slots Q (F0 m (pc + 1) ls (.long (S oL 0).toInt64 :: rest))) : W p l e R s m args below meth c H locs cells slots Q (F0 m pc ls (.int 0 :: .ref (ad oL) :: rest)) :=
  va_lald (f := fun j => (S oL j).toInt64) B.1.1 B.1.2.1 B.2.1.1 hW.1 oL 4 (by rw [wl_get hqo, cC_o]) rfl (vp_in_nI (n := 0) (N := 1) (by decide) (by decide)) d kk
end
end HBASE
