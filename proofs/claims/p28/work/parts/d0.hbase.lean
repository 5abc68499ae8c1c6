section DBASE
section
variable {l : Launch} {y : MethodName} {ws ws' : List Cond} {cc : ByteArray} {maxL sz : Nat} {ret : Option FieldType} {D : va_G} {N : Nat} {cf : Nat → (Nat → Int32) → va_E} {ad : Nat → Nat} {S : vS} {V : vE} {av : List Value} {rm : Room} {Qc : (Nat → Prop) → Array Value → State → Outcome → State → Prop} {XC : (Nat → Prop) → String → State → State → Prop} {mc ms : Nat} {own : String} {hh : List (Nat × Nat × Nat × Nat)}
theorem x_metT (hw : ws = Cond.codeWith y cc maxL ret hh :: ws') (hy : plainName y.cls = true ∧ y.cls = own ∧ (lg_sl av).length ≤ maxL)
    (body : ∀ (p : Program) (e : Env) (s : State) (m : MethodId) (args : Array Value) (below : List Frame) (meth : Method) (c : Code) (A : Nat → Prop) (ls : Array Slot), Cx p m c cc maxL s args ws own meth ret D → c.exceptionTable.toList = tableOf hh → Wd D N cf ad A s.heap S s.heap [] → nv V A s s.heap → lv_has ls maxL (lv_args 0 av) → ls.size = maxL →
      W p l e rm s m args below meth c s.heap [] 0 0 (vx_MQ below (Qc A) (XC A) args s mc ms A) (F0 m 0 ls [])) :
    vx_Met l y ws rm (pE D N cf ad sz V S av) (Qc (aW N ad sz)) (XC (aW N ad sz)) mc ms (aW N ad sz) := by
  refine vx_ofWH (cc := cc) (maxL := maxL) (ret := ret) (hh := hh) hy.1 hw ?_
  intro p e s m args below meth c s₁ B hml hv
  obtain ⟨rfl, ⟨hsz, hP, hK, hD0⟩, hE⟩ := hv
  have hts := atoms_spec (ws := ws) B.pre
  have htab := vx_table (x := y) B (hts _ (by rw [hw]; exact List.mem_cons_self))
  have hown : s.vm.findClass y.cls = some m.cls := findClass_of_methodNamed B.named
  rw [hy.2.1] at hown
  subst hsz
  have hl := lv_entry av (n := maxL) hy.2.2
  rw [lg_entry_eq]
  generalize (lg_sl av ++ List.replicate (maxL - (lg_sl av).length) Slot.unset).toArray = ls at hl ⊢
  refine body p e s m av.toArray below meth c _ ls ⟨⟨B.exec, B.bytes, hml, hown, hts⟩, hK, B.returns, B.notSynchronized⟩ htab ⟨hP, ⟨hD0.1, fun k q hk => ?_⟩, va_S.rf, fun q h => Or.inr h⟩ hE hl hl.1
  obtain ⟨h1, h2⟩ := wl_in hk
  exact Or.inl ⟨k, h1, by rw [h2]⟩
end
section
variable {p : Program} {l : Launch} {e : Env} {R : Room} {s : State} {m : MethodId} {args : Array Value} {below : List Frame} {meth : Method} {c : Code} {H : Heap} {locs : List Loc} {cells slots mc ms : Nat} {Q : State → Prop}
variable {cc : ByteArray} {nL : Nat} {Ts : List Cond} {own : String} {ret : Option FieldType} {D : va_G} {ad : Nat → Nat} {A : Nat → Prop} {S : vS} {V : vE} {N : Nat} {cf : Nat → (Nat → Int32) → va_E}
variable {pc : Nat} {ls : Array Slot} {rest st0 : List Value} {a : Array Value}
/-- a call that doesn't throw -/
theorem lb_any {post : Int32 → vS → Prop} {px : String → vS → Prop} (hW : Wd D N cf ad A s.heap S H locs) (hr : vx_Run p l e R s m args below meth c H locs cells slots mc ms (F0 m pc ls st0) rest (va_Qi post (bW D N cf ad (aW N ad H.size)) (aW N ad H.size) a) (xX D N cf ad (aW N ad H.size) px) (aW N ad H.size)) (hno : ∀ E S1, ¬ px E S1)
    (kk : ∀ (r : Int32) (S1 : vS) (H1 : Heap) (locs1 : List Loc), post r S1 → Wd D N cf ad A s.heap S1 H1 locs1 → W p l e R s m args below meth c H1 locs1 (cells + mc) (slots + ms) Q (F0 m (pc + 3) ls (.int r :: rest))) : W p l e R s m args below meth c H locs cells slots Q (F0 m pc ls st0) :=
  vx_calli hr hW.2.2.1 (fun q _ h => aW_A hW q h) (aW_A hW) (fun q _ h => aW_A hW q h) (fun E ce q9 u t H1 locs1 ht _ _ hB _ _ _ _ _ _ => (hno E u hB.1).elim) (fun r u t H1 locs1 ht _ hp hB _ _ hS => kk r u H1 locs1 hp (hW.back (aW_A hW) ht hB hS))
theorem lb_pure {z : Nat × Int32} {v : Int32} (hW : Wd D N cf ad A s.heap S H locs) (hr : vx_Run p l e R s m args below meth c H locs cells slots mc ms (F0 m pc ls st0) rest (va_Qi (fun (r : Int32) (S1 : vS) => (0, r) = z ∧ S1 = S) (bW D N cf ad (aW N ad H.size)) (aW N ad H.size) a) (xX D N cf ad (aW N ad H.size) (pxP z S)) (aW N ad H.size)) (hz : z = (0, v))
    (kk : ∀ (H1 : Heap) (locs1 : List Loc), Wd D N cf ad A s.heap S H1 locs1 → W p l e R s m args below meth c H1 locs1 (cells + mc) (slots + ms) Q (F0 m (pc + 3) ls (.int v :: rest))) : W p l e R s m args below meth c H locs cells slots Q (F0 m pc ls st0) := by
  refine lb_any hW hr ?_ (fun r S1 H1 locs1 hp hW1 => ?_)
  · rintro E S1 ⟨⟨k, w, hk, _, he⟩, _⟩
    rw [hz] at he
    exact hk (Prod.mk.inj he).1
  · obtain ⟨h1, h2⟩ := hp
    rw [hz] at h1
    rw [(Prod.mk.inj h1).2]
    rw [h2] at hW1
    exact kk H1 locs1 hW1
theorem lb_mut {z : (Nat × Int32) × vS} {v : Int32} {S' : vS} (hW : Wd D N cf ad A s.heap S H locs) (hr : vx_Run p l e R s m args below meth c H locs cells slots mc ms (F0 m pc ls st0) rest (va_Qi (fun (r : Int32) (S1 : vS) => ((0, r), S1) = z) (bW D N cf ad (aW N ad H.size)) (aW N ad H.size) a) (xX D N cf ad (aW N ad H.size) (pxS z)) (aW N ad H.size)) (hz : z = ((0, v), S'))
    (kk : ∀ (H1 : Heap) (locs1 : List Loc), Wd D N cf ad A s.heap S' H1 locs1 → W p l e R s m args below meth c H1 locs1 (cells + mc) (slots + ms) Q (F0 m (pc + 3) ls (.int v :: rest))) : W p l e R s m args below meth c H locs cells slots Q (F0 m pc ls st0) := by
  refine lb_any hW hr ?_ (fun r S1 H1 locs1 hp hW1 => ?_)
  · rintro E S1 ⟨k, w, hk, _, he⟩
    rw [hz] at he
    exact hk (Prod.mk.inj (Prod.mk.inj he).1).1
  · rw [hz] at hp
    obtain ⟨h1, h2⟩ := Prod.mk.inj hp
    rw [(Prod.mk.inj h1).2]
    rw [h2] at hW1
    exact kk H1 locs1 hW1
/-- a call by code 0 alone, whatever it answers -/
theorem lb_ok {z : (Nat × Int32) × vS} (hW : Wd D N cf ad A s.heap S H locs) (hr : vx_Run p l e R s m args below meth c H locs cells slots mc ms (F0 m pc ls st0) rest (va_Qi (fun (r : Int32) (S1 : vS) => ((0, r), S1) = z) (bW D N cf ad (aW N ad H.size)) (aW N ad H.size) a) (xX D N cf ad (aW N ad H.size) (pxS z)) (aW N ad H.size)) (hz : z.1.1 = 0)
    (kk : ∀ (H1 : Heap) (locs1 : List Loc), Wd D N cf ad A s.heap z.2 H1 locs1 → W p l e R s m args below meth c H1 locs1 (cells + mc) (slots + ms) Q (F0 m (pc + 3) ls (.int z.1.2 :: rest))) : W p l e R s m args below meth c H locs cells slots Q (F0 m pc ls st0) := by
  refine lb_mut hW hr (v := z.1.2) (S' := z.2) ?_ kk
  rw [← hz]
theorem lb_p {z v : Int32} (hW : Wd D N cf ad A s.heap S H locs) (hr : va_Run p l e R s m args below meth c H locs cells slots 0 0 (F0 m pc ls st0) rest (va_Qi (fun (r : Int32) (S1 : vS) => r = z ∧ S1 = S) (bW D N cf ad (aW N ad H.size)) (aW N ad H.size) a) (aW N ad H.size)) (hz : z = v)
    (kk : ∀ (H1 : Heap) (locs1 : List Loc), Wd D N cf ad A s.heap S H1 locs1 → W p l e R s m args below meth c H1 locs1 cells slots Q (F0 m (pc + 3) ls (.int v :: rest))) : W p l e R s m args below meth c H locs cells slots Q (F0 m pc ls st0) := by
  refine x_calli hW hr (fun r S1 H1 locs1 hp hW1 => ?_)
  rw [hp.1, hz]
  rw [hp.2] at hW1
  exact kk H1 locs1 hW1
theorem lb_pd {z v : UInt64} (hW : Wd D N cf ad A s.heap S H locs) (hr : va_Run p l e R s m args below meth c H locs cells slots 0 0 (F0 m pc ls st0) rest (va_Qd (fun (r : UInt64) (S1 : vS) => r = z ∧ S1 = S) (bW D N cf ad (aW N ad H.size)) (aW N ad H.size) a) (aW N ad H.size)) (hz : z = v)
    (kk : ∀ (H1 : Heap) (locs1 : List Loc), Wd D N cf ad A s.heap S H1 locs1 → W p l e R s m args below meth c H1 locs1 cells slots Q (F0 m (pc + 3) ls (.double v :: rest))) : W p l e R s m args below meth c H locs cells slots Q (F0 m pc ls st0) := by
  refine x_calld hW hr (fun r S1 H1 locs1 hp hW1 => ?_)
  rw [hp.1, hz]
  rw [hp.2] at hW1
  exact kk H1 locs1 hW1
/-- a helper of the law with a table of its own -/
theorem lb_help {post : Int32 → vS → Prop} (B : Cx p m c cc nL s args Ts own meth ret D) (hW : Wd D N cf ad A s.heap S H locs) (hE : nv V A s s.heap) {index n maxL : Nat} {y : MethodName} {bytes : ByteArray} {rt : Option FieldType} {hh : List (Nat × Nat × Nat × Nat)} {ws : List Cond} {rm : Room} {As : List Value}
    (hMet : vx_Met l y ws rm (pE D N cf ad H.size V S As) (va_Qi post (bW D N cf ad (aW N ad H.size)) (aW N ad H.size)) (xX D N cf ad (aW N ad H.size) (fun _ _ => False)) mc ms (aW N ad H.size)) (cw : vx_CSW R s args own index y bytes maxL rt hh ws rm mc ms n) (hn : As.length = n) (hl : ls.size = nL) (hr : (rest.map fun v => v.category).sum ≤ 8) (d : decode cc pc = .ok (.invokestatic index, 3)) (hf : cells + mc ≤ R.cells ∧ slots + ms ≤ R.slots)
    (kk : ∀ (r : Int32) (S1 : vS) (H1 : Heap) (locs1 : List Loc), post r S1 → Wd D N cf ad A s.heap S1 H1 locs1 → W p l e R s m args below meth c H1 locs1 (cells + mc) (slots + ms) Q (F0 m (pc + 3) ls (.int r :: rest))) : W p l e R s m args below meth c H locs cells slots Q (F0 m pc ls (As.reverse ++ rest)) :=
  lb_any hW (vx_runSX B.1 hMet cw ⟨pE_blind, pE_go B.2.1 hW hE⟩ rfl hn hl rfl (lv_room hr) d hf) (fun _ _ h => h) kk
/-- a helper of the law without one -/
theorem lb_stat {post : Int32 → vS → Prop} (B : Cx p m c cc nL s args Ts own meth ret D) (hW : Wd D N cf ad A s.heap S H locs) (hE : nv V A s s.heap) {index n maxL : Nat} {y : MethodName} {bytes : ByteArray} {rt : Option FieldType} {ws : List Cond} {rm : Room} {As : List Value}
    (hMet : vx_Met l y ws rm (pE D N cf ad H.size V S As) (va_Qi post (bW D N cf ad (aW N ad H.size)) (aW N ad H.size)) (xX D N cf ad (aW N ad H.size) (fun _ _ => False)) mc ms (aW N ad H.size)) (cw : CallB R s args own index y bytes maxL rt ws rm mc ms n ∧ (Cond.static y).before args s = true) (hn : As.length = n) (hl : ls.size = nL) (hr : (rest.map fun v => v.category).sum ≤ 8) (d : decode cc pc = .ok (.invokestatic index, 3)) (hf : cells + mc ≤ R.cells ∧ slots + ms ≤ R.slots)
    (kk : ∀ (r : Int32) (S1 : vS) (H1 : Heap) (locs1 : List Loc), post r S1 → Wd D N cf ad A s.heap S1 H1 locs1 → W p l e R s m args below meth c H1 locs1 (cells + mc) (slots + ms) Q (F0 m (pc + 3) ls (.int r :: rest))) : W p l e R s m args below meth c H locs cells slots Q (F0 m pc ls (As.reverse ++ rest)) :=
  lb_any hW (x_runSX B hW hE hMet cw hn hl hr d hf) (fun _ _ h => h) kk
end
/-- what an act leaves -/
def SO (cy : Int) (S : vS) (r : Int32) (S1 : vS) : Prop := (0 ≤ r.toInt ∧ RX (cy + 1) S1) ∨ S1 = S
theorem SO.rx {cy : Int} {S S1 : vS} {r : Int32} (h : RX cy S) (hs : SO cy S r S1) : RX (cy + 1) S1 := hs.elim (fun q => q.2) (fun q => by rw [q]; exact h.mono (by omega))
end DBASE
