section CTOR
/-- a list of cells at a point of a walk -/
def LW (D : va_G) (A : Nat → Prop) (H0 : Heap) (ws : va_W) (H : Heap) (locs : List Loc) : Prop := va_P D vwCl ws H ∧ va_D A ws ∧ va_S A H0 H locs ∧ ∀ q : Nat, H0.size ≤ q → A q
def aoC (U : State) : Prop := va_AO RX2 U ∧ va_AO RX0 U
def aI (sz o : Nat) : Nat → Prop := fun q => q = o ∨ sz ≤ q
def pI (D : va_G) (sz o : Nat) (e : va_E) (av : List Value) : Array Value → State → Prop := va_Pc (.ref o :: av) (fun U => U.heap.size = sz ∧ va_P D vwCl [(o, e)] U.heap ∧ kC D U ∧ aoC U ∧ o < sz)
def bI (D : va_G) (A : Nat → Prop) : va_W → State → Prop := fun u t => va_P D vwCl u t.heap ∧ va_D A u
def rmK (d c s : Nat) : Room := { frames := d, cells := c, slots := s, locals := 35 * d }
theorem tys_one {D : va_G} {s : State} {cA : ClassId} {ty : FieldType} {k : Nat} {cT : ClassId} (hK : va_K D vwCl (tysC D ++ [(cA, ty)]) s) (hk : (tysC D)[k]? = some (cT, ty)) : cA = cT := by
  have hkl : k < (tysC D).length := (List.getElem?_eq_some_iff.mp hk).1
  have h1 := (hK.2 k (cT, ty) (by rw [List.getElem?_append_left hkl]; exact hk)).2
  have h2 := (hK.2 (tysC D).length (cA, ty) (by rw [List.getElem?_append_right (Nat.le_refl _), Nat.sub_self]; rfl)).2
  cases ty with
  | object C =>
    obtain ⟨_, _, -, -, -, h3⟩ := h1
    obtain ⟨_, _, -, -, -, h4⟩ := h2
    exact Option.some.inj (h4.symm.trans h3)
  | _ => exact Option.some.inj (Eq.trans (Eq.symm h2) h1)
theorem LW.merge {D : va_G} {A : Nat → Prop} {H0 : Heap} {ws : va_W} {H : Heap} {locs : List Loc} (h : LW D A H0 ws H locs) {i o : Nat} {e e1 : va_E} {new : va_W} {H1 : Heap} {locs1 : List Loc} (hi : ws[i]? = some (o, e)) (hP : va_P D vwCl ((o, e1) :: new) H1) (hD : va_D (aI H.size o) ((o, e1) :: new)) (hfr : ∀ q : Nat, q < H.size → ¬ aI H.size o q → H1[q]? = H[q]?) (hS : va_S A H0 H1 locs1) : LW D A H0 (ws.set i (o, e1) ++ new) H1 locs1 := by
  have hil : i < ws.length := (List.getElem?_eq_some_iff.mp hi).1
  have hset : ∀ (k : Nat) (q : Nat × va_E), (ws.set i (o, e1))[k]? = some q → (k = i ∧ q = (o, e1)) ∨ (k ≠ i ∧ ws[k]? = some q) := by
    intro k q hk
    by_cases e : k = i
    · subst e
      rw [List.getElem?_set_self hil] at hk
      exact Or.inl ⟨rfl, (Option.some.inj hk).symm⟩
    · rw [List.getElem?_set_ne (Ne.symm e)] at hk
      exact Or.inr ⟨e, hk⟩
  have hlen : (ws.set i (o, e1)).length = ws.length := List.length_set
  have hold : ∀ (k : Nat) (q : Nat × va_E), ws[k]? = some q → q.1 < H.size := fun k q hk => vx_lt h.1 hk
  have hnew : ∀ (k : Nat) (q : Nat × va_E), new[k]? = some q → H.size ≤ q.1 := by
    intro k q hk
    rcases hD.2 (k + 1) q hk with e | e
    · exact absurd (hD.1 (k + 1) 0 q (o, e1) hk rfl e) (by omega)
    · exact e
  have hsp : ∀ (k : Nat) (q : Nat × va_E), (ws.set i (o, e1) ++ new)[k]? = some q → (k = i ∧ q = (o, e1)) ∨ (k ≠ i ∧ ws[k]? = some q) ∨ (ws.length ≤ k ∧ new[k - ws.length]? = some q) := by
    intro k q hk
    rcases Nat.lt_or_ge k ws.length with hl | hl
    · rw [List.getElem?_append_left (by rw [hlen]; exact hl)] at hk
      rcases hset k q hk with h1 | h1
      · exact Or.inl h1
      · exact Or.inr (Or.inl h1)
    · rw [List.getElem?_append_right (by rw [hlen]; exact hl), hlen] at hk
      exact Or.inr (Or.inr ⟨hl, hk⟩)
  have hio : ∀ (k : Nat) (q : Nat × va_E), k ≠ i → ws[k]? = some q → q.1 ≠ o := fun k q hk hq e9 => hk (h.2.1.1 k i q (o, e) hq hi e9)
  refine ⟨fun k q hk => ?_, ⟨fun k j p q hp hq e => ?_, fun k q hk => ?_⟩, hS, h.2.2.2⟩
  · rcases hsp k q hk with ⟨-, rfl⟩ | ⟨h1, h2⟩ | ⟨h1, h2⟩
    · exact hP 0 _ rfl
    · refine (h.1 k q h2).kept (hfr _ (hold k q h2) ?_)
      rintro (e | e)
      · exact hio k q h1 h2 e
      · exact absurd (hold k q h2) (by omega)
    · exact hP (k - ws.length + 1) q h2
  · rcases hsp k p hp with ⟨rfl, rfl⟩ | ⟨h1, h2⟩ | ⟨h1, h2⟩ <;> rcases hsp j q hq with ⟨rfl, rfl⟩ | ⟨h3, h4⟩ | ⟨h3, h4⟩
    · rfl
    · exact absurd e.symm (hio j q h3 h4)
    · have := hnew _ _ h4
      have := hold _ _ hi
      simp only at *
      omega
    · exact absurd e (hio k p h1 h2)
    · exact h.2.1.1 k j p q h2 h4 e
    · have := hnew _ _ h4
      have := hold _ _ h2
      omega
    · have := hnew _ _ h2
      have := hold _ _ hi
      simp only at *
      omega
    · have := hnew _ _ h2
      have := hold _ _ h4
      omega
    · have := hD.1 (k - ws.length + 1) (j - ws.length + 1) p q h2 h4 e
      omega
  · rcases hsp k q hk with ⟨-, rfl⟩ | ⟨h1, h2⟩ | ⟨h1, h2⟩
    · exact h.2.1.2 i (o, e) hi
    · exact h.2.1.2 k q h2
    · exact h.2.2.2 _ (Nat.le_trans h.2.2.1.1 (hnew _ _ h2))
end CTOR
section CTORROWS
variable {p : Program} {l : Launch} {e : Env} {R : Room} {s : State} {m : MethodId} {args : Array Value} {below : List Frame} {meth : Method} {c : Code} {H : Heap} {locs : List Loc} {cells slots : Nat} {Q : State → Prop}
variable {cc : ByteArray} {nL : Nat} {Ts : List Cond} {own : String} {ret : Option FieldType} {D : va_G} {A : Nat → Prop} {H0 : Heap} {ws : va_W}
variable {pc : Nat} {ls : Array Slot} {rest : List Value}
theorem l_newa (B : Cx p m c cc nL s args Ts own meth ret D) (hL : LW D A H0 ws H locs) {atype : ArrayType} (harr : (Cond.arrayClass (newarray.typeOf atype)).before args s = true) {ty : FieldType} (hty : newarray.typeOf atype = ty) {k : Nat} {cT : ClassId} (hk : (tysC D)[k]? = some (cT, ty))
    {n : Int32} {N' : Nat} {a0 : vp_A} (ha : ∀ cA : ClassId, vp_cell cA a0 = arrV cA N' (fun _ => defaultValue ty)) (hn : ¬ n < 0 ∧ n.toNatClampNeg = N') (hbytes : N' * componentBytes ty ≤ 536870912) (hroom : cells + 1 ≤ R.cells ∧ slots + N' ≤ R.slots) (hdg : decode cc pc = .ok (.newarray atype, 2))
    (kk : ∀ (q : Nat) (H1 : Heap), LW D A H0 (ws ++ [(q, .inl (cT, a0))]) H1 locs → W p l e R s m args below meth c H1 locs (cells + 1) (slots + N') Q (F0 m (pc + 2) ls (.ref q :: rest))) : W p l e R s m args below meth c H locs cells slots Q (F0 m pc ls (.int n :: rest)) := by
  refine va_newa B.1.1 B.1.2.1 harr hty B.2.1.1 hL.1 hL.2.1 hL.2.2.1 hL.2.2.2 ha hn.1 hn.2 hbytes hroom.1 hroom.2 hdg (fun q cA H1 hK hP hD hS => ?_)
  have hc := tys_one hK hk
  subst hc
  exact kk q H1 ⟨hP, hD, hS, hL.2.2.2⟩
theorem l_newq (B : Cx p m c cc nL s args Ts own meth ret D) (hL : LW D A H0 ws H locs) {C : String} {index : Nat} (hlink : (Cond.classLink own index C).before args s = true) (hover : va_AO C s) {k : Nat} {cT : ClassId} (hk : (tysC D)[k]? = some (cT, .object C))
    {n : Int32} {N' : Nat} (hn : ¬ n < 0 ∧ n.toNatClampNeg = N') (hbytes : N' * 4 ≤ 536870912) (hroom : cells + 1 ≤ R.cells ∧ slots + N' ≤ R.slots) (hdg : decode cc pc = .ok (.anewarray index, 3))
    (kk : ∀ (q : Nat) (H1 : Heap), LW D A H0 (ws ++ [(q, .inl (cT, N', .inr (.inr (.inr (.inr (fun _ => none))))))]) H1 locs → W p l e R s m args below meth c H1 locs (cells + 1) (slots + N') Q (F0 m (pc + 3) ls (.ref q :: rest))) : W p l e R s m args below meth c H locs cells slots Q (F0 m pc ls (.int n :: rest)) := by
  refine va_newq B.1.1 B.1.2.1 B.1.2.2.2.1 hlink hover B.2.1.1 hL.1 hL.2.1 hL.2.2.1 hL.2.2.2 hn.1 hn.2 hbytes hroom.1 hroom.2 hdg (fun q cA H1 hK hP hD hS => ?_)
  have hc := tys_one hK hk
  subst hc
  exact kk q H1 ⟨hP, hD, hS, hL.2.2.2⟩
theorem l_new (B : Cx p m c cc nL s args Ts own meth ret D) (hL : LW D A H0 ws H locs) {C : String} {T : u_T} {NN ci index : Nat} (hc : ClsOK ci C T NN) (hin : ∀ w ∈ u_ws C T NN, w ∈ Ts) (ty : Nat → FieldType) (hty : ∀ k, k < NN → parseFieldDescriptor (T k).2.2.1 = some (ty k)) (hcl : (Cond.classLink own index C).before args s = true) (hinst : (Cond.instantiable C NN).before args s = true) (hini : (Cond.initialized C).before args s = true)
    {fs : List Value} (hfs : ∀ j, j < NN → defaultValue (ty j) = vp_V fs j) (hroom : cells + 1 ≤ R.cells ∧ slots + NN ≤ R.slots) (hdg : decode cc pc = .ok (.new index, 3))
    (kk : ∀ (q : Nat) (H1 : Heap), LW D A H0 (ws ++ [(q, .inr (ci, fs))]) H1 locs → W p l e R s m args below meth c H1 locs (cells + 1) (slots + NN) Q (F0 m (pc + 3) ls (.ref q :: rest))) : W p l e R s m args below meth c H locs cells slots Q (F0 m pc ls rest) :=
  va_new B.1.1 B.1.2.1 B.1.2.2.2.2 hin ty hty B.1.2.2.2.1 hcl hinst hini B.2.1.1 hL.1 hL.2.1 hL.2.2.1 hL.2.2.2 hc.1 hfs hroom.1 hroom.2 hdg (fun q H1 hP hD hS => kk q H1 ⟨hP, hD, hS, hL.2.2.2⟩)
theorem l_putF (B : Cx p m c cc nL s args Ts own meth ret D) (hL : LW D A H0 ws H locs) (hnm : meth.name = "<init>") {o ci : Nat} {fs : List Value} {C : String} {T : u_T} {NN : Nat} (i : Nat) (he : ws[i]? = some (o, .inr (ci, fs))) (hc : ClsOK ci C T NN) (hin : ∀ w ∈ u_ws C T NN, w ∈ Ts) (k : Nat) (hk : k < NN) (hfin : (T k).2.2.2 = true) (hdecl : (T k).1 = own) {ty : FieldType} {v : Value} (hd : parseFieldDescriptor (T k).2.2.1 = some ty) (hn : narrow ty v = v) (hfit : fits ty v = true) (hl : k < fs.length) {index : Nat}
    (hlink : (Cond.fieldLink own index (T k).1 (T k).2.1 (T k).2.2.1).before args s = true) (d : decode cc pc = .ok (.putfield index, 3))
    (kk : ∀ (H1 : Heap) (locs1 : List Loc), LW D A H0 (ws.set i (o, .inr (ci, fs.set k v))) H1 locs1 → W p l e R s m args below meth c H1 locs1 cells slots Q (F0 m (pc + 3) ls rest)) : W p l e R s m args below meth c H locs cells slots Q (F0 m pc ls (v :: .ref o :: rest)) := by
  obtain ⟨hc1, hnm1, ty0, hty⟩ := hc
  exact va_putF B.1.1 B.1.2.1 B.1.2.2.2.2 hin ty0 hty hnm1 B.1.2.2.2.1 B.2.1.1 hL.1 hL.2.1 hL.2.2.1 i he hc1 k hk hlink (fun _ h => h) hfin hnm hdecl hd hn hfit hl d (fun H1 locs1 hP hD hS => kk H1 locs1 ⟨hP, hD, hS, hL.2.2.2⟩)
theorem l_put (B : Cx p m c cc nL s args Ts own meth ret D) (hL : LW D A H0 ws H locs) {o ci : Nat} {fs : List Value} {C : String} {T : u_T} {NN : Nat} (i : Nat) (he : ws[i]? = some (o, .inr (ci, fs))) (hc : ClsOK ci C T NN) (hin : ∀ w ∈ u_ws C T NN, w ∈ Ts) (k : Nat) (hk : k < NN) (hfin : (T k).2.2.2 = false) {ty : FieldType} {v : Value} (hd : parseFieldDescriptor (T k).2.2.1 = some ty) (hn : narrow ty v = v) (hfit : fits ty v = true) (hl : k < fs.length) {index : Nat}
    (hlink : (Cond.fieldLink own index (T k).1 (T k).2.1 (T k).2.2.1).before args s = true) (d : decode cc pc = .ok (.putfield index, 3))
    (kk : ∀ (H1 : Heap) (locs1 : List Loc), LW D A H0 (ws.set i (o, .inr (ci, fs.set k v))) H1 locs1 → W p l e R s m args below meth c H1 locs1 cells slots Q (F0 m (pc + 3) ls rest)) : W p l e R s m args below meth c H locs cells slots Q (F0 m pc ls (v :: .ref o :: rest)) := by
  obtain ⟨hc1, hnm1, ty0, hty⟩ := hc
  exact va_put B.1.1 B.1.2.1 B.1.2.2.2.2 hin ty0 hty hnm1 B.1.2.2.2.1 B.2.1.1 hL.1 hL.2.1 hL.2.2.1 i he hc1 k hk hlink (fun _ h => h) hfin hd hn hfit hl d (fun H1 locs1 hP hD hS => kk H1 locs1 ⟨hP, hD, hS, hL.2.2.2⟩)
theorem l_get (B : Cx p m c cc nL s args Ts own meth ret D) (hL : LW D A H0 ws H locs) {o ci : Nat} {fs : List Value} {C : String} {T : u_T} {NN : Nat} (i : Nat) (he : ws[i]? = some (o, .inr (ci, fs))) (hc : ClsOK ci C T NN) (hin : ∀ w ∈ u_ws C T NN, w ∈ Ts) (k : Nat) (hk : k < NN) {v : Value} (hv : fs[k]? = some v) {index : Nat}
    (hlink : (Cond.fieldLink own index (T k).1 (T k).2.1 (T k).2.2.1).before args s = true) (d : decode cc pc = .ok (.getfield index, 3))
    (kk : W p l e R s m args below meth c H locs cells slots Q (F0 m (pc + 3) ls (v :: rest))) : W p l e R s m args below meth c H locs cells slots Q (F0 m pc ls (.ref o :: rest)) :=
  va_get B.1.1 B.1.2.1 B.1.2.2.2.2 hin B.1.2.2.2.1 B.2.1.1 hL.1 i he hc.1 k hk hlink (fun _ h => h) hv d kk
theorem l_iast (B : Cx p m c cc nL s args Ts own meth ret D) (hL : LW D A H0 ws H locs) {a n : Nat} {f : Nat → Int32} (q : Nat) (he : ws[q]? = some (a, .inl (D.1 10, n, .inl f))) {i x : Int32} {k : Nat} (hi : isN i k n) (h31 : n < 2 ^ 31) (d : decode cc pc = .ok (.iastore, 1))
    (kk : ∀ (H1 : Heap) (locs1 : List Loc), LW D A H0 (ws.set q (a, .inl (D.1 10, n, .inl (upd f k x)))) H1 locs1 → W p l e R s m args below meth c H1 locs1 cells slots Q (F0 m (pc + 1) ls rest)) : W p l e R s m args below meth c H locs cells slots Q (F0 m pc ls (.int x :: .int i :: .ref a :: rest)) := by
  refine va_iast B.1.1 B.1.2.1 B.2.1.1 hL.1 hL.2.1 hL.2.2.1 q 0 he rfl (isN_vin hi (Nat.le_refl _) h31) d (fun H1 locs1 hP hD hS => ?_)
  rw [isN_tcn hi] at hP hD
  exact kk H1 locs1 ⟨hP, hD, hS, hL.2.2.2⟩
theorem l_callI (B : Cx p m c cc nL s args Ts own meth none D) (hL : LW D A H0 ws H locs) (hao : aoC s) {o mc ms i : Nat} {e0 : va_E} (hi : ws[i]? = some (o, e0)) {index n maxL : Nat} {y : MethodName} {host : String} {bytes : ByteArray} {wsy : List Cond} {rm : Room} {As : List Value} {P : va_W → Prop}
    (hM : Met l y wsy rm (pI D H.size o e0 As) (va_Qv P (bI D (aI H.size o)) (aI H.size o)) mc ms (aI H.size o)) (cw : va_CN R s args own index y host bytes maxL none wsy rm mc ms n ∧ y.name = "<init>" ∧ (Cond.instanceMethod y).before args s = true) (hn : As.length = n) (hl : ls.size = nL) (hr : (rest.map fun v => v.category).sum ≤ 8) (d : decode cc pc = .ok (.invokespecial index, 3)) (hf : cells + mc ≤ R.cells ∧ slots + ms ≤ R.slots)
    (kk : ∀ (u : va_W) (H1 : Heap) (locs1 : List Loc), P u → (∀ e1 new, u = (o, e1) :: new → LW D A H0 (ws.set i (o, e1) ++ new) H1 locs1) → W p l e R s m args below meth c H1 locs1 (cells + mc) (slots + ms) Q (F0 m (pc + 3) ls rest)) : W p l e R s m args below meth c H locs cells slots Q (F0 m pc ls (As.reverse ++ .ref o :: rest)) := by
  have hoA : A o := hL.2.1.2 i _ hi
  have hol : o < H.size := vx_lt hL.1 hi
  have hF : ∀ q, aI H.size o q → A q := by
    rintro q (h | h)
    · rw [h]
      exact hoA
    · exact hL.2.2.2 q (Nat.le_trans hL.2.2.1.1 h)
  have hone : va_P D vwCl [(o, e0)] H := by
    intro k q hk
    cases k with
    | zero =>
      cases hk
      exact hL.1 i _ hi
    | succ k => simp at hk
  refine va_callv (va_runIN (As := As) (rest := rest) B.1 hM cw ⟨fun a U g mk q => ⟨q.1, q.2.1, q.2.2.1, q.2.2.2.1.call, ⟨va_AO.moved (u := U) (U := U.calling g mk a) (Vm.Alike.refl U.vm) q.2.2.2.2.1.1, va_AO.moved (u := U) (U := U.calling g mk a) (Vm.Alike.refl U.vm) q.2.2.2.2.1.2⟩, q.2.2.2.2.2⟩, fun U hU hW => ⟨rfl, by rw [hU], by rw [hU]; exact hone, B.2.1.warm hW, ⟨va_AO.moved hW.alike hao.1, va_AO.moved hW.alike hao.2⟩, hol⟩⟩ rfl hn hl rfl (lv_room hr) d hf) hL.2.2.1 (fun q _ h => hF q h) hF (fun u t H1 locs1 ht _ hp hB _ hfr hS => ?_)
  refine kk u H1 locs1 hp (fun e1 new he => ?_)
  subst he
  obtain ⟨hP, hD⟩ := hB
  rw [ht] at hP
  exact hL.merge hi hP hD hfr hS
theorem x_metI {l : Launch} {y : MethodName} {ws' wsy : List Cond} {cc : ByteArray} {maxL sz o mc ms : Nat} {D : va_G} {e0 : va_E} {av : List Value} {rm : Room} {P : va_W → Prop} {own : String} (hw : wsy = Cond.code y cc maxL none :: ws') (hy : plainFor y = true ∧ y.cls = own ∧ (lg_sl (.ref o :: av)).length ≤ maxL)
    (body : ∀ (p : Program) (e : Env) (s : State) (m : MethodId) (args : Array Value) (below : List Frame) (meth : Method) (c : Code) (A : Nat → Prop) (ls : Array Slot), Cx p m c cc maxL s args wsy own meth none D → meth.name = y.name → aoC s → LW D A s.heap [(o, e0)] s.heap [] → lv_has ls maxL (lv_args 0 (.ref o :: av)) → ls.size = maxL →
      W p l e rm s m args below meth c s.heap [] 0 0 (MQ below (va_Qv P (bI D A) A) args s mc ms A) (F0 m 0 ls [])) :
    Met l y wsy rm (pI D sz o e0 av) (va_Qv P (bI D (aI sz o)) (aI sz o)) mc ms (aI sz o) := by
  refine x_ofWF (cc := cc) (maxL := maxL) (ret := none) hy.1 hw ?_
  intro p e s m args below meth c s₁ B hml hv
  obtain ⟨rfl, hsz, hP, hK, hao, hol⟩ := hv
  have hts := atoms_spec (ws := wsy) B.pre
  have hown : s.vm.findClass y.cls = some m.cls := findClass_of_methodNamed B.named
  rw [hy.2.1] at hown
  subst hsz
  have hl := lv_entry (.ref o :: av) (n := maxL) hy.2.2
  rw [lg_entry_eq]
  generalize (lg_sl (.ref o :: av) ++ List.replicate (maxL - (lg_sl (.ref o :: av)).length) Slot.unset).toArray = ls at hl ⊢
  refine body p e s m (.ref o :: av).toArray below meth c _ ls ⟨⟨B.exec, B.bytes, hml, hown, hts⟩, hK, B.returns, B.notSynchronized⟩ (name_of_methodNamed B.named B.method).1 hao ⟨hP, ⟨fun i j p q hp hq _ => ?_, fun k q hk => ?_⟩, va_S.rf, fun q h => Or.inr h⟩ hl hl.1
  · cases i with
    | zero =>
      cases j with
      | zero => rfl
      | succ j => simp at hq
    | succ i => simp at hp
  · cases k with
    | zero =>
      cases hk
      exact Or.inl rfl
    | succ k => simp at hk
theorem l_ret {P : va_W → Prop} (B : Cx p m c cc nL s args Ts own meth none D) (hL : LW D A s.heap ws H locs) {mc ms : Nat} (hm : cells ≤ mc ∧ slots ≤ ms) (hp : P ws) (d : decode cc pc = .ok (.return_, 1)) : W p l e R s m args below meth c H locs cells slots (MQ below (va_Qv P (bI D A) A) args s mc ms A) (F0 m pc ls []) :=
  w_widen hm.1 hm.2 (W.vret B.1.1 B.1.2.1 B.2.2.1 (fun _ ht _ => ⟨⟨ws, rfl, hp, by rw [ht]; exact hL.1, hL.2.1⟩, hL.2.2.1.F ht⟩) hL.2.2.1.2.2 d B.2.2.2)
end CTORROWS
