section VXQ
variable {p : Program} {l : Launch} {e : Env} {R : Room} {s : State} {m : MethodId} {args : Array Value} {below : List Frame} {meth : Method} {c : Code} {H : Heap} {locs : List Loc} {cells slots : Nat} {Q : State → Prop}
variable {mc ms : Nat} {free : Addr → Prop} {A0 A1 : Nat → Prop} {H0 : Heap} {a : Array Value} {pc : Nat} {ls : Array Slot} {st0 rest : List Value}
theorem vx_callq {S SX : Type} {post : Option Nat → S → Prop} {px : SX → Prop} {B : S → State → Prop} {BX : String → SX → State → Prop} {AX : Nat → Prop} (hr : vx_Run p l e R s m args below meth c H locs cells slots mc ms (F0 m pc ls st0) rest (va_Qq post B A1 a) (vx_X px BX AX) free) (hS : va_S A0 H0 H locs) (hA : ∀ q, q < H.size → A1 q → A0 q) (hf : ∀ q, free q → A0 q) (hAX : ∀ q, q < H.size → AX q → A0 q)
    (kx : ∀ (E : String) (ce : Cell) (q9 : Addr) (u : SX) (t : State) (H1 : Heap) (locs1 : List Loc), t.heap = H1 → s.vm.Alike t.vm → px u → BX E u t → H.size ≤ H1.size → (∀ q : Nat, q < H.size → ¬ AX q → H1[q]? = H[q]?) → va_S A0 H0 H1 locs1 → H1[q9]? = some ce → ce.vm = .none → s.vm.findClass E = some ce.cls → vx_W p l e R s m args below meth c H1 locs1 (cells + mc) (slots + ms) Q (F0 m pc ls rest) q9)
    (kk : ∀ (r : Option Nat) (u : S) (t : State) (H1 : Heap) (locs1 : List Loc), t.heap = H1 → s.vm.Alike t.vm → post r u → B u t → H.size ≤ H1.size → (∀ q : Nat, q < H.size → ¬ A1 q → H1[q]? = H[q]?) → va_S A0 H0 H1 locs1 → W p l e R s m args below meth c H1 locs1 (cells + mc) (slots + ms) Q (F0 m (pc + 3) ls (va_rf r :: rest))) : W p l e R s m args below meth c H locs cells slots Q (F0 m pc ls st0) := by
  intro T hT X
  rcases hr T hT X with ⟨v, st₀, t, T', L, h0, X', hL, e1, e2, ⟨⟨r, u, hv, hp, hb⟩, hF⟩, st⟩ | ⟨q, st₀, t, T', L, E, ce, h0, X', hL, e1, e2, ⟨u, hp, hb, hF⟩, hce, hcv, hcl, st⟩
  · cases hv
    obtain ⟨k1, k2, k3⟩ := vx_keep h0 e1 hS hA hf hL hF
    obtain ⟨t2, a1, b1⟩ := kk r u t T'.heap (locs ++ L) e1.symm (by rw [← e2]; exact X'.warmed.alike) hp hb k1 k2 k3 T' rfl X'
    exact ⟨t2, st t2 a1, b1⟩
  · obtain ⟨k1, k2, k3⟩ := vx_keep h0 e1 hS hAX hf hL hF
    obtain ⟨t2, a1, b1⟩ := kx E ce q u t T'.heap (locs ++ L) e1.symm (by rw [← e2]; exact X'.warmed.alike) hp hb k1 k2 k3 (by rw [e1]; exact hce) hcv hcl T' rfl X'
    exact ⟨t2, st.trans a1, b1⟩
end VXQ
section THROWROWS
def tbp {α β : Type} (d : β) (z : Nat × α) (S : vS) (f : α → (Nat × β) × vS) : (Nat × β) × vS := if z.1 = 0 then f z.2 else ((z.1, d), S)
def tbq {α β : Type} (d : β) (z : Nat × α) (f : α → Nat × β) : Nat × β := if z.1 = 0 then f z.2 else (z.1, d)
theorem tbp_ok {α β : Type} {d : β} {z0 : (Nat × β) × vS} {p : Nat × α} {S : vS} {f : α → (Nat × β) × vS} {r : α} (h : z0 = tbp d p S f) (e : (0, r) = p) : z0 = f r := by
  rw [h, ← e]
  rfl
theorem tbp_ex {α β : Type} {d : β} {z0 : (Nat × β) × vS} {p : Nat × α} {S : vS} {f : α → (Nat × β) × vS} {k : Nat} {r : α} (h : z0 = tbp d p S f) (e : (k, r) = p) (hk : k ≠ 0) : z0 = ((k, d), S) := by
  rw [h, ← e]
  unfold tbp
  rw [if_neg hk]
theorem tbq_ok {α β : Type} {d : β} {z0 : Nat × β} {p : Nat × α} {f : α → Nat × β} {r : α} (h : z0 = tbq d p f) (e : (0, r) = p) : z0 = f r := by
  rw [h, ← e]
  rfl
theorem tbq_ex {α β : Type} {d : β} {z0 : Nat × β} {p : Nat × α} {f : α → Nat × β} {k : Nat} {r : α} (h : z0 = tbq d p f) (e : (k, r) = p) (hk : k ≠ 0) : z0 = (k, d) := by
  rw [h, ← e]
  unfold tbq
  rw [if_neg hk]
def pxS {α : Type} (z : (Nat × α) × vS) : String → vS → Prop := fun E S1 => ∃ k v, k ≠ 0 ∧ exN k = E ∧ ((k, v), S1) = z
def pxP {α : Type} (z : Nat × α) (S : vS) : String → vS → Prop := fun E S1 => (∃ k v, k ≠ 0 ∧ exN k = E ∧ (k, v) = z) ∧ S1 = S
variable {p : Program} {l : Launch} {e : Env} {R : Room} {s : State} {m : MethodId} {args : Array Value} {below : List Frame} {meth : Method} {c : Code} {H : Heap} {locs : List Loc} {cells slots mc ms mcT msT : Nat} {Qc : Array Value → State → Outcome → State → Prop}
variable {cc : ByteArray} {nL : Nat} {Ts : List Cond} {own : String} {ret : Option FieldType} {D : va_G} {N : Nat} {cf : Nat → (Nat → Int32) → va_E} {ad : Nat → Nat} {A : Nat → Prop} {S : vS} {V : vE}
variable {pc : Nat} {ls : Array Slot} {rest : List Value}
theorem xX_of (hW : Wd D N cf ad A s.heap S H locs) {px pxo : String → vS → Prop} {S1 : vS} {t t' : State} {H1 : Heap} {locs1 : List Loc} {E : String} (ht : t.heap = H1) (hB : px E S1 ∧ bW D N cf ad (aW N ad H.size) S1 t) (hx : px E S1 → pxo E S1) (hS : va_S A s.heap H1 locs1) (ht' : t'.heap = H1) : xX D N cf ad A pxo E s t' := by
  have hW1 : Wd D N cf ad A s.heap S1 H1 locs1 := hW.back (aW_A hW) ht hB.2 hS
  exact ⟨S1, trivial, ⟨hx hB.1, (hW1.end ht').1⟩, (hW1.end ht').2⟩
theorem x_throw (B : Cx p m c cc nL s args Ts RX4 meth ret D) (htab : ∀ x ∈ c.exceptionTable.toList, False) (hW : Wd D N cf ad A s.heap S H locs) (hE : nv V A s s.heap) (hl : l.stackTraces = false) (hls : ls.size = nL) {px : String → vS → Prop} {cls text : String} {ik is ic : Nat} (hcls : cls ∈ xcE) (hst : (is, text) ∈ xmE)
    (hk : (Cond.classLink RX4 ik cls).before args s = true) (hini : (Cond.initialized cls).before args s = true) (h1 : ∀ w ∈ (vx_atS RX4 ic cls xuE).filter goodWord, w.before args s = true) (h2 : ∀ w ∈ (vx_atS RX4 ic cls xuE).filter (fun w => !goodWord w), w ∈ Cond.castable cls cls :: xdE)
    (hgood : ∀ w ∈ Cond.classLink RX4 ik cls :: Cond.initialized cls :: vx_atS RX4 ic cls xuE, vx_ot w = true) (hfit : Bundle.fit cls = true)
    (d0 : decode cc pc = .ok (.new ik, 3)) (d3 : decode cc (pc + 3) = .ok (.dup, 1)) (d4 : decode cc (pc + 4) = .ok (.ldc is, 2)) (d6 : decode cc (pc + 6) = .ok (.invokespecial ic, 3)) (d9 : decode cc (pc + 9) = .ok (.athrow, 1))
    (hfr : 5 < R.frames ∧ 82 ≤ R.locals ∧ cells + 1 ≤ R.cells ∧ slots + 6 ≤ R.slots) (hc : cells + 1 ≤ mc ∧ slots + 6 ≤ ms) (hp : px cls S) : W p l e R s m args below meth c H locs cells slots (vx_MQ below Qc (xX D N cf ad A px) args s mc ms A) (F0 m pc ls []) := by
  obtain ⟨sa, hsa⟩ := hE.2.2.1 _ hst
  have hat : ∀ w ∈ vx_atS RX4 ic cls xuE, w.before args s = true := vx_hat h1 h2 (vx_c (va_Nw.use rfl (hE.2.2.2.1 _ hcls)) (fun w hw => by
    obtain ⟨x, rfl⟩ := xdE_in hw
    exact va_Nw.use rfl (hE.2.2.2.2 _ hw)))
  refine vx_throwS (text := text) (sa := sa) (names := xuE) (A := A) B.1.1 B.1.2.1 hl B.1.2.2.2.1 hfit (by decide +kernel) hk hini hsa hat hgood hE.1.2.2.2.2.2.1 hE.1.2.2.2.2.2.2 hW.2.2.1 (hls.trans B.1.2.2.1.symm) d0 d3 d4 d6 d9 (fun x hx => (htab x hx).elim) hfr.1 (by simpa using hfr.2.1) hfr.2.2.1 hfr.2.2.2 B.2.2.2 ?_ hW.2.2.1.2.2 hc.1 hc.2
  intro t hal hsz hsame
  have hP : va_P D vwCl (wl N cf ad S) t.heap := hW.1.kept fun k q hk => hsame _ (vx_lt hW.1 hk)
  exact ⟨S, trivial, ⟨hp, hP, hW.2.1⟩, Nat.le_trans hW.2.2.1.1 hsz, fun q h1 h2 => by rw [hsame q (Nat.lt_of_lt_of_le h1 hW.2.2.1.1)]; exact hW.2.2.1.2.1 q h1 h2⟩
theorem x_throwW (B : Cx p m c cc nL s args Ts RX4 meth ret D) (htab : ∀ x ∈ c.exceptionTable.toList, False) (hW : Wd D N cf ad A s.heap S H locs) (hE : nv V A s s.heap) (hl : l.stackTraces = false) (hls : ls.size = nL) {px : String → vS → Prop} {cls text : String} {ik is ic : Nat} (hcls : cls ∈ xcE) (hst : (is, text) ∈ xmE)
    (hk : (Cond.classLink RX4 ik cls).before args s = true) (hini : (Cond.initialized cls).before args s = true) (h1 : ∀ w ∈ (vx_atS RX4 ic cls xuE).filter goodWord, w.before args s = true) (h2 : ∀ w ∈ (vx_atS RX4 ic cls xuE).filter (fun w => !goodWord w), w ∈ Cond.castable cls cls :: xdE)
    (hgood : ∀ w ∈ Cond.classLink RX4 ik cls :: Cond.initialized cls :: vx_atS RX4 ic cls xuE, vx_ot w = true) (hfit : Bundle.fit cls = true)
    (d0 : decode cc pc = .ok (.new ik, 3)) (d3 : decode cc (pc + 3) = .ok (.dup, 1)) (d4 : decode cc (pc + 4) = .ok (.ldc_w is, 3)) (d6 : decode cc (pc + 7) = .ok (.invokespecial ic, 3)) (d9 : decode cc (pc + 10) = .ok (.athrow, 1))
    (hfr : 5 < R.frames ∧ 82 ≤ R.locals ∧ cells + 1 ≤ R.cells ∧ slots + 6 ≤ R.slots) (hc : cells + 1 ≤ mc ∧ slots + 6 ≤ ms) (hp : px cls S) : W p l e R s m args below meth c H locs cells slots (vx_MQ below Qc (xX D N cf ad A px) args s mc ms A) (F0 m pc ls []) := by
  obtain ⟨sa, hsa⟩ := hE.2.2.1 _ hst
  have hat : ∀ w ∈ vx_atS RX4 ic cls xuE, w.before args s = true := vx_hat h1 h2 (vx_c (va_Nw.use rfl (hE.2.2.2.1 _ hcls)) (fun w hw => by
    obtain ⟨x, rfl⟩ := xdE_in hw
    exact va_Nw.use rfl (hE.2.2.2.2 _ hw)))
  refine vx_throwSW (text := text) (sa := sa) (names := xuE) (A := A) B.1.1 B.1.2.1 hl B.1.2.2.2.1 hfit (by decide +kernel) hk hini hsa hat hgood hE.1.2.2.2.2.2.1 hE.1.2.2.2.2.2.2 hW.2.2.1 (hls.trans B.1.2.2.1.symm) d0 d3 d4 d6 d9 (fun x hx => (htab x hx).elim) hfr.1 (by simpa using hfr.2.1) hfr.2.2.1 hfr.2.2.2 B.2.2.2 ?_ hW.2.2.1.2.2 hc.1 hc.2
  intro t hal hsz hsame
  have hP : va_P D vwCl (wl N cf ad S) t.heap := hW.1.kept fun k q hk => hsame _ (vx_lt hW.1 hk)
  exact ⟨S, trivial, ⟨hp, hP, hW.2.1⟩, Nat.le_trans hW.2.2.1.1 hsz, fun q h1 h2 => by rw [hsame q (Nat.lt_of_lt_of_le h1 hW.2.2.1.1)]; exact hW.2.2.1.2.1 q h1 h2⟩
theorem x_runVX (B : Cx p m c cc nL s args Ts own meth ret D) (hW : Wd D N cf ad A s.heap S H locs) (hE : nv V A s s.heap) {q ci : Nat} {fs : List Value} {C : String} {T : u_T} {NN : Nat} (hq : q < N) (he : cf q (S q) = .inr (ci, fs)) (hc : ClsOK ci C T NN) {index n maxL : Nat} {y : MethodName} {bytes : ByteArray} {rt : Option FieldType} {ws : List Cond} {rm : Room} {Qa : Array Value → State → Outcome → State → Prop} {XC : String → State → State → Prop} {free : Addr → Prop} {As : List Value}
    (hM : vx_Met l y ws rm (pE D N cf ad H.size V S (.ref (ad q) :: As)) Qa XC mc ms free) (cw : CallW R s args own C index y bytes maxL rt ws rm mc ms n) (hn : As.length = n) (hl : ls.size = nL) (hr : (rest.map fun v => v.category).sum ≤ 8) (d : decode cc pc = .ok (.invokevirtual index, 3)) (hf : cells + mc ≤ R.cells ∧ slots + ms ≤ R.slots) :
    vx_Run p l e R s m args below meth c H locs cells slots mc ms (F0 m pc ls (As.reverse ++ .ref (ad q) :: rest)) rest (Qa (Value.ref (ad q) :: As).toArray) XC free :=
  vx_runV B.1 hM cw ⟨pE_blind, va_recv B.2.1.1 hW.1 hc.1 (by rw [wl_get hq, he]), pE_go B.2.1 hW hE⟩ rfl hn hl rfl (lv_room hr) d hf
theorem x_runSX (B : Cx p m c cc nL s args Ts own meth ret D) (hW : Wd D N cf ad A s.heap S H locs) (hE : nv V A s s.heap) {index n maxL : Nat} {y : MethodName} {bytes : ByteArray} {rt : Option FieldType} {ws : List Cond} {rm : Room} {Qa : Array Value → State → Outcome → State → Prop} {XC : String → State → State → Prop} {free : Addr → Prop} {As : List Value}
    (hM : vx_Met l y ws rm (pE D N cf ad H.size V S As) Qa XC mc ms free) (cw : CallB R s args own index y bytes maxL rt ws rm mc ms n ∧ (Cond.static y).before args s = true) (hn : As.length = n) (hl : ls.size = nL) (hr : (rest.map fun v => v.category).sum ≤ 8) (d : decode cc pc = .ok (.invokestatic index, 3)) (hf : cells + mc ≤ R.cells ∧ slots + ms ≤ R.slots) :
    vx_Run p l e R s m args below meth c H locs cells slots mc ms (F0 m pc ls (As.reverse ++ rest)) rest (Qa As.toArray) XC free :=
  vx_runS B.1 hM cw ⟨pE_blind, pE_go B.2.1 hW hE⟩ rfl hn hl rfl (lv_room hr) d hf
theorem x_xcalli (B : Cx p m c cc nL s args Ts own meth ret D) (htab : ∀ x ∈ c.exceptionTable.toList, False) (hW : Wd D N cf ad A s.heap S H locs) {px pxo : String → vS → Prop} {post : Int32 → vS → Prop} {a : Array Value} {st0 : List Value} (hr : vx_Run p l e R s m args below meth c H locs cells slots mc ms (F0 m pc ls st0) rest (va_Qi post (bW D N cf ad (aW N ad H.size)) (aW N ad H.size) a) (xX D N cf ad (aW N ad H.size) px) (aW N ad H.size))
    (hc : cells + mc ≤ mcT ∧ slots + ms ≤ msT) (hx : ∀ E S1, px E S1 → pxo E S1)
    (kk : ∀ (r : Int32) (S1 : vS) (H1 : Heap) (locs1 : List Loc), post r S1 → Wd D N cf ad A s.heap S1 H1 locs1 → W p l e R s m args below meth c H1 locs1 (cells + mc) (slots + ms) (vx_MQ below Qc (xX D N cf ad A pxo) args s mcT msT A) (F0 m (pc + 3) ls (.int r :: rest))) : W p l e R s m args below meth c H locs cells slots (vx_MQ below Qc (xX D N cf ad A pxo) args s mcT msT A) (F0 m pc ls st0) :=
  vx_calli hr hW.2.2.1 (fun q _ h => aW_A hW q h) (aW_A hW) (fun q _ h => aW_A hW q h)
    (fun E _ _ u _ H1 locs1 ht _ _ hB _ _ hS hce hcv hcl => vx_out (fun x hx => (htab x hx).elim) B.2.2.2 hce hcv hcl (fun t' ht' _ => xX_of hW ht hB (hx E u) hS ht') hS.2.2 hc.1 hc.2)
    (fun r u _ H1 locs1 ht _ hp hB _ _ hS => kk r u H1 locs1 hp (hW.back (aW_A hW) ht hB hS))
theorem x_xcallv (B : Cx p m c cc nL s args Ts own meth ret D) (htab : ∀ x ∈ c.exceptionTable.toList, False) (hW : Wd D N cf ad A s.heap S H locs) {px pxo : String → vS → Prop} {post : vS → Prop} {a : Array Value} {st0 : List Value} (hr : vx_Run p l e R s m args below meth c H locs cells slots mc ms (F0 m pc ls st0) rest (va_Qv post (bW D N cf ad (aW N ad H.size)) (aW N ad H.size) a) (xX D N cf ad (aW N ad H.size) px) (aW N ad H.size))
    (hc : cells + mc ≤ mcT ∧ slots + ms ≤ msT) (hx : ∀ E S1, px E S1 → pxo E S1)
    (kk : ∀ (S1 : vS) (H1 : Heap) (locs1 : List Loc), post S1 → Wd D N cf ad A s.heap S1 H1 locs1 → W p l e R s m args below meth c H1 locs1 (cells + mc) (slots + ms) (vx_MQ below Qc (xX D N cf ad A pxo) args s mcT msT A) (F0 m (pc + 3) ls rest)) : W p l e R s m args below meth c H locs cells slots (vx_MQ below Qc (xX D N cf ad A pxo) args s mcT msT A) (F0 m pc ls st0) :=
  vx_callv hr hW.2.2.1 (fun q _ h => aW_A hW q h) (aW_A hW) (fun q _ h => aW_A hW q h)
    (fun E _ _ u _ H1 locs1 ht _ _ hB _ _ hS hce hcv hcl => vx_out (fun x hx => (htab x hx).elim) B.2.2.2 hce hcv hcl (fun t' ht' _ => xX_of hW ht hB (hx E u) hS ht') hS.2.2 hc.1 hc.2)
    (fun u _ H1 locs1 ht _ hp hB _ _ hS => kk u H1 locs1 hp (hW.back (aW_A hW) ht hB hS))
theorem x_xcallq (B : Cx p m c cc nL s args Ts own meth ret D) (htab : ∀ x ∈ c.exceptionTable.toList, False) (hW : Wd D N cf ad A s.heap S H locs) {px pxo : String → vS → Prop} {post : Option Nat → vS → Prop} {a : Array Value} {st0 : List Value} (hr : vx_Run p l e R s m args below meth c H locs cells slots mc ms (F0 m pc ls st0) rest (va_Qq post (bW D N cf ad (aW N ad H.size)) (aW N ad H.size) a) (xX D N cf ad (aW N ad H.size) px) (aW N ad H.size))
    (hc : cells + mc ≤ mcT ∧ slots + ms ≤ msT) (hx : ∀ E S1, px E S1 → pxo E S1)
    (kk : ∀ (r : Option Nat) (S1 : vS) (H1 : Heap) (locs1 : List Loc), post r S1 → Wd D N cf ad A s.heap S1 H1 locs1 → W p l e R s m args below meth c H1 locs1 (cells + mc) (slots + ms) (vx_MQ below Qc (xX D N cf ad A pxo) args s mcT msT A) (F0 m (pc + 3) ls (va_rf r :: rest))) : W p l e R s m args below meth c H locs cells slots (vx_MQ below Qc (xX D N cf ad A pxo) args s mcT msT A) (F0 m pc ls st0) :=
  vx_callq hr hW.2.2.1 (fun q _ h => aW_A hW q h) (aW_A hW) (fun q _ h => aW_A hW q h)
    (fun E _ _ u _ H1 locs1 ht _ _ hB _ _ hS hce hcv hcl => vx_out (fun x hx => (htab x hx).elim) B.2.2.2 hce hcv hcl (fun t' ht' _ => xX_of hW ht hB (hx E u) hS ht') hS.2.2 hc.1 hc.2)
    (fun r u _ H1 locs1 ht _ hp hB _ _ hS => kk r u H1 locs1 hp (hW.back (aW_A hW) ht hB hS))
theorem x_end {g : JFrame} (hc : cells ≤ mc ∧ slots ≤ ms) {XC : String → State → State → Prop} {free : Addr → Prop} (kk : W p l e R s m args below meth c H locs mc ms (MQ below Qc args s mc ms free) g) : W p l e R s m args below meth c H locs cells slots (vx_MQ below Qc XC args s mc ms free) g := w_widen hc.1 hc.2 (vx_ret kk)
end THROWROWS
