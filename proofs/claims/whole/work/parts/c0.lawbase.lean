section LAWBASE
theorem Wd.other {D : va_G} {N N2 : Nat} {cf2 : Nat → (Nat → Int32) → va_E} {ad ad2 : Nat → Nat} {A : Nat → Prop} {H0 : Heap} {T : vS} {H H1 : Heap} {locs locs1 : List Loc} (hO : Wd D N2 cf2 ad2 A H0 T H locs) (hap : ∀ i j, i < N → j < N2 → ad i ≠ ad2 j) (hfr : ∀ q : Nat, q < H.size → ¬ aW N ad H.size q → H1[q]? = H[q]?) (hS : va_S A H0 H1 locs1) : Wd D N2 cf2 ad2 A H0 T H1 locs1 := by
  refine ⟨hO.1.kept fun k q hk => hfr _ (vx_lt hO.1 hk) ?_, hO.2.1, hS, hO.2.2.2⟩
  rintro (⟨i, hi, e⟩ | h)
  · obtain ⟨hk2, e2⟩ := wl_in hk
    rw [e2] at e
    exact hap i k hi hk2 e
  · exact absurd (vx_lt hO.1 hk) (by omega)
section
variable {p : Program} {l : Launch} {e : Env} {R : Room} {s : State} {m : MethodId} {args : Array Value} {below : List Frame} {meth : Method} {c : Code} {H : Heap} {locs : List Loc} {cells slots : Nat} {Q : State → Prop}
variable {cc : ByteArray} {nL : Nat} {Ts : List Cond} {own : String} {ret : Option FieldType} {D : va_G} {ad ad2 : Nat → Nat} {A : Nat → Prop} {S T : vS} {V : vE} {N N2 : Nat} {cf cf2 : Nat → (Nat → Int32) → va_E}
variable {pc : Nat} {ls : Array Slot} {rest : List Value}
/-- a helper of the law is called; the other world stays -/
theorem w_hcall (B : Cx p m c cc nL s args Ts own meth ret D) (hC : Wd D N cf ad A s.heap S H locs) (hM : Wd D N2 cf2 ad2 A s.heap T H locs) (hap : ∀ i j, i < N → j < N2 → ad i ≠ ad2 j) (hE : nv V A s s.heap) (hN : NcT s) {index n maxL mc ms : Nat} {y : MethodName} {bytes : ByteArray} {rt : Option FieldType} {hh : List (Nat × Nat × Nat × Nat)} {ws : List Cond} {rm : Room} {As : List Value} {post : Int32 → vS → Prop}
    (hMet : vx_Met l y ws rm (pH D N cf ad H.size V S As) (va_Qi post (bW D N cf ad (aW N ad H.size)) (aW N ad H.size)) (xX D N cf ad (aW N ad H.size) (fun _ _ => False)) mc ms (aW N ad H.size)) (cw : vx_CSW R s args own index y bytes maxL rt hh ws rm mc ms n) (hn : As.length = n) (hl : ls.size = nL) (hr : (rest.map fun v => v.category).sum ≤ 8) (d : decode cc pc = .ok (.invokestatic index, 3)) (hf : cells + mc ≤ R.cells ∧ slots + ms ≤ R.slots)
    (kk : ∀ (r : Int32) (S1 : vS) (H1 : Heap) (locs1 : List Loc), post r S1 → Wd D N cf ad A s.heap S1 H1 locs1 → Wd D N2 cf2 ad2 A s.heap T H1 locs1 → W p l e R s m args below meth c H1 locs1 (cells + mc) (slots + ms) Q (F0 m (pc + 3) ls (.int r :: rest))) : W p l e R s m args below meth c H locs cells slots Q (F0 m pc ls (As.reverse ++ rest)) :=
  vx_calli (vx_runSX B.1 hMet cw ⟨pH_blind, pH_go B.2.1 hC hE hN⟩ rfl hn hl rfl (lv_room hr) d hf) hC.2.2.1 (fun q _ h => aW_A hC q h) (aW_A hC) (fun q _ h => aW_A hC q h) (fun E ce q9 u t H1 locs1 ht _ _ hB _ _ _ _ _ _ => (hB.1 : False).elim) (fun r u t H1 locs1 ht _ hp hB _ hfr hS => kk r u H1 locs1 hp (hC.back (aW_A hC) ht hB hS) (hM.other hap hfr hS))
/-- a call in one of the two worlds; the other one stays -/
theorem w_calli (hC : Wd D N cf ad A s.heap S H locs) (hM : Wd D N2 cf2 ad2 A s.heap T H locs) (hap : ∀ i j, i < N → j < N2 → ad i ≠ ad2 j) {post : Int32 → vS → Prop} {a : Array Value} {st0 : List Value} (hr : va_Run p l e R s m args below meth c H locs cells slots 0 0 (F0 m pc ls st0) rest (va_Qi post (bW D N cf ad (aW N ad H.size)) (aW N ad H.size) a) (aW N ad H.size))
    (kk : ∀ (r : Int32) (S1 : vS) (H1 : Heap) (locs1 : List Loc), post r S1 → Wd D N cf ad A s.heap S1 H1 locs1 → Wd D N2 cf2 ad2 A s.heap T H1 locs1 → W p l e R s m args below meth c H1 locs1 cells slots Q (F0 m (pc + 3) ls (.int r :: rest))) : W p l e R s m args below meth c H locs cells slots Q (F0 m pc ls st0) :=
  va_calli hr hC.2.2.1 (fun q _ h => aW_A hC q h) (aW_A hC) (fun r u _ H1 locs1 ht _ hp hB _ hfr hS => kk r u H1 locs1 hp (hC.back (aW_A hC) ht hB hS) (hM.other hap hfr hS))
theorem w_calll (hC : Wd D N cf ad A s.heap S H locs) (hM : Wd D N2 cf2 ad2 A s.heap T H locs) (hap : ∀ i j, i < N → j < N2 → ad i ≠ ad2 j) {post : Int64 → vS → Prop} {a : Array Value} {st0 : List Value} (hr : va_Run p l e R s m args below meth c H locs cells slots 0 0 (F0 m pc ls st0) rest (va_Ql post (bW D N cf ad (aW N ad H.size)) (aW N ad H.size) a) (aW N ad H.size))
    (kk : ∀ (r : Int64) (S1 : vS) (H1 : Heap) (locs1 : List Loc), post r S1 → Wd D N cf ad A s.heap S1 H1 locs1 → Wd D N2 cf2 ad2 A s.heap T H1 locs1 → W p l e R s m args below meth c H1 locs1 cells slots Q (F0 m (pc + 3) ls (.long r :: rest))) : W p l e R s m args below meth c H locs cells slots Q (F0 m pc ls st0) :=
  va_calll hr hC.2.2.1 (fun q _ h => aW_A hC q h) (aW_A hC) (fun r u _ H1 locs1 ht _ hp hB _ hfr hS => kk r u H1 locs1 hp (hC.back (aW_A hC) ht hB hS) (hM.other hap hfr hS))
theorem w_calld (hC : Wd D N cf ad A s.heap S H locs) (hM : Wd D N2 cf2 ad2 A s.heap T H locs) (hap : ∀ i j, i < N → j < N2 → ad i ≠ ad2 j) {post : UInt64 → vS → Prop} {a : Array Value} {st0 : List Value} (hr : va_Run p l e R s m args below meth c H locs cells slots 0 0 (F0 m pc ls st0) rest (va_Qd post (bW D N cf ad (aW N ad H.size)) (aW N ad H.size) a) (aW N ad H.size))
    (kk : ∀ (r : UInt64) (S1 : vS) (H1 : Heap) (locs1 : List Loc), post r S1 → Wd D N cf ad A s.heap S1 H1 locs1 → Wd D N2 cf2 ad2 A s.heap T H1 locs1 → W p l e R s m args below meth c H1 locs1 cells slots Q (F0 m (pc + 3) ls (.double r :: rest))) : W p l e R s m args below meth c H locs cells slots Q (F0 m pc ls st0) :=
  va_calld hr hC.2.2.1 (fun q _ h => aW_A hC q h) (aW_A hC) (fun r u _ H1 locs1 ht _ hp hB _ hfr hS => kk r u H1 locs1 hp (hC.back (aW_A hC) ht hB hS) (hM.other hap hfr hS))
end
section
variable {S T : vS} {x : Int32}
/-- out is told by nobody -/
theorem rr_out (h : RR S T) : RR (st S oL 0 x) T := by
  have ec : ∀ g, g < 8 → cv (st S oL 0 x) g = cv S g := fun g hg => cv_st (q := 157) (by omega)
  refine h.text (fun j => ?_) ec rfl rfl rfl ?_
  · rw [st_at, if_neg (fun z => absurd z.1 (by decide))]
  · obtain ⟨len, a, b, c, d, f⟩ := h.2.2.2
    refine ⟨len, a, ?_, c, d, ?_⟩
    · rw [st_at, if_neg (fun z => absurd z.1 (by decide))]; exact b
    · rw [← f]; exact st_row (q := oL) (c := tC) (by decide)
/-- a helper beside the model -/
theorem hL_ce {mp : Nat → Int32} {z : (Nat × Int32) × vS} {k r : Int32} {S1 T1 : vS} (hmp : ∀ c, c ≠ 0 → mp c ≠ 0) (h0 : mp 0 = 0) (hk : (k, S1) = hL mp z) (h : CE mp z (r, T1)) : RR S1 T1 ∧ T1 0 6 = k ∧ (k = 0 → S1 oL 0 = r) := by
  obtain ⟨h1, h2, h3⟩ := h
  unfold hL at hk
  by_cases c : z.1.1 = 0
  · rw [if_pos c] at hk
    obtain ⟨rfl, rfl⟩ := Prod.mk.inj hk
    refine ⟨rr_out h1, ?_, fun _ => ?_⟩
    · have h2' := h2
      rw [c, h0] at h2'
      exact h2'
    · rw [st_at, if_pos ⟨rfl, rfl⟩]; exact h3 c
  · rw [if_neg c] at hk
    obtain ⟨rfl, rfl⟩ := Prod.mk.inj hk
    exact ⟨h1, h2, fun q => absurd q (hmp _ c)⟩
theorem rr_pre (h : RR S T) : vp_in (T 0 3) 7 ∧ vp_in (T 1 3) 9 ∧ chairOK (T 1 2) ∧ ¬ T 1 6 = 0 ∧ vp_in (T 0 5) 61 := by
  obtain ⟨⟨o, s, a, b, c, d, f, g⟩, -, hI, len, l1, l2, l3, l4, l5⟩ := h
  refine ⟨by rw [f]; exact vp_in_nI (by omega) (by decide), hI.2.2.2.2.2.1, hI.2.2.2.2.1, fun q => ?_, by rw [l3]; exact vp_in_nI (by omega) (by decide)⟩
  have := hI.2.2.2.2.2.2.1.2.2.1.1
  rw [q, z32] at this
  omega
theorem mp_01 : ∀ c, c ≠ 0 → (fun c : Nat => if c = 0 then (0 : Int32) else 1) c ≠ 0 := fun c hc => by
  show ¬ (if c = 0 then (0 : Int32) else 1) = 0
  rw [if_neg hc]; decide
theorem mp_le : ∀ c, c ≠ 0 → (fun c : Nat => if c = 0 then (0 : Int32) else if c = 2 then 1 else 2) c ≠ 0 := fun c hc => by
  show ¬ (if c = 0 then (0 : Int32) else if c = 2 then 1 else 2) = 0
  rw [if_neg hc]; split <;> decide
theorem mp_3 : ∀ c, c ≠ 0 → mp3 c ≠ 0 := fun c hc => by
  unfold mp3
  rw [if_neg hc]; split <;> (try decide); split <;> decide
theorem mp_A : ∀ c, c ≠ 0 → mpA c ≠ 0 := fun c hc => by
  unfold mpA
  rw [if_neg hc]; split <;> decide
theorem lcmp_self {a b : Int64} (h : a = b) : lcmpV a b = 0 := by
  unfold lcmpV
  rw [h, if_neg (Int64.lt_irrefl (a := b)), if_pos rfl]
theorem sc_in {i L j : Nat} (h : i + 4 ≤ L) (hL : L ≤ 2048) (hj : j < 4) : vp_in (nI i + nI j) L := by
  rw [nI_add]
  exact vp_in_nI (by omega) (by omega)
theorem and31 (x : Int32) : ∃ k, k < 32 ∧ x &&& 31 = nI k := by
  refine ⟨(x.toBitVec &&& 31#32).toNat, ?_, ?_⟩
  · rw [BitVec.toNat_and]
    exact Nat.lt_of_le_of_lt (Nat.and_le_right (m := (31#32).toNat)) (by decide)
  · apply Int32.toBitVec_inj.mp
    show x.toBitVec &&& 31#32 = BitVec.ofNat 32 (x.toBitVec &&& 31#32).toNat
    rw [BitVec.ofNat_toNat, BitVec.setWidth_eq]
theorem no_more {i L : Nat} (hL : L ≤ 2048) (hi : i ≤ 2100) (h : ¬ Int32.ofNat L - 4 < nI i) : i + 4 ≤ L := by
  have e1 : (Int32.ofNat L).toInt = L := nI_toInt (n := L) (by omega)
  have e4 : (4 : Int32).toInt = 4 := by decide
  rw [Int32.lt_iff_toInt_lt, fb_subI (by rw [e1, e4]; omega) (by rw [e1, e4]; omega), e1, e4, nI_toInt (by omega)] at h
  omega
theorem nan_no {v : UInt64} (h : shN v) : Op.cmpValue (FP.dcmp v v) .l = 0 := by
  have nn : FP.Core.val64 v ≠ .nan := by
    rcases h with rfl | ⟨h1, h2, h3⟩
    · decide +kernel
    · rw [norm_split h1 (by omega)]; exact FP.Core.Datum.noConfusion
  have ec : FP.dcmp v v = some .eq := by
    have : FP.dcmp v v = some (compare (FP.Core.dkey v) (FP.Core.dkey v)) := FP.Core.dcmp_key nn nn
    rw [this, FP.Core.compare_ite, if_neg (Int.lt_irrefl _), if_pos rfl]
  rw [ec]
  decide
end
end LAWBASE
