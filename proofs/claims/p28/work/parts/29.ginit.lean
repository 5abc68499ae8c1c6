section GINIT
variable {p : Program} {l : Launch} {e : Env} {R : Room} {s : State} {m : MethodId} {args : Array Value} {below : List Frame} {meth : Method} {c : Code} {H : Heap} {locs : List Loc} {cells slots : Nat} {Q : State → Prop}
variable {cc : ByteArray} {nL : Nat} {Ts : List Cond} {own : String} {ret : Option FieldType} {D : va_G} {A : Nat → Prop} {H0 : Heap} {ws : va_W}
variable {pc : Nat} {ls : Array Slot} {rest : List Value}
theorem l_aast (B : Cx p m c cc nL s args Ts own meth ret D) (hL : LW D A H0 ws H locs) {a n v ci : Nat} {cA : ClassId} {C : String} {T : u_T} {NN : Nat} {f : Nat → Option Nat} {vs : List Value} (q0 t0 qk : Nat) (ha : ws[q0]? = some (a, .inl (cA, n, .inr (.inr (.inr (.inr f)))))) (ht : (tysC D)[t0]? = some (cA, .object C)) (hv : ws[qk]? = some (v, .inr (ci, vs))) (hc : vwCl[ci]? = some (C, T, NN)) {i : Int32} {k : Nat} (hi : isN i k n) (h31 : n < 2 ^ 31) (d : decode cc pc = .ok (.aastore, 1))
    (kk : ∀ (H1 : Heap) (locs1 : List Loc), LW D A H0 (ws.set q0 (a, .inl (cA, n, .inr (.inr (.inr (.inr (va_up f k (some v)))))))) H1 locs1 → W p l e R s m args below meth c H1 locs1 cells slots Q (F0 m (pc + 1) ls rest)) : W p l e R s m args below meth c H locs cells slots Q (F0 m pc ls (.ref v :: .int i :: .ref a :: rest)) := by
  refine va_astq B.1.1 B.1.2.1 B.2.1.1 hL.1 hL.2.1 hL.2.2.1 q0 t0 qk ci (r := (C, T, NN)) ha ht hv hc (isN_vin hi (Nat.le_refl _) h31) d (fun H1 locs1 hP hD hS => ?_)
  rw [isN_tcn hi] at hP hD
  exact kk H1 locs1 ⟨hP, hD, hS, hL.2.2.2⟩
def zsG : List Value := [.null, .null, .int 0, .int 0, .int 0, .int 0, .int 0, .int 0, .int 0, .int 0, .int 0]
def iniG (a t : Nat) : List Value := [.ref a, .ref t, .int 0, .int 0, .int 0, .int (-1), .int 0, .int 0, .int 0, .int 0, .int 0]
def tlE (D : va_G) (am : Nat → Nat) (j : Nat) : va_E := if j % 2 = 0 then .inr (2, iniM (nI (j / 2)) (am (j + 1))) else zA D 8
def tl (D : va_G) (n : Nat) (am : Nat → Nat) : va_W := (List.range (2 * n)).map (fun j => (am j, tlE D am j))
def gB (D : va_G) (o a t n : Nat) (am : Nat → Nat) : va_W := [(o, .inr (0, iniG a t)), (a, .inl (D.1 12, 8, .inr (.inr (.inr (.inr (fun i => if i < n then some (am (2 * i)) else none)))))), (t, zA D 4)]
def gl (D : va_G) (o a t n : Nat) (am : Nat → Nat) : va_W := gB D o a t n am ++ tl D n am
theorem tl_len (n : Nat) (am : Nat → Nat) : (tl D n am).length = 2 * n := by simp [tl]
theorem gl_len (o a t n : Nat) (am : Nat → Nat) : (gl D o a t n am).length = 3 + 2 * n := by
  simp [gl, gB, tl_len]
  omega
def amS (am : Nat → Nat) (n q d : Nat) : Nat → Nat := fun j => if j = 2 * n then q else if j = 2 * n + 1 then d else am j
theorem tl_step (n : Nat) (am : Nat → Nat) (q d : Nat) : tl D (n + 1) (amS am n q d) = tl D n am ++ [(q, .inr (2, iniM (nI n) d)), (d, zA D 8)] := by
  unfold tl
  rw [show 2 * (n + 1) = 2 * n + 1 + 1 by omega, List.range_succ, List.range_succ, List.map_append, List.map_append, List.append_assoc]
  congr 1
  · refine List.map_congr_left fun j hj => ?_
    have hj : j < 2 * n := List.mem_range.mp hj
    have e1 : amS am n q d j = am j := by
      unfold amS
      rw [if_neg (by omega), if_neg (by omega)]
    refine Prod.ext e1 ?_
    unfold tlE
    by_cases h : j % 2 = 0
    · rw [if_pos h, if_pos h]
      have e2 : amS am n q d (j + 1) = am (j + 1) := by
        unfold amS
        rw [if_neg (by omega), if_neg (by omega)]
      rw [e2]
    · rw [if_neg h, if_neg h]
  · have e1 : amS am n q d (2 * n) = q := by unfold amS; rw [if_pos rfl]
    have e2 : amS am n q d (2 * n + 1) = d := by unfold amS; rw [if_neg (by omega), if_pos rfl]
    have e3 : tlE D (amS am n q d) (2 * n) = .inr (2, iniM (nI n) d) := by
      unfold tlE
      rw [if_pos (by omega), e2, show 2 * n / 2 = n by omega]
    have e4 : tlE D (amS am n q d) (2 * n + 1) = zA D 8 := by
      unfold tlE
      rw [if_neg (by omega)]
    simp only [List.map_cons, List.map_nil, e1, e2, e3, e4]
    rfl
theorem gl_step (o a t n : Nat) (am : Nat → Nat) (q d : Nat) (e0 : va_E) : (((gl D o a t n am ++ [(q, e0)]).set (3 + 2 * n) (q, .inr (2, iniM (nI n) d)) ++ [(d, zA D 8)]).set 1 (a, .inl (D.1 12, 8, .inr (.inr (.inr (.inr (va_up (fun i => if i < n then some (am (2 * i)) else none) n (some q)))))))) = gl D o a t (n + 1) (amS am n q d) := by
  have h1 : (gl D o a t n am ++ [(q, e0)]).set (3 + 2 * n) (q, .inr (2, iniM (nI n) d)) = gl D o a t n am ++ [(q, .inr (2, iniM (nI n) d))] := by
    rw [List.set_append_right _ _ (by rw [gl_len]; exact Nat.le_refl _), gl_len, Nat.sub_self]
    rfl
  rw [h1]
  unfold gl
  rw [tl_step]
  have h2 : (fun i => if i < n + 1 then some (amS am n q d (2 * i)) else none) = va_up (fun i => if i < n then some (am (2 * i)) else none) n (some q) := by
    funext i
    unfold va_up
    by_cases h : i = n
    · subst h
      rw [if_pos rfl, if_pos (by omega)]
      unfold amS
      rw [if_pos rfl]
    · rw [if_neg h]
      show _ = if i < n then some (am (2 * i)) else none
      by_cases h2 : i < n
      · rw [if_pos h2, if_pos (by omega)]
        unfold amS
        rw [if_neg (by omega), if_neg (by omega)]
      · rw [if_neg h2, if_neg (by omega)]
  unfold gB
  rw [h2]
  simp only [List.cons_append, List.nil_append, List.append_assoc, List.set_cons_succ, List.set_cons_zero]
theorem gl_at (o a t n : Nat) (am : Nat → Nat) (x : va_W) : (gl D o a t n am ++ x)[0]? = some (o, .inr (0, iniG a t)) ∧ (gl D o a t n am ++ x)[1]? = some (a, .inl (D.1 12, 8, .inr (.inr (.inr (.inr (fun i => if i < n then some (am (2 * i)) else none)))))) := ⟨rfl, rfl⟩
theorem gl_last (o a t n : Nat) (am : Nat → Nat) (q : Nat × va_E) : (gl D o a t n am ++ [q])[3 + 2 * n]? = some q := by
  rw [List.getElem?_append_right (by rw [gl_len]; exact Nat.le_refl _), gl_len, Nat.sub_self]
  rfl
def setG : Nat → Int32 := upd (upd (upd (upd (fun _ => 0) 0 5) 1 5) 2 4) 3 50
def glF (D : va_G) (o a t : Nat) (am : Nat → Nat) : va_W := (gl D o a t 8 am).set 2 (t, .inl (D.1 10, 4, .inl setG))
theorem hd_X0_init : yX0_init.cls = RX0 ∧ yX0_init.cls ≠ "java/lang/invoke/MethodHandle" ∧ yX0_init.cls ≠ "java/lang/invoke/VarHandle" ∧ (parseMethodDescriptor yX0_init.desc).map (fun d => d.parameters.length) = some 0 := by decide +kernel
set_option maxHeartbeats 1000000 in
set_option maxRecDepth 100000 in
theorem w_X0_init (l : Launch) (B : Cx p m c cX0_init 2 s args wsX0_init RX0 meth none D) (hao : aoC s) {o a t : Nat} (hQ : Q = MQ below (va_Qv (fun u : va_W => ∃ a t am, u = glF D o a t am) (bI D A) A) args s 18 204 A) : ∀ (k n : Nat) (am : Nat → Nat) (H : Heap) (locs : List Loc) (ls : Array Slot), n + k = 8 → LW D A s.heap (gl D o a t n am) H locs → lv_has ls 2 [(1, .int (nI n)), (0, .ref o)] → ls.size = 2 →
    W p l e (rmK 2 18 204) s m args below meth c H locs (2 + 2 * n) (12 + 24 * n) Q (F0 m 27 ls []) := by
  have hx := B.1.1
  have hb := B.1.2.1
  have hin0 : ∀ w ∈ u_ws RX0 TX0 11, w ∈ wsX0_init := fun w h => List.mem_cons_of_mem _ (List.mem_append_left _ (List.mem_append_right _ h))
  have hin2 : ∀ w ∈ u_ws RX2 TX2 16, w ∈ wsX0_init := fun w h => List.mem_cons_of_mem _ (List.mem_append_right _ h)
  have km := B.1.2.2.2.2 (.fieldLink RX0 11 "JointLoans$Group" "members" "[LJointLoans$Member;") (by decide +kernel)
  have ks := B.1.2.2.2.2 (.fieldLink RX0 17 "JointLoans$Group" "settings" "[I") (by decide +kernel)
  have kn := B.1.2.2.2.2 (.instanceMethod yX2_init) (by decide +kernel)
  have ki := B.1.2.2.2.2 (.initialized RX2) (by decide +kernel)
  have kl := B.1.2.2.2.2 (.classLink RX0 9 RX2) (by decide +kernel)
  have kt := B.1.2.2.2.2 (.instantiable RX2 16) (by decide +kernel)
  intro k
  induction k with
  | zero =>
    intro n am H locs ls hn hL hl hls
    have hn8 : n = 8 := by omega
    subst hn8
    refine lv_iload_n hx hb dX0_init_27 rfl (lv_at hl 0 rfl) ?_
    refine lv_bipush (v := 8) hx hb dX0_init_28 (by decide) ?_
    refine lv_icmp_ge (tgt := 53) hx hb dX0_init_30 (by decide) (fun _ => ?_) (fun h => absurd (Int32.le_refl _) h)
    refine lv_aload_n hx hb dX0_init_53 rfl (lv_at hl 1 rfl) ?_
    refine l_get B hL (ci := 0) (fs := iniG a t) 0 rfl cls0 hin0 1 (by decide) (v := .ref t) rfl ks dX0_init_54 ?_
    refine lv_iconst (v := 0) hx hb dX0_init_57 (by decide) ?_
    refine lv_iconst (v := 5) hx hb dX0_init_58 (by decide) ?_
    refine l_iast B hL (n := 4) (f := fun _ => 0) (k := 0) 2 rfl ⟨rfl, by decide, by decide⟩ (by decide) dX0_init_59 (fun H locs hL => ?_)
    refine lv_aload_n hx hb dX0_init_60 rfl (lv_at hl 1 rfl) ?_
    refine l_get B hL (ci := 0) (fs := iniG a t) 0 rfl cls0 hin0 1 (by decide) (v := .ref t) rfl ks dX0_init_61 ?_
    refine lv_iconst (v := 1) hx hb dX0_init_64 (by decide) ?_
    refine lv_iconst (v := 5) hx hb dX0_init_65 (by decide) ?_
    refine l_iast B hL (n := 4) (f := upd (fun _ => 0) 0 5) (k := 1) 2 rfl ⟨rfl, by decide, by decide⟩ (by decide) dX0_init_66 (fun H locs hL => ?_)
    refine lv_aload_n hx hb dX0_init_67 rfl (lv_at hl 1 rfl) ?_
    refine l_get B hL (ci := 0) (fs := iniG a t) 0 rfl cls0 hin0 1 (by decide) (v := .ref t) rfl ks dX0_init_68 ?_
    refine lv_iconst (v := 2) hx hb dX0_init_71 (by decide) ?_
    refine lv_iconst (v := 4) hx hb dX0_init_72 (by decide) ?_
    refine l_iast B hL (n := 4) (f := upd (upd (fun _ => 0) 0 5) 1 5) (k := 2) 2 rfl ⟨rfl, by decide, by decide⟩ (by decide) dX0_init_73 (fun H locs hL => ?_)
    refine lv_aload_n hx hb dX0_init_74 rfl (lv_at hl 1 rfl) ?_
    refine l_get B hL (ci := 0) (fs := iniG a t) 0 rfl cls0 hin0 1 (by decide) (v := .ref t) rfl ks dX0_init_75 ?_
    refine lv_iconst (v := 3) hx hb dX0_init_78 (by decide) ?_
    refine lv_bipush (v := 50) hx hb dX0_init_79 (by decide) ?_
    refine l_iast B hL (n := 4) (f := upd (upd (upd (fun _ => 0) 0 5) 1 5) 2 4) (k := 3) 2 rfl ⟨rfl, by decide, by decide⟩ (by decide) dX0_init_81 (fun H locs hL => ?_)
    rw [hQ]
    exact l_ret B hL ⟨Nat.le_of_ble_eq_true rfl, Nat.le_of_ble_eq_true rfl⟩ ⟨a, t, am, rfl⟩ dX0_init_82
  | succ k ih =>
    intro n am H locs ls hn hL hl hls
    have hn8 : n < 8 := by omega
    have hL : LW D A s.heap (gl D o a t n am ++ []) H locs := by rw [List.append_nil]; exact hL
    refine lv_iload_n hx hb dX0_init_27 rfl (lv_at hl 0 rfl) ?_
    refine lv_bipush (v := 8) hx hb dX0_init_28 (by decide) ?_
    refine lv_icmp_ge (tgt := 53) hx hb dX0_init_30 (by decide) (fun h => absurd h (nle_of_lt (nI_lt (a := n) (b := 8) hn8 (by decide)))) (fun _ => ?_)
    refine lv_aload_n hx hb dX0_init_33 rfl (lv_at hl 1 rfl) ?_
    refine l_get B hL (ci := 0) (fs := iniG a t) 0 (gl_at o a t n am []).1 cls0 hin0 0 (by decide) (v := .ref a) rfl km dX0_init_34 ?_
    refine lv_iload_n hx hb dX0_init_37 rfl (lv_at hl 0 rfl) ?_
    rw [List.append_nil] at hL
    refine l_new B hL cls2 hin2 tyX2 tyX2_ok kl kt ki (fs := zsM) (by decide +kernel) ⟨by show _ ≤ 18; omega, by show _ ≤ 204; omega⟩ dX0_init_38 (fun q H hL => ?_)
    refine lv_dup hx hb dX0_init_41 rfl ?_
    refine lv_iload_n hx hb dX0_init_42 rfl (lv_at hl 0 rfl) ?_
    refine l_callI B hL hao (i := 3 + 2 * n) (As := [.int (nI n)]) (rest := .ref q :: .int (nI n) :: .ref a :: []) (gl_last o a t n am _) (c_X2_init l _ q (nI n)) ⟨va_cnB 1 B.1.2.2.2.2 gX0_init_X2_init_n25 rfl rfl rfl (B.2.1.2 _ nl_X0_25) ki hd_X2_init.2 ⟨Nat.le_of_ble_eq_true rfl, Nat.le_of_ble_eq_true rfl⟩, rfl, kn⟩ rfl hls (Nat.le_of_ble_eq_true rfl) dX0_init_43 ⟨by show _ ≤ 18; omega, by show _ ≤ 204; omega⟩ (fun u H locs hu hL => ?_)
    obtain ⟨d, rfl⟩ := hu
    have hL := hL _ _ rfl
    refine l_aast B hL (f := fun i => if i < n then some (am (2 * i)) else none) (v := q) (vs := iniM (nI n) d) (ci := 2) (C := RX2) (T := TX2) (NN := 16) 1 2 (3 + 2 * n) ?_ rfl ?_ rfl (isN_nI hn8 (by decide)) (by decide) dX0_init_46 (fun H locs hL => ?_)
    · rw [List.getElem?_append_left (by rw [List.length_set, List.length_append, gl_len]; omega), List.getElem?_set_ne (by omega)]
      exact (gl_at o a t n am _).2
    · rw [List.getElem?_append_left (by rw [List.length_set, List.length_append, gl_len]; simp), List.getElem?_set_self (by rw [List.length_append, gl_len]; simp)]
    rw [gl_step] at hL
    refine lv_iinc (v := nI (n + 1)) (lv' := [(1, .int (nI (n + 1))), (0, .ref o)]) hx hb dX0_init_47 hl (k := 0) rfl (nI_1 _) (by decide) rfl (fun ls hl => ?_)
    have hls := hl.1
    refine lv_goto (tgt := 27) hx hb dX0_init_50 (by decide) ?_
    have e1 : 2 + 2 * n + 1 + 1 = 2 + 2 * (n + 1) := by omega
    have e2 : 12 + 24 * n + 16 + 8 = 12 + 24 * (n + 1) := by omega
    rw [e1, e2]
    exact ih (n + 1) _ H locs ls (by omega) hL hl hls
set_option maxHeartbeats 1000000 in
set_option maxRecDepth 100000 in
theorem c_X0_init {D : va_G} (l : Launch) (sz o : Nat) : Met l yX0_init wsX0_init (rmK 2 18 204) (pI D sz o (.inr (0, zsG)) []) (va_Qv (fun u : va_W => ∃ a t am, u = glF D o a t am) (bI D (aI sz o)) (aI sz o)) 18 204 (aI sz o) := by
  refine x_metI (own := RX0) (cc := cX0_init) (maxL := 2) rfl ⟨by decide +kernel, rfl, Nat.le_of_ble_eq_true rfl⟩ ?_
  intro p e s mm args below meth c A ls B hnm hao hL hl hls
  have hx := B.1.1
  have hb := B.1.2.1
  have hl : lv_has ls 2 [(0, .ref o)] := hl
  have hin0 : ∀ w ∈ u_ws RX0 TX0 11, w ∈ wsX0_init := fun w h => List.mem_cons_of_mem _ (List.mem_append_left _ (List.mem_append_right _ h))
  have km := B.1.2.2.2.2 (.fieldLink RX0 11 "JointLoans$Group" "members" "[LJointLoans$Member;") (by decide +kernel)
  have ks := B.1.2.2.2.2 (.fieldLink RX0 17 "JointLoans$Group" "settings" "[I") (by decide +kernel)
  have kc := B.1.2.2.2.2 (.fieldLink RX0 21 "JointLoans$Group" "chair" "I") (by decide +kernel)
  have kl := B.1.2.2.2.2 (.classLink RX0 9 RX2) (by decide +kernel)
  refine lv_aload_n hx hb dX0_init_0 rfl (lv_at hl 0 rfl) ?_
  refine W.objInit hx hb B.1.2.2.2.1 (B.1.2.2.2.2 (.methodLink RX0 3 objectInit) (by decide +kernel)) (B.1.2.2.2.2 (.instanceMethod objectInit) (by decide +kernel)) (B.1.2.2.2.2 _ (List.mem_cons_of_mem _ (List.mem_append_left _ (List.mem_append_left _ (List.mem_of_getElem? (i := 2) rfl))))) rfl (by rw [B.1.2.2.1]; exact hl.1) rfl dX0_init_1 (Nat.le_of_ble_eq_true rfl) (Nat.le_of_ble_eq_true rfl) ?_
  refine W.eq (g2 := F0 mm 4 ls []) rfl ?_
  refine lv_aload_n hx hb dX0_init_4 rfl (lv_at hl 0 rfl) ?_
  refine lv_bipush (v := 8) hx hb dX0_init_5 (by decide) ?_
  refine l_newq (C := RX2) B hL kl hao.1 (k := 2) (cT := D.1 12) rfl (N' := 8) ⟨by decide, by decide⟩ (Nat.le_of_ble_eq_true rfl) ⟨Nat.le_of_ble_eq_true rfl, Nat.le_of_ble_eq_true rfl⟩ dX0_init_7 (fun a H hL => ?_)
  refine l_putF B hL hnm (o := o) (ci := 0) (fs := zsG) (v := .ref a) (ty := .array (.object "JointLoans$Member")) 0 rfl cls0 hin0 0 (by decide) rfl rfl (by decide +kernel) rfl rfl (Nat.le_of_ble_eq_true rfl) km dX0_init_10 (fun H locs hL => ?_)
  refine lv_aload_n hx hb dX0_init_13 rfl (lv_at hl 0 rfl) ?_
  refine lv_iconst (v := 4) hx hb dX0_init_14 (by decide) ?_
  refine l_newa (atype := .int) (ty := .int) B hL (B.1.2.2.2.2 (.arrayClass .int) (by decide +kernel)) rfl (k := 0) (cT := D.1 10) rfl (N' := 4) (zA_cell 4) ⟨by decide, by decide⟩ (Nat.le_of_ble_eq_true rfl) ⟨Nat.le_of_ble_eq_true rfl, Nat.le_of_ble_eq_true rfl⟩ dX0_init_15 (fun t H hL => ?_)
  refine l_putF B hL hnm (o := o) (ci := 0) (fs := zsG.set 0 (.ref a)) (v := .ref t) (ty := .array .int) 0 rfl cls0 hin0 1 (by decide) rfl rfl (by decide +kernel) rfl rfl (Nat.le_of_ble_eq_true rfl) ks dX0_init_17 (fun H locs hL => ?_)
  refine lv_aload_n hx hb dX0_init_20 rfl (lv_at hl 0 rfl) ?_
  refine lv_iconst (v := (-1)) hx hb dX0_init_21 (by decide) ?_
  refine l_put B hL (o := o) (ci := 0) (fs := (zsG.set 0 (.ref a)).set 1 (.ref t)) (v := .int (-1)) (ty := .int) 0 rfl cls0 hin0 5 (by decide) rfl (by decide +kernel) rfl rfl (Nat.le_of_ble_eq_true rfl) kc dX0_init_22 (fun H locs hL => ?_)
  refine lv_iconst (v := 0) hx hb dX0_init_25 (by decide) ?_
  refine lv_istore_n (lv' := [(1, .int 0), (0, .ref o)]) hx hb dX0_init_26 rfl hl (by decide) rfl (fun ls hl => ?_)
  have hls := hl.1
  have hL : LW D A s.heap (gl D o a t 0 (fun _ => 0)) H locs := by
    have e1 : (fun i : Nat => if i < 0 then some ((fun _ => 0 : Nat → Nat) (2 * i)) else none) = (fun _ => none) := by
      funext i
      rw [if_neg (by omega)]
    have e2 : gl D o a t 0 (fun _ => 0) = [(o, .inr (0, iniG a t)), (a, .inl (D.1 12, 8, .inr (.inr (.inr (.inr (fun _ => none)))))), (t, zA D 4)] := by
      unfold gl gB
      rw [e1]
      rfl
    rw [e2]
    exact hL
  exact w_X0_init l B hao rfl 8 0 _ H locs ls rfl hL hl hls
end GINIT
