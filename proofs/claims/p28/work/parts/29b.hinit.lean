section HINIT
abbrev qG : Type := Nat × Nat × Nat × (Nat → Nat)
def gF (D : va_G) (x : qG) : va_W := glF D x.1 x.2.1 x.2.2.1 x.2.2.2
theorem gF_len (D : va_G) (x : qG) : (gF D x).length = 19 := by
  unfold gF glF
  rw [List.length_set, gl_len]
def gFt (D : va_G) (x : qG) : va_W := (gF D x).drop 1
theorem gF_cons (D : va_G) (x : qG) : gF D x = (x.1, .inr (0, iniG x.2.1 x.2.2.1)) :: gFt D x := rfl
def grs (D : va_G) (gs : List qG) : va_W := gs.flatMap (gF D)
theorem grs_len (D : va_G) (gs : List qG) : (grs D gs).length = 19 * gs.length := by
  induction gs with
  | nil => rfl
  | cons x gs ih =>
    show (gF D x ++ grs D gs).length = _
    rw [List.length_append, gF_len, ih, List.length_cons]
    omega
theorem grs_snoc (D : va_G) (gs : List qG) (x : qG) : grs D (gs ++ [x]) = grs D gs ++ gF D x := by
  unfold grs
  rw [List.flatMap_append]
  simp
def gsA (gs : List qG) : Nat → Option Nat := fun i => (gs[i]?).map (fun x => x.1)
def iniH (a : Nat) : List Value := [.ref a, .int 0, .int 0]
def zsH : List Value := [.null, .int 0, .int 0]
def hB (D : va_G) (h a : Nat) (gs : List qG) : va_W := [(h, .inr (1, iniH a)), (a, .inl (D.1 13, 6, .inr (.inr (.inr (.inr (gsA gs))))))]
def hl_ (D : va_G) (h a : Nat) (gs : List qG) : va_W := hB D h a gs ++ grs D gs
theorem hl_len (D : va_G) (h a : Nat) (gs : List qG) : (hl_ D h a gs).length = 2 + 19 * gs.length := by
  unfold hl_ hB
  rw [List.length_append, grs_len]
  rfl
theorem hl_step (D : va_G) (h a : Nat) (gs : List qG) (x : qG) (e0 : va_E) : (((hl_ D h a gs ++ [(x.1, e0)]).set (2 + 19 * gs.length) (x.1, .inr (0, iniG x.2.1 x.2.2.1)) ++ gFt D x).set 1 (a, .inl (D.1 13, 6, .inr (.inr (.inr (.inr (va_up (gsA gs) gs.length (some x.1)))))))) = hl_ D h a (gs ++ [x]) := by
  have h1 : (hl_ D h a gs ++ [(x.1, e0)]).set (2 + 19 * gs.length) (x.1, .inr (0, iniG x.2.1 x.2.2.1)) = hl_ D h a gs ++ [(x.1, .inr (0, iniG x.2.1 x.2.2.1))] := by
    rw [List.set_append_right _ _ (by rw [hl_len]; exact Nat.le_refl _), hl_len, Nat.sub_self]
    rfl
  have h2 : va_up (gsA gs) gs.length (some x.1) = gsA (gs ++ [x]) := by
    funext i
    unfold va_up gsA
    by_cases h : i = gs.length
    · subst h
      rw [if_pos rfl, List.getElem?_append_right (Nat.le_refl _), Nat.sub_self]
      rfl
    · rw [if_neg h]
      rcases Nat.lt_or_ge i gs.length with hi | hi
      · rw [List.getElem?_append_left hi]
      · rw [List.getElem?_eq_none hi, List.getElem?_eq_none (by rw [List.length_append]; simp; omega)]
  rw [h1, h2]
  unfold hl_
  rw [grs_snoc, gF_cons]
  unfold hB
  simp only [List.cons_append, List.nil_append, List.append_assoc, List.set_cons_succ, List.set_cons_zero]
theorem hl_at (D : va_G) (h a : Nat) (gs : List qG) (x : va_W) : (hl_ D h a gs ++ x)[0]? = some (h, .inr (1, iniH a)) ∧ (hl_ D h a gs ++ x)[1]? = some (a, .inl (D.1 13, 6, .inr (.inr (.inr (.inr (gsA gs)))))) := ⟨rfl, rfl⟩
theorem hl_last (D : va_G) (h a : Nat) (gs : List qG) (q : Nat × va_E) : (hl_ D h a gs ++ [q])[2 + 19 * gs.length]? = some q := by
  rw [List.getElem?_append_right (by rw [hl_len]; exact Nat.le_refl _), hl_len, Nat.sub_self]
  rfl
variable {p : Program} {l : Launch} {e : Env} {R : Room} {s : State} {m : MethodId} {args : Array Value} {below : List Frame} {meth : Method} {c : Code} {H : Heap} {locs : List Loc} {cells slots : Nat} {Q : State → Prop}
variable {D : va_G} {A : Nat → Prop} {H0 : Heap} {ws : va_W}
theorem hd_X1_init : yX1_init.cls = RX1 ∧ yX1_init.cls ≠ "java/lang/invoke/MethodHandle" ∧ yX1_init.cls ≠ "java/lang/invoke/VarHandle" ∧ (parseMethodDescriptor yX1_init.desc).map (fun d => d.parameters.length) = some 0 := by decide +kernel
set_option maxHeartbeats 1000000 in
set_option maxRecDepth 100000 in
theorem w_X1_init (l : Launch) (B : Cx p m c cX1_init 2 s args wsX1_init RX1 meth none D) (hao : aoC s) {o a : Nat} (hQ : Q = MQ below (va_Qv (fun u : va_W => ∃ a gs, gs.length = 6 ∧ u = hl_ D o a gs) (bI D A) A) args s 115 1296 A) : ∀ (k n : Nat) (gs : List qG) (H : Heap) (locs : List Loc) (ls : Array Slot), gs.length = n → n + k = 6 → LW D A s.heap (hl_ D o a gs) H locs → lv_has ls 2 [(1, .int (nI n)), (0, .ref o)] → ls.size = 2 →
    W p l e (rmK 3 115 1296) s m args below meth c H locs (1 + 19 * n) (6 + 215 * n) Q (F0 m 15 ls []) := by
  have hx := B.1.1
  have hb := B.1.2.1
  have hin1 : ∀ w ∈ u_ws RX1 TX1 3, w ∈ wsX1_init := fun w h => List.mem_cons_of_mem _ (List.mem_append_left _ (List.mem_append_left _ (List.mem_append_right _ h)))
  have hin0 : ∀ w ∈ u_ws RX0 TX0 11, w ∈ wsX1_init := fun w h => List.mem_cons_of_mem _ (List.mem_append_left _ (List.mem_append_right _ h))
  have km := B.1.2.2.2.2 (.fieldLink RX1 11 "JointLoans$History" "states" "[LJointLoans$Group;") (by decide +kernel)
  have kn := B.1.2.2.2.2 (.instanceMethod yX0_init) (by decide +kernel)
  have ki := B.1.2.2.2.2 (.initialized RX0) (by decide +kernel)
  have kl := B.1.2.2.2.2 (.classLink RX1 9 RX0) (by decide +kernel)
  have kt := B.1.2.2.2.2 (.instantiable RX0 11) (by decide +kernel)
  intro k
  induction k with
  | zero =>
    intro n gs H locs ls hg hn hL hl hls
    have hn8 : n = 6 := by omega
    subst hn8
    refine lv_iload_n hx hb dX1_init_15 rfl (lv_at hl 0 rfl) ?_
    refine lv_bipush (v := 6) hx hb dX1_init_16 (by decide) ?_
    refine lv_icmp_ge (tgt := 40) hx hb dX1_init_18 (by decide) (fun _ => ?_) (fun h => absurd (Int32.le_refl _) h)
    rw [hQ]
    exact l_ret B hL ⟨Nat.le_of_ble_eq_true rfl, Nat.le_of_ble_eq_true rfl⟩ ⟨a, gs, hg, rfl⟩ dX1_init_40
  | succ k ih =>
    intro n gs H locs ls hg hn hL hl hls
    have hn8 : n < 6 := by omega
    refine lv_iload_n hx hb dX1_init_15 rfl (lv_at hl 0 rfl) ?_
    refine lv_bipush (v := 6) hx hb dX1_init_16 (by decide) ?_
    refine lv_icmp_ge (tgt := 40) hx hb dX1_init_18 (by decide) (fun h => absurd h (nle_of_lt (nI_lt (a := n) (b := 6) hn8 (by decide)))) (fun _ => ?_)
    refine lv_aload_n hx hb dX1_init_21 rfl (lv_at hl 1 rfl) ?_
    refine l_get B hL (ci := 1) (fs := iniH a) 0 rfl cls1 hin1 0 (by decide) (v := .ref a) rfl km dX1_init_22 ?_
    refine lv_iload_n hx hb dX1_init_25 rfl (lv_at hl 0 rfl) ?_
    refine l_new B hL cls0 hin0 tyX0 tyX0_ok kl kt ki (fs := zsG) (by decide +kernel) ⟨by show _ ≤ 115; omega, by show _ ≤ 1296; omega⟩ dX1_init_26 (fun q H hL => ?_)
    refine lv_dup hx hb dX1_init_29 rfl ?_
    subst hg
    refine l_callI B hL hao (i := 2 + 19 * gs.length) (As := []) (rest := .ref q :: .int (nI gs.length) :: .ref a :: []) (hl_last D o a gs _) (c_X0_init l _ q) ⟨va_cnB 0 B.1.2.2.2.2 gX1_init_X0_init_n17 rfl rfl rfl (B.2.1.2 _ nl_X1_17) ki hd_X0_init.2 ⟨Nat.le_of_ble_eq_true rfl, Nat.le_of_ble_eq_true rfl⟩, rfl, kn⟩ rfl hls (Nat.le_of_ble_eq_true rfl) dX1_init_30 ⟨by show _ ≤ 115; omega, by show _ ≤ 1296; omega⟩ (fun u H locs hu hL => ?_)
    obtain ⟨ga, gt, gm, rfl⟩ := hu
    have hL := hL _ _ (gF_cons D (q, ga, gt, gm))
    refine l_aast B hL (f := gsA gs) (v := q) (vs := iniG ga gt) (ci := 0) (C := RX0) (T := TX0) (NN := 11) 1 3 (2 + 19 * gs.length) ?_ rfl ?_ rfl (isN_nI hn8 (by decide)) (by decide) dX1_init_33 (fun H locs hL => ?_)
    · rw [List.getElem?_append_left (by rw [List.length_set, List.length_append, hl_len]; omega), List.getElem?_set_ne (by omega)]
      exact (hl_at D o a gs _).2
    · rw [List.getElem?_append_left (by rw [List.length_set, List.length_append, hl_len]; simp), List.getElem?_set_self (by rw [List.length_append, hl_len]; simp)]
    rw [hl_step D o a gs (q, ga, gt, gm)] at hL
    refine lv_iinc (v := nI (gs.length + 1)) (lv' := [(1, .int (nI (gs.length + 1))), (0, .ref o)]) hx hb dX1_init_34 hl (k := 0) rfl (nI_1 _) (by decide) rfl (fun ls hl => ?_)
    have hls := hl.1
    refine lv_goto (tgt := 15) hx hb dX1_init_37 (by decide) ?_
    have e1 : 1 + 19 * gs.length + 1 + 18 = 1 + 19 * (gs.length + 1) := by omega
    have e2 : 6 + 215 * gs.length + 11 + 204 = 6 + 215 * (gs.length + 1) := by omega
    rw [e1, e2]
    exact ih (gs.length + 1) _ H locs ls (by rw [List.length_append]; rfl) (by omega) hL hl hls
set_option maxHeartbeats 1000000 in
set_option maxRecDepth 100000 in
theorem c_X1_init {D : va_G} (l : Launch) (sz o : Nat) : Met l yX1_init wsX1_init (rmK 3 115 1296) (pI D sz o (.inr (1, zsH)) []) (va_Qv (fun u : va_W => ∃ a gs, gs.length = 6 ∧ u = hl_ D o a gs) (bI D (aI sz o)) (aI sz o)) 115 1296 (aI sz o) := by
  refine x_metI (own := RX1) (cc := cX1_init) (maxL := 2) rfl ⟨by decide +kernel, rfl, Nat.le_of_ble_eq_true rfl⟩ ?_
  intro p e s mm args below meth c A ls B hnm hao hL hl hls
  have hx := B.1.1
  have hb := B.1.2.1
  have hl : lv_has ls 2 [(0, .ref o)] := hl
  have hin1 : ∀ w ∈ u_ws RX1 TX1 3, w ∈ wsX1_init := fun w h => List.mem_cons_of_mem _ (List.mem_append_left _ (List.mem_append_left _ (List.mem_append_right _ h)))
  have km := B.1.2.2.2.2 (.fieldLink RX1 11 "JointLoans$History" "states" "[LJointLoans$Group;") (by decide +kernel)
  have kl := B.1.2.2.2.2 (.classLink RX1 9 RX0) (by decide +kernel)
  refine lv_aload_n hx hb dX1_init_0 rfl (lv_at hl 0 rfl) ?_
  refine W.objInit hx hb B.1.2.2.2.1 (B.1.2.2.2.2 (.methodLink RX1 3 objectInit) (by decide +kernel)) (B.1.2.2.2.2 (.instanceMethod objectInit) (by decide +kernel)) (B.1.2.2.2.2 _ (List.mem_cons_of_mem _ (List.mem_append_left _ (List.mem_append_left _ (List.mem_append_left _ (List.mem_of_getElem? (i := 2) rfl)))))) rfl (by rw [B.1.2.2.1]; exact hl.1) rfl dX1_init_1 (Nat.le_of_ble_eq_true rfl) (Nat.le_of_ble_eq_true rfl) ?_
  refine W.eq (g2 := F0 mm 4 ls []) rfl ?_
  refine lv_aload_n hx hb dX1_init_4 rfl (lv_at hl 0 rfl) ?_
  refine lv_bipush (v := 6) hx hb dX1_init_5 (by decide) ?_
  refine l_newq (C := RX0) B hL kl hao.2 (k := 3) (cT := D.1 13) rfl (N' := 6) ⟨by decide, by decide⟩ (Nat.le_of_ble_eq_true rfl) ⟨Nat.le_of_ble_eq_true rfl, Nat.le_of_ble_eq_true rfl⟩ dX1_init_7 (fun a H hL => ?_)
  refine l_putF B hL hnm (o := o) (ci := 1) (fs := zsH) (v := .ref a) (ty := .array (.object "JointLoans$Group")) 0 rfl cls1 hin1 0 (by decide) rfl rfl (by decide +kernel) rfl rfl (Nat.le_of_ble_eq_true rfl) km dX1_init_10 (fun H locs hL => ?_)
  refine lv_iconst (v := 0) hx hb dX1_init_13 (by decide) ?_
  refine lv_istore_n (lv' := [(1, .int 0), (0, .ref o)]) hx hb dX1_init_14 rfl hl (by decide) rfl (fun ls hl => ?_)
  have hls := hl.1
  have hL : LW D A s.heap (hl_ D o a []) H locs := hL
  exact w_X1_init l B hao rfl 6 0 [] H locs ls rfl rfl hL hl hls
end HINIT
