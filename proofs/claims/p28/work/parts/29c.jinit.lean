section JINIT
theorem set_last {X : va_W} {i q : Nat} {z y : va_E} {new : va_W} (h : X.length = i) : (X ++ [(q, z)]).set i (q, y) ++ new = X ++ ((q, y) :: new) := by
  subst h
  rw [List.set_append_right _ _ (Nat.le_refl _), Nat.sub_self]
  simp
theorem at_last {X : va_W} {i : Nat} {q : Nat × va_E} (h : X.length = i) : (X ++ [q])[i]? = some q := by
  subst h
  rw [List.getElem?_append_right (Nat.le_refl _), Nat.sub_self]
  rfl
def jV (a b c d : Value) : List Value := [a, b, c, d]
def jL (D : va_G) (o : Nat) (v : List Value) (X : va_W) : va_W := (o, .inr (4, v)) :: X
def jlF (D : va_G) (o : Nat) (g0 g1 : qG) (h a : Nat) (gs : List qG) (t d : Nat) : va_W := jL D o (jV (.ref g0.1) (.ref g1.1) (.ref h) (.ref t)) (((gF D g0 ++ gF D g1) ++ hl_ D h a gs) ++ [(t, .inr (3, iniT d)), (d, zC D 60)])
theorem hd_X4_init : yX4_init.cls = RX4 ∧ yX4_init.cls ≠ "java/lang/invoke/MethodHandle" ∧ yX4_init.cls ≠ "java/lang/invoke/VarHandle" ∧ (parseMethodDescriptor yX4_init.desc).map (fun d => d.parameters.length) = some 0 := by decide +kernel
set_option maxHeartbeats 1000000 in
set_option maxRecDepth 100000 in
theorem c_X4_init {D : va_G} (l : Launch) (sz o : Nat) : Met l yX4_init wsX4_init (rmK 4 156 1796) (pI D sz o (.inr (4, jV .null .null .null .null)) []) (va_Qv (fun u : va_W => ∃ g0 g1 h a gs t d, gs.length = 6 ∧ u = jlF D o g0 g1 h a gs t d) (bI D (aI sz o)) (aI sz o)) 156 1796 (aI sz o) := by
  refine x_metI (own := RX4) (cc := cX4_init) (maxL := 1) rfl ⟨by decide +kernel, rfl, Nat.le_of_ble_eq_true rfl⟩ ?_
  intro p e s mm args below meth c A ls B hnm hao hL hl hls
  have hx := B.1.1
  have hb := B.1.2.1
  have hl : lv_has ls 1 [(0, .ref o)] := hl
  have hin0 : ∀ w ∈ u_ws RX0 TX0 11, w ∈ wsX4_init := fun w h => List.mem_cons_of_mem _ (List.mem_append_left _ (List.mem_append_left _ (List.mem_append_left _ (List.mem_append_left _ (List.mem_append_right _ h)))))
  have hin1 : ∀ w ∈ u_ws RX1 TX1 3, w ∈ wsX4_init := fun w h => List.mem_cons_of_mem _ (List.mem_append_left _ (List.mem_append_left _ (List.mem_append_right _ h)))
  have hin3 : ∀ w ∈ u_ws RX3 TX3 7, w ∈ wsX4_init := fun w h => List.mem_cons_of_mem _ (List.mem_append_left _ (List.mem_append_right _ h))
  have hin4 : ∀ w ∈ u_ws RX4 TX4 4, w ∈ wsX4_init := fun w h => List.mem_cons_of_mem _ (List.mem_append_left _ (List.mem_append_left _ (List.mem_append_left _ (List.mem_append_right _ h))))
  refine lv_aload_n hx hb dX4_init_0 rfl (lv_at hl 0 rfl) ?_
  refine W.objInit hx hb B.1.2.2.2.1 (B.1.2.2.2.2 (.methodLink RX4 1 objectInit) (by decide +kernel)) (B.1.2.2.2.2 (.instanceMethod objectInit) (by decide +kernel)) (B.1.2.2.2.2 _ (List.mem_cons_of_mem _ (List.mem_append_left _ (List.mem_append_left _ (List.mem_append_left _ (List.mem_append_left _ (List.mem_append_left _ (List.mem_append_left _ (List.mem_of_getElem? (i := 2) rfl))))))))) rfl (by rw [B.1.2.2.1]; exact hl.1) rfl dX4_init_1 (Nat.le_of_ble_eq_true rfl) (Nat.le_of_ble_eq_true rfl) ?_
  refine W.eq (g2 := F0 mm 4 ls []) rfl ?_
  have hL : LW D A s.heap (jL D o (jV .null .null .null .null) ([])) _ _ := hL
  have hlen : (jL D o (jV .null .null .null .null) ([])).length = 1 := by
    unfold jL
    simp only [List.length_cons, List.length_append, gF_len, hl_len, List.length_nil]
  refine lv_aload_n hx hb dX4_init_4 rfl (lv_at hl 0 rfl) ?_
  refine l_new B hL cls0 hin0 tyX0 tyX0_ok (B.1.2.2.2.2 (.classLink RX4 7 RX0) (by decide +kernel)) (B.1.2.2.2.2 (.instantiable RX0 11) (by decide +kernel)) (B.1.2.2.2.2 (.initialized RX0) (by decide +kernel)) (fs := zsG) (by decide +kernel) ⟨Nat.le_of_ble_eq_true rfl, Nat.le_of_ble_eq_true rfl⟩ dX4_init_5 (fun q H hL => ?_)
  refine lv_dup hx hb dX4_init_8 rfl ?_
  refine l_callI B hL hao (i := 1) (As := []) (rest := .ref q :: .ref o :: []) (at_last hlen) (c_X0_init l _ q) ⟨va_cnB 0 B.1.2.2.2.2 gX4_init_X0_init_n9 rfl rfl rfl (B.2.1.2 _ nl_X4_9) (B.1.2.2.2.2 (.initialized RX0) (by decide +kernel)) hd_X0_init.2 ⟨Nat.le_of_ble_eq_true rfl, Nat.le_of_ble_eq_true rfl⟩, rfl, B.1.2.2.2.2 (.instanceMethod yX0_init) (by decide +kernel)⟩ rfl hls (Nat.le_of_ble_eq_true rfl) dX4_init_9 ⟨Nat.le_of_ble_eq_true rfl, Nat.le_of_ble_eq_true rfl⟩ (fun u H locs hu hL => ?_)
  obtain ⟨ga, gt, gm, hu⟩ := hu
  obtain ⟨g0, hg0⟩ : ∃ x : qG, x = (q, ga, gt, gm) := ⟨_, rfl⟩
  have hu2 : u = gF D g0 := by rw [hu, hg0]; rfl
  have hq0 : q = g0.1 := by rw [hg0]
  subst hq0
  have hL := hL _ _ (hu2.trans (gF_cons D g0))
  rw [set_last hlen, ← gF_cons] at hL
  have hL : LW D A s.heap (jL D o (jV .null .null .null .null) (gF D g0)) _ _ := hL
  refine l_putF B hL hnm (o := o) (ci := 4) (fs := jV .null .null .null .null) (v := .ref g0.1) (ty := .object "JointLoans$Group") 0 rfl cls4 hin4 0 (by decide) rfl rfl (by decide +kernel) rfl rfl (Nat.le_of_ble_eq_true rfl) (B.1.2.2.2.2 (.fieldLink RX4 10 "JointLoans" "group" "LJointLoans$Group;") (by decide +kernel)) dX4_init_12 (fun H locs hL => ?_)
  have hL : LW D A s.heap (jL D o (jV (.ref g0.1) .null .null .null) (gF D g0)) _ _ := hL
  have hlen : (jL D o (jV (.ref g0.1) .null .null .null) (gF D g0)).length = 20 := by
    unfold jL
    simp only [List.length_cons, List.length_append, gF_len, hl_len, List.length_nil]
  refine lv_aload_n hx hb dX4_init_15 rfl (lv_at hl 0 rfl) ?_
  refine l_new B hL cls0 hin0 tyX0 tyX0_ok (B.1.2.2.2.2 (.classLink RX4 7 RX0) (by decide +kernel)) (B.1.2.2.2.2 (.instantiable RX0 11) (by decide +kernel)) (B.1.2.2.2.2 (.initialized RX0) (by decide +kernel)) (fs := zsG) (by decide +kernel) ⟨Nat.le_of_ble_eq_true rfl, Nat.le_of_ble_eq_true rfl⟩ dX4_init_16 (fun q H hL => ?_)
  refine lv_dup hx hb dX4_init_19 rfl ?_
  refine l_callI B hL hao (i := 20) (As := []) (rest := .ref q :: .ref o :: []) (at_last hlen) (c_X0_init l _ q) ⟨va_cnB 0 B.1.2.2.2.2 gX4_init_X0_init_n9 rfl rfl rfl (B.2.1.2 _ nl_X4_9) (B.1.2.2.2.2 (.initialized RX0) (by decide +kernel)) hd_X0_init.2 ⟨Nat.le_of_ble_eq_true rfl, Nat.le_of_ble_eq_true rfl⟩, rfl, B.1.2.2.2.2 (.instanceMethod yX0_init) (by decide +kernel)⟩ rfl hls (Nat.le_of_ble_eq_true rfl) dX4_init_20 ⟨Nat.le_of_ble_eq_true rfl, Nat.le_of_ble_eq_true rfl⟩ (fun u H locs hu hL => ?_)
  obtain ⟨ga, gt, gm, hu⟩ := hu
  obtain ⟨g1, hg1⟩ : ∃ x : qG, x = (q, ga, gt, gm) := ⟨_, rfl⟩
  have hu2 : u = gF D g1 := by rw [hu, hg1]; rfl
  have hq1 : q = g1.1 := by rw [hg1]
  subst hq1
  have hL := hL _ _ (hu2.trans (gF_cons D g1))
  rw [set_last hlen, ← gF_cons] at hL
  have hL : LW D A s.heap (jL D o (jV (.ref g0.1) .null .null .null) ((gF D g0) ++ gF D g1)) _ _ := hL
  refine l_putF B hL hnm (o := o) (ci := 4) (fs := jV (.ref g0.1) .null .null .null) (v := .ref g1.1) (ty := .object "JointLoans$Group") 0 rfl cls4 hin4 1 (by decide) rfl rfl (by decide +kernel) rfl rfl (Nat.le_of_ble_eq_true rfl) (B.1.2.2.2.2 (.fieldLink RX4 16 "JointLoans" "trial" "LJointLoans$Group;") (by decide +kernel)) dX4_init_23 (fun H locs hL => ?_)
  have hL : LW D A s.heap (jL D o (jV (.ref g0.1) (.ref g1.1) .null .null) ((gF D g0) ++ gF D g1)) _ _ := hL
  have hlen : (jL D o (jV (.ref g0.1) (.ref g1.1) .null .null) ((gF D g0) ++ gF D g1)).length = 39 := by
    unfold jL
    simp only [List.length_cons, List.length_append, gF_len, hl_len, List.length_nil]
  refine lv_aload_n hx hb dX4_init_26 rfl (lv_at hl 0 rfl) ?_
  refine l_new B hL cls1 hin1 tyX1 tyX1_ok (B.1.2.2.2.2 (.classLink RX4 19 RX1) (by decide +kernel)) (B.1.2.2.2.2 (.instantiable RX1 3) (by decide +kernel)) (B.1.2.2.2.2 (.initialized RX1) (by decide +kernel)) (fs := zsH) (by decide +kernel) ⟨Nat.le_of_ble_eq_true rfl, Nat.le_of_ble_eq_true rfl⟩ dX4_init_27 (fun q H hL => ?_)
  refine lv_dup hx hb dX4_init_30 rfl ?_
  refine l_callI B hL hao (i := 39) (As := []) (rest := .ref q :: .ref o :: []) (at_last hlen) (c_X1_init l _ q) ⟨va_cnB 0 B.1.2.2.2.2 gX4_init_X1_init_n21 rfl rfl rfl (B.2.1.2 _ nl_X4_21) (B.1.2.2.2.2 (.initialized RX1) (by decide +kernel)) hd_X1_init.2 ⟨Nat.le_of_ble_eq_true rfl, Nat.le_of_ble_eq_true rfl⟩, rfl, B.1.2.2.2.2 (.instanceMethod yX1_init) (by decide +kernel)⟩ rfl hls (Nat.le_of_ble_eq_true rfl) dX4_init_31 ⟨Nat.le_of_ble_eq_true rfl, Nat.le_of_ble_eq_true rfl⟩ (fun u H locs hu hL => ?_)
  obtain ⟨ha, gs, hgs, hu⟩ := hu
  have hL := hL _ _ hu
  rw [set_last hlen] at hL
  obtain ⟨h, hh⟩ : ∃ x : Nat, x = q := ⟨_, rfl⟩
  rw [← hh] at hL ⊢
  have hL : LW D A s.heap (jL D o (jV (.ref g0.1) (.ref g1.1) .null .null) (((gF D g0) ++ gF D g1) ++ hl_ D h ha gs)) _ _ := hL
  refine l_putF B hL hnm (o := o) (ci := 4) (fs := jV (.ref g0.1) (.ref g1.1) .null .null) (v := .ref h) (ty := .object "JointLoans$History") 0 rfl cls4 hin4 2 (by decide) rfl rfl (by decide +kernel) rfl rfl (Nat.le_of_ble_eq_true rfl) (B.1.2.2.2.2 (.fieldLink RX4 22 "JointLoans" "history" "LJointLoans$History;") (by decide +kernel)) dX4_init_34 (fun H locs hL => ?_)
  have hL : LW D A s.heap (jL D o (jV (.ref g0.1) (.ref g1.1) (.ref h) .null) (((gF D g0) ++ gF D g1) ++ hl_ D h ha gs)) _ _ := hL
  have hlen : (jL D o (jV (.ref g0.1) (.ref g1.1) (.ref h) .null) (((gF D g0) ++ gF D g1) ++ hl_ D h ha gs)).length = 155 := by
    unfold jL
    simp only [List.length_cons, List.length_append, gF_len, hl_len, List.length_nil, hgs]
  refine lv_aload_n hx hb dX4_init_37 rfl (lv_at hl 0 rfl) ?_
  refine l_new B hL cls3 hin3 tyX3 tyX3_ok (B.1.2.2.2.2 (.classLink RX4 26 RX3) (by decide +kernel)) (B.1.2.2.2.2 (.instantiable RX3 7) (by decide +kernel)) (B.1.2.2.2.2 (.initialized RX3) (by decide +kernel)) (fs := zsT) (by decide +kernel) ⟨Nat.le_of_ble_eq_true rfl, Nat.le_of_ble_eq_true rfl⟩ dX4_init_38 (fun q H hL => ?_)
  refine lv_dup hx hb dX4_init_41 rfl ?_
  refine l_callI B hL hao (i := 155) (As := []) (rest := .ref q :: .ref o :: []) (at_last hlen) (c_X3_init l _ q) ⟨va_cnB 0 B.1.2.2.2.2 gX4_init_X3_init_n28 rfl rfl rfl (B.2.1.2 _ nl_X4_28) (B.1.2.2.2.2 (.initialized RX3) (by decide +kernel)) hd_X3_init.2 ⟨Nat.le_of_ble_eq_true rfl, Nat.le_of_ble_eq_true rfl⟩, rfl, B.1.2.2.2.2 (.instanceMethod yX3_init) (by decide +kernel)⟩ rfl hls (Nat.le_of_ble_eq_true rfl) dX4_init_42 ⟨Nat.le_of_ble_eq_true rfl, Nat.le_of_ble_eq_true rfl⟩ (fun u H locs hu hL => ?_)
  obtain ⟨d, hu⟩ := hu
  have hL := hL _ _ hu
  rw [set_last hlen] at hL
  have hL : LW D A s.heap (jL D o (jV (.ref g0.1) (.ref g1.1) (.ref h) .null) ((((gF D g0) ++ gF D g1) ++ hl_ D h ha gs) ++ [(q, .inr (3, iniT d)), (d, zC D 60)])) _ _ := hL
  refine l_putF B hL hnm (o := o) (ci := 4) (fs := jV (.ref g0.1) (.ref g1.1) (.ref h) .null) (v := .ref q) (ty := .object "JointLoans$OrderText") 0 rfl cls4 hin4 3 (by decide) rfl rfl (by decide +kernel) rfl rfl (Nat.le_of_ble_eq_true rfl) (B.1.2.2.2.2 (.fieldLink RX4 29 "JointLoans" "text" "LJointLoans$OrderText;") (by decide +kernel)) dX4_init_45 (fun H locs hL => ?_)
  exact l_ret B hL ⟨Nat.le_of_ble_eq_true rfl, Nat.le_of_ble_eq_true rfl⟩ ⟨g0, g1, h, ha, gs, q, d, hgs, rfl⟩ dX4_init_48
end JINIT
