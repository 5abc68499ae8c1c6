section CTORS
def zsM : List Value := [.int 0, .int 0, .int 0, .int 0, .int 0, .int 0, .int 0, .int 0, .int 0, .int 0, .int 0, .int 0, .int 0, .int 0, .int 0, .null]
def iniM (n : Int32) (d : Nat) : List Value := [.int n, .int 0, .int 0, .int 0, .int 0, .int 0, .int 0, .int 0, .int 0, .int 0, .int 0, .int 0, .int 0, .int 0, .int 0, .ref d]
def zA (D : va_G) (n : Nat) : va_E := .inl (D.1 10, n, .inl (fun _ => 0))
theorem zA_cell (n : Nat) : ∀ cA : ClassId, vp_cell cA (n, .inl (fun _ => (0 : Int32))) = arrV cA n (fun _ => defaultValue .int) := fun _ => rfl
theorem hd_X2_init : yX2_init.cls = RX2 ∧ yX2_init.cls ≠ "java/lang/invoke/MethodHandle" ∧ yX2_init.cls ≠ "java/lang/invoke/VarHandle" ∧ (parseMethodDescriptor yX2_init.desc).map (fun d => d.parameters.length) = some 1 := by decide +kernel
set_option maxHeartbeats 400000 in
set_option maxRecDepth 100000 in
theorem c_X2_init {D : va_G} (l : Launch) (sz o : Nat) (n : Int32) : Met l yX2_init wsX2_init (rmK 1 1 8) (pI D sz o (.inr (2, zsM)) [.int n]) (va_Qv (fun u : va_W => ∃ d : Nat, u = [(o, .inr (2, iniM n d)), (d, zA D 8)]) (bI D (aI sz o)) (aI sz o)) 1 8 (aI sz o) := by
  refine x_metI (own := RX2) (cc := cX2_init) (maxL := 2) rfl ⟨by decide +kernel, rfl, Nat.le_of_ble_eq_true rfl⟩ ?_
  intro p e s mm args below meth c A ls B hnm hao hL hl hls
  have hx := B.1.1
  have hb := B.1.2.1
  have hl : lv_has ls 2 [(0, .ref o), (1, .int n)] := hl
  have hin : ∀ w ∈ u_ws RX2 TX2 16, w ∈ wsX2_init := fun w h => List.mem_cons_of_mem _ (List.mem_append_right _ h)
  refine lv_aload_n hx hb dX2_init_0 rfl (lv_at hl 0 rfl) ?_
  refine W.objInit hx hb B.1.2.2.2.1 (B.1.2.2.2.2 (.methodLink RX2 3 objectInit) (by decide +kernel)) (B.1.2.2.2.2 (.instanceMethod objectInit) (by decide +kernel)) (B.1.2.2.2.2 _ (List.mem_cons_of_mem _ (List.mem_append_left _ (List.mem_of_getElem? (i := 2) rfl)))) rfl (by rw [B.1.2.2.1]; exact hl.1) rfl dX2_init_1 (Nat.le_of_ble_eq_true rfl) (Nat.le_of_ble_eq_true rfl) ?_
  refine W.eq (g2 := F0 mm 4 ls []) rfl ?_
  refine lv_aload_n hx hb dX2_init_4 rfl (lv_at hl 0 rfl) ?_
  refine lv_bipush (v := 8) hx hb dX2_init_5 (by decide) ?_
  refine l_newa (atype := .int) (ty := .int) B hL (B.1.2.2.2.2 (.arrayClass .int) (by decide +kernel)) rfl (k := 0) (cT := D.1 10) rfl (N' := 8) (zA_cell 8) ⟨by decide, by decide⟩ (Nat.le_of_ble_eq_true rfl) ⟨Nat.le_of_ble_eq_true rfl, Nat.le_of_ble_eq_true rfl⟩ dX2_init_7 (fun d H hL => ?_)
  refine l_putF B hL hnm (o := o) (ci := 2) (fs := zsM) (v := .ref d) (ty := .array .int) 0 rfl cls2 hin 15 (by decide) rfl rfl (by decide +kernel) rfl rfl (Nat.le_of_ble_eq_true rfl) (B.1.2.2.2.2 (.fieldLink RX2 9 "JointLoans$Member" "debts" "[I") (by decide +kernel)) dX2_init_9 (fun H locs hL => ?_)
  refine lv_aload_n hx hb dX2_init_12 rfl (lv_at hl 0 rfl) ?_
  refine lv_iload_n hx hb dX2_init_13 rfl (lv_at hl 1 rfl) ?_
  refine l_putF B hL hnm (o := o) (ci := 2) (fs := zsM.set 15 (.ref d)) (v := .int n) (ty := .int) 0 rfl cls2 hin 0 (by decide) rfl rfl (by decide +kernel) rfl rfl (Nat.le_of_ble_eq_true rfl) (B.1.2.2.2.2 (.fieldLink RX2 15 "JointLoans$Member" "number" "I") (by decide +kernel)) dX2_init_14 (fun H locs hL => ?_)
  exact l_ret B hL ⟨Nat.le_of_ble_eq_true rfl, Nat.le_of_ble_eq_true rfl⟩ ⟨d, rfl⟩ dX2_init_17

def zsT : List Value := [.null, .int 0, .int 0, .int 0, .int 0, .int 0, .int 0]
def iniT (d : Nat) : List Value := [.ref d, .int 0, .int 0, .int 0, .int 0, .int 0, .int 0]
def zC (D : va_G) (n : Nat) : va_E := .inl (D.1 11, n, .inl (fun _ => 0))
theorem zC_cell (n : Nat) : ∀ cA : ClassId, vp_cell cA (n, .inl (fun _ => (0 : Int32))) = arrV cA n (fun _ => defaultValue .char) := fun _ => rfl
theorem hd_X3_init : yX3_init.cls = RX3 ∧ yX3_init.cls ≠ "java/lang/invoke/MethodHandle" ∧ yX3_init.cls ≠ "java/lang/invoke/VarHandle" ∧ (parseMethodDescriptor yX3_init.desc).map (fun d => d.parameters.length) = some 0 := by decide +kernel
set_option maxHeartbeats 400000 in
set_option maxRecDepth 100000 in
theorem c_X3_init {D : va_G} (l : Launch) (sz o : Nat) : Met l yX3_init wsX3_init (rmK 1 1 60) (pI D sz o (.inr (3, zsT)) []) (va_Qv (fun u : va_W => ∃ d : Nat, u = [(o, .inr (3, iniT d)), (d, zC D 60)]) (bI D (aI sz o)) (aI sz o)) 1 60 (aI sz o) := by
  refine x_metI (own := RX3) (cc := cX3_init) (maxL := 1) rfl ⟨by decide +kernel, rfl, Nat.le_of_ble_eq_true rfl⟩ ?_
  intro p e s mm args below meth c A ls B hnm hao hL hl hls
  have hx := B.1.1
  have hb := B.1.2.1
  have hl : lv_has ls 1 [(0, .ref o)] := hl
  have hin : ∀ w ∈ u_ws RX3 TX3 7, w ∈ wsX3_init := fun w h => List.mem_cons_of_mem _ (List.mem_append_right _ h)
  refine lv_aload_n hx hb dX3_init_0 rfl (lv_at hl 0 rfl) ?_
  refine W.objInit hx hb B.1.2.2.2.1 (B.1.2.2.2.2 (.methodLink RX3 3 objectInit) (by decide +kernel)) (B.1.2.2.2.2 (.instanceMethod objectInit) (by decide +kernel)) (B.1.2.2.2.2 _ (List.mem_cons_of_mem _ (List.mem_append_left _ (List.mem_of_getElem? (i := 2) rfl)))) rfl (by rw [B.1.2.2.1]; exact hl.1) rfl dX3_init_1 (Nat.le_of_ble_eq_true rfl) (Nat.le_of_ble_eq_true rfl) ?_
  refine W.eq (g2 := F0 mm 4 ls []) rfl ?_
  refine lv_aload_n hx hb dX3_init_4 rfl (lv_at hl 0 rfl) ?_
  refine lv_bipush (v := 60) hx hb dX3_init_5 (by decide) ?_
  refine l_newa (atype := .char) (ty := .char) B hL (B.1.2.2.2.2 (.arrayClass .char) (by decide +kernel)) rfl (k := 1) (cT := D.1 11) rfl (N' := 60) (zC_cell 60) ⟨by decide, by decide⟩ (Nat.le_of_ble_eq_true rfl) ⟨Nat.le_of_ble_eq_true rfl, Nat.le_of_ble_eq_true rfl⟩ dX3_init_7 (fun d H hL => ?_)
  refine l_putF B hL hnm (o := o) (ci := 3) (fs := zsT) (v := .ref d) (ty := .array .char) 0 rfl cls3 hin 0 (by decide) rfl rfl (by decide +kernel) rfl rfl (Nat.le_of_ble_eq_true rfl) (B.1.2.2.2.2 (.fieldLink RX3 9 "JointLoans$OrderText" "chars" "[C") (by decide +kernel)) dX3_init_9 (fun H locs hL => ?_)
  exact l_ret B hL ⟨Nat.le_of_ble_eq_true rfl, Nat.le_of_ble_eq_true rfl⟩ ⟨d, rfl⟩ dX3_init_12

end CTORS
