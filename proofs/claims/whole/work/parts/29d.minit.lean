section MINIT
def sM0 : vS := fun q => if q = 1 then upd (upd (upd (upd (upd (fun _ => 0) 2 (-1)) 4 5) 5 5) 6 4) 7 50 else fun _ => 0
def zsO : List Value := [.null, .null, .null, .int 0, .null, .int 0, .int 0, .int 0, .int 0, .int 0, .null, .int 0, .null, .int 0]
def oV (a b c d e f : Value) : List Value := [a, b, c, .int 0, d, .int 0, .int 0, .int 0, .int 0, .int 0, e, .int 0, f, .int 0]
def adM (o a b c d e f : Nat) : Nat → Nat := fun q => if q = 0 then o else if q = 1 then a else if q = 2 then b else if q = 3 then c else if q = 4 then d else if q = 5 then e else f
theorem hd_X5_init : yX5_init.cls = RX5 ∧ yX5_init.cls ≠ "java/lang/invoke/MethodHandle" ∧ yX5_init.cls ≠ "java/lang/invoke/VarHandle" ∧ (parseMethodDescriptor yX5_init.desc).map (fun d => d.parameters.length) = some 0 := by decide +kernel
set_option maxHeartbeats 1000000 in
set_option maxRecDepth 100000 in
theorem c_X5_init {D : va_G} (l : Launch) (sz o : Nat) : Met l yX5_init wsX5_init (rmK 1 6 1644) (pI D sz o (.inr (5, oV .null .null .null .null .null .null)) []) (va_Qv (fun u : va_W => ∃ ad : Nat → Nat, ad 0 = o ∧ u = wl 7 (cM D ad) ad sM0) (bI D (aI sz o)) (aI sz o)) 6 1644 (aI sz o) := by
  refine x_metI (own := RX5) (cc := cX5_init) (maxL := 1) rfl ⟨by decide +kernel, rfl, Nat.le_of_ble_eq_true rfl⟩ ?_
  intro p e s mm args below meth c A ls B hnm hao hL hl hls
  have hx := B.1.1
  have hb := B.1.2.1
  have hl : lv_has ls 1 [(0, .ref o)] := hl
  have hin : ∀ w ∈ u_ws RX5 TX5 14, w ∈ wsX5_init := fun w h => List.mem_cons_of_mem _ (List.mem_append_right _ h)
  refine lv_aload_n hx hb dX5_init_0 rfl (lv_at hl 0 rfl) ?_
  refine W.objInit hx hb B.1.2.2.2.1 (B.1.2.2.2.2 (.methodLink RX5 1 objectInit) (by decide +kernel)) (B.1.2.2.2.2 (.instanceMethod objectInit) (by decide +kernel)) (B.1.2.2.2.2 _ (List.mem_cons_of_mem _ (List.mem_append_left _ (List.mem_of_getElem? (i := 2) rfl)))) rfl (by rw [B.1.2.2.1]; exact hl.1) rfl dX5_init_1 (Nat.le_of_ble_eq_true rfl) (Nat.le_of_ble_eq_true rfl) ?_
  refine W.eq (g2 := F0 mm 4 ls []) rfl ?_
  refine lv_aload_n hx hb dX5_init_4 rfl (lv_at hl 0 rfl) ?_
  refine lv_sipush (v := 189) hx hb dX5_init_5 (by decide) ?_
  refine l_newa (atype := .int) (ty := .int) B hL (B.1.2.2.2.2 (.arrayClass .int) (by decide +kernel)) rfl (k := 0) (cT := D.1 10) rfl (N' := 189) (zA_cell 189) ⟨by decide, by decide⟩ (Nat.le_of_ble_eq_true rfl) ⟨Nat.le_of_ble_eq_true rfl, Nat.le_of_ble_eq_true rfl⟩ dX5_init_8 (fun q0 H hL => ?_)
  refine l_putF B hL hnm (o := o) (ci := 5) (fs := oV .null .null .null .null .null .null) (v := .ref q0) (ty := .array .int) 0 rfl cls5 hin 0 (by decide) rfl rfl (by decide +kernel) rfl rfl (Nat.le_of_ble_eq_true rfl) (B.1.2.2.2.2 (.fieldLink RX5 7 "JointLoansModel" "now" "[I") (by decide +kernel)) dX5_init_10 (fun H locs hL => ?_)
  have hL : LW D A s.heap [(o, .inr (5, oV (.ref q0) .null .null .null .null .null)), (q0, zA D 189)] _ _ := hL
  refine lv_aload_n hx hb dX5_init_13 rfl (lv_at hl 0 rfl) ?_
  refine lv_sipush (v := 189) hx hb dX5_init_14 (by decide) ?_
  refine l_newa (atype := .int) (ty := .int) B hL (B.1.2.2.2.2 (.arrayClass .int) (by decide +kernel)) rfl (k := 0) (cT := D.1 10) rfl (N' := 189) (zA_cell 189) ⟨by decide, by decide⟩ (Nat.le_of_ble_eq_true rfl) ⟨Nat.le_of_ble_eq_true rfl, Nat.le_of_ble_eq_true rfl⟩ dX5_init_17 (fun q1 H hL => ?_)
  refine l_putF B hL hnm (o := o) (ci := 5) (fs := oV (.ref q0) .null .null .null .null .null) (v := .ref q1) (ty := .array .int) 0 rfl cls5 hin 1 (by decide) rfl rfl (by decide +kernel) rfl rfl (Nat.le_of_ble_eq_true rfl) (B.1.2.2.2.2 (.fieldLink RX5 13 "JointLoansModel" "then" "[I") (by decide +kernel)) dX5_init_19 (fun H locs hL => ?_)
  have hL : LW D A s.heap [(o, .inr (5, oV (.ref q0) (.ref q1) .null .null .null .null)), (q0, zA D 189), (q1, zA D 189)] _ _ := hL
  refine lv_aload_n hx hb dX5_init_22 rfl (lv_at hl 0 rfl) ?_
  refine lv_sipush (v := 1134) hx hb dX5_init_23 (by decide) ?_
  refine l_newa (atype := .int) (ty := .int) B hL (B.1.2.2.2.2 (.arrayClass .int) (by decide +kernel)) rfl (k := 0) (cT := D.1 10) rfl (N' := 1134) (zA_cell 1134) ⟨by decide, by decide⟩ (Nat.le_of_ble_eq_true rfl) ⟨Nat.le_of_ble_eq_true rfl, Nat.le_of_ble_eq_true rfl⟩ dX5_init_26 (fun q2 H hL => ?_)
  refine l_putF B hL hnm (o := o) (ci := 5) (fs := oV (.ref q0) (.ref q1) .null .null .null .null) (v := .ref q2) (ty := .array .int) 0 rfl cls5 hin 2 (by decide) rfl rfl (by decide +kernel) rfl rfl (Nat.le_of_ble_eq_true rfl) (B.1.2.2.2.2 (.fieldLink RX5 16 "JointLoansModel" "past" "[I") (by decide +kernel)) dX5_init_28 (fun H locs hL => ?_)
  have hL : LW D A s.heap [(o, .inr (5, oV (.ref q0) (.ref q1) (.ref q2) .null .null .null)), (q0, zA D 189), (q1, zA D 189), (q2, zA D 1134)] _ _ := hL
  refine lv_aload_n hx hb dX5_init_31 rfl (lv_at hl 0 rfl) ?_
  refine lv_bipush (v := 60) hx hb dX5_init_32 (by decide) ?_
  refine l_newa (atype := .int) (ty := .int) B hL (B.1.2.2.2.2 (.arrayClass .int) (by decide +kernel)) rfl (k := 0) (cT := D.1 10) rfl (N' := 60) (zA_cell 60) ⟨by decide, by decide⟩ (Nat.le_of_ble_eq_true rfl) ⟨Nat.le_of_ble_eq_true rfl, Nat.le_of_ble_eq_true rfl⟩ dX5_init_34 (fun q3 H hL => ?_)
  refine l_putF B hL hnm (o := o) (ci := 5) (fs := oV (.ref q0) (.ref q1) (.ref q2) .null .null .null) (v := .ref q3) (ty := .array .int) 0 rfl cls5 hin 4 (by decide) rfl rfl (by decide +kernel) rfl rfl (Nat.le_of_ble_eq_true rfl) (B.1.2.2.2.2 (.fieldLink RX5 19 "JointLoansModel" "text" "[I") (by decide +kernel)) dX5_init_36 (fun H locs hL => ?_)
  have hL : LW D A s.heap [(o, .inr (5, oV (.ref q0) (.ref q1) (.ref q2) (.ref q3) .null .null)), (q0, zA D 189), (q1, zA D 189), (q2, zA D 1134), (q3, zA D 60)] _ _ := hL
  refine lv_aload_n hx hb dX5_init_39 rfl (lv_at hl 0 rfl) ?_
  refine lv_bipush (v := 64) hx hb dX5_init_40 (by decide) ?_
  refine l_newa (atype := .int) (ty := .int) B hL (B.1.2.2.2.2 (.arrayClass .int) (by decide +kernel)) rfl (k := 0) (cT := D.1 10) rfl (N' := 64) (zA_cell 64) ⟨by decide, by decide⟩ (Nat.le_of_ble_eq_true rfl) ⟨Nat.le_of_ble_eq_true rfl, Nat.le_of_ble_eq_true rfl⟩ dX5_init_42 (fun q4 H hL => ?_)
  refine l_putF B hL hnm (o := o) (ci := 5) (fs := oV (.ref q0) (.ref q1) (.ref q2) (.ref q3) .null .null) (v := .ref q4) (ty := .array .int) 0 rfl cls5 hin 10 (by decide) rfl rfl (by decide +kernel) rfl rfl (Nat.le_of_ble_eq_true rfl) (B.1.2.2.2.2 (.fieldLink RX5 22 "JointLoansModel" "told" "[I") (by decide +kernel)) dX5_init_44 (fun H locs hL => ?_)
  have hL : LW D A s.heap [(o, .inr (5, oV (.ref q0) (.ref q1) (.ref q2) (.ref q3) (.ref q4) .null)), (q0, zA D 189), (q1, zA D 189), (q2, zA D 1134), (q3, zA D 60), (q4, zA D 64)] _ _ := hL
  refine lv_aload_n hx hb dX5_init_47 rfl (lv_at hl 0 rfl) ?_
  refine lv_bipush (v := 8) hx hb dX5_init_48 (by decide) ?_
  refine l_newa (atype := .int) (ty := .int) B hL (B.1.2.2.2.2 (.arrayClass .int) (by decide +kernel)) rfl (k := 0) (cT := D.1 10) rfl (N' := 8) (zA_cell 8) ⟨by decide, by decide⟩ (Nat.le_of_ble_eq_true rfl) ⟨Nat.le_of_ble_eq_true rfl, Nat.le_of_ble_eq_true rfl⟩ dX5_init_50 (fun q5 H hL => ?_)
  refine l_putF B hL hnm (o := o) (ci := 5) (fs := oV (.ref q0) (.ref q1) (.ref q2) (.ref q3) (.ref q4) .null) (v := .ref q5) (ty := .array .int) 0 rfl cls5 hin 12 (by decide) rfl rfl (by decide +kernel) rfl rfl (Nat.le_of_ble_eq_true rfl) (B.1.2.2.2.2 (.fieldLink RX5 25 "JointLoansModel" "shares" "[I") (by decide +kernel)) dX5_init_52 (fun H locs hL => ?_)
  have hL : LW D A s.heap [(o, .inr (5, oV (.ref q0) (.ref q1) (.ref q2) (.ref q3) (.ref q4) (.ref q5))), (q0, zA D 189), (q1, zA D 189), (q2, zA D 1134), (q3, zA D 60), (q4, zA D 64), (q5, zA D 8)] _ _ := hL
  refine lv_aload_n hx hb dX5_init_55 rfl (lv_at hl 0 rfl) ?_
  refine l_get B hL (ci := 5) (fs := oV (.ref q0) (.ref q1) (.ref q2) (.ref q3) (.ref q4) (.ref q5)) 0 rfl cls5 hin 0 (by decide) (v := .ref q0) rfl (B.1.2.2.2.2 (.fieldLink RX5 7 "JointLoansModel" "now" "[I") (by decide +kernel)) dX5_init_56 ?_
  refine lv_iconst (v := 2) hx hb dX5_init_59 (by decide) ?_
  refine lv_iconst (v := (-1)) hx hb dX5_init_60 (by decide) ?_
  refine l_iast B hL (n := 189) (f := (fun _ => 0)) (k := 2) 1 rfl ⟨rfl, by decide, by decide⟩ (by decide) dX5_init_61 (fun H locs hL => ?_)
  refine lv_aload_n hx hb dX5_init_62 rfl (lv_at hl 0 rfl) ?_
  refine l_get B hL (ci := 5) (fs := oV (.ref q0) (.ref q1) (.ref q2) (.ref q3) (.ref q4) (.ref q5)) 0 rfl cls5 hin 0 (by decide) (v := .ref q0) rfl (B.1.2.2.2.2 (.fieldLink RX5 7 "JointLoansModel" "now" "[I") (by decide +kernel)) dX5_init_63 ?_
  refine lv_iconst (v := 4) hx hb dX5_init_66 (by decide) ?_
  refine lv_iconst (v := 5) hx hb dX5_init_67 (by decide) ?_
  refine l_iast B hL (n := 189) (f := (upd (fun _ => 0) 2 (-1))) (k := 4) 1 rfl ⟨rfl, by decide, by decide⟩ (by decide) dX5_init_68 (fun H locs hL => ?_)
  refine lv_aload_n hx hb dX5_init_69 rfl (lv_at hl 0 rfl) ?_
  refine l_get B hL (ci := 5) (fs := oV (.ref q0) (.ref q1) (.ref q2) (.ref q3) (.ref q4) (.ref q5)) 0 rfl cls5 hin 0 (by decide) (v := .ref q0) rfl (B.1.2.2.2.2 (.fieldLink RX5 7 "JointLoansModel" "now" "[I") (by decide +kernel)) dX5_init_70 ?_
  refine lv_iconst (v := 5) hx hb dX5_init_73 (by decide) ?_
  refine lv_iconst (v := 5) hx hb dX5_init_74 (by decide) ?_
  refine l_iast B hL (n := 189) (f := (upd (upd (fun _ => 0) 2 (-1)) 4 5)) (k := 5) 1 rfl ⟨rfl, by decide, by decide⟩ (by decide) dX5_init_75 (fun H locs hL => ?_)
  refine lv_aload_n hx hb dX5_init_76 rfl (lv_at hl 0 rfl) ?_
  refine l_get B hL (ci := 5) (fs := oV (.ref q0) (.ref q1) (.ref q2) (.ref q3) (.ref q4) (.ref q5)) 0 rfl cls5 hin 0 (by decide) (v := .ref q0) rfl (B.1.2.2.2.2 (.fieldLink RX5 7 "JointLoansModel" "now" "[I") (by decide +kernel)) dX5_init_77 ?_
  refine lv_bipush (v := 6) hx hb dX5_init_80 (by decide) ?_
  refine lv_iconst (v := 4) hx hb dX5_init_82 (by decide) ?_
  refine l_iast B hL (n := 189) (f := (upd (upd (upd (fun _ => 0) 2 (-1)) 4 5) 5 5)) (k := 6) 1 rfl ⟨rfl, by decide, by decide⟩ (by decide) dX5_init_83 (fun H locs hL => ?_)
  refine lv_aload_n hx hb dX5_init_84 rfl (lv_at hl 0 rfl) ?_
  refine l_get B hL (ci := 5) (fs := oV (.ref q0) (.ref q1) (.ref q2) (.ref q3) (.ref q4) (.ref q5)) 0 rfl cls5 hin 0 (by decide) (v := .ref q0) rfl (B.1.2.2.2.2 (.fieldLink RX5 7 "JointLoansModel" "now" "[I") (by decide +kernel)) dX5_init_85 ?_
  refine lv_bipush (v := 7) hx hb dX5_init_88 (by decide) ?_
  refine lv_bipush (v := 50) hx hb dX5_init_90 (by decide) ?_
  refine l_iast B hL (n := 189) (f := (upd (upd (upd (upd (fun _ => 0) 2 (-1)) 4 5) 5 5) 6 4)) (k := 7) 1 rfl ⟨rfl, by decide, by decide⟩ (by decide) dX5_init_92 (fun H locs hL => ?_)
  exact l_ret B hL ⟨Nat.le_of_ble_eq_true rfl, Nat.le_of_ble_eq_true rfl⟩ ⟨adM o q0 q1 q2 q3 q4 q5, rfl, rfl⟩ dX5_init_93
end MINIT
