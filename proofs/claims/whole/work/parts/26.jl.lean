section P26_jl
def x_X4_join (S : vS) : ((Nat × Int32) × vS) := if (S (gG 0) 2) < 8 then nm (x_X1_keep S 0) (fun S_30 => nmp (x_X0_admit S_30 0) (fun r_37 S_37 => ((0, r_37), S_37))) else ((1, 0), S)
theorem hd_X4_join : yX4_join.cls = RX4 ∧ yX4_join.cls ≠ "java/lang/invoke/MethodHandle" ∧ yX4_join.cls ≠ "java/lang/invoke/VarHandle" ∧ (parseMethodDescriptor yX4_join.desc).map (fun d => d.parameters.length) = some 0 := by decide +kernel
set_option maxHeartbeats 4000000 in
set_option maxRecDepth 100000 in
theorem c_X4_join {D : va_G} {ad : Nat → Nat} {V : vE} (l : Launch) (sz : Nat) (hl0 : l.stackTraces = false) (S : vS) : vx_Met l yX4_join wsX4_join (rmX 6 1) (pE D 158 (cC D ad) ad sz V S [.ref (ad jO)]) (va_Qi (fun (r : Int32) (S1 : vS) => ((0, r), S1) = (x_X4_join S)) (bW D 158 (cC D ad) ad (aW 158 ad sz)) (aW 158 ad sz)) (xX D 158 (cC D ad) ad (aW 158 ad sz) (pxS (x_X4_join S))) 1 6 (aW 158 ad sz) := by
  refine x_metX (own := RX4) (cc := cX4_join) (maxL := 1) (ret := (some .int)) (Qc := fun A => va_Qi (fun (r : Int32) (S1 : vS) => ((0, r), S1) = (x_X4_join S)) (bW D 158 (cC D ad) ad A) A) (XC := fun A => xX D 158 (cC D ad) ad A (pxS (x_X4_join S))) rfl ⟨by decide +kernel, rfl, Nat.le_of_ble_eq_true rfl⟩ ?_
  intro p e s mm args below meth c A ls B htab hW hE hl hls
  have hx := B.1.1
  have hb := B.1.2.1
  have hin_X0 : ∀ w ∈ wsX00, w ∈ wsX4_join := fun w h => List.mem_cons_of_mem _ (List.mem_append_left _ (List.mem_append_left _ (List.mem_append_left _ (List.mem_append_right _ h))))
  have hin_X4 : ∀ w ∈ wsX40, w ∈ wsX4_join := fun w h => List.mem_cons_of_mem _ (List.mem_append_left _ (List.mem_append_left _ (List.mem_append_left _ (List.mem_append_left _ (List.mem_append_right _ h)))))
  have hat_41 : ∀ w ∈ (vx_atS RX4 41 "java/lang/IllegalStateException" xuE).filter goodWord, w ∈ wsX4_join := fun w h => List.mem_cons_of_mem _ (List.mem_append_right _ h)
  have k_10 := B.1.2.2.2.2 (.fieldLink RX4 10 "JointLoans" "group" "LJointLoans$Group;") (by decide +kernel)
  have k_22 := B.1.2.2.2.2 (.fieldLink RX4 22 "JointLoans" "history" "LJointLoans$History;") (by decide +kernel)
  have ki_X0 := B.1.2.2.2.2 (.initialized RX0) (by decide +kernel)
  have ki_X1 := B.1.2.2.2.2 (.initialized RX1) (by decide +kernel)
  have kn_X0_admit := B.1.2.2.2.2 (.instanceMethod yX0_admit) (by decide +kernel)
  have kn_X1_keep := B.1.2.2.2.2 (.instanceMethod yX1_keep) (by decide +kernel)
  have kv_X0_admit := B.1.2.2.2.2 (.selects RX0 yX0_admit yX0_admit) (by decide +kernel)
  have kv_X1_keep := B.1.2.2.2.2 (.selects RX1 yX1_keep yX1_keep) (by decide +kernel)
  have kx_37 := B.1.2.2.2.2 (.classLink RX4 37 "java/lang/IllegalStateException") (by decide +kernel)
  have ky_1 := B.1.2.2.2.2 (.initialized "java/lang/IllegalStateException") (by decide +kernel)
  have zk := x_X4_join.eq_1 S
  have hl : lv_has ls 1 [(0, .ref (ad jO))] := hl
  refine lv_aload_n hx hb dX4_join_0 rfl (lv_at hl 0 rfl) ?_
  refine x_get B hW hqj cC_j cls4 hin_X4 0 (by decide) (v := .ref (ad (gG 0))) rfl k_10 dX4_join_1 ?_
  refine x_getN B hW (hqG (by decide)) (cC_G (by decide)) cls0 hin_X0 2 (by decide) (v := .int (S (gG 0) 2)) rfl nl_X4_33 dX4_join_4 ?_
  refine lv_bipush (v := 8) hx hb dX4_join_7 (by decide) ?_
  refine lv_icmp_lt (tgt := 22) hx hb dX4_join_9 (by decide) (fun c_9 => ?_) (fun c_9 => ?_)
  · have zk := zk.trans (if_pos c_9)
    refine lv_aload_n hx hb dX4_join_22 rfl (lv_at hl 0 rfl) ?_
    refine x_get B hW hqj cC_j cls4 hin_X4 2 (by decide) (v := .ref (ad hO)) rfl k_22 dX4_join_23 ?_
    refine lv_aload_n hx hb dX4_join_26 rfl (lv_at hl 0 rfl) ?_
    refine x_get B hW hqj cC_j cls4 hin_X4 0 (by decide) (v := .ref (ad (gG 0))) rfl k_10 dX4_join_27 ?_
    refine x_callv hW (x_runVN B hW (As := [.ref (ad (gG 0))]) (rest := []) (host := RX4) hqh cC_h cls1 (c_X1_keep (D := D) (ad := ad) l _ S 0 (by decide)) ⟨va_cnB 1 B.1.2.2.2.2 gX4_join_X1_keep_n44 rfl rfl rfl (B.2.1.2 _ nl_X4_44) ki_X1 hd_X1_keep.2 ⟨Nat.le_of_ble_eq_true rfl, Nat.le_of_ble_eq_true rfl⟩, kn_X1_keep, kv_X1_keep⟩ rfl hls (Nat.le_of_ble_eq_true rfl) dX4_join_30 ⟨Nat.le_of_ble_eq_true rfl, Nat.le_of_ble_eq_true rfl⟩) (fun S_30 H locs he hW => ?_)
    have he_30 := he
    have zk := nm_at zk he_30
    refine lv_aload_n hx hb dX4_join_33 rfl (lv_at hl 0 rfl) ?_
    refine x_get B hW hqj cC_j cls4 hin_X4 0 (by decide) (v := .ref (ad (gG 0))) rfl k_10 dX4_join_34 ?_
    refine x_calli hW (x_runVN B hW (As := []) (rest := []) (host := RX4) (hqG (by decide)) (cC_G (by decide)) cls0 (c_X0_admit (D := D) (ad := ad) l _ S_30 0 (by decide)) ⟨va_cnB 0 B.1.2.2.2.2 gX4_join_X0_admit_n48 rfl rfl rfl (B.2.1.2 _ nl_X4_48) ki_X0 hd_X0_admit.2 ⟨Nat.le_of_ble_eq_true rfl, Nat.le_of_ble_eq_true rfl⟩, kn_X0_admit, kv_X0_admit⟩ rfl hls (Nat.le_of_ble_eq_true rfl) dX4_join_37 ⟨Nat.le_of_ble_eq_true rfl, Nat.le_of_ble_eq_true rfl⟩) (fun r_37 S_37 H locs he hW => ?_)
    have hr_37 := he
    have zk := nmp_at zk hr_37
    have he_37 : S_37 = (x_X0_admit S_30 0).2 := by rw [← hr_37]
    exact x_end ⟨Nat.le_of_ble_eq_true rfl, Nat.le_of_ble_eq_true rfl⟩ (x_iret B hW zk.symm dX4_join_40)
  · have zk := zk.trans (if_neg c_9)
    exact x_throw B htab hW hE hl0 hls (cls := "java/lang/IllegalStateException") (text := "all numbers are given") (by decide +kernel) (by decide +kernel) kx_37 ky_1 (fun w h => B.1.2.2.2.2 w (hat_41 w h)) (by decide +kernel) (by decide +kernel) (by decide +kernel) dX4_join_12 dX4_join_15 dX4_join_16 dX4_join_18 dX4_join_21 ⟨Nat.le_of_ble_eq_true rfl, Nat.le_of_ble_eq_true rfl, Nat.le_of_ble_eq_true rfl, Nat.le_of_ble_eq_true rfl⟩ ⟨Nat.le_of_ble_eq_true rfl, Nat.le_of_ble_eq_true rfl⟩ ⟨1, 0, by decide, rfl, zk.symm⟩

def x_X4_memberOrThrow (S : vS) (p1 : Int32) : (Nat × Nat) := oc (x_X0_find S 0 p1) ((2, 0)) (fun k_5 => (0, k_5))
theorem hd_X4_memberOrThrow : yX4_memberOrThrow.cls = RX4 ∧ yX4_memberOrThrow.cls ≠ "java/lang/invoke/MethodHandle" ∧ yX4_memberOrThrow.cls ≠ "java/lang/invoke/VarHandle" ∧ (parseMethodDescriptor yX4_memberOrThrow.desc).map (fun d => d.parameters.length) = some 1 := by decide +kernel
set_option maxHeartbeats 4000000 in
set_option maxRecDepth 100000 in
theorem c_X4_memberOrThrow {D : va_G} {ad : Nat → Nat} {V : vE} (l : Launch) (sz : Nat) (hl0 : l.stackTraces = false) (S : vS) (p1 : Int32) : vx_Met l yX4_memberOrThrow wsX4_memberOrThrow (rmX 6 1) (pE D 158 (cC D ad) ad sz V S [.ref (ad jO), .int p1]) (va_Qq (fun (r : Option Nat) (S1 : vS) => (∃ k, r = some (ad (gM 0 k)) ∧ (0, k) = (x_X4_memberOrThrow S p1) ∧ k < 8) ∧ S1 = S) (bW D 158 (cC D ad) ad (aW 158 ad sz)) (aW 158 ad sz)) (xX D 158 (cC D ad) ad (aW 158 ad sz) (pxP (x_X4_memberOrThrow S p1) S)) 1 6 (aW 158 ad sz) := by
  refine x_metX (own := RX4) (cc := cX4_memberOrThrow) (maxL := 3) (ret := (some (.object "JointLoans$Member"))) (Qc := fun A => va_Qq (fun (r : Option Nat) (S1 : vS) => (∃ k, r = some (ad (gM 0 k)) ∧ (0, k) = (x_X4_memberOrThrow S p1) ∧ k < 8) ∧ S1 = S) (bW D 158 (cC D ad) ad A) A) (XC := fun A => xX D 158 (cC D ad) ad A (pxP (x_X4_memberOrThrow S p1) S)) rfl ⟨by decide +kernel, rfl, Nat.le_of_ble_eq_true rfl⟩ ?_
  intro p e s mm args below meth c A ls B htab hW hE hl hls
  have hx := B.1.1
  have hb := B.1.2.1
  have hin_X4 : ∀ w ∈ wsX40, w ∈ wsX4_memberOrThrow := fun w h => List.mem_cons_of_mem _ (List.mem_append_left _ (List.mem_append_left _ (List.mem_append_left _ (List.mem_append_right _ h))))
  have hat_277 : ∀ w ∈ (vx_atS RX4 277 "java/lang/IndexOutOfBoundsException" xuE).filter goodWord, w ∈ wsX4_memberOrThrow := fun w h => List.mem_cons_of_mem _ (List.mem_append_right _ h)
  have k_10 := B.1.2.2.2.2 (.fieldLink RX4 10 "JointLoans" "group" "LJointLoans$Group;") (by decide +kernel)
  have ki_X0 := B.1.2.2.2.2 (.initialized RX0) (by decide +kernel)
  have kn_X0_find := B.1.2.2.2.2 (.instanceMethod yX0_find) (by decide +kernel)
  have kv_X0_find := B.1.2.2.2.2 (.selects RX0 yX0_find yX0_find) (by decide +kernel)
  have kx_273 := B.1.2.2.2.2 (.classLink RX4 273 "java/lang/IndexOutOfBoundsException") (by decide +kernel)
  have ky_2 := B.1.2.2.2.2 (.initialized "java/lang/IndexOutOfBoundsException") (by decide +kernel)
  have zk := x_X4_memberOrThrow.eq_1 S p1
  have hl : lv_has ls 3 [(0, .ref (ad jO)), (1, .int p1)] := hl
  refine lv_aload_n hx hb dX4_memberOrThrow_0 rfl (lv_at hl 0 rfl) ?_
  refine x_get B hW hqj cC_j cls4 hin_X4 0 (by decide) (v := .ref (ad (gG 0))) rfl k_10 dX4_memberOrThrow_1 ?_
  refine lv_iload_n hx hb dX4_memberOrThrow_4 rfl (lv_at hl 1 rfl) ?_
  refine x_callq hW (x_runVN B hW (As := [.int p1]) (rest := []) (host := RX4) (hqG (by decide)) (cC_G (by decide)) cls0 (c_X0_find (D := D) (ad := ad) l _ S 0 p1 (by decide)) ⟨va_cnB 1 B.1.2.2.2.2 gX4_memberOrThrow_X0_find_n270 rfl rfl rfl (B.2.1.2 _ nl_X4_270) ki_X0 hd_X0_find.2 ⟨Nat.le_of_ble_eq_true rfl, Nat.le_of_ble_eq_true rfl⟩, kn_X0_find, kv_X0_find⟩ rfl hls (Nat.le_of_ble_eq_true rfl) dX4_memberOrThrow_5 ⟨Nat.le_of_ble_eq_true rfl, Nat.le_of_ble_eq_true rfl⟩) (fun r_5 S_5 H locs he hW => ?_)
  obtain ⟨hr, hs, hbk⟩ := he
  rw [hs] at hW
  rcases ho : x_X0_find S 0 p1 with _ | k_5
  · have zk := oc_none zk ho
    have hr : r_5 = none := by rw [hr, ho]; rfl
    subst hr
    refine W.eq (g2 := F0 mm 8 ls (.null :: [])) rfl ?_
    refine lv_astore_nN (lv' := [(2, .null), (0, .ref (ad jO)), (1, .int p1)]) hx hb dX4_memberOrThrow_8 rfl hl (by decide) rfl (fun ls hl => ?_)
    have hls := hl.1
    refine lv_aload_nN hx hb dX4_memberOrThrow_9 rfl (lv_at hl 0 rfl) ?_
    refine lv_ifnonnullN hx hb dX4_memberOrThrow_10 ?_
    exact x_throwW B htab hW hE hl0 hls (cls := "java/lang/IndexOutOfBoundsException") (text := "there is no such member") (by decide +kernel) (by decide +kernel) kx_273 ky_2 (fun w h => B.1.2.2.2.2 w (hat_277 w h)) (by decide +kernel) (by decide +kernel) (by decide +kernel) dX4_memberOrThrow_13 dX4_memberOrThrow_16 dX4_memberOrThrow_17 dX4_memberOrThrow_20 dX4_memberOrThrow_23 ⟨Nat.le_of_ble_eq_true rfl, Nat.le_of_ble_eq_true rfl, Nat.le_of_ble_eq_true rfl, Nat.le_of_ble_eq_true rfl⟩ ⟨Nat.le_of_ble_eq_true rfl, Nat.le_of_ble_eq_true rfl⟩ ⟨⟨2, 0, by decide, rfl, zk.symm⟩, rfl⟩
  · have zk := oc_some zk ho
    have hbk := hbk _ ho
    have hr : r_5 = some (ad (gM 0 k_5)) := by rw [hr, ho]; rfl
    subst hr
    refine W.eq (g2 := F0 mm 8 ls (.ref (ad (gM 0 k_5)) :: [])) rfl ?_
    have hbk_5 := hbk
    refine lv_astore_n (lv' := [(2, .ref (ad (gM 0 k_5))), (0, .ref (ad jO)), (1, .int p1)]) hx hb dX4_memberOrThrow_8 rfl hl (by decide) rfl (fun ls hl => ?_)
    have hls := hl.1
    refine lv_aload_n hx hb dX4_memberOrThrow_9 rfl (lv_at hl 0 rfl) ?_
    refine lv_ifnonnull (tgt := 24) hx hb dX4_memberOrThrow_10 (by decide) ?_
    refine lv_aload_n hx hb dX4_memberOrThrow_24 rfl (lv_at hl 0 rfl) ?_
    exact x_end ⟨Nat.le_of_ble_eq_true rfl, Nat.le_of_ble_eq_true rfl⟩ (x_aret B hW (some (ad (gM 0 k_5))) rfl ⟨⟨k_5, rfl, zk.symm, hbk_5⟩, rfl⟩ dX4_memberOrThrow_25)

def x_X4_leave (S : vS) (p1 : Int32) : ((Nat × Int32) × vS) := tbp 0 (x_X4_memberOrThrow S p1) S (fun k_2 => nm (x_X0_mayGo S 0 k_2) (fun r_11 => if r_11 = 0 then ((1, 0), S) else nm (x_X1_keep S 0) (fun S_35 => nmp (x_X0_dismiss S_35 0 k_2) (fun r_43 S_43 => ((0, r_43), S_43)))))
theorem hd_X4_leave : yX4_leave.cls = RX4 ∧ yX4_leave.cls ≠ "java/lang/invoke/MethodHandle" ∧ yX4_leave.cls ≠ "java/lang/invoke/VarHandle" ∧ (parseMethodDescriptor yX4_leave.desc).map (fun d => d.parameters.length) = some 1 := by decide +kernel
set_option maxHeartbeats 4000000 in
set_option maxRecDepth 100000 in
theorem c_X4_leave {D : va_G} {ad : Nat → Nat} {V : vE} (l : Launch) (sz : Nat) (hl0 : l.stackTraces = false) (S : vS) (p1 : Int32) : vx_Met l yX4_leave wsX4_leave (rmX 7 2) (pE D 158 (cC D ad) ad sz V S [.ref (ad jO), .int p1]) (va_Qi (fun (r : Int32) (S1 : vS) => ((0, r), S1) = (x_X4_leave S p1)) (bW D 158 (cC D ad) ad (aW 158 ad sz)) (aW 158 ad sz)) (xX D 158 (cC D ad) ad (aW 158 ad sz) (pxS (x_X4_leave S p1))) 2 12 (aW 158 ad sz) := by
  refine x_metX (own := RX4) (cc := cX4_leave) (maxL := 3) (ret := (some .int)) (Qc := fun A => va_Qi (fun (r : Int32) (S1 : vS) => ((0, r), S1) = (x_X4_leave S p1)) (bW D 158 (cC D ad) ad A) A) (XC := fun A => xX D 158 (cC D ad) ad A (pxS (x_X4_leave S p1))) rfl ⟨by decide +kernel, rfl, Nat.le_of_ble_eq_true rfl⟩ ?_
  intro p e s mm args below meth c A ls B htab hW hE hl hls
  have hx := B.1.1
  have hb := B.1.2.1
  have hin_X4 : ∀ w ∈ wsX40, w ∈ wsX4_leave := fun w h => List.mem_cons_of_mem _ (List.mem_append_left _ (List.mem_append_left _ (List.mem_append_left _ (List.mem_append_left _ (List.mem_append_left _ (List.mem_append_right _ h))))))
  have hat_41 : ∀ w ∈ (vx_atS RX4 41 "java/lang/IllegalStateException" xuE).filter goodWord, w ∈ wsX4_leave := fun w h => List.mem_cons_of_mem _ (List.mem_append_left _ (List.mem_append_right _ h))
  have k_10 := B.1.2.2.2.2 (.fieldLink RX4 10 "JointLoans" "group" "LJointLoans$Group;") (by decide +kernel)
  have k_22 := B.1.2.2.2.2 (.fieldLink RX4 22 "JointLoans" "history" "LJointLoans$History;") (by decide +kernel)
  have ki_X0 := B.1.2.2.2.2 (.initialized RX0) (by decide +kernel)
  have ki_X1 := B.1.2.2.2.2 (.initialized RX1) (by decide +kernel)
  have kn_X0_dismiss := B.1.2.2.2.2 (.instanceMethod yX0_dismiss) (by decide +kernel)
  have kn_X0_mayGo := B.1.2.2.2.2 (.instanceMethod yX0_mayGo) (by decide +kernel)
  have kn_X1_keep := B.1.2.2.2.2 (.instanceMethod yX1_keep) (by decide +kernel)
  have kv_X0_dismiss := B.1.2.2.2.2 (.selects RX0 yX0_dismiss yX0_dismiss) (by decide +kernel)
  have kv_X0_mayGo := B.1.2.2.2.2 (.selects RX0 yX0_mayGo yX0_mayGo) (by decide +kernel)
  have kv_X1_keep := B.1.2.2.2.2 (.selects RX1 yX1_keep yX1_keep) (by decide +kernel)
  have kx_37 := B.1.2.2.2.2 (.classLink RX4 37 "java/lang/IllegalStateException") (by decide +kernel)
  have ky_1 := B.1.2.2.2.2 (.initialized "java/lang/IllegalStateException") (by decide +kernel)
  have zk := x_X4_leave.eq_1 S p1
  have hl : lv_has ls 3 [(0, .ref (ad jO)), (1, .int p1)] := hl
  refine lv_aload_n hx hb dX4_leave_0 rfl (lv_at hl 0 rfl) ?_
  refine lv_iload_n hx hb dX4_leave_1 rfl (lv_at hl 1 rfl) ?_
  refine x_xcallq B htab hW (x_runVX B hW hE (As := [.int p1]) (rest := []) hqj cC_j cls4 (c_X4_memberOrThrow (D := D) (ad := ad) (V := V) l _ hl0 S p1) (cwV 1 B.1.2.2.2.2 gX4_leave_X4_memberOrThrow rfl rfl rfl hd_X4_memberOrThrow ⟨Nat.le_of_ble_eq_true rfl, Nat.le_of_ble_eq_true rfl⟩) rfl hls (Nat.le_of_ble_eq_true rfl) dX4_leave_2 ⟨Nat.le_of_ble_eq_true rfl, Nat.le_of_ble_eq_true rfl⟩) ⟨Nat.le_of_ble_eq_true rfl, Nat.le_of_ble_eq_true rfl⟩ (fun E S1 hq => by obtain ⟨⟨k, v, hk, hn, he⟩, hs⟩ := hq; rw [hs]; exact ⟨k, _, hk, hn, (tbp_ex zk he hk).symm⟩) (fun r_2 S_2 H locs he hW => ?_)
  obtain ⟨⟨k_2, hr, he_2, hbk_2⟩, hs⟩ := he
  rw [hs] at hW
  subst hr
  have zk := tbp_ok zk he_2
  refine W.eq (g2 := F0 mm 5 ls (.ref (ad (gM 0 k_2)) :: [])) rfl ?_
  refine lv_astore_n (lv' := [(2, .ref (ad (gM 0 k_2))), (0, .ref (ad jO)), (1, .int p1)]) hx hb dX4_leave_5 rfl hl (by decide) rfl (fun ls hl => ?_)
  have hls := hl.1
  refine lv_aload_n hx hb dX4_leave_6 rfl (lv_at hl 1 rfl) ?_
  refine x_get B hW hqj cC_j cls4 hin_X4 0 (by decide) (v := .ref (ad (gG 0))) rfl k_10 dX4_leave_7 ?_
  refine lv_aload_n hx hb dX4_leave_10 rfl (lv_at hl 0 rfl) ?_
  refine x_calli hW (x_runVN B hW (As := [.ref (ad (gM 0 k_2))]) (rest := []) (host := RX4) (hqG (by decide)) (cC_G (by decide)) cls0 (c_X0_mayGo (D := D) (ad := ad) l _ S 0 k_2 (by decide) hbk_2) ⟨va_cnB 1 B.1.2.2.2.2 gX4_leave_X0_mayGo_n56 rfl rfl rfl (B.2.1.2 _ nl_X4_56) ki_X0 hd_X0_mayGo.2 ⟨Nat.le_of_ble_eq_true rfl, Nat.le_of_ble_eq_true rfl⟩, kn_X0_mayGo, kv_X0_mayGo⟩ rfl hls (Nat.le_of_ble_eq_true rfl) dX4_leave_11 ⟨Nat.le_of_ble_eq_true rfl, Nat.le_of_ble_eq_true rfl⟩) (fun r_11 S_11 H locs he hW => ?_)
  obtain ⟨hr_11, hs, hz_11⟩ := he
  rw [hs] at hW
  have zk := nm_at zk hr_11
  refine lv_if_ne (tgt := 27) hx hb dX4_leave_14 (by decide) (fun c_14 => ?_) (fun c_14 => ?_)
  · have zk := zk.trans (if_neg c_14)
    refine lv_aload_n hx hb dX4_leave_27 rfl (lv_at hl 1 rfl) ?_
    refine x_get B hW hqj cC_j cls4 hin_X4 2 (by decide) (v := .ref (ad hO)) rfl k_22 dX4_leave_28 ?_
    refine lv_aload_n hx hb dX4_leave_31 rfl (lv_at hl 1 rfl) ?_
    refine x_get B hW hqj cC_j cls4 hin_X4 0 (by decide) (v := .ref (ad (gG 0))) rfl k_10 dX4_leave_32 ?_
    refine x_callv hW (x_runVN B hW (As := [.ref (ad (gG 0))]) (rest := []) (host := RX4) hqh cC_h cls1 (c_X1_keep (D := D) (ad := ad) l _ S 0 (by decide)) ⟨va_cnB 1 B.1.2.2.2.2 gX4_leave_X1_keep_n44 rfl rfl rfl (B.2.1.2 _ nl_X4_44) ki_X1 hd_X1_keep.2 ⟨Nat.le_of_ble_eq_true rfl, Nat.le_of_ble_eq_true rfl⟩, kn_X1_keep, kv_X1_keep⟩ rfl hls (Nat.le_of_ble_eq_true rfl) dX4_leave_35 ⟨Nat.le_of_ble_eq_true rfl, Nat.le_of_ble_eq_true rfl⟩) (fun S_35 H locs he hW => ?_)
    have he_35 := he
    have zk := nm_at zk he_35
    refine lv_aload_n hx hb dX4_leave_38 rfl (lv_at hl 1 rfl) ?_
    refine x_get B hW hqj cC_j cls4 hin_X4 0 (by decide) (v := .ref (ad (gG 0))) rfl k_10 dX4_leave_39 ?_
    refine lv_aload_n hx hb dX4_leave_42 rfl (lv_at hl 0 rfl) ?_
    refine x_calli hW (x_runVN B hW (As := [.ref (ad (gM 0 k_2))]) (rest := []) (host := RX4) (hqG (by decide)) (cC_G (by decide)) cls0 (c_X0_dismiss (D := D) (ad := ad) l _ S_35 0 k_2 (by decide) hbk_2) ⟨va_cnB 1 B.1.2.2.2.2 gX4_leave_X0_dismiss_n62 rfl rfl rfl (B.2.1.2 _ nl_X4_62) ki_X0 hd_X0_dismiss.2 ⟨Nat.le_of_ble_eq_true rfl, Nat.le_of_ble_eq_true rfl⟩, kn_X0_dismiss, kv_X0_dismiss⟩ rfl hls (Nat.le_of_ble_eq_true rfl) dX4_leave_43 ⟨Nat.le_of_ble_eq_true rfl, Nat.le_of_ble_eq_true rfl⟩) (fun r_43 S_43 H locs he hW => ?_)
    have hr_43 := he
    have zk := nmp_at zk hr_43
    have he_43 : S_43 = (x_X0_dismiss S_35 0 k_2).2 := by rw [← hr_43]
    exact x_end ⟨Nat.le_of_ble_eq_true rfl, Nat.le_of_ble_eq_true rfl⟩ (x_iret B hW zk.symm dX4_leave_46)
  · have zk := zk.trans (if_pos c_14)
    exact x_throw B htab hW hE hl0 hls (cls := "java/lang/IllegalStateException") (text := "the member cannot leave") (by decide +kernel) (by decide +kernel) kx_37 ky_1 (fun w h => B.1.2.2.2.2 w (hat_41 w h)) (by decide +kernel) (by decide +kernel) (by decide +kernel) dX4_leave_17 dX4_leave_20 dX4_leave_21 dX4_leave_23 dX4_leave_26 ⟨Nat.le_of_ble_eq_true rfl, Nat.le_of_ble_eq_true rfl, Nat.le_of_ble_eq_true rfl, Nat.le_of_ble_eq_true rfl⟩ ⟨Nat.le_of_ble_eq_true rfl, Nat.le_of_ble_eq_true rfl⟩ ⟨1, 0, by decide, rfl, zk.symm⟩

def x_X4_lend (S : vS) (p1 : Int32) (p2 : Int32) (p3 : Int32) : ((Nat × Int32) × vS) := tbp 0 (x_X4_memberOrThrow S p1) S (fun k_2 => if p2 < 10 then ((3, 0), S) else if 2000 < p2 then ((3, 0), S) else if p3 < 1 then ((3, 0), S) else if p3 ≤ 52 then nm (x_X2_mayBorrow S 0 k_2 p2) (fun r_44 => if r_44 = 0 then ((1, 0), S) else nm (x_X1_keep S 0) (fun S_68 => nm (x_X0_grantLoan S_68 0 k_2 p2 p3) (fun S_79 => nm (x_X2_due S_79 0 k_2) (fun r_84 => ((0, r_84), S_79))))) else ((3, 0), S))
theorem hd_X4_lend : yX4_lend.cls = RX4 ∧ yX4_lend.cls ≠ "java/lang/invoke/MethodHandle" ∧ yX4_lend.cls ≠ "java/lang/invoke/VarHandle" ∧ (parseMethodDescriptor yX4_lend.desc).map (fun d => d.parameters.length) = some 3 := by decide +kernel
set_option maxHeartbeats 4000000 in
set_option maxRecDepth 100000 in
theorem c_X4_lend {D : va_G} {ad : Nat → Nat} {V : vE} (l : Launch) (sz : Nat) (hl0 : l.stackTraces = false) (S : vS) (p1 : Int32) (p2 : Int32) (p3 : Int32) : vx_Met l yX4_lend wsX4_lend (rmX 7 2) (pE D 158 (cC D ad) ad sz V S [.ref (ad jO), .int p1, .int p2, .int p3]) (va_Qi (fun (r : Int32) (S1 : vS) => ((0, r), S1) = (x_X4_lend S p1 p2 p3)) (bW D 158 (cC D ad) ad (aW 158 ad sz)) (aW 158 ad sz)) (xX D 158 (cC D ad) ad (aW 158 ad sz) (pxS (x_X4_lend S p1 p2 p3))) 2 12 (aW 158 ad sz) := by
  refine x_metX (own := RX4) (cc := cX4_lend) (maxL := 5) (ret := (some .int)) (Qc := fun A => va_Qi (fun (r : Int32) (S1 : vS) => ((0, r), S1) = (x_X4_lend S p1 p2 p3)) (bW D 158 (cC D ad) ad A) A) (XC := fun A => xX D 158 (cC D ad) ad A (pxS (x_X4_lend S p1 p2 p3))) rfl ⟨by decide +kernel, rfl, Nat.le_of_ble_eq_true rfl⟩ ?_
  intro p e s mm args below meth c A ls B htab hW hE hl hls
  have hx := B.1.1
  have hb := B.1.2.1
  have hin_X4 : ∀ w ∈ wsX40, w ∈ wsX4_lend := fun w h => List.mem_cons_of_mem _ (List.mem_append_left _ (List.mem_append_left _ (List.mem_append_left _ (List.mem_append_left _ (List.mem_append_left _ (List.mem_append_left _ (List.mem_append_right _ h)))))))
  have hat_41 : ∀ w ∈ (vx_atS RX4 41 "java/lang/IllegalStateException" xuE).filter goodWord, w ∈ wsX4_lend := fun w h => List.mem_cons_of_mem _ (List.mem_append_left _ (List.mem_append_right _ h))
  have hat_70 : ∀ w ∈ (vx_atS RX4 70 "java/lang/IllegalArgumentException" xuE).filter goodWord, w ∈ wsX4_lend := fun w h => List.mem_cons_of_mem _ (List.mem_append_left _ (List.mem_append_left _ (List.mem_append_right _ h)))
  have k_10 := B.1.2.2.2.2 (.fieldLink RX4 10 "JointLoans" "group" "LJointLoans$Group;") (by decide +kernel)
  have k_22 := B.1.2.2.2.2 (.fieldLink RX4 22 "JointLoans" "history" "LJointLoans$History;") (by decide +kernel)
  have ki_X0 := B.1.2.2.2.2 (.initialized RX0) (by decide +kernel)
  have ki_X1 := B.1.2.2.2.2 (.initialized RX1) (by decide +kernel)
  have ki_X2 := B.1.2.2.2.2 (.initialized RX2) (by decide +kernel)
  have kn_X0_grantLoan := B.1.2.2.2.2 (.instanceMethod yX0_grantLoan) (by decide +kernel)
  have kn_X1_keep := B.1.2.2.2.2 (.instanceMethod yX1_keep) (by decide +kernel)
  have kn_X2_due := B.1.2.2.2.2 (.instanceMethod yX2_due) (by decide +kernel)
  have kn_X2_mayBorrow := B.1.2.2.2.2 (.instanceMethod yX2_mayBorrow) (by decide +kernel)
  have kv_X0_grantLoan := B.1.2.2.2.2 (.selects RX0 yX0_grantLoan yX0_grantLoan) (by decide +kernel)
  have kv_X1_keep := B.1.2.2.2.2 (.selects RX1 yX1_keep yX1_keep) (by decide +kernel)
  have kv_X2_due := B.1.2.2.2.2 (.selects RX2 yX2_due yX2_due) (by decide +kernel)
  have kv_X2_mayBorrow := B.1.2.2.2.2 (.selects RX2 yX2_mayBorrow yX2_mayBorrow) (by decide +kernel)
  have kx_37 := B.1.2.2.2.2 (.classLink RX4 37 "java/lang/IllegalStateException") (by decide +kernel)
  have kx_66 := B.1.2.2.2.2 (.classLink RX4 66 "java/lang/IllegalArgumentException") (by decide +kernel)
  have ky_1 := B.1.2.2.2.2 (.initialized "java/lang/IllegalStateException") (by decide +kernel)
  have ky_3 := B.1.2.2.2.2 (.initialized "java/lang/IllegalArgumentException") (by decide +kernel)
  have zk := x_X4_lend.eq_1 S p1 p2 p3
  have hl : lv_has ls 5 [(0, .ref (ad jO)), (1, .int p1), (2, .int p2), (3, .int p3)] := hl
  refine lv_aload_n hx hb dX4_lend_0 rfl (lv_at hl 0 rfl) ?_
  refine lv_iload_n hx hb dX4_lend_1 rfl (lv_at hl 1 rfl) ?_
  refine x_xcallq B htab hW (x_runVX B hW hE (As := [.int p1]) (rest := []) hqj cC_j cls4 (c_X4_memberOrThrow (D := D) (ad := ad) (V := V) l _ hl0 S p1) (cwV 1 B.1.2.2.2.2 gX4_lend_X4_memberOrThrow rfl rfl rfl hd_X4_memberOrThrow ⟨Nat.le_of_ble_eq_true rfl, Nat.le_of_ble_eq_true rfl⟩) rfl hls (Nat.le_of_ble_eq_true rfl) dX4_lend_2 ⟨Nat.le_of_ble_eq_true rfl, Nat.le_of_ble_eq_true rfl⟩) ⟨Nat.le_of_ble_eq_true rfl, Nat.le_of_ble_eq_true rfl⟩ (fun E S1 hq => by obtain ⟨⟨k, v, hk, hn, he⟩, hs⟩ := hq; rw [hs]; exact ⟨k, _, hk, hn, (tbp_ex zk he hk).symm⟩) (fun r_2 S_2 H locs he hW => ?_)
  obtain ⟨⟨k_2, hr, he_2, hbk_2⟩, hs⟩ := he
  rw [hs] at hW
  subst hr
  have zk := tbp_ok zk he_2
  refine W.eq (g2 := F0 mm 5 ls (.ref (ad (gM 0 k_2)) :: [])) rfl ?_
  refine lv_astore (lv' := [(4, .ref (ad (gM 0 k_2))), (0, .ref (ad jO)), (1, .int p1), (2, .int p2), (3, .int p3)]) hx hb dX4_lend_5 hl (by decide) rfl (fun ls hl => ?_)
  have hls := hl.1
  refine lv_iload_n hx hb dX4_lend_7 rfl (lv_at hl 3 rfl) ?_
  refine lv_bipush (v := 10) hx hb dX4_lend_8 (by decide) ?_
  refine lv_icmp_lt (tgt := 31) hx hb dX4_lend_10 (by decide) (fun c_10 => ?_) (fun c_10 => ?_)
  · have zk := zk.trans (if_pos c_10)
    exact x_throw B htab hW hE hl0 hls (cls := "java/lang/IllegalArgumentException") (text := "sum or weeks is out of range") (by decide +kernel) (by decide +kernel) kx_66 ky_3 (fun w h => B.1.2.2.2.2 w (hat_70 w h)) (by decide +kernel) (by decide +kernel) (by decide +kernel) dX4_lend_31 dX4_lend_34 dX4_lend_35 dX4_lend_37 dX4_lend_40 ⟨Nat.le_of_ble_eq_true rfl, Nat.le_of_ble_eq_true rfl, Nat.le_of_ble_eq_true rfl, Nat.le_of_ble_eq_true rfl⟩ ⟨Nat.le_of_ble_eq_true rfl, Nat.le_of_ble_eq_true rfl⟩ ⟨3, 0, by decide, rfl, zk.symm⟩
  · have zk := zk.trans (if_neg c_10)
    refine lv_iload_n hx hb dX4_lend_13 rfl (lv_at hl 3 rfl) ?_
    refine lv_sipush (v := 2000) hx hb dX4_lend_14 (by decide) ?_
    refine lv_icmp_gt (tgt := 31) hx hb dX4_lend_17 (by decide) (fun c_17 => ?_) (fun c_17 => ?_)
    · have zk := zk.trans (if_pos c_17)
      exact x_throw B htab hW hE hl0 hls (cls := "java/lang/IllegalArgumentException") (text := "sum or weeks is out of range") (by decide +kernel) (by decide +kernel) kx_66 ky_3 (fun w h => B.1.2.2.2.2 w (hat_70 w h)) (by decide +kernel) (by decide +kernel) (by decide +kernel) dX4_lend_31 dX4_lend_34 dX4_lend_35 dX4_lend_37 dX4_lend_40 ⟨Nat.le_of_ble_eq_true rfl, Nat.le_of_ble_eq_true rfl, Nat.le_of_ble_eq_true rfl, Nat.le_of_ble_eq_true rfl⟩ ⟨Nat.le_of_ble_eq_true rfl, Nat.le_of_ble_eq_true rfl⟩ ⟨3, 0, by decide, rfl, zk.symm⟩
    · have zk := zk.trans (if_neg c_17)
      refine lv_iload_n hx hb dX4_lend_20 rfl (lv_at hl 4 rfl) ?_
      refine lv_iconst (v := 1) hx hb dX4_lend_21 (by decide) ?_
      refine lv_icmp_lt (tgt := 31) hx hb dX4_lend_22 (by decide) (fun c_22 => ?_) (fun c_22 => ?_)
      · have zk := zk.trans (if_pos c_22)
        exact x_throw B htab hW hE hl0 hls (cls := "java/lang/IllegalArgumentException") (text := "sum or weeks is out of range") (by decide +kernel) (by decide +kernel) kx_66 ky_3 (fun w h => B.1.2.2.2.2 w (hat_70 w h)) (by decide +kernel) (by decide +kernel) (by decide +kernel) dX4_lend_31 dX4_lend_34 dX4_lend_35 dX4_lend_37 dX4_lend_40 ⟨Nat.le_of_ble_eq_true rfl, Nat.le_of_ble_eq_true rfl, Nat.le_of_ble_eq_true rfl, Nat.le_of_ble_eq_true rfl⟩ ⟨Nat.le_of_ble_eq_true rfl, Nat.le_of_ble_eq_true rfl⟩ ⟨3, 0, by decide, rfl, zk.symm⟩
      · have zk := zk.trans (if_neg c_22)
        refine lv_iload_n hx hb dX4_lend_25 rfl (lv_at hl 4 rfl) ?_
        refine lv_bipush (v := 52) hx hb dX4_lend_26 (by decide) ?_
        refine lv_icmp_le (tgt := 41) hx hb dX4_lend_28 (by decide) (fun c_28 => ?_) (fun c_28 => ?_)
        · have zk := zk.trans (if_pos c_28)
          refine lv_aload hx hb dX4_lend_41 (lv_at hl 0 rfl) ?_
          refine lv_iload_n hx hb dX4_lend_43 rfl (lv_at hl 3 rfl) ?_
          refine x_calli hW (x_runVN B hW (As := [.int p2]) (rest := []) (host := RX4) (hqM (by decide) hbk_2) (cC_M (by decide) hbk_2) cls2 (c_X2_mayBorrow (D := D) (ad := ad) l _ S 0 k_2 p2 (by decide) hbk_2) ⟨va_cnB 1 B.1.2.2.2.2 gX4_lend_X2_mayBorrow_n71 rfl rfl rfl (B.2.1.2 _ nl_X4_71) ki_X2 hd_X2_mayBorrow.2 ⟨Nat.le_of_ble_eq_true rfl, Nat.le_of_ble_eq_true rfl⟩, kn_X2_mayBorrow, kv_X2_mayBorrow⟩ rfl hls (Nat.le_of_ble_eq_true rfl) dX4_lend_44 ⟨Nat.le_of_ble_eq_true rfl, Nat.le_of_ble_eq_true rfl⟩) (fun r_44 S_44 H locs he hW => ?_)
          obtain ⟨hr_44, hs, hz_44⟩ := he
          rw [hs] at hW
          have zk := nm_at zk hr_44
          refine lv_if_ne (tgt := 60) hx hb dX4_lend_47 (by decide) (fun c_47 => ?_) (fun c_47 => ?_)
          · have zk := zk.trans (if_neg c_47)
            refine lv_aload_n hx hb dX4_lend_60 rfl (lv_at hl 1 rfl) ?_
            refine x_get B hW hqj cC_j cls4 hin_X4 2 (by decide) (v := .ref (ad hO)) rfl k_22 dX4_lend_61 ?_
            refine lv_aload_n hx hb dX4_lend_64 rfl (lv_at hl 1 rfl) ?_
            refine x_get B hW hqj cC_j cls4 hin_X4 0 (by decide) (v := .ref (ad (gG 0))) rfl k_10 dX4_lend_65 ?_
            refine x_callv hW (x_runVN B hW (As := [.ref (ad (gG 0))]) (rest := []) (host := RX4) hqh cC_h cls1 (c_X1_keep (D := D) (ad := ad) l _ S 0 (by decide)) ⟨va_cnB 1 B.1.2.2.2.2 gX4_lend_X1_keep_n44 rfl rfl rfl (B.2.1.2 _ nl_X4_44) ki_X1 hd_X1_keep.2 ⟨Nat.le_of_ble_eq_true rfl, Nat.le_of_ble_eq_true rfl⟩, kn_X1_keep, kv_X1_keep⟩ rfl hls (Nat.le_of_ble_eq_true rfl) dX4_lend_68 ⟨Nat.le_of_ble_eq_true rfl, Nat.le_of_ble_eq_true rfl⟩) (fun S_68 H locs he hW => ?_)
            have he_68 := he
            have zk := nm_at zk he_68
            refine lv_aload_n hx hb dX4_lend_71 rfl (lv_at hl 1 rfl) ?_
            refine x_get B hW hqj cC_j cls4 hin_X4 0 (by decide) (v := .ref (ad (gG 0))) rfl k_10 dX4_lend_72 ?_
            refine lv_aload hx hb dX4_lend_75 (lv_at hl 0 rfl) ?_
            refine lv_iload_n hx hb dX4_lend_77 rfl (lv_at hl 3 rfl) ?_
            refine lv_iload_n hx hb dX4_lend_78 rfl (lv_at hl 4 rfl) ?_
            refine x_callv hW (x_runVN B hW (As := [.ref (ad (gM 0 k_2)), .int p2, .int p3]) (rest := []) (host := RX4) (hqG (by decide)) (cC_G (by decide)) cls0 (c_X0_grantLoan (D := D) (ad := ad) l _ S_68 0 k_2 p2 p3 (by decide) hbk_2) ⟨va_cnB 3 B.1.2.2.2.2 gX4_lend_X0_grantLoan_n79 rfl rfl rfl (B.2.1.2 _ nl_X4_79) ki_X0 hd_X0_grantLoan.2 ⟨Nat.le_of_ble_eq_true rfl, Nat.le_of_ble_eq_true rfl⟩, kn_X0_grantLoan, kv_X0_grantLoan⟩ rfl hls (Nat.le_of_ble_eq_true rfl) dX4_lend_79 ⟨Nat.le_of_ble_eq_true rfl, Nat.le_of_ble_eq_true rfl⟩) (fun S_79 H locs he hW => ?_)
            have he_79 := he
            have zk := nm_at zk he_79
            refine lv_aload hx hb dX4_lend_82 (lv_at hl 0 rfl) ?_
            refine x_calli hW (x_runVN B hW (As := []) (rest := []) (host := RX4) (hqM (by decide) hbk_2) (cC_M (by decide) hbk_2) cls2 (c_X2_due (D := D) (ad := ad) l _ S_79 0 k_2 (by decide) hbk_2) ⟨va_cnB 0 B.1.2.2.2.2 gX4_lend_X2_due_n83 rfl rfl rfl (B.2.1.2 _ nl_X4_83) ki_X2 hd_X2_due.2 ⟨Nat.le_of_ble_eq_true rfl, Nat.le_of_ble_eq_true rfl⟩, kn_X2_due, kv_X2_due⟩ rfl hls (Nat.le_of_ble_eq_true rfl) dX4_lend_84 ⟨Nat.le_of_ble_eq_true rfl, Nat.le_of_ble_eq_true rfl⟩) (fun r_84 S_84 H locs he hW => ?_)
            obtain ⟨hr_84, hs⟩ := he
            rw [hs] at hW
            have zk := nm_at zk hr_84
            exact x_end ⟨Nat.le_of_ble_eq_true rfl, Nat.le_of_ble_eq_true rfl⟩ (x_iret B hW zk.symm dX4_lend_87)
          · have zk := zk.trans (if_pos c_47)
            exact x_throw B htab hW hE hl0 hls (cls := "java/lang/IllegalStateException") (text := "the member cannot borrow this") (by decide +kernel) (by decide +kernel) kx_37 ky_1 (fun w h => B.1.2.2.2.2 w (hat_41 w h)) (by decide +kernel) (by decide +kernel) (by decide +kernel) dX4_lend_50 dX4_lend_53 dX4_lend_54 dX4_lend_56 dX4_lend_59 ⟨Nat.le_of_ble_eq_true rfl, Nat.le_of_ble_eq_true rfl, Nat.le_of_ble_eq_true rfl, Nat.le_of_ble_eq_true rfl⟩ ⟨Nat.le_of_ble_eq_true rfl, Nat.le_of_ble_eq_true rfl⟩ ⟨1, 0, by decide, rfl, zk.symm⟩
        · have zk := zk.trans (if_neg c_28)
          exact x_throw B htab hW hE hl0 hls (cls := "java/lang/IllegalArgumentException") (text := "sum or weeks is out of range") (by decide +kernel) (by decide +kernel) kx_66 ky_3 (fun w h => B.1.2.2.2.2 w (hat_70 w h)) (by decide +kernel) (by decide +kernel) (by decide +kernel) dX4_lend_31 dX4_lend_34 dX4_lend_35 dX4_lend_37 dX4_lend_40 ⟨Nat.le_of_ble_eq_true rfl, Nat.le_of_ble_eq_true rfl, Nat.le_of_ble_eq_true rfl, Nat.le_of_ble_eq_true rfl⟩ ⟨Nat.le_of_ble_eq_true rfl, Nat.le_of_ble_eq_true rfl⟩ ⟨3, 0, by decide, rfl, zk.symm⟩

def x_X4_absent (S : vS) (p1 : Int32) : ((Nat × Int32) × vS) := tbp 0 (x_X4_memberOrThrow S p1) S (fun k_2 => nm (x_X1_keep S 0) (fun S_14 => if (bz (S_14 (gM 0 k_2) 8)) = 0 then nm (st S_14 (gM 0 k_2) 8 1) (fun S_30 => nm (x_X0_awayMembers S_30 0) (fun r_37 => ((0, r_37), S_30))) else nm (st S_14 (gM 0 k_2) 8 0) (fun S_30 => nm (x_X0_awayMembers S_30 0) (fun r_37 => ((0, r_37), S_30)))))
theorem hd_X4_absent : yX4_absent.cls = RX4 ∧ yX4_absent.cls ≠ "java/lang/invoke/MethodHandle" ∧ yX4_absent.cls ≠ "java/lang/invoke/VarHandle" ∧ (parseMethodDescriptor yX4_absent.desc).map (fun d => d.parameters.length) = some 1 := by decide +kernel
set_option maxHeartbeats 4000000 in
set_option maxRecDepth 100000 in
theorem c_X4_absent {D : va_G} {ad : Nat → Nat} {V : vE} (l : Launch) (sz : Nat) (hl0 : l.stackTraces = false) (S : vS) (p1 : Int32) : vx_Met l yX4_absent wsX4_absent (rmX 7 1) (pE D 158 (cC D ad) ad sz V S [.ref (ad jO), .int p1]) (va_Qi (fun (r : Int32) (S1 : vS) => ((0, r), S1) = (x_X4_absent S p1)) (bW D 158 (cC D ad) ad (aW 158 ad sz)) (aW 158 ad sz)) (xX D 158 (cC D ad) ad (aW 158 ad sz) (pxS (x_X4_absent S p1))) 1 6 (aW 158 ad sz) := by
  refine x_metX (own := RX4) (cc := cX4_absent) (maxL := 3) (ret := (some .int)) (Qc := fun A => va_Qi (fun (r : Int32) (S1 : vS) => ((0, r), S1) = (x_X4_absent S p1)) (bW D 158 (cC D ad) ad A) A) (XC := fun A => xX D 158 (cC D ad) ad A (pxS (x_X4_absent S p1))) rfl ⟨by decide +kernel, rfl, Nat.le_of_ble_eq_true rfl⟩ ?_
  intro p e s mm args below meth c A ls B htab hW hE hl hls
  have hx := B.1.1
  have hb := B.1.2.1
  have hin_X2 : ∀ w ∈ wsX20, w ∈ wsX4_absent := fun w h => List.mem_cons_of_mem _ (List.mem_append_left _ (List.mem_append_left _ (List.mem_append_left _ (List.mem_append_right _ h))))
  have hin_X4 : ∀ w ∈ wsX40, w ∈ wsX4_absent := fun w h => List.mem_cons_of_mem _ (List.mem_append_left _ (List.mem_append_left _ (List.mem_append_left _ (List.mem_append_left _ (List.mem_append_right _ h)))))
  have k_10 := B.1.2.2.2.2 (.fieldLink RX4 10 "JointLoans" "group" "LJointLoans$Group;") (by decide +kernel)
  have k_22 := B.1.2.2.2.2 (.fieldLink RX4 22 "JointLoans" "history" "LJointLoans$History;") (by decide +kernel)
  have ki_X0 := B.1.2.2.2.2 (.initialized RX0) (by decide +kernel)
  have ki_X1 := B.1.2.2.2.2 (.initialized RX1) (by decide +kernel)
  have kn_X0_awayMembers := B.1.2.2.2.2 (.instanceMethod yX0_awayMembers) (by decide +kernel)
  have kn_X1_keep := B.1.2.2.2.2 (.instanceMethod yX1_keep) (by decide +kernel)
  have kv_X0_awayMembers := B.1.2.2.2.2 (.selects RX0 yX0_awayMembers yX0_awayMembers) (by decide +kernel)
  have kv_X1_keep := B.1.2.2.2.2 (.selects RX1 yX1_keep yX1_keep) (by decide +kernel)
  have zk := x_X4_absent.eq_1 S p1
  have hl : lv_has ls 3 [(0, .ref (ad jO)), (1, .int p1)] := hl
  refine lv_aload_n hx hb dX4_absent_0 rfl (lv_at hl 0 rfl) ?_
  refine lv_iload_n hx hb dX4_absent_1 rfl (lv_at hl 1 rfl) ?_
  refine x_xcallq B htab hW (x_runVX B hW hE (As := [.int p1]) (rest := []) hqj cC_j cls4 (c_X4_memberOrThrow (D := D) (ad := ad) (V := V) l _ hl0 S p1) (cwV 1 B.1.2.2.2.2 gX4_absent_X4_memberOrThrow rfl rfl rfl hd_X4_memberOrThrow ⟨Nat.le_of_ble_eq_true rfl, Nat.le_of_ble_eq_true rfl⟩) rfl hls (Nat.le_of_ble_eq_true rfl) dX4_absent_2 ⟨Nat.le_of_ble_eq_true rfl, Nat.le_of_ble_eq_true rfl⟩) ⟨Nat.le_of_ble_eq_true rfl, Nat.le_of_ble_eq_true rfl⟩ (fun E S1 hq => by obtain ⟨⟨k, v, hk, hn, he⟩, hs⟩ := hq; rw [hs]; exact ⟨k, _, hk, hn, (tbp_ex zk he hk).symm⟩) (fun r_2 S_2 H locs he hW => ?_)
  obtain ⟨⟨k_2, hr, he_2, hbk_2⟩, hs⟩ := he
  rw [hs] at hW
  subst hr
  have zk := tbp_ok zk he_2
  refine W.eq (g2 := F0 mm 5 ls (.ref (ad (gM 0 k_2)) :: [])) rfl ?_
  refine lv_astore_n (lv' := [(2, .ref (ad (gM 0 k_2))), (0, .ref (ad jO)), (1, .int p1)]) hx hb dX4_absent_5 rfl hl (by decide) rfl (fun ls hl => ?_)
  have hls := hl.1
  refine lv_aload_n hx hb dX4_absent_6 rfl (lv_at hl 1 rfl) ?_
  refine x_get B hW hqj cC_j cls4 hin_X4 2 (by decide) (v := .ref (ad hO)) rfl k_22 dX4_absent_7 ?_
  refine lv_aload_n hx hb dX4_absent_10 rfl (lv_at hl 1 rfl) ?_
  refine x_get B hW hqj cC_j cls4 hin_X4 0 (by decide) (v := .ref (ad (gG 0))) rfl k_10 dX4_absent_11 ?_
  refine x_callv hW (x_runVN B hW (As := [.ref (ad (gG 0))]) (rest := []) (host := RX4) hqh cC_h cls1 (c_X1_keep (D := D) (ad := ad) l _ S 0 (by decide)) ⟨va_cnB 1 B.1.2.2.2.2 gX4_absent_X1_keep_n44 rfl rfl rfl (B.2.1.2 _ nl_X4_44) ki_X1 hd_X1_keep.2 ⟨Nat.le_of_ble_eq_true rfl, Nat.le_of_ble_eq_true rfl⟩, kn_X1_keep, kv_X1_keep⟩ rfl hls (Nat.le_of_ble_eq_true rfl) dX4_absent_14 ⟨Nat.le_of_ble_eq_true rfl, Nat.le_of_ble_eq_true rfl⟩) (fun S_14 H locs he hW => ?_)
  have he_14 := he
  have zk := nm_at zk he_14
  refine lv_aload_n hx hb dX4_absent_17 rfl (lv_at hl 0 rfl) ?_
  refine lv_aload_n hx hb dX4_absent_18 rfl (lv_at hl 0 rfl) ?_
  refine x_getN B hW (hqM (by decide) hbk_2) (cC_M (by decide) hbk_2) cls2 hin_X2 8 (by decide) (v := .int (bz (S_14 (gM 0 k_2) 8))) rfl nl_X4_86 dX4_absent_19 ?_
  refine lv_if_ne (tgt := 29) hx hb dX4_absent_22 (by decide) (fun c_22 => ?_) (fun c_22 => ?_)
  · have zk := zk.trans (if_neg c_22)
    refine lv_iconst (v := 0) hx hb dX4_absent_29 (by decide) ?_
    refine x_putN B hW (hqM (by decide) hbk_2) cls2 hin_X2 8 (by decide) (cC_M (by decide) hbk_2) rfl (ty := .boolean) (by decide +kernel) (nar_z (Or.inl rfl)) (fit_z (Or.inl rfl)) (Nat.le_of_ble_eq_true rfl) (j := 8) (pM_8 (by decide) hbk_2 (Or.inl rfl)) nl_X4_86 dX4_absent_30 (fun H locs S_30 he_30 hW => ?_)
    have zk := nm_at zk he_30
    refine lv_aload_n hx hb dX4_absent_33 rfl (lv_at hl 1 rfl) ?_
    refine x_get B hW hqj cC_j cls4 hin_X4 0 (by decide) (v := .ref (ad (gG 0))) rfl k_10 dX4_absent_34 ?_
    refine x_calli hW (x_runVN B hW (As := []) (rest := []) (host := RX4) (hqG (by decide)) (cC_G (by decide)) cls0 (c_X0_awayMembers (D := D) (ad := ad) l _ S_30 0 (by decide)) ⟨va_cnB 0 B.1.2.2.2.2 gX4_absent_X0_awayMembers_n90 rfl rfl rfl (B.2.1.2 _ nl_X4_90) ki_X0 hd_X0_awayMembers.2 ⟨Nat.le_of_ble_eq_true rfl, Nat.le_of_ble_eq_true rfl⟩, kn_X0_awayMembers, kv_X0_awayMembers⟩ rfl hls (Nat.le_of_ble_eq_true rfl) dX4_absent_37 ⟨Nat.le_of_ble_eq_true rfl, Nat.le_of_ble_eq_true rfl⟩) (fun r_37 S_37 H locs he hW => ?_)
    obtain ⟨hr_37, hs⟩ := he
    rw [hs] at hW
    have zk := nm_at zk hr_37
    exact x_end ⟨Nat.le_of_ble_eq_true rfl, Nat.le_of_ble_eq_true rfl⟩ (x_iret B hW zk.symm dX4_absent_40)
  · have zk := zk.trans (if_pos c_22)
    refine lv_iconst (v := 1) hx hb dX4_absent_25 (by decide) ?_
    refine lv_goto (tgt := 30) hx hb dX4_absent_26 (by decide) ?_
    refine x_putN B hW (hqM (by decide) hbk_2) cls2 hin_X2 8 (by decide) (cC_M (by decide) hbk_2) rfl (ty := .boolean) (by decide +kernel) (nar_z (Or.inr rfl)) (fit_z (Or.inr rfl)) (Nat.le_of_ble_eq_true rfl) (j := 8) (pM_8 (by decide) hbk_2 (Or.inr rfl)) nl_X4_86 dX4_absent_30 (fun H locs S_30 he_30 hW => ?_)
    have zk := nm_at zk he_30
    refine lv_aload_n hx hb dX4_absent_33 rfl (lv_at hl 1 rfl) ?_
    refine x_get B hW hqj cC_j cls4 hin_X4 0 (by decide) (v := .ref (ad (gG 0))) rfl k_10 dX4_absent_34 ?_
    refine x_calli hW (x_runVN B hW (As := []) (rest := []) (host := RX4) (hqG (by decide)) (cC_G (by decide)) cls0 (c_X0_awayMembers (D := D) (ad := ad) l _ S_30 0 (by decide)) ⟨va_cnB 0 B.1.2.2.2.2 gX4_absent_X0_awayMembers_n90 rfl rfl rfl (B.2.1.2 _ nl_X4_90) ki_X0 hd_X0_awayMembers.2 ⟨Nat.le_of_ble_eq_true rfl, Nat.le_of_ble_eq_true rfl⟩, kn_X0_awayMembers, kv_X0_awayMembers⟩ rfl hls (Nat.le_of_ble_eq_true rfl) dX4_absent_37 ⟨Nat.le_of_ble_eq_true rfl, Nat.le_of_ble_eq_true rfl⟩) (fun r_37 S_37 H locs he hW => ?_)
    obtain ⟨hr_37, hs⟩ := he
    rw [hs] at hW
    have zk := nm_at zk hr_37
    exact x_end ⟨Nat.le_of_ble_eq_true rfl, Nat.le_of_ble_eq_true rfl⟩ (x_iret B hW zk.symm dX4_absent_40)

def x_X4_week (S : vS) : ((Nat × Int32) × vS) := nm (x_X0_mayEndWeek S 0) (fun r_4 => if r_4 = 0 then ((1, 0), S) else nm (x_X1_keep S 0) (fun S_28 => nm ((S_28 (gG 0) 9)) (fun x_38 => nm (x_X0_endWeek S_28 0) (fun S_43 => ((0, ((S_43 (gG 0) 9) - x_38)), S_43)))))
theorem hd_X4_week : yX4_week.cls = RX4 ∧ yX4_week.cls ≠ "java/lang/invoke/MethodHandle" ∧ yX4_week.cls ≠ "java/lang/invoke/VarHandle" ∧ (parseMethodDescriptor yX4_week.desc).map (fun d => d.parameters.length) = some 0 := by decide +kernel
set_option maxHeartbeats 4000000 in
set_option maxRecDepth 100000 in
theorem c_X4_week {D : va_G} {ad : Nat → Nat} {V : vE} (l : Launch) (sz : Nat) (hl0 : l.stackTraces = false) (S : vS) : vx_Met l yX4_week wsX4_week (rmX 6 1) (pE D 158 (cC D ad) ad sz V S [.ref (ad jO)]) (va_Qi (fun (r : Int32) (S1 : vS) => ((0, r), S1) = (x_X4_week S)) (bW D 158 (cC D ad) ad (aW 158 ad sz)) (aW 158 ad sz)) (xX D 158 (cC D ad) ad (aW 158 ad sz) (pxS (x_X4_week S))) 1 6 (aW 158 ad sz) := by
  refine x_metX (own := RX4) (cc := cX4_week) (maxL := 2) (ret := (some .int)) (Qc := fun A => va_Qi (fun (r : Int32) (S1 : vS) => ((0, r), S1) = (x_X4_week S)) (bW D 158 (cC D ad) ad A) A) (XC := fun A => xX D 158 (cC D ad) ad A (pxS (x_X4_week S))) rfl ⟨by decide +kernel, rfl, Nat.le_of_ble_eq_true rfl⟩ ?_
  intro p e s mm args below meth c A ls B htab hW hE hl hls
  have hx := B.1.1
  have hb := B.1.2.1
  have hin_X0 : ∀ w ∈ wsX00, w ∈ wsX4_week := fun w h => List.mem_cons_of_mem _ (List.mem_append_left _ (List.mem_append_left _ (List.mem_append_left _ (List.mem_append_right _ h))))
  have hin_X4 : ∀ w ∈ wsX40, w ∈ wsX4_week := fun w h => List.mem_cons_of_mem _ (List.mem_append_left _ (List.mem_append_left _ (List.mem_append_left _ (List.mem_append_left _ (List.mem_append_right _ h)))))
  have hat_41 : ∀ w ∈ (vx_atS RX4 41 "java/lang/IllegalStateException" xuE).filter goodWord, w ∈ wsX4_week := fun w h => List.mem_cons_of_mem _ (List.mem_append_right _ h)
  have k_10 := B.1.2.2.2.2 (.fieldLink RX4 10 "JointLoans" "group" "LJointLoans$Group;") (by decide +kernel)
  have k_22 := B.1.2.2.2.2 (.fieldLink RX4 22 "JointLoans" "history" "LJointLoans$History;") (by decide +kernel)
  have ki_X0 := B.1.2.2.2.2 (.initialized RX0) (by decide +kernel)
  have ki_X1 := B.1.2.2.2.2 (.initialized RX1) (by decide +kernel)
  have kn_X0_endWeek := B.1.2.2.2.2 (.instanceMethod yX0_endWeek) (by decide +kernel)
  have kn_X0_mayEndWeek := B.1.2.2.2.2 (.instanceMethod yX0_mayEndWeek) (by decide +kernel)
  have kn_X1_keep := B.1.2.2.2.2 (.instanceMethod yX1_keep) (by decide +kernel)
  have kv_X0_endWeek := B.1.2.2.2.2 (.selects RX0 yX0_endWeek yX0_endWeek) (by decide +kernel)
  have kv_X0_mayEndWeek := B.1.2.2.2.2 (.selects RX0 yX0_mayEndWeek yX0_mayEndWeek) (by decide +kernel)
  have kv_X1_keep := B.1.2.2.2.2 (.selects RX1 yX1_keep yX1_keep) (by decide +kernel)
  have kx_37 := B.1.2.2.2.2 (.classLink RX4 37 "java/lang/IllegalStateException") (by decide +kernel)
  have ky_1 := B.1.2.2.2.2 (.initialized "java/lang/IllegalStateException") (by decide +kernel)
  have zk := x_X4_week.eq_1 S
  have hl : lv_has ls 2 [(0, .ref (ad jO))] := hl
  refine lv_aload_n hx hb dX4_week_0 rfl (lv_at hl 0 rfl) ?_
  refine x_get B hW hqj cC_j cls4 hin_X4 0 (by decide) (v := .ref (ad (gG 0))) rfl k_10 dX4_week_1 ?_
  refine x_calli hW (x_runVN B hW (As := []) (rest := []) (host := RX4) (hqG (by decide)) (cC_G (by decide)) cls0 (c_X0_mayEndWeek (D := D) (ad := ad) l _ S 0 (by decide)) ⟨va_cnB 0 B.1.2.2.2.2 gX4_week_X0_mayEndWeek_n93 rfl rfl rfl (B.2.1.2 _ nl_X4_93) ki_X0 hd_X0_mayEndWeek.2 ⟨Nat.le_of_ble_eq_true rfl, Nat.le_of_ble_eq_true rfl⟩, kn_X0_mayEndWeek, kv_X0_mayEndWeek⟩ rfl hls (Nat.le_of_ble_eq_true rfl) dX4_week_4 ⟨Nat.le_of_ble_eq_true rfl, Nat.le_of_ble_eq_true rfl⟩) (fun r_4 S_4 H locs he hW => ?_)
  obtain ⟨hr_4, hs, hz_4⟩ := he
  rw [hs] at hW
  have zk := nm_at zk hr_4
  refine lv_if_ne (tgt := 20) hx hb dX4_week_7 (by decide) (fun c_7 => ?_) (fun c_7 => ?_)
  · have zk := zk.trans (if_neg c_7)
    refine lv_aload_n hx hb dX4_week_20 rfl (lv_at hl 0 rfl) ?_
    refine x_get B hW hqj cC_j cls4 hin_X4 2 (by decide) (v := .ref (ad hO)) rfl k_22 dX4_week_21 ?_
    refine lv_aload_n hx hb dX4_week_24 rfl (lv_at hl 0 rfl) ?_
    refine x_get B hW hqj cC_j cls4 hin_X4 0 (by decide) (v := .ref (ad (gG 0))) rfl k_10 dX4_week_25 ?_
    refine x_callv hW (x_runVN B hW (As := [.ref (ad (gG 0))]) (rest := []) (host := RX4) hqh cC_h cls1 (c_X1_keep (D := D) (ad := ad) l _ S 0 (by decide)) ⟨va_cnB 1 B.1.2.2.2.2 gX4_week_X1_keep_n44 rfl rfl rfl (B.2.1.2 _ nl_X4_44) ki_X1 hd_X1_keep.2 ⟨Nat.le_of_ble_eq_true rfl, Nat.le_of_ble_eq_true rfl⟩, kn_X1_keep, kv_X1_keep⟩ rfl hls (Nat.le_of_ble_eq_true rfl) dX4_week_28 ⟨Nat.le_of_ble_eq_true rfl, Nat.le_of_ble_eq_true rfl⟩) (fun S_28 H locs he hW => ?_)
    have he_28 := he
    have zk := nm_at zk he_28
    refine lv_aload_n hx hb dX4_week_31 rfl (lv_at hl 0 rfl) ?_
    refine x_get B hW hqj cC_j cls4 hin_X4 0 (by decide) (v := .ref (ad (gG 0))) rfl k_10 dX4_week_32 ?_
    refine x_getN B hW (hqG (by decide)) (cC_G (by decide)) cls0 hin_X0 9 (by decide) (v := .int (S_28 (gG 0) 9)) rfl nl_X4_99 dX4_week_35 ?_
    refine lv_topi (fun x_38 ex_38 => ?_)
    have zk := nm_at zk ex_38
    refine lv_istore_n (lv' := [(1, .int x_38), (0, .ref (ad jO))]) hx hb dX4_week_38 rfl hl (by decide) rfl (fun ls hl => ?_)
    have hls := hl.1
    refine lv_aload_n hx hb dX4_week_39 rfl (lv_at hl 1 rfl) ?_
    refine x_get B hW hqj cC_j cls4 hin_X4 0 (by decide) (v := .ref (ad (gG 0))) rfl k_10 dX4_week_40 ?_
    refine x_callv hW (x_runVN B hW (As := []) (rest := []) (host := RX4) (hqG (by decide)) (cC_G (by decide)) cls0 (c_X0_endWeek (D := D) (ad := ad) l _ S_28 0 (by decide)) ⟨va_cnB 0 B.1.2.2.2.2 gX4_week_X0_endWeek_n102 rfl rfl rfl (B.2.1.2 _ nl_X4_102) ki_X0 hd_X0_endWeek.2 ⟨Nat.le_of_ble_eq_true rfl, Nat.le_of_ble_eq_true rfl⟩, kn_X0_endWeek, kv_X0_endWeek⟩ rfl hls (Nat.le_of_ble_eq_true rfl) dX4_week_43 ⟨Nat.le_of_ble_eq_true rfl, Nat.le_of_ble_eq_true rfl⟩) (fun S_43 H locs he hW => ?_)
    have he_43 := he
    have zk := nm_at zk he_43
    refine lv_aload_n hx hb dX4_week_46 rfl (lv_at hl 1 rfl) ?_
    refine x_get B hW hqj cC_j cls4 hin_X4 0 (by decide) (v := .ref (ad (gG 0))) rfl k_10 dX4_week_47 ?_
    refine x_getN B hW (hqG (by decide)) (cC_G (by decide)) cls0 hin_X0 9 (by decide) (v := .int (S_43 (gG 0) 9)) rfl nl_X4_99 dX4_week_50 ?_
    refine lv_iload_n hx hb dX4_week_53 rfl (lv_at hl 0 rfl) ?_
    refine lv_isub hx hb dX4_week_54 ?_
    exact x_end ⟨Nat.le_of_ble_eq_true rfl, Nat.le_of_ble_eq_true rfl⟩ (x_iret B hW zk.symm dX4_week_55)
  · have zk := zk.trans (if_pos c_7)
    exact x_throw B htab hW hE hl0 hls (cls := "java/lang/IllegalStateException") (text := "there is no week behind this one") (by decide +kernel) (by decide +kernel) kx_37 ky_1 (fun w h => B.1.2.2.2.2 w (hat_41 w h)) (by decide +kernel) (by decide +kernel) (by decide +kernel) dX4_week_10 dX4_week_13 dX4_week_14 dX4_week_16 dX4_week_19 ⟨Nat.le_of_ble_eq_true rfl, Nat.le_of_ble_eq_true rfl, Nat.le_of_ble_eq_true rfl, Nat.le_of_ble_eq_true rfl⟩ ⟨Nat.le_of_ble_eq_true rfl, Nat.le_of_ble_eq_true rfl⟩ ⟨1, 0, by decide, rfl, zk.symm⟩

def x_X4_checkMoney (S : vS) (p1 : Int32) : (Nat × Int32) := if p1 < 1 then (3, 0) else if p1 ≤ 2000 then (0, 0) else (3, 0)
theorem hd_X4_checkMoney : yX4_checkMoney.cls = RX4 ∧ yX4_checkMoney.cls ≠ "java/lang/invoke/MethodHandle" ∧ yX4_checkMoney.cls ≠ "java/lang/invoke/VarHandle" ∧ (parseMethodDescriptor yX4_checkMoney.desc).map (fun d => d.parameters.length) = some 1 := by decide +kernel
set_option maxHeartbeats 4000000 in
set_option maxRecDepth 100000 in
theorem c_X4_checkMoney {D : va_G} {ad : Nat → Nat} {V : vE} (l : Launch) (sz : Nat) (hl0 : l.stackTraces = false) (S : vS) (p1 : Int32) : vx_Met l yX4_checkMoney wsX4_checkMoney (rmX 6 1) (pE D 158 (cC D ad) ad sz V S [.int p1]) (va_Qv (fun (S1 : vS) => (0, (0 : Int32)) = (x_X4_checkMoney S p1) ∧ S1 = S) (bW D 158 (cC D ad) ad (aW 158 ad sz)) (aW 158 ad sz)) (xX D 158 (cC D ad) ad (aW 158 ad sz) (pxP (x_X4_checkMoney S p1) S)) 1 6 (aW 158 ad sz) := by
  refine x_metX (own := RX4) (cc := cX4_checkMoney) (maxL := 1) (ret := none) (Qc := fun A => va_Qv (fun (S1 : vS) => (0, (0 : Int32)) = (x_X4_checkMoney S p1) ∧ S1 = S) (bW D 158 (cC D ad) ad A) A) (XC := fun A => xX D 158 (cC D ad) ad A (pxP (x_X4_checkMoney S p1) S)) rfl ⟨by decide +kernel, rfl, Nat.le_of_ble_eq_true rfl⟩ ?_
  intro p e s mm args below meth c A ls B htab hW hE hl hls
  have hx := B.1.1
  have hb := B.1.2.1
  have hat_70 : ∀ w ∈ (vx_atS RX4 70 "java/lang/IllegalArgumentException" xuE).filter goodWord, w ∈ wsX4_checkMoney := fun w h => List.mem_cons_of_mem _ (List.mem_append_right _ h)
  have kx_66 := B.1.2.2.2.2 (.classLink RX4 66 "java/lang/IllegalArgumentException") (by decide +kernel)
  have ky_3 := B.1.2.2.2.2 (.initialized "java/lang/IllegalArgumentException") (by decide +kernel)
  have zk := x_X4_checkMoney.eq_1 S p1
  have hl : lv_has ls 1 [(0, .int p1)] := hl
  refine lv_iload_n hx hb dX4_checkMoney_0 rfl (lv_at hl 0 rfl) ?_
  refine lv_iconst (v := 1) hx hb dX4_checkMoney_1 (by decide) ?_
  refine lv_icmp_lt (tgt := 12) hx hb dX4_checkMoney_2 (by decide) (fun c_2 => ?_) (fun c_2 => ?_)
  · have zk := zk.trans (if_pos c_2)
    exact x_throwW B htab hW hE hl0 hls (cls := "java/lang/IllegalArgumentException") (text := "money is out of range") (by decide +kernel) (by decide +kernel) kx_66 ky_3 (fun w h => B.1.2.2.2.2 w (hat_70 w h)) (by decide +kernel) (by decide +kernel) (by decide +kernel) dX4_checkMoney_12 dX4_checkMoney_15 dX4_checkMoney_16 dX4_checkMoney_19 dX4_checkMoney_22 ⟨Nat.le_of_ble_eq_true rfl, Nat.le_of_ble_eq_true rfl, Nat.le_of_ble_eq_true rfl, Nat.le_of_ble_eq_true rfl⟩ ⟨Nat.le_of_ble_eq_true rfl, Nat.le_of_ble_eq_true rfl⟩ ⟨⟨3, 0, by decide, rfl, zk.symm⟩, rfl⟩
  · have zk := zk.trans (if_neg c_2)
    refine lv_iload_n hx hb dX4_checkMoney_5 rfl (lv_at hl 0 rfl) ?_
    refine lv_sipush (v := 2000) hx hb dX4_checkMoney_6 (by decide) ?_
    refine lv_icmp_le (tgt := 23) hx hb dX4_checkMoney_9 (by decide) (fun c_9 => ?_) (fun c_9 => ?_)
    · have zk := zk.trans (if_pos c_9)
      exact x_end ⟨Nat.le_of_ble_eq_true rfl, Nat.le_of_ble_eq_true rfl⟩ (x_vret B hW ⟨zk.symm, rfl⟩ dX4_checkMoney_23)
    · have zk := zk.trans (if_neg c_9)
      exact x_throwW B htab hW hE hl0 hls (cls := "java/lang/IllegalArgumentException") (text := "money is out of range") (by decide +kernel) (by decide +kernel) kx_66 ky_3 (fun w h => B.1.2.2.2.2 w (hat_70 w h)) (by decide +kernel) (by decide +kernel) (by decide +kernel) dX4_checkMoney_12 dX4_checkMoney_15 dX4_checkMoney_16 dX4_checkMoney_19 dX4_checkMoney_22 ⟨Nat.le_of_ble_eq_true rfl, Nat.le_of_ble_eq_true rfl, Nat.le_of_ble_eq_true rfl, Nat.le_of_ble_eq_true rfl⟩ ⟨Nat.le_of_ble_eq_true rfl, Nat.le_of_ble_eq_true rfl⟩ ⟨⟨3, 0, by decide, rfl, zk.symm⟩, rfl⟩

def x_X4_payBack (S : vS) (p1 : Int32) (p2 : Int32) : ((Nat × Int32) × vS) := tbp 0 (x_X4_memberOrThrow S p1) S (fun k_2 => tbp 0 (x_X4_checkMoney S p2) S (fun _ => nm (x_X2_hasDebts S 0 k_2) (fun r_11 => if r_11 = 0 then ((1, 0), S) else nm (x_X1_keep S 0) (fun S_35 => nmp (x_X0_takePayment S_35 0 k_2 p2) (fun r_44 S_44 => ((0, r_44), S_44))))))
theorem hd_X4_payBack : yX4_payBack.cls = RX4 ∧ yX4_payBack.cls ≠ "java/lang/invoke/MethodHandle" ∧ yX4_payBack.cls ≠ "java/lang/invoke/VarHandle" ∧ (parseMethodDescriptor yX4_payBack.desc).map (fun d => d.parameters.length) = some 2 := by decide +kernel
set_option maxHeartbeats 4000000 in
set_option maxRecDepth 100000 in
theorem c_X4_payBack {D : va_G} {ad : Nat → Nat} {V : vE} (l : Launch) (sz : Nat) (hl0 : l.stackTraces = false) (S : vS) (p1 : Int32) (p2 : Int32) : vx_Met l yX4_payBack wsX4_payBack (rmX 7 3) (pE D 158 (cC D ad) ad sz V S [.ref (ad jO), .int p1, .int p2]) (va_Qi (fun (r : Int32) (S1 : vS) => ((0, r), S1) = (x_X4_payBack S p1 p2)) (bW D 158 (cC D ad) ad (aW 158 ad sz)) (aW 158 ad sz)) (xX D 158 (cC D ad) ad (aW 158 ad sz) (pxS (x_X4_payBack S p1 p2))) 3 18 (aW 158 ad sz) := by
  refine x_metX (own := RX4) (cc := cX4_payBack) (maxL := 4) (ret := (some .int)) (Qc := fun A => va_Qi (fun (r : Int32) (S1 : vS) => ((0, r), S1) = (x_X4_payBack S p1 p2)) (bW D 158 (cC D ad) ad A) A) (XC := fun A => xX D 158 (cC D ad) ad A (pxS (x_X4_payBack S p1 p2))) rfl ⟨by decide +kernel, rfl, Nat.le_of_ble_eq_true rfl⟩ ?_
  intro p e s mm args below meth c A ls B htab hW hE hl hls
  have hx := B.1.1
  have hb := B.1.2.1
  have hin_X4 : ∀ w ∈ wsX40, w ∈ wsX4_payBack := fun w h => List.mem_cons_of_mem _ (List.mem_append_left _ (List.mem_append_left _ (List.mem_append_left _ (List.mem_append_left _ (List.mem_append_left _ (List.mem_append_left _ (List.mem_append_right _ h)))))))
  have hat_41 : ∀ w ∈ (vx_atS RX4 41 "java/lang/IllegalStateException" xuE).filter goodWord, w ∈ wsX4_payBack := fun w h => List.mem_cons_of_mem _ (List.mem_append_left _ (List.mem_append_left _ (List.mem_append_right _ h)))
  have k_10 := B.1.2.2.2.2 (.fieldLink RX4 10 "JointLoans" "group" "LJointLoans$Group;") (by decide +kernel)
  have k_22 := B.1.2.2.2.2 (.fieldLink RX4 22 "JointLoans" "history" "LJointLoans$History;") (by decide +kernel)
  have ki_X0 := B.1.2.2.2.2 (.initialized RX0) (by decide +kernel)
  have ki_X1 := B.1.2.2.2.2 (.initialized RX1) (by decide +kernel)
  have ki_X2 := B.1.2.2.2.2 (.initialized RX2) (by decide +kernel)
  have kn_X0_takePayment := B.1.2.2.2.2 (.instanceMethod yX0_takePayment) (by decide +kernel)
  have kn_X1_keep := B.1.2.2.2.2 (.instanceMethod yX1_keep) (by decide +kernel)
  have kn_X2_hasDebts := B.1.2.2.2.2 (.instanceMethod yX2_hasDebts) (by decide +kernel)
  have kv_X0_takePayment := B.1.2.2.2.2 (.selects RX0 yX0_takePayment yX0_takePayment) (by decide +kernel)
  have kv_X1_keep := B.1.2.2.2.2 (.selects RX1 yX1_keep yX1_keep) (by decide +kernel)
  have kv_X2_hasDebts := B.1.2.2.2.2 (.selects RX2 yX2_hasDebts yX2_hasDebts) (by decide +kernel)
  have kx_37 := B.1.2.2.2.2 (.classLink RX4 37 "java/lang/IllegalStateException") (by decide +kernel)
  have ky_1 := B.1.2.2.2.2 (.initialized "java/lang/IllegalStateException") (by decide +kernel)
  have zk := x_X4_payBack.eq_1 S p1 p2
  have hl : lv_has ls 4 [(0, .ref (ad jO)), (1, .int p1), (2, .int p2)] := hl
  refine lv_aload_n hx hb dX4_payBack_0 rfl (lv_at hl 0 rfl) ?_
  refine lv_iload_n hx hb dX4_payBack_1 rfl (lv_at hl 1 rfl) ?_
  refine x_xcallq B htab hW (x_runVX B hW hE (As := [.int p1]) (rest := []) hqj cC_j cls4 (c_X4_memberOrThrow (D := D) (ad := ad) (V := V) l _ hl0 S p1) (cwV 1 B.1.2.2.2.2 gX4_payBack_X4_memberOrThrow rfl rfl rfl hd_X4_memberOrThrow ⟨Nat.le_of_ble_eq_true rfl, Nat.le_of_ble_eq_true rfl⟩) rfl hls (Nat.le_of_ble_eq_true rfl) dX4_payBack_2 ⟨Nat.le_of_ble_eq_true rfl, Nat.le_of_ble_eq_true rfl⟩) ⟨Nat.le_of_ble_eq_true rfl, Nat.le_of_ble_eq_true rfl⟩ (fun E S1 hq => by obtain ⟨⟨k, v, hk, hn, he⟩, hs⟩ := hq; rw [hs]; exact ⟨k, _, hk, hn, (tbp_ex zk he hk).symm⟩) (fun r_2 S_2 H locs he hW => ?_)
  obtain ⟨⟨k_2, hr, he_2, hbk_2⟩, hs⟩ := he
  rw [hs] at hW
  subst hr
  have zk := tbp_ok zk he_2
  refine W.eq (g2 := F0 mm 5 ls (.ref (ad (gM 0 k_2)) :: [])) rfl ?_
  refine lv_astore_n (lv' := [(3, .ref (ad (gM 0 k_2))), (0, .ref (ad jO)), (1, .int p1), (2, .int p2)]) hx hb dX4_payBack_5 rfl hl (by decide) rfl (fun ls hl => ?_)
  have hls := hl.1
  refine lv_iload_n hx hb dX4_payBack_6 rfl (lv_at hl 3 rfl) ?_
  refine x_xcallv B htab hW (x_runSX B hW hE (As := [.int p2]) (rest := []) (c_X4_checkMoney (D := D) (ad := ad) (V := V) l _ hl0 S p2) (va_cwS 1 B.1.2.2.2.2 gX4_payBack_X4_checkMoney rfl rfl rfl hd_X4_checkMoney.2 ⟨Nat.le_of_ble_eq_true rfl, Nat.le_of_ble_eq_true rfl⟩) rfl hls (Nat.le_of_ble_eq_true rfl) dX4_payBack_7 ⟨Nat.le_of_ble_eq_true rfl, Nat.le_of_ble_eq_true rfl⟩) ⟨Nat.le_of_ble_eq_true rfl, Nat.le_of_ble_eq_true rfl⟩ (fun E S1 hq => by obtain ⟨⟨k, v, hk, hn, he⟩, hs⟩ := hq; rw [hs]; exact ⟨k, _, hk, hn, (tbp_ex zk he hk).symm⟩) (fun S_7 H locs he hW => ?_)
  obtain ⟨he_7, hs⟩ := he
  rw [hs] at hW
  have zk := tbp_ok zk he_7
  refine lv_aload_n hx hb dX4_payBack_10 rfl (lv_at hl 0 rfl) ?_
  refine x_calli hW (x_runVN B hW (As := []) (rest := []) (host := RX4) (hqM (by decide) hbk_2) (cC_M (by decide) hbk_2) cls2 (c_X2_hasDebts (D := D) (ad := ad) l _ S 0 k_2 (by decide) hbk_2) ⟨va_cnB 0 B.1.2.2.2.2 gX4_payBack_X2_hasDebts_n109 rfl rfl rfl (B.2.1.2 _ nl_X4_109) ki_X2 hd_X2_hasDebts.2 ⟨Nat.le_of_ble_eq_true rfl, Nat.le_of_ble_eq_true rfl⟩, kn_X2_hasDebts, kv_X2_hasDebts⟩ rfl hls (Nat.le_of_ble_eq_true rfl) dX4_payBack_11 ⟨Nat.le_of_ble_eq_true rfl, Nat.le_of_ble_eq_true rfl⟩) (fun r_11 S_11 H locs he hW => ?_)
  obtain ⟨hr_11, hs, hz_11⟩ := he
  rw [hs] at hW
  have zk := nm_at zk hr_11
  refine lv_if_ne (tgt := 27) hx hb dX4_payBack_14 (by decide) (fun c_14 => ?_) (fun c_14 => ?_)
  · have zk := zk.trans (if_neg c_14)
    refine lv_aload_n hx hb dX4_payBack_27 rfl (lv_at hl 1 rfl) ?_
    refine x_get B hW hqj cC_j cls4 hin_X4 2 (by decide) (v := .ref (ad hO)) rfl k_22 dX4_payBack_28 ?_
    refine lv_aload_n hx hb dX4_payBack_31 rfl (lv_at hl 1 rfl) ?_
    refine x_get B hW hqj cC_j cls4 hin_X4 0 (by decide) (v := .ref (ad (gG 0))) rfl k_10 dX4_payBack_32 ?_
    refine x_callv hW (x_runVN B hW (As := [.ref (ad (gG 0))]) (rest := []) (host := RX4) hqh cC_h cls1 (c_X1_keep (D := D) (ad := ad) l _ S 0 (by decide)) ⟨va_cnB 1 B.1.2.2.2.2 gX4_payBack_X1_keep_n44 rfl rfl rfl (B.2.1.2 _ nl_X4_44) ki_X1 hd_X1_keep.2 ⟨Nat.le_of_ble_eq_true rfl, Nat.le_of_ble_eq_true rfl⟩, kn_X1_keep, kv_X1_keep⟩ rfl hls (Nat.le_of_ble_eq_true rfl) dX4_payBack_35 ⟨Nat.le_of_ble_eq_true rfl, Nat.le_of_ble_eq_true rfl⟩) (fun S_35 H locs he hW => ?_)
    have he_35 := he
    have zk := nm_at zk he_35
    refine lv_aload_n hx hb dX4_payBack_38 rfl (lv_at hl 1 rfl) ?_
    refine x_get B hW hqj cC_j cls4 hin_X4 0 (by decide) (v := .ref (ad (gG 0))) rfl k_10 dX4_payBack_39 ?_
    refine lv_aload_n hx hb dX4_payBack_42 rfl (lv_at hl 0 rfl) ?_
    refine lv_iload_n hx hb dX4_payBack_43 rfl (lv_at hl 3 rfl) ?_
    refine x_calli hW (x_runVN B hW (As := [.ref (ad (gM 0 k_2)), .int p2]) (rest := []) (host := RX4) (hqG (by decide)) (cC_G (by decide)) cls0 (c_X0_takePayment (D := D) (ad := ad) l _ S_35 0 k_2 p2 (by decide) hbk_2) ⟨va_cnB 2 B.1.2.2.2.2 gX4_payBack_X0_takePayment_n114 rfl rfl rfl (B.2.1.2 _ nl_X4_114) ki_X0 hd_X0_takePayment.2 ⟨Nat.le_of_ble_eq_true rfl, Nat.le_of_ble_eq_true rfl⟩, kn_X0_takePayment, kv_X0_takePayment⟩ rfl hls (Nat.le_of_ble_eq_true rfl) dX4_payBack_44 ⟨Nat.le_of_ble_eq_true rfl, Nat.le_of_ble_eq_true rfl⟩) (fun r_44 S_44 H locs he hW => ?_)
    have hr_44 := he
    have zk := nmp_at zk hr_44
    have he_44 : S_44 = (x_X0_takePayment S_35 0 k_2 p2).2 := by rw [← hr_44]
    exact x_end ⟨Nat.le_of_ble_eq_true rfl, Nat.le_of_ble_eq_true rfl⟩ (x_iret B hW zk.symm dX4_payBack_47)
  · have zk := zk.trans (if_pos c_14)
    exact x_throw B htab hW hE hl0 hls (cls := "java/lang/IllegalStateException") (text := "the member has no debts") (by decide +kernel) (by decide +kernel) kx_37 ky_1 (fun w h => B.1.2.2.2.2 w (hat_41 w h)) (by decide +kernel) (by decide +kernel) (by decide +kernel) dX4_payBack_17 dX4_payBack_20 dX4_payBack_21 dX4_payBack_23 dX4_payBack_26 ⟨Nat.le_of_ble_eq_true rfl, Nat.le_of_ble_eq_true rfl, Nat.le_of_ble_eq_true rfl, Nat.le_of_ble_eq_true rfl⟩ ⟨Nat.le_of_ble_eq_true rfl, Nat.le_of_ble_eq_true rfl⟩ ⟨1, 0, by decide, rfl, zk.symm⟩

def x_X4_help (S : vS) (p1 : Int32) (p2 : Int32) : ((Nat × Int32) × vS) := tbp 0 (x_X4_memberOrThrow S p1) S (fun k_2 => tbp 0 (x_X4_checkMoney S p2) S (fun _ => nm (x_X0_mayHelp S 0 k_2 p2) (fun r_16 => if r_16 = 0 then ((1, 0), S) else nm (x_X1_keep S 0) (fun S_40 => nm (x_X0_grantHelp S_40 0 k_2 p2) (fun S_49 => ((0, (S_49 (gG 0) 6)), S_49))))))
theorem hd_X4_help : yX4_help.cls = RX4 ∧ yX4_help.cls ≠ "java/lang/invoke/MethodHandle" ∧ yX4_help.cls ≠ "java/lang/invoke/VarHandle" ∧ (parseMethodDescriptor yX4_help.desc).map (fun d => d.parameters.length) = some 2 := by decide +kernel
set_option maxHeartbeats 4000000 in
set_option maxRecDepth 100000 in
theorem c_X4_help {D : va_G} {ad : Nat → Nat} {V : vE} (l : Launch) (sz : Nat) (hl0 : l.stackTraces = false) (S : vS) (p1 : Int32) (p2 : Int32) : vx_Met l yX4_help wsX4_help (rmX 7 3) (pE D 158 (cC D ad) ad sz V S [.ref (ad jO), .int p1, .int p2]) (va_Qi (fun (r : Int32) (S1 : vS) => ((0, r), S1) = (x_X4_help S p1 p2)) (bW D 158 (cC D ad) ad (aW 158 ad sz)) (aW 158 ad sz)) (xX D 158 (cC D ad) ad (aW 158 ad sz) (pxS (x_X4_help S p1 p2))) 3 18 (aW 158 ad sz) := by
  refine x_metX (own := RX4) (cc := cX4_help) (maxL := 4) (ret := (some .int)) (Qc := fun A => va_Qi (fun (r : Int32) (S1 : vS) => ((0, r), S1) = (x_X4_help S p1 p2)) (bW D 158 (cC D ad) ad A) A) (XC := fun A => xX D 158 (cC D ad) ad A (pxS (x_X4_help S p1 p2))) rfl ⟨by decide +kernel, rfl, Nat.le_of_ble_eq_true rfl⟩ ?_
  intro p e s mm args below meth c A ls B htab hW hE hl hls
  have hx := B.1.1
  have hb := B.1.2.1
  have hin_X0 : ∀ w ∈ wsX00, w ∈ wsX4_help := fun w h => List.mem_cons_of_mem _ (List.mem_append_left _ (List.mem_append_left _ (List.mem_append_left _ (List.mem_append_left _ (List.mem_append_left _ (List.mem_append_right _ h))))))
  have hin_X4 : ∀ w ∈ wsX40, w ∈ wsX4_help := fun w h => List.mem_cons_of_mem _ (List.mem_append_left _ (List.mem_append_left _ (List.mem_append_left _ (List.mem_append_left _ (List.mem_append_left _ (List.mem_append_left _ (List.mem_append_right _ h)))))))
  have hat_41 : ∀ w ∈ (vx_atS RX4 41 "java/lang/IllegalStateException" xuE).filter goodWord, w ∈ wsX4_help := fun w h => List.mem_cons_of_mem _ (List.mem_append_left _ (List.mem_append_left _ (List.mem_append_right _ h)))
  have k_10 := B.1.2.2.2.2 (.fieldLink RX4 10 "JointLoans" "group" "LJointLoans$Group;") (by decide +kernel)
  have k_22 := B.1.2.2.2.2 (.fieldLink RX4 22 "JointLoans" "history" "LJointLoans$History;") (by decide +kernel)
  have ki_X0 := B.1.2.2.2.2 (.initialized RX0) (by decide +kernel)
  have ki_X1 := B.1.2.2.2.2 (.initialized RX1) (by decide +kernel)
  have kn_X0_grantHelp := B.1.2.2.2.2 (.instanceMethod yX0_grantHelp) (by decide +kernel)
  have kn_X0_mayHelp := B.1.2.2.2.2 (.instanceMethod yX0_mayHelp) (by decide +kernel)
  have kn_X1_keep := B.1.2.2.2.2 (.instanceMethod yX1_keep) (by decide +kernel)
  have kv_X0_grantHelp := B.1.2.2.2.2 (.selects RX0 yX0_grantHelp yX0_grantHelp) (by decide +kernel)
  have kv_X0_mayHelp := B.1.2.2.2.2 (.selects RX0 yX0_mayHelp yX0_mayHelp) (by decide +kernel)
  have kv_X1_keep := B.1.2.2.2.2 (.selects RX1 yX1_keep yX1_keep) (by decide +kernel)
  have kx_37 := B.1.2.2.2.2 (.classLink RX4 37 "java/lang/IllegalStateException") (by decide +kernel)
  have ky_1 := B.1.2.2.2.2 (.initialized "java/lang/IllegalStateException") (by decide +kernel)
  have zk := x_X4_help.eq_1 S p1 p2
  have hl : lv_has ls 4 [(0, .ref (ad jO)), (1, .int p1), (2, .int p2)] := hl
  refine lv_aload_n hx hb dX4_help_0 rfl (lv_at hl 0 rfl) ?_
  refine lv_iload_n hx hb dX4_help_1 rfl (lv_at hl 1 rfl) ?_
  refine x_xcallq B htab hW (x_runVX B hW hE (As := [.int p1]) (rest := []) hqj cC_j cls4 (c_X4_memberOrThrow (D := D) (ad := ad) (V := V) l _ hl0 S p1) (cwV 1 B.1.2.2.2.2 gX4_help_X4_memberOrThrow rfl rfl rfl hd_X4_memberOrThrow ⟨Nat.le_of_ble_eq_true rfl, Nat.le_of_ble_eq_true rfl⟩) rfl hls (Nat.le_of_ble_eq_true rfl) dX4_help_2 ⟨Nat.le_of_ble_eq_true rfl, Nat.le_of_ble_eq_true rfl⟩) ⟨Nat.le_of_ble_eq_true rfl, Nat.le_of_ble_eq_true rfl⟩ (fun E S1 hq => by obtain ⟨⟨k, v, hk, hn, he⟩, hs⟩ := hq; rw [hs]; exact ⟨k, _, hk, hn, (tbp_ex zk he hk).symm⟩) (fun r_2 S_2 H locs he hW => ?_)
  obtain ⟨⟨k_2, hr, he_2, hbk_2⟩, hs⟩ := he
  rw [hs] at hW
  subst hr
  have zk := tbp_ok zk he_2
  refine W.eq (g2 := F0 mm 5 ls (.ref (ad (gM 0 k_2)) :: [])) rfl ?_
  refine lv_astore_n (lv' := [(3, .ref (ad (gM 0 k_2))), (0, .ref (ad jO)), (1, .int p1), (2, .int p2)]) hx hb dX4_help_5 rfl hl (by decide) rfl (fun ls hl => ?_)
  have hls := hl.1
  refine lv_iload_n hx hb dX4_help_6 rfl (lv_at hl 3 rfl) ?_
  refine x_xcallv B htab hW (x_runSX B hW hE (As := [.int p2]) (rest := []) (c_X4_checkMoney (D := D) (ad := ad) (V := V) l _ hl0 S p2) (va_cwS 1 B.1.2.2.2.2 gX4_help_X4_checkMoney rfl rfl rfl hd_X4_checkMoney.2 ⟨Nat.le_of_ble_eq_true rfl, Nat.le_of_ble_eq_true rfl⟩) rfl hls (Nat.le_of_ble_eq_true rfl) dX4_help_7 ⟨Nat.le_of_ble_eq_true rfl, Nat.le_of_ble_eq_true rfl⟩) ⟨Nat.le_of_ble_eq_true rfl, Nat.le_of_ble_eq_true rfl⟩ (fun E S1 hq => by obtain ⟨⟨k, v, hk, hn, he⟩, hs⟩ := hq; rw [hs]; exact ⟨k, _, hk, hn, (tbp_ex zk he hk).symm⟩) (fun S_7 H locs he hW => ?_)
  obtain ⟨he_7, hs⟩ := he
  rw [hs] at hW
  have zk := tbp_ok zk he_7
  refine lv_aload_n hx hb dX4_help_10 rfl (lv_at hl 1 rfl) ?_
  refine x_get B hW hqj cC_j cls4 hin_X4 0 (by decide) (v := .ref (ad (gG 0))) rfl k_10 dX4_help_11 ?_
  refine lv_aload_n hx hb dX4_help_14 rfl (lv_at hl 0 rfl) ?_
  refine lv_iload_n hx hb dX4_help_15 rfl (lv_at hl 3 rfl) ?_
  refine x_calli hW (x_runVN B hW (As := [.ref (ad (gM 0 k_2)), .int p2]) (rest := []) (host := RX4) (hqG (by decide)) (cC_G (by decide)) cls0 (c_X0_mayHelp (D := D) (ad := ad) l _ S 0 k_2 p2 (by decide) hbk_2) ⟨va_cnB 2 B.1.2.2.2.2 gX4_help_X0_mayHelp_n118 rfl rfl rfl (B.2.1.2 _ nl_X4_118) ki_X0 hd_X0_mayHelp.2 ⟨Nat.le_of_ble_eq_true rfl, Nat.le_of_ble_eq_true rfl⟩, kn_X0_mayHelp, kv_X0_mayHelp⟩ rfl hls (Nat.le_of_ble_eq_true rfl) dX4_help_16 ⟨Nat.le_of_ble_eq_true rfl, Nat.le_of_ble_eq_true rfl⟩) (fun r_16 S_16 H locs he hW => ?_)
  obtain ⟨hr_16, hs, hz_16⟩ := he
  rw [hs] at hW
  have zk := nm_at zk hr_16
  refine lv_if_ne (tgt := 32) hx hb dX4_help_19 (by decide) (fun c_19 => ?_) (fun c_19 => ?_)
  · have zk := zk.trans (if_neg c_19)
    refine lv_aload_n hx hb dX4_help_32 rfl (lv_at hl 1 rfl) ?_
    refine x_get B hW hqj cC_j cls4 hin_X4 2 (by decide) (v := .ref (ad hO)) rfl k_22 dX4_help_33 ?_
    refine lv_aload_n hx hb dX4_help_36 rfl (lv_at hl 1 rfl) ?_
    refine x_get B hW hqj cC_j cls4 hin_X4 0 (by decide) (v := .ref (ad (gG 0))) rfl k_10 dX4_help_37 ?_
    refine x_callv hW (x_runVN B hW (As := [.ref (ad (gG 0))]) (rest := []) (host := RX4) hqh cC_h cls1 (c_X1_keep (D := D) (ad := ad) l _ S 0 (by decide)) ⟨va_cnB 1 B.1.2.2.2.2 gX4_help_X1_keep_n44 rfl rfl rfl (B.2.1.2 _ nl_X4_44) ki_X1 hd_X1_keep.2 ⟨Nat.le_of_ble_eq_true rfl, Nat.le_of_ble_eq_true rfl⟩, kn_X1_keep, kv_X1_keep⟩ rfl hls (Nat.le_of_ble_eq_true rfl) dX4_help_40 ⟨Nat.le_of_ble_eq_true rfl, Nat.le_of_ble_eq_true rfl⟩) (fun S_40 H locs he hW => ?_)
    have he_40 := he
    have zk := nm_at zk he_40
    refine lv_aload_n hx hb dX4_help_43 rfl (lv_at hl 1 rfl) ?_
    refine x_get B hW hqj cC_j cls4 hin_X4 0 (by decide) (v := .ref (ad (gG 0))) rfl k_10 dX4_help_44 ?_
    refine lv_aload_n hx hb dX4_help_47 rfl (lv_at hl 0 rfl) ?_
    refine lv_iload_n hx hb dX4_help_48 rfl (lv_at hl 3 rfl) ?_
    refine x_callv hW (x_runVN B hW (As := [.ref (ad (gM 0 k_2)), .int p2]) (rest := []) (host := RX4) (hqG (by decide)) (cC_G (by decide)) cls0 (c_X0_grantHelp (D := D) (ad := ad) l _ S_40 0 k_2 p2 (by decide) hbk_2) ⟨va_cnB 2 B.1.2.2.2.2 gX4_help_X0_grantHelp_n124 rfl rfl rfl (B.2.1.2 _ nl_X4_124) ki_X0 hd_X0_grantHelp.2 ⟨Nat.le_of_ble_eq_true rfl, Nat.le_of_ble_eq_true rfl⟩, kn_X0_grantHelp, kv_X0_grantHelp⟩ rfl hls (Nat.le_of_ble_eq_true rfl) dX4_help_49 ⟨Nat.le_of_ble_eq_true rfl, Nat.le_of_ble_eq_true rfl⟩) (fun S_49 H locs he hW => ?_)
    have he_49 := he
    have zk := nm_at zk he_49
    refine lv_aload_n hx hb dX4_help_52 rfl (lv_at hl 1 rfl) ?_
    refine x_get B hW hqj cC_j cls4 hin_X4 0 (by decide) (v := .ref (ad (gG 0))) rfl k_10 dX4_help_53 ?_
    refine x_getN B hW (hqG (by decide)) (cC_G (by decide)) cls0 hin_X0 6 (by decide) (v := .int (S_49 (gG 0) 6)) rfl nl_X4_128 dX4_help_56 ?_
    exact x_end ⟨Nat.le_of_ble_eq_true rfl, Nat.le_of_ble_eq_true rfl⟩ (x_iret B hW zk.symm dX4_help_59)
  · have zk := zk.trans (if_pos c_19)
    exact x_throw B htab hW hE hl0 hls (cls := "java/lang/IllegalStateException") (text := "the help cannot be granted") (by decide +kernel) (by decide +kernel) kx_37 ky_1 (fun w h => B.1.2.2.2.2 w (hat_41 w h)) (by decide +kernel) (by decide +kernel) (by decide +kernel) dX4_help_22 dX4_help_25 dX4_help_26 dX4_help_28 dX4_help_31 ⟨Nat.le_of_ble_eq_true rfl, Nat.le_of_ble_eq_true rfl, Nat.le_of_ble_eq_true rfl, Nat.le_of_ble_eq_true rfl⟩ ⟨Nat.le_of_ble_eq_true rfl, Nat.le_of_ble_eq_true rfl⟩ ⟨1, 0, by decide, rfl, zk.symm⟩

def x_X4_cycle (S : vS) : ((Nat × Int32) × vS) := nm (x_X0_mayBeginCycle S 0) (fun r_4 => if r_4 = 0 then ((1, 0), S) else nm (x_X1_keep S 0) (fun S_28 => nm (x_X0_beginCycle S_28 0) (fun S_35 => ((0, (S_35 (gG 0) 4)), S_35))))
theorem hd_X4_cycle : yX4_cycle.cls = RX4 ∧ yX4_cycle.cls ≠ "java/lang/invoke/MethodHandle" ∧ yX4_cycle.cls ≠ "java/lang/invoke/VarHandle" ∧ (parseMethodDescriptor yX4_cycle.desc).map (fun d => d.parameters.length) = some 0 := by decide +kernel
set_option maxHeartbeats 4000000 in
set_option maxRecDepth 100000 in
theorem c_X4_cycle {D : va_G} {ad : Nat → Nat} {V : vE} (l : Launch) (sz : Nat) (hl0 : l.stackTraces = false) (S : vS) : vx_Met l yX4_cycle wsX4_cycle (rmX 6 1) (pE D 158 (cC D ad) ad sz V S [.ref (ad jO)]) (va_Qi (fun (r : Int32) (S1 : vS) => ((0, r), S1) = (x_X4_cycle S)) (bW D 158 (cC D ad) ad (aW 158 ad sz)) (aW 158 ad sz)) (xX D 158 (cC D ad) ad (aW 158 ad sz) (pxS (x_X4_cycle S))) 1 6 (aW 158 ad sz) := by
  refine x_metX (own := RX4) (cc := cX4_cycle) (maxL := 1) (ret := (some .int)) (Qc := fun A => va_Qi (fun (r : Int32) (S1 : vS) => ((0, r), S1) = (x_X4_cycle S)) (bW D 158 (cC D ad) ad A) A) (XC := fun A => xX D 158 (cC D ad) ad A (pxS (x_X4_cycle S))) rfl ⟨by decide +kernel, rfl, Nat.le_of_ble_eq_true rfl⟩ ?_
  intro p e s mm args below meth c A ls B htab hW hE hl hls
  have hx := B.1.1
  have hb := B.1.2.1
  have hin_X0 : ∀ w ∈ wsX00, w ∈ wsX4_cycle := fun w h => List.mem_cons_of_mem _ (List.mem_append_left _ (List.mem_append_left _ (List.mem_append_left _ (List.mem_append_right _ h))))
  have hin_X4 : ∀ w ∈ wsX40, w ∈ wsX4_cycle := fun w h => List.mem_cons_of_mem _ (List.mem_append_left _ (List.mem_append_left _ (List.mem_append_left _ (List.mem_append_left _ (List.mem_append_right _ h)))))
  have hat_41 : ∀ w ∈ (vx_atS RX4 41 "java/lang/IllegalStateException" xuE).filter goodWord, w ∈ wsX4_cycle := fun w h => List.mem_cons_of_mem _ (List.mem_append_right _ h)
  have k_10 := B.1.2.2.2.2 (.fieldLink RX4 10 "JointLoans" "group" "LJointLoans$Group;") (by decide +kernel)
  have k_22 := B.1.2.2.2.2 (.fieldLink RX4 22 "JointLoans" "history" "LJointLoans$History;") (by decide +kernel)
  have ki_X0 := B.1.2.2.2.2 (.initialized RX0) (by decide +kernel)
  have ki_X1 := B.1.2.2.2.2 (.initialized RX1) (by decide +kernel)
  have kn_X0_beginCycle := B.1.2.2.2.2 (.instanceMethod yX0_beginCycle) (by decide +kernel)
  have kn_X0_mayBeginCycle := B.1.2.2.2.2 (.instanceMethod yX0_mayBeginCycle) (by decide +kernel)
  have kn_X1_keep := B.1.2.2.2.2 (.instanceMethod yX1_keep) (by decide +kernel)
  have kv_X0_beginCycle := B.1.2.2.2.2 (.selects RX0 yX0_beginCycle yX0_beginCycle) (by decide +kernel)
  have kv_X0_mayBeginCycle := B.1.2.2.2.2 (.selects RX0 yX0_mayBeginCycle yX0_mayBeginCycle) (by decide +kernel)
  have kv_X1_keep := B.1.2.2.2.2 (.selects RX1 yX1_keep yX1_keep) (by decide +kernel)
  have kx_37 := B.1.2.2.2.2 (.classLink RX4 37 "java/lang/IllegalStateException") (by decide +kernel)
  have ky_1 := B.1.2.2.2.2 (.initialized "java/lang/IllegalStateException") (by decide +kernel)
  have zk := x_X4_cycle.eq_1 S
  have hl : lv_has ls 1 [(0, .ref (ad jO))] := hl
  refine lv_aload_n hx hb dX4_cycle_0 rfl (lv_at hl 0 rfl) ?_
  refine x_get B hW hqj cC_j cls4 hin_X4 0 (by decide) (v := .ref (ad (gG 0))) rfl k_10 dX4_cycle_1 ?_
  refine x_calli hW (x_runVN B hW (As := []) (rest := []) (host := RX4) (hqG (by decide)) (cC_G (by decide)) cls0 (c_X0_mayBeginCycle (D := D) (ad := ad) l _ S 0 (by decide)) ⟨va_cnB 0 B.1.2.2.2.2 gX4_cycle_X0_mayBeginCycle_n131 rfl rfl rfl (B.2.1.2 _ nl_X4_131) ki_X0 hd_X0_mayBeginCycle.2 ⟨Nat.le_of_ble_eq_true rfl, Nat.le_of_ble_eq_true rfl⟩, kn_X0_mayBeginCycle, kv_X0_mayBeginCycle⟩ rfl hls (Nat.le_of_ble_eq_true rfl) dX4_cycle_4 ⟨Nat.le_of_ble_eq_true rfl, Nat.le_of_ble_eq_true rfl⟩) (fun r_4 S_4 H locs he hW => ?_)
  obtain ⟨hr_4, hs, hz_4⟩ := he
  rw [hs] at hW
  have zk := nm_at zk hr_4
  refine lv_if_ne (tgt := 20) hx hb dX4_cycle_7 (by decide) (fun c_7 => ?_) (fun c_7 => ?_)
  · have zk := zk.trans (if_neg c_7)
    refine lv_aload_n hx hb dX4_cycle_20 rfl (lv_at hl 0 rfl) ?_
    refine x_get B hW hqj cC_j cls4 hin_X4 2 (by decide) (v := .ref (ad hO)) rfl k_22 dX4_cycle_21 ?_
    refine lv_aload_n hx hb dX4_cycle_24 rfl (lv_at hl 0 rfl) ?_
    refine x_get B hW hqj cC_j cls4 hin_X4 0 (by decide) (v := .ref (ad (gG 0))) rfl k_10 dX4_cycle_25 ?_
    refine x_callv hW (x_runVN B hW (As := [.ref (ad (gG 0))]) (rest := []) (host := RX4) hqh cC_h cls1 (c_X1_keep (D := D) (ad := ad) l _ S 0 (by decide)) ⟨va_cnB 1 B.1.2.2.2.2 gX4_cycle_X1_keep_n44 rfl rfl rfl (B.2.1.2 _ nl_X4_44) ki_X1 hd_X1_keep.2 ⟨Nat.le_of_ble_eq_true rfl, Nat.le_of_ble_eq_true rfl⟩, kn_X1_keep, kv_X1_keep⟩ rfl hls (Nat.le_of_ble_eq_true rfl) dX4_cycle_28 ⟨Nat.le_of_ble_eq_true rfl, Nat.le_of_ble_eq_true rfl⟩) (fun S_28 H locs he hW => ?_)
    have he_28 := he
    have zk := nm_at zk he_28
    refine lv_aload_n hx hb dX4_cycle_31 rfl (lv_at hl 0 rfl) ?_
    refine x_get B hW hqj cC_j cls4 hin_X4 0 (by decide) (v := .ref (ad (gG 0))) rfl k_10 dX4_cycle_32 ?_
    refine x_callv hW (x_runVN B hW (As := []) (rest := []) (host := RX4) (hqG (by decide)) (cC_G (by decide)) cls0 (c_X0_beginCycle (D := D) (ad := ad) l _ S_28 0 (by decide)) ⟨va_cnB 0 B.1.2.2.2.2 gX4_cycle_X0_beginCycle_n136 rfl rfl rfl (B.2.1.2 _ nl_X4_136) ki_X0 hd_X0_beginCycle.2 ⟨Nat.le_of_ble_eq_true rfl, Nat.le_of_ble_eq_true rfl⟩, kn_X0_beginCycle, kv_X0_beginCycle⟩ rfl hls (Nat.le_of_ble_eq_true rfl) dX4_cycle_35 ⟨Nat.le_of_ble_eq_true rfl, Nat.le_of_ble_eq_true rfl⟩) (fun S_35 H locs he hW => ?_)
    have he_35 := he
    have zk := nm_at zk he_35
    refine lv_aload_n hx hb dX4_cycle_38 rfl (lv_at hl 0 rfl) ?_
    refine x_get B hW hqj cC_j cls4 hin_X4 0 (by decide) (v := .ref (ad (gG 0))) rfl k_10 dX4_cycle_39 ?_
    refine x_getN B hW (hqG (by decide)) (cC_G (by decide)) cls0 hin_X0 4 (by decide) (v := .int (S_35 (gG 0) 4)) rfl nl_X4_139 dX4_cycle_42 ?_
    exact x_end ⟨Nat.le_of_ble_eq_true rfl, Nat.le_of_ble_eq_true rfl⟩ (x_iret B hW zk.symm dX4_cycle_45)
  · have zk := zk.trans (if_pos c_7)
    exact x_throw B htab hW hE hl0 hls (cls := "java/lang/IllegalStateException") (text := "there are loans or debts to the bank") (by decide +kernel) (by decide +kernel) kx_37 ky_1 (fun w h => B.1.2.2.2.2 w (hat_41 w h)) (by decide +kernel) (by decide +kernel) (by decide +kernel) dX4_cycle_10 dX4_cycle_13 dX4_cycle_14 dX4_cycle_16 dX4_cycle_19 ⟨Nat.le_of_ble_eq_true rfl, Nat.le_of_ble_eq_true rfl, Nat.le_of_ble_eq_true rfl, Nat.le_of_ble_eq_true rfl⟩ ⟨Nat.le_of_ble_eq_true rfl, Nat.le_of_ble_eq_true rfl⟩ ⟨1, 0, by decide, rfl, zk.symm⟩

def x_X4_checkSetting (S : vS) (p1 : Int32) : (Nat × Int32) := if p1 < 0 then (2, 0) else if p1 < 4 then (0, 0) else (2, 0)
theorem hd_X4_checkSetting : yX4_checkSetting.cls = RX4 ∧ yX4_checkSetting.cls ≠ "java/lang/invoke/MethodHandle" ∧ yX4_checkSetting.cls ≠ "java/lang/invoke/VarHandle" ∧ (parseMethodDescriptor yX4_checkSetting.desc).map (fun d => d.parameters.length) = some 1 := by decide +kernel
set_option maxHeartbeats 4000000 in
set_option maxRecDepth 100000 in
theorem c_X4_checkSetting {D : va_G} {ad : Nat → Nat} {V : vE} (l : Launch) (sz : Nat) (hl0 : l.stackTraces = false) (S : vS) (p1 : Int32) : vx_Met l yX4_checkSetting wsX4_checkSetting (rmX 6 1) (pE D 158 (cC D ad) ad sz V S [.int p1]) (va_Qv (fun (S1 : vS) => (0, (0 : Int32)) = (x_X4_checkSetting S p1) ∧ S1 = S) (bW D 158 (cC D ad) ad (aW 158 ad sz)) (aW 158 ad sz)) (xX D 158 (cC D ad) ad (aW 158 ad sz) (pxP (x_X4_checkSetting S p1) S)) 1 6 (aW 158 ad sz) := by
  refine x_metX (own := RX4) (cc := cX4_checkSetting) (maxL := 1) (ret := none) (Qc := fun A => va_Qv (fun (S1 : vS) => (0, (0 : Int32)) = (x_X4_checkSetting S p1) ∧ S1 = S) (bW D 158 (cC D ad) ad A) A) (XC := fun A => xX D 158 (cC D ad) ad A (pxP (x_X4_checkSetting S p1) S)) rfl ⟨by decide +kernel, rfl, Nat.le_of_ble_eq_true rfl⟩ ?_
  intro p e s mm args below meth c A ls B htab hW hE hl hls
  have hx := B.1.1
  have hb := B.1.2.1
  have hat_277 : ∀ w ∈ (vx_atS RX4 277 "java/lang/IndexOutOfBoundsException" xuE).filter goodWord, w ∈ wsX4_checkSetting := fun w h => List.mem_cons_of_mem _ (List.mem_append_right _ h)
  have kx_273 := B.1.2.2.2.2 (.classLink RX4 273 "java/lang/IndexOutOfBoundsException") (by decide +kernel)
  have ky_2 := B.1.2.2.2.2 (.initialized "java/lang/IndexOutOfBoundsException") (by decide +kernel)
  have zk := x_X4_checkSetting.eq_1 S p1
  have hl : lv_has ls 1 [(0, .int p1)] := hl
  refine lv_iload_n hx hb dX4_checkSetting_0 rfl (lv_at hl 0 rfl) ?_
  refine lv_if_lt (tgt := 9) hx hb dX4_checkSetting_1 (by decide) (fun c_1 => ?_) (fun c_1 => ?_)
  · have zk := zk.trans (if_pos c_1)
    exact x_throwW B htab hW hE hl0 hls (cls := "java/lang/IndexOutOfBoundsException") (text := "there is no such setting") (by decide +kernel) (by decide +kernel) kx_273 ky_2 (fun w h => B.1.2.2.2.2 w (hat_277 w h)) (by decide +kernel) (by decide +kernel) (by decide +kernel) dX4_checkSetting_9 dX4_checkSetting_12 dX4_checkSetting_13 dX4_checkSetting_16 dX4_checkSetting_19 ⟨Nat.le_of_ble_eq_true rfl, Nat.le_of_ble_eq_true rfl, Nat.le_of_ble_eq_true rfl, Nat.le_of_ble_eq_true rfl⟩ ⟨Nat.le_of_ble_eq_true rfl, Nat.le_of_ble_eq_true rfl⟩ ⟨⟨2, 0, by decide, rfl, zk.symm⟩, rfl⟩
  · have zk := zk.trans (if_neg c_1)
    refine lv_iload_n hx hb dX4_checkSetting_4 rfl (lv_at hl 0 rfl) ?_
    refine lv_iconst (v := 4) hx hb dX4_checkSetting_5 (by decide) ?_
    refine lv_icmp_lt (tgt := 20) hx hb dX4_checkSetting_6 (by decide) (fun c_6 => ?_) (fun c_6 => ?_)
    · have zk := zk.trans (if_pos c_6)
      exact x_end ⟨Nat.le_of_ble_eq_true rfl, Nat.le_of_ble_eq_true rfl⟩ (x_vret B hW ⟨zk.symm, rfl⟩ dX4_checkSetting_20)
    · have zk := zk.trans (if_neg c_6)
      exact x_throwW B htab hW hE hl0 hls (cls := "java/lang/IndexOutOfBoundsException") (text := "there is no such setting") (by decide +kernel) (by decide +kernel) kx_273 ky_2 (fun w h => B.1.2.2.2.2 w (hat_277 w h)) (by decide +kernel) (by decide +kernel) (by decide +kernel) dX4_checkSetting_9 dX4_checkSetting_12 dX4_checkSetting_13 dX4_checkSetting_16 dX4_checkSetting_19 ⟨Nat.le_of_ble_eq_true rfl, Nat.le_of_ble_eq_true rfl, Nat.le_of_ble_eq_true rfl, Nat.le_of_ble_eq_true rfl⟩ ⟨Nat.le_of_ble_eq_true rfl, Nat.le_of_ble_eq_true rfl⟩ ⟨⟨2, 0, by decide, rfl, zk.symm⟩, rfl⟩
theorem chk_set {S : vS} {p1 : Int32} (h : (0, (0 : Int32)) = x_X4_checkSetting S p1) : vp_in p1 4 := by
  unfold x_X4_checkSetting at h
  split at h
  · exact absurd (congrArg Prod.fst h) (by decide)
  · split at h
    · rename_i h1 h2
      exact vin_of (n := 4) h1 (nle_of_lt h2) (by decide) (by decide)
    · exact absurd (congrArg Prod.fst h) (by decide)

def x_X4_set (S : vS) (p1 : Int32) (p2 : Int32) : ((Nat × Int32) × vS) := tbp 0 (x_X4_checkSetting S p1) S (fun _ => if p2 < (lsE p1.toNatClampNeg) then ((3, 0), S) else if p2 ≤ (msE p1.toNatClampNeg) then nm (x_X1_keep S 0) (fun S_40 => nm ((S_40 (gS 0) p1.toNatClampNeg)) (fun x_52 => nm (st S_40 (gS 0) p1.toNatClampNeg p2) (fun S_62 => ((0, x_52), S_62)))) else ((3, 0), S))
theorem hd_X4_set : yX4_set.cls = RX4 ∧ yX4_set.cls ≠ "java/lang/invoke/MethodHandle" ∧ yX4_set.cls ≠ "java/lang/invoke/VarHandle" ∧ (parseMethodDescriptor yX4_set.desc).map (fun d => d.parameters.length) = some 2 := by decide +kernel
set_option maxHeartbeats 4000000 in
set_option maxRecDepth 100000 in
theorem c_X4_set {D : va_G} {ad : Nat → Nat} {V : vE} (l : Launch) (sz : Nat) (hl0 : l.stackTraces = false) (S : vS) (p1 : Int32) (p2 : Int32) : vx_Met l yX4_set wsX4_set (rmX 7 2) (pE D 158 (cC D ad) ad sz V S [.ref (ad jO), .int p1, .int p2]) (va_Qi (fun (r : Int32) (S1 : vS) => ((0, r), S1) = (x_X4_set S p1 p2)) (bW D 158 (cC D ad) ad (aW 158 ad sz)) (aW 158 ad sz)) (xX D 158 (cC D ad) ad (aW 158 ad sz) (pxS (x_X4_set S p1 p2))) 2 12 (aW 158 ad sz) := by
  refine x_metX (own := RX4) (cc := cX4_set) (maxL := 4) (ret := (some .int)) (Qc := fun A => va_Qi (fun (r : Int32) (S1 : vS) => ((0, r), S1) = (x_X4_set S p1 p2)) (bW D 158 (cC D ad) ad A) A) (XC := fun A => xX D 158 (cC D ad) ad A (pxS (x_X4_set S p1 p2))) rfl ⟨by decide +kernel, rfl, Nat.le_of_ble_eq_true rfl⟩ ?_
  intro p e s mm args below meth c A ls B htab hW hE hl hls
  have hx := B.1.1
  have hb := B.1.2.1
  have hin_X0 : ∀ w ∈ wsX00, w ∈ wsX4_set := fun w h => List.mem_cons_of_mem _ (List.mem_append_left _ (List.mem_append_left _ (List.mem_append_left _ (List.mem_append_left _ (List.mem_append_right _ h)))))
  have hin_X4 : ∀ w ∈ wsX40, w ∈ wsX4_set := fun w h => List.mem_cons_of_mem _ (List.mem_append_left _ (List.mem_append_left _ (List.mem_append_left _ (List.mem_append_left _ (List.mem_append_left _ (List.mem_append_right _ h))))))
  have hat_70 : ∀ w ∈ (vx_atS RX4 70 "java/lang/IllegalArgumentException" xuE).filter goodWord, w ∈ wsX4_set := fun w h => List.mem_cons_of_mem _ (List.mem_append_left _ (List.mem_append_right _ h))
  have k_10 := B.1.2.2.2.2 (.fieldLink RX4 10 "JointLoans" "group" "LJointLoans$Group;") (by decide +kernel)
  have k_145 := B.1.2.2.2.2 (.fieldLink RX4 145 "JointLoans" "LEAST_SETTING" "[I") (by decide +kernel)
  have k_149 := B.1.2.2.2.2 (.fieldLink RX4 149 "JointLoans" "MOST_SETTING" "[I") (by decide +kernel)
  have k_22 := B.1.2.2.2.2 (.fieldLink RX4 22 "JointLoans" "history" "LJointLoans$History;") (by decide +kernel)
  have ki_X1 := B.1.2.2.2.2 (.initialized RX1) (by decide +kernel)
  have kn_X1_keep := B.1.2.2.2.2 (.instanceMethod yX1_keep) (by decide +kernel)
  have kv_X1_keep := B.1.2.2.2.2 (.selects RX1 yX1_keep yX1_keep) (by decide +kernel)
  have kx_66 := B.1.2.2.2.2 (.classLink RX4 66 "java/lang/IllegalArgumentException") (by decide +kernel)
  have ky_3 := B.1.2.2.2.2 (.initialized "java/lang/IllegalArgumentException") (by decide +kernel)
  have zk := x_X4_set.eq_1 S p1 p2
  have hl : lv_has ls 4 [(0, .ref (ad jO)), (1, .int p1), (2, .int p2)] := hl
  refine lv_iload_n hx hb dX4_set_0 rfl (lv_at hl 1 rfl) ?_
  refine x_xcallv B htab hW (x_runSX B hW hE (As := [.int p1]) (rest := []) (c_X4_checkSetting (D := D) (ad := ad) (V := V) l _ hl0 S p1) (va_cwS 1 B.1.2.2.2.2 gX4_set_X4_checkSetting rfl rfl rfl hd_X4_checkSetting.2 ⟨Nat.le_of_ble_eq_true rfl, Nat.le_of_ble_eq_true rfl⟩) rfl hls (Nat.le_of_ble_eq_true rfl) dX4_set_1 ⟨Nat.le_of_ble_eq_true rfl, Nat.le_of_ble_eq_true rfl⟩) ⟨Nat.le_of_ble_eq_true rfl, Nat.le_of_ble_eq_true rfl⟩ (fun E S1 hq => by obtain ⟨⟨k, v, hk, hn, he⟩, hs⟩ := hq; rw [hs]; exact ⟨k, _, hk, hn, (tbp_ex zk he hk).symm⟩) (fun S_1 H locs he hW => ?_)
  obtain ⟨he_1, hs⟩ := he
  rw [hs] at hW
  have zk := tbp_ok zk he_1
  refine lv_iload_n hx hb dX4_set_4 rfl (lv_at hl 2 rfl) ?_
  refine va_gets hx hb hE.1.2.2.2.1.1 hW.2.2.1 B.1.2.2.2.1 k_145 (fun _ h => h) dX4_set_5 ?_
  refine lv_iload_n hx hb dX4_set_8 rfl (lv_at hl 1 rfl) ?_
  refine va_ti hx hb hE.1.2.2.2.1.2 hW.2.2.1 (isN_vin (isN_var (chk_set he_1) (by decide)) (by decide) (by decide)) (v := .int (lsE p1.toNatClampNeg)) (by rw [isN_tcn (isN_var (chk_set he_1) (by decide))]) dX4_set_9 ?_
  refine lv_icmp_lt (tgt := 22) hx hb dX4_set_10 (by decide) (fun c_10 => ?_) (fun c_10 => ?_)
  · have zk := zk.trans (if_pos c_10)
    exact x_throw B htab hW hE hl0 hls (cls := "java/lang/IllegalArgumentException") (text := "the value is out of range") (by decide +kernel) (by decide +kernel) kx_66 ky_3 (fun w h => B.1.2.2.2.2 w (hat_70 w h)) (by decide +kernel) (by decide +kernel) (by decide +kernel) dX4_set_22 dX4_set_25 dX4_set_26 dX4_set_28 dX4_set_31 ⟨Nat.le_of_ble_eq_true rfl, Nat.le_of_ble_eq_true rfl, Nat.le_of_ble_eq_true rfl, Nat.le_of_ble_eq_true rfl⟩ ⟨Nat.le_of_ble_eq_true rfl, Nat.le_of_ble_eq_true rfl⟩ ⟨3, 0, by decide, rfl, zk.symm⟩
  · have zk := zk.trans (if_neg c_10)
    refine lv_iload_n hx hb dX4_set_13 rfl (lv_at hl 2 rfl) ?_
    refine va_gets hx hb hE.1.2.2.2.2.1.1 hW.2.2.1 B.1.2.2.2.1 k_149 (fun _ h => h) dX4_set_14 ?_
    refine lv_iload_n hx hb dX4_set_17 rfl (lv_at hl 1 rfl) ?_
    refine va_ti hx hb hE.1.2.2.2.2.1.2 hW.2.2.1 (isN_vin (isN_var (chk_set he_1) (by decide)) (by decide) (by decide)) (v := .int (msE p1.toNatClampNeg)) (by rw [isN_tcn (isN_var (chk_set he_1) (by decide))]) dX4_set_18 ?_
    refine lv_icmp_le (tgt := 32) hx hb dX4_set_19 (by decide) (fun c_19 => ?_) (fun c_19 => ?_)
    · have zk := zk.trans (if_pos c_19)
      refine lv_aload_n hx hb dX4_set_32 rfl (lv_at hl 0 rfl) ?_
      refine x_get B hW hqj cC_j cls4 hin_X4 2 (by decide) (v := .ref (ad hO)) rfl k_22 dX4_set_33 ?_
      refine lv_aload_n hx hb dX4_set_36 rfl (lv_at hl 0 rfl) ?_
      refine x_get B hW hqj cC_j cls4 hin_X4 0 (by decide) (v := .ref (ad (gG 0))) rfl k_10 dX4_set_37 ?_
      refine x_callv hW (x_runVN B hW (As := [.ref (ad (gG 0))]) (rest := []) (host := RX4) hqh cC_h cls1 (c_X1_keep (D := D) (ad := ad) l _ S 0 (by decide)) ⟨va_cnB 1 B.1.2.2.2.2 gX4_set_X1_keep_n44 rfl rfl rfl (B.2.1.2 _ nl_X4_44) ki_X1 hd_X1_keep.2 ⟨Nat.le_of_ble_eq_true rfl, Nat.le_of_ble_eq_true rfl⟩, kn_X1_keep, kv_X1_keep⟩ rfl hls (Nat.le_of_ble_eq_true rfl) dX4_set_40 ⟨Nat.le_of_ble_eq_true rfl, Nat.le_of_ble_eq_true rfl⟩) (fun S_40 H locs he hW => ?_)
      have he_40 := he
      have zk := nm_at zk he_40
      refine lv_aload_n hx hb dX4_set_43 rfl (lv_at hl 0 rfl) ?_
      refine x_get B hW hqj cC_j cls4 hin_X4 0 (by decide) (v := .ref (ad (gG 0))) rfl k_10 dX4_set_44 ?_
      refine x_getN B hW (hqG (by decide)) (cC_G (by decide)) cls0 hin_X0 1 (by decide) (v := .ref (ad (gS 0))) rfl nl_X4_154 dX4_set_47 ?_
      refine lv_iload_n hx hb dX4_set_50 rfl (lv_at hl 1 rfl) ?_
      refine x_iald B hW (hqS (by decide)) (cC_S (by decide)) (isN_var (chk_set he_1) (by decide)) (by decide) (by decide) dX4_set_51 ?_
      refine lv_topi (fun x_52 ex_52 => ?_)
      have zk := nm_at zk ex_52
      refine lv_istore_n (lv' := [(3, .int x_52), (0, .ref (ad jO)), (1, .int p1), (2, .int p2)]) hx hb dX4_set_52 rfl hl (by decide) rfl (fun ls hl => ?_)
      have hls := hl.1
      refine lv_aload_n hx hb dX4_set_53 rfl (lv_at hl 1 rfl) ?_
      refine x_get B hW hqj cC_j cls4 hin_X4 0 (by decide) (v := .ref (ad (gG 0))) rfl k_10 dX4_set_54 ?_
      refine x_getN B hW (hqG (by decide)) (cC_G (by decide)) cls0 hin_X0 1 (by decide) (v := .ref (ad (gS 0))) rfl nl_X4_154 dX4_set_57 ?_
      refine lv_iload_n hx hb dX4_set_60 rfl (lv_at hl 2 rfl) ?_
      refine lv_iload_n hx hb dX4_set_61 rfl (lv_at hl 3 rfl) ?_
      refine x_iast B hW (hqS (by decide)) (fun _ => (cC_S (by decide))) (isN_var (chk_set he_1) (by decide)) (by decide) (by decide) dX4_set_62 (fun H locs S_62 he_62 hW => ?_)
      have zk := nm_at zk he_62
      refine lv_iload_n hx hb dX4_set_63 rfl (lv_at hl 0 rfl) ?_
      exact x_end ⟨Nat.le_of_ble_eq_true rfl, Nat.le_of_ble_eq_true rfl⟩ (x_iret B hW zk.symm dX4_set_64)
    · have zk := zk.trans (if_neg c_19)
      exact x_throw B htab hW hE hl0 hls (cls := "java/lang/IllegalArgumentException") (text := "the value is out of range") (by decide +kernel) (by decide +kernel) kx_66 ky_3 (fun w h => B.1.2.2.2.2 w (hat_70 w h)) (by decide +kernel) (by decide +kernel) (by decide +kernel) dX4_set_22 dX4_set_25 dX4_set_26 dX4_set_28 dX4_set_31 ⟨Nat.le_of_ble_eq_true rfl, Nat.le_of_ble_eq_true rfl, Nat.le_of_ble_eq_true rfl, Nat.le_of_ble_eq_true rfl⟩ ⟨Nat.le_of_ble_eq_true rfl, Nat.le_of_ble_eq_true rfl⟩ ⟨3, 0, by decide, rfl, zk.symm⟩

def x_X4_append (S : vS) (p1 : Int32) : ((Nat × Int32) × vS) := if p1 < 33 then ((3, 0), S) else if p1 ≤ 126 then if (S tO 1) < 60 then nm (x_X3_add S (p1.toUInt32 % 65536).toInt32) (fun S_50 => ((0, (S_50 tO 1)), S_50)) else ((1, 0), S) else ((3, 0), S)
theorem hd_X4_append : yX4_append.cls = RX4 ∧ yX4_append.cls ≠ "java/lang/invoke/MethodHandle" ∧ yX4_append.cls ≠ "java/lang/invoke/VarHandle" ∧ (parseMethodDescriptor yX4_append.desc).map (fun d => d.parameters.length) = some 1 := by decide +kernel
set_option maxHeartbeats 4000000 in
set_option maxRecDepth 100000 in
theorem c_X4_append {D : va_G} {ad : Nat → Nat} {V : vE} (l : Launch) (sz : Nat) (hl0 : l.stackTraces = false) (S : vS) (p1 : Int32) : vx_Met l yX4_append wsX4_append (rmX 6 1) (pE D 158 (cC D ad) ad sz V S [.ref (ad jO), .int p1]) (va_Qi (fun (r : Int32) (S1 : vS) => ((0, r), S1) = (x_X4_append S p1)) (bW D 158 (cC D ad) ad (aW 158 ad sz)) (aW 158 ad sz)) (xX D 158 (cC D ad) ad (aW 158 ad sz) (pxS (x_X4_append S p1))) 1 6 (aW 158 ad sz) := by
  refine x_metX (own := RX4) (cc := cX4_append) (maxL := 2) (ret := (some .int)) (Qc := fun A => va_Qi (fun (r : Int32) (S1 : vS) => ((0, r), S1) = (x_X4_append S p1)) (bW D 158 (cC D ad) ad A) A) (XC := fun A => xX D 158 (cC D ad) ad A (pxS (x_X4_append S p1))) rfl ⟨by decide +kernel, rfl, Nat.le_of_ble_eq_true rfl⟩ ?_
  intro p e s mm args below meth c A ls B htab hW hE hl hls
  have hx := B.1.1
  have hb := B.1.2.1
  have hin_X3 : ∀ w ∈ wsX30, w ∈ wsX4_append := fun w h => List.mem_cons_of_mem _ (List.mem_append_left _ (List.mem_append_left _ (List.mem_append_right _ h)))
  have hin_X4 : ∀ w ∈ wsX40, w ∈ wsX4_append := fun w h => List.mem_cons_of_mem _ (List.mem_append_left _ (List.mem_append_left _ (List.mem_append_left _ (List.mem_append_right _ h))))
  have hat_41 : ∀ w ∈ (vx_atS RX4 41 "java/lang/IllegalStateException" xuE).filter goodWord, w ∈ wsX4_append := fun w h => List.mem_cons_of_mem _ (List.mem_append_right _ h)
  have hat_70 : ∀ w ∈ (vx_atS RX4 70 "java/lang/IllegalArgumentException" xuE).filter goodWord, w ∈ wsX4_append := fun w h => List.mem_cons_of_mem _ (List.mem_append_left _ (List.mem_append_right _ h))
  have k_29 := B.1.2.2.2.2 (.fieldLink RX4 29 "JointLoans" "text" "LJointLoans$OrderText;") (by decide +kernel)
  have ki_X3 := B.1.2.2.2.2 (.initialized RX3) (by decide +kernel)
  have kn_X3_add := B.1.2.2.2.2 (.instanceMethod yX3_add) (by decide +kernel)
  have kv_X3_add := B.1.2.2.2.2 (.selects RX3 yX3_add yX3_add) (by decide +kernel)
  have kx_37 := B.1.2.2.2.2 (.classLink RX4 37 "java/lang/IllegalStateException") (by decide +kernel)
  have kx_66 := B.1.2.2.2.2 (.classLink RX4 66 "java/lang/IllegalArgumentException") (by decide +kernel)
  have ky_1 := B.1.2.2.2.2 (.initialized "java/lang/IllegalStateException") (by decide +kernel)
  have ky_3 := B.1.2.2.2.2 (.initialized "java/lang/IllegalArgumentException") (by decide +kernel)
  have zk := x_X4_append.eq_1 S p1
  have hl : lv_has ls 2 [(0, .ref (ad jO)), (1, .int p1)] := hl
  refine lv_iload_n hx hb dX4_append_0 rfl (lv_at hl 1 rfl) ?_
  refine lv_bipush (v := 33) hx hb dX4_append_1 (by decide) ?_
  refine lv_icmp_lt (tgt := 12) hx hb dX4_append_3 (by decide) (fun c_3 => ?_) (fun c_3 => ?_)
  · have zk := zk.trans (if_pos c_3)
    exact x_throw B htab hW hE hl0 hls (cls := "java/lang/IllegalArgumentException") (text := "the code is out of range") (by decide +kernel) (by decide +kernel) kx_66 ky_3 (fun w h => B.1.2.2.2.2 w (hat_70 w h)) (by decide +kernel) (by decide +kernel) (by decide +kernel) dX4_append_12 dX4_append_15 dX4_append_16 dX4_append_18 dX4_append_21 ⟨Nat.le_of_ble_eq_true rfl, Nat.le_of_ble_eq_true rfl, Nat.le_of_ble_eq_true rfl, Nat.le_of_ble_eq_true rfl⟩ ⟨Nat.le_of_ble_eq_true rfl, Nat.le_of_ble_eq_true rfl⟩ ⟨3, 0, by decide, rfl, zk.symm⟩
  · have zk := zk.trans (if_neg c_3)
    refine lv_iload_n hx hb dX4_append_6 rfl (lv_at hl 1 rfl) ?_
    refine lv_bipush (v := 126) hx hb dX4_append_7 (by decide) ?_
    refine lv_icmp_le (tgt := 22) hx hb dX4_append_9 (by decide) (fun c_9 => ?_) (fun c_9 => ?_)
    · have zk := zk.trans (if_pos c_9)
      refine lv_aload_n hx hb dX4_append_22 rfl (lv_at hl 0 rfl) ?_
      refine x_get B hW hqj cC_j cls4 hin_X4 3 (by decide) (v := .ref (ad tO)) rfl k_29 dX4_append_23 ?_
      refine x_getN B hW hqt cC_t cls3 hin_X3 1 (by decide) (v := .int (S tO 1)) rfl nl_X4_159 dX4_append_26 ?_
      refine lv_bipush (v := 60) hx hb dX4_append_29 (by decide) ?_
      refine lv_icmp_lt (tgt := 44) hx hb dX4_append_31 (by decide) (fun c_31 => ?_) (fun c_31 => ?_)
      · have zk := zk.trans (if_pos c_31)
        refine lv_aload_n hx hb dX4_append_44 rfl (lv_at hl 0 rfl) ?_
        refine x_get B hW hqj cC_j cls4 hin_X4 3 (by decide) (v := .ref (ad tO)) rfl k_29 dX4_append_45 ?_
        refine lv_iload_n hx hb dX4_append_48 rfl (lv_at hl 1 rfl) ?_
        refine lv_i2c hx hb dX4_append_49 rfl ?_
        refine x_callv hW (x_runVN B hW (As := [.int (p1.toUInt32 % 65536).toInt32]) (rest := []) (host := RX4) hqt cC_t cls3 (c_X3_add (D := D) (ad := ad) l _ S (p1.toUInt32 % 65536).toInt32) ⟨va_cnB 1 B.1.2.2.2.2 gX4_append_X3_add_n164 rfl rfl rfl (B.2.1.2 _ nl_X4_164) ki_X3 hd_X3_add.2 ⟨Nat.le_of_ble_eq_true rfl, Nat.le_of_ble_eq_true rfl⟩, kn_X3_add, kv_X3_add⟩ rfl hls (Nat.le_of_ble_eq_true rfl) dX4_append_50 ⟨Nat.le_of_ble_eq_true rfl, Nat.le_of_ble_eq_true rfl⟩) (fun S_50 H locs he hW => ?_)
        have he_50 := he
        have zk := nm_at zk he_50
        refine lv_aload_n hx hb dX4_append_53 rfl (lv_at hl 0 rfl) ?_
        refine x_get B hW hqj cC_j cls4 hin_X4 3 (by decide) (v := .ref (ad tO)) rfl k_29 dX4_append_54 ?_
        refine x_getN B hW hqt cC_t cls3 hin_X3 1 (by decide) (v := .int (S_50 tO 1)) rfl nl_X4_159 dX4_append_57 ?_
        exact x_end ⟨Nat.le_of_ble_eq_true rfl, Nat.le_of_ble_eq_true rfl⟩ (x_iret B hW zk.symm dX4_append_60)
      · have zk := zk.trans (if_neg c_31)
        exact x_throw B htab hW hE hl0 hls (cls := "java/lang/IllegalStateException") (text := "the buffer is full") (by decide +kernel) (by decide +kernel) kx_37 ky_1 (fun w h => B.1.2.2.2.2 w (hat_41 w h)) (by decide +kernel) (by decide +kernel) (by decide +kernel) dX4_append_34 dX4_append_37 dX4_append_38 dX4_append_40 dX4_append_43 ⟨Nat.le_of_ble_eq_true rfl, Nat.le_of_ble_eq_true rfl, Nat.le_of_ble_eq_true rfl, Nat.le_of_ble_eq_true rfl⟩ ⟨Nat.le_of_ble_eq_true rfl, Nat.le_of_ble_eq_true rfl⟩ ⟨1, 0, by decide, rfl, zk.symm⟩
    · have zk := zk.trans (if_neg c_9)
      exact x_throw B htab hW hE hl0 hls (cls := "java/lang/IllegalArgumentException") (text := "the code is out of range") (by decide +kernel) (by decide +kernel) kx_66 ky_3 (fun w h => B.1.2.2.2.2 w (hat_70 w h)) (by decide +kernel) (by decide +kernel) (by decide +kernel) dX4_append_12 dX4_append_15 dX4_append_16 dX4_append_18 dX4_append_21 ⟨Nat.le_of_ble_eq_true rfl, Nat.le_of_ble_eq_true rfl, Nat.le_of_ble_eq_true rfl, Nat.le_of_ble_eq_true rfl⟩ ⟨Nat.le_of_ble_eq_true rfl, Nat.le_of_ble_eq_true rfl⟩ ⟨3, 0, by decide, rfl, zk.symm⟩

def x_X4_clearBuffer (S : vS) : (Int32 × vS) := nm ((S tO 1)) (fun x_7 => nm (x_X3_clear S) (fun S_12 => (x_7, S_12)))
theorem hd_X4_clearBuffer : yX4_clearBuffer.cls = RX4 ∧ yX4_clearBuffer.cls ≠ "java/lang/invoke/MethodHandle" ∧ yX4_clearBuffer.cls ≠ "java/lang/invoke/VarHandle" ∧ (parseMethodDescriptor yX4_clearBuffer.desc).map (fun d => d.parameters.length) = some 0 := by decide +kernel
set_option maxHeartbeats 4000000 in
set_option maxRecDepth 100000 in
theorem c_X4_clearBuffer {D : va_G} {ad : Nat → Nat} (l : Launch) (sz : Nat) (S : vS) : Met l yX4_clearBuffer wsX4_clearBuffer (rmD 1) (pW D 158 (cC D ad) ad sz S [.ref (ad jO)]) (va_Qi (fun (r : Int32) (S1 : vS) => (r, S1) = (x_X4_clearBuffer S)) (bW D 158 (cC D ad) ad (aW 158 ad sz)) (aW 158 ad sz)) 0 0 (aW 158 ad sz) := by
  refine x_met (own := RX4) (cc := cX4_clearBuffer) (maxL := 2) (ret := (some .int)) (Qc := fun A => va_Qi (fun (r : Int32) (S1 : vS) => (r, S1) = (x_X4_clearBuffer S)) (bW D 158 (cC D ad) ad A) A) rfl ⟨by decide +kernel, rfl, Nat.le_of_ble_eq_true rfl⟩ ?_
  intro p e s mm args below meth c A ls B hW hl hls
  have hx := B.1.1
  have hb := B.1.2.1
  have hin_X3 : ∀ w ∈ wsX30, w ∈ wsX4_clearBuffer := fun w h => List.mem_cons_of_mem _ (List.mem_append_right _ h)
  have hin_X4 : ∀ w ∈ wsX40, w ∈ wsX4_clearBuffer := fun w h => List.mem_cons_of_mem _ (List.mem_append_left _ (List.mem_append_right _ h))
  have k_29 := B.1.2.2.2.2 (.fieldLink RX4 29 "JointLoans" "text" "LJointLoans$OrderText;") (by decide +kernel)
  have ki_X3 := B.1.2.2.2.2 (.initialized RX3) (by decide +kernel)
  have kn_X3_clear := B.1.2.2.2.2 (.instanceMethod yX3_clear) (by decide +kernel)
  have kv_X3_clear := B.1.2.2.2.2 (.selects RX3 yX3_clear yX3_clear) (by decide +kernel)
  have zk := x_X4_clearBuffer.eq_1 S
  have hl : lv_has ls 2 [(0, .ref (ad jO))] := hl
  refine lv_aload_n hx hb dX4_clearBuffer_0 rfl (lv_at hl 0 rfl) ?_
  refine x_get B hW hqj cC_j cls4 hin_X4 3 (by decide) (v := .ref (ad tO)) rfl k_29 dX4_clearBuffer_1 ?_
  refine x_getN B hW hqt cC_t cls3 hin_X3 1 (by decide) (v := .int (S tO 1)) rfl nl_X4_159 dX4_clearBuffer_4 ?_
  refine lv_topi (fun x_7 ex_7 => ?_)
  have zk := nm_at zk ex_7
  refine lv_istore_n (lv' := [(1, .int x_7), (0, .ref (ad jO))]) hx hb dX4_clearBuffer_7 rfl hl (by decide) rfl (fun ls hl => ?_)
  have hls := hl.1
  refine lv_aload_n hx hb dX4_clearBuffer_8 rfl (lv_at hl 1 rfl) ?_
  refine x_get B hW hqj cC_j cls4 hin_X4 3 (by decide) (v := .ref (ad tO)) rfl k_29 dX4_clearBuffer_9 ?_
  refine x_callv hW (x_runVN B hW (As := []) (rest := []) (host := RX4) hqt cC_t cls3 (c_X3_clear (D := D) (ad := ad) l _ S) ⟨va_cnB 0 B.1.2.2.2.2 gX4_clearBuffer_X3_clear_n168 rfl rfl rfl (B.2.1.2 _ nl_X4_168) ki_X3 hd_X3_clear.2 ⟨Nat.le_of_ble_eq_true rfl, Nat.le_of_ble_eq_true rfl⟩, kn_X3_clear, kv_X3_clear⟩ rfl hls (Nat.le_of_ble_eq_true rfl) dX4_clearBuffer_12 ⟨Nat.zero_le _, Nat.zero_le _⟩) (fun S_12 H locs he hW => ?_)
  have he_12 := he
  have zk := nm_at zk he_12
  refine lv_iload_n hx hb dX4_clearBuffer_15 rfl (lv_at hl 0 rfl) ?_
  exact x_iret B hW zk.symm dX4_clearBuffer_16

def x_X4_firstError (S : vS) : (Int32 × vS) := nmp (x_X3_readAll S) (fun r_4 S_4 => ((S_4 tO 2), S_4))
theorem hd_X4_firstError : yX4_firstError.cls = RX4 ∧ yX4_firstError.cls ≠ "java/lang/invoke/MethodHandle" ∧ yX4_firstError.cls ≠ "java/lang/invoke/VarHandle" ∧ (parseMethodDescriptor yX4_firstError.desc).map (fun d => d.parameters.length) = some 0 := by decide +kernel
set_option maxHeartbeats 4000000 in
set_option maxRecDepth 100000 in
theorem c_X4_firstError {D : va_G} {ad : Nat → Nat} {V : vE} (l : Launch) (sz : Nat) (S : vS) : Met l yX4_firstError wsX4_firstError (rmD 7) (pE D 158 (cC D ad) ad sz V S [.ref (ad jO)]) (va_Qi (fun (r : Int32) (S1 : vS) => (r, S1) = (x_X4_firstError S)) (bW D 158 (cC D ad) ad (aW 158 ad sz)) (aW 158 ad sz)) 0 0 (aW 158 ad sz) := by
  refine x_metE (own := RX4) (cc := cX4_firstError) (maxL := 1) (ret := (some .int)) (Qc := fun A => va_Qi (fun (r : Int32) (S1 : vS) => (r, S1) = (x_X4_firstError S)) (bW D 158 (cC D ad) ad A) A) rfl ⟨by decide +kernel, rfl, Nat.le_of_ble_eq_true rfl⟩ ?_
  intro p e s mm args below meth c A ls B hW hE hl hls
  have hx := B.1.1
  have hb := B.1.2.1
  have hin_X3 : ∀ w ∈ wsX30, w ∈ wsX4_firstError := fun w h => List.mem_cons_of_mem _ (List.mem_append_right _ h)
  have hin_X4 : ∀ w ∈ wsX40, w ∈ wsX4_firstError := fun w h => List.mem_cons_of_mem _ (List.mem_append_left _ (List.mem_append_right _ h))
  have k_29 := B.1.2.2.2.2 (.fieldLink RX4 29 "JointLoans" "text" "LJointLoans$OrderText;") (by decide +kernel)
  have ki_X3 := B.1.2.2.2.2 (.initialized RX3) (by decide +kernel)
  have kn_X3_readAll := B.1.2.2.2.2 (.instanceMethod yX3_readAll) (by decide +kernel)
  have kv_X3_readAll := B.1.2.2.2.2 (.selects RX3 yX3_readAll yX3_readAll) (by decide +kernel)
  have zk := x_X4_firstError.eq_1 S
  have hl : lv_has ls 1 [(0, .ref (ad jO))] := hl
  refine lv_aload_n hx hb dX4_firstError_0 rfl (lv_at hl 0 rfl) ?_
  refine x_get B hW hqj cC_j cls4 hin_X4 3 (by decide) (v := .ref (ad tO)) rfl k_29 dX4_firstError_1 ?_
  refine x_calli hW (x_runVNE B hW hE (As := []) (rest := []) (host := RX4) hqt cC_t cls3 (c_X3_readAll (D := D) (ad := ad) (V := V) l _ S) ⟨va_cnB 0 B.1.2.2.2.2 gX4_firstError_X3_readAll_n171 rfl rfl rfl (B.2.1.2 _ nl_X4_171) ki_X3 hd_X3_readAll.2 ⟨Nat.le_of_ble_eq_true rfl, Nat.le_of_ble_eq_true rfl⟩, kn_X3_readAll, kv_X3_readAll⟩ rfl hls (Nat.le_of_ble_eq_true rfl) dX4_firstError_4 ⟨Nat.zero_le _, Nat.zero_le _⟩) (fun r_4 S_4 H locs he hW => ?_)
  obtain ⟨hr_4, hz_4⟩ := he
  have zk := nmp_at zk hr_4
  have he_4 : S_4 = (x_X3_readAll S).2 := by rw [← hr_4]
  refine lv_pop hx hb dX4_firstError_7 rfl ?_
  refine lv_aload_n hx hb dX4_firstError_8 rfl (lv_at hl 0 rfl) ?_
  refine x_get B hW hqj cC_j cls4 hin_X4 3 (by decide) (v := .ref (ad tO)) rfl k_29 dX4_firstError_9 ?_
  refine x_getN B hW hqt cC_t cls3 hin_X3 2 (by decide) (v := .int (S_4 tO 2)) rfl nl_X4_174 dX4_firstError_12 ?_
  exact x_iret B hW zk.symm dX4_firstError_15

def x_X4_carryOutCycle (S : vS) : (Int32 × vS) := nm (x_X0_mayBeginCycle S 0) (fun r_4 => if r_4 = 0 then (r_4, S) else nm (x_X0_beginCycle S 0) (fun S_16 => (r_4, S_16)))
theorem hd_X4_carryOutCycle : yX4_carryOutCycle.cls = RX4 ∧ yX4_carryOutCycle.cls ≠ "java/lang/invoke/MethodHandle" ∧ yX4_carryOutCycle.cls ≠ "java/lang/invoke/VarHandle" ∧ (parseMethodDescriptor yX4_carryOutCycle.desc).map (fun d => d.parameters.length) = some 0 := by decide +kernel
set_option maxHeartbeats 4000000 in
set_option maxRecDepth 100000 in
theorem c_X4_carryOutCycle {D : va_G} {ad : Nat → Nat} (l : Launch) (sz : Nat) (S : vS) : Met l yX4_carryOutCycle wsX4_carryOutCycle (rmD 3) (pW D 158 (cC D ad) ad sz S [.ref (ad jO)]) (va_Qi (fun (r : Int32) (S1 : vS) => (r, S1) = (x_X4_carryOutCycle S) ∧ (r = 0 ∨ r = 1)) (bW D 158 (cC D ad) ad (aW 158 ad sz)) (aW 158 ad sz)) 0 0 (aW 158 ad sz) := by
  refine x_met (own := RX4) (cc := cX4_carryOutCycle) (maxL := 2) (ret := (some .boolean)) (Qc := fun A => va_Qi (fun (r : Int32) (S1 : vS) => (r, S1) = (x_X4_carryOutCycle S) ∧ (r = 0 ∨ r = 1)) (bW D 158 (cC D ad) ad A) A) rfl ⟨by decide +kernel, rfl, Nat.le_of_ble_eq_true rfl⟩ ?_
  intro p e s mm args below meth c A ls B hW hl hls
  have hx := B.1.1
  have hb := B.1.2.1
  have hin_X4 : ∀ w ∈ wsX40, w ∈ wsX4_carryOutCycle := fun w h => List.mem_cons_of_mem _ (List.mem_append_left _ (List.mem_append_left _ (List.mem_append_right _ h)))
  have k_10 := B.1.2.2.2.2 (.fieldLink RX4 10 "JointLoans" "group" "LJointLoans$Group;") (by decide +kernel)
  have ki_X0 := B.1.2.2.2.2 (.initialized RX0) (by decide +kernel)
  have kn_X0_beginCycle := B.1.2.2.2.2 (.instanceMethod yX0_beginCycle) (by decide +kernel)
  have kn_X0_mayBeginCycle := B.1.2.2.2.2 (.instanceMethod yX0_mayBeginCycle) (by decide +kernel)
  have kv_X0_beginCycle := B.1.2.2.2.2 (.selects RX0 yX0_beginCycle yX0_beginCycle) (by decide +kernel)
  have kv_X0_mayBeginCycle := B.1.2.2.2.2 (.selects RX0 yX0_mayBeginCycle yX0_mayBeginCycle) (by decide +kernel)
  have zk := x_X4_carryOutCycle.eq_1 S
  have hl : lv_has ls 2 [(0, .ref (ad jO))] := hl
  refine lv_aload_n hx hb dX4_carryOutCycle_0 rfl (lv_at hl 0 rfl) ?_
  refine x_get B hW hqj cC_j cls4 hin_X4 0 (by decide) (v := .ref (ad (gG 0))) rfl k_10 dX4_carryOutCycle_1 ?_
  refine x_calli hW (x_runVN B hW (As := []) (rest := []) (host := RX4) (hqG (by decide)) (cC_G (by decide)) cls0 (c_X0_mayBeginCycle (D := D) (ad := ad) l _ S 0 (by decide)) ⟨va_cnB 0 B.1.2.2.2.2 gX4_carryOutCycle_X0_mayBeginCycle_n131 rfl rfl rfl (B.2.1.2 _ nl_X4_131) ki_X0 hd_X0_mayBeginCycle.2 ⟨Nat.le_of_ble_eq_true rfl, Nat.le_of_ble_eq_true rfl⟩, kn_X0_mayBeginCycle, kv_X0_mayBeginCycle⟩ rfl hls (Nat.le_of_ble_eq_true rfl) dX4_carryOutCycle_4 ⟨Nat.zero_le _, Nat.zero_le _⟩) (fun r_4 S_4 H locs he hW => ?_)
  obtain ⟨hr_4, hs, hz_4⟩ := he
  rw [hs] at hW
  have zk := nm_at zk hr_4
  refine lv_istore_n (lv' := [(1, .int r_4), (0, .ref (ad jO))]) hx hb dX4_carryOutCycle_7 rfl hl (by decide) rfl (fun ls hl => ?_)
  have hls := hl.1
  refine lv_iload_n hx hb dX4_carryOutCycle_8 rfl (lv_at hl 0 rfl) ?_
  refine lv_if_eq (tgt := 19) hx hb dX4_carryOutCycle_9 (by decide) (fun c_9 => ?_) (fun c_9 => ?_)
  · have zk := zk.trans (if_pos c_9)
    refine lv_iload_n hx hb dX4_carryOutCycle_19 rfl (lv_at hl 0 rfl) ?_
    exact x_zret B hW hz_4 ⟨zk.symm, hz_4⟩ dX4_carryOutCycle_20
  · have zk := zk.trans (if_neg c_9)
    refine lv_aload_n hx hb dX4_carryOutCycle_12 rfl (lv_at hl 1 rfl) ?_
    refine x_get B hW hqj cC_j cls4 hin_X4 0 (by decide) (v := .ref (ad (gG 0))) rfl k_10 dX4_carryOutCycle_13 ?_
    refine x_callv hW (x_runVN B hW (As := []) (rest := []) (host := RX4) (hqG (by decide)) (cC_G (by decide)) cls0 (c_X0_beginCycle (D := D) (ad := ad) l _ S 0 (by decide)) ⟨va_cnB 0 B.1.2.2.2.2 gX4_carryOutCycle_X0_beginCycle_n136 rfl rfl rfl (B.2.1.2 _ nl_X4_136) ki_X0 hd_X0_beginCycle.2 ⟨Nat.le_of_ble_eq_true rfl, Nat.le_of_ble_eq_true rfl⟩, kn_X0_beginCycle, kv_X0_beginCycle⟩ rfl hls (Nat.le_of_ble_eq_true rfl) dX4_carryOutCycle_16 ⟨Nat.zero_le _, Nat.zero_le _⟩) (fun S_16 H locs he hW => ?_)
    have he_16 := he
    have zk := nm_at zk he_16
    refine lv_iload_n hx hb dX4_carryOutCycle_19 rfl (lv_at hl 0 rfl) ?_
    exact x_zret B hW hz_4 ⟨zk.symm, hz_4⟩ dX4_carryOutCycle_20

def x_X4_carryOutHelp (S : vS) (k : Nat) : (Int32 × vS) := nm (x_X0_mayHelp S 0 k (S tO 5)) (fun r_12 => if r_12 = 0 then (r_12, S) else nm (x_X0_grantHelp S 0 k (S tO 5)) (fun S_32 => (r_12, S_32)))
theorem hd_X4_carryOutHelp : yX4_carryOutHelp.cls = RX4 ∧ yX4_carryOutHelp.cls ≠ "java/lang/invoke/MethodHandle" ∧ yX4_carryOutHelp.cls ≠ "java/lang/invoke/VarHandle" ∧ (parseMethodDescriptor yX4_carryOutHelp.desc).map (fun d => d.parameters.length) = some 1 := by decide +kernel
set_option maxHeartbeats 4000000 in
set_option maxRecDepth 100000 in
theorem c_X4_carryOutHelp {D : va_G} {ad : Nat → Nat} (l : Launch) (sz : Nat) (S : vS) (k : Nat) (hk : k < 8) : Met l yX4_carryOutHelp wsX4_carryOutHelp (rmD 1) (pW D 158 (cC D ad) ad sz S [.ref (ad jO), .ref (ad (gM 0 k))]) (va_Qi (fun (r : Int32) (S1 : vS) => (r, S1) = (x_X4_carryOutHelp S k) ∧ (r = 0 ∨ r = 1)) (bW D 158 (cC D ad) ad (aW 158 ad sz)) (aW 158 ad sz)) 0 0 (aW 158 ad sz) := by
  refine x_met (own := RX4) (cc := cX4_carryOutHelp) (maxL := 3) (ret := (some .boolean)) (Qc := fun A => va_Qi (fun (r : Int32) (S1 : vS) => (r, S1) = (x_X4_carryOutHelp S k) ∧ (r = 0 ∨ r = 1)) (bW D 158 (cC D ad) ad A) A) rfl ⟨by decide +kernel, rfl, Nat.le_of_ble_eq_true rfl⟩ ?_
  intro p e s mm args below meth c A ls B hW hl hls
  have hx := B.1.1
  have hb := B.1.2.1
  have hin_X3 : ∀ w ∈ wsX30, w ∈ wsX4_carryOutHelp := fun w h => List.mem_cons_of_mem _ (List.mem_append_left _ (List.mem_append_left _ (List.mem_append_right _ h)))
  have hin_X4 : ∀ w ∈ wsX40, w ∈ wsX4_carryOutHelp := fun w h => List.mem_cons_of_mem _ (List.mem_append_left _ (List.mem_append_left _ (List.mem_append_left _ (List.mem_append_right _ h))))
  have k_10 := B.1.2.2.2.2 (.fieldLink RX4 10 "JointLoans" "group" "LJointLoans$Group;") (by decide +kernel)
  have k_29 := B.1.2.2.2.2 (.fieldLink RX4 29 "JointLoans" "text" "LJointLoans$OrderText;") (by decide +kernel)
  have ki_X0 := B.1.2.2.2.2 (.initialized RX0) (by decide +kernel)
  have kn_X0_grantHelp := B.1.2.2.2.2 (.instanceMethod yX0_grantHelp) (by decide +kernel)
  have kn_X0_mayHelp := B.1.2.2.2.2 (.instanceMethod yX0_mayHelp) (by decide +kernel)
  have kv_X0_grantHelp := B.1.2.2.2.2 (.selects RX0 yX0_grantHelp yX0_grantHelp) (by decide +kernel)
  have kv_X0_mayHelp := B.1.2.2.2.2 (.selects RX0 yX0_mayHelp yX0_mayHelp) (by decide +kernel)
  have zk := x_X4_carryOutHelp.eq_1 S k
  have hl : lv_has ls 3 [(0, .ref (ad jO)), (1, .ref (ad (gM 0 k)))] := hl
  refine lv_aload_n hx hb dX4_carryOutHelp_0 rfl (lv_at hl 0 rfl) ?_
  refine x_get B hW hqj cC_j cls4 hin_X4 0 (by decide) (v := .ref (ad (gG 0))) rfl k_10 dX4_carryOutHelp_1 ?_
  refine lv_aload_n hx hb dX4_carryOutHelp_4 rfl (lv_at hl 1 rfl) ?_
  refine lv_aload_n hx hb dX4_carryOutHelp_5 rfl (lv_at hl 0 rfl) ?_
  refine x_get B hW hqj cC_j cls4 hin_X4 3 (by decide) (v := .ref (ad tO)) rfl k_29 dX4_carryOutHelp_6 ?_
  refine x_getN B hW hqt cC_t cls3 hin_X3 5 (by decide) (v := .int (S tO 5)) rfl nl_X4_315 dX4_carryOutHelp_9 ?_
  refine x_calli hW (x_runVN B hW (As := [.ref (ad (gM 0 k)), .int (S tO 5)]) (rest := []) (host := RX4) (hqG (by decide)) (cC_G (by decide)) cls0 (c_X0_mayHelp (D := D) (ad := ad) l _ S 0 k (S tO 5) (by decide) hk) ⟨va_cnB 2 B.1.2.2.2.2 gX4_carryOutHelp_X0_mayHelp_n118 rfl rfl rfl (B.2.1.2 _ nl_X4_118) ki_X0 hd_X0_mayHelp.2 ⟨Nat.le_of_ble_eq_true rfl, Nat.le_of_ble_eq_true rfl⟩, kn_X0_mayHelp, kv_X0_mayHelp⟩ rfl hls (Nat.le_of_ble_eq_true rfl) dX4_carryOutHelp_12 ⟨Nat.zero_le _, Nat.zero_le _⟩) (fun r_12 S_12 H locs he hW => ?_)
  obtain ⟨hr_12, hs, hz_12⟩ := he
  rw [hs] at hW
  have zk := nm_at zk hr_12
  refine lv_istore_n (lv' := [(2, .int r_12), (0, .ref (ad jO)), (1, .ref (ad (gM 0 k)))]) hx hb dX4_carryOutHelp_15 rfl hl (by decide) rfl (fun ls hl => ?_)
  have hls := hl.1
  refine lv_iload_n hx hb dX4_carryOutHelp_16 rfl (lv_at hl 0 rfl) ?_
  refine lv_if_eq (tgt := 35) hx hb dX4_carryOutHelp_17 (by decide) (fun c_17 => ?_) (fun c_17 => ?_)
  · have zk := zk.trans (if_pos c_17)
    refine lv_iload_n hx hb dX4_carryOutHelp_35 rfl (lv_at hl 0 rfl) ?_
    exact x_zret B hW hz_12 ⟨zk.symm, hz_12⟩ dX4_carryOutHelp_36
  · have zk := zk.trans (if_neg c_17)
    refine lv_aload_n hx hb dX4_carryOutHelp_20 rfl (lv_at hl 1 rfl) ?_
    refine x_get B hW hqj cC_j cls4 hin_X4 0 (by decide) (v := .ref (ad (gG 0))) rfl k_10 dX4_carryOutHelp_21 ?_
    refine lv_aload_n hx hb dX4_carryOutHelp_24 rfl (lv_at hl 2 rfl) ?_
    refine lv_aload_n hx hb dX4_carryOutHelp_25 rfl (lv_at hl 1 rfl) ?_
    refine x_get B hW hqj cC_j cls4 hin_X4 3 (by decide) (v := .ref (ad tO)) rfl k_29 dX4_carryOutHelp_26 ?_
    refine x_getN B hW hqt cC_t cls3 hin_X3 5 (by decide) (v := .int (S tO 5)) rfl nl_X4_315 dX4_carryOutHelp_29 ?_
    refine x_callv hW (x_runVN B hW (As := [.ref (ad (gM 0 k)), .int (S tO 5)]) (rest := []) (host := RX4) (hqG (by decide)) (cC_G (by decide)) cls0 (c_X0_grantHelp (D := D) (ad := ad) l _ S 0 k (S tO 5) (by decide) hk) ⟨va_cnB 2 B.1.2.2.2.2 gX4_carryOutHelp_X0_grantHelp_n124 rfl rfl rfl (B.2.1.2 _ nl_X4_124) ki_X0 hd_X0_grantHelp.2 ⟨Nat.le_of_ble_eq_true rfl, Nat.le_of_ble_eq_true rfl⟩, kn_X0_grantHelp, kv_X0_grantHelp⟩ rfl hls (Nat.le_of_ble_eq_true rfl) dX4_carryOutHelp_32 ⟨Nat.zero_le _, Nat.zero_le _⟩) (fun S_32 H locs he hW => ?_)
    have he_32 := he
    have zk := nm_at zk he_32
    refine lv_iload_n hx hb dX4_carryOutHelp_35 rfl (lv_at hl 0 rfl) ?_
    exact x_zret B hW hz_12 ⟨zk.symm, hz_12⟩ dX4_carryOutHelp_36

def x_X4_carryOutLoan (S : vS) (k : Nat) : (Int32 × vS) := nm (x_X2_mayBorrow S 0 k (S tO 5)) (fun r_8 => if r_8 = 0 then (r_8, S) else nm (x_X0_grantLoan S 0 k (S tO 5) (S tO 6)) (fun S_35 => (r_8, S_35)))
theorem hd_X4_carryOutLoan : yX4_carryOutLoan.cls = RX4 ∧ yX4_carryOutLoan.cls ≠ "java/lang/invoke/MethodHandle" ∧ yX4_carryOutLoan.cls ≠ "java/lang/invoke/VarHandle" ∧ (parseMethodDescriptor yX4_carryOutLoan.desc).map (fun d => d.parameters.length) = some 1 := by decide +kernel
set_option maxHeartbeats 4000000 in
set_option maxRecDepth 100000 in
theorem c_X4_carryOutLoan {D : va_G} {ad : Nat → Nat} (l : Launch) (sz : Nat) (S : vS) (k : Nat) (hk : k < 8) : Met l yX4_carryOutLoan wsX4_carryOutLoan (rmD 3) (pW D 158 (cC D ad) ad sz S [.ref (ad jO), .ref (ad (gM 0 k))]) (va_Qi (fun (r : Int32) (S1 : vS) => (r, S1) = (x_X4_carryOutLoan S k) ∧ (r = 0 ∨ r = 1)) (bW D 158 (cC D ad) ad (aW 158 ad sz)) (aW 158 ad sz)) 0 0 (aW 158 ad sz) := by
  refine x_met (own := RX4) (cc := cX4_carryOutLoan) (maxL := 3) (ret := (some .boolean)) (Qc := fun A => va_Qi (fun (r : Int32) (S1 : vS) => (r, S1) = (x_X4_carryOutLoan S k) ∧ (r = 0 ∨ r = 1)) (bW D 158 (cC D ad) ad A) A) rfl ⟨by decide +kernel, rfl, Nat.le_of_ble_eq_true rfl⟩ ?_
  intro p e s mm args below meth c A ls B hW hl hls
  have hx := B.1.1
  have hb := B.1.2.1
  have hin_X3 : ∀ w ∈ wsX30, w ∈ wsX4_carryOutLoan := fun w h => List.mem_cons_of_mem _ (List.mem_append_left _ (List.mem_append_left _ (List.mem_append_right _ h)))
  have hin_X4 : ∀ w ∈ wsX40, w ∈ wsX4_carryOutLoan := fun w h => List.mem_cons_of_mem _ (List.mem_append_left _ (List.mem_append_left _ (List.mem_append_left _ (List.mem_append_right _ h))))
  have k_10 := B.1.2.2.2.2 (.fieldLink RX4 10 "JointLoans" "group" "LJointLoans$Group;") (by decide +kernel)
  have k_29 := B.1.2.2.2.2 (.fieldLink RX4 29 "JointLoans" "text" "LJointLoans$OrderText;") (by decide +kernel)
  have ki_X0 := B.1.2.2.2.2 (.initialized RX0) (by decide +kernel)
  have ki_X2 := B.1.2.2.2.2 (.initialized RX2) (by decide +kernel)
  have kn_X0_grantLoan := B.1.2.2.2.2 (.instanceMethod yX0_grantLoan) (by decide +kernel)
  have kn_X2_mayBorrow := B.1.2.2.2.2 (.instanceMethod yX2_mayBorrow) (by decide +kernel)
  have kv_X0_grantLoan := B.1.2.2.2.2 (.selects RX0 yX0_grantLoan yX0_grantLoan) (by decide +kernel)
  have kv_X2_mayBorrow := B.1.2.2.2.2 (.selects RX2 yX2_mayBorrow yX2_mayBorrow) (by decide +kernel)
  have zk := x_X4_carryOutLoan.eq_1 S k
  have hl : lv_has ls 3 [(0, .ref (ad jO)), (1, .ref (ad (gM 0 k)))] := hl
  refine lv_aload_n hx hb dX4_carryOutLoan_0 rfl (lv_at hl 1 rfl) ?_
  refine lv_aload_n hx hb dX4_carryOutLoan_1 rfl (lv_at hl 0 rfl) ?_
  refine x_get B hW hqj cC_j cls4 hin_X4 3 (by decide) (v := .ref (ad tO)) rfl k_29 dX4_carryOutLoan_2 ?_
  refine x_getN B hW hqt cC_t cls3 hin_X3 5 (by decide) (v := .int (S tO 5)) rfl nl_X4_315 dX4_carryOutLoan_5 ?_
  refine x_calli hW (x_runVN B hW (As := [.int (S tO 5)]) (rest := []) (host := RX4) (hqM (by decide) hk) (cC_M (by decide) hk) cls2 (c_X2_mayBorrow (D := D) (ad := ad) l _ S 0 k (S tO 5) (by decide) hk) ⟨va_cnB 1 B.1.2.2.2.2 gX4_carryOutLoan_X2_mayBorrow_n71 rfl rfl rfl (B.2.1.2 _ nl_X4_71) ki_X2 hd_X2_mayBorrow.2 ⟨Nat.le_of_ble_eq_true rfl, Nat.le_of_ble_eq_true rfl⟩, kn_X2_mayBorrow, kv_X2_mayBorrow⟩ rfl hls (Nat.le_of_ble_eq_true rfl) dX4_carryOutLoan_8 ⟨Nat.zero_le _, Nat.zero_le _⟩) (fun r_8 S_8 H locs he hW => ?_)
  obtain ⟨hr_8, hs, hz_8⟩ := he
  rw [hs] at hW
  have zk := nm_at zk hr_8
  refine lv_istore_n (lv' := [(2, .int r_8), (0, .ref (ad jO)), (1, .ref (ad (gM 0 k)))]) hx hb dX4_carryOutLoan_11 rfl hl (by decide) rfl (fun ls hl => ?_)
  have hls := hl.1
  refine lv_iload_n hx hb dX4_carryOutLoan_12 rfl (lv_at hl 0 rfl) ?_
  refine lv_if_eq (tgt := 38) hx hb dX4_carryOutLoan_13 (by decide) (fun c_13 => ?_) (fun c_13 => ?_)
  · have zk := zk.trans (if_pos c_13)
    refine lv_iload_n hx hb dX4_carryOutLoan_38 rfl (lv_at hl 0 rfl) ?_
    exact x_zret B hW hz_8 ⟨zk.symm, hz_8⟩ dX4_carryOutLoan_39
  · have zk := zk.trans (if_neg c_13)
    refine lv_aload_n hx hb dX4_carryOutLoan_16 rfl (lv_at hl 1 rfl) ?_
    refine x_get B hW hqj cC_j cls4 hin_X4 0 (by decide) (v := .ref (ad (gG 0))) rfl k_10 dX4_carryOutLoan_17 ?_
    refine lv_aload_n hx hb dX4_carryOutLoan_20 rfl (lv_at hl 2 rfl) ?_
    refine lv_aload_n hx hb dX4_carryOutLoan_21 rfl (lv_at hl 1 rfl) ?_
    refine x_get B hW hqj cC_j cls4 hin_X4 3 (by decide) (v := .ref (ad tO)) rfl k_29 dX4_carryOutLoan_22 ?_
    refine x_getN B hW hqt cC_t cls3 hin_X3 5 (by decide) (v := .int (S tO 5)) rfl nl_X4_315 dX4_carryOutLoan_25 ?_
    refine lv_aload_n hx hb dX4_carryOutLoan_28 rfl (lv_at hl 1 rfl) ?_
    refine x_get B hW hqj cC_j cls4 hin_X4 3 (by decide) (v := .ref (ad tO)) rfl k_29 dX4_carryOutLoan_29 ?_
    refine x_getN B hW hqt cC_t cls3 hin_X3 6 (by decide) (v := .int (S tO 6)) rfl nl_X4_318 dX4_carryOutLoan_32 ?_
    refine x_callv hW (x_runVN B hW (As := [.ref (ad (gM 0 k)), .int (S tO 5), .int (S tO 6)]) (rest := []) (host := RX4) (hqG (by decide)) (cC_G (by decide)) cls0 (c_X0_grantLoan (D := D) (ad := ad) l _ S 0 k (S tO 5) (S tO 6) (by decide) hk) ⟨va_cnB 3 B.1.2.2.2.2 gX4_carryOutLoan_X0_grantLoan_n79 rfl rfl rfl (B.2.1.2 _ nl_X4_79) ki_X0 hd_X0_grantLoan.2 ⟨Nat.le_of_ble_eq_true rfl, Nat.le_of_ble_eq_true rfl⟩, kn_X0_grantLoan, kv_X0_grantLoan⟩ rfl hls (Nat.le_of_ble_eq_true rfl) dX4_carryOutLoan_35 ⟨Nat.zero_le _, Nat.zero_le _⟩) (fun S_35 H locs he hW => ?_)
    have he_35 := he
    have zk := nm_at zk he_35
    refine lv_iload_n hx hb dX4_carryOutLoan_38 rfl (lv_at hl 0 rfl) ?_
    exact x_zret B hW hz_8 ⟨zk.symm, hz_8⟩ dX4_carryOutLoan_39

def x_X4_carryOutPayment (S : vS) (k : Nat) : (Int32 × vS) := nm (x_X2_hasDebts S 0 k) (fun r_1 => if r_1 = 0 then (r_1, S) else nmp (x_X0_takePayment S 0 k (S tO 5)) (fun r_21 S_21 => (r_1, S_21)))
theorem hd_X4_carryOutPayment : yX4_carryOutPayment.cls = RX4 ∧ yX4_carryOutPayment.cls ≠ "java/lang/invoke/MethodHandle" ∧ yX4_carryOutPayment.cls ≠ "java/lang/invoke/VarHandle" ∧ (parseMethodDescriptor yX4_carryOutPayment.desc).map (fun d => d.parameters.length) = some 1 := by decide +kernel
set_option maxHeartbeats 4000000 in
set_option maxRecDepth 100000 in
theorem c_X4_carryOutPayment {D : va_G} {ad : Nat → Nat} (l : Launch) (sz : Nat) (S : vS) (k : Nat) (hk : k < 8) : Met l yX4_carryOutPayment wsX4_carryOutPayment (rmD 2) (pW D 158 (cC D ad) ad sz S [.ref (ad jO), .ref (ad (gM 0 k))]) (va_Qi (fun (r : Int32) (S1 : vS) => (r, S1) = (x_X4_carryOutPayment S k) ∧ (r = 0 ∨ r = 1)) (bW D 158 (cC D ad) ad (aW 158 ad sz)) (aW 158 ad sz)) 0 0 (aW 158 ad sz) := by
  refine x_met (own := RX4) (cc := cX4_carryOutPayment) (maxL := 3) (ret := (some .boolean)) (Qc := fun A => va_Qi (fun (r : Int32) (S1 : vS) => (r, S1) = (x_X4_carryOutPayment S k) ∧ (r = 0 ∨ r = 1)) (bW D 158 (cC D ad) ad A) A) rfl ⟨by decide +kernel, rfl, Nat.le_of_ble_eq_true rfl⟩ ?_
  intro p e s mm args below meth c A ls B hW hl hls
  have hx := B.1.1
  have hb := B.1.2.1
  have hin_X3 : ∀ w ∈ wsX30, w ∈ wsX4_carryOutPayment := fun w h => List.mem_cons_of_mem _ (List.mem_append_left _ (List.mem_append_left _ (List.mem_append_right _ h)))
  have hin_X4 : ∀ w ∈ wsX40, w ∈ wsX4_carryOutPayment := fun w h => List.mem_cons_of_mem _ (List.mem_append_left _ (List.mem_append_left _ (List.mem_append_left _ (List.mem_append_right _ h))))
  have k_10 := B.1.2.2.2.2 (.fieldLink RX4 10 "JointLoans" "group" "LJointLoans$Group;") (by decide +kernel)
  have k_29 := B.1.2.2.2.2 (.fieldLink RX4 29 "JointLoans" "text" "LJointLoans$OrderText;") (by decide +kernel)
  have ki_X0 := B.1.2.2.2.2 (.initialized RX0) (by decide +kernel)
  have ki_X2 := B.1.2.2.2.2 (.initialized RX2) (by decide +kernel)
  have kn_X0_takePayment := B.1.2.2.2.2 (.instanceMethod yX0_takePayment) (by decide +kernel)
  have kn_X2_hasDebts := B.1.2.2.2.2 (.instanceMethod yX2_hasDebts) (by decide +kernel)
  have kv_X0_takePayment := B.1.2.2.2.2 (.selects RX0 yX0_takePayment yX0_takePayment) (by decide +kernel)
  have kv_X2_hasDebts := B.1.2.2.2.2 (.selects RX2 yX2_hasDebts yX2_hasDebts) (by decide +kernel)
  have zk := x_X4_carryOutPayment.eq_1 S k
  have hl : lv_has ls 3 [(0, .ref (ad jO)), (1, .ref (ad (gM 0 k)))] := hl
  refine lv_aload_n hx hb dX4_carryOutPayment_0 rfl (lv_at hl 1 rfl) ?_
  refine x_calli hW (x_runVN B hW (As := []) (rest := []) (host := RX4) (hqM (by decide) hk) (cC_M (by decide) hk) cls2 (c_X2_hasDebts (D := D) (ad := ad) l _ S 0 k (by decide) hk) ⟨va_cnB 0 B.1.2.2.2.2 gX4_carryOutPayment_X2_hasDebts_n109 rfl rfl rfl (B.2.1.2 _ nl_X4_109) ki_X2 hd_X2_hasDebts.2 ⟨Nat.le_of_ble_eq_true rfl, Nat.le_of_ble_eq_true rfl⟩, kn_X2_hasDebts, kv_X2_hasDebts⟩ rfl hls (Nat.le_of_ble_eq_true rfl) dX4_carryOutPayment_1 ⟨Nat.zero_le _, Nat.zero_le _⟩) (fun r_1 S_1 H locs he hW => ?_)
  obtain ⟨hr_1, hs, hz_1⟩ := he
  rw [hs] at hW
  have zk := nm_at zk hr_1
  refine lv_istore_n (lv' := [(2, .int r_1), (0, .ref (ad jO)), (1, .ref (ad (gM 0 k)))]) hx hb dX4_carryOutPayment_4 rfl hl (by decide) rfl (fun ls hl => ?_)
  have hls := hl.1
  refine lv_iload_n hx hb dX4_carryOutPayment_5 rfl (lv_at hl 0 rfl) ?_
  refine lv_if_eq (tgt := 25) hx hb dX4_carryOutPayment_6 (by decide) (fun c_6 => ?_) (fun c_6 => ?_)
  · have zk := zk.trans (if_pos c_6)
    refine lv_iload_n hx hb dX4_carryOutPayment_25 rfl (lv_at hl 0 rfl) ?_
    exact x_zret B hW hz_1 ⟨zk.symm, hz_1⟩ dX4_carryOutPayment_26
  · have zk := zk.trans (if_neg c_6)
    refine lv_aload_n hx hb dX4_carryOutPayment_9 rfl (lv_at hl 1 rfl) ?_
    refine x_get B hW hqj cC_j cls4 hin_X4 0 (by decide) (v := .ref (ad (gG 0))) rfl k_10 dX4_carryOutPayment_10 ?_
    refine lv_aload_n hx hb dX4_carryOutPayment_13 rfl (lv_at hl 2 rfl) ?_
    refine lv_aload_n hx hb dX4_carryOutPayment_14 rfl (lv_at hl 1 rfl) ?_
    refine x_get B hW hqj cC_j cls4 hin_X4 3 (by decide) (v := .ref (ad tO)) rfl k_29 dX4_carryOutPayment_15 ?_
    refine x_getN B hW hqt cC_t cls3 hin_X3 5 (by decide) (v := .int (S tO 5)) rfl nl_X4_315 dX4_carryOutPayment_18 ?_
    refine x_calli hW (x_runVN B hW (As := [.ref (ad (gM 0 k)), .int (S tO 5)]) (rest := []) (host := RX4) (hqG (by decide)) (cC_G (by decide)) cls0 (c_X0_takePayment (D := D) (ad := ad) l _ S 0 k (S tO 5) (by decide) hk) ⟨va_cnB 2 B.1.2.2.2.2 gX4_carryOutPayment_X0_takePayment_n114 rfl rfl rfl (B.2.1.2 _ nl_X4_114) ki_X0 hd_X0_takePayment.2 ⟨Nat.le_of_ble_eq_true rfl, Nat.le_of_ble_eq_true rfl⟩, kn_X0_takePayment, kv_X0_takePayment⟩ rfl hls (Nat.le_of_ble_eq_true rfl) dX4_carryOutPayment_21 ⟨Nat.zero_le _, Nat.zero_le _⟩) (fun r_21 S_21 H locs he hW => ?_)
    have hr_21 := he
    have zk := nmp_at zk hr_21
    have he_21 : S_21 = (x_X0_takePayment S 0 k (S tO 5)).2 := by rw [← hr_21]
    refine lv_pop hx hb dX4_carryOutPayment_24 rfl ?_
    refine lv_iload_n hx hb dX4_carryOutPayment_25 rfl (lv_at hl 0 rfl) ?_
    exact x_zret B hW hz_1 ⟨zk.symm, hz_1⟩ dX4_carryOutPayment_26

def x_X4_carryOutFor (S : vS) (k : Nat) : (Int32 × vS) := if (S tO 3) = 1 then nmp (x_X4_carryOutLoan S k) (fun r_38 S_38 => (r_38, S_38)) else (if (S tO 3) = 2 then nm (st S (gM 0 k) 8 1) (fun S_44 => (1, S_44)) else (if (S tO 3) = 3 then nmp (x_X4_carryOutPayment S k) (fun r_51 S_51 => (r_51, S_51)) else (if (S tO 3) = 4 then nmp (x_X4_carryOutHelp S k) (fun r_57 S_57 => (r_57, S_57)) else ((0, S)))))
theorem hd_X4_carryOutFor : yX4_carryOutFor.cls = RX4 ∧ yX4_carryOutFor.cls ≠ "java/lang/invoke/MethodHandle" ∧ yX4_carryOutFor.cls ≠ "java/lang/invoke/VarHandle" ∧ (parseMethodDescriptor yX4_carryOutFor.desc).map (fun d => d.parameters.length) = some 1 := by decide +kernel
set_option maxHeartbeats 4000000 in
set_option maxRecDepth 100000 in
theorem c_X4_carryOutFor {D : va_G} {ad : Nat → Nat} (l : Launch) (sz : Nat) (S : vS) (k : Nat) (hk : k < 8) : Met l yX4_carryOutFor wsX4_carryOutFor (rmD 4) (pW D 158 (cC D ad) ad sz S [.ref (ad jO), .ref (ad (gM 0 k))]) (va_Qi (fun (r : Int32) (S1 : vS) => (r, S1) = (x_X4_carryOutFor S k) ∧ (r = 0 ∨ r = 1)) (bW D 158 (cC D ad) ad (aW 158 ad sz)) (aW 158 ad sz)) 0 0 (aW 158 ad sz) := by
  refine x_met (own := RX4) (cc := cX4_carryOutFor) (maxL := 2) (ret := (some .boolean)) (Qc := fun A => va_Qi (fun (r : Int32) (S1 : vS) => (r, S1) = (x_X4_carryOutFor S k) ∧ (r = 0 ∨ r = 1)) (bW D 158 (cC D ad) ad A) A) rfl ⟨by decide +kernel, rfl, Nat.le_of_ble_eq_true rfl⟩ ?_
  intro p e s mm args below meth c A ls B hW hl hls
  have hx := B.1.1
  have hb := B.1.2.1
  have hin_X2 : ∀ w ∈ wsX20, w ∈ wsX4_carryOutFor := fun w h => List.mem_cons_of_mem _ (List.mem_append_left _ (List.mem_append_right _ h))
  have hin_X3 : ∀ w ∈ wsX30, w ∈ wsX4_carryOutFor := fun w h => List.mem_cons_of_mem _ (List.mem_append_left _ (List.mem_append_left _ (List.mem_append_right _ h)))
  have hin_X4 : ∀ w ∈ wsX40, w ∈ wsX4_carryOutFor := fun w h => List.mem_cons_of_mem _ (List.mem_append_left _ (List.mem_append_left _ (List.mem_append_left _ (List.mem_append_right _ h))))
  have k_29 := B.1.2.2.2.2 (.fieldLink RX4 29 "JointLoans" "text" "LJointLoans$OrderText;") (by decide +kernel)
  have zk := x_X4_carryOutFor.eq_1 S k
  have hl : lv_has ls 2 [(0, .ref (ad jO)), (1, .ref (ad (gM 0 k)))] := hl
  refine lv_aload_n hx hb dX4_carryOutFor_0 rfl (lv_at hl 0 rfl) ?_
  refine x_get B hW hqj cC_j cls4 hin_X4 3 (by decide) (v := .ref (ad tO)) rfl k_29 dX4_carryOutFor_1 ?_
  refine x_getN B hW hqt cC_t cls3 hin_X3 3 (by decide) (v := .int (S tO 3)) rfl nl_X4_291 dX4_carryOutFor_4 ?_
  by_cases c_7_1 : (S tO 3) = 1
  · have zk := zk.trans (if_pos c_7_1)
    refine lv_tableIn (off := 29) (tgt := 36) hx hb dX4_carryOutFor_7 (by rw [c_7_1]; decide) (by rw [c_7_1]; decide) (by rw [c_7_1]; rfl) (by decide) ?_
    refine lv_aload_n hx hb dX4_carryOutFor_36 rfl (lv_at hl 0 rfl) ?_
    refine lv_aload_n hx hb dX4_carryOutFor_37 rfl (lv_at hl 1 rfl) ?_
    refine x_calli hW (x_runV B hW (As := [.ref (ad (gM 0 k))]) (rest := []) hqj cC_j cls4 (c_X4_carryOutLoan (D := D) (ad := ad) l _ S k hk) (cwV 1 B.1.2.2.2.2 gX4_carryOutFor_X4_carryOutLoan rfl rfl rfl hd_X4_carryOutLoan ⟨Nat.le_of_ble_eq_true rfl, Nat.le_of_ble_eq_true rfl⟩) rfl hls (Nat.le_of_ble_eq_true rfl) dX4_carryOutFor_38 ⟨Nat.zero_le _, Nat.zero_le _⟩) (fun r_38 S_38 H locs he hW => ?_)
    obtain ⟨hr_38, hz_38⟩ := he
    have zk := nmp_at zk hr_38
    have he_38 : S_38 = (x_X4_carryOutLoan S k).2 := by rw [← hr_38]
    exact x_zret B hW hz_38 ⟨zk.symm, hz_38⟩ dX4_carryOutFor_41
  · have zk := zk.trans (if_neg c_7_1)
    by_cases c_7_2 : (S tO 3) = 2
    · have zk := zk.trans (if_pos c_7_2)
      refine lv_tableIn (off := 35) (tgt := 42) hx hb dX4_carryOutFor_7 (by rw [c_7_2]; decide) (by rw [c_7_2]; decide) (by rw [c_7_2]; rfl) (by decide) ?_
      refine lv_aload_n hx hb dX4_carryOutFor_42 rfl (lv_at hl 1 rfl) ?_
      refine lv_iconst (v := 1) hx hb dX4_carryOutFor_43 (by decide) ?_
      refine x_putN B hW (hqM (by decide) hk) cls2 hin_X2 8 (by decide) (cC_M (by decide) hk) rfl (ty := .boolean) (by decide +kernel) (nar_z (Or.inr rfl)) (fit_z (Or.inr rfl)) (Nat.le_of_ble_eq_true rfl) (j := 8) (pM_8 (by decide) hk (Or.inr rfl)) nl_X4_86 dX4_carryOutFor_44 (fun H locs S_44 he_44 hW => ?_)
      have zk := nm_at zk he_44
      refine lv_iconst (v := 1) hx hb dX4_carryOutFor_47 (by decide) ?_
      exact x_zret B hW (Or.inr rfl) ⟨zk.symm, (Or.inr rfl)⟩ dX4_carryOutFor_48
    · have zk := zk.trans (if_neg c_7_2)
      by_cases c_7_3 : (S tO 3) = 3
      · have zk := zk.trans (if_pos c_7_3)
        refine lv_tableIn (off := 42) (tgt := 49) hx hb dX4_carryOutFor_7 (by rw [c_7_3]; decide) (by rw [c_7_3]; decide) (by rw [c_7_3]; rfl) (by decide) ?_
        refine lv_aload_n hx hb dX4_carryOutFor_49 rfl (lv_at hl 0 rfl) ?_
        refine lv_aload_n hx hb dX4_carryOutFor_50 rfl (lv_at hl 1 rfl) ?_
        refine x_calli hW (x_runV B hW (As := [.ref (ad (gM 0 k))]) (rest := []) hqj cC_j cls4 (c_X4_carryOutPayment (D := D) (ad := ad) l _ S k hk) (cwV 1 B.1.2.2.2.2 gX4_carryOutFor_X4_carryOutPayment rfl rfl rfl hd_X4_carryOutPayment ⟨Nat.le_of_ble_eq_true rfl, Nat.le_of_ble_eq_true rfl⟩) rfl hls (Nat.le_of_ble_eq_true rfl) dX4_carryOutFor_51 ⟨Nat.zero_le _, Nat.zero_le _⟩) (fun r_51 S_51 H locs he hW => ?_)
        obtain ⟨hr_51, hz_51⟩ := he
        have zk := nmp_at zk hr_51
        have he_51 : S_51 = (x_X4_carryOutPayment S k).2 := by rw [← hr_51]
        exact x_zret B hW hz_51 ⟨zk.symm, hz_51⟩ dX4_carryOutFor_54
      · have zk := zk.trans (if_neg c_7_3)
        by_cases c_7_4 : (S tO 3) = 4
        · have zk := zk.trans (if_pos c_7_4)
          refine lv_tableIn (off := 48) (tgt := 55) hx hb dX4_carryOutFor_7 (by rw [c_7_4]; decide) (by rw [c_7_4]; decide) (by rw [c_7_4]; rfl) (by decide) ?_
          refine lv_aload_n hx hb dX4_carryOutFor_55 rfl (lv_at hl 0 rfl) ?_
          refine lv_aload_n hx hb dX4_carryOutFor_56 rfl (lv_at hl 1 rfl) ?_
          refine x_calli hW (x_runV B hW (As := [.ref (ad (gM 0 k))]) (rest := []) hqj cC_j cls4 (c_X4_carryOutHelp (D := D) (ad := ad) l _ S k hk) (cwV 1 B.1.2.2.2.2 gX4_carryOutFor_X4_carryOutHelp rfl rfl rfl hd_X4_carryOutHelp ⟨Nat.le_of_ble_eq_true rfl, Nat.le_of_ble_eq_true rfl⟩) rfl hls (Nat.le_of_ble_eq_true rfl) dX4_carryOutFor_57 ⟨Nat.zero_le _, Nat.zero_le _⟩) (fun r_57 S_57 H locs he hW => ?_)
          obtain ⟨hr_57, hz_57⟩ := he
          have zk := nmp_at zk hr_57
          have he_57 : S_57 = (x_X4_carryOutHelp S k).2 := by rw [← hr_57]
          exact x_zret B hW hz_57 ⟨zk.symm, hz_57⟩ dX4_carryOutFor_60
        · have zk := zk.trans (if_neg c_7_4)
          have nc_7_1 := lv_neT c_7_1 (a := 1) (by decide)
          have nc_7_2 := lv_neT c_7_2 (a := 2) (by decide)
          have nc_7_3 := lv_neT c_7_3 (a := 3) (by decide)
          have nc_7_4 := lv_neT c_7_4 (a := 4) (by decide)
          have hsw : (S tO 3).toInt < 1 ∨ 4 < (S tO 3).toInt := by omega
          refine lv_tableOut (tgt := 61) hx hb dX4_carryOutFor_7 hsw (by decide) ?_
          refine lv_iconst (v := 0) hx hb dX4_carryOutFor_61 (by decide) ?_
          exact x_zret B hW (Or.inl rfl) ⟨zk.symm, (Or.inl rfl)⟩ dX4_carryOutFor_62

def x_X4_carryOutWeek (S : vS) : (Int32 × vS) := nm (x_X0_mayEndWeek S 0) (fun r_4 => if r_4 = 0 then (r_4, S) else nm (x_X0_endWeek S 0) (fun S_16 => (r_4, S_16)))
theorem hd_X4_carryOutWeek : yX4_carryOutWeek.cls = RX4 ∧ yX4_carryOutWeek.cls ≠ "java/lang/invoke/MethodHandle" ∧ yX4_carryOutWeek.cls ≠ "java/lang/invoke/VarHandle" ∧ (parseMethodDescriptor yX4_carryOutWeek.desc).map (fun d => d.parameters.length) = some 0 := by decide +kernel
set_option maxHeartbeats 4000000 in
set_option maxRecDepth 100000 in
theorem c_X4_carryOutWeek {D : va_G} {ad : Nat → Nat} (l : Launch) (sz : Nat) (S : vS) : Met l yX4_carryOutWeek wsX4_carryOutWeek (rmD 4) (pW D 158 (cC D ad) ad sz S [.ref (ad jO)]) (va_Qi (fun (r : Int32) (S1 : vS) => (r, S1) = (x_X4_carryOutWeek S) ∧ (r = 0 ∨ r = 1)) (bW D 158 (cC D ad) ad (aW 158 ad sz)) (aW 158 ad sz)) 0 0 (aW 158 ad sz) := by
  refine x_met (own := RX4) (cc := cX4_carryOutWeek) (maxL := 2) (ret := (some .boolean)) (Qc := fun A => va_Qi (fun (r : Int32) (S1 : vS) => (r, S1) = (x_X4_carryOutWeek S) ∧ (r = 0 ∨ r = 1)) (bW D 158 (cC D ad) ad A) A) rfl ⟨by decide +kernel, rfl, Nat.le_of_ble_eq_true rfl⟩ ?_
  intro p e s mm args below meth c A ls B hW hl hls
  have hx := B.1.1
  have hb := B.1.2.1
  have hin_X4 : ∀ w ∈ wsX40, w ∈ wsX4_carryOutWeek := fun w h => List.mem_cons_of_mem _ (List.mem_append_left _ (List.mem_append_left _ (List.mem_append_right _ h)))
  have k_10 := B.1.2.2.2.2 (.fieldLink RX4 10 "JointLoans" "group" "LJointLoans$Group;") (by decide +kernel)
  have ki_X0 := B.1.2.2.2.2 (.initialized RX0) (by decide +kernel)
  have kn_X0_endWeek := B.1.2.2.2.2 (.instanceMethod yX0_endWeek) (by decide +kernel)
  have kn_X0_mayEndWeek := B.1.2.2.2.2 (.instanceMethod yX0_mayEndWeek) (by decide +kernel)
  have kv_X0_endWeek := B.1.2.2.2.2 (.selects RX0 yX0_endWeek yX0_endWeek) (by decide +kernel)
  have kv_X0_mayEndWeek := B.1.2.2.2.2 (.selects RX0 yX0_mayEndWeek yX0_mayEndWeek) (by decide +kernel)
  have zk := x_X4_carryOutWeek.eq_1 S
  have hl : lv_has ls 2 [(0, .ref (ad jO))] := hl
  refine lv_aload_n hx hb dX4_carryOutWeek_0 rfl (lv_at hl 0 rfl) ?_
  refine x_get B hW hqj cC_j cls4 hin_X4 0 (by decide) (v := .ref (ad (gG 0))) rfl k_10 dX4_carryOutWeek_1 ?_
  refine x_calli hW (x_runVN B hW (As := []) (rest := []) (host := RX4) (hqG (by decide)) (cC_G (by decide)) cls0 (c_X0_mayEndWeek (D := D) (ad := ad) l _ S 0 (by decide)) ⟨va_cnB 0 B.1.2.2.2.2 gX4_carryOutWeek_X0_mayEndWeek_n93 rfl rfl rfl (B.2.1.2 _ nl_X4_93) ki_X0 hd_X0_mayEndWeek.2 ⟨Nat.le_of_ble_eq_true rfl, Nat.le_of_ble_eq_true rfl⟩, kn_X0_mayEndWeek, kv_X0_mayEndWeek⟩ rfl hls (Nat.le_of_ble_eq_true rfl) dX4_carryOutWeek_4 ⟨Nat.zero_le _, Nat.zero_le _⟩) (fun r_4 S_4 H locs he hW => ?_)
  obtain ⟨hr_4, hs, hz_4⟩ := he
  rw [hs] at hW
  have zk := nm_at zk hr_4
  refine lv_istore_n (lv' := [(1, .int r_4), (0, .ref (ad jO))]) hx hb dX4_carryOutWeek_7 rfl hl (by decide) rfl (fun ls hl => ?_)
  have hls := hl.1
  refine lv_iload_n hx hb dX4_carryOutWeek_8 rfl (lv_at hl 0 rfl) ?_
  refine lv_if_eq (tgt := 19) hx hb dX4_carryOutWeek_9 (by decide) (fun c_9 => ?_) (fun c_9 => ?_)
  · have zk := zk.trans (if_pos c_9)
    refine lv_iload_n hx hb dX4_carryOutWeek_19 rfl (lv_at hl 0 rfl) ?_
    exact x_zret B hW hz_4 ⟨zk.symm, hz_4⟩ dX4_carryOutWeek_20
  · have zk := zk.trans (if_neg c_9)
    refine lv_aload_n hx hb dX4_carryOutWeek_12 rfl (lv_at hl 1 rfl) ?_
    refine x_get B hW hqj cC_j cls4 hin_X4 0 (by decide) (v := .ref (ad (gG 0))) rfl k_10 dX4_carryOutWeek_13 ?_
    refine x_callv hW (x_runVN B hW (As := []) (rest := []) (host := RX4) (hqG (by decide)) (cC_G (by decide)) cls0 (c_X0_endWeek (D := D) (ad := ad) l _ S 0 (by decide)) ⟨va_cnB 0 B.1.2.2.2.2 gX4_carryOutWeek_X0_endWeek_n102 rfl rfl rfl (B.2.1.2 _ nl_X4_102) ki_X0 hd_X0_endWeek.2 ⟨Nat.le_of_ble_eq_true rfl, Nat.le_of_ble_eq_true rfl⟩, kn_X0_endWeek, kv_X0_endWeek⟩ rfl hls (Nat.le_of_ble_eq_true rfl) dX4_carryOutWeek_16 ⟨Nat.zero_le _, Nat.zero_le _⟩) (fun S_16 H locs he hW => ?_)
    have he_16 := he
    have zk := nm_at zk he_16
    refine lv_iload_n hx hb dX4_carryOutWeek_19 rfl (lv_at hl 0 rfl) ?_
    exact x_zret B hW hz_4 ⟨zk.symm, hz_4⟩ dX4_carryOutWeek_20

def x_X4_carryOut (S : vS) : (Int32 × vS) := if (S tO 3) = 5 then nmp (x_X4_carryOutWeek S) (fun r_33 S_33 => (r_33, S_33)) else (if (S tO 3) = 6 then nmp (x_X4_carryOutCycle S) (fun r_38 S_38 => (r_38, S_38)) else (oc (x_X0_find S 0 (S tO 4)) ((0, S)) (fun k_53 => nmp (x_X4_carryOutFor S k_53) (fun r_63 S_63 => if r_63 = 0 then (0, S_63) else (1, S_63)))))
theorem hd_X4_carryOut : yX4_carryOut.cls = RX4 ∧ yX4_carryOut.cls ≠ "java/lang/invoke/MethodHandle" ∧ yX4_carryOut.cls ≠ "java/lang/invoke/VarHandle" ∧ (parseMethodDescriptor yX4_carryOut.desc).map (fun d => d.parameters.length) = some 0 := by decide +kernel
set_option maxHeartbeats 4000000 in
set_option maxRecDepth 100000 in
theorem c_X4_carryOut {D : va_G} {ad : Nat → Nat} (l : Launch) (sz : Nat) (S : vS) : Met l yX4_carryOut wsX4_carryOut (rmD 5) (pW D 158 (cC D ad) ad sz S [.ref (ad jO)]) (va_Qi (fun (r : Int32) (S1 : vS) => (r, S1) = (x_X4_carryOut S) ∧ (r = 0 ∨ r = 1)) (bW D 158 (cC D ad) ad (aW 158 ad sz)) (aW 158 ad sz)) 0 0 (aW 158 ad sz) := by
  refine x_met (own := RX4) (cc := cX4_carryOut) (maxL := 2) (ret := (some .boolean)) (Qc := fun A => va_Qi (fun (r : Int32) (S1 : vS) => (r, S1) = (x_X4_carryOut S) ∧ (r = 0 ∨ r = 1)) (bW D 158 (cC D ad) ad A) A) rfl ⟨by decide +kernel, rfl, Nat.le_of_ble_eq_true rfl⟩ ?_
  intro p e s mm args below meth c A ls B hW hl hls
  have hx := B.1.1
  have hb := B.1.2.1
  have hin_X3 : ∀ w ∈ wsX30, w ∈ wsX4_carryOut := fun w h => List.mem_cons_of_mem _ (List.mem_append_left _ (List.mem_append_left _ (List.mem_append_right _ h)))
  have hin_X4 : ∀ w ∈ wsX40, w ∈ wsX4_carryOut := fun w h => List.mem_cons_of_mem _ (List.mem_append_left _ (List.mem_append_left _ (List.mem_append_left _ (List.mem_append_right _ h))))
  have k_10 := B.1.2.2.2.2 (.fieldLink RX4 10 "JointLoans" "group" "LJointLoans$Group;") (by decide +kernel)
  have k_29 := B.1.2.2.2.2 (.fieldLink RX4 29 "JointLoans" "text" "LJointLoans$OrderText;") (by decide +kernel)
  have ki_X0 := B.1.2.2.2.2 (.initialized RX0) (by decide +kernel)
  have kn_X0_find := B.1.2.2.2.2 (.instanceMethod yX0_find) (by decide +kernel)
  have kv_X0_find := B.1.2.2.2.2 (.selects RX0 yX0_find yX0_find) (by decide +kernel)
  have zk := x_X4_carryOut.eq_1 S
  have hl : lv_has ls 2 [(0, .ref (ad jO))] := hl
  refine lv_aload_n hx hb dX4_carryOut_0 rfl (lv_at hl 0 rfl) ?_
  refine x_get B hW hqj cC_j cls4 hin_X4 3 (by decide) (v := .ref (ad tO)) rfl k_29 dX4_carryOut_1 ?_
  refine x_getN B hW hqt cC_t cls3 hin_X3 3 (by decide) (v := .int (S tO 3)) rfl nl_X4_291 dX4_carryOut_4 ?_
  by_cases c_7_5 : (S tO 3) = 5
  · have zk := zk.trans (if_pos c_7_5)
    refine lv_lookup (off := 25) (tgt := 32) hx hb dX4_carryOut_7 (by decide) (by rw [c_7_5]; decide) (by decide) ?_
    refine lv_aload_n hx hb dX4_carryOut_32 rfl (lv_at hl 0 rfl) ?_
    refine x_calli hW (x_runV B hW (As := []) (rest := []) hqj cC_j cls4 (c_X4_carryOutWeek (D := D) (ad := ad) l _ S) (cwV 0 B.1.2.2.2.2 gX4_carryOut_X4_carryOutWeek rfl rfl rfl hd_X4_carryOutWeek ⟨Nat.le_of_ble_eq_true rfl, Nat.le_of_ble_eq_true rfl⟩) rfl hls (Nat.le_of_ble_eq_true rfl) dX4_carryOut_33 ⟨Nat.zero_le _, Nat.zero_le _⟩) (fun r_33 S_33 H locs he hW => ?_)
    obtain ⟨hr_33, hz_33⟩ := he
    have zk := nmp_at zk hr_33
    have he_33 : S_33 = (x_X4_carryOutWeek S).2 := by rw [← hr_33]
    exact x_zret B hW hz_33 ⟨zk.symm, hz_33⟩ dX4_carryOut_36
  · have zk := zk.trans (if_neg c_7_5)
    by_cases c_7_6 : (S tO 3) = 6
    · have zk := zk.trans (if_pos c_7_6)
      refine lv_lookup (off := 30) (tgt := 37) hx hb dX4_carryOut_7 (by decide) (by rw [c_7_6]; decide) (by decide) ?_
      refine lv_aload_n hx hb dX4_carryOut_37 rfl (lv_at hl 0 rfl) ?_
      refine x_calli hW (x_runV B hW (As := []) (rest := []) hqj cC_j cls4 (c_X4_carryOutCycle (D := D) (ad := ad) l _ S) (cwV 0 B.1.2.2.2.2 gX4_carryOut_X4_carryOutCycle rfl rfl rfl hd_X4_carryOutCycle ⟨Nat.le_of_ble_eq_true rfl, Nat.le_of_ble_eq_true rfl⟩) rfl hls (Nat.le_of_ble_eq_true rfl) dX4_carryOut_38 ⟨Nat.zero_le _, Nat.zero_le _⟩) (fun r_38 S_38 H locs he hW => ?_)
      obtain ⟨hr_38, hz_38⟩ := he
      have zk := nmp_at zk hr_38
      have he_38 : S_38 = (x_X4_carryOutCycle S).2 := by rw [← hr_38]
      exact x_zret B hW hz_38 ⟨zk.symm, hz_38⟩ dX4_carryOut_41
    · have zk := zk.trans (if_neg c_7_6)
      refine lv_lookup (off := 35) (tgt := 42) hx hb dX4_carryOut_7 (by decide) (by rw [lv_osw c_7_5 (by decide), lv_osw c_7_6 (by decide)]; rfl) (by decide) ?_
      refine lv_aload_n hx hb dX4_carryOut_42 rfl (lv_at hl 0 rfl) ?_
      refine x_get B hW hqj cC_j cls4 hin_X4 0 (by decide) (v := .ref (ad (gG 0))) rfl k_10 dX4_carryOut_43 ?_
      refine lv_aload_n hx hb dX4_carryOut_46 rfl (lv_at hl 0 rfl) ?_
      refine x_get B hW hqj cC_j cls4 hin_X4 3 (by decide) (v := .ref (ad tO)) rfl k_29 dX4_carryOut_47 ?_
      refine x_getN B hW hqt cC_t cls3 hin_X3 4 (by decide) (v := .int (S tO 4)) rfl nl_X4_300 dX4_carryOut_50 ?_
      refine x_callq hW (x_runVN B hW (As := [.int (S tO 4)]) (rest := []) (host := RX4) (hqG (by decide)) (cC_G (by decide)) cls0 (c_X0_find (D := D) (ad := ad) l _ S 0 (S tO 4) (by decide)) ⟨va_cnB 1 B.1.2.2.2.2 gX4_carryOut_X0_find_n270 rfl rfl rfl (B.2.1.2 _ nl_X4_270) ki_X0 hd_X0_find.2 ⟨Nat.le_of_ble_eq_true rfl, Nat.le_of_ble_eq_true rfl⟩, kn_X0_find, kv_X0_find⟩ rfl hls (Nat.le_of_ble_eq_true rfl) dX4_carryOut_53 ⟨Nat.zero_le _, Nat.zero_le _⟩) (fun r_53 S_53 H locs he hW => ?_)
      obtain ⟨hr, hs, hbk⟩ := he
      rw [hs] at hW
      rcases ho : x_X0_find S 0 (S tO 4) with _ | k_53
      · have zk := oc_none zk ho
        have hr : r_53 = none := by rw [hr, ho]; rfl
        subst hr
        refine W.eq (g2 := F0 mm 56 ls (.null :: [])) rfl ?_
        refine lv_astore_nN (lv' := [(1, .null), (0, .ref (ad jO))]) hx hb dX4_carryOut_56 rfl hl (by decide) rfl (fun ls hl => ?_)
        have hls := hl.1
        refine lv_aload_nN hx hb dX4_carryOut_57 rfl (lv_at hl 0 rfl) ?_
        refine lv_ifnullN (tgt := 73) hx hb dX4_carryOut_58 (by decide) ?_
        refine lv_iconst (v := 0) hx hb dX4_carryOut_73 (by decide) ?_
        exact x_zret B hW (Or.inl rfl) ⟨zk.symm, (Or.inl rfl)⟩ dX4_carryOut_74
      · have zk := oc_some zk ho
        have hbk := hbk _ ho
        have hr : r_53 = some (ad (gM 0 k_53)) := by rw [hr, ho]; rfl
        subst hr
        refine W.eq (g2 := F0 mm 56 ls (.ref (ad (gM 0 k_53)) :: [])) rfl ?_
        have hbk_53 := hbk
        refine lv_astore_n (lv' := [(1, .ref (ad (gM 0 k_53))), (0, .ref (ad jO))]) hx hb dX4_carryOut_56 rfl hl (by decide) rfl (fun ls hl => ?_)
        have hls := hl.1
        refine lv_aload_n hx hb dX4_carryOut_57 rfl (lv_at hl 0 rfl) ?_
        refine lv_ifnull hx hb dX4_carryOut_58 ?_
        refine lv_aload_n hx hb dX4_carryOut_61 rfl (lv_at hl 1 rfl) ?_
        refine lv_aload_n hx hb dX4_carryOut_62 rfl (lv_at hl 0 rfl) ?_
        refine x_calli hW (x_runV B hW (As := [.ref (ad (gM 0 k_53))]) (rest := []) hqj cC_j cls4 (c_X4_carryOutFor (D := D) (ad := ad) l _ S k_53 hbk_53) (cwV 1 B.1.2.2.2.2 gX4_carryOut_X4_carryOutFor rfl rfl rfl hd_X4_carryOutFor ⟨Nat.le_of_ble_eq_true rfl, Nat.le_of_ble_eq_true rfl⟩) rfl hls (Nat.le_of_ble_eq_true rfl) dX4_carryOut_63 ⟨Nat.zero_le _, Nat.zero_le _⟩) (fun r_63 S_63 H locs he hW => ?_)
        obtain ⟨hr_63, hz_63⟩ := he
        have zk := nmp_at zk hr_63
        have he_63 : S_63 = (x_X4_carryOutFor S k_53).2 := by rw [← hr_63]
        refine lv_if_eq (tgt := 73) hx hb dX4_carryOut_66 (by decide) (fun c_66 => ?_) (fun c_66 => ?_)
        · have zk := zk.trans (if_pos c_66)
          refine lv_iconst (v := 0) hx hb dX4_carryOut_73 (by decide) ?_
          exact x_zret B hW (Or.inl rfl) ⟨zk.symm, (Or.inl rfl)⟩ dX4_carryOut_74
        · have zk := zk.trans (if_neg c_66)
          refine lv_iconst (v := 1) hx hb dX4_carryOut_69 (by decide) ?_
          refine lv_goto (tgt := 74) hx hb dX4_carryOut_70 (by decide) ?_
          exact x_zret B hW (Or.inr rfl) ⟨zk.symm, (Or.inr rfl)⟩ dX4_carryOut_74

def x_X4_run_L42 : Nat → vS → Nat → Int32 → ((Nat × Int32) × vS)
  | 0, S, _, _ => ((0, 0), S)
  | n + 1, S, n2, v1 => if 60 ≤ (nI n2) then nm (x_X3_clear S) (fun S_96 => ((0, v1), S_96)) else nmp (x_X3_readOrder S) (fun r_52 S_52 => if r_52 = 0 then nm (x_X3_clear S_52) (fun S_96 => ((0, v1), S_96)) else nmp (x_X4_carryOut S_52) (fun r_59 S_59 => if r_59 = 0 then nm (x_X3_clear S_59) (fun S_96 => ((0, v1), S_96)) else nm (v1 + 1) (fun x_68 => nmp (x_X3_readMark S_59 59) (fun r_77 S_77 => if r_77 = 0 then nm (x_X3_clear S_77) (fun S_96 => ((0, x_68), S_96)) else x_X4_run_L42 n S_77 ((n2 + 1)) (x_68)))))
def x_X4_run (S : vS) : ((Nat × Int32) × vS) := nmp (x_X3_readAll S) (fun r_4 S_4 => if r_4 = 0 then ((3, 0), S_4) else nm (x_X1_keep S_4 0) (fun S_28 => nm (x_X3_restart S_28) (fun S_37 => x_X4_run_L42 (61) S_37 (0) (0))))
theorem hd_X4_run : yX4_run.cls = RX4 ∧ yX4_run.cls ≠ "java/lang/invoke/MethodHandle" ∧ yX4_run.cls ≠ "java/lang/invoke/VarHandle" ∧ (parseMethodDescriptor yX4_run.desc).map (fun d => d.parameters.length) = some 0 := by decide +kernel
set_option maxHeartbeats 4000000 in
set_option maxRecDepth 100000 in
theorem w_X4_run_L42 {D : va_G} {ad : Nat → Nat} (l : Launch) {p : Program} {e : Env} {s : State} {mm : MethodId} {args : Array Value} {below : List Frame} {meth : Method} {c : Code} {A : Nat → Prop} {V : vE} (B : Cx p mm c cX4_run 3 s args wsX4_run RX4 meth (some .int) D) (hE : nv V A s s.heap) (htab : ∀ x ∈ c.exceptionTable.toList, False) (hl0 : l.stackTraces = false) (z : ((Nat × Int32) × vS)) : ∀ (n : Nat) (n2 : Nat) (v1 : Int32) (S : vS) (H : Heap) (locs : List Loc) (ls : Array Slot), n2 ≤ 60 → n2 + n = 61 → Wd D 158 (cC D ad) ad A s.heap S H locs → lv_has ls 3 [(2, .int (nI n2)), (1, .int v1), (0, .ref (ad jO))] → ls.size = 3 → z = x_X4_run_L42 n S n2 v1 → W p l e (rmX 7 1) s mm args below meth c H locs 0 0 (vx_MQ below (va_Qi (fun (r : Int32) (S1 : vS) => ((0, r), S1) = z) (bW D 158 (cC D ad) ad A) A) (xX D 158 (cC D ad) ad A (pxS (z))) args s 1 6 A) (F0 mm 42 ls []) := by
  have hx := B.1.1
  have hb := B.1.2.1
  have hin_X4 : ∀ w ∈ wsX40, w ∈ wsX4_run := fun w h => List.mem_cons_of_mem _ (List.mem_append_left _ (List.mem_append_left _ (List.mem_append_left _ (List.mem_append_left _ (List.mem_append_left _ (List.mem_append_right _ h))))))
  have hat_70 : ∀ w ∈ (vx_atS RX4 70 "java/lang/IllegalArgumentException" xuE).filter goodWord, w ∈ wsX4_run := fun w h => List.mem_cons_of_mem _ (List.mem_append_right _ h)
  have k_10 := B.1.2.2.2.2 (.fieldLink RX4 10 "JointLoans" "group" "LJointLoans$Group;") (by decide +kernel)
  have k_22 := B.1.2.2.2.2 (.fieldLink RX4 22 "JointLoans" "history" "LJointLoans$History;") (by decide +kernel)
  have k_29 := B.1.2.2.2.2 (.fieldLink RX4 29 "JointLoans" "text" "LJointLoans$OrderText;") (by decide +kernel)
  have ki_X1 := B.1.2.2.2.2 (.initialized RX1) (by decide +kernel)
  have ki_X3 := B.1.2.2.2.2 (.initialized RX3) (by decide +kernel)
  have kn_X1_keep := B.1.2.2.2.2 (.instanceMethod yX1_keep) (by decide +kernel)
  have kn_X3_clear := B.1.2.2.2.2 (.instanceMethod yX3_clear) (by decide +kernel)
  have kn_X3_readAll := B.1.2.2.2.2 (.instanceMethod yX3_readAll) (by decide +kernel)
  have kn_X3_readMark := B.1.2.2.2.2 (.instanceMethod yX3_readMark) (by decide +kernel)
  have kn_X3_readOrder := B.1.2.2.2.2 (.instanceMethod yX3_readOrder) (by decide +kernel)
  have kn_X3_restart := B.1.2.2.2.2 (.instanceMethod yX3_restart) (by decide +kernel)
  have kv_X1_keep := B.1.2.2.2.2 (.selects RX1 yX1_keep yX1_keep) (by decide +kernel)
  have kv_X3_clear := B.1.2.2.2.2 (.selects RX3 yX3_clear yX3_clear) (by decide +kernel)
  have kv_X3_readAll := B.1.2.2.2.2 (.selects RX3 yX3_readAll yX3_readAll) (by decide +kernel)
  have kv_X3_readMark := B.1.2.2.2.2 (.selects RX3 yX3_readMark yX3_readMark) (by decide +kernel)
  have kv_X3_readOrder := B.1.2.2.2.2 (.selects RX3 yX3_readOrder yX3_readOrder) (by decide +kernel)
  have kv_X3_restart := B.1.2.2.2.2 (.selects RX3 yX3_restart yX3_restart) (by decide +kernel)
  have kx_66 := B.1.2.2.2.2 (.classLink RX4 66 "java/lang/IllegalArgumentException") (by decide +kernel)
  have ky_3 := B.1.2.2.2.2 (.initialized "java/lang/IllegalArgumentException") (by decide +kernel)
  intro n
  induction n with
  | zero =>
    intro n2 v1 S H locs ls hle hsum
    omega
  | succ n ih =>
    intro n2 v1 S H locs ls hle hsum hW hl hls zk
    have zk := zk.trans (x_X4_run_L42.eq_2 _ _ _ _ )
    refine lv_iload_n hx hb dX4_run_42 rfl (lv_at hl 0 rfl) ?_
    refine lv_bipush (v := 60) hx hb dX4_run_43 (by decide) ?_
    refine lv_icmp_ge (tgt := 92) hx hb dX4_run_45 (by decide) (fun c_45 => ?_) (fun c_45 => ?_)
    · have zk := zk.trans (if_pos c_45)
      refine lv_aload_n hx hb dX4_run_92 rfl (lv_at hl 2 rfl) ?_
      refine x_get B hW hqj cC_j cls4 hin_X4 3 (by decide) (v := .ref (ad tO)) rfl k_29 dX4_run_93 ?_
      refine x_callv hW (x_runVN B hW (As := []) (rest := []) (host := RX4) hqt cC_t cls3 (c_X3_clear (D := D) (ad := ad) l _ S) ⟨va_cnB 0 B.1.2.2.2.2 gX4_run_X3_clear_n168 rfl rfl rfl (B.2.1.2 _ nl_X4_168) ki_X3 hd_X3_clear.2 ⟨Nat.le_of_ble_eq_true rfl, Nat.le_of_ble_eq_true rfl⟩, kn_X3_clear, kv_X3_clear⟩ rfl hls (Nat.le_of_ble_eq_true rfl) dX4_run_96 ⟨Nat.le_of_ble_eq_true rfl, Nat.le_of_ble_eq_true rfl⟩) (fun S_96 H locs he hW => ?_)
      have he_96 := he
      have zk := nm_at zk he_96
      refine lv_iload_n hx hb dX4_run_99 rfl (lv_at hl 1 rfl) ?_
      exact x_end ⟨Nat.le_of_ble_eq_true rfl, Nat.le_of_ble_eq_true rfl⟩ (x_iret B hW zk.symm dX4_run_100)
    · have zk := zk.trans (if_neg c_45)
      have hb_c_45 : n2 < 60 := nI_of_nle (by decide) c_45 (by omega)
      refine lv_aload_n hx hb dX4_run_48 rfl (lv_at hl 2 rfl) ?_
      refine x_get B hW hqj cC_j cls4 hin_X4 3 (by decide) (v := .ref (ad tO)) rfl k_29 dX4_run_49 ?_
      refine x_calli hW (x_runVNE B hW hE (As := []) (rest := []) (host := RX4) hqt cC_t cls3 (c_X3_readOrder (D := D) (ad := ad) (V := V) l _ S) ⟨va_cnB 0 B.1.2.2.2.2 gX4_run_X3_readOrder_n182 rfl rfl rfl (B.2.1.2 _ nl_X4_182) ki_X3 hd_X3_readOrder.2 ⟨Nat.le_of_ble_eq_true rfl, Nat.le_of_ble_eq_true rfl⟩, kn_X3_readOrder, kv_X3_readOrder⟩ rfl hls (Nat.le_of_ble_eq_true rfl) dX4_run_52 ⟨Nat.le_of_ble_eq_true rfl, Nat.le_of_ble_eq_true rfl⟩) (fun r_52 S_52 H locs he hW => ?_)
      obtain ⟨hr_52, hz_52⟩ := he
      have zk := nmp_at zk hr_52
      have he_52 : S_52 = (x_X3_readOrder S).2 := by rw [← hr_52]
      refine lv_if_eq (tgt := 92) hx hb dX4_run_55 (by decide) (fun c_55 => ?_) (fun c_55 => ?_)
      · have zk := zk.trans (if_pos c_55)
        refine lv_aload_n hx hb dX4_run_92 rfl (lv_at hl 2 rfl) ?_
        refine x_get B hW hqj cC_j cls4 hin_X4 3 (by decide) (v := .ref (ad tO)) rfl k_29 dX4_run_93 ?_
        refine x_callv hW (x_runVN B hW (As := []) (rest := []) (host := RX4) hqt cC_t cls3 (c_X3_clear (D := D) (ad := ad) l _ S_52) ⟨va_cnB 0 B.1.2.2.2.2 gX4_run_X3_clear_n168 rfl rfl rfl (B.2.1.2 _ nl_X4_168) ki_X3 hd_X3_clear.2 ⟨Nat.le_of_ble_eq_true rfl, Nat.le_of_ble_eq_true rfl⟩, kn_X3_clear, kv_X3_clear⟩ rfl hls (Nat.le_of_ble_eq_true rfl) dX4_run_96 ⟨Nat.le_of_ble_eq_true rfl, Nat.le_of_ble_eq_true rfl⟩) (fun S_96 H locs he hW => ?_)
        have he_96 := he
        have zk := nm_at zk he_96
        refine lv_iload_n hx hb dX4_run_99 rfl (lv_at hl 1 rfl) ?_
        exact x_end ⟨Nat.le_of_ble_eq_true rfl, Nat.le_of_ble_eq_true rfl⟩ (x_iret B hW zk.symm dX4_run_100)
      · have zk := zk.trans (if_neg c_55)
        refine lv_aload_n hx hb dX4_run_58 rfl (lv_at hl 2 rfl) ?_
        refine x_calli hW (x_runV B hW (As := []) (rest := []) hqj cC_j cls4 (c_X4_carryOut (D := D) (ad := ad) l _ S_52) (cwV 0 B.1.2.2.2.2 gX4_run_X4_carryOut rfl rfl rfl hd_X4_carryOut ⟨Nat.le_of_ble_eq_true rfl, Nat.le_of_ble_eq_true rfl⟩) rfl hls (Nat.le_of_ble_eq_true rfl) dX4_run_59 ⟨Nat.le_of_ble_eq_true rfl, Nat.le_of_ble_eq_true rfl⟩) (fun r_59 S_59 H locs he hW => ?_)
        obtain ⟨hr_59, hz_59⟩ := he
        have zk := nmp_at zk hr_59
        have he_59 : S_59 = (x_X4_carryOut S_52).2 := by rw [← hr_59]
        refine lv_if_ne (tgt := 68) hx hb dX4_run_62 (by decide) (fun c_62 => ?_) (fun c_62 => ?_)
        · have zk := zk.trans (if_neg c_62)
          obtain ⟨x_68, ex_68⟩ : ∃ y : Int32, y = v1 + 1 := ⟨_, rfl⟩
          have zk := nm_at zk ex_68
          refine lv_iinc (v := x_68) (lv' := [(1, .int x_68), (2, .int (nI n2)), (0, .ref (ad jO))]) hx hb dX4_run_68 hl (k := 1) rfl (by rw [ex_68]; rfl) (by decide) rfl (fun ls hl => ?_)
          have hls := hl.1
          refine lv_aload_n hx hb dX4_run_71 rfl (lv_at hl 2 rfl) ?_
          refine x_get B hW hqj cC_j cls4 hin_X4 3 (by decide) (v := .ref (ad tO)) rfl k_29 dX4_run_72 ?_
          refine lv_bipush (v := 59) hx hb dX4_run_75 (by decide) ?_
          refine x_calli hW (x_runVN B hW (As := [.int 59]) (rest := []) (host := RX4) hqt cC_t cls3 (c_X3_readMark (D := D) (ad := ad) l _ S_59 59) ⟨va_cnB 1 B.1.2.2.2.2 gX4_run_X3_readMark_n188 rfl rfl rfl (B.2.1.2 _ nl_X4_188) ki_X3 hd_X3_readMark.2 ⟨Nat.le_of_ble_eq_true rfl, Nat.le_of_ble_eq_true rfl⟩, kn_X3_readMark, kv_X3_readMark⟩ rfl hls (Nat.le_of_ble_eq_true rfl) dX4_run_77 ⟨Nat.le_of_ble_eq_true rfl, Nat.le_of_ble_eq_true rfl⟩) (fun r_77 S_77 H locs he hW => ?_)
          obtain ⟨hr_77, hz_77⟩ := he
          have zk := nmp_at zk hr_77
          have he_77 : S_77 = (x_X3_readMark S_59 59).2 := by rw [← hr_77]
          refine lv_if_ne (tgt := 86) hx hb dX4_run_80 (by decide) (fun c_80 => ?_) (fun c_80 => ?_)
          · have zk := zk.trans (if_neg c_80)
            refine lv_iinc (v := (nI (n2 + 1))) (lv' := [(2, .int (nI (n2 + 1))), (1, .int x_68), (0, .ref (ad jO))]) hx hb dX4_run_86 hl (k := 1) rfl (nI_1 _) (by decide) rfl (fun ls hl => ?_)
            have hls := hl.1
            refine lv_goto (tgt := 42) hx hb dX4_run_89 (by decide) ?_
            exact ih ((n2 + 1)) (x_68) S_77 _ _ _ (show (n2 + 1) ≤ 60 by omega) (show (n2 + 1) + n = 61 by omega) hW (lv_sub hl [0, 1, 2] rfl) hls zk
          · have zk := zk.trans (if_pos c_80)
            refine lv_goto (tgt := 92) hx hb dX4_run_83 (by decide) ?_
            refine lv_aload_n hx hb dX4_run_92 rfl (lv_at hl 2 rfl) ?_
            refine x_get B hW hqj cC_j cls4 hin_X4 3 (by decide) (v := .ref (ad tO)) rfl k_29 dX4_run_93 ?_
            refine x_callv hW (x_runVN B hW (As := []) (rest := []) (host := RX4) hqt cC_t cls3 (c_X3_clear (D := D) (ad := ad) l _ S_77) ⟨va_cnB 0 B.1.2.2.2.2 gX4_run_X3_clear_n168 rfl rfl rfl (B.2.1.2 _ nl_X4_168) ki_X3 hd_X3_clear.2 ⟨Nat.le_of_ble_eq_true rfl, Nat.le_of_ble_eq_true rfl⟩, kn_X3_clear, kv_X3_clear⟩ rfl hls (Nat.le_of_ble_eq_true rfl) dX4_run_96 ⟨Nat.le_of_ble_eq_true rfl, Nat.le_of_ble_eq_true rfl⟩) (fun S_96 H locs he hW => ?_)
            have he_96 := he
            have zk := nm_at zk he_96
            refine lv_iload_n hx hb dX4_run_99 rfl (lv_at hl 0 rfl) ?_
            exact x_end ⟨Nat.le_of_ble_eq_true rfl, Nat.le_of_ble_eq_true rfl⟩ (x_iret B hW zk.symm dX4_run_100)
        · have zk := zk.trans (if_pos c_62)
          refine lv_goto (tgt := 92) hx hb dX4_run_65 (by decide) ?_
          refine lv_aload_n hx hb dX4_run_92 rfl (lv_at hl 2 rfl) ?_
          refine x_get B hW hqj cC_j cls4 hin_X4 3 (by decide) (v := .ref (ad tO)) rfl k_29 dX4_run_93 ?_
          refine x_callv hW (x_runVN B hW (As := []) (rest := []) (host := RX4) hqt cC_t cls3 (c_X3_clear (D := D) (ad := ad) l _ S_59) ⟨va_cnB 0 B.1.2.2.2.2 gX4_run_X3_clear_n168 rfl rfl rfl (B.2.1.2 _ nl_X4_168) ki_X3 hd_X3_clear.2 ⟨Nat.le_of_ble_eq_true rfl, Nat.le_of_ble_eq_true rfl⟩, kn_X3_clear, kv_X3_clear⟩ rfl hls (Nat.le_of_ble_eq_true rfl) dX4_run_96 ⟨Nat.le_of_ble_eq_true rfl, Nat.le_of_ble_eq_true rfl⟩) (fun S_96 H locs he hW => ?_)
          have he_96 := he
          have zk := nm_at zk he_96
          refine lv_iload_n hx hb dX4_run_99 rfl (lv_at hl 1 rfl) ?_
          exact x_end ⟨Nat.le_of_ble_eq_true rfl, Nat.le_of_ble_eq_true rfl⟩ (x_iret B hW zk.symm dX4_run_100)
set_option maxHeartbeats 4000000 in
set_option maxRecDepth 100000 in
theorem c_X4_run {D : va_G} {ad : Nat → Nat} {V : vE} (l : Launch) (sz : Nat) (hl0 : l.stackTraces = false) (S : vS) : vx_Met l yX4_run wsX4_run (rmX 7 1) (pE D 158 (cC D ad) ad sz V S [.ref (ad jO)]) (va_Qi (fun (r : Int32) (S1 : vS) => ((0, r), S1) = (x_X4_run S)) (bW D 158 (cC D ad) ad (aW 158 ad sz)) (aW 158 ad sz)) (xX D 158 (cC D ad) ad (aW 158 ad sz) (pxS (x_X4_run S))) 1 6 (aW 158 ad sz) := by
  refine x_metX (own := RX4) (cc := cX4_run) (maxL := 3) (ret := (some .int)) (Qc := fun A => va_Qi (fun (r : Int32) (S1 : vS) => ((0, r), S1) = (x_X4_run S)) (bW D 158 (cC D ad) ad A) A) (XC := fun A => xX D 158 (cC D ad) ad A (pxS (x_X4_run S))) rfl ⟨by decide +kernel, rfl, Nat.le_of_ble_eq_true rfl⟩ ?_
  intro p e s mm args below meth c A ls B htab hW hE hl hls
  have hx := B.1.1
  have hb := B.1.2.1
  have hin_X4 : ∀ w ∈ wsX40, w ∈ wsX4_run := fun w h => List.mem_cons_of_mem _ (List.mem_append_left _ (List.mem_append_left _ (List.mem_append_left _ (List.mem_append_left _ (List.mem_append_left _ (List.mem_append_right _ h))))))
  have hat_70 : ∀ w ∈ (vx_atS RX4 70 "java/lang/IllegalArgumentException" xuE).filter goodWord, w ∈ wsX4_run := fun w h => List.mem_cons_of_mem _ (List.mem_append_right _ h)
  have k_10 := B.1.2.2.2.2 (.fieldLink RX4 10 "JointLoans" "group" "LJointLoans$Group;") (by decide +kernel)
  have k_22 := B.1.2.2.2.2 (.fieldLink RX4 22 "JointLoans" "history" "LJointLoans$History;") (by decide +kernel)
  have k_29 := B.1.2.2.2.2 (.fieldLink RX4 29 "JointLoans" "text" "LJointLoans$OrderText;") (by decide +kernel)
  have ki_X1 := B.1.2.2.2.2 (.initialized RX1) (by decide +kernel)
  have ki_X3 := B.1.2.2.2.2 (.initialized RX3) (by decide +kernel)
  have kn_X1_keep := B.1.2.2.2.2 (.instanceMethod yX1_keep) (by decide +kernel)
  have kn_X3_clear := B.1.2.2.2.2 (.instanceMethod yX3_clear) (by decide +kernel)
  have kn_X3_readAll := B.1.2.2.2.2 (.instanceMethod yX3_readAll) (by decide +kernel)
  have kn_X3_readMark := B.1.2.2.2.2 (.instanceMethod yX3_readMark) (by decide +kernel)
  have kn_X3_readOrder := B.1.2.2.2.2 (.instanceMethod yX3_readOrder) (by decide +kernel)
  have kn_X3_restart := B.1.2.2.2.2 (.instanceMethod yX3_restart) (by decide +kernel)
  have kv_X1_keep := B.1.2.2.2.2 (.selects RX1 yX1_keep yX1_keep) (by decide +kernel)
  have kv_X3_clear := B.1.2.2.2.2 (.selects RX3 yX3_clear yX3_clear) (by decide +kernel)
  have kv_X3_readAll := B.1.2.2.2.2 (.selects RX3 yX3_readAll yX3_readAll) (by decide +kernel)
  have kv_X3_readMark := B.1.2.2.2.2 (.selects RX3 yX3_readMark yX3_readMark) (by decide +kernel)
  have kv_X3_readOrder := B.1.2.2.2.2 (.selects RX3 yX3_readOrder yX3_readOrder) (by decide +kernel)
  have kv_X3_restart := B.1.2.2.2.2 (.selects RX3 yX3_restart yX3_restart) (by decide +kernel)
  have kx_66 := B.1.2.2.2.2 (.classLink RX4 66 "java/lang/IllegalArgumentException") (by decide +kernel)
  have ky_3 := B.1.2.2.2.2 (.initialized "java/lang/IllegalArgumentException") (by decide +kernel)
  have zk := x_X4_run.eq_1 S
  have hl : lv_has ls 3 [(0, .ref (ad jO))] := hl
  refine lv_aload_n hx hb dX4_run_0 rfl (lv_at hl 0 rfl) ?_
  refine x_get B hW hqj cC_j cls4 hin_X4 3 (by decide) (v := .ref (ad tO)) rfl k_29 dX4_run_1 ?_
  refine x_calli hW (x_runVNE B hW hE (As := []) (rest := []) (host := RX4) hqt cC_t cls3 (c_X3_readAll (D := D) (ad := ad) (V := V) l _ S) ⟨va_cnB 0 B.1.2.2.2.2 gX4_run_X3_readAll_n171 rfl rfl rfl (B.2.1.2 _ nl_X4_171) ki_X3 hd_X3_readAll.2 ⟨Nat.le_of_ble_eq_true rfl, Nat.le_of_ble_eq_true rfl⟩, kn_X3_readAll, kv_X3_readAll⟩ rfl hls (Nat.le_of_ble_eq_true rfl) dX4_run_4 ⟨Nat.le_of_ble_eq_true rfl, Nat.le_of_ble_eq_true rfl⟩) (fun r_4 S_4 H locs he hW => ?_)
  obtain ⟨hr_4, hz_4⟩ := he
  have zk := nmp_at zk hr_4
  have he_4 : S_4 = (x_X3_readAll S).2 := by rw [← hr_4]
  refine lv_if_ne (tgt := 20) hx hb dX4_run_7 (by decide) (fun c_7 => ?_) (fun c_7 => ?_)
  · have zk := zk.trans (if_neg c_7)
    refine lv_aload_n hx hb dX4_run_20 rfl (lv_at hl 0 rfl) ?_
    refine x_get B hW hqj cC_j cls4 hin_X4 2 (by decide) (v := .ref (ad hO)) rfl k_22 dX4_run_21 ?_
    refine lv_aload_n hx hb dX4_run_24 rfl (lv_at hl 0 rfl) ?_
    refine x_get B hW hqj cC_j cls4 hin_X4 0 (by decide) (v := .ref (ad (gG 0))) rfl k_10 dX4_run_25 ?_
    refine x_callv hW (x_runVN B hW (As := [.ref (ad (gG 0))]) (rest := []) (host := RX4) hqh cC_h cls1 (c_X1_keep (D := D) (ad := ad) l _ S_4 0 (by decide)) ⟨va_cnB 1 B.1.2.2.2.2 gX4_run_X1_keep_n44 rfl rfl rfl (B.2.1.2 _ nl_X4_44) ki_X1 hd_X1_keep.2 ⟨Nat.le_of_ble_eq_true rfl, Nat.le_of_ble_eq_true rfl⟩, kn_X1_keep, kv_X1_keep⟩ rfl hls (Nat.le_of_ble_eq_true rfl) dX4_run_28 ⟨Nat.le_of_ble_eq_true rfl, Nat.le_of_ble_eq_true rfl⟩) (fun S_28 H locs he hW => ?_)
    have he_28 := he
    have zk := nm_at zk he_28
    refine lv_iconst (v := 0) hx hb dX4_run_31 (by decide) ?_
    refine lv_istore_n (lv' := [(1, .int 0), (0, .ref (ad jO))]) hx hb dX4_run_32 rfl hl (by decide) rfl (fun ls hl => ?_)
    have hls := hl.1
    refine lv_aload_n hx hb dX4_run_33 rfl (lv_at hl 1 rfl) ?_
    refine x_get B hW hqj cC_j cls4 hin_X4 3 (by decide) (v := .ref (ad tO)) rfl k_29 dX4_run_34 ?_
    refine x_callv hW (x_runVN B hW (As := []) (rest := []) (host := RX4) hqt cC_t cls3 (c_X3_restart (D := D) (ad := ad) l _ S_28) ⟨va_cnB 0 B.1.2.2.2.2 gX4_run_X3_restart_n179 rfl rfl rfl (B.2.1.2 _ nl_X4_179) ki_X3 hd_X3_restart.2 ⟨Nat.le_of_ble_eq_true rfl, Nat.le_of_ble_eq_true rfl⟩, kn_X3_restart, kv_X3_restart⟩ rfl hls (Nat.le_of_ble_eq_true rfl) dX4_run_37 ⟨Nat.le_of_ble_eq_true rfl, Nat.le_of_ble_eq_true rfl⟩) (fun S_37 H locs he hW => ?_)
    have he_37 := he
    have zk := nm_at zk he_37
    refine lv_iconst (v := 0) hx hb dX4_run_40 (by decide) ?_
    refine lv_istore_n (lv' := [(2, .int 0), (1, .int 0), (0, .ref (ad jO))]) hx hb dX4_run_41 rfl hl (by decide) rfl (fun ls hl => ?_)
    have hls := hl.1
    exact w_X4_run_L42 l B hE htab hl0  _  (61) (0) (0) S_37 _ _ _ (show 0 ≤ 60 by omega) (show 0 + (61) = 61 by omega) hW (lv_sub hl [0, 1, 2] rfl) hls zk
  · have zk := zk.trans (if_pos c_7)
    exact x_throw B htab hW hE hl0 hls (cls := "java/lang/IllegalArgumentException") (text := "the buffer is not complete orders") (by decide +kernel) (by decide +kernel) kx_66 ky_3 (fun w h => B.1.2.2.2.2 w (hat_70 w h)) (by decide +kernel) (by decide +kernel) (by decide +kernel) dX4_run_10 dX4_run_13 dX4_run_14 dX4_run_16 dX4_run_19 ⟨Nat.le_of_ble_eq_true rfl, Nat.le_of_ble_eq_true rfl, Nat.le_of_ble_eq_true rfl, Nat.le_of_ble_eq_true rfl⟩ ⟨Nat.le_of_ble_eq_true rfl, Nat.le_of_ble_eq_true rfl⟩ ⟨3, 0, by decide, rfl, zk.symm⟩

def x_X4_undo (S : vS) : ((Nat × Int32) × vS) := if 0 < (S hO 2) then nm (x_X1_takeBack S 0) (fun S_28 => ((0, (S_28 hO 2)), S_28)) else ((1, 0), S)
theorem hd_X4_undo : yX4_undo.cls = RX4 ∧ yX4_undo.cls ≠ "java/lang/invoke/MethodHandle" ∧ yX4_undo.cls ≠ "java/lang/invoke/VarHandle" ∧ (parseMethodDescriptor yX4_undo.desc).map (fun d => d.parameters.length) = some 0 := by decide +kernel
set_option maxHeartbeats 4000000 in
set_option maxRecDepth 100000 in
theorem c_X4_undo {D : va_G} {ad : Nat → Nat} {V : vE} (l : Launch) (sz : Nat) (hl0 : l.stackTraces = false) (S : vS) : vx_Met l yX4_undo wsX4_undo (rmX 6 1) (pE D 158 (cC D ad) ad sz V S [.ref (ad jO)]) (va_Qi (fun (r : Int32) (S1 : vS) => ((0, r), S1) = (x_X4_undo S)) (bW D 158 (cC D ad) ad (aW 158 ad sz)) (aW 158 ad sz)) (xX D 158 (cC D ad) ad (aW 158 ad sz) (pxS (x_X4_undo S))) 1 6 (aW 158 ad sz) := by
  refine x_metX (own := RX4) (cc := cX4_undo) (maxL := 1) (ret := (some .int)) (Qc := fun A => va_Qi (fun (r : Int32) (S1 : vS) => ((0, r), S1) = (x_X4_undo S)) (bW D 158 (cC D ad) ad A) A) (XC := fun A => xX D 158 (cC D ad) ad A (pxS (x_X4_undo S))) rfl ⟨by decide +kernel, rfl, Nat.le_of_ble_eq_true rfl⟩ ?_
  intro p e s mm args below meth c A ls B htab hW hE hl hls
  have hx := B.1.1
  have hb := B.1.2.1
  have hin_X1 : ∀ w ∈ wsX10, w ∈ wsX4_undo := fun w h => List.mem_cons_of_mem _ (List.mem_append_left _ (List.mem_append_left _ (List.mem_append_left _ (List.mem_append_right _ h))))
  have hin_X4 : ∀ w ∈ wsX40, w ∈ wsX4_undo := fun w h => List.mem_cons_of_mem _ (List.mem_append_left _ (List.mem_append_left _ (List.mem_append_left _ (List.mem_append_left _ (List.mem_append_right _ h)))))
  have hat_41 : ∀ w ∈ (vx_atS RX4 41 "java/lang/IllegalStateException" xuE).filter goodWord, w ∈ wsX4_undo := fun w h => List.mem_cons_of_mem _ (List.mem_append_right _ h)
  have k_10 := B.1.2.2.2.2 (.fieldLink RX4 10 "JointLoans" "group" "LJointLoans$Group;") (by decide +kernel)
  have k_22 := B.1.2.2.2.2 (.fieldLink RX4 22 "JointLoans" "history" "LJointLoans$History;") (by decide +kernel)
  have ki_X1 := B.1.2.2.2.2 (.initialized RX1) (by decide +kernel)
  have kn_X1_takeBack := B.1.2.2.2.2 (.instanceMethod yX1_takeBack) (by decide +kernel)
  have kv_X1_takeBack := B.1.2.2.2.2 (.selects RX1 yX1_takeBack yX1_takeBack) (by decide +kernel)
  have kx_37 := B.1.2.2.2.2 (.classLink RX4 37 "java/lang/IllegalStateException") (by decide +kernel)
  have ky_1 := B.1.2.2.2.2 (.initialized "java/lang/IllegalStateException") (by decide +kernel)
  have zk := x_X4_undo.eq_1 S
  have hl : lv_has ls 1 [(0, .ref (ad jO))] := hl
  refine lv_aload_n hx hb dX4_undo_0 rfl (lv_at hl 0 rfl) ?_
  refine x_get B hW hqj cC_j cls4 hin_X4 2 (by decide) (v := .ref (ad hO)) rfl k_22 dX4_undo_1 ?_
  refine x_getN B hW hqh cC_h cls1 hin_X1 2 (by decide) (v := .int (S hO 2)) rfl nl_X4_192 dX4_undo_4 ?_
  refine lv_if_gt (tgt := 20) hx hb dX4_undo_7 (by decide) (fun c_7 => ?_) (fun c_7 => ?_)
  · have zk := zk.trans (if_pos c_7)
    refine lv_aload_n hx hb dX4_undo_20 rfl (lv_at hl 0 rfl) ?_
    refine x_get B hW hqj cC_j cls4 hin_X4 2 (by decide) (v := .ref (ad hO)) rfl k_22 dX4_undo_21 ?_
    refine lv_aload_n hx hb dX4_undo_24 rfl (lv_at hl 0 rfl) ?_
    refine x_get B hW hqj cC_j cls4 hin_X4 0 (by decide) (v := .ref (ad (gG 0))) rfl k_10 dX4_undo_25 ?_
    refine x_callv hW (x_runVN B hW (As := [.ref (ad (gG 0))]) (rest := []) (host := RX4) hqh cC_h cls1 (c_X1_takeBack (D := D) (ad := ad) l _ S 0 (by decide)) ⟨va_cnB 1 B.1.2.2.2.2 gX4_undo_X1_takeBack_n197 rfl rfl rfl (B.2.1.2 _ nl_X4_197) ki_X1 hd_X1_takeBack.2 ⟨Nat.le_of_ble_eq_true rfl, Nat.le_of_ble_eq_true rfl⟩, kn_X1_takeBack, kv_X1_takeBack⟩ rfl hls (Nat.le_of_ble_eq_true rfl) dX4_undo_28 ⟨Nat.le_of_ble_eq_true rfl, Nat.le_of_ble_eq_true rfl⟩) (fun S_28 H locs he hW => ?_)
    have he_28 := he
    have zk := nm_at zk he_28
    refine lv_aload_n hx hb dX4_undo_31 rfl (lv_at hl 0 rfl) ?_
    refine x_get B hW hqj cC_j cls4 hin_X4 2 (by decide) (v := .ref (ad hO)) rfl k_22 dX4_undo_32 ?_
    refine x_getN B hW hqh cC_h cls1 hin_X1 2 (by decide) (v := .int (S_28 hO 2)) rfl nl_X4_192 dX4_undo_35 ?_
    exact x_end ⟨Nat.le_of_ble_eq_true rfl, Nat.le_of_ble_eq_true rfl⟩ (x_iret B hW zk.symm dX4_undo_38)
  · have zk := zk.trans (if_neg c_7)
    exact x_throw B htab hW hE hl0 hls (cls := "java/lang/IllegalStateException") (text := "no state is saved") (by decide +kernel) (by decide +kernel) kx_37 ky_1 (fun w h => B.1.2.2.2.2 w (hat_41 w h)) (by decide +kernel) (by decide +kernel) (by decide +kernel) dX4_undo_10 dX4_undo_13 dX4_undo_14 dX4_undo_16 dX4_undo_19 ⟨Nat.le_of_ble_eq_true rfl, Nat.le_of_ble_eq_true rfl, Nat.le_of_ble_eq_true rfl, Nat.le_of_ble_eq_true rfl⟩ ⟨Nat.le_of_ble_eq_true rfl, Nat.le_of_ble_eq_true rfl⟩ ⟨1, 0, by decide, rfl, zk.symm⟩

def x_X4_propertyOf (S : vS) (k : Nat) (p2 : Int32) : Int32 := if p2 = 11 then nm (x_X0_owedTo S 0 k) (fun r_11 => r_11) else nm (x_X2_property S 0 k p2) (fun r_19 => r_19)
theorem hd_X4_propertyOf : yX4_propertyOf.cls = RX4 ∧ yX4_propertyOf.cls ≠ "java/lang/invoke/MethodHandle" ∧ yX4_propertyOf.cls ≠ "java/lang/invoke/VarHandle" ∧ (parseMethodDescriptor yX4_propertyOf.desc).map (fun d => d.parameters.length) = some 2 := by decide +kernel
set_option maxHeartbeats 4000000 in
set_option maxRecDepth 100000 in
theorem c_X4_propertyOf {D : va_G} {ad : Nat → Nat} (l : Launch) (sz : Nat) (S : vS) (k : Nat) (p2 : Int32) (hk : k < 8) : Met l yX4_propertyOf wsX4_propertyOf (rmD 3) (pW D 158 (cC D ad) ad sz S [.ref (ad jO), .ref (ad (gM 0 k)), .int p2]) (va_Qi (fun (r : Int32) (S1 : vS) => r = (x_X4_propertyOf S k p2) ∧ S1 = S) (bW D 158 (cC D ad) ad (aW 158 ad sz)) (aW 158 ad sz)) 0 0 (aW 158 ad sz) := by
  refine x_met (own := RX4) (cc := cX4_propertyOf) (maxL := 3) (ret := (some .int)) (Qc := fun A => va_Qi (fun (r : Int32) (S1 : vS) => r = (x_X4_propertyOf S k p2) ∧ S1 = S) (bW D 158 (cC D ad) ad A) A) rfl ⟨by decide +kernel, rfl, Nat.le_of_ble_eq_true rfl⟩ ?_
  intro p e s mm args below meth c A ls B hW hl hls
  have hx := B.1.1
  have hb := B.1.2.1
  have hin_X4 : ∀ w ∈ wsX40, w ∈ wsX4_propertyOf := fun w h => List.mem_cons_of_mem _ (List.mem_append_left _ (List.mem_append_left _ (List.mem_append_right _ h)))
  have k_10 := B.1.2.2.2.2 (.fieldLink RX4 10 "JointLoans" "group" "LJointLoans$Group;") (by decide +kernel)
  have ki_X0 := B.1.2.2.2.2 (.initialized RX0) (by decide +kernel)
  have ki_X2 := B.1.2.2.2.2 (.initialized RX2) (by decide +kernel)
  have kn_X0_owedTo := B.1.2.2.2.2 (.instanceMethod yX0_owedTo) (by decide +kernel)
  have kn_X2_property := B.1.2.2.2.2 (.instanceMethod yX2_property) (by decide +kernel)
  have kv_X0_owedTo := B.1.2.2.2.2 (.selects RX0 yX0_owedTo yX0_owedTo) (by decide +kernel)
  have kv_X2_property := B.1.2.2.2.2 (.selects RX2 yX2_property yX2_property) (by decide +kernel)
  have zk := x_X4_propertyOf.eq_1 S k p2
  have hl : lv_has ls 3 [(0, .ref (ad jO)), (1, .ref (ad (gM 0 k))), (2, .int p2)] := hl
  refine lv_iload_n hx hb dX4_propertyOf_0 rfl (lv_at hl 2 rfl) ?_
  refine lv_bipush (v := 11) hx hb dX4_propertyOf_1 (by decide) ?_
  refine lv_icmp_ne (tgt := 17) hx hb dX4_propertyOf_3 (by decide) (fun c_3 => ?_) (fun c_3 => ?_)
  · have zk := zk.trans (if_neg c_3)
    refine lv_aload_n hx hb dX4_propertyOf_17 rfl (lv_at hl 1 rfl) ?_
    refine lv_iload_n hx hb dX4_propertyOf_18 rfl (lv_at hl 2 rfl) ?_
    refine x_calli hW (x_runVN B hW (As := [.int p2]) (rest := []) (host := RX4) (hqM (by decide) hk) (cC_M (by decide) hk) cls2 (c_X2_property (D := D) (ad := ad) l _ S 0 k p2 (by decide) hk) ⟨va_cnB 1 B.1.2.2.2.2 gX4_propertyOf_X2_property_n285 rfl rfl rfl (B.2.1.2 _ nl_X4_285) ki_X2 hd_X2_property.2 ⟨Nat.le_of_ble_eq_true rfl, Nat.le_of_ble_eq_true rfl⟩, kn_X2_property, kv_X2_property⟩ rfl hls (Nat.le_of_ble_eq_true rfl) dX4_propertyOf_19 ⟨Nat.zero_le _, Nat.zero_le _⟩) (fun r_19 S_19 H locs he hW => ?_)
    obtain ⟨hr_19, hs⟩ := he
    rw [hs] at hW
    have zk := nm_at zk hr_19
    exact x_iret B hW ⟨zk.symm, rfl⟩ dX4_propertyOf_22
  · have zk := zk.trans (if_pos c_3)
    refine lv_aload_n hx hb dX4_propertyOf_6 rfl (lv_at hl 0 rfl) ?_
    refine x_get B hW hqj cC_j cls4 hin_X4 0 (by decide) (v := .ref (ad (gG 0))) rfl k_10 dX4_propertyOf_7 ?_
    refine lv_aload_n hx hb dX4_propertyOf_10 rfl (lv_at hl 1 rfl) ?_
    refine x_calli hW (x_runVN B hW (As := [.ref (ad (gM 0 k))]) (rest := []) (host := RX4) (hqG (by decide)) (cC_G (by decide)) cls0 (c_X0_owedTo (D := D) (ad := ad) l _ S 0 k (by decide) hk) ⟨va_cnB 1 B.1.2.2.2.2 gX4_propertyOf_X0_owedTo_n282 rfl rfl rfl (B.2.1.2 _ nl_X4_282) ki_X0 hd_X0_owedTo.2 ⟨Nat.le_of_ble_eq_true rfl, Nat.le_of_ble_eq_true rfl⟩, kn_X0_owedTo, kv_X0_owedTo⟩ rfl hls (Nat.le_of_ble_eq_true rfl) dX4_propertyOf_11 ⟨Nat.zero_le _, Nat.zero_le _⟩) (fun r_11 S_11 H locs he hW => ?_)
    obtain ⟨hr_11, hs⟩ := he
    rw [hs] at hW
    have zk := nm_at zk hr_11
    refine lv_goto (tgt := 22) hx hb dX4_propertyOf_14 (by decide) ?_
    exact x_iret B hW ⟨zk.symm, rfl⟩ dX4_propertyOf_22

def x_X4_member (S : vS) (p1 : Int32) (p2 : Int32) : (Nat × Int32) := tbq 0 (x_X4_memberOrThrow S p1) (fun k_2 => if p2 < 0 then (3, 0) else if p2 < 14 then nm (x_X4_propertyOf S k_2 p2) (fun r_29 => (0, r_29)) else (3, 0))
theorem hd_X4_member : yX4_member.cls = RX4 ∧ yX4_member.cls ≠ "java/lang/invoke/MethodHandle" ∧ yX4_member.cls ≠ "java/lang/invoke/VarHandle" ∧ (parseMethodDescriptor yX4_member.desc).map (fun d => d.parameters.length) = some 2 := by decide +kernel
set_option maxHeartbeats 4000000 in
set_option maxRecDepth 100000 in
theorem c_X4_member {D : va_G} {ad : Nat → Nat} {V : vE} (l : Launch) (sz : Nat) (hl0 : l.stackTraces = false) (S : vS) (p1 : Int32) (p2 : Int32) : vx_Met l yX4_member wsX4_member (rmX 7 2) (pE D 158 (cC D ad) ad sz V S [.ref (ad jO), .int p1, .int p2]) (va_Qi (fun (r : Int32) (S1 : vS) => (0, r) = (x_X4_member S p1 p2) ∧ S1 = S) (bW D 158 (cC D ad) ad (aW 158 ad sz)) (aW 158 ad sz)) (xX D 158 (cC D ad) ad (aW 158 ad sz) (pxP (x_X4_member S p1 p2) S)) 2 12 (aW 158 ad sz) := by
  refine x_metX (own := RX4) (cc := cX4_member) (maxL := 4) (ret := (some .int)) (Qc := fun A => va_Qi (fun (r : Int32) (S1 : vS) => (0, r) = (x_X4_member S p1 p2) ∧ S1 = S) (bW D 158 (cC D ad) ad A) A) (XC := fun A => xX D 158 (cC D ad) ad A (pxP (x_X4_member S p1 p2) S)) rfl ⟨by decide +kernel, rfl, Nat.le_of_ble_eq_true rfl⟩ ?_
  intro p e s mm args below meth c A ls B htab hW hE hl hls
  have hx := B.1.1
  have hb := B.1.2.1
  have hat_70 : ∀ w ∈ (vx_atS RX4 70 "java/lang/IllegalArgumentException" xuE).filter goodWord, w ∈ wsX4_member := fun w h => List.mem_cons_of_mem _ (List.mem_append_left _ (List.mem_append_right _ h))
  have kx_66 := B.1.2.2.2.2 (.classLink RX4 66 "java/lang/IllegalArgumentException") (by decide +kernel)
  have ky_3 := B.1.2.2.2.2 (.initialized "java/lang/IllegalArgumentException") (by decide +kernel)
  have zk := x_X4_member.eq_1 S p1 p2
  have hl : lv_has ls 4 [(0, .ref (ad jO)), (1, .int p1), (2, .int p2)] := hl
  refine lv_aload_n hx hb dX4_member_0 rfl (lv_at hl 0 rfl) ?_
  refine lv_iload_n hx hb dX4_member_1 rfl (lv_at hl 1 rfl) ?_
  refine x_xcallq B htab hW (x_runVX B hW hE (As := [.int p1]) (rest := []) hqj cC_j cls4 (c_X4_memberOrThrow (D := D) (ad := ad) (V := V) l _ hl0 S p1) (cwV 1 B.1.2.2.2.2 gX4_member_X4_memberOrThrow rfl rfl rfl hd_X4_memberOrThrow ⟨Nat.le_of_ble_eq_true rfl, Nat.le_of_ble_eq_true rfl⟩) rfl hls (Nat.le_of_ble_eq_true rfl) dX4_member_2 ⟨Nat.le_of_ble_eq_true rfl, Nat.le_of_ble_eq_true rfl⟩) ⟨Nat.le_of_ble_eq_true rfl, Nat.le_of_ble_eq_true rfl⟩ (fun E S1 ⟨⟨k, v, hk, hn, he⟩, hs⟩ => ⟨⟨k, _, hk, hn, (tbq_ex zk he hk).symm⟩, hs⟩) (fun r_2 S_2 H locs he hW => ?_)
  obtain ⟨⟨k_2, hr, he_2, hbk_2⟩, hs⟩ := he
  rw [hs] at hW
  subst hr
  have zk := tbq_ok zk he_2
  refine W.eq (g2 := F0 mm 5 ls (.ref (ad (gM 0 k_2)) :: [])) rfl ?_
  refine lv_astore_n (lv' := [(3, .ref (ad (gM 0 k_2))), (0, .ref (ad jO)), (1, .int p1), (2, .int p2)]) hx hb dX4_member_5 rfl hl (by decide) rfl (fun ls hl => ?_)
  have hls := hl.1
  refine lv_iload_n hx hb dX4_member_6 rfl (lv_at hl 3 rfl) ?_
  refine lv_if_lt (tgt := 16) hx hb dX4_member_7 (by decide) (fun c_7 => ?_) (fun c_7 => ?_)
  · have zk := zk.trans (if_pos c_7)
    exact x_throw B htab hW hE hl0 hls (cls := "java/lang/IllegalArgumentException") (text := "there is no such property") (by decide +kernel) (by decide +kernel) kx_66 ky_3 (fun w h => B.1.2.2.2.2 w (hat_70 w h)) (by decide +kernel) (by decide +kernel) (by decide +kernel) dX4_member_16 dX4_member_19 dX4_member_20 dX4_member_22 dX4_member_25 ⟨Nat.le_of_ble_eq_true rfl, Nat.le_of_ble_eq_true rfl, Nat.le_of_ble_eq_true rfl, Nat.le_of_ble_eq_true rfl⟩ ⟨Nat.le_of_ble_eq_true rfl, Nat.le_of_ble_eq_true rfl⟩ ⟨⟨3, 0, by decide, rfl, zk.symm⟩, rfl⟩
  · have zk := zk.trans (if_neg c_7)
    refine lv_iload_n hx hb dX4_member_10 rfl (lv_at hl 3 rfl) ?_
    refine lv_bipush (v := 14) hx hb dX4_member_11 (by decide) ?_
    refine lv_icmp_lt (tgt := 26) hx hb dX4_member_13 (by decide) (fun c_13 => ?_) (fun c_13 => ?_)
    · have zk := zk.trans (if_pos c_13)
      refine lv_aload_n hx hb dX4_member_26 rfl (lv_at hl 1 rfl) ?_
      refine lv_aload_n hx hb dX4_member_27 rfl (lv_at hl 0 rfl) ?_
      refine lv_iload_n hx hb dX4_member_28 rfl (lv_at hl 3 rfl) ?_
      refine x_calli hW (x_runV B hW (As := [.ref (ad (gM 0 k_2)), .int p2]) (rest := []) hqj cC_j cls4 (c_X4_propertyOf (D := D) (ad := ad) l _ S k_2 p2 hbk_2) (cwV 2 B.1.2.2.2.2 gX4_member_X4_propertyOf rfl rfl rfl hd_X4_propertyOf ⟨Nat.le_of_ble_eq_true rfl, Nat.le_of_ble_eq_true rfl⟩) rfl hls (Nat.le_of_ble_eq_true rfl) dX4_member_29 ⟨Nat.le_of_ble_eq_true rfl, Nat.le_of_ble_eq_true rfl⟩) (fun r_29 S_29 H locs he hW => ?_)
      obtain ⟨hr_29, hs⟩ := he
      rw [hs] at hW
      have zk := nm_at zk hr_29
      exact x_end ⟨Nat.le_of_ble_eq_true rfl, Nat.le_of_ble_eq_true rfl⟩ (x_iret B hW ⟨zk.symm, rfl⟩ dX4_member_32)
    · have zk := zk.trans (if_neg c_13)
      exact x_throw B htab hW hE hl0 hls (cls := "java/lang/IllegalArgumentException") (text := "there is no such property") (by decide +kernel) (by decide +kernel) kx_66 ky_3 (fun w h => B.1.2.2.2.2 w (hat_70 w h)) (by decide +kernel) (by decide +kernel) (by decide +kernel) dX4_member_16 dX4_member_19 dX4_member_20 dX4_member_22 dX4_member_25 ⟨Nat.le_of_ble_eq_true rfl, Nat.le_of_ble_eq_true rfl, Nat.le_of_ble_eq_true rfl, Nat.le_of_ble_eq_true rfl⟩ ⟨Nat.le_of_ble_eq_true rfl, Nat.le_of_ble_eq_true rfl⟩ ⟨⟨3, 0, by decide, rfl, zk.symm⟩, rfl⟩

def x_X4_owes (S : vS) (p1 : Int32) (p2 : Int32) : (Nat × Int32) := tbq 0 (x_X4_memberOrThrow S p1) (fun k_2 => tbq 0 (x_X4_memberOrThrow S p2) (fun k_8 => (0, (S (gD 0 k_2) k_8))))
theorem hd_X4_owes : yX4_owes.cls = RX4 ∧ yX4_owes.cls ≠ "java/lang/invoke/MethodHandle" ∧ yX4_owes.cls ≠ "java/lang/invoke/VarHandle" ∧ (parseMethodDescriptor yX4_owes.desc).map (fun d => d.parameters.length) = some 2 := by decide +kernel
set_option maxHeartbeats 4000000 in
set_option maxRecDepth 100000 in
theorem c_X4_owes {D : va_G} {ad : Nat → Nat} {V : vE} (l : Launch) (sz : Nat) (hl0 : l.stackTraces = false) (S : vS) (p1 : Int32) (p2 : Int32) : vx_Met l yX4_owes wsX4_owes (rmX 7 2) (pE D 158 (cC D ad) ad sz V S [.ref (ad jO), .int p1, .int p2]) (va_Qi (fun (r : Int32) (S1 : vS) => (0, r) = (x_X4_owes S p1 p2) ∧ S1 = S) (bW D 158 (cC D ad) ad (aW 158 ad sz)) (aW 158 ad sz)) (xX D 158 (cC D ad) ad (aW 158 ad sz) (pxP (x_X4_owes S p1 p2) S)) 2 12 (aW 158 ad sz) := by
  refine x_metX (own := RX4) (cc := cX4_owes) (maxL := 5) (ret := (some .int)) (Qc := fun A => va_Qi (fun (r : Int32) (S1 : vS) => (0, r) = (x_X4_owes S p1 p2) ∧ S1 = S) (bW D 158 (cC D ad) ad A) A) (XC := fun A => xX D 158 (cC D ad) ad A (pxP (x_X4_owes S p1 p2) S)) rfl ⟨by decide +kernel, rfl, Nat.le_of_ble_eq_true rfl⟩ ?_
  intro p e s mm args below meth c A ls B htab hW hE hl hls
  have hx := B.1.1
  have hb := B.1.2.1
  have hin_X2 : ∀ w ∈ wsX20, w ∈ wsX4_owes := fun w h => List.mem_cons_of_mem _ (List.mem_append_left _ (List.mem_append_left _ (List.mem_append_left _ (List.mem_append_right _ h))))
  have zk := x_X4_owes.eq_1 S p1 p2
  have hl : lv_has ls 5 [(0, .ref (ad jO)), (1, .int p1), (2, .int p2)] := hl
  refine lv_aload_n hx hb dX4_owes_0 rfl (lv_at hl 0 rfl) ?_
  refine lv_iload_n hx hb dX4_owes_1 rfl (lv_at hl 1 rfl) ?_
  refine x_xcallq B htab hW (x_runVX B hW hE (As := [.int p1]) (rest := []) hqj cC_j cls4 (c_X4_memberOrThrow (D := D) (ad := ad) (V := V) l _ hl0 S p1) (cwV 1 B.1.2.2.2.2 gX4_owes_X4_memberOrThrow rfl rfl rfl hd_X4_memberOrThrow ⟨Nat.le_of_ble_eq_true rfl, Nat.le_of_ble_eq_true rfl⟩) rfl hls (Nat.le_of_ble_eq_true rfl) dX4_owes_2 ⟨Nat.le_of_ble_eq_true rfl, Nat.le_of_ble_eq_true rfl⟩) ⟨Nat.le_of_ble_eq_true rfl, Nat.le_of_ble_eq_true rfl⟩ (fun E S1 ⟨⟨k, v, hk, hn, he⟩, hs⟩ => ⟨⟨k, _, hk, hn, (tbq_ex zk he hk).symm⟩, hs⟩) (fun r_2 S_2 H locs he hW => ?_)
  obtain ⟨⟨k_2, hr, he_2, hbk_2⟩, hs⟩ := he
  rw [hs] at hW
  subst hr
  have zk := tbq_ok zk he_2
  refine W.eq (g2 := F0 mm 5 ls (.ref (ad (gM 0 k_2)) :: [])) rfl ?_
  refine lv_astore_n (lv' := [(3, .ref (ad (gM 0 k_2))), (0, .ref (ad jO)), (1, .int p1), (2, .int p2)]) hx hb dX4_owes_5 rfl hl (by decide) rfl (fun ls hl => ?_)
  have hls := hl.1
  refine lv_aload_n hx hb dX4_owes_6 rfl (lv_at hl 1 rfl) ?_
  refine lv_iload_n hx hb dX4_owes_7 rfl (lv_at hl 3 rfl) ?_
  refine x_xcallq B htab hW (x_runVX B hW hE (As := [.int p2]) (rest := []) hqj cC_j cls4 (c_X4_memberOrThrow (D := D) (ad := ad) (V := V) l _ hl0 S p2) (cwV 1 B.1.2.2.2.2 gX4_owes_X4_memberOrThrow rfl rfl rfl hd_X4_memberOrThrow ⟨Nat.le_of_ble_eq_true rfl, Nat.le_of_ble_eq_true rfl⟩) rfl hls (Nat.le_of_ble_eq_true rfl) dX4_owes_8 ⟨Nat.le_of_ble_eq_true rfl, Nat.le_of_ble_eq_true rfl⟩) ⟨Nat.le_of_ble_eq_true rfl, Nat.le_of_ble_eq_true rfl⟩ (fun E S1 ⟨⟨k, v, hk, hn, he⟩, hs⟩ => ⟨⟨k, _, hk, hn, (tbq_ex zk he hk).symm⟩, hs⟩) (fun r_8 S_8 H locs he hW => ?_)
  obtain ⟨⟨k_8, hr, he_8, hbk_8⟩, hs⟩ := he
  rw [hs] at hW
  subst hr
  have zk := tbq_ok zk he_8
  refine W.eq (g2 := F0 mm 11 ls (.ref (ad (gM 0 k_8)) :: [])) rfl ?_
  refine lv_astore (lv' := [(4, .ref (ad (gM 0 k_8))), (3, .ref (ad (gM 0 k_2))), (0, .ref (ad jO)), (1, .int p1), (2, .int p2)]) hx hb dX4_owes_11 hl (by decide) rfl (fun ls hl => ?_)
  have hls := hl.1
  refine lv_aload_n hx hb dX4_owes_13 rfl (lv_at hl 1 rfl) ?_
  refine x_getN B hW (hqM (by decide) hbk_2) (cC_M (by decide) hbk_2) cls2 hin_X2 15 (by decide) (v := .ref (ad (gD 0 k_2))) rfl nl_X4_205 dX4_owes_14 ?_
  refine lv_aload hx hb dX4_owes_17 (lv_at hl 0 rfl) ?_
  refine x_getN B hW (hqM (by decide) hbk_8) (cC_M (by decide) hbk_8) cls2 hin_X2 0 (by decide) (v := .int (nI k_8)) rfl nl_X4_208 dX4_owes_19 ?_
  refine x_iald B hW (hqD (by decide) hbk_2) (cC_D (by decide) hbk_2) (isN_nI hbk_8 (by decide)) (by decide) (by decide) dX4_owes_22 ?_
  exact x_end ⟨Nat.le_of_ble_eq_true rfl, Nat.le_of_ble_eq_true rfl⟩ (x_iret B hW ⟨zk.symm, rfl⟩ dX4_owes_23)

def x_X4_numberOf (S : vS) (p1 : Int32) : Int32 := if p1 = 15 then (S hO 2) else nm (x_X0_figure S 0 p1) (fun r_21 => r_21)
theorem hd_X4_numberOf : yX4_numberOf.cls = RX4 ∧ yX4_numberOf.cls ≠ "java/lang/invoke/MethodHandle" ∧ yX4_numberOf.cls ≠ "java/lang/invoke/VarHandle" ∧ (parseMethodDescriptor yX4_numberOf.desc).map (fun d => d.parameters.length) = some 1 := by decide +kernel
set_option maxHeartbeats 4000000 in
set_option maxRecDepth 100000 in
theorem c_X4_numberOf {D : va_G} {ad : Nat → Nat} (l : Launch) (sz : Nat) (S : vS) (p1 : Int32) : Met l yX4_numberOf wsX4_numberOf (rmD 3) (pW D 158 (cC D ad) ad sz S [.ref (ad jO), .int p1]) (va_Qi (fun (r : Int32) (S1 : vS) => r = (x_X4_numberOf S p1) ∧ S1 = S) (bW D 158 (cC D ad) ad (aW 158 ad sz)) (aW 158 ad sz)) 0 0 (aW 158 ad sz) := by
  refine x_met (own := RX4) (cc := cX4_numberOf) (maxL := 2) (ret := (some .int)) (Qc := fun A => va_Qi (fun (r : Int32) (S1 : vS) => r = (x_X4_numberOf S p1) ∧ S1 = S) (bW D 158 (cC D ad) ad A) A) rfl ⟨by decide +kernel, rfl, Nat.le_of_ble_eq_true rfl⟩ ?_
  intro p e s mm args below meth c A ls B hW hl hls
  have hx := B.1.1
  have hb := B.1.2.1
  have hin_X1 : ∀ w ∈ wsX10, w ∈ wsX4_numberOf := fun w h => List.mem_cons_of_mem _ (List.mem_append_left _ (List.mem_append_left _ (List.mem_append_right _ h)))
  have hin_X4 : ∀ w ∈ wsX40, w ∈ wsX4_numberOf := fun w h => List.mem_cons_of_mem _ (List.mem_append_left _ (List.mem_append_left _ (List.mem_append_left _ (List.mem_append_right _ h))))
  have k_10 := B.1.2.2.2.2 (.fieldLink RX4 10 "JointLoans" "group" "LJointLoans$Group;") (by decide +kernel)
  have k_22 := B.1.2.2.2.2 (.fieldLink RX4 22 "JointLoans" "history" "LJointLoans$History;") (by decide +kernel)
  have ki_X0 := B.1.2.2.2.2 (.initialized RX0) (by decide +kernel)
  have kn_X0_figure := B.1.2.2.2.2 (.instanceMethod yX0_figure) (by decide +kernel)
  have kv_X0_figure := B.1.2.2.2.2 (.selects RX0 yX0_figure yX0_figure) (by decide +kernel)
  have zk := x_X4_numberOf.eq_1 S p1
  have hl : lv_has ls 2 [(0, .ref (ad jO)), (1, .int p1)] := hl
  refine lv_iload_n hx hb dX4_numberOf_0 rfl (lv_at hl 1 rfl) ?_
  refine lv_bipush (v := 15) hx hb dX4_numberOf_1 (by decide) ?_
  refine lv_icmp_ne (tgt := 16) hx hb dX4_numberOf_3 (by decide) (fun c_3 => ?_) (fun c_3 => ?_)
  · have zk := zk.trans (if_neg c_3)
    refine lv_aload_n hx hb dX4_numberOf_16 rfl (lv_at hl 0 rfl) ?_
    refine x_get B hW hqj cC_j cls4 hin_X4 0 (by decide) (v := .ref (ad (gG 0))) rfl k_10 dX4_numberOf_17 ?_
    refine lv_iload_n hx hb dX4_numberOf_20 rfl (lv_at hl 1 rfl) ?_
    refine x_calli hW (x_runVN B hW (As := [.int p1]) (rest := []) (host := RX4) (hqG (by decide)) (cC_G (by decide)) cls0 (c_X0_figure (D := D) (ad := ad) l _ S 0 p1 (by decide)) ⟨va_cnB 1 B.1.2.2.2.2 gX4_numberOf_X0_figure_n288 rfl rfl rfl (B.2.1.2 _ nl_X4_288) ki_X0 hd_X0_figure.2 ⟨Nat.le_of_ble_eq_true rfl, Nat.le_of_ble_eq_true rfl⟩, kn_X0_figure, kv_X0_figure⟩ rfl hls (Nat.le_of_ble_eq_true rfl) dX4_numberOf_21 ⟨Nat.zero_le _, Nat.zero_le _⟩) (fun r_21 S_21 H locs he hW => ?_)
    obtain ⟨hr_21, hs⟩ := he
    rw [hs] at hW
    have zk := nm_at zk hr_21
    exact x_iret B hW ⟨zk.symm, rfl⟩ dX4_numberOf_24
  · have zk := zk.trans (if_pos c_3)
    refine lv_aload_n hx hb dX4_numberOf_6 rfl (lv_at hl 0 rfl) ?_
    refine x_get B hW hqj cC_j cls4 hin_X4 2 (by decide) (v := .ref (ad hO)) rfl k_22 dX4_numberOf_7 ?_
    refine x_getN B hW hqh cC_h cls1 hin_X1 2 (by decide) (v := .int (S hO 2)) rfl nl_X4_192 dX4_numberOf_10 ?_
    refine lv_goto (tgt := 24) hx hb dX4_numberOf_13 (by decide) ?_
    exact x_iret B hW ⟨zk.symm, rfl⟩ dX4_numberOf_24

def x_X4_count (S : vS) (p1 : Int32) : (Nat × Int32) := if p1 < 0 then (3, 0) else if p1 < 16 then nm (x_X4_numberOf S p1) (fun r_22 => (0, r_22)) else (3, 0)
theorem hd_X4_count : yX4_count.cls = RX4 ∧ yX4_count.cls ≠ "java/lang/invoke/MethodHandle" ∧ yX4_count.cls ≠ "java/lang/invoke/VarHandle" ∧ (parseMethodDescriptor yX4_count.desc).map (fun d => d.parameters.length) = some 1 := by decide +kernel
set_option maxHeartbeats 4000000 in
set_option maxRecDepth 100000 in
theorem c_X4_count {D : va_G} {ad : Nat → Nat} {V : vE} (l : Launch) (sz : Nat) (hl0 : l.stackTraces = false) (S : vS) (p1 : Int32) : vx_Met l yX4_count wsX4_count (rmX 6 1) (pE D 158 (cC D ad) ad sz V S [.ref (ad jO), .int p1]) (va_Qi (fun (r : Int32) (S1 : vS) => (0, r) = (x_X4_count S p1) ∧ S1 = S) (bW D 158 (cC D ad) ad (aW 158 ad sz)) (aW 158 ad sz)) (xX D 158 (cC D ad) ad (aW 158 ad sz) (pxP (x_X4_count S p1) S)) 1 6 (aW 158 ad sz) := by
  refine x_metX (own := RX4) (cc := cX4_count) (maxL := 2) (ret := (some .int)) (Qc := fun A => va_Qi (fun (r : Int32) (S1 : vS) => (0, r) = (x_X4_count S p1) ∧ S1 = S) (bW D 158 (cC D ad) ad A) A) (XC := fun A => xX D 158 (cC D ad) ad A (pxP (x_X4_count S p1) S)) rfl ⟨by decide +kernel, rfl, Nat.le_of_ble_eq_true rfl⟩ ?_
  intro p e s mm args below meth c A ls B htab hW hE hl hls
  have hx := B.1.1
  have hb := B.1.2.1
  have hat_70 : ∀ w ∈ (vx_atS RX4 70 "java/lang/IllegalArgumentException" xuE).filter goodWord, w ∈ wsX4_count := fun w h => List.mem_cons_of_mem _ (List.mem_append_right _ h)
  have kx_66 := B.1.2.2.2.2 (.classLink RX4 66 "java/lang/IllegalArgumentException") (by decide +kernel)
  have ky_3 := B.1.2.2.2.2 (.initialized "java/lang/IllegalArgumentException") (by decide +kernel)
  have zk := x_X4_count.eq_1 S p1
  have hl : lv_has ls 2 [(0, .ref (ad jO)), (1, .int p1)] := hl
  refine lv_iload_n hx hb dX4_count_0 rfl (lv_at hl 1 rfl) ?_
  refine lv_if_lt (tgt := 10) hx hb dX4_count_1 (by decide) (fun c_1 => ?_) (fun c_1 => ?_)
  · have zk := zk.trans (if_pos c_1)
    exact x_throw B htab hW hE hl0 hls (cls := "java/lang/IllegalArgumentException") (text := "there is no such number") (by decide +kernel) (by decide +kernel) kx_66 ky_3 (fun w h => B.1.2.2.2.2 w (hat_70 w h)) (by decide +kernel) (by decide +kernel) (by decide +kernel) dX4_count_10 dX4_count_13 dX4_count_14 dX4_count_16 dX4_count_19 ⟨Nat.le_of_ble_eq_true rfl, Nat.le_of_ble_eq_true rfl, Nat.le_of_ble_eq_true rfl, Nat.le_of_ble_eq_true rfl⟩ ⟨Nat.le_of_ble_eq_true rfl, Nat.le_of_ble_eq_true rfl⟩ ⟨⟨3, 0, by decide, rfl, zk.symm⟩, rfl⟩
  · have zk := zk.trans (if_neg c_1)
    refine lv_iload_n hx hb dX4_count_4 rfl (lv_at hl 1 rfl) ?_
    refine lv_bipush (v := 16) hx hb dX4_count_5 (by decide) ?_
    refine lv_icmp_lt (tgt := 20) hx hb dX4_count_7 (by decide) (fun c_7 => ?_) (fun c_7 => ?_)
    · have zk := zk.trans (if_pos c_7)
      refine lv_aload_n hx hb dX4_count_20 rfl (lv_at hl 0 rfl) ?_
      refine lv_iload_n hx hb dX4_count_21 rfl (lv_at hl 1 rfl) ?_
      refine x_calli hW (x_runV B hW (As := [.int p1]) (rest := []) hqj cC_j cls4 (c_X4_numberOf (D := D) (ad := ad) l _ S p1) (cwV 1 B.1.2.2.2.2 gX4_count_X4_numberOf rfl rfl rfl hd_X4_numberOf ⟨Nat.le_of_ble_eq_true rfl, Nat.le_of_ble_eq_true rfl⟩) rfl hls (Nat.le_of_ble_eq_true rfl) dX4_count_22 ⟨Nat.le_of_ble_eq_true rfl, Nat.le_of_ble_eq_true rfl⟩) (fun r_22 S_22 H locs he hW => ?_)
      obtain ⟨hr_22, hs⟩ := he
      rw [hs] at hW
      have zk := nm_at zk hr_22
      exact x_end ⟨Nat.le_of_ble_eq_true rfl, Nat.le_of_ble_eq_true rfl⟩ (x_iret B hW ⟨zk.symm, rfl⟩ dX4_count_25)
    · have zk := zk.trans (if_neg c_7)
      exact x_throw B htab hW hE hl0 hls (cls := "java/lang/IllegalArgumentException") (text := "there is no such number") (by decide +kernel) (by decide +kernel) kx_66 ky_3 (fun w h => B.1.2.2.2.2 w (hat_70 w h)) (by decide +kernel) (by decide +kernel) (by decide +kernel) dX4_count_10 dX4_count_13 dX4_count_14 dX4_count_16 dX4_count_19 ⟨Nat.le_of_ble_eq_true rfl, Nat.le_of_ble_eq_true rfl, Nat.le_of_ble_eq_true rfl, Nat.le_of_ble_eq_true rfl⟩ ⟨Nat.le_of_ble_eq_true rfl, Nat.le_of_ble_eq_true rfl⟩ ⟨⟨3, 0, by decide, rfl, zk.symm⟩, rfl⟩

def x_X4_setting (S : vS) (p1 : Int32) : (Nat × Int32) := tbq 0 (x_X4_checkSetting S p1) (fun _ => (0, (S (gS 0) p1.toNatClampNeg)))
theorem hd_X4_setting : yX4_setting.cls = RX4 ∧ yX4_setting.cls ≠ "java/lang/invoke/MethodHandle" ∧ yX4_setting.cls ≠ "java/lang/invoke/VarHandle" ∧ (parseMethodDescriptor yX4_setting.desc).map (fun d => d.parameters.length) = some 1 := by decide +kernel
set_option maxHeartbeats 4000000 in
set_option maxRecDepth 100000 in
theorem c_X4_setting {D : va_G} {ad : Nat → Nat} {V : vE} (l : Launch) (sz : Nat) (hl0 : l.stackTraces = false) (S : vS) (p1 : Int32) : vx_Met l yX4_setting wsX4_setting (rmX 7 1) (pE D 158 (cC D ad) ad sz V S [.ref (ad jO), .int p1]) (va_Qi (fun (r : Int32) (S1 : vS) => (0, r) = (x_X4_setting S p1) ∧ S1 = S) (bW D 158 (cC D ad) ad (aW 158 ad sz)) (aW 158 ad sz)) (xX D 158 (cC D ad) ad (aW 158 ad sz) (pxP (x_X4_setting S p1) S)) 1 6 (aW 158 ad sz) := by
  refine x_metX (own := RX4) (cc := cX4_setting) (maxL := 2) (ret := (some .int)) (Qc := fun A => va_Qi (fun (r : Int32) (S1 : vS) => (0, r) = (x_X4_setting S p1) ∧ S1 = S) (bW D 158 (cC D ad) ad A) A) (XC := fun A => xX D 158 (cC D ad) ad A (pxP (x_X4_setting S p1) S)) rfl ⟨by decide +kernel, rfl, Nat.le_of_ble_eq_true rfl⟩ ?_
  intro p e s mm args below meth c A ls B htab hW hE hl hls
  have hx := B.1.1
  have hb := B.1.2.1
  have hin_X0 : ∀ w ∈ wsX00, w ∈ wsX4_setting := fun w h => List.mem_cons_of_mem _ (List.mem_append_left _ (List.mem_append_right _ h))
  have hin_X4 : ∀ w ∈ wsX40, w ∈ wsX4_setting := fun w h => List.mem_cons_of_mem _ (List.mem_append_left _ (List.mem_append_left _ (List.mem_append_right _ h)))
  have k_10 := B.1.2.2.2.2 (.fieldLink RX4 10 "JointLoans" "group" "LJointLoans$Group;") (by decide +kernel)
  have zk := x_X4_setting.eq_1 S p1
  have hl : lv_has ls 2 [(0, .ref (ad jO)), (1, .int p1)] := hl
  refine lv_iload_n hx hb dX4_setting_0 rfl (lv_at hl 1 rfl) ?_
  refine x_xcallv B htab hW (x_runSX B hW hE (As := [.int p1]) (rest := []) (c_X4_checkSetting (D := D) (ad := ad) (V := V) l _ hl0 S p1) (va_cwS 1 B.1.2.2.2.2 gX4_setting_X4_checkSetting rfl rfl rfl hd_X4_checkSetting.2 ⟨Nat.le_of_ble_eq_true rfl, Nat.le_of_ble_eq_true rfl⟩) rfl hls (Nat.le_of_ble_eq_true rfl) dX4_setting_1 ⟨Nat.le_of_ble_eq_true rfl, Nat.le_of_ble_eq_true rfl⟩) ⟨Nat.le_of_ble_eq_true rfl, Nat.le_of_ble_eq_true rfl⟩ (fun E S1 ⟨⟨k, v, hk, hn, he⟩, hs⟩ => ⟨⟨k, _, hk, hn, (tbq_ex zk he hk).symm⟩, hs⟩) (fun S_1 H locs he hW => ?_)
  obtain ⟨he_1, hs⟩ := he
  rw [hs] at hW
  have zk := tbq_ok zk he_1
  refine lv_aload_n hx hb dX4_setting_4 rfl (lv_at hl 0 rfl) ?_
  refine x_get B hW hqj cC_j cls4 hin_X4 0 (by decide) (v := .ref (ad (gG 0))) rfl k_10 dX4_setting_5 ?_
  refine x_getN B hW (hqG (by decide)) (cC_G (by decide)) cls0 hin_X0 1 (by decide) (v := .ref (ad (gS 0))) rfl nl_X4_154 dX4_setting_8 ?_
  refine lv_iload_n hx hb dX4_setting_11 rfl (lv_at hl 1 rfl) ?_
  refine x_iald B hW (hqS (by decide)) (cC_S (by decide)) (isN_var (chk_set he_1) (by decide)) (by decide) (by decide) dX4_setting_12 ?_
  exact x_end ⟨Nat.le_of_ble_eq_true rfl, Nat.le_of_ble_eq_true rfl⟩ (x_iret B hW ⟨zk.symm, rfl⟩ dX4_setting_13)

def x_X4_outcome (S : vS) (p1 : Int32) : Int32 := if p1 = 0 then ((S (gG 1) 9) - (S (gG 0) 9)) else (if p1 = 1 then (S (gG 1) 6) else (if p1 = 2 then nm (x_X0_bankDebts S 1) (fun r_60 => r_60) else (if p1 = 3 then nm (x_X0_debtsAmongMembers S 1) (fun r_68 => r_68) else (nm (x_X0_mostPaidForOthersSince S 1 0) (fun r_80 => r_80)))))
theorem hd_X4_outcome : yX4_outcome.cls = RX4 ∧ yX4_outcome.cls ≠ "java/lang/invoke/MethodHandle" ∧ yX4_outcome.cls ≠ "java/lang/invoke/VarHandle" ∧ (parseMethodDescriptor yX4_outcome.desc).map (fun d => d.parameters.length) = some 1 := by decide +kernel
set_option maxHeartbeats 4000000 in
set_option maxRecDepth 100000 in
theorem c_X4_outcome {D : va_G} {ad : Nat → Nat} (l : Launch) (sz : Nat) (S : vS) (p1 : Int32) : Met l yX4_outcome wsX4_outcome (rmD 2) (pW D 158 (cC D ad) ad sz S [.ref (ad jO), .int p1]) (va_Qi (fun (r : Int32) (S1 : vS) => r = (x_X4_outcome S p1) ∧ S1 = S) (bW D 158 (cC D ad) ad (aW 158 ad sz)) (aW 158 ad sz)) 0 0 (aW 158 ad sz) := by
  refine x_met (own := RX4) (cc := cX4_outcome) (maxL := 2) (ret := (some .int)) (Qc := fun A => va_Qi (fun (r : Int32) (S1 : vS) => r = (x_X4_outcome S p1) ∧ S1 = S) (bW D 158 (cC D ad) ad A) A) rfl ⟨by decide +kernel, rfl, Nat.le_of_ble_eq_true rfl⟩ ?_
  intro p e s mm args below meth c A ls B hW hl hls
  have hx := B.1.1
  have hb := B.1.2.1
  have hin_X0 : ∀ w ∈ wsX00, w ∈ wsX4_outcome := fun w h => List.mem_cons_of_mem _ (List.mem_append_left _ (List.mem_append_right _ h))
  have hin_X4 : ∀ w ∈ wsX40, w ∈ wsX4_outcome := fun w h => List.mem_cons_of_mem _ (List.mem_append_left _ (List.mem_append_left _ (List.mem_append_right _ h)))
  have k_10 := B.1.2.2.2.2 (.fieldLink RX4 10 "JointLoans" "group" "LJointLoans$Group;") (by decide +kernel)
  have k_16 := B.1.2.2.2.2 (.fieldLink RX4 16 "JointLoans" "trial" "LJointLoans$Group;") (by decide +kernel)
  have ki_X0 := B.1.2.2.2.2 (.initialized RX0) (by decide +kernel)
  have kn_X0_bankDebts := B.1.2.2.2.2 (.instanceMethod yX0_bankDebts) (by decide +kernel)
  have kn_X0_debtsAmongMembers := B.1.2.2.2.2 (.instanceMethod yX0_debtsAmongMembers) (by decide +kernel)
  have kn_X0_mostPaidForOthersSince := B.1.2.2.2.2 (.instanceMethod yX0_mostPaidForOthersSince) (by decide +kernel)
  have kv_X0_bankDebts := B.1.2.2.2.2 (.selects RX0 yX0_bankDebts yX0_bankDebts) (by decide +kernel)
  have kv_X0_debtsAmongMembers := B.1.2.2.2.2 (.selects RX0 yX0_debtsAmongMembers yX0_debtsAmongMembers) (by decide +kernel)
  have kv_X0_mostPaidForOthersSince := B.1.2.2.2.2 (.selects RX0 yX0_mostPaidForOthersSince yX0_mostPaidForOthersSince) (by decide +kernel)
  have zk := x_X4_outcome.eq_1 S p1
  have hl : lv_has ls 2 [(0, .ref (ad jO)), (1, .int p1)] := hl
  refine lv_iload_n hx hb dX4_outcome_0 rfl (lv_at hl 1 rfl) ?_
  by_cases c_1_0 : p1 = 0
  · have zk := zk.trans (if_pos c_1_0)
    refine lv_tableIn (off := 31) (tgt := 32) hx hb dX4_outcome_1 (by rw [c_1_0]; decide) (by rw [c_1_0]; decide) (by rw [c_1_0]; rfl) (by decide) ?_
    refine lv_aload_n hx hb dX4_outcome_32 rfl (lv_at hl 0 rfl) ?_
    refine x_get B hW hqj cC_j cls4 hin_X4 1 (by decide) (v := .ref (ad (gG 1))) rfl k_16 dX4_outcome_33 ?_
    refine x_getN B hW (hqG (by decide)) (cC_G (by decide)) cls0 hin_X0 9 (by decide) (v := .int (S (gG 1) 9)) rfl nl_X4_99 dX4_outcome_36 ?_
    refine lv_aload_n hx hb dX4_outcome_39 rfl (lv_at hl 0 rfl) ?_
    refine x_get B hW hqj cC_j cls4 hin_X4 0 (by decide) (v := .ref (ad (gG 0))) rfl k_10 dX4_outcome_40 ?_
    refine x_getN B hW (hqG (by decide)) (cC_G (by decide)) cls0 hin_X0 9 (by decide) (v := .int (S (gG 0) 9)) rfl nl_X4_99 dX4_outcome_43 ?_
    refine lv_isub hx hb dX4_outcome_46 ?_
    exact x_iret B hW ⟨zk.symm, rfl⟩ dX4_outcome_47
  · have zk := zk.trans (if_neg c_1_0)
    by_cases c_1_1 : p1 = 1
    · have zk := zk.trans (if_pos c_1_1)
      refine lv_tableIn (off := 47) (tgt := 48) hx hb dX4_outcome_1 (by rw [c_1_1]; decide) (by rw [c_1_1]; decide) (by rw [c_1_1]; rfl) (by decide) ?_
      refine lv_aload_n hx hb dX4_outcome_48 rfl (lv_at hl 0 rfl) ?_
      refine x_get B hW hqj cC_j cls4 hin_X4 1 (by decide) (v := .ref (ad (gG 1))) rfl k_16 dX4_outcome_49 ?_
      refine x_getN B hW (hqG (by decide)) (cC_G (by decide)) cls0 hin_X0 6 (by decide) (v := .int (S (gG 1) 6)) rfl nl_X4_128 dX4_outcome_52 ?_
      exact x_iret B hW ⟨zk.symm, rfl⟩ dX4_outcome_55
    · have zk := zk.trans (if_neg c_1_1)
      by_cases c_1_2 : p1 = 2
      · have zk := zk.trans (if_pos c_1_2)
        refine lv_tableIn (off := 55) (tgt := 56) hx hb dX4_outcome_1 (by rw [c_1_2]; decide) (by rw [c_1_2]; decide) (by rw [c_1_2]; rfl) (by decide) ?_
        refine lv_aload_n hx hb dX4_outcome_56 rfl (lv_at hl 0 rfl) ?_
        refine x_get B hW hqj cC_j cls4 hin_X4 1 (by decide) (v := .ref (ad (gG 1))) rfl k_16 dX4_outcome_57 ?_
        refine x_calli hW (x_runVN B hW (As := []) (rest := []) (host := RX4) (hqG (by decide)) (cC_G (by decide)) cls0 (c_X0_bankDebts (D := D) (ad := ad) l _ S 1 (by decide)) ⟨va_cnB 0 B.1.2.2.2.2 gX4_outcome_X0_bankDebts_n327 rfl rfl rfl (B.2.1.2 _ nl_X4_327) ki_X0 hd_X0_bankDebts.2 ⟨Nat.le_of_ble_eq_true rfl, Nat.le_of_ble_eq_true rfl⟩, kn_X0_bankDebts, kv_X0_bankDebts⟩ rfl hls (Nat.le_of_ble_eq_true rfl) dX4_outcome_60 ⟨Nat.zero_le _, Nat.zero_le _⟩) (fun r_60 S_60 H locs he hW => ?_)
        obtain ⟨hr_60, hs⟩ := he
        rw [hs] at hW
        have zk := nm_at zk hr_60
        exact x_iret B hW ⟨zk.symm, rfl⟩ dX4_outcome_63
      · have zk := zk.trans (if_neg c_1_2)
        by_cases c_1_3 : p1 = 3
        · have zk := zk.trans (if_pos c_1_3)
          refine lv_tableIn (off := 63) (tgt := 64) hx hb dX4_outcome_1 (by rw [c_1_3]; decide) (by rw [c_1_3]; decide) (by rw [c_1_3]; rfl) (by decide) ?_
          refine lv_aload_n hx hb dX4_outcome_64 rfl (lv_at hl 0 rfl) ?_
          refine x_get B hW hqj cC_j cls4 hin_X4 1 (by decide) (v := .ref (ad (gG 1))) rfl k_16 dX4_outcome_65 ?_
          refine x_calli hW (x_runVN B hW (As := []) (rest := []) (host := RX4) (hqG (by decide)) (cC_G (by decide)) cls0 (c_X0_debtsAmongMembers (D := D) (ad := ad) l _ S 1 (by decide)) ⟨va_cnB 0 B.1.2.2.2.2 gX4_outcome_X0_debtsAmongMembers_n330 rfl rfl rfl (B.2.1.2 _ nl_X4_330) ki_X0 hd_X0_debtsAmongMembers.2 ⟨Nat.le_of_ble_eq_true rfl, Nat.le_of_ble_eq_true rfl⟩, kn_X0_debtsAmongMembers, kv_X0_debtsAmongMembers⟩ rfl hls (Nat.le_of_ble_eq_true rfl) dX4_outcome_68 ⟨Nat.zero_le _, Nat.zero_le _⟩) (fun r_68 S_68 H locs he hW => ?_)
          obtain ⟨hr_68, hs⟩ := he
          rw [hs] at hW
          have zk := nm_at zk hr_68
          exact x_iret B hW ⟨zk.symm, rfl⟩ dX4_outcome_71
        · have zk := zk.trans (if_neg c_1_3)
          have nc_1_0 := lv_neT c_1_0 (a := 0) (by decide)
          have nc_1_1 := lv_neT c_1_1 (a := 1) (by decide)
          have nc_1_2 := lv_neT c_1_2 (a := 2) (by decide)
          have nc_1_3 := lv_neT c_1_3 (a := 3) (by decide)
          have hsw : p1.toInt < 0 ∨ 3 < p1.toInt := by omega
          refine lv_tableOut (tgt := 72) hx hb dX4_outcome_1 hsw (by decide) ?_
          refine lv_aload_n hx hb dX4_outcome_72 rfl (lv_at hl 0 rfl) ?_
          refine x_get B hW hqj cC_j cls4 hin_X4 1 (by decide) (v := .ref (ad (gG 1))) rfl k_16 dX4_outcome_73 ?_
          refine lv_aload_n hx hb dX4_outcome_76 rfl (lv_at hl 0 rfl) ?_
          refine x_get B hW hqj cC_j cls4 hin_X4 0 (by decide) (v := .ref (ad (gG 0))) rfl k_10 dX4_outcome_77 ?_
          refine x_calli hW (x_runVN B hW (As := [.ref (ad (gG 0))]) (rest := []) (host := RX4) (hqG (by decide)) (cC_G (by decide)) cls0 (c_X0_mostPaidForOthersSince (D := D) (ad := ad) l _ S 1 0 (by decide) (by decide)) ⟨va_cnB 1 B.1.2.2.2.2 gX4_outcome_X0_mostPaidForOthersSince_n333 rfl rfl rfl (B.2.1.2 _ nl_X4_333) ki_X0 hd_X0_mostPaidForOthersSince.2 ⟨Nat.le_of_ble_eq_true rfl, Nat.le_of_ble_eq_true rfl⟩, kn_X0_mostPaidForOthersSince, kv_X0_mostPaidForOthersSince⟩ rfl hls (Nat.le_of_ble_eq_true rfl) dX4_outcome_80 ⟨Nat.zero_le _, Nat.zero_le _⟩) (fun r_80 S_80 H locs he hW => ?_)
          obtain ⟨hr_80, hs⟩ := he
          rw [hs] at hW
          have zk := nm_at zk hr_80
          exact x_iret B hW ⟨zk.symm, rfl⟩ dX4_outcome_83

def x_X4_tryWeek (S : vS) (p1 : Int32) : vS := nm (x_X0_copyFrom S 1 0) (fun S_8 => nm (x_X0_letBeAway S_8 1 p1) (fun S_16 => nm (x_X0_endWeek S_16 1) (fun S_23 => S_23)))
theorem hd_X4_tryWeek : yX4_tryWeek.cls = RX4 ∧ yX4_tryWeek.cls ≠ "java/lang/invoke/MethodHandle" ∧ yX4_tryWeek.cls ≠ "java/lang/invoke/VarHandle" ∧ (parseMethodDescriptor yX4_tryWeek.desc).map (fun d => d.parameters.length) = some 1 := by decide +kernel
set_option maxHeartbeats 4000000 in
set_option maxRecDepth 100000 in
theorem c_X4_tryWeek {D : va_G} {ad : Nat → Nat} (l : Launch) (sz : Nat) (S : vS) (p1 : Int32) : Met l yX4_tryWeek wsX4_tryWeek (rmD 4) (pW D 158 (cC D ad) ad sz S [.ref (ad jO), .int p1]) (va_Qv (fun (S1 : vS) => S1 = (x_X4_tryWeek S p1)) (bW D 158 (cC D ad) ad (aW 158 ad sz)) (aW 158 ad sz)) 0 0 (aW 158 ad sz) := by
  refine x_met (own := RX4) (cc := cX4_tryWeek) (maxL := 2) (ret := none) (Qc := fun A => va_Qv (fun (S1 : vS) => S1 = (x_X4_tryWeek S p1)) (bW D 158 (cC D ad) ad A) A) rfl ⟨by decide +kernel, rfl, Nat.le_of_ble_eq_true rfl⟩ ?_
  intro p e s mm args below meth c A ls B hW hl hls
  have hx := B.1.1
  have hb := B.1.2.1
  have hin_X4 : ∀ w ∈ wsX40, w ∈ wsX4_tryWeek := fun w h => List.mem_cons_of_mem _ (List.mem_append_left _ (List.mem_append_left _ (List.mem_append_right _ h)))
  have k_10 := B.1.2.2.2.2 (.fieldLink RX4 10 "JointLoans" "group" "LJointLoans$Group;") (by decide +kernel)
  have k_16 := B.1.2.2.2.2 (.fieldLink RX4 16 "JointLoans" "trial" "LJointLoans$Group;") (by decide +kernel)
  have ki_X0 := B.1.2.2.2.2 (.initialized RX0) (by decide +kernel)
  have kn_X0_copyFrom := B.1.2.2.2.2 (.instanceMethod yX0_copyFrom) (by decide +kernel)
  have kn_X0_endWeek := B.1.2.2.2.2 (.instanceMethod yX0_endWeek) (by decide +kernel)
  have kn_X0_letBeAway := B.1.2.2.2.2 (.instanceMethod yX0_letBeAway) (by decide +kernel)
  have kv_X0_copyFrom := B.1.2.2.2.2 (.selects RX0 yX0_copyFrom yX0_copyFrom) (by decide +kernel)
  have kv_X0_endWeek := B.1.2.2.2.2 (.selects RX0 yX0_endWeek yX0_endWeek) (by decide +kernel)
  have kv_X0_letBeAway := B.1.2.2.2.2 (.selects RX0 yX0_letBeAway yX0_letBeAway) (by decide +kernel)
  have zk := x_X4_tryWeek.eq_1 S p1
  have hl : lv_has ls 2 [(0, .ref (ad jO)), (1, .int p1)] := hl
  refine lv_aload_n hx hb dX4_tryWeek_0 rfl (lv_at hl 0 rfl) ?_
  refine x_get B hW hqj cC_j cls4 hin_X4 1 (by decide) (v := .ref (ad (gG 1))) rfl k_16 dX4_tryWeek_1 ?_
  refine lv_aload_n hx hb dX4_tryWeek_4 rfl (lv_at hl 0 rfl) ?_
  refine x_get B hW hqj cC_j cls4 hin_X4 0 (by decide) (v := .ref (ad (gG 0))) rfl k_10 dX4_tryWeek_5 ?_
  refine x_callv hW (x_runVN B hW (As := [.ref (ad (gG 0))]) (rest := []) (host := RX4) (hqG (by decide)) (cC_G (by decide)) cls0 (c_X0_copyFrom (D := D) (ad := ad) l _ S 1 0 (by decide) (by decide)) ⟨va_cnB 1 B.1.2.2.2.2 gX4_tryWeek_X0_copyFrom_n321 rfl rfl rfl (B.2.1.2 _ nl_X4_321) ki_X0 hd_X0_copyFrom.2 ⟨Nat.le_of_ble_eq_true rfl, Nat.le_of_ble_eq_true rfl⟩, kn_X0_copyFrom, kv_X0_copyFrom⟩ rfl hls (Nat.le_of_ble_eq_true rfl) dX4_tryWeek_8 ⟨Nat.zero_le _, Nat.zero_le _⟩) (fun S_8 H locs he hW => ?_)
  have he_8 := he
  have zk := nm_at zk he_8
  refine lv_aload_n hx hb dX4_tryWeek_11 rfl (lv_at hl 0 rfl) ?_
  refine x_get B hW hqj cC_j cls4 hin_X4 1 (by decide) (v := .ref (ad (gG 1))) rfl k_16 dX4_tryWeek_12 ?_
  refine lv_iload_n hx hb dX4_tryWeek_15 rfl (lv_at hl 1 rfl) ?_
  refine x_callv hW (x_runVN B hW (As := [.int p1]) (rest := []) (host := RX4) (hqG (by decide)) (cC_G (by decide)) cls0 (c_X0_letBeAway (D := D) (ad := ad) l _ S_8 1 p1 (by decide)) ⟨va_cnB 1 B.1.2.2.2.2 gX4_tryWeek_X0_letBeAway_n324 rfl rfl rfl (B.2.1.2 _ nl_X4_324) ki_X0 hd_X0_letBeAway.2 ⟨Nat.le_of_ble_eq_true rfl, Nat.le_of_ble_eq_true rfl⟩, kn_X0_letBeAway, kv_X0_letBeAway⟩ rfl hls (Nat.le_of_ble_eq_true rfl) dX4_tryWeek_16 ⟨Nat.zero_le _, Nat.zero_le _⟩) (fun S_16 H locs he hW => ?_)
  have he_16 := he
  have zk := nm_at zk he_16
  refine lv_aload_n hx hb dX4_tryWeek_19 rfl (lv_at hl 0 rfl) ?_
  refine x_get B hW hqj cC_j cls4 hin_X4 1 (by decide) (v := .ref (ad (gG 1))) rfl k_16 dX4_tryWeek_20 ?_
  refine x_callv hW (x_runVN B hW (As := []) (rest := []) (host := RX4) (hqG (by decide)) (cC_G (by decide)) cls0 (c_X0_endWeek (D := D) (ad := ad) l _ S_16 1 (by decide)) ⟨va_cnB 0 B.1.2.2.2.2 gX4_tryWeek_X0_endWeek_n102 rfl rfl rfl (B.2.1.2 _ nl_X4_102) ki_X0 hd_X0_endWeek.2 ⟨Nat.le_of_ble_eq_true rfl, Nat.le_of_ble_eq_true rfl⟩, kn_X0_endWeek, kv_X0_endWeek⟩ rfl hls (Nat.le_of_ble_eq_true rfl) dX4_tryWeek_23 ⟨Nat.zero_le _, Nat.zero_le _⟩) (fun S_23 H locs he hW => ?_)
  have he_23 := he
  have zk := nm_at zk he_23
  exact x_vret B hW zk.symm dX4_tryWeek_26

def x_X4_ifAbsent (S : vS) (p1 : Int32) (p2 : Int32) : ((Nat × Int32) × vS) := if p1 < 0 then ((3, 0), S) else if 255 < p1 then ((3, 0), S) else if p2 < 0 then ((3, 0), S) else if p2 < 5 then nm (x_X4_tryWeek S p1) (fun S_32 => nm (x_X4_outcome S_32 p2) (fun r_37 => ((0, r_37), S_32))) else ((3, 0), S)
theorem hd_X4_ifAbsent : yX4_ifAbsent.cls = RX4 ∧ yX4_ifAbsent.cls ≠ "java/lang/invoke/MethodHandle" ∧ yX4_ifAbsent.cls ≠ "java/lang/invoke/VarHandle" ∧ (parseMethodDescriptor yX4_ifAbsent.desc).map (fun d => d.parameters.length) = some 2 := by decide +kernel
set_option maxHeartbeats 4000000 in
set_option maxRecDepth 100000 in
theorem c_X4_ifAbsent {D : va_G} {ad : Nat → Nat} {V : vE} (l : Launch) (sz : Nat) (hl0 : l.stackTraces = false) (S : vS) (p1 : Int32) (p2 : Int32) : vx_Met l yX4_ifAbsent wsX4_ifAbsent (rmX 6 1) (pE D 158 (cC D ad) ad sz V S [.ref (ad jO), .int p1, .int p2]) (va_Qi (fun (r : Int32) (S1 : vS) => ((0, r), S1) = (x_X4_ifAbsent S p1 p2)) (bW D 158 (cC D ad) ad (aW 158 ad sz)) (aW 158 ad sz)) (xX D 158 (cC D ad) ad (aW 158 ad sz) (pxS (x_X4_ifAbsent S p1 p2))) 1 6 (aW 158 ad sz) := by
  refine x_metX (own := RX4) (cc := cX4_ifAbsent) (maxL := 3) (ret := (some .int)) (Qc := fun A => va_Qi (fun (r : Int32) (S1 : vS) => ((0, r), S1) = (x_X4_ifAbsent S p1 p2)) (bW D 158 (cC D ad) ad A) A) (XC := fun A => xX D 158 (cC D ad) ad A (pxS (x_X4_ifAbsent S p1 p2))) rfl ⟨by decide +kernel, rfl, Nat.le_of_ble_eq_true rfl⟩ ?_
  intro p e s mm args below meth c A ls B htab hW hE hl hls
  have hx := B.1.1
  have hb := B.1.2.1
  have hat_70 : ∀ w ∈ (vx_atS RX4 70 "java/lang/IllegalArgumentException" xuE).filter goodWord, w ∈ wsX4_ifAbsent := fun w h => List.mem_cons_of_mem _ (List.mem_append_right _ h)
  have kx_66 := B.1.2.2.2.2 (.classLink RX4 66 "java/lang/IllegalArgumentException") (by decide +kernel)
  have ky_3 := B.1.2.2.2.2 (.initialized "java/lang/IllegalArgumentException") (by decide +kernel)
  have zk := x_X4_ifAbsent.eq_1 S p1 p2
  have hl : lv_has ls 3 [(0, .ref (ad jO)), (1, .int p1), (2, .int p2)] := hl
  refine lv_iload_n hx hb dX4_ifAbsent_0 rfl (lv_at hl 1 rfl) ?_
  refine lv_if_lt (tgt := 20) hx hb dX4_ifAbsent_1 (by decide) (fun c_1 => ?_) (fun c_1 => ?_)
  · have zk := zk.trans (if_pos c_1)
    exact x_throw B htab hW hE hl0 hls (cls := "java/lang/IllegalArgumentException") (text := "absent or what is out of range") (by decide +kernel) (by decide +kernel) kx_66 ky_3 (fun w h => B.1.2.2.2.2 w (hat_70 w h)) (by decide +kernel) (by decide +kernel) (by decide +kernel) dX4_ifAbsent_20 dX4_ifAbsent_23 dX4_ifAbsent_24 dX4_ifAbsent_26 dX4_ifAbsent_29 ⟨Nat.le_of_ble_eq_true rfl, Nat.le_of_ble_eq_true rfl, Nat.le_of_ble_eq_true rfl, Nat.le_of_ble_eq_true rfl⟩ ⟨Nat.le_of_ble_eq_true rfl, Nat.le_of_ble_eq_true rfl⟩ ⟨3, 0, by decide, rfl, zk.symm⟩
  · have zk := zk.trans (if_neg c_1)
    refine lv_iload_n hx hb dX4_ifAbsent_4 rfl (lv_at hl 1 rfl) ?_
    refine lv_sipush (v := 255) hx hb dX4_ifAbsent_5 (by decide) ?_
    refine lv_icmp_gt (tgt := 20) hx hb dX4_ifAbsent_8 (by decide) (fun c_8 => ?_) (fun c_8 => ?_)
    · have zk := zk.trans (if_pos c_8)
      exact x_throw B htab hW hE hl0 hls (cls := "java/lang/IllegalArgumentException") (text := "absent or what is out of range") (by decide +kernel) (by decide +kernel) kx_66 ky_3 (fun w h => B.1.2.2.2.2 w (hat_70 w h)) (by decide +kernel) (by decide +kernel) (by decide +kernel) dX4_ifAbsent_20 dX4_ifAbsent_23 dX4_ifAbsent_24 dX4_ifAbsent_26 dX4_ifAbsent_29 ⟨Nat.le_of_ble_eq_true rfl, Nat.le_of_ble_eq_true rfl, Nat.le_of_ble_eq_true rfl, Nat.le_of_ble_eq_true rfl⟩ ⟨Nat.le_of_ble_eq_true rfl, Nat.le_of_ble_eq_true rfl⟩ ⟨3, 0, by decide, rfl, zk.symm⟩
    · have zk := zk.trans (if_neg c_8)
      refine lv_iload_n hx hb dX4_ifAbsent_11 rfl (lv_at hl 2 rfl) ?_
      refine lv_if_lt (tgt := 20) hx hb dX4_ifAbsent_12 (by decide) (fun c_12 => ?_) (fun c_12 => ?_)
      · have zk := zk.trans (if_pos c_12)
        exact x_throw B htab hW hE hl0 hls (cls := "java/lang/IllegalArgumentException") (text := "absent or what is out of range") (by decide +kernel) (by decide +kernel) kx_66 ky_3 (fun w h => B.1.2.2.2.2 w (hat_70 w h)) (by decide +kernel) (by decide +kernel) (by decide +kernel) dX4_ifAbsent_20 dX4_ifAbsent_23 dX4_ifAbsent_24 dX4_ifAbsent_26 dX4_ifAbsent_29 ⟨Nat.le_of_ble_eq_true rfl, Nat.le_of_ble_eq_true rfl, Nat.le_of_ble_eq_true rfl, Nat.le_of_ble_eq_true rfl⟩ ⟨Nat.le_of_ble_eq_true rfl, Nat.le_of_ble_eq_true rfl⟩ ⟨3, 0, by decide, rfl, zk.symm⟩
      · have zk := zk.trans (if_neg c_12)
        refine lv_iload_n hx hb dX4_ifAbsent_15 rfl (lv_at hl 2 rfl) ?_
        refine lv_iconst (v := 5) hx hb dX4_ifAbsent_16 (by decide) ?_
        refine lv_icmp_lt (tgt := 30) hx hb dX4_ifAbsent_17 (by decide) (fun c_17 => ?_) (fun c_17 => ?_)
        · have zk := zk.trans (if_pos c_17)
          refine lv_aload_n hx hb dX4_ifAbsent_30 rfl (lv_at hl 0 rfl) ?_
          refine lv_iload_n hx hb dX4_ifAbsent_31 rfl (lv_at hl 1 rfl) ?_
          refine x_callv hW (x_runV B hW (As := [.int p1]) (rest := []) hqj cC_j cls4 (c_X4_tryWeek (D := D) (ad := ad) l _ S p1) (cwV 1 B.1.2.2.2.2 gX4_ifAbsent_X4_tryWeek rfl rfl rfl hd_X4_tryWeek ⟨Nat.le_of_ble_eq_true rfl, Nat.le_of_ble_eq_true rfl⟩) rfl hls (Nat.le_of_ble_eq_true rfl) dX4_ifAbsent_32 ⟨Nat.le_of_ble_eq_true rfl, Nat.le_of_ble_eq_true rfl⟩) (fun S_32 H locs he hW => ?_)
          have he_32 := he
          have zk := nm_at zk he_32
          refine lv_aload_n hx hb dX4_ifAbsent_35 rfl (lv_at hl 0 rfl) ?_
          refine lv_iload_n hx hb dX4_ifAbsent_36 rfl (lv_at hl 2 rfl) ?_
          refine x_calli hW (x_runV B hW (As := [.int p2]) (rest := []) hqj cC_j cls4 (c_X4_outcome (D := D) (ad := ad) l _ S_32 p2) (cwV 1 B.1.2.2.2.2 gX4_ifAbsent_X4_outcome rfl rfl rfl hd_X4_outcome ⟨Nat.le_of_ble_eq_true rfl, Nat.le_of_ble_eq_true rfl⟩) rfl hls (Nat.le_of_ble_eq_true rfl) dX4_ifAbsent_37 ⟨Nat.le_of_ble_eq_true rfl, Nat.le_of_ble_eq_true rfl⟩) (fun r_37 S_37 H locs he hW => ?_)
          obtain ⟨hr_37, hs⟩ := he
          rw [hs] at hW
          have zk := nm_at zk hr_37
          exact x_end ⟨Nat.le_of_ble_eq_true rfl, Nat.le_of_ble_eq_true rfl⟩ (x_iret B hW zk.symm dX4_ifAbsent_40)
        · have zk := zk.trans (if_neg c_17)
          exact x_throw B htab hW hE hl0 hls (cls := "java/lang/IllegalArgumentException") (text := "absent or what is out of range") (by decide +kernel) (by decide +kernel) kx_66 ky_3 (fun w h => B.1.2.2.2.2 w (hat_70 w h)) (by decide +kernel) (by decide +kernel) (by decide +kernel) dX4_ifAbsent_20 dX4_ifAbsent_23 dX4_ifAbsent_24 dX4_ifAbsent_26 dX4_ifAbsent_29 ⟨Nat.le_of_ble_eq_true rfl, Nat.le_of_ble_eq_true rfl, Nat.le_of_ble_eq_true rfl, Nat.le_of_ble_eq_true rfl⟩ ⟨Nat.le_of_ble_eq_true rfl, Nat.le_of_ble_eq_true rfl⟩ ⟨3, 0, by decide, rfl, zk.symm⟩

def x_X4_fundLasts (S : vS) (p1 : Int32) : (Nat × Int32) := tbq 0 (x_X4_memberOrThrow S p1) (fun k_6 => nm (x_X0_weeksOfFund S 0 k_6) (fun r_9 => (0, r_9)))
theorem hd_X4_fundLasts : yX4_fundLasts.cls = RX4 ∧ yX4_fundLasts.cls ≠ "java/lang/invoke/MethodHandle" ∧ yX4_fundLasts.cls ≠ "java/lang/invoke/VarHandle" ∧ (parseMethodDescriptor yX4_fundLasts.desc).map (fun d => d.parameters.length) = some 1 := by decide +kernel
set_option maxHeartbeats 4000000 in
set_option maxRecDepth 100000 in
theorem c_X4_fundLasts {D : va_G} {ad : Nat → Nat} {V : vE} (l : Launch) (sz : Nat) (hl0 : l.stackTraces = false) (S : vS) (p1 : Int32) : vx_Met l yX4_fundLasts wsX4_fundLasts (rmX 7 1) (pE D 158 (cC D ad) ad sz V S [.ref (ad jO), .int p1]) (va_Qi (fun (r : Int32) (S1 : vS) => (0, r) = (x_X4_fundLasts S p1) ∧ S1 = S) (bW D 158 (cC D ad) ad (aW 158 ad sz)) (aW 158 ad sz)) (xX D 158 (cC D ad) ad (aW 158 ad sz) (pxP (x_X4_fundLasts S p1) S)) 1 6 (aW 158 ad sz) := by
  refine x_metX (own := RX4) (cc := cX4_fundLasts) (maxL := 2) (ret := (some .int)) (Qc := fun A => va_Qi (fun (r : Int32) (S1 : vS) => (0, r) = (x_X4_fundLasts S p1) ∧ S1 = S) (bW D 158 (cC D ad) ad A) A) (XC := fun A => xX D 158 (cC D ad) ad A (pxP (x_X4_fundLasts S p1) S)) rfl ⟨by decide +kernel, rfl, Nat.le_of_ble_eq_true rfl⟩ ?_
  intro p e s mm args below meth c A ls B htab hW hE hl hls
  have hx := B.1.1
  have hb := B.1.2.1
  have hin_X4 : ∀ w ∈ wsX40, w ∈ wsX4_fundLasts := fun w h => List.mem_cons_of_mem _ (List.mem_append_left _ (List.mem_append_left _ (List.mem_append_left _ (List.mem_append_right _ h))))
  have k_10 := B.1.2.2.2.2 (.fieldLink RX4 10 "JointLoans" "group" "LJointLoans$Group;") (by decide +kernel)
  have ki_X0 := B.1.2.2.2.2 (.initialized RX0) (by decide +kernel)
  have kn_X0_weeksOfFund := B.1.2.2.2.2 (.instanceMethod yX0_weeksOfFund) (by decide +kernel)
  have kv_X0_weeksOfFund := B.1.2.2.2.2 (.selects RX0 yX0_weeksOfFund yX0_weeksOfFund) (by decide +kernel)
  have zk := x_X4_fundLasts.eq_1 S p1
  have hl : lv_has ls 2 [(0, .ref (ad jO)), (1, .int p1)] := hl
  refine lv_aload_n hx hb dX4_fundLasts_0 rfl (lv_at hl 0 rfl) ?_
  refine x_get B hW hqj cC_j cls4 hin_X4 0 (by decide) (v := .ref (ad (gG 0))) rfl k_10 dX4_fundLasts_1 ?_
  refine lv_aload_n hx hb dX4_fundLasts_4 rfl (lv_at hl 0 rfl) ?_
  refine lv_iload_n hx hb dX4_fundLasts_5 rfl (lv_at hl 1 rfl) ?_
  refine x_xcallq B htab hW (x_runVX B hW hE (As := [.int p1]) (rest := .ref (ad (gG 0)) :: []) hqj cC_j cls4 (c_X4_memberOrThrow (D := D) (ad := ad) (V := V) l _ hl0 S p1) (cwV 1 B.1.2.2.2.2 gX4_fundLasts_X4_memberOrThrow rfl rfl rfl hd_X4_memberOrThrow ⟨Nat.le_of_ble_eq_true rfl, Nat.le_of_ble_eq_true rfl⟩) rfl hls (Nat.le_of_ble_eq_true rfl) dX4_fundLasts_6 ⟨Nat.le_of_ble_eq_true rfl, Nat.le_of_ble_eq_true rfl⟩) ⟨Nat.le_of_ble_eq_true rfl, Nat.le_of_ble_eq_true rfl⟩ (fun E S1 ⟨⟨k, v, hk, hn, he⟩, hs⟩ => ⟨⟨k, _, hk, hn, (tbq_ex zk he hk).symm⟩, hs⟩) (fun r_6 S_6 H locs he hW => ?_)
  obtain ⟨⟨k_6, hr, he_6, hbk_6⟩, hs⟩ := he
  rw [hs] at hW
  subst hr
  have zk := tbq_ok zk he_6
  refine W.eq (g2 := F0 mm 9 ls (.ref (ad (gM 0 k_6)) :: .ref (ad (gG 0)) :: [])) rfl ?_
  refine x_calli hW (x_runVN B hW (As := [.ref (ad (gM 0 k_6))]) (rest := []) (host := RX4) (hqG (by decide)) (cC_G (by decide)) cls0 (c_X0_weeksOfFund (D := D) (ad := ad) l _ S 0 k_6 (by decide) hbk_6) ⟨va_cnB 1 B.1.2.2.2.2 gX4_fundLasts_X0_weeksOfFund_n225 rfl rfl rfl (B.2.1.2 _ nl_X4_225) ki_X0 hd_X0_weeksOfFund.2 ⟨Nat.le_of_ble_eq_true rfl, Nat.le_of_ble_eq_true rfl⟩, kn_X0_weeksOfFund, kv_X0_weeksOfFund⟩ rfl hls (Nat.le_of_ble_eq_true rfl) dX4_fundLasts_9 ⟨Nat.le_of_ble_eq_true rfl, Nat.le_of_ble_eq_true rfl⟩) (fun r_9 S_9 H locs he hW => ?_)
  obtain ⟨hr_9, hs⟩ := he
  rw [hs] at hW
  have zk := nm_at zk hr_9
  exact x_end ⟨Nat.le_of_ble_eq_true rfl, Nat.le_of_ble_eq_true rfl⟩ (x_iret B hW ⟨zk.symm, rfl⟩ dX4_fundLasts_12)

def x_X4_weakest (S : vS) : Int32 := nm (x_X0_weakestNumber S 0) (fun r_4 => r_4)
theorem hd_X4_weakest : yX4_weakest.cls = RX4 ∧ yX4_weakest.cls ≠ "java/lang/invoke/MethodHandle" ∧ yX4_weakest.cls ≠ "java/lang/invoke/VarHandle" ∧ (parseMethodDescriptor yX4_weakest.desc).map (fun d => d.parameters.length) = some 0 := by decide +kernel
set_option maxHeartbeats 4000000 in
set_option maxRecDepth 100000 in
theorem c_X4_weakest {D : va_G} {ad : Nat → Nat} (l : Launch) (sz : Nat) (S : vS) : Met l yX4_weakest wsX4_weakest (rmD 3) (pW D 158 (cC D ad) ad sz S [.ref (ad jO)]) (va_Qi (fun (r : Int32) (S1 : vS) => r = (x_X4_weakest S) ∧ S1 = S) (bW D 158 (cC D ad) ad (aW 158 ad sz)) (aW 158 ad sz)) 0 0 (aW 158 ad sz) := by
  refine x_met (own := RX4) (cc := cX4_weakest) (maxL := 1) (ret := (some .int)) (Qc := fun A => va_Qi (fun (r : Int32) (S1 : vS) => r = (x_X4_weakest S) ∧ S1 = S) (bW D 158 (cC D ad) ad A) A) rfl ⟨by decide +kernel, rfl, Nat.le_of_ble_eq_true rfl⟩ ?_
  intro p e s mm args below meth c A ls B hW hl hls
  have hx := B.1.1
  have hb := B.1.2.1
  have hin_X4 : ∀ w ∈ wsX40, w ∈ wsX4_weakest := fun w h => List.mem_cons_of_mem _ (List.mem_append_left _ (List.mem_append_left _ (List.mem_append_right _ h)))
  have k_10 := B.1.2.2.2.2 (.fieldLink RX4 10 "JointLoans" "group" "LJointLoans$Group;") (by decide +kernel)
  have ki_X0 := B.1.2.2.2.2 (.initialized RX0) (by decide +kernel)
  have kn_X0_weakestNumber := B.1.2.2.2.2 (.instanceMethod yX0_weakestNumber) (by decide +kernel)
  have kv_X0_weakestNumber := B.1.2.2.2.2 (.selects RX0 yX0_weakestNumber yX0_weakestNumber) (by decide +kernel)
  have zk := x_X4_weakest.eq_1 S
  have hl : lv_has ls 1 [(0, .ref (ad jO))] := hl
  refine lv_aload_n hx hb dX4_weakest_0 rfl (lv_at hl 0 rfl) ?_
  refine x_get B hW hqj cC_j cls4 hin_X4 0 (by decide) (v := .ref (ad (gG 0))) rfl k_10 dX4_weakest_1 ?_
  refine x_calli hW (x_runVN B hW (As := []) (rest := []) (host := RX4) (hqG (by decide)) (cC_G (by decide)) cls0 (c_X0_weakestNumber (D := D) (ad := ad) l _ S 0 (by decide)) ⟨va_cnB 0 B.1.2.2.2.2 gX4_weakest_X0_weakestNumber_n228 rfl rfl rfl (B.2.1.2 _ nl_X4_228) ki_X0 hd_X0_weakestNumber.2 ⟨Nat.le_of_ble_eq_true rfl, Nat.le_of_ble_eq_true rfl⟩, kn_X0_weakestNumber, kv_X0_weakestNumber⟩ rfl hls (Nat.le_of_ble_eq_true rfl) dX4_weakest_4 ⟨Nat.zero_le _, Nat.zero_le _⟩) (fun r_4 S_4 H locs he hW => ?_)
  obtain ⟨hr_4, hs⟩ := he
  rw [hs] at hW
  have zk := nm_at zk hr_4
  exact x_iret B hW ⟨zk.symm, rfl⟩ dX4_weakest_7

def x_X4_weeksToGo (S : vS) : Int32 := nm (x_X0_mostLoanWeeks S 0) (fun r_4 => r_4)
theorem hd_X4_weeksToGo : yX4_weeksToGo.cls = RX4 ∧ yX4_weeksToGo.cls ≠ "java/lang/invoke/MethodHandle" ∧ yX4_weeksToGo.cls ≠ "java/lang/invoke/VarHandle" ∧ (parseMethodDescriptor yX4_weeksToGo.desc).map (fun d => d.parameters.length) = some 0 := by decide +kernel
set_option maxHeartbeats 4000000 in
set_option maxRecDepth 100000 in
theorem c_X4_weeksToGo {D : va_G} {ad : Nat → Nat} (l : Launch) (sz : Nat) (S : vS) : Met l yX4_weeksToGo wsX4_weeksToGo (rmD 2) (pW D 158 (cC D ad) ad sz S [.ref (ad jO)]) (va_Qi (fun (r : Int32) (S1 : vS) => r = (x_X4_weeksToGo S) ∧ S1 = S) (bW D 158 (cC D ad) ad (aW 158 ad sz)) (aW 158 ad sz)) 0 0 (aW 158 ad sz) := by
  refine x_met (own := RX4) (cc := cX4_weeksToGo) (maxL := 1) (ret := (some .int)) (Qc := fun A => va_Qi (fun (r : Int32) (S1 : vS) => r = (x_X4_weeksToGo S) ∧ S1 = S) (bW D 158 (cC D ad) ad A) A) rfl ⟨by decide +kernel, rfl, Nat.le_of_ble_eq_true rfl⟩ ?_
  intro p e s mm args below meth c A ls B hW hl hls
  have hx := B.1.1
  have hb := B.1.2.1
  have hin_X4 : ∀ w ∈ wsX40, w ∈ wsX4_weeksToGo := fun w h => List.mem_cons_of_mem _ (List.mem_append_left _ (List.mem_append_left _ (List.mem_append_right _ h)))
  have k_10 := B.1.2.2.2.2 (.fieldLink RX4 10 "JointLoans" "group" "LJointLoans$Group;") (by decide +kernel)
  have ki_X0 := B.1.2.2.2.2 (.initialized RX0) (by decide +kernel)
  have kn_X0_mostLoanWeeks := B.1.2.2.2.2 (.instanceMethod yX0_mostLoanWeeks) (by decide +kernel)
  have kv_X0_mostLoanWeeks := B.1.2.2.2.2 (.selects RX0 yX0_mostLoanWeeks yX0_mostLoanWeeks) (by decide +kernel)
  have zk := x_X4_weeksToGo.eq_1 S
  have hl : lv_has ls 1 [(0, .ref (ad jO))] := hl
  refine lv_aload_n hx hb dX4_weeksToGo_0 rfl (lv_at hl 0 rfl) ?_
  refine x_get B hW hqj cC_j cls4 hin_X4 0 (by decide) (v := .ref (ad (gG 0))) rfl k_10 dX4_weeksToGo_1 ?_
  refine x_calli hW (x_runVN B hW (As := []) (rest := []) (host := RX4) (hqG (by decide)) (cC_G (by decide)) cls0 (c_X0_mostLoanWeeks (D := D) (ad := ad) l _ S 0 (by decide)) ⟨va_cnB 0 B.1.2.2.2.2 gX4_weeksToGo_X0_mostLoanWeeks_n231 rfl rfl rfl (B.2.1.2 _ nl_X4_231) ki_X0 hd_X0_mostLoanWeeks.2 ⟨Nat.le_of_ble_eq_true rfl, Nat.le_of_ble_eq_true rfl⟩, kn_X0_mostLoanWeeks, kv_X0_mostLoanWeeks⟩ rfl hls (Nat.le_of_ble_eq_true rfl) dX4_weeksToGo_4 ⟨Nat.zero_le _, Nat.zero_le _⟩) (fun r_4 S_4 H locs he hW => ?_)
  obtain ⟨hr_4, hs⟩ := he
  rw [hs] at hW
  have zk := nm_at zk hr_4
  exact x_iret B hW ⟨zk.symm, rfl⟩ dX4_weeksToGo_7

def x_X4_ifCycle (S : vS) (p1 : Int32) : (Nat × Int32) := tbq 0 (x_X4_memberOrThrow S p1) (fun k_2 => nm (x_X2_nextLimit S 0 k_2) (fun r_5 => (0, r_5)))
theorem hd_X4_ifCycle : yX4_ifCycle.cls = RX4 ∧ yX4_ifCycle.cls ≠ "java/lang/invoke/MethodHandle" ∧ yX4_ifCycle.cls ≠ "java/lang/invoke/VarHandle" ∧ (parseMethodDescriptor yX4_ifCycle.desc).map (fun d => d.parameters.length) = some 1 := by decide +kernel
set_option maxHeartbeats 4000000 in
set_option maxRecDepth 100000 in
theorem c_X4_ifCycle {D : va_G} {ad : Nat → Nat} {V : vE} (l : Launch) (sz : Nat) (hl0 : l.stackTraces = false) (S : vS) (p1 : Int32) : vx_Met l yX4_ifCycle wsX4_ifCycle (rmX 7 1) (pE D 158 (cC D ad) ad sz V S [.ref (ad jO), .int p1]) (va_Qi (fun (r : Int32) (S1 : vS) => (0, r) = (x_X4_ifCycle S p1) ∧ S1 = S) (bW D 158 (cC D ad) ad (aW 158 ad sz)) (aW 158 ad sz)) (xX D 158 (cC D ad) ad (aW 158 ad sz) (pxP (x_X4_ifCycle S p1) S)) 1 6 (aW 158 ad sz) := by
  refine x_metX (own := RX4) (cc := cX4_ifCycle) (maxL := 2) (ret := (some .int)) (Qc := fun A => va_Qi (fun (r : Int32) (S1 : vS) => (0, r) = (x_X4_ifCycle S p1) ∧ S1 = S) (bW D 158 (cC D ad) ad A) A) (XC := fun A => xX D 158 (cC D ad) ad A (pxP (x_X4_ifCycle S p1) S)) rfl ⟨by decide +kernel, rfl, Nat.le_of_ble_eq_true rfl⟩ ?_
  intro p e s mm args below meth c A ls B htab hW hE hl hls
  have hx := B.1.1
  have hb := B.1.2.1
  have ki_X2 := B.1.2.2.2.2 (.initialized RX2) (by decide +kernel)
  have kn_X2_nextLimit := B.1.2.2.2.2 (.instanceMethod yX2_nextLimit) (by decide +kernel)
  have kv_X2_nextLimit := B.1.2.2.2.2 (.selects RX2 yX2_nextLimit yX2_nextLimit) (by decide +kernel)
  have zk := x_X4_ifCycle.eq_1 S p1
  have hl : lv_has ls 2 [(0, .ref (ad jO)), (1, .int p1)] := hl
  refine lv_aload_n hx hb dX4_ifCycle_0 rfl (lv_at hl 0 rfl) ?_
  refine lv_iload_n hx hb dX4_ifCycle_1 rfl (lv_at hl 1 rfl) ?_
  refine x_xcallq B htab hW (x_runVX B hW hE (As := [.int p1]) (rest := []) hqj cC_j cls4 (c_X4_memberOrThrow (D := D) (ad := ad) (V := V) l _ hl0 S p1) (cwV 1 B.1.2.2.2.2 gX4_ifCycle_X4_memberOrThrow rfl rfl rfl hd_X4_memberOrThrow ⟨Nat.le_of_ble_eq_true rfl, Nat.le_of_ble_eq_true rfl⟩) rfl hls (Nat.le_of_ble_eq_true rfl) dX4_ifCycle_2 ⟨Nat.le_of_ble_eq_true rfl, Nat.le_of_ble_eq_true rfl⟩) ⟨Nat.le_of_ble_eq_true rfl, Nat.le_of_ble_eq_true rfl⟩ (fun E S1 ⟨⟨k, v, hk, hn, he⟩, hs⟩ => ⟨⟨k, _, hk, hn, (tbq_ex zk he hk).symm⟩, hs⟩) (fun r_2 S_2 H locs he hW => ?_)
  obtain ⟨⟨k_2, hr, he_2, hbk_2⟩, hs⟩ := he
  rw [hs] at hW
  subst hr
  have zk := tbq_ok zk he_2
  refine W.eq (g2 := F0 mm 5 ls (.ref (ad (gM 0 k_2)) :: [])) rfl ?_
  refine x_calli hW (x_runVN B hW (As := []) (rest := []) (host := RX4) (hqM (by decide) hbk_2) (cC_M (by decide) hbk_2) cls2 (c_X2_nextLimit (D := D) (ad := ad) l _ S 0 k_2 (by decide) hbk_2) ⟨va_cnB 0 B.1.2.2.2.2 gX4_ifCycle_X2_nextLimit_n234 rfl rfl rfl (B.2.1.2 _ nl_X4_234) ki_X2 hd_X2_nextLimit.2 ⟨Nat.le_of_ble_eq_true rfl, Nat.le_of_ble_eq_true rfl⟩, kn_X2_nextLimit, kv_X2_nextLimit⟩ rfl hls (Nat.le_of_ble_eq_true rfl) dX4_ifCycle_5 ⟨Nat.le_of_ble_eq_true rfl, Nat.le_of_ble_eq_true rfl⟩) (fun r_5 S_5 H locs he hW => ?_)
  obtain ⟨hr_5, hs⟩ := he
  rw [hs] at hW
  have zk := nm_at zk hr_5
  exact x_end ⟨Nat.le_of_ble_eq_true rfl, Nat.le_of_ble_eq_true rfl⟩ (x_iret B hW ⟨zk.symm, rfl⟩ dX4_ifCycle_8)

def x_X4_paidShare (S : vS) : UInt64 := nm (x_X0_shareOfPaid S 0) (fun r_4 => r_4)
theorem hd_X4_paidShare : yX4_paidShare.cls = RX4 ∧ yX4_paidShare.cls ≠ "java/lang/invoke/MethodHandle" ∧ yX4_paidShare.cls ≠ "java/lang/invoke/VarHandle" ∧ (parseMethodDescriptor yX4_paidShare.desc).map (fun d => d.parameters.length) = some 0 := by decide +kernel
set_option maxHeartbeats 4000000 in
set_option maxRecDepth 100000 in
theorem c_X4_paidShare {D : va_G} {ad : Nat → Nat} (l : Launch) (sz : Nat) (S : vS) : Met l yX4_paidShare wsX4_paidShare (rmD 1) (pW D 158 (cC D ad) ad sz S [.ref (ad jO)]) (va_Qd (fun (r : UInt64) (S1 : vS) => r = (x_X4_paidShare S) ∧ S1 = S) (bW D 158 (cC D ad) ad (aW 158 ad sz)) (aW 158 ad sz)) 0 0 (aW 158 ad sz) := by
  refine x_met (own := RX4) (cc := cX4_paidShare) (maxL := 1) (ret := (some .double)) (Qc := fun A => va_Qd (fun (r : UInt64) (S1 : vS) => r = (x_X4_paidShare S) ∧ S1 = S) (bW D 158 (cC D ad) ad A) A) rfl ⟨by decide +kernel, rfl, Nat.le_of_ble_eq_true rfl⟩ ?_
  intro p e s mm args below meth c A ls B hW hl hls
  have hx := B.1.1
  have hb := B.1.2.1
  have hin_X4 : ∀ w ∈ wsX40, w ∈ wsX4_paidShare := fun w h => List.mem_cons_of_mem _ (List.mem_append_left _ (List.mem_append_right _ h))
  have k_10 := B.1.2.2.2.2 (.fieldLink RX4 10 "JointLoans" "group" "LJointLoans$Group;") (by decide +kernel)
  have ki_X0 := B.1.2.2.2.2 (.initialized RX0) (by decide +kernel)
  have kn_X0_shareOfPaid := B.1.2.2.2.2 (.instanceMethod yX0_shareOfPaid) (by decide +kernel)
  have kv_X0_shareOfPaid := B.1.2.2.2.2 (.selects RX0 yX0_shareOfPaid yX0_shareOfPaid) (by decide +kernel)
  have zk := x_X4_paidShare.eq_1 S
  have hl : lv_has ls 1 [(0, .ref (ad jO))] := hl
  refine lv_aload_n hx hb dX4_paidShare_0 rfl (lv_at hl 0 rfl) ?_
  refine x_get B hW hqj cC_j cls4 hin_X4 0 (by decide) (v := .ref (ad (gG 0))) rfl k_10 dX4_paidShare_1 ?_
  refine x_calld hW (x_runVN B hW (As := []) (rest := []) (host := RX4) (hqG (by decide)) (cC_G (by decide)) cls0 (c_X0_shareOfPaid (D := D) (ad := ad) l _ S 0 (by decide)) ⟨va_cnB 0 B.1.2.2.2.2 gX4_paidShare_X0_shareOfPaid_n237 rfl rfl rfl (B.2.1.2 _ nl_X4_237) ki_X0 hd_X0_shareOfPaid.2 ⟨Nat.le_of_ble_eq_true rfl, Nat.le_of_ble_eq_true rfl⟩, kn_X0_shareOfPaid, kv_X0_shareOfPaid⟩ rfl hls (Nat.le_of_ble_eq_true rfl) dX4_paidShare_4 ⟨Nat.zero_le _, Nat.zero_le _⟩) (fun r_4 S_4 H locs he hW => ?_)
  obtain ⟨hr_4, hs⟩ := he
  rw [hs] at hW
  have zk := nm_at zk hr_4
  exact x_dret B hW ⟨zk.symm, rfl⟩ dX4_paidShare_7

def x_X4_bitsOf_L15 : Nat → vS → UInt64 → Int64 → UInt64 → Int64
  | 0, S, _, _, _ => 0
  | n + 1, S, p1, v4, v2 => if 0 ≤ (Op.cmpValue (FP.dcmp v2 FP.dconst1) .g) then nm ((FP.d2l (FP.dmul (FP.dsub v2 FP.dconst1) 4841369599423283200))) (fun x_51 => ((v4 <<< ((52 : Int32).toInt64 &&& 63)) + x_51)) else if (lcmpV v4 1) ≤ 0 then nm ((FP.d2l (FP.dmul (FP.dsub v2 FP.dconst1) 4841369599423283200))) (fun x_51 => ((v4 <<< ((52 : Int32).toInt64 &&& 63)) + x_51)) else nm ((FP.dmul v2 4611686018427387904)) (fun x_33 => nm ((v4 - 1)) (fun x_38 => x_X4_bitsOf_L15 n S p1 (x_38) (x_33)))
def x_X4_bitsOf (S : vS) (p1 : UInt64) : Int64 := if 0 < (Op.cmpValue (FP.dcmp p1 FP.dconst0) .g) then x_X4_bitsOf_L15 (1024) S p1 (1023) (p1) else 0
theorem hd_X4_bitsOf : yX4_bitsOf.cls = RX4 ∧ yX4_bitsOf.cls ≠ "java/lang/invoke/MethodHandle" ∧ yX4_bitsOf.cls ≠ "java/lang/invoke/VarHandle" ∧ (parseMethodDescriptor yX4_bitsOf.desc).map (fun d => d.parameters.length) = some 1 := by decide +kernel
set_option maxHeartbeats 4000000 in
set_option maxRecDepth 100000 in
theorem w_X4_bitsOf_L15 {D : va_G} {ad : Nat → Nat} (l : Launch) {p : Program} {e : Env} {s : State} {mm : MethodId} {args : Array Value} {below : List Frame} {meth : Method} {c : Code} {A : Nat → Prop} (B : Cx p mm c cX4_bitsOf 8 s args wsX4_bitsOf RX4 meth (some .long) D) (S : vS) (z : Int64) (p1 : UInt64) (hsh : shN p1) : ∀ (n : Nat) (v4 : Int64) (v2 : UInt64) (H : Heap) (locs : List Loc) (ls : Array Slot), SB p1 v2 v4 n → Wd D 158 (cC D ad) ad A s.heap S H locs → lv_has ls 8 [(4, .long v4), (2, .double v2)] → ls.size = 8 → z = x_X4_bitsOf_L15 n S p1 v4 v2 → W p l e (rmD 0) s mm args below meth c H locs 0 0 (MQ below (va_Ql (fun (r : Int64) (S1 : vS) => r = z ∧ S1 = S) (bW D 158 (cC D ad) ad A) A) args s 0 0 A) (F0 mm 15 ls []) := by
  have hx := B.1.1
  have hb := B.1.2.1
  have kk_343 := B.1.2.2.2.2 (.constantLong RX4 343 1023) (by decide +kernel)
  have kk_345 := B.1.2.2.2.2 (.constantDouble RX4 345 4611686018427387904) (by decide +kernel)
  have kk_347 := B.1.2.2.2.2 (.constantDouble RX4 347 4841369599423283200) (by decide +kernel)
  intro n
  induction n with
  | zero =>
    intro v4 v2 H locs ls hms
    exact (SB_zero hms).elim
  | succ n ih =>
    intro v4 v2 H locs ls hms hW hl hls zk
    have zk := zk.trans (x_X4_bitsOf_L15.eq_2 _ _ _ _ _ )
    refine lv_dload_n hx hb dX4_bitsOf_15 rfl (lv_at hl 1 rfl) ?_
    refine lv_dconst1 hx hb dX4_bitsOf_16 ?_
    refine lv_dcmp hx hb dX4_bitsOf_17 ?_
    refine lv_if_ge (tgt := 43) hx hb dX4_bitsOf_18 (by decide) (fun c_18 => ?_) (fun c_18 => ?_)
    · have zk := zk.trans (if_pos c_18)
      have hbe : 1023 ≤ v2.toNat / 2 ^ 52 ∧ v2.toNat / 2 ^ 52 ≤ 1023 := by first | exact SB_e1 hms c_18 | exact SB_e2 hms c_18 c_25
      refine lv_dload_n hx hb dX4_bitsOf_43 rfl (lv_at hl 1 rfl) ?_
      refine lv_dconst1 hx hb dX4_bitsOf_44 ?_
      refine lv_dsub hx hb dX4_bitsOf_45 (SB_sub hbe) ?_
      refine lv_ldc2d (v := 4841369599423283200) hx hb B.1.2.2.2.1 kk_347 dX4_bitsOf_46 ?_
      refine lv_dmul hx hb dX4_bitsOf_49 (SB_mul2 hbe) ?_
      refine lv_d2l hx hb dX4_bitsOf_50 ?_
      refine lv_topl (fun x_51 ex_51 => ?_)
      have zk := nm_at zk ex_51
      refine lv_lstore (lv' := [(6, .long x_51), (4, .long v4), (2, .double v2)]) hx hb dX4_bitsOf_51 hl (by decide) rfl (fun ls hl => ?_)
      have hls := hl.1
      refine lv_lload hx hb dX4_bitsOf_53 (lv_at hl 1 rfl) ?_
      refine lv_bipush (v := 52) hx hb dX4_bitsOf_55 (by decide) ?_
      refine lv_lshl hx hb dX4_bitsOf_57 rfl ?_
      refine lv_lload hx hb dX4_bitsOf_58 (lv_at hl 0 rfl) ?_
      refine lv_ladd hx hb dX4_bitsOf_60 ?_
      exact x_lret B hW ⟨zk.symm, rfl⟩ dX4_bitsOf_61
    · have zk := zk.trans (if_neg c_18)
      refine lv_lload hx hb dX4_bitsOf_21 (lv_at hl 0 rfl) ?_
      refine lv_lconst (v := 1) hx hb dX4_bitsOf_23 (by decide) ?_
      refine lv_lcmp hx hb dX4_bitsOf_24 ?_
      refine lv_if_le (tgt := 43) hx hb dX4_bitsOf_25 (by decide) (fun c_25 => ?_) (fun c_25 => ?_)
      · have zk := zk.trans (if_pos c_25)
        have hbe : 1023 ≤ v2.toNat / 2 ^ 52 ∧ v2.toNat / 2 ^ 52 ≤ 1023 := by first | exact SB_e1 hms c_18 | exact SB_e2 hms c_18 c_25
        refine lv_dload_n hx hb dX4_bitsOf_43 rfl (lv_at hl 1 rfl) ?_
        refine lv_dconst1 hx hb dX4_bitsOf_44 ?_
        refine lv_dsub hx hb dX4_bitsOf_45 (SB_sub hbe) ?_
        refine lv_ldc2d (v := 4841369599423283200) hx hb B.1.2.2.2.1 kk_347 dX4_bitsOf_46 ?_
        refine lv_dmul hx hb dX4_bitsOf_49 (SB_mul2 hbe) ?_
        refine lv_d2l hx hb dX4_bitsOf_50 ?_
        refine lv_topl (fun x_51 ex_51 => ?_)
        have zk := nm_at zk ex_51
        refine lv_lstore (lv' := [(6, .long x_51), (4, .long v4), (2, .double v2)]) hx hb dX4_bitsOf_51 hl (by decide) rfl (fun ls hl => ?_)
        have hls := hl.1
        refine lv_lload hx hb dX4_bitsOf_53 (lv_at hl 1 rfl) ?_
        refine lv_bipush (v := 52) hx hb dX4_bitsOf_55 (by decide) ?_
        refine lv_lshl hx hb dX4_bitsOf_57 rfl ?_
        refine lv_lload hx hb dX4_bitsOf_58 (lv_at hl 0 rfl) ?_
        refine lv_ladd hx hb dX4_bitsOf_60 ?_
        exact x_lret B hW ⟨zk.symm, rfl⟩ dX4_bitsOf_61
      · have zk := zk.trans (if_neg c_25)
        refine lv_dload_n hx hb dX4_bitsOf_28 rfl (lv_at hl 1 rfl) ?_
        refine lv_ldc2d (v := 4611686018427387904) hx hb B.1.2.2.2.1 kk_345 dX4_bitsOf_29 ?_
        refine lv_dmul hx hb dX4_bitsOf_32 (SB_mul hms) ?_
        refine lv_topd (fun x_33 ex_33 => ?_)
        have zk := nm_at zk ex_33
        refine lv_dstore_n (lv' := [(2, .double x_33), (4, .long v4)]) hx hb dX4_bitsOf_33 rfl hl (by decide) rfl (fun ls hl => ?_)
        have hls := hl.1
        refine lv_lload hx hb dX4_bitsOf_34 (lv_at hl 1 rfl) ?_
        refine lv_lconst (v := 1) hx hb dX4_bitsOf_36 (by decide) ?_
        refine lv_lsub hx hb dX4_bitsOf_37 ?_
        refine lv_topl (fun x_38 ex_38 => ?_)
        have zk := nm_at zk ex_38
        refine lv_lstore (lv' := [(4, .long x_38), (2, .double x_33)]) hx hb dX4_bitsOf_38 hl (by decide) rfl (fun ls hl => ?_)
        have hls := hl.1
        refine lv_goto (tgt := 15) hx hb dX4_bitsOf_40 (by decide) ?_
        exact ih (x_38) (x_33)  _ _ _ (by rw [ex_33, ex_38]; exact SB_step hms c_18 c_25) hW (lv_sub hl [0, 1] rfl) hls zk
set_option maxHeartbeats 4000000 in
set_option maxRecDepth 100000 in
theorem c_X4_bitsOf {D : va_G} {ad : Nat → Nat} (l : Launch) (sz : Nat) (S : vS) (p1 : UInt64) (hsh : shN p1) : Met l yX4_bitsOf wsX4_bitsOf (rmD 0) (pW D 158 (cC D ad) ad sz S [.double p1]) (va_Ql (fun (r : Int64) (S1 : vS) => r = (x_X4_bitsOf S p1) ∧ S1 = S) (bW D 158 (cC D ad) ad (aW 158 ad sz)) (aW 158 ad sz)) 0 0 (aW 158 ad sz) := by
  refine x_met (own := RX4) (cc := cX4_bitsOf) (maxL := 8) (ret := (some .long)) (Qc := fun A => va_Ql (fun (r : Int64) (S1 : vS) => r = (x_X4_bitsOf S p1) ∧ S1 = S) (bW D 158 (cC D ad) ad A) A) rfl ⟨by decide +kernel, rfl, Nat.le_of_ble_eq_true rfl⟩ ?_
  intro p e s mm args below meth c A ls B hW hl hls
  have hx := B.1.1
  have hb := B.1.2.1
  have kk_343 := B.1.2.2.2.2 (.constantLong RX4 343 1023) (by decide +kernel)
  have kk_345 := B.1.2.2.2.2 (.constantDouble RX4 345 4611686018427387904) (by decide +kernel)
  have kk_347 := B.1.2.2.2.2 (.constantDouble RX4 347 4841369599423283200) (by decide +kernel)
  have zk := x_X4_bitsOf.eq_1 S p1
  have hl : lv_has ls 8 [(0, .double p1)] := hl
  refine lv_dload_n hx hb dX4_bitsOf_0 rfl (lv_at hl 0 rfl) ?_
  refine lv_dconst0 hx hb dX4_bitsOf_1 ?_
  refine lv_dcmp hx hb dX4_bitsOf_2 ?_
  refine lv_if_gt (tgt := 8) hx hb dX4_bitsOf_3 (by decide) (fun c_3 => ?_) (fun c_3 => ?_)
  · have zk := zk.trans (if_pos c_3)
    refine lv_dload_n hx hb dX4_bitsOf_8 rfl (lv_at hl 0 rfl) ?_
    refine lv_dstore_n (lv' := [(2, .double p1), (0, .double p1)]) hx hb dX4_bitsOf_9 rfl hl (by decide) rfl (fun ls hl => ?_)
    have hls := hl.1
    refine lv_ldc2 (v := 1023) hx hb B.1.2.2.2.1 kk_343 dX4_bitsOf_10 ?_
    refine lv_lstore (lv' := [(4, .long 1023), (2, .double p1), (0, .double p1)]) hx hb dX4_bitsOf_13 hl (by decide) rfl (fun ls hl => ?_)
    have hls := hl.1
    exact w_X4_bitsOf_L15 l B S _ p1 hsh (1024) (1023) (p1)  _ _ _ (SB_first hsh c_3) hW (lv_sub hl [0, 1] rfl) hls zk
  · have zk := zk.trans (if_neg c_3)
    refine lv_lconst (v := 0) hx hb dX4_bitsOf_6 (by decide) ?_
    exact x_lret B hW ⟨zk.symm, rfl⟩ dX4_bitsOf_7

def x_X4_mixed (S : vS) (p1 : Int64) (p2 : Int64) : Int64 := ((31 * p1) + p2)
theorem hd_X4_mixed : yX4_mixed.cls = RX4 ∧ yX4_mixed.cls ≠ "java/lang/invoke/MethodHandle" ∧ yX4_mixed.cls ≠ "java/lang/invoke/VarHandle" ∧ (parseMethodDescriptor yX4_mixed.desc).map (fun d => d.parameters.length) = some 2 := by decide +kernel
set_option maxHeartbeats 4000000 in
set_option maxRecDepth 100000 in
theorem c_X4_mixed {D : va_G} {ad : Nat → Nat} (l : Launch) (sz : Nat) (S : vS) (p1 : Int64) (p2 : Int64) : Met l yX4_mixed wsX4_mixed (rmD 0) (pW D 158 (cC D ad) ad sz S [.long p1, .long p2]) (va_Ql (fun (r : Int64) (S1 : vS) => r = (x_X4_mixed S p1 p2) ∧ S1 = S) (bW D 158 (cC D ad) ad (aW 158 ad sz)) (aW 158 ad sz)) 0 0 (aW 158 ad sz) := by
  refine x_met (own := RX4) (cc := cX4_mixed) (maxL := 4) (ret := (some .long)) (Qc := fun A => va_Ql (fun (r : Int64) (S1 : vS) => r = (x_X4_mixed S p1 p2) ∧ S1 = S) (bW D 158 (cC D ad) ad A) A) rfl ⟨by decide +kernel, rfl, Nat.le_of_ble_eq_true rfl⟩ ?_
  intro p e s mm args below meth c A ls B hW hl hls
  have hx := B.1.1
  have hb := B.1.2.1
  have kk_341 := B.1.2.2.2.2 (.constantLong RX4 341 31) (by decide +kernel)
  have zk := x_X4_mixed.eq_1 S p1 p2
  have hl : lv_has ls 4 [(0, .long p1), (2, .long p2)] := hl
  refine lv_ldc2 (v := 31) hx hb B.1.2.2.2.1 kk_341 dX4_mixed_0 ?_
  refine lv_lload_n hx hb dX4_mixed_3 rfl (lv_at hl 0 rfl) ?_
  refine lv_lmul hx hb dX4_mixed_4 ?_
  refine lv_lload_n hx hb dX4_mixed_5 rfl (lv_at hl 1 rfl) ?_
  refine lv_ladd hx hb dX4_mixed_6 ?_
  exact x_lret B hW ⟨zk.symm, rfl⟩ dX4_mixed_7

def x_X4_mixedWithMember_L59 : Nat → vS → Nat → Int64 → Nat → Int64 → Int64
  | 0, S, _, _, _, _ => 0
  | n + 1, S, k, p1, n8, v4 => if 8 ≤ (nI n8) then nm (x_X0_weeksOfFund S 0 k) (fun r_112 => nm (x_X4_mixed S v4 r_112.toInt64) (fun r_116 => nm (x_X2_nextLimit S 0 k) (fun r_124 => nm (x_X4_mixed S r_116 r_124.toInt64) (fun r_128 => r_128)))) else if (bz (S (gM 0 n8) 1)) = 0 then x_X4_mixedWithMember_L59 n S k p1 ((n8 + 1)) (v4) else nm (x_X4_mixed S v4 (S (gD 0 k) n8).toInt64) (fun r_94 => x_X4_mixedWithMember_L59 n S k p1 ((n8 + 1)) (r_94))
def x_X4_mixedWithMember_L14 : Nat → vS → Nat → Int64 → Nat → Int64 → Int64
  | 0, S, _, _, _, _ => 0
  | n + 1, S, k, p1, n6, v4 => if 14 ≤ (nI n6) then x_X4_mixedWithMember_L59 (9) S k p1 (0) (v4) else nm (x_X4_propertyOf S k (nI n6)) (fun r_27 => nm (x_X4_mixed S v4 r_27.toInt64) (fun r_31 => x_X4_mixedWithMember_L14 n S k p1 ((n6 + 1)) (r_31)))
def x_X4_mixedWithMember (S : vS) (k : Nat) (p1 : Int64) : Int64 := nm (x_X4_mixed S p1 (nI k).toInt64) (fun r_6 => x_X4_mixedWithMember_L14 (15) S k p1 (0) (r_6))
theorem hd_X4_mixedWithMember : yX4_mixedWithMember.cls = RX4 ∧ yX4_mixedWithMember.cls ≠ "java/lang/invoke/MethodHandle" ∧ yX4_mixedWithMember.cls ≠ "java/lang/invoke/VarHandle" ∧ (parseMethodDescriptor yX4_mixedWithMember.desc).map (fun d => d.parameters.length) = some 2 := by decide +kernel
set_option maxHeartbeats 4000000 in
set_option maxRecDepth 100000 in
theorem w_X4_mixedWithMember_L59 {D : va_G} {ad : Nat → Nat} (l : Launch) {p : Program} {e : Env} {s : State} {mm : MethodId} {args : Array Value} {below : List Frame} {meth : Method} {c : Code} {A : Nat → Prop} (B : Cx p mm c cX4_mixedWithMember 10 s args wsX4_mixedWithMember RX4 meth (some .long) D) (S : vS) (z : Int64) (k : Nat) (p1 : Int64) (hk : k < 8) : ∀ (n : Nat) (n8 : Nat) (v4 : Int64) (H : Heap) (locs : List Loc) (ls : Array Slot), n8 ≤ 8 → n8 + n = 9 → Wd D 158 (cC D ad) ad A s.heap S H locs → lv_has ls 10 [(8, .int (nI n8)), (7, .int 8), (6, .ref (ad (gA 0))), (4, .long v4), (0, .ref (ad jO)), (3, .ref (ad (gM 0 k)))] → ls.size = 10 → z = x_X4_mixedWithMember_L59 n S k p1 n8 v4 → W p l e (rmD 4) s mm args below meth c H locs 0 0 (MQ below (va_Ql (fun (r : Int64) (S1 : vS) => r = z ∧ S1 = S) (bW D 158 (cC D ad) ad A) A) args s 0 0 A) (F0 mm 59 ls []) := by
  have hx := B.1.1
  have hb := B.1.2.1
  have hin_X0 : ∀ w ∈ wsX00, w ∈ wsX4_mixedWithMember := fun w h => List.mem_cons_of_mem _ (List.mem_append_right _ h)
  have hin_X2 : ∀ w ∈ wsX20, w ∈ wsX4_mixedWithMember := fun w h => List.mem_cons_of_mem _ (List.mem_append_left _ (List.mem_append_left _ (List.mem_append_right _ h)))
  have hin_X4 : ∀ w ∈ wsX40, w ∈ wsX4_mixedWithMember := fun w h => List.mem_cons_of_mem _ (List.mem_append_left _ (List.mem_append_right _ h))
  have k_10 := B.1.2.2.2.2 (.fieldLink RX4 10 "JointLoans" "group" "LJointLoans$Group;") (by decide +kernel)
  have ki_X0 := B.1.2.2.2.2 (.initialized RX0) (by decide +kernel)
  have ki_X2 := B.1.2.2.2.2 (.initialized RX2) (by decide +kernel)
  have kn_X0_weeksOfFund := B.1.2.2.2.2 (.instanceMethod yX0_weeksOfFund) (by decide +kernel)
  have kn_X2_nextLimit := B.1.2.2.2.2 (.instanceMethod yX2_nextLimit) (by decide +kernel)
  have kv_X0_weeksOfFund := B.1.2.2.2.2 (.selects RX0 yX0_weeksOfFund yX0_weeksOfFund) (by decide +kernel)
  have kv_X2_nextLimit := B.1.2.2.2.2 (.selects RX2 yX2_nextLimit yX2_nextLimit) (by decide +kernel)
  intro n
  induction n with
  | zero =>
    intro n8 v4 H locs ls hle hsum
    omega
  | succ n ih =>
    intro n8 v4 H locs ls hle hsum hW hl hls zk
    have zk := zk.trans (x_X4_mixedWithMember_L59.eq_2 _ _ _ _ _ _ )
    refine lv_iload hx hb dX4_mixedWithMember_59 (lv_at hl 0 rfl) ?_
    refine lv_iload hx hb dX4_mixedWithMember_61 (lv_at hl 1 rfl) ?_
    refine lv_icmp_ge (tgt := 105) hx hb dX4_mixedWithMember_63 (by decide) (fun c_63 => ?_) (fun c_63 => ?_)
    · have zk := zk.trans (if_pos c_63)
      refine lv_lload hx hb dX4_mixedWithMember_105 (lv_at hl 3 rfl) ?_
      refine lv_aload_n hx hb dX4_mixedWithMember_107 rfl (lv_at hl 4 rfl) ?_
      refine x_get B hW hqj cC_j cls4 hin_X4 0 (by decide) (v := .ref (ad (gG 0))) rfl k_10 dX4_mixedWithMember_108 ?_
      refine lv_aload_n hx hb dX4_mixedWithMember_111 rfl (lv_at hl 5 rfl) ?_
      refine x_calli hW (x_runVN B hW (As := [.ref (ad (gM 0 k))]) (rest := .long v4 :: []) (host := RX4) (hqG (by decide)) (cC_G (by decide)) cls0 (c_X0_weeksOfFund (D := D) (ad := ad) l _ S 0 k (by decide) hk) ⟨va_cnB 1 B.1.2.2.2.2 gX4_mixedWithMember_X0_weeksOfFund_n225 rfl rfl rfl (B.2.1.2 _ nl_X4_225) ki_X0 hd_X0_weeksOfFund.2 ⟨Nat.le_of_ble_eq_true rfl, Nat.le_of_ble_eq_true rfl⟩, kn_X0_weeksOfFund, kv_X0_weeksOfFund⟩ rfl hls (Nat.le_of_ble_eq_true rfl) dX4_mixedWithMember_112 ⟨Nat.zero_le _, Nat.zero_le _⟩) (fun r_112 S_112 H locs he hW => ?_)
      obtain ⟨hr_112, hs⟩ := he
      rw [hs] at hW
      have zk := nm_at zk hr_112
      refine lv_i2l hx hb dX4_mixedWithMember_115 rfl ?_
      refine x_calll hW (x_runS B hW (As := [.long v4, .long r_112.toInt64]) (rest := []) (c_X4_mixed (D := D) (ad := ad) l _ S v4 r_112.toInt64) (va_cwS 2 B.1.2.2.2.2 gX4_mixedWithMember_X4_mixed rfl rfl rfl hd_X4_mixed.2 ⟨Nat.le_of_ble_eq_true rfl, Nat.le_of_ble_eq_true rfl⟩) rfl hls (Nat.le_of_ble_eq_true rfl) dX4_mixedWithMember_116 ⟨Nat.zero_le _, Nat.zero_le _⟩) (fun r_116 S_116 H locs he hW => ?_)
      obtain ⟨hr_116, hs⟩ := he
      rw [hs] at hW
      have zk := nm_at zk hr_116
      refine lv_lstore (lv' := [(4, .long r_116), (8, .int (nI n8)), (7, .int 8), (6, .ref (ad (gA 0))), (0, .ref (ad jO)), (3, .ref (ad (gM 0 k)))]) hx hb dX4_mixedWithMember_119 hl (by decide) rfl (fun ls hl => ?_)
      have hls := hl.1
      refine lv_lload hx hb dX4_mixedWithMember_121 (lv_at hl 0 rfl) ?_
      refine lv_aload_n hx hb dX4_mixedWithMember_123 rfl (lv_at hl 5 rfl) ?_
      refine x_calli hW (x_runVN B hW (As := []) (rest := .long r_116 :: []) (host := RX4) (hqM (by decide) hk) (cC_M (by decide) hk) cls2 (c_X2_nextLimit (D := D) (ad := ad) l _ S 0 k (by decide) hk) ⟨va_cnB 0 B.1.2.2.2.2 gX4_mixedWithMember_X2_nextLimit_n234 rfl rfl rfl (B.2.1.2 _ nl_X4_234) ki_X2 hd_X2_nextLimit.2 ⟨Nat.le_of_ble_eq_true rfl, Nat.le_of_ble_eq_true rfl⟩, kn_X2_nextLimit, kv_X2_nextLimit⟩ rfl hls (Nat.le_of_ble_eq_true rfl) dX4_mixedWithMember_124 ⟨Nat.zero_le _, Nat.zero_le _⟩) (fun r_124 S_124 H locs he hW => ?_)
      obtain ⟨hr_124, hs⟩ := he
      rw [hs] at hW
      have zk := nm_at zk hr_124
      refine lv_i2l hx hb dX4_mixedWithMember_127 rfl ?_
      refine x_calll hW (x_runS B hW (As := [.long r_116, .long r_124.toInt64]) (rest := []) (c_X4_mixed (D := D) (ad := ad) l _ S r_116 r_124.toInt64) (va_cwS 2 B.1.2.2.2.2 gX4_mixedWithMember_X4_mixed rfl rfl rfl hd_X4_mixed.2 ⟨Nat.le_of_ble_eq_true rfl, Nat.le_of_ble_eq_true rfl⟩) rfl hls (Nat.le_of_ble_eq_true rfl) dX4_mixedWithMember_128 ⟨Nat.zero_le _, Nat.zero_le _⟩) (fun r_128 S_128 H locs he hW => ?_)
      obtain ⟨hr_128, hs⟩ := he
      rw [hs] at hW
      have zk := nm_at zk hr_128
      exact x_lret B hW ⟨zk.symm, rfl⟩ dX4_mixedWithMember_131
    · have zk := zk.trans (if_neg c_63)
      have hb_c_63 : n8 < 8 := nI_of_nle (by decide) c_63 (by omega)
      refine lv_aload hx hb dX4_mixedWithMember_66 (lv_at hl 2 rfl) ?_
      refine lv_iload hx hb dX4_mixedWithMember_68 (lv_at hl 0 rfl) ?_
      refine x_aald B hW (hqA (by decide)) (cC_A (by decide)) (k := 2) rfl (isN_nI hb_c_63 (by decide)) (by decide) (by decide) (v := .ref (ad (gM 0 n8))) rfl dX4_mixedWithMember_70 ?_
      refine lv_astore (lv' := [(9, .ref (ad (gM 0 n8))), (8, .int (nI n8)), (7, .int 8), (6, .ref (ad (gA 0))), (4, .long v4), (0, .ref (ad jO)), (3, .ref (ad (gM 0 k)))]) hx hb dX4_mixedWithMember_71 hl (by decide) rfl (fun ls hl => ?_)
      have hls := hl.1
      refine lv_aload hx hb dX4_mixedWithMember_73 (lv_at hl 0 rfl) ?_
      refine x_getN B hW (hqM (by decide) hb_c_63) (cC_M (by decide) hb_c_63) cls2 hin_X2 1 (by decide) (v := .int (bz (S (gM 0 n8) 1))) rfl nl_X4_251 dX4_mixedWithMember_75 ?_
      refine lv_if_eq (tgt := 99) hx hb dX4_mixedWithMember_78 (by decide) (fun c_78 => ?_) (fun c_78 => ?_)
      · have zk := zk.trans (if_pos c_78)
        refine lv_iinc (v := (nI (n8 + 1))) (lv' := [(8, .int (nI (n8 + 1))), (9, .ref (ad (gM 0 n8))), (7, .int 8), (6, .ref (ad (gA 0))), (4, .long v4), (0, .ref (ad jO)), (3, .ref (ad (gM 0 k)))]) hx hb dX4_mixedWithMember_99 hl (k := 1) rfl (nI_1 _) (by decide) rfl (fun ls hl => ?_)
        have hls := hl.1
        refine lv_goto (tgt := 59) hx hb dX4_mixedWithMember_102 (by decide) ?_
        exact ih ((n8 + 1)) (v4)  _ _ _ (show (n8 + 1) ≤ 8 by omega) (show (n8 + 1) + n = 9 by omega) hW (lv_sub hl [0, 2, 3, 4, 5, 6] rfl) hls zk
      · have zk := zk.trans (if_neg c_78)
        refine lv_lload hx hb dX4_mixedWithMember_81 (lv_at hl 4 rfl) ?_
        refine lv_aload_n hx hb dX4_mixedWithMember_83 rfl (lv_at hl 6 rfl) ?_
        refine x_getN B hW (hqM (by decide) hk) (cC_M (by decide) hk) cls2 hin_X2 15 (by decide) (v := .ref (ad (gD 0 k))) rfl nl_X4_205 dX4_mixedWithMember_84 ?_
        refine lv_aload hx hb dX4_mixedWithMember_87 (lv_at hl 0 rfl) ?_
        refine x_getN B hW (hqM (by decide) hb_c_63) (cC_M (by decide) hb_c_63) cls2 hin_X2 0 (by decide) (v := .int (nI n8)) rfl nl_X4_208 dX4_mixedWithMember_89 ?_
        refine x_iald B hW (hqD (by decide) hk) (cC_D (by decide) hk) (isN_nI hb_c_63 (by decide)) (by decide) (by decide) dX4_mixedWithMember_92 ?_
        refine lv_i2l hx hb dX4_mixedWithMember_93 rfl ?_
        refine x_calll hW (x_runS B hW (As := [.long v4, .long (S (gD 0 k) n8).toInt64]) (rest := []) (c_X4_mixed (D := D) (ad := ad) l _ S v4 (S (gD 0 k) n8).toInt64) (va_cwS 2 B.1.2.2.2.2 gX4_mixedWithMember_X4_mixed rfl rfl rfl hd_X4_mixed.2 ⟨Nat.le_of_ble_eq_true rfl, Nat.le_of_ble_eq_true rfl⟩) rfl hls (Nat.le_of_ble_eq_true rfl) dX4_mixedWithMember_94 ⟨Nat.zero_le _, Nat.zero_le _⟩) (fun r_94 S_94 H locs he hW => ?_)
        obtain ⟨hr_94, hs⟩ := he
        rw [hs] at hW
        have zk := nm_at zk hr_94
        refine lv_lstore (lv' := [(4, .long r_94), (9, .ref (ad (gM 0 n8))), (8, .int (nI n8)), (7, .int 8), (6, .ref (ad (gA 0))), (0, .ref (ad jO)), (3, .ref (ad (gM 0 k)))]) hx hb dX4_mixedWithMember_97 hl (by decide) rfl (fun ls hl => ?_)
        have hls := hl.1
        refine lv_iinc (v := (nI (n8 + 1))) (lv' := [(8, .int (nI (n8 + 1))), (4, .long r_94), (9, .ref (ad (gM 0 n8))), (7, .int 8), (6, .ref (ad (gA 0))), (0, .ref (ad jO)), (3, .ref (ad (gM 0 k)))]) hx hb dX4_mixedWithMember_99 hl (k := 2) rfl (nI_1 _) (by decide) rfl (fun ls hl => ?_)
        have hls := hl.1
        refine lv_goto (tgt := 59) hx hb dX4_mixedWithMember_102 (by decide) ?_
        exact ih ((n8 + 1)) (r_94)  _ _ _ (show (n8 + 1) ≤ 8 by omega) (show (n8 + 1) + n = 9 by omega) hW (lv_sub hl [0, 3, 4, 1, 5, 6] rfl) hls zk
set_option maxHeartbeats 4000000 in
set_option maxRecDepth 100000 in
theorem w_X4_mixedWithMember_L14 {D : va_G} {ad : Nat → Nat} (l : Launch) {p : Program} {e : Env} {s : State} {mm : MethodId} {args : Array Value} {below : List Frame} {meth : Method} {c : Code} {A : Nat → Prop} (B : Cx p mm c cX4_mixedWithMember 10 s args wsX4_mixedWithMember RX4 meth (some .long) D) (S : vS) (z : Int64) (k : Nat) (p1 : Int64) (hk : k < 8) : ∀ (n : Nat) (n6 : Nat) (v4 : Int64) (H : Heap) (locs : List Loc) (ls : Array Slot), n6 ≤ 14 → n6 + n = 15 → Wd D 158 (cC D ad) ad A s.heap S H locs → lv_has ls 10 [(6, .int (nI n6)), (4, .long v4), (0, .ref (ad jO)), (3, .ref (ad (gM 0 k)))] → ls.size = 10 → z = x_X4_mixedWithMember_L14 n S k p1 n6 v4 → W p l e (rmD 4) s mm args below meth c H locs 0 0 (MQ below (va_Ql (fun (r : Int64) (S1 : vS) => r = z ∧ S1 = S) (bW D 158 (cC D ad) ad A) A) args s 0 0 A) (F0 mm 14 ls []) := by
  have hx := B.1.1
  have hb := B.1.2.1
  have hin_X0 : ∀ w ∈ wsX00, w ∈ wsX4_mixedWithMember := fun w h => List.mem_cons_of_mem _ (List.mem_append_right _ h)
  have hin_X2 : ∀ w ∈ wsX20, w ∈ wsX4_mixedWithMember := fun w h => List.mem_cons_of_mem _ (List.mem_append_left _ (List.mem_append_left _ (List.mem_append_right _ h)))
  have hin_X4 : ∀ w ∈ wsX40, w ∈ wsX4_mixedWithMember := fun w h => List.mem_cons_of_mem _ (List.mem_append_left _ (List.mem_append_right _ h))
  have k_10 := B.1.2.2.2.2 (.fieldLink RX4 10 "JointLoans" "group" "LJointLoans$Group;") (by decide +kernel)
  have ki_X0 := B.1.2.2.2.2 (.initialized RX0) (by decide +kernel)
  have ki_X2 := B.1.2.2.2.2 (.initialized RX2) (by decide +kernel)
  have kn_X0_weeksOfFund := B.1.2.2.2.2 (.instanceMethod yX0_weeksOfFund) (by decide +kernel)
  have kn_X2_nextLimit := B.1.2.2.2.2 (.instanceMethod yX2_nextLimit) (by decide +kernel)
  have kv_X0_weeksOfFund := B.1.2.2.2.2 (.selects RX0 yX0_weeksOfFund yX0_weeksOfFund) (by decide +kernel)
  have kv_X2_nextLimit := B.1.2.2.2.2 (.selects RX2 yX2_nextLimit yX2_nextLimit) (by decide +kernel)
  intro n
  induction n with
  | zero =>
    intro n6 v4 H locs ls hle hsum
    omega
  | succ n ih =>
    intro n6 v4 H locs ls hle hsum hW hl hls zk
    have zk := zk.trans (x_X4_mixedWithMember_L14.eq_2 _ _ _ _ _ _ )
    refine lv_iload hx hb dX4_mixedWithMember_14 (lv_at hl 0 rfl) ?_
    refine lv_bipush (v := 14) hx hb dX4_mixedWithMember_16 (by decide) ?_
    refine lv_icmp_ge (tgt := 42) hx hb dX4_mixedWithMember_18 (by decide) (fun c_18 => ?_) (fun c_18 => ?_)
    · have zk := zk.trans (if_pos c_18)
      refine lv_aload_n hx hb dX4_mixedWithMember_42 rfl (lv_at hl 2 rfl) ?_
      refine x_get B hW hqj cC_j cls4 hin_X4 0 (by decide) (v := .ref (ad (gG 0))) rfl k_10 dX4_mixedWithMember_43 ?_
      refine x_getN B hW (hqG (by decide)) (cC_G (by decide)) cls0 hin_X0 0 (by decide) (v := .ref (ad (gA 0))) rfl nl_X4_247 dX4_mixedWithMember_46 ?_
      refine lv_astore (lv' := [(6, .ref (ad (gA 0))), (4, .long v4), (0, .ref (ad jO)), (3, .ref (ad (gM 0 k)))]) hx hb dX4_mixedWithMember_49 hl (by decide) rfl (fun ls hl => ?_)
      have hls := hl.1
      refine lv_aload hx hb dX4_mixedWithMember_51 (lv_at hl 0 rfl) ?_
      refine x_alen B hW (hqA (by decide)) (cC_A (by decide)) (k := 2) rfl (v := 8) rfl dX4_mixedWithMember_53 ?_
      refine lv_istore (lv' := [(7, .int 8), (6, .ref (ad (gA 0))), (4, .long v4), (0, .ref (ad jO)), (3, .ref (ad (gM 0 k)))]) hx hb dX4_mixedWithMember_54 hl (by decide) rfl (fun ls hl => ?_)
      have hls := hl.1
      refine lv_iconst (v := 0) hx hb dX4_mixedWithMember_56 (by decide) ?_
      refine lv_istore (lv' := [(8, .int 0), (7, .int 8), (6, .ref (ad (gA 0))), (4, .long v4), (0, .ref (ad jO)), (3, .ref (ad (gM 0 k)))]) hx hb dX4_mixedWithMember_57 hl (by decide) rfl (fun ls hl => ?_)
      have hls := hl.1
      exact w_X4_mixedWithMember_L59 l B S _ k p1 hk (9) (0) (v4)  _ _ _ (show 0 ≤ 8 by omega) (show 0 + (9) = 9 by omega) hW (lv_sub hl [0, 1, 2, 3, 4, 5] rfl) hls zk
    · have zk := zk.trans (if_neg c_18)
      have hb_c_18 : n6 < 14 := nI_of_nle (by decide) c_18 (by omega)
      refine lv_lload hx hb dX4_mixedWithMember_21 (lv_at hl 1 rfl) ?_
      refine lv_aload_n hx hb dX4_mixedWithMember_23 rfl (lv_at hl 2 rfl) ?_
      refine lv_aload_n hx hb dX4_mixedWithMember_24 rfl (lv_at hl 3 rfl) ?_
      refine lv_iload hx hb dX4_mixedWithMember_25 (lv_at hl 0 rfl) ?_
      refine x_calli hW (x_runV B hW (As := [.ref (ad (gM 0 k)), .int (nI n6)]) (rest := .long v4 :: []) hqj cC_j cls4 (c_X4_propertyOf (D := D) (ad := ad) l _ S k (nI n6) hk) (cwV 2 B.1.2.2.2.2 gX4_mixedWithMember_X4_propertyOf rfl rfl rfl hd_X4_propertyOf ⟨Nat.le_of_ble_eq_true rfl, Nat.le_of_ble_eq_true rfl⟩) rfl hls (Nat.le_of_ble_eq_true rfl) dX4_mixedWithMember_27 ⟨Nat.zero_le _, Nat.zero_le _⟩) (fun r_27 S_27 H locs he hW => ?_)
      obtain ⟨hr_27, hs⟩ := he
      rw [hs] at hW
      have zk := nm_at zk hr_27
      refine lv_i2l hx hb dX4_mixedWithMember_30 rfl ?_
      refine x_calll hW (x_runS B hW (As := [.long v4, .long r_27.toInt64]) (rest := []) (c_X4_mixed (D := D) (ad := ad) l _ S v4 r_27.toInt64) (va_cwS 2 B.1.2.2.2.2 gX4_mixedWithMember_X4_mixed rfl rfl rfl hd_X4_mixed.2 ⟨Nat.le_of_ble_eq_true rfl, Nat.le_of_ble_eq_true rfl⟩) rfl hls (Nat.le_of_ble_eq_true rfl) dX4_mixedWithMember_31 ⟨Nat.zero_le _, Nat.zero_le _⟩) (fun r_31 S_31 H locs he hW => ?_)
      obtain ⟨hr_31, hs⟩ := he
      rw [hs] at hW
      have zk := nm_at zk hr_31
      refine lv_lstore (lv' := [(4, .long r_31), (6, .int (nI n6)), (0, .ref (ad jO)), (3, .ref (ad (gM 0 k)))]) hx hb dX4_mixedWithMember_34 hl (by decide) rfl (fun ls hl => ?_)
      have hls := hl.1
      refine lv_iinc (v := (nI (n6 + 1))) (lv' := [(6, .int (nI (n6 + 1))), (4, .long r_31), (0, .ref (ad jO)), (3, .ref (ad (gM 0 k)))]) hx hb dX4_mixedWithMember_36 hl (k := 1) rfl (nI_1 _) (by decide) rfl (fun ls hl => ?_)
      have hls := hl.1
      refine lv_goto (tgt := 14) hx hb dX4_mixedWithMember_39 (by decide) ?_
      exact ih ((n6 + 1)) (r_31)  _ _ _ (show (n6 + 1) ≤ 14 by omega) (show (n6 + 1) + n = 15 by omega) hW (lv_sub hl [0, 1, 2, 3] rfl) hls zk
set_option maxHeartbeats 4000000 in
set_option maxRecDepth 100000 in
theorem c_X4_mixedWithMember {D : va_G} {ad : Nat → Nat} (l : Launch) (sz : Nat) (S : vS) (k : Nat) (p1 : Int64) (hk : k < 8) : Met l yX4_mixedWithMember wsX4_mixedWithMember (rmD 4) (pW D 158 (cC D ad) ad sz S [.ref (ad jO), .long p1, .ref (ad (gM 0 k))]) (va_Ql (fun (r : Int64) (S1 : vS) => r = (x_X4_mixedWithMember S k p1) ∧ S1 = S) (bW D 158 (cC D ad) ad (aW 158 ad sz)) (aW 158 ad sz)) 0 0 (aW 158 ad sz) := by
  refine x_met (own := RX4) (cc := cX4_mixedWithMember) (maxL := 10) (ret := (some .long)) (Qc := fun A => va_Ql (fun (r : Int64) (S1 : vS) => r = (x_X4_mixedWithMember S k p1) ∧ S1 = S) (bW D 158 (cC D ad) ad A) A) rfl ⟨by decide +kernel, rfl, Nat.le_of_ble_eq_true rfl⟩ ?_
  intro p e s mm args below meth c A ls B hW hl hls
  have hx := B.1.1
  have hb := B.1.2.1
  have hin_X0 : ∀ w ∈ wsX00, w ∈ wsX4_mixedWithMember := fun w h => List.mem_cons_of_mem _ (List.mem_append_right _ h)
  have hin_X2 : ∀ w ∈ wsX20, w ∈ wsX4_mixedWithMember := fun w h => List.mem_cons_of_mem _ (List.mem_append_left _ (List.mem_append_left _ (List.mem_append_right _ h)))
  have hin_X4 : ∀ w ∈ wsX40, w ∈ wsX4_mixedWithMember := fun w h => List.mem_cons_of_mem _ (List.mem_append_left _ (List.mem_append_right _ h))
  have k_10 := B.1.2.2.2.2 (.fieldLink RX4 10 "JointLoans" "group" "LJointLoans$Group;") (by decide +kernel)
  have ki_X0 := B.1.2.2.2.2 (.initialized RX0) (by decide +kernel)
  have ki_X2 := B.1.2.2.2.2 (.initialized RX2) (by decide +kernel)
  have kn_X0_weeksOfFund := B.1.2.2.2.2 (.instanceMethod yX0_weeksOfFund) (by decide +kernel)
  have kn_X2_nextLimit := B.1.2.2.2.2 (.instanceMethod yX2_nextLimit) (by decide +kernel)
  have kv_X0_weeksOfFund := B.1.2.2.2.2 (.selects RX0 yX0_weeksOfFund yX0_weeksOfFund) (by decide +kernel)
  have kv_X2_nextLimit := B.1.2.2.2.2 (.selects RX2 yX2_nextLimit yX2_nextLimit) (by decide +kernel)
  have zk := x_X4_mixedWithMember.eq_1 S k p1
  have hl : lv_has ls 10 [(0, .ref (ad jO)), (1, .long p1), (3, .ref (ad (gM 0 k)))] := hl
  refine lv_lload_n hx hb dX4_mixedWithMember_0 rfl (lv_at hl 1 rfl) ?_
  refine lv_aload_n hx hb dX4_mixedWithMember_1 rfl (lv_at hl 2 rfl) ?_
  refine x_getN B hW (hqM (by decide) hk) (cC_M (by decide) hk) cls2 hin_X2 0 (by decide) (v := .int (nI k)) rfl nl_X4_208 dX4_mixedWithMember_2 ?_
  refine lv_i2l hx hb dX4_mixedWithMember_5 rfl ?_
  refine x_calll hW (x_runS B hW (As := [.long p1, .long (nI k).toInt64]) (rest := []) (c_X4_mixed (D := D) (ad := ad) l _ S p1 (nI k).toInt64) (va_cwS 2 B.1.2.2.2.2 gX4_mixedWithMember_X4_mixed rfl rfl rfl hd_X4_mixed.2 ⟨Nat.le_of_ble_eq_true rfl, Nat.le_of_ble_eq_true rfl⟩) rfl hls (Nat.le_of_ble_eq_true rfl) dX4_mixedWithMember_6 ⟨Nat.zero_le _, Nat.zero_le _⟩) (fun r_6 S_6 H locs he hW => ?_)
  obtain ⟨hr_6, hs⟩ := he
  rw [hs] at hW
  have zk := nm_at zk hr_6
  refine lv_lstore (lv' := [(4, .long r_6), (0, .ref (ad jO)), (1, .long p1), (3, .ref (ad (gM 0 k)))]) hx hb dX4_mixedWithMember_9 hl (by decide) rfl (fun ls hl => ?_)
  have hls := hl.1
  refine lv_iconst (v := 0) hx hb dX4_mixedWithMember_11 (by decide) ?_
  refine lv_istore (lv' := [(6, .int 0), (4, .long r_6), (0, .ref (ad jO)), (1, .long p1), (3, .ref (ad (gM 0 k)))]) hx hb dX4_mixedWithMember_12 hl (by decide) rfl (fun ls hl => ?_)
  have hls := hl.1
  exact w_X4_mixedWithMember_L14 l B S _ k p1 hk (15) (0) (r_6)  _ _ _ (show 0 ≤ 14 by omega) (show 0 + (15) = 15 by omega) hW (lv_sub hl [0, 1, 2, 4] rfl) hls zk

def x_X4_mixedWithOutcomes_L11 : Nat → vS → Int64 → Int32 → Nat → Int64 → (Int64 × vS)
  | 0, S, _, _, _, _ => (0, S)
  | n + 1, S, p1, p2, n6, v4 => if 5 ≤ (nI n6) then (v4, S) else nm (x_X4_outcome S (nI n6)) (fun r_22 => nm (x_X4_mixed S v4 r_22.toInt64) (fun r_26 => x_X4_mixedWithOutcomes_L11 n S p1 p2 ((n6 + 1)) (r_26)))
def x_X4_mixedWithOutcomes (S : vS) (p1 : Int64) (p2 : Int32) : (Int64 × vS) := nm (x_X4_tryWeek S p2) (fun S_5 => x_X4_mixedWithOutcomes_L11 (6) S_5 p1 p2 (0) (p1))
theorem hd_X4_mixedWithOutcomes : yX4_mixedWithOutcomes.cls = RX4 ∧ yX4_mixedWithOutcomes.cls ≠ "java/lang/invoke/MethodHandle" ∧ yX4_mixedWithOutcomes.cls ≠ "java/lang/invoke/VarHandle" ∧ (parseMethodDescriptor yX4_mixedWithOutcomes.desc).map (fun d => d.parameters.length) = some 2 := by decide +kernel
set_option maxHeartbeats 4000000 in
set_option maxRecDepth 100000 in
theorem w_X4_mixedWithOutcomes_L11 {D : va_G} {ad : Nat → Nat} (l : Launch) {p : Program} {e : Env} {s : State} {mm : MethodId} {args : Array Value} {below : List Frame} {meth : Method} {c : Code} {A : Nat → Prop} (B : Cx p mm c cX4_mixedWithOutcomes 7 s args wsX4_mixedWithOutcomes RX4 meth (some .long) D) (z : (Int64 × vS)) (p1 : Int64) (p2 : Int32) : ∀ (n : Nat) (n6 : Nat) (v4 : Int64) (S : vS) (H : Heap) (locs : List Loc) (ls : Array Slot), n6 ≤ 5 → n6 + n = 6 → Wd D 158 (cC D ad) ad A s.heap S H locs → lv_has ls 7 [(6, .int (nI n6)), (4, .long v4), (0, .ref (ad jO))] → ls.size = 7 → z = x_X4_mixedWithOutcomes_L11 n S p1 p2 n6 v4 → W p l e (rmD 5) s mm args below meth c H locs 0 0 (MQ below (va_Ql (fun (r : Int64) (S1 : vS) => (r, S1) = z) (bW D 158 (cC D ad) ad A) A) args s 0 0 A) (F0 mm 11 ls []) := by
  have hx := B.1.1
  have hb := B.1.2.1
  intro n
  induction n with
  | zero =>
    intro n6 v4 S H locs ls hle hsum
    omega
  | succ n ih =>
    intro n6 v4 S H locs ls hle hsum hW hl hls zk
    have zk := zk.trans (x_X4_mixedWithOutcomes_L11.eq_2 _ _ _ _ _ _ )
    refine lv_iload hx hb dX4_mixedWithOutcomes_11 (lv_at hl 0 rfl) ?_
    refine lv_iconst (v := 5) hx hb dX4_mixedWithOutcomes_13 (by decide) ?_
    refine lv_icmp_ge (tgt := 37) hx hb dX4_mixedWithOutcomes_14 (by decide) (fun c_14 => ?_) (fun c_14 => ?_)
    · have zk := zk.trans (if_pos c_14)
      refine lv_lload hx hb dX4_mixedWithOutcomes_37 (lv_at hl 1 rfl) ?_
      exact x_lret B hW zk.symm dX4_mixedWithOutcomes_39
    · have zk := zk.trans (if_neg c_14)
      have hb_c_14 : n6 < 5 := nI_of_nle (by decide) c_14 (by omega)
      refine lv_lload hx hb dX4_mixedWithOutcomes_17 (lv_at hl 1 rfl) ?_
      refine lv_aload_n hx hb dX4_mixedWithOutcomes_19 rfl (lv_at hl 2 rfl) ?_
      refine lv_iload hx hb dX4_mixedWithOutcomes_20 (lv_at hl 0 rfl) ?_
      refine x_calli hW (x_runV B hW (As := [.int (nI n6)]) (rest := .long v4 :: []) hqj cC_j cls4 (c_X4_outcome (D := D) (ad := ad) l _ S (nI n6)) (cwV 1 B.1.2.2.2.2 gX4_mixedWithOutcomes_X4_outcome rfl rfl rfl hd_X4_outcome ⟨Nat.le_of_ble_eq_true rfl, Nat.le_of_ble_eq_true rfl⟩) rfl hls (Nat.le_of_ble_eq_true rfl) dX4_mixedWithOutcomes_22 ⟨Nat.zero_le _, Nat.zero_le _⟩) (fun r_22 S_22 H locs he hW => ?_)
      obtain ⟨hr_22, hs⟩ := he
      rw [hs] at hW
      have zk := nm_at zk hr_22
      refine lv_i2l hx hb dX4_mixedWithOutcomes_25 rfl ?_
      refine x_calll hW (x_runS B hW (As := [.long v4, .long r_22.toInt64]) (rest := []) (c_X4_mixed (D := D) (ad := ad) l _ S v4 r_22.toInt64) (va_cwS 2 B.1.2.2.2.2 gX4_mixedWithOutcomes_X4_mixed rfl rfl rfl hd_X4_mixed.2 ⟨Nat.le_of_ble_eq_true rfl, Nat.le_of_ble_eq_true rfl⟩) rfl hls (Nat.le_of_ble_eq_true rfl) dX4_mixedWithOutcomes_26 ⟨Nat.zero_le _, Nat.zero_le _⟩) (fun r_26 S_26 H locs he hW => ?_)
      obtain ⟨hr_26, hs⟩ := he
      rw [hs] at hW
      have zk := nm_at zk hr_26
      refine lv_lstore (lv' := [(4, .long r_26), (6, .int (nI n6)), (0, .ref (ad jO))]) hx hb dX4_mixedWithOutcomes_29 hl (by decide) rfl (fun ls hl => ?_)
      have hls := hl.1
      refine lv_iinc (v := (nI (n6 + 1))) (lv' := [(6, .int (nI (n6 + 1))), (4, .long r_26), (0, .ref (ad jO))]) hx hb dX4_mixedWithOutcomes_31 hl (k := 1) rfl (nI_1 _) (by decide) rfl (fun ls hl => ?_)
      have hls := hl.1
      refine lv_goto (tgt := 11) hx hb dX4_mixedWithOutcomes_34 (by decide) ?_
      exact ih ((n6 + 1)) (r_26) S _ _ _ (show (n6 + 1) ≤ 5 by omega) (show (n6 + 1) + n = 6 by omega) hW (lv_sub hl [0, 1, 2] rfl) hls zk
set_option maxHeartbeats 4000000 in
set_option maxRecDepth 100000 in
theorem c_X4_mixedWithOutcomes {D : va_G} {ad : Nat → Nat} (l : Launch) (sz : Nat) (S : vS) (p1 : Int64) (p2 : Int32) : Met l yX4_mixedWithOutcomes wsX4_mixedWithOutcomes (rmD 5) (pW D 158 (cC D ad) ad sz S [.ref (ad jO), .long p1, .int p2]) (va_Ql (fun (r : Int64) (S1 : vS) => (r, S1) = (x_X4_mixedWithOutcomes S p1 p2)) (bW D 158 (cC D ad) ad (aW 158 ad sz)) (aW 158 ad sz)) 0 0 (aW 158 ad sz) := by
  refine x_met (own := RX4) (cc := cX4_mixedWithOutcomes) (maxL := 7) (ret := (some .long)) (Qc := fun A => va_Ql (fun (r : Int64) (S1 : vS) => (r, S1) = (x_X4_mixedWithOutcomes S p1 p2)) (bW D 158 (cC D ad) ad A) A) rfl ⟨by decide +kernel, rfl, Nat.le_of_ble_eq_true rfl⟩ ?_
  intro p e s mm args below meth c A ls B hW hl hls
  have hx := B.1.1
  have hb := B.1.2.1
  have zk := x_X4_mixedWithOutcomes.eq_1 S p1 p2
  have hl : lv_has ls 7 [(0, .ref (ad jO)), (1, .long p1), (3, .int p2)] := hl
  refine lv_lload_n hx hb dX4_mixedWithOutcomes_0 rfl (lv_at hl 1 rfl) ?_
  refine lv_lstore (lv' := [(4, .long p1), (0, .ref (ad jO)), (1, .long p1), (3, .int p2)]) hx hb dX4_mixedWithOutcomes_1 hl (by decide) rfl (fun ls hl => ?_)
  have hls := hl.1
  refine lv_aload_n hx hb dX4_mixedWithOutcomes_3 rfl (lv_at hl 1 rfl) ?_
  refine lv_iload_n hx hb dX4_mixedWithOutcomes_4 rfl (lv_at hl 3 rfl) ?_
  refine x_callv hW (x_runV B hW (As := [.int p2]) (rest := []) hqj cC_j cls4 (c_X4_tryWeek (D := D) (ad := ad) l _ S p2) (cwV 1 B.1.2.2.2.2 gX4_mixedWithOutcomes_X4_tryWeek rfl rfl rfl hd_X4_tryWeek ⟨Nat.le_of_ble_eq_true rfl, Nat.le_of_ble_eq_true rfl⟩) rfl hls (Nat.le_of_ble_eq_true rfl) dX4_mixedWithOutcomes_5 ⟨Nat.zero_le _, Nat.zero_le _⟩) (fun S_5 H locs he hW => ?_)
  have he_5 := he
  have zk := nm_at zk he_5
  refine lv_iconst (v := 0) hx hb dX4_mixedWithOutcomes_8 (by decide) ?_
  refine lv_istore (lv' := [(6, .int 0), (4, .long p1), (0, .ref (ad jO)), (1, .long p1), (3, .int p2)]) hx hb dX4_mixedWithOutcomes_9 hl (by decide) rfl (fun ls hl => ?_)
  have hls := hl.1
  exact w_X4_mixedWithOutcomes_L11 l B  _ p1 p2 (6) (0) (p1) S_5 _ _ _ (show 0 ≤ 5 by omega) (show 0 + (6) = 6 by omega) hW (lv_sub hl [0, 1, 2] rfl) hls zk
section FRMW
variable {S : vS} {q g : Nat}
theorem fr_st {q q' j : Nat} {x : Int32} (h : q' ≠ q) : st S q j x q' = S q' := by
  funext i
  rw [st_at, if_neg (fun z => h z.1)]
theorem fr_cpy {q0 q1 n q' : Nat} (h : q' ≠ q1) : cpy S q0 q1 n q' = S q' := by
  unfold cpy va_up
  rw [if_neg h]
theorem fr_cp2 {k g2 k2 : Nat} (hk : k < 8) (h : ¬ (19 * g ≤ q ∧ q < 19 * g + 19)) : x_X2_copyFrom S g k g2 k2 q = S q := by
  have h1 : q ≠ gM g k := by unfold gM; omega
  have h2 : q ≠ gD g k := by unfold gD; omega
  unfold x_X2_copyFrom
  simp only [nm_eq]
  rw [fr_cpy h2]
  repeat rw [fr_st h1]
theorem fr_cpL {g2 : Nat} (h : ¬ (19 * g ≤ q ∧ q < 19 * g + 19)) : ∀ (n i : Nat) (S : vS), i + n = 8 → x_X0_copyFrom_L2 (n + 1) S g g2 i q = S q := by
  have h1 : q ≠ gG g := by unfold gG; omega
  have h2 : q ≠ gS g := by unfold gS; omega
  intro n
  induction n with
  | zero =>
    intro i S hi
    obtain rfl : i = 8 := by omega
    rw [x_X0_copyFrom_L2.eq_2, if_pos (by decide)]
    simp only [nm_eq]
    repeat rw [fr_st h1]
    rw [fr_cpy h2]
  | succ n ih =>
    intro i S hi
    have hc : ¬ (8 : Int32) ≤ nI i := fun q => absurd (nI_of_le (a := 8) (b := i) (by omega) q (by decide)) (by omega)
    rw [x_X0_copyFrom_L2.eq_2, if_neg hc, nm_eq, ih (i + 1) _ (by omega), fr_cp2 (by omega) h]
theorem fr_try (S : vS) (p : Int32) : ∀ q, ¬ (19 ≤ q ∧ q < 38) → x_X4_tryWeek S p q = S q := by
  intro q hq
  have h1 : ¬ (19 * 1 ≤ q ∧ q < 19 * 1 + 19) := by omega
  unfold x_X4_tryWeek
  simp only [nm_eq]
  rw [← emb_cv (x_X0_letBeAway (x_X0_copyFrom S 1 0) 1 p) 1, e_X0_endWeek]
  have e1 : ∀ S : vS, ∀ F, emb S 1 F q = S q := fun S F => by funext j; exact emb_out h1
  rw [e1]
  rw [← emb_cv (x_X0_copyFrom S 1 0) 1, e_X0_letBeAway, e1]
  exact fr_cpL h1 8 0 S rfl
theorem fr_mwL (p1 : Int64) (p2 : Int32) : ∀ (n i : Nat) (v : Int64) (S : vS), (x_X4_mixedWithOutcomes_L11 n S p1 p2 i v).2 = S := by
  intro n
  induction n with
  | zero => intro i v S; rfl
  | succ n ih =>
    intro i v S
    rw [x_X4_mixedWithOutcomes_L11.eq_2]
    split
    · rfl
    · simp only [nm_eq]; exact ih _ _ S
theorem fr_mwo (S : vS) (p1 : Int64) (p2 : Int32) : ∀ q, ¬ (19 ≤ q ∧ q < 38) → (x_X4_mixedWithOutcomes S p1 p2).2 q = S q := by
  intro q hq
  unfold x_X4_mixedWithOutcomes
  rw [nm_eq, fr_mwL]
  exact fr_try S p2 q hq
end FRMW
theorem dg_sh {S S1 S2 S3 : vS} {a1 a2 a3 : Int64} {b1 b2 b3 : Int32} {r : UInt64} (h1 : S1 = (x_X4_mixedWithOutcomes S a1 b1).2) (h2 : S2 = (x_X4_mixedWithOutcomes S1 a2 b2).2) (h3 : S3 = (x_X4_mixedWithOutcomes S2 a3 b3).2) (hr : r = x_X0_shareOfPaid S3 0) (h : shN (x_X0_shareOfPaid S 0)) : shN r := by
  have e : S3 (gG 0) = S (gG 0) := by
    rw [h3, fr_mwo _ _ _ _ (by decide), h2, fr_mwo _ _ _ _ (by decide), h1, fr_mwo _ _ _ _ (by decide)]
  have e2 : x_X0_shareOfPaid S3 0 = x_X0_shareOfPaid S 0 := by
    unfold x_X0_shareOfPaid
    simp only [nm_eq, e]
  rw [hr, e2]
  exact h

def x_X4_mixedWithText_L16 : Nat → vS → Int64 → Nat → Int64 → Int64
  | 0, S, _, _, _ => 0
  | n + 1, S, p1, n5, v3 => if (S tO 1) ≤ (nI n5) then v3 else if 60 ≤ (nI n5) then v3 else nm (x_X4_mixed S v3 (S tC n5).toInt64) (fun r_47 => x_X4_mixedWithText_L16 n S p1 ((n5 + 1)) (r_47))
def x_X4_mixedWithText (S : vS) (p1 : Int64) : Int64 := nm (x_X4_mixed S p1 (S tO 1).toInt64) (fun r_9 => x_X4_mixedWithText_L16 (61) S p1 (0) (r_9))
theorem hd_X4_mixedWithText : yX4_mixedWithText.cls = RX4 ∧ yX4_mixedWithText.cls ≠ "java/lang/invoke/MethodHandle" ∧ yX4_mixedWithText.cls ≠ "java/lang/invoke/VarHandle" ∧ (parseMethodDescriptor yX4_mixedWithText.desc).map (fun d => d.parameters.length) = some 1 := by decide +kernel
set_option maxHeartbeats 4000000 in
set_option maxRecDepth 100000 in
theorem w_X4_mixedWithText_L16 {D : va_G} {ad : Nat → Nat} (l : Launch) {p : Program} {e : Env} {s : State} {mm : MethodId} {args : Array Value} {below : List Frame} {meth : Method} {c : Code} {A : Nat → Prop} (B : Cx p mm c cX4_mixedWithText 6 s args wsX4_mixedWithText RX4 meth (some .long) D) (S : vS) (z : Int64) (p1 : Int64) : ∀ (n : Nat) (n5 : Nat) (v3 : Int64) (H : Heap) (locs : List Loc) (ls : Array Slot), n5 ≤ 60 → n5 + n = 61 → Wd D 158 (cC D ad) ad A s.heap S H locs → lv_has ls 6 [(5, .int (nI n5)), (3, .long v3), (0, .ref (ad jO))] → ls.size = 6 → z = x_X4_mixedWithText_L16 n S p1 n5 v3 → W p l e (rmD 1) s mm args below meth c H locs 0 0 (MQ below (va_Ql (fun (r : Int64) (S1 : vS) => r = z ∧ S1 = S) (bW D 158 (cC D ad) ad A) A) args s 0 0 A) (F0 mm 16 ls []) := by
  have hx := B.1.1
  have hb := B.1.2.1
  have hin_X3 : ∀ w ∈ wsX30, w ∈ wsX4_mixedWithText := fun w h => List.mem_cons_of_mem _ (List.mem_append_right _ h)
  have hin_X4 : ∀ w ∈ wsX40, w ∈ wsX4_mixedWithText := fun w h => List.mem_cons_of_mem _ (List.mem_append_left _ (List.mem_append_right _ h))
  have k_29 := B.1.2.2.2.2 (.fieldLink RX4 29 "JointLoans" "text" "LJointLoans$OrderText;") (by decide +kernel)
  intro n
  induction n with
  | zero =>
    intro n5 v3 H locs ls hle hsum
    omega
  | succ n ih =>
    intro n5 v3 H locs ls hle hsum hW hl hls zk
    have zk := zk.trans (x_X4_mixedWithText_L16.eq_2 _ _ _ _ _ )
    refine lv_iload hx hb dX4_mixedWithText_16 (lv_at hl 0 rfl) ?_
    refine lv_aload_n hx hb dX4_mixedWithText_18 rfl (lv_at hl 2 rfl) ?_
    refine x_get B hW hqj cC_j cls4 hin_X4 3 (by decide) (v := .ref (ad tO)) rfl k_29 dX4_mixedWithText_19 ?_
    refine x_getN B hW hqt cC_t cls3 hin_X3 1 (by decide) (v := .int (S tO 1)) rfl nl_X4_159 dX4_mixedWithText_22 ?_
    refine lv_icmp_ge (tgt := 57) hx hb dX4_mixedWithText_25 (by decide) (fun c_25 => ?_) (fun c_25 => ?_)
    · have zk := zk.trans (if_pos c_25)
      refine lv_lload_n hx hb dX4_mixedWithText_57 rfl (lv_at hl 1 rfl) ?_
      exact x_lret B hW ⟨zk.symm, rfl⟩ dX4_mixedWithText_58
    · have zk := zk.trans (if_neg c_25)
      refine lv_iload hx hb dX4_mixedWithText_28 (lv_at hl 0 rfl) ?_
      refine lv_bipush (v := 60) hx hb dX4_mixedWithText_30 (by decide) ?_
      refine lv_icmp_ge (tgt := 57) hx hb dX4_mixedWithText_32 (by decide) (fun c_32 => ?_) (fun c_32 => ?_)
      · have zk := zk.trans (if_pos c_32)
        refine lv_lload_n hx hb dX4_mixedWithText_57 rfl (lv_at hl 1 rfl) ?_
        exact x_lret B hW ⟨zk.symm, rfl⟩ dX4_mixedWithText_58
      · have zk := zk.trans (if_neg c_32)
        have hb_c_32 : n5 < 60 := nI_of_nle (by decide) c_32 (by omega)
        refine lv_lload_n hx hb dX4_mixedWithText_35 rfl (lv_at hl 1 rfl) ?_
        refine lv_aload_n hx hb dX4_mixedWithText_36 rfl (lv_at hl 2 rfl) ?_
        refine x_get B hW hqj cC_j cls4 hin_X4 3 (by decide) (v := .ref (ad tO)) rfl k_29 dX4_mixedWithText_37 ?_
        refine x_getN B hW hqt cC_t cls3 hin_X3 0 (by decide) (v := .ref (ad tC)) rfl nl_X4_337 dX4_mixedWithText_40 ?_
        refine lv_iload hx hb dX4_mixedWithText_43 (lv_at hl 0 rfl) ?_
        refine x_cald B hW hqc cC_c (isN_nI hb_c_32 (by decide)) (by decide) (by decide) dX4_mixedWithText_45 ?_
        refine lv_i2l hx hb dX4_mixedWithText_46 rfl ?_
        refine x_calll hW (x_runS B hW (As := [.long v3, .long (S tC n5).toInt64]) (rest := []) (c_X4_mixed (D := D) (ad := ad) l _ S v3 (S tC n5).toInt64) (va_cwS 2 B.1.2.2.2.2 gX4_mixedWithText_X4_mixed rfl rfl rfl hd_X4_mixed.2 ⟨Nat.le_of_ble_eq_true rfl, Nat.le_of_ble_eq_true rfl⟩) rfl hls (Nat.le_of_ble_eq_true rfl) dX4_mixedWithText_47 ⟨Nat.zero_le _, Nat.zero_le _⟩) (fun r_47 S_47 H locs he hW => ?_)
        obtain ⟨hr_47, hs⟩ := he
        rw [hs] at hW
        have zk := nm_at zk hr_47
        refine lv_lstore_n (lv' := [(3, .long r_47), (5, .int (nI n5)), (0, .ref (ad jO))]) hx hb dX4_mixedWithText_50 rfl hl (by decide) rfl (fun ls hl => ?_)
        have hls := hl.1
        refine lv_iinc (v := (nI (n5 + 1))) (lv' := [(5, .int (nI (n5 + 1))), (3, .long r_47), (0, .ref (ad jO))]) hx hb dX4_mixedWithText_51 hl (k := 1) rfl (nI_1 _) (by decide) rfl (fun ls hl => ?_)
        have hls := hl.1
        refine lv_goto (tgt := 16) hx hb dX4_mixedWithText_54 (by decide) ?_
        exact ih ((n5 + 1)) (r_47)  _ _ _ (show (n5 + 1) ≤ 60 by omega) (show (n5 + 1) + n = 61 by omega) hW (lv_sub hl [0, 1, 2] rfl) hls zk
set_option maxHeartbeats 4000000 in
set_option maxRecDepth 100000 in
theorem c_X4_mixedWithText {D : va_G} {ad : Nat → Nat} (l : Launch) (sz : Nat) (S : vS) (p1 : Int64) : Met l yX4_mixedWithText wsX4_mixedWithText (rmD 1) (pW D 158 (cC D ad) ad sz S [.ref (ad jO), .long p1]) (va_Ql (fun (r : Int64) (S1 : vS) => r = (x_X4_mixedWithText S p1) ∧ S1 = S) (bW D 158 (cC D ad) ad (aW 158 ad sz)) (aW 158 ad sz)) 0 0 (aW 158 ad sz) := by
  refine x_met (own := RX4) (cc := cX4_mixedWithText) (maxL := 6) (ret := (some .long)) (Qc := fun A => va_Ql (fun (r : Int64) (S1 : vS) => r = (x_X4_mixedWithText S p1) ∧ S1 = S) (bW D 158 (cC D ad) ad A) A) rfl ⟨by decide +kernel, rfl, Nat.le_of_ble_eq_true rfl⟩ ?_
  intro p e s mm args below meth c A ls B hW hl hls
  have hx := B.1.1
  have hb := B.1.2.1
  have hin_X3 : ∀ w ∈ wsX30, w ∈ wsX4_mixedWithText := fun w h => List.mem_cons_of_mem _ (List.mem_append_right _ h)
  have hin_X4 : ∀ w ∈ wsX40, w ∈ wsX4_mixedWithText := fun w h => List.mem_cons_of_mem _ (List.mem_append_left _ (List.mem_append_right _ h))
  have k_29 := B.1.2.2.2.2 (.fieldLink RX4 29 "JointLoans" "text" "LJointLoans$OrderText;") (by decide +kernel)
  have zk := x_X4_mixedWithText.eq_1 S p1
  have hl : lv_has ls 6 [(0, .ref (ad jO)), (1, .long p1)] := hl
  refine lv_lload_n hx hb dX4_mixedWithText_0 rfl (lv_at hl 1 rfl) ?_
  refine lv_aload_n hx hb dX4_mixedWithText_1 rfl (lv_at hl 0 rfl) ?_
  refine x_get B hW hqj cC_j cls4 hin_X4 3 (by decide) (v := .ref (ad tO)) rfl k_29 dX4_mixedWithText_2 ?_
  refine x_getN B hW hqt cC_t cls3 hin_X3 1 (by decide) (v := .int (S tO 1)) rfl nl_X4_159 dX4_mixedWithText_5 ?_
  refine lv_i2l hx hb dX4_mixedWithText_8 rfl ?_
  refine x_calll hW (x_runS B hW (As := [.long p1, .long (S tO 1).toInt64]) (rest := []) (c_X4_mixed (D := D) (ad := ad) l _ S p1 (S tO 1).toInt64) (va_cwS 2 B.1.2.2.2.2 gX4_mixedWithText_X4_mixed rfl rfl rfl hd_X4_mixed.2 ⟨Nat.le_of_ble_eq_true rfl, Nat.le_of_ble_eq_true rfl⟩) rfl hls (Nat.le_of_ble_eq_true rfl) dX4_mixedWithText_9 ⟨Nat.zero_le _, Nat.zero_le _⟩) (fun r_9 S_9 H locs he hW => ?_)
  obtain ⟨hr_9, hs⟩ := he
  rw [hs] at hW
  have zk := nm_at zk hr_9
  refine lv_lstore_n (lv' := [(3, .long r_9), (0, .ref (ad jO)), (1, .long p1)]) hx hb dX4_mixedWithText_12 rfl hl (by decide) rfl (fun ls hl => ?_)
  have hls := hl.1
  refine lv_iconst (v := 0) hx hb dX4_mixedWithText_13 (by decide) ?_
  refine lv_istore (lv' := [(5, .int 0), (3, .long r_9), (0, .ref (ad jO)), (1, .long p1)]) hx hb dX4_mixedWithText_14 hl (by decide) rfl (fun ls hl => ?_)
  have hls := hl.1
  exact w_X4_mixedWithText_L16 l B S _ p1 (61) (0) (r_9)  _ _ _ (show 0 ≤ 60 by omega) (show 0 + (61) = 61 by omega) hW (lv_sub hl [0, 1, 2] rfl) hls zk

def x_X4_digest_L72 : Nat → vS → Nat → Int64 → (Int64 × vS)
  | 0, S, _, _ => (0, S)
  | n + 1, S, n5, v1 => if 8 ≤ (nI n5) then nmp (x_X4_mixedWithOutcomes S v1 0) (fun r_110 S_110 => nmp (x_X4_mixedWithOutcomes S_110 r_110 1) (fun r_117 S_117 => nmp (x_X4_mixedWithOutcomes S_117 r_117 255) (fun r_126 S_126 => nm (x_X0_weakestNumber S_126 0) (fun r_135 => nm (x_X4_mixed S_126 r_126 r_135.toInt64) (fun r_139 => nm (x_X0_mostLoanWeeks S_126 0) (fun r_148 => nm (x_X4_mixed S_126 r_139 r_148.toInt64) (fun r_152 => nm (x_X0_shareOfPaid S_126 0) (fun r_161 => nm (x_X4_bitsOf S_126 r_161) (fun r_164 => nm (x_X4_mixed S_126 r_152 r_164) (fun r_167 => nm (x_X4_mixedWithText S_126 r_167) (fun r_173 => (r_173, S_126)))))))))))) else if (bz (S (gM 0 n5) 1)) = 0 then x_X4_digest_L72 n S ((n5 + 1)) (v1) else nm (x_X4_mixedWithMember S n5 v1) (fun r_97 => x_X4_digest_L72 n S ((n5 + 1)) (r_97))
def x_X4_digest_L31 : Nat → vS → Nat → Int64 → (Int64 × vS)
  | 0, S, _, _ => (0, S)
  | n + 1, S, n3, v1 => if 4 ≤ (nI n3) then x_X4_digest_L72 (9) S (0) (v1) else nm (x_X4_mixed S v1 (S (gS 0) n3).toInt64) (fun r_47 => x_X4_digest_L31 n S ((n3 + 1)) (r_47))
def x_X4_digest_L6 : Nat → vS → Nat → Int64 → (Int64 × vS)
  | 0, S, _, _ => (0, S)
  | n + 1, S, n3, v1 => if 16 ≤ (nI n3) then x_X4_digest_L31 (5) S (0) (v1) else nm (x_X4_numberOf S (nI n3)) (fun r_15 => nm (x_X4_mixed S v1 r_15.toInt64) (fun r_19 => x_X4_digest_L6 n S ((n3 + 1)) (r_19)))
def x_X4_digest (S : vS) : (Int64 × vS) := x_X4_digest_L6 (17) S (0) (2713)
theorem hd_X4_digest : yX4_digest.cls = RX4 ∧ yX4_digest.cls ≠ "java/lang/invoke/MethodHandle" ∧ yX4_digest.cls ≠ "java/lang/invoke/VarHandle" ∧ (parseMethodDescriptor yX4_digest.desc).map (fun d => d.parameters.length) = some 0 := by decide +kernel
set_option maxHeartbeats 4000000 in
set_option maxRecDepth 100000 in
theorem w_X4_digest_L72 {D : va_G} {ad : Nat → Nat} (l : Launch) {p : Program} {e : Env} {s : State} {mm : MethodId} {args : Array Value} {below : List Frame} {meth : Method} {c : Code} {A : Nat → Prop} (B : Cx p mm c cX4_digest 7 s args wsX4_digest RX4 meth (some .long) D) (z : (Int64 × vS)) : ∀ (n : Nat) (n5 : Nat) (v1 : Int64) (S : vS) (H : Heap) (locs : List Loc) (ls : Array Slot), n5 ≤ 8 → n5 + n = 9 → shN (x_X0_shareOfPaid S 0) → Wd D 158 (cC D ad) ad A s.heap S H locs → lv_has ls 7 [(5, .int (nI n5)), (4, .int 8), (3, .ref (ad (gA 0))), (1, .long v1), (0, .ref (ad jO))] → ls.size = 7 → z = x_X4_digest_L72 n S n5 v1 → W p l e (rmD 6) s mm args below meth c H locs 0 0 (MQ below (va_Ql (fun (r : Int64) (S1 : vS) => (r, S1) = z) (bW D 158 (cC D ad) ad A) A) args s 0 0 A) (F0 mm 72 ls []) := by
  have hx := B.1.1
  have hb := B.1.2.1
  have hin_X0 : ∀ w ∈ wsX00, w ∈ wsX4_digest := fun w h => List.mem_cons_of_mem _ (List.mem_append_left _ (List.mem_append_left _ (List.mem_append_left _ (List.mem_append_right _ h))))
  have hin_X2 : ∀ w ∈ wsX20, w ∈ wsX4_digest := fun w h => List.mem_cons_of_mem _ (List.mem_append_left _ (List.mem_append_left _ (List.mem_append_right _ h)))
  have hin_X4 : ∀ w ∈ wsX40, w ∈ wsX4_digest := fun w h => List.mem_cons_of_mem _ (List.mem_append_left _ (List.mem_append_left _ (List.mem_append_left _ (List.mem_append_left _ (List.mem_append_right _ h)))))
  have k_10 := B.1.2.2.2.2 (.fieldLink RX4 10 "JointLoans" "group" "LJointLoans$Group;") (by decide +kernel)
  have ki_X0 := B.1.2.2.2.2 (.initialized RX0) (by decide +kernel)
  have kk_241 := B.1.2.2.2.2 (.constantLong RX4 241 2713) (by decide +kernel)
  have kn_X0_mostLoanWeeks := B.1.2.2.2.2 (.instanceMethod yX0_mostLoanWeeks) (by decide +kernel)
  have kn_X0_shareOfPaid := B.1.2.2.2.2 (.instanceMethod yX0_shareOfPaid) (by decide +kernel)
  have kn_X0_weakestNumber := B.1.2.2.2.2 (.instanceMethod yX0_weakestNumber) (by decide +kernel)
  have kv_X0_mostLoanWeeks := B.1.2.2.2.2 (.selects RX0 yX0_mostLoanWeeks yX0_mostLoanWeeks) (by decide +kernel)
  have kv_X0_shareOfPaid := B.1.2.2.2.2 (.selects RX0 yX0_shareOfPaid yX0_shareOfPaid) (by decide +kernel)
  have kv_X0_weakestNumber := B.1.2.2.2.2 (.selects RX0 yX0_weakestNumber yX0_weakestNumber) (by decide +kernel)
  intro n
  induction n with
  | zero =>
    intro n5 v1 S H locs ls hle hsum hsh
    omega
  | succ n ih =>
    intro n5 v1 S H locs ls hle hsum hsh hW hl hls zk
    have zk := zk.trans (x_X4_digest_L72.eq_2 _ _ _ _ )
    refine lv_iload hx hb dX4_digest_72 (lv_at hl 0 rfl) ?_
    refine lv_iload hx hb dX4_digest_74 (lv_at hl 1 rfl) ?_
    refine lv_icmp_ge (tgt := 107) hx hb dX4_digest_76 (by decide) (fun c_76 => ?_) (fun c_76 => ?_)
    · have zk := zk.trans (if_pos c_76)
      refine lv_aload_n hx hb dX4_digest_107 rfl (lv_at hl 4 rfl) ?_
      refine lv_lload_n hx hb dX4_digest_108 rfl (lv_at hl 3 rfl) ?_
      refine lv_iconst (v := 0) hx hb dX4_digest_109 (by decide) ?_
      refine x_calll hW (x_runV B hW (As := [.long v1, .int 0]) (rest := []) hqj cC_j cls4 (c_X4_mixedWithOutcomes (D := D) (ad := ad) l _ S v1 0) (cwV 2 B.1.2.2.2.2 gX4_digest_X4_mixedWithOutcomes rfl rfl rfl hd_X4_mixedWithOutcomes ⟨Nat.le_of_ble_eq_true rfl, Nat.le_of_ble_eq_true rfl⟩) rfl hls (Nat.le_of_ble_eq_true rfl) dX4_digest_110 ⟨Nat.zero_le _, Nat.zero_le _⟩) (fun r_110 S_110 H locs he hW => ?_)
      have hr_110 := he
      have zk := nmp_at zk hr_110
      have he_110 : S_110 = (x_X4_mixedWithOutcomes S v1 0).2 := by rw [← hr_110]
      refine lv_lstore_n (lv' := [(1, .long r_110), (5, .int (nI n5)), (4, .int 8), (3, .ref (ad (gA 0))), (0, .ref (ad jO))]) hx hb dX4_digest_113 rfl hl (by decide) rfl (fun ls hl => ?_)
      have hls := hl.1
      refine lv_aload_n hx hb dX4_digest_114 rfl (lv_at hl 4 rfl) ?_
      refine lv_lload_n hx hb dX4_digest_115 rfl (lv_at hl 0 rfl) ?_
      refine lv_iconst (v := 1) hx hb dX4_digest_116 (by decide) ?_
      refine x_calll hW (x_runV B hW (As := [.long r_110, .int 1]) (rest := []) hqj cC_j cls4 (c_X4_mixedWithOutcomes (D := D) (ad := ad) l _ S_110 r_110 1) (cwV 2 B.1.2.2.2.2 gX4_digest_X4_mixedWithOutcomes rfl rfl rfl hd_X4_mixedWithOutcomes ⟨Nat.le_of_ble_eq_true rfl, Nat.le_of_ble_eq_true rfl⟩) rfl hls (Nat.le_of_ble_eq_true rfl) dX4_digest_117 ⟨Nat.zero_le _, Nat.zero_le _⟩) (fun r_117 S_117 H locs he hW => ?_)
      have hr_117 := he
      have zk := nmp_at zk hr_117
      have he_117 : S_117 = (x_X4_mixedWithOutcomes S_110 r_110 1).2 := by rw [← hr_117]
      refine lv_lstore_n (lv' := [(1, .long r_117), (5, .int (nI n5)), (4, .int 8), (3, .ref (ad (gA 0))), (0, .ref (ad jO))]) hx hb dX4_digest_120 rfl hl (by decide) rfl (fun ls hl => ?_)
      have hls := hl.1
      refine lv_aload_n hx hb dX4_digest_121 rfl (lv_at hl 4 rfl) ?_
      refine lv_lload_n hx hb dX4_digest_122 rfl (lv_at hl 0 rfl) ?_
      refine lv_sipush (v := 255) hx hb dX4_digest_123 (by decide) ?_
      refine x_calll hW (x_runV B hW (As := [.long r_117, .int 255]) (rest := []) hqj cC_j cls4 (c_X4_mixedWithOutcomes (D := D) (ad := ad) l _ S_117 r_117 255) (cwV 2 B.1.2.2.2.2 gX4_digest_X4_mixedWithOutcomes rfl rfl rfl hd_X4_mixedWithOutcomes ⟨Nat.le_of_ble_eq_true rfl, Nat.le_of_ble_eq_true rfl⟩) rfl hls (Nat.le_of_ble_eq_true rfl) dX4_digest_126 ⟨Nat.zero_le _, Nat.zero_le _⟩) (fun r_126 S_126 H locs he hW => ?_)
      have hr_126 := he
      have zk := nmp_at zk hr_126
      have he_126 : S_126 = (x_X4_mixedWithOutcomes S_117 r_117 255).2 := by rw [← hr_126]
      refine lv_lstore_n (lv' := [(1, .long r_126), (5, .int (nI n5)), (4, .int 8), (3, .ref (ad (gA 0))), (0, .ref (ad jO))]) hx hb dX4_digest_129 rfl hl (by decide) rfl (fun ls hl => ?_)
      have hls := hl.1
      refine lv_lload_n hx hb dX4_digest_130 rfl (lv_at hl 0 rfl) ?_
      refine lv_aload_n hx hb dX4_digest_131 rfl (lv_at hl 4 rfl) ?_
      refine x_get B hW hqj cC_j cls4 hin_X4 0 (by decide) (v := .ref (ad (gG 0))) rfl k_10 dX4_digest_132 ?_
      refine x_calli hW (x_runVN B hW (As := []) (rest := .long r_126 :: []) (host := RX4) (hqG (by decide)) (cC_G (by decide)) cls0 (c_X0_weakestNumber (D := D) (ad := ad) l _ S_126 0 (by decide)) ⟨va_cnB 0 B.1.2.2.2.2 gX4_digest_X0_weakestNumber_n228 rfl rfl rfl (B.2.1.2 _ nl_X4_228) ki_X0 hd_X0_weakestNumber.2 ⟨Nat.le_of_ble_eq_true rfl, Nat.le_of_ble_eq_true rfl⟩, kn_X0_weakestNumber, kv_X0_weakestNumber⟩ rfl hls (Nat.le_of_ble_eq_true rfl) dX4_digest_135 ⟨Nat.zero_le _, Nat.zero_le _⟩) (fun r_135 S_135 H locs he hW => ?_)
      obtain ⟨hr_135, hs⟩ := he
      rw [hs] at hW
      have zk := nm_at zk hr_135
      refine lv_i2l hx hb dX4_digest_138 rfl ?_
      refine x_calll hW (x_runS B hW (As := [.long r_126, .long r_135.toInt64]) (rest := []) (c_X4_mixed (D := D) (ad := ad) l _ S_126 r_126 r_135.toInt64) (va_cwS 2 B.1.2.2.2.2 gX4_digest_X4_mixed rfl rfl rfl hd_X4_mixed.2 ⟨Nat.le_of_ble_eq_true rfl, Nat.le_of_ble_eq_true rfl⟩) rfl hls (Nat.le_of_ble_eq_true rfl) dX4_digest_139 ⟨Nat.zero_le _, Nat.zero_le _⟩) (fun r_139 S_139 H locs he hW => ?_)
      obtain ⟨hr_139, hs⟩ := he
      rw [hs] at hW
      have zk := nm_at zk hr_139
      refine lv_lstore_n (lv' := [(1, .long r_139), (5, .int (nI n5)), (4, .int 8), (3, .ref (ad (gA 0))), (0, .ref (ad jO))]) hx hb dX4_digest_142 rfl hl (by decide) rfl (fun ls hl => ?_)
      have hls := hl.1
      refine lv_lload_n hx hb dX4_digest_143 rfl (lv_at hl 0 rfl) ?_
      refine lv_aload_n hx hb dX4_digest_144 rfl (lv_at hl 4 rfl) ?_
      refine x_get B hW hqj cC_j cls4 hin_X4 0 (by decide) (v := .ref (ad (gG 0))) rfl k_10 dX4_digest_145 ?_
      refine x_calli hW (x_runVN B hW (As := []) (rest := .long r_139 :: []) (host := RX4) (hqG (by decide)) (cC_G (by decide)) cls0 (c_X0_mostLoanWeeks (D := D) (ad := ad) l _ S_126 0 (by decide)) ⟨va_cnB 0 B.1.2.2.2.2 gX4_digest_X0_mostLoanWeeks_n231 rfl rfl rfl (B.2.1.2 _ nl_X4_231) ki_X0 hd_X0_mostLoanWeeks.2 ⟨Nat.le_of_ble_eq_true rfl, Nat.le_of_ble_eq_true rfl⟩, kn_X0_mostLoanWeeks, kv_X0_mostLoanWeeks⟩ rfl hls (Nat.le_of_ble_eq_true rfl) dX4_digest_148 ⟨Nat.zero_le _, Nat.zero_le _⟩) (fun r_148 S_148 H locs he hW => ?_)
      obtain ⟨hr_148, hs⟩ := he
      rw [hs] at hW
      have zk := nm_at zk hr_148
      refine lv_i2l hx hb dX4_digest_151 rfl ?_
      refine x_calll hW (x_runS B hW (As := [.long r_139, .long r_148.toInt64]) (rest := []) (c_X4_mixed (D := D) (ad := ad) l _ S_126 r_139 r_148.toInt64) (va_cwS 2 B.1.2.2.2.2 gX4_digest_X4_mixed rfl rfl rfl hd_X4_mixed.2 ⟨Nat.le_of_ble_eq_true rfl, Nat.le_of_ble_eq_true rfl⟩) rfl hls (Nat.le_of_ble_eq_true rfl) dX4_digest_152 ⟨Nat.zero_le _, Nat.zero_le _⟩) (fun r_152 S_152 H locs he hW => ?_)
      obtain ⟨hr_152, hs⟩ := he
      rw [hs] at hW
      have zk := nm_at zk hr_152
      refine lv_lstore_n (lv' := [(1, .long r_152), (5, .int (nI n5)), (4, .int 8), (3, .ref (ad (gA 0))), (0, .ref (ad jO))]) hx hb dX4_digest_155 rfl hl (by decide) rfl (fun ls hl => ?_)
      have hls := hl.1
      refine lv_lload_n hx hb dX4_digest_156 rfl (lv_at hl 0 rfl) ?_
      refine lv_aload_n hx hb dX4_digest_157 rfl (lv_at hl 4 rfl) ?_
      refine x_get B hW hqj cC_j cls4 hin_X4 0 (by decide) (v := .ref (ad (gG 0))) rfl k_10 dX4_digest_158 ?_
      refine x_calld hW (x_runVN B hW (As := []) (rest := .long r_152 :: []) (host := RX4) (hqG (by decide)) (cC_G (by decide)) cls0 (c_X0_shareOfPaid (D := D) (ad := ad) l _ S_126 0 (by decide)) ⟨va_cnB 0 B.1.2.2.2.2 gX4_digest_X0_shareOfPaid_n237 rfl rfl rfl (B.2.1.2 _ nl_X4_237) ki_X0 hd_X0_shareOfPaid.2 ⟨Nat.le_of_ble_eq_true rfl, Nat.le_of_ble_eq_true rfl⟩, kn_X0_shareOfPaid, kv_X0_shareOfPaid⟩ rfl hls (Nat.le_of_ble_eq_true rfl) dX4_digest_161 ⟨Nat.zero_le _, Nat.zero_le _⟩) (fun r_161 S_161 H locs he hW => ?_)
      obtain ⟨hr_161, hs⟩ := he
      rw [hs] at hW
      have zk := nm_at zk hr_161
      refine x_calll hW (x_runS B hW (As := [.double r_161]) (rest := .long r_152 :: []) (c_X4_bitsOf (D := D) (ad := ad) l _ S_126 r_161 (dg_sh he_110 he_117 he_126 hr_161 hsh)) (va_cwS 1 B.1.2.2.2.2 gX4_digest_X4_bitsOf rfl rfl rfl hd_X4_bitsOf.2 ⟨Nat.le_of_ble_eq_true rfl, Nat.le_of_ble_eq_true rfl⟩) rfl hls (Nat.le_of_ble_eq_true rfl) dX4_digest_164 ⟨Nat.zero_le _, Nat.zero_le _⟩) (fun r_164 S_164 H locs he hW => ?_)
      obtain ⟨hr_164, hs⟩ := he
      rw [hs] at hW
      have zk := nm_at zk hr_164
      refine x_calll hW (x_runS B hW (As := [.long r_152, .long r_164]) (rest := []) (c_X4_mixed (D := D) (ad := ad) l _ S_126 r_152 r_164) (va_cwS 2 B.1.2.2.2.2 gX4_digest_X4_mixed rfl rfl rfl hd_X4_mixed.2 ⟨Nat.le_of_ble_eq_true rfl, Nat.le_of_ble_eq_true rfl⟩) rfl hls (Nat.le_of_ble_eq_true rfl) dX4_digest_167 ⟨Nat.zero_le _, Nat.zero_le _⟩) (fun r_167 S_167 H locs he hW => ?_)
      obtain ⟨hr_167, hs⟩ := he
      rw [hs] at hW
      have zk := nm_at zk hr_167
      refine lv_lstore_n (lv' := [(1, .long r_167), (5, .int (nI n5)), (4, .int 8), (3, .ref (ad (gA 0))), (0, .ref (ad jO))]) hx hb dX4_digest_170 rfl hl (by decide) rfl (fun ls hl => ?_)
      have hls := hl.1
      refine lv_aload_n hx hb dX4_digest_171 rfl (lv_at hl 4 rfl) ?_
      refine lv_lload_n hx hb dX4_digest_172 rfl (lv_at hl 0 rfl) ?_
      refine x_calll hW (x_runV B hW (As := [.long r_167]) (rest := []) hqj cC_j cls4 (c_X4_mixedWithText (D := D) (ad := ad) l _ S_126 r_167) (cwV 1 B.1.2.2.2.2 gX4_digest_X4_mixedWithText rfl rfl rfl hd_X4_mixedWithText ⟨Nat.le_of_ble_eq_true rfl, Nat.le_of_ble_eq_true rfl⟩) rfl hls (Nat.le_of_ble_eq_true rfl) dX4_digest_173 ⟨Nat.zero_le _, Nat.zero_le _⟩) (fun r_173 S_173 H locs he hW => ?_)
      obtain ⟨hr_173, hs⟩ := he
      rw [hs] at hW
      have zk := nm_at zk hr_173
      exact x_lret B hW zk.symm dX4_digest_176
    · have zk := zk.trans (if_neg c_76)
      have hb_c_76 : n5 < 8 := nI_of_nle (by decide) c_76 (by omega)
      refine lv_aload_n hx hb dX4_digest_79 rfl (lv_at hl 2 rfl) ?_
      refine lv_iload hx hb dX4_digest_80 (lv_at hl 0 rfl) ?_
      refine x_aald B hW (hqA (by decide)) (cC_A (by decide)) (k := 2) rfl (isN_nI hb_c_76 (by decide)) (by decide) (by decide) (v := .ref (ad (gM 0 n5))) rfl dX4_digest_82 ?_
      refine lv_astore (lv' := [(6, .ref (ad (gM 0 n5))), (5, .int (nI n5)), (4, .int 8), (3, .ref (ad (gA 0))), (1, .long v1), (0, .ref (ad jO))]) hx hb dX4_digest_83 hl (by decide) rfl (fun ls hl => ?_)
      have hls := hl.1
      refine lv_aload hx hb dX4_digest_85 (lv_at hl 0 rfl) ?_
      refine x_getN B hW (hqM (by decide) hb_c_76) (cC_M (by decide) hb_c_76) cls2 hin_X2 1 (by decide) (v := .int (bz (S (gM 0 n5) 1))) rfl nl_X4_251 dX4_digest_87 ?_
      refine lv_if_eq (tgt := 101) hx hb dX4_digest_90 (by decide) (fun c_90 => ?_) (fun c_90 => ?_)
      · have zk := zk.trans (if_pos c_90)
        refine lv_iinc (v := (nI (n5 + 1))) (lv' := [(5, .int (nI (n5 + 1))), (6, .ref (ad (gM 0 n5))), (4, .int 8), (3, .ref (ad (gA 0))), (1, .long v1), (0, .ref (ad jO))]) hx hb dX4_digest_101 hl (k := 1) rfl (nI_1 _) (by decide) rfl (fun ls hl => ?_)
        have hls := hl.1
        refine lv_goto (tgt := 72) hx hb dX4_digest_104 (by decide) ?_
        exact ih ((n5 + 1)) (v1) S _ _ _ (show (n5 + 1) ≤ 8 by omega) (show (n5 + 1) + n = 9 by omega) hsh hW (lv_sub hl [0, 2, 3, 4, 5] rfl) hls zk
      · have zk := zk.trans (if_neg c_90)
        refine lv_aload_n hx hb dX4_digest_93 rfl (lv_at hl 5 rfl) ?_
        refine lv_lload_n hx hb dX4_digest_94 rfl (lv_at hl 4 rfl) ?_
        refine lv_aload hx hb dX4_digest_95 (lv_at hl 0 rfl) ?_
        refine x_calll hW (x_runV B hW (As := [.long v1, .ref (ad (gM 0 n5))]) (rest := []) hqj cC_j cls4 (c_X4_mixedWithMember (D := D) (ad := ad) l _ S n5 v1 hb_c_76) (cwV 2 B.1.2.2.2.2 gX4_digest_X4_mixedWithMember rfl rfl rfl hd_X4_mixedWithMember ⟨Nat.le_of_ble_eq_true rfl, Nat.le_of_ble_eq_true rfl⟩) rfl hls (Nat.le_of_ble_eq_true rfl) dX4_digest_97 ⟨Nat.zero_le _, Nat.zero_le _⟩) (fun r_97 S_97 H locs he hW => ?_)
        obtain ⟨hr_97, hs⟩ := he
        rw [hs] at hW
        have zk := nm_at zk hr_97
        refine lv_lstore_n (lv' := [(1, .long r_97), (6, .ref (ad (gM 0 n5))), (5, .int (nI n5)), (4, .int 8), (3, .ref (ad (gA 0))), (0, .ref (ad jO))]) hx hb dX4_digest_100 rfl hl (by decide) rfl (fun ls hl => ?_)
        have hls := hl.1
        refine lv_iinc (v := (nI (n5 + 1))) (lv' := [(5, .int (nI (n5 + 1))), (1, .long r_97), (6, .ref (ad (gM 0 n5))), (4, .int 8), (3, .ref (ad (gA 0))), (0, .ref (ad jO))]) hx hb dX4_digest_101 hl (k := 2) rfl (nI_1 _) (by decide) rfl (fun ls hl => ?_)
        have hls := hl.1
        refine lv_goto (tgt := 72) hx hb dX4_digest_104 (by decide) ?_
        exact ih ((n5 + 1)) (r_97) S _ _ _ (show (n5 + 1) ≤ 8 by omega) (show (n5 + 1) + n = 9 by omega) hsh hW (lv_sub hl [0, 3, 4, 1, 5] rfl) hls zk
set_option maxHeartbeats 4000000 in
set_option maxRecDepth 100000 in
theorem w_X4_digest_L31 {D : va_G} {ad : Nat → Nat} (l : Launch) {p : Program} {e : Env} {s : State} {mm : MethodId} {args : Array Value} {below : List Frame} {meth : Method} {c : Code} {A : Nat → Prop} (B : Cx p mm c cX4_digest 7 s args wsX4_digest RX4 meth (some .long) D) (z : (Int64 × vS)) : ∀ (n : Nat) (n3 : Nat) (v1 : Int64) (S : vS) (H : Heap) (locs : List Loc) (ls : Array Slot), n3 ≤ 4 → n3 + n = 5 → shN (x_X0_shareOfPaid S 0) → Wd D 158 (cC D ad) ad A s.heap S H locs → lv_has ls 7 [(3, .int (nI n3)), (1, .long v1), (0, .ref (ad jO))] → ls.size = 7 → z = x_X4_digest_L31 n S n3 v1 → W p l e (rmD 6) s mm args below meth c H locs 0 0 (MQ below (va_Ql (fun (r : Int64) (S1 : vS) => (r, S1) = z) (bW D 158 (cC D ad) ad A) A) args s 0 0 A) (F0 mm 31 ls []) := by
  have hx := B.1.1
  have hb := B.1.2.1
  have hin_X0 : ∀ w ∈ wsX00, w ∈ wsX4_digest := fun w h => List.mem_cons_of_mem _ (List.mem_append_left _ (List.mem_append_left _ (List.mem_append_left _ (List.mem_append_right _ h))))
  have hin_X2 : ∀ w ∈ wsX20, w ∈ wsX4_digest := fun w h => List.mem_cons_of_mem _ (List.mem_append_left _ (List.mem_append_left _ (List.mem_append_right _ h)))
  have hin_X4 : ∀ w ∈ wsX40, w ∈ wsX4_digest := fun w h => List.mem_cons_of_mem _ (List.mem_append_left _ (List.mem_append_left _ (List.mem_append_left _ (List.mem_append_left _ (List.mem_append_right _ h)))))
  have k_10 := B.1.2.2.2.2 (.fieldLink RX4 10 "JointLoans" "group" "LJointLoans$Group;") (by decide +kernel)
  have ki_X0 := B.1.2.2.2.2 (.initialized RX0) (by decide +kernel)
  have kk_241 := B.1.2.2.2.2 (.constantLong RX4 241 2713) (by decide +kernel)
  have kn_X0_mostLoanWeeks := B.1.2.2.2.2 (.instanceMethod yX0_mostLoanWeeks) (by decide +kernel)
  have kn_X0_shareOfPaid := B.1.2.2.2.2 (.instanceMethod yX0_shareOfPaid) (by decide +kernel)
  have kn_X0_weakestNumber := B.1.2.2.2.2 (.instanceMethod yX0_weakestNumber) (by decide +kernel)
  have kv_X0_mostLoanWeeks := B.1.2.2.2.2 (.selects RX0 yX0_mostLoanWeeks yX0_mostLoanWeeks) (by decide +kernel)
  have kv_X0_shareOfPaid := B.1.2.2.2.2 (.selects RX0 yX0_shareOfPaid yX0_shareOfPaid) (by decide +kernel)
  have kv_X0_weakestNumber := B.1.2.2.2.2 (.selects RX0 yX0_weakestNumber yX0_weakestNumber) (by decide +kernel)
  intro n
  induction n with
  | zero =>
    intro n3 v1 S H locs ls hle hsum hsh
    omega
  | succ n ih =>
    intro n3 v1 S H locs ls hle hsum hsh hW hl hls zk
    have zk := zk.trans (x_X4_digest_L31.eq_2 _ _ _ _ )
    refine lv_iload_n hx hb dX4_digest_31 rfl (lv_at hl 0 rfl) ?_
    refine lv_iconst (v := 4) hx hb dX4_digest_32 (by decide) ?_
    refine lv_icmp_ge (tgt := 57) hx hb dX4_digest_33 (by decide) (fun c_33 => ?_) (fun c_33 => ?_)
    · have zk := zk.trans (if_pos c_33)
      refine lv_aload_n hx hb dX4_digest_57 rfl (lv_at hl 2 rfl) ?_
      refine x_get B hW hqj cC_j cls4 hin_X4 0 (by decide) (v := .ref (ad (gG 0))) rfl k_10 dX4_digest_58 ?_
      refine x_getN B hW (hqG (by decide)) (cC_G (by decide)) cls0 hin_X0 0 (by decide) (v := .ref (ad (gA 0))) rfl nl_X4_247 dX4_digest_61 ?_
      refine lv_astore_n (lv' := [(3, .ref (ad (gA 0))), (1, .long v1), (0, .ref (ad jO))]) hx hb dX4_digest_64 rfl hl (by decide) rfl (fun ls hl => ?_)
      have hls := hl.1
      refine lv_aload_n hx hb dX4_digest_65 rfl (lv_at hl 0 rfl) ?_
      refine x_alen B hW (hqA (by decide)) (cC_A (by decide)) (k := 2) rfl (v := 8) rfl dX4_digest_66 ?_
      refine lv_istore (lv' := [(4, .int 8), (3, .ref (ad (gA 0))), (1, .long v1), (0, .ref (ad jO))]) hx hb dX4_digest_67 hl (by decide) rfl (fun ls hl => ?_)
      have hls := hl.1
      refine lv_iconst (v := 0) hx hb dX4_digest_69 (by decide) ?_
      refine lv_istore (lv' := [(5, .int 0), (4, .int 8), (3, .ref (ad (gA 0))), (1, .long v1), (0, .ref (ad jO))]) hx hb dX4_digest_70 hl (by decide) rfl (fun ls hl => ?_)
      have hls := hl.1
      exact w_X4_digest_L72 l B  _  (9) (0) (v1) S _ _ _ (show 0 ≤ 8 by omega) (show 0 + (9) = 9 by omega) hsh hW (lv_sub hl [0, 1, 2, 3, 4] rfl) hls zk
    · have zk := zk.trans (if_neg c_33)
      have hb_c_33 : n3 < 4 := nI_of_nle (by decide) c_33 (by omega)
      refine lv_lload_n hx hb dX4_digest_36 rfl (lv_at hl 1 rfl) ?_
      refine lv_aload_n hx hb dX4_digest_37 rfl (lv_at hl 2 rfl) ?_
      refine x_get B hW hqj cC_j cls4 hin_X4 0 (by decide) (v := .ref (ad (gG 0))) rfl k_10 dX4_digest_38 ?_
      refine x_getN B hW (hqG (by decide)) (cC_G (by decide)) cls0 hin_X0 1 (by decide) (v := .ref (ad (gS 0))) rfl nl_X4_154 dX4_digest_41 ?_
      refine lv_iload_n hx hb dX4_digest_44 rfl (lv_at hl 0 rfl) ?_
      refine x_iald B hW (hqS (by decide)) (cC_S (by decide)) (isN_nI hb_c_33 (by decide)) (by decide) (by decide) dX4_digest_45 ?_
      refine lv_i2l hx hb dX4_digest_46 rfl ?_
      refine x_calll hW (x_runS B hW (As := [.long v1, .long (S (gS 0) n3).toInt64]) (rest := []) (c_X4_mixed (D := D) (ad := ad) l _ S v1 (S (gS 0) n3).toInt64) (va_cwS 2 B.1.2.2.2.2 gX4_digest_X4_mixed rfl rfl rfl hd_X4_mixed.2 ⟨Nat.le_of_ble_eq_true rfl, Nat.le_of_ble_eq_true rfl⟩) rfl hls (Nat.le_of_ble_eq_true rfl) dX4_digest_47 ⟨Nat.zero_le _, Nat.zero_le _⟩) (fun r_47 S_47 H locs he hW => ?_)
      obtain ⟨hr_47, hs⟩ := he
      rw [hs] at hW
      have zk := nm_at zk hr_47
      refine lv_lstore_n (lv' := [(1, .long r_47), (3, .int (nI n3)), (0, .ref (ad jO))]) hx hb dX4_digest_50 rfl hl (by decide) rfl (fun ls hl => ?_)
      have hls := hl.1
      refine lv_iinc (v := (nI (n3 + 1))) (lv' := [(3, .int (nI (n3 + 1))), (1, .long r_47), (0, .ref (ad jO))]) hx hb dX4_digest_51 hl (k := 1) rfl (nI_1 _) (by decide) rfl (fun ls hl => ?_)
      have hls := hl.1
      refine lv_goto (tgt := 31) hx hb dX4_digest_54 (by decide) ?_
      exact ih ((n3 + 1)) (r_47) S _ _ _ (show (n3 + 1) ≤ 4 by omega) (show (n3 + 1) + n = 5 by omega) hsh hW (lv_sub hl [0, 1, 2] rfl) hls zk
set_option maxHeartbeats 4000000 in
set_option maxRecDepth 100000 in
theorem w_X4_digest_L6 {D : va_G} {ad : Nat → Nat} (l : Launch) {p : Program} {e : Env} {s : State} {mm : MethodId} {args : Array Value} {below : List Frame} {meth : Method} {c : Code} {A : Nat → Prop} (B : Cx p mm c cX4_digest 7 s args wsX4_digest RX4 meth (some .long) D) (z : (Int64 × vS)) : ∀ (n : Nat) (n3 : Nat) (v1 : Int64) (S : vS) (H : Heap) (locs : List Loc) (ls : Array Slot), n3 ≤ 16 → n3 + n = 17 → shN (x_X0_shareOfPaid S 0) → Wd D 158 (cC D ad) ad A s.heap S H locs → lv_has ls 7 [(3, .int (nI n3)), (1, .long v1), (0, .ref (ad jO))] → ls.size = 7 → z = x_X4_digest_L6 n S n3 v1 → W p l e (rmD 6) s mm args below meth c H locs 0 0 (MQ below (va_Ql (fun (r : Int64) (S1 : vS) => (r, S1) = z) (bW D 158 (cC D ad) ad A) A) args s 0 0 A) (F0 mm 6 ls []) := by
  have hx := B.1.1
  have hb := B.1.2.1
  have hin_X0 : ∀ w ∈ wsX00, w ∈ wsX4_digest := fun w h => List.mem_cons_of_mem _ (List.mem_append_left _ (List.mem_append_left _ (List.mem_append_left _ (List.mem_append_right _ h))))
  have hin_X2 : ∀ w ∈ wsX20, w ∈ wsX4_digest := fun w h => List.mem_cons_of_mem _ (List.mem_append_left _ (List.mem_append_left _ (List.mem_append_right _ h)))
  have hin_X4 : ∀ w ∈ wsX40, w ∈ wsX4_digest := fun w h => List.mem_cons_of_mem _ (List.mem_append_left _ (List.mem_append_left _ (List.mem_append_left _ (List.mem_append_left _ (List.mem_append_right _ h)))))
  have k_10 := B.1.2.2.2.2 (.fieldLink RX4 10 "JointLoans" "group" "LJointLoans$Group;") (by decide +kernel)
  have ki_X0 := B.1.2.2.2.2 (.initialized RX0) (by decide +kernel)
  have kk_241 := B.1.2.2.2.2 (.constantLong RX4 241 2713) (by decide +kernel)
  have kn_X0_mostLoanWeeks := B.1.2.2.2.2 (.instanceMethod yX0_mostLoanWeeks) (by decide +kernel)
  have kn_X0_shareOfPaid := B.1.2.2.2.2 (.instanceMethod yX0_shareOfPaid) (by decide +kernel)
  have kn_X0_weakestNumber := B.1.2.2.2.2 (.instanceMethod yX0_weakestNumber) (by decide +kernel)
  have kv_X0_mostLoanWeeks := B.1.2.2.2.2 (.selects RX0 yX0_mostLoanWeeks yX0_mostLoanWeeks) (by decide +kernel)
  have kv_X0_shareOfPaid := B.1.2.2.2.2 (.selects RX0 yX0_shareOfPaid yX0_shareOfPaid) (by decide +kernel)
  have kv_X0_weakestNumber := B.1.2.2.2.2 (.selects RX0 yX0_weakestNumber yX0_weakestNumber) (by decide +kernel)
  intro n
  induction n with
  | zero =>
    intro n3 v1 S H locs ls hle hsum hsh
    omega
  | succ n ih =>
    intro n3 v1 S H locs ls hle hsum hsh hW hl hls zk
    have zk := zk.trans (x_X4_digest_L6.eq_2 _ _ _ _ )
    refine lv_iload_n hx hb dX4_digest_6 rfl (lv_at hl 0 rfl) ?_
    refine lv_bipush (v := 16) hx hb dX4_digest_7 (by decide) ?_
    refine lv_icmp_ge (tgt := 29) hx hb dX4_digest_9 (by decide) (fun c_9 => ?_) (fun c_9 => ?_)
    · have zk := zk.trans (if_pos c_9)
      refine lv_iconst (v := 0) hx hb dX4_digest_29 (by decide) ?_
      refine lv_istore_n (lv' := [(3, .int 0), (1, .long v1), (0, .ref (ad jO))]) hx hb dX4_digest_30 rfl hl (by decide) rfl (fun ls hl => ?_)
      have hls := hl.1
      exact w_X4_digest_L31 l B  _  (5) (0) (v1) S _ _ _ (show 0 ≤ 4 by omega) (show 0 + (5) = 5 by omega) hsh hW (lv_sub hl [0, 1, 2] rfl) hls zk
    · have zk := zk.trans (if_neg c_9)
      have hb_c_9 : n3 < 16 := nI_of_nle (by decide) c_9 (by omega)
      refine lv_lload_n hx hb dX4_digest_12 rfl (lv_at hl 1 rfl) ?_
      refine lv_aload_n hx hb dX4_digest_13 rfl (lv_at hl 2 rfl) ?_
      refine lv_iload_n hx hb dX4_digest_14 rfl (lv_at hl 0 rfl) ?_
      refine x_calli hW (x_runV B hW (As := [.int (nI n3)]) (rest := .long v1 :: []) hqj cC_j cls4 (c_X4_numberOf (D := D) (ad := ad) l _ S (nI n3)) (cwV 1 B.1.2.2.2.2 gX4_digest_X4_numberOf rfl rfl rfl hd_X4_numberOf ⟨Nat.le_of_ble_eq_true rfl, Nat.le_of_ble_eq_true rfl⟩) rfl hls (Nat.le_of_ble_eq_true rfl) dX4_digest_15 ⟨Nat.zero_le _, Nat.zero_le _⟩) (fun r_15 S_15 H locs he hW => ?_)
      obtain ⟨hr_15, hs⟩ := he
      rw [hs] at hW
      have zk := nm_at zk hr_15
      refine lv_i2l hx hb dX4_digest_18 rfl ?_
      refine x_calll hW (x_runS B hW (As := [.long v1, .long r_15.toInt64]) (rest := []) (c_X4_mixed (D := D) (ad := ad) l _ S v1 r_15.toInt64) (va_cwS 2 B.1.2.2.2.2 gX4_digest_X4_mixed rfl rfl rfl hd_X4_mixed.2 ⟨Nat.le_of_ble_eq_true rfl, Nat.le_of_ble_eq_true rfl⟩) rfl hls (Nat.le_of_ble_eq_true rfl) dX4_digest_19 ⟨Nat.zero_le _, Nat.zero_le _⟩) (fun r_19 S_19 H locs he hW => ?_)
      obtain ⟨hr_19, hs⟩ := he
      rw [hs] at hW
      have zk := nm_at zk hr_19
      refine lv_lstore_n (lv' := [(1, .long r_19), (3, .int (nI n3)), (0, .ref (ad jO))]) hx hb dX4_digest_22 rfl hl (by decide) rfl (fun ls hl => ?_)
      have hls := hl.1
      refine lv_iinc (v := (nI (n3 + 1))) (lv' := [(3, .int (nI (n3 + 1))), (1, .long r_19), (0, .ref (ad jO))]) hx hb dX4_digest_23 hl (k := 1) rfl (nI_1 _) (by decide) rfl (fun ls hl => ?_)
      have hls := hl.1
      refine lv_goto (tgt := 6) hx hb dX4_digest_26 (by decide) ?_
      exact ih ((n3 + 1)) (r_19) S _ _ _ (show (n3 + 1) ≤ 16 by omega) (show (n3 + 1) + n = 17 by omega) hsh hW (lv_sub hl [0, 1, 2] rfl) hls zk
set_option maxHeartbeats 4000000 in
set_option maxRecDepth 100000 in
theorem c_X4_digest {D : va_G} {ad : Nat → Nat} (l : Launch) (sz : Nat) (S : vS) (hsh : shN (x_X0_shareOfPaid S 0)) : Met l yX4_digest wsX4_digest (rmD 6) (pW D 158 (cC D ad) ad sz S [.ref (ad jO)]) (va_Ql (fun (r : Int64) (S1 : vS) => (r, S1) = (x_X4_digest S)) (bW D 158 (cC D ad) ad (aW 158 ad sz)) (aW 158 ad sz)) 0 0 (aW 158 ad sz) := by
  refine x_met (own := RX4) (cc := cX4_digest) (maxL := 7) (ret := (some .long)) (Qc := fun A => va_Ql (fun (r : Int64) (S1 : vS) => (r, S1) = (x_X4_digest S)) (bW D 158 (cC D ad) ad A) A) rfl ⟨by decide +kernel, rfl, Nat.le_of_ble_eq_true rfl⟩ ?_
  intro p e s mm args below meth c A ls B hW hl hls
  have hx := B.1.1
  have hb := B.1.2.1
  have hin_X0 : ∀ w ∈ wsX00, w ∈ wsX4_digest := fun w h => List.mem_cons_of_mem _ (List.mem_append_left _ (List.mem_append_left _ (List.mem_append_left _ (List.mem_append_right _ h))))
  have hin_X2 : ∀ w ∈ wsX20, w ∈ wsX4_digest := fun w h => List.mem_cons_of_mem _ (List.mem_append_left _ (List.mem_append_left _ (List.mem_append_right _ h)))
  have hin_X4 : ∀ w ∈ wsX40, w ∈ wsX4_digest := fun w h => List.mem_cons_of_mem _ (List.mem_append_left _ (List.mem_append_left _ (List.mem_append_left _ (List.mem_append_left _ (List.mem_append_right _ h)))))
  have k_10 := B.1.2.2.2.2 (.fieldLink RX4 10 "JointLoans" "group" "LJointLoans$Group;") (by decide +kernel)
  have ki_X0 := B.1.2.2.2.2 (.initialized RX0) (by decide +kernel)
  have kk_241 := B.1.2.2.2.2 (.constantLong RX4 241 2713) (by decide +kernel)
  have kn_X0_mostLoanWeeks := B.1.2.2.2.2 (.instanceMethod yX0_mostLoanWeeks) (by decide +kernel)
  have kn_X0_shareOfPaid := B.1.2.2.2.2 (.instanceMethod yX0_shareOfPaid) (by decide +kernel)
  have kn_X0_weakestNumber := B.1.2.2.2.2 (.instanceMethod yX0_weakestNumber) (by decide +kernel)
  have kv_X0_mostLoanWeeks := B.1.2.2.2.2 (.selects RX0 yX0_mostLoanWeeks yX0_mostLoanWeeks) (by decide +kernel)
  have kv_X0_shareOfPaid := B.1.2.2.2.2 (.selects RX0 yX0_shareOfPaid yX0_shareOfPaid) (by decide +kernel)
  have kv_X0_weakestNumber := B.1.2.2.2.2 (.selects RX0 yX0_weakestNumber yX0_weakestNumber) (by decide +kernel)
  have zk := x_X4_digest.eq_1 S
  have hl : lv_has ls 7 [(0, .ref (ad jO))] := hl
  refine lv_ldc2 (v := 2713) hx hb B.1.2.2.2.1 kk_241 dX4_digest_0 ?_
  refine lv_lstore_n (lv' := [(1, .long 2713), (0, .ref (ad jO))]) hx hb dX4_digest_3 rfl hl (by decide) rfl (fun ls hl => ?_)
  have hls := hl.1
  refine lv_iconst (v := 0) hx hb dX4_digest_4 (by decide) ?_
  refine lv_istore_n (lv' := [(3, .int 0), (1, .long 2713), (0, .ref (ad jO))]) hx hb dX4_digest_5 rfl hl (by decide) rfl (fun ls hl => ?_)
  have hls := hl.1
  exact w_X4_digest_L6 l B  _  (17) (0) (2713) S _ _ _ (show 0 ≤ 16 by omega) (show 0 + (17) = 17 by omega) hsh hW (lv_sub hl [0, 1, 2] rfl) hls zk

end P26_jl
