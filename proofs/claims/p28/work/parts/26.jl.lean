section P26_jl
def x_X4_join (S : vS) : ((Nat × Int32) × vS) := if (S (gG 0) 2) < 8 then nm (x_X1_keep S 0) (fun S_30 => nmp (x_X0_admit S_30 0) (fun r_37 S_37 => ((0, r_37), S_37))) else ((1, 0), S)
theorem hd_X4_join : yX4_join.cls = RX4 ∧ yX4_join.cls ≠ "java/lang/invoke/MethodHandle" ∧ yX4_join.cls ≠ "java/lang/invoke/VarHandle" ∧ (parseMethodDescriptor yX4_join.desc).map (fun d => d.parameters.length) = some 0 := by decide +kernel
set_option maxHeartbeats 4000000 in
set_option maxRecDepth 100000 in
theorem c_X4_join {D : va_G} {ad : Nat → Nat} {V : vE} (l : Launch) (sz : Nat) (hl0 : l.stackTraces = false) (S : vS) : vx_Met l yX4_join wsX4_join (rmX 6 1) (pE D 157 (cC D ad) ad sz V S [.ref (ad jO)]) (va_Qi (fun (r : Int32) (S1 : vS) => ((0, r), S1) = (x_X4_join S)) (bW D 157 (cC D ad) ad (aW 157 ad sz)) (aW 157 ad sz)) (xX D 157 (cC D ad) ad (aW 157 ad sz) (pxS (x_X4_join S))) 1 6 (aW 157 ad sz) := by
  refine x_metX (own := RX4) (cc := cX4_join) (maxL := 1) (ret := (some .int)) (Qc := fun A => va_Qi (fun (r : Int32) (S1 : vS) => ((0, r), S1) = (x_X4_join S)) (bW D 157 (cC D ad) ad A) A) (XC := fun A => xX D 157 (cC D ad) ad A (pxS (x_X4_join S))) rfl ⟨by decide +kernel, rfl, Nat.le_of_ble_eq_true rfl⟩ ?_
  intro p e s mm args below meth c A ls B htab hW hE hl hls
  have hx := B.1.1
  have hb := B.1.2.1
  have hin_X0 : ∀ w ∈ wsX00, w ∈ wsX4_join := fun w h => List.mem_cons_of_mem _ (List.mem_append_left _ (List.mem_append_left _ (List.mem_append_left _ (List.mem_append_right _ h))))
  have hin_X4 : ∀ w ∈ wsX40, w ∈ wsX4_join := fun w h => List.mem_cons_of_mem _ (List.mem_append_left _ (List.mem_append_left _ (List.mem_append_left _ (List.mem_append_left _ (List.mem_append_right _ h)))))
  have hat_41 : ∀ w ∈ (vx_atS RX4 41 "java/lang/IllegalStateException" xuE).filter goodWord, w ∈ wsX4_join := fun w h => List.mem_cons_of_mem _ (List.mem_append_right _ h)
  have k_10 := B.1.2.2.2.2 (.fieldLink RX4 10 "JointLoans" "group" "LJointLoans$Group;") (by decide +kernel)
  have k_22 := B.1.2.2.2.2 (.fieldLink RX4 22 "JointLoans" "history" "LJointLoans$History;") (by decide +kernel)
  have ki_X0 := B.1.2.2.2.2 (.initialized RX0) (by decide +kernel)
  have ki_X1 := B.1.2.2.2.2 (.initialized RX1) (by decide +kernel)
  have kn_X0_admit := B.1.2.2.2.2 (.instanceMethod yX0_admit) (by decide +kernel)
  have kn_X1_keep := B.1.2.2.2.2 (.instanceMethod yX1_keep) (by decide +kernel)
  have kv_X0_admit := B.1.2.2.2.2 (.selects RX0 yX0_admit yX0_admit) (by decide +kernel)
  have kv_X1_keep := B.1.2.2.2.2 (.selects RX1 yX1_keep yX1_keep) (by decide +kernel)
  have kx_37 := B.1.2.2.2.2 (.classLink RX4 37 "java/lang/IllegalStateException") (by decide +kernel)
  have ky_1 := B.1.2.2.2.2 (.initialized "java/lang/IllegalStateException") (by decide +kernel)
  have zk := x_X4_join.eq_1 S
  have hl : lv_has ls 1 [(0, .ref (ad jO))] := hl
  refine lv_aload_n hx hb dX4_join_0 rfl (lv_at hl 0 rfl) ?_
  refine x_get B hW hqj cC_j cls4 hin_X4 0 (by decide) (v := .ref (ad (gG 0))) rfl k_10 dX4_join_1 ?_
  refine x_getN B hW (hqG (by decide)) (cC_G (by decide)) cls0 hin_X0 2 (by decide) (v := .int (S (gG 0) 2)) rfl nl_X4_33 dX4_join_4 ?_
  refine lv_bipush (v := 8) hx hb dX4_join_7 (by decide) ?_
  refine lv_icmp_lt (tgt := 22) hx hb dX4_join_9 (by decide) (fun c_9 => ?_) (fun c_9 => ?_)
  · have zk := zk.trans (if_pos c_9)
    refine lv_aload_n hx hb dX4_join_22 rfl (lv_at hl 0 rfl) ?_
    refine x_get B hW hqj cC_j cls4 hin_X4 2 (by decide) (v := .ref (ad hO)) rfl k_22 dX4_join_23 ?_
    refine lv_aload_n hx hb dX4_join_26 rfl (lv_at hl 0 rfl) ?_
    refine x_get B hW hqj cC_j cls4 hin_X4 0 (by decide) (v := .ref (ad (gG 0))) rfl k_10 dX4_join_27 ?_
    refine x_callv hW (x_runVN B hW (As := [.ref (ad (gG 0))]) (rest := []) (host := RX4) hqh cC_h cls1 (c_X1_keep (D := D) (ad := ad) l _ S 0 (by decide)) ⟨va_cnB 1 B.1.2.2.2.2 gX4_join_X1_keep_n44 rfl rfl rfl (B.2.1.2 _ nl_X4_44) ki_X1 hd_X1_keep.2 ⟨Nat.le_of_ble_eq_true rfl, Nat.le_of_ble_eq_true rfl⟩, kn_X1_keep, kv_X1_keep⟩ rfl hls (Nat.le_of_ble_eq_true rfl) dX4_join_30 ⟨Nat.le_of_ble_eq_true rfl, Nat.le_of_ble_eq_true rfl⟩) (fun S_30 H locs he hW => ?_)
    have he_30 := he
    have zk := nm_at zk he_30
    refine lv_aload_n hx hb dX4_join_33 rfl (lv_at hl 0 rfl) ?_
    refine x_get B hW hqj cC_j cls4 hin_X4 0 (by decide) (v := .ref (ad (gG 0))) rfl k_10 dX4_join_34 ?_
    refine x_calli hW (x_runVN B hW (As := []) (rest := []) (host := RX4) (hqG (by decide)) (cC_G (by decide)) cls0 (c_X0_admit (D := D) (ad := ad) l _ S_30 0 (by decide)) ⟨va_cnB 0 B.1.2.2.2.2 gX4_join_X0_admit_n48 rfl rfl rfl (B.2.1.2 _ nl_X4_48) ki_X0 hd_X0_admit.2 ⟨Nat.le_of_ble_eq_true rfl, Nat.le_of_ble_eq_true rfl⟩, kn_X0_admit, kv_X0_admit⟩ rfl hls (Nat.le_of_ble_eq_true rfl) dX4_join_37 ⟨Nat.le_of_ble_eq_true rfl, Nat.le_of_ble_eq_true rfl⟩) (fun r_37 S_37 H locs he hW => ?_)
    have hr_37 := he
    have zk := nmp_at zk hr_37
    have he_37 : S_37 = (x_X0_admit S_30 0).2 := by rw [← hr_37]
    exact x_end ⟨Nat.le_of_ble_eq_true rfl, Nat.le_of_ble_eq_true rfl⟩ (x_iret B hW zk.symm dX4_join_40)
  · have zk := zk.trans (if_neg c_9)
    exact x_throw B htab hW hE hl0 hls (cls := "java/lang/IllegalStateException") (text := "all numbers are given") (by decide +kernel) (by decide +kernel) kx_37 ky_1 (fun w h => B.1.2.2.2.2 w (hat_41 w h)) (by decide +kernel) (by decide +kernel) (by decide +kernel) dX4_join_12 dX4_join_15 dX4_join_16 dX4_join_18 dX4_join_21 ⟨Nat.le_of_ble_eq_true rfl, Nat.le_of_ble_eq_true rfl, Nat.le_of_ble_eq_true rfl, Nat.le_of_ble_eq_true rfl⟩ ⟨Nat.le_of_ble_eq_true rfl, Nat.le_of_ble_eq_true rfl⟩ ⟨1, 0, by decide, rfl, zk.symm⟩

def x_X4_memberOrThrow (S : vS) (p1 : Int32) : (Nat × Nat) := oc (x_X0_find S 0 p1) ((2, 0)) (fun k_5 => (0, k_5))
theorem hd_X4_memberOrThrow : yX4_memberOrThrow.cls = RX4 ∧ yX4_memberOrThrow.cls ≠ "java/lang/invoke/MethodHandle" ∧ yX4_memberOrThrow.cls ≠ "java/lang/invoke/VarHandle" ∧ (parseMethodDescriptor yX4_memberOrThrow.desc).map (fun d => d.parameters.length) = some 1 := by decide +kernel
set_option maxHeartbeats 4000000 in
set_option maxRecDepth 100000 in
theorem c_X4_memberOrThrow {D : va_G} {ad : Nat → Nat} {V : vE} (l : Launch) (sz : Nat) (hl0 : l.stackTraces = false) (S : vS) (p1 : Int32) : vx_Met l yX4_memberOrThrow wsX4_memberOrThrow (rmX 6 1) (pE D 157 (cC D ad) ad sz V S [.ref (ad jO), .int p1]) (va_Qq (fun (r : Option Nat) (S1 : vS) => (∃ k, r = some (ad (gM 0 k)) ∧ (0, k) = (x_X4_memberOrThrow S p1) ∧ k < 8) ∧ S1 = S) (bW D 157 (cC D ad) ad (aW 157 ad sz)) (aW 157 ad sz)) (xX D 157 (cC D ad) ad (aW 157 ad sz) (pxP (x_X4_memberOrThrow S p1) S)) 1 6 (aW 157 ad sz) := by
  refine x_metX (own := RX4) (cc := cX4_memberOrThrow) (maxL := 3) (ret := (some (.object "JointLoans$Member"))) (Qc := fun A => va_Qq (fun (r : Option Nat) (S1 : vS) => (∃ k, r = some (ad (gM 0 k)) ∧ (0, k) = (x_X4_memberOrThrow S p1) ∧ k < 8) ∧ S1 = S) (bW D 157 (cC D ad) ad A) A) (XC := fun A => xX D 157 (cC D ad) ad A (pxP (x_X4_memberOrThrow S p1) S)) rfl ⟨by decide +kernel, rfl, Nat.le_of_ble_eq_true rfl⟩ ?_
  intro p e s mm args below meth c A ls B htab hW hE hl hls
  have hx := B.1.1
  have hb := B.1.2.1
  have hin_X4 : ∀ w ∈ wsX40, w ∈ wsX4_memberOrThrow := fun w h => List.mem_cons_of_mem _ (List.mem_append_left _ (List.mem_append_left _ (List.mem_append_left _ (List.mem_append_right _ h))))
  have hat_277 : ∀ w ∈ (vx_atS RX4 277 "java/lang/IndexOutOfBoundsException" xuE).filter goodWord, w ∈ wsX4_memberOrThrow := fun w h => List.mem_cons_of_mem _ (List.mem_append_right _ h)
  have k_10 := B.1.2.2.2.2 (.fieldLink RX4 10 "JointLoans" "group" "LJointLoans$Group;") (by decide +kernel)
  have ki_X0 := B.1.2.2.2.2 (.initialized RX0) (by decide +kernel)
  have kn_X0_find := B.1.2.2.2.2 (.instanceMethod yX0_find) (by decide +kernel)
  have kv_X0_find := B.1.2.2.2.2 (.selects RX0 yX0_find yX0_find) (by decide +kernel)
  have kx_273 := B.1.2.2.2.2 (.classLink RX4 273 "java/lang/IndexOutOfBoundsException") (by decide +kernel)
  have ky_2 := B.1.2.2.2.2 (.initialized "java/lang/IndexOutOfBoundsException") (by decide +kernel)
  have zk := x_X4_memberOrThrow.eq_1 S p1
  have hl : lv_has ls 3 [(0, .ref (ad jO)), (1, .int p1)] := hl
  refine lv_aload_n hx hb dX4_memberOrThrow_0 rfl (lv_at hl 0 rfl) ?_
  refine x_get B hW hqj cC_j cls4 hin_X4 0 (by decide) (v := .ref (ad (gG 0))) rfl k_10 dX4_memberOrThrow_1 ?_
  refine lv_iload_n hx hb dX4_memberOrThrow_4 rfl (lv_at hl 1 rfl) ?_
  refine x_callq hW (x_runVN B hW (As := [.int p1]) (rest := []) (host := RX4) (hqG (by decide)) (cC_G (by decide)) cls0 (c_X0_find (D := D) (ad := ad) l _ S 0 p1 (by decide)) ⟨va_cnB 1 B.1.2.2.2.2 gX4_memberOrThrow_X0_find_n270 rfl rfl rfl (B.2.1.2 _ nl_X4_270) ki_X0 hd_X0_find.2 ⟨Nat.le_of_ble_eq_true rfl, Nat.le_of_ble_eq_true rfl⟩, kn_X0_find, kv_X0_find⟩ rfl hls (Nat.le_of_ble_eq_true rfl) dX4_memberOrThrow_5 ⟨Nat.le_of_ble_eq_true rfl, Nat.le_of_ble_eq_true rfl⟩) (fun r_5 S_5 H locs he hW => ?_)
  obtain ⟨hr, hs, hbk⟩ := he
  rw [hs] at hW
  rcases ho : x_X0_find S 0 p1 with _ | k_5
  · have zk := oc_none zk ho
    have hr : r_5 = none := by rw [hr, ho]; rfl
    subst hr
    refine W.eq (g2 := F0 mm 8 ls (.null :: [])) rfl ?_
    refine lv_astore_nN (lv' := [(2, .null), (0, .ref (ad jO)), (1, .int p1)]) hx hb dX4_memberOrThrow_8 rfl hl (by decide) rfl (fun ls hl => ?_)
    have hls := hl.1
    refine lv_aload_nN hx hb dX4_memberOrThrow_9 rfl (lv_at hl 0 rfl) ?_
    refine lv_ifnonnullN hx hb dX4_memberOrThrow_10 ?_
    exact x_throwW B htab hW hE hl0 hls (cls := "java/lang/IndexOutOfBoundsException") (text := "there is no such member") (by decide +kernel) (by decide +kernel) kx_273 ky_2 (fun w h => B.1.2.2.2.2 w (hat_277 w h)) (by decide +kernel) (by decide +kernel) (by decide +kernel) dX4_memberOrThrow_13 dX4_memberOrThrow_16 dX4_memberOrThrow_17 dX4_memberOrThrow_20 dX4_memberOrThrow_23 ⟨Nat.le_of_ble_eq_true rfl, Nat.le_of_ble_eq_true rfl, Nat.le_of_ble_eq_true rfl, Nat.le_of_ble_eq_true rfl⟩ ⟨Nat.le_of_ble_eq_true rfl, Nat.le_of_ble_eq_true rfl⟩ ⟨⟨2, 0, by decide, rfl, zk.symm⟩, rfl⟩
  · have zk := oc_some zk ho
    have hbk := hbk _ ho
    have hr : r_5 = some (ad (gM 0 k_5)) := by rw [hr, ho]; rfl
    subst hr
    refine W.eq (g2 := F0 mm 8 ls (.ref (ad (gM 0 k_5)) :: [])) rfl ?_
    have hbk_5 := hbk
    refine lv_astore_n (lv' := [(2, .ref (ad (gM 0 k_5))), (0, .ref (ad jO)), (1, .int p1)]) hx hb dX4_memberOrThrow_8 rfl hl (by decide) rfl (fun ls hl => ?_)
    have hls := hl.1
    refine lv_aload_n hx hb dX4_memberOrThrow_9 rfl (lv_at hl 0 rfl) ?_
    refine lv_ifnonnull (tgt := 24) hx hb dX4_memberOrThrow_10 (by decide) ?_
    refine lv_aload_n hx hb dX4_memberOrThrow_24 rfl (lv_at hl 0 rfl) ?_
    exact x_end ⟨Nat.le_of_ble_eq_true rfl, Nat.le_of_ble_eq_true rfl⟩ (x_aret B hW (some (ad (gM 0 k_5))) rfl ⟨⟨k_5, rfl, zk.symm, hbk_5⟩, rfl⟩ dX4_memberOrThrow_25)

def x_X4_leave (S : vS) (p1 : Int32) : ((Nat × Int32) × vS) := tbp 0 (x_X4_memberOrThrow S p1) S (fun k_2 => nm (x_X0_mayGo S 0 k_2) (fun r_11 => if r_11 = 0 then ((1, 0), S) else nm (x_X1_keep S 0) (fun S_35 => nmp (x_X0_dismiss S_35 0 k_2) (fun r_43 S_43 => ((0, r_43), S_43)))))
theorem hd_X4_leave : yX4_leave.cls = RX4 ∧ yX4_leave.cls ≠ "java/lang/invoke/MethodHandle" ∧ yX4_leave.cls ≠ "java/lang/invoke/VarHandle" ∧ (parseMethodDescriptor yX4_leave.desc).map (fun d => d.parameters.length) = some 1 := by decide +kernel
set_option maxHeartbeats 4000000 in
set_option maxRecDepth 100000 in
theorem c_X4_leave {D : va_G} {ad : Nat → Nat} {V : vE} (l : Launch) (sz : Nat) (hl0 : l.stackTraces = false) (S : vS) (p1 : Int32) : vx_Met l yX4_leave wsX4_leave (rmX 7 2) (pE D 157 (cC D ad) ad sz V S [.ref (ad jO), .int p1]) (va_Qi (fun (r : Int32) (S1 : vS) => ((0, r), S1) = (x_X4_leave S p1)) (bW D 157 (cC D ad) ad (aW 157 ad sz)) (aW 157 ad sz)) (xX D 157 (cC D ad) ad (aW 157 ad sz) (pxS (x_X4_leave S p1))) 2 12 (aW 157 ad sz) := by
  refine x_metX (own := RX4) (cc := cX4_leave) (maxL := 3) (ret := (some .int)) (Qc := fun A => va_Qi (fun (r : Int32) (S1 : vS) => ((0, r), S1) = (x_X4_leave S p1)) (bW D 157 (cC D ad) ad A) A) (XC := fun A => xX D 157 (cC D ad) ad A (pxS (x_X4_leave S p1))) rfl ⟨by decide +kernel, rfl, Nat.le_of_ble_eq_true rfl⟩ ?_
  intro p e s mm args below meth c A ls B htab hW hE hl hls
  have hx := B.1.1
  have hb := B.1.2.1
  have hin_X4 : ∀ w ∈ wsX40, w ∈ wsX4_leave := fun w h => List.mem_cons_of_mem _ (List.mem_append_left _ (List.mem_append_left _ (List.mem_append_left _ (List.mem_append_left _ (List.mem_append_left _ (List.mem_append_right _ h))))))
  have hat_41 : ∀ w ∈ (vx_atS RX4 41 "java/lang/IllegalStateException" xuE).filter goodWord, w ∈ wsX4_leave := fun w h => List.mem_cons_of_mem _ (List.mem_append_left _ (List.mem_append_right _ h))
  have k_10 := B.1.2.2.2.2 (.fieldLink RX4 10 "JointLoans" "group" "LJointLoans$Group;") (by decide +kernel)
  have k_22 := B.1.2.2.2.2 (.fieldLink RX4 22 "JointLoans" "history" "LJointLoans$History;") (by decide +kernel)
  have ki_X0 := B.1.2.2.2.2 (.initialized RX0) (by decide +kernel)
  have ki_X1 := B.1.2.2.2.2 (.initialized RX1) (by decide +kernel)
  have kn_X0_dismiss := B.1.2.2.2.2 (.instanceMethod yX0_dismiss) (by decide +kernel)
  have kn_X0_mayGo := B.1.2.2.2.2 (.instanceMethod yX0_mayGo) (by decide +kernel)
  have kn_X1_keep := B.1.2.2.2.2 (.instanceMethod yX1_keep) (by decide +kernel)
  have kv_X0_dismiss := B.1.2.2.2.2 (.selects RX0 yX0_dismiss yX0_dismiss) (by decide +kernel)
  have kv_X0_mayGo := B.1.2.2.2.2 (.selects RX0 yX0_mayGo yX0_mayGo) (by decide +kernel)
  have kv_X1_keep := B.1.2.2.2.2 (.selects RX1 yX1_keep yX1_keep) (by decide +kernel)
  have kx_37 := B.1.2.2.2.2 (.classLink RX4 37 "java/lang/IllegalStateException") (by decide +kernel)
  have ky_1 := B.1.2.2.2.2 (.initialized "java/lang/IllegalStateException") (by decide +kernel)
  have zk := x_X4_leave.eq_1 S p1
  have hl : lv_has ls 3 [(0, .ref (ad jO)), (1, .int p1)] := hl
  refine lv_aload_n hx hb dX4_leave_0 rfl (lv_at hl 0 rfl) ?_
  refine lv_iload_n hx hb dX4_leave_1 rfl (lv_at hl 1 rfl) ?_
  refine x_xcallq B htab hW (x_runVX B hW hE (As := [.int p1]) (rest := []) hqj cC_j cls4 (c_X4_memberOrThrow (D := D) (ad := ad) (V := V) l _ hl0 S p1) (cwV 1 B.1.2.2.2.2 gX4_leave_X4_memberOrThrow rfl rfl rfl hd_X4_memberOrThrow ⟨Nat.le_of_ble_eq_true rfl, Nat.le_of_ble_eq_true rfl⟩) rfl hls (Nat.le_of_ble_eq_true rfl) dX4_leave_2 ⟨Nat.le_of_ble_eq_true rfl, Nat.le_of_ble_eq_true rfl⟩) ⟨Nat.le_of_ble_eq_true rfl, Nat.le_of_ble_eq_true rfl⟩ (fun E S1 hq => by obtain ⟨⟨k, v, hk, hn, he⟩, hs⟩ := hq; rw [hs]; exact ⟨k, _, hk, hn, (tbp_ex zk he hk).symm⟩) (fun r_2 S_2 H locs he hW => ?_)
  obtain ⟨⟨k_2, hr, he_2, hbk_2⟩, hs⟩ := he
  rw [hs] at hW
  subst hr
  have zk := tbp_ok zk he_2
  refine W.eq (g2 := F0 mm 5 ls (.ref (ad (gM 0 k_2)) :: [])) rfl ?_
  refine lv_astore_n (lv' := [(2, .ref (ad (gM 0 k_2))), (0, .ref (ad jO)), (1, .int p1)]) hx hb dX4_leave_5 rfl hl (by decide) rfl (fun ls hl => ?_)
  have hls := hl.1
  refine lv_aload_n hx hb dX4_leave_6 rfl (lv_at hl 1 rfl) ?_
  refine x_get B hW hqj cC_j cls4 hin_X4 0 (by decide) (v := .ref (ad (gG 0))) rfl k_10 dX4_leave_7 ?_
  refine lv_aload_n hx hb dX4_leave_10 rfl (lv_at hl 0 rfl) ?_
  refine x_calli hW (x_runVN B hW (As := [.ref (ad (gM 0 k_2))]) (rest := []) (host := RX4) (hqG (by decide)) (cC_G (by decide)) cls0 (c_X0_mayGo (D := D) (ad := ad) l _ S 0 k_2 (by decide) hbk_2) ⟨va_cnB 1 B.1.2.2.2.2 gX4_leave_X0_mayGo_n56 rfl rfl rfl (B.2.1.2 _ nl_X4_56) ki_X0 hd_X0_mayGo.2 ⟨Nat.le_of_ble_eq_true rfl, Nat.le_of_ble_eq_true rfl⟩, kn_X0_mayGo, kv_X0_mayGo⟩ rfl hls (Nat.le_of_ble_eq_true rfl) dX4_leave_11 ⟨Nat.le_of_ble_eq_true rfl, Nat.le_of_ble_eq_true rfl⟩) (fun r_11 S_11 H locs he hW => ?_)
  obtain ⟨hr_11, hs, hz_11⟩ := he
  rw [hs] at hW
  have zk := nm_at zk hr_11
  refine lv_if_ne (tgt := 27) hx hb dX4_leave_14 (by decide) (fun c_14 => ?_) (fun c_14 => ?_)
  · have zk := zk.trans (if_neg c_14)
    refine lv_aload_n hx hb dX4_leave_27 rfl (lv_at hl 1 rfl) ?_
    refine x_get B hW hqj cC_j cls4 hin_X4 2 (by decide) (v := .ref (ad hO)) rfl k_22 dX4_leave_28 ?_
    refine lv_aload_n hx hb dX4_leave_31 rfl (lv_at hl 1 rfl) ?_
    refine x_get B hW hqj cC_j cls4 hin_X4 0 (by decide) (v := .ref (ad (gG 0))) rfl k_10 dX4_leave_32 ?_
    refine x_callv hW (x_runVN B hW (As := [.ref (ad (gG 0))]) (rest := []) (host := RX4) hqh cC_h cls1 (c_X1_keep (D := D) (ad := ad) l _ S 0 (by decide)) ⟨va_cnB 1 B.1.2.2.2.2 gX4_leave_X1_keep_n44 rfl rfl rfl (B.2.1.2 _ nl_X4_44) ki_X1 hd_X1_keep.2 ⟨Nat.le_of_ble_eq_true rfl, Nat.le_of_ble_eq_true rfl⟩, kn_X1_keep, kv_X1_keep⟩ rfl hls (Nat.le_of_ble_eq_true rfl) dX4_leave_35 ⟨Nat.le_of_ble_eq_true rfl, Nat.le_of_ble_eq_true rfl⟩) (fun S_35 H locs he hW => ?_)
    have he_35 := he
    have zk := nm_at zk he_35
    refine lv_aload_n hx hb dX4_leave_38 rfl (lv_at hl 1 rfl) ?_
    refine x_get B hW hqj cC_j cls4 hin_X4 0 (by decide) (v := .ref (ad (gG 0))) rfl k_10 dX4_leave_39 ?_
    refine lv_aload_n hx hb dX4_leave_42 rfl (lv_at hl 0 rfl) ?_
    refine x_calli hW (x_runVN B hW (As := [.ref (ad (gM 0 k_2))]) (rest := []) (host := RX4) (hqG (by decide)) (cC_G (by decide)) cls0 (c_X0_dismiss (D := D) (ad := ad) l _ S_35 0 k_2 (by decide) hbk_2) ⟨va_cnB 1 B.1.2.2.2.2 gX4_leave_X0_dismiss_n62 rfl rfl rfl (B.2.1.2 _ nl_X4_62) ki_X0 hd_X0_dismiss.2 ⟨Nat.le_of_ble_eq_true rfl, Nat.le_of_ble_eq_true rfl⟩, kn_X0_dismiss, kv_X0_dismiss⟩ rfl hls (Nat.le_of_ble_eq_true rfl) dX4_leave_43 ⟨Nat.le_of_ble_eq_true rfl, Nat.le_of_ble_eq_true rfl⟩) (fun r_43 S_43 H locs he hW => ?_)
    have hr_43 := he
    have zk := nmp_at zk hr_43
    have he_43 : S_43 = (x_X0_dismiss S_35 0 k_2).2 := by rw [← hr_43]
    exact x_end ⟨Nat.le_of_ble_eq_true rfl, Nat.le_of_ble_eq_true rfl⟩ (x_iret B hW zk.symm dX4_leave_46)
  · have zk := zk.trans (if_pos c_14)
    exact x_throw B htab hW hE hl0 hls (cls := "java/lang/IllegalStateException") (text := "the member cannot leave") (by decide +kernel) (by decide +kernel) kx_37 ky_1 (fun w h => B.1.2.2.2.2 w (hat_41 w h)) (by decide +kernel) (by decide +kernel) (by decide +kernel) dX4_leave_17 dX4_leave_20 dX4_leave_21 dX4_leave_23 dX4_leave_26 ⟨Nat.le_of_ble_eq_true rfl, Nat.le_of_ble_eq_true rfl, Nat.le_of_ble_eq_true rfl, Nat.le_of_ble_eq_true rfl⟩ ⟨Nat.le_of_ble_eq_true rfl, Nat.le_of_ble_eq_true rfl⟩ ⟨1, 0, by decide, rfl, zk.symm⟩

def x_X4_lend (S : vS) (p1 : Int32) (p2 : Int32) (p3 : Int32) : ((Nat × Int32) × vS) := tbp 0 (x_X4_memberOrThrow S p1) S (fun k_2 => if p2 < 10 then ((3, 0), S) else if 2000 < p2 then ((3, 0), S) else if p3 < 1 then ((3, 0), S) else if p3 ≤ 52 then nm (x_X2_mayBorrow S 0 k_2 p2) (fun r_44 => if r_44 = 0 then ((1, 0), S) else nm (x_X1_keep S 0) (fun S_68 => nm (x_X0_grantLoan S_68 0 k_2 p2 p3) (fun S_79 => nm (x_X2_due S_79 0 k_2) (fun r_84 => ((0, r_84), S_79))))) else ((3, 0), S))
theorem hd_X4_lend : yX4_lend.cls = RX4 ∧ yX4_lend.cls ≠ "java/lang/invoke/MethodHandle" ∧ yX4_lend.cls ≠ "java/lang/invoke/VarHandle" ∧ (parseMethodDescriptor yX4_lend.desc).map (fun d => d.parameters.length) = some 3 := by decide +kernel
set_option maxHeartbeats 4000000 in
set_option maxRecDepth 100000 in
theorem c_X4_lend {D : va_G} {ad : Nat → Nat} {V : vE} (l : Launch) (sz : Nat) (hl0 : l.stackTraces = false) (S : vS) (p1 : Int32) (p2 : Int32) (p3 : Int32) : vx_Met l yX4_lend wsX4_lend (rmX 7 2) (pE D 157 (cC D ad) ad sz V S [.ref (ad jO), .int p1, .int p2, .int p3]) (va_Qi (fun (r : Int32) (S1 : vS) => ((0, r), S1) = (x_X4_lend S p1 p2 p3)) (bW D 157 (cC D ad) ad (aW 157 ad sz)) (aW 157 ad sz)) (xX D 157 (cC D ad) ad (aW 157 ad sz) (pxS (x_X4_lend S p1 p2 p3))) 2 12 (aW 157 ad sz) := by
  refine x_metX (own := RX4) (cc := cX4_lend) (maxL := 5) (ret := (some .int)) (Qc := fun A => va_Qi (fun (r : Int32) (S1 : vS) => ((0, r), S1) = (x_X4_lend S p1 p2 p3)) (bW D 157 (cC D ad) ad A) A) (XC := fun A => xX D 157 (cC D ad) ad A (pxS (x_X4_lend S p1 p2 p3))) rfl ⟨by decide +kernel, rfl, Nat.le_of_ble_eq_true rfl⟩ ?_
  intro p e s mm args below meth c A ls B htab hW hE hl hls
  have hx := B.1.1
  have hb := B.1.2.1
  have hin_X4 : ∀ w ∈ wsX40, w ∈ wsX4_lend := fun w h => List.mem_cons_of_mem _ (List.mem_append_left _ (List.mem_append_left _ (List.mem_append_left _ (List.mem_append_left _ (List.mem_append_left _ (List.mem_append_left _ (List.mem_append_right _ h)))))))
  have hat_41 : ∀ w ∈ (vx_atS RX4 41 "java/lang/IllegalStateException" xuE).filter goodWord, w ∈ wsX4_lend := fun w h => List.mem_cons_of_mem _ (List.mem_append_left _ (List.mem_append_right _ h))
  have hat_70 : ∀ w ∈ (vx_atS RX4 70 "java/lang/IllegalArgumentException" xuE).filter goodWord, w ∈ wsX4_lend := fun w h => List.mem_cons_of_mem _ (List.mem_append_left _ (List.mem_append_left _ (List.mem_append_right _ h)))
  have k_10 := B.1.2.2.2.2 (.fieldLink RX4 10 "JointLoans" "group" "LJointLoans$Group;") (by decide +kernel)
  have k_22 := B.1.2.2.2.2 (.fieldLink RX4 22 "JointLoans" "history" "LJointLoans$History;") (by decide +kernel)
  have ki_X0 := B.1.2.2.2.2 (.initialized RX0) (by decide +kernel)
  have ki_X1 := B.1.2.2.2.2 (.initialized RX1) (by decide +kernel)
  have ki_X2 := B.1.2.2.2.2 (.initialized RX2) (by decide +kernel)
  have kn_X0_grantLoan := B.1.2.2.2.2 (.instanceMethod yX0_grantLoan) (by decide +kernel)
  have kn_X1_keep := B.1.2.2.2.2 (.instanceMethod yX1_keep) (by decide +kernel)
  have kn_X2_due := B.1.2.2.2.2 (.instanceMethod yX2_due) (by decide +kernel)
  have kn_X2_mayBorrow := B.1.2.2.2.2 (.instanceMethod yX2_mayBorrow) (by decide +kernel)
  have kv_X0_grantLoan := B.1.2.2.2.2 (.selects RX0 yX0_grantLoan yX0_grantLoan) (by decide +kernel)
  have kv_X1_keep := B.1.2.2.2.2 (.selects RX1 yX1_keep yX1_keep) (by decide +kernel)
  have kv_X2_due := B.1.2.2.2.2 (.selects RX2 yX2_due yX2_due) (by decide +kernel)
  have kv_X2_mayBorrow := B.1.2.2.2.2 (.selects RX2 yX2_mayBorrow yX2_mayBorrow) (by decide +kernel)
  have kx_37 := B.1.2.2.2.2 (.classLink RX4 37 "java/lang/IllegalStateException") (by decide +kernel)
  have kx_66 := B.1.2.2.2.2 (.classLink RX4 66 "java/lang/IllegalArgumentException") (by decide +kernel)
  have ky_1 := B.1.2.2.2.2 (.initialized "java/lang/IllegalStateException") (by decide +kernel)
  have ky_3 := B.1.2.2.2.2 (.initialized "java/lang/IllegalArgumentException") (by decide +kernel)
  have zk := x_X4_lend.eq_1 S p1 p2 p3
  have hl : lv_has ls 5 [(0, .ref (ad jO)), (1, .int p1), (2, .int p2), (3, .int p3)] := hl
  refine lv_aload_n hx hb dX4_lend_0 rfl (lv_at hl 0 rfl) ?_
  refine lv_iload_n hx hb dX4_lend_1 rfl (lv_at hl 1 rfl) ?_
  refine x_xcallq B htab hW (x_runVX B hW hE (As := [.int p1]) (rest := []) hqj cC_j cls4 (c_X4_memberOrThrow (D := D) (ad := ad) (V := V) l _ hl0 S p1) (cwV 1 B.1.2.2.2.2 gX4_lend_X4_memberOrThrow rfl rfl rfl hd_X4_memberOrThrow ⟨Nat.le_of_ble_eq_true rfl, Nat.le_of_ble_eq_true rfl⟩) rfl hls (Nat.le_of_ble_eq_true rfl) dX4_lend_2 ⟨Nat.le_of_ble_eq_true rfl, Nat.le_of_ble_eq_true rfl⟩) ⟨Nat.le_of_ble_eq_true rfl, Nat.le_of_ble_eq_true rfl⟩ (fun E S1 hq => by obtain ⟨⟨k, v, hk, hn, he⟩, hs⟩ := hq; rw [hs]; exact ⟨k, _, hk, hn, (tbp_ex zk he hk).symm⟩) (fun r_2 S_2 H locs he hW => ?_)
  obtain ⟨⟨k_2, hr, he_2, hbk_2⟩, hs⟩ := he
  rw [hs] at hW
  subst hr
  have zk := tbp_ok zk he_2
  refine W.eq (g2 := F0 mm 5 ls (.ref (ad (gM 0 k_2)) :: [])) rfl ?_
  refine lv_astore (lv' := [(4, .ref (ad (gM 0 k_2))), (0, .ref (ad jO)), (1, .int p1), (2, .int p2), (3, .int p3)]) hx hb dX4_lend_5 hl (by decide) rfl (fun ls hl => ?_)
  have hls := hl.1
  refine lv_iload_n hx hb dX4_lend_7 rfl (lv_at hl 3 rfl) ?_
  refine lv_bipush (v := 10) hx hb dX4_lend_8 (by decide) ?_
  refine lv_icmp_lt (tgt := 31) hx hb dX4_lend_10 (by decide) (fun c_10 => ?_) (fun c_10 => ?_)
  · have zk := zk.trans (if_pos c_10)
    exact x_throw B htab hW hE hl0 hls (cls := "java/lang/IllegalArgumentException") (text := "sum or weeks is out of range") (by decide +kernel) (by decide +kernel) kx_66 ky_3 (fun w h => B.1.2.2.2.2 w (hat_70 w h)) (by decide +kernel) (by decide +kernel) (by decide +kernel) dX4_lend_31 dX4_lend_34 dX4_lend_35 dX4_lend_37 dX4_lend_40 ⟨Nat.le_of_ble_eq_true rfl, Nat.le_of_ble_eq_true rfl, Nat.le_of_ble_eq_true rfl, Nat.le_of_ble_eq_true rfl⟩ ⟨Nat.le_of_ble_eq_true rfl, Nat.le_of_ble_eq_true rfl⟩ ⟨3, 0, by decide, rfl, zk.symm⟩
  · have zk := zk.trans (if_neg c_10)
    refine lv_iload_n hx hb dX4_lend_13 rfl (lv_at hl 3 rfl) ?_
    refine lv_sipush (v := 2000) hx hb dX4_lend_14 (by decide) ?_
    refine lv_icmp_gt (tgt := 31) hx hb dX4_lend_17 (by decide) (fun c_17 => ?_) (fun c_17 => ?_)
    · have zk := zk.trans (if_pos c_17)
      exact x_throw B htab hW hE hl0 hls (cls := "java/lang/IllegalArgumentException") (text := "sum or weeks is out of range") (by decide +kernel) (by decide +kernel) kx_66 ky_3 (fun w h => B.1.2.2.2.2 w (hat_70 w h)) (by decide +kernel) (by decide +kernel) (by decide +kernel) dX4_lend_31 dX4_lend_34 dX4_lend_35 dX4_lend_37 dX4_lend_40 ⟨Nat.le_of_ble_eq_true rfl, Nat.le_of_ble_eq_true rfl, Nat.le_of_ble_eq_true rfl, Nat.le_of_ble_eq_true rfl⟩ ⟨Nat.le_of_ble_eq_true rfl, Nat.le_of_ble_eq_true rfl⟩ ⟨3, 0, by decide, rfl, zk.symm⟩
    · have zk := zk.trans (if_neg c_17)
      refine lv_iload_n hx hb dX4_lend_20 rfl (lv_at hl 4 rfl) ?_
      refine lv_iconst (v := 1) hx hb dX4_lend_21 (by decide) ?_
      refine lv_icmp_lt (tgt := 31) hx hb dX4_lend_22 (by decide) (fun c_22 => ?_) (fun c_22 => ?_)
      · have zk := zk.trans (if_pos c_22)
        exact x_throw B htab hW hE hl0 hls (cls := "java/lang/IllegalArgumentException") (text := "sum or weeks is out of range") (by decide +kernel) (by decide +kernel) kx_66 ky_3 (fun w h => B.1.2.2.2.2 w (hat_70 w h)) (by decide +kernel) (by decide +kernel) (by decide +kernel) dX4_lend_31 dX4_lend_34 dX4_lend_35 dX4_lend_37 dX4_lend_40 ⟨Nat.le_of_ble_eq_true rfl, Nat.le_of_ble_eq_true rfl, Nat.le_of_ble_eq_true rfl, Nat.le_of_ble_eq_true rfl⟩ ⟨Nat.le_of_ble_eq_true rfl, Nat.le_of_ble_eq_true rfl⟩ ⟨3, 0, by decide, rfl, zk.symm⟩
      · have zk := zk.trans (if_neg c_22)
        refine lv_iload_n hx hb dX4_lend_25 rfl (lv_at hl 4 rfl) ?_
        refine lv_bipush (v := 52) hx hb dX4_lend_26 (by decide) ?_
        refine lv_icmp_le (tgt := 41) hx hb dX4_lend_28 (by decide) (fun c_28 => ?_) (fun c_28 => ?_)
        · have zk := zk.trans (if_pos c_28)
          refine lv_aload hx hb dX4_lend_41 (lv_at hl 0 rfl) ?_
          refine lv_iload_n hx hb dX4_lend_43 rfl (lv_at hl 3 rfl) ?_
          refine x_calli hW (x_runVN B hW (As := [.int p2]) (rest := []) (host := RX4) (hqM (by decide) hbk_2) (cC_M (by decide) hbk_2) cls2 (c_X2_mayBorrow (D := D) (ad := ad) l _ S 0 k_2 p2 (by decide) hbk_2) ⟨va_cnB 1 B.1.2.2.2.2 gX4_lend_X2_mayBorrow_n71 rfl rfl rfl (B.2.1.2 _ nl_X4_71) ki_X2 hd_X2_mayBorrow.2 ⟨Nat.le_of_ble_eq_true rfl, Nat.le_of_ble_eq_true rfl⟩, kn_X2_mayBorrow, kv_X2_mayBorrow⟩ rfl hls (Nat.le_of_ble_eq_true rfl) dX4_lend_44 ⟨Nat.le_of_ble_eq_true rfl, Nat.le_of_ble_eq_true rfl⟩) (fun r_44 S_44 H locs he hW => ?_)
          obtain ⟨hr_44, hs, hz_44⟩ := he
          rw [hs] at hW
          have zk := nm_at zk hr_44
          refine lv_if_ne (tgt := 60) hx hb dX4_lend_47 (by decide) (fun c_47 => ?_) (fun c_47 => ?_)
          · have zk := zk.trans (if_neg c_47)
            refine lv_aload_n hx hb dX4_lend_60 rfl (lv_at hl 1 rfl) ?_
            refine x_get B hW hqj cC_j cls4 hin_X4 2 (by decide) (v := .ref (ad hO)) rfl k_22 dX4_lend_61 ?_
            refine lv_aload_n hx hb dX4_lend_64 rfl (lv_at hl 1 rfl) ?_
            refine x_get B hW hqj cC_j cls4 hin_X4 0 (by decide) (v := .ref (ad (gG 0))) rfl k_10 dX4_lend_65 ?_
            refine x_callv hW (x_runVN B hW (As := [.ref (ad (gG 0))]) (rest := []) (host := RX4) hqh cC_h cls1 (c_X1_keep (D := D) (ad := ad) l _ S 0 (by decide)) ⟨va_cnB 1 B.1.2.2.2.2 gX4_lend_X1_keep_n44 rfl rfl rfl (B.2.1.2 _ nl_X4_44) ki_X1 hd_X1_keep.2 ⟨Nat.le_of_ble_eq_true rfl, Nat.le_of_ble_eq_true rfl⟩, kn_X1_keep, kv_X1_keep⟩ rfl hls (Nat.le_of_ble_eq_true rfl) dX4_lend_68 ⟨Nat.le_of_ble_eq_true rfl, Nat.le_of_ble_eq_true rfl⟩) (fun S_68 H locs he hW => ?_)
            have he_68 := he
            have zk := nm_at zk he_68
            refine lv_aload_n hx hb dX4_lend_71 rfl (lv_at hl 1 rfl) ?_
            refine x_get B hW hqj cC_j cls4 hin_X4 0 (by decide) (v := .ref (ad (gG 0))) rfl k_10 dX4_lend_72 ?_
            refine lv_aload hx hb dX4_lend_75 (lv_at hl 0 rfl) ?_
            refine lv_iload_n hx hb dX4_lend_77 rfl (lv_at hl 3 rfl) ?_
            refine lv_iload_n hx hb dX4_lend_78 rfl (lv_at hl 4 rfl) ?_
            refine x_callv hW (x_runVN B hW (As := [.ref (ad (gM 0 k_2)), .int p2, .int p3]) (rest := []) (host := RX4) (hqG (by decide)) (cC_G (by decide)) cls0 (c_X0_grantLoan (D := D) (ad := ad) l _ S_68 0 k_2 p2 p3 (by decide) hbk_2) ⟨va_cnB 3 B.1.2.2.2.2 gX4_lend_X0_grantLoan_n79 rfl rfl rfl (B.2.1.2 _ nl_X4_79) ki_X0 hd_X0_grantLoan.2 ⟨Nat.le_of_ble_eq_true rfl, Nat.le_of_ble_eq_true rfl⟩, kn_X0_grantLoan, kv_X0_grantLoan⟩ rfl hls (Nat.le_of_ble_eq_true rfl) dX4_lend_79 ⟨Nat.le_of_ble_eq_true rfl, Nat.le_of_ble_eq_true rfl⟩) (fun S_79 H locs he hW => ?_)
            have he_79 := he
            have zk := nm_at zk he_79
            refine lv_aload hx hb dX4_lend_82 (lv_at hl 0 rfl) ?_
            refine x_calli hW (x_runVN B hW (As := []) (rest := []) (host := RX4) (hqM (by decide) hbk_2) (cC_M (by decide) hbk_2) cls2 (c_X2_due (D := D) (ad := ad) l _ S_79 0 k_2 (by decide) hbk_2) ⟨va_cnB 0 B.1.2.2.2.2 gX4_lend_X2_due_n83 rfl rfl rfl (B.2.1.2 _ nl_X4_83) ki_X2 hd_X2_due.2 ⟨Nat.le_of_ble_eq_true rfl, Nat.le_of_ble_eq_true rfl⟩, kn_X2_due, kv_X2_due⟩ rfl hls (Nat.le_of_ble_eq_true rfl) dX4_lend_84 ⟨Nat.le_of_ble_eq_true rfl, Nat.le_of_ble_eq_true rfl⟩) (fun r_84 S_84 H locs he hW => ?_)
            obtain ⟨hr_84, hs⟩ := he
            rw [hs] at hW
            have zk := nm_at zk hr_84
            exact x_end ⟨Nat.le_of_ble_eq_true rfl, Nat.le_of_ble_eq_true rfl⟩ (x_iret B hW zk.symm dX4_lend_87)
          · have zk := zk.trans (if_pos c_47)
            exact x_throw B htab hW hE hl0 hls (cls := "java/lang/IllegalStateException") (text := "the member cannot borrow this") (by decide +kernel) (by decide +kernel) kx_37 ky_1 (fun w h => B.1.2.2.2.2 w (hat_41 w h)) (by decide +kernel) (by decide +kernel) (by decide +kernel) dX4_lend_50 dX4_lend_53 dX4_lend_54 dX4_lend_56 dX4_lend_59 ⟨Nat.le_of_ble_eq_true rfl, Nat.le_of_ble_eq_true rfl, Nat.le_of_ble_eq_true rfl, Nat.le_of_ble_eq_true rfl⟩ ⟨Nat.le_of_ble_eq_true rfl, Nat.le_of_ble_eq_true rfl⟩ ⟨1, 0, by decide, rfl, zk.symm⟩
        · have zk := zk.trans (if_neg c_28)
          exact x_throw B htab hW hE hl0 hls (cls := "java/lang/IllegalArgumentException") (text := "sum or weeks is out of range") (by decide +kernel) (by decide +kernel) kx_66 ky_3 (fun w h => B.1.2.2.2.2 w (hat_70 w h)) (by decide +kernel) (by decide +kernel) (by decide +kernel) dX4_lend_31 dX4_lend_34 dX4_lend_35 dX4_lend_37 dX4_lend_40 ⟨Nat.le_of_ble_eq_true rfl, Nat.le_of_ble_eq_true rfl, Nat.le_of_ble_eq_true rfl, Nat.le_of_ble_eq_true rfl⟩ ⟨Nat.le_of_ble_eq_true rfl, Nat.le_of_ble_eq_true rfl⟩ ⟨3, 0, by decide, rfl, zk.symm⟩

def x_X4_absent (S : vS) (p1 : Int32) : ((Nat × Int32) × vS) := tbp 0 (x_X4_memberOrThrow S p1) S (fun k_2 => nm (x_X1_keep S 0) (fun S_14 => if (bz (S_14 (gM 0 k_2) 8)) = 0 then nm (st S_14 (gM 0 k_2) 8 1) (fun S_30 => nm (x_X0_awayMembers S_30 0) (fun r_37 => ((0, r_37), S_30))) else nm (st S_14 (gM 0 k_2) 8 0) (fun S_30 => nm (x_X0_awayMembers S_30 0) (fun r_37 => ((0, r_37), S_30)))))
theorem hd_X4_absent : yX4_absent.cls = RX4 ∧ yX4_absent.cls ≠ "java/lang/invoke/MethodHandle" ∧ yX4_absent.cls ≠ "java/lang/invoke/VarHandle" ∧ (parseMethodDescriptor yX4_absent.desc).map (fun d => d.parameters.length) = some 1 := by decide +kernel
set_option maxHeartbeats 4000000 in
set_option maxRecDepth 100000 in
theorem c_X4_absent {D : va_G} {ad : Nat → Nat} {V : vE} (l : Launch) (sz : Nat) (hl0 : l.stackTraces = false) (S : vS) (p1 : Int32) : vx_Met l yX4_absent wsX4_absent (rmX 7 1) (pE D 157 (cC D ad) ad sz V S [.ref (ad jO), .int p1]) (va_Qi (fun (r : Int32) (S1 : vS) => ((0, r), S1) = (x_X4_absent S p1)) (bW D 157 (cC D ad) ad (aW 157 ad sz)) (aW 157 ad sz)) (xX D 157 (cC D ad) ad (aW 157 ad sz) (pxS (x_X4_absent S p1))) 1 6 (aW 157 ad sz) := by
  refine x_metX (own := RX4) (cc := cX4_absent) (maxL := 3) (ret := (some .int)) (Qc := fun A => va_Qi (fun (r : Int32) (S1 : vS) => ((0, r), S1) = (x_X4_absent S p1)) (bW D 157 (cC D ad) ad A) A) (XC := fun A => xX D 157 (cC D ad) ad A (pxS (x_X4_absent S p1))) rfl ⟨by decide +kernel, rfl, Nat.le_of_ble_eq_true rfl⟩ ?_
  intro p e s mm args below meth c A ls B htab hW hE hl hls
  have hx := B.1.1
  have hb := B.1.2.1
  have hin_X2 : ∀ w ∈ wsX20, w ∈ wsX4_absent := fun w h => List.mem_cons_of_mem _ (List.mem_append_left _ (List.mem_append_left _ (List.mem_append_left _ (List.mem_append_right _ h))))
  have hin_X4 : ∀ w ∈ wsX40, w ∈ wsX4_absent := fun w h => List.mem_cons_of_mem _ (List.mem_append_left _ (List.mem_append_left _ (List.mem_append_left _ (List.mem_append_left _ (List.mem_append_right _ h)))))
  have k_10 := B.1.2.2.2.2 (.fieldLink RX4 10 "JointLoans" "group" "LJointLoans$Group;") (by decide +kernel)
  have k_22 := B.1.2.2.2.2 (.fieldLink RX4 22 "JointLoans" "history" "LJointLoans$History;") (by decide +kernel)
  have ki_X0 := B.1.2.2.2.2 (.initialized RX0) (by decide +kernel)
  have ki_X1 := B.1.2.2.2.2 (.initialized RX1) (by decide +kernel)
  have kn_X0_awayMembers := B.1.2.2.2.2 (.instanceMethod yX0_awayMembers) (by decide +kernel)
  have kn_X1_keep := B.1.2.2.2.2 (.instanceMethod yX1_keep) (by decide +kernel)
  have kv_X0_awayMembers := B.1.2.2.2.2 (.selects RX0 yX0_awayMembers yX0_awayMembers) (by decide +kernel)
  have kv_X1_keep := B.1.2.2.2.2 (.selects RX1 yX1_keep yX1_keep) (by decide +kernel)
  have zk := x_X4_absent.eq_1 S p1
  have hl : lv_has ls 3 [(0, .ref (ad jO)), (1, .int p1)] := hl
  refine lv_aload_n hx hb dX4_absent_0 rfl (lv_at hl 0 rfl) ?_
  refine lv_iload_n hx hb dX4_absent_1 rfl (lv_at hl 1 rfl) ?_
  refine x_xcallq B htab hW (x_runVX B hW hE (As := [.int p1]) (rest := []) hqj cC_j cls4 (c_X4_memberOrThrow (D := D) (ad := ad) (V := V) l _ hl0 S p1) (cwV 1 B.1.2.2.2.2 gX4_absent_X4_memberOrThrow rfl rfl rfl hd_X4_memberOrThrow ⟨Nat.le_of_ble_eq_true rfl, Nat.le_of_ble_eq_true rfl⟩) rfl hls (Nat.le_of_ble_eq_true rfl) dX4_absent_2 ⟨Nat.le_of_ble_eq_true rfl, Nat.le_of_ble_eq_true rfl⟩) ⟨Nat.le_of_ble_eq_true rfl, Nat.le_of_ble_eq_true rfl⟩ (fun E S1 hq => by obtain ⟨⟨k, v, hk, hn, he⟩, hs⟩ := hq; rw [hs]; exact ⟨k, _, hk, hn, (tbp_ex zk he hk).symm⟩) (fun r_2 S_2 H locs he hW => ?_)
  obtain ⟨⟨k_2, hr, he_2, hbk_2⟩, hs⟩ := he
  rw [hs] at hW
  subst hr
  have zk := tbp_ok zk he_2
  refine W.eq (g2 := F0 mm 5 ls (.ref (ad (gM 0 k_2)) :: [])) rfl ?_
  refine lv_astore_n (lv' := [(2, .ref (ad (gM 0 k_2))), (0, .ref (ad jO)), (1, .int p1)]) hx hb dX4_absent_5 rfl hl (by decide) rfl (fun ls hl => ?_)
  have hls := hl.1
  refine lv_aload_n hx hb dX4_absent_6 rfl (lv_at hl 1 rfl) ?_
  refine x_get B hW hqj cC_j cls4 hin_X4 2 (by decide) (v := .ref (ad hO)) rfl k_22 dX4_absent_7 ?_
  refine lv_aload_n hx hb dX4_absent_10 rfl (lv_at hl 1 rfl) ?_
  refine x_get B hW hqj cC_j cls4 hin_X4 0 (by decide) (v := .ref (ad (gG 0))) rfl k_10 dX4_absent_11 ?_
  refine x_callv hW (x_runVN B hW (As := [.ref (ad (gG 0))]) (rest := []) (host := RX4) hqh cC_h cls1 (c_X1_keep (D := D) (ad := ad) l _ S 0 (by decide)) ⟨va_cnB 1 B.1.2.2.2.2 gX4_absent_X1_keep_n44 rfl rfl rfl (B.2.1.2 _ nl_X4_44) ki_X1 hd_X1_keep.2 ⟨Nat.le_of_ble_eq_true rfl, Nat.le_of_ble_eq_true rfl⟩, kn_X1_keep, kv_X1_keep⟩ rfl hls (Nat.le_of_ble_eq_true rfl) dX4_absent_14 ⟨Nat.le_of_ble_eq_true rfl, Nat.le_of_ble_eq_true rfl⟩) (fun S_14 H locs he hW => ?_)
  have he_14 := he
  have zk := nm_at zk he_14
  refine lv_aload_n hx hb dX4_absent_17 rfl (lv_at hl 0 rfl) ?_
  refine lv_aload_n hx hb dX4_absent_18 rfl (lv_at hl 0 rfl) ?_
  refine x_getN B hW (hqM (by decide) hbk_2) (cC_M (by decide) hbk_2) cls2 hin_X2 8 (by decide) (v := .int (bz (S_14 (gM 0 k_2) 8))) rfl nl_X4_86 dX4_absent_19 ?_
  refine lv_if_ne (tgt := 29) hx hb dX4_absent_22 (by decide) (fun c_22 => ?_) (fun c_22 => ?_)
  · have zk := zk.trans (if_neg c_22)
    refine lv_iconst (v := 0) hx hb dX4_absent_29 (by decide) ?_
    refine x_putN B hW (hqM (by decide) hbk_2) cls2 hin_X2 8 (by decide) (cC_M (by decide) hbk_2) rfl (ty := .boolean) (by decide +kernel) (nar_z (Or.inl rfl)) (fit_z (Or.inl rfl)) (Nat.le_of_ble_eq_true rfl) (j := 8) (pM_8 (by decide) hbk_2 (Or.inl rfl)) nl_X4_86 dX4_absent_30 (fun H locs S_30 he_30 hW => ?_)
    have zk := nm_at zk he_30
    refine lv_aload_n hx hb dX4_absent_33 rfl (lv_at hl 1 rfl) ?_
    refine x_get B hW hqj cC_j cls4 hin_X4 0 (by decide) (v := .ref (ad (gG 0))) rfl k_10 dX4_absent_34 ?_
    refine x_calli hW (x_runVN B hW (As := []) (rest := []) (host := RX4) (hqG (by decide)) (cC_G (by decide)) cls0 (c_X0_awayMembers (D := D) (ad := ad) l _ S_30 0 (by decide)) ⟨va_cnB 0 B.1.2.2.2.2 gX4_absent_X0_awayMembers_n90 rfl rfl rfl (B.2.1.2 _ nl_X4_90) ki_X0 hd_X0_awayMembers.2 ⟨Nat.le_of_ble_eq_true rfl, Nat.le_of_ble_eq_true rfl⟩, kn_X0_awayMembers, kv_X0_awayMembers⟩ rfl hls (Nat.le_of_ble_eq_true rfl) dX4_absent_37 ⟨Nat.le_of_ble_eq_true rfl, Nat.le_of_ble_eq_true rfl⟩) (fun r_37 S_37 H locs he hW => ?_)
    obtain ⟨hr_37, hs⟩ := he
    rw [hs] at hW
    have zk := nm_at zk hr_37
    exact x_end ⟨Nat.le_of_ble_eq_true rfl, Nat.le_of_ble_eq_true rfl⟩ (x_iret B hW zk.symm dX4_absent_40)
  · have zk := zk.trans (if_pos c_22)
    refine lv_iconst (v := 1) hx hb dX4_absent_25 (by decide) ?_
    refine lv_goto (tgt := 30) hx hb dX4_absent_26 (by decide) ?_
    refine x_putN B hW (hqM (by decide) hbk_2) cls2 hin_X2 8 (by decide) (cC_M (by decide) hbk_2) rfl (ty := .boolean) (by decide +kernel) (nar_z (Or.inr rfl)) (fit_z (Or.inr rfl)) (Nat.le_of_ble_eq_true rfl) (j := 8) (pM_8 (by decide) hbk_2 (Or.inr rfl)) nl_X4_86 dX4_absent_30 (fun H locs S_30 he_30 hW => ?_)
    have zk := nm_at zk he_30
    refine lv_aload_n hx hb dX4_absent_33 rfl (lv_at hl 1 rfl) ?_
    refine x_get B hW hqj cC_j cls4 hin_X4 0 (by decide) (v := .ref (ad (gG 0))) rfl k_10 dX4_absent_34 ?_
    refine x_calli hW (x_runVN B hW (As := []) (rest := []) (host := RX4) (hqG (by decide)) (cC_G (by decide)) cls0 (c_X0_awayMembers (D := D) (ad := ad) l _ S_30 0 (by decide)) ⟨va_cnB 0 B.1.2.2.2.2 gX4_absent_X0_awayMembers_n90 rfl rfl rfl (B.2.1.2 _ nl_X4_90) ki_X0 hd_X0_awayMembers.2 ⟨Nat.le_of_ble_eq_true rfl, Nat.le_of_ble_eq_true rfl⟩, kn_X0_awayMembers, kv_X0_awayMembers⟩ rfl hls (Nat.le_of_ble_eq_true rfl) dX4_absent_37 ⟨Nat.le_of_ble_eq_true rfl, Nat.le_of_ble_eq_true rfl⟩) (fun r_37 S_37 H locs he hW => ?_)
    obtain ⟨hr_37, hs⟩ := he
    rw [hs] at hW
    have zk := nm_at zk hr_37
    exact x_end ⟨Nat.le_of_ble_eq_true rfl, Nat.le_of_ble_eq_true rfl⟩ (x_iret B hW zk.symm dX4_absent_40)

def x_X4_week (S : vS) : ((Nat × Int32) × vS) := nm (x_X0_mayEndWeek S 0) (fun r_4 => if r_4 = 0 then ((1, 0), S) else nm (x_X1_keep S 0) (fun S_28 => nm ((S_28 (gG 0) 9)) (fun x_38 => nm (x_X0_endWeek S_28 0) (fun S_43 => ((0, ((S_43 (gG 0) 9) - x_38)), S_43)))))
theorem hd_X4_week : yX4_week.cls = RX4 ∧ yX4_week.cls ≠ "java/lang/invoke/MethodHandle" ∧ yX4_week.cls ≠ "java/lang/invoke/VarHandle" ∧ (parseMethodDescriptor yX4_week.desc).map (fun d => d.parameters.length) = some 0 := by decide +kernel
set_option maxHeartbeats 4000000 in
set_option maxRecDepth 100000 in
theorem c_X4_week {D : va_G} {ad : Nat → Nat} {V : vE} (l : Launch) (sz : Nat) (hl0 : l.stackTraces = false) (S : vS) : vx_Met l yX4_week wsX4_week (rmX 6 1) (pE D 157 (cC D ad) ad sz V S [.ref (ad jO)]) (va_Qi (fun (r : Int32) (S1 : vS) => ((0, r), S1) = (x_X4_week S)) (bW D 157 (cC D ad) ad (aW 157 ad sz)) (aW 157 ad sz)) (xX D 157 (cC D ad) ad (aW 157 ad sz) (pxS (x_X4_week S))) 1 6 (aW 157 ad sz) := by
  refine x_metX (own := RX4) (cc := cX4_week) (maxL := 2) (ret := (some .int)) (Qc := fun A => va_Qi (fun (r : Int32) (S1 : vS) => ((0, r), S1) = (x_X4_week S)) (bW D 157 (cC D ad) ad A) A) (XC := fun A => xX D 157 (cC D ad) ad A (pxS (x_X4_week S))) rfl ⟨by decide +kernel, rfl, Nat.le_of_ble_eq_true rfl⟩ ?_
  intro p e s mm args below meth c A ls B htab hW hE hl hls
  have hx := B.1.1
  have hb := B.1.2.1
  have hin_X0 : ∀ w ∈ wsX00, w ∈ wsX4_week := fun w h => List.mem_cons_of_mem _ (List.mem_append_left _ (List.mem_append_left _ (List.mem_append_left _ (List.mem_append_right _ h))))
  have hin_X4 : ∀ w ∈ wsX40, w ∈ wsX4_week := fun w h => List.mem_cons_of_mem _ (List.mem_append_left _ (List.mem_append_left _ (List.mem_append_left _ (List.mem_append_left _ (List.mem_append_right _ h)))))
  have hat_41 : ∀ w ∈ (vx_atS RX4 41 "java/lang/IllegalStateException" xuE).filter goodWord, w ∈ wsX4_week := fun w h => List.mem_cons_of_mem _ (List.mem_append_right _ h)
  have k_10 := B.1.2.2.2.2 (.fieldLink RX4 10 "JointLoans" "group" "LJointLoans$Group;") (by decide +kernel)
  have k_22 := B.1.2.2.2.2 (.fieldLink RX4 22 "JointLoans" "history" "LJointLoans$History;") (by decide +kernel)
  have ki_X0 := B.1.2.2.2.2 (.initialized RX0) (by decide +kernel)
  have ki_X1 := B.1.2.2.2.2 (.initialized RX1) (by decide +kernel)
  have kn_X0_endWeek := B.1.2.2.2.2 (.instanceMethod yX0_endWeek) (by decide +kernel)
  have kn_X0_mayEndWeek := B.1.2.2.2.2 (.instanceMethod yX0_mayEndWeek) (by decide +kernel)
  have kn_X1_keep := B.1.2.2.2.2 (.instanceMethod yX1_keep) (by decide +kernel)
  have kv_X0_endWeek := B.1.2.2.2.2 (.selects RX0 yX0_endWeek yX0_endWeek) (by decide +kernel)
  have kv_X0_mayEndWeek := B.1.2.2.2.2 (.selects RX0 yX0_mayEndWeek yX0_mayEndWeek) (by decide +kernel)
  have kv_X1_keep := B.1.2.2.2.2 (.selects RX1 yX1_keep yX1_keep) (by decide +kernel)
  have kx_37 := B.1.2.2.2.2 (.classLink RX4 37 "java/lang/IllegalStateException") (by decide +kernel)
  have ky_1 := B.1.2.2.2.2 (.initialized "java/lang/IllegalStateException") (by decide +kernel)
  have zk := x_X4_week.eq_1 S
  have hl : lv_has ls 2 [(0, .ref (ad jO))] := hl
  refine lv_aload_n hx hb dX4_week_0 rfl (lv_at hl 0 rfl) ?_
  refine x_get B hW hqj cC_j cls4 hin_X4 0 (by decide) (v := .ref (ad (gG 0))) rfl k_10 dX4_week_1 ?_
  refine x_calli hW (x_runVN B hW (As := []) (rest := []) (host := RX4) (hqG (by decide)) (cC_G (by decide)) cls0 (c_X0_mayEndWeek (D := D) (ad := ad) l _ S 0 (by decide)) ⟨va_cnB 0 B.1.2.2.2.2 gX4_week_X0_mayEndWeek_n93 rfl rfl rfl (B.2.1.2 _ nl_X4_93) ki_X0 hd_X0_mayEndWeek.2 ⟨Nat.le_of_ble_eq_true rfl, Nat.le_of_ble_eq_true rfl⟩, kn_X0_mayEndWeek, kv_X0_mayEndWeek⟩ rfl hls (Nat.le_of_ble_eq_true rfl) dX4_week_4 ⟨Nat.le_of_ble_eq_true rfl, Nat.le_of_ble_eq_true rfl⟩) (fun r_4 S_4 H locs he hW => ?_)
  obtain ⟨hr_4, hs, hz_4⟩ := he
  rw [hs] at hW
  have zk := nm_at zk hr_4
  refine lv_if_ne (tgt := 20) hx hb dX4_week_7 (by decide) (fun c_7 => ?_) (fun c_7 => ?_)
  · have zk := zk.trans (if_neg c_7)
    refine lv_aload_n hx hb dX4_week_20 rfl (lv_at hl 0 rfl) ?_
    refine x_get B hW hqj cC_j cls4 hin_X4 2 (by decide) (v := .ref (ad hO)) rfl k_22 dX4_week_21 ?_
    refine lv_aload_n hx hb dX4_week_24 rfl (lv_at hl 0 rfl) ?_
    refine x_get B hW hqj cC_j cls4 hin_X4 0 (by decide) (v := .ref (ad (gG 0))) rfl k_10 dX4_week_25 ?_
    refine x_callv hW (x_runVN B hW (As := [.ref (ad (gG 0))]) (rest := []) (host := RX4) hqh cC_h cls1 (c_X1_keep (D := D) (ad := ad) l _ S 0 (by decide)) ⟨va_cnB 1 B.1.2.2.2.2 gX4_week_X1_keep_n44 rfl rfl rfl (B.2.1.2 _ nl_X4_44) ki_X1 hd_X1_keep.2 ⟨Nat.le_of_ble_eq_true rfl, Nat.le_of_ble_eq_true rfl⟩, kn_X1_keep, kv_X1_keep⟩ rfl hls (Nat.le_of_ble_eq_true rfl) dX4_week_28 ⟨Nat.le_of_ble_eq_true rfl, Nat.le_of_ble_eq_true rfl⟩) (fun S_28 H locs he hW => ?_)
    have he_28 := he
    have zk := nm_at zk he_28
    refine lv_aload_n hx hb dX4_week_31 rfl (lv_at hl 0 rfl) ?_
    refine x_get B hW hqj cC_j cls4 hin_X4 0 (by decide) (v := .ref (ad (gG 0))) rfl k_10 dX4_week_32 ?_
    refine x_getN B hW (hqG (by decide)) (cC_G (by decide)) cls0 hin_X0 9 (by decide) (v := .int (S_28 (gG 0) 9)) rfl nl_X4_99 dX4_week_35 ?_
    refine lv_topi (fun x_38 ex_38 => ?_)
    have zk := nm_at zk ex_38
    refine lv_istore_n (lv' := [(1, .int x_38), (0, .ref (ad jO))]) hx hb dX4_week_38 rfl hl (by decide) rfl (fun ls hl => ?_)
    have hls := hl.1
    refine lv_aload_n hx hb dX4_week_39 rfl (lv_at hl 1 rfl) ?_
    refine x_get B hW hqj cC_j cls4 hin_X4 0 (by decide) (v := .ref (ad (gG 0))) rfl k_10 dX4_week_40 ?_
    refine x_callv hW (x_runVN B hW (As := []) (rest := []) (host := RX4) (hqG (by decide)) (cC_G (by decide)) cls0 (c_X0_endWeek (D := D) (ad := ad) l _ S_28 0 (by decide)) ⟨va_cnB 0 B.1.2.2.2.2 gX4_week_X0_endWeek_n102 rfl rfl rfl (B.2.1.2 _ nl_X4_102) ki_X0 hd_X0_endWeek.2 ⟨Nat.le_of_ble_eq_true rfl, Nat.le_of_ble_eq_true rfl⟩, kn_X0_endWeek, kv_X0_endWeek⟩ rfl hls (Nat.le_of_ble_eq_true rfl) dX4_week_43 ⟨Nat.le_of_ble_eq_true rfl, Nat.le_of_ble_eq_true rfl⟩) (fun S_43 H locs he hW => ?_)
    have he_43 := he
    have zk := nm_at zk he_43
    refine lv_aload_n hx hb dX4_week_46 rfl (lv_at hl 1 rfl) ?_
    refine x_get B hW hqj cC_j cls4 hin_X4 0 (by decide) (v := .ref (ad (gG 0))) rfl k_10 dX4_week_47 ?_
    refine x_getN B hW (hqG (by decide)) (cC_G (by decide)) cls0 hin_X0 9 (by decide) (v := .int (S_43 (gG 0) 9)) rfl nl_X4_99 dX4_week_50 ?_
    refine lv_iload_n hx hb dX4_week_53 rfl (lv_at hl 0 rfl) ?_
    refine lv_isub hx hb dX4_week_54 ?_
    exact x_end ⟨Nat.le_of_ble_eq_true rfl, Nat.le_of_ble_eq_true rfl⟩ (x_iret B hW zk.symm dX4_week_55)
  · have zk := zk.trans (if_pos c_7)
    exact x_throw B htab hW hE hl0 hls (cls := "java/lang/IllegalStateException") (text := "there is no week behind this one") (by decide +kernel) (by decide +kernel) kx_37 ky_1 (fun w h => B.1.2.2.2.2 w (hat_41 w h)) (by decide +kernel) (by decide +kernel) (by decide +kernel) dX4_week_10 dX4_week_13 dX4_week_14 dX4_week_16 dX4_week_19 ⟨Nat.le_of_ble_eq_true rfl, Nat.le_of_ble_eq_true rfl, Nat.le_of_ble_eq_true rfl, Nat.le_of_ble_eq_true rfl⟩ ⟨Nat.le_of_ble_eq_true rfl, Nat.le_of_ble_eq_true rfl⟩ ⟨1, 0, by decide, rfl, zk.symm⟩

def x_X4_checkMoney (S : vS) (p1 : Int32) : (Nat × Int32) := if p1 < 1 then (3, 0) else if p1 ≤ 2000 then (0, 0) else (3, 0)
theorem hd_X4_checkMoney : yX4_checkMoney.cls = RX4 ∧ yX4_checkMoney.cls ≠ "java/lang/invoke/MethodHandle" ∧ yX4_checkMoney.cls ≠ "java/lang/invoke/VarHandle" ∧ (parseMethodDescriptor yX4_checkMoney.desc).map (fun d => d.parameters.length) = some 1 := by decide +kernel
set_option maxHeartbeats 4000000 in
set_option maxRecDepth 100000 in
theorem c_X4_checkMoney {D : va_G} {ad : Nat → Nat} {V : vE} (l : Launch) (sz : Nat) (hl0 : l.stackTraces = false) (S : vS) (p1 : Int32) : vx_Met l yX4_checkMoney wsX4_checkMoney (rmX 6 1) (pE D 157 (cC D ad) ad sz V S [.int p1]) (va_Qv (fun (S1 : vS) => (0, (0 : Int32)) = (x_X4_checkMoney S p1) ∧ S1 = S) (bW D 157 (cC D ad) ad (aW 157 ad sz)) (aW 157 ad sz)) (xX D 157 (cC D ad) ad (aW 157 ad sz) (pxP (x_X4_checkMoney S p1) S)) 1 6 (aW 157 ad sz) := by
  refine x_metX (own := RX4) (cc := cX4_checkMoney) (maxL := 1) (ret := none) (Qc := fun A => va_Qv (fun (S1 : vS) => (0, (0 : Int32)) = (x_X4_checkMoney S p1) ∧ S1 = S) (bW D 157 (cC D ad) ad A) A) (XC := fun A => xX D 157 (cC D ad) ad A (pxP (x_X4_checkMoney S p1) S)) rfl ⟨by decide +kernel, rfl, Nat.le_of_ble_eq_true rfl⟩ ?_
  intro p e s mm args below meth c A ls B htab hW hE hl hls
  have hx := B.1.1
  have hb := B.1.2.1
  have hat_70 : ∀ w ∈ (vx_atS RX4 70 "java/lang/IllegalArgumentException" xuE).filter goodWord, w ∈ wsX4_checkMoney := fun w h => List.mem_cons_of_mem _ (List.mem_append_right _ h)
  have kx_66 := B.1.2.2.2.2 (.classLink RX4 66 "java/lang/IllegalArgumentException") (by decide +kernel)
  have ky_3 := B.1.2.2.2.2 (.initialized "java/lang/IllegalArgumentException") (by decide +kernel)
  have zk := x_X4_checkMoney.eq_1 S p1
  have hl : lv_has ls 1 [(0, .int p1)] := hl
  refine lv_iload_n hx hb dX4_checkMoney_0 rfl (lv_at hl 0 rfl) ?_
  refine lv_iconst (v := 1) hx hb dX4_checkMoney_1 (by decide) ?_
  refine lv_icmp_lt (tgt := 12) hx hb dX4_checkMoney_2 (by decide) (fun c_2 => ?_) (fun c_2 => ?_)
  · have zk := zk.trans (if_pos c_2)
    exact x_throwW B htab hW hE hl0 hls (cls := "java/lang/IllegalArgumentException") (text := "money is out of range") (by decide +kernel) (by decide +kernel) kx_66 ky_3 (fun w h => B.1.2.2.2.2 w (hat_70 w h)) (by decide +kernel) (by decide +kernel) (by decide +kernel) dX4_checkMoney_12 dX4_checkMoney_15 dX4_checkMoney_16 dX4_checkMoney_19 dX4_checkMoney_22 ⟨Nat.le_of_ble_eq_true rfl, Nat.le_of_ble_eq_true rfl, Nat.le_of_ble_eq_true rfl, Nat.le_of_ble_eq_true rfl⟩ ⟨Nat.le_of_ble_eq_true rfl, Nat.le_of_ble_eq_true rfl⟩ ⟨⟨3, 0, by decide, rfl, zk.symm⟩, rfl⟩
  · have zk := zk.trans (if_neg c_2)
    refine lv_iload_n hx hb dX4_checkMoney_5 rfl (lv_at hl 0 rfl) ?_
    refine lv_sipush (v := 2000) hx hb dX4_checkMoney_6 (by decide) ?_
    refine lv_icmp_le (tgt := 23) hx hb dX4_checkMoney_9 (by decide) (fun c_9 => ?_) (fun c_9 => ?_)
    · have zk := zk.trans (if_pos c_9)
      exact x_end ⟨Nat.le_of_ble_eq_true rfl, Nat.le_of_ble_eq_true rfl⟩ (x_vret B hW ⟨zk.symm, rfl⟩ dX4_checkMoney_23)
    · have zk := zk.trans (if_neg c_9)
      exact x_throwW B htab hW hE hl0 hls (cls := "java/lang/IllegalArgumentException") (text := "money is out of range") (by decide +kernel) (by decide +kernel) kx_66 ky_3 (fun w h => B.1.2.2.2.2 w (hat_70 w h)) (by decide +kernel) (by decide +kernel) (by decide +kernel) dX4_checkMoney_12 dX4_checkMoney_15 dX4_checkMoney_16 dX4_checkMoney_19 dX4_checkMoney_22 ⟨Nat.le_of_ble_eq_true rfl, Nat.le_of_ble_eq_true rfl, Nat.le_of_ble_eq_true rfl, Nat.le_of_ble_eq_true rfl⟩ ⟨Nat.le_of_ble_eq_true rfl, Nat.le_of_ble_eq_true rfl⟩ ⟨⟨3, 0, by decide, rfl, zk.symm⟩, rfl⟩

def x_X4_payBack (S : vS) (p1 : Int32) (p2 : Int32) : ((Nat × Int32) × vS) := tbp 0 (x_X4_memberOrThrow S p1) S (fun k_2 => tbp 0 (x_X4_checkMoney S p2) S (fun _ => nm (x_X2_hasDebts S 0 k_2) (fun r_11 => if r_11 = 0 then ((1, 0), S) else nm (x_X1_keep S 0) (fun S_35 => nmp (x_X0_takePayment S_35 0 k_2 p2) (fun r_44 S_44 => ((0, r_44), S_44))))))
theorem hd_X4_payBack : yX4_payBack.cls = RX4 ∧ yX4_payBack.cls ≠ "java/lang/invoke/MethodHandle" ∧ yX4_payBack.cls ≠ "java/lang/invoke/VarHandle" ∧ (parseMethodDescriptor yX4_payBack.desc).map (fun d => d.parameters.length) = some 2 := by decide +kernel
set_option maxHeartbeats 4000000 in
set_option maxRecDepth 100000 in
theorem c_X4_payBack {D : va_G} {ad : Nat → Nat} {V : vE} (l : Launch) (sz : Nat) (hl0 : l.stackTraces = false) (S : vS) (p1 : Int32) (p2 : Int32) : vx_Met l yX4_payBack wsX4_payBack (rmX 7 3) (pE D 157 (cC D ad) ad sz V S [.ref (ad jO), .int p1, .int p2]) (va_Qi (fun (r : Int32) (S1 : vS) => ((0, r), S1) = (x_X4_payBack S p1 p2)) (bW D 157 (cC D ad) ad (aW 157 ad sz)) (aW 157 ad sz)) (xX D 157 (cC D ad) ad (aW 157 ad sz) (pxS (x_X4_payBack S p1 p2))) 3 18 (aW 157 ad sz) := by
  refine x_metX (own := RX4) (cc := cX4_payBack) (maxL := 4) (ret := (some .int)) (Qc := fun A => va_Qi (fun (r : Int32) (S1 : vS) => ((0, r), S1) = (x_X4_payBack S p1 p2)) (bW D 157 (cC D ad) ad A) A) (XC := fun A => xX D 157 (cC D ad) ad A (pxS (x_X4_payBack S p1 p2))) rfl ⟨by decide +kernel, rfl, Nat.le_of_ble_eq_true rfl⟩ ?_
  intro p e s mm args below meth c A ls B htab hW hE hl hls
  have hx := B.1.1
  have hb := B.1.2.1
  have hin_X4 : ∀ w ∈ wsX40, w ∈ wsX4_payBack := fun w h => List.mem_cons_of_mem _ (List.mem_append_left _ (List.mem_append_left _ (List.mem_append_left _ (List.mem_append_left _ (List.mem_append_left _ (List.mem_append_left _ (List.mem_append_right _ h)))))))
  have hat_41 : ∀ w ∈ (vx_atS RX4 41 "java/lang/IllegalStateException" xuE).filter goodWord, w ∈ wsX4_payBack := fun w h => List.mem_cons_of_mem _ (List.mem_append_left _ (List.mem_append_left _ (List.mem_append_right _ h)))
  have k_10 := B.1.2.2.2.2 (.fieldLink RX4 10 "JointLoans" "group" "LJointLoans$Group;") (by decide +kernel)
  have k_22 := B.1.2.2.2.2 (.fieldLink RX4 22 "JointLoans" "history" "LJointLoans$History;") (by decide +kernel)
  have ki_X0 := B.1.2.2.2.2 (.initialized RX0) (by decide +kernel)
  have ki_X1 := B.1.2.2.2.2 (.initialized RX1) (by decide +kernel)
  have ki_X2 := B.1.2.2.2.2 (.initialized RX2) (by decide +kernel)
  have kn_X0_takePayment := B.1.2.2.2.2 (.instanceMethod yX0_takePayment) (by decide +kernel)
  have kn_X1_keep := B.1.2.2.2.2 (.instanceMethod yX1_keep) (by decide +kernel)
  have kn_X2_hasDebts := B.1.2.2.2.2 (.instanceMethod yX2_hasDebts) (by decide +kernel)
  have kv_X0_takePayment := B.1.2.2.2.2 (.selects RX0 yX0_takePayment yX0_takePayment) (by decide +kernel)
  have kv_X1_keep := B.1.2.2.2.2 (.selects RX1 yX1_keep yX1_keep) (by decide +kernel)
  have kv_X2_hasDebts := B.1.2.2.2.2 (.selects RX2 yX2_hasDebts yX2_hasDebts) (by decide +kernel)
  have kx_37 := B.1.2.2.2.2 (.classLink RX4 37 "java/lang/IllegalStateException") (by decide +kernel)
  have ky_1 := B.1.2.2.2.2 (.initialized "java/lang/IllegalStateException") (by decide +kernel)
  have zk := x_X4_payBack.eq_1 S p1 p2
  have hl : lv_has ls 4 [(0, .ref (ad jO)), (1, .int p1), (2, .int p2)] := hl
  refine lv_aload_n hx hb dX4_payBack_0 rfl (lv_at hl 0 rfl) ?_
  refine lv_iload_n hx hb dX4_payBack_1 rfl (lv_at hl 1 rfl) ?_
  refine x_xcallq B htab hW (x_runVX B hW hE (As := [.int p1]) (rest := []) hqj cC_j cls4 (c_X4_memberOrThrow (D := D) (ad := ad) (V := V) l _ hl0 S p1) (cwV 1 B.1.2.2.2.2 gX4_payBack_X4_memberOrThrow rfl rfl rfl hd_X4_memberOrThrow ⟨Nat.le_of_ble_eq_true rfl, Nat.le_of_ble_eq_true rfl⟩) rfl hls (Nat.le_of_ble_eq_true rfl) dX4_payBack_2 ⟨Nat.le_of_ble_eq_true rfl, Nat.le_of_ble_eq_true rfl⟩) ⟨Nat.le_of_ble_eq_true rfl, Nat.le_of_ble_eq_true rfl⟩ (fun E S1 hq => by obtain ⟨⟨k, v, hk, hn, he⟩, hs⟩ := hq; rw [hs]; exact ⟨k, _, hk, hn, (tbp_ex zk he hk).symm⟩) (fun r_2 S_2 H locs he hW => ?_)
  obtain ⟨⟨k_2, hr, he_2, hbk_2⟩, hs⟩ := he
  rw [hs] at hW
  subst hr
  have zk := tbp_ok zk he_2
  refine W.eq (g2 := F0 mm 5 ls (.ref (ad (gM 0 k_2)) :: [])) rfl ?_
  refine lv_astore_n (lv' := [(3, .ref (ad (gM 0 k_2))), (0, .ref (ad jO)), (1, .int p1), (2, .int p2)]) hx hb dX4_payBack_5 rfl hl (by decide) rfl (fun ls hl => ?_)
  have hls := hl.1
  refine lv_iload_n hx hb dX4_payBack_6 rfl (lv_at hl 3 rfl) ?_
  refine x_xcallv B htab hW (x_runSX B hW hE (As := [.int p2]) (rest := []) (c_X4_checkMoney (D := D) (ad := ad) (V := V) l _ hl0 S p2) (va_cwS 1 B.1.2.2.2.2 gX4_payBack_X4_checkMoney rfl rfl rfl hd_X4_checkMoney.2 ⟨Nat.le_of_ble_eq_true rfl, Nat.le_of_ble_eq_true rfl⟩) rfl hls (Nat.le_of_ble_eq_true rfl) dX4_payBack_7 ⟨Nat.le_of_ble_eq_true rfl, Nat.le_of_ble_eq_true rfl⟩) ⟨Nat.le_of_ble_eq_true rfl, Nat.le_of_ble_eq_true rfl⟩ (fun E S1 hq => by obtain ⟨⟨k, v, hk, hn, he⟩, hs⟩ := hq; rw [hs]; exact ⟨k, _, hk, hn, (tbp_ex zk he hk).symm⟩) (fun S_7 H locs he hW => ?_)
  obtain ⟨he_7, hs⟩ := he
  rw [hs] at hW
  have zk := tbp_ok zk he_7
  refine lv_aload_n hx hb dX4_payBack_10 rfl (lv_at hl 0 rfl) ?_
  refine x_calli hW (x_runVN B hW (As := []) (rest := []) (host := RX4) (hqM (by decide) hbk_2) (cC_M (by decide) hbk_2) cls2 (c_X2_hasDebts (D := D) (ad := ad) l _ S 0 k_2 (by decide) hbk_2) ⟨va_cnB 0 B.1.2.2.2.2 gX4_payBack_X2_hasDebts_n109 rfl rfl rfl (B.2.1.2 _ nl_X4_109) ki_X2 hd_X2_hasDebts.2 ⟨Nat.le_of_ble_eq_true rfl, Nat.le_of_ble_eq_true rfl⟩, kn_X2_hasDebts, kv_X2_hasDebts⟩ rfl hls (Nat.le_of_ble_eq_true rfl) dX4_payBack_11 ⟨Nat.le_of_ble_eq_true rfl, Nat.le_of_ble_eq_true rfl⟩) (fun r_11 S_11 H locs he hW => ?_)
  obtain ⟨hr_11, hs, hz_11⟩ := he
  rw [hs] at hW
  have zk := nm_at zk hr_11
  refine lv_if_ne (tgt := 27) hx hb dX4_payBack_14 (by decide) (fun c_14 => ?_) (fun c_14 => ?_)
  · have zk := zk.trans (if_neg c_14)
    refine lv_aload_n hx hb dX4_payBack_27 rfl (lv_at hl 1 rfl) ?_
    refine x_get B hW hqj cC_j cls4 hin_X4 2 (by decide) (v := .ref (ad hO)) rfl k_22 dX4_payBack_28 ?_
    refine lv_aload_n hx hb dX4_payBack_31 rfl (lv_at hl 1 rfl) ?_
    refine x_get B hW hqj cC_j cls4 hin_X4 0 (by decide) (v := .ref (ad (gG 0))) rfl k_10 dX4_payBack_32 ?_
    refine x_callv hW (x_runVN B hW (As := [.ref (ad (gG 0))]) (rest := []) (host := RX4) hqh cC_h cls1 (c_X1_keep (D := D) (ad := ad) l _ S 0 (by decide)) ⟨va_cnB 1 B.1.2.2.2.2 gX4_payBack_X1_keep_n44 rfl rfl rfl (B.2.1.2 _ nl_X4_44) ki_X1 hd_X1_keep.2 ⟨Nat.le_of_ble_eq_true rfl, Nat.le_of_ble_eq_true rfl⟩, kn_X1_keep, kv_X1_keep⟩ rfl hls (Nat.le_of_ble_eq_true rfl) dX4_payBack_35 ⟨Nat.le_of_ble_eq_true rfl, Nat.le_of_ble_eq_true rfl⟩) (fun S_35 H locs he hW => ?_)
    have he_35 := he
    have zk := nm_at zk he_35
    refine lv_aload_n hx hb dX4_payBack_38 rfl (lv_at hl 1 rfl) ?_
    refine x_get B hW hqj cC_j cls4 hin_X4 0 (by decide) (v := .ref (ad (gG 0))) rfl k_10 dX4_payBack_39 ?_
    refine lv_aload_n hx hb dX4_payBack_42 rfl (lv_at hl 0 rfl) ?_
    refine lv_iload_n hx hb dX4_payBack_43 rfl (lv_at hl 3 rfl) ?_
    refine x_calli hW (x_runVN B hW (As := [.ref (ad (gM 0 k_2)), .int p2]) (rest := []) (host := RX4) (hqG (by decide)) (cC_G (by decide)) cls0 (c_X0_takePayment (D := D) (ad := ad) l _ S_35 0 k_2 p2 (by decide) hbk_2) ⟨va_cnB 2 B.1.2.2.2.2 gX4_payBack_X0_takePayment_n114 rfl rfl rfl (B.2.1.2 _ nl_X4_114) ki_X0 hd_X0_takePayment.2 ⟨Nat.le_of_ble_eq_true rfl, Nat.le_of_ble_eq_true rfl⟩, kn_X0_takePayment, kv_X0_takePayment⟩ rfl hls (Nat.le_of_ble_eq_true rfl) dX4_payBack_44 ⟨Nat.le_of_ble_eq_true rfl, Nat.le_of_ble_eq_true rfl⟩) (fun r_44 S_44 H locs he hW => ?_)
    have hr_44 := he
    have zk := nmp_at zk hr_44
    have he_44 : S_44 = (x_X0_takePayment S_35 0 k_2 p2).2 := by rw [← hr_44]
    exact x_end ⟨Nat.le_of_ble_eq_true rfl, Nat.le_of_ble_eq_true rfl⟩ (x_iret B hW zk.symm dX4_payBack_47)
  · have zk := zk.trans (if_pos c_14)
    exact x_throw B htab hW hE hl0 hls (cls := "java/lang/IllegalStateException") (text := "the member has no debts") (by decide +kernel) (by decide +kernel) kx_37 ky_1 (fun w h => B.1.2.2.2.2 w (hat_41 w h)) (by decide +kernel) (by decide +kernel) (by decide +kernel) dX4_payBack_17 dX4_payBack_20 dX4_payBack_21 dX4_payBack_23 dX4_payBack_26 ⟨Nat.le_of_ble_eq_true rfl, Nat.le_of_ble_eq_true rfl, Nat.le_of_ble_eq_true rfl, Nat.le_of_ble_eq_true rfl⟩ ⟨Nat.le_of_ble_eq_true rfl, Nat.le_of_ble_eq_true rfl⟩ ⟨1, 0, by decide, rfl, zk.symm⟩

def x_X4_help (S : vS) (p1 : Int32) (p2 : Int32) : ((Nat × Int32) × vS) := tbp 0 (x_X4_memberOrThrow S p1) S (fun k_2 => tbp 0 (x_X4_checkMoney S p2) S (fun _ => nm (x_X0_mayHelp S 0 k_2 p2) (fun r_16 => if r_16 = 0 then ((1, 0), S) else nm (x_X1_keep S 0) (fun S_40 => nm (x_X0_grantHelp S_40 0 k_2 p2) (fun S_49 => ((0, (S_49 (gG 0) 6)), S_49))))))
theorem hd_X4_help : yX4_help.cls = RX4 ∧ yX4_help.cls ≠ "java/lang/invoke/MethodHandle" ∧ yX4_help.cls ≠ "java/lang/invoke/VarHandle" ∧ (parseMethodDescriptor yX4_help.desc).map (fun d => d.parameters.length) = some 2 := by decide +kernel
set_option maxHeartbeats 4000000 in
set_option maxRecDepth 100000 in
theorem c_X4_help {D : va_G} {ad : Nat → Nat} {V : vE} (l : Launch) (sz : Nat) (hl0 : l.stackTraces = false) (S : vS) (p1 : Int32) (p2 : Int32) : vx_Met l yX4_help wsX4_help (rmX 7 3) (pE D 157 (cC D ad) ad sz V S [.ref (ad jO), .int p1, .int p2]) (va_Qi (fun (r : Int32) (S1 : vS) => ((0, r), S1) = (x_X4_help S p1 p2)) (bW D 157 (cC D ad) ad (aW 157 ad sz)) (aW 157 ad sz)) (xX D 157 (cC D ad) ad (aW 157 ad sz) (pxS (x_X4_help S p1 p2))) 3 18 (aW 157 ad sz) := by
  refine x_metX (own := RX4) (cc := cX4_help) (maxL := 4) (ret := (some .int)) (Qc := fun A => va_Qi (fun (r : Int32) (S1 : vS) => ((0, r), S1) = (x_X4_help S p1 p2)) (bW D 157 (cC D ad) ad A) A) (XC := fun A => xX D 157 (cC D ad) ad A (pxS (x_X4_help S p1 p2))) rfl ⟨by decide +kernel, rfl, Nat.le_of_ble_eq_true rfl⟩ ?_
  intro p e s mm args below meth c A ls B htab hW hE hl hls
  have hx := B.1.1
  have hb := B.1.2.1
  have hin_X0 : ∀ w ∈ wsX00, w ∈ wsX4_help := fun w h => List.mem_cons_of_mem _ (List.mem_append_left _ (List.mem_append_left _ (List.mem_append_left _ (List.mem_append_left _ (List.mem_append_left _ (List.mem_append_right _ h))))))
  have hin_X4 : ∀ w ∈ wsX40, w ∈ wsX4_help := fun w h => List.mem_cons_of_mem _ (List.mem_append_left _ (List.mem_append_left _ (List.mem_append_left _ (List.mem_append_left _ (List.mem_append_left _ (List.mem_append_left _ (List.mem_append_right _ h)))))))
  have hat_41 : ∀ w ∈ (vx_atS RX4 41 "java/lang/IllegalStateException" xuE).filter goodWord, w ∈ wsX4_help := fun w h => List.mem_cons_of_mem _ (List.mem_append_left _ (List.mem_append_left _ (List.mem_append_right _ h)))
  have k_10 := B.1.2.2.2.2 (.fieldLink RX4 10 "JointLoans" "group" "LJointLoans$Group;") (by decide +kernel)
  have k_22 := B.1.2.2.2.2 (.fieldLink RX4 22 "JointLoans" "history" "LJointLoans$History;") (by decide +kernel)
  have ki_X0 := B.1.2.2.2.2 (.initialized RX0) (by decide +kernel)
  have ki_X1 := B.1.2.2.2.2 (.initialized RX1) (by decide +kernel)
  have kn_X0_grantHelp := B.1.2.2.2.2 (.instanceMethod yX0_grantHelp) (by decide +kernel)
  have kn_X0_mayHelp := B.1.2.2.2.2 (.instanceMethod yX0_mayHelp) (by decide +kernel)
  have kn_X1_keep := B.1.2.2.2.2 (.instanceMethod yX1_keep) (by decide +kernel)
  have kv_X0_grantHelp := B.1.2.2.2.2 (.selects RX0 yX0_grantHelp yX0_grantHelp) (by decide +kernel)
  have kv_X0_mayHelp := B.1.2.2.2.2 (.selects RX0 yX0_mayHelp yX0_mayHelp) (by decide +kernel)
  have kv_X1_keep := B.1.2.2.2.2 (.selects RX1 yX1_keep yX1_keep) (by decide +kernel)
  have kx_37 := B.1.2.2.2.2 (.classLink RX4 37 "java/lang/IllegalStateException") (by decide +kernel)
  have ky_1 := B.1.2.2.2.2 (.initialized "java/lang/IllegalStateException") (by decide +kernel)
  have zk := x_X4_help.eq_1 S p1 p2
  have hl : lv_has ls 4 [(0, .ref (ad jO)), (1, .int p1), (2, .int p2)] := hl
  refine lv_aload_n hx hb dX4_help_0 rfl (lv_at hl 0 rfl) ?_
  refine lv_iload_n hx hb dX4_help_1 rfl (lv_at hl 1 rfl) ?_
  refine x_xcallq B htab hW (x_runVX B hW hE (As := [.int p1]) (rest := []) hqj cC_j cls4 (c_X4_memberOrThrow (D := D) (ad := ad) (V := V) l _ hl0 S p1) (cwV 1 B.1.2.2.2.2 gX4_help_X4_memberOrThrow rfl rfl rfl hd_X4_memberOrThrow ⟨Nat.le_of_ble_eq_true rfl, Nat.le_of_ble_eq_true rfl⟩) rfl hls (Nat.le_of_ble_eq_true rfl) dX4_help_2 ⟨Nat.le_of_ble_eq_true rfl, Nat.le_of_ble_eq_true rfl⟩) ⟨Nat.le_of_ble_eq_true rfl, Nat.le_of_ble_eq_true rfl⟩ (fun E S1 hq => by obtain ⟨⟨k, v, hk, hn, he⟩, hs⟩ := hq; rw [hs]; exact ⟨k, _, hk, hn, (tbp_ex zk he hk).symm⟩) (fun r_2 S_2 H locs he hW => ?_)
  obtain ⟨⟨k_2, hr, he_2, hbk_2⟩, hs⟩ := he
  rw [hs] at hW
  subst hr
  have zk := tbp_ok zk he_2
  refine W.eq (g2 := F0 mm 5 ls (.ref (ad (gM 0 k_2)) :: [])) rfl ?_
  refine lv_astore_n (lv' := [(3, .ref (ad (gM 0 k_2))), (0, .ref (ad jO)), (1, .int p1), (2, .int p2)]) hx hb dX4_help_5 rfl hl (by decide) rfl (fun ls hl => ?_)
  have hls := hl.1
  refine lv_iload_n hx hb dX4_help_6 rfl (lv_at hl 3 rfl) ?_
  refine x_xcallv B htab hW (x_runSX B hW hE (As := [.int p2]) (rest := []) (c_X4_checkMoney (D := D) (ad := ad) (V := V) l _ hl0 S p2) (va_cwS 1 B.1.2.2.2.2 gX4_help_X4_checkMoney rfl rfl rfl hd_X4_checkMoney.2 ⟨Nat.le_of_ble_eq_true rfl, Nat.le_of_ble_eq_true rfl⟩) rfl hls (Nat.le_of_ble_eq_true rfl) dX4_help_7 ⟨Nat.le_of_ble_eq_true rfl, Nat.le_of_ble_eq_true rfl⟩) ⟨Nat.le_of_ble_eq_true rfl, Nat.le_of_ble_eq_true rfl⟩ (fun E S1 hq => by obtain ⟨⟨k, v, hk, hn, he⟩, hs⟩ := hq; rw [hs]; exact ⟨k, _, hk, hn, (tbp_ex zk he hk).symm⟩) (fun S_7 H locs he hW => ?_)
  obtain ⟨he_7, hs⟩ := he
  rw [hs] at hW
  have zk := tbp_ok zk he_7
  refine lv_aload_n hx hb dX4_help_10 rfl (lv_at hl 1 rfl) ?_
  refine x_get B hW hqj cC_j cls4 hin_X4 0 (by decide) (v := .ref (ad (gG 0))) rfl k_10 dX4_help_11 ?_
  refine lv_aload_n hx hb dX4_help_14 rfl (lv_at hl 0 rfl) ?_
  refine lv_iload_n hx hb dX4_help_15 rfl (lv_at hl 3 rfl) ?_
  refine x_calli hW (x_runVN B hW (As := [.ref (ad (gM 0 k_2)), .int p2]) (rest := []) (host := RX4) (hqG (by decide)) (cC_G (by decide)) cls0 (c_X0_mayHelp (D := D) (ad := ad) l _ S 0 k_2 p2 (by decide) hbk_2) ⟨va_cnB 2 B.1.2.2.2.2 gX4_help_X0_mayHelp_n118 rfl rfl rfl (B.2.1.2 _ nl_X4_118) ki_X0 hd_X0_mayHelp.2 ⟨Nat.le_of_ble_eq_true rfl, Nat.le_of_ble_eq_true rfl⟩, kn_X0_mayHelp, kv_X0_mayHelp⟩ rfl hls (Nat.le_of_ble_eq_true rfl) dX4_help_16 ⟨Nat.le_of_ble_eq_true rfl, Nat.le_of_ble_eq_true rfl⟩) (fun r_16 S_16 H locs he hW => ?_)
  obtain ⟨hr_16, hs, hz_16⟩ := he
  rw [hs] at hW
  have zk := nm_at zk hr_16
  refine lv_if_ne (tgt := 32) hx hb dX4_help_19 (by decide) (fun c_19 => ?_) (fun c_19 => ?_)
  · have zk := zk.trans (if_neg c_19)
    refine lv_aload_n hx hb dX4_help_32 rfl (lv_at hl 1 rfl) ?_
    refine x_get B hW hqj cC_j cls4 hin_X4 2 (by decide) (v := .ref (ad hO)) rfl k_22 dX4_help_33 ?_
    refine lv_aload_n hx hb dX4_help_36 rfl (lv_at hl 1 rfl) ?_
    refine x_get B hW hqj cC_j cls4 hin_X4 0 (by decide) (v := .ref (ad (gG 0))) rfl k_10 dX4_help_37 ?_
    refine x_callv hW (x_runVN B hW (As := [.ref (ad (gG 0))]) (rest := []) (host := RX4) hqh cC_h cls1 (c_X1_keep (D := D) (ad := ad) l _ S 0 (by decide)) ⟨va_cnB 1 B.1.2.2.2.2 gX4_help_X1_keep_n44 rfl rfl rfl (B.2.1.2 _ nl_X4_44) ki_X1 hd_X1_keep.2 ⟨Nat.le_of_ble_eq_true rfl, Nat.le_of_ble_eq_true rfl⟩, kn_X1_keep, kv_X1_keep⟩ rfl hls (Nat.le_of_ble_eq_true rfl) dX4_help_40 ⟨Nat.le_of_ble_eq_true rfl, Nat.le_of_ble_eq_true rfl⟩) (fun S_40 H locs he hW => ?_)
    have he_40 := he
    have zk := nm_at zk he_40
    refine lv_aload_n hx hb dX4_help_43 rfl (lv_at hl 1 rfl) ?_
    refine x_get B hW hqj cC_j cls4 hin_X4 0 (by decide) (v := .ref (ad (gG 0))) rfl k_10 dX4_help_44 ?_
    refine lv_aload_n hx hb dX4_help_47 rfl (lv_at hl 0 rfl) ?_
    refine lv_iload_n hx hb dX4_help_48 rfl (lv_at hl 3 rfl) ?_
    refine x_callv hW (x_runVN B hW (As := [.ref (ad (gM 0 k_2)), .int p2]) (rest := []) (host := RX4) (hqG (by decide)) (cC_G (by decide)) cls0 (c_X0_grantHelp (D := D) (ad := ad) l _ S_40 0 k_2 p2 (by decide) hbk_2) ⟨va_cnB 2 B.1.2.2.2.2 gX4_help_X0_grantHelp_n124 rfl rfl rfl (B.2.1.2 _ nl_X4_124) ki_X0 hd_X0_grantHelp.2 ⟨Nat.le_of_ble_eq_true rfl, Nat.le_of_ble_eq_true rfl⟩, kn_X0_grantHelp, kv_X0_grantHelp⟩ rfl hls (Nat.le_of_ble_eq_true rfl) dX4_help_49 ⟨Nat.le_of_ble_eq_true rfl, Nat.le_of_ble_eq_true rfl⟩) (fun S_49 H locs he hW => ?_)
    have he_49 := he
    have zk := nm_at zk he_49
    refine lv_aload_n hx hb dX4_help_52 rfl (lv_at hl 1 rfl) ?_
    refine x_get B hW hqj cC_j cls4 hin_X4 0 (by decide) (v := .ref (ad (gG 0))) rfl k_10 dX4_help_53 ?_
    refine x_getN B hW (hqG (by decide)) (cC_G (by decide)) cls0 hin_X0 6 (by decide) (v := .int (S_49 (gG 0) 6)) rfl nl_X4_128 dX4_help_56 ?_
    exact x_end ⟨Nat.le_of_ble_eq_true rfl, Nat.le_of_ble_eq_true rfl⟩ (x_iret B hW zk.symm dX4_help_59)
  · have zk := zk.trans (if_pos c_19)
    exact x_throw B htab hW hE hl0 hls (cls := "java/lang/IllegalStateException") (text := "the help cannot be granted") (by decide +kernel) (by decide +kernel) kx_37 ky_1 (fun w h => B.1.2.2.2.2 w (hat_41 w h)) (by decide +kernel) (by decide +kernel) (by decide +kernel) dX4_help_22 dX4_help_25 dX4_help_26 dX4_help_28 dX4_help_31 ⟨Nat.le_of_ble_eq_true rfl, Nat.le_of_ble_eq_true rfl, Nat.le_of_ble_eq_true rfl, Nat.le_of_ble_eq_true rfl⟩ ⟨Nat.le_of_ble_eq_true rfl, Nat.le_of_ble_eq_true rfl⟩ ⟨1, 0, by decide, rfl, zk.symm⟩

def x_X4_cycle (S : vS) : ((Nat × Int32) × vS) := nm (x_X0_mayBeginCycle S 0) (fun r_4 => if r_4 = 0 then ((1, 0), S) else nm (x_X1_keep S 0) (fun S_28 => nm (x_X0_beginCycle S_28 0) (fun S_35 => ((0, (S_35 (gG 0) 4)), S_35))))
theorem hd_X4_cycle : yX4_cycle.cls = RX4 ∧ yX4_cycle.cls ≠ "java/lang/invoke/MethodHandle" ∧ yX4_cycle.cls ≠ "java/lang/invoke/VarHandle" ∧ (parseMethodDescriptor yX4_cycle.desc).map (fun d => d.parameters.length) = some 0 := by decide +kernel
set_option maxHeartbeats 4000000 in
set_option maxRecDepth 100000 in
theorem c_X4_cycle {D : va_G} {ad : Nat → Nat} {V : vE} (l : Launch) (sz : Nat) (hl0 : l.stackTraces = false) (S : vS) : vx_Met l yX4_cycle wsX4_cycle (rmX 6 1) (pE D 157 (cC D ad) ad sz V S [.ref (ad jO)]) (va_Qi (fun (r : Int32) (S1 : vS) => ((0, r), S1) = (x_X4_cycle S)) (bW D 157 (cC D ad) ad (aW 157 ad sz)) (aW 157 ad sz)) (xX D 157 (cC D ad) ad (aW 157 ad sz) (pxS (x_X4_cycle S))) 1 6 (aW 157 ad sz) := by
  refine x_metX (own := RX4) (cc := cX4_cycle) (maxL := 1) (ret := (some .int)) (Qc := fun A => va_Qi (fun (r : Int32) (S1 : vS) => ((0, r), S1) = (x_X4_cycle S)) (bW D 157 (cC D ad) ad A) A) (XC := fun A => xX D 157 (cC D ad) ad A (pxS (x_X4_cycle S))) rfl ⟨by decide +kernel, rfl, Nat.le_of_ble_eq_true rfl⟩ ?_
  intro p e s mm args below meth c A ls B htab hW hE hl hls
  have hx := B.1.1
  have hb := B.1.2.1
  have hin_X0 : ∀ w ∈ wsX00, w ∈ wsX4_cycle := fun w h => List.mem_cons_of_mem _ (List.mem_append_left _ (List.mem_append_left _ (List.mem_append_left _ (List.mem_append_right _ h))))
  have hin_X4 : ∀ w ∈ wsX40, w ∈ wsX4_cycle := fun w h => List.mem_cons_of_mem _ (List.mem_append_left _ (List.mem_append_left _ (List.mem_append_left _ (List.mem_append_left _ (List.mem_append_right _ h)))))
  have hat_41 : ∀ w ∈ (vx_atS RX4 41 "java/lang/IllegalStateException" xuE).filter goodWord, w ∈ wsX4_cycle := fun w h => List.mem_cons_of_mem _ (List.mem_append_right _ h)
  have k_10 := B.1.2.2.2.2 (.fieldLink RX4 10 "JointLoans" "group" "LJointLoans$Group;") (by decide +kernel)
  have k_22 := B.1.2.2.2.2 (.fieldLink RX4 22 "JointLoans" "history" "LJointLoans$History;") (by decide +kernel)
  have ki_X0 := B.1.2.2.2.2 (.initialized RX0) (by decide +kernel)
  have ki_X1 := B.1.2.2.2.2 (.initialized RX1) (by decide +kernel)
  have kn_X0_beginCycle := B.1.2.2.2.2 (.instanceMethod yX0_beginCycle) (by decide +kernel)
  have kn_X0_mayBeginCycle := B.1.2.2.2.2 (.instanceMethod yX0_mayBeginCycle) (by decide +kernel)
  have kn_X1_keep := B.1.2.2.2.2 (.instanceMethod yX1_keep) (by decide +kernel)
  have kv_X0_beginCycle := B.1.2.2.2.2 (.selects RX0 yX0_beginCycle yX0_beginCycle) (by decide +kernel)
  have kv_X0_mayBeginCycle := B.1.2.2.2.2 (.selects RX0 yX0_mayBeginCycle yX0_mayBeginCycle) (by decide +kernel)
  have kv_X1_keep := B.1.2.2.2.2 (.selects RX1 yX1_keep yX1_keep) (by decide +kernel)
  have kx_37 := B.1.2.2.2.2 (.classLink RX4 37 "java/lang/IllegalStateException") (by decide +kernel)
  have ky_1 := B.1.2.2.2.2 (.initialized "java/lang/IllegalStateException") (by decide +kernel)
  have zk := x_X4_cycle.eq_1 S
  have hl : lv_has ls 1 [(0, .ref (ad jO))] := hl
  refine lv_aload_n hx hb dX4_cycle_0 rfl (lv_at hl 0 rfl) ?_
  refine x_get B hW hqj cC_j cls4 hin_X4 0 (by decide) (v := .ref (ad (gG 0))) rfl k_10 dX4_cycle_1 ?_
  refine x_calli hW (x_runVN B hW (As := []) (rest := []) (host := RX4) (hqG (by decide)) (cC_G (by decide)) cls0 (c_X0_mayBeginCycle (D := D) (ad := ad) l _ S 0 (by decide)) ⟨va_cnB 0 B.1.2.2.2.2 gX4_cycle_X0_mayBeginCycle_n131 rfl rfl rfl (B.2.1.2 _ nl_X4_131) ki_X0 hd_X0_mayBeginCycle.2 ⟨Nat.le_of_ble_eq_true rfl, Nat.le_of_ble_eq_true rfl⟩, kn_X0_mayBeginCycle, kv_X0_mayBeginCycle⟩ rfl hls (Nat.le_of_ble_eq_true rfl) dX4_cycle_4 ⟨Nat.le_of_ble_eq_true rfl, Nat.le_of_ble_eq_true rfl⟩) (fun r_4 S_4 H locs he hW => ?_)
  obtain ⟨hr_4, hs, hz_4⟩ := he
  rw [hs] at hW
  have zk := nm_at zk hr_4
  refine lv_if_ne (tgt := 20) hx hb dX4_cycle_7 (by decide) (fun c_7 => ?_) (fun c_7 => ?_)
  · have zk := zk.trans (if_neg c_7)
    refine lv_aload_n hx hb dX4_cycle_20 rfl (lv_at hl 0 rfl) ?_
    refine x_get B hW hqj cC_j cls4 hin_X4 2 (by decide) (v := .ref (ad hO)) rfl k_22 dX4_cycle_21 ?_
    refine lv_aload_n hx hb dX4_cycle_24 rfl (lv_at hl 0 rfl) ?_
    refine x_get B hW hqj cC_j cls4 hin_X4 0 (by decide) (v := .ref (ad (gG 0))) rfl k_10 dX4_cycle_25 ?_
    refine x_callv hW (x_runVN B hW (As := [.ref (ad (gG 0))]) (rest := []) (host := RX4) hqh cC_h cls1 (c_X1_keep (D := D) (ad := ad) l _ S 0 (by decide)) ⟨va_cnB 1 B.1.2.2.2.2 gX4_cycle_X1_keep_n44 rfl rfl rfl (B.2.1.2 _ nl_X4_44) ki_X1 hd_X1_keep.2 ⟨Nat.le_of_ble_eq_true rfl, Nat.le_of_ble_eq_true rfl⟩, kn_X1_keep, kv_X1_keep⟩ rfl hls (Nat.le_of_ble_eq_true rfl) dX4_cycle_28 ⟨Nat.le_of_ble_eq_true rfl, Nat.le_of_ble_eq_true rfl⟩) (fun S_28 H locs he hW => ?_)
    have he_28 := he
    have zk := nm_at zk he_28
    refine lv_aload_n hx hb dX4_cycle_31 rfl (lv_at hl 0 rfl) ?_
    refine x_get B hW hqj cC_j cls4 hin_X4 0 (by decide) (v := .ref (ad (gG 0))) rfl k_10 dX4_cycle_32 ?_
    refine x_callv hW (x_runVN B hW (As := []) (rest := []) (host := RX4) (hqG (by decide)) (cC_G (by decide)) cls0 (c_X0_beginCycle (D := D) (ad := ad) l _ S_28 0 (by decide)) ⟨va_cnB 0 B.1.2.2.2.2 gX4_cycle_X0_beginCycle_n136 rfl rfl rfl (B.2.1.2 _ nl_X4_136) ki_X0 hd_X0_beginCycle.2 ⟨Nat.le_of_ble_eq_true rfl, Nat.le_of_ble_eq_true rfl⟩, kn_X0_beginCycle, kv_X0_beginCycle⟩ rfl hls (Nat.le_of_ble_eq_true rfl) dX4_cycle_35 ⟨Nat.le_of_ble_eq_true rfl, Nat.le_of_ble_eq_true rfl⟩) (fun S_35 H locs he hW => ?_)
    have he_35 := he
    have zk := nm_at zk he_35
    refine lv_aload_n hx hb dX4_cycle_38 rfl (lv_at hl 0 rfl) ?_
    refine x_get B hW hqj cC_j cls4 hin_X4 0 (by decide) (v := .ref (ad (gG 0))) rfl k_10 dX4_cycle_39 ?_
    refine x_getN B hW (hqG (by decide)) (cC_G (by decide)) cls0 hin_X0 4 (by decide) (v := .int (S_35 (gG 0) 4)) rfl nl_X4_139 dX4_cycle_42 ?_
    exact x_end ⟨Nat.le_of_ble_eq_true rfl, Nat.le_of_ble_eq_true rfl⟩ (x_iret B hW zk.symm dX4_cycle_45)
  · have zk := zk.trans (if_pos c_7)
    exact x_throw B htab hW hE hl0 hls (cls := "java/lang/IllegalStateException") (text := "there are loans or debts to the bank") (by decide +kernel) (by decide +kernel) kx_37 ky_1 (fun w h => B.1.2.2.2.2 w (hat_41 w h)) (by decide +kernel) (by decide +kernel) (by decide +kernel) dX4_cycle_10 dX4_cycle_13 dX4_cycle_14 dX4_cycle_16 dX4_cycle_19 ⟨Nat.le_of_ble_eq_true rfl, Nat.le_of_ble_eq_true rfl, Nat.le_of_ble_eq_true rfl, Nat.le_of_ble_eq_true rfl⟩ ⟨Nat.le_of_ble_eq_true rfl, Nat.le_of_ble_eq_true rfl⟩ ⟨1, 0, by decide, rfl, zk.symm⟩

def x_X4_checkSetting (S : vS) (p1 : Int32) : (Nat × Int32) := if p1 < 0 then (2, 0) else if p1 < 4 then (0, 0) else (2, 0)
theorem hd_X4_checkSetting : yX4_checkSetting.cls = RX4 ∧ yX4_checkSetting.cls ≠ "java/lang/invoke/MethodHandle" ∧ yX4_checkSetting.cls ≠ "java/lang/invoke/VarHandle" ∧ (parseMethodDescriptor yX4_checkSetting.desc).map (fun d => d.parameters.length) = some 1 := by decide +kernel
set_option maxHeartbeats 4000000 in
set_option maxRecDepth 100000 in
theorem c_X4_checkSetting {D : va_G} {ad : Nat → Nat} {V : vE} (l : Launch) (sz : Nat) (hl0 : l.stackTraces = false) (S : vS) (p1 : Int32) : vx_Met l yX4_checkSetting wsX4_checkSetting (rmX 6 1) (pE D 157 (cC D ad) ad sz V S [.int p1]) (va_Qv (fun (S1 : vS) => (0, (0 : Int32)) = (x_X4_checkSetting S p1) ∧ S1 = S) (bW D 157 (cC D ad) ad (aW 157 ad sz)) (aW 157 ad sz)) (xX D 157 (cC D ad) ad (aW 157 ad sz) (pxP (x_X4_checkSetting S p1) S)) 1 6 (aW 157 ad sz) := by
  refine x_metX (own := RX4) (cc := cX4_checkSetting) (maxL := 1) (ret := none) (Qc := fun A => va_Qv (fun (S1 : vS) => (0, (0 : Int32)) = (x_X4_checkSetting S p1) ∧ S1 = S) (bW D 157 (cC D ad) ad A) A) (XC := fun A => xX D 157 (cC D ad) ad A (pxP (x_X4_checkSetting S p1) S)) rfl ⟨by decide +kernel, rfl, Nat.le_of_ble_eq_true rfl⟩ ?_
  intro p e s mm args below meth c A ls B htab hW hE hl hls
  have hx := B.1.1
  have hb := B.1.2.1
  have hat_277 : ∀ w ∈ (vx_atS RX4 277 "java/lang/IndexOutOfBoundsException" xuE).filter goodWord, w ∈ wsX4_checkSetting := fun w h => List.mem_cons_of_mem _ (List.mem_append_right _ h)
  have kx_273 := B.1.2.2.2.2 (.classLink RX4 273 "java/lang/IndexOutOfBoundsException") (by decide +kernel)
  have ky_2 := B.1.2.2.2.2 (.initialized "java/lang/IndexOutOfBoundsException") (by decide +kernel)
  have zk := x_X4_checkSetting.eq_1 S p1
  have hl : lv_has ls 1 [(0, .int p1)] := hl
  refine lv_iload_n hx hb dX4_checkSetting_0 rfl (lv_at hl 0 rfl) ?_
  refine lv_if_lt (tgt := 9) hx hb dX4_checkSetting_1 (by decide) (fun c_1 => ?_) (fun c_1 => ?_)
  · have zk := zk.trans (if_pos c_1)
    exact x_throwW B htab hW hE hl0 hls (cls := "java/lang/IndexOutOfBoundsException") (text := "there is no such setting") (by decide +kernel) (by decide +kernel) kx_273 ky_2 (fun w h => B.1.2.2.2.2 w (hat_277 w h)) (by decide +kernel) (by decide +kernel) (by decide +kernel) dX4_checkSetting_9 dX4_checkSetting_12 dX4_checkSetting_13 dX4_checkSetting_16 dX4_checkSetting_19 ⟨Nat.le_of_ble_eq_true rfl, Nat.le_of_ble_eq_true rfl, Nat.le_of_ble_eq_true rfl, Nat.le_of_ble_eq_true rfl⟩ ⟨Nat.le_of_ble_eq_true rfl, Nat.le_of_ble_eq_true rfl⟩ ⟨⟨2, 0, by decide, rfl, zk.symm⟩, rfl⟩
  · have zk := zk.trans (if_neg c_1)
    refine lv_iload_n hx hb dX4_checkSetting_4 rfl (lv_at hl 0 rfl) ?_
    refine lv_iconst (v := 4) hx hb dX4_checkSetting_5 (by decide) ?_
    refine lv_icmp_lt (tgt := 20) hx hb dX4_checkSetting_6 (by decide) (fun c_6 => ?_) (fun c_6 => ?_)
    · have zk := zk.trans (if_pos c_6)
      exact x_end ⟨Nat.le_of_ble_eq_true rfl, Nat.le_of_ble_eq_true rfl⟩ (x_vret B hW ⟨zk.symm, rfl⟩ dX4_checkSetting_20)
    · have zk := zk.trans (if_neg c_6)
      exact x_throwW B htab hW hE hl0 hls (cls := "java/lang/IndexOutOfBoundsException") (text := "there is no such setting") (by decide +kernel) (by decide +kernel) kx_273 ky_2 (fun w h => B.1.2.2.2.2 w (hat_277 w h)) (by decide +kernel) (by decide +kernel) (by decide +kernel) dX4_checkSetting_9 dX4_checkSetting_12 dX4_checkSetting_13 dX4_checkSetting_16 dX4_checkSetting_19 ⟨Nat.le_of_ble_eq_true rfl, Nat.le_of_ble_eq_true rfl, Nat.le_of_ble_eq_true rfl, Nat.le_of_ble_eq_true rfl⟩ ⟨Nat.le_of_ble_eq_true rfl, Nat.le_of_ble_eq_true rfl⟩ ⟨⟨2, 0, by decide, rfl, zk.symm⟩, rfl⟩
theorem chk_set {S : vS} {p1 : Int32} (h : (0, (0 : Int32)) = x_X4_checkSetting S p1) : vp_in p1 4 := by
  unfold x_X4_checkSetting at h
  split at h
  · exact absurd (congrArg Prod.fst h) (by decide)
  · split at h
    · rename_i h1 h2
      exact vin_of (n := 4) h1 (nle_of_lt h2) (by decide) (by decide)
    · exact absurd (congrArg Prod.fst h) (by decide)

def x_X4_set (S : vS) (p1 : Int32) (p2 : Int32) : ((Nat × Int32) × vS) := tbp 0 (x_X4_checkSetting S p1) S (fun _ => if p2 < (lsE p1.toNatClampNeg) then ((3, 0), S) else if p2 ≤ (msE p1.toNatClampNeg) then nm (x_X1_keep S 0) (fun S_40 => nm ((S_40 (gS 0) p1.toNatClampNeg)) (fun x_52 => nm (st S_40 (gS 0) p1.toNatClampNeg p2) (fun S_62 => ((0, x_52), S_62)))) else ((3, 0), S))
theorem hd_X4_set : yX4_set.cls = RX4 ∧ yX4_set.cls ≠ "java/lang/invoke/MethodHandle" ∧ yX4_set.cls ≠ "java/lang/invoke/VarHandle" ∧ (parseMethodDescriptor yX4_set.desc).map (fun d => d.parameters.length) = some 2 := by decide +kernel
set_option maxHeartbeats 4000000 in
set_option maxRecDepth 100000 in
theorem c_X4_set {D : va_G} {ad : Nat → Nat} {V : vE} (l : Launch) (sz : Nat) (hl0 : l.stackTraces = false) (S : vS) (p1 : Int32) (p2 : Int32) : vx_Met l yX4_set wsX4_set (rmX 7 2) (pE D 157 (cC D ad) ad sz V S [.ref (ad jO), .int p1, .int p2]) (va_Qi (fun (r : Int32) (S1 : vS) => ((0, r), S1) = (x_X4_set S p1 p2)) (bW D 157 (cC D ad) ad (aW 157 ad sz)) (aW 157 ad sz)) (xX D 157 (cC D ad) ad (aW 157 ad sz) (pxS (x_X4_set S p1 p2))) 2 12 (aW 157 ad sz) := by
  refine x_metX (own := RX4) (cc := cX4_set) (maxL := 4) (ret := (some .int)) (Qc := fun A => va_Qi (fun (r : Int32) (S1 : vS) => ((0, r), S1) = (x_X4_set S p1 p2)) (bW D 157 (cC D ad) ad A) A) (XC := fun A => xX D 157 (cC D ad) ad A (pxS (x_X4_set S p1 p2))) rfl ⟨by decide +kernel, rfl, Nat.le_of_ble_eq_true rfl⟩ ?_
  intro p e s mm args below meth c A ls B htab hW hE hl hls
  have hx := B.1.1
  have hb := B.1.2.1
  have hin_X0 : ∀ w ∈ wsX00, w ∈ wsX4_set := fun w h => List.mem_cons_of_mem _ (List.mem_append_left _ (List.mem_append_left _ (List.mem_append_left _ (List.mem_append_left _ (List.mem_append_right _ h)))))
  have hin_X4 : ∀ w ∈ wsX40, w ∈ wsX4_set := fun w h => List.mem_cons_of_mem _ (List.mem_append_left _ (List.mem_append_left _ (List.mem_append_left _ (List.mem_append_left _ (List.mem_append_left _ (List.mem_append_right _ h))))))
  have hat_70 : ∀ w ∈ (vx_atS RX4 70 "java/lang/IllegalArgumentException" xuE).filter goodWord, w ∈ wsX4_set := fun w h => List.mem_cons_of_mem _ (List.mem_append_left _ (List.mem_append_right _ h))
  have k_10 := B.1.2.2.2.2 (.fieldLink RX4 10 "JointLoans" "group" "LJointLoans$Group;") (by decide +kernel)
  have k_145 := B.1.2.2.2.2 (.fieldLink RX4 145 "JointLoans" "LEAST_SETTING" "[I") (by decide +kernel)
  have k_149 := B.1.2.2.2.2 (.fieldLink RX4 149 "JointLoans" "MOST_SETTING" "[I") (by decide +kernel)
  have k_22 := B.1.2.2.2.2 (.fieldLink RX4 22 "JointLoans" "history" "LJointLoans$History;") (by decide +kernel)
  have ki_X1 := B.1.2.2.2.2 (.initialized RX1) (by decide +kernel)
  have kn_X1_keep := B.1.2.2.2.2 (.instanceMethod yX1_keep) (by decide +kernel)
  have kv_X1_keep := B.1.2.2.2.2 (.selects RX1 yX1_keep yX1_keep) (by decide +kernel)
  have kx_66 := B.1.2.2.2.2 (.classLink RX4 66 "java/lang/IllegalArgumentException") (by decide +kernel)
  have ky_3 := B.1.2.2.2.2 (.initialized "java/lang/IllegalArgumentException") (by decide +kernel)
  have zk := x_X4_set.eq_1 S p1 p2
  have hl : lv_has ls 4 [(0, .ref (ad jO)), (1, .int p1), (2, .int p2)] := hl
  refine lv_iload_n hx hb dX4_set_0 rfl (lv_at hl 1 rfl) ?_
  refine x_xcallv B htab hW (x_runSX B hW hE (As := [.int p1]) (rest := []) (c_X4_checkSetting (D := D) (ad := ad) (V := V) l _ hl0 S p1) (va_cwS 1 B.1.2.2.2.2 gX4_set_X4_checkSetting rfl rfl rfl hd_X4_checkSetting.2 ⟨Nat.le_of_ble_eq_true rfl, Nat.le_of_ble_eq_true rfl⟩) rfl hls (Nat.le_of_ble_eq_true rfl) dX4_set_1 ⟨Nat.le_of_ble_eq_true rfl, Nat.le_of_ble_eq_true rfl⟩) ⟨Nat.le_of_ble_eq_true rfl, Nat.le_of_ble_eq_true rfl⟩ (fun E S1 hq => by obtain ⟨⟨k, v, hk, hn, he⟩, hs⟩ := hq; rw [hs]; exact ⟨k, _, hk, hn, (tbp_ex zk he hk).symm⟩) (fun S_1 H locs he hW => ?_)
  obtain ⟨he_1, hs⟩ := he
  rw [hs] at hW
  have zk := tbp_ok zk he_1
  refine lv_iload_n hx hb dX4_set_4 rfl (lv_at hl 2 rfl) ?_
  refine va_gets hx hb hE.1.2.2.2.1.1 hW.2.2.1 B.1.2.2.2.1 k_145 (fun _ h => h) dX4_set_5 ?_
  refine lv_iload_n hx hb dX4_set_8 rfl (lv_at hl 1 rfl) ?_
  refine va_ti hx hb hE.1.2.2.2.1.2 hW.2.2.1 (isN_vin (isN_var (chk_set he_1) (by decide)) (by decide) (by decide)) (v := .int (lsE p1.toNatClampNeg)) (by rw [isN_tcn (isN_var (chk_set he_1) (by decide))]) dX4_set_9 ?_
  refine lv_icmp_lt (tgt := 22) hx hb dX4_set_10 (by decide) (fun c_10 => ?_) (fun c_10 => ?_)
  · have zk := zk.trans (if_pos c_10)
    exact x_throw B htab hW hE hl0 hls (cls := "java/lang/IllegalArgumentException") (text := "the value is out of range") (by decide +kernel) (by decide +kernel) kx_66 ky_3 (fun w h => B.1.2.2.2.2 w (hat_70 w h)) (by decide +kernel) (by decide +kernel) (by decide +kernel) dX4_set_22 dX4_set_25 dX4_set_26 dX4_set_28 dX4_set_31 ⟨Nat.le_of_ble_eq_true rfl, Nat.le_of_ble_eq_true rfl, Nat.le_of_ble_eq_true rfl, Nat.le_of_ble_eq_true rfl⟩ ⟨Nat.le_of_ble_eq_true rfl, Nat.le_of_ble_eq_true rfl⟩ ⟨3, 0, by decide, rfl, zk.symm⟩
  · have zk := zk.trans (if_neg c_10)
    refine lv_iload_n hx hb dX4_set_13 rfl (lv_at hl 2 rfl) ?_
    refine va_gets hx hb hE.1.2.2.2.2.1.1 hW.2.2.1 B.1.2.2.2.1 k_149 (fun _ h => h) dX4_set_14 ?_
    refine lv_iload_n hx hb dX4_set_17 rfl (lv_at hl 1 rfl) ?_
    refine va_ti hx hb hE.1.2.2.2.2.1.2 hW.2.2.1 (isN_vin (isN_var (chk_set he_1) (by decide)) (by decide) (by decide)) (v := .int (msE p1.toNatClampNeg)) (by rw [isN_tcn (isN_var (chk_set he_1) (by decide))]) dX4_set_18 ?_
    refine lv_icmp_le (tgt := 32) hx hb dX4_set_19 (by decide) (fun c_19 => ?_) (fun c_19 => ?_)
    · have zk := zk.trans (if_pos c_19)
      refine lv_aload_n hx hb dX4_set_32 rfl (lv_at hl 0 rfl) ?_
      refine x_get B hW hqj cC_j cls4 hin_X4 2 (by decide) (v := .ref (ad hO)) rfl k_22 dX4_set_33 ?_
      refine lv_aload_n hx hb dX4_set_36 rfl (lv_at hl 0 rfl) ?_
      refine x_get B hW hqj cC_j cls4 hin_X4 0 (by decide) (v := .ref (ad (gG 0))) rfl k_10 dX4_set_37 ?_
      refine x_callv hW (x_runVN B hW (As := [.ref (ad (gG 0))]) (rest := []) (host := RX4) hqh cC_h cls1 (c_X1_keep (D := D) (ad := ad) l _ S 0 (by decide)) ⟨va_cnB 1 B.1.2.2.2.2 gX4_set_X1_keep_n44 rfl rfl rfl (B.2.1.2 _ nl_X4_44) ki_X1 hd_X1_keep.2 ⟨Nat.le_of_ble_eq_true rfl, Nat.le_of_ble_eq_true rfl⟩, kn_X1_keep, kv_X1_keep⟩ rfl hls (Nat.le_of_ble_eq_true rfl) dX4_set_40 ⟨Nat.le_of_ble_eq_true rfl, Nat.le_of_ble_eq_true rfl⟩) (fun S_40 H locs he hW => ?_)
      have he_40 := he
      have zk := nm_at zk he_40
      refine lv_aload_n hx hb dX4_set_43 rfl (lv_at hl 0 rfl) ?_
      refine x_get B hW hqj cC_j cls4 hin_X4 0 (by decide) (v := .ref (ad (gG 0))) rfl k_10 dX4_set_44 ?_
      refine x_getN B hW (hqG (by decide)) (cC_G (by decide)) cls0 hin_X0 1 (by decide) (v := .ref (ad (gS 0))) rfl nl_X4_154 dX4_set_47 ?_
      refine lv_iload_n hx hb dX4_set_50 rfl (lv_at hl 1 rfl) ?_
      refine x_iald B hW (hqS (by decide)) (cC_S (by decide)) (isN_var (chk_set he_1) (by decide)) (by decide) (by decide) dX4_set_51 ?_
      refine lv_topi (fun x_52 ex_52 => ?_)
      have zk := nm_at zk ex_52
      refine lv_istore_n (lv' := [(3, .int x_52), (0, .ref (ad jO)), (1, .int p1), (2, .int p2)]) hx hb dX4_set_52 rfl hl (by decide) rfl (fun ls hl => ?_)
      have hls := hl.1
      refine lv_aload_n hx hb dX4_set_53 rfl (lv_at hl 1 rfl) ?_
      refine x_get B hW hqj cC_j cls4 hin_X4 0 (by decide) (v := .ref (ad (gG 0))) rfl k_10 dX4_set_54 ?_
      refine x_getN B hW (hqG (by decide)) (cC_G (by decide)) cls0 hin_X0 1 (by decide) (v := .ref (ad (gS 0))) rfl nl_X4_154 dX4_set_57 ?_
      refine lv_iload_n hx hb dX4_set_60 rfl (lv_at hl 2 rfl) ?_
      refine lv_iload_n hx hb dX4_set_61 rfl (lv_at hl 3 rfl) ?_
      refine x_iast B hW (hqS (by decide)) (fun _ => (cC_S (by decide))) (isN_var (chk_set he_1) (by decide)) (by decide) (by decide) dX4_set_62 (fun H locs S_62 he_62 hW => ?_)
      have zk := nm_at zk he_62
      refine lv_iload_n hx hb dX4_set_63 rfl (lv_at hl 0 rfl) ?_
      exact x_end ⟨Nat.le_of_ble_eq_true rfl, Nat.le_of_ble_eq_true rfl⟩ (x_iret B hW zk.symm dX4_set_64)
    · have zk := zk.trans (if_neg c_19)
      exact x_throw B htab hW hE hl0 hls (cls := "java/lang/IllegalArgumentException") (text := "the value is out of range") (by decide +kernel) (by decide +kernel) kx_66 ky_3 (fun w h => B.1.2.2.2.2 w (hat_70 w h)) (by decide +kernel) (by decide +kernel) (by decide +kernel) dX4_set_22 dX4_set_25 dX4_set_26 dX4_set_28 dX4_set_31 ⟨Nat.le_of_ble_eq_true rfl, Nat.le_of_ble_eq_true rfl, Nat.le_of_ble_eq_true rfl, Nat.le_of_ble_eq_true rfl⟩ ⟨Nat.le_of_ble_eq_true rfl, Nat.le_of_ble_eq_true rfl⟩ ⟨3, 0, by decide, rfl, zk.symm⟩

def x_X4_undo (S : vS) : ((Nat × Int32) × vS) := if 0 < (S hO 2) then nm (x_X1_takeBack S 0) (fun S_28 => ((0, (S_28 hO 2)), S_28)) else ((1, 0), S)
theorem hd_X4_undo : yX4_undo.cls = RX4 ∧ yX4_undo.cls ≠ "java/lang/invoke/MethodHandle" ∧ yX4_undo.cls ≠ "java/lang/invoke/VarHandle" ∧ (parseMethodDescriptor yX4_undo.desc).map (fun d => d.parameters.length) = some 0 := by decide +kernel
set_option maxHeartbeats 4000000 in
set_option maxRecDepth 100000 in
theorem c_X4_undo {D : va_G} {ad : Nat → Nat} {V : vE} (l : Launch) (sz : Nat) (hl0 : l.stackTraces = false) (S : vS) : vx_Met l yX4_undo wsX4_undo (rmX 6 1) (pE D 157 (cC D ad) ad sz V S [.ref (ad jO)]) (va_Qi (fun (r : Int32) (S1 : vS) => ((0, r), S1) = (x_X4_undo S)) (bW D 157 (cC D ad) ad (aW 157 ad sz)) (aW 157 ad sz)) (xX D 157 (cC D ad) ad (aW 157 ad sz) (pxS (x_X4_undo S))) 1 6 (aW 157 ad sz) := by
  refine x_metX (own := RX4) (cc := cX4_undo) (maxL := 1) (ret := (some .int)) (Qc := fun A => va_Qi (fun (r : Int32) (S1 : vS) => ((0, r), S1) = (x_X4_undo S)) (bW D 157 (cC D ad) ad A) A) (XC := fun A => xX D 157 (cC D ad) ad A (pxS (x_X4_undo S))) rfl ⟨by decide +kernel, rfl, Nat.le_of_ble_eq_true rfl⟩ ?_
  intro p e s mm args below meth c A ls B htab hW hE hl hls
  have hx := B.1.1
  have hb := B.1.2.1
  have hin_X1 : ∀ w ∈ wsX10, w ∈ wsX4_undo := fun w h => List.mem_cons_of_mem _ (List.mem_append_left _ (List.mem_append_left _ (List.mem_append_left _ (List.mem_append_right _ h))))
  have hin_X4 : ∀ w ∈ wsX40, w ∈ wsX4_undo := fun w h => List.mem_cons_of_mem _ (List.mem_append_left _ (List.mem_append_left _ (List.mem_append_left _ (List.mem_append_left _ (List.mem_append_right _ h)))))
  have hat_41 : ∀ w ∈ (vx_atS RX4 41 "java/lang/IllegalStateException" xuE).filter goodWord, w ∈ wsX4_undo := fun w h => List.mem_cons_of_mem _ (List.mem_append_right _ h)
  have k_10 := B.1.2.2.2.2 (.fieldLink RX4 10 "JointLoans" "group" "LJointLoans$Group;") (by decide +kernel)
  have k_22 := B.1.2.2.2.2 (.fieldLink RX4 22 "JointLoans" "history" "LJointLoans$History;") (by decide +kernel)
  have ki_X1 := B.1.2.2.2.2 (.initialized RX1) (by decide +kernel)
  have kn_X1_takeBack := B.1.2.2.2.2 (.instanceMethod yX1_takeBack) (by decide +kernel)
  have kv_X1_takeBack := B.1.2.2.2.2 (.selects RX1 yX1_takeBack yX1_takeBack) (by decide +kernel)
  have kx_37 := B.1.2.2.2.2 (.classLink RX4 37 "java/lang/IllegalStateException") (by decide +kernel)
  have ky_1 := B.1.2.2.2.2 (.initialized "java/lang/IllegalStateException") (by decide +kernel)
  have zk := x_X4_undo.eq_1 S
  have hl : lv_has ls 1 [(0, .ref (ad jO))] := hl
  refine lv_aload_n hx hb dX4_undo_0 rfl (lv_at hl 0 rfl) ?_
  refine x_get B hW hqj cC_j cls4 hin_X4 2 (by decide) (v := .ref (ad hO)) rfl k_22 dX4_undo_1 ?_
  refine x_getN B hW hqh cC_h cls1 hin_X1 2 (by decide) (v := .int (S hO 2)) rfl nl_X4_192 dX4_undo_4 ?_
  refine lv_if_gt (tgt := 20) hx hb dX4_undo_7 (by decide) (fun c_7 => ?_) (fun c_7 => ?_)
  · have zk := zk.trans (if_pos c_7)
    refine lv_aload_n hx hb dX4_undo_20 rfl (lv_at hl 0 rfl) ?_
    refine x_get B hW hqj cC_j cls4 hin_X4 2 (by decide) (v := .ref (ad hO)) rfl k_22 dX4_undo_21 ?_
    refine lv_aload_n hx hb dX4_undo_24 rfl (lv_at hl 0 rfl) ?_
    refine x_get B hW hqj cC_j cls4 hin_X4 0 (by decide) (v := .ref (ad (gG 0))) rfl k_10 dX4_undo_25 ?_
    refine x_callv hW (x_runVN B hW (As := [.ref (ad (gG 0))]) (rest := []) (host := RX4) hqh cC_h cls1 (c_X1_takeBack (D := D) (ad := ad) l _ S 0 (by decide)) ⟨va_cnB 1 B.1.2.2.2.2 gX4_undo_X1_takeBack_n197 rfl rfl rfl (B.2.1.2 _ nl_X4_197) ki_X1 hd_X1_takeBack.2 ⟨Nat.le_of_ble_eq_true rfl, Nat.le_of_ble_eq_true rfl⟩, kn_X1_takeBack, kv_X1_takeBack⟩ rfl hls (Nat.le_of_ble_eq_true rfl) dX4_undo_28 ⟨Nat.le_of_ble_eq_true rfl, Nat.le_of_ble_eq_true rfl⟩) (fun S_28 H locs he hW => ?_)
    have he_28 := he
    have zk := nm_at zk he_28
    refine lv_aload_n hx hb dX4_undo_31 rfl (lv_at hl 0 rfl) ?_
    refine x_get B hW hqj cC_j cls4 hin_X4 2 (by decide) (v := .ref (ad hO)) rfl k_22 dX4_undo_32 ?_
    refine x_getN B hW hqh cC_h cls1 hin_X1 2 (by decide) (v := .int (S_28 hO 2)) rfl nl_X4_192 dX4_undo_35 ?_
    exact x_end ⟨Nat.le_of_ble_eq_true rfl, Nat.le_of_ble_eq_true rfl⟩ (x_iret B hW zk.symm dX4_undo_38)
  · have zk := zk.trans (if_neg c_7)
    exact x_throw B htab hW hE hl0 hls (cls := "java/lang/IllegalStateException") (text := "no state is saved") (by decide +kernel) (by decide +kernel) kx_37 ky_1 (fun w h => B.1.2.2.2.2 w (hat_41 w h)) (by decide +kernel) (by decide +kernel) (by decide +kernel) dX4_undo_10 dX4_undo_13 dX4_undo_14 dX4_undo_16 dX4_undo_19 ⟨Nat.le_of_ble_eq_true rfl, Nat.le_of_ble_eq_true rfl, Nat.le_of_ble_eq_true rfl, Nat.le_of_ble_eq_true rfl⟩ ⟨Nat.le_of_ble_eq_true rfl, Nat.le_of_ble_eq_true rfl⟩ ⟨1, 0, by decide, rfl, zk.symm⟩

def x_X4_propertyOf (S : vS) (k : Nat) (p2 : Int32) : Int32 := if p2 = 11 then nm (x_X0_owedTo S 0 k) (fun r_11 => r_11) else nm (x_X2_property S 0 k p2) (fun r_19 => r_19)
theorem hd_X4_propertyOf : yX4_propertyOf.cls = RX4 ∧ yX4_propertyOf.cls ≠ "java/lang/invoke/MethodHandle" ∧ yX4_propertyOf.cls ≠ "java/lang/invoke/VarHandle" ∧ (parseMethodDescriptor yX4_propertyOf.desc).map (fun d => d.parameters.length) = some 2 := by decide +kernel
set_option maxHeartbeats 4000000 in
set_option maxRecDepth 100000 in
theorem c_X4_propertyOf {D : va_G} {ad : Nat → Nat} (l : Launch) (sz : Nat) (S : vS) (k : Nat) (p2 : Int32) (hk : k < 8) : Met l yX4_propertyOf wsX4_propertyOf (rmD 3) (pW D 157 (cC D ad) ad sz S [.ref (ad jO), .ref (ad (gM 0 k)), .int p2]) (va_Qi (fun (r : Int32) (S1 : vS) => r = (x_X4_propertyOf S k p2) ∧ S1 = S) (bW D 157 (cC D ad) ad (aW 157 ad sz)) (aW 157 ad sz)) 0 0 (aW 157 ad sz) := by
  refine x_met (own := RX4) (cc := cX4_propertyOf) (maxL := 3) (ret := (some .int)) (Qc := fun A => va_Qi (fun (r : Int32) (S1 : vS) => r = (x_X4_propertyOf S k p2) ∧ S1 = S) (bW D 157 (cC D ad) ad A) A) rfl ⟨by decide +kernel, rfl, Nat.le_of_ble_eq_true rfl⟩ ?_
  intro p e s mm args below meth c A ls B hW hl hls
  have hx := B.1.1
  have hb := B.1.2.1
  have hin_X4 : ∀ w ∈ wsX40, w ∈ wsX4_propertyOf := fun w h => List.mem_cons_of_mem _ (List.mem_append_left _ (List.mem_append_left _ (List.mem_append_right _ h)))
  have k_10 := B.1.2.2.2.2 (.fieldLink RX4 10 "JointLoans" "group" "LJointLoans$Group;") (by decide +kernel)
  have ki_X0 := B.1.2.2.2.2 (.initialized RX0) (by decide +kernel)
  have ki_X2 := B.1.2.2.2.2 (.initialized RX2) (by decide +kernel)
  have kn_X0_owedTo := B.1.2.2.2.2 (.instanceMethod yX0_owedTo) (by decide +kernel)
  have kn_X2_property := B.1.2.2.2.2 (.instanceMethod yX2_property) (by decide +kernel)
  have kv_X0_owedTo := B.1.2.2.2.2 (.selects RX0 yX0_owedTo yX0_owedTo) (by decide +kernel)
  have kv_X2_property := B.1.2.2.2.2 (.selects RX2 yX2_property yX2_property) (by decide +kernel)
  have zk := x_X4_propertyOf.eq_1 S k p2
  have hl : lv_has ls 3 [(0, .ref (ad jO)), (1, .ref (ad (gM 0 k))), (2, .int p2)] := hl
  refine lv_iload_n hx hb dX4_propertyOf_0 rfl (lv_at hl 2 rfl) ?_
  refine lv_bipush (v := 11) hx hb dX4_propertyOf_1 (by decide) ?_
  refine lv_icmp_ne (tgt := 17) hx hb dX4_propertyOf_3 (by decide) (fun c_3 => ?_) (fun c_3 => ?_)
  · have zk := zk.trans (if_neg c_3)
    refine lv_aload_n hx hb dX4_propertyOf_17 rfl (lv_at hl 1 rfl) ?_
    refine lv_iload_n hx hb dX4_propertyOf_18 rfl (lv_at hl 2 rfl) ?_
    refine x_calli hW (x_runVN B hW (As := [.int p2]) (rest := []) (host := RX4) (hqM (by decide) hk) (cC_M (by decide) hk) cls2 (c_X2_property (D := D) (ad := ad) l _ S 0 k p2 (by decide) hk) ⟨va_cnB 1 B.1.2.2.2.2 gX4_propertyOf_X2_property_n285 rfl rfl rfl (B.2.1.2 _ nl_X4_285) ki_X2 hd_X2_property.2 ⟨Nat.le_of_ble_eq_true rfl, Nat.le_of_ble_eq_true rfl⟩, kn_X2_property, kv_X2_property⟩ rfl hls (Nat.le_of_ble_eq_true rfl) dX4_propertyOf_19 ⟨Nat.zero_le _, Nat.zero_le _⟩) (fun r_19 S_19 H locs he hW => ?_)
    obtain ⟨hr_19, hs⟩ := he
    rw [hs] at hW
    have zk := nm_at zk hr_19
    exact x_iret B hW ⟨zk.symm, rfl⟩ dX4_propertyOf_22
  · have zk := zk.trans (if_pos c_3)
    refine lv_aload_n hx hb dX4_propertyOf_6 rfl (lv_at hl 0 rfl) ?_
    refine x_get B hW hqj cC_j cls4 hin_X4 0 (by decide) (v := .ref (ad (gG 0))) rfl k_10 dX4_propertyOf_7 ?_
    refine lv_aload_n hx hb dX4_propertyOf_10 rfl (lv_at hl 1 rfl) ?_
    refine x_calli hW (x_runVN B hW (As := [.ref (ad (gM 0 k))]) (rest := []) (host := RX4) (hqG (by decide)) (cC_G (by decide)) cls0 (c_X0_owedTo (D := D) (ad := ad) l _ S 0 k (by decide) hk) ⟨va_cnB 1 B.1.2.2.2.2 gX4_propertyOf_X0_owedTo_n282 rfl rfl rfl (B.2.1.2 _ nl_X4_282) ki_X0 hd_X0_owedTo.2 ⟨Nat.le_of_ble_eq_true rfl, Nat.le_of_ble_eq_true rfl⟩, kn_X0_owedTo, kv_X0_owedTo⟩ rfl hls (Nat.le_of_ble_eq_true rfl) dX4_propertyOf_11 ⟨Nat.zero_le _, Nat.zero_le _⟩) (fun r_11 S_11 H locs he hW => ?_)
    obtain ⟨hr_11, hs⟩ := he
    rw [hs] at hW
    have zk := nm_at zk hr_11
    refine lv_goto (tgt := 22) hx hb dX4_propertyOf_14 (by decide) ?_
    exact x_iret B hW ⟨zk.symm, rfl⟩ dX4_propertyOf_22

def x_X4_member (S : vS) (p1 : Int32) (p2 : Int32) : (Nat × Int32) := tbq 0 (x_X4_memberOrThrow S p1) (fun k_2 => if p2 < 0 then (3, 0) else if p2 < 14 then nm (x_X4_propertyOf S k_2 p2) (fun r_29 => (0, r_29)) else (3, 0))
theorem hd_X4_member : yX4_member.cls = RX4 ∧ yX4_member.cls ≠ "java/lang/invoke/MethodHandle" ∧ yX4_member.cls ≠ "java/lang/invoke/VarHandle" ∧ (parseMethodDescriptor yX4_member.desc).map (fun d => d.parameters.length) = some 2 := by decide +kernel
set_option maxHeartbeats 4000000 in
set_option maxRecDepth 100000 in
theorem c_X4_member {D : va_G} {ad : Nat → Nat} {V : vE} (l : Launch) (sz : Nat) (hl0 : l.stackTraces = false) (S : vS) (p1 : Int32) (p2 : Int32) : vx_Met l yX4_member wsX4_member (rmX 7 2) (pE D 157 (cC D ad) ad sz V S [.ref (ad jO), .int p1, .int p2]) (va_Qi (fun (r : Int32) (S1 : vS) => (0, r) = (x_X4_member S p1 p2) ∧ S1 = S) (bW D 157 (cC D ad) ad (aW 157 ad sz)) (aW 157 ad sz)) (xX D 157 (cC D ad) ad (aW 157 ad sz) (pxP (x_X4_member S p1 p2) S)) 2 12 (aW 157 ad sz) := by
  refine x_metX (own := RX4) (cc := cX4_member) (maxL := 4) (ret := (some .int)) (Qc := fun A => va_Qi (fun (r : Int32) (S1 : vS) => (0, r) = (x_X4_member S p1 p2) ∧ S1 = S) (bW D 157 (cC D ad) ad A) A) (XC := fun A => xX D 157 (cC D ad) ad A (pxP (x_X4_member S p1 p2) S)) rfl ⟨by decide +kernel, rfl, Nat.le_of_ble_eq_true rfl⟩ ?_
  intro p e s mm args below meth c A ls B htab hW hE hl hls
  have hx := B.1.1
  have hb := B.1.2.1
  have hat_70 : ∀ w ∈ (vx_atS RX4 70 "java/lang/IllegalArgumentException" xuE).filter goodWord, w ∈ wsX4_member := fun w h => List.mem_cons_of_mem _ (List.mem_append_left _ (List.mem_append_right _ h))
  have kx_66 := B.1.2.2.2.2 (.classLink RX4 66 "java/lang/IllegalArgumentException") (by decide +kernel)
  have ky_3 := B.1.2.2.2.2 (.initialized "java/lang/IllegalArgumentException") (by decide +kernel)
  have zk := x_X4_member.eq_1 S p1 p2
  have hl : lv_has ls 4 [(0, .ref (ad jO)), (1, .int p1), (2, .int p2)] := hl
  refine lv_aload_n hx hb dX4_member_0 rfl (lv_at hl 0 rfl) ?_
  refine lv_iload_n hx hb dX4_member_1 rfl (lv_at hl 1 rfl) ?_
  refine x_xcallq B htab hW (x_runVX B hW hE (As := [.int p1]) (rest := []) hqj cC_j cls4 (c_X4_memberOrThrow (D := D) (ad := ad) (V := V) l _ hl0 S p1) (cwV 1 B.1.2.2.2.2 gX4_member_X4_memberOrThrow rfl rfl rfl hd_X4_memberOrThrow ⟨Nat.le_of_ble_eq_true rfl, Nat.le_of_ble_eq_true rfl⟩) rfl hls (Nat.le_of_ble_eq_true rfl) dX4_member_2 ⟨Nat.le_of_ble_eq_true rfl, Nat.le_of_ble_eq_true rfl⟩) ⟨Nat.le_of_ble_eq_true rfl, Nat.le_of_ble_eq_true rfl⟩ (fun E S1 ⟨⟨k, v, hk, hn, he⟩, hs⟩ => ⟨⟨k, _, hk, hn, (tbq_ex zk he hk).symm⟩, hs⟩) (fun r_2 S_2 H locs he hW => ?_)
  obtain ⟨⟨k_2, hr, he_2, hbk_2⟩, hs⟩ := he
  rw [hs] at hW
  subst hr
  have zk := tbq_ok zk he_2
  refine W.eq (g2 := F0 mm 5 ls (.ref (ad (gM 0 k_2)) :: [])) rfl ?_
  refine lv_astore_n (lv' := [(3, .ref (ad (gM 0 k_2))), (0, .ref (ad jO)), (1, .int p1), (2, .int p2)]) hx hb dX4_member_5 rfl hl (by decide) rfl (fun ls hl => ?_)
  have hls := hl.1
  refine lv_iload_n hx hb dX4_member_6 rfl (lv_at hl 3 rfl) ?_
  refine lv_if_lt (tgt := 16) hx hb dX4_member_7 (by decide) (fun c_7 => ?_) (fun c_7 => ?_)
  · have zk := zk.trans (if_pos c_7)
    exact x_throw B htab hW hE hl0 hls (cls := "java/lang/IllegalArgumentException") (text := "there is no such property") (by decide +kernel) (by decide +kernel) kx_66 ky_3 (fun w h => B.1.2.2.2.2 w (hat_70 w h)) (by decide +kernel) (by decide +kernel) (by decide +kernel) dX4_member_16 dX4_member_19 dX4_member_20 dX4_member_22 dX4_member_25 ⟨Nat.le_of_ble_eq_true rfl, Nat.le_of_ble_eq_true rfl, Nat.le_of_ble_eq_true rfl, Nat.le_of_ble_eq_true rfl⟩ ⟨Nat.le_of_ble_eq_true rfl, Nat.le_of_ble_eq_true rfl⟩ ⟨⟨3, 0, by decide, rfl, zk.symm⟩, rfl⟩
  · have zk := zk.trans (if_neg c_7)
    refine lv_iload_n hx hb dX4_member_10 rfl (lv_at hl 3 rfl) ?_
    refine lv_bipush (v := 14) hx hb dX4_member_11 (by decide) ?_
    refine lv_icmp_lt (tgt := 26) hx hb dX4_member_13 (by decide) (fun c_13 => ?_) (fun c_13 => ?_)
    · have zk := zk.trans (if_pos c_13)
      refine lv_aload_n hx hb dX4_member_26 rfl (lv_at hl 1 rfl) ?_
      refine lv_aload_n hx hb dX4_member_27 rfl (lv_at hl 0 rfl) ?_
      refine lv_iload_n hx hb dX4_member_28 rfl (lv_at hl 3 rfl) ?_
      refine x_calli hW (x_runV B hW (As := [.ref (ad (gM 0 k_2)), .int p2]) (rest := []) hqj cC_j cls4 (c_X4_propertyOf (D := D) (ad := ad) l _ S k_2 p2 hbk_2) (cwV 2 B.1.2.2.2.2 gX4_member_X4_propertyOf rfl rfl rfl hd_X4_propertyOf ⟨Nat.le_of_ble_eq_true rfl, Nat.le_of_ble_eq_true rfl⟩) rfl hls (Nat.le_of_ble_eq_true rfl) dX4_member_29 ⟨Nat.le_of_ble_eq_true rfl, Nat.le_of_ble_eq_true rfl⟩) (fun r_29 S_29 H locs he hW => ?_)
      obtain ⟨hr_29, hs⟩ := he
      rw [hs] at hW
      have zk := nm_at zk hr_29
      exact x_end ⟨Nat.le_of_ble_eq_true rfl, Nat.le_of_ble_eq_true rfl⟩ (x_iret B hW ⟨zk.symm, rfl⟩ dX4_member_32)
    · have zk := zk.trans (if_neg c_13)
      exact x_throw B htab hW hE hl0 hls (cls := "java/lang/IllegalArgumentException") (text := "there is no such property") (by decide +kernel) (by decide +kernel) kx_66 ky_3 (fun w h => B.1.2.2.2.2 w (hat_70 w h)) (by decide +kernel) (by decide +kernel) (by decide +kernel) dX4_member_16 dX4_member_19 dX4_member_20 dX4_member_22 dX4_member_25 ⟨Nat.le_of_ble_eq_true rfl, Nat.le_of_ble_eq_true rfl, Nat.le_of_ble_eq_true rfl, Nat.le_of_ble_eq_true rfl⟩ ⟨Nat.le_of_ble_eq_true rfl, Nat.le_of_ble_eq_true rfl⟩ ⟨⟨3, 0, by decide, rfl, zk.symm⟩, rfl⟩

def x_X4_owes (S : vS) (p1 : Int32) (p2 : Int32) : (Nat × Int32) := tbq 0 (x_X4_memberOrThrow S p1) (fun k_2 => tbq 0 (x_X4_memberOrThrow S p2) (fun k_8 => (0, (S (gD 0 k_2) k_8))))
theorem hd_X4_owes : yX4_owes.cls = RX4 ∧ yX4_owes.cls ≠ "java/lang/invoke/MethodHandle" ∧ yX4_owes.cls ≠ "java/lang/invoke/VarHandle" ∧ (parseMethodDescriptor yX4_owes.desc).map (fun d => d.parameters.length) = some 2 := by decide +kernel
set_option maxHeartbeats 4000000 in
set_option maxRecDepth 100000 in
theorem c_X4_owes {D : va_G} {ad : Nat → Nat} {V : vE} (l : Launch) (sz : Nat) (hl0 : l.stackTraces = false) (S : vS) (p1 : Int32) (p2 : Int32) : vx_Met l yX4_owes wsX4_owes (rmX 7 2) (pE D 157 (cC D ad) ad sz V S [.ref (ad jO), .int p1, .int p2]) (va_Qi (fun (r : Int32) (S1 : vS) => (0, r) = (x_X4_owes S p1 p2) ∧ S1 = S) (bW D 157 (cC D ad) ad (aW 157 ad sz)) (aW 157 ad sz)) (xX D 157 (cC D ad) ad (aW 157 ad sz) (pxP (x_X4_owes S p1 p2) S)) 2 12 (aW 157 ad sz) := by
  refine x_metX (own := RX4) (cc := cX4_owes) (maxL := 5) (ret := (some .int)) (Qc := fun A => va_Qi (fun (r : Int32) (S1 : vS) => (0, r) = (x_X4_owes S p1 p2) ∧ S1 = S) (bW D 157 (cC D ad) ad A) A) (XC := fun A => xX D 157 (cC D ad) ad A (pxP (x_X4_owes S p1 p2) S)) rfl ⟨by decide +kernel, rfl, Nat.le_of_ble_eq_true rfl⟩ ?_
  intro p e s mm args below meth c A ls B htab hW hE hl hls
  have hx := B.1.1
  have hb := B.1.2.1
  have hin_X2 : ∀ w ∈ wsX20, w ∈ wsX4_owes := fun w h => List.mem_cons_of_mem _ (List.mem_append_left _ (List.mem_append_left _ (List.mem_append_left _ (List.mem_append_right _ h))))
  have zk := x_X4_owes.eq_1 S p1 p2
  have hl : lv_has ls 5 [(0, .ref (ad jO)), (1, .int p1), (2, .int p2)] := hl
  refine lv_aload_n hx hb dX4_owes_0 rfl (lv_at hl 0 rfl) ?_
  refine lv_iload_n hx hb dX4_owes_1 rfl (lv_at hl 1 rfl) ?_
  refine x_xcallq B htab hW (x_runVX B hW hE (As := [.int p1]) (rest := []) hqj cC_j cls4 (c_X4_memberOrThrow (D := D) (ad := ad) (V := V) l _ hl0 S p1) (cwV 1 B.1.2.2.2.2 gX4_owes_X4_memberOrThrow rfl rfl rfl hd_X4_memberOrThrow ⟨Nat.le_of_ble_eq_true rfl, Nat.le_of_ble_eq_true rfl⟩) rfl hls (Nat.le_of_ble_eq_true rfl) dX4_owes_2 ⟨Nat.le_of_ble_eq_true rfl, Nat.le_of_ble_eq_true rfl⟩) ⟨Nat.le_of_ble_eq_true rfl, Nat.le_of_ble_eq_true rfl⟩ (fun E S1 ⟨⟨k, v, hk, hn, he⟩, hs⟩ => ⟨⟨k, _, hk, hn, (tbq_ex zk he hk).symm⟩, hs⟩) (fun r_2 S_2 H locs he hW => ?_)
  obtain ⟨⟨k_2, hr, he_2, hbk_2⟩, hs⟩ := he
  rw [hs] at hW
  subst hr
  have zk := tbq_ok zk he_2
  refine W.eq (g2 := F0 mm 5 ls (.ref (ad (gM 0 k_2)) :: [])) rfl ?_
  refine lv_astore_n (lv' := [(3, .ref (ad (gM 0 k_2))), (0, .ref (ad jO)), (1, .int p1), (2, .int p2)]) hx hb dX4_owes_5 rfl hl (by decide) rfl (fun ls hl => ?_)
  have hls := hl.1
  refine lv_aload_n hx hb dX4_owes_6 rfl (lv_at hl 1 rfl) ?_
  refine lv_iload_n hx hb dX4_owes_7 rfl (lv_at hl 3 rfl) ?_
  refine x_xcallq B htab hW (x_runVX B hW hE (As := [.int p2]) (rest := []) hqj cC_j cls4 (c_X4_memberOrThrow (D := D) (ad := ad) (V := V) l _ hl0 S p2) (cwV 1 B.1.2.2.2.2 gX4_owes_X4_memberOrThrow rfl rfl rfl hd_X4_memberOrThrow ⟨Nat.le_of_ble_eq_true rfl, Nat.le_of_ble_eq_true rfl⟩) rfl hls (Nat.le_of_ble_eq_true rfl) dX4_owes_8 ⟨Nat.le_of_ble_eq_true rfl, Nat.le_of_ble_eq_true rfl⟩) ⟨Nat.le_of_ble_eq_true rfl, Nat.le_of_ble_eq_true rfl⟩ (fun E S1 ⟨⟨k, v, hk, hn, he⟩, hs⟩ => ⟨⟨k, _, hk, hn, (tbq_ex zk he hk).symm⟩, hs⟩) (fun r_8 S_8 H locs he hW => ?_)
  obtain ⟨⟨k_8, hr, he_8, hbk_8⟩, hs⟩ := he
  rw [hs] at hW
  subst hr
  have zk := tbq_ok zk he_8
  refine W.eq (g2 := F0 mm 11 ls (.ref (ad (gM 0 k_8)) :: [])) rfl ?_
  refine lv_astore (lv' := [(4, .ref (ad (gM 0 k_8))), (3, .ref (ad (gM 0 k_2))), (0, .ref (ad jO)), (1, .int p1), (2, .int p2)]) hx hb dX4_owes_11 hl (by decide) rfl (fun ls hl => ?_)
  have hls := hl.1
  refine lv_aload_n hx hb dX4_owes_13 rfl (lv_at hl 1 rfl) ?_
  refine x_getN B hW (hqM (by decide) hbk_2) (cC_M (by decide) hbk_2) cls2 hin_X2 15 (by decide) (v := .ref (ad (gD 0 k_2))) rfl nl_X4_205 dX4_owes_14 ?_
  refine lv_aload hx hb dX4_owes_17 (lv_at hl 0 rfl) ?_
  refine x_getN B hW (hqM (by decide) hbk_8) (cC_M (by decide) hbk_8) cls2 hin_X2 0 (by decide) (v := .int (nI k_8)) rfl nl_X4_208 dX4_owes_19 ?_
  refine x_iald B hW (hqD (by decide) hbk_2) (cC_D (by decide) hbk_2) (isN_nI hbk_8 (by decide)) (by decide) (by decide) dX4_owes_22 ?_
  exact x_end ⟨Nat.le_of_ble_eq_true rfl, Nat.le_of_ble_eq_true rfl⟩ (x_iret B hW ⟨zk.symm, rfl⟩ dX4_owes_23)

def x_X4_numberOf (S : vS) (p1 : Int32) : Int32 := if p1 = 15 then (S hO 2) else nm (x_X0_figure S 0 p1) (fun r_21 => r_21)
theorem hd_X4_numberOf : yX4_numberOf.cls = RX4 ∧ yX4_numberOf.cls ≠ "java/lang/invoke/MethodHandle" ∧ yX4_numberOf.cls ≠ "java/lang/invoke/VarHandle" ∧ (parseMethodDescriptor yX4_numberOf.desc).map (fun d => d.parameters.length) = some 1 := by decide +kernel
set_option maxHeartbeats 4000000 in
set_option maxRecDepth 100000 in
theorem c_X4_numberOf {D : va_G} {ad : Nat → Nat} (l : Launch) (sz : Nat) (S : vS) (p1 : Int32) : Met l yX4_numberOf wsX4_numberOf (rmD 3) (pW D 157 (cC D ad) ad sz S [.ref (ad jO), .int p1]) (va_Qi (fun (r : Int32) (S1 : vS) => r = (x_X4_numberOf S p1) ∧ S1 = S) (bW D 157 (cC D ad) ad (aW 157 ad sz)) (aW 157 ad sz)) 0 0 (aW 157 ad sz) := by
  refine x_met (own := RX4) (cc := cX4_numberOf) (maxL := 2) (ret := (some .int)) (Qc := fun A => va_Qi (fun (r : Int32) (S1 : vS) => r = (x_X4_numberOf S p1) ∧ S1 = S) (bW D 157 (cC D ad) ad A) A) rfl ⟨by decide +kernel, rfl, Nat.le_of_ble_eq_true rfl⟩ ?_
  intro p e s mm args below meth c A ls B hW hl hls
  have hx := B.1.1
  have hb := B.1.2.1
  have hin_X1 : ∀ w ∈ wsX10, w ∈ wsX4_numberOf := fun w h => List.mem_cons_of_mem _ (List.mem_append_left _ (List.mem_append_left _ (List.mem_append_right _ h)))
  have hin_X4 : ∀ w ∈ wsX40, w ∈ wsX4_numberOf := fun w h => List.mem_cons_of_mem _ (List.mem_append_left _ (List.mem_append_left _ (List.mem_append_left _ (List.mem_append_right _ h))))
  have k_10 := B.1.2.2.2.2 (.fieldLink RX4 10 "JointLoans" "group" "LJointLoans$Group;") (by decide +kernel)
  have k_22 := B.1.2.2.2.2 (.fieldLink RX4 22 "JointLoans" "history" "LJointLoans$History;") (by decide +kernel)
  have ki_X0 := B.1.2.2.2.2 (.initialized RX0) (by decide +kernel)
  have kn_X0_figure := B.1.2.2.2.2 (.instanceMethod yX0_figure) (by decide +kernel)
  have kv_X0_figure := B.1.2.2.2.2 (.selects RX0 yX0_figure yX0_figure) (by decide +kernel)
  have zk := x_X4_numberOf.eq_1 S p1
  have hl : lv_has ls 2 [(0, .ref (ad jO)), (1, .int p1)] := hl
  refine lv_iload_n hx hb dX4_numberOf_0 rfl (lv_at hl 1 rfl) ?_
  refine lv_bipush (v := 15) hx hb dX4_numberOf_1 (by decide) ?_
  refine lv_icmp_ne (tgt := 16) hx hb dX4_numberOf_3 (by decide) (fun c_3 => ?_) (fun c_3 => ?_)
  · have zk := zk.trans (if_neg c_3)
    refine lv_aload_n hx hb dX4_numberOf_16 rfl (lv_at hl 0 rfl) ?_
    refine x_get B hW hqj cC_j cls4 hin_X4 0 (by decide) (v := .ref (ad (gG 0))) rfl k_10 dX4_numberOf_17 ?_
    refine lv_iload_n hx hb dX4_numberOf_20 rfl (lv_at hl 1 rfl) ?_
    refine x_calli hW (x_runVN B hW (As := [.int p1]) (rest := []) (host := RX4) (hqG (by decide)) (cC_G (by decide)) cls0 (c_X0_figure (D := D) (ad := ad) l _ S 0 p1 (by decide)) ⟨va_cnB 1 B.1.2.2.2.2 gX4_numberOf_X0_figure_n288 rfl rfl rfl (B.2.1.2 _ nl_X4_288) ki_X0 hd_X0_figure.2 ⟨Nat.le_of_ble_eq_true rfl, Nat.le_of_ble_eq_true rfl⟩, kn_X0_figure, kv_X0_figure⟩ rfl hls (Nat.le_of_ble_eq_true rfl) dX4_numberOf_21 ⟨Nat.zero_le _, Nat.zero_le _⟩) (fun r_21 S_21 H locs he hW => ?_)
    obtain ⟨hr_21, hs⟩ := he
    rw [hs] at hW
    have zk := nm_at zk hr_21
    exact x_iret B hW ⟨zk.symm, rfl⟩ dX4_numberOf_24
  · have zk := zk.trans (if_pos c_3)
    refine lv_aload_n hx hb dX4_numberOf_6 rfl (lv_at hl 0 rfl) ?_
    refine x_get B hW hqj cC_j cls4 hin_X4 2 (by decide) (v := .ref (ad hO)) rfl k_22 dX4_numberOf_7 ?_
    refine x_getN B hW hqh cC_h cls1 hin_X1 2 (by decide) (v := .int (S hO 2)) rfl nl_X4_192 dX4_numberOf_10 ?_
    refine lv_goto (tgt := 24) hx hb dX4_numberOf_13 (by decide) ?_
    exact x_iret B hW ⟨zk.symm, rfl⟩ dX4_numberOf_24

def x_X4_count (S : vS) (p1 : Int32) : (Nat × Int32) := if p1 < 0 then (3, 0) else if p1 < 16 then nm (x_X4_numberOf S p1) (fun r_22 => (0, r_22)) else (3, 0)
theorem hd_X4_count : yX4_count.cls = RX4 ∧ yX4_count.cls ≠ "java/lang/invoke/MethodHandle" ∧ yX4_count.cls ≠ "java/lang/invoke/VarHandle" ∧ (parseMethodDescriptor yX4_count.desc).map (fun d => d.parameters.length) = some 1 := by decide +kernel
set_option maxHeartbeats 4000000 in
set_option maxRecDepth 100000 in
theorem c_X4_count {D : va_G} {ad : Nat → Nat} {V : vE} (l : Launch) (sz : Nat) (hl0 : l.stackTraces = false) (S : vS) (p1 : Int32) : vx_Met l yX4_count wsX4_count (rmX 6 1) (pE D 157 (cC D ad) ad sz V S [.ref (ad jO), .int p1]) (va_Qi (fun (r : Int32) (S1 : vS) => (0, r) = (x_X4_count S p1) ∧ S1 = S) (bW D 157 (cC D ad) ad (aW 157 ad sz)) (aW 157 ad sz)) (xX D 157 (cC D ad) ad (aW 157 ad sz) (pxP (x_X4_count S p1) S)) 1 6 (aW 157 ad sz) := by
  refine x_metX (own := RX4) (cc := cX4_count) (maxL := 2) (ret := (some .int)) (Qc := fun A => va_Qi (fun (r : Int32) (S1 : vS) => (0, r) = (x_X4_count S p1) ∧ S1 = S) (bW D 157 (cC D ad) ad A) A) (XC := fun A => xX D 157 (cC D ad) ad A (pxP (x_X4_count S p1) S)) rfl ⟨by decide +kernel, rfl, Nat.le_of_ble_eq_true rfl⟩ ?_
  intro p e s mm args below meth c A ls B htab hW hE hl hls
  have hx := B.1.1
  have hb := B.1.2.1
  have hat_70 : ∀ w ∈ (vx_atS RX4 70 "java/lang/IllegalArgumentException" xuE).filter goodWord, w ∈ wsX4_count := fun w h => List.mem_cons_of_mem _ (List.mem_append_right _ h)
  have kx_66 := B.1.2.2.2.2 (.classLink RX4 66 "java/lang/IllegalArgumentException") (by decide +kernel)
  have ky_3 := B.1.2.2.2.2 (.initialized "java/lang/IllegalArgumentException") (by decide +kernel)
  have zk := x_X4_count.eq_1 S p1
  have hl : lv_has ls 2 [(0, .ref (ad jO)), (1, .int p1)] := hl
  refine lv_iload_n hx hb dX4_count_0 rfl (lv_at hl 1 rfl) ?_
  refine lv_if_lt (tgt := 10) hx hb dX4_count_1 (by decide) (fun c_1 => ?_) (fun c_1 => ?_)
  · have zk := zk.trans (if_pos c_1)
    exact x_throw B htab hW hE hl0 hls (cls := "java/lang/IllegalArgumentException") (text := "there is no such number") (by decide +kernel) (by decide +kernel) kx_66 ky_3 (fun w h => B.1.2.2.2.2 w (hat_70 w h)) (by decide +kernel) (by decide +kernel) (by decide +kernel) dX4_count_10 dX4_count_13 dX4_count_14 dX4_count_16 dX4_count_19 ⟨Nat.le_of_ble_eq_true rfl, Nat.le_of_ble_eq_true rfl, Nat.le_of_ble_eq_true rfl, Nat.le_of_ble_eq_true rfl⟩ ⟨Nat.le_of_ble_eq_true rfl, Nat.le_of_ble_eq_true rfl⟩ ⟨⟨3, 0, by decide, rfl, zk.symm⟩, rfl⟩
  · have zk := zk.trans (if_neg c_1)
    refine lv_iload_n hx hb dX4_count_4 rfl (lv_at hl 1 rfl) ?_
    refine lv_bipush (v := 16) hx hb dX4_count_5 (by decide) ?_
    refine lv_icmp_lt (tgt := 20) hx hb dX4_count_7 (by decide) (fun c_7 => ?_) (fun c_7 => ?_)
    · have zk := zk.trans (if_pos c_7)
      refine lv_aload_n hx hb dX4_count_20 rfl (lv_at hl 0 rfl) ?_
      refine lv_iload_n hx hb dX4_count_21 rfl (lv_at hl 1 rfl) ?_
      refine x_calli hW (x_runV B hW (As := [.int p1]) (rest := []) hqj cC_j cls4 (c_X4_numberOf (D := D) (ad := ad) l _ S p1) (cwV 1 B.1.2.2.2.2 gX4_count_X4_numberOf rfl rfl rfl hd_X4_numberOf ⟨Nat.le_of_ble_eq_true rfl, Nat.le_of_ble_eq_true rfl⟩) rfl hls (Nat.le_of_ble_eq_true rfl) dX4_count_22 ⟨Nat.le_of_ble_eq_true rfl, Nat.le_of_ble_eq_true rfl⟩) (fun r_22 S_22 H locs he hW => ?_)
      obtain ⟨hr_22, hs⟩ := he
      rw [hs] at hW
      have zk := nm_at zk hr_22
      exact x_end ⟨Nat.le_of_ble_eq_true rfl, Nat.le_of_ble_eq_true rfl⟩ (x_iret B hW ⟨zk.symm, rfl⟩ dX4_count_25)
    · have zk := zk.trans (if_neg c_7)
      exact x_throw B htab hW hE hl0 hls (cls := "java/lang/IllegalArgumentException") (text := "there is no such number") (by decide +kernel) (by decide +kernel) kx_66 ky_3 (fun w h => B.1.2.2.2.2 w (hat_70 w h)) (by decide +kernel) (by decide +kernel) (by decide +kernel) dX4_count_10 dX4_count_13 dX4_count_14 dX4_count_16 dX4_count_19 ⟨Nat.le_of_ble_eq_true rfl, Nat.le_of_ble_eq_true rfl, Nat.le_of_ble_eq_true rfl, Nat.le_of_ble_eq_true rfl⟩ ⟨Nat.le_of_ble_eq_true rfl, Nat.le_of_ble_eq_true rfl⟩ ⟨⟨3, 0, by decide, rfl, zk.symm⟩, rfl⟩

def x_X4_outcome (S : vS) (p1 : Int32) : Int32 := if p1 = 0 then ((S (gG 1) 9) - (S (gG 0) 9)) else (if p1 = 1 then (S (gG 1) 6) else (if p1 = 2 then nm (x_X0_bankDebts S 1) (fun r_60 => r_60) else (if p1 = 3 then nm (x_X0_debtsAmongMembers S 1) (fun r_68 => r_68) else (nm (x_X0_mostPaidForOthersSince S 1 0) (fun r_80 => r_80)))))
theorem hd_X4_outcome : yX4_outcome.cls = RX4 ∧ yX4_outcome.cls ≠ "java/lang/invoke/MethodHandle" ∧ yX4_outcome.cls ≠ "java/lang/invoke/VarHandle" ∧ (parseMethodDescriptor yX4_outcome.desc).map (fun d => d.parameters.length) = some 1 := by decide +kernel
set_option maxHeartbeats 4000000 in
set_option maxRecDepth 100000 in
theorem c_X4_outcome {D : va_G} {ad : Nat → Nat} (l : Launch) (sz : Nat) (S : vS) (p1 : Int32) : Met l yX4_outcome wsX4_outcome (rmD 2) (pW D 157 (cC D ad) ad sz S [.ref (ad jO), .int p1]) (va_Qi (fun (r : Int32) (S1 : vS) => r = (x_X4_outcome S p1) ∧ S1 = S) (bW D 157 (cC D ad) ad (aW 157 ad sz)) (aW 157 ad sz)) 0 0 (aW 157 ad sz) := by
  refine x_met (own := RX4) (cc := cX4_outcome) (maxL := 2) (ret := (some .int)) (Qc := fun A => va_Qi (fun (r : Int32) (S1 : vS) => r = (x_X4_outcome S p1) ∧ S1 = S) (bW D 157 (cC D ad) ad A) A) rfl ⟨by decide +kernel, rfl, Nat.le_of_ble_eq_true rfl⟩ ?_
  intro p e s mm args below meth c A ls B hW hl hls
  have hx := B.1.1
  have hb := B.1.2.1
  have hin_X0 : ∀ w ∈ wsX00, w ∈ wsX4_outcome := fun w h => List.mem_cons_of_mem _ (List.mem_append_left _ (List.mem_append_right _ h))
  have hin_X4 : ∀ w ∈ wsX40, w ∈ wsX4_outcome := fun w h => List.mem_cons_of_mem _ (List.mem_append_left _ (List.mem_append_left _ (List.mem_append_right _ h)))
  have k_10 := B.1.2.2.2.2 (.fieldLink RX4 10 "JointLoans" "group" "LJointLoans$Group;") (by decide +kernel)
  have k_16 := B.1.2.2.2.2 (.fieldLink RX4 16 "JointLoans" "trial" "LJointLoans$Group;") (by decide +kernel)
  have ki_X0 := B.1.2.2.2.2 (.initialized RX0) (by decide +kernel)
  have kn_X0_bankDebts := B.1.2.2.2.2 (.instanceMethod yX0_bankDebts) (by decide +kernel)
  have kn_X0_debtsAmongMembers := B.1.2.2.2.2 (.instanceMethod yX0_debtsAmongMembers) (by decide +kernel)
  have kn_X0_mostPaidForOthersSince := B.1.2.2.2.2 (.instanceMethod yX0_mostPaidForOthersSince) (by decide +kernel)
  have kv_X0_bankDebts := B.1.2.2.2.2 (.selects RX0 yX0_bankDebts yX0_bankDebts) (by decide +kernel)
  have kv_X0_debtsAmongMembers := B.1.2.2.2.2 (.selects RX0 yX0_debtsAmongMembers yX0_debtsAmongMembers) (by decide +kernel)
  have kv_X0_mostPaidForOthersSince := B.1.2.2.2.2 (.selects RX0 yX0_mostPaidForOthersSince yX0_mostPaidForOthersSince) (by decide +kernel)
  have zk := x_X4_outcome.eq_1 S p1
  have hl : lv_has ls 2 [(0, .ref (ad jO)), (1, .int p1)] := hl
  refine lv_iload_n hx hb dX4_outcome_0 rfl (lv_at hl 1 rfl) ?_
  by_cases c_1_0 : p1 = 0
  · have zk := zk.trans (if_pos c_1_0)
    refine lv_tableIn (off := 31) (tgt := 32) hx hb dX4_outcome_1 (by rw [c_1_0]; decide) (by rw [c_1_0]; decide) (by rw [c_1_0]; rfl) (by decide) ?_
    refine lv_aload_n hx hb dX4_outcome_32 rfl (lv_at hl 0 rfl) ?_
    refine x_get B hW hqj cC_j cls4 hin_X4 1 (by decide) (v := .ref (ad (gG 1))) rfl k_16 dX4_outcome_33 ?_
    refine x_getN B hW (hqG (by decide)) (cC_G (by decide)) cls0 hin_X0 9 (by decide) (v := .int (S (gG 1) 9)) rfl nl_X4_99 dX4_outcome_36 ?_
    refine lv_aload_n hx hb dX4_outcome_39 rfl (lv_at hl 0 rfl) ?_
    refine x_get B hW hqj cC_j cls4 hin_X4 0 (by decide) (v := .ref (ad (gG 0))) rfl k_10 dX4_outcome_40 ?_
    refine x_getN B hW (hqG (by decide)) (cC_G (by decide)) cls0 hin_X0 9 (by decide) (v := .int (S (gG 0) 9)) rfl nl_X4_99 dX4_outcome_43 ?_
    refine lv_isub hx hb dX4_outcome_46 ?_
    exact x_iret B hW ⟨zk.symm, rfl⟩ dX4_outcome_47
  · have zk := zk.trans (if_neg c_1_0)
    by_cases c_1_1 : p1 = 1
    · have zk := zk.trans (if_pos c_1_1)
      refine lv_tableIn (off := 47) (tgt := 48) hx hb dX4_outcome_1 (by rw [c_1_1]; decide) (by rw [c_1_1]; decide) (by rw [c_1_1]; rfl) (by decide) ?_
      refine lv_aload_n hx hb dX4_outcome_48 rfl (lv_at hl 0 rfl) ?_
      refine x_get B hW hqj cC_j cls4 hin_X4 1 (by decide) (v := .ref (ad (gG 1))) rfl k_16 dX4_outcome_49 ?_
      refine x_getN B hW (hqG (by decide)) (cC_G (by decide)) cls0 hin_X0 6 (by decide) (v := .int (S (gG 1) 6)) rfl nl_X4_128 dX4_outcome_52 ?_
      exact x_iret B hW ⟨zk.symm, rfl⟩ dX4_outcome_55
    · have zk := zk.trans (if_neg c_1_1)
      by_cases c_1_2 : p1 = 2
      · have zk := zk.trans (if_pos c_1_2)
        refine lv_tableIn (off := 55) (tgt := 56) hx hb dX4_outcome_1 (by rw [c_1_2]; decide) (by rw [c_1_2]; decide) (by rw [c_1_2]; rfl) (by decide) ?_
        refine lv_aload_n hx hb dX4_outcome_56 rfl (lv_at hl 0 rfl) ?_
        refine x_get B hW hqj cC_j cls4 hin_X4 1 (by decide) (v := .ref (ad (gG 1))) rfl k_16 dX4_outcome_57 ?_
        refine x_calli hW (x_runVN B hW (As := []) (rest := []) (host := RX4) (hqG (by decide)) (cC_G (by decide)) cls0 (c_X0_bankDebts (D := D) (ad := ad) l _ S 1 (by decide)) ⟨va_cnB 0 B.1.2.2.2.2 gX4_outcome_X0_bankDebts_n327 rfl rfl rfl (B.2.1.2 _ nl_X4_327) ki_X0 hd_X0_bankDebts.2 ⟨Nat.le_of_ble_eq_true rfl, Nat.le_of_ble_eq_true rfl⟩, kn_X0_bankDebts, kv_X0_bankDebts⟩ rfl hls (Nat.le_of_ble_eq_true rfl) dX4_outcome_60 ⟨Nat.zero_le _, Nat.zero_le _⟩) (fun r_60 S_60 H locs he hW => ?_)
        obtain ⟨hr_60, hs⟩ := he
        rw [hs] at hW
        have zk := nm_at zk hr_60
        exact x_iret B hW ⟨zk.symm, rfl⟩ dX4_outcome_63
      · have zk := zk.trans (if_neg c_1_2)
        by_cases c_1_3 : p1 = 3
        · have zk := zk.trans (if_pos c_1_3)
          refine lv_tableIn (off := 63) (tgt := 64) hx hb dX4_outcome_1 (by rw [c_1_3]; decide) (by rw [c_1_3]; decide) (by rw [c_1_3]; rfl) (by decide) ?_
          refine lv_aload_n hx hb dX4_outcome_64 rfl (lv_at hl 0 rfl) ?_
          refine x_get B hW hqj cC_j cls4 hin_X4 1 (by decide) (v := .ref (ad (gG 1))) rfl k_16 dX4_outcome_65 ?_
          refine x_calli hW (x_runVN B hW (As := []) (rest := []) (host := RX4) (hqG (by decide)) (cC_G (by decide)) cls0 (c_X0_debtsAmongMembers (D := D) (ad := ad) l _ S 1 (by decide)) ⟨va_cnB 0 B.1.2.2.2.2 gX4_outcome_X0_debtsAmongMembers_n330 rfl rfl rfl (B.2.1.2 _ nl_X4_330) ki_X0 hd_X0_debtsAmongMembers.2 ⟨Nat.le_of_ble_eq_true rfl, Nat.le_of_ble_eq_true rfl⟩, kn_X0_debtsAmongMembers, kv_X0_debtsAmongMembers⟩ rfl hls (Nat.le_of_ble_eq_true rfl) dX4_outcome_68 ⟨Nat.zero_le _, Nat.zero_le _⟩) (fun r_68 S_68 H locs he hW => ?_)
          obtain ⟨hr_68, hs⟩ := he
          rw [hs] at hW
          have zk := nm_at zk hr_68
          exact x_iret B hW ⟨zk.symm, rfl⟩ dX4_outcome_71
        · have zk := zk.trans (if_neg c_1_3)
          have nc_1_0 := lv_neT c_1_0 (a := 0) (by decide)
          have nc_1_1 := lv_neT c_1_1 (a := 1) (by decide)
          have nc_1_2 := lv_neT c_1_2 (a := 2) (by decide)
          have nc_1_3 := lv_neT c_1_3 (a := 3) (by decide)
          have hsw : p1.toInt < 0 ∨ 3 < p1.toInt := by omega
          refine lv_tableOut (tgt := 72) hx hb dX4_outcome_1 hsw (by decide) ?_
          refine lv_aload_n hx hb dX4_outcome_72 rfl (lv_at hl 0 rfl) ?_
          refine x_get B hW hqj cC_j cls4 hin_X4 1 (by decide) (v := .ref (ad (gG 1))) rfl k_16 dX4_outcome_73 ?_
          refine lv_aload_n hx hb dX4_outcome_76 rfl (lv_at hl 0 rfl) ?_
          refine x_get B hW hqj cC_j cls4 hin_X4 0 (by decide) (v := .ref (ad (gG 0))) rfl k_10 dX4_outcome_77 ?_
          refine x_calli hW (x_runVN B hW (As := [.ref (ad (gG 0))]) (rest := []) (host := RX4) (hqG (by decide)) (cC_G (by decide)) cls0 (c_X0_mostPaidForOthersSince (D := D) (ad := ad) l _ S 1 0 (by decide) (by decide)) ⟨va_cnB 1 B.1.2.2.2.2 gX4_outcome_X0_mostPaidForOthersSince_n333 rfl rfl rfl (B.2.1.2 _ nl_X4_333) ki_X0 hd_X0_mostPaidForOthersSince.2 ⟨Nat.le_of_ble_eq_true rfl, Nat.le_of_ble_eq_true rfl⟩, kn_X0_mostPaidForOthersSince, kv_X0_mostPaidForOthersSince⟩ rfl hls (Nat.le_of_ble_eq_true rfl) dX4_outcome_80 ⟨Nat.zero_le _, Nat.zero_le _⟩) (fun r_80 S_80 H locs he hW => ?_)
          obtain ⟨hr_80, hs⟩ := he
          rw [hs] at hW
          have zk := nm_at zk hr_80
          exact x_iret B hW ⟨zk.symm, rfl⟩ dX4_outcome_83

def x_X4_tryWeek (S : vS) (p1 : Int32) : vS := nm (x_X0_copyFrom S 1 0) (fun S_8 => nm (x_X0_letBeAway S_8 1 p1) (fun S_16 => nm (x_X0_endWeek S_16 1) (fun S_23 => S_23)))
theorem hd_X4_tryWeek : yX4_tryWeek.cls = RX4 ∧ yX4_tryWeek.cls ≠ "java/lang/invoke/MethodHandle" ∧ yX4_tryWeek.cls ≠ "java/lang/invoke/VarHandle" ∧ (parseMethodDescriptor yX4_tryWeek.desc).map (fun d => d.parameters.length) = some 1 := by decide +kernel
set_option maxHeartbeats 4000000 in
set_option maxRecDepth 100000 in
theorem c_X4_tryWeek {D : va_G} {ad : Nat → Nat} (l : Launch) (sz : Nat) (S : vS) (p1 : Int32) : Met l yX4_tryWeek wsX4_tryWeek (rmD 4) (pW D 157 (cC D ad) ad sz S [.ref (ad jO), .int p1]) (va_Qv (fun (S1 : vS) => S1 = (x_X4_tryWeek S p1)) (bW D 157 (cC D ad) ad (aW 157 ad sz)) (aW 157 ad sz)) 0 0 (aW 157 ad sz) := by
  refine x_met (own := RX4) (cc := cX4_tryWeek) (maxL := 2) (ret := none) (Qc := fun A => va_Qv (fun (S1 : vS) => S1 = (x_X4_tryWeek S p1)) (bW D 157 (cC D ad) ad A) A) rfl ⟨by decide +kernel, rfl, Nat.le_of_ble_eq_true rfl⟩ ?_
  intro p e s mm args below meth c A ls B hW hl hls
  have hx := B.1.1
  have hb := B.1.2.1
  have hin_X4 : ∀ w ∈ wsX40, w ∈ wsX4_tryWeek := fun w h => List.mem_cons_of_mem _ (List.mem_append_left _ (List.mem_append_left _ (List.mem_append_right _ h)))
  have k_10 := B.1.2.2.2.2 (.fieldLink RX4 10 "JointLoans" "group" "LJointLoans$Group;") (by decide +kernel)
  have k_16 := B.1.2.2.2.2 (.fieldLink RX4 16 "JointLoans" "trial" "LJointLoans$Group;") (by decide +kernel)
  have ki_X0 := B.1.2.2.2.2 (.initialized RX0) (by decide +kernel)
  have kn_X0_copyFrom := B.1.2.2.2.2 (.instanceMethod yX0_copyFrom) (by decide +kernel)
  have kn_X0_endWeek := B.1.2.2.2.2 (.instanceMethod yX0_endWeek) (by decide +kernel)
  have kn_X0_letBeAway := B.1.2.2.2.2 (.instanceMethod yX0_letBeAway) (by decide +kernel)
  have kv_X0_copyFrom := B.1.2.2.2.2 (.selects RX0 yX0_copyFrom yX0_copyFrom) (by decide +kernel)
  have kv_X0_endWeek := B.1.2.2.2.2 (.selects RX0 yX0_endWeek yX0_endWeek) (by decide +kernel)
  have kv_X0_letBeAway := B.1.2.2.2.2 (.selects RX0 yX0_letBeAway yX0_letBeAway) (by decide +kernel)
  have zk := x_X4_tryWeek.eq_1 S p1
  have hl : lv_has ls 2 [(0, .ref (ad jO)), (1, .int p1)] := hl
  refine lv_aload_n hx hb dX4_tryWeek_0 rfl (lv_at hl 0 rfl) ?_
  refine x_get B hW hqj cC_j cls4 hin_X4 1 (by decide) (v := .ref (ad (gG 1))) rfl k_16 dX4_tryWeek_1 ?_
  refine lv_aload_n hx hb dX4_tryWeek_4 rfl (lv_at hl 0 rfl) ?_
  refine x_get B hW hqj cC_j cls4 hin_X4 0 (by decide) (v := .ref (ad (gG 0))) rfl k_10 dX4_tryWeek_5 ?_
  refine x_callv hW (x_runVN B hW (As := [.ref (ad (gG 0))]) (rest := []) (host := RX4) (hqG (by decide)) (cC_G (by decide)) cls0 (c_X0_copyFrom (D := D) (ad := ad) l _ S 1 0 (by decide) (by decide)) ⟨va_cnB 1 B.1.2.2.2.2 gX4_tryWeek_X0_copyFrom_n321 rfl rfl rfl (B.2.1.2 _ nl_X4_321) ki_X0 hd_X0_copyFrom.2 ⟨Nat.le_of_ble_eq_true rfl, Nat.le_of_ble_eq_true rfl⟩, kn_X0_copyFrom, kv_X0_copyFrom⟩ rfl hls (Nat.le_of_ble_eq_true rfl) dX4_tryWeek_8 ⟨Nat.zero_le _, Nat.zero_le _⟩) (fun S_8 H locs he hW => ?_)
  have he_8 := he
  have zk := nm_at zk he_8
  refine lv_aload_n hx hb dX4_tryWeek_11 rfl (lv_at hl 0 rfl) ?_
  refine x_get B hW hqj cC_j cls4 hin_X4 1 (by decide) (v := .ref (ad (gG 1))) rfl k_16 dX4_tryWeek_12 ?_
  refine lv_iload_n hx hb dX4_tryWeek_15 rfl (lv_at hl 1 rfl) ?_
  refine x_callv hW (x_runVN B hW (As := [.int p1]) (rest := []) (host := RX4) (hqG (by decide)) (cC_G (by decide)) cls0 (c_X0_letBeAway (D := D) (ad := ad) l _ S_8 1 p1 (by decide)) ⟨va_cnB 1 B.1.2.2.2.2 gX4_tryWeek_X0_letBeAway_n324 rfl rfl rfl (B.2.1.2 _ nl_X4_324) ki_X0 hd_X0_letBeAway.2 ⟨Nat.le_of_ble_eq_true rfl, Nat.le_of_ble_eq_true rfl⟩, kn_X0_letBeAway, kv_X0_letBeAway⟩ rfl hls (Nat.le_of_ble_eq_true rfl) dX4_tryWeek_16 ⟨Nat.zero_le _, Nat.zero_le _⟩) (fun S_16 H locs he hW => ?_)
  have he_16 := he
  have zk := nm_at zk he_16
  refine lv_aload_n hx hb dX4_tryWeek_19 rfl (lv_at hl 0 rfl) ?_
  refine x_get B hW hqj cC_j cls4 hin_X4 1 (by decide) (v := .ref (ad (gG 1))) rfl k_16 dX4_tryWeek_20 ?_
  refine x_callv hW (x_runVN B hW (As := []) (rest := []) (host := RX4) (hqG (by decide)) (cC_G (by decide)) cls0 (c_X0_endWeek (D := D) (ad := ad) l _ S_16 1 (by decide)) ⟨va_cnB 0 B.1.2.2.2.2 gX4_tryWeek_X0_endWeek_n102 rfl rfl rfl (B.2.1.2 _ nl_X4_102) ki_X0 hd_X0_endWeek.2 ⟨Nat.le_of_ble_eq_true rfl, Nat.le_of_ble_eq_true rfl⟩, kn_X0_endWeek, kv_X0_endWeek⟩ rfl hls (Nat.le_of_ble_eq_true rfl) dX4_tryWeek_23 ⟨Nat.zero_le _, Nat.zero_le _⟩) (fun S_23 H locs he hW => ?_)
  have he_23 := he
  have zk := nm_at zk he_23
  exact x_vret B hW zk.symm dX4_tryWeek_26

def x_X4_ifAbsent (S : vS) (p1 : Int32) (p2 : Int32) : ((Nat × Int32) × vS) := if p1 < 0 then ((3, 0), S) else if 255 < p1 then ((3, 0), S) else if p2 < 0 then ((3, 0), S) else if p2 < 5 then nm (x_X4_tryWeek S p1) (fun S_32 => nm (x_X4_outcome S_32 p2) (fun r_37 => ((0, r_37), S_32))) else ((3, 0), S)
theorem hd_X4_ifAbsent : yX4_ifAbsent.cls = RX4 ∧ yX4_ifAbsent.cls ≠ "java/lang/invoke/MethodHandle" ∧ yX4_ifAbsent.cls ≠ "java/lang/invoke/VarHandle" ∧ (parseMethodDescriptor yX4_ifAbsent.desc).map (fun d => d.parameters.length) = some 2 := by decide +kernel
set_option maxHeartbeats 4000000 in
set_option maxRecDepth 100000 in
theorem c_X4_ifAbsent {D : va_G} {ad : Nat → Nat} {V : vE} (l : Launch) (sz : Nat) (hl0 : l.stackTraces = false) (S : vS) (p1 : Int32) (p2 : Int32) : vx_Met l yX4_ifAbsent wsX4_ifAbsent (rmX 6 1) (pE D 157 (cC D ad) ad sz V S [.ref (ad jO), .int p1, .int p2]) (va_Qi (fun (r : Int32) (S1 : vS) => ((0, r), S1) = (x_X4_ifAbsent S p1 p2)) (bW D 157 (cC D ad) ad (aW 157 ad sz)) (aW 157 ad sz)) (xX D 157 (cC D ad) ad (aW 157 ad sz) (pxS (x_X4_ifAbsent S p1 p2))) 1 6 (aW 157 ad sz) := by
  refine x_metX (own := RX4) (cc := cX4_ifAbsent) (maxL := 3) (ret := (some .int)) (Qc := fun A => va_Qi (fun (r : Int32) (S1 : vS) => ((0, r), S1) = (x_X4_ifAbsent S p1 p2)) (bW D 157 (cC D ad) ad A) A) (XC := fun A => xX D 157 (cC D ad) ad A (pxS (x_X4_ifAbsent S p1 p2))) rfl ⟨by decide +kernel, rfl, Nat.le_of_ble_eq_true rfl⟩ ?_
  intro p e s mm args below meth c A ls B htab hW hE hl hls
  have hx := B.1.1
  have hb := B.1.2.1
  have hat_70 : ∀ w ∈ (vx_atS RX4 70 "java/lang/IllegalArgumentException" xuE).filter goodWord, w ∈ wsX4_ifAbsent := fun w h => List.mem_cons_of_mem _ (List.mem_append_right _ h)
  have kx_66 := B.1.2.2.2.2 (.classLink RX4 66 "java/lang/IllegalArgumentException") (by decide +kernel)
  have ky_3 := B.1.2.2.2.2 (.initialized "java/lang/IllegalArgumentException") (by decide +kernel)
  have zk := x_X4_ifAbsent.eq_1 S p1 p2
  have hl : lv_has ls 3 [(0, .ref (ad jO)), (1, .int p1), (2, .int p2)] := hl
  refine lv_iload_n hx hb dX4_ifAbsent_0 rfl (lv_at hl 1 rfl) ?_
  refine lv_if_lt (tgt := 20) hx hb dX4_ifAbsent_1 (by decide) (fun c_1 => ?_) (fun c_1 => ?_)
  · have zk := zk.trans (if_pos c_1)
    exact x_throw B htab hW hE hl0 hls (cls := "java/lang/IllegalArgumentException") (text := "absent or what is out of range") (by decide +kernel) (by decide +kernel) kx_66 ky_3 (fun w h => B.1.2.2.2.2 w (hat_70 w h)) (by decide +kernel) (by decide +kernel) (by decide +kernel) dX4_ifAbsent_20 dX4_ifAbsent_23 dX4_ifAbsent_24 dX4_ifAbsent_26 dX4_ifAbsent_29 ⟨Nat.le_of_ble_eq_true rfl, Nat.le_of_ble_eq_true rfl, Nat.le_of_ble_eq_true rfl, Nat.le_of_ble_eq_true rfl⟩ ⟨Nat.le_of_ble_eq_true rfl, Nat.le_of_ble_eq_true rfl⟩ ⟨3, 0, by decide, rfl, zk.symm⟩
  · have zk := zk.trans (if_neg c_1)
    refine lv_iload_n hx hb dX4_ifAbsent_4 rfl (lv_at hl 1 rfl) ?_
    refine lv_sipush (v := 255) hx hb dX4_ifAbsent_5 (by decide) ?_
    refine lv_icmp_gt (tgt := 20) hx hb dX4_ifAbsent_8 (by decide) (fun c_8 => ?_) (fun c_8 => ?_)
    · have zk := zk.trans (if_pos c_8)
      exact x_throw B htab hW hE hl0 hls (cls := "java/lang/IllegalArgumentException") (text := "absent or what is out of range") (by decide +kernel) (by decide +kernel) kx_66 ky_3 (fun w h => B.1.2.2.2.2 w (hat_70 w h)) (by decide +kernel) (by decide +kernel) (by decide +kernel) dX4_ifAbsent_20 dX4_ifAbsent_23 dX4_ifAbsent_24 dX4_ifAbsent_26 dX4_ifAbsent_29 ⟨Nat.le_of_ble_eq_true rfl, Nat.le_of_ble_eq_true rfl, Nat.le_of_ble_eq_true rfl, Nat.le_of_ble_eq_true rfl⟩ ⟨Nat.le_of_ble_eq_true rfl, Nat.le_of_ble_eq_true rfl⟩ ⟨3, 0, by decide, rfl, zk.symm⟩
    · have zk := zk.trans (if_neg c_8)
      refine lv_iload_n hx hb dX4_ifAbsent_11 rfl (lv_at hl 2 rfl) ?_
      refine lv_if_lt (tgt := 20) hx hb dX4_ifAbsent_12 (by decide) (fun c_12 => ?_) (fun c_12 => ?_)
      · have zk := zk.trans (if_pos c_12)
        exact x_throw B htab hW hE hl0 hls (cls := "java/lang/IllegalArgumentException") (text := "absent or what is out of range") (by decide +kernel) (by decide +kernel) kx_66 ky_3 (fun w h => B.1.2.2.2.2 w (hat_70 w h)) (by decide +kernel) (by decide +kernel) (by decide +kernel) dX4_ifAbsent_20 dX4_ifAbsent_23 dX4_ifAbsent_24 dX4_ifAbsent_26 dX4_ifAbsent_29 ⟨Nat.le_of_ble_eq_true rfl, Nat.le_of_ble_eq_true rfl, Nat.le_of_ble_eq_true rfl, Nat.le_of_ble_eq_true rfl⟩ ⟨Nat.le_of_ble_eq_true rfl, Nat.le_of_ble_eq_true rfl⟩ ⟨3, 0, by decide, rfl, zk.symm⟩
      · have zk := zk.trans (if_neg c_12)
        refine lv_iload_n hx hb dX4_ifAbsent_15 rfl (lv_at hl 2 rfl) ?_
        refine lv_iconst (v := 5) hx hb dX4_ifAbsent_16 (by decide) ?_
        refine lv_icmp_lt (tgt := 30) hx hb dX4_ifAbsent_17 (by decide) (fun c_17 => ?_) (fun c_17 => ?_)
        · have zk := zk.trans (if_pos c_17)
          refine lv_aload_n hx hb dX4_ifAbsent_30 rfl (lv_at hl 0 rfl) ?_
          refine lv_iload_n hx hb dX4_ifAbsent_31 rfl (lv_at hl 1 rfl) ?_
          refine x_callv hW (x_runV B hW (As := [.int p1]) (rest := []) hqj cC_j cls4 (c_X4_tryWeek (D := D) (ad := ad) l _ S p1) (cwV 1 B.1.2.2.2.2 gX4_ifAbsent_X4_tryWeek rfl rfl rfl hd_X4_tryWeek ⟨Nat.le_of_ble_eq_true rfl, Nat.le_of_ble_eq_true rfl⟩) rfl hls (Nat.le_of_ble_eq_true rfl) dX4_ifAbsent_32 ⟨Nat.le_of_ble_eq_true rfl, Nat.le_of_ble_eq_true rfl⟩) (fun S_32 H locs he hW => ?_)
          have he_32 := he
          have zk := nm_at zk he_32
          refine lv_aload_n hx hb dX4_ifAbsent_35 rfl (lv_at hl 0 rfl) ?_
          refine lv_iload_n hx hb dX4_ifAbsent_36 rfl (lv_at hl 2 rfl) ?_
          refine x_calli hW (x_runV B hW (As := [.int p2]) (rest := []) hqj cC_j cls4 (c_X4_outcome (D := D) (ad := ad) l _ S_32 p2) (cwV 1 B.1.2.2.2.2 gX4_ifAbsent_X4_outcome rfl rfl rfl hd_X4_outcome ⟨Nat.le_of_ble_eq_true rfl, Nat.le_of_ble_eq_true rfl⟩) rfl hls (Nat.le_of_ble_eq_true rfl) dX4_ifAbsent_37 ⟨Nat.le_of_ble_eq_true rfl, Nat.le_of_ble_eq_true rfl⟩) (fun r_37 S_37 H locs he hW => ?_)
          obtain ⟨hr_37, hs⟩ := he
          rw [hs] at hW
          have zk := nm_at zk hr_37
          exact x_end ⟨Nat.le_of_ble_eq_true rfl, Nat.le_of_ble_eq_true rfl⟩ (x_iret B hW zk.symm dX4_ifAbsent_40)
        · have zk := zk.trans (if_neg c_17)
          exact x_throw B htab hW hE hl0 hls (cls := "java/lang/IllegalArgumentException") (text := "absent or what is out of range") (by decide +kernel) (by decide +kernel) kx_66 ky_3 (fun w h => B.1.2.2.2.2 w (hat_70 w h)) (by decide +kernel) (by decide +kernel) (by decide +kernel) dX4_ifAbsent_20 dX4_ifAbsent_23 dX4_ifAbsent_24 dX4_ifAbsent_26 dX4_ifAbsent_29 ⟨Nat.le_of_ble_eq_true rfl, Nat.le_of_ble_eq_true rfl, Nat.le_of_ble_eq_true rfl, Nat.le_of_ble_eq_true rfl⟩ ⟨Nat.le_of_ble_eq_true rfl, Nat.le_of_ble_eq_true rfl⟩ ⟨3, 0, by decide, rfl, zk.symm⟩

def x_X4_fundLasts (S : vS) (p1 : Int32) : (Nat × Int32) := tbq 0 (x_X4_memberOrThrow S p1) (fun k_6 => nm (x_X0_weeksOfFund S 0 k_6) (fun r_9 => (0, r_9)))
theorem hd_X4_fundLasts : yX4_fundLasts.cls = RX4 ∧ yX4_fundLasts.cls ≠ "java/lang/invoke/MethodHandle" ∧ yX4_fundLasts.cls ≠ "java/lang/invoke/VarHandle" ∧ (parseMethodDescriptor yX4_fundLasts.desc).map (fun d => d.parameters.length) = some 1 := by decide +kernel
set_option maxHeartbeats 4000000 in
set_option maxRecDepth 100000 in
theorem c_X4_fundLasts {D : va_G} {ad : Nat → Nat} {V : vE} (l : Launch) (sz : Nat) (hl0 : l.stackTraces = false) (S : vS) (p1 : Int32) : vx_Met l yX4_fundLasts wsX4_fundLasts (rmX 7 1) (pE D 157 (cC D ad) ad sz V S [.ref (ad jO), .int p1]) (va_Qi (fun (r : Int32) (S1 : vS) => (0, r) = (x_X4_fundLasts S p1) ∧ S1 = S) (bW D 157 (cC D ad) ad (aW 157 ad sz)) (aW 157 ad sz)) (xX D 157 (cC D ad) ad (aW 157 ad sz) (pxP (x_X4_fundLasts S p1) S)) 1 6 (aW 157 ad sz) := by
  refine x_metX (own := RX4) (cc := cX4_fundLasts) (maxL := 2) (ret := (some .int)) (Qc := fun A => va_Qi (fun (r : Int32) (S1 : vS) => (0, r) = (x_X4_fundLasts S p1) ∧ S1 = S) (bW D 157 (cC D ad) ad A) A) (XC := fun A => xX D 157 (cC D ad) ad A (pxP (x_X4_fundLasts S p1) S)) rfl ⟨by decide +kernel, rfl, Nat.le_of_ble_eq_true rfl⟩ ?_
  intro p e s mm args below meth c A ls B htab hW hE hl hls
  have hx := B.1.1
  have hb := B.1.2.1
  have hin_X4 : ∀ w ∈ wsX40, w ∈ wsX4_fundLasts := fun w h => List.mem_cons_of_mem _ (List.mem_append_left _ (List.mem_append_left _ (List.mem_append_left _ (List.mem_append_right _ h))))
  have k_10 := B.1.2.2.2.2 (.fieldLink RX4 10 "JointLoans" "group" "LJointLoans$Group;") (by decide +kernel)
  have ki_X0 := B.1.2.2.2.2 (.initialized RX0) (by decide +kernel)
  have kn_X0_weeksOfFund := B.1.2.2.2.2 (.instanceMethod yX0_weeksOfFund) (by decide +kernel)
  have kv_X0_weeksOfFund := B.1.2.2.2.2 (.selects RX0 yX0_weeksOfFund yX0_weeksOfFund) (by decide +kernel)
  have zk := x_X4_fundLasts.eq_1 S p1
  have hl : lv_has ls 2 [(0, .ref (ad jO)), (1, .int p1)] := hl
  refine lv_aload_n hx hb dX4_fundLasts_0 rfl (lv_at hl 0 rfl) ?_
  refine x_get B hW hqj cC_j cls4 hin_X4 0 (by decide) (v := .ref (ad (gG 0))) rfl k_10 dX4_fundLasts_1 ?_
  refine lv_aload_n hx hb dX4_fundLasts_4 rfl (lv_at hl 0 rfl) ?_
  refine lv_iload_n hx hb dX4_fundLasts_5 rfl (lv_at hl 1 rfl) ?_
  refine x_xcallq B htab hW (x_runVX B hW hE (As := [.int p1]) (rest := .ref (ad (gG 0)) :: []) hqj cC_j cls4 (c_X4_memberOrThrow (D := D) (ad := ad) (V := V) l _ hl0 S p1) (cwV 1 B.1.2.2.2.2 gX4_fundLasts_X4_memberOrThrow rfl rfl rfl hd_X4_memberOrThrow ⟨Nat.le_of_ble_eq_true rfl, Nat.le_of_ble_eq_true rfl⟩) rfl hls (Nat.le_of_ble_eq_true rfl) dX4_fundLasts_6 ⟨Nat.le_of_ble_eq_true rfl, Nat.le_of_ble_eq_true rfl⟩) ⟨Nat.le_of_ble_eq_true rfl, Nat.le_of_ble_eq_true rfl⟩ (fun E S1 ⟨⟨k, v, hk, hn, he⟩, hs⟩ => ⟨⟨k, _, hk, hn, (tbq_ex zk he hk).symm⟩, hs⟩) (fun r_6 S_6 H locs he hW => ?_)
  obtain ⟨⟨k_6, hr, he_6, hbk_6⟩, hs⟩ := he
  rw [hs] at hW
  subst hr
  have zk := tbq_ok zk he_6
  refine W.eq (g2 := F0 mm 9 ls (.ref (ad (gM 0 k_6)) :: .ref (ad (gG 0)) :: [])) rfl ?_
  refine x_calli hW (x_runVN B hW (As := [.ref (ad (gM 0 k_6))]) (rest := []) (host := RX4) (hqG (by decide)) (cC_G (by decide)) cls0 (c_X0_weeksOfFund (D := D) (ad := ad) l _ S 0 k_6 (by decide) hbk_6) ⟨va_cnB 1 B.1.2.2.2.2 gX4_fundLasts_X0_weeksOfFund_n225 rfl rfl rfl (B.2.1.2 _ nl_X4_225) ki_X0 hd_X0_weeksOfFund.2 ⟨Nat.le_of_ble_eq_true rfl, Nat.le_of_ble_eq_true rfl⟩, kn_X0_weeksOfFund, kv_X0_weeksOfFund⟩ rfl hls (Nat.le_of_ble_eq_true rfl) dX4_fundLasts_9 ⟨Nat.le_of_ble_eq_true rfl, Nat.le_of_ble_eq_true rfl⟩) (fun r_9 S_9 H locs he hW => ?_)
  obtain ⟨hr_9, hs⟩ := he
  rw [hs] at hW
  have zk := nm_at zk hr_9
  exact x_end ⟨Nat.le_of_ble_eq_true rfl, Nat.le_of_ble_eq_true rfl⟩ (x_iret B hW ⟨zk.symm, rfl⟩ dX4_fundLasts_12)

def x_X4_weakest (S : vS) : Int32 := nm (x_X0_weakestNumber S 0) (fun r_4 => r_4)
theorem hd_X4_weakest : yX4_weakest.cls = RX4 ∧ yX4_weakest.cls ≠ "java/lang/invoke/MethodHandle" ∧ yX4_weakest.cls ≠ "java/lang/invoke/VarHandle" ∧ (parseMethodDescriptor yX4_weakest.desc).map (fun d => d.parameters.length) = some 0 := by decide +kernel
set_option maxHeartbeats 4000000 in
set_option maxRecDepth 100000 in
theorem c_X4_weakest {D : va_G} {ad : Nat → Nat} (l : Launch) (sz : Nat) (S : vS) : Met l yX4_weakest wsX4_weakest (rmD 3) (pW D 157 (cC D ad) ad sz S [.ref (ad jO)]) (va_Qi (fun (r : Int32) (S1 : vS) => r = (x_X4_weakest S) ∧ S1 = S) (bW D 157 (cC D ad) ad (aW 157 ad sz)) (aW 157 ad sz)) 0 0 (aW 157 ad sz) := by
  refine x_met (own := RX4) (cc := cX4_weakest) (maxL := 1) (ret := (some .int)) (Qc := fun A => va_Qi (fun (r : Int32) (S1 : vS) => r = (x_X4_weakest S) ∧ S1 = S) (bW D 157 (cC D ad) ad A) A) rfl ⟨by decide +kernel, rfl, Nat.le_of_ble_eq_true rfl⟩ ?_
  intro p e s mm args below meth c A ls B hW hl hls
  have hx := B.1.1
  have hb := B.1.2.1
  have hin_X4 : ∀ w ∈ wsX40, w ∈ wsX4_weakest := fun w h => List.mem_cons_of_mem _ (List.mem_append_left _ (List.mem_append_left _ (List.mem_append_right _ h)))
  have k_10 := B.1.2.2.2.2 (.fieldLink RX4 10 "JointLoans" "group" "LJointLoans$Group;") (by decide +kernel)
  have ki_X0 := B.1.2.2.2.2 (.initialized RX0) (by decide +kernel)
  have kn_X0_weakestNumber := B.1.2.2.2.2 (.instanceMethod yX0_weakestNumber) (by decide +kernel)
  have kv_X0_weakestNumber := B.1.2.2.2.2 (.selects RX0 yX0_weakestNumber yX0_weakestNumber) (by decide +kernel)
  have zk := x_X4_weakest.eq_1 S
  have hl : lv_has ls 1 [(0, .ref (ad jO))] := hl
  refine lv_aload_n hx hb dX4_weakest_0 rfl (lv_at hl 0 rfl) ?_
  refine x_get B hW hqj cC_j cls4 hin_X4 0 (by decide) (v := .ref (ad (gG 0))) rfl k_10 dX4_weakest_1 ?_
  refine x_calli hW (x_runVN B hW (As := []) (rest := []) (host := RX4) (hqG (by decide)) (cC_G (by decide)) cls0 (c_X0_weakestNumber (D := D) (ad := ad) l _ S 0 (by decide)) ⟨va_cnB 0 B.1.2.2.2.2 gX4_weakest_X0_weakestNumber_n228 rfl rfl rfl (B.2.1.2 _ nl_X4_228) ki_X0 hd_X0_weakestNumber.2 ⟨Nat.le_of_ble_eq_true rfl, Nat.le_of_ble_eq_true rfl⟩, kn_X0_weakestNumber, kv_X0_weakestNumber⟩ rfl hls (Nat.le_of_ble_eq_true rfl) dX4_weakest_4 ⟨Nat.zero_le _, Nat.zero_le _⟩) (fun r_4 S_4 H locs he hW => ?_)
  obtain ⟨hr_4, hs⟩ := he
  rw [hs] at hW
  have zk := nm_at zk hr_4
  exact x_iret B hW ⟨zk.symm, rfl⟩ dX4_weakest_7

def x_X4_weeksToGo (S : vS) : Int32 := nm (x_X0_mostLoanWeeks S 0) (fun r_4 => r_4)
theorem hd_X4_weeksToGo : yX4_weeksToGo.cls = RX4 ∧ yX4_weeksToGo.cls ≠ "java/lang/invoke/MethodHandle" ∧ yX4_weeksToGo.cls ≠ "java/lang/invoke/VarHandle" ∧ (parseMethodDescriptor yX4_weeksToGo.desc).map (fun d => d.parameters.length) = some 0 := by decide +kernel
set_option maxHeartbeats 4000000 in
set_option maxRecDepth 100000 in
theorem c_X4_weeksToGo {D : va_G} {ad : Nat → Nat} (l : Launch) (sz : Nat) (S : vS) : Met l yX4_weeksToGo wsX4_weeksToGo (rmD 2) (pW D 157 (cC D ad) ad sz S [.ref (ad jO)]) (va_Qi (fun (r : Int32) (S1 : vS) => r = (x_X4_weeksToGo S) ∧ S1 = S) (bW D 157 (cC D ad) ad (aW 157 ad sz)) (aW 157 ad sz)) 0 0 (aW 157 ad sz) := by
  refine x_met (own := RX4) (cc := cX4_weeksToGo) (maxL := 1) (ret := (some .int)) (Qc := fun A => va_Qi (fun (r : Int32) (S1 : vS) => r = (x_X4_weeksToGo S) ∧ S1 = S) (bW D 157 (cC D ad) ad A) A) rfl ⟨by decide +kernel, rfl, Nat.le_of_ble_eq_true rfl⟩ ?_
  intro p e s mm args below meth c A ls B hW hl hls
  have hx := B.1.1
  have hb := B.1.2.1
  have hin_X4 : ∀ w ∈ wsX40, w ∈ wsX4_weeksToGo := fun w h => List.mem_cons_of_mem _ (List.mem_append_left _ (List.mem_append_left _ (List.mem_append_right _ h)))
  have k_10 := B.1.2.2.2.2 (.fieldLink RX4 10 "JointLoans" "group" "LJointLoans$Group;") (by decide +kernel)
  have ki_X0 := B.1.2.2.2.2 (.initialized RX0) (by decide +kernel)
  have kn_X0_mostLoanWeeks := B.1.2.2.2.2 (.instanceMethod yX0_mostLoanWeeks) (by decide +kernel)
  have kv_X0_mostLoanWeeks := B.1.2.2.2.2 (.selects RX0 yX0_mostLoanWeeks yX0_mostLoanWeeks) (by decide +kernel)
  have zk := x_X4_weeksToGo.eq_1 S
  have hl : lv_has ls 1 [(0, .ref (ad jO))] := hl
  refine lv_aload_n hx hb dX4_weeksToGo_0 rfl (lv_at hl 0 rfl) ?_
  refine x_get B hW hqj cC_j cls4 hin_X4 0 (by decide) (v := .ref (ad (gG 0))) rfl k_10 dX4_weeksToGo_1 ?_
  refine x_calli hW (x_runVN B hW (As := []) (rest := []) (host := RX4) (hqG (by decide)) (cC_G (by decide)) cls0 (c_X0_mostLoanWeeks (D := D) (ad := ad) l _ S 0 (by decide)) ⟨va_cnB 0 B.1.2.2.2.2 gX4_weeksToGo_X0_mostLoanWeeks_n231 rfl rfl rfl (B.2.1.2 _ nl_X4_231) ki_X0 hd_X0_mostLoanWeeks.2 ⟨Nat.le_of_ble_eq_true rfl, Nat.le_of_ble_eq_true rfl⟩, kn_X0_mostLoanWeeks, kv_X0_mostLoanWeeks⟩ rfl hls (Nat.le_of_ble_eq_true rfl) dX4_weeksToGo_4 ⟨Nat.zero_le _, Nat.zero_le _⟩) (fun r_4 S_4 H locs he hW => ?_)
  obtain ⟨hr_4, hs⟩ := he
  rw [hs] at hW
  have zk := nm_at zk hr_4
  exact x_iret B hW ⟨zk.symm, rfl⟩ dX4_weeksToGo_7

def x_X4_ifCycle (S : vS) (p1 : Int32) : (Nat × Int32) := tbq 0 (x_X4_memberOrThrow S p1) (fun k_2 => nm (x_X2_nextLimit S 0 k_2) (fun r_5 => (0, r_5)))
theorem hd_X4_ifCycle : yX4_ifCycle.cls = RX4 ∧ yX4_ifCycle.cls ≠ "java/lang/invoke/MethodHandle" ∧ yX4_ifCycle.cls ≠ "java/lang/invoke/VarHandle" ∧ (parseMethodDescriptor yX4_ifCycle.desc).map (fun d => d.parameters.length) = some 1 := by decide +kernel
set_option maxHeartbeats 4000000 in
set_option maxRecDepth 100000 in
theorem c_X4_ifCycle {D : va_G} {ad : Nat → Nat} {V : vE} (l : Launch) (sz : Nat) (hl0 : l.stackTraces = false) (S : vS) (p1 : Int32) : vx_Met l yX4_ifCycle wsX4_ifCycle (rmX 7 1) (pE D 157 (cC D ad) ad sz V S [.ref (ad jO), .int p1]) (va_Qi (fun (r : Int32) (S1 : vS) => (0, r) = (x_X4_ifCycle S p1) ∧ S1 = S) (bW D 157 (cC D ad) ad (aW 157 ad sz)) (aW 157 ad sz)) (xX D 157 (cC D ad) ad (aW 157 ad sz) (pxP (x_X4_ifCycle S p1) S)) 1 6 (aW 157 ad sz) := by
  refine x_metX (own := RX4) (cc := cX4_ifCycle) (maxL := 2) (ret := (some .int)) (Qc := fun A => va_Qi (fun (r : Int32) (S1 : vS) => (0, r) = (x_X4_ifCycle S p1) ∧ S1 = S) (bW D 157 (cC D ad) ad A) A) (XC := fun A => xX D 157 (cC D ad) ad A (pxP (x_X4_ifCycle S p1) S)) rfl ⟨by decide +kernel, rfl, Nat.le_of_ble_eq_true rfl⟩ ?_
  intro p e s mm args below meth c A ls B htab hW hE hl hls
  have hx := B.1.1
  have hb := B.1.2.1
  have ki_X2 := B.1.2.2.2.2 (.initialized RX2) (by decide +kernel)
  have kn_X2_nextLimit := B.1.2.2.2.2 (.instanceMethod yX2_nextLimit) (by decide +kernel)
  have kv_X2_nextLimit := B.1.2.2.2.2 (.selects RX2 yX2_nextLimit yX2_nextLimit) (by decide +kernel)
  have zk := x_X4_ifCycle.eq_1 S p1
  have hl : lv_has ls 2 [(0, .ref (ad jO)), (1, .int p1)] := hl
  refine lv_aload_n hx hb dX4_ifCycle_0 rfl (lv_at hl 0 rfl) ?_
  refine lv_iload_n hx hb dX4_ifCycle_1 rfl (lv_at hl 1 rfl) ?_
  refine x_xcallq B htab hW (x_runVX B hW hE (As := [.int p1]) (rest := []) hqj cC_j cls4 (c_X4_memberOrThrow (D := D) (ad := ad) (V := V) l _ hl0 S p1) (cwV 1 B.1.2.2.2.2 gX4_ifCycle_X4_memberOrThrow rfl rfl rfl hd_X4_memberOrThrow ⟨Nat.le_of_ble_eq_true rfl, Nat.le_of_ble_eq_true rfl⟩) rfl hls (Nat.le_of_ble_eq_true rfl) dX4_ifCycle_2 ⟨Nat.le_of_ble_eq_true rfl, Nat.le_of_ble_eq_true rfl⟩) ⟨Nat.le_of_ble_eq_true rfl, Nat.le_of_ble_eq_true rfl⟩ (fun E S1 ⟨⟨k, v, hk, hn, he⟩, hs⟩ => ⟨⟨k, _, hk, hn, (tbq_ex zk he hk).symm⟩, hs⟩) (fun r_2 S_2 H locs he hW => ?_)
  obtain ⟨⟨k_2, hr, he_2, hbk_2⟩, hs⟩ := he
  rw [hs] at hW
  subst hr
  have zk := tbq_ok zk he_2
  refine W.eq (g2 := F0 mm 5 ls (.ref (ad (gM 0 k_2)) :: [])) rfl ?_
  refine x_calli hW (x_runVN B hW (As := []) (rest := []) (host := RX4) (hqM (by decide) hbk_2) (cC_M (by decide) hbk_2) cls2 (c_X2_nextLimit (D := D) (ad := ad) l _ S 0 k_2 (by decide) hbk_2) ⟨va_cnB 0 B.1.2.2.2.2 gX4_ifCycle_X2_nextLimit_n234 rfl rfl rfl (B.2.1.2 _ nl_X4_234) ki_X2 hd_X2_nextLimit.2 ⟨Nat.le_of_ble_eq_true rfl, Nat.le_of_ble_eq_true rfl⟩, kn_X2_nextLimit, kv_X2_nextLimit⟩ rfl hls (Nat.le_of_ble_eq_true rfl) dX4_ifCycle_5 ⟨Nat.le_of_ble_eq_true rfl, Nat.le_of_ble_eq_true rfl⟩) (fun r_5 S_5 H locs he hW => ?_)
  obtain ⟨hr_5, hs⟩ := he
  rw [hs] at hW
  have zk := nm_at zk hr_5
  exact x_end ⟨Nat.le_of_ble_eq_true rfl, Nat.le_of_ble_eq_true rfl⟩ (x_iret B hW ⟨zk.symm, rfl⟩ dX4_ifCycle_8)

def x_X4_paidShare (S : vS) : UInt64 := nm (x_X0_shareOfPaid S 0) (fun r_4 => r_4)
theorem hd_X4_paidShare : yX4_paidShare.cls = RX4 ∧ yX4_paidShare.cls ≠ "java/lang/invoke/MethodHandle" ∧ yX4_paidShare.cls ≠ "java/lang/invoke/VarHandle" ∧ (parseMethodDescriptor yX4_paidShare.desc).map (fun d => d.parameters.length) = some 0 := by decide +kernel
set_option maxHeartbeats 4000000 in
set_option maxRecDepth 100000 in
theorem c_X4_paidShare {D : va_G} {ad : Nat → Nat} (l : Launch) (sz : Nat) (S : vS) : Met l yX4_paidShare wsX4_paidShare (rmD 1) (pW D 157 (cC D ad) ad sz S [.ref (ad jO)]) (va_Qd (fun (r : UInt64) (S1 : vS) => r = (x_X4_paidShare S) ∧ S1 = S) (bW D 157 (cC D ad) ad (aW 157 ad sz)) (aW 157 ad sz)) 0 0 (aW 157 ad sz) := by
  refine x_met (own := RX4) (cc := cX4_paidShare) (maxL := 1) (ret := (some .double)) (Qc := fun A => va_Qd (fun (r : UInt64) (S1 : vS) => r = (x_X4_paidShare S) ∧ S1 = S) (bW D 157 (cC D ad) ad A) A) rfl ⟨by decide +kernel, rfl, Nat.le_of_ble_eq_true rfl⟩ ?_
  intro p e s mm args below meth c A ls B hW hl hls
  have hx := B.1.1
  have hb := B.1.2.1
  have hin_X4 : ∀ w ∈ wsX40, w ∈ wsX4_paidShare := fun w h => List.mem_cons_of_mem _ (List.mem_append_left _ (List.mem_append_right _ h))
  have k_10 := B.1.2.2.2.2 (.fieldLink RX4 10 "JointLoans" "group" "LJointLoans$Group;") (by decide +kernel)
  have ki_X0 := B.1.2.2.2.2 (.initialized RX0) (by decide +kernel)
  have kn_X0_shareOfPaid := B.1.2.2.2.2 (.instanceMethod yX0_shareOfPaid) (by decide +kernel)
  have kv_X0_shareOfPaid := B.1.2.2.2.2 (.selects RX0 yX0_shareOfPaid yX0_shareOfPaid) (by decide +kernel)
  have zk := x_X4_paidShare.eq_1 S
  have hl : lv_has ls 1 [(0, .ref (ad jO))] := hl
  refine lv_aload_n hx hb dX4_paidShare_0 rfl (lv_at hl 0 rfl) ?_
  refine x_get B hW hqj cC_j cls4 hin_X4 0 (by decide) (v := .ref (ad (gG 0))) rfl k_10 dX4_paidShare_1 ?_
  refine x_calld hW (x_runVN B hW (As := []) (rest := []) (host := RX4) (hqG (by decide)) (cC_G (by decide)) cls0 (c_X0_shareOfPaid (D := D) (ad := ad) l _ S 0 (by decide)) ⟨va_cnB 0 B.1.2.2.2.2 gX4_paidShare_X0_shareOfPaid_n237 rfl rfl rfl (B.2.1.2 _ nl_X4_237) ki_X0 hd_X0_shareOfPaid.2 ⟨Nat.le_of_ble_eq_true rfl, Nat.le_of_ble_eq_true rfl⟩, kn_X0_shareOfPaid, kv_X0_shareOfPaid⟩ rfl hls (Nat.le_of_ble_eq_true rfl) dX4_paidShare_4 ⟨Nat.zero_le _, Nat.zero_le _⟩) (fun r_4 S_4 H locs he hW => ?_)
  obtain ⟨hr_4, hs⟩ := he
  rw [hs] at hW
  have zk := nm_at zk hr_4
  exact x_dret B hW ⟨zk.symm, rfl⟩ dX4_paidShare_7

end P26_jl
