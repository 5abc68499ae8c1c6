section P22_history
def x_X1_keep (S : vS) (g2 : Nat) : vS := nm (x_J9_floorMod_7cf53 S ((S hO 1) + (S hO 2)) 6) (fun r_15 => nm (x_X0_copyFrom S (r_15.toNatClampNeg + 2) g2) (fun S_20 => if 6 ≤ (S_20 hO 2) then nm (x_J9_floorMod_7cf53 S_20 ((S_20 hO 1) + 1) 6) (fun r_54 => nm (st S_20 hO 1 r_54) (fun S_57 => S_57)) else nm (st S_20 hO 2 ((S_20 hO 2) + 1)) (fun S_39 => S_39)))
theorem hd_X1_keep : yX1_keep.cls = RX1 ∧ yX1_keep.cls ≠ "java/lang/invoke/MethodHandle" ∧ yX1_keep.cls ≠ "java/lang/invoke/VarHandle" ∧ (parseMethodDescriptor yX1_keep.desc).map (fun d => d.parameters.length) = some 1 := by decide +kernel
set_option maxHeartbeats 4000000 in
set_option maxRecDepth 100000 in
theorem c_X1_keep {D : va_G} {ad : Nat → Nat} (l : Launch) (sz : Nat) (S : vS) (g2 : Nat) (hg2 : g2 < 8) : Met l yX1_keep wsX1_keep (rmD 3) (pW D 157 (cC D ad) ad sz S [.ref (ad hO), .ref (ad (gG g2))]) (va_Qv (fun (S1 : vS) => S1 = (x_X1_keep S g2)) (bW D 157 (cC D ad) ad (aW 157 ad sz)) (aW 157 ad sz)) 0 0 (aW 157 ad sz) := by
  refine x_met (own := RX1) (cc := cX1_keep) (maxL := 2) (ret := none) (Qc := fun A => va_Qv (fun (S1 : vS) => S1 = (x_X1_keep S g2)) (bW D 157 (cC D ad) ad A) A) rfl ⟨by decide +kernel, rfl, Nat.le_of_ble_eq_true rfl⟩ ?_
  intro p e s mm args below meth c A ls B hW hl hls
  have hx := B.1.1
  have hb := B.1.2.1
  have hin_X1 : ∀ w ∈ wsX10, w ∈ wsX1_keep := fun w h => List.mem_cons_of_mem _ (List.mem_append_left _ (List.mem_append_left _ (List.mem_append_right _ h)))
  have k_11 := B.1.2.2.2.2 (.fieldLink RX1 11 "JointLoans$History" "states" "[LJointLoans$Group;") (by decide +kernel)
  have k_18 := B.1.2.2.2.2 (.fieldLink RX1 18 "JointLoans$History" "oldest" "I") (by decide +kernel)
  have k_22 := B.1.2.2.2.2 (.fieldLink RX1 22 "JointLoans$History" "size" "I") (by decide +kernel)
  have ki_X0 := B.1.2.2.2.2 (.initialized RX0) (by decide +kernel)
  have kn_X0_copyFrom := B.1.2.2.2.2 (.instanceMethod yX0_copyFrom) (by decide +kernel)
  have kv_X0_copyFrom := B.1.2.2.2.2 (.selects RX0 yX0_copyFrom yX0_copyFrom) (by decide +kernel)
  have zk := x_X1_keep.eq_1 S g2
  have hl : lv_has ls 2 [(0, .ref (ad hO)), (1, .ref (ad (gG g2)))] := hl
  refine lv_aload_n hx hb dX1_keep_0 rfl (lv_at hl 0 rfl) ?_
  refine x_get B hW hqh cC_h cls1 hin_X1 0 (by decide) (v := .ref (ad hA)) rfl k_11 dX1_keep_1 ?_
  refine lv_aload_n hx hb dX1_keep_4 rfl (lv_at hl 0 rfl) ?_
  refine x_get B hW hqh cC_h cls1 hin_X1 1 (by decide) (v := .int (S hO 1)) rfl k_18 dX1_keep_5 ?_
  refine lv_aload_n hx hb dX1_keep_8 rfl (lv_at hl 0 rfl) ?_
  refine x_get B hW hqh cC_h cls1 hin_X1 2 (by decide) (v := .int (S hO 2)) rfl k_22 dX1_keep_9 ?_
  refine lv_iadd hx hb dX1_keep_12 ?_
  refine lv_bipush (v := 6) hx hb dX1_keep_13 (by decide) ?_
  refine x_calli hW (x_runS B hW (As := [.int ((S hO 1) + (S hO 2)), .int 6]) (rest := .ref (ad hA) :: []) (c_J9_floorMod_7cf53 (D := D) (ad := ad) l _ S ((S hO 1) + (S hO 2)) 6 (by decide)) (va_cwS 2 B.1.2.2.2.2 gX1_keep_J9_floorMod_7cf53 rfl rfl rfl hd_J9_floorMod_7cf53.2 ⟨Nat.le_of_ble_eq_true rfl, Nat.le_of_ble_eq_true rfl⟩) rfl hls (Nat.le_of_ble_eq_true rfl) dX1_keep_15 ⟨Nat.zero_le _, Nat.zero_le _⟩) (fun r_15 S_15 H locs he hW => ?_)
  obtain ⟨hr_15, hs⟩ := he
  rw [hs] at hW
  have zk := nm_at zk hr_15
  have hv15 : vp_in r_15 6 := by rw [hr_15]; exact fmod6 _ _
  refine x_aald B hW hqa cC_a (k := 3) rfl (isN_var hv15 (by decide)) (by decide) (by decide) (v := .ref (ad (gG (r_15.toNatClampNeg + 2)))) rfl dX1_keep_18 ?_
  refine lv_aload_n hx hb dX1_keep_19 rfl (lv_at hl 1 rfl) ?_
  refine x_callv hW (x_runVN B hW (As := [.ref (ad (gG g2))]) (rest := []) (host := RX4) (hqG (Nat.add_lt_add_right (Nat.lt_of_lt_of_le ((isN_var hv15 (by decide))).2.1 (by decide : 6 ≤ 6)) 2)) (cC_G (Nat.add_lt_add_right (Nat.lt_of_lt_of_le ((isN_var hv15 (by decide))).2.1 (by decide : 6 ≤ 6)) 2)) cls0 (c_X0_copyFrom (D := D) (ad := ad) l _ S (r_15.toNatClampNeg + 2) g2 (Nat.add_lt_add_right (Nat.lt_of_lt_of_le ((isN_var hv15 (by decide))).2.1 (by decide : 6 ≤ 6)) 2) hg2) ⟨va_cnB 1 B.1.2.2.2.2 gX1_keep_X0_copyFrom_n31 rfl rfl rfl (B.2.1.2 _ nl_X1_31) ki_X0 hd_X0_copyFrom.2 ⟨Nat.le_of_ble_eq_true rfl, Nat.le_of_ble_eq_true rfl⟩, kn_X0_copyFrom, kv_X0_copyFrom⟩ rfl hls (Nat.le_of_ble_eq_true rfl) dX1_keep_20 ⟨Nat.zero_le _, Nat.zero_le _⟩) (fun S_20 H locs he hW => ?_)
  have he_20 := he
  have zk := nm_at zk he_20
  refine lv_aload_n hx hb dX1_keep_23 rfl (lv_at hl 0 rfl) ?_
  refine x_get B hW hqh cC_h cls1 hin_X1 2 (by decide) (v := .int (S_20 hO 2)) rfl k_22 dX1_keep_24 ?_
  refine lv_bipush (v := 6) hx hb dX1_keep_27 (by decide) ?_
  refine lv_icmp_ge (tgt := 45) hx hb dX1_keep_29 (by decide) (fun c_29 => ?_) (fun c_29 => ?_)
  · have zk := zk.trans (if_pos c_29)
    refine lv_aload_n hx hb dX1_keep_45 rfl (lv_at hl 0 rfl) ?_
    refine lv_aload_n hx hb dX1_keep_46 rfl (lv_at hl 0 rfl) ?_
    refine x_get B hW hqh cC_h cls1 hin_X1 1 (by decide) (v := .int (S_20 hO 1)) rfl k_18 dX1_keep_47 ?_
    refine lv_iconst (v := 1) hx hb dX1_keep_50 (by decide) ?_
    refine lv_iadd hx hb dX1_keep_51 ?_
    refine lv_bipush (v := 6) hx hb dX1_keep_52 (by decide) ?_
    refine x_calli hW (x_runS B hW (As := [.int ((S_20 hO 1) + 1), .int 6]) (rest := .ref (ad hO) :: []) (c_J9_floorMod_7cf53 (D := D) (ad := ad) l _ S_20 ((S_20 hO 1) + 1) 6 (by decide)) (va_cwS 2 B.1.2.2.2.2 gX1_keep_J9_floorMod_7cf53 rfl rfl rfl hd_J9_floorMod_7cf53.2 ⟨Nat.le_of_ble_eq_true rfl, Nat.le_of_ble_eq_true rfl⟩) rfl hls (Nat.le_of_ble_eq_true rfl) dX1_keep_54 ⟨Nat.zero_le _, Nat.zero_le _⟩) (fun r_54 S_54 H locs he hW => ?_)
    obtain ⟨hr_54, hs⟩ := he
    rw [hs] at hW
    have zk := nm_at zk hr_54
    refine x_put B hW hqh cls1 hin_X1 1 (by decide) cC_h rfl (ty := .int) (by decide +kernel) rfl rfl (Nat.le_of_ble_eq_true rfl) (j := 1) pH_1 k_18 dX1_keep_57 (fun H locs S_57 he_57 hW => ?_)
    have zk := nm_at zk he_57
    exact x_vret B hW zk.symm dX1_keep_60
  · have zk := zk.trans (if_neg c_29)
    refine lv_aload_n hx hb dX1_keep_32 rfl (lv_at hl 0 rfl) ?_
    refine lv_dup hx hb dX1_keep_33 rfl ?_
    refine x_get B hW hqh cC_h cls1 hin_X1 2 (by decide) (v := .int (S_20 hO 2)) rfl k_22 dX1_keep_34 ?_
    refine lv_iconst (v := 1) hx hb dX1_keep_37 (by decide) ?_
    refine lv_iadd hx hb dX1_keep_38 ?_
    refine x_put B hW hqh cls1 hin_X1 2 (by decide) cC_h rfl (ty := .int) (by decide +kernel) rfl rfl (Nat.le_of_ble_eq_true rfl) (j := 2) pH_2 k_22 dX1_keep_39 (fun H locs S_39 he_39 hW => ?_)
    have zk := nm_at zk he_39
    refine lv_goto (tgt := 60) hx hb dX1_keep_42 (by decide) ?_
    exact x_vret B hW zk.symm dX1_keep_60

def x_X1_takeBack (S : vS) (g2 : Nat) : vS := if 0 < (S hO 2) then nm (st S hO 2 ((S hO 2) - 1)) (fun S_15 => nm (x_J9_floorMod_7cf53 S_15 ((S_15 hO 1) + (S_15 hO 2)) 6) (fun r_34 => nm (x_X0_copyFrom S_15 g2 (r_34.toNatClampNeg + 2)) (fun S_38 => S_38))) else S
theorem hd_X1_takeBack : yX1_takeBack.cls = RX1 ∧ yX1_takeBack.cls ≠ "java/lang/invoke/MethodHandle" ∧ yX1_takeBack.cls ≠ "java/lang/invoke/VarHandle" ∧ (parseMethodDescriptor yX1_takeBack.desc).map (fun d => d.parameters.length) = some 1 := by decide +kernel
set_option maxHeartbeats 4000000 in
set_option maxRecDepth 100000 in
theorem c_X1_takeBack {D : va_G} {ad : Nat → Nat} (l : Launch) (sz : Nat) (S : vS) (g2 : Nat) (hg2 : g2 < 8) : Met l yX1_takeBack wsX1_takeBack (rmD 3) (pW D 157 (cC D ad) ad sz S [.ref (ad hO), .ref (ad (gG g2))]) (va_Qv (fun (S1 : vS) => S1 = (x_X1_takeBack S g2)) (bW D 157 (cC D ad) ad (aW 157 ad sz)) (aW 157 ad sz)) 0 0 (aW 157 ad sz) := by
  refine x_met (own := RX1) (cc := cX1_takeBack) (maxL := 2) (ret := none) (Qc := fun A => va_Qv (fun (S1 : vS) => S1 = (x_X1_takeBack S g2)) (bW D 157 (cC D ad) ad A) A) rfl ⟨by decide +kernel, rfl, Nat.le_of_ble_eq_true rfl⟩ ?_
  intro p e s mm args below meth c A ls B hW hl hls
  have hx := B.1.1
  have hb := B.1.2.1
  have hin_X1 : ∀ w ∈ wsX10, w ∈ wsX1_takeBack := fun w h => List.mem_cons_of_mem _ (List.mem_append_left _ (List.mem_append_left _ (List.mem_append_right _ h)))
  have k_11 := B.1.2.2.2.2 (.fieldLink RX1 11 "JointLoans$History" "states" "[LJointLoans$Group;") (by decide +kernel)
  have k_18 := B.1.2.2.2.2 (.fieldLink RX1 18 "JointLoans$History" "oldest" "I") (by decide +kernel)
  have k_22 := B.1.2.2.2.2 (.fieldLink RX1 22 "JointLoans$History" "size" "I") (by decide +kernel)
  have ki_X0 := B.1.2.2.2.2 (.initialized RX0) (by decide +kernel)
  have kn_X0_copyFrom := B.1.2.2.2.2 (.instanceMethod yX0_copyFrom) (by decide +kernel)
  have kv_X0_copyFrom := B.1.2.2.2.2 (.selects RX0 yX0_copyFrom yX0_copyFrom) (by decide +kernel)
  have zk := x_X1_takeBack.eq_1 S g2
  have hl : lv_has ls 2 [(0, .ref (ad hO)), (1, .ref (ad (gG g2)))] := hl
  refine lv_aload_n hx hb dX1_takeBack_0 rfl (lv_at hl 0 rfl) ?_
  refine x_get B hW hqh cC_h cls1 hin_X1 2 (by decide) (v := .int (S hO 2)) rfl k_22 dX1_takeBack_1 ?_
  refine lv_if_gt (tgt := 8) hx hb dX1_takeBack_4 (by decide) (fun c_4 => ?_) (fun c_4 => ?_)
  · have zk := zk.trans (if_pos c_4)
    refine lv_aload_n hx hb dX1_takeBack_8 rfl (lv_at hl 0 rfl) ?_
    refine lv_dup hx hb dX1_takeBack_9 rfl ?_
    refine x_get B hW hqh cC_h cls1 hin_X1 2 (by decide) (v := .int (S hO 2)) rfl k_22 dX1_takeBack_10 ?_
    refine lv_iconst (v := 1) hx hb dX1_takeBack_13 (by decide) ?_
    refine lv_isub hx hb dX1_takeBack_14 ?_
    refine x_put B hW hqh cls1 hin_X1 2 (by decide) cC_h rfl (ty := .int) (by decide +kernel) rfl rfl (Nat.le_of_ble_eq_true rfl) (j := 2) pH_2 k_22 dX1_takeBack_15 (fun H locs S_15 he_15 hW => ?_)
    have zk := nm_at zk he_15
    refine lv_aload_n hx hb dX1_takeBack_18 rfl (lv_at hl 1 rfl) ?_
    refine lv_aload_n hx hb dX1_takeBack_19 rfl (lv_at hl 0 rfl) ?_
    refine x_get B hW hqh cC_h cls1 hin_X1 0 (by decide) (v := .ref (ad hA)) rfl k_11 dX1_takeBack_20 ?_
    refine lv_aload_n hx hb dX1_takeBack_23 rfl (lv_at hl 0 rfl) ?_
    refine x_get B hW hqh cC_h cls1 hin_X1 1 (by decide) (v := .int (S_15 hO 1)) rfl k_18 dX1_takeBack_24 ?_
    refine lv_aload_n hx hb dX1_takeBack_27 rfl (lv_at hl 0 rfl) ?_
    refine x_get B hW hqh cC_h cls1 hin_X1 2 (by decide) (v := .int (S_15 hO 2)) rfl k_22 dX1_takeBack_28 ?_
    refine lv_iadd hx hb dX1_takeBack_31 ?_
    refine lv_bipush (v := 6) hx hb dX1_takeBack_32 (by decide) ?_
    refine x_calli hW (x_runS B hW (As := [.int ((S_15 hO 1) + (S_15 hO 2)), .int 6]) (rest := .ref (ad hA) :: .ref (ad (gG g2)) :: []) (c_J9_floorMod_7cf53 (D := D) (ad := ad) l _ S_15 ((S_15 hO 1) + (S_15 hO 2)) 6 (by decide)) (va_cwS 2 B.1.2.2.2.2 gX1_takeBack_J9_floorMod_7cf53 rfl rfl rfl hd_J9_floorMod_7cf53.2 ⟨Nat.le_of_ble_eq_true rfl, Nat.le_of_ble_eq_true rfl⟩) rfl hls (Nat.le_of_ble_eq_true rfl) dX1_takeBack_34 ⟨Nat.zero_le _, Nat.zero_le _⟩) (fun r_34 S_34 H locs he hW => ?_)
    obtain ⟨hr_34, hs⟩ := he
    rw [hs] at hW
    have zk := nm_at zk hr_34
    have hv34 : vp_in r_34 6 := by rw [hr_34]; exact fmod6 _ _
    refine x_aald B hW hqa cC_a (k := 3) rfl (isN_var hv34 (by decide)) (by decide) (by decide) (v := .ref (ad (gG (r_34.toNatClampNeg + 2)))) rfl dX1_takeBack_37 ?_
    refine x_callv hW (x_runVN B hW (As := [.ref (ad (gG (r_34.toNatClampNeg + 2)))]) (rest := []) (host := RX4) (hqG hg2) (cC_G hg2) cls0 (c_X0_copyFrom (D := D) (ad := ad) l _ S_15 g2 (r_34.toNatClampNeg + 2) hg2 (Nat.add_lt_add_right (Nat.lt_of_lt_of_le ((isN_var hv34 (by decide))).2.1 (by decide : 6 ≤ 6)) 2)) ⟨va_cnB 1 B.1.2.2.2.2 gX1_takeBack_X0_copyFrom_n31 rfl rfl rfl (B.2.1.2 _ nl_X1_31) ki_X0 hd_X0_copyFrom.2 ⟨Nat.le_of_ble_eq_true rfl, Nat.le_of_ble_eq_true rfl⟩, kn_X0_copyFrom, kv_X0_copyFrom⟩ rfl hls (Nat.le_of_ble_eq_true rfl) dX1_takeBack_38 ⟨Nat.zero_le _, Nat.zero_le _⟩) (fun S_38 H locs he hW => ?_)
    have he_38 := he
    have zk := nm_at zk he_38
    exact x_vret B hW zk.symm dX1_takeBack_41
  · have zk := zk.trans (if_neg c_4)
    exact x_vret B hW zk.symm dX1_takeBack_7

end P22_history
