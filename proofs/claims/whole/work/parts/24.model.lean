section P24_model
def x_Jxe99ae_isNaN_b9ae7 (S : vS) (p1 : UInt64) : Int32 := if (Op.cmpValue (FP.dcmp p1 p1) .l) = 0 then 0 else 1
theorem hd_Jxe99ae_isNaN_b9ae7 : yJxe99ae_isNaN_b9ae7.cls = RJxe99ae ∧ yJxe99ae_isNaN_b9ae7.cls ≠ "java/lang/invoke/MethodHandle" ∧ yJxe99ae_isNaN_b9ae7.cls ≠ "java/lang/invoke/VarHandle" ∧ (parseMethodDescriptor yJxe99ae_isNaN_b9ae7.desc).map (fun d => d.parameters.length) = some 1 := by decide +kernel
set_option maxHeartbeats 4000000 in
set_option maxRecDepth 100000 in
theorem c_Jxe99ae_isNaN_b9ae7 {D : va_G} {ad : Nat → Nat} (l : Launch) (sz : Nat) (S : vS) (p1 : UInt64) : Met l yJxe99ae_isNaN_b9ae7 wsJxe99ae_isNaN_b9ae7 (rmD 0) (pW D 7 (cM D ad) ad sz S [.double p1]) (va_Qi (fun (r : Int32) (S1 : vS) => r = (x_Jxe99ae_isNaN_b9ae7 S p1) ∧ S1 = S ∧ (r = 0 ∨ r = 1)) (bW D 7 (cM D ad) ad (aW 7 ad sz)) (aW 7 ad sz)) 0 0 (aW 7 ad sz) := by
  refine x_met (own := RJxe99ae) (cc := cJxe99ae_isNaN_b9ae7) (maxL := 2) (ret := (some .boolean)) (Qc := fun A => va_Qi (fun (r : Int32) (S1 : vS) => r = (x_Jxe99ae_isNaN_b9ae7 S p1) ∧ S1 = S ∧ (r = 0 ∨ r = 1)) (bW D 7 (cM D ad) ad A) A) rfl ⟨by decide +kernel, rfl, Nat.le_of_ble_eq_true rfl⟩ ?_
  intro p e s mm args below meth c A ls B hW hl hls
  have hx := B.1.1
  have hb := B.1.2.1
  have zk := x_Jxe99ae_isNaN_b9ae7.eq_1 S p1
  have hl : lv_has ls 2 [(0, .double p1)] := hl
  refine lv_dload_n hx hb dJxe99ae_isNaN_b9ae7_0 rfl (lv_at hl 0 rfl) ?_
  refine lv_dload_n hx hb dJxe99ae_isNaN_b9ae7_1 rfl (lv_at hl 0 rfl) ?_
  refine lv_dcmp hx hb dJxe99ae_isNaN_b9ae7_2 ?_
  refine lv_if_eq (tgt := 10) hx hb dJxe99ae_isNaN_b9ae7_3 (by decide) (fun c_3 => ?_) (fun c_3 => ?_)
  · have zk := zk.trans (if_pos c_3)
    refine lv_iconst (v := 0) hx hb dJxe99ae_isNaN_b9ae7_10 (by decide) ?_
    exact x_zret B hW (Or.inl rfl) ⟨zk.symm, rfl, (Or.inl rfl)⟩ dJxe99ae_isNaN_b9ae7_11
  · have zk := zk.trans (if_neg c_3)
    refine lv_iconst (v := 1) hx hb dJxe99ae_isNaN_b9ae7_6 (by decide) ?_
    refine lv_goto (tgt := 11) hx hb dJxe99ae_isNaN_b9ae7_7 (by decide) ?_
    exact x_zret B hW (Or.inr rfl) ⟨zk.symm, rfl, (Or.inr rfl)⟩ dJxe99ae_isNaN_b9ae7_11

def x_Jxe99ae_doubleToLongBits_ccdee (S : vS) (p1 : UInt64) : Int64 := nm (x_Jxe99ae_isNaN_b9ae7 S p1) (fun r_1 => if r_1 = 0 then p1.toInt64 else 9221120237041090560)
theorem hd_Jxe99ae_doubleToLongBits_ccdee : yJxe99ae_doubleToLongBits_ccdee.cls = RJxe99ae ∧ yJxe99ae_doubleToLongBits_ccdee.cls ≠ "java/lang/invoke/MethodHandle" ∧ yJxe99ae_doubleToLongBits_ccdee.cls ≠ "java/lang/invoke/VarHandle" ∧ (parseMethodDescriptor yJxe99ae_doubleToLongBits_ccdee.desc).map (fun d => d.parameters.length) = some 1 := by decide +kernel
set_option maxHeartbeats 4000000 in
set_option maxRecDepth 100000 in
theorem c_Jxe99ae_doubleToLongBits_ccdee {D : va_G} {ad : Nat → Nat} (l : Launch) (sz : Nat) (S : vS) (p1 : UInt64) : Met l yJxe99ae_doubleToLongBits_ccdee wsJxe99ae_doubleToLongBits_ccdee (rmD 1) (pW D 7 (cM D ad) ad sz S [.double p1]) (va_Ql (fun (r : Int64) (S1 : vS) => r = (x_Jxe99ae_doubleToLongBits_ccdee S p1) ∧ S1 = S) (bW D 7 (cM D ad) ad (aW 7 ad sz)) (aW 7 ad sz)) 0 0 (aW 7 ad sz) := by
  refine x_met (own := RJxe99ae) (cc := cJxe99ae_doubleToLongBits_ccdee) (maxL := 2) (ret := (some .long)) (Qc := fun A => va_Ql (fun (r : Int64) (S1 : vS) => r = (x_Jxe99ae_doubleToLongBits_ccdee S p1) ∧ S1 = S) (bW D 7 (cM D ad) ad A) A) rfl ⟨by decide +kernel, rfl, Nat.le_of_ble_eq_true rfl⟩ ?_
  intro p e s mm args below meth c A ls B hW hl hls
  have hx := B.1.1
  have hb := B.1.2.1
  have kd_i := B.1.2.2.2.2 (.initialized "java/lang/Double") (by decide +kernel)
  have kd_l := B.1.2.2.2.2 (.methodLink RJxe99ae 134 ⟨"java/lang/Double", "doubleToRawLongBits", "(D)J"⟩) (by decide +kernel)
  have kd_n := B.1.2.2.2.2 (.native ⟨"java/lang/Double", "doubleToRawLongBits", "(D)J"⟩) (by decide +kernel)
  have kd_s := B.1.2.2.2.2 (.static ⟨"java/lang/Double", "doubleToRawLongBits", "(D)J"⟩) (by decide +kernel)
  have kk_137 := B.1.2.2.2.2 (.constantLong RJxe99ae 137 9221120237041090560) (by decide +kernel)
  have zk := x_Jxe99ae_doubleToLongBits_ccdee.eq_1 S p1
  have hl : lv_has ls 2 [(0, .double p1)] := hl
  refine lv_dload_n hx hb dJxe99ae_doubleToLongBits_ccdee_0 rfl (lv_at hl 0 rfl) ?_
  refine x_calli hW (x_runS B hW (As := [.double p1]) (rest := []) (c_Jxe99ae_isNaN_b9ae7 (D := D) (ad := ad) l _ S p1) (va_cwS 1 B.1.2.2.2.2 gJxe99ae_doubleToLongBits_ccdee_Jxe99ae_isNaN_b9ae7 rfl rfl rfl hd_Jxe99ae_isNaN_b9ae7.2 ⟨Nat.le_of_ble_eq_true rfl, Nat.le_of_ble_eq_true rfl⟩) rfl hls (Nat.le_of_ble_eq_true rfl) dJxe99ae_doubleToLongBits_ccdee_1 ⟨Nat.zero_le _, Nat.zero_le _⟩) (fun r_1 S_1 H locs he hW => ?_)
  obtain ⟨hr_1, hs, hz_1⟩ := he
  rw [hs] at hW
  have zk := nm_at zk hr_1
  refine lv_if_ne (tgt := 12) hx hb dJxe99ae_doubleToLongBits_ccdee_4 (by decide) (fun c_4 => ?_) (fun c_4 => ?_)
  · have zk := zk.trans (if_neg c_4)
    refine lv_ldc2 (v := 9221120237041090560) hx hb B.1.2.2.2.1 kk_137 dJxe99ae_doubleToLongBits_ccdee_12 ?_
    exact x_lret B hW ⟨zk.symm, rfl⟩ dJxe99ae_doubleToLongBits_ccdee_15
  · have zk := zk.trans (if_pos c_4)
    refine lv_dload_n hx hb dJxe99ae_doubleToLongBits_ccdee_7 rfl (lv_at hl 0 rfl) ?_
    refine vn_d2l hx hb (B.1.2.2.1.trans hls.symm) B.1.2.2.2.1 kd_l kd_n kd_s kd_i (Nat.le_of_ble_eq_true rfl) (Nat.le_of_ble_eq_true rfl) dJxe99ae_doubleToLongBits_ccdee_8 ?_
    exact x_lret B hW ⟨zk.symm, rfl⟩ dJxe99ae_doubleToLongBits_ccdee_11

def x_X5_thrown (S : vS) : Int32 := (S 0 6)
theorem hd_X5_thrown : yX5_thrown.cls = RX5 ∧ yX5_thrown.cls ≠ "java/lang/invoke/MethodHandle" ∧ yX5_thrown.cls ≠ "java/lang/invoke/VarHandle" ∧ (parseMethodDescriptor yX5_thrown.desc).map (fun d => d.parameters.length) = some 0 := by decide +kernel
set_option maxHeartbeats 4000000 in
set_option maxRecDepth 100000 in
theorem c_X5_thrown {D : va_G} {ad : Nat → Nat} (l : Launch) (sz : Nat) (S : vS) : Met l yX5_thrown wsX5_thrown (rmD 0) (pW D 7 (cM D ad) ad sz S [.ref (ad 0)]) (va_Qi (fun (r : Int32) (S1 : vS) => r = (x_X5_thrown S) ∧ S1 = S) (bW D 7 (cM D ad) ad (aW 7 ad sz)) (aW 7 ad sz)) 0 0 (aW 7 ad sz) := by
  refine x_met (own := RX5) (cc := cX5_thrown) (maxL := 1) (ret := (some .int)) (Qc := fun A => va_Qi (fun (r : Int32) (S1 : vS) => r = (x_X5_thrown S) ∧ S1 = S) (bW D 7 (cM D ad) ad A) A) rfl ⟨by decide +kernel, rfl, Nat.le_of_ble_eq_true rfl⟩ ?_
  intro p e s mm args below meth c A ls B hW hl hls
  have hx := B.1.1
  have hb := B.1.2.1
  have hin_X5 : ∀ w ∈ wsX50, w ∈ wsX5_thrown := fun w h => List.mem_cons_of_mem _ (List.mem_append_right _ h)
  have k_28 := B.1.2.2.2.2 (.fieldLink RX5 28 "JointLoansModel" "thrown" "I") (by decide +kernel)
  have zk := x_X5_thrown.eq_1 S
  have hl : lv_has ls 1 [(0, .ref (ad 0))] := hl
  refine lv_aload_n hx hb dX5_thrown_0 rfl (lv_at hl 0 rfl) ?_
  refine x_get B hW (by decide) cM_o cls5 hin_X5 6 (by decide) (v := .int (S 0 6)) rfl k_28 dX5_thrown_1 ?_
  exact x_iret B hW ⟨zk.symm, rfl⟩ dX5_thrown_4

def x_X5_fails (S : vS) (p1 : Int32) : (Int32 × vS) := nm (st S 0 6 p1) (fun S_2 => (0, S_2))
theorem hd_X5_fails : yX5_fails.cls = RX5 ∧ yX5_fails.cls ≠ "java/lang/invoke/MethodHandle" ∧ yX5_fails.cls ≠ "java/lang/invoke/VarHandle" ∧ (parseMethodDescriptor yX5_fails.desc).map (fun d => d.parameters.length) = some 1 := by decide +kernel
set_option maxHeartbeats 4000000 in
set_option maxRecDepth 100000 in
theorem c_X5_fails {D : va_G} {ad : Nat → Nat} (l : Launch) (sz : Nat) (S : vS) (p1 : Int32) : Met l yX5_fails wsX5_fails (rmD 0) (pW D 7 (cM D ad) ad sz S [.ref (ad 0), .int p1]) (va_Qi (fun (r : Int32) (S1 : vS) => (r, S1) = (x_X5_fails S p1)) (bW D 7 (cM D ad) ad (aW 7 ad sz)) (aW 7 ad sz)) 0 0 (aW 7 ad sz) := by
  refine x_met (own := RX5) (cc := cX5_fails) (maxL := 2) (ret := (some .int)) (Qc := fun A => va_Qi (fun (r : Int32) (S1 : vS) => (r, S1) = (x_X5_fails S p1)) (bW D 7 (cM D ad) ad A) A) rfl ⟨by decide +kernel, rfl, Nat.le_of_ble_eq_true rfl⟩ ?_
  intro p e s mm args below meth c A ls B hW hl hls
  have hx := B.1.1
  have hb := B.1.2.1
  have hin_X5 : ∀ w ∈ wsX50, w ∈ wsX5_fails := fun w h => List.mem_cons_of_mem _ (List.mem_append_right _ h)
  have k_28 := B.1.2.2.2.2 (.fieldLink RX5 28 "JointLoansModel" "thrown" "I") (by decide +kernel)
  have zk := x_X5_fails.eq_1 S p1
  have hl : lv_has ls 2 [(0, .ref (ad 0)), (1, .int p1)] := hl
  refine lv_aload_n hx hb dX5_fails_0 rfl (lv_at hl 0 rfl) ?_
  refine lv_iload_n hx hb dX5_fails_1 rfl (lv_at hl 1 rfl) ?_
  refine x_put B hW (by decide) cls5 hin_X5 6 (by decide) cM_o rfl (ty := .int) (by decide +kernel) rfl rfl (Nat.le_of_ble_eq_true rfl) (j := 6) pO_6 k_28 dX5_fails_2 (fun H locs S_2 he_2 hW => ?_)
  have zk := nm_at zk he_2
  refine lv_iconst (v := 0) hx hb dX5_fails_5 (by decide) ?_
  exact x_iret B hW zk.symm dX5_fails_6

def x_X5_in (S : vS) (p1 : Int32) (p2 : Int32) (p3 : Int32) : Int32 := if p1 < p2 then 0 else if p3 < p1 then 0 else 1
theorem hd_X5_in : yX5_in.cls = RX5 ∧ yX5_in.cls ≠ "java/lang/invoke/MethodHandle" ∧ yX5_in.cls ≠ "java/lang/invoke/VarHandle" ∧ (parseMethodDescriptor yX5_in.desc).map (fun d => d.parameters.length) = some 3 := by decide +kernel
set_option maxHeartbeats 4000000 in
set_option maxRecDepth 100000 in
theorem c_X5_in {D : va_G} {ad : Nat → Nat} (l : Launch) (sz : Nat) (S : vS) (p1 : Int32) (p2 : Int32) (p3 : Int32) : Met l yX5_in wsX5_in (rmD 0) (pW D 7 (cM D ad) ad sz S [.int p1, .int p2, .int p3]) (va_Qi (fun (r : Int32) (S1 : vS) => r = (x_X5_in S p1 p2 p3) ∧ S1 = S ∧ (r = 0 ∨ r = 1)) (bW D 7 (cM D ad) ad (aW 7 ad sz)) (aW 7 ad sz)) 0 0 (aW 7 ad sz) := by
  refine x_met (own := RX5) (cc := cX5_in) (maxL := 3) (ret := (some .boolean)) (Qc := fun A => va_Qi (fun (r : Int32) (S1 : vS) => r = (x_X5_in S p1 p2 p3) ∧ S1 = S ∧ (r = 0 ∨ r = 1)) (bW D 7 (cM D ad) ad A) A) rfl ⟨by decide +kernel, rfl, Nat.le_of_ble_eq_true rfl⟩ ?_
  intro p e s mm args below meth c A ls B hW hl hls
  have hx := B.1.1
  have hb := B.1.2.1
  have zk := x_X5_in.eq_1 S p1 p2 p3
  have hl : lv_has ls 3 [(0, .int p1), (1, .int p2), (2, .int p3)] := hl
  refine lv_iload_n hx hb dX5_in_0 rfl (lv_at hl 0 rfl) ?_
  refine lv_iload_n hx hb dX5_in_1 rfl (lv_at hl 1 rfl) ?_
  refine lv_icmp_lt (tgt := 14) hx hb dX5_in_2 (by decide) (fun c_2 => ?_) (fun c_2 => ?_)
  · have zk := zk.trans (if_pos c_2)
    refine lv_iconst (v := 0) hx hb dX5_in_14 (by decide) ?_
    exact x_zret B hW (Or.inl rfl) ⟨zk.symm, rfl, (Or.inl rfl)⟩ dX5_in_15
  · have zk := zk.trans (if_neg c_2)
    refine lv_iload_n hx hb dX5_in_5 rfl (lv_at hl 0 rfl) ?_
    refine lv_iload_n hx hb dX5_in_6 rfl (lv_at hl 2 rfl) ?_
    refine lv_icmp_gt (tgt := 14) hx hb dX5_in_7 (by decide) (fun c_7 => ?_) (fun c_7 => ?_)
    · have zk := zk.trans (if_pos c_7)
      refine lv_iconst (v := 0) hx hb dX5_in_14 (by decide) ?_
      exact x_zret B hW (Or.inl rfl) ⟨zk.symm, rfl, (Or.inl rfl)⟩ dX5_in_15
    · have zk := zk.trans (if_neg c_7)
      refine lv_iconst (v := 1) hx hb dX5_in_10 (by decide) ?_
      refine lv_goto (tgt := 15) hx hb dX5_in_11 (by decide) ?_
      exact x_zret B hW (Or.inr rfl) ⟨zk.symm, rfl, (Or.inr rfl)⟩ dX5_in_15
theorem in_iff (S : vS) (v a b : Int32) : x_X5_in S v a b = if a ≤ v ∧ v ≤ b then 1 else 0 := by
  unfold x_X5_in
  by_cases h1 : v < a
  · rw [if_pos h1, if_neg (fun q => absurd q.1 (Int32.not_le.mpr h1))]
  · rw [if_neg h1]
    by_cases h2 : b < v
    · rw [if_pos h2, if_neg (fun q => absurd q.2 (Int32.not_le.mpr h2))]
    · rw [if_neg h2, if_pos ⟨Int32.not_lt.mp h1, Int32.not_lt.mp h2⟩]
theorem in_vin {S : vS} {v r : Int32} {b : Nat} (hr : r = x_X5_in S v 0 (nI b)) (h : ¬ r = 0) (hb : b < 2 ^ 30 := by decide) : vp_in v (b + 1) := by
  rw [hr, in_iff] at h
  by_cases hc : 0 ≤ v ∧ v ≤ nI b
  · have h1 := Int32.le_iff_toInt_le.mp hc.1
    have h2 := Int32.le_iff_toInt_le.mp hc.2
    rw [nI_toInt (by omega)] at h2
    have z : (0 : Int32).toInt = 0 := by decide
    rw [vp_in_iff]
    omega
  · rw [if_neg hc] at h
    exact absurd rfl h

def x_X5_of (S : vS) (q : Nat) (p2 : Int32) (p3 : Int32) : Int32 := (S q ((13 + (14 * p2.toNatClampNeg)) + p3.toNatClampNeg))
theorem hd_X5_of : yX5_of.cls = RX5 ∧ yX5_of.cls ≠ "java/lang/invoke/MethodHandle" ∧ yX5_of.cls ≠ "java/lang/invoke/VarHandle" ∧ (parseMethodDescriptor yX5_of.desc).map (fun d => d.parameters.length) = some 3 := by decide +kernel
set_option maxHeartbeats 4000000 in
set_option maxRecDepth 100000 in
theorem c_X5_of {D : va_G} {ad : Nat → Nat} (l : Launch) (sz : Nat) (S : vS) (q : Nat) (p2 : Int32) (p3 : Int32) (hq : q = 1 ∨ q = 2) (h2 : vp_in p2 8) (h3 : vp_in p3 14) : Met l yX5_of wsX5_of (rmD 0) (pW D 7 (cM D ad) ad sz S [.ref (ad q), .int p2, .int p3]) (va_Qi (fun (r : Int32) (S1 : vS) => r = (x_X5_of S q p2 p3) ∧ S1 = S) (bW D 7 (cM D ad) ad (aW 7 ad sz)) (aW 7 ad sz)) 0 0 (aW 7 ad sz) := by
  refine x_met (own := RX5) (cc := cX5_of) (maxL := 3) (ret := (some .int)) (Qc := fun A => va_Qi (fun (r : Int32) (S1 : vS) => r = (x_X5_of S q p2 p3) ∧ S1 = S) (bW D 7 (cM D ad) ad A) A) rfl ⟨by decide +kernel, rfl, Nat.le_of_ble_eq_true rfl⟩ ?_
  intro p e s mm args below meth c A ls B hW hl hls
  have hx := B.1.1
  have hb := B.1.2.1
  have zk := x_X5_of.eq_1 S q p2 p3
  have hl : lv_has ls 3 [(0, .ref (ad q)), (1, .int p2), (2, .int p3)] := hl
  refine lv_aload_n hx hb dX5_of_0 rfl (lv_at hl 0 rfl) ?_
  refine lv_bipush (v := 13) hx hb dX5_of_1 (by decide) ?_
  refine lv_bipush (v := 14) hx hb dX5_of_3 (by decide) ?_
  refine lv_iload_n hx hb dX5_of_5 rfl (lv_at hl 1 rfl) ?_
  refine lv_imul hx hb dX5_of_6 ?_
  refine lv_iadd hx hb dX5_of_7 ?_
  refine lv_iload_n hx hb dX5_of_8 rfl (lv_at hl 2 rfl) ?_
  refine lv_iadd hx hb dX5_of_9 ?_
  refine x_iald B hW (hqq hq) (cM_q hq) (isN_add (isN_add (isN_lit 13 (by decide)) (isN_mul (isN_lit 14 (by decide)) (isN_var h2 (by decide)) (by decide)) (by decide)) (isN_var h3 (by decide)) (by decide)) (by decide) (by decide) dX5_of_10 ?_
  exact x_iret B hW ⟨zk.symm, rfl⟩ dX5_of_11

def x_X5_adds (S : vS) (q : Nat) (p2 : Int32) (p3 : Int32) (p4 : Int32) : vS := nm (st S q ((13 + (14 * p2.toNatClampNeg)) + p3.toNatClampNeg) ((S q ((13 + (14 * p2.toNatClampNeg)) + p3.toNatClampNeg)) + p4)) (fun S_14 => S_14)
theorem hd_X5_adds : yX5_adds.cls = RX5 ∧ yX5_adds.cls ≠ "java/lang/invoke/MethodHandle" ∧ yX5_adds.cls ≠ "java/lang/invoke/VarHandle" ∧ (parseMethodDescriptor yX5_adds.desc).map (fun d => d.parameters.length) = some 4 := by decide +kernel
set_option maxHeartbeats 4000000 in
set_option maxRecDepth 100000 in
theorem c_X5_adds {D : va_G} {ad : Nat → Nat} (l : Launch) (sz : Nat) (S : vS) (q : Nat) (p2 : Int32) (p3 : Int32) (p4 : Int32) (hq : q = 1 ∨ q = 2) (h2 : vp_in p2 8) (h3 : vp_in p3 14) : Met l yX5_adds wsX5_adds (rmD 0) (pW D 7 (cM D ad) ad sz S [.ref (ad q), .int p2, .int p3, .int p4]) (va_Qv (fun (S1 : vS) => S1 = (x_X5_adds S q p2 p3 p4)) (bW D 7 (cM D ad) ad (aW 7 ad sz)) (aW 7 ad sz)) 0 0 (aW 7 ad sz) := by
  refine x_met (own := RX5) (cc := cX5_adds) (maxL := 4) (ret := none) (Qc := fun A => va_Qv (fun (S1 : vS) => S1 = (x_X5_adds S q p2 p3 p4)) (bW D 7 (cM D ad) ad A) A) rfl ⟨by decide +kernel, rfl, Nat.le_of_ble_eq_true rfl⟩ ?_
  intro p e s mm args below meth c A ls B hW hl hls
  have hx := B.1.1
  have hb := B.1.2.1
  have zk := x_X5_adds.eq_1 S q p2 p3 p4
  have hl : lv_has ls 4 [(0, .ref (ad q)), (1, .int p2), (2, .int p3), (3, .int p4)] := hl
  refine lv_aload_n hx hb dX5_adds_0 rfl (lv_at hl 0 rfl) ?_
  refine lv_bipush (v := 13) hx hb dX5_adds_1 (by decide) ?_
  refine lv_bipush (v := 14) hx hb dX5_adds_3 (by decide) ?_
  refine lv_iload_n hx hb dX5_adds_5 rfl (lv_at hl 1 rfl) ?_
  refine lv_imul hx hb dX5_adds_6 ?_
  refine lv_iadd hx hb dX5_adds_7 ?_
  refine lv_iload_n hx hb dX5_adds_8 rfl (lv_at hl 2 rfl) ?_
  refine lv_iadd hx hb dX5_adds_9 ?_
  refine lv_dup2_11 hx hb dX5_adds_10 rfl rfl ?_
  refine x_iald B hW (hqq hq) (cM_q hq) (isN_add (isN_add (isN_lit 13 (by decide)) (isN_mul (isN_lit 14 (by decide)) (isN_var h2 (by decide)) (by decide)) (by decide)) (isN_var h3 (by decide)) (by decide)) (by decide) (by decide) dX5_adds_11 ?_
  refine lv_iload_n hx hb dX5_adds_12 rfl (lv_at hl 3 rfl) ?_
  refine lv_iadd hx hb dX5_adds_13 ?_
  refine x_iast B hW (hqq hq) (fun _ => (cM_q hq)) (isN_add (isN_add (isN_lit 13 (by decide)) (isN_mul (isN_lit 14 (by decide)) (isN_var h2 (by decide)) (by decide)) (by decide)) (isN_var h3 (by decide)) (by decide)) (by decide) (by decide) dX5_adds_14 (fun H locs S_14 he_14 hW => ?_)
  have zk := nm_at zk he_14
  exact x_vret B hW zk.symm dX5_adds_15
theorem e_adds (S : vS) (q : Nat) (p2 p3 p4 : Int32) : x_X5_adds S q p2 p3 p4 = st S q (13 + 14 * p2.toNatClampNeg + p3.toNatClampNeg) (S q (13 + 14 * p2.toNatClampNeg + p3.toNatClampNeg) + p4) := rfl
theorem fr_adds {S : vS} {q q0 j0 : Nat} {p2 p3 p4 : Int32} (h : q0 ≠ q ∨ j0 < 13) : x_X5_adds S q p2 p3 p4 q0 j0 = S q0 j0 := by
  rw [e_adds, st_at, if_neg (by rintro ⟨h1, h2⟩; omega)]
theorem EX.adds {S S1 : vS} {a b v : Int32} (h : EX S S1) : EX S (x_X5_adds S1 1 a b v) := by
  rw [e_adds]
  exact h.w (by omega)

def x_X5_isMember (S : vS) (p1 : Int32) : Int32 := nm (x_X5_in S p1 0 7) (fun r_4 => if r_4 = 0 then 0 else nm (x_X5_of S 1 p1 0) (fun r_16 => if r_16 = 1 then 1 else 0))
theorem hd_X5_isMember : yX5_isMember.cls = RX5 ∧ yX5_isMember.cls ≠ "java/lang/invoke/MethodHandle" ∧ yX5_isMember.cls ≠ "java/lang/invoke/VarHandle" ∧ (parseMethodDescriptor yX5_isMember.desc).map (fun d => d.parameters.length) = some 1 := by decide +kernel
set_option maxHeartbeats 4000000 in
set_option maxRecDepth 100000 in
theorem c_X5_isMember {D : va_G} {ad : Nat → Nat} (l : Launch) (sz : Nat) (S : vS) (p1 : Int32) : Met l yX5_isMember wsX5_isMember (rmD 1) (pW D 7 (cM D ad) ad sz S [.ref (ad 0), .int p1]) (va_Qi (fun (r : Int32) (S1 : vS) => r = (x_X5_isMember S p1) ∧ S1 = S ∧ (r = 0 ∨ r = 1)) (bW D 7 (cM D ad) ad (aW 7 ad sz)) (aW 7 ad sz)) 0 0 (aW 7 ad sz) := by
  refine x_met (own := RX5) (cc := cX5_isMember) (maxL := 2) (ret := (some .boolean)) (Qc := fun A => va_Qi (fun (r : Int32) (S1 : vS) => r = (x_X5_isMember S p1) ∧ S1 = S ∧ (r = 0 ∨ r = 1)) (bW D 7 (cM D ad) ad A) A) rfl ⟨by decide +kernel, rfl, Nat.le_of_ble_eq_true rfl⟩ ?_
  intro p e s mm args below meth c A ls B hW hl hls
  have hx := B.1.1
  have hb := B.1.2.1
  have hin_X5 : ∀ w ∈ wsX50, w ∈ wsX5_isMember := fun w h => List.mem_cons_of_mem _ (List.mem_append_right _ h)
  have k_7 := B.1.2.2.2.2 (.fieldLink RX5 7 "JointLoansModel" "now" "[I") (by decide +kernel)
  have zk := x_X5_isMember.eq_1 S p1
  have hl : lv_has ls 2 [(0, .ref (ad 0)), (1, .int p1)] := hl
  refine lv_iload_n hx hb dX5_isMember_0 rfl (lv_at hl 1 rfl) ?_
  refine lv_iconst (v := 0) hx hb dX5_isMember_1 (by decide) ?_
  refine lv_bipush (v := 7) hx hb dX5_isMember_2 (by decide) ?_
  refine x_calli hW (x_runS B hW (As := [.int p1, .int 0, .int 7]) (rest := []) (c_X5_in (D := D) (ad := ad) l _ S p1 0 7) (va_cwS 3 B.1.2.2.2.2 gX5_isMember_X5_in rfl rfl rfl hd_X5_in.2 ⟨Nat.le_of_ble_eq_true rfl, Nat.le_of_ble_eq_true rfl⟩) rfl hls (Nat.le_of_ble_eq_true rfl) dX5_isMember_4 ⟨Nat.zero_le _, Nat.zero_le _⟩) (fun r_4 S_4 H locs he hW => ?_)
  obtain ⟨hr_4, hs, hz_4⟩ := he
  rw [hs] at hW
  have zk := nm_at zk hr_4
  refine lv_if_eq (tgt := 27) hx hb dX5_isMember_7 (by decide) (fun c_7 => ?_) (fun c_7 => ?_)
  · have zk := zk.trans (if_pos c_7)
    refine lv_iconst (v := 0) hx hb dX5_isMember_27 (by decide) ?_
    exact x_zret B hW (Or.inl rfl) ⟨zk.symm, rfl, (Or.inl rfl)⟩ dX5_isMember_28
  · have zk := zk.trans (if_neg c_7)
    refine lv_aload_n hx hb dX5_isMember_10 rfl (lv_at hl 0 rfl) ?_
    refine x_get B hW (by decide) cM_o cls5 hin_X5 0 (by decide) (v := .ref (ad 1)) rfl k_7 dX5_isMember_11 ?_
    refine lv_iload_n hx hb dX5_isMember_14 rfl (lv_at hl 1 rfl) ?_
    refine lv_iconst (v := 0) hx hb dX5_isMember_15 (by decide) ?_
    refine x_calli hW (x_runS B hW (As := [.ref (ad 1), .int p1, .int 0]) (rest := []) (c_X5_of (D := D) (ad := ad) l _ S 1 p1 0 (Or.inl rfl) (isN_vin (isN_var (in_vin hr_4 c_7) (by decide)) (by decide) (by decide)) (isN_vin (isN_lit 0 (by decide)) (by decide) (by decide))) (va_cwS 3 B.1.2.2.2.2 gX5_isMember_X5_of rfl rfl rfl hd_X5_of.2 ⟨Nat.le_of_ble_eq_true rfl, Nat.le_of_ble_eq_true rfl⟩) rfl hls (Nat.le_of_ble_eq_true rfl) dX5_isMember_16 ⟨Nat.zero_le _, Nat.zero_le _⟩) (fun r_16 S_16 H locs he hW => ?_)
    obtain ⟨hr_16, hs⟩ := he
    rw [hs] at hW
    have zk := nm_at zk hr_16
    refine lv_iconst (v := 1) hx hb dX5_isMember_19 (by decide) ?_
    refine lv_icmp_ne (tgt := 27) hx hb dX5_isMember_20 (by decide) (fun c_20 => ?_) (fun c_20 => ?_)
    · have zk := zk.trans (if_neg c_20)
      refine lv_iconst (v := 0) hx hb dX5_isMember_27 (by decide) ?_
      exact x_zret B hW (Or.inl rfl) ⟨zk.symm, rfl, (Or.inl rfl)⟩ dX5_isMember_28
    · have zk := zk.trans (if_pos c_20)
      refine lv_iconst (v := 1) hx hb dX5_isMember_23 (by decide) ?_
      refine lv_goto (tgt := 28) hx hb dX5_isMember_24 (by decide) ?_
      exact x_zret B hW (Or.inr rfl) ⟨zk.symm, rfl, (Or.inr rfl)⟩ dX5_isMember_28
theorem ismem_vin {S : vS} {v r : Int32} (hr : r = x_X5_isMember S v) (h : ¬ r = 0) : vp_in v 8 := by
  rw [hr] at h
  unfold x_X5_isMember at h
  try simp only [nm_eq, nmp_eq] at h
  by_cases hc : x_X5_in S v 0 7 = 0
  · rw [if_pos hc] at h
    exact absurd rfl h
  · exact in_vin (b := 7) rfl hc

def x_X5_saves_L52 : Nat → vS → Nat → vS
  | 0, S, _ => S
  | n + 1, S, n1 => if 189 ≤ (nI n1) then nm (st S 0 3 ((S 0 3) + 1)) (fun S_93 => S_93) else nm (st S 3 ((189 * (S 0 3).toNatClampNeg) + n1) (S 1 n1)) (fun S_79 => x_X5_saves_L52 n S_79 ((n1 + 1)))
def x_X5_saves_L11 : Nat → vS → Nat → vS
  | 0, S, _ => S
  | n + 1, S, n1 => if 945 ≤ (nI n1) then nm (st S 0 3 ((S 0 3) - 1)) (fun S_47 => x_X5_saves_L52 (190) S_47 (0)) else nm (st S 3 n1 (S 3 (n1 + 189))) (fun S_33 => x_X5_saves_L11 n S_33 ((n1 + 1)))
def x_X5_saves (S : vS) : vS := if (S 0 3) = 6 then x_X5_saves_L11 (946) S (0) else x_X5_saves_L52 (190) S (0)
theorem hd_X5_saves : yX5_saves.cls = RX5 ∧ yX5_saves.cls ≠ "java/lang/invoke/MethodHandle" ∧ yX5_saves.cls ≠ "java/lang/invoke/VarHandle" ∧ (parseMethodDescriptor yX5_saves.desc).map (fun d => d.parameters.length) = some 0 := by decide +kernel
set_option maxHeartbeats 4000000 in
set_option maxRecDepth 100000 in
theorem w_X5_saves_L52 {D : va_G} {ad : Nat → Nat} (l : Launch) {p : Program} {e : Env} {s : State} {mm : MethodId} {args : Array Value} {below : List Frame} {meth : Method} {c : Code} {A : Nat → Prop} (B : Cx p mm c cX5_saves 2 s args wsX5_saves RX5 meth none D) (z : vS) : ∀ (n : Nat) (n1 : Nat) (S : vS) (H : Heap) (locs : List Loc) (ls : Array Slot), n1 ≤ 189 → n1 + n = 190 → vp_in (S 0 3) 6 → Wd D 7 (cM D ad) ad A s.heap S H locs → lv_has ls 2 [(1, .int (nI n1)), (0, .ref (ad 0))] → ls.size = 2 → z = x_X5_saves_L52 n S n1 → W p l e (rmD 0) s mm args below meth c H locs 0 0 (MQ below (va_Qv (fun (S1 : vS) => S1 = z) (bW D 7 (cM D ad) ad A) A) args s 0 0 A) (F0 mm 52 ls []) := by
  have hx := B.1.1
  have hb := B.1.2.1
  have hin_X5 : ∀ w ∈ wsX50, w ∈ wsX5_saves := fun w h => List.mem_cons_of_mem _ (List.mem_append_right _ h)
  have k_16 := B.1.2.2.2.2 (.fieldLink RX5 16 "JointLoansModel" "past" "[I") (by decide +kernel)
  have k_40 := B.1.2.2.2.2 (.fieldLink RX5 40 "JointLoansModel" "kept" "I") (by decide +kernel)
  have k_7 := B.1.2.2.2.2 (.fieldLink RX5 7 "JointLoansModel" "now" "[I") (by decide +kernel)
  intro n
  induction n with
  | zero =>
    intro n1 S H locs ls hle hsum hkp5
    omega
  | succ n ih =>
    intro n1 S H locs ls hle hsum hkp5 hW hl hls zk
    have zk := zk.trans (x_X5_saves_L52.eq_2 _ _ _ )
    refine lv_iload_n hx hb dX5_saves_52 rfl (lv_at hl 0 rfl) ?_
    refine lv_sipush (v := 189) hx hb dX5_saves_53 (by decide) ?_
    refine lv_icmp_ge (tgt := 86) hx hb dX5_saves_56 (by decide) (fun c_56 => ?_) (fun c_56 => ?_)
    · have zk := zk.trans (if_pos c_56)
      refine lv_aload_n hx hb dX5_saves_86 rfl (lv_at hl 1 rfl) ?_
      refine lv_dup hx hb dX5_saves_87 rfl ?_
      refine x_get B hW (by decide) cM_o cls5 hin_X5 3 (by decide) (v := .int (S 0 3)) rfl k_40 dX5_saves_88 ?_
      refine lv_iconst (v := 1) hx hb dX5_saves_91 (by decide) ?_
      refine lv_iadd hx hb dX5_saves_92 ?_
      refine x_put B hW (by decide) cls5 hin_X5 3 (by decide) cM_o rfl (ty := .int) (by decide +kernel) rfl rfl (Nat.le_of_ble_eq_true rfl) (j := 3) pO_3 k_40 dX5_saves_93 (fun H locs S_93 he_93 hW => ?_)
      have zk := nm_at zk he_93
      have hf_S_93_0_3_7 : vp_in (S_93 0 3) 7 := by rw [he_93, st_at, if_pos ⟨rfl, rfl⟩]; exact isN_vin (isN_add (isN_var hkp5 (by decide)) (isN_lit 1 (by decide)) (by decide)) (by decide) (by decide)
      exact x_vret B hW zk.symm dX5_saves_96
    · have zk := zk.trans (if_neg c_56)
      have hb_c_56 : n1 < 189 := nI_of_nle (by decide) c_56 (by omega)
      refine lv_aload_n hx hb dX5_saves_59 rfl (lv_at hl 1 rfl) ?_
      refine x_get B hW (by decide) cM_o cls5 hin_X5 2 (by decide) (v := .ref (ad 3)) rfl k_16 dX5_saves_60 ?_
      refine lv_sipush (v := 189) hx hb dX5_saves_63 (by decide) ?_
      refine lv_aload_n hx hb dX5_saves_66 rfl (lv_at hl 1 rfl) ?_
      refine x_get B hW (by decide) cM_o cls5 hin_X5 3 (by decide) (v := .int (S 0 3)) rfl k_40 dX5_saves_67 ?_
      refine lv_imul hx hb dX5_saves_70 ?_
      refine lv_iload_n hx hb dX5_saves_71 rfl (lv_at hl 0 rfl) ?_
      refine lv_iadd hx hb dX5_saves_72 ?_
      refine lv_aload_n hx hb dX5_saves_73 rfl (lv_at hl 1 rfl) ?_
      refine x_get B hW (by decide) cM_o cls5 hin_X5 0 (by decide) (v := .ref (ad 1)) rfl k_7 dX5_saves_74 ?_
      refine lv_iload_n hx hb dX5_saves_77 rfl (lv_at hl 0 rfl) ?_
      refine x_iald B hW (by decide) cM_1 (isN_nI hb_c_56 (by decide)) (by decide) (by decide) dX5_saves_78 ?_
      refine x_iast B hW (by decide) (fun _ => cM_3) (isN_add (isN_mul (isN_lit 189 (by decide)) (isN_var hkp5 (by decide)) (by decide)) (isN_nI hb_c_56 (by decide)) (by decide)) (by decide) (by decide) dX5_saves_79 (fun H locs S_79 he_79 hW => ?_)
      have zk := nm_at zk he_79
      have hf_S_79_0_3_6 : vp_in (S_79 0 3) 6 := by rw [he_79, st_at, if_neg (by rintro ⟨h1, h2⟩; omega)]; exact hkp5
      refine lv_iinc (v := (nI (n1 + 1))) (lv' := [(1, .int (nI (n1 + 1))), (0, .ref (ad 0))]) hx hb dX5_saves_80 hl (k := 0) rfl (nI_1 _) (by decide) rfl (fun ls hl => ?_)
      have hls := hl.1
      refine lv_goto (tgt := 52) hx hb dX5_saves_83 (by decide) ?_
      exact ih ((n1 + 1)) S_79 _ _ _ (show (n1 + 1) ≤ 189 by omega) (show (n1 + 1) + n = 190 by omega) (isN_vin (isN_var hf_S_79_0_3_6 (by decide)) (by decide) (by decide)) hW (lv_sub hl [0, 1] rfl) hls zk
set_option maxHeartbeats 4000000 in
set_option maxRecDepth 100000 in
theorem w_X5_saves_L11 {D : va_G} {ad : Nat → Nat} (l : Launch) {p : Program} {e : Env} {s : State} {mm : MethodId} {args : Array Value} {below : List Frame} {meth : Method} {c : Code} {A : Nat → Prop} (B : Cx p mm c cX5_saves 2 s args wsX5_saves RX5 meth none D) (z : vS) : ∀ (n : Nat) (n1 : Nat) (S : vS) (H : Heap) (locs : List Loc) (ls : Array Slot), n1 ≤ 945 → n1 + n = 946 → (S 0 3) = 6 → Wd D 7 (cM D ad) ad A s.heap S H locs → lv_has ls 2 [(1, .int (nI n1)), (0, .ref (ad 0))] → ls.size = 2 → z = x_X5_saves_L11 n S n1 → W p l e (rmD 0) s mm args below meth c H locs 0 0 (MQ below (va_Qv (fun (S1 : vS) => S1 = z) (bW D 7 (cM D ad) ad A) A) args s 0 0 A) (F0 mm 11 ls []) := by
  have hx := B.1.1
  have hb := B.1.2.1
  have hin_X5 : ∀ w ∈ wsX50, w ∈ wsX5_saves := fun w h => List.mem_cons_of_mem _ (List.mem_append_right _ h)
  have k_16 := B.1.2.2.2.2 (.fieldLink RX5 16 "JointLoansModel" "past" "[I") (by decide +kernel)
  have k_40 := B.1.2.2.2.2 (.fieldLink RX5 40 "JointLoansModel" "kept" "I") (by decide +kernel)
  have k_7 := B.1.2.2.2.2 (.fieldLink RX5 7 "JointLoansModel" "now" "[I") (by decide +kernel)
  intro n
  induction n with
  | zero =>
    intro n1 S H locs ls hle hsum hk6
    omega
  | succ n ih =>
    intro n1 S H locs ls hle hsum hk6 hW hl hls zk
    have zk := zk.trans (x_X5_saves_L11.eq_2 _ _ _ )
    refine lv_iload_n hx hb dX5_saves_11 rfl (lv_at hl 0 rfl) ?_
    refine lv_sipush (v := 945) hx hb dX5_saves_12 (by decide) ?_
    refine lv_icmp_ge (tgt := 40) hx hb dX5_saves_15 (by decide) (fun c_15 => ?_) (fun c_15 => ?_)
    · have zk := zk.trans (if_pos c_15)
      refine lv_aload_n hx hb dX5_saves_40 rfl (lv_at hl 1 rfl) ?_
      refine lv_dup hx hb dX5_saves_41 rfl ?_
      refine x_get B hW (by decide) cM_o cls5 hin_X5 3 (by decide) (v := .int (S 0 3)) rfl k_40 dX5_saves_42 ?_
      refine lv_iconst (v := 1) hx hb dX5_saves_45 (by decide) ?_
      refine lv_isub hx hb dX5_saves_46 ?_
      refine x_put B hW (by decide) cls5 hin_X5 3 (by decide) cM_o rfl (ty := .int) (by decide +kernel) rfl rfl (Nat.le_of_ble_eq_true rfl) (j := 3) pO_3 k_40 dX5_saves_47 (fun H locs S_47 he_47 hW => ?_)
      have zk := nm_at zk he_47
      have hf_S_47_0_3_6 : vp_in (S_47 0 3) 6 := by rw [he_47, st_at, if_pos ⟨rfl, rfl⟩]; exact isN_vin (isN_var (vin_eqpred (n := 5) hk6) (by decide)) (by decide) (by decide)
      refine lv_iconst (v := 0) hx hb dX5_saves_50 (by decide) ?_
      refine lv_istore_n (lv' := [(1, .int 0), (0, .ref (ad 0))]) hx hb dX5_saves_51 rfl hl (by decide) rfl (fun ls hl => ?_)
      have hls := hl.1
      exact w_X5_saves_L52 l B  _  (190) (0) S_47 _ _ _ (show 0 ≤ 189 by omega) (show 0 + (190) = 190 by omega) (isN_vin (isN_var hf_S_47_0_3_6 (by decide)) (by decide) (by decide)) hW (lv_sub hl [0, 1] rfl) hls zk
    · have zk := zk.trans (if_neg c_15)
      have hb_c_15 : n1 < 945 := nI_of_nle (by decide) c_15 (by omega)
      refine lv_aload_n hx hb dX5_saves_18 rfl (lv_at hl 1 rfl) ?_
      refine x_get B hW (by decide) cM_o cls5 hin_X5 2 (by decide) (v := .ref (ad 3)) rfl k_16 dX5_saves_19 ?_
      refine lv_iload_n hx hb dX5_saves_22 rfl (lv_at hl 0 rfl) ?_
      refine lv_aload_n hx hb dX5_saves_23 rfl (lv_at hl 1 rfl) ?_
      refine x_get B hW (by decide) cM_o cls5 hin_X5 2 (by decide) (v := .ref (ad 3)) rfl k_16 dX5_saves_24 ?_
      refine lv_iload_n hx hb dX5_saves_27 rfl (lv_at hl 0 rfl) ?_
      refine lv_sipush (v := 189) hx hb dX5_saves_28 (by decide) ?_
      refine lv_iadd hx hb dX5_saves_31 ?_
      refine x_iald B hW (by decide) cM_3 (isN_add (isN_nI hb_c_15 (by decide)) (isN_lit 189 (by decide)) (by decide)) (by decide) (by decide) dX5_saves_32 ?_
      refine x_iast B hW (by decide) (fun _ => cM_3) (isN_nI hb_c_15 (by decide)) (by decide) (by decide) dX5_saves_33 (fun H locs S_33 he_33 hW => ?_)
      have zk := nm_at zk he_33
      have hf_S_33_0_3_6 : (S_33 0 3) = 6 := by rw [he_33, st_at, if_neg (by rintro ⟨h1, h2⟩; omega)]; exact hk6
      refine lv_iinc (v := (nI (n1 + 1))) (lv' := [(1, .int (nI (n1 + 1))), (0, .ref (ad 0))]) hx hb dX5_saves_34 hl (k := 0) rfl (nI_1 _) (by decide) rfl (fun ls hl => ?_)
      have hls := hl.1
      refine lv_goto (tgt := 11) hx hb dX5_saves_37 (by decide) ?_
      exact ih ((n1 + 1)) S_33 _ _ _ (show (n1 + 1) ≤ 945 by omega) (show (n1 + 1) + n = 946 by omega) hf_S_33_0_3_6 hW (lv_sub hl [0, 1] rfl) hls zk
set_option maxHeartbeats 4000000 in
set_option maxRecDepth 100000 in
theorem c_X5_saves {D : va_G} {ad : Nat → Nat} (l : Launch) (sz : Nat) (S : vS) (hkp : vp_in (S 0 3) 7) : Met l yX5_saves wsX5_saves (rmD 0) (pW D 7 (cM D ad) ad sz S [.ref (ad 0)]) (va_Qv (fun (S1 : vS) => S1 = (x_X5_saves S)) (bW D 7 (cM D ad) ad (aW 7 ad sz)) (aW 7 ad sz)) 0 0 (aW 7 ad sz) := by
  refine x_met (own := RX5) (cc := cX5_saves) (maxL := 2) (ret := none) (Qc := fun A => va_Qv (fun (S1 : vS) => S1 = (x_X5_saves S)) (bW D 7 (cM D ad) ad A) A) rfl ⟨by decide +kernel, rfl, Nat.le_of_ble_eq_true rfl⟩ ?_
  intro p e s mm args below meth c A ls B hW hl hls
  have hx := B.1.1
  have hb := B.1.2.1
  have hin_X5 : ∀ w ∈ wsX50, w ∈ wsX5_saves := fun w h => List.mem_cons_of_mem _ (List.mem_append_right _ h)
  have k_16 := B.1.2.2.2.2 (.fieldLink RX5 16 "JointLoansModel" "past" "[I") (by decide +kernel)
  have k_40 := B.1.2.2.2.2 (.fieldLink RX5 40 "JointLoansModel" "kept" "I") (by decide +kernel)
  have k_7 := B.1.2.2.2.2 (.fieldLink RX5 7 "JointLoansModel" "now" "[I") (by decide +kernel)
  have zk := x_X5_saves.eq_1 S
  have hl : lv_has ls 2 [(0, .ref (ad 0))] := hl
  refine lv_aload_n hx hb dX5_saves_0 rfl (lv_at hl 0 rfl) ?_
  refine x_get B hW (by decide) cM_o cls5 hin_X5 3 (by decide) (v := .int (S 0 3)) rfl k_40 dX5_saves_1 ?_
  refine lv_bipush (v := 6) hx hb dX5_saves_4 (by decide) ?_
  refine lv_icmp_ne (tgt := 50) hx hb dX5_saves_6 (by decide) (fun c_6 => ?_) (fun c_6 => ?_)
  · have zk := zk.trans (if_neg c_6)
    refine lv_iconst (v := 0) hx hb dX5_saves_50 (by decide) ?_
    refine lv_istore_n (lv' := [(1, .int 0), (0, .ref (ad 0))]) hx hb dX5_saves_51 rfl hl (by decide) rfl (fun ls hl => ?_)
    have hls := hl.1
    exact w_X5_saves_L52 l B  _  (190) (0) S _ _ _ (show 0 ≤ 189 by omega) (show 0 + (190) = 190 by omega) (isN_vin (isN_var (vin_ne hkp c_6) (by decide)) (by decide) (by decide)) hW (lv_sub hl [0, 1] rfl) hls zk
  · have zk := zk.trans (if_pos c_6)
    refine lv_iconst (v := 0) hx hb dX5_saves_9 (by decide) ?_
    refine lv_istore_n (lv' := [(1, .int 0), (0, .ref (ad 0))]) hx hb dX5_saves_10 rfl hl (by decide) rfl (fun ls hl => ?_)
    have hls := hl.1
    exact w_X5_saves_L11 l B  _  (946) (0) S _ _ _ (show 0 ≤ 945 by omega) (show 0 + (946) = 946 by omega) c_6 hW (lv_sub hl [0, 1] rfl) hls zk
theorem fr_saves_L52 {q0 j0 : Nat} (h : q0 ≠ 3 ∧ (q0 ≠ 0 ∨ j0 ≠ 3)) : ∀ (n : Nat) (S : vS) (k : Nat), x_X5_saves_L52 n S k q0 j0 = S q0 j0 := by
  intro n
  induction n with
  | zero => intro S k; rfl
  | succ n ih =>
    intro S k
    rw [x_X5_saves_L52]
    try simp only [nm_eq, nmp_eq]
    split
    · rw [st_at, if_neg (by rintro ⟨h1, h2⟩; omega)]
    · rw [ih, st_at, if_neg (by rintro ⟨h1, h2⟩; omega)]
theorem fr_saves_L11 {q0 j0 : Nat} (h : q0 ≠ 3 ∧ (q0 ≠ 0 ∨ j0 ≠ 3)) : ∀ (n : Nat) (S : vS) (k : Nat), x_X5_saves_L11 n S k q0 j0 = S q0 j0 := by
  intro n
  induction n with
  | zero => intro S k; rfl
  | succ n ih =>
    intro S k
    rw [x_X5_saves_L11]
    by_cases c : 945 ≤ nI k
    · rw [if_pos c, nm_eq, fr_saves_L52 h, st_at, if_neg (by rintro ⟨h1, h2⟩; omega)]
    · rw [if_neg c, nm_eq, ih, st_at, if_neg (by rintro ⟨h1, h2⟩; omega)]
theorem fr_saves {S : vS} {q0 j0 : Nat} (h : q0 ≠ 3 ∧ (q0 ≠ 0 ∨ j0 ≠ 3)) : x_X5_saves S q0 j0 = S q0 j0 := by
  unfold x_X5_saves
  split
  · exact fr_saves_L11 h _ _ _
  · exact fr_saves_L52 h _ _ _

def x_X5_undo_L30 : Nat → vS → Nat → (Int32 × vS)
  | 0, S, _ => (0, S)
  | n + 1, S, n1 => if 189 ≤ (nI n1) then ((S 0 3), S) else nm (st S 1 n1 (S 3 ((189 * (S 0 3).toNatClampNeg) + n1))) (fun S_57 => x_X5_undo_L30 n S_57 ((n1 + 1)))
def x_X5_undo (S : vS) : (Int32 × vS) := nm (st S 0 6 0) (fun S_2 => if (S_2 0 3) = 0 then nmp (x_X5_fails S_2 1) (fun r_14 S_14 => (r_14, S_14)) else nm (st S_2 0 3 ((S_2 0 3) - 1)) (fun S_25 => x_X5_undo_L30 (190) S_25 (0)))
theorem hd_X5_undo : yX5_undo.cls = RX5 ∧ yX5_undo.cls ≠ "java/lang/invoke/MethodHandle" ∧ yX5_undo.cls ≠ "java/lang/invoke/VarHandle" ∧ (parseMethodDescriptor yX5_undo.desc).map (fun d => d.parameters.length) = some 0 := by decide +kernel
set_option maxHeartbeats 4000000 in
set_option maxRecDepth 100000 in
theorem w_X5_undo_L30 {D : va_G} {ad : Nat → Nat} (l : Launch) {p : Program} {e : Env} {s : State} {mm : MethodId} {args : Array Value} {below : List Frame} {meth : Method} {c : Code} {A : Nat → Prop} (B : Cx p mm c cX5_undo 2 s args wsX5_undo RX5 meth (some .int) D) (z : (Int32 × vS)) : ∀ (n : Nat) (n1 : Nat) (S : vS) (H : Heap) (locs : List Loc) (ls : Array Slot), n1 ≤ 189 → n1 + n = 190 → vp_in (S 0 3) 6 → Wd D 7 (cM D ad) ad A s.heap S H locs → lv_has ls 2 [(1, .int (nI n1)), (0, .ref (ad 0))] → ls.size = 2 → z = x_X5_undo_L30 n S n1 → W p l e (rmD 1) s mm args below meth c H locs 0 0 (MQ below (va_Qi (fun (r : Int32) (S1 : vS) => (r, S1) = z) (bW D 7 (cM D ad) ad A) A) args s 0 0 A) (F0 mm 30 ls []) := by
  have hx := B.1.1
  have hb := B.1.2.1
  have hin_X5 : ∀ w ∈ wsX50, w ∈ wsX5_undo := fun w h => List.mem_cons_of_mem _ (List.mem_append_right _ h)
  have k_16 := B.1.2.2.2.2 (.fieldLink RX5 16 "JointLoansModel" "past" "[I") (by decide +kernel)
  have k_28 := B.1.2.2.2.2 (.fieldLink RX5 28 "JointLoansModel" "thrown" "I") (by decide +kernel)
  have k_40 := B.1.2.2.2.2 (.fieldLink RX5 40 "JointLoansModel" "kept" "I") (by decide +kernel)
  have k_7 := B.1.2.2.2.2 (.fieldLink RX5 7 "JointLoansModel" "now" "[I") (by decide +kernel)
  intro n
  induction n with
  | zero =>
    intro n1 S H locs ls hle hsum hkp5
    omega
  | succ n ih =>
    intro n1 S H locs ls hle hsum hkp5 hW hl hls zk
    have zk := zk.trans (x_X5_undo_L30.eq_2 _ _ _ )
    refine lv_iload_n hx hb dX5_undo_30 rfl (lv_at hl 0 rfl) ?_
    refine lv_sipush (v := 189) hx hb dX5_undo_31 (by decide) ?_
    refine lv_icmp_ge (tgt := 64) hx hb dX5_undo_34 (by decide) (fun c_34 => ?_) (fun c_34 => ?_)
    · have zk := zk.trans (if_pos c_34)
      refine lv_aload_n hx hb dX5_undo_64 rfl (lv_at hl 1 rfl) ?_
      refine x_get B hW (by decide) cM_o cls5 hin_X5 3 (by decide) (v := .int (S 0 3)) rfl k_40 dX5_undo_65 ?_
      exact x_iret B hW zk.symm dX5_undo_68
    · have zk := zk.trans (if_neg c_34)
      have hb_c_34 : n1 < 189 := nI_of_nle (by decide) c_34 (by omega)
      refine lv_aload_n hx hb dX5_undo_37 rfl (lv_at hl 1 rfl) ?_
      refine x_get B hW (by decide) cM_o cls5 hin_X5 0 (by decide) (v := .ref (ad 1)) rfl k_7 dX5_undo_38 ?_
      refine lv_iload_n hx hb dX5_undo_41 rfl (lv_at hl 0 rfl) ?_
      refine lv_aload_n hx hb dX5_undo_42 rfl (lv_at hl 1 rfl) ?_
      refine x_get B hW (by decide) cM_o cls5 hin_X5 2 (by decide) (v := .ref (ad 3)) rfl k_16 dX5_undo_43 ?_
      refine lv_sipush (v := 189) hx hb dX5_undo_46 (by decide) ?_
      refine lv_aload_n hx hb dX5_undo_49 rfl (lv_at hl 1 rfl) ?_
      refine x_get B hW (by decide) cM_o cls5 hin_X5 3 (by decide) (v := .int (S 0 3)) rfl k_40 dX5_undo_50 ?_
      refine lv_imul hx hb dX5_undo_53 ?_
      refine lv_iload_n hx hb dX5_undo_54 rfl (lv_at hl 0 rfl) ?_
      refine lv_iadd hx hb dX5_undo_55 ?_
      refine x_iald B hW (by decide) cM_3 (isN_add (isN_mul (isN_lit 189 (by decide)) (isN_var hkp5 (by decide)) (by decide)) (isN_nI hb_c_34 (by decide)) (by decide)) (by decide) (by decide) dX5_undo_56 ?_
      refine x_iast B hW (by decide) (fun _ => cM_1) (isN_nI hb_c_34 (by decide)) (by decide) (by decide) dX5_undo_57 (fun H locs S_57 he_57 hW => ?_)
      have zk := nm_at zk he_57
      have hf_S_57_0_3_6 : vp_in (S_57 0 3) 6 := by rw [he_57, st_at, if_neg (by rintro ⟨h1, h2⟩; omega)]; exact hkp5
      refine lv_iinc (v := (nI (n1 + 1))) (lv' := [(1, .int (nI (n1 + 1))), (0, .ref (ad 0))]) hx hb dX5_undo_58 hl (k := 0) rfl (nI_1 _) (by decide) rfl (fun ls hl => ?_)
      have hls := hl.1
      refine lv_goto (tgt := 30) hx hb dX5_undo_61 (by decide) ?_
      exact ih ((n1 + 1)) S_57 _ _ _ (show (n1 + 1) ≤ 189 by omega) (show (n1 + 1) + n = 190 by omega) (isN_vin (isN_var hf_S_57_0_3_6 (by decide)) (by decide) (by decide)) hW (lv_sub hl [0, 1] rfl) hls zk
set_option maxHeartbeats 4000000 in
set_option maxRecDepth 100000 in
theorem c_X5_undo {D : va_G} {ad : Nat → Nat} (l : Launch) (sz : Nat) (S : vS) (hkp : vp_in (S 0 3) 7) : Met l yX5_undo wsX5_undo (rmD 1) (pW D 7 (cM D ad) ad sz S [.ref (ad 0)]) (va_Qi (fun (r : Int32) (S1 : vS) => (r, S1) = (x_X5_undo S)) (bW D 7 (cM D ad) ad (aW 7 ad sz)) (aW 7 ad sz)) 0 0 (aW 7 ad sz) := by
  refine x_met (own := RX5) (cc := cX5_undo) (maxL := 2) (ret := (some .int)) (Qc := fun A => va_Qi (fun (r : Int32) (S1 : vS) => (r, S1) = (x_X5_undo S)) (bW D 7 (cM D ad) ad A) A) rfl ⟨by decide +kernel, rfl, Nat.le_of_ble_eq_true rfl⟩ ?_
  intro p e s mm args below meth c A ls B hW hl hls
  have hx := B.1.1
  have hb := B.1.2.1
  have hin_X5 : ∀ w ∈ wsX50, w ∈ wsX5_undo := fun w h => List.mem_cons_of_mem _ (List.mem_append_right _ h)
  have k_16 := B.1.2.2.2.2 (.fieldLink RX5 16 "JointLoansModel" "past" "[I") (by decide +kernel)
  have k_28 := B.1.2.2.2.2 (.fieldLink RX5 28 "JointLoansModel" "thrown" "I") (by decide +kernel)
  have k_40 := B.1.2.2.2.2 (.fieldLink RX5 40 "JointLoansModel" "kept" "I") (by decide +kernel)
  have k_7 := B.1.2.2.2.2 (.fieldLink RX5 7 "JointLoansModel" "now" "[I") (by decide +kernel)
  have zk := x_X5_undo.eq_1 S
  have hl : lv_has ls 2 [(0, .ref (ad 0))] := hl
  refine lv_aload_n hx hb dX5_undo_0 rfl (lv_at hl 0 rfl) ?_
  refine lv_iconst (v := 0) hx hb dX5_undo_1 (by decide) ?_
  refine x_put B hW (by decide) cls5 hin_X5 6 (by decide) cM_o rfl (ty := .int) (by decide +kernel) rfl rfl (Nat.le_of_ble_eq_true rfl) (j := 6) pO_6 k_28 dX5_undo_2 (fun H locs S_2 he_2 hW => ?_)
  have zk := nm_at zk he_2
  have hf_S_2_0_3_7 : vp_in (S_2 0 3) 7 := by rw [he_2, st_at, if_neg (by rintro ⟨h1, h2⟩; omega)]; exact hkp
  have hf_S_2_0_6_1 : vp_in (S_2 0 6) 1 := by rw [he_2, st_at, if_pos ⟨rfl, rfl⟩]; exact isN_vin (isN_lit 0 (by decide)) (by decide) (by decide)
  refine lv_aload_n hx hb dX5_undo_5 rfl (lv_at hl 0 rfl) ?_
  refine x_get B hW (by decide) cM_o cls5 hin_X5 3 (by decide) (v := .int (S_2 0 3)) rfl k_40 dX5_undo_6 ?_
  refine lv_if_ne (tgt := 18) hx hb dX5_undo_9 (by decide) (fun c_9 => ?_) (fun c_9 => ?_)
  · have zk := zk.trans (if_neg c_9)
    refine lv_aload_n hx hb dX5_undo_18 rfl (lv_at hl 0 rfl) ?_
    refine lv_dup hx hb dX5_undo_19 rfl ?_
    refine x_get B hW (by decide) cM_o cls5 hin_X5 3 (by decide) (v := .int (S_2 0 3)) rfl k_40 dX5_undo_20 ?_
    refine lv_iconst (v := 1) hx hb dX5_undo_23 (by decide) ?_
    refine lv_isub hx hb dX5_undo_24 ?_
    refine x_put B hW (by decide) cls5 hin_X5 3 (by decide) cM_o rfl (ty := .int) (by decide +kernel) rfl rfl (Nat.le_of_ble_eq_true rfl) (j := 3) pO_3 k_40 dX5_undo_25 (fun H locs S_25 he_25 hW => ?_)
    have zk := nm_at zk he_25
    have hf_S_25_0_6_1 : vp_in (S_25 0 6) 1 := by rw [he_25, st_at, if_neg (by rintro ⟨h1, h2⟩; omega)]; exact hf_S_2_0_6_1
    have hf_S_25_0_3_6 : vp_in (S_25 0 3) 6 := by rw [he_25, st_at, if_pos ⟨rfl, rfl⟩]; exact isN_vin (isN_var (vin_pred hf_S_2_0_3_7 c_9) (by decide)) (by decide) (by decide)
    refine lv_iconst (v := 0) hx hb dX5_undo_28 (by decide) ?_
    refine lv_istore_n (lv' := [(1, .int 0), (0, .ref (ad 0))]) hx hb dX5_undo_29 rfl hl (by decide) rfl (fun ls hl => ?_)
    have hls := hl.1
    exact w_X5_undo_L30 l B  _  (190) (0) S_25 _ _ _ (show 0 ≤ 189 by omega) (show 0 + (190) = 190 by omega) (isN_vin (isN_var hf_S_25_0_3_6 (by decide)) (by decide) (by decide)) hW (lv_sub hl [0, 1] rfl) hls zk
  · have zk := zk.trans (if_pos c_9)
    refine lv_aload_n hx hb dX5_undo_12 rfl (lv_at hl 0 rfl) ?_
    refine lv_iconst (v := 1) hx hb dX5_undo_13 (by decide) ?_
    refine x_calli hW (x_runV B hW (As := [.int 1]) (rest := []) (by decide) cM_o cls5 (c_X5_fails (D := D) (ad := ad) l _ S_2 1) (cwV 1 B.1.2.2.2.2 gX5_undo_X5_fails rfl rfl rfl hd_X5_fails ⟨Nat.le_of_ble_eq_true rfl, Nat.le_of_ble_eq_true rfl⟩) rfl hls (Nat.le_of_ble_eq_true rfl) dX5_undo_14 ⟨Nat.zero_le _, Nat.zero_le _⟩) (fun r_14 S_14 H locs he hW => ?_)
    have hr_14 := he
    have zk := nmp_at zk hr_14
    have he_14 : S_14 = (x_X5_fails S_2 1).2 := by rw [← hr_14]
    exact x_iret B hW zk.symm dX5_undo_17

def x_X5_tries_L2 : Nat → vS → Nat → vS
  | 0, S, _ => S
  | n + 1, S, n1 => if 189 ≤ (nI n1) then S else nm (st S 2 n1 (S 1 n1)) (fun S_20 => x_X5_tries_L2 n S_20 ((n1 + 1)))
def x_X5_tries (S : vS) : vS := x_X5_tries_L2 (190) S (0)
theorem hd_X5_tries : yX5_tries.cls = RX5 ∧ yX5_tries.cls ≠ "java/lang/invoke/MethodHandle" ∧ yX5_tries.cls ≠ "java/lang/invoke/VarHandle" ∧ (parseMethodDescriptor yX5_tries.desc).map (fun d => d.parameters.length) = some 0 := by decide +kernel
set_option maxHeartbeats 4000000 in
set_option maxRecDepth 100000 in
theorem w_X5_tries_L2 {D : va_G} {ad : Nat → Nat} (l : Launch) {p : Program} {e : Env} {s : State} {mm : MethodId} {args : Array Value} {below : List Frame} {meth : Method} {c : Code} {A : Nat → Prop} (B : Cx p mm c cX5_tries 2 s args wsX5_tries RX5 meth none D) (z : vS) : ∀ (n : Nat) (n1 : Nat) (S : vS) (H : Heap) (locs : List Loc) (ls : Array Slot), n1 ≤ 189 → n1 + n = 190 → Wd D 7 (cM D ad) ad A s.heap S H locs → lv_has ls 2 [(1, .int (nI n1)), (0, .ref (ad 0))] → ls.size = 2 → z = x_X5_tries_L2 n S n1 → W p l e (rmD 0) s mm args below meth c H locs 0 0 (MQ below (va_Qv (fun (S1 : vS) => S1 = z) (bW D 7 (cM D ad) ad A) A) args s 0 0 A) (F0 mm 2 ls []) := by
  have hx := B.1.1
  have hb := B.1.2.1
  have hin_X5 : ∀ w ∈ wsX50, w ∈ wsX5_tries := fun w h => List.mem_cons_of_mem _ (List.mem_append_right _ h)
  have k_13 := B.1.2.2.2.2 (.fieldLink RX5 13 "JointLoansModel" "then" "[I") (by decide +kernel)
  have k_7 := B.1.2.2.2.2 (.fieldLink RX5 7 "JointLoansModel" "now" "[I") (by decide +kernel)
  intro n
  induction n with
  | zero =>
    intro n1 S H locs ls hle hsum
    omega
  | succ n ih =>
    intro n1 S H locs ls hle hsum hW hl hls zk
    have zk := zk.trans (x_X5_tries_L2.eq_2 _ _ _ )
    refine lv_iload_n hx hb dX5_tries_2 rfl (lv_at hl 0 rfl) ?_
    refine lv_sipush (v := 189) hx hb dX5_tries_3 (by decide) ?_
    refine lv_icmp_ge (tgt := 27) hx hb dX5_tries_6 (by decide) (fun c_6 => ?_) (fun c_6 => ?_)
    · have zk := zk.trans (if_pos c_6)
      exact x_vret B hW zk.symm dX5_tries_27
    · have zk := zk.trans (if_neg c_6)
      have hb_c_6 : n1 < 189 := nI_of_nle (by decide) c_6 (by omega)
      refine lv_aload_n hx hb dX5_tries_9 rfl (lv_at hl 1 rfl) ?_
      refine x_get B hW (by decide) cM_o cls5 hin_X5 1 (by decide) (v := .ref (ad 2)) rfl k_13 dX5_tries_10 ?_
      refine lv_iload_n hx hb dX5_tries_13 rfl (lv_at hl 0 rfl) ?_
      refine lv_aload_n hx hb dX5_tries_14 rfl (lv_at hl 1 rfl) ?_
      refine x_get B hW (by decide) cM_o cls5 hin_X5 0 (by decide) (v := .ref (ad 1)) rfl k_7 dX5_tries_15 ?_
      refine lv_iload_n hx hb dX5_tries_18 rfl (lv_at hl 0 rfl) ?_
      refine x_iald B hW (by decide) cM_1 (isN_nI hb_c_6 (by decide)) (by decide) (by decide) dX5_tries_19 ?_
      refine x_iast B hW (by decide) (fun _ => cM_2) (isN_nI hb_c_6 (by decide)) (by decide) (by decide) dX5_tries_20 (fun H locs S_20 he_20 hW => ?_)
      have zk := nm_at zk he_20
      refine lv_iinc (v := (nI (n1 + 1))) (lv' := [(1, .int (nI (n1 + 1))), (0, .ref (ad 0))]) hx hb dX5_tries_21 hl (k := 0) rfl (nI_1 _) (by decide) rfl (fun ls hl => ?_)
      have hls := hl.1
      refine lv_goto (tgt := 2) hx hb dX5_tries_24 (by decide) ?_
      exact ih ((n1 + 1)) S_20 _ _ _ (show (n1 + 1) ≤ 189 by omega) (show (n1 + 1) + n = 190 by omega) hW (lv_sub hl [0, 1] rfl) hls zk
set_option maxHeartbeats 4000000 in
set_option maxRecDepth 100000 in
theorem c_X5_tries {D : va_G} {ad : Nat → Nat} (l : Launch) (sz : Nat) (S : vS) : Met l yX5_tries wsX5_tries (rmD 0) (pW D 7 (cM D ad) ad sz S [.ref (ad 0)]) (va_Qv (fun (S1 : vS) => S1 = (x_X5_tries S)) (bW D 7 (cM D ad) ad (aW 7 ad sz)) (aW 7 ad sz)) 0 0 (aW 7 ad sz) := by
  refine x_met (own := RX5) (cc := cX5_tries) (maxL := 2) (ret := none) (Qc := fun A => va_Qv (fun (S1 : vS) => S1 = (x_X5_tries S)) (bW D 7 (cM D ad) ad A) A) rfl ⟨by decide +kernel, rfl, Nat.le_of_ble_eq_true rfl⟩ ?_
  intro p e s mm args below meth c A ls B hW hl hls
  have hx := B.1.1
  have hb := B.1.2.1
  have hin_X5 : ∀ w ∈ wsX50, w ∈ wsX5_tries := fun w h => List.mem_cons_of_mem _ (List.mem_append_right _ h)
  have k_13 := B.1.2.2.2.2 (.fieldLink RX5 13 "JointLoansModel" "then" "[I") (by decide +kernel)
  have k_7 := B.1.2.2.2.2 (.fieldLink RX5 7 "JointLoansModel" "now" "[I") (by decide +kernel)
  have zk := x_X5_tries.eq_1 S
  have hl : lv_has ls 2 [(0, .ref (ad 0))] := hl
  refine lv_iconst (v := 0) hx hb dX5_tries_0 (by decide) ?_
  refine lv_istore_n (lv' := [(1, .int 0), (0, .ref (ad 0))]) hx hb dX5_tries_1 rfl hl (by decide) rfl (fun ls hl => ?_)
  have hls := hl.1
  exact w_X5_tries_L2 l B  _  (190) (0) S _ _ _ (show 0 ≤ 189 by omega) (show 0 + (190) = 190 by omega) hW (lv_sub hl [0, 1] rfl) hls zk
theorem tries_L {j : Nat} : ∀ (n : Nat) (S : vS) (k : Nat), k + n = 190 → (x_X5_tries_L2 n S k 2 j = if k ≤ j ∧ j < 189 then S 1 j else S 2 j) ∧ ∀ q, q ≠ 2 → x_X5_tries_L2 n S k q j = S q j := by
  intro n
  induction n with
  | zero => intro S k h; exact ⟨by rw [if_neg (by omega)]; rfl, fun _ _ => rfl⟩
  | succ n ih =>
    intro S k h
    rw [x_X5_tries_L2]
    try simp only [nm_eq, nmp_eq]
    by_cases c : 189 ≤ nI k
    · have hk := (nI_leI (a := 189) (b := k) (by decide) (by omega)).mp c
      rw [if_pos c, if_neg (by omega)]
      exact ⟨rfl, fun _ _ => rfl⟩
    · have hk := nI_of_nle (a := k) (b := 189) (by decide) c (by omega)
      rw [if_neg c]
      obtain ⟨i1, i2⟩ := ih (st S 2 k (S 1 k)) (k + 1) (by omega)
      refine ⟨?_, fun q hq => ?_⟩
      · rw [i1, st_at, st_at, if_neg (by omega : ¬ (1 = 2 ∧ j = k))]
        by_cases e : j = k
        · rw [if_neg (by omega), if_pos ⟨rfl, e⟩, if_pos (by omega), e]
        · rw [if_neg (show ¬ (2 = 2 ∧ j = k) from fun z => e z.2)]
          by_cases e2 : k + 1 ≤ j ∧ j < 189
          · rw [if_pos e2, if_pos (by omega)]
          · rw [if_neg e2, if_neg (by omega)]
      · rw [i2 q hq, st_at, if_neg (fun z => hq z.1)]
theorem tries_row {S : vS} {j : Nat} (hj : j < 189) : x_X5_tries S 2 j = S 1 j := by
  have := (tries_L (j := j) 190 S 0 (by decide)).1
  rw [if_pos (by omega)] at this
  exact this
theorem fr_tries {S : vS} {q j : Nat} (hq : q ≠ 2) : x_X5_tries S q j = S q j := (tries_L 190 S 0 (by decide)).2 q hq

def x_X5_debt (S : vS) (q : Nat) (p2 : Int32) (p3 : Int32) : Int32 := (S q ((125 + (8 * p2.toNatClampNeg)) + p3.toNatClampNeg))
theorem hd_X5_debt : yX5_debt.cls = RX5 ∧ yX5_debt.cls ≠ "java/lang/invoke/MethodHandle" ∧ yX5_debt.cls ≠ "java/lang/invoke/VarHandle" ∧ (parseMethodDescriptor yX5_debt.desc).map (fun d => d.parameters.length) = some 3 := by decide +kernel
set_option maxHeartbeats 4000000 in
set_option maxRecDepth 100000 in
theorem c_X5_debt {D : va_G} {ad : Nat → Nat} (l : Launch) (sz : Nat) (S : vS) (q : Nat) (p2 : Int32) (p3 : Int32) (hq : q = 1 ∨ q = 2) (h2 : vp_in p2 8) (h3 : vp_in p3 8) : Met l yX5_debt wsX5_debt (rmD 0) (pW D 7 (cM D ad) ad sz S [.ref (ad q), .int p2, .int p3]) (va_Qi (fun (r : Int32) (S1 : vS) => r = (x_X5_debt S q p2 p3) ∧ S1 = S) (bW D 7 (cM D ad) ad (aW 7 ad sz)) (aW 7 ad sz)) 0 0 (aW 7 ad sz) := by
  refine x_met (own := RX5) (cc := cX5_debt) (maxL := 3) (ret := (some .int)) (Qc := fun A => va_Qi (fun (r : Int32) (S1 : vS) => r = (x_X5_debt S q p2 p3) ∧ S1 = S) (bW D 7 (cM D ad) ad A) A) rfl ⟨by decide +kernel, rfl, Nat.le_of_ble_eq_true rfl⟩ ?_
  intro p e s mm args below meth c A ls B hW hl hls
  have hx := B.1.1
  have hb := B.1.2.1
  have zk := x_X5_debt.eq_1 S q p2 p3
  have hl : lv_has ls 3 [(0, .ref (ad q)), (1, .int p2), (2, .int p3)] := hl
  refine lv_aload_n hx hb dX5_debt_0 rfl (lv_at hl 0 rfl) ?_
  refine lv_bipush (v := 125) hx hb dX5_debt_1 (by decide) ?_
  refine lv_bipush (v := 8) hx hb dX5_debt_3 (by decide) ?_
  refine lv_iload_n hx hb dX5_debt_5 rfl (lv_at hl 1 rfl) ?_
  refine lv_imul hx hb dX5_debt_6 ?_
  refine lv_iadd hx hb dX5_debt_7 ?_
  refine lv_iload_n hx hb dX5_debt_8 rfl (lv_at hl 2 rfl) ?_
  refine lv_iadd hx hb dX5_debt_9 ?_
  refine x_iald B hW (hqq hq) (cM_q hq) (isN_add (isN_add (isN_lit 125 (by decide)) (isN_mul (isN_lit 8 (by decide)) (isN_var h2 (by decide)) (by decide)) (by decide)) (isN_var h3 (by decide)) (by decide)) (by decide) (by decide) dX5_debt_10 ?_
  exact x_iret B hW ⟨zk.symm, rfl⟩ dX5_debt_11

def x_X5_toOthers_L4 : Nat → vS → Nat → Int32 → Nat → Int32 → Int32
  | 0, S, _, _, _, _ => 0
  | n + 1, S, q, p2, n3, v2 => if 8 ≤ (nI n3) then v2 else nm (x_X5_debt S q p2 (nI n3)) (fun r_14 => nm ((v2 + r_14)) (fun x_18 => x_X5_toOthers_L4 n S q p2 ((n3 + 1)) (x_18)))
def x_X5_toOthers (S : vS) (q : Nat) (p2 : Int32) : Int32 := x_X5_toOthers_L4 (9) S q p2 (0) (0)
theorem hd_X5_toOthers : yX5_toOthers.cls = RX5 ∧ yX5_toOthers.cls ≠ "java/lang/invoke/MethodHandle" ∧ yX5_toOthers.cls ≠ "java/lang/invoke/VarHandle" ∧ (parseMethodDescriptor yX5_toOthers.desc).map (fun d => d.parameters.length) = some 2 := by decide +kernel
set_option maxHeartbeats 4000000 in
set_option maxRecDepth 100000 in
theorem w_X5_toOthers_L4 {D : va_G} {ad : Nat → Nat} (l : Launch) {p : Program} {e : Env} {s : State} {mm : MethodId} {args : Array Value} {below : List Frame} {meth : Method} {c : Code} {A : Nat → Prop} (B : Cx p mm c cX5_toOthers 4 s args wsX5_toOthers RX5 meth (some .int) D) (S : vS) (z : Int32) (q : Nat) (p2 : Int32) (hq : q = 1 ∨ q = 2) (h2 : vp_in p2 8) : ∀ (n : Nat) (n3 : Nat) (v2 : Int32) (H : Heap) (locs : List Loc) (ls : Array Slot), n3 ≤ 8 → n3 + n = 9 → Wd D 7 (cM D ad) ad A s.heap S H locs → lv_has ls 4 [(3, .int (nI n3)), (2, .int v2), (0, .ref (ad q)), (1, .int p2)] → ls.size = 4 → z = x_X5_toOthers_L4 n S q p2 n3 v2 → W p l e (rmD 1) s mm args below meth c H locs 0 0 (MQ below (va_Qi (fun (r : Int32) (S1 : vS) => r = z ∧ S1 = S) (bW D 7 (cM D ad) ad A) A) args s 0 0 A) (F0 mm 4 ls []) := by
  have hx := B.1.1
  have hb := B.1.2.1
  intro n
  induction n with
  | zero =>
    intro n3 v2 H locs ls hle hsum
    omega
  | succ n ih =>
    intro n3 v2 H locs ls hle hsum hW hl hls zk
    have zk := zk.trans (x_X5_toOthers_L4.eq_2 _ _ _ _ _ _ )
    refine lv_iload_n hx hb dX5_toOthers_4 rfl (lv_at hl 0 rfl) ?_
    refine lv_bipush (v := 8) hx hb dX5_toOthers_5 (by decide) ?_
    refine lv_icmp_ge (tgt := 25) hx hb dX5_toOthers_7 (by decide) (fun c_7 => ?_) (fun c_7 => ?_)
    · have zk := zk.trans (if_pos c_7)
      refine lv_iload_n hx hb dX5_toOthers_25 rfl (lv_at hl 1 rfl) ?_
      exact x_iret B hW ⟨zk.symm, rfl⟩ dX5_toOthers_26
    · have zk := zk.trans (if_neg c_7)
      have hb_c_7 : n3 < 8 := nI_of_nle (by decide) c_7 (by omega)
      refine lv_iload_n hx hb dX5_toOthers_10 rfl (lv_at hl 1 rfl) ?_
      refine lv_aload_n hx hb dX5_toOthers_11 rfl (lv_at hl 2 rfl) ?_
      refine lv_iload_n hx hb dX5_toOthers_12 rfl (lv_at hl 3 rfl) ?_
      refine lv_iload_n hx hb dX5_toOthers_13 rfl (lv_at hl 0 rfl) ?_
      refine x_calli hW (x_runS B hW (As := [.ref (ad q), .int p2, .int (nI n3)]) (rest := .int v2 :: []) (c_X5_debt (D := D) (ad := ad) l _ S q p2 (nI n3) hq h2 (isN_vin (isN_nI hb_c_7 (by decide)) (by decide) (by decide))) (va_cwS 3 B.1.2.2.2.2 gX5_toOthers_X5_debt rfl rfl rfl hd_X5_debt.2 ⟨Nat.le_of_ble_eq_true rfl, Nat.le_of_ble_eq_true rfl⟩) rfl hls (Nat.le_of_ble_eq_true rfl) dX5_toOthers_14 ⟨Nat.zero_le _, Nat.zero_le _⟩) (fun r_14 S_14 H locs he hW => ?_)
      obtain ⟨hr_14, hs⟩ := he
      rw [hs] at hW
      have zk := nm_at zk hr_14
      refine lv_iadd hx hb dX5_toOthers_17 ?_
      refine lv_topi (fun x_18 ex_18 => ?_)
      have zk := nm_at zk ex_18
      refine lv_istore_n (lv' := [(2, .int x_18), (3, .int (nI n3)), (0, .ref (ad q)), (1, .int p2)]) hx hb dX5_toOthers_18 rfl hl (by decide) rfl (fun ls hl => ?_)
      have hls := hl.1
      refine lv_iinc (v := (nI (n3 + 1))) (lv' := [(3, .int (nI (n3 + 1))), (2, .int x_18), (0, .ref (ad q)), (1, .int p2)]) hx hb dX5_toOthers_19 hl (k := 1) rfl (nI_1 _) (by decide) rfl (fun ls hl => ?_)
      have hls := hl.1
      refine lv_goto (tgt := 4) hx hb dX5_toOthers_22 (by decide) ?_
      exact ih ((n3 + 1)) (x_18)  _ _ _ (show (n3 + 1) ≤ 8 by omega) (show (n3 + 1) + n = 9 by omega) hW (lv_sub hl [0, 1, 2, 3] rfl) hls zk
set_option maxHeartbeats 4000000 in
set_option maxRecDepth 100000 in
theorem c_X5_toOthers {D : va_G} {ad : Nat → Nat} (l : Launch) (sz : Nat) (S : vS) (q : Nat) (p2 : Int32) (hq : q = 1 ∨ q = 2) (h2 : vp_in p2 8) : Met l yX5_toOthers wsX5_toOthers (rmD 1) (pW D 7 (cM D ad) ad sz S [.ref (ad q), .int p2]) (va_Qi (fun (r : Int32) (S1 : vS) => r = (x_X5_toOthers S q p2) ∧ S1 = S) (bW D 7 (cM D ad) ad (aW 7 ad sz)) (aW 7 ad sz)) 0 0 (aW 7 ad sz) := by
  refine x_met (own := RX5) (cc := cX5_toOthers) (maxL := 4) (ret := (some .int)) (Qc := fun A => va_Qi (fun (r : Int32) (S1 : vS) => r = (x_X5_toOthers S q p2) ∧ S1 = S) (bW D 7 (cM D ad) ad A) A) rfl ⟨by decide +kernel, rfl, Nat.le_of_ble_eq_true rfl⟩ ?_
  intro p e s mm args below meth c A ls B hW hl hls
  have hx := B.1.1
  have hb := B.1.2.1
  have zk := x_X5_toOthers.eq_1 S q p2
  have hl : lv_has ls 4 [(0, .ref (ad q)), (1, .int p2)] := hl
  refine lv_iconst (v := 0) hx hb dX5_toOthers_0 (by decide) ?_
  refine lv_istore_n (lv' := [(2, .int 0), (0, .ref (ad q)), (1, .int p2)]) hx hb dX5_toOthers_1 rfl hl (by decide) rfl (fun ls hl => ?_)
  have hls := hl.1
  refine lv_iconst (v := 0) hx hb dX5_toOthers_2 (by decide) ?_
  refine lv_istore_n (lv' := [(3, .int 0), (2, .int 0), (0, .ref (ad q)), (1, .int p2)]) hx hb dX5_toOthers_3 rfl hl (by decide) rfl (fun ls hl => ?_)
  have hls := hl.1
  exact w_X5_toOthers_L4 l B S _ q p2 hq h2 (9) (0) (0)  _ _ _ (show 0 ≤ 8 by omega) (show 0 + (9) = 9 by omega) hW (lv_sub hl [0, 1, 2, 3] rfl) hls zk

def x_X5_fromOthers_L4 : Nat → vS → Nat → Int32 → Nat → Int32 → Int32
  | 0, S, _, _, _, _ => 0
  | n + 1, S, q, p2, n3, v2 => if 8 ≤ (nI n3) then v2 else nm (x_X5_debt S q (nI n3) p2) (fun r_14 => nm ((v2 + r_14)) (fun x_18 => x_X5_fromOthers_L4 n S q p2 ((n3 + 1)) (x_18)))
def x_X5_fromOthers (S : vS) (q : Nat) (p2 : Int32) : Int32 := x_X5_fromOthers_L4 (9) S q p2 (0) (0)
theorem hd_X5_fromOthers : yX5_fromOthers.cls = RX5 ∧ yX5_fromOthers.cls ≠ "java/lang/invoke/MethodHandle" ∧ yX5_fromOthers.cls ≠ "java/lang/invoke/VarHandle" ∧ (parseMethodDescriptor yX5_fromOthers.desc).map (fun d => d.parameters.length) = some 2 := by decide +kernel
set_option maxHeartbeats 4000000 in
set_option maxRecDepth 100000 in
theorem w_X5_fromOthers_L4 {D : va_G} {ad : Nat → Nat} (l : Launch) {p : Program} {e : Env} {s : State} {mm : MethodId} {args : Array Value} {below : List Frame} {meth : Method} {c : Code} {A : Nat → Prop} (B : Cx p mm c cX5_fromOthers 4 s args wsX5_fromOthers RX5 meth (some .int) D) (S : vS) (z : Int32) (q : Nat) (p2 : Int32) (hq : q = 1 ∨ q = 2) (h2 : vp_in p2 8) : ∀ (n : Nat) (n3 : Nat) (v2 : Int32) (H : Heap) (locs : List Loc) (ls : Array Slot), n3 ≤ 8 → n3 + n = 9 → Wd D 7 (cM D ad) ad A s.heap S H locs → lv_has ls 4 [(3, .int (nI n3)), (2, .int v2), (0, .ref (ad q)), (1, .int p2)] → ls.size = 4 → z = x_X5_fromOthers_L4 n S q p2 n3 v2 → W p l e (rmD 1) s mm args below meth c H locs 0 0 (MQ below (va_Qi (fun (r : Int32) (S1 : vS) => r = z ∧ S1 = S) (bW D 7 (cM D ad) ad A) A) args s 0 0 A) (F0 mm 4 ls []) := by
  have hx := B.1.1
  have hb := B.1.2.1
  intro n
  induction n with
  | zero =>
    intro n3 v2 H locs ls hle hsum
    omega
  | succ n ih =>
    intro n3 v2 H locs ls hle hsum hW hl hls zk
    have zk := zk.trans (x_X5_fromOthers_L4.eq_2 _ _ _ _ _ _ )
    refine lv_iload_n hx hb dX5_fromOthers_4 rfl (lv_at hl 0 rfl) ?_
    refine lv_bipush (v := 8) hx hb dX5_fromOthers_5 (by decide) ?_
    refine lv_icmp_ge (tgt := 25) hx hb dX5_fromOthers_7 (by decide) (fun c_7 => ?_) (fun c_7 => ?_)
    · have zk := zk.trans (if_pos c_7)
      refine lv_iload_n hx hb dX5_fromOthers_25 rfl (lv_at hl 1 rfl) ?_
      exact x_iret B hW ⟨zk.symm, rfl⟩ dX5_fromOthers_26
    · have zk := zk.trans (if_neg c_7)
      have hb_c_7 : n3 < 8 := nI_of_nle (by decide) c_7 (by omega)
      refine lv_iload_n hx hb dX5_fromOthers_10 rfl (lv_at hl 1 rfl) ?_
      refine lv_aload_n hx hb dX5_fromOthers_11 rfl (lv_at hl 2 rfl) ?_
      refine lv_iload_n hx hb dX5_fromOthers_12 rfl (lv_at hl 0 rfl) ?_
      refine lv_iload_n hx hb dX5_fromOthers_13 rfl (lv_at hl 3 rfl) ?_
      refine x_calli hW (x_runS B hW (As := [.ref (ad q), .int (nI n3), .int p2]) (rest := .int v2 :: []) (c_X5_debt (D := D) (ad := ad) l _ S q (nI n3) p2 hq (isN_vin (isN_nI hb_c_7 (by decide)) (by decide) (by decide)) h2) (va_cwS 3 B.1.2.2.2.2 gX5_fromOthers_X5_debt rfl rfl rfl hd_X5_debt.2 ⟨Nat.le_of_ble_eq_true rfl, Nat.le_of_ble_eq_true rfl⟩) rfl hls (Nat.le_of_ble_eq_true rfl) dX5_fromOthers_14 ⟨Nat.zero_le _, Nat.zero_le _⟩) (fun r_14 S_14 H locs he hW => ?_)
      obtain ⟨hr_14, hs⟩ := he
      rw [hs] at hW
      have zk := nm_at zk hr_14
      refine lv_iadd hx hb dX5_fromOthers_17 ?_
      refine lv_topi (fun x_18 ex_18 => ?_)
      have zk := nm_at zk ex_18
      refine lv_istore_n (lv' := [(2, .int x_18), (3, .int (nI n3)), (0, .ref (ad q)), (1, .int p2)]) hx hb dX5_fromOthers_18 rfl hl (by decide) rfl (fun ls hl => ?_)
      have hls := hl.1
      refine lv_iinc (v := (nI (n3 + 1))) (lv' := [(3, .int (nI (n3 + 1))), (2, .int x_18), (0, .ref (ad q)), (1, .int p2)]) hx hb dX5_fromOthers_19 hl (k := 1) rfl (nI_1 _) (by decide) rfl (fun ls hl => ?_)
      have hls := hl.1
      refine lv_goto (tgt := 4) hx hb dX5_fromOthers_22 (by decide) ?_
      exact ih ((n3 + 1)) (x_18)  _ _ _ (show (n3 + 1) ≤ 8 by omega) (show (n3 + 1) + n = 9 by omega) hW (lv_sub hl [0, 1, 2, 3] rfl) hls zk
set_option maxHeartbeats 4000000 in
set_option maxRecDepth 100000 in
theorem c_X5_fromOthers {D : va_G} {ad : Nat → Nat} (l : Launch) (sz : Nat) (S : vS) (q : Nat) (p2 : Int32) (hq : q = 1 ∨ q = 2) (h2 : vp_in p2 8) : Met l yX5_fromOthers wsX5_fromOthers (rmD 1) (pW D 7 (cM D ad) ad sz S [.ref (ad q), .int p2]) (va_Qi (fun (r : Int32) (S1 : vS) => r = (x_X5_fromOthers S q p2) ∧ S1 = S) (bW D 7 (cM D ad) ad (aW 7 ad sz)) (aW 7 ad sz)) 0 0 (aW 7 ad sz) := by
  refine x_met (own := RX5) (cc := cX5_fromOthers) (maxL := 4) (ret := (some .int)) (Qc := fun A => va_Qi (fun (r : Int32) (S1 : vS) => r = (x_X5_fromOthers S q p2) ∧ S1 = S) (bW D 7 (cM D ad) ad A) A) rfl ⟨by decide +kernel, rfl, Nat.le_of_ble_eq_true rfl⟩ ?_
  intro p e s mm args below meth c A ls B hW hl hls
  have hx := B.1.1
  have hb := B.1.2.1
  have zk := x_X5_fromOthers.eq_1 S q p2
  have hl : lv_has ls 4 [(0, .ref (ad q)), (1, .int p2)] := hl
  refine lv_iconst (v := 0) hx hb dX5_fromOthers_0 (by decide) ?_
  refine lv_istore_n (lv' := [(2, .int 0), (0, .ref (ad q)), (1, .int p2)]) hx hb dX5_fromOthers_1 rfl hl (by decide) rfl (fun ls hl => ?_)
  have hls := hl.1
  refine lv_iconst (v := 0) hx hb dX5_fromOthers_2 (by decide) ?_
  refine lv_istore_n (lv' := [(3, .int 0), (2, .int 0), (0, .ref (ad q)), (1, .int p2)]) hx hb dX5_fromOthers_3 rfl hl (by decide) rfl (fun ls hl => ?_)
  have hls := hl.1
  exact w_X5_fromOthers_L4 l B S _ q p2 hq h2 (9) (0) (0)  _ _ _ (show 0 ≤ 8 by omega) (show 0 + (9) = 9 by omega) hW (lv_sub hl [0, 1, 2, 3] rfl) hls zk

def x_X5_debts (S : vS) (q : Nat) (p2 : Int32) : Int32 := nm (x_X5_of S q p2 10) (fun r_4 => nm (x_X5_of S q p2 11) (fun r_11 => nm (x_X5_toOthers S q p2) (fun r_17 => ((r_4 + r_11) + r_17))))
theorem hd_X5_debts : yX5_debts.cls = RX5 ∧ yX5_debts.cls ≠ "java/lang/invoke/MethodHandle" ∧ yX5_debts.cls ≠ "java/lang/invoke/VarHandle" ∧ (parseMethodDescriptor yX5_debts.desc).map (fun d => d.parameters.length) = some 2 := by decide +kernel
set_option maxHeartbeats 4000000 in
set_option maxRecDepth 100000 in
theorem c_X5_debts {D : va_G} {ad : Nat → Nat} (l : Launch) (sz : Nat) (S : vS) (q : Nat) (p2 : Int32) (hq : q = 1 ∨ q = 2) (h2 : vp_in p2 8) : Met l yX5_debts wsX5_debts (rmD 2) (pW D 7 (cM D ad) ad sz S [.ref (ad q), .int p2]) (va_Qi (fun (r : Int32) (S1 : vS) => r = (x_X5_debts S q p2) ∧ S1 = S) (bW D 7 (cM D ad) ad (aW 7 ad sz)) (aW 7 ad sz)) 0 0 (aW 7 ad sz) := by
  refine x_met (own := RX5) (cc := cX5_debts) (maxL := 2) (ret := (some .int)) (Qc := fun A => va_Qi (fun (r : Int32) (S1 : vS) => r = (x_X5_debts S q p2) ∧ S1 = S) (bW D 7 (cM D ad) ad A) A) rfl ⟨by decide +kernel, rfl, Nat.le_of_ble_eq_true rfl⟩ ?_
  intro p e s mm args below meth c A ls B hW hl hls
  have hx := B.1.1
  have hb := B.1.2.1
  have zk := x_X5_debts.eq_1 S q p2
  have hl : lv_has ls 2 [(0, .ref (ad q)), (1, .int p2)] := hl
  refine lv_aload_n hx hb dX5_debts_0 rfl (lv_at hl 0 rfl) ?_
  refine lv_iload_n hx hb dX5_debts_1 rfl (lv_at hl 1 rfl) ?_
  refine lv_bipush (v := 10) hx hb dX5_debts_2 (by decide) ?_
  refine x_calli hW (x_runS B hW (As := [.ref (ad q), .int p2, .int 10]) (rest := []) (c_X5_of (D := D) (ad := ad) l _ S q p2 10 hq h2 (isN_vin (isN_lit 10 (by decide)) (by decide) (by decide))) (va_cwS 3 B.1.2.2.2.2 gX5_debts_X5_of rfl rfl rfl hd_X5_of.2 ⟨Nat.le_of_ble_eq_true rfl, Nat.le_of_ble_eq_true rfl⟩) rfl hls (Nat.le_of_ble_eq_true rfl) dX5_debts_4 ⟨Nat.zero_le _, Nat.zero_le _⟩) (fun r_4 S_4 H locs he hW => ?_)
  obtain ⟨hr_4, hs⟩ := he
  rw [hs] at hW
  have zk := nm_at zk hr_4
  refine lv_aload_n hx hb dX5_debts_7 rfl (lv_at hl 0 rfl) ?_
  refine lv_iload_n hx hb dX5_debts_8 rfl (lv_at hl 1 rfl) ?_
  refine lv_bipush (v := 11) hx hb dX5_debts_9 (by decide) ?_
  refine x_calli hW (x_runS B hW (As := [.ref (ad q), .int p2, .int 11]) (rest := .int r_4 :: []) (c_X5_of (D := D) (ad := ad) l _ S q p2 11 hq h2 (isN_vin (isN_lit 11 (by decide)) (by decide) (by decide))) (va_cwS 3 B.1.2.2.2.2 gX5_debts_X5_of rfl rfl rfl hd_X5_of.2 ⟨Nat.le_of_ble_eq_true rfl, Nat.le_of_ble_eq_true rfl⟩) rfl hls (Nat.le_of_ble_eq_true rfl) dX5_debts_11 ⟨Nat.zero_le _, Nat.zero_le _⟩) (fun r_11 S_11 H locs he hW => ?_)
  obtain ⟨hr_11, hs⟩ := he
  rw [hs] at hW
  have zk := nm_at zk hr_11
  refine lv_iadd hx hb dX5_debts_14 ?_
  refine lv_aload_n hx hb dX5_debts_15 rfl (lv_at hl 0 rfl) ?_
  refine lv_iload_n hx hb dX5_debts_16 rfl (lv_at hl 1 rfl) ?_
  refine x_calli hW (x_runS B hW (As := [.ref (ad q), .int p2]) (rest := .int (r_4 + r_11) :: []) (c_X5_toOthers (D := D) (ad := ad) l _ S q p2 hq h2) (va_cwS 2 B.1.2.2.2.2 gX5_debts_X5_toOthers rfl rfl rfl hd_X5_toOthers.2 ⟨Nat.le_of_ble_eq_true rfl, Nat.le_of_ble_eq_true rfl⟩) rfl hls (Nat.le_of_ble_eq_true rfl) dX5_debts_17 ⟨Nat.zero_le _, Nat.zero_le _⟩) (fun r_17 S_17 H locs he hW => ?_)
  obtain ⟨hr_17, hs⟩ := he
  rw [hs] at hW
  have zk := nm_at zk hr_17
  refine lv_iadd hx hb dX5_debts_20 ?_
  exact x_iret B hW ⟨zk.symm, rfl⟩ dX5_debts_21

def x_X5_partOf (S : vS) (q : Nat) (p2 : Int32) : Int32 := nm (x_X5_of S q p2 4) (fun r_3 => if r_3 = 1 then nm (x_X5_of S q p2 3) (fun r_13 => r_13) else nm (x_X5_of S q p2 5) (fun r_22 => r_22))
theorem hd_X5_partOf : yX5_partOf.cls = RX5 ∧ yX5_partOf.cls ≠ "java/lang/invoke/MethodHandle" ∧ yX5_partOf.cls ≠ "java/lang/invoke/VarHandle" ∧ (parseMethodDescriptor yX5_partOf.desc).map (fun d => d.parameters.length) = some 2 := by decide +kernel
set_option maxHeartbeats 4000000 in
set_option maxRecDepth 100000 in
theorem c_X5_partOf {D : va_G} {ad : Nat → Nat} (l : Launch) (sz : Nat) (S : vS) (q : Nat) (p2 : Int32) (hq : q = 1 ∨ q = 2) (h2 : vp_in p2 8) : Met l yX5_partOf wsX5_partOf (rmD 1) (pW D 7 (cM D ad) ad sz S [.ref (ad q), .int p2]) (va_Qi (fun (r : Int32) (S1 : vS) => r = (x_X5_partOf S q p2) ∧ S1 = S) (bW D 7 (cM D ad) ad (aW 7 ad sz)) (aW 7 ad sz)) 0 0 (aW 7 ad sz) := by
  refine x_met (own := RX5) (cc := cX5_partOf) (maxL := 2) (ret := (some .int)) (Qc := fun A => va_Qi (fun (r : Int32) (S1 : vS) => r = (x_X5_partOf S q p2) ∧ S1 = S) (bW D 7 (cM D ad) ad A) A) rfl ⟨by decide +kernel, rfl, Nat.le_of_ble_eq_true rfl⟩ ?_
  intro p e s mm args below meth c A ls B hW hl hls
  have hx := B.1.1
  have hb := B.1.2.1
  have zk := x_X5_partOf.eq_1 S q p2
  have hl : lv_has ls 2 [(0, .ref (ad q)), (1, .int p2)] := hl
  refine lv_aload_n hx hb dX5_partOf_0 rfl (lv_at hl 0 rfl) ?_
  refine lv_iload_n hx hb dX5_partOf_1 rfl (lv_at hl 1 rfl) ?_
  refine lv_iconst (v := 4) hx hb dX5_partOf_2 (by decide) ?_
  refine x_calli hW (x_runS B hW (As := [.ref (ad q), .int p2, .int 4]) (rest := []) (c_X5_of (D := D) (ad := ad) l _ S q p2 4 hq h2 (isN_vin (isN_lit 4 (by decide)) (by decide) (by decide))) (va_cwS 3 B.1.2.2.2.2 gX5_partOf_X5_of rfl rfl rfl hd_X5_of.2 ⟨Nat.le_of_ble_eq_true rfl, Nat.le_of_ble_eq_true rfl⟩) rfl hls (Nat.le_of_ble_eq_true rfl) dX5_partOf_3 ⟨Nat.zero_le _, Nat.zero_le _⟩) (fun r_3 S_3 H locs he hW => ?_)
  obtain ⟨hr_3, hs⟩ := he
  rw [hs] at hW
  have zk := nm_at zk hr_3
  refine lv_iconst (v := 1) hx hb dX5_partOf_6 (by decide) ?_
  refine lv_icmp_ne (tgt := 19) hx hb dX5_partOf_7 (by decide) (fun c_7 => ?_) (fun c_7 => ?_)
  · have zk := zk.trans (if_neg c_7)
    refine lv_aload_n hx hb dX5_partOf_19 rfl (lv_at hl 0 rfl) ?_
    refine lv_iload_n hx hb dX5_partOf_20 rfl (lv_at hl 1 rfl) ?_
    refine lv_iconst (v := 5) hx hb dX5_partOf_21 (by decide) ?_
    refine x_calli hW (x_runS B hW (As := [.ref (ad q), .int p2, .int 5]) (rest := []) (c_X5_of (D := D) (ad := ad) l _ S q p2 5 hq h2 (isN_vin (isN_lit 5 (by decide)) (by decide) (by decide))) (va_cwS 3 B.1.2.2.2.2 gX5_partOf_X5_of rfl rfl rfl hd_X5_of.2 ⟨Nat.le_of_ble_eq_true rfl, Nat.le_of_ble_eq_true rfl⟩) rfl hls (Nat.le_of_ble_eq_true rfl) dX5_partOf_22 ⟨Nat.zero_le _, Nat.zero_le _⟩) (fun r_22 S_22 H locs he hW => ?_)
    obtain ⟨hr_22, hs⟩ := he
    rw [hs] at hW
    have zk := nm_at zk hr_22
    exact x_iret B hW ⟨zk.symm, rfl⟩ dX5_partOf_25
  · have zk := zk.trans (if_pos c_7)
    refine lv_aload_n hx hb dX5_partOf_10 rfl (lv_at hl 0 rfl) ?_
    refine lv_iload_n hx hb dX5_partOf_11 rfl (lv_at hl 1 rfl) ?_
    refine lv_iconst (v := 3) hx hb dX5_partOf_12 (by decide) ?_
    refine x_calli hW (x_runS B hW (As := [.ref (ad q), .int p2, .int 3]) (rest := []) (c_X5_of (D := D) (ad := ad) l _ S q p2 3 hq h2 (isN_vin (isN_lit 3 (by decide)) (by decide) (by decide))) (va_cwS 3 B.1.2.2.2.2 gX5_partOf_X5_of rfl rfl rfl hd_X5_of.2 ⟨Nat.le_of_ble_eq_true rfl, Nat.le_of_ble_eq_true rfl⟩) rfl hls (Nat.le_of_ble_eq_true rfl) dX5_partOf_13 ⟨Nat.zero_le _, Nat.zero_le _⟩) (fun r_13 S_13 H locs he hW => ?_)
    obtain ⟨hr_13, hs⟩ := he
    rw [hs] at hW
    have zk := nm_at zk hr_13
    refine lv_goto (tgt := 25) hx hb dX5_partOf_16 (by decide) ?_
    exact x_iret B hW ⟨zk.symm, rfl⟩ dX5_partOf_25

def x_X5_due (S : vS) (q : Nat) (p2 : Int32) : Int32 := nm (x_X5_of S q p2 4) (fun r_3 => if r_3 = 0 then 0 else nm (x_X5_partOf S q p2) (fun r_15 => nm (x_X5_of S q p2 6) (fun r_22 => (r_15 + r_22))))
theorem hd_X5_due : yX5_due.cls = RX5 ∧ yX5_due.cls ≠ "java/lang/invoke/MethodHandle" ∧ yX5_due.cls ≠ "java/lang/invoke/VarHandle" ∧ (parseMethodDescriptor yX5_due.desc).map (fun d => d.parameters.length) = some 2 := by decide +kernel
set_option maxHeartbeats 4000000 in
set_option maxRecDepth 100000 in
theorem c_X5_due {D : va_G} {ad : Nat → Nat} (l : Launch) (sz : Nat) (S : vS) (q : Nat) (p2 : Int32) (hq : q = 1 ∨ q = 2) (h2 : vp_in p2 8) : Met l yX5_due wsX5_due (rmD 2) (pW D 7 (cM D ad) ad sz S [.ref (ad q), .int p2]) (va_Qi (fun (r : Int32) (S1 : vS) => r = (x_X5_due S q p2) ∧ S1 = S) (bW D 7 (cM D ad) ad (aW 7 ad sz)) (aW 7 ad sz)) 0 0 (aW 7 ad sz) := by
  refine x_met (own := RX5) (cc := cX5_due) (maxL := 2) (ret := (some .int)) (Qc := fun A => va_Qi (fun (r : Int32) (S1 : vS) => r = (x_X5_due S q p2) ∧ S1 = S) (bW D 7 (cM D ad) ad A) A) rfl ⟨by decide +kernel, rfl, Nat.le_of_ble_eq_true rfl⟩ ?_
  intro p e s mm args below meth c A ls B hW hl hls
  have hx := B.1.1
  have hb := B.1.2.1
  have zk := x_X5_due.eq_1 S q p2
  have hl : lv_has ls 2 [(0, .ref (ad q)), (1, .int p2)] := hl
  refine lv_aload_n hx hb dX5_due_0 rfl (lv_at hl 0 rfl) ?_
  refine lv_iload_n hx hb dX5_due_1 rfl (lv_at hl 1 rfl) ?_
  refine lv_iconst (v := 4) hx hb dX5_due_2 (by decide) ?_
  refine x_calli hW (x_runS B hW (As := [.ref (ad q), .int p2, .int 4]) (rest := []) (c_X5_of (D := D) (ad := ad) l _ S q p2 4 hq h2 (isN_vin (isN_lit 4 (by decide)) (by decide) (by decide))) (va_cwS 3 B.1.2.2.2.2 gX5_due_X5_of rfl rfl rfl hd_X5_of.2 ⟨Nat.le_of_ble_eq_true rfl, Nat.le_of_ble_eq_true rfl⟩) rfl hls (Nat.le_of_ble_eq_true rfl) dX5_due_3 ⟨Nat.zero_le _, Nat.zero_le _⟩) (fun r_3 S_3 H locs he hW => ?_)
  obtain ⟨hr_3, hs⟩ := he
  rw [hs] at hW
  have zk := nm_at zk hr_3
  refine lv_if_ne (tgt := 13) hx hb dX5_due_6 (by decide) (fun c_6 => ?_) (fun c_6 => ?_)
  · have zk := zk.trans (if_neg c_6)
    refine lv_aload_n hx hb dX5_due_13 rfl (lv_at hl 0 rfl) ?_
    refine lv_iload_n hx hb dX5_due_14 rfl (lv_at hl 1 rfl) ?_
    refine x_calli hW (x_runS B hW (As := [.ref (ad q), .int p2]) (rest := []) (c_X5_partOf (D := D) (ad := ad) l _ S q p2 hq h2) (va_cwS 2 B.1.2.2.2.2 gX5_due_X5_partOf rfl rfl rfl hd_X5_partOf.2 ⟨Nat.le_of_ble_eq_true rfl, Nat.le_of_ble_eq_true rfl⟩) rfl hls (Nat.le_of_ble_eq_true rfl) dX5_due_15 ⟨Nat.zero_le _, Nat.zero_le _⟩) (fun r_15 S_15 H locs he hW => ?_)
    obtain ⟨hr_15, hs⟩ := he
    rw [hs] at hW
    have zk := nm_at zk hr_15
    refine lv_aload_n hx hb dX5_due_18 rfl (lv_at hl 0 rfl) ?_
    refine lv_iload_n hx hb dX5_due_19 rfl (lv_at hl 1 rfl) ?_
    refine lv_bipush (v := 6) hx hb dX5_due_20 (by decide) ?_
    refine x_calli hW (x_runS B hW (As := [.ref (ad q), .int p2, .int 6]) (rest := .int r_15 :: []) (c_X5_of (D := D) (ad := ad) l _ S q p2 6 hq h2 (isN_vin (isN_lit 6 (by decide)) (by decide) (by decide))) (va_cwS 3 B.1.2.2.2.2 gX5_due_X5_of rfl rfl rfl hd_X5_of.2 ⟨Nat.le_of_ble_eq_true rfl, Nat.le_of_ble_eq_true rfl⟩) rfl hls (Nat.le_of_ble_eq_true rfl) dX5_due_22 ⟨Nat.zero_le _, Nat.zero_le _⟩) (fun r_22 S_22 H locs he hW => ?_)
    obtain ⟨hr_22, hs⟩ := he
    rw [hs] at hW
    have zk := nm_at zk hr_22
    refine lv_iadd hx hb dX5_due_25 ?_
    exact x_iret B hW ⟨zk.symm, rfl⟩ dX5_due_26
  · have zk := zk.trans (if_pos c_6)
    refine lv_iconst (v := 0) hx hb dX5_due_9 (by decide) ?_
    refine lv_goto (tgt := 26) hx hb dX5_due_10 (by decide) ?_
    exact x_iret B hW ⟨zk.symm, rfl⟩ dX5_due_26

def x_X5_helpers_L4 : Nat → vS → Nat → Nat → Int32 → Int32
  | 0, S, _, _, _ => 0
  | n + 1, S, q, n2, v1 => if 8 ≤ (nI n2) then v1 else nm (x_X5_of S q (nI n2) 0) (fun r_14 => if r_14 = 1 then nm (x_X5_of S q (nI n2) 7) (fun r_25 => if r_25 = 0 then nm ((v1 + 1)) (fun x_37 => x_X5_helpers_L4 n S q ((n2 + 1)) (x_37)) else nm ((v1 + 0)) (fun x_37 => x_X5_helpers_L4 n S q ((n2 + 1)) (x_37))) else nm ((v1 + 0)) (fun x_37 => x_X5_helpers_L4 n S q ((n2 + 1)) (x_37)))
def x_X5_helpers (S : vS) (q : Nat) : Int32 := x_X5_helpers_L4 (9) S q (0) (0)
theorem hd_X5_helpers : yX5_helpers.cls = RX5 ∧ yX5_helpers.cls ≠ "java/lang/invoke/MethodHandle" ∧ yX5_helpers.cls ≠ "java/lang/invoke/VarHandle" ∧ (parseMethodDescriptor yX5_helpers.desc).map (fun d => d.parameters.length) = some 1 := by decide +kernel
set_option maxHeartbeats 4000000 in
set_option maxRecDepth 100000 in
theorem w_X5_helpers_L4 {D : va_G} {ad : Nat → Nat} (l : Launch) {p : Program} {e : Env} {s : State} {mm : MethodId} {args : Array Value} {below : List Frame} {meth : Method} {c : Code} {A : Nat → Prop} (B : Cx p mm c cX5_helpers 3 s args wsX5_helpers RX5 meth (some .int) D) (S : vS) (z : Int32) (q : Nat) (hq : q = 1 ∨ q = 2) : ∀ (n : Nat) (n2 : Nat) (v1 : Int32) (H : Heap) (locs : List Loc) (ls : Array Slot), n2 ≤ 8 → n2 + n = 9 → Wd D 7 (cM D ad) ad A s.heap S H locs → lv_has ls 3 [(2, .int (nI n2)), (1, .int v1), (0, .ref (ad q))] → ls.size = 3 → z = x_X5_helpers_L4 n S q n2 v1 → W p l e (rmD 1) s mm args below meth c H locs 0 0 (MQ below (va_Qi (fun (r : Int32) (S1 : vS) => r = z ∧ S1 = S) (bW D 7 (cM D ad) ad A) A) args s 0 0 A) (F0 mm 4 ls []) := by
  have hx := B.1.1
  have hb := B.1.2.1
  intro n
  induction n with
  | zero =>
    intro n2 v1 H locs ls hle hsum
    omega
  | succ n ih =>
    intro n2 v1 H locs ls hle hsum hW hl hls zk
    have zk := zk.trans (x_X5_helpers_L4.eq_2 _ _ _ _ _ )
    refine lv_iload_n hx hb dX5_helpers_4 rfl (lv_at hl 0 rfl) ?_
    refine lv_bipush (v := 8) hx hb dX5_helpers_5 (by decide) ?_
    refine lv_icmp_ge (tgt := 44) hx hb dX5_helpers_7 (by decide) (fun c_7 => ?_) (fun c_7 => ?_)
    · have zk := zk.trans (if_pos c_7)
      refine lv_iload_n hx hb dX5_helpers_44 rfl (lv_at hl 1 rfl) ?_
      exact x_iret B hW ⟨zk.symm, rfl⟩ dX5_helpers_45
    · have zk := zk.trans (if_neg c_7)
      have hb_c_7 : n2 < 8 := nI_of_nle (by decide) c_7 (by omega)
      refine lv_iload_n hx hb dX5_helpers_10 rfl (lv_at hl 1 rfl) ?_
      refine lv_aload_n hx hb dX5_helpers_11 rfl (lv_at hl 2 rfl) ?_
      refine lv_iload_n hx hb dX5_helpers_12 rfl (lv_at hl 0 rfl) ?_
      refine lv_iconst (v := 0) hx hb dX5_helpers_13 (by decide) ?_
      refine x_calli hW (x_runS B hW (As := [.ref (ad q), .int (nI n2), .int 0]) (rest := .int v1 :: []) (c_X5_of (D := D) (ad := ad) l _ S q (nI n2) 0 hq (isN_vin (isN_nI hb_c_7 (by decide)) (by decide) (by decide)) (isN_vin (isN_lit 0 (by decide)) (by decide) (by decide))) (va_cwS 3 B.1.2.2.2.2 gX5_helpers_X5_of rfl rfl rfl hd_X5_of.2 ⟨Nat.le_of_ble_eq_true rfl, Nat.le_of_ble_eq_true rfl⟩) rfl hls (Nat.le_of_ble_eq_true rfl) dX5_helpers_14 ⟨Nat.zero_le _, Nat.zero_le _⟩) (fun r_14 S_14 H locs he hW => ?_)
      obtain ⟨hr_14, hs⟩ := he
      rw [hs] at hW
      have zk := nm_at zk hr_14
      refine lv_iconst (v := 1) hx hb dX5_helpers_17 (by decide) ?_
      refine lv_icmp_ne (tgt := 35) hx hb dX5_helpers_18 (by decide) (fun c_18 => ?_) (fun c_18 => ?_)
      · have zk := zk.trans (if_neg c_18)
        refine lv_iconst (v := 0) hx hb dX5_helpers_35 (by decide) ?_
        refine lv_iadd hx hb dX5_helpers_36 ?_
        refine lv_topi (fun x_37 ex_37 => ?_)
        have zk := nm_at zk ex_37
        refine lv_istore_n (lv' := [(1, .int x_37), (2, .int (nI n2)), (0, .ref (ad q))]) hx hb dX5_helpers_37 rfl hl (by decide) rfl (fun ls hl => ?_)
        have hls := hl.1
        refine lv_iinc (v := (nI (n2 + 1))) (lv' := [(2, .int (nI (n2 + 1))), (1, .int x_37), (0, .ref (ad q))]) hx hb dX5_helpers_38 hl (k := 1) rfl (nI_1 _) (by decide) rfl (fun ls hl => ?_)
        have hls := hl.1
        refine lv_goto (tgt := 4) hx hb dX5_helpers_41 (by decide) ?_
        exact ih ((n2 + 1)) (x_37)  _ _ _ (show (n2 + 1) ≤ 8 by omega) (show (n2 + 1) + n = 9 by omega) hW (lv_sub hl [0, 1, 2] rfl) hls zk
      · have zk := zk.trans (if_pos c_18)
        refine lv_aload_n hx hb dX5_helpers_21 rfl (lv_at hl 2 rfl) ?_
        refine lv_iload_n hx hb dX5_helpers_22 rfl (lv_at hl 0 rfl) ?_
        refine lv_bipush (v := 7) hx hb dX5_helpers_23 (by decide) ?_
        refine x_calli hW (x_runS B hW (As := [.ref (ad q), .int (nI n2), .int 7]) (rest := .int v1 :: []) (c_X5_of (D := D) (ad := ad) l _ S q (nI n2) 7 hq (isN_vin (isN_nI hb_c_7 (by decide)) (by decide) (by decide)) (isN_vin (isN_lit 7 (by decide)) (by decide) (by decide))) (va_cwS 3 B.1.2.2.2.2 gX5_helpers_X5_of rfl rfl rfl hd_X5_of.2 ⟨Nat.le_of_ble_eq_true rfl, Nat.le_of_ble_eq_true rfl⟩) rfl hls (Nat.le_of_ble_eq_true rfl) dX5_helpers_25 ⟨Nat.zero_le _, Nat.zero_le _⟩) (fun r_25 S_25 H locs he hW => ?_)
        obtain ⟨hr_25, hs⟩ := he
        rw [hs] at hW
        have zk := nm_at zk hr_25
        refine lv_if_ne (tgt := 35) hx hb dX5_helpers_28 (by decide) (fun c_28 => ?_) (fun c_28 => ?_)
        · have zk := zk.trans (if_neg c_28)
          refine lv_iconst (v := 0) hx hb dX5_helpers_35 (by decide) ?_
          refine lv_iadd hx hb dX5_helpers_36 ?_
          refine lv_topi (fun x_37 ex_37 => ?_)
          have zk := nm_at zk ex_37
          refine lv_istore_n (lv' := [(1, .int x_37), (2, .int (nI n2)), (0, .ref (ad q))]) hx hb dX5_helpers_37 rfl hl (by decide) rfl (fun ls hl => ?_)
          have hls := hl.1
          refine lv_iinc (v := (nI (n2 + 1))) (lv' := [(2, .int (nI (n2 + 1))), (1, .int x_37), (0, .ref (ad q))]) hx hb dX5_helpers_38 hl (k := 1) rfl (nI_1 _) (by decide) rfl (fun ls hl => ?_)
          have hls := hl.1
          refine lv_goto (tgt := 4) hx hb dX5_helpers_41 (by decide) ?_
          exact ih ((n2 + 1)) (x_37)  _ _ _ (show (n2 + 1) ≤ 8 by omega) (show (n2 + 1) + n = 9 by omega) hW (lv_sub hl [0, 1, 2] rfl) hls zk
        · have zk := zk.trans (if_pos c_28)
          refine lv_iconst (v := 1) hx hb dX5_helpers_31 (by decide) ?_
          refine lv_goto (tgt := 36) hx hb dX5_helpers_32 (by decide) ?_
          refine lv_iadd hx hb dX5_helpers_36 ?_
          refine lv_topi (fun x_37 ex_37 => ?_)
          have zk := nm_at zk ex_37
          refine lv_istore_n (lv' := [(1, .int x_37), (2, .int (nI n2)), (0, .ref (ad q))]) hx hb dX5_helpers_37 rfl hl (by decide) rfl (fun ls hl => ?_)
          have hls := hl.1
          refine lv_iinc (v := (nI (n2 + 1))) (lv' := [(2, .int (nI (n2 + 1))), (1, .int x_37), (0, .ref (ad q))]) hx hb dX5_helpers_38 hl (k := 1) rfl (nI_1 _) (by decide) rfl (fun ls hl => ?_)
          have hls := hl.1
          refine lv_goto (tgt := 4) hx hb dX5_helpers_41 (by decide) ?_
          exact ih ((n2 + 1)) (x_37)  _ _ _ (show (n2 + 1) ≤ 8 by omega) (show (n2 + 1) + n = 9 by omega) hW (lv_sub hl [0, 1, 2] rfl) hls zk
set_option maxHeartbeats 4000000 in
set_option maxRecDepth 100000 in
theorem c_X5_helpers {D : va_G} {ad : Nat → Nat} (l : Launch) (sz : Nat) (S : vS) (q : Nat) (hq : q = 1 ∨ q = 2) : Met l yX5_helpers wsX5_helpers (rmD 1) (pW D 7 (cM D ad) ad sz S [.ref (ad q)]) (va_Qi (fun (r : Int32) (S1 : vS) => r = (x_X5_helpers S q) ∧ S1 = S) (bW D 7 (cM D ad) ad (aW 7 ad sz)) (aW 7 ad sz)) 0 0 (aW 7 ad sz) := by
  refine x_met (own := RX5) (cc := cX5_helpers) (maxL := 3) (ret := (some .int)) (Qc := fun A => va_Qi (fun (r : Int32) (S1 : vS) => r = (x_X5_helpers S q) ∧ S1 = S) (bW D 7 (cM D ad) ad A) A) rfl ⟨by decide +kernel, rfl, Nat.le_of_ble_eq_true rfl⟩ ?_
  intro p e s mm args below meth c A ls B hW hl hls
  have hx := B.1.1
  have hb := B.1.2.1
  have zk := x_X5_helpers.eq_1 S q
  have hl : lv_has ls 3 [(0, .ref (ad q))] := hl
  refine lv_iconst (v := 0) hx hb dX5_helpers_0 (by decide) ?_
  refine lv_istore_n (lv' := [(1, .int 0), (0, .ref (ad q))]) hx hb dX5_helpers_1 rfl hl (by decide) rfl (fun ls hl => ?_)
  have hls := hl.1
  refine lv_iconst (v := 0) hx hb dX5_helpers_2 (by decide) ?_
  refine lv_istore_n (lv' := [(2, .int 0), (1, .int 0), (0, .ref (ad q))]) hx hb dX5_helpers_3 rfl hl (by decide) rfl (fun ls hl => ?_)
  have hls := hl.1
  exact w_X5_helpers_L4 l B S _ q hq (9) (0) (0)  _ _ _ (show 0 ≤ 8 by omega) (show 0 + (9) = 9 by omega) hW (lv_sub hl [0, 1, 2] rfl) hls zk

def x_X5_misses_L122 : Nat → vS → Nat → Int32 → Nat → Int32 → Int32 → Int32 → Int32 → (Int32 × vS)
  | 0, S, _, _, _, _, _, _, _ => (0, S)
  | n + 1, S, q, p2, n8, v7, v6, v5, v3 => if 8 ≤ (nI n8) then (v3, S) else nm (x_X5_of S q (nI n8) 0) (fun r_133 => if r_133 = 1 then nm (x_X5_of S q (nI n8) 7) (fun r_145 => if r_145 = 0 then if (v5 - v5 / v6 * v6) ≤ v7 then nm (((v5 / v6) + 0)) (fun x_172 => nm (st S q ((125 + (8 * p2.toNatClampNeg)) + n8) ((S q ((125 + (8 * p2.toNatClampNeg)) + n8)) + x_172)) (fun S_190 => nm (x_X5_adds S_190 q (nI n8) 13 x_172) (fun S_198 => nm (st S_198 6 n8 ((S_198 6 n8) + x_172)) (fun S_212 => nm (v7 + 1) (fun x_213 => x_X5_misses_L122 n S_212 q p2 ((n8 + 1)) (x_213) (v6) (v5) (v3)))))) else nm (((v5 / v6) + 1)) (fun x_172 => nm (st S q ((125 + (8 * p2.toNatClampNeg)) + n8) ((S q ((125 + (8 * p2.toNatClampNeg)) + n8)) + x_172)) (fun S_190 => nm (x_X5_adds S_190 q (nI n8) 13 x_172) (fun S_198 => nm (st S_198 6 n8 ((S_198 6 n8) + x_172)) (fun S_212 => nm (v7 + 1) (fun x_213 => x_X5_misses_L122 n S_212 q p2 ((n8 + 1)) (x_213) (v6) (v5) (v3)))))) else x_X5_misses_L122 n S q p2 ((n8 + 1)) (v7) (v6) (v5) (v3)) else x_X5_misses_L122 n S q p2 ((n8 + 1)) (v7) (v6) (v5) (v3))
def x_X5_misses (S : vS) (q : Nat) (p2 : Int32) : (Int32 × vS) := nm (x_X5_due S q p2) (fun r_2 => nm (x_X5_adds S q p2 8 1) (fun S_11 => nm (x_X5_adds S_11 q p2 9 1) (fun S_19 => nm (st S_19 q 12 ((S_19 q 12) + 1)) (fun S_29 => if r_2 ≤ (S_29 q 8) then nm (st S_29 q 8 ((S_29 q 8) - r_2)) (fun S_56 => nm (x_X5_adds S_56 q p2 11 r_2) (fun S_63 => nm ((r_2 - r_2)) (fun x_70 => nm (x_X5_helpers S_63 q) (fun r_73 => if r_73 = 0 then nm (x_X5_adds S_63 q p2 10 x_70) (fun S_89 => if (bz (S_89 0 13)) = 0 then if x_70 ≤ 0 then nm (st S_89 0 13 0) (fun S_110 => (r_2, S_110)) else nm (st S_89 0 13 1) (fun S_110 => (r_2, S_110)) else nm (st S_89 0 13 1) (fun S_110 => (r_2, S_110))) else x_X5_misses_L122 (9) S_63 q p2 (0) (0) (r_73) (x_70) (r_2))))) else nm ((S_29 q 8)) (fun x_46 => nm (st S_29 q 8 ((S_29 q 8) - x_46)) (fun S_56 => nm (x_X5_adds S_56 q p2 11 x_46) (fun S_63 => nm ((r_2 - x_46)) (fun x_70 => nm (x_X5_helpers S_63 q) (fun r_73 => if r_73 = 0 then nm (x_X5_adds S_63 q p2 10 x_70) (fun S_89 => if (bz (S_89 0 13)) = 0 then if x_70 ≤ 0 then nm (st S_89 0 13 0) (fun S_110 => (x_46, S_110)) else nm (st S_89 0 13 1) (fun S_110 => (x_46, S_110)) else nm (st S_89 0 13 1) (fun S_110 => (x_46, S_110))) else x_X5_misses_L122 (9) S_63 q p2 (0) (0) (r_73) (x_70) (r_2))))))))))
theorem hd_X5_misses : yX5_misses.cls = RX5 ∧ yX5_misses.cls ≠ "java/lang/invoke/MethodHandle" ∧ yX5_misses.cls ≠ "java/lang/invoke/VarHandle" ∧ (parseMethodDescriptor yX5_misses.desc).map (fun d => d.parameters.length) = some 2 := by decide +kernel
set_option maxHeartbeats 4000000 in
set_option maxRecDepth 100000 in
theorem w_X5_misses_L122 {D : va_G} {ad : Nat → Nat} (l : Launch) {p : Program} {e : Env} {s : State} {mm : MethodId} {args : Array Value} {below : List Frame} {meth : Method} {c : Code} {A : Nat → Prop} (B : Cx p mm c cX5_misses 10 s args wsX5_misses RX5 meth (some .int) D) (z : (Int32 × vS)) (q : Nat) (p2 : Int32) (hq : q = 1 ∨ q = 2) (h2 : vp_in p2 8) : ∀ (n : Nat) (n8 : Nat) (v7 : Int32) (v6 : Int32) (v5 : Int32) (v3 : Int32) (S : vS) (H : Heap) (locs : List Loc) (ls : Array Slot), n8 ≤ 8 → n8 + n = 9 → ¬ v6 = 0 → Wd D 7 (cM D ad) ad A s.heap S H locs → lv_has ls 10 [(8, .int (nI n8)), (7, .int v7), (6, .int v6), (5, .int v5), (3, .int v3), (0, .ref (ad 0)), (1, .ref (ad q)), (2, .int p2)] → ls.size = 10 → z = x_X5_misses_L122 n S q p2 n8 v7 v6 v5 v3 → W p l e (rmD 3) s mm args below meth c H locs 0 0 (MQ below (va_Qi (fun (r : Int32) (S1 : vS) => (r, S1) = z) (bW D 7 (cM D ad) ad A) A) args s 0 0 A) (F0 mm 122 ls []) := by
  have hx := B.1.1
  have hb := B.1.2.1
  have hin_X5 : ∀ w ∈ wsX50, w ∈ wsX5_misses := fun w h => List.mem_cons_of_mem _ (List.mem_append_right _ h)
  have k_25 := B.1.2.2.2.2 (.fieldLink RX5 25 "JointLoansModel" "shares" "[I") (by decide +kernel)
  have k_68 := B.1.2.2.2.2 (.fieldLink RX5 68 "JointLoansModel" "isUnpaid" "Z") (by decide +kernel)
  intro n
  induction n with
  | zero =>
    intro n8 v7 v6 v5 v3 S H locs ls hle hsum hnz
    omega
  | succ n ih =>
    intro n8 v7 v6 v5 v3 S H locs ls hle hsum hnz hW hl hls zk
    have zk := zk.trans (x_X5_misses_L122.eq_2 _ _ _ _ _ _ _ _ _ )
    refine lv_iload hx hb dX5_misses_122 (lv_at hl 0 rfl) ?_
    refine lv_bipush (v := 8) hx hb dX5_misses_124 (by decide) ?_
    refine lv_icmp_ge (tgt := 222) hx hb dX5_misses_126 (by decide) (fun c_126 => ?_) (fun c_126 => ?_)
    · have zk := zk.trans (if_pos c_126)
      refine lv_iload_n hx hb dX5_misses_222 rfl (lv_at hl 4 rfl) ?_
      exact x_iret B hW zk.symm dX5_misses_223
    · have zk := zk.trans (if_neg c_126)
      have hb_c_126 : n8 < 8 := nI_of_nle (by decide) c_126 (by omega)
      refine lv_aload_n hx hb dX5_misses_129 rfl (lv_at hl 6 rfl) ?_
      refine lv_iload hx hb dX5_misses_130 (lv_at hl 0 rfl) ?_
      refine lv_iconst (v := 0) hx hb dX5_misses_132 (by decide) ?_
      refine x_calli hW (x_runS B hW (As := [.ref (ad q), .int (nI n8), .int 0]) (rest := []) (c_X5_of (D := D) (ad := ad) l _ S q (nI n8) 0 hq (isN_vin (isN_nI hb_c_126 (by decide)) (by decide) (by decide)) (isN_vin (isN_lit 0 (by decide)) (by decide) (by decide))) (va_cwS 3 B.1.2.2.2.2 gX5_misses_X5_of rfl rfl rfl hd_X5_of.2 ⟨Nat.le_of_ble_eq_true rfl, Nat.le_of_ble_eq_true rfl⟩) rfl hls (Nat.le_of_ble_eq_true rfl) dX5_misses_133 ⟨Nat.zero_le _, Nat.zero_le _⟩) (fun r_133 S_133 H locs he hW => ?_)
      obtain ⟨hr_133, hs⟩ := he
      rw [hs] at hW
      have zk := nm_at zk hr_133
      refine lv_iconst (v := 1) hx hb dX5_misses_136 (by decide) ?_
      refine lv_icmp_ne (tgt := 216) hx hb dX5_misses_137 (by decide) (fun c_137 => ?_) (fun c_137 => ?_)
      · have zk := zk.trans (if_neg c_137)
        refine lv_iinc (v := (nI (n8 + 1))) (lv' := [(8, .int (nI (n8 + 1))), (7, .int v7), (6, .int v6), (5, .int v5), (3, .int v3), (0, .ref (ad 0)), (1, .ref (ad q)), (2, .int p2)]) hx hb dX5_misses_216 hl (k := 0) rfl (nI_1 _) (by decide) rfl (fun ls hl => ?_)
        have hls := hl.1
        refine lv_goto (tgt := 122) hx hb dX5_misses_219 (by decide) ?_
        exact ih ((n8 + 1)) (v7) (v6) (v5) (v3) S _ _ _ (show (n8 + 1) ≤ 8 by omega) (show (n8 + 1) + n = 9 by omega) hnz hW (lv_sub hl [0, 1, 2, 3, 4, 5, 6, 7] rfl) hls zk
      · have zk := zk.trans (if_pos c_137)
        refine lv_aload_n hx hb dX5_misses_140 rfl (lv_at hl 6 rfl) ?_
        refine lv_iload hx hb dX5_misses_141 (lv_at hl 0 rfl) ?_
        refine lv_bipush (v := 7) hx hb dX5_misses_143 (by decide) ?_
        refine x_calli hW (x_runS B hW (As := [.ref (ad q), .int (nI n8), .int 7]) (rest := []) (c_X5_of (D := D) (ad := ad) l _ S q (nI n8) 7 hq (isN_vin (isN_nI hb_c_126 (by decide)) (by decide) (by decide)) (isN_vin (isN_lit 7 (by decide)) (by decide) (by decide))) (va_cwS 3 B.1.2.2.2.2 gX5_misses_X5_of rfl rfl rfl hd_X5_of.2 ⟨Nat.le_of_ble_eq_true rfl, Nat.le_of_ble_eq_true rfl⟩) rfl hls (Nat.le_of_ble_eq_true rfl) dX5_misses_145 ⟨Nat.zero_le _, Nat.zero_le _⟩) (fun r_145 S_145 H locs he hW => ?_)
        obtain ⟨hr_145, hs⟩ := he
        rw [hs] at hW
        have zk := nm_at zk hr_145
        refine lv_if_ne (tgt := 216) hx hb dX5_misses_148 (by decide) (fun c_148 => ?_) (fun c_148 => ?_)
        · have zk := zk.trans (if_neg c_148)
          refine lv_iinc (v := (nI (n8 + 1))) (lv' := [(8, .int (nI (n8 + 1))), (7, .int v7), (6, .int v6), (5, .int v5), (3, .int v3), (0, .ref (ad 0)), (1, .ref (ad q)), (2, .int p2)]) hx hb dX5_misses_216 hl (k := 0) rfl (nI_1 _) (by decide) rfl (fun ls hl => ?_)
          have hls := hl.1
          refine lv_goto (tgt := 122) hx hb dX5_misses_219 (by decide) ?_
          exact ih ((n8 + 1)) (v7) (v6) (v5) (v3) S _ _ _ (show (n8 + 1) ≤ 8 by omega) (show (n8 + 1) + n = 9 by omega) hnz hW (lv_sub hl [0, 1, 2, 3, 4, 5, 6, 7] rfl) hls zk
        · have zk := zk.trans (if_pos c_148)
          refine lv_iload hx hb dX5_misses_151 (lv_at hl 3 rfl) ?_
          refine lv_iload hx hb dX5_misses_153 (lv_at hl 2 rfl) ?_
          refine lv_idiv hx hb dX5_misses_155 hnz ?_
          refine lv_iload hx hb dX5_misses_156 (lv_at hl 1 rfl) ?_
          refine lv_iload hx hb dX5_misses_158 (lv_at hl 3 rfl) ?_
          refine lv_iload hx hb dX5_misses_160 (lv_at hl 2 rfl) ?_
          refine lv_irem hx hb dX5_misses_162 hnz ?_
          refine lv_icmp_ge (tgt := 170) hx hb dX5_misses_163 (by decide) (fun c_163 => ?_) (fun c_163 => ?_)
          · have zk := zk.trans (if_pos c_163)
            refine lv_iconst (v := 0) hx hb dX5_misses_170 (by decide) ?_
            refine lv_iadd hx hb dX5_misses_171 ?_
            refine lv_topi (fun x_172 ex_172 => ?_)
            have zk := nm_at zk ex_172
            refine lv_istore (lv' := [(9, .int x_172), (8, .int (nI n8)), (7, .int v7), (6, .int v6), (5, .int v5), (3, .int v3), (0, .ref (ad 0)), (1, .ref (ad q)), (2, .int p2)]) hx hb dX5_misses_172 hl (by decide) rfl (fun ls hl => ?_)
            have hls := hl.1
            refine lv_aload_n hx hb dX5_misses_174 rfl (lv_at hl 7 rfl) ?_
            refine lv_bipush (v := 125) hx hb dX5_misses_175 (by decide) ?_
            refine lv_bipush (v := 8) hx hb dX5_misses_177 (by decide) ?_
            refine lv_iload_n hx hb dX5_misses_179 rfl (lv_at hl 8 rfl) ?_
            refine lv_imul hx hb dX5_misses_180 ?_
            refine lv_iadd hx hb dX5_misses_181 ?_
            refine lv_iload hx hb dX5_misses_182 (lv_at hl 1 rfl) ?_
            refine lv_iadd hx hb dX5_misses_184 ?_
            refine lv_dup2_11 hx hb dX5_misses_185 rfl rfl ?_
            refine x_iald B hW (hqq hq) (cM_q hq) (isN_add (isN_add (isN_lit 125 (by decide)) (isN_mul (isN_lit 8 (by decide)) (isN_var h2 (by decide)) (by decide)) (by decide)) (isN_nI hb_c_126 (by decide)) (by decide)) (by decide) (by decide) dX5_misses_186 ?_
            refine lv_iload hx hb dX5_misses_187 (lv_at hl 0 rfl) ?_
            refine lv_iadd hx hb dX5_misses_189 ?_
            refine x_iast B hW (hqq hq) (fun _ => (cM_q hq)) (isN_add (isN_add (isN_lit 125 (by decide)) (isN_mul (isN_lit 8 (by decide)) (isN_var h2 (by decide)) (by decide)) (by decide)) (isN_nI hb_c_126 (by decide)) (by decide)) (by decide) (by decide) dX5_misses_190 (fun H locs S_190 he_190 hW => ?_)
            have zk := nm_at zk he_190
            refine lv_aload_n hx hb dX5_misses_191 rfl (lv_at hl 7 rfl) ?_
            refine lv_iload hx hb dX5_misses_192 (lv_at hl 1 rfl) ?_
            refine lv_bipush (v := 13) hx hb dX5_misses_194 (by decide) ?_
            refine lv_iload hx hb dX5_misses_196 (lv_at hl 0 rfl) ?_
            refine x_callv hW (x_runS B hW (As := [.ref (ad q), .int (nI n8), .int 13, .int x_172]) (rest := []) (c_X5_adds (D := D) (ad := ad) l _ S_190 q (nI n8) 13 x_172 hq (isN_vin (isN_nI hb_c_126 (by decide)) (by decide) (by decide)) (isN_vin (isN_lit 13 (by decide)) (by decide) (by decide))) (va_cwS 4 B.1.2.2.2.2 gX5_misses_X5_adds rfl rfl rfl hd_X5_adds.2 ⟨Nat.le_of_ble_eq_true rfl, Nat.le_of_ble_eq_true rfl⟩) rfl hls (Nat.le_of_ble_eq_true rfl) dX5_misses_198 ⟨Nat.zero_le _, Nat.zero_le _⟩) (fun S_198 H locs he hW => ?_)
            have he_198 := he
            have zk := nm_at zk he_198
            refine lv_aload_n hx hb dX5_misses_201 rfl (lv_at hl 6 rfl) ?_
            refine x_get B hW (by decide) cM_o cls5 hin_X5 12 (by decide) (v := .ref (ad 6)) rfl k_25 dX5_misses_202 ?_
            refine lv_iload hx hb dX5_misses_205 (lv_at hl 1 rfl) ?_
            refine lv_dup2_11 hx hb dX5_misses_207 rfl rfl ?_
            refine x_iald B hW (by decide) cM_6 (isN_nI hb_c_126 (by decide)) (by decide) (by decide) dX5_misses_208 ?_
            refine lv_iload hx hb dX5_misses_209 (lv_at hl 0 rfl) ?_
            refine lv_iadd hx hb dX5_misses_211 ?_
            refine x_iast B hW (by decide) (fun _ => cM_6) (isN_nI hb_c_126 (by decide)) (by decide) (by decide) dX5_misses_212 (fun H locs S_212 he_212 hW => ?_)
            have zk := nm_at zk he_212
            obtain ⟨x_213, ex_213⟩ : ∃ y : Int32, y = v7 + 1 := ⟨_, rfl⟩
            have zk := nm_at zk ex_213
            refine lv_iinc (v := x_213) (lv' := [(7, .int x_213), (9, .int x_172), (8, .int (nI n8)), (6, .int v6), (5, .int v5), (3, .int v3), (0, .ref (ad 0)), (1, .ref (ad q)), (2, .int p2)]) hx hb dX5_misses_213 hl (k := 2) rfl (by rw [ex_213]; rfl) (by decide) rfl (fun ls hl => ?_)
            have hls := hl.1
            refine lv_iinc (v := (nI (n8 + 1))) (lv' := [(8, .int (nI (n8 + 1))), (7, .int x_213), (9, .int x_172), (6, .int v6), (5, .int v5), (3, .int v3), (0, .ref (ad 0)), (1, .ref (ad q)), (2, .int p2)]) hx hb dX5_misses_216 hl (k := 2) rfl (nI_1 _) (by decide) rfl (fun ls hl => ?_)
            have hls := hl.1
            refine lv_goto (tgt := 122) hx hb dX5_misses_219 (by decide) ?_
            exact ih ((n8 + 1)) (x_213) (v6) (v5) (v3) S_212 _ _ _ (show (n8 + 1) ≤ 8 by omega) (show (n8 + 1) + n = 9 by omega) hnz hW (lv_sub hl [0, 1, 3, 4, 5, 6, 7, 8] rfl) hls zk
          · have zk := zk.trans (if_neg c_163)
            refine lv_iconst (v := 1) hx hb dX5_misses_166 (by decide) ?_
            refine lv_goto (tgt := 171) hx hb dX5_misses_167 (by decide) ?_
            refine lv_iadd hx hb dX5_misses_171 ?_
            refine lv_topi (fun x_172 ex_172 => ?_)
            have zk := nm_at zk ex_172
            refine lv_istore (lv' := [(9, .int x_172), (8, .int (nI n8)), (7, .int v7), (6, .int v6), (5, .int v5), (3, .int v3), (0, .ref (ad 0)), (1, .ref (ad q)), (2, .int p2)]) hx hb dX5_misses_172 hl (by decide) rfl (fun ls hl => ?_)
            have hls := hl.1
            refine lv_aload_n hx hb dX5_misses_174 rfl (lv_at hl 7 rfl) ?_
            refine lv_bipush (v := 125) hx hb dX5_misses_175 (by decide) ?_
            refine lv_bipush (v := 8) hx hb dX5_misses_177 (by decide) ?_
            refine lv_iload_n hx hb dX5_misses_179 rfl (lv_at hl 8 rfl) ?_
            refine lv_imul hx hb dX5_misses_180 ?_
            refine lv_iadd hx hb dX5_misses_181 ?_
            refine lv_iload hx hb dX5_misses_182 (lv_at hl 1 rfl) ?_
            refine lv_iadd hx hb dX5_misses_184 ?_
            refine lv_dup2_11 hx hb dX5_misses_185 rfl rfl ?_
            refine x_iald B hW (hqq hq) (cM_q hq) (isN_add (isN_add (isN_lit 125 (by decide)) (isN_mul (isN_lit 8 (by decide)) (isN_var h2 (by decide)) (by decide)) (by decide)) (isN_nI hb_c_126 (by decide)) (by decide)) (by decide) (by decide) dX5_misses_186 ?_
            refine lv_iload hx hb dX5_misses_187 (lv_at hl 0 rfl) ?_
            refine lv_iadd hx hb dX5_misses_189 ?_
            refine x_iast B hW (hqq hq) (fun _ => (cM_q hq)) (isN_add (isN_add (isN_lit 125 (by decide)) (isN_mul (isN_lit 8 (by decide)) (isN_var h2 (by decide)) (by decide)) (by decide)) (isN_nI hb_c_126 (by decide)) (by decide)) (by decide) (by decide) dX5_misses_190 (fun H locs S_190 he_190 hW => ?_)
            have zk := nm_at zk he_190
            refine lv_aload_n hx hb dX5_misses_191 rfl (lv_at hl 7 rfl) ?_
            refine lv_iload hx hb dX5_misses_192 (lv_at hl 1 rfl) ?_
            refine lv_bipush (v := 13) hx hb dX5_misses_194 (by decide) ?_
            refine lv_iload hx hb dX5_misses_196 (lv_at hl 0 rfl) ?_
            refine x_callv hW (x_runS B hW (As := [.ref (ad q), .int (nI n8), .int 13, .int x_172]) (rest := []) (c_X5_adds (D := D) (ad := ad) l _ S_190 q (nI n8) 13 x_172 hq (isN_vin (isN_nI hb_c_126 (by decide)) (by decide) (by decide)) (isN_vin (isN_lit 13 (by decide)) (by decide) (by decide))) (va_cwS 4 B.1.2.2.2.2 gX5_misses_X5_adds rfl rfl rfl hd_X5_adds.2 ⟨Nat.le_of_ble_eq_true rfl, Nat.le_of_ble_eq_true rfl⟩) rfl hls (Nat.le_of_ble_eq_true rfl) dX5_misses_198 ⟨Nat.zero_le _, Nat.zero_le _⟩) (fun S_198 H locs he hW => ?_)
            have he_198 := he
            have zk := nm_at zk he_198
            refine lv_aload_n hx hb dX5_misses_201 rfl (lv_at hl 6 rfl) ?_
            refine x_get B hW (by decide) cM_o cls5 hin_X5 12 (by decide) (v := .ref (ad 6)) rfl k_25 dX5_misses_202 ?_
            refine lv_iload hx hb dX5_misses_205 (lv_at hl 1 rfl) ?_
            refine lv_dup2_11 hx hb dX5_misses_207 rfl rfl ?_
            refine x_iald B hW (by decide) cM_6 (isN_nI hb_c_126 (by decide)) (by decide) (by decide) dX5_misses_208 ?_
            refine lv_iload hx hb dX5_misses_209 (lv_at hl 0 rfl) ?_
            refine lv_iadd hx hb dX5_misses_211 ?_
            refine x_iast B hW (by decide) (fun _ => cM_6) (isN_nI hb_c_126 (by decide)) (by decide) (by decide) dX5_misses_212 (fun H locs S_212 he_212 hW => ?_)
            have zk := nm_at zk he_212
            obtain ⟨x_213, ex_213⟩ : ∃ y : Int32, y = v7 + 1 := ⟨_, rfl⟩
            have zk := nm_at zk ex_213
            refine lv_iinc (v := x_213) (lv' := [(7, .int x_213), (9, .int x_172), (8, .int (nI n8)), (6, .int v6), (5, .int v5), (3, .int v3), (0, .ref (ad 0)), (1, .ref (ad q)), (2, .int p2)]) hx hb dX5_misses_213 hl (k := 2) rfl (by rw [ex_213]; rfl) (by decide) rfl (fun ls hl => ?_)
            have hls := hl.1
            refine lv_iinc (v := (nI (n8 + 1))) (lv' := [(8, .int (nI (n8 + 1))), (7, .int x_213), (9, .int x_172), (6, .int v6), (5, .int v5), (3, .int v3), (0, .ref (ad 0)), (1, .ref (ad q)), (2, .int p2)]) hx hb dX5_misses_216 hl (k := 2) rfl (nI_1 _) (by decide) rfl (fun ls hl => ?_)
            have hls := hl.1
            refine lv_goto (tgt := 122) hx hb dX5_misses_219 (by decide) ?_
            exact ih ((n8 + 1)) (x_213) (v6) (v5) (v3) S_212 _ _ _ (show (n8 + 1) ≤ 8 by omega) (show (n8 + 1) + n = 9 by omega) hnz hW (lv_sub hl [0, 1, 3, 4, 5, 6, 7, 8] rfl) hls zk
set_option maxHeartbeats 4000000 in
set_option maxRecDepth 100000 in
theorem c_X5_misses {D : va_G} {ad : Nat → Nat} (l : Launch) (sz : Nat) (S : vS) (q : Nat) (p2 : Int32) (hq : q = 1 ∨ q = 2) (h2 : vp_in p2 8) : Met l yX5_misses wsX5_misses (rmD 3) (pW D 7 (cM D ad) ad sz S [.ref (ad 0), .ref (ad q), .int p2]) (va_Qi (fun (r : Int32) (S1 : vS) => (r, S1) = (x_X5_misses S q p2)) (bW D 7 (cM D ad) ad (aW 7 ad sz)) (aW 7 ad sz)) 0 0 (aW 7 ad sz) := by
  refine x_met (own := RX5) (cc := cX5_misses) (maxL := 10) (ret := (some .int)) (Qc := fun A => va_Qi (fun (r : Int32) (S1 : vS) => (r, S1) = (x_X5_misses S q p2)) (bW D 7 (cM D ad) ad A) A) rfl ⟨by decide +kernel, rfl, Nat.le_of_ble_eq_true rfl⟩ ?_
  intro p e s mm args below meth c A ls B hW hl hls
  have hx := B.1.1
  have hb := B.1.2.1
  have hin_X5 : ∀ w ∈ wsX50, w ∈ wsX5_misses := fun w h => List.mem_cons_of_mem _ (List.mem_append_right _ h)
  have k_25 := B.1.2.2.2.2 (.fieldLink RX5 25 "JointLoansModel" "shares" "[I") (by decide +kernel)
  have k_68 := B.1.2.2.2.2 (.fieldLink RX5 68 "JointLoansModel" "isUnpaid" "Z") (by decide +kernel)
  have zk := x_X5_misses.eq_1 S q p2
  have hl : lv_has ls 10 [(0, .ref (ad 0)), (1, .ref (ad q)), (2, .int p2)] := hl
  refine lv_aload_n hx hb dX5_misses_0 rfl (lv_at hl 1 rfl) ?_
  refine lv_iload_n hx hb dX5_misses_1 rfl (lv_at hl 2 rfl) ?_
  refine x_calli hW (x_runS B hW (As := [.ref (ad q), .int p2]) (rest := []) (c_X5_due (D := D) (ad := ad) l _ S q p2 hq h2) (va_cwS 2 B.1.2.2.2.2 gX5_misses_X5_due rfl rfl rfl hd_X5_due.2 ⟨Nat.le_of_ble_eq_true rfl, Nat.le_of_ble_eq_true rfl⟩) rfl hls (Nat.le_of_ble_eq_true rfl) dX5_misses_2 ⟨Nat.zero_le _, Nat.zero_le _⟩) (fun r_2 S_2 H locs he hW => ?_)
  obtain ⟨hr_2, hs⟩ := he
  rw [hs] at hW
  have zk := nm_at zk hr_2
  refine lv_istore_n (lv' := [(3, .int r_2), (0, .ref (ad 0)), (1, .ref (ad q)), (2, .int p2)]) hx hb dX5_misses_5 rfl hl (by decide) rfl (fun ls hl => ?_)
  have hls := hl.1
  refine lv_aload_n hx hb dX5_misses_6 rfl (lv_at hl 2 rfl) ?_
  refine lv_iload_n hx hb dX5_misses_7 rfl (lv_at hl 3 rfl) ?_
  refine lv_bipush (v := 8) hx hb dX5_misses_8 (by decide) ?_
  refine lv_iconst (v := 1) hx hb dX5_misses_10 (by decide) ?_
  refine x_callv hW (x_runS B hW (As := [.ref (ad q), .int p2, .int 8, .int 1]) (rest := []) (c_X5_adds (D := D) (ad := ad) l _ S q p2 8 1 hq h2 (isN_vin (isN_lit 8 (by decide)) (by decide) (by decide))) (va_cwS 4 B.1.2.2.2.2 gX5_misses_X5_adds rfl rfl rfl hd_X5_adds.2 ⟨Nat.le_of_ble_eq_true rfl, Nat.le_of_ble_eq_true rfl⟩) rfl hls (Nat.le_of_ble_eq_true rfl) dX5_misses_11 ⟨Nat.zero_le _, Nat.zero_le _⟩) (fun S_11 H locs he hW => ?_)
  have he_11 := he
  have zk := nm_at zk he_11
  refine lv_aload_n hx hb dX5_misses_14 rfl (lv_at hl 2 rfl) ?_
  refine lv_iload_n hx hb dX5_misses_15 rfl (lv_at hl 3 rfl) ?_
  refine lv_bipush (v := 9) hx hb dX5_misses_16 (by decide) ?_
  refine lv_iconst (v := 1) hx hb dX5_misses_18 (by decide) ?_
  refine x_callv hW (x_runS B hW (As := [.ref (ad q), .int p2, .int 9, .int 1]) (rest := []) (c_X5_adds (D := D) (ad := ad) l _ S_11 q p2 9 1 hq h2 (isN_vin (isN_lit 9 (by decide)) (by decide) (by decide))) (va_cwS 4 B.1.2.2.2.2 gX5_misses_X5_adds rfl rfl rfl hd_X5_adds.2 ⟨Nat.le_of_ble_eq_true rfl, Nat.le_of_ble_eq_true rfl⟩) rfl hls (Nat.le_of_ble_eq_true rfl) dX5_misses_19 ⟨Nat.zero_le _, Nat.zero_le _⟩) (fun S_19 H locs he hW => ?_)
  have he_19 := he
  have zk := nm_at zk he_19
  refine lv_aload_n hx hb dX5_misses_22 rfl (lv_at hl 2 rfl) ?_
  refine lv_bipush (v := 12) hx hb dX5_misses_23 (by decide) ?_
  refine lv_dup2_11 hx hb dX5_misses_25 rfl rfl ?_
  refine x_iald B hW (hqq hq) (cM_q hq) (isN_lit 12 (by decide)) (by decide) (by decide) dX5_misses_26 ?_
  refine lv_iconst (v := 1) hx hb dX5_misses_27 (by decide) ?_
  refine lv_iadd hx hb dX5_misses_28 ?_
  refine x_iast B hW (hqq hq) (fun _ => (cM_q hq)) (isN_lit 12 (by decide)) (by decide) (by decide) dX5_misses_29 (fun H locs S_29 he_29 hW => ?_)
  have zk := nm_at zk he_29
  refine lv_aload_n hx hb dX5_misses_30 rfl (lv_at hl 2 rfl) ?_
  refine lv_bipush (v := 8) hx hb dX5_misses_31 (by decide) ?_
  refine x_iald B hW (hqq hq) (cM_q hq) (isN_lit 8 (by decide)) (by decide) (by decide) dX5_misses_33 ?_
  refine lv_iload_n hx hb dX5_misses_34 rfl (lv_at hl 0 rfl) ?_
  refine lv_icmp_ge (tgt := 45) hx hb dX5_misses_35 (by decide) (fun c_35 => ?_) (fun c_35 => ?_)
  · have zk := zk.trans (if_pos c_35)
    refine lv_iload_n hx hb dX5_misses_45 rfl (lv_at hl 0 rfl) ?_
    refine lv_istore (lv' := [(4, .int r_2), (3, .int r_2), (0, .ref (ad 0)), (1, .ref (ad q)), (2, .int p2)]) hx hb dX5_misses_46 hl (by decide) rfl (fun ls hl => ?_)
    have hls := hl.1
    refine lv_aload_n hx hb dX5_misses_48 rfl (lv_at hl 3 rfl) ?_
    refine lv_bipush (v := 8) hx hb dX5_misses_49 (by decide) ?_
    refine lv_dup2_11 hx hb dX5_misses_51 rfl rfl ?_
    refine x_iald B hW (hqq hq) (cM_q hq) (isN_lit 8 (by decide)) (by decide) (by decide) dX5_misses_52 ?_
    refine lv_iload hx hb dX5_misses_53 (lv_at hl 0 rfl) ?_
    refine lv_isub hx hb dX5_misses_55 ?_
    refine x_iast B hW (hqq hq) (fun _ => (cM_q hq)) (isN_lit 8 (by decide)) (by decide) (by decide) dX5_misses_56 (fun H locs S_56 he_56 hW => ?_)
    have zk := nm_at zk he_56
    refine lv_aload_n hx hb dX5_misses_57 rfl (lv_at hl 3 rfl) ?_
    refine lv_iload_n hx hb dX5_misses_58 rfl (lv_at hl 4 rfl) ?_
    refine lv_bipush (v := 11) hx hb dX5_misses_59 (by decide) ?_
    refine lv_iload hx hb dX5_misses_61 (lv_at hl 0 rfl) ?_
    refine x_callv hW (x_runS B hW (As := [.ref (ad q), .int p2, .int 11, .int r_2]) (rest := []) (c_X5_adds (D := D) (ad := ad) l _ S_56 q p2 11 r_2 hq h2 (isN_vin (isN_lit 11 (by decide)) (by decide) (by decide))) (va_cwS 4 B.1.2.2.2.2 gX5_misses_X5_adds rfl rfl rfl hd_X5_adds.2 ⟨Nat.le_of_ble_eq_true rfl, Nat.le_of_ble_eq_true rfl⟩) rfl hls (Nat.le_of_ble_eq_true rfl) dX5_misses_63 ⟨Nat.zero_le _, Nat.zero_le _⟩) (fun S_63 H locs he hW => ?_)
    have he_63 := he
    have zk := nm_at zk he_63
    refine lv_iload_n hx hb dX5_misses_66 rfl (lv_at hl 1 rfl) ?_
    refine lv_iload hx hb dX5_misses_67 (lv_at hl 0 rfl) ?_
    refine lv_isub hx hb dX5_misses_69 ?_
    refine lv_topi (fun x_70 ex_70 => ?_)
    have zk := nm_at zk ex_70
    refine lv_istore (lv' := [(5, .int x_70), (4, .int r_2), (3, .int r_2), (0, .ref (ad 0)), (1, .ref (ad q)), (2, .int p2)]) hx hb dX5_misses_70 hl (by decide) rfl (fun ls hl => ?_)
    have hls := hl.1
    refine lv_aload_n hx hb dX5_misses_72 rfl (lv_at hl 4 rfl) ?_
    refine x_calli hW (x_runS B hW (As := [.ref (ad q)]) (rest := []) (c_X5_helpers (D := D) (ad := ad) l _ S_63 q hq) (va_cwS 1 B.1.2.2.2.2 gX5_misses_X5_helpers rfl rfl rfl hd_X5_helpers.2 ⟨Nat.le_of_ble_eq_true rfl, Nat.le_of_ble_eq_true rfl⟩) rfl hls (Nat.le_of_ble_eq_true rfl) dX5_misses_73 ⟨Nat.zero_le _, Nat.zero_le _⟩) (fun r_73 S_73 H locs he hW => ?_)
    obtain ⟨hr_73, hs⟩ := he
    rw [hs] at hW
    have zk := nm_at zk hr_73
    refine lv_istore (lv' := [(6, .int r_73), (5, .int x_70), (4, .int r_2), (3, .int r_2), (0, .ref (ad 0)), (1, .ref (ad q)), (2, .int p2)]) hx hb dX5_misses_76 hl (by decide) rfl (fun ls hl => ?_)
    have hls := hl.1
    refine lv_iload hx hb dX5_misses_78 (lv_at hl 0 rfl) ?_
    refine lv_if_ne (tgt := 116) hx hb dX5_misses_80 (by decide) (fun c_80 => ?_) (fun c_80 => ?_)
    · have zk := zk.trans (if_neg c_80)
      refine lv_iconst (v := 0) hx hb dX5_misses_116 (by decide) ?_
      refine lv_istore (lv' := [(7, .int 0), (6, .int r_73), (5, .int x_70), (4, .int r_2), (3, .int r_2), (0, .ref (ad 0)), (1, .ref (ad q)), (2, .int p2)]) hx hb dX5_misses_117 hl (by decide) rfl (fun ls hl => ?_)
      have hls := hl.1
      refine lv_iconst (v := 0) hx hb dX5_misses_119 (by decide) ?_
      refine lv_istore (lv' := [(8, .int 0), (7, .int 0), (6, .int r_73), (5, .int x_70), (4, .int r_2), (3, .int r_2), (0, .ref (ad 0)), (1, .ref (ad q)), (2, .int p2)]) hx hb dX5_misses_120 hl (by decide) rfl (fun ls hl => ?_)
      have hls := hl.1
      exact w_X5_misses_L122 l B  _ q p2 hq h2 (9) (0) (0) (r_73) (x_70) (r_2) S_63 _ _ _ (show 0 ≤ 8 by omega) (show 0 + (9) = 9 by omega) c_80 hW (lv_sub hl [0, 1, 2, 3, 5, 6, 7, 8] rfl) hls zk
    · have zk := zk.trans (if_pos c_80)
      refine lv_aload_n hx hb dX5_misses_83 rfl (lv_at hl 5 rfl) ?_
      refine lv_iload_n hx hb dX5_misses_84 rfl (lv_at hl 6 rfl) ?_
      refine lv_bipush (v := 10) hx hb dX5_misses_85 (by decide) ?_
      refine lv_iload hx hb dX5_misses_87 (lv_at hl 1 rfl) ?_
      refine x_callv hW (x_runS B hW (As := [.ref (ad q), .int p2, .int 10, .int x_70]) (rest := []) (c_X5_adds (D := D) (ad := ad) l _ S_63 q p2 10 x_70 hq h2 (isN_vin (isN_lit 10 (by decide)) (by decide) (by decide))) (va_cwS 4 B.1.2.2.2.2 gX5_misses_X5_adds rfl rfl rfl hd_X5_adds.2 ⟨Nat.le_of_ble_eq_true rfl, Nat.le_of_ble_eq_true rfl⟩) rfl hls (Nat.le_of_ble_eq_true rfl) dX5_misses_89 ⟨Nat.zero_le _, Nat.zero_le _⟩) (fun S_89 H locs he hW => ?_)
      have he_89 := he
      have zk := nm_at zk he_89
      refine lv_aload_n hx hb dX5_misses_92 rfl (lv_at hl 4 rfl) ?_
      refine lv_aload_n hx hb dX5_misses_93 rfl (lv_at hl 4 rfl) ?_
      refine x_get B hW (by decide) cM_o cls5 hin_X5 13 (by decide) (v := .int (bz (S_89 0 13))) rfl k_68 dX5_misses_94 ?_
      refine lv_if_ne (tgt := 105) hx hb dX5_misses_97 (by decide) (fun c_97 => ?_) (fun c_97 => ?_)
      · have zk := zk.trans (if_neg c_97)
        refine lv_iconst (v := 1) hx hb dX5_misses_105 (by decide) ?_
        refine lv_goto (tgt := 110) hx hb dX5_misses_106 (by decide) ?_
        refine x_put B hW (by decide) cls5 hin_X5 13 (by decide) cM_o rfl (ty := .boolean) (by decide +kernel) (nar_z (Or.inr rfl)) (fit_z (Or.inr rfl)) (Nat.le_of_ble_eq_true rfl) (j := 13) (pO_13 (Or.inr rfl)) k_68 dX5_misses_110 (fun H locs S_110 he_110 hW => ?_)
        have zk := nm_at zk he_110
        have hf_S_110_0_13_2 : vp_in (S_110 0 13) 2 := by rw [he_110, st_at, if_pos ⟨rfl, rfl⟩]; exact isN_vin (isN_lit 1 (by decide)) (by decide) (by decide)
        refine lv_iload hx hb dX5_misses_113 (lv_at hl 2 rfl) ?_
        exact x_iret B hW zk.symm dX5_misses_115
      · have zk := zk.trans (if_pos c_97)
        refine lv_iload hx hb dX5_misses_100 (lv_at hl 1 rfl) ?_
        refine lv_if_le (tgt := 109) hx hb dX5_misses_102 (by decide) (fun c_102 => ?_) (fun c_102 => ?_)
        · have zk := zk.trans (if_pos c_102)
          refine lv_iconst (v := 0) hx hb dX5_misses_109 (by decide) ?_
          refine x_put B hW (by decide) cls5 hin_X5 13 (by decide) cM_o rfl (ty := .boolean) (by decide +kernel) (nar_z (Or.inl rfl)) (fit_z (Or.inl rfl)) (Nat.le_of_ble_eq_true rfl) (j := 13) (pO_13 (Or.inl rfl)) k_68 dX5_misses_110 (fun H locs S_110 he_110 hW => ?_)
          have zk := nm_at zk he_110
          have hf_S_110_0_13_1 : vp_in (S_110 0 13) 1 := by rw [he_110, st_at, if_pos ⟨rfl, rfl⟩]; exact isN_vin (isN_lit 0 (by decide)) (by decide) (by decide)
          refine lv_iload hx hb dX5_misses_113 (lv_at hl 2 rfl) ?_
          exact x_iret B hW zk.symm dX5_misses_115
        · have zk := zk.trans (if_neg c_102)
          refine lv_iconst (v := 1) hx hb dX5_misses_105 (by decide) ?_
          refine lv_goto (tgt := 110) hx hb dX5_misses_106 (by decide) ?_
          refine x_put B hW (by decide) cls5 hin_X5 13 (by decide) cM_o rfl (ty := .boolean) (by decide +kernel) (nar_z (Or.inr rfl)) (fit_z (Or.inr rfl)) (Nat.le_of_ble_eq_true rfl) (j := 13) (pO_13 (Or.inr rfl)) k_68 dX5_misses_110 (fun H locs S_110 he_110 hW => ?_)
          have zk := nm_at zk he_110
          have hf_S_110_0_13_2 : vp_in (S_110 0 13) 2 := by rw [he_110, st_at, if_pos ⟨rfl, rfl⟩]; exact isN_vin (isN_lit 1 (by decide)) (by decide) (by decide)
          refine lv_iload hx hb dX5_misses_113 (lv_at hl 2 rfl) ?_
          exact x_iret B hW zk.symm dX5_misses_115
  · have zk := zk.trans (if_neg c_35)
    refine lv_aload_n hx hb dX5_misses_38 rfl (lv_at hl 2 rfl) ?_
    refine lv_bipush (v := 8) hx hb dX5_misses_39 (by decide) ?_
    refine x_iald B hW (hqq hq) (cM_q hq) (isN_lit 8 (by decide)) (by decide) (by decide) dX5_misses_41 ?_
    refine lv_goto (tgt := 46) hx hb dX5_misses_42 (by decide) ?_
    refine lv_topi (fun x_46 ex_46 => ?_)
    have zk := nm_at zk ex_46
    refine lv_istore (lv' := [(4, .int x_46), (3, .int r_2), (0, .ref (ad 0)), (1, .ref (ad q)), (2, .int p2)]) hx hb dX5_misses_46 hl (by decide) rfl (fun ls hl => ?_)
    have hls := hl.1
    refine lv_aload_n hx hb dX5_misses_48 rfl (lv_at hl 3 rfl) ?_
    refine lv_bipush (v := 8) hx hb dX5_misses_49 (by decide) ?_
    refine lv_dup2_11 hx hb dX5_misses_51 rfl rfl ?_
    refine x_iald B hW (hqq hq) (cM_q hq) (isN_lit 8 (by decide)) (by decide) (by decide) dX5_misses_52 ?_
    refine lv_iload hx hb dX5_misses_53 (lv_at hl 0 rfl) ?_
    refine lv_isub hx hb dX5_misses_55 ?_
    refine x_iast B hW (hqq hq) (fun _ => (cM_q hq)) (isN_lit 8 (by decide)) (by decide) (by decide) dX5_misses_56 (fun H locs S_56 he_56 hW => ?_)
    have zk := nm_at zk he_56
    refine lv_aload_n hx hb dX5_misses_57 rfl (lv_at hl 3 rfl) ?_
    refine lv_iload_n hx hb dX5_misses_58 rfl (lv_at hl 4 rfl) ?_
    refine lv_bipush (v := 11) hx hb dX5_misses_59 (by decide) ?_
    refine lv_iload hx hb dX5_misses_61 (lv_at hl 0 rfl) ?_
    refine x_callv hW (x_runS B hW (As := [.ref (ad q), .int p2, .int 11, .int x_46]) (rest := []) (c_X5_adds (D := D) (ad := ad) l _ S_56 q p2 11 x_46 hq h2 (isN_vin (isN_lit 11 (by decide)) (by decide) (by decide))) (va_cwS 4 B.1.2.2.2.2 gX5_misses_X5_adds rfl rfl rfl hd_X5_adds.2 ⟨Nat.le_of_ble_eq_true rfl, Nat.le_of_ble_eq_true rfl⟩) rfl hls (Nat.le_of_ble_eq_true rfl) dX5_misses_63 ⟨Nat.zero_le _, Nat.zero_le _⟩) (fun S_63 H locs he hW => ?_)
    have he_63 := he
    have zk := nm_at zk he_63
    refine lv_iload_n hx hb dX5_misses_66 rfl (lv_at hl 1 rfl) ?_
    refine lv_iload hx hb dX5_misses_67 (lv_at hl 0 rfl) ?_
    refine lv_isub hx hb dX5_misses_69 ?_
    refine lv_topi (fun x_70 ex_70 => ?_)
    have zk := nm_at zk ex_70
    refine lv_istore (lv' := [(5, .int x_70), (4, .int x_46), (3, .int r_2), (0, .ref (ad 0)), (1, .ref (ad q)), (2, .int p2)]) hx hb dX5_misses_70 hl (by decide) rfl (fun ls hl => ?_)
    have hls := hl.1
    refine lv_aload_n hx hb dX5_misses_72 rfl (lv_at hl 4 rfl) ?_
    refine x_calli hW (x_runS B hW (As := [.ref (ad q)]) (rest := []) (c_X5_helpers (D := D) (ad := ad) l _ S_63 q hq) (va_cwS 1 B.1.2.2.2.2 gX5_misses_X5_helpers rfl rfl rfl hd_X5_helpers.2 ⟨Nat.le_of_ble_eq_true rfl, Nat.le_of_ble_eq_true rfl⟩) rfl hls (Nat.le_of_ble_eq_true rfl) dX5_misses_73 ⟨Nat.zero_le _, Nat.zero_le _⟩) (fun r_73 S_73 H locs he hW => ?_)
    obtain ⟨hr_73, hs⟩ := he
    rw [hs] at hW
    have zk := nm_at zk hr_73
    refine lv_istore (lv' := [(6, .int r_73), (5, .int x_70), (4, .int x_46), (3, .int r_2), (0, .ref (ad 0)), (1, .ref (ad q)), (2, .int p2)]) hx hb dX5_misses_76 hl (by decide) rfl (fun ls hl => ?_)
    have hls := hl.1
    refine lv_iload hx hb dX5_misses_78 (lv_at hl 0 rfl) ?_
    refine lv_if_ne (tgt := 116) hx hb dX5_misses_80 (by decide) (fun c_80 => ?_) (fun c_80 => ?_)
    · have zk := zk.trans (if_neg c_80)
      refine lv_iconst (v := 0) hx hb dX5_misses_116 (by decide) ?_
      refine lv_istore (lv' := [(7, .int 0), (6, .int r_73), (5, .int x_70), (4, .int x_46), (3, .int r_2), (0, .ref (ad 0)), (1, .ref (ad q)), (2, .int p2)]) hx hb dX5_misses_117 hl (by decide) rfl (fun ls hl => ?_)
      have hls := hl.1
      refine lv_iconst (v := 0) hx hb dX5_misses_119 (by decide) ?_
      refine lv_istore (lv' := [(8, .int 0), (7, .int 0), (6, .int r_73), (5, .int x_70), (4, .int x_46), (3, .int r_2), (0, .ref (ad 0)), (1, .ref (ad q)), (2, .int p2)]) hx hb dX5_misses_120 hl (by decide) rfl (fun ls hl => ?_)
      have hls := hl.1
      exact w_X5_misses_L122 l B  _ q p2 hq h2 (9) (0) (0) (r_73) (x_70) (r_2) S_63 _ _ _ (show 0 ≤ 8 by omega) (show 0 + (9) = 9 by omega) c_80 hW (lv_sub hl [0, 1, 2, 3, 5, 6, 7, 8] rfl) hls zk
    · have zk := zk.trans (if_pos c_80)
      refine lv_aload_n hx hb dX5_misses_83 rfl (lv_at hl 5 rfl) ?_
      refine lv_iload_n hx hb dX5_misses_84 rfl (lv_at hl 6 rfl) ?_
      refine lv_bipush (v := 10) hx hb dX5_misses_85 (by decide) ?_
      refine lv_iload hx hb dX5_misses_87 (lv_at hl 1 rfl) ?_
      refine x_callv hW (x_runS B hW (As := [.ref (ad q), .int p2, .int 10, .int x_70]) (rest := []) (c_X5_adds (D := D) (ad := ad) l _ S_63 q p2 10 x_70 hq h2 (isN_vin (isN_lit 10 (by decide)) (by decide) (by decide))) (va_cwS 4 B.1.2.2.2.2 gX5_misses_X5_adds rfl rfl rfl hd_X5_adds.2 ⟨Nat.le_of_ble_eq_true rfl, Nat.le_of_ble_eq_true rfl⟩) rfl hls (Nat.le_of_ble_eq_true rfl) dX5_misses_89 ⟨Nat.zero_le _, Nat.zero_le _⟩) (fun S_89 H locs he hW => ?_)
      have he_89 := he
      have zk := nm_at zk he_89
      refine lv_aload_n hx hb dX5_misses_92 rfl (lv_at hl 4 rfl) ?_
      refine lv_aload_n hx hb dX5_misses_93 rfl (lv_at hl 4 rfl) ?_
      refine x_get B hW (by decide) cM_o cls5 hin_X5 13 (by decide) (v := .int (bz (S_89 0 13))) rfl k_68 dX5_misses_94 ?_
      refine lv_if_ne (tgt := 105) hx hb dX5_misses_97 (by decide) (fun c_97 => ?_) (fun c_97 => ?_)
      · have zk := zk.trans (if_neg c_97)
        refine lv_iconst (v := 1) hx hb dX5_misses_105 (by decide) ?_
        refine lv_goto (tgt := 110) hx hb dX5_misses_106 (by decide) ?_
        refine x_put B hW (by decide) cls5 hin_X5 13 (by decide) cM_o rfl (ty := .boolean) (by decide +kernel) (nar_z (Or.inr rfl)) (fit_z (Or.inr rfl)) (Nat.le_of_ble_eq_true rfl) (j := 13) (pO_13 (Or.inr rfl)) k_68 dX5_misses_110 (fun H locs S_110 he_110 hW => ?_)
        have zk := nm_at zk he_110
        have hf_S_110_0_13_2 : vp_in (S_110 0 13) 2 := by rw [he_110, st_at, if_pos ⟨rfl, rfl⟩]; exact isN_vin (isN_lit 1 (by decide)) (by decide) (by decide)
        refine lv_iload hx hb dX5_misses_113 (lv_at hl 2 rfl) ?_
        exact x_iret B hW zk.symm dX5_misses_115
      · have zk := zk.trans (if_pos c_97)
        refine lv_iload hx hb dX5_misses_100 (lv_at hl 1 rfl) ?_
        refine lv_if_le (tgt := 109) hx hb dX5_misses_102 (by decide) (fun c_102 => ?_) (fun c_102 => ?_)
        · have zk := zk.trans (if_pos c_102)
          refine lv_iconst (v := 0) hx hb dX5_misses_109 (by decide) ?_
          refine x_put B hW (by decide) cls5 hin_X5 13 (by decide) cM_o rfl (ty := .boolean) (by decide +kernel) (nar_z (Or.inl rfl)) (fit_z (Or.inl rfl)) (Nat.le_of_ble_eq_true rfl) (j := 13) (pO_13 (Or.inl rfl)) k_68 dX5_misses_110 (fun H locs S_110 he_110 hW => ?_)
          have zk := nm_at zk he_110
          have hf_S_110_0_13_1 : vp_in (S_110 0 13) 1 := by rw [he_110, st_at, if_pos ⟨rfl, rfl⟩]; exact isN_vin (isN_lit 0 (by decide)) (by decide) (by decide)
          refine lv_iload hx hb dX5_misses_113 (lv_at hl 2 rfl) ?_
          exact x_iret B hW zk.symm dX5_misses_115
        · have zk := zk.trans (if_neg c_102)
          refine lv_iconst (v := 1) hx hb dX5_misses_105 (by decide) ?_
          refine lv_goto (tgt := 110) hx hb dX5_misses_106 (by decide) ?_
          refine x_put B hW (by decide) cls5 hin_X5 13 (by decide) cM_o rfl (ty := .boolean) (by decide +kernel) (nar_z (Or.inr rfl)) (fit_z (Or.inr rfl)) (Nat.le_of_ble_eq_true rfl) (j := 13) (pO_13 (Or.inr rfl)) k_68 dX5_misses_110 (fun H locs S_110 he_110 hW => ?_)
          have zk := nm_at zk he_110
          have hf_S_110_0_13_2 : vp_in (S_110 0 13) 2 := by rw [he_110, st_at, if_pos ⟨rfl, rfl⟩]; exact isN_vin (isN_lit 1 (by decide)) (by decide) (by decide)
          refine lv_iload hx hb dX5_misses_113 (lv_at hl 2 rfl) ?_
          exact x_iret B hW zk.symm dX5_misses_115
theorem fr_misses_L {q q0 j0 : Nat} {p2 : Int32} (hj : q0 = q → j0 < 8 ∨ j0 = 9) (h6 : q0 ≠ 6) : ∀ (n : Nat) (S : vS) (k : Nat) (v7 v6 v5 v3 : Int32), (x_X5_misses_L122 n S q p2 k v7 v6 v5 v3).2 q0 j0 = S q0 j0 := by
  intro n
  induction n with
  | zero => intros; rfl
  | succ n ih =>
    intro S k v7 v6 v5 v3
    rw [x_X5_misses_L122]
    try simp only [nm_eq, nmp_eq]
    repeat' split
    all_goals first
      | rfl
      | exact ih _ _ _ _ _ _
      | (simp only [ih, st_at, e_adds]
         repeat rw [if_neg (by rintro ⟨a, b⟩; first | exact h6 a | (have := hj a; omega))])
theorem fr_misses {S : vS} {q q0 j0 : Nat} {p2 : Int32} (hj : q0 = q → j0 < 8) (h6 : q0 ≠ 6) (h0 : q0 = 0 → j0 ≠ 13) : (x_X5_misses S q p2).2 q0 j0 = S q0 j0 := by
  unfold x_X5_misses
  try simp only [nm_eq, nmp_eq]
  repeat' split
  all_goals (
    try rw [fr_misses_L (fun z => Or.inl (hj z)) h6]
    simp only [st_at, e_adds]
    repeat rw [if_neg (by rintro ⟨a, b⟩; first | exact h6 a | exact h0 a b | (have := hj a; omega))])
theorem fr_misses9 {S : vS} {q q0 : Nat} {p2 : Int32} (h6 : q0 ≠ 6) (h0 : q0 = 0 → 9 ≠ 13) : (x_X5_misses S q p2).2 q0 9 = S q0 9 := by
  unfold x_X5_misses
  try simp only [nm_eq, nmp_eq]
  repeat' split
  all_goals (
    try rw [fr_misses_L (fun _ => Or.inr rfl) h6]
    simp only [st_at, e_adds]
    repeat rw [if_neg (by rintro ⟨a, b⟩; first | exact h6 a | exact h0 a b | omega)])

def x_X5_loanEnds_L2 : Nat → vS → Nat → Int32 → Nat → vS
  | 0, S, _, _, _ => S
  | n + 1, S, q, p2, n2 => if 6 < (nI n2) then S else nm (st S q ((13 + (14 * p2.toNatClampNeg)) + n2) 0) (fun S_19 => x_X5_loanEnds_L2 n S_19 q p2 ((n2 + 1)))
def x_X5_loanEnds (S : vS) (q : Nat) (p2 : Int32) : vS := x_X5_loanEnds_L2 (6) S q p2 (2)
theorem hd_X5_loanEnds : yX5_loanEnds.cls = RX5 ∧ yX5_loanEnds.cls ≠ "java/lang/invoke/MethodHandle" ∧ yX5_loanEnds.cls ≠ "java/lang/invoke/VarHandle" ∧ (parseMethodDescriptor yX5_loanEnds.desc).map (fun d => d.parameters.length) = some 2 := by decide +kernel
set_option maxHeartbeats 4000000 in
set_option maxRecDepth 100000 in
theorem w_X5_loanEnds_L2 {D : va_G} {ad : Nat → Nat} (l : Launch) {p : Program} {e : Env} {s : State} {mm : MethodId} {args : Array Value} {below : List Frame} {meth : Method} {c : Code} {A : Nat → Prop} (B : Cx p mm c cX5_loanEnds 3 s args wsX5_loanEnds RX5 meth none D) (z : vS) (q : Nat) (p2 : Int32) (hq : q = 1 ∨ q = 2) (h2 : vp_in p2 8) : ∀ (n : Nat) (n2 : Nat) (S : vS) (H : Heap) (locs : List Loc) (ls : Array Slot), n2 ≤ 7 → n2 + n = 8 → Wd D 7 (cM D ad) ad A s.heap S H locs → lv_has ls 3 [(2, .int (nI n2)), (0, .ref (ad q)), (1, .int p2)] → ls.size = 3 → z = x_X5_loanEnds_L2 n S q p2 n2 → W p l e (rmD 0) s mm args below meth c H locs 0 0 (MQ below (va_Qv (fun (S1 : vS) => S1 = z) (bW D 7 (cM D ad) ad A) A) args s 0 0 A) (F0 mm 2 ls []) := by
  have hx := B.1.1
  have hb := B.1.2.1
  intro n
  induction n with
  | zero =>
    intro n2 S H locs ls hle hsum
    omega
  | succ n ih =>
    intro n2 S H locs ls hle hsum hW hl hls zk
    have zk := zk.trans (x_X5_loanEnds_L2.eq_2 _ _ _ _ _ )
    refine lv_iload_n hx hb dX5_loanEnds_2 rfl (lv_at hl 0 rfl) ?_
    refine lv_bipush (v := 6) hx hb dX5_loanEnds_3 (by decide) ?_
    refine lv_icmp_gt (tgt := 26) hx hb dX5_loanEnds_5 (by decide) (fun c_5 => ?_) (fun c_5 => ?_)
    · have zk := zk.trans (if_pos c_5)
      exact x_vret B hW zk.symm dX5_loanEnds_26
    · have zk := zk.trans (if_neg c_5)
      have hb_c_5 : n2 < 7 := nI_of_nlt (by decide) c_5 (by omega)
      refine lv_aload_n hx hb dX5_loanEnds_8 rfl (lv_at hl 1 rfl) ?_
      refine lv_bipush (v := 13) hx hb dX5_loanEnds_9 (by decide) ?_
      refine lv_bipush (v := 14) hx hb dX5_loanEnds_11 (by decide) ?_
      refine lv_iload_n hx hb dX5_loanEnds_13 rfl (lv_at hl 2 rfl) ?_
      refine lv_imul hx hb dX5_loanEnds_14 ?_
      refine lv_iadd hx hb dX5_loanEnds_15 ?_
      refine lv_iload_n hx hb dX5_loanEnds_16 rfl (lv_at hl 0 rfl) ?_
      refine lv_iadd hx hb dX5_loanEnds_17 ?_
      refine lv_iconst (v := 0) hx hb dX5_loanEnds_18 (by decide) ?_
      refine x_iast B hW (hqq hq) (fun _ => (cM_q hq)) (isN_add (isN_add (isN_lit 13 (by decide)) (isN_mul (isN_lit 14 (by decide)) (isN_var h2 (by decide)) (by decide)) (by decide)) (isN_nI hb_c_5 (by decide)) (by decide)) (by decide) (by decide) dX5_loanEnds_19 (fun H locs S_19 he_19 hW => ?_)
      have zk := nm_at zk he_19
      refine lv_iinc (v := (nI (n2 + 1))) (lv' := [(2, .int (nI (n2 + 1))), (0, .ref (ad q)), (1, .int p2)]) hx hb dX5_loanEnds_20 hl (k := 0) rfl (nI_1 _) (by decide) rfl (fun ls hl => ?_)
      have hls := hl.1
      refine lv_goto (tgt := 2) hx hb dX5_loanEnds_23 (by decide) ?_
      exact ih ((n2 + 1)) S_19 _ _ _ (show (n2 + 1) ≤ 7 by omega) (show (n2 + 1) + n = 8 by omega) hW (lv_sub hl [0, 1, 2] rfl) hls zk
set_option maxHeartbeats 4000000 in
set_option maxRecDepth 100000 in
theorem c_X5_loanEnds {D : va_G} {ad : Nat → Nat} (l : Launch) (sz : Nat) (S : vS) (q : Nat) (p2 : Int32) (hq : q = 1 ∨ q = 2) (h2 : vp_in p2 8) : Met l yX5_loanEnds wsX5_loanEnds (rmD 0) (pW D 7 (cM D ad) ad sz S [.ref (ad q), .int p2]) (va_Qv (fun (S1 : vS) => S1 = (x_X5_loanEnds S q p2)) (bW D 7 (cM D ad) ad (aW 7 ad sz)) (aW 7 ad sz)) 0 0 (aW 7 ad sz) := by
  refine x_met (own := RX5) (cc := cX5_loanEnds) (maxL := 3) (ret := none) (Qc := fun A => va_Qv (fun (S1 : vS) => S1 = (x_X5_loanEnds S q p2)) (bW D 7 (cM D ad) ad A) A) rfl ⟨by decide +kernel, rfl, Nat.le_of_ble_eq_true rfl⟩ ?_
  intro p e s mm args below meth c A ls B hW hl hls
  have hx := B.1.1
  have hb := B.1.2.1
  have zk := x_X5_loanEnds.eq_1 S q p2
  have hl : lv_has ls 3 [(0, .ref (ad q)), (1, .int p2)] := hl
  refine lv_iconst (v := 2) hx hb dX5_loanEnds_0 (by decide) ?_
  refine lv_istore_n (lv' := [(2, .int 2), (0, .ref (ad q)), (1, .int p2)]) hx hb dX5_loanEnds_1 rfl hl (by decide) rfl (fun ls hl => ?_)
  have hls := hl.1
  exact w_X5_loanEnds_L2 l B  _ q p2 hq h2 (6) (2) S _ _ _ (show 2 ≤ 7 by omega) (show 2 + (6) = 8 by omega) hW (lv_sub hl [0, 1, 2] rfl) hls zk
theorem fr_loanEnds_L {q q0 j0 : Nat} {p2 : Int32} (h : q0 ≠ q ∨ j0 < 13) : ∀ (n : Nat) (S : vS) (k : Nat), x_X5_loanEnds_L2 n S q p2 k q0 j0 = S q0 j0 := by
  intro n
  induction n with
  | zero => intro S k; rfl
  | succ n ih =>
    intro S k
    rw [x_X5_loanEnds_L2]
    split
    · rfl
    · rw [nm_eq, ih, st_at, if_neg (by rintro ⟨h1, h2⟩; omega)]
theorem fr_loanEnds {S : vS} {q q0 j0 : Nat} {p2 : Int32} (h : q0 ≠ q ∨ j0 < 13) : x_X5_loanEnds S q p2 q0 j0 = S q0 j0 := fr_loanEnds_L h _ _ _

def x_X5_nextChair_L2 : Nat → vS → Nat → Int32 → Nat → Int32
  | 0, S, _, _, _ => 0
  | n + 1, S, q, p2, n2 => if 8 < (nI n2) then (-1) else nm (((p2 + (nI n2)) - (p2 + (nI n2)) / 8 * 8)) (fun x_14 => nm (x_X5_of S q x_14 0) (fun r_18 => if r_18 = 1 then nm (x_X5_debts S q x_14) (fun r_27 => if r_27 = 0 then x_14 else x_X5_nextChair_L2 n S q p2 ((n2 + 1))) else x_X5_nextChair_L2 n S q p2 ((n2 + 1))))
def x_X5_nextChair (S : vS) (q : Nat) (p2 : Int32) : Int32 := x_X5_nextChair_L2 (9) S q p2 (1)
theorem hd_X5_nextChair : yX5_nextChair.cls = RX5 ∧ yX5_nextChair.cls ≠ "java/lang/invoke/MethodHandle" ∧ yX5_nextChair.cls ≠ "java/lang/invoke/VarHandle" ∧ (parseMethodDescriptor yX5_nextChair.desc).map (fun d => d.parameters.length) = some 2 := by decide +kernel
set_option maxHeartbeats 4000000 in
set_option maxRecDepth 100000 in
theorem w_X5_nextChair_L2 {D : va_G} {ad : Nat → Nat} (l : Launch) {p : Program} {e : Env} {s : State} {mm : MethodId} {args : Array Value} {below : List Frame} {meth : Method} {c : Code} {A : Nat → Prop} (B : Cx p mm c cX5_nextChair 4 s args wsX5_nextChair RX5 meth (some .int) D) (S : vS) (z : Int32) (q : Nat) (p2 : Int32) (hq : q = 1 ∨ q = 2) (hch : chairOK p2) : ∀ (n : Nat) (n2 : Nat) (H : Heap) (locs : List Loc) (ls : Array Slot), n2 ≤ 9 → n2 + n = 10 → 1 ≤ n2 → Wd D 7 (cM D ad) ad A s.heap S H locs → lv_has ls 4 [(2, .int (nI n2)), (0, .ref (ad q)), (1, .int p2)] → ls.size = 4 → z = x_X5_nextChair_L2 n S q p2 n2 → W p l e (rmD 3) s mm args below meth c H locs 0 0 (MQ below (va_Qi (fun (r : Int32) (S1 : vS) => r = z ∧ S1 = S) (bW D 7 (cM D ad) ad A) A) args s 0 0 A) (F0 mm 2 ls []) := by
  have hx := B.1.1
  have hb := B.1.2.1
  intro n
  induction n with
  | zero =>
    intro n2 H locs ls hle hsum h1n
    omega
  | succ n ih =>
    intro n2 H locs ls hle hsum h1n hW hl hls zk
    have zk := zk.trans (x_X5_nextChair_L2.eq_2 _ _ _ _ _ )
    refine lv_iload_n hx hb dX5_nextChair_2 rfl (lv_at hl 0 rfl) ?_
    refine lv_bipush (v := 8) hx hb dX5_nextChair_3 (by decide) ?_
    refine lv_icmp_gt (tgt := 41) hx hb dX5_nextChair_5 (by decide) (fun c_5 => ?_) (fun c_5 => ?_)
    · have zk := zk.trans (if_pos c_5)
      refine lv_iconst (v := (-1)) hx hb dX5_nextChair_41 (by decide) ?_
      exact x_iret B hW ⟨zk.symm, rfl⟩ dX5_nextChair_42
    · have zk := zk.trans (if_neg c_5)
      have hb_c_5 : n2 < 9 := nI_of_nlt (by decide) c_5 (by omega)
      refine lv_iload_n hx hb dX5_nextChair_8 rfl (lv_at hl 2 rfl) ?_
      refine lv_iload_n hx hb dX5_nextChair_9 rfl (lv_at hl 0 rfl) ?_
      refine lv_iadd hx hb dX5_nextChair_10 ?_
      refine lv_bipush (v := 8) hx hb dX5_nextChair_11 (by decide) ?_
      refine lv_irem hx hb dX5_nextChair_13 (by decide) ?_
      refine lv_topi (fun x_14 ex_14 => ?_)
      have zk := nm_at zk ex_14
      refine lv_istore_n (lv' := [(3, .int x_14), (2, .int (nI n2)), (0, .ref (ad q)), (1, .int p2)]) hx hb dX5_nextChair_14 rfl hl (by decide) rfl (fun ls hl => ?_)
      have hls := hl.1
      have hx13 : vp_in x_14 8 := by rw [ex_14]; exact rem8 hch h1n hb_c_5
      refine lv_aload_n hx hb dX5_nextChair_15 rfl (lv_at hl 2 rfl) ?_
      refine lv_iload_n hx hb dX5_nextChair_16 rfl (lv_at hl 0 rfl) ?_
      refine lv_iconst (v := 0) hx hb dX5_nextChair_17 (by decide) ?_
      refine x_calli hW (x_runS B hW (As := [.ref (ad q), .int x_14, .int 0]) (rest := []) (c_X5_of (D := D) (ad := ad) l _ S q x_14 0 hq (isN_vin (isN_var hx13 (by decide)) (by decide) (by decide)) (isN_vin (isN_lit 0 (by decide)) (by decide) (by decide))) (va_cwS 3 B.1.2.2.2.2 gX5_nextChair_X5_of rfl rfl rfl hd_X5_of.2 ⟨Nat.le_of_ble_eq_true rfl, Nat.le_of_ble_eq_true rfl⟩) rfl hls (Nat.le_of_ble_eq_true rfl) dX5_nextChair_18 ⟨Nat.zero_le _, Nat.zero_le _⟩) (fun r_18 S_18 H locs he hW => ?_)
      obtain ⟨hr_18, hs⟩ := he
      rw [hs] at hW
      have zk := nm_at zk hr_18
      refine lv_iconst (v := 1) hx hb dX5_nextChair_21 (by decide) ?_
      refine lv_icmp_ne (tgt := 35) hx hb dX5_nextChair_22 (by decide) (fun c_22 => ?_) (fun c_22 => ?_)
      · have zk := zk.trans (if_neg c_22)
        refine lv_iinc (v := (nI (n2 + 1))) (lv' := [(2, .int (nI (n2 + 1))), (3, .int x_14), (0, .ref (ad q)), (1, .int p2)]) hx hb dX5_nextChair_35 hl (k := 1) rfl (nI_1 _) (by decide) rfl (fun ls hl => ?_)
        have hls := hl.1
        refine lv_goto (tgt := 2) hx hb dX5_nextChair_38 (by decide) ?_
        exact ih ((n2 + 1))  _ _ _ (show (n2 + 1) ≤ 9 by omega) (show (n2 + 1) + n = 10 by omega) (by omega) hW (lv_sub hl [0, 2, 3] rfl) hls zk
      · have zk := zk.trans (if_pos c_22)
        refine lv_aload_n hx hb dX5_nextChair_25 rfl (lv_at hl 2 rfl) ?_
        refine lv_iload_n hx hb dX5_nextChair_26 rfl (lv_at hl 0 rfl) ?_
        refine x_calli hW (x_runS B hW (As := [.ref (ad q), .int x_14]) (rest := []) (c_X5_debts (D := D) (ad := ad) l _ S q x_14 hq (isN_vin (isN_var hx13 (by decide)) (by decide) (by decide))) (va_cwS 2 B.1.2.2.2.2 gX5_nextChair_X5_debts rfl rfl rfl hd_X5_debts.2 ⟨Nat.le_of_ble_eq_true rfl, Nat.le_of_ble_eq_true rfl⟩) rfl hls (Nat.le_of_ble_eq_true rfl) dX5_nextChair_27 ⟨Nat.zero_le _, Nat.zero_le _⟩) (fun r_27 S_27 H locs he hW => ?_)
        obtain ⟨hr_27, hs⟩ := he
        rw [hs] at hW
        have zk := nm_at zk hr_27
        refine lv_if_ne (tgt := 35) hx hb dX5_nextChair_30 (by decide) (fun c_30 => ?_) (fun c_30 => ?_)
        · have zk := zk.trans (if_neg c_30)
          refine lv_iinc (v := (nI (n2 + 1))) (lv' := [(2, .int (nI (n2 + 1))), (3, .int x_14), (0, .ref (ad q)), (1, .int p2)]) hx hb dX5_nextChair_35 hl (k := 1) rfl (nI_1 _) (by decide) rfl (fun ls hl => ?_)
          have hls := hl.1
          refine lv_goto (tgt := 2) hx hb dX5_nextChair_38 (by decide) ?_
          exact ih ((n2 + 1))  _ _ _ (show (n2 + 1) ≤ 9 by omega) (show (n2 + 1) + n = 10 by omega) (by omega) hW (lv_sub hl [0, 2, 3] rfl) hls zk
        · have zk := zk.trans (if_pos c_30)
          refine lv_iload_n hx hb dX5_nextChair_33 rfl (lv_at hl 0 rfl) ?_
          exact x_iret B hW ⟨zk.symm, rfl⟩ dX5_nextChair_34
set_option maxHeartbeats 4000000 in
set_option maxRecDepth 100000 in
theorem c_X5_nextChair {D : va_G} {ad : Nat → Nat} (l : Launch) (sz : Nat) (S : vS) (q : Nat) (p2 : Int32) (hq : q = 1 ∨ q = 2) (hch : chairOK p2) : Met l yX5_nextChair wsX5_nextChair (rmD 3) (pW D 7 (cM D ad) ad sz S [.ref (ad q), .int p2]) (va_Qi (fun (r : Int32) (S1 : vS) => r = (x_X5_nextChair S q p2) ∧ S1 = S) (bW D 7 (cM D ad) ad (aW 7 ad sz)) (aW 7 ad sz)) 0 0 (aW 7 ad sz) := by
  refine x_met (own := RX5) (cc := cX5_nextChair) (maxL := 4) (ret := (some .int)) (Qc := fun A => va_Qi (fun (r : Int32) (S1 : vS) => r = (x_X5_nextChair S q p2) ∧ S1 = S) (bW D 7 (cM D ad) ad A) A) rfl ⟨by decide +kernel, rfl, Nat.le_of_ble_eq_true rfl⟩ ?_
  intro p e s mm args below meth c A ls B hW hl hls
  have hx := B.1.1
  have hb := B.1.2.1
  have zk := x_X5_nextChair.eq_1 S q p2
  have hl : lv_has ls 4 [(0, .ref (ad q)), (1, .int p2)] := hl
  refine lv_iconst (v := 1) hx hb dX5_nextChair_0 (by decide) ?_
  refine lv_istore_n (lv' := [(2, .int 1), (0, .ref (ad q)), (1, .int p2)]) hx hb dX5_nextChair_1 rfl hl (by decide) rfl (fun ls hl => ?_)
  have hls := hl.1
  exact w_X5_nextChair_L2 l B S _ q p2 hq hch (9) (1)  _ _ _ (show 1 ≤ 9 by omega) (show 1 + (9) = 10 by omega) (by decide) hW (lv_sub hl [0, 1, 2] rfl) hls zk
theorem nextChair_ok_L (S : vS) (q : Nat) (p2 : Int32) (h : chairOK p2) : ∀ (n k : Nat), 1 ≤ k → k ≤ 9 → k + n = 10 → chairOK (x_X5_nextChair_L2 n S q p2 k) := by
  intro n
  induction n with
  | zero => intro k h1 h2 h3; omega
  | succ n ih =>
    intro k h1 h2 h3
    rw [x_X5_nextChair_L2]
    by_cases c : 8 < nI k
    · rw [if_pos c]
      exact Or.inl rfl
    · rw [if_neg c]
      have hk := nI_of_nlt (a := k) (b := 8) (by decide) c (by omega)
      have ih := ih (k + 1) (by omega) (by omega) (by omega)
      try simp only [nm_eq, nmp_eq]
      repeat' split
      all_goals first | exact ih | exact Or.inr (rem8 h h1 hk)
theorem nextChair_ok {S : vS} {q : Nat} {p2 : Int32} (h : chairOK p2) : chairOK (x_X5_nextChair S q p2) := nextChair_ok_L S q p2 h 9 1 (by decide) (by decide) (by decide)

def x_X5_ends_L229 : Nat → vS → Nat → Nat → Int32 → (Int32 × vS)
  | 0, S, _, _, _ => (0, S)
  | n + 1, S, q, n3, v2 => if 8 ≤ (nI n3) then (v2, S) else nm (st S q ((13 + (14 * n3)) + 7) 0) (fun S_247 => x_X5_ends_L229 n S_247 q ((n3 + 1)) (v2))
def x_X5_ends_L145 : Nat → vS → Nat → Nat → Int32 → (Int32 × vS)
  | 0, S, _, _, _ => (0, S)
  | n + 1, S, q, n3, v2 => if 8 ≤ (nI n3) then if (((S q 0) + 1) - ((S q 0) + 1) / (S q 6) * (S q 6)) = 0 then nm (x_X5_nextChair S q (S q 2)) (fun r_216 => nm (st S q 2 r_216) (fun S_219 => nm (st S_219 q 0 ((S_219 q 0) + 1)) (fun S_226 => x_X5_ends_L229 (9) S_226 q (0) (v2)))) else nm (st S q 0 ((S q 0) + 1)) (fun S_226 => x_X5_ends_L229 (9) S_226 q (0) (v2)) else nm (x_X5_of S q (nI n3) 0) (fun r_154 => if r_154 = 1 then nm (x_X5_of S q (nI n3) 7) (fun r_165 => if r_165 = 0 then nm (st S q 8 ((S q 8) + (S q 5))) (fun S_180 => nm (x_X5_adds S_180 q (nI n3) 12 (S_180 q 5)) (fun S_188 => x_X5_ends_L145 n S_188 q ((n3 + 1)) (v2))) else x_X5_ends_L145 n S q ((n3 + 1)) (v2)) else x_X5_ends_L145 n S q ((n3 + 1)) (v2))
def x_X5_ends_L30 : Nat → vS → Nat → Nat → Int32 → (Int32 × vS)
  | 0, S, _, _, _ => (0, S)
  | n + 1, S, q, n3, v2 => if 8 ≤ (nI n3) then nm (st S q 11 ((S q 11) + v2)) (fun S_142 => x_X5_ends_L145 (9) S_142 q (0) (v2)) else nm (x_X5_of S q (nI n3) 0) (fun r_39 => if r_39 = 1 then nm (x_X5_of S q (nI n3) 4) (fun r_49 => if r_49 ≤ 0 then x_X5_ends_L30 n S q ((n3 + 1)) (v2) else nm (x_X5_of S q (nI n3) 6) (fun r_64 => nm (st S q 10 ((S q 10) + r_64)) (fun S_68 => nm (x_X5_of S_68 q (nI n3) 7) (fun r_74 => if r_74 = 0 then nm (x_X5_due S_68 q (nI n3)) (fun r_82 => nm ((v2 + r_82)) (fun x_95 => nm (x_X5_partOf S_68 q (nI n3)) (fun r_101 => nm (x_X5_adds S_68 q (nI n3) 3 (-r_101)) (fun S_105 => nm (x_X5_adds S_105 q (nI n3) 4 (-1)) (fun S_112 => nm (x_X5_of S_112 q (nI n3) 4) (fun r_118 => if r_118 = 0 then nm (x_X5_loanEnds S_112 q (nI n3)) (fun S_126 => x_X5_ends_L30 n S_126 q ((n3 + 1)) (x_95)) else x_X5_ends_L30 n S_112 q ((n3 + 1)) (x_95))))))) else nmp (x_X5_misses S_68 q (nI n3)) (fun r_91 S_91 => nm ((v2 + r_91)) (fun x_95 => nm (x_X5_partOf S_91 q (nI n3)) (fun r_101 => nm (x_X5_adds S_91 q (nI n3) 3 (-r_101)) (fun S_105 => nm (x_X5_adds S_105 q (nI n3) 4 (-1)) (fun S_112 => nm (x_X5_of S_112 q (nI n3) 4) (fun r_118 => if r_118 = 0 then nm (x_X5_loanEnds S_112 q (nI n3)) (fun S_126 => x_X5_ends_L30 n S_126 q ((n3 + 1)) (x_95)) else x_X5_ends_L30 n S_112 q ((n3 + 1)) (x_95))))))))))) else x_X5_ends_L30 n S q ((n3 + 1)) (v2))
def x_X5_ends_L9 : Nat → vS → Nat → Nat → (Int32 × vS)
  | 0, S, _, _ => (0, S)
  | n + 1, S, q, n3 => if 8 ≤ (nI n3) then x_X5_ends_L30 (9) S q (0) (0) else nm (st S 6 n3 0) (fun S_21 => x_X5_ends_L9 n S_21 q ((n3 + 1)))
def x_X5_ends (S : vS) (q : Nat) : (Int32 × vS) := nm (st S 0 13 0) (fun S_4 => x_X5_ends_L9 (9) S_4 q (0))
theorem hd_X5_ends : yX5_ends.cls = RX5 ∧ yX5_ends.cls ≠ "java/lang/invoke/MethodHandle" ∧ yX5_ends.cls ≠ "java/lang/invoke/VarHandle" ∧ (parseMethodDescriptor yX5_ends.desc).map (fun d => d.parameters.length) = some 1 := by decide +kernel
set_option maxHeartbeats 4000000 in
set_option maxRecDepth 100000 in
theorem w_X5_ends_L229 {D : va_G} {ad : Nat → Nat} (l : Launch) {p : Program} {e : Env} {s : State} {mm : MethodId} {args : Array Value} {below : List Frame} {meth : Method} {c : Code} {A : Nat → Prop} (B : Cx p mm c cX5_ends 4 s args wsX5_ends RX5 meth (some .int) D) (z : (Int32 × vS)) (q : Nat) (hq : q = 1 ∨ q = 2) : ∀ (n : Nat) (n3 : Nat) (v2 : Int32) (S : vS) (H : Heap) (locs : List Loc) (ls : Array Slot), n3 ≤ 8 → n3 + n = 9 → Wd D 7 (cM D ad) ad A s.heap S H locs → lv_has ls 4 [(3, .int (nI n3)), (2, .int v2), (1, .ref (ad q))] → ls.size = 4 → z = x_X5_ends_L229 n S q n3 v2 → W p l e (rmD 4) s mm args below meth c H locs 0 0 (MQ below (va_Qi (fun (r : Int32) (S1 : vS) => (r, S1) = z) (bW D 7 (cM D ad) ad A) A) args s 0 0 A) (F0 mm 229 ls []) := by
  have hx := B.1.1
  have hb := B.1.2.1
  have hin_X5 : ∀ w ∈ wsX50, w ∈ wsX5_ends := fun w h => List.mem_cons_of_mem _ (List.mem_append_right _ h)
  have k_25 := B.1.2.2.2.2 (.fieldLink RX5 25 "JointLoansModel" "shares" "[I") (by decide +kernel)
  have k_68 := B.1.2.2.2.2 (.fieldLink RX5 68 "JointLoansModel" "isUnpaid" "Z") (by decide +kernel)
  intro n
  induction n with
  | zero =>
    intro n3 v2 S H locs ls hle hsum
    omega
  | succ n ih =>
    intro n3 v2 S H locs ls hle hsum hW hl hls zk
    have zk := zk.trans (x_X5_ends_L229.eq_2 _ _ _ _ _ )
    refine lv_iload_n hx hb dX5_ends_229 rfl (lv_at hl 0 rfl) ?_
    refine lv_bipush (v := 8) hx hb dX5_ends_230 (by decide) ?_
    refine lv_icmp_ge (tgt := 254) hx hb dX5_ends_232 (by decide) (fun c_232 => ?_) (fun c_232 => ?_)
    · have zk := zk.trans (if_pos c_232)
      refine lv_iload_n hx hb dX5_ends_254 rfl (lv_at hl 1 rfl) ?_
      exact x_iret B hW zk.symm dX5_ends_255
    · have zk := zk.trans (if_neg c_232)
      have hb_c_232 : n3 < 8 := nI_of_nle (by decide) c_232 (by omega)
      refine lv_aload_n hx hb dX5_ends_235 rfl (lv_at hl 2 rfl) ?_
      refine lv_bipush (v := 13) hx hb dX5_ends_236 (by decide) ?_
      refine lv_bipush (v := 14) hx hb dX5_ends_238 (by decide) ?_
      refine lv_iload_n hx hb dX5_ends_240 rfl (lv_at hl 0 rfl) ?_
      refine lv_imul hx hb dX5_ends_241 ?_
      refine lv_iadd hx hb dX5_ends_242 ?_
      refine lv_bipush (v := 7) hx hb dX5_ends_243 (by decide) ?_
      refine lv_iadd hx hb dX5_ends_245 ?_
      refine lv_iconst (v := 0) hx hb dX5_ends_246 (by decide) ?_
      refine x_iast B hW (hqq hq) (fun _ => (cM_q hq)) (isN_add (isN_add (isN_lit 13 (by decide)) (isN_mul (isN_lit 14 (by decide)) (isN_nI hb_c_232 (by decide)) (by decide)) (by decide)) (isN_lit 7 (by decide)) (by decide)) (by decide) (by decide) dX5_ends_247 (fun H locs S_247 he_247 hW => ?_)
      have zk := nm_at zk he_247
      refine lv_iinc (v := (nI (n3 + 1))) (lv' := [(3, .int (nI (n3 + 1))), (2, .int v2), (1, .ref (ad q))]) hx hb dX5_ends_248 hl (k := 0) rfl (nI_1 _) (by decide) rfl (fun ls hl => ?_)
      have hls := hl.1
      refine lv_goto (tgt := 229) hx hb dX5_ends_251 (by decide) ?_
      exact ih ((n3 + 1)) (v2) S_247 _ _ _ (show (n3 + 1) ≤ 8 by omega) (show (n3 + 1) + n = 9 by omega) hW (lv_sub hl [0, 1, 2] rfl) hls zk
set_option maxHeartbeats 4000000 in
set_option maxRecDepth 100000 in
theorem w_X5_ends_L145 {D : va_G} {ad : Nat → Nat} (l : Launch) {p : Program} {e : Env} {s : State} {mm : MethodId} {args : Array Value} {below : List Frame} {meth : Method} {c : Code} {A : Nat → Prop} (B : Cx p mm c cX5_ends 4 s args wsX5_ends RX5 meth (some .int) D) (z : (Int32 × vS)) (q : Nat) (hq : q = 1 ∨ q = 2) : ∀ (n : Nat) (n3 : Nat) (v2 : Int32) (S : vS) (H : Heap) (locs : List Loc) (ls : Array Slot), n3 ≤ 8 → n3 + n = 9 → chairOK (S q 2) → ¬ (S q 6) = 0 → Wd D 7 (cM D ad) ad A s.heap S H locs → lv_has ls 4 [(3, .int (nI n3)), (2, .int v2), (1, .ref (ad q))] → ls.size = 4 → z = x_X5_ends_L145 n S q n3 v2 → W p l e (rmD 4) s mm args below meth c H locs 0 0 (MQ below (va_Qi (fun (r : Int32) (S1 : vS) => (r, S1) = z) (bW D 7 (cM D ad) ad A) A) args s 0 0 A) (F0 mm 145 ls []) := by
  have hx := B.1.1
  have hb := B.1.2.1
  have hin_X5 : ∀ w ∈ wsX50, w ∈ wsX5_ends := fun w h => List.mem_cons_of_mem _ (List.mem_append_right _ h)
  have k_25 := B.1.2.2.2.2 (.fieldLink RX5 25 "JointLoansModel" "shares" "[I") (by decide +kernel)
  have k_68 := B.1.2.2.2.2 (.fieldLink RX5 68 "JointLoansModel" "isUnpaid" "Z") (by decide +kernel)
  intro n
  induction n with
  | zero =>
    intro n3 v2 S H locs ls hle hsum hch hs6
    omega
  | succ n ih =>
    intro n3 v2 S H locs ls hle hsum hch hs6 hW hl hls zk
    have zk := zk.trans (x_X5_ends_L145.eq_2 _ _ _ _ _ )
    refine lv_iload_n hx hb dX5_ends_145 rfl (lv_at hl 0 rfl) ?_
    refine lv_bipush (v := 8) hx hb dX5_ends_146 (by decide) ?_
    refine lv_icmp_ge (tgt := 197) hx hb dX5_ends_148 (by decide) (fun c_148 => ?_) (fun c_148 => ?_)
    · have zk := zk.trans (if_pos c_148)
      refine lv_aload_n hx hb dX5_ends_197 rfl (lv_at hl 2 rfl) ?_
      refine lv_iconst (v := 0) hx hb dX5_ends_198 (by decide) ?_
      refine x_iald B hW (hqq hq) (cM_q hq) (isN_lit 0 (by decide)) (by decide) (by decide) dX5_ends_199 ?_
      refine lv_iconst (v := 1) hx hb dX5_ends_200 (by decide) ?_
      refine lv_iadd hx hb dX5_ends_201 ?_
      refine lv_aload_n hx hb dX5_ends_202 rfl (lv_at hl 2 rfl) ?_
      refine lv_bipush (v := 6) hx hb dX5_ends_203 (by decide) ?_
      refine x_iald B hW (hqq hq) (cM_q hq) (isN_lit 6 (by decide)) (by decide) (by decide) dX5_ends_205 ?_
      refine lv_irem hx hb dX5_ends_206 hs6 ?_
      refine lv_if_ne (tgt := 220) hx hb dX5_ends_207 (by decide) (fun c_207 => ?_) (fun c_207 => ?_)
      · have zk := zk.trans (if_neg c_207)
        refine lv_aload_n hx hb dX5_ends_220 rfl (lv_at hl 2 rfl) ?_
        refine lv_iconst (v := 0) hx hb dX5_ends_221 (by decide) ?_
        refine lv_dup2_11 hx hb dX5_ends_222 rfl rfl ?_
        refine x_iald B hW (hqq hq) (cM_q hq) (isN_lit 0 (by decide)) (by decide) (by decide) dX5_ends_223 ?_
        refine lv_iconst (v := 1) hx hb dX5_ends_224 (by decide) ?_
        refine lv_iadd hx hb dX5_ends_225 ?_
        refine x_iast B hW (hqq hq) (fun _ => (cM_q hq)) (isN_lit 0 (by decide)) (by decide) (by decide) dX5_ends_226 (fun H locs S_226 he_226 hW => ?_)
        have zk := nm_at zk he_226
        have hf_S_226_q_2_chairOK : chairOK (S_226 q 2) := by rw [he_226, st_at, if_neg (by rintro ⟨h1, h2⟩; omega)]; exact hch
        have hf_S_226_q_6_0 : ¬ (S_226 q 6) = 0 := by rw [he_226, st_at, if_neg (by rintro ⟨h1, h2⟩; omega)]; exact hs6
        refine lv_iconst (v := 0) hx hb dX5_ends_227 (by decide) ?_
        refine lv_istore_n (lv' := [(3, .int 0), (2, .int v2), (1, .ref (ad q))]) hx hb dX5_ends_228 rfl hl (by decide) rfl (fun ls hl => ?_)
        have hls := hl.1
        exact w_X5_ends_L229 l B  _ q hq (9) (0) (v2) S_226 _ _ _ (show 0 ≤ 8 by omega) (show 0 + (9) = 9 by omega) hW (lv_sub hl [0, 1, 2] rfl) hls zk
      · have zk := zk.trans (if_pos c_207)
        refine lv_aload_n hx hb dX5_ends_210 rfl (lv_at hl 2 rfl) ?_
        refine lv_iconst (v := 2) hx hb dX5_ends_211 (by decide) ?_
        refine lv_aload_n hx hb dX5_ends_212 rfl (lv_at hl 2 rfl) ?_
        refine lv_aload_n hx hb dX5_ends_213 rfl (lv_at hl 2 rfl) ?_
        refine lv_iconst (v := 2) hx hb dX5_ends_214 (by decide) ?_
        refine x_iald B hW (hqq hq) (cM_q hq) (isN_lit 2 (by decide)) (by decide) (by decide) dX5_ends_215 ?_
        refine x_calli hW (x_runS B hW (As := [.ref (ad q), .int (S q 2)]) (rest := .int 2 :: .ref (ad q) :: []) (c_X5_nextChair (D := D) (ad := ad) l _ S q (S q 2) hq hch) (va_cwS 2 B.1.2.2.2.2 gX5_ends_X5_nextChair rfl rfl rfl hd_X5_nextChair.2 ⟨Nat.le_of_ble_eq_true rfl, Nat.le_of_ble_eq_true rfl⟩) rfl hls (Nat.le_of_ble_eq_true rfl) dX5_ends_216 ⟨Nat.zero_le _, Nat.zero_le _⟩) (fun r_216 S_216 H locs he hW => ?_)
        obtain ⟨hr_216, hs⟩ := he
        rw [hs] at hW
        have zk := nm_at zk hr_216
        refine x_iast B hW (hqq hq) (fun _ => (cM_q hq)) (isN_lit 2 (by decide)) (by decide) (by decide) dX5_ends_219 (fun H locs S_219 he_219 hW => ?_)
        have zk := nm_at zk he_219
        have hf_S_219_q_6_0 : ¬ (S_219 q 6) = 0 := by rw [he_219, st_at, if_neg (by rintro ⟨h1, h2⟩; omega)]; exact hs6
        refine lv_aload_n hx hb dX5_ends_220 rfl (lv_at hl 2 rfl) ?_
        refine lv_iconst (v := 0) hx hb dX5_ends_221 (by decide) ?_
        refine lv_dup2_11 hx hb dX5_ends_222 rfl rfl ?_
        refine x_iald B hW (hqq hq) (cM_q hq) (isN_lit 0 (by decide)) (by decide) (by decide) dX5_ends_223 ?_
        refine lv_iconst (v := 1) hx hb dX5_ends_224 (by decide) ?_
        refine lv_iadd hx hb dX5_ends_225 ?_
        refine x_iast B hW (hqq hq) (fun _ => (cM_q hq)) (isN_lit 0 (by decide)) (by decide) (by decide) dX5_ends_226 (fun H locs S_226 he_226 hW => ?_)
        have zk := nm_at zk he_226
        have hf_S_226_q_6_0 : ¬ (S_226 q 6) = 0 := by rw [he_226, st_at, if_neg (by rintro ⟨h1, h2⟩; omega)]; exact hf_S_219_q_6_0
        refine lv_iconst (v := 0) hx hb dX5_ends_227 (by decide) ?_
        refine lv_istore_n (lv' := [(3, .int 0), (2, .int v2), (1, .ref (ad q))]) hx hb dX5_ends_228 rfl hl (by decide) rfl (fun ls hl => ?_)
        have hls := hl.1
        exact w_X5_ends_L229 l B  _ q hq (9) (0) (v2) S_226 _ _ _ (show 0 ≤ 8 by omega) (show 0 + (9) = 9 by omega) hW (lv_sub hl [0, 1, 2] rfl) hls zk
    · have zk := zk.trans (if_neg c_148)
      have hb_c_148 : n3 < 8 := nI_of_nle (by decide) c_148 (by omega)
      refine lv_aload_n hx hb dX5_ends_151 rfl (lv_at hl 2 rfl) ?_
      refine lv_iload_n hx hb dX5_ends_152 rfl (lv_at hl 0 rfl) ?_
      refine lv_iconst (v := 0) hx hb dX5_ends_153 (by decide) ?_
      refine x_calli hW (x_runS B hW (As := [.ref (ad q), .int (nI n3), .int 0]) (rest := []) (c_X5_of (D := D) (ad := ad) l _ S q (nI n3) 0 hq (isN_vin (isN_nI hb_c_148 (by decide)) (by decide) (by decide)) (isN_vin (isN_lit 0 (by decide)) (by decide) (by decide))) (va_cwS 3 B.1.2.2.2.2 gX5_ends_X5_of rfl rfl rfl hd_X5_of.2 ⟨Nat.le_of_ble_eq_true rfl, Nat.le_of_ble_eq_true rfl⟩) rfl hls (Nat.le_of_ble_eq_true rfl) dX5_ends_154 ⟨Nat.zero_le _, Nat.zero_le _⟩) (fun r_154 S_154 H locs he hW => ?_)
      obtain ⟨hr_154, hs⟩ := he
      rw [hs] at hW
      have zk := nm_at zk hr_154
      refine lv_iconst (v := 1) hx hb dX5_ends_157 (by decide) ?_
      refine lv_icmp_ne (tgt := 191) hx hb dX5_ends_158 (by decide) (fun c_158 => ?_) (fun c_158 => ?_)
      · have zk := zk.trans (if_neg c_158)
        refine lv_iinc (v := (nI (n3 + 1))) (lv' := [(3, .int (nI (n3 + 1))), (2, .int v2), (1, .ref (ad q))]) hx hb dX5_ends_191 hl (k := 0) rfl (nI_1 _) (by decide) rfl (fun ls hl => ?_)
        have hls := hl.1
        refine lv_goto (tgt := 145) hx hb dX5_ends_194 (by decide) ?_
        exact ih ((n3 + 1)) (v2) S _ _ _ (show (n3 + 1) ≤ 8 by omega) (show (n3 + 1) + n = 9 by omega) hch hs6 hW (lv_sub hl [0, 1, 2] rfl) hls zk
      · have zk := zk.trans (if_pos c_158)
        refine lv_aload_n hx hb dX5_ends_161 rfl (lv_at hl 2 rfl) ?_
        refine lv_iload_n hx hb dX5_ends_162 rfl (lv_at hl 0 rfl) ?_
        refine lv_bipush (v := 7) hx hb dX5_ends_163 (by decide) ?_
        refine x_calli hW (x_runS B hW (As := [.ref (ad q), .int (nI n3), .int 7]) (rest := []) (c_X5_of (D := D) (ad := ad) l _ S q (nI n3) 7 hq (isN_vin (isN_nI hb_c_148 (by decide)) (by decide) (by decide)) (isN_vin (isN_lit 7 (by decide)) (by decide) (by decide))) (va_cwS 3 B.1.2.2.2.2 gX5_ends_X5_of rfl rfl rfl hd_X5_of.2 ⟨Nat.le_of_ble_eq_true rfl, Nat.le_of_ble_eq_true rfl⟩) rfl hls (Nat.le_of_ble_eq_true rfl) dX5_ends_165 ⟨Nat.zero_le _, Nat.zero_le _⟩) (fun r_165 S_165 H locs he hW => ?_)
        obtain ⟨hr_165, hs⟩ := he
        rw [hs] at hW
        have zk := nm_at zk hr_165
        refine lv_if_ne (tgt := 191) hx hb dX5_ends_168 (by decide) (fun c_168 => ?_) (fun c_168 => ?_)
        · have zk := zk.trans (if_neg c_168)
          refine lv_iinc (v := (nI (n3 + 1))) (lv' := [(3, .int (nI (n3 + 1))), (2, .int v2), (1, .ref (ad q))]) hx hb dX5_ends_191 hl (k := 0) rfl (nI_1 _) (by decide) rfl (fun ls hl => ?_)
          have hls := hl.1
          refine lv_goto (tgt := 145) hx hb dX5_ends_194 (by decide) ?_
          exact ih ((n3 + 1)) (v2) S _ _ _ (show (n3 + 1) ≤ 8 by omega) (show (n3 + 1) + n = 9 by omega) hch hs6 hW (lv_sub hl [0, 1, 2] rfl) hls zk
        · have zk := zk.trans (if_pos c_168)
          refine lv_aload_n hx hb dX5_ends_171 rfl (lv_at hl 2 rfl) ?_
          refine lv_bipush (v := 8) hx hb dX5_ends_172 (by decide) ?_
          refine lv_dup2_11 hx hb dX5_ends_174 rfl rfl ?_
          refine x_iald B hW (hqq hq) (cM_q hq) (isN_lit 8 (by decide)) (by decide) (by decide) dX5_ends_175 ?_
          refine lv_aload_n hx hb dX5_ends_176 rfl (lv_at hl 2 rfl) ?_
          refine lv_iconst (v := 5) hx hb dX5_ends_177 (by decide) ?_
          refine x_iald B hW (hqq hq) (cM_q hq) (isN_lit 5 (by decide)) (by decide) (by decide) dX5_ends_178 ?_
          refine lv_iadd hx hb dX5_ends_179 ?_
          refine x_iast B hW (hqq hq) (fun _ => (cM_q hq)) (isN_lit 8 (by decide)) (by decide) (by decide) dX5_ends_180 (fun H locs S_180 he_180 hW => ?_)
          have zk := nm_at zk he_180
          have hf_S_180_q_2_chairOK : chairOK (S_180 q 2) := by rw [he_180, st_at, if_neg (by rintro ⟨h1, h2⟩; omega)]; exact hch
          have hf_S_180_q_6_0 : ¬ (S_180 q 6) = 0 := by rw [he_180, st_at, if_neg (by rintro ⟨h1, h2⟩; omega)]; exact hs6
          refine lv_aload_n hx hb dX5_ends_181 rfl (lv_at hl 2 rfl) ?_
          refine lv_iload_n hx hb dX5_ends_182 rfl (lv_at hl 0 rfl) ?_
          refine lv_bipush (v := 12) hx hb dX5_ends_183 (by decide) ?_
          refine lv_aload_n hx hb dX5_ends_185 rfl (lv_at hl 2 rfl) ?_
          refine lv_iconst (v := 5) hx hb dX5_ends_186 (by decide) ?_
          refine x_iald B hW (hqq hq) (cM_q hq) (isN_lit 5 (by decide)) (by decide) (by decide) dX5_ends_187 ?_
          refine x_callv hW (x_runS B hW (As := [.ref (ad q), .int (nI n3), .int 12, .int (S_180 q 5)]) (rest := []) (c_X5_adds (D := D) (ad := ad) l _ S_180 q (nI n3) 12 (S_180 q 5) hq (isN_vin (isN_nI hb_c_148 (by decide)) (by decide) (by decide)) (isN_vin (isN_lit 12 (by decide)) (by decide) (by decide))) (va_cwS 4 B.1.2.2.2.2 gX5_ends_X5_adds rfl rfl rfl hd_X5_adds.2 ⟨Nat.le_of_ble_eq_true rfl, Nat.le_of_ble_eq_true rfl⟩) rfl hls (Nat.le_of_ble_eq_true rfl) dX5_ends_188 ⟨Nat.zero_le _, Nat.zero_le _⟩) (fun S_188 H locs he hW => ?_)
          have he_188 := he
          have zk := nm_at zk he_188
          have hf_S_188_q_2_chairOK : chairOK (S_188 q 2) := by rw [he_188, (fr_adds (Or.inr (by decide)))]; exact hf_S_180_q_2_chairOK
          have hf_S_188_q_6_0 : ¬ (S_188 q 6) = 0 := by rw [he_188, (fr_adds (Or.inr (by decide)))]; exact hf_S_180_q_6_0
          refine lv_iinc (v := (nI (n3 + 1))) (lv' := [(3, .int (nI (n3 + 1))), (2, .int v2), (1, .ref (ad q))]) hx hb dX5_ends_191 hl (k := 0) rfl (nI_1 _) (by decide) rfl (fun ls hl => ?_)
          have hls := hl.1
          refine lv_goto (tgt := 145) hx hb dX5_ends_194 (by decide) ?_
          exact ih ((n3 + 1)) (v2) S_188 _ _ _ (show (n3 + 1) ≤ 8 by omega) (show (n3 + 1) + n = 9 by omega) hf_S_188_q_2_chairOK hf_S_188_q_6_0 hW (lv_sub hl [0, 1, 2] rfl) hls zk
set_option maxHeartbeats 4000000 in
set_option maxRecDepth 100000 in
theorem w_X5_ends_L30 {D : va_G} {ad : Nat → Nat} (l : Launch) {p : Program} {e : Env} {s : State} {mm : MethodId} {args : Array Value} {below : List Frame} {meth : Method} {c : Code} {A : Nat → Prop} (B : Cx p mm c cX5_ends 4 s args wsX5_ends RX5 meth (some .int) D) (z : (Int32 × vS)) (q : Nat) (hq : q = 1 ∨ q = 2) : ∀ (n : Nat) (n3 : Nat) (v2 : Int32) (S : vS) (H : Heap) (locs : List Loc) (ls : Array Slot), n3 ≤ 8 → n3 + n = 9 → chairOK (S q 2) → ¬ (S q 6) = 0 → Wd D 7 (cM D ad) ad A s.heap S H locs → lv_has ls 4 [(3, .int (nI n3)), (2, .int v2), (0, .ref (ad 0)), (1, .ref (ad q))] → ls.size = 4 → z = x_X5_ends_L30 n S q n3 v2 → W p l e (rmD 4) s mm args below meth c H locs 0 0 (MQ below (va_Qi (fun (r : Int32) (S1 : vS) => (r, S1) = z) (bW D 7 (cM D ad) ad A) A) args s 0 0 A) (F0 mm 30 ls []) := by
  have hx := B.1.1
  have hb := B.1.2.1
  have hin_X5 : ∀ w ∈ wsX50, w ∈ wsX5_ends := fun w h => List.mem_cons_of_mem _ (List.mem_append_right _ h)
  have k_25 := B.1.2.2.2.2 (.fieldLink RX5 25 "JointLoansModel" "shares" "[I") (by decide +kernel)
  have k_68 := B.1.2.2.2.2 (.fieldLink RX5 68 "JointLoansModel" "isUnpaid" "Z") (by decide +kernel)
  intro n
  induction n with
  | zero =>
    intro n3 v2 S H locs ls hle hsum hch hs6
    omega
  | succ n ih =>
    intro n3 v2 S H locs ls hle hsum hch hs6 hW hl hls zk
    have zk := zk.trans (x_X5_ends_L30.eq_2 _ _ _ _ _ )
    refine lv_iload_n hx hb dX5_ends_30 rfl (lv_at hl 0 rfl) ?_
    refine lv_bipush (v := 8) hx hb dX5_ends_31 (by decide) ?_
    refine lv_icmp_ge (tgt := 135) hx hb dX5_ends_33 (by decide) (fun c_33 => ?_) (fun c_33 => ?_)
    · have zk := zk.trans (if_pos c_33)
      refine lv_aload_n hx hb dX5_ends_135 rfl (lv_at hl 3 rfl) ?_
      refine lv_bipush (v := 11) hx hb dX5_ends_136 (by decide) ?_
      refine lv_dup2_11 hx hb dX5_ends_138 rfl rfl ?_
      refine x_iald B hW (hqq hq) (cM_q hq) (isN_lit 11 (by decide)) (by decide) (by decide) dX5_ends_139 ?_
      refine lv_iload_n hx hb dX5_ends_140 rfl (lv_at hl 1 rfl) ?_
      refine lv_iadd hx hb dX5_ends_141 ?_
      refine x_iast B hW (hqq hq) (fun _ => (cM_q hq)) (isN_lit 11 (by decide)) (by decide) (by decide) dX5_ends_142 (fun H locs S_142 he_142 hW => ?_)
      have zk := nm_at zk he_142
      have hf_S_142_q_2_chairOK : chairOK (S_142 q 2) := by rw [he_142, st_at, if_neg (by rintro ⟨h1, h2⟩; omega)]; exact hch
      have hf_S_142_q_6_0 : ¬ (S_142 q 6) = 0 := by rw [he_142, st_at, if_neg (by rintro ⟨h1, h2⟩; omega)]; exact hs6
      refine lv_iconst (v := 0) hx hb dX5_ends_143 (by decide) ?_
      refine lv_istore_n (lv' := [(3, .int 0), (2, .int v2), (0, .ref (ad 0)), (1, .ref (ad q))]) hx hb dX5_ends_144 rfl hl (by decide) rfl (fun ls hl => ?_)
      have hls := hl.1
      exact w_X5_ends_L145 l B  _ q hq (9) (0) (v2) S_142 _ _ _ (show 0 ≤ 8 by omega) (show 0 + (9) = 9 by omega) hf_S_142_q_2_chairOK hf_S_142_q_6_0 hW (lv_sub hl [0, 1, 3] rfl) hls zk
    · have zk := zk.trans (if_neg c_33)
      have hb_c_33 : n3 < 8 := nI_of_nle (by decide) c_33 (by omega)
      refine lv_aload_n hx hb dX5_ends_36 rfl (lv_at hl 3 rfl) ?_
      refine lv_iload_n hx hb dX5_ends_37 rfl (lv_at hl 0 rfl) ?_
      refine lv_iconst (v := 0) hx hb dX5_ends_38 (by decide) ?_
      refine x_calli hW (x_runS B hW (As := [.ref (ad q), .int (nI n3), .int 0]) (rest := []) (c_X5_of (D := D) (ad := ad) l _ S q (nI n3) 0 hq (isN_vin (isN_nI hb_c_33 (by decide)) (by decide) (by decide)) (isN_vin (isN_lit 0 (by decide)) (by decide) (by decide))) (va_cwS 3 B.1.2.2.2.2 gX5_ends_X5_of rfl rfl rfl hd_X5_of.2 ⟨Nat.le_of_ble_eq_true rfl, Nat.le_of_ble_eq_true rfl⟩) rfl hls (Nat.le_of_ble_eq_true rfl) dX5_ends_39 ⟨Nat.zero_le _, Nat.zero_le _⟩) (fun r_39 S_39 H locs he hW => ?_)
      obtain ⟨hr_39, hs⟩ := he
      rw [hs] at hW
      have zk := nm_at zk hr_39
      refine lv_iconst (v := 1) hx hb dX5_ends_42 (by decide) ?_
      refine lv_icmp_ne (tgt := 129) hx hb dX5_ends_43 (by decide) (fun c_43 => ?_) (fun c_43 => ?_)
      · have zk := zk.trans (if_neg c_43)
        refine lv_iinc (v := (nI (n3 + 1))) (lv' := [(3, .int (nI (n3 + 1))), (2, .int v2), (0, .ref (ad 0)), (1, .ref (ad q))]) hx hb dX5_ends_129 hl (k := 0) rfl (nI_1 _) (by decide) rfl (fun ls hl => ?_)
        have hls := hl.1
        refine lv_goto (tgt := 30) hx hb dX5_ends_132 (by decide) ?_
        exact ih ((n3 + 1)) (v2) S _ _ _ (show (n3 + 1) ≤ 8 by omega) (show (n3 + 1) + n = 9 by omega) hch hs6 hW (lv_sub hl [0, 1, 2, 3] rfl) hls zk
      · have zk := zk.trans (if_pos c_43)
        refine lv_aload_n hx hb dX5_ends_46 rfl (lv_at hl 3 rfl) ?_
        refine lv_iload_n hx hb dX5_ends_47 rfl (lv_at hl 0 rfl) ?_
        refine lv_iconst (v := 4) hx hb dX5_ends_48 (by decide) ?_
        refine x_calli hW (x_runS B hW (As := [.ref (ad q), .int (nI n3), .int 4]) (rest := []) (c_X5_of (D := D) (ad := ad) l _ S q (nI n3) 4 hq (isN_vin (isN_nI hb_c_33 (by decide)) (by decide) (by decide)) (isN_vin (isN_lit 4 (by decide)) (by decide) (by decide))) (va_cwS 3 B.1.2.2.2.2 gX5_ends_X5_of rfl rfl rfl hd_X5_of.2 ⟨Nat.le_of_ble_eq_true rfl, Nat.le_of_ble_eq_true rfl⟩) rfl hls (Nat.le_of_ble_eq_true rfl) dX5_ends_49 ⟨Nat.zero_le _, Nat.zero_le _⟩) (fun r_49 S_49 H locs he hW => ?_)
        obtain ⟨hr_49, hs⟩ := he
        rw [hs] at hW
        have zk := nm_at zk hr_49
        refine lv_if_le (tgt := 129) hx hb dX5_ends_52 (by decide) (fun c_52 => ?_) (fun c_52 => ?_)
        · have zk := zk.trans (if_pos c_52)
          refine lv_iinc (v := (nI (n3 + 1))) (lv' := [(3, .int (nI (n3 + 1))), (2, .int v2), (0, .ref (ad 0)), (1, .ref (ad q))]) hx hb dX5_ends_129 hl (k := 0) rfl (nI_1 _) (by decide) rfl (fun ls hl => ?_)
          have hls := hl.1
          refine lv_goto (tgt := 30) hx hb dX5_ends_132 (by decide) ?_
          exact ih ((n3 + 1)) (v2) S _ _ _ (show (n3 + 1) ≤ 8 by omega) (show (n3 + 1) + n = 9 by omega) hch hs6 hW (lv_sub hl [0, 1, 2, 3] rfl) hls zk
        · have zk := zk.trans (if_neg c_52)
          refine lv_aload_n hx hb dX5_ends_55 rfl (lv_at hl 3 rfl) ?_
          refine lv_bipush (v := 10) hx hb dX5_ends_56 (by decide) ?_
          refine lv_dup2_11 hx hb dX5_ends_58 rfl rfl ?_
          refine x_iald B hW (hqq hq) (cM_q hq) (isN_lit 10 (by decide)) (by decide) (by decide) dX5_ends_59 ?_
          refine lv_aload_n hx hb dX5_ends_60 rfl (lv_at hl 3 rfl) ?_
          refine lv_iload_n hx hb dX5_ends_61 rfl (lv_at hl 0 rfl) ?_
          refine lv_bipush (v := 6) hx hb dX5_ends_62 (by decide) ?_
          refine x_calli hW (x_runS B hW (As := [.ref (ad q), .int (nI n3), .int 6]) (rest := .int (S q 10) :: .int 10 :: .ref (ad q) :: []) (c_X5_of (D := D) (ad := ad) l _ S q (nI n3) 6 hq (isN_vin (isN_nI hb_c_33 (by decide)) (by decide) (by decide)) (isN_vin (isN_lit 6 (by decide)) (by decide) (by decide))) (va_cwS 3 B.1.2.2.2.2 gX5_ends_X5_of rfl rfl rfl hd_X5_of.2 ⟨Nat.le_of_ble_eq_true rfl, Nat.le_of_ble_eq_true rfl⟩) rfl hls (Nat.le_of_ble_eq_true rfl) dX5_ends_64 ⟨Nat.zero_le _, Nat.zero_le _⟩) (fun r_64 S_64 H locs he hW => ?_)
          obtain ⟨hr_64, hs⟩ := he
          rw [hs] at hW
          have zk := nm_at zk hr_64
          refine lv_iadd hx hb dX5_ends_67 ?_
          refine x_iast B hW (hqq hq) (fun _ => (cM_q hq)) (isN_lit 10 (by decide)) (by decide) (by decide) dX5_ends_68 (fun H locs S_68 he_68 hW => ?_)
          have zk := nm_at zk he_68
          have hf_S_68_q_2_chairOK : chairOK (S_68 q 2) := by rw [he_68, st_at, if_neg (by rintro ⟨h1, h2⟩; omega)]; exact hch
          have hf_S_68_q_6_0 : ¬ (S_68 q 6) = 0 := by rw [he_68, st_at, if_neg (by rintro ⟨h1, h2⟩; omega)]; exact hs6
          refine lv_iload_n hx hb dX5_ends_69 rfl (lv_at hl 1 rfl) ?_
          refine lv_aload_n hx hb dX5_ends_70 rfl (lv_at hl 3 rfl) ?_
          refine lv_iload_n hx hb dX5_ends_71 rfl (lv_at hl 0 rfl) ?_
          refine lv_bipush (v := 7) hx hb dX5_ends_72 (by decide) ?_
          refine x_calli hW (x_runS B hW (As := [.ref (ad q), .int (nI n3), .int 7]) (rest := .int v2 :: []) (c_X5_of (D := D) (ad := ad) l _ S_68 q (nI n3) 7 hq (isN_vin (isN_nI hb_c_33 (by decide)) (by decide) (by decide)) (isN_vin (isN_lit 7 (by decide)) (by decide) (by decide))) (va_cwS 3 B.1.2.2.2.2 gX5_ends_X5_of rfl rfl rfl hd_X5_of.2 ⟨Nat.le_of_ble_eq_true rfl, Nat.le_of_ble_eq_true rfl⟩) rfl hls (Nat.le_of_ble_eq_true rfl) dX5_ends_74 ⟨Nat.zero_le _, Nat.zero_le _⟩) (fun r_74 S_74 H locs he hW => ?_)
          obtain ⟨hr_74, hs⟩ := he
          rw [hs] at hW
          have zk := nm_at zk hr_74
          refine lv_if_ne (tgt := 88) hx hb dX5_ends_77 (by decide) (fun c_77 => ?_) (fun c_77 => ?_)
          · have zk := zk.trans (if_neg c_77)
            refine lv_aload_n hx hb dX5_ends_88 rfl (lv_at hl 2 rfl) ?_
            refine lv_aload_n hx hb dX5_ends_89 rfl (lv_at hl 3 rfl) ?_
            refine lv_iload_n hx hb dX5_ends_90 rfl (lv_at hl 0 rfl) ?_
            refine x_calli hW (x_runV B hW (As := [.ref (ad q), .int (nI n3)]) (rest := .int v2 :: []) (by decide) cM_o cls5 (c_X5_misses (D := D) (ad := ad) l _ S_68 q (nI n3) hq (isN_vin (isN_nI hb_c_33 (by decide)) (by decide) (by decide))) (cwV 2 B.1.2.2.2.2 gX5_ends_X5_misses rfl rfl rfl hd_X5_misses ⟨Nat.le_of_ble_eq_true rfl, Nat.le_of_ble_eq_true rfl⟩) rfl hls (Nat.le_of_ble_eq_true rfl) dX5_ends_91 ⟨Nat.zero_le _, Nat.zero_le _⟩) (fun r_91 S_91 H locs he hW => ?_)
            have hr_91 := he
            have zk := nmp_at zk hr_91
            have he_91 : S_91 = (x_X5_misses S_68 q (nI n3)).2 := by rw [← hr_91]
            have hf_S_91_q_2_chairOK : chairOK (S_91 q 2) := by rw [he_91, (fr_misses (fun _ => by decide) (by omega) (by omega))]; exact hf_S_68_q_2_chairOK
            have hf_S_91_q_6_0 : ¬ (S_91 q 6) = 0 := by rw [he_91, (fr_misses (fun _ => by decide) (by omega) (by omega))]; exact hf_S_68_q_6_0
            refine lv_iadd hx hb dX5_ends_94 ?_
            refine lv_topi (fun x_95 ex_95 => ?_)
            have zk := nm_at zk ex_95
            refine lv_istore_n (lv' := [(2, .int x_95), (3, .int (nI n3)), (0, .ref (ad 0)), (1, .ref (ad q))]) hx hb dX5_ends_95 rfl hl (by decide) rfl (fun ls hl => ?_)
            have hls := hl.1
            refine lv_aload_n hx hb dX5_ends_96 rfl (lv_at hl 3 rfl) ?_
            refine lv_iload_n hx hb dX5_ends_97 rfl (lv_at hl 1 rfl) ?_
            refine lv_iconst (v := 3) hx hb dX5_ends_98 (by decide) ?_
            refine lv_aload_n hx hb dX5_ends_99 rfl (lv_at hl 3 rfl) ?_
            refine lv_iload_n hx hb dX5_ends_100 rfl (lv_at hl 1 rfl) ?_
            refine x_calli hW (x_runS B hW (As := [.ref (ad q), .int (nI n3)]) (rest := .int 3 :: .int (nI n3) :: .ref (ad q) :: []) (c_X5_partOf (D := D) (ad := ad) l _ S_91 q (nI n3) hq (isN_vin (isN_nI hb_c_33 (by decide)) (by decide) (by decide))) (va_cwS 2 B.1.2.2.2.2 gX5_ends_X5_partOf rfl rfl rfl hd_X5_partOf.2 ⟨Nat.le_of_ble_eq_true rfl, Nat.le_of_ble_eq_true rfl⟩) rfl hls (Nat.le_of_ble_eq_true rfl) dX5_ends_101 ⟨Nat.zero_le _, Nat.zero_le _⟩) (fun r_101 S_101 H locs he hW => ?_)
            obtain ⟨hr_101, hs⟩ := he
            rw [hs] at hW
            have zk := nm_at zk hr_101
            refine lv_ineg hx hb dX5_ends_104 ?_
            refine x_callv hW (x_runS B hW (As := [.ref (ad q), .int (nI n3), .int 3, .int (-r_101)]) (rest := []) (c_X5_adds (D := D) (ad := ad) l _ S_91 q (nI n3) 3 (-r_101) hq (isN_vin (isN_nI hb_c_33 (by decide)) (by decide) (by decide)) (isN_vin (isN_lit 3 (by decide)) (by decide) (by decide))) (va_cwS 4 B.1.2.2.2.2 gX5_ends_X5_adds rfl rfl rfl hd_X5_adds.2 ⟨Nat.le_of_ble_eq_true rfl, Nat.le_of_ble_eq_true rfl⟩) rfl hls (Nat.le_of_ble_eq_true rfl) dX5_ends_105 ⟨Nat.zero_le _, Nat.zero_le _⟩) (fun S_105 H locs he hW => ?_)
            have he_105 := he
            have zk := nm_at zk he_105
            have hf_S_105_q_2_chairOK : chairOK (S_105 q 2) := by rw [he_105, (fr_adds (Or.inr (by decide)))]; exact hf_S_91_q_2_chairOK
            have hf_S_105_q_6_0 : ¬ (S_105 q 6) = 0 := by rw [he_105, (fr_adds (Or.inr (by decide)))]; exact hf_S_91_q_6_0
            refine lv_aload_n hx hb dX5_ends_108 rfl (lv_at hl 3 rfl) ?_
            refine lv_iload_n hx hb dX5_ends_109 rfl (lv_at hl 1 rfl) ?_
            refine lv_iconst (v := 4) hx hb dX5_ends_110 (by decide) ?_
            refine lv_iconst (v := (-1)) hx hb dX5_ends_111 (by decide) ?_
            refine x_callv hW (x_runS B hW (As := [.ref (ad q), .int (nI n3), .int 4, .int (-1)]) (rest := []) (c_X5_adds (D := D) (ad := ad) l _ S_105 q (nI n3) 4 (-1) hq (isN_vin (isN_nI hb_c_33 (by decide)) (by decide) (by decide)) (isN_vin (isN_lit 4 (by decide)) (by decide) (by decide))) (va_cwS 4 B.1.2.2.2.2 gX5_ends_X5_adds rfl rfl rfl hd_X5_adds.2 ⟨Nat.le_of_ble_eq_true rfl, Nat.le_of_ble_eq_true rfl⟩) rfl hls (Nat.le_of_ble_eq_true rfl) dX5_ends_112 ⟨Nat.zero_le _, Nat.zero_le _⟩) (fun S_112 H locs he hW => ?_)
            have he_112 := he
            have zk := nm_at zk he_112
            have hf_S_112_q_2_chairOK : chairOK (S_112 q 2) := by rw [he_112, (fr_adds (Or.inr (by decide)))]; exact hf_S_105_q_2_chairOK
            have hf_S_112_q_6_0 : ¬ (S_112 q 6) = 0 := by rw [he_112, (fr_adds (Or.inr (by decide)))]; exact hf_S_105_q_6_0
            refine lv_aload_n hx hb dX5_ends_115 rfl (lv_at hl 3 rfl) ?_
            refine lv_iload_n hx hb dX5_ends_116 rfl (lv_at hl 1 rfl) ?_
            refine lv_iconst (v := 4) hx hb dX5_ends_117 (by decide) ?_
            refine x_calli hW (x_runS B hW (As := [.ref (ad q), .int (nI n3), .int 4]) (rest := []) (c_X5_of (D := D) (ad := ad) l _ S_112 q (nI n3) 4 hq (isN_vin (isN_nI hb_c_33 (by decide)) (by decide) (by decide)) (isN_vin (isN_lit 4 (by decide)) (by decide) (by decide))) (va_cwS 3 B.1.2.2.2.2 gX5_ends_X5_of rfl rfl rfl hd_X5_of.2 ⟨Nat.le_of_ble_eq_true rfl, Nat.le_of_ble_eq_true rfl⟩) rfl hls (Nat.le_of_ble_eq_true rfl) dX5_ends_118 ⟨Nat.zero_le _, Nat.zero_le _⟩) (fun r_118 S_118 H locs he hW => ?_)
            obtain ⟨hr_118, hs⟩ := he
            rw [hs] at hW
            have zk := nm_at zk hr_118
            refine lv_if_ne (tgt := 129) hx hb dX5_ends_121 (by decide) (fun c_121 => ?_) (fun c_121 => ?_)
            · have zk := zk.trans (if_neg c_121)
              refine lv_iinc (v := (nI (n3 + 1))) (lv' := [(3, .int (nI (n3 + 1))), (2, .int x_95), (0, .ref (ad 0)), (1, .ref (ad q))]) hx hb dX5_ends_129 hl (k := 1) rfl (nI_1 _) (by decide) rfl (fun ls hl => ?_)
              have hls := hl.1
              refine lv_goto (tgt := 30) hx hb dX5_ends_132 (by decide) ?_
              exact ih ((n3 + 1)) (x_95) S_112 _ _ _ (show (n3 + 1) ≤ 8 by omega) (show (n3 + 1) + n = 9 by omega) hf_S_112_q_2_chairOK hf_S_112_q_6_0 hW (lv_sub hl [0, 1, 2, 3] rfl) hls zk
            · have zk := zk.trans (if_pos c_121)
              refine lv_aload_n hx hb dX5_ends_124 rfl (lv_at hl 3 rfl) ?_
              refine lv_iload_n hx hb dX5_ends_125 rfl (lv_at hl 1 rfl) ?_
              refine x_callv hW (x_runS B hW (As := [.ref (ad q), .int (nI n3)]) (rest := []) (c_X5_loanEnds (D := D) (ad := ad) l _ S_112 q (nI n3) hq (isN_vin (isN_nI hb_c_33 (by decide)) (by decide) (by decide))) (va_cwS 2 B.1.2.2.2.2 gX5_ends_X5_loanEnds rfl rfl rfl hd_X5_loanEnds.2 ⟨Nat.le_of_ble_eq_true rfl, Nat.le_of_ble_eq_true rfl⟩) rfl hls (Nat.le_of_ble_eq_true rfl) dX5_ends_126 ⟨Nat.zero_le _, Nat.zero_le _⟩) (fun S_126 H locs he hW => ?_)
              have he_126 := he
              have zk := nm_at zk he_126
              have hf_S_126_q_2_chairOK : chairOK (S_126 q 2) := by rw [he_126, (fr_loanEnds (Or.inr (by decide)))]; exact hf_S_112_q_2_chairOK
              have hf_S_126_q_6_0 : ¬ (S_126 q 6) = 0 := by rw [he_126, (fr_loanEnds (Or.inr (by decide)))]; exact hf_S_112_q_6_0
              refine lv_iinc (v := (nI (n3 + 1))) (lv' := [(3, .int (nI (n3 + 1))), (2, .int x_95), (0, .ref (ad 0)), (1, .ref (ad q))]) hx hb dX5_ends_129 hl (k := 1) rfl (nI_1 _) (by decide) rfl (fun ls hl => ?_)
              have hls := hl.1
              refine lv_goto (tgt := 30) hx hb dX5_ends_132 (by decide) ?_
              exact ih ((n3 + 1)) (x_95) S_126 _ _ _ (show (n3 + 1) ≤ 8 by omega) (show (n3 + 1) + n = 9 by omega) hf_S_126_q_2_chairOK hf_S_126_q_6_0 hW (lv_sub hl [0, 1, 2, 3] rfl) hls zk
          · have zk := zk.trans (if_pos c_77)
            refine lv_aload_n hx hb dX5_ends_80 rfl (lv_at hl 3 rfl) ?_
            refine lv_iload_n hx hb dX5_ends_81 rfl (lv_at hl 0 rfl) ?_
            refine x_calli hW (x_runS B hW (As := [.ref (ad q), .int (nI n3)]) (rest := .int v2 :: []) (c_X5_due (D := D) (ad := ad) l _ S_68 q (nI n3) hq (isN_vin (isN_nI hb_c_33 (by decide)) (by decide) (by decide))) (va_cwS 2 B.1.2.2.2.2 gX5_ends_X5_due rfl rfl rfl hd_X5_due.2 ⟨Nat.le_of_ble_eq_true rfl, Nat.le_of_ble_eq_true rfl⟩) rfl hls (Nat.le_of_ble_eq_true rfl) dX5_ends_82 ⟨Nat.zero_le _, Nat.zero_le _⟩) (fun r_82 S_82 H locs he hW => ?_)
            obtain ⟨hr_82, hs⟩ := he
            rw [hs] at hW
            have zk := nm_at zk hr_82
            refine lv_goto (tgt := 94) hx hb dX5_ends_85 (by decide) ?_
            refine lv_iadd hx hb dX5_ends_94 ?_
            refine lv_topi (fun x_95 ex_95 => ?_)
            have zk := nm_at zk ex_95
            refine lv_istore_n (lv' := [(2, .int x_95), (3, .int (nI n3)), (0, .ref (ad 0)), (1, .ref (ad q))]) hx hb dX5_ends_95 rfl hl (by decide) rfl (fun ls hl => ?_)
            have hls := hl.1
            refine lv_aload_n hx hb dX5_ends_96 rfl (lv_at hl 3 rfl) ?_
            refine lv_iload_n hx hb dX5_ends_97 rfl (lv_at hl 1 rfl) ?_
            refine lv_iconst (v := 3) hx hb dX5_ends_98 (by decide) ?_
            refine lv_aload_n hx hb dX5_ends_99 rfl (lv_at hl 3 rfl) ?_
            refine lv_iload_n hx hb dX5_ends_100 rfl (lv_at hl 1 rfl) ?_
            refine x_calli hW (x_runS B hW (As := [.ref (ad q), .int (nI n3)]) (rest := .int 3 :: .int (nI n3) :: .ref (ad q) :: []) (c_X5_partOf (D := D) (ad := ad) l _ S_68 q (nI n3) hq (isN_vin (isN_nI hb_c_33 (by decide)) (by decide) (by decide))) (va_cwS 2 B.1.2.2.2.2 gX5_ends_X5_partOf rfl rfl rfl hd_X5_partOf.2 ⟨Nat.le_of_ble_eq_true rfl, Nat.le_of_ble_eq_true rfl⟩) rfl hls (Nat.le_of_ble_eq_true rfl) dX5_ends_101 ⟨Nat.zero_le _, Nat.zero_le _⟩) (fun r_101 S_101 H locs he hW => ?_)
            obtain ⟨hr_101, hs⟩ := he
            rw [hs] at hW
            have zk := nm_at zk hr_101
            refine lv_ineg hx hb dX5_ends_104 ?_
            refine x_callv hW (x_runS B hW (As := [.ref (ad q), .int (nI n3), .int 3, .int (-r_101)]) (rest := []) (c_X5_adds (D := D) (ad := ad) l _ S_68 q (nI n3) 3 (-r_101) hq (isN_vin (isN_nI hb_c_33 (by decide)) (by decide) (by decide)) (isN_vin (isN_lit 3 (by decide)) (by decide) (by decide))) (va_cwS 4 B.1.2.2.2.2 gX5_ends_X5_adds rfl rfl rfl hd_X5_adds.2 ⟨Nat.le_of_ble_eq_true rfl, Nat.le_of_ble_eq_true rfl⟩) rfl hls (Nat.le_of_ble_eq_true rfl) dX5_ends_105 ⟨Nat.zero_le _, Nat.zero_le _⟩) (fun S_105 H locs he hW => ?_)
            have he_105 := he
            have zk := nm_at zk he_105
            have hf_S_105_q_2_chairOK : chairOK (S_105 q 2) := by rw [he_105, (fr_adds (Or.inr (by decide)))]; exact hf_S_68_q_2_chairOK
            have hf_S_105_q_6_0 : ¬ (S_105 q 6) = 0 := by rw [he_105, (fr_adds (Or.inr (by decide)))]; exact hf_S_68_q_6_0
            refine lv_aload_n hx hb dX5_ends_108 rfl (lv_at hl 3 rfl) ?_
            refine lv_iload_n hx hb dX5_ends_109 rfl (lv_at hl 1 rfl) ?_
            refine lv_iconst (v := 4) hx hb dX5_ends_110 (by decide) ?_
            refine lv_iconst (v := (-1)) hx hb dX5_ends_111 (by decide) ?_
            refine x_callv hW (x_runS B hW (As := [.ref (ad q), .int (nI n3), .int 4, .int (-1)]) (rest := []) (c_X5_adds (D := D) (ad := ad) l _ S_105 q (nI n3) 4 (-1) hq (isN_vin (isN_nI hb_c_33 (by decide)) (by decide) (by decide)) (isN_vin (isN_lit 4 (by decide)) (by decide) (by decide))) (va_cwS 4 B.1.2.2.2.2 gX5_ends_X5_adds rfl rfl rfl hd_X5_adds.2 ⟨Nat.le_of_ble_eq_true rfl, Nat.le_of_ble_eq_true rfl⟩) rfl hls (Nat.le_of_ble_eq_true rfl) dX5_ends_112 ⟨Nat.zero_le _, Nat.zero_le _⟩) (fun S_112 H locs he hW => ?_)
            have he_112 := he
            have zk := nm_at zk he_112
            have hf_S_112_q_2_chairOK : chairOK (S_112 q 2) := by rw [he_112, (fr_adds (Or.inr (by decide)))]; exact hf_S_105_q_2_chairOK
            have hf_S_112_q_6_0 : ¬ (S_112 q 6) = 0 := by rw [he_112, (fr_adds (Or.inr (by decide)))]; exact hf_S_105_q_6_0
            refine lv_aload_n hx hb dX5_ends_115 rfl (lv_at hl 3 rfl) ?_
            refine lv_iload_n hx hb dX5_ends_116 rfl (lv_at hl 1 rfl) ?_
            refine lv_iconst (v := 4) hx hb dX5_ends_117 (by decide) ?_
            refine x_calli hW (x_runS B hW (As := [.ref (ad q), .int (nI n3), .int 4]) (rest := []) (c_X5_of (D := D) (ad := ad) l _ S_112 q (nI n3) 4 hq (isN_vin (isN_nI hb_c_33 (by decide)) (by decide) (by decide)) (isN_vin (isN_lit 4 (by decide)) (by decide) (by decide))) (va_cwS 3 B.1.2.2.2.2 gX5_ends_X5_of rfl rfl rfl hd_X5_of.2 ⟨Nat.le_of_ble_eq_true rfl, Nat.le_of_ble_eq_true rfl⟩) rfl hls (Nat.le_of_ble_eq_true rfl) dX5_ends_118 ⟨Nat.zero_le _, Nat.zero_le _⟩) (fun r_118 S_118 H locs he hW => ?_)
            obtain ⟨hr_118, hs⟩ := he
            rw [hs] at hW
            have zk := nm_at zk hr_118
            refine lv_if_ne (tgt := 129) hx hb dX5_ends_121 (by decide) (fun c_121 => ?_) (fun c_121 => ?_)
            · have zk := zk.trans (if_neg c_121)
              refine lv_iinc (v := (nI (n3 + 1))) (lv' := [(3, .int (nI (n3 + 1))), (2, .int x_95), (0, .ref (ad 0)), (1, .ref (ad q))]) hx hb dX5_ends_129 hl (k := 1) rfl (nI_1 _) (by decide) rfl (fun ls hl => ?_)
              have hls := hl.1
              refine lv_goto (tgt := 30) hx hb dX5_ends_132 (by decide) ?_
              exact ih ((n3 + 1)) (x_95) S_112 _ _ _ (show (n3 + 1) ≤ 8 by omega) (show (n3 + 1) + n = 9 by omega) hf_S_112_q_2_chairOK hf_S_112_q_6_0 hW (lv_sub hl [0, 1, 2, 3] rfl) hls zk
            · have zk := zk.trans (if_pos c_121)
              refine lv_aload_n hx hb dX5_ends_124 rfl (lv_at hl 3 rfl) ?_
              refine lv_iload_n hx hb dX5_ends_125 rfl (lv_at hl 1 rfl) ?_
              refine x_callv hW (x_runS B hW (As := [.ref (ad q), .int (nI n3)]) (rest := []) (c_X5_loanEnds (D := D) (ad := ad) l _ S_112 q (nI n3) hq (isN_vin (isN_nI hb_c_33 (by decide)) (by decide) (by decide))) (va_cwS 2 B.1.2.2.2.2 gX5_ends_X5_loanEnds rfl rfl rfl hd_X5_loanEnds.2 ⟨Nat.le_of_ble_eq_true rfl, Nat.le_of_ble_eq_true rfl⟩) rfl hls (Nat.le_of_ble_eq_true rfl) dX5_ends_126 ⟨Nat.zero_le _, Nat.zero_le _⟩) (fun S_126 H locs he hW => ?_)
              have he_126 := he
              have zk := nm_at zk he_126
              have hf_S_126_q_2_chairOK : chairOK (S_126 q 2) := by rw [he_126, (fr_loanEnds (Or.inr (by decide)))]; exact hf_S_112_q_2_chairOK
              have hf_S_126_q_6_0 : ¬ (S_126 q 6) = 0 := by rw [he_126, (fr_loanEnds (Or.inr (by decide)))]; exact hf_S_112_q_6_0
              refine lv_iinc (v := (nI (n3 + 1))) (lv' := [(3, .int (nI (n3 + 1))), (2, .int x_95), (0, .ref (ad 0)), (1, .ref (ad q))]) hx hb dX5_ends_129 hl (k := 1) rfl (nI_1 _) (by decide) rfl (fun ls hl => ?_)
              have hls := hl.1
              refine lv_goto (tgt := 30) hx hb dX5_ends_132 (by decide) ?_
              exact ih ((n3 + 1)) (x_95) S_126 _ _ _ (show (n3 + 1) ≤ 8 by omega) (show (n3 + 1) + n = 9 by omega) hf_S_126_q_2_chairOK hf_S_126_q_6_0 hW (lv_sub hl [0, 1, 2, 3] rfl) hls zk
set_option maxHeartbeats 4000000 in
set_option maxRecDepth 100000 in
theorem w_X5_ends_L9 {D : va_G} {ad : Nat → Nat} (l : Launch) {p : Program} {e : Env} {s : State} {mm : MethodId} {args : Array Value} {below : List Frame} {meth : Method} {c : Code} {A : Nat → Prop} (B : Cx p mm c cX5_ends 4 s args wsX5_ends RX5 meth (some .int) D) (z : (Int32 × vS)) (q : Nat) (hq : q = 1 ∨ q = 2) : ∀ (n : Nat) (n3 : Nat) (S : vS) (H : Heap) (locs : List Loc) (ls : Array Slot), n3 ≤ 8 → n3 + n = 9 → chairOK (S q 2) → ¬ (S q 6) = 0 → Wd D 7 (cM D ad) ad A s.heap S H locs → lv_has ls 4 [(3, .int (nI n3)), (2, .int 0), (0, .ref (ad 0)), (1, .ref (ad q))] → ls.size = 4 → z = x_X5_ends_L9 n S q n3 → W p l e (rmD 4) s mm args below meth c H locs 0 0 (MQ below (va_Qi (fun (r : Int32) (S1 : vS) => (r, S1) = z) (bW D 7 (cM D ad) ad A) A) args s 0 0 A) (F0 mm 9 ls []) := by
  have hx := B.1.1
  have hb := B.1.2.1
  have hin_X5 : ∀ w ∈ wsX50, w ∈ wsX5_ends := fun w h => List.mem_cons_of_mem _ (List.mem_append_right _ h)
  have k_25 := B.1.2.2.2.2 (.fieldLink RX5 25 "JointLoansModel" "shares" "[I") (by decide +kernel)
  have k_68 := B.1.2.2.2.2 (.fieldLink RX5 68 "JointLoansModel" "isUnpaid" "Z") (by decide +kernel)
  intro n
  induction n with
  | zero =>
    intro n3 S H locs ls hle hsum hch hs6
    omega
  | succ n ih =>
    intro n3 S H locs ls hle hsum hch hs6 hW hl hls zk
    have zk := zk.trans (x_X5_ends_L9.eq_2 _ _ _ _ )
    refine lv_iload_n hx hb dX5_ends_9 rfl (lv_at hl 0 rfl) ?_
    refine lv_bipush (v := 8) hx hb dX5_ends_10 (by decide) ?_
    refine lv_icmp_ge (tgt := 28) hx hb dX5_ends_12 (by decide) (fun c_12 => ?_) (fun c_12 => ?_)
    · have zk := zk.trans (if_pos c_12)
      refine lv_iconst (v := 0) hx hb dX5_ends_28 (by decide) ?_
      refine lv_istore_n (lv' := [(3, .int 0), (2, .int 0), (0, .ref (ad 0)), (1, .ref (ad q))]) hx hb dX5_ends_29 rfl hl (by decide) rfl (fun ls hl => ?_)
      have hls := hl.1
      exact w_X5_ends_L30 l B  _ q hq (9) (0) (0) S _ _ _ (show 0 ≤ 8 by omega) (show 0 + (9) = 9 by omega) hch hs6 hW (lv_sub hl [0, 1, 2, 3] rfl) hls zk
    · have zk := zk.trans (if_neg c_12)
      have hb_c_12 : n3 < 8 := nI_of_nle (by decide) c_12 (by omega)
      refine lv_aload_n hx hb dX5_ends_15 rfl (lv_at hl 2 rfl) ?_
      refine x_get B hW (by decide) cM_o cls5 hin_X5 12 (by decide) (v := .ref (ad 6)) rfl k_25 dX5_ends_16 ?_
      refine lv_iload_n hx hb dX5_ends_19 rfl (lv_at hl 0 rfl) ?_
      refine lv_iconst (v := 0) hx hb dX5_ends_20 (by decide) ?_
      refine x_iast B hW (by decide) (fun _ => cM_6) (isN_nI hb_c_12 (by decide)) (by decide) (by decide) dX5_ends_21 (fun H locs S_21 he_21 hW => ?_)
      have zk := nm_at zk he_21
      have hf_S_21_q_2_chairOK : chairOK (S_21 q 2) := by rw [he_21, st_at, if_neg (by rintro ⟨h1, h2⟩; omega)]; exact hch
      have hf_S_21_q_6_0 : ¬ (S_21 q 6) = 0 := by rw [he_21, st_at, if_neg (by rintro ⟨h1, h2⟩; omega)]; exact hs6
      refine lv_iinc (v := (nI (n3 + 1))) (lv' := [(3, .int (nI (n3 + 1))), (2, .int 0), (0, .ref (ad 0)), (1, .ref (ad q))]) hx hb dX5_ends_22 hl (k := 0) rfl (nI_1 _) (by decide) rfl (fun ls hl => ?_)
      have hls := hl.1
      refine lv_goto (tgt := 9) hx hb dX5_ends_25 (by decide) ?_
      exact ih ((n3 + 1)) S_21 _ _ _ (show (n3 + 1) ≤ 8 by omega) (show (n3 + 1) + n = 9 by omega) hf_S_21_q_2_chairOK hf_S_21_q_6_0 hW (lv_sub hl [0, 1, 2, 3] rfl) hls zk
set_option maxHeartbeats 4000000 in
set_option maxRecDepth 100000 in
theorem c_X5_ends {D : va_G} {ad : Nat → Nat} (l : Launch) (sz : Nat) (S : vS) (q : Nat) (hq : q = 1 ∨ q = 2) (hch : chairOK (S q 2)) (hs6 : ¬ (S q 6) = 0) : Met l yX5_ends wsX5_ends (rmD 4) (pW D 7 (cM D ad) ad sz S [.ref (ad 0), .ref (ad q)]) (va_Qi (fun (r : Int32) (S1 : vS) => (r, S1) = (x_X5_ends S q)) (bW D 7 (cM D ad) ad (aW 7 ad sz)) (aW 7 ad sz)) 0 0 (aW 7 ad sz) := by
  refine x_met (own := RX5) (cc := cX5_ends) (maxL := 4) (ret := (some .int)) (Qc := fun A => va_Qi (fun (r : Int32) (S1 : vS) => (r, S1) = (x_X5_ends S q)) (bW D 7 (cM D ad) ad A) A) rfl ⟨by decide +kernel, rfl, Nat.le_of_ble_eq_true rfl⟩ ?_
  intro p e s mm args below meth c A ls B hW hl hls
  have hx := B.1.1
  have hb := B.1.2.1
  have hin_X5 : ∀ w ∈ wsX50, w ∈ wsX5_ends := fun w h => List.mem_cons_of_mem _ (List.mem_append_right _ h)
  have k_25 := B.1.2.2.2.2 (.fieldLink RX5 25 "JointLoansModel" "shares" "[I") (by decide +kernel)
  have k_68 := B.1.2.2.2.2 (.fieldLink RX5 68 "JointLoansModel" "isUnpaid" "Z") (by decide +kernel)
  have zk := x_X5_ends.eq_1 S q
  have hl : lv_has ls 4 [(0, .ref (ad 0)), (1, .ref (ad q))] := hl
  refine lv_iconst (v := 0) hx hb dX5_ends_0 (by decide) ?_
  refine lv_istore_n (lv' := [(2, .int 0), (0, .ref (ad 0)), (1, .ref (ad q))]) hx hb dX5_ends_1 rfl hl (by decide) rfl (fun ls hl => ?_)
  have hls := hl.1
  refine lv_aload_n hx hb dX5_ends_2 rfl (lv_at hl 1 rfl) ?_
  refine lv_iconst (v := 0) hx hb dX5_ends_3 (by decide) ?_
  refine x_put B hW (by decide) cls5 hin_X5 13 (by decide) cM_o rfl (ty := .boolean) (by decide +kernel) (nar_z (Or.inl rfl)) (fit_z (Or.inl rfl)) (Nat.le_of_ble_eq_true rfl) (j := 13) (pO_13 (Or.inl rfl)) k_68 dX5_ends_4 (fun H locs S_4 he_4 hW => ?_)
  have zk := nm_at zk he_4
  have hf_S_4_q_2_chairOK : chairOK (S_4 q 2) := by rw [he_4, st_at, if_neg (by rintro ⟨h1, h2⟩; omega)]; exact hch
  have hf_S_4_q_6_0 : ¬ (S_4 q 6) = 0 := by rw [he_4, st_at, if_neg (by rintro ⟨h1, h2⟩; omega)]; exact hs6
  have hf_S_4_0_13_1 : vp_in (S_4 0 13) 1 := by rw [he_4, st_at, if_pos ⟨rfl, rfl⟩]; exact isN_vin (isN_lit 0 (by decide)) (by decide) (by decide)
  refine lv_iconst (v := 0) hx hb dX5_ends_7 (by decide) ?_
  refine lv_istore_n (lv' := [(3, .int 0), (2, .int 0), (0, .ref (ad 0)), (1, .ref (ad q))]) hx hb dX5_ends_8 rfl hl (by decide) rfl (fun ls hl => ?_)
  have hls := hl.1
  exact w_X5_ends_L9 l B  _ q hq (9) (0) S_4 _ _ _ (show 0 ≤ 8 by omega) (show 0 + (9) = 9 by omega) hf_S_4_q_2_chairOK hf_S_4_q_6_0 hW (lv_sub hl [0, 1, 2, 3] rfl) hls zk
def EP (q : Nat) (S S' : vS) : Prop := (∀ q0 j0, (q0 = q → j0 = 1 ∨ (3 ≤ j0 ∧ j0 ≤ 7) ∨ j0 = 9) → q0 ≠ 6 → (q0 = 0 → j0 ≠ 13) → S' q0 j0 = S q0 j0) ∧ (chairOK (S q 2) → chairOK (S' q 2))
theorem EP.rf {q : Nat} {S : vS} : EP q S S := ⟨fun _ _ _ _ _ => rfl, fun h => h⟩
theorem EP.tr {q : Nat} {S S1 S2 : vS} (h : EP q S S1) (h2 : EP q S1 S2) : EP q S S2 := ⟨fun q0 j0 a b c => (h2.1 q0 j0 a b c).trans (h.1 q0 j0 a b c), fun z => h2.2 (h.2 z)⟩
theorem EP.w {q j : Nat} {S S1 : vS} {x : Int32} (h : EP q S S1) (hj : j = 0 ∨ j = 8 ∨ 10 ≤ j) : EP q S (st S1 q j x) :=
  h.tr ⟨fun q0 j0 a b c => by rw [st_at, if_neg (by rintro ⟨h1, h2⟩; have := a h1; omega)], fun z => by rw [st_at, if_neg (by rintro ⟨h1, h2⟩; omega)]; exact z⟩
theorem EP.six {q j : Nat} {S S1 : vS} {x : Int32} (hq : q = 1 ∨ q = 2) (h : EP q S S1) : EP q S (st S1 6 j x) :=
  h.tr ⟨fun q0 j0 a b c => by rw [st_at, if_neg (by rintro ⟨h1, h2⟩; exact b h1)], fun z => by rw [st_at, if_neg (by rintro ⟨h1, h2⟩; omega)]; exact z⟩
theorem EP.un {q : Nat} {S S1 : vS} {x : Int32} (hq : q = 1 ∨ q = 2) (h : EP q S S1) : EP q S (st S1 0 13 x) :=
  h.tr ⟨fun q0 j0 a b c => by rw [st_at, if_neg (by rintro ⟨h1, h2⟩; exact c h1 h2)], fun z => by rw [st_at, if_neg (by rintro ⟨h1, h2⟩; omega)]; exact z⟩
theorem EP.chair {q : Nat} {S S1 : vS} (h : EP q S S1) : EP q S (st S1 q 2 (x_X5_nextChair S1 q (S1 q 2))) :=
  h.tr ⟨fun q0 j0 a b c => by rw [st_at, if_neg (by rintro ⟨h1, h2⟩; have := a h1; omega)], fun z => by rw [st_at, if_pos ⟨rfl, rfl⟩]; exact nextChair_ok z⟩
theorem EP.adds {q : Nat} {S S1 : vS} {a b v : Int32} (h : EP q S S1) : EP q S (x_X5_adds S1 q a b v) := by
  rw [e_adds]
  exact h.w (by omega)
theorem EP.misses {q : Nat} {S S1 : vS} {a : Int32} (hq : q = 1 ∨ q = 2) (h : EP q S S1) : EP q S (x_X5_misses S1 q a).2 :=
  h.tr ⟨fun q0 j0 a b c => by
    by_cases e : q0 = q
    · rcases a e with e2 | e2 | e2
      · exact fr_misses (fun _ => by omega) b c
      · exact fr_misses (fun _ => by omega) b c
      · subst e2
        exact fr_misses9 b c
    · exact fr_misses (fun z => absurd z e) b c, fun z => by rw [fr_misses (fun _ => by omega) (by omega) (by omega)]; exact z⟩
theorem EP.loanEnds {q : Nat} {S S1 : vS} {a : Int32} (h : EP q S S1) : EP q S (x_X5_loanEnds S1 q a) :=
  h.tr ⟨fun q0 j0 a b c => fr_loanEnds (by by_cases e : q0 = q; exact Or.inr (by have := a e; omega); exact Or.inl e), fun z => by rw [fr_loanEnds (Or.inr (by decide))]; exact z⟩
theorem ep_L229 {q : Nat} {p v : Int32} : ∀ (n : Nat) (S S0 : vS) (k : Nat), EP q S0 S → EP q S0 (x_X5_ends_L229 n S q k v).2 := by
  intro n
  induction n with
  | zero => intro S S0 k h; exact h
  | succ n ih =>
    intro S S0 k h
    rw [x_X5_ends_L229]
    try simp only [nm_eq, nmp_eq]
    split
    · exact h
    · exact ih _ _ _ (h.w (by omega))
theorem ep_L145 {q : Nat} (hq : q = 1 ∨ q = 2) : ∀ (n : Nat) (S S0 : vS) (k : Nat) (v : Int32), EP q S0 S → EP q S0 (x_X5_ends_L145 n S q k v).2 := by
  intro n
  induction n with
  | zero => intro S S0 k v h; exact h
  | succ n ih =>
    intro S S0 k v h
    rw [x_X5_ends_L145]
    try simp only [nm_eq, nmp_eq]
    repeat' split
    all_goals repeat (first | (with_reducible assumption) | (with_reducible apply ih) | (with_reducible apply ep_L229 (p := 0)) | (with_reducible apply EP.adds) | (with_reducible apply EP.chair) | (with_reducible refine EP.w ?_ (by omega)))
theorem ep_L30 {q : Nat} (hq : q = 1 ∨ q = 2) : ∀ (n : Nat) (S S0 : vS) (k : Nat) (v : Int32), EP q S0 S → EP q S0 (x_X5_ends_L30 n S q k v).2 := by
  intro n
  induction n with
  | zero => intro S S0 k v h; exact h
  | succ n ih =>
    intro S S0 k v h
    rw [x_X5_ends_L30]
    try simp only [nm_eq, nmp_eq]
    repeat' split
    all_goals repeat (first | (with_reducible assumption) | (with_reducible apply ih) | (with_reducible apply ep_L145 hq) | (with_reducible apply EP.adds) | (with_reducible apply EP.loanEnds) | (with_reducible apply EP.misses hq) | (with_reducible refine EP.w ?_ (by omega)))
theorem ep_L9 {q : Nat} (hq : q = 1 ∨ q = 2) : ∀ (n : Nat) (S S0 : vS) (k : Nat), EP q S0 S → EP q S0 (x_X5_ends_L9 n S q k).2 := by
  intro n
  induction n with
  | zero => intro S S0 k h; exact h
  | succ n ih =>
    intro S S0 k h
    rw [x_X5_ends_L9]
    try simp only [nm_eq, nmp_eq]
    repeat' split
    all_goals repeat (first | (with_reducible assumption) | (with_reducible apply ih) | (with_reducible apply ep_L30 hq) | (with_reducible apply EP.six hq))
theorem ep_ends {S : vS} {q : Nat} (hq : q = 1 ∨ q = 2) : EP q S (x_X5_ends S q).2 := by
  unfold x_X5_ends
  try simp only [nm_eq, nmp_eq]
  apply ep_L9 hq
  exact EP.rf.un hq
theorem EX.ends {S S1 : vS} (h : EX S S1) : EX S (x_X5_ends S1 1).2 := by
  have e := ep_ends (S := S1) (Or.inl rfl : (1 : Nat) = 1 ∨ (1 : Nat) = 2)
  exact h.tr ⟨fun q0 j0 a b c => e.1 q0 j0 (fun z => by have := a z; omega) b c, e.2⟩

def x_X5_members_L4 : Nat → vS → Nat → Int32 → Int32
  | 0, S, _, _ => 0
  | n + 1, S, n2, v1 => if 8 ≤ (nI n2) then v1 else nm (x_X5_of S 1 (nI n2) 0) (fun r_17 => nm ((v1 + r_17)) (fun x_21 => x_X5_members_L4 n S ((n2 + 1)) (x_21)))
def x_X5_members (S : vS) : Int32 := x_X5_members_L4 (9) S (0) (0)
theorem hd_X5_members : yX5_members.cls = RX5 ∧ yX5_members.cls ≠ "java/lang/invoke/MethodHandle" ∧ yX5_members.cls ≠ "java/lang/invoke/VarHandle" ∧ (parseMethodDescriptor yX5_members.desc).map (fun d => d.parameters.length) = some 0 := by decide +kernel
set_option maxHeartbeats 4000000 in
set_option maxRecDepth 100000 in
theorem w_X5_members_L4 {D : va_G} {ad : Nat → Nat} (l : Launch) {p : Program} {e : Env} {s : State} {mm : MethodId} {args : Array Value} {below : List Frame} {meth : Method} {c : Code} {A : Nat → Prop} (B : Cx p mm c cX5_members 3 s args wsX5_members RX5 meth (some .int) D) (S : vS) (z : Int32) : ∀ (n : Nat) (n2 : Nat) (v1 : Int32) (H : Heap) (locs : List Loc) (ls : Array Slot), n2 ≤ 8 → n2 + n = 9 → Wd D 7 (cM D ad) ad A s.heap S H locs → lv_has ls 3 [(2, .int (nI n2)), (1, .int v1), (0, .ref (ad 0))] → ls.size = 3 → z = x_X5_members_L4 n S n2 v1 → W p l e (rmD 1) s mm args below meth c H locs 0 0 (MQ below (va_Qi (fun (r : Int32) (S1 : vS) => r = z ∧ S1 = S) (bW D 7 (cM D ad) ad A) A) args s 0 0 A) (F0 mm 4 ls []) := by
  have hx := B.1.1
  have hb := B.1.2.1
  have hin_X5 : ∀ w ∈ wsX50, w ∈ wsX5_members := fun w h => List.mem_cons_of_mem _ (List.mem_append_right _ h)
  have k_7 := B.1.2.2.2.2 (.fieldLink RX5 7 "JointLoansModel" "now" "[I") (by decide +kernel)
  intro n
  induction n with
  | zero =>
    intro n2 v1 H locs ls hle hsum
    omega
  | succ n ih =>
    intro n2 v1 H locs ls hle hsum hW hl hls zk
    have zk := zk.trans (x_X5_members_L4.eq_2 _ _ _ _ )
    refine lv_iload_n hx hb dX5_members_4 rfl (lv_at hl 0 rfl) ?_
    refine lv_bipush (v := 8) hx hb dX5_members_5 (by decide) ?_
    refine lv_icmp_ge (tgt := 28) hx hb dX5_members_7 (by decide) (fun c_7 => ?_) (fun c_7 => ?_)
    · have zk := zk.trans (if_pos c_7)
      refine lv_iload_n hx hb dX5_members_28 rfl (lv_at hl 1 rfl) ?_
      exact x_iret B hW ⟨zk.symm, rfl⟩ dX5_members_29
    · have zk := zk.trans (if_neg c_7)
      have hb_c_7 : n2 < 8 := nI_of_nle (by decide) c_7 (by omega)
      refine lv_iload_n hx hb dX5_members_10 rfl (lv_at hl 1 rfl) ?_
      refine lv_aload_n hx hb dX5_members_11 rfl (lv_at hl 2 rfl) ?_
      refine x_get B hW (by decide) cM_o cls5 hin_X5 0 (by decide) (v := .ref (ad 1)) rfl k_7 dX5_members_12 ?_
      refine lv_iload_n hx hb dX5_members_15 rfl (lv_at hl 0 rfl) ?_
      refine lv_iconst (v := 0) hx hb dX5_members_16 (by decide) ?_
      refine x_calli hW (x_runS B hW (As := [.ref (ad 1), .int (nI n2), .int 0]) (rest := .int v1 :: []) (c_X5_of (D := D) (ad := ad) l _ S 1 (nI n2) 0 (Or.inl rfl) (isN_vin (isN_nI hb_c_7 (by decide)) (by decide) (by decide)) (isN_vin (isN_lit 0 (by decide)) (by decide) (by decide))) (va_cwS 3 B.1.2.2.2.2 gX5_members_X5_of rfl rfl rfl hd_X5_of.2 ⟨Nat.le_of_ble_eq_true rfl, Nat.le_of_ble_eq_true rfl⟩) rfl hls (Nat.le_of_ble_eq_true rfl) dX5_members_17 ⟨Nat.zero_le _, Nat.zero_le _⟩) (fun r_17 S_17 H locs he hW => ?_)
      obtain ⟨hr_17, hs⟩ := he
      rw [hs] at hW
      have zk := nm_at zk hr_17
      refine lv_iadd hx hb dX5_members_20 ?_
      refine lv_topi (fun x_21 ex_21 => ?_)
      have zk := nm_at zk ex_21
      refine lv_istore_n (lv' := [(1, .int x_21), (2, .int (nI n2)), (0, .ref (ad 0))]) hx hb dX5_members_21 rfl hl (by decide) rfl (fun ls hl => ?_)
      have hls := hl.1
      refine lv_iinc (v := (nI (n2 + 1))) (lv' := [(2, .int (nI (n2 + 1))), (1, .int x_21), (0, .ref (ad 0))]) hx hb dX5_members_22 hl (k := 1) rfl (nI_1 _) (by decide) rfl (fun ls hl => ?_)
      have hls := hl.1
      refine lv_goto (tgt := 4) hx hb dX5_members_25 (by decide) ?_
      exact ih ((n2 + 1)) (x_21)  _ _ _ (show (n2 + 1) ≤ 8 by omega) (show (n2 + 1) + n = 9 by omega) hW (lv_sub hl [0, 1, 2] rfl) hls zk
set_option maxHeartbeats 4000000 in
set_option maxRecDepth 100000 in
theorem c_X5_members {D : va_G} {ad : Nat → Nat} (l : Launch) (sz : Nat) (S : vS) : Met l yX5_members wsX5_members (rmD 1) (pW D 7 (cM D ad) ad sz S [.ref (ad 0)]) (va_Qi (fun (r : Int32) (S1 : vS) => r = (x_X5_members S) ∧ S1 = S) (bW D 7 (cM D ad) ad (aW 7 ad sz)) (aW 7 ad sz)) 0 0 (aW 7 ad sz) := by
  refine x_met (own := RX5) (cc := cX5_members) (maxL := 3) (ret := (some .int)) (Qc := fun A => va_Qi (fun (r : Int32) (S1 : vS) => r = (x_X5_members S) ∧ S1 = S) (bW D 7 (cM D ad) ad A) A) rfl ⟨by decide +kernel, rfl, Nat.le_of_ble_eq_true rfl⟩ ?_
  intro p e s mm args below meth c A ls B hW hl hls
  have hx := B.1.1
  have hb := B.1.2.1
  have hin_X5 : ∀ w ∈ wsX50, w ∈ wsX5_members := fun w h => List.mem_cons_of_mem _ (List.mem_append_right _ h)
  have k_7 := B.1.2.2.2.2 (.fieldLink RX5 7 "JointLoansModel" "now" "[I") (by decide +kernel)
  have zk := x_X5_members.eq_1 S
  have hl : lv_has ls 3 [(0, .ref (ad 0))] := hl
  refine lv_iconst (v := 0) hx hb dX5_members_0 (by decide) ?_
  refine lv_istore_n (lv' := [(1, .int 0), (0, .ref (ad 0))]) hx hb dX5_members_1 rfl hl (by decide) rfl (fun ls hl => ?_)
  have hls := hl.1
  refine lv_iconst (v := 0) hx hb dX5_members_2 (by decide) ?_
  refine lv_istore_n (lv' := [(2, .int 0), (1, .int 0), (0, .ref (ad 0))]) hx hb dX5_members_3 rfl hl (by decide) rfl (fun ls hl => ?_)
  have hls := hl.1
  exact w_X5_members_L4 l B S _  (9) (0) (0)  _ _ _ (show 0 ≤ 8 by omega) (show 0 + (9) = 9 by omega) hW (lv_sub hl [0, 1, 2] rfl) hls zk

def x_X5_join (S : vS) : (Int32 × vS) := nm (st S 0 6 0) (fun S_2 => if (S_2 1 3) = 8 then nmp (x_X5_fails S_2 1) (fun r_18 S_18 => (r_18, S_18)) else nm (x_X5_saves S_2) (fun S_23 => nm ((S_23 1 3)) (fun x_32 => nm (x_X5_members S_23) (fun r_39 => if r_39 = 0 then nm (st S_23 1 2 x_32) (fun S_55 => nm (x_X5_adds S_55 1 x_32 0 1) (fun S_63 => nm (x_X5_adds S_63 1 x_32 1 200) (fun S_75 => nm (st S_75 1 3 ((S_75 1 3) + 1)) (fun S_87 => (x_32, S_87))))) else nm (st S_23 1 2 (S_23 1 2)) (fun S_55 => nm (x_X5_adds S_55 1 x_32 0 1) (fun S_63 => nm (x_X5_adds S_63 1 x_32 1 200) (fun S_75 => nm (st S_75 1 3 ((S_75 1 3) + 1)) (fun S_87 => (x_32, S_87)))))))))
theorem hd_X5_join : yX5_join.cls = RX5 ∧ yX5_join.cls ≠ "java/lang/invoke/MethodHandle" ∧ yX5_join.cls ≠ "java/lang/invoke/VarHandle" ∧ (parseMethodDescriptor yX5_join.desc).map (fun d => d.parameters.length) = some 0 := by decide +kernel
set_option maxHeartbeats 4000000 in
set_option maxRecDepth 100000 in
theorem c_X5_join {D : va_G} {ad : Nat → Nat} (l : Launch) (sz : Nat) (S : vS) (hkp : vp_in (S 0 3) 7) (hgv : vp_in (S 1 3) 9) : Met l yX5_join wsX5_join (rmD 2) (pW D 7 (cM D ad) ad sz S [.ref (ad 0)]) (va_Qi (fun (r : Int32) (S1 : vS) => (r, S1) = (x_X5_join S)) (bW D 7 (cM D ad) ad (aW 7 ad sz)) (aW 7 ad sz)) 0 0 (aW 7 ad sz) := by
  refine x_met (own := RX5) (cc := cX5_join) (maxL := 2) (ret := (some .int)) (Qc := fun A => va_Qi (fun (r : Int32) (S1 : vS) => (r, S1) = (x_X5_join S)) (bW D 7 (cM D ad) ad A) A) rfl ⟨by decide +kernel, rfl, Nat.le_of_ble_eq_true rfl⟩ ?_
  intro p e s mm args below meth c A ls B hW hl hls
  have hx := B.1.1
  have hb := B.1.2.1
  have hin_X5 : ∀ w ∈ wsX50, w ∈ wsX5_join := fun w h => List.mem_cons_of_mem _ (List.mem_append_right _ h)
  have k_28 := B.1.2.2.2.2 (.fieldLink RX5 28 "JointLoansModel" "thrown" "I") (by decide +kernel)
  have k_7 := B.1.2.2.2.2 (.fieldLink RX5 7 "JointLoansModel" "now" "[I") (by decide +kernel)
  have zk := x_X5_join.eq_1 S
  have hl : lv_has ls 2 [(0, .ref (ad 0))] := hl
  refine lv_aload_n hx hb dX5_join_0 rfl (lv_at hl 0 rfl) ?_
  refine lv_iconst (v := 0) hx hb dX5_join_1 (by decide) ?_
  refine x_put B hW (by decide) cls5 hin_X5 6 (by decide) cM_o rfl (ty := .int) (by decide +kernel) rfl rfl (Nat.le_of_ble_eq_true rfl) (j := 6) pO_6 k_28 dX5_join_2 (fun H locs S_2 he_2 hW => ?_)
  have zk := nm_at zk he_2
  have hf_S_2_0_3_7 : vp_in (S_2 0 3) 7 := by rw [he_2, st_at, if_neg (by rintro ⟨h1, h2⟩; omega)]; exact hkp
  have hf_S_2_1_3_9 : vp_in (S_2 1 3) 9 := by rw [he_2, st_at, if_neg (by rintro ⟨h1, h2⟩; omega)]; exact hgv
  have hf_S_2_0_6_1 : vp_in (S_2 0 6) 1 := by rw [he_2, st_at, if_pos ⟨rfl, rfl⟩]; exact isN_vin (isN_lit 0 (by decide)) (by decide) (by decide)
  refine lv_aload_n hx hb dX5_join_5 rfl (lv_at hl 0 rfl) ?_
  refine x_get B hW (by decide) cM_o cls5 hin_X5 0 (by decide) (v := .ref (ad 1)) rfl k_7 dX5_join_6 ?_
  refine lv_iconst (v := 3) hx hb dX5_join_9 (by decide) ?_
  refine x_iald B hW (by decide) cM_1 (isN_lit 3 (by decide)) (by decide) (by decide) dX5_join_10 ?_
  refine lv_bipush (v := 8) hx hb dX5_join_11 (by decide) ?_
  refine lv_icmp_ne (tgt := 22) hx hb dX5_join_13 (by decide) (fun c_13 => ?_) (fun c_13 => ?_)
  · have zk := zk.trans (if_neg c_13)
    refine lv_aload_n hx hb dX5_join_22 rfl (lv_at hl 0 rfl) ?_
    refine x_callv hW (x_runV B hW (As := []) (rest := []) (by decide) cM_o cls5 (c_X5_saves (D := D) (ad := ad) l _ S_2 (isN_vin (isN_var hf_S_2_0_3_7 (by decide)) (by decide) (by decide))) (cwV 0 B.1.2.2.2.2 gX5_join_X5_saves rfl rfl rfl hd_X5_saves ⟨Nat.le_of_ble_eq_true rfl, Nat.le_of_ble_eq_true rfl⟩) rfl hls (Nat.le_of_ble_eq_true rfl) dX5_join_23 ⟨Nat.zero_le _, Nat.zero_le _⟩) (fun S_23 H locs he hW => ?_)
    have he_23 := he
    have zk := nm_at zk he_23
    have hf_S_23_1_3_9 : vp_in (S_23 1 3) 9 := by rw [he_23, (fr_saves (by decide))]; exact hf_S_2_1_3_9
    have hf_S_23_0_6_1 : vp_in (S_23 0 6) 1 := by rw [he_23, (fr_saves (by decide))]; exact hf_S_2_0_6_1
    have hf_S_23_1_3_8 : vp_in (S_23 1 3) 8 := by rw [he_23, (fr_saves (by decide))]; exact (vin_ne hf_S_2_1_3_9 c_13)
    refine lv_aload_n hx hb dX5_join_26 rfl (lv_at hl 0 rfl) ?_
    refine x_get B hW (by decide) cM_o cls5 hin_X5 0 (by decide) (v := .ref (ad 1)) rfl k_7 dX5_join_27 ?_
    refine lv_iconst (v := 3) hx hb dX5_join_30 (by decide) ?_
    refine x_iald B hW (by decide) cM_1 (isN_lit 3 (by decide)) (by decide) (by decide) dX5_join_31 ?_
    refine lv_topi (fun x_32 ex_32 => ?_)
    have zk := nm_at zk ex_32
    have hx_x_32_9 : vp_in x_32 9 := by rw [ex_32]; exact hf_S_23_1_3_9
    have hx_x_32_8 : vp_in x_32 8 := by rw [ex_32]; exact hf_S_23_1_3_8
    refine lv_istore_n (lv' := [(1, .int x_32), (0, .ref (ad 0))]) hx hb dX5_join_32 rfl hl (by decide) rfl (fun ls hl => ?_)
    have hls := hl.1
    refine lv_aload_n hx hb dX5_join_33 rfl (lv_at hl 1 rfl) ?_
    refine x_get B hW (by decide) cM_o cls5 hin_X5 0 (by decide) (v := .ref (ad 1)) rfl k_7 dX5_join_34 ?_
    refine lv_iconst (v := 2) hx hb dX5_join_37 (by decide) ?_
    refine lv_aload_n hx hb dX5_join_38 rfl (lv_at hl 1 rfl) ?_
    refine x_calli hW (x_runV B hW (As := []) (rest := .int 2 :: .ref (ad 1) :: []) (by decide) cM_o cls5 (c_X5_members (D := D) (ad := ad) l _ S_23) (cwV 0 B.1.2.2.2.2 gX5_join_X5_members rfl rfl rfl hd_X5_members ⟨Nat.le_of_ble_eq_true rfl, Nat.le_of_ble_eq_true rfl⟩) rfl hls (Nat.le_of_ble_eq_true rfl) dX5_join_39 ⟨Nat.zero_le _, Nat.zero_le _⟩) (fun r_39 S_39 H locs he hW => ?_)
    obtain ⟨hr_39, hs⟩ := he
    rw [hs] at hW
    have zk := nm_at zk hr_39
    refine lv_if_ne (tgt := 49) hx hb dX5_join_42 (by decide) (fun c_42 => ?_) (fun c_42 => ?_)
    · have zk := zk.trans (if_neg c_42)
      refine lv_aload_n hx hb dX5_join_49 rfl (lv_at hl 1 rfl) ?_
      refine x_get B hW (by decide) cM_o cls5 hin_X5 0 (by decide) (v := .ref (ad 1)) rfl k_7 dX5_join_50 ?_
      refine lv_iconst (v := 2) hx hb dX5_join_53 (by decide) ?_
      refine x_iald B hW (by decide) cM_1 (isN_lit 2 (by decide)) (by decide) (by decide) dX5_join_54 ?_
      refine x_iast B hW (by decide) (fun _ => cM_1) (isN_lit 2 (by decide)) (by decide) (by decide) dX5_join_55 (fun H locs S_55 he_55 hW => ?_)
      have zk := nm_at zk he_55
      have hf_S_55_1_3_9 : vp_in (S_55 1 3) 9 := by rw [he_55, st_at, if_neg (by rintro ⟨h1, h2⟩; omega)]; exact hf_S_23_1_3_9
      have hf_S_55_0_6_1 : vp_in (S_55 0 6) 1 := by rw [he_55, st_at, if_neg (by rintro ⟨h1, h2⟩; omega)]; exact hf_S_23_0_6_1
      have hf_S_55_1_3_8 : vp_in (S_55 1 3) 8 := by rw [he_55, st_at, if_neg (by rintro ⟨h1, h2⟩; omega)]; exact hf_S_23_1_3_8
      refine lv_aload_n hx hb dX5_join_56 rfl (lv_at hl 1 rfl) ?_
      refine x_get B hW (by decide) cM_o cls5 hin_X5 0 (by decide) (v := .ref (ad 1)) rfl k_7 dX5_join_57 ?_
      refine lv_iload_n hx hb dX5_join_60 rfl (lv_at hl 0 rfl) ?_
      refine lv_iconst (v := 0) hx hb dX5_join_61 (by decide) ?_
      refine lv_iconst (v := 1) hx hb dX5_join_62 (by decide) ?_
      refine x_callv hW (x_runS B hW (As := [.ref (ad 1), .int x_32, .int 0, .int 1]) (rest := []) (c_X5_adds (D := D) (ad := ad) l _ S_55 1 x_32 0 1 (Or.inl rfl) (isN_vin (isN_var hx_x_32_8 (by decide)) (by decide) (by decide)) (isN_vin (isN_lit 0 (by decide)) (by decide) (by decide))) (va_cwS 4 B.1.2.2.2.2 gX5_join_X5_adds rfl rfl rfl hd_X5_adds.2 ⟨Nat.le_of_ble_eq_true rfl, Nat.le_of_ble_eq_true rfl⟩) rfl hls (Nat.le_of_ble_eq_true rfl) dX5_join_63 ⟨Nat.zero_le _, Nat.zero_le _⟩) (fun S_63 H locs he hW => ?_)
      have he_63 := he
      have zk := nm_at zk he_63
      have hf_S_63_1_3_9 : vp_in (S_63 1 3) 9 := by rw [he_63, (fr_adds (Or.inr (by decide)))]; exact hf_S_55_1_3_9
      have hf_S_63_0_6_1 : vp_in (S_63 0 6) 1 := by rw [he_63, (fr_adds (Or.inl (by decide)))]; exact hf_S_55_0_6_1
      have hf_S_63_1_3_8 : vp_in (S_63 1 3) 8 := by rw [he_63, (fr_adds (Or.inr (by decide)))]; exact hf_S_55_1_3_8
      refine lv_aload_n hx hb dX5_join_66 rfl (lv_at hl 1 rfl) ?_
      refine x_get B hW (by decide) cM_o cls5 hin_X5 0 (by decide) (v := .ref (ad 1)) rfl k_7 dX5_join_67 ?_
      refine lv_iload_n hx hb dX5_join_70 rfl (lv_at hl 0 rfl) ?_
      refine lv_iconst (v := 1) hx hb dX5_join_71 (by decide) ?_
      refine lv_sipush (v := 200) hx hb dX5_join_72 (by decide) ?_
      refine x_callv hW (x_runS B hW (As := [.ref (ad 1), .int x_32, .int 1, .int 200]) (rest := []) (c_X5_adds (D := D) (ad := ad) l _ S_63 1 x_32 1 200 (Or.inl rfl) (isN_vin (isN_var hx_x_32_8 (by decide)) (by decide) (by decide)) (isN_vin (isN_lit 1 (by decide)) (by decide) (by decide))) (va_cwS 4 B.1.2.2.2.2 gX5_join_X5_adds rfl rfl rfl hd_X5_adds.2 ⟨Nat.le_of_ble_eq_true rfl, Nat.le_of_ble_eq_true rfl⟩) rfl hls (Nat.le_of_ble_eq_true rfl) dX5_join_75 ⟨Nat.zero_le _, Nat.zero_le _⟩) (fun S_75 H locs he hW => ?_)
      have he_75 := he
      have zk := nm_at zk he_75
      have hf_S_75_1_3_9 : vp_in (S_75 1 3) 9 := by rw [he_75, (fr_adds (Or.inr (by decide)))]; exact hf_S_63_1_3_9
      have hf_S_75_0_6_1 : vp_in (S_75 0 6) 1 := by rw [he_75, (fr_adds (Or.inl (by decide)))]; exact hf_S_63_0_6_1
      have hf_S_75_1_3_8 : vp_in (S_75 1 3) 8 := by rw [he_75, (fr_adds (Or.inr (by decide)))]; exact hf_S_63_1_3_8
      refine lv_aload_n hx hb dX5_join_78 rfl (lv_at hl 1 rfl) ?_
      refine x_get B hW (by decide) cM_o cls5 hin_X5 0 (by decide) (v := .ref (ad 1)) rfl k_7 dX5_join_79 ?_
      refine lv_iconst (v := 3) hx hb dX5_join_82 (by decide) ?_
      refine lv_dup2_11 hx hb dX5_join_83 rfl rfl ?_
      refine x_iald B hW (by decide) cM_1 (isN_lit 3 (by decide)) (by decide) (by decide) dX5_join_84 ?_
      refine lv_iconst (v := 1) hx hb dX5_join_85 (by decide) ?_
      refine lv_iadd hx hb dX5_join_86 ?_
      refine x_iast B hW (by decide) (fun _ => cM_1) (isN_lit 3 (by decide)) (by decide) (by decide) dX5_join_87 (fun H locs S_87 he_87 hW => ?_)
      have zk := nm_at zk he_87
      have hf_S_87_0_6_1 : vp_in (S_87 0 6) 1 := by rw [he_87, st_at, if_neg (by rintro ⟨h1, h2⟩; omega)]; exact hf_S_75_0_6_1
      have hf_S_87_1_3_9 : vp_in (S_87 1 3) 9 := by rw [he_87, st_at, if_pos ⟨rfl, rfl⟩]; exact isN_vin (isN_add (isN_var hf_S_75_1_3_8 (by decide)) (isN_lit 1 (by decide)) (by decide)) (by decide) (by decide)
      refine lv_iload_n hx hb dX5_join_88 rfl (lv_at hl 0 rfl) ?_
      exact x_iret B hW zk.symm dX5_join_89
    · have zk := zk.trans (if_pos c_42)
      refine lv_iload_n hx hb dX5_join_45 rfl (lv_at hl 0 rfl) ?_
      refine lv_goto (tgt := 55) hx hb dX5_join_46 (by decide) ?_
      refine x_iast B hW (by decide) (fun _ => cM_1) (isN_lit 2 (by decide)) (by decide) (by decide) dX5_join_55 (fun H locs S_55 he_55 hW => ?_)
      have zk := nm_at zk he_55
      have hf_S_55_1_3_9 : vp_in (S_55 1 3) 9 := by rw [he_55, st_at, if_neg (by rintro ⟨h1, h2⟩; omega)]; exact hf_S_23_1_3_9
      have hf_S_55_0_6_1 : vp_in (S_55 0 6) 1 := by rw [he_55, st_at, if_neg (by rintro ⟨h1, h2⟩; omega)]; exact hf_S_23_0_6_1
      have hf_S_55_1_3_8 : vp_in (S_55 1 3) 8 := by rw [he_55, st_at, if_neg (by rintro ⟨h1, h2⟩; omega)]; exact hf_S_23_1_3_8
      have hf_S_55_1_2_8 : vp_in (S_55 1 2) 8 := by rw [he_55, st_at, if_pos ⟨rfl, rfl⟩]; exact isN_vin (isN_var hx_x_32_8 (by decide)) (by decide) (by decide)
      refine lv_aload_n hx hb dX5_join_56 rfl (lv_at hl 1 rfl) ?_
      refine x_get B hW (by decide) cM_o cls5 hin_X5 0 (by decide) (v := .ref (ad 1)) rfl k_7 dX5_join_57 ?_
      refine lv_iload_n hx hb dX5_join_60 rfl (lv_at hl 0 rfl) ?_
      refine lv_iconst (v := 0) hx hb dX5_join_61 (by decide) ?_
      refine lv_iconst (v := 1) hx hb dX5_join_62 (by decide) ?_
      refine x_callv hW (x_runS B hW (As := [.ref (ad 1), .int x_32, .int 0, .int 1]) (rest := []) (c_X5_adds (D := D) (ad := ad) l _ S_55 1 x_32 0 1 (Or.inl rfl) (isN_vin (isN_var hx_x_32_8 (by decide)) (by decide) (by decide)) (isN_vin (isN_lit 0 (by decide)) (by decide) (by decide))) (va_cwS 4 B.1.2.2.2.2 gX5_join_X5_adds rfl rfl rfl hd_X5_adds.2 ⟨Nat.le_of_ble_eq_true rfl, Nat.le_of_ble_eq_true rfl⟩) rfl hls (Nat.le_of_ble_eq_true rfl) dX5_join_63 ⟨Nat.zero_le _, Nat.zero_le _⟩) (fun S_63 H locs he hW => ?_)
      have he_63 := he
      have zk := nm_at zk he_63
      have hf_S_63_1_3_9 : vp_in (S_63 1 3) 9 := by rw [he_63, (fr_adds (Or.inr (by decide)))]; exact hf_S_55_1_3_9
      have hf_S_63_0_6_1 : vp_in (S_63 0 6) 1 := by rw [he_63, (fr_adds (Or.inl (by decide)))]; exact hf_S_55_0_6_1
      have hf_S_63_1_3_8 : vp_in (S_63 1 3) 8 := by rw [he_63, (fr_adds (Or.inr (by decide)))]; exact hf_S_55_1_3_8
      have hf_S_63_1_2_8 : vp_in (S_63 1 2) 8 := by rw [he_63, (fr_adds (Or.inr (by decide)))]; exact hf_S_55_1_2_8
      refine lv_aload_n hx hb dX5_join_66 rfl (lv_at hl 1 rfl) ?_
      refine x_get B hW (by decide) cM_o cls5 hin_X5 0 (by decide) (v := .ref (ad 1)) rfl k_7 dX5_join_67 ?_
      refine lv_iload_n hx hb dX5_join_70 rfl (lv_at hl 0 rfl) ?_
      refine lv_iconst (v := 1) hx hb dX5_join_71 (by decide) ?_
      refine lv_sipush (v := 200) hx hb dX5_join_72 (by decide) ?_
      refine x_callv hW (x_runS B hW (As := [.ref (ad 1), .int x_32, .int 1, .int 200]) (rest := []) (c_X5_adds (D := D) (ad := ad) l _ S_63 1 x_32 1 200 (Or.inl rfl) (isN_vin (isN_var hx_x_32_8 (by decide)) (by decide) (by decide)) (isN_vin (isN_lit 1 (by decide)) (by decide) (by decide))) (va_cwS 4 B.1.2.2.2.2 gX5_join_X5_adds rfl rfl rfl hd_X5_adds.2 ⟨Nat.le_of_ble_eq_true rfl, Nat.le_of_ble_eq_true rfl⟩) rfl hls (Nat.le_of_ble_eq_true rfl) dX5_join_75 ⟨Nat.zero_le _, Nat.zero_le _⟩) (fun S_75 H locs he hW => ?_)
      have he_75 := he
      have zk := nm_at zk he_75
      have hf_S_75_1_3_9 : vp_in (S_75 1 3) 9 := by rw [he_75, (fr_adds (Or.inr (by decide)))]; exact hf_S_63_1_3_9
      have hf_S_75_0_6_1 : vp_in (S_75 0 6) 1 := by rw [he_75, (fr_adds (Or.inl (by decide)))]; exact hf_S_63_0_6_1
      have hf_S_75_1_3_8 : vp_in (S_75 1 3) 8 := by rw [he_75, (fr_adds (Or.inr (by decide)))]; exact hf_S_63_1_3_8
      have hf_S_75_1_2_8 : vp_in (S_75 1 2) 8 := by rw [he_75, (fr_adds (Or.inr (by decide)))]; exact hf_S_63_1_2_8
      refine lv_aload_n hx hb dX5_join_78 rfl (lv_at hl 1 rfl) ?_
      refine x_get B hW (by decide) cM_o cls5 hin_X5 0 (by decide) (v := .ref (ad 1)) rfl k_7 dX5_join_79 ?_
      refine lv_iconst (v := 3) hx hb dX5_join_82 (by decide) ?_
      refine lv_dup2_11 hx hb dX5_join_83 rfl rfl ?_
      refine x_iald B hW (by decide) cM_1 (isN_lit 3 (by decide)) (by decide) (by decide) dX5_join_84 ?_
      refine lv_iconst (v := 1) hx hb dX5_join_85 (by decide) ?_
      refine lv_iadd hx hb dX5_join_86 ?_
      refine x_iast B hW (by decide) (fun _ => cM_1) (isN_lit 3 (by decide)) (by decide) (by decide) dX5_join_87 (fun H locs S_87 he_87 hW => ?_)
      have zk := nm_at zk he_87
      have hf_S_87_0_6_1 : vp_in (S_87 0 6) 1 := by rw [he_87, st_at, if_neg (by rintro ⟨h1, h2⟩; omega)]; exact hf_S_75_0_6_1
      have hf_S_87_1_2_8 : vp_in (S_87 1 2) 8 := by rw [he_87, st_at, if_neg (by rintro ⟨h1, h2⟩; omega)]; exact hf_S_75_1_2_8
      have hf_S_87_1_3_9 : vp_in (S_87 1 3) 9 := by rw [he_87, st_at, if_pos ⟨rfl, rfl⟩]; exact isN_vin (isN_add (isN_var hf_S_75_1_3_8 (by decide)) (isN_lit 1 (by decide)) (by decide)) (by decide) (by decide)
      refine lv_iload_n hx hb dX5_join_88 rfl (lv_at hl 0 rfl) ?_
      exact x_iret B hW zk.symm dX5_join_89
  · have zk := zk.trans (if_pos c_13)
    refine lv_aload_n hx hb dX5_join_16 rfl (lv_at hl 0 rfl) ?_
    refine lv_iconst (v := 1) hx hb dX5_join_17 (by decide) ?_
    refine x_calli hW (x_runV B hW (As := [.int 1]) (rest := []) (by decide) cM_o cls5 (c_X5_fails (D := D) (ad := ad) l _ S_2 1) (cwV 1 B.1.2.2.2.2 gX5_join_X5_fails rfl rfl rfl hd_X5_fails ⟨Nat.le_of_ble_eq_true rfl, Nat.le_of_ble_eq_true rfl⟩) rfl hls (Nat.le_of_ble_eq_true rfl) dX5_join_18 ⟨Nat.zero_le _, Nat.zero_le _⟩) (fun r_18 S_18 H locs he hW => ?_)
    have hr_18 := he
    have zk := nmp_at zk hr_18
    have he_18 : S_18 = (x_X5_fails S_2 1).2 := by rw [← hr_18]
    exact x_iret B hW zk.symm dX5_join_21

def x_X5_leave_L109 : Nat → vS → Int32 → Nat → Int32 → (Int32 × vS)
  | 0, S, _, _, _ => (0, S)
  | n + 1, S, p1, n4, v3 => if 14 ≤ (nI n4) then if (S 1 2) = p1 then nm (x_X5_nextChair S 1 p1) (fun r_158 => nm (st S 1 2 r_158) (fun S_161 => (v3, S_161))) else (v3, S) else nm (st S 1 ((13 + (14 * p1.toNatClampNeg)) + n4) 0) (fun S_131 => x_X5_leave_L109 n S_131 p1 ((n4 + 1)) (v3))
def x_X5_leave (S : vS) (p1 : Int32) : (Int32 × vS) := nm (st S 0 6 0) (fun S_2 => nm (x_X5_isMember S_2 p1) (fun r_7 => if r_7 = 0 then nmp (x_X5_fails S_2 1) (fun r_15 S_15 => (r_15, S_15)) else nm (x_X5_of S_2 1 p1 4) (fun r_25 => if 0 < r_25 then nm (x_X5_of S_2 1 p1 12) (fun r_66 => nmp (x_X5_fails S_2 2) (fun r_87 S_87 => (r_87, S_87))) else nm (x_X5_debts S_2 1 p1) (fun r_36 => if 0 < r_36 then nm (x_X5_of S_2 1 p1 12) (fun r_66 => nmp (x_X5_fails S_2 2) (fun r_87 S_87 => (r_87, S_87))) else nm (x_X5_fromOthers S_2 1 p1) (fun r_47 => if r_47 ≤ 0 then nm (x_X5_of S_2 1 p1 12) (fun r_66 => if r_66 ≤ (S_2 1 8) then nm (x_X5_saves S_2) (fun S_92 => nm (st S_92 1 8 ((S_92 1 8) - r_66)) (fun S_105 => x_X5_leave_L109 (15) S_105 p1 (0) (r_66))) else nmp (x_X5_fails S_2 2) (fun r_87 S_87 => (r_87, S_87))) else nm (x_X5_of S_2 1 p1 12) (fun r_66 => nmp (x_X5_fails S_2 2) (fun r_87 S_87 => (r_87, S_87))))))))
theorem hd_X5_leave : yX5_leave.cls = RX5 ∧ yX5_leave.cls ≠ "java/lang/invoke/MethodHandle" ∧ yX5_leave.cls ≠ "java/lang/invoke/VarHandle" ∧ (parseMethodDescriptor yX5_leave.desc).map (fun d => d.parameters.length) = some 1 := by decide +kernel
set_option maxHeartbeats 4000000 in
set_option maxRecDepth 100000 in
theorem w_X5_leave_L109 {D : va_G} {ad : Nat → Nat} (l : Launch) {p : Program} {e : Env} {s : State} {mm : MethodId} {args : Array Value} {below : List Frame} {meth : Method} {c : Code} {A : Nat → Prop} (B : Cx p mm c cX5_leave 5 s args wsX5_leave RX5 meth (some .int) D) (z : (Int32 × vS)) (p1 : Int32) : ∀ (n : Nat) (n4 : Nat) (v3 : Int32) (S : vS) (H : Heap) (locs : List Loc) (ls : Array Slot), n4 ≤ 14 → n4 + n = 15 → vp_in p1 8 → Wd D 7 (cM D ad) ad A s.heap S H locs → lv_has ls 5 [(4, .int (nI n4)), (3, .int v3), (0, .ref (ad 0)), (1, .int p1)] → ls.size = 5 → z = x_X5_leave_L109 n S p1 n4 v3 → W p l e (rmD 4) s mm args below meth c H locs 0 0 (MQ below (va_Qi (fun (r : Int32) (S1 : vS) => (r, S1) = z) (bW D 7 (cM D ad) ad A) A) args s 0 0 A) (F0 mm 109 ls []) := by
  have hx := B.1.1
  have hb := B.1.2.1
  have hin_X5 : ∀ w ∈ wsX50, w ∈ wsX5_leave := fun w h => List.mem_cons_of_mem _ (List.mem_append_right _ h)
  have k_28 := B.1.2.2.2.2 (.fieldLink RX5 28 "JointLoansModel" "thrown" "I") (by decide +kernel)
  have k_7 := B.1.2.2.2.2 (.fieldLink RX5 7 "JointLoansModel" "now" "[I") (by decide +kernel)
  intro n
  induction n with
  | zero =>
    intro n4 v3 S H locs ls hle hsum hm8
    omega
  | succ n ih =>
    intro n4 v3 S H locs ls hle hsum hm8 hW hl hls zk
    have zk := zk.trans (x_X5_leave_L109.eq_2 _ _ _ _ _ )
    refine lv_iload hx hb dX5_leave_109 (lv_at hl 0 rfl) ?_
    refine lv_bipush (v := 14) hx hb dX5_leave_111 (by decide) ?_
    refine lv_icmp_ge (tgt := 138) hx hb dX5_leave_113 (by decide) (fun c_113 => ?_) (fun c_113 => ?_)
    · have zk := zk.trans (if_pos c_113)
      refine lv_aload_n hx hb dX5_leave_138 rfl (lv_at hl 2 rfl) ?_
      refine x_get B hW (by decide) cM_o cls5 hin_X5 0 (by decide) (v := .ref (ad 1)) rfl k_7 dX5_leave_139 ?_
      refine lv_iconst (v := 2) hx hb dX5_leave_142 (by decide) ?_
      refine x_iald B hW (by decide) cM_1 (isN_lit 2 (by decide)) (by decide) (by decide) dX5_leave_143 ?_
      refine lv_iload_n hx hb dX5_leave_144 rfl (lv_at hl 3 rfl) ?_
      refine lv_icmp_ne (tgt := 162) hx hb dX5_leave_145 (by decide) (fun c_145 => ?_) (fun c_145 => ?_)
      · have zk := zk.trans (if_neg c_145)
        refine lv_iload_n hx hb dX5_leave_162 rfl (lv_at hl 1 rfl) ?_
        exact x_iret B hW zk.symm dX5_leave_163
      · have zk := zk.trans (if_pos c_145)
        refine lv_aload_n hx hb dX5_leave_148 rfl (lv_at hl 2 rfl) ?_
        refine x_get B hW (by decide) cM_o cls5 hin_X5 0 (by decide) (v := .ref (ad 1)) rfl k_7 dX5_leave_149 ?_
        refine lv_iconst (v := 2) hx hb dX5_leave_152 (by decide) ?_
        refine lv_aload_n hx hb dX5_leave_153 rfl (lv_at hl 2 rfl) ?_
        refine x_get B hW (by decide) cM_o cls5 hin_X5 0 (by decide) (v := .ref (ad 1)) rfl k_7 dX5_leave_154 ?_
        refine lv_iload_n hx hb dX5_leave_157 rfl (lv_at hl 3 rfl) ?_
        refine x_calli hW (x_runS B hW (As := [.ref (ad 1), .int p1]) (rest := .int 2 :: .ref (ad 1) :: []) (c_X5_nextChair (D := D) (ad := ad) l _ S 1 p1 (Or.inl rfl) (Or.inr hm8)) (va_cwS 2 B.1.2.2.2.2 gX5_leave_X5_nextChair rfl rfl rfl hd_X5_nextChair.2 ⟨Nat.le_of_ble_eq_true rfl, Nat.le_of_ble_eq_true rfl⟩) rfl hls (Nat.le_of_ble_eq_true rfl) dX5_leave_158 ⟨Nat.zero_le _, Nat.zero_le _⟩) (fun r_158 S_158 H locs he hW => ?_)
        obtain ⟨hr_158, hs⟩ := he
        rw [hs] at hW
        have zk := nm_at zk hr_158
        refine x_iast B hW (by decide) (fun _ => cM_1) (isN_lit 2 (by decide)) (by decide) (by decide) dX5_leave_161 (fun H locs S_161 he_161 hW => ?_)
        have zk := nm_at zk he_161
        refine lv_iload_n hx hb dX5_leave_162 rfl (lv_at hl 1 rfl) ?_
        exact x_iret B hW zk.symm dX5_leave_163
    · have zk := zk.trans (if_neg c_113)
      have hb_c_113 : n4 < 14 := nI_of_nle (by decide) c_113 (by omega)
      refine lv_aload_n hx hb dX5_leave_116 rfl (lv_at hl 2 rfl) ?_
      refine x_get B hW (by decide) cM_o cls5 hin_X5 0 (by decide) (v := .ref (ad 1)) rfl k_7 dX5_leave_117 ?_
      refine lv_bipush (v := 13) hx hb dX5_leave_120 (by decide) ?_
      refine lv_bipush (v := 14) hx hb dX5_leave_122 (by decide) ?_
      refine lv_iload_n hx hb dX5_leave_124 rfl (lv_at hl 3 rfl) ?_
      refine lv_imul hx hb dX5_leave_125 ?_
      refine lv_iadd hx hb dX5_leave_126 ?_
      refine lv_iload hx hb dX5_leave_127 (lv_at hl 0 rfl) ?_
      refine lv_iadd hx hb dX5_leave_129 ?_
      refine lv_iconst (v := 0) hx hb dX5_leave_130 (by decide) ?_
      refine x_iast B hW (by decide) (fun _ => cM_1) (isN_add (isN_add (isN_lit 13 (by decide)) (isN_mul (isN_lit 14 (by decide)) (isN_var hm8 (by decide)) (by decide)) (by decide)) (isN_nI hb_c_113 (by decide)) (by decide)) (by decide) (by decide) dX5_leave_131 (fun H locs S_131 he_131 hW => ?_)
      have zk := nm_at zk he_131
      refine lv_iinc (v := (nI (n4 + 1))) (lv' := [(4, .int (nI (n4 + 1))), (3, .int v3), (0, .ref (ad 0)), (1, .int p1)]) hx hb dX5_leave_132 hl (k := 0) rfl (nI_1 _) (by decide) rfl (fun ls hl => ?_)
      have hls := hl.1
      refine lv_goto (tgt := 109) hx hb dX5_leave_135 (by decide) ?_
      exact ih ((n4 + 1)) (v3) S_131 _ _ _ (show (n4 + 1) ≤ 14 by omega) (show (n4 + 1) + n = 15 by omega) hm8 hW (lv_sub hl [0, 1, 2, 3] rfl) hls zk
set_option maxHeartbeats 4000000 in
set_option maxRecDepth 100000 in
theorem c_X5_leave {D : va_G} {ad : Nat → Nat} (l : Launch) (sz : Nat) (S : vS) (p1 : Int32) (hkp : vp_in (S 0 3) 7) : Met l yX5_leave wsX5_leave (rmD 4) (pW D 7 (cM D ad) ad sz S [.ref (ad 0), .int p1]) (va_Qi (fun (r : Int32) (S1 : vS) => (r, S1) = (x_X5_leave S p1)) (bW D 7 (cM D ad) ad (aW 7 ad sz)) (aW 7 ad sz)) 0 0 (aW 7 ad sz) := by
  refine x_met (own := RX5) (cc := cX5_leave) (maxL := 5) (ret := (some .int)) (Qc := fun A => va_Qi (fun (r : Int32) (S1 : vS) => (r, S1) = (x_X5_leave S p1)) (bW D 7 (cM D ad) ad A) A) rfl ⟨by decide +kernel, rfl, Nat.le_of_ble_eq_true rfl⟩ ?_
  intro p e s mm args below meth c A ls B hW hl hls
  have hx := B.1.1
  have hb := B.1.2.1
  have hin_X5 : ∀ w ∈ wsX50, w ∈ wsX5_leave := fun w h => List.mem_cons_of_mem _ (List.mem_append_right _ h)
  have k_28 := B.1.2.2.2.2 (.fieldLink RX5 28 "JointLoansModel" "thrown" "I") (by decide +kernel)
  have k_7 := B.1.2.2.2.2 (.fieldLink RX5 7 "JointLoansModel" "now" "[I") (by decide +kernel)
  have zk := x_X5_leave.eq_1 S p1
  have hl : lv_has ls 5 [(0, .ref (ad 0)), (1, .int p1)] := hl
  refine lv_aload_n hx hb dX5_leave_0 rfl (lv_at hl 0 rfl) ?_
  refine lv_iconst (v := 0) hx hb dX5_leave_1 (by decide) ?_
  refine x_put B hW (by decide) cls5 hin_X5 6 (by decide) cM_o rfl (ty := .int) (by decide +kernel) rfl rfl (Nat.le_of_ble_eq_true rfl) (j := 6) pO_6 k_28 dX5_leave_2 (fun H locs S_2 he_2 hW => ?_)
  have zk := nm_at zk he_2
  have hf_S_2_0_3_7 : vp_in (S_2 0 3) 7 := by rw [he_2, st_at, if_neg (by rintro ⟨h1, h2⟩; omega)]; exact hkp
  have hf_S_2_0_6_1 : vp_in (S_2 0 6) 1 := by rw [he_2, st_at, if_pos ⟨rfl, rfl⟩]; exact isN_vin (isN_lit 0 (by decide)) (by decide) (by decide)
  refine lv_aload_n hx hb dX5_leave_5 rfl (lv_at hl 0 rfl) ?_
  refine lv_iload_n hx hb dX5_leave_6 rfl (lv_at hl 1 rfl) ?_
  refine x_calli hW (x_runV B hW (As := [.int p1]) (rest := []) (by decide) cM_o cls5 (c_X5_isMember (D := D) (ad := ad) l _ S_2 p1) (cwV 1 B.1.2.2.2.2 gX5_leave_X5_isMember rfl rfl rfl hd_X5_isMember ⟨Nat.le_of_ble_eq_true rfl, Nat.le_of_ble_eq_true rfl⟩) rfl hls (Nat.le_of_ble_eq_true rfl) dX5_leave_7 ⟨Nat.zero_le _, Nat.zero_le _⟩) (fun r_7 S_7 H locs he hW => ?_)
  obtain ⟨hr_7, hs, hz_7⟩ := he
  rw [hs] at hW
  have zk := nm_at zk hr_7
  refine lv_if_ne (tgt := 19) hx hb dX5_leave_10 (by decide) (fun c_10 => ?_) (fun c_10 => ?_)
  · have zk := zk.trans (if_neg c_10)
    refine lv_aload_n hx hb dX5_leave_19 rfl (lv_at hl 0 rfl) ?_
    refine x_get B hW (by decide) cM_o cls5 hin_X5 0 (by decide) (v := .ref (ad 1)) rfl k_7 dX5_leave_20 ?_
    refine lv_iload_n hx hb dX5_leave_23 rfl (lv_at hl 1 rfl) ?_
    refine lv_iconst (v := 4) hx hb dX5_leave_24 (by decide) ?_
    refine x_calli hW (x_runS B hW (As := [.ref (ad 1), .int p1, .int 4]) (rest := []) (c_X5_of (D := D) (ad := ad) l _ S_2 1 p1 4 (Or.inl rfl) (isN_vin (isN_var (ismem_vin hr_7 c_10) (by decide)) (by decide) (by decide)) (isN_vin (isN_lit 4 (by decide)) (by decide) (by decide))) (va_cwS 3 B.1.2.2.2.2 gX5_leave_X5_of rfl rfl rfl hd_X5_of.2 ⟨Nat.le_of_ble_eq_true rfl, Nat.le_of_ble_eq_true rfl⟩) rfl hls (Nat.le_of_ble_eq_true rfl) dX5_leave_25 ⟨Nat.zero_le _, Nat.zero_le _⟩) (fun r_25 S_25 H locs he hW => ?_)
    obtain ⟨hr_25, hs⟩ := he
    rw [hs] at hW
    have zk := nm_at zk hr_25
    refine lv_if_gt (tgt := 53) hx hb dX5_leave_28 (by decide) (fun c_28 => ?_) (fun c_28 => ?_)
    · have zk := zk.trans (if_pos c_28)
      refine lv_iconst (v := 1) hx hb dX5_leave_53 (by decide) ?_
      refine lv_goto (tgt := 58) hx hb dX5_leave_54 (by decide) ?_
      refine lv_istore_n (lv' := [(2, .int 1), (0, .ref (ad 0)), (1, .int p1)]) hx hb dX5_leave_58 rfl hl (by decide) rfl (fun ls hl => ?_)
      have hls := hl.1
      refine lv_aload_n hx hb dX5_leave_59 rfl (lv_at hl 1 rfl) ?_
      refine x_get B hW (by decide) cM_o cls5 hin_X5 0 (by decide) (v := .ref (ad 1)) rfl k_7 dX5_leave_60 ?_
      refine lv_iload_n hx hb dX5_leave_63 rfl (lv_at hl 2 rfl) ?_
      refine lv_bipush (v := 12) hx hb dX5_leave_64 (by decide) ?_
      refine x_calli hW (x_runS B hW (As := [.ref (ad 1), .int p1, .int 12]) (rest := []) (c_X5_of (D := D) (ad := ad) l _ S_2 1 p1 12 (Or.inl rfl) (isN_vin (isN_var (ismem_vin hr_7 c_10) (by decide)) (by decide) (by decide)) (isN_vin (isN_lit 12 (by decide)) (by decide) (by decide))) (va_cwS 3 B.1.2.2.2.2 gX5_leave_X5_of rfl rfl rfl hd_X5_of.2 ⟨Nat.le_of_ble_eq_true rfl, Nat.le_of_ble_eq_true rfl⟩) rfl hls (Nat.le_of_ble_eq_true rfl) dX5_leave_66 ⟨Nat.zero_le _, Nat.zero_le _⟩) (fun r_66 S_66 H locs he hW => ?_)
      obtain ⟨hr_66, hs⟩ := he
      rw [hs] at hW
      have zk := nm_at zk hr_66
      refine lv_istore_n (lv' := [(3, .int r_66), (2, .int 1), (0, .ref (ad 0)), (1, .int p1)]) hx hb dX5_leave_69 rfl hl (by decide) rfl (fun ls hl => ?_)
      have hls := hl.1
      refine lv_iload_n hx hb dX5_leave_70 rfl (lv_at hl 1 rfl) ?_
      refine lv_if_ne (tgt := 85) hx hb dX5_leave_71 (by decide) (fun c_71 => ?_) (fun c_71 => ?_)
      rotate_left
      · exact absurd c_71 (by decide)
      refine lv_aload_n hx hb dX5_leave_85 rfl (lv_at hl 2 rfl) ?_
      refine lv_iconst (v := 2) hx hb dX5_leave_86 (by decide) ?_
      refine x_calli hW (x_runV B hW (As := [.int 2]) (rest := []) (by decide) cM_o cls5 (c_X5_fails (D := D) (ad := ad) l _ S_2 2) (cwV 1 B.1.2.2.2.2 gX5_leave_X5_fails rfl rfl rfl hd_X5_fails ⟨Nat.le_of_ble_eq_true rfl, Nat.le_of_ble_eq_true rfl⟩) rfl hls (Nat.le_of_ble_eq_true rfl) dX5_leave_87 ⟨Nat.zero_le _, Nat.zero_le _⟩) (fun r_87 S_87 H locs he hW => ?_)
      have hr_87 := he
      have zk := nmp_at zk hr_87
      have he_87 : S_87 = (x_X5_fails S_2 2).2 := by rw [← hr_87]
      exact x_iret B hW zk.symm dX5_leave_90
    · have zk := zk.trans (if_neg c_28)
      refine lv_aload_n hx hb dX5_leave_31 rfl (lv_at hl 0 rfl) ?_
      refine x_get B hW (by decide) cM_o cls5 hin_X5 0 (by decide) (v := .ref (ad 1)) rfl k_7 dX5_leave_32 ?_
      refine lv_iload_n hx hb dX5_leave_35 rfl (lv_at hl 1 rfl) ?_
      refine x_calli hW (x_runS B hW (As := [.ref (ad 1), .int p1]) (rest := []) (c_X5_debts (D := D) (ad := ad) l _ S_2 1 p1 (Or.inl rfl) (isN_vin (isN_var (ismem_vin hr_7 c_10) (by decide)) (by decide) (by decide))) (va_cwS 2 B.1.2.2.2.2 gX5_leave_X5_debts rfl rfl rfl hd_X5_debts.2 ⟨Nat.le_of_ble_eq_true rfl, Nat.le_of_ble_eq_true rfl⟩) rfl hls (Nat.le_of_ble_eq_true rfl) dX5_leave_36 ⟨Nat.zero_le _, Nat.zero_le _⟩) (fun r_36 S_36 H locs he hW => ?_)
      obtain ⟨hr_36, hs⟩ := he
      rw [hs] at hW
      have zk := nm_at zk hr_36
      refine lv_if_gt (tgt := 53) hx hb dX5_leave_39 (by decide) (fun c_39 => ?_) (fun c_39 => ?_)
      · have zk := zk.trans (if_pos c_39)
        refine lv_iconst (v := 1) hx hb dX5_leave_53 (by decide) ?_
        refine lv_goto (tgt := 58) hx hb dX5_leave_54 (by decide) ?_
        refine lv_istore_n (lv' := [(2, .int 1), (0, .ref (ad 0)), (1, .int p1)]) hx hb dX5_leave_58 rfl hl (by decide) rfl (fun ls hl => ?_)
        have hls := hl.1
        refine lv_aload_n hx hb dX5_leave_59 rfl (lv_at hl 1 rfl) ?_
        refine x_get B hW (by decide) cM_o cls5 hin_X5 0 (by decide) (v := .ref (ad 1)) rfl k_7 dX5_leave_60 ?_
        refine lv_iload_n hx hb dX5_leave_63 rfl (lv_at hl 2 rfl) ?_
        refine lv_bipush (v := 12) hx hb dX5_leave_64 (by decide) ?_
        refine x_calli hW (x_runS B hW (As := [.ref (ad 1), .int p1, .int 12]) (rest := []) (c_X5_of (D := D) (ad := ad) l _ S_2 1 p1 12 (Or.inl rfl) (isN_vin (isN_var (ismem_vin hr_7 c_10) (by decide)) (by decide) (by decide)) (isN_vin (isN_lit 12 (by decide)) (by decide) (by decide))) (va_cwS 3 B.1.2.2.2.2 gX5_leave_X5_of rfl rfl rfl hd_X5_of.2 ⟨Nat.le_of_ble_eq_true rfl, Nat.le_of_ble_eq_true rfl⟩) rfl hls (Nat.le_of_ble_eq_true rfl) dX5_leave_66 ⟨Nat.zero_le _, Nat.zero_le _⟩) (fun r_66 S_66 H locs he hW => ?_)
        obtain ⟨hr_66, hs⟩ := he
        rw [hs] at hW
        have zk := nm_at zk hr_66
        refine lv_istore_n (lv' := [(3, .int r_66), (2, .int 1), (0, .ref (ad 0)), (1, .int p1)]) hx hb dX5_leave_69 rfl hl (by decide) rfl (fun ls hl => ?_)
        have hls := hl.1
        refine lv_iload_n hx hb dX5_leave_70 rfl (lv_at hl 1 rfl) ?_
        refine lv_if_ne (tgt := 85) hx hb dX5_leave_71 (by decide) (fun c_71 => ?_) (fun c_71 => ?_)
        rotate_left
        · exact absurd c_71 (by decide)
        refine lv_aload_n hx hb dX5_leave_85 rfl (lv_at hl 2 rfl) ?_
        refine lv_iconst (v := 2) hx hb dX5_leave_86 (by decide) ?_
        refine x_calli hW (x_runV B hW (As := [.int 2]) (rest := []) (by decide) cM_o cls5 (c_X5_fails (D := D) (ad := ad) l _ S_2 2) (cwV 1 B.1.2.2.2.2 gX5_leave_X5_fails rfl rfl rfl hd_X5_fails ⟨Nat.le_of_ble_eq_true rfl, Nat.le_of_ble_eq_true rfl⟩) rfl hls (Nat.le_of_ble_eq_true rfl) dX5_leave_87 ⟨Nat.zero_le _, Nat.zero_le _⟩) (fun r_87 S_87 H locs he hW => ?_)
        have hr_87 := he
        have zk := nmp_at zk hr_87
        have he_87 : S_87 = (x_X5_fails S_2 2).2 := by rw [← hr_87]
        exact x_iret B hW zk.symm dX5_leave_90
      · have zk := zk.trans (if_neg c_39)
        refine lv_aload_n hx hb dX5_leave_42 rfl (lv_at hl 0 rfl) ?_
        refine x_get B hW (by decide) cM_o cls5 hin_X5 0 (by decide) (v := .ref (ad 1)) rfl k_7 dX5_leave_43 ?_
        refine lv_iload_n hx hb dX5_leave_46 rfl (lv_at hl 1 rfl) ?_
        refine x_calli hW (x_runS B hW (As := [.ref (ad 1), .int p1]) (rest := []) (c_X5_fromOthers (D := D) (ad := ad) l _ S_2 1 p1 (Or.inl rfl) (isN_vin (isN_var (ismem_vin hr_7 c_10) (by decide)) (by decide) (by decide))) (va_cwS 2 B.1.2.2.2.2 gX5_leave_X5_fromOthers rfl rfl rfl hd_X5_fromOthers.2 ⟨Nat.le_of_ble_eq_true rfl, Nat.le_of_ble_eq_true rfl⟩) rfl hls (Nat.le_of_ble_eq_true rfl) dX5_leave_47 ⟨Nat.zero_le _, Nat.zero_le _⟩) (fun r_47 S_47 H locs he hW => ?_)
        obtain ⟨hr_47, hs⟩ := he
        rw [hs] at hW
        have zk := nm_at zk hr_47
        refine lv_if_le (tgt := 57) hx hb dX5_leave_50 (by decide) (fun c_50 => ?_) (fun c_50 => ?_)
        · have zk := zk.trans (if_pos c_50)
          refine lv_iconst (v := 0) hx hb dX5_leave_57 (by decide) ?_
          refine lv_istore_n (lv' := [(2, .int 0), (0, .ref (ad 0)), (1, .int p1)]) hx hb dX5_leave_58 rfl hl (by decide) rfl (fun ls hl => ?_)
          have hls := hl.1
          refine lv_aload_n hx hb dX5_leave_59 rfl (lv_at hl 1 rfl) ?_
          refine x_get B hW (by decide) cM_o cls5 hin_X5 0 (by decide) (v := .ref (ad 1)) rfl k_7 dX5_leave_60 ?_
          refine lv_iload_n hx hb dX5_leave_63 rfl (lv_at hl 2 rfl) ?_
          refine lv_bipush (v := 12) hx hb dX5_leave_64 (by decide) ?_
          refine x_calli hW (x_runS B hW (As := [.ref (ad 1), .int p1, .int 12]) (rest := []) (c_X5_of (D := D) (ad := ad) l _ S_2 1 p1 12 (Or.inl rfl) (isN_vin (isN_var (ismem_vin hr_7 c_10) (by decide)) (by decide) (by decide)) (isN_vin (isN_lit 12 (by decide)) (by decide) (by decide))) (va_cwS 3 B.1.2.2.2.2 gX5_leave_X5_of rfl rfl rfl hd_X5_of.2 ⟨Nat.le_of_ble_eq_true rfl, Nat.le_of_ble_eq_true rfl⟩) rfl hls (Nat.le_of_ble_eq_true rfl) dX5_leave_66 ⟨Nat.zero_le _, Nat.zero_le _⟩) (fun r_66 S_66 H locs he hW => ?_)
          obtain ⟨hr_66, hs⟩ := he
          rw [hs] at hW
          have zk := nm_at zk hr_66
          refine lv_istore_n (lv' := [(3, .int r_66), (2, .int 0), (0, .ref (ad 0)), (1, .int p1)]) hx hb dX5_leave_69 rfl hl (by decide) rfl (fun ls hl => ?_)
          have hls := hl.1
          refine lv_iload_n hx hb dX5_leave_70 rfl (lv_at hl 1 rfl) ?_
          refine lv_if_ne (tgt := 85) hx hb dX5_leave_71 (by decide) (fun c_71 => ?_) (fun c_71 => ?_)
          · exact absurd c_71 (by decide)
          refine lv_aload_n hx hb dX5_leave_74 rfl (lv_at hl 2 rfl) ?_
          refine x_get B hW (by decide) cM_o cls5 hin_X5 0 (by decide) (v := .ref (ad 1)) rfl k_7 dX5_leave_75 ?_
          refine lv_bipush (v := 8) hx hb dX5_leave_78 (by decide) ?_
          refine x_iald B hW (by decide) cM_1 (isN_lit 8 (by decide)) (by decide) (by decide) dX5_leave_80 ?_
          refine lv_iload_n hx hb dX5_leave_81 rfl (lv_at hl 0 rfl) ?_
          refine lv_icmp_ge (tgt := 91) hx hb dX5_leave_82 (by decide) (fun c_82 => ?_) (fun c_82 => ?_)
          · have zk := zk.trans (if_pos c_82)
            refine lv_aload_n hx hb dX5_leave_91 rfl (lv_at hl 2 rfl) ?_
            refine x_callv hW (x_runV B hW (As := []) (rest := []) (by decide) cM_o cls5 (c_X5_saves (D := D) (ad := ad) l _ S_2 (isN_vin (isN_var hf_S_2_0_3_7 (by decide)) (by decide) (by decide))) (cwV 0 B.1.2.2.2.2 gX5_leave_X5_saves rfl rfl rfl hd_X5_saves ⟨Nat.le_of_ble_eq_true rfl, Nat.le_of_ble_eq_true rfl⟩) rfl hls (Nat.le_of_ble_eq_true rfl) dX5_leave_92 ⟨Nat.zero_le _, Nat.zero_le _⟩) (fun S_92 H locs he hW => ?_)
            have he_92 := he
            have zk := nm_at zk he_92
            have hf_S_92_0_6_1 : vp_in (S_92 0 6) 1 := by rw [he_92, (fr_saves (by decide))]; exact hf_S_2_0_6_1
            refine lv_aload_n hx hb dX5_leave_95 rfl (lv_at hl 2 rfl) ?_
            refine x_get B hW (by decide) cM_o cls5 hin_X5 0 (by decide) (v := .ref (ad 1)) rfl k_7 dX5_leave_96 ?_
            refine lv_bipush (v := 8) hx hb dX5_leave_99 (by decide) ?_
            refine lv_dup2_11 hx hb dX5_leave_101 rfl rfl ?_
            refine x_iald B hW (by decide) cM_1 (isN_lit 8 (by decide)) (by decide) (by decide) dX5_leave_102 ?_
            refine lv_iload_n hx hb dX5_leave_103 rfl (lv_at hl 0 rfl) ?_
            refine lv_isub hx hb dX5_leave_104 ?_
            refine x_iast B hW (by decide) (fun _ => cM_1) (isN_lit 8 (by decide)) (by decide) (by decide) dX5_leave_105 (fun H locs S_105 he_105 hW => ?_)
            have zk := nm_at zk he_105
            have hf_S_105_0_6_1 : vp_in (S_105 0 6) 1 := by rw [he_105, st_at, if_neg (by rintro ⟨h1, h2⟩; omega)]; exact hf_S_92_0_6_1
            refine lv_iconst (v := 0) hx hb dX5_leave_106 (by decide) ?_
            refine lv_istore (lv' := [(4, .int 0), (3, .int r_66), (2, .int 0), (0, .ref (ad 0)), (1, .int p1)]) hx hb dX5_leave_107 hl (by decide) rfl (fun ls hl => ?_)
            have hls := hl.1
            exact w_X5_leave_L109 l B  _ p1 (15) (0) (r_66) S_105 _ _ _ (show 0 ≤ 14 by omega) (show 0 + (15) = 15 by omega) (isN_vin (isN_var (ismem_vin hr_7 c_10) (by decide)) (by decide) (by decide)) hW (lv_sub hl [0, 1, 3, 4] rfl) hls zk
          · have zk := zk.trans (if_neg c_82)
            refine lv_aload_n hx hb dX5_leave_85 rfl (lv_at hl 2 rfl) ?_
            refine lv_iconst (v := 2) hx hb dX5_leave_86 (by decide) ?_
            refine x_calli hW (x_runV B hW (As := [.int 2]) (rest := []) (by decide) cM_o cls5 (c_X5_fails (D := D) (ad := ad) l _ S_2 2) (cwV 1 B.1.2.2.2.2 gX5_leave_X5_fails rfl rfl rfl hd_X5_fails ⟨Nat.le_of_ble_eq_true rfl, Nat.le_of_ble_eq_true rfl⟩) rfl hls (Nat.le_of_ble_eq_true rfl) dX5_leave_87 ⟨Nat.zero_le _, Nat.zero_le _⟩) (fun r_87 S_87 H locs he hW => ?_)
            have hr_87 := he
            have zk := nmp_at zk hr_87
            have he_87 : S_87 = (x_X5_fails S_2 2).2 := by rw [← hr_87]
            exact x_iret B hW zk.symm dX5_leave_90
        · have zk := zk.trans (if_neg c_50)
          refine lv_iconst (v := 1) hx hb dX5_leave_53 (by decide) ?_
          refine lv_goto (tgt := 58) hx hb dX5_leave_54 (by decide) ?_
          refine lv_istore_n (lv' := [(2, .int 1), (0, .ref (ad 0)), (1, .int p1)]) hx hb dX5_leave_58 rfl hl (by decide) rfl (fun ls hl => ?_)
          have hls := hl.1
          refine lv_aload_n hx hb dX5_leave_59 rfl (lv_at hl 1 rfl) ?_
          refine x_get B hW (by decide) cM_o cls5 hin_X5 0 (by decide) (v := .ref (ad 1)) rfl k_7 dX5_leave_60 ?_
          refine lv_iload_n hx hb dX5_leave_63 rfl (lv_at hl 2 rfl) ?_
          refine lv_bipush (v := 12) hx hb dX5_leave_64 (by decide) ?_
          refine x_calli hW (x_runS B hW (As := [.ref (ad 1), .int p1, .int 12]) (rest := []) (c_X5_of (D := D) (ad := ad) l _ S_2 1 p1 12 (Or.inl rfl) (isN_vin (isN_var (ismem_vin hr_7 c_10) (by decide)) (by decide) (by decide)) (isN_vin (isN_lit 12 (by decide)) (by decide) (by decide))) (va_cwS 3 B.1.2.2.2.2 gX5_leave_X5_of rfl rfl rfl hd_X5_of.2 ⟨Nat.le_of_ble_eq_true rfl, Nat.le_of_ble_eq_true rfl⟩) rfl hls (Nat.le_of_ble_eq_true rfl) dX5_leave_66 ⟨Nat.zero_le _, Nat.zero_le _⟩) (fun r_66 S_66 H locs he hW => ?_)
          obtain ⟨hr_66, hs⟩ := he
          rw [hs] at hW
          have zk := nm_at zk hr_66
          refine lv_istore_n (lv' := [(3, .int r_66), (2, .int 1), (0, .ref (ad 0)), (1, .int p1)]) hx hb dX5_leave_69 rfl hl (by decide) rfl (fun ls hl => ?_)
          have hls := hl.1
          refine lv_iload_n hx hb dX5_leave_70 rfl (lv_at hl 1 rfl) ?_
          refine lv_if_ne (tgt := 85) hx hb dX5_leave_71 (by decide) (fun c_71 => ?_) (fun c_71 => ?_)
          rotate_left
          · exact absurd c_71 (by decide)
          refine lv_aload_n hx hb dX5_leave_85 rfl (lv_at hl 2 rfl) ?_
          refine lv_iconst (v := 2) hx hb dX5_leave_86 (by decide) ?_
          refine x_calli hW (x_runV B hW (As := [.int 2]) (rest := []) (by decide) cM_o cls5 (c_X5_fails (D := D) (ad := ad) l _ S_2 2) (cwV 1 B.1.2.2.2.2 gX5_leave_X5_fails rfl rfl rfl hd_X5_fails ⟨Nat.le_of_ble_eq_true rfl, Nat.le_of_ble_eq_true rfl⟩) rfl hls (Nat.le_of_ble_eq_true rfl) dX5_leave_87 ⟨Nat.zero_le _, Nat.zero_le _⟩) (fun r_87 S_87 H locs he hW => ?_)
          have hr_87 := he
          have zk := nmp_at zk hr_87
          have he_87 : S_87 = (x_X5_fails S_2 2).2 := by rw [← hr_87]
          exact x_iret B hW zk.symm dX5_leave_90
  · have zk := zk.trans (if_pos c_10)
    refine lv_aload_n hx hb dX5_leave_13 rfl (lv_at hl 0 rfl) ?_
    refine lv_iconst (v := 1) hx hb dX5_leave_14 (by decide) ?_
    refine x_calli hW (x_runV B hW (As := [.int 1]) (rest := []) (by decide) cM_o cls5 (c_X5_fails (D := D) (ad := ad) l _ S_2 1) (cwV 1 B.1.2.2.2.2 gX5_leave_X5_fails rfl rfl rfl hd_X5_fails ⟨Nat.le_of_ble_eq_true rfl, Nat.le_of_ble_eq_true rfl⟩) rfl hls (Nat.le_of_ble_eq_true rfl) dX5_leave_15 ⟨Nat.zero_le _, Nat.zero_le _⟩) (fun r_15 S_15 H locs he hW => ?_)
    have hr_15 := he
    have zk := nmp_at zk hr_15
    have he_15 : S_15 = (x_X5_fails S_2 1).2 := by rw [← hr_15]
    exact x_iret B hW zk.symm dX5_leave_18

def x_X5_mayLend (S : vS) (p1 : Int32) (p2 : Int32) (p3 : Int32) : Int32 := nm (x_X5_isMember S p1) (fun r_2 => if r_2 = 0 then 1 else nm (x_X5_in S p2 10 2000) (fun r_16 => if r_16 = 0 then 2 else nm (x_X5_in S p3 1 52) (fun r_26 => if r_26 = 0 then 2 else nm (x_X5_of S 1 p1 4) (fun r_40 => if 0 < r_40 then 3 else nm (x_X5_debts S 1 p1) (fun r_51 => if 0 < r_51 then 3 else nm (x_X5_of S 1 p1 1) (fun r_64 => if p2 ≤ r_64 then 0 else 3))))))
theorem hd_X5_mayLend : yX5_mayLend.cls = RX5 ∧ yX5_mayLend.cls ≠ "java/lang/invoke/MethodHandle" ∧ yX5_mayLend.cls ≠ "java/lang/invoke/VarHandle" ∧ (parseMethodDescriptor yX5_mayLend.desc).map (fun d => d.parameters.length) = some 3 := by decide +kernel
set_option maxHeartbeats 4000000 in
set_option maxRecDepth 100000 in
theorem c_X5_mayLend {D : va_G} {ad : Nat → Nat} (l : Launch) (sz : Nat) (S : vS) (p1 : Int32) (p2 : Int32) (p3 : Int32) : Met l yX5_mayLend wsX5_mayLend (rmD 3) (pW D 7 (cM D ad) ad sz S [.ref (ad 0), .int p1, .int p2, .int p3]) (va_Qi (fun (r : Int32) (S1 : vS) => r = (x_X5_mayLend S p1 p2 p3) ∧ S1 = S) (bW D 7 (cM D ad) ad (aW 7 ad sz)) (aW 7 ad sz)) 0 0 (aW 7 ad sz) := by
  refine x_met (own := RX5) (cc := cX5_mayLend) (maxL := 4) (ret := (some .int)) (Qc := fun A => va_Qi (fun (r : Int32) (S1 : vS) => r = (x_X5_mayLend S p1 p2 p3) ∧ S1 = S) (bW D 7 (cM D ad) ad A) A) rfl ⟨by decide +kernel, rfl, Nat.le_of_ble_eq_true rfl⟩ ?_
  intro p e s mm args below meth c A ls B hW hl hls
  have hx := B.1.1
  have hb := B.1.2.1
  have hin_X5 : ∀ w ∈ wsX50, w ∈ wsX5_mayLend := fun w h => List.mem_cons_of_mem _ (List.mem_append_right _ h)
  have k_7 := B.1.2.2.2.2 (.fieldLink RX5 7 "JointLoansModel" "now" "[I") (by decide +kernel)
  have zk := x_X5_mayLend.eq_1 S p1 p2 p3
  have hl : lv_has ls 4 [(0, .ref (ad 0)), (1, .int p1), (2, .int p2), (3, .int p3)] := hl
  refine lv_aload_n hx hb dX5_mayLend_0 rfl (lv_at hl 0 rfl) ?_
  refine lv_iload_n hx hb dX5_mayLend_1 rfl (lv_at hl 1 rfl) ?_
  refine x_calli hW (x_runV B hW (As := [.int p1]) (rest := []) (by decide) cM_o cls5 (c_X5_isMember (D := D) (ad := ad) l _ S p1) (cwV 1 B.1.2.2.2.2 gX5_mayLend_X5_isMember rfl rfl rfl hd_X5_isMember ⟨Nat.le_of_ble_eq_true rfl, Nat.le_of_ble_eq_true rfl⟩) rfl hls (Nat.le_of_ble_eq_true rfl) dX5_mayLend_2 ⟨Nat.zero_le _, Nat.zero_le _⟩) (fun r_2 S_2 H locs he hW => ?_)
  obtain ⟨hr_2, hs, hz_2⟩ := he
  rw [hs] at hW
  have zk := nm_at zk hr_2
  refine lv_if_ne (tgt := 10) hx hb dX5_mayLend_5 (by decide) (fun c_5 => ?_) (fun c_5 => ?_)
  · have zk := zk.trans (if_neg c_5)
    refine lv_iload_n hx hb dX5_mayLend_10 rfl (lv_at hl 2 rfl) ?_
    refine lv_bipush (v := 10) hx hb dX5_mayLend_11 (by decide) ?_
    refine lv_sipush (v := 2000) hx hb dX5_mayLend_13 (by decide) ?_
    refine x_calli hW (x_runS B hW (As := [.int p2, .int 10, .int 2000]) (rest := []) (c_X5_in (D := D) (ad := ad) l _ S p2 10 2000) (va_cwS 3 B.1.2.2.2.2 gX5_mayLend_X5_in rfl rfl rfl hd_X5_in.2 ⟨Nat.le_of_ble_eq_true rfl, Nat.le_of_ble_eq_true rfl⟩) rfl hls (Nat.le_of_ble_eq_true rfl) dX5_mayLend_16 ⟨Nat.zero_le _, Nat.zero_le _⟩) (fun r_16 S_16 H locs he hW => ?_)
    obtain ⟨hr_16, hs, hz_16⟩ := he
    rw [hs] at hW
    have zk := nm_at zk hr_16
    refine lv_if_eq (tgt := 32) hx hb dX5_mayLend_19 (by decide) (fun c_19 => ?_) (fun c_19 => ?_)
    · have zk := zk.trans (if_pos c_19)
      refine lv_iconst (v := 2) hx hb dX5_mayLend_32 (by decide) ?_
      exact x_iret B hW ⟨zk.symm, rfl⟩ dX5_mayLend_33
    · have zk := zk.trans (if_neg c_19)
      refine lv_iload_n hx hb dX5_mayLend_22 rfl (lv_at hl 3 rfl) ?_
      refine lv_iconst (v := 1) hx hb dX5_mayLend_23 (by decide) ?_
      refine lv_bipush (v := 52) hx hb dX5_mayLend_24 (by decide) ?_
      refine x_calli hW (x_runS B hW (As := [.int p3, .int 1, .int 52]) (rest := []) (c_X5_in (D := D) (ad := ad) l _ S p3 1 52) (va_cwS 3 B.1.2.2.2.2 gX5_mayLend_X5_in rfl rfl rfl hd_X5_in.2 ⟨Nat.le_of_ble_eq_true rfl, Nat.le_of_ble_eq_true rfl⟩) rfl hls (Nat.le_of_ble_eq_true rfl) dX5_mayLend_26 ⟨Nat.zero_le _, Nat.zero_le _⟩) (fun r_26 S_26 H locs he hW => ?_)
      obtain ⟨hr_26, hs, hz_26⟩ := he
      rw [hs] at hW
      have zk := nm_at zk hr_26
      refine lv_if_ne (tgt := 34) hx hb dX5_mayLend_29 (by decide) (fun c_29 => ?_) (fun c_29 => ?_)
      · have zk := zk.trans (if_neg c_29)
        refine lv_aload_n hx hb dX5_mayLend_34 rfl (lv_at hl 0 rfl) ?_
        refine x_get B hW (by decide) cM_o cls5 hin_X5 0 (by decide) (v := .ref (ad 1)) rfl k_7 dX5_mayLend_35 ?_
        refine lv_iload_n hx hb dX5_mayLend_38 rfl (lv_at hl 1 rfl) ?_
        refine lv_iconst (v := 4) hx hb dX5_mayLend_39 (by decide) ?_
        refine x_calli hW (x_runS B hW (As := [.ref (ad 1), .int p1, .int 4]) (rest := []) (c_X5_of (D := D) (ad := ad) l _ S 1 p1 4 (Or.inl rfl) (isN_vin (isN_var (ismem_vin hr_2 c_5) (by decide)) (by decide) (by decide)) (isN_vin (isN_lit 4 (by decide)) (by decide) (by decide))) (va_cwS 3 B.1.2.2.2.2 gX5_mayLend_X5_of rfl rfl rfl hd_X5_of.2 ⟨Nat.le_of_ble_eq_true rfl, Nat.le_of_ble_eq_true rfl⟩) rfl hls (Nat.le_of_ble_eq_true rfl) dX5_mayLend_40 ⟨Nat.zero_le _, Nat.zero_le _⟩) (fun r_40 S_40 H locs he hW => ?_)
        obtain ⟨hr_40, hs⟩ := he
        rw [hs] at hW
        have zk := nm_at zk hr_40
        refine lv_if_gt (tgt := 70) hx hb dX5_mayLend_43 (by decide) (fun c_43 => ?_) (fun c_43 => ?_)
        · have zk := zk.trans (if_pos c_43)
          refine lv_iconst (v := 3) hx hb dX5_mayLend_70 (by decide) ?_
          refine lv_goto (tgt := 75) hx hb dX5_mayLend_71 (by decide) ?_
          exact x_iret B hW ⟨zk.symm, rfl⟩ dX5_mayLend_75
        · have zk := zk.trans (if_neg c_43)
          refine lv_aload_n hx hb dX5_mayLend_46 rfl (lv_at hl 0 rfl) ?_
          refine x_get B hW (by decide) cM_o cls5 hin_X5 0 (by decide) (v := .ref (ad 1)) rfl k_7 dX5_mayLend_47 ?_
          refine lv_iload_n hx hb dX5_mayLend_50 rfl (lv_at hl 1 rfl) ?_
          refine x_calli hW (x_runS B hW (As := [.ref (ad 1), .int p1]) (rest := []) (c_X5_debts (D := D) (ad := ad) l _ S 1 p1 (Or.inl rfl) (isN_vin (isN_var (ismem_vin hr_2 c_5) (by decide)) (by decide) (by decide))) (va_cwS 2 B.1.2.2.2.2 gX5_mayLend_X5_debts rfl rfl rfl hd_X5_debts.2 ⟨Nat.le_of_ble_eq_true rfl, Nat.le_of_ble_eq_true rfl⟩) rfl hls (Nat.le_of_ble_eq_true rfl) dX5_mayLend_51 ⟨Nat.zero_le _, Nat.zero_le _⟩) (fun r_51 S_51 H locs he hW => ?_)
          obtain ⟨hr_51, hs⟩ := he
          rw [hs] at hW
          have zk := nm_at zk hr_51
          refine lv_if_gt (tgt := 70) hx hb dX5_mayLend_54 (by decide) (fun c_54 => ?_) (fun c_54 => ?_)
          · have zk := zk.trans (if_pos c_54)
            refine lv_iconst (v := 3) hx hb dX5_mayLend_70 (by decide) ?_
            refine lv_goto (tgt := 75) hx hb dX5_mayLend_71 (by decide) ?_
            exact x_iret B hW ⟨zk.symm, rfl⟩ dX5_mayLend_75
          · have zk := zk.trans (if_neg c_54)
            refine lv_iload_n hx hb dX5_mayLend_57 rfl (lv_at hl 2 rfl) ?_
            refine lv_aload_n hx hb dX5_mayLend_58 rfl (lv_at hl 0 rfl) ?_
            refine x_get B hW (by decide) cM_o cls5 hin_X5 0 (by decide) (v := .ref (ad 1)) rfl k_7 dX5_mayLend_59 ?_
            refine lv_iload_n hx hb dX5_mayLend_62 rfl (lv_at hl 1 rfl) ?_
            refine lv_iconst (v := 1) hx hb dX5_mayLend_63 (by decide) ?_
            refine x_calli hW (x_runS B hW (As := [.ref (ad 1), .int p1, .int 1]) (rest := .int p2 :: []) (c_X5_of (D := D) (ad := ad) l _ S 1 p1 1 (Or.inl rfl) (isN_vin (isN_var (ismem_vin hr_2 c_5) (by decide)) (by decide) (by decide)) (isN_vin (isN_lit 1 (by decide)) (by decide) (by decide))) (va_cwS 3 B.1.2.2.2.2 gX5_mayLend_X5_of rfl rfl rfl hd_X5_of.2 ⟨Nat.le_of_ble_eq_true rfl, Nat.le_of_ble_eq_true rfl⟩) rfl hls (Nat.le_of_ble_eq_true rfl) dX5_mayLend_64 ⟨Nat.zero_le _, Nat.zero_le _⟩) (fun r_64 S_64 H locs he hW => ?_)
            obtain ⟨hr_64, hs⟩ := he
            rw [hs] at hW
            have zk := nm_at zk hr_64
            refine lv_icmp_le (tgt := 74) hx hb dX5_mayLend_67 (by decide) (fun c_67 => ?_) (fun c_67 => ?_)
            · have zk := zk.trans (if_pos c_67)
              refine lv_iconst (v := 0) hx hb dX5_mayLend_74 (by decide) ?_
              exact x_iret B hW ⟨zk.symm, rfl⟩ dX5_mayLend_75
            · have zk := zk.trans (if_neg c_67)
              refine lv_iconst (v := 3) hx hb dX5_mayLend_70 (by decide) ?_
              refine lv_goto (tgt := 75) hx hb dX5_mayLend_71 (by decide) ?_
              exact x_iret B hW ⟨zk.symm, rfl⟩ dX5_mayLend_75
      · have zk := zk.trans (if_pos c_29)
        refine lv_iconst (v := 2) hx hb dX5_mayLend_32 (by decide) ?_
        exact x_iret B hW ⟨zk.symm, rfl⟩ dX5_mayLend_33
  · have zk := zk.trans (if_pos c_5)
    refine lv_iconst (v := 1) hx hb dX5_mayLend_8 (by decide) ?_
    exact x_iret B hW ⟨zk.symm, rfl⟩ dX5_mayLend_9
theorem mayLend_ok {S : vS} {a b c r : Int32} (hr : r = x_X5_mayLend S a b c) (h : r = 0) : vp_in a 8 ∧ ¬ c = 0 := by
  rw [hr] at h
  unfold x_X5_mayLend at h
  try simp only [nm_eq, nmp_eq] at h
  by_cases c1 : x_X5_isMember S a = 0
  · rw [if_pos c1] at h; exact absurd h (by decide)
  · rw [if_neg c1] at h
    by_cases c2 : x_X5_in S b 10 2000 = 0
    · rw [if_pos c2] at h; exact absurd h (by decide)
    · rw [if_neg c2] at h
      by_cases c3 : x_X5_in S c 1 52 = 0
      · rw [if_pos c3] at h; exact absurd h (by decide)
      · refine ⟨ismem_vin rfl c1, fun e => c3 ?_⟩
        rw [e, in_iff]
        rfl

def x_X5_lends (S : vS) (p1 : Int32) (p2 : Int32) (p3 : Int32) : (Int32 × vS) := nm (x_X5_adds S 1 p1 2 p2) (fun S_7 => nm (x_X5_adds S_7 1 p1 3 p2) (fun S_17 => nm (x_X5_adds S_17 1 p1 4 p3) (fun S_27 => nm (x_X5_adds S_27 1 p1 5 (p2 / p3)) (fun S_39 => nm (x_X5_adds S_39 1 p1 6 ((p2 * (S_39 1 4)) / 1000)) (fun S_61 => nm (st S_61 1 9 ((S_61 1 9) + p2)) (fun S_74 => nm (x_X5_due S_74 1 p1) (fun r_80 => (r_80, S_74))))))))
theorem hd_X5_lends : yX5_lends.cls = RX5 ∧ yX5_lends.cls ≠ "java/lang/invoke/MethodHandle" ∧ yX5_lends.cls ≠ "java/lang/invoke/VarHandle" ∧ (parseMethodDescriptor yX5_lends.desc).map (fun d => d.parameters.length) = some 3 := by decide +kernel
set_option maxHeartbeats 4000000 in
set_option maxRecDepth 100000 in
theorem c_X5_lends {D : va_G} {ad : Nat → Nat} (l : Launch) (sz : Nat) (S : vS) (p1 : Int32) (p2 : Int32) (p3 : Int32) (h1 : vp_in p1 8) (hnz : ¬ p3 = 0) : Met l yX5_lends wsX5_lends (rmD 3) (pW D 7 (cM D ad) ad sz S [.ref (ad 0), .int p1, .int p2, .int p3]) (va_Qi (fun (r : Int32) (S1 : vS) => (r, S1) = (x_X5_lends S p1 p2 p3)) (bW D 7 (cM D ad) ad (aW 7 ad sz)) (aW 7 ad sz)) 0 0 (aW 7 ad sz) := by
  refine x_met (own := RX5) (cc := cX5_lends) (maxL := 4) (ret := (some .int)) (Qc := fun A => va_Qi (fun (r : Int32) (S1 : vS) => (r, S1) = (x_X5_lends S p1 p2 p3)) (bW D 7 (cM D ad) ad A) A) rfl ⟨by decide +kernel, rfl, Nat.le_of_ble_eq_true rfl⟩ ?_
  intro p e s mm args below meth c A ls B hW hl hls
  have hx := B.1.1
  have hb := B.1.2.1
  have hin_X5 : ∀ w ∈ wsX50, w ∈ wsX5_lends := fun w h => List.mem_cons_of_mem _ (List.mem_append_right _ h)
  have k_7 := B.1.2.2.2.2 (.fieldLink RX5 7 "JointLoansModel" "now" "[I") (by decide +kernel)
  have zk := x_X5_lends.eq_1 S p1 p2 p3
  have hl : lv_has ls 4 [(0, .ref (ad 0)), (1, .int p1), (2, .int p2), (3, .int p3)] := hl
  refine lv_aload_n hx hb dX5_lends_0 rfl (lv_at hl 0 rfl) ?_
  refine x_get B hW (by decide) cM_o cls5 hin_X5 0 (by decide) (v := .ref (ad 1)) rfl k_7 dX5_lends_1 ?_
  refine lv_iload_n hx hb dX5_lends_4 rfl (lv_at hl 1 rfl) ?_
  refine lv_iconst (v := 2) hx hb dX5_lends_5 (by decide) ?_
  refine lv_iload_n hx hb dX5_lends_6 rfl (lv_at hl 2 rfl) ?_
  refine x_callv hW (x_runS B hW (As := [.ref (ad 1), .int p1, .int 2, .int p2]) (rest := []) (c_X5_adds (D := D) (ad := ad) l _ S 1 p1 2 p2 (Or.inl rfl) h1 (isN_vin (isN_lit 2 (by decide)) (by decide) (by decide))) (va_cwS 4 B.1.2.2.2.2 gX5_lends_X5_adds rfl rfl rfl hd_X5_adds.2 ⟨Nat.le_of_ble_eq_true rfl, Nat.le_of_ble_eq_true rfl⟩) rfl hls (Nat.le_of_ble_eq_true rfl) dX5_lends_7 ⟨Nat.zero_le _, Nat.zero_le _⟩) (fun S_7 H locs he hW => ?_)
  have he_7 := he
  have zk := nm_at zk he_7
  refine lv_aload_n hx hb dX5_lends_10 rfl (lv_at hl 0 rfl) ?_
  refine x_get B hW (by decide) cM_o cls5 hin_X5 0 (by decide) (v := .ref (ad 1)) rfl k_7 dX5_lends_11 ?_
  refine lv_iload_n hx hb dX5_lends_14 rfl (lv_at hl 1 rfl) ?_
  refine lv_iconst (v := 3) hx hb dX5_lends_15 (by decide) ?_
  refine lv_iload_n hx hb dX5_lends_16 rfl (lv_at hl 2 rfl) ?_
  refine x_callv hW (x_runS B hW (As := [.ref (ad 1), .int p1, .int 3, .int p2]) (rest := []) (c_X5_adds (D := D) (ad := ad) l _ S_7 1 p1 3 p2 (Or.inl rfl) h1 (isN_vin (isN_lit 3 (by decide)) (by decide) (by decide))) (va_cwS 4 B.1.2.2.2.2 gX5_lends_X5_adds rfl rfl rfl hd_X5_adds.2 ⟨Nat.le_of_ble_eq_true rfl, Nat.le_of_ble_eq_true rfl⟩) rfl hls (Nat.le_of_ble_eq_true rfl) dX5_lends_17 ⟨Nat.zero_le _, Nat.zero_le _⟩) (fun S_17 H locs he hW => ?_)
  have he_17 := he
  have zk := nm_at zk he_17
  refine lv_aload_n hx hb dX5_lends_20 rfl (lv_at hl 0 rfl) ?_
  refine x_get B hW (by decide) cM_o cls5 hin_X5 0 (by decide) (v := .ref (ad 1)) rfl k_7 dX5_lends_21 ?_
  refine lv_iload_n hx hb dX5_lends_24 rfl (lv_at hl 1 rfl) ?_
  refine lv_iconst (v := 4) hx hb dX5_lends_25 (by decide) ?_
  refine lv_iload_n hx hb dX5_lends_26 rfl (lv_at hl 3 rfl) ?_
  refine x_callv hW (x_runS B hW (As := [.ref (ad 1), .int p1, .int 4, .int p3]) (rest := []) (c_X5_adds (D := D) (ad := ad) l _ S_17 1 p1 4 p3 (Or.inl rfl) h1 (isN_vin (isN_lit 4 (by decide)) (by decide) (by decide))) (va_cwS 4 B.1.2.2.2.2 gX5_lends_X5_adds rfl rfl rfl hd_X5_adds.2 ⟨Nat.le_of_ble_eq_true rfl, Nat.le_of_ble_eq_true rfl⟩) rfl hls (Nat.le_of_ble_eq_true rfl) dX5_lends_27 ⟨Nat.zero_le _, Nat.zero_le _⟩) (fun S_27 H locs he hW => ?_)
  have he_27 := he
  have zk := nm_at zk he_27
  refine lv_aload_n hx hb dX5_lends_30 rfl (lv_at hl 0 rfl) ?_
  refine x_get B hW (by decide) cM_o cls5 hin_X5 0 (by decide) (v := .ref (ad 1)) rfl k_7 dX5_lends_31 ?_
  refine lv_iload_n hx hb dX5_lends_34 rfl (lv_at hl 1 rfl) ?_
  refine lv_iconst (v := 5) hx hb dX5_lends_35 (by decide) ?_
  refine lv_iload_n hx hb dX5_lends_36 rfl (lv_at hl 2 rfl) ?_
  refine lv_iload_n hx hb dX5_lends_37 rfl (lv_at hl 3 rfl) ?_
  refine lv_idiv hx hb dX5_lends_38 hnz ?_
  refine x_callv hW (x_runS B hW (As := [.ref (ad 1), .int p1, .int 5, .int (p2 / p3)]) (rest := []) (c_X5_adds (D := D) (ad := ad) l _ S_27 1 p1 5 (p2 / p3) (Or.inl rfl) h1 (isN_vin (isN_lit 5 (by decide)) (by decide) (by decide))) (va_cwS 4 B.1.2.2.2.2 gX5_lends_X5_adds rfl rfl rfl hd_X5_adds.2 ⟨Nat.le_of_ble_eq_true rfl, Nat.le_of_ble_eq_true rfl⟩) rfl hls (Nat.le_of_ble_eq_true rfl) dX5_lends_39 ⟨Nat.zero_le _, Nat.zero_le _⟩) (fun S_39 H locs he hW => ?_)
  have he_39 := he
  have zk := nm_at zk he_39
  refine lv_aload_n hx hb dX5_lends_42 rfl (lv_at hl 0 rfl) ?_
  refine x_get B hW (by decide) cM_o cls5 hin_X5 0 (by decide) (v := .ref (ad 1)) rfl k_7 dX5_lends_43 ?_
  refine lv_iload_n hx hb dX5_lends_46 rfl (lv_at hl 1 rfl) ?_
  refine lv_bipush (v := 6) hx hb dX5_lends_47 (by decide) ?_
  refine lv_iload_n hx hb dX5_lends_49 rfl (lv_at hl 2 rfl) ?_
  refine lv_aload_n hx hb dX5_lends_50 rfl (lv_at hl 0 rfl) ?_
  refine x_get B hW (by decide) cM_o cls5 hin_X5 0 (by decide) (v := .ref (ad 1)) rfl k_7 dX5_lends_51 ?_
  refine lv_iconst (v := 4) hx hb dX5_lends_54 (by decide) ?_
  refine x_iald B hW (by decide) cM_1 (isN_lit 4 (by decide)) (by decide) (by decide) dX5_lends_55 ?_
  refine lv_imul hx hb dX5_lends_56 ?_
  refine lv_sipush (v := 1000) hx hb dX5_lends_57 (by decide) ?_
  refine lv_idiv hx hb dX5_lends_60 (by decide) ?_
  refine x_callv hW (x_runS B hW (As := [.ref (ad 1), .int p1, .int 6, .int ((p2 * (S_39 1 4)) / 1000)]) (rest := []) (c_X5_adds (D := D) (ad := ad) l _ S_39 1 p1 6 ((p2 * (S_39 1 4)) / 1000) (Or.inl rfl) h1 (isN_vin (isN_lit 6 (by decide)) (by decide) (by decide))) (va_cwS 4 B.1.2.2.2.2 gX5_lends_X5_adds rfl rfl rfl hd_X5_adds.2 ⟨Nat.le_of_ble_eq_true rfl, Nat.le_of_ble_eq_true rfl⟩) rfl hls (Nat.le_of_ble_eq_true rfl) dX5_lends_61 ⟨Nat.zero_le _, Nat.zero_le _⟩) (fun S_61 H locs he hW => ?_)
  have he_61 := he
  have zk := nm_at zk he_61
  refine lv_aload_n hx hb dX5_lends_64 rfl (lv_at hl 0 rfl) ?_
  refine x_get B hW (by decide) cM_o cls5 hin_X5 0 (by decide) (v := .ref (ad 1)) rfl k_7 dX5_lends_65 ?_
  refine lv_bipush (v := 9) hx hb dX5_lends_68 (by decide) ?_
  refine lv_dup2_11 hx hb dX5_lends_70 rfl rfl ?_
  refine x_iald B hW (by decide) cM_1 (isN_lit 9 (by decide)) (by decide) (by decide) dX5_lends_71 ?_
  refine lv_iload_n hx hb dX5_lends_72 rfl (lv_at hl 2 rfl) ?_
  refine lv_iadd hx hb dX5_lends_73 ?_
  refine x_iast B hW (by decide) (fun _ => cM_1) (isN_lit 9 (by decide)) (by decide) (by decide) dX5_lends_74 (fun H locs S_74 he_74 hW => ?_)
  have zk := nm_at zk he_74
  refine lv_aload_n hx hb dX5_lends_75 rfl (lv_at hl 0 rfl) ?_
  refine x_get B hW (by decide) cM_o cls5 hin_X5 0 (by decide) (v := .ref (ad 1)) rfl k_7 dX5_lends_76 ?_
  refine lv_iload_n hx hb dX5_lends_79 rfl (lv_at hl 1 rfl) ?_
  refine x_calli hW (x_runS B hW (As := [.ref (ad 1), .int p1]) (rest := []) (c_X5_due (D := D) (ad := ad) l _ S_74 1 p1 (Or.inl rfl) h1) (va_cwS 2 B.1.2.2.2.2 gX5_lends_X5_due rfl rfl rfl hd_X5_due.2 ⟨Nat.le_of_ble_eq_true rfl, Nat.le_of_ble_eq_true rfl⟩) rfl hls (Nat.le_of_ble_eq_true rfl) dX5_lends_80 ⟨Nat.zero_le _, Nat.zero_le _⟩) (fun r_80 S_80 H locs he hW => ?_)
  obtain ⟨hr_80, hs⟩ := he
  rw [hs] at hW
  have zk := nm_at zk hr_80
  exact x_iret B hW zk.symm dX5_lends_83
theorem EX.lends {S S1 : vS} {a b c : Int32} (h : EX S S1) : EX S (x_X5_lends S1 a b c).2 := by
  unfold x_X5_lends
  try simp only [nm_eq, nmp_eq]
  repeat (first | (with_reducible assumption) | (rw [e_adds]; with_reducible refine EX.w ?_ (by omega)) | (with_reducible refine EX.w ?_ (by omega)))

def x_X5_lend (S : vS) (p1 : Int32) (p2 : Int32) (p3 : Int32) : (Int32 × vS) := nm (x_X5_mayLend S p1 p2 p3) (fun r_5 => nm (st S 0 6 r_5) (fun S_8 => if (S_8 0 6) = 0 then nm (x_X5_saves S_8) (fun S_21 => nmp (x_X5_lends S_21 p1 p2 p3) (fun r_28 S_28 => (r_28, S_28))) else (0, S_8)))
theorem hd_X5_lend : yX5_lend.cls = RX5 ∧ yX5_lend.cls ≠ "java/lang/invoke/MethodHandle" ∧ yX5_lend.cls ≠ "java/lang/invoke/VarHandle" ∧ (parseMethodDescriptor yX5_lend.desc).map (fun d => d.parameters.length) = some 3 := by decide +kernel
set_option maxHeartbeats 4000000 in
set_option maxRecDepth 100000 in
theorem c_X5_lend {D : va_G} {ad : Nat → Nat} (l : Launch) (sz : Nat) (S : vS) (p1 : Int32) (p2 : Int32) (p3 : Int32) (hkp : vp_in (S 0 3) 7) : Met l yX5_lend wsX5_lend (rmD 4) (pW D 7 (cM D ad) ad sz S [.ref (ad 0), .int p1, .int p2, .int p3]) (va_Qi (fun (r : Int32) (S1 : vS) => (r, S1) = (x_X5_lend S p1 p2 p3)) (bW D 7 (cM D ad) ad (aW 7 ad sz)) (aW 7 ad sz)) 0 0 (aW 7 ad sz) := by
  refine x_met (own := RX5) (cc := cX5_lend) (maxL := 4) (ret := (some .int)) (Qc := fun A => va_Qi (fun (r : Int32) (S1 : vS) => (r, S1) = (x_X5_lend S p1 p2 p3)) (bW D 7 (cM D ad) ad A) A) rfl ⟨by decide +kernel, rfl, Nat.le_of_ble_eq_true rfl⟩ ?_
  intro p e s mm args below meth c A ls B hW hl hls
  have hx := B.1.1
  have hb := B.1.2.1
  have hin_X5 : ∀ w ∈ wsX50, w ∈ wsX5_lend := fun w h => List.mem_cons_of_mem _ (List.mem_append_right _ h)
  have k_28 := B.1.2.2.2.2 (.fieldLink RX5 28 "JointLoansModel" "thrown" "I") (by decide +kernel)
  have zk := x_X5_lend.eq_1 S p1 p2 p3
  have hl : lv_has ls 4 [(0, .ref (ad 0)), (1, .int p1), (2, .int p2), (3, .int p3)] := hl
  refine lv_aload_n hx hb dX5_lend_0 rfl (lv_at hl 0 rfl) ?_
  refine lv_aload_n hx hb dX5_lend_1 rfl (lv_at hl 0 rfl) ?_
  refine lv_iload_n hx hb dX5_lend_2 rfl (lv_at hl 1 rfl) ?_
  refine lv_iload_n hx hb dX5_lend_3 rfl (lv_at hl 2 rfl) ?_
  refine lv_iload_n hx hb dX5_lend_4 rfl (lv_at hl 3 rfl) ?_
  refine x_calli hW (x_runV B hW (As := [.int p1, .int p2, .int p3]) (rest := .ref (ad 0) :: []) (by decide) cM_o cls5 (c_X5_mayLend (D := D) (ad := ad) l _ S p1 p2 p3) (cwV 3 B.1.2.2.2.2 gX5_lend_X5_mayLend rfl rfl rfl hd_X5_mayLend ⟨Nat.le_of_ble_eq_true rfl, Nat.le_of_ble_eq_true rfl⟩) rfl hls (Nat.le_of_ble_eq_true rfl) dX5_lend_5 ⟨Nat.zero_le _, Nat.zero_le _⟩) (fun r_5 S_5 H locs he hW => ?_)
  obtain ⟨hr_5, hs⟩ := he
  rw [hs] at hW
  have zk := nm_at zk hr_5
  refine x_put B hW (by decide) cls5 hin_X5 6 (by decide) cM_o rfl (ty := .int) (by decide +kernel) rfl rfl (Nat.le_of_ble_eq_true rfl) (j := 6) pO_6 k_28 dX5_lend_8 (fun H locs S_8 he_8 hW => ?_)
  have zk := nm_at zk he_8
  have hf_S_8_0_3_7 : vp_in (S_8 0 3) 7 := by rw [he_8, st_at, if_neg (by rintro ⟨h1, h2⟩; omega)]; exact hkp
  refine lv_aload_n hx hb dX5_lend_11 rfl (lv_at hl 0 rfl) ?_
  refine x_get B hW (by decide) cM_o cls5 hin_X5 6 (by decide) (v := .int (S_8 0 6)) rfl k_28 dX5_lend_12 ?_
  refine lv_if_eq (tgt := 20) hx hb dX5_lend_15 (by decide) (fun c_15 => ?_) (fun c_15 => ?_)
  · have zk := zk.trans (if_pos c_15)
    have hml := mayLend_ok (S := S) (r := r_5) hr_5 (by rw [he_8, st_at, if_pos ⟨rfl, rfl⟩] at c_15; exact c_15)
    refine lv_aload_n hx hb dX5_lend_20 rfl (lv_at hl 0 rfl) ?_
    refine x_callv hW (x_runV B hW (As := []) (rest := []) (by decide) cM_o cls5 (c_X5_saves (D := D) (ad := ad) l _ S_8 (isN_vin (isN_var hf_S_8_0_3_7 (by decide)) (by decide) (by decide))) (cwV 0 B.1.2.2.2.2 gX5_lend_X5_saves rfl rfl rfl hd_X5_saves ⟨Nat.le_of_ble_eq_true rfl, Nat.le_of_ble_eq_true rfl⟩) rfl hls (Nat.le_of_ble_eq_true rfl) dX5_lend_21 ⟨Nat.zero_le _, Nat.zero_le _⟩) (fun S_21 H locs he hW => ?_)
    have he_21 := he
    have zk := nm_at zk he_21
    have hf_S_21_0_6_0 : (S_21 0 6) = 0 := by rw [he_21, (fr_saves (by decide))]; exact c_15
    refine lv_aload_n hx hb dX5_lend_24 rfl (lv_at hl 0 rfl) ?_
    refine lv_iload_n hx hb dX5_lend_25 rfl (lv_at hl 1 rfl) ?_
    refine lv_iload_n hx hb dX5_lend_26 rfl (lv_at hl 2 rfl) ?_
    refine lv_iload_n hx hb dX5_lend_27 rfl (lv_at hl 3 rfl) ?_
    refine x_calli hW (x_runV B hW (As := [.int p1, .int p2, .int p3]) (rest := []) (by decide) cM_o cls5 (c_X5_lends (D := D) (ad := ad) l _ S_21 p1 p2 p3 (isN_vin (isN_var hml.1 (by decide)) (by decide) (by decide)) hml.2) (cwV 3 B.1.2.2.2.2 gX5_lend_X5_lends rfl rfl rfl hd_X5_lends ⟨Nat.le_of_ble_eq_true rfl, Nat.le_of_ble_eq_true rfl⟩) rfl hls (Nat.le_of_ble_eq_true rfl) dX5_lend_28 ⟨Nat.zero_le _, Nat.zero_le _⟩) (fun r_28 S_28 H locs he hW => ?_)
    have hr_28 := he
    have zk := nmp_at zk hr_28
    have he_28 : S_28 = (x_X5_lends S_21 p1 p2 p3).2 := by rw [← hr_28]
    exact x_iret B hW zk.symm dX5_lend_31
  · have zk := zk.trans (if_neg c_15)
    refine lv_iconst (v := 0) hx hb dX5_lend_18 (by decide) ?_
    exact x_iret B hW zk.symm dX5_lend_19

def x_X5_absents_L4 : Nat → vS → Nat → Int32 → Int32
  | 0, S, _, _ => 0
  | n + 1, S, n2, v1 => if 8 ≤ (nI n2) then v1 else nm (x_X5_of S 1 (nI n2) 0) (fun r_17 => nm (x_X5_of S 1 (nI n2) 7) (fun r_27 => nm ((v1 + (r_17 * r_27))) (fun x_32 => x_X5_absents_L4 n S ((n2 + 1)) (x_32))))
def x_X5_absents (S : vS) : Int32 := x_X5_absents_L4 (9) S (0) (0)
theorem hd_X5_absents : yX5_absents.cls = RX5 ∧ yX5_absents.cls ≠ "java/lang/invoke/MethodHandle" ∧ yX5_absents.cls ≠ "java/lang/invoke/VarHandle" ∧ (parseMethodDescriptor yX5_absents.desc).map (fun d => d.parameters.length) = some 0 := by decide +kernel
set_option maxHeartbeats 4000000 in
set_option maxRecDepth 100000 in
theorem w_X5_absents_L4 {D : va_G} {ad : Nat → Nat} (l : Launch) {p : Program} {e : Env} {s : State} {mm : MethodId} {args : Array Value} {below : List Frame} {meth : Method} {c : Code} {A : Nat → Prop} (B : Cx p mm c cX5_absents 3 s args wsX5_absents RX5 meth (some .int) D) (S : vS) (z : Int32) : ∀ (n : Nat) (n2 : Nat) (v1 : Int32) (H : Heap) (locs : List Loc) (ls : Array Slot), n2 ≤ 8 → n2 + n = 9 → Wd D 7 (cM D ad) ad A s.heap S H locs → lv_has ls 3 [(2, .int (nI n2)), (1, .int v1), (0, .ref (ad 0))] → ls.size = 3 → z = x_X5_absents_L4 n S n2 v1 → W p l e (rmD 1) s mm args below meth c H locs 0 0 (MQ below (va_Qi (fun (r : Int32) (S1 : vS) => r = z ∧ S1 = S) (bW D 7 (cM D ad) ad A) A) args s 0 0 A) (F0 mm 4 ls []) := by
  have hx := B.1.1
  have hb := B.1.2.1
  have hin_X5 : ∀ w ∈ wsX50, w ∈ wsX5_absents := fun w h => List.mem_cons_of_mem _ (List.mem_append_right _ h)
  have k_7 := B.1.2.2.2.2 (.fieldLink RX5 7 "JointLoansModel" "now" "[I") (by decide +kernel)
  intro n
  induction n with
  | zero =>
    intro n2 v1 H locs ls hle hsum
    omega
  | succ n ih =>
    intro n2 v1 H locs ls hle hsum hW hl hls zk
    have zk := zk.trans (x_X5_absents_L4.eq_2 _ _ _ _ )
    refine lv_iload_n hx hb dX5_absents_4 rfl (lv_at hl 0 rfl) ?_
    refine lv_bipush (v := 8) hx hb dX5_absents_5 (by decide) ?_
    refine lv_icmp_ge (tgt := 39) hx hb dX5_absents_7 (by decide) (fun c_7 => ?_) (fun c_7 => ?_)
    · have zk := zk.trans (if_pos c_7)
      refine lv_iload_n hx hb dX5_absents_39 rfl (lv_at hl 1 rfl) ?_
      exact x_iret B hW ⟨zk.symm, rfl⟩ dX5_absents_40
    · have zk := zk.trans (if_neg c_7)
      have hb_c_7 : n2 < 8 := nI_of_nle (by decide) c_7 (by omega)
      refine lv_iload_n hx hb dX5_absents_10 rfl (lv_at hl 1 rfl) ?_
      refine lv_aload_n hx hb dX5_absents_11 rfl (lv_at hl 2 rfl) ?_
      refine x_get B hW (by decide) cM_o cls5 hin_X5 0 (by decide) (v := .ref (ad 1)) rfl k_7 dX5_absents_12 ?_
      refine lv_iload_n hx hb dX5_absents_15 rfl (lv_at hl 0 rfl) ?_
      refine lv_iconst (v := 0) hx hb dX5_absents_16 (by decide) ?_
      refine x_calli hW (x_runS B hW (As := [.ref (ad 1), .int (nI n2), .int 0]) (rest := .int v1 :: []) (c_X5_of (D := D) (ad := ad) l _ S 1 (nI n2) 0 (Or.inl rfl) (isN_vin (isN_nI hb_c_7 (by decide)) (by decide) (by decide)) (isN_vin (isN_lit 0 (by decide)) (by decide) (by decide))) (va_cwS 3 B.1.2.2.2.2 gX5_absents_X5_of rfl rfl rfl hd_X5_of.2 ⟨Nat.le_of_ble_eq_true rfl, Nat.le_of_ble_eq_true rfl⟩) rfl hls (Nat.le_of_ble_eq_true rfl) dX5_absents_17 ⟨Nat.zero_le _, Nat.zero_le _⟩) (fun r_17 S_17 H locs he hW => ?_)
      obtain ⟨hr_17, hs⟩ := he
      rw [hs] at hW
      have zk := nm_at zk hr_17
      refine lv_aload_n hx hb dX5_absents_20 rfl (lv_at hl 2 rfl) ?_
      refine x_get B hW (by decide) cM_o cls5 hin_X5 0 (by decide) (v := .ref (ad 1)) rfl k_7 dX5_absents_21 ?_
      refine lv_iload_n hx hb dX5_absents_24 rfl (lv_at hl 0 rfl) ?_
      refine lv_bipush (v := 7) hx hb dX5_absents_25 (by decide) ?_
      refine x_calli hW (x_runS B hW (As := [.ref (ad 1), .int (nI n2), .int 7]) (rest := .int r_17 :: .int v1 :: []) (c_X5_of (D := D) (ad := ad) l _ S 1 (nI n2) 7 (Or.inl rfl) (isN_vin (isN_nI hb_c_7 (by decide)) (by decide) (by decide)) (isN_vin (isN_lit 7 (by decide)) (by decide) (by decide))) (va_cwS 3 B.1.2.2.2.2 gX5_absents_X5_of rfl rfl rfl hd_X5_of.2 ⟨Nat.le_of_ble_eq_true rfl, Nat.le_of_ble_eq_true rfl⟩) rfl hls (Nat.le_of_ble_eq_true rfl) dX5_absents_27 ⟨Nat.zero_le _, Nat.zero_le _⟩) (fun r_27 S_27 H locs he hW => ?_)
      obtain ⟨hr_27, hs⟩ := he
      rw [hs] at hW
      have zk := nm_at zk hr_27
      refine lv_imul hx hb dX5_absents_30 ?_
      refine lv_iadd hx hb dX5_absents_31 ?_
      refine lv_topi (fun x_32 ex_32 => ?_)
      have zk := nm_at zk ex_32
      refine lv_istore_n (lv' := [(1, .int x_32), (2, .int (nI n2)), (0, .ref (ad 0))]) hx hb dX5_absents_32 rfl hl (by decide) rfl (fun ls hl => ?_)
      have hls := hl.1
      refine lv_iinc (v := (nI (n2 + 1))) (lv' := [(2, .int (nI (n2 + 1))), (1, .int x_32), (0, .ref (ad 0))]) hx hb dX5_absents_33 hl (k := 1) rfl (nI_1 _) (by decide) rfl (fun ls hl => ?_)
      have hls := hl.1
      refine lv_goto (tgt := 4) hx hb dX5_absents_36 (by decide) ?_
      exact ih ((n2 + 1)) (x_32)  _ _ _ (show (n2 + 1) ≤ 8 by omega) (show (n2 + 1) + n = 9 by omega) hW (lv_sub hl [0, 1, 2] rfl) hls zk
set_option maxHeartbeats 4000000 in
set_option maxRecDepth 100000 in
theorem c_X5_absents {D : va_G} {ad : Nat → Nat} (l : Launch) (sz : Nat) (S : vS) : Met l yX5_absents wsX5_absents (rmD 1) (pW D 7 (cM D ad) ad sz S [.ref (ad 0)]) (va_Qi (fun (r : Int32) (S1 : vS) => r = (x_X5_absents S) ∧ S1 = S) (bW D 7 (cM D ad) ad (aW 7 ad sz)) (aW 7 ad sz)) 0 0 (aW 7 ad sz) := by
  refine x_met (own := RX5) (cc := cX5_absents) (maxL := 3) (ret := (some .int)) (Qc := fun A => va_Qi (fun (r : Int32) (S1 : vS) => r = (x_X5_absents S) ∧ S1 = S) (bW D 7 (cM D ad) ad A) A) rfl ⟨by decide +kernel, rfl, Nat.le_of_ble_eq_true rfl⟩ ?_
  intro p e s mm args below meth c A ls B hW hl hls
  have hx := B.1.1
  have hb := B.1.2.1
  have hin_X5 : ∀ w ∈ wsX50, w ∈ wsX5_absents := fun w h => List.mem_cons_of_mem _ (List.mem_append_right _ h)
  have k_7 := B.1.2.2.2.2 (.fieldLink RX5 7 "JointLoansModel" "now" "[I") (by decide +kernel)
  have zk := x_X5_absents.eq_1 S
  have hl : lv_has ls 3 [(0, .ref (ad 0))] := hl
  refine lv_iconst (v := 0) hx hb dX5_absents_0 (by decide) ?_
  refine lv_istore_n (lv' := [(1, .int 0), (0, .ref (ad 0))]) hx hb dX5_absents_1 rfl hl (by decide) rfl (fun ls hl => ?_)
  have hls := hl.1
  refine lv_iconst (v := 0) hx hb dX5_absents_2 (by decide) ?_
  refine lv_istore_n (lv' := [(2, .int 0), (1, .int 0), (0, .ref (ad 0))]) hx hb dX5_absents_3 rfl hl (by decide) rfl (fun ls hl => ?_)
  have hls := hl.1
  exact w_X5_absents_L4 l B S _  (9) (0) (0)  _ _ _ (show 0 ≤ 8 by omega) (show 0 + (9) = 9 by omega) hW (lv_sub hl [0, 1, 2] rfl) hls zk

def x_X5_absent (S : vS) (p1 : Int32) : (Int32 × vS) := nm (st S 0 6 0) (fun S_2 => nm (x_X5_isMember S_2 p1) (fun r_7 => if r_7 = 0 then nmp (x_X5_fails S_2 1) (fun r_15 S_15 => (r_15, S_15)) else nm (x_X5_saves S_2) (fun S_20 => nm (x_X5_of S_20 1 p1 7) (fun r_39 => nm (x_X5_adds S_20 1 p1 7 (1 - (2 * r_39))) (fun S_44 => nm (x_X5_absents S_44) (fun r_48 => (r_48, S_44)))))))
theorem hd_X5_absent : yX5_absent.cls = RX5 ∧ yX5_absent.cls ≠ "java/lang/invoke/MethodHandle" ∧ yX5_absent.cls ≠ "java/lang/invoke/VarHandle" ∧ (parseMethodDescriptor yX5_absent.desc).map (fun d => d.parameters.length) = some 1 := by decide +kernel
set_option maxHeartbeats 4000000 in
set_option maxRecDepth 100000 in
theorem c_X5_absent {D : va_G} {ad : Nat → Nat} (l : Launch) (sz : Nat) (S : vS) (p1 : Int32) (hkp : vp_in (S 0 3) 7) : Met l yX5_absent wsX5_absent (rmD 2) (pW D 7 (cM D ad) ad sz S [.ref (ad 0), .int p1]) (va_Qi (fun (r : Int32) (S1 : vS) => (r, S1) = (x_X5_absent S p1)) (bW D 7 (cM D ad) ad (aW 7 ad sz)) (aW 7 ad sz)) 0 0 (aW 7 ad sz) := by
  refine x_met (own := RX5) (cc := cX5_absent) (maxL := 2) (ret := (some .int)) (Qc := fun A => va_Qi (fun (r : Int32) (S1 : vS) => (r, S1) = (x_X5_absent S p1)) (bW D 7 (cM D ad) ad A) A) rfl ⟨by decide +kernel, rfl, Nat.le_of_ble_eq_true rfl⟩ ?_
  intro p e s mm args below meth c A ls B hW hl hls
  have hx := B.1.1
  have hb := B.1.2.1
  have hin_X5 : ∀ w ∈ wsX50, w ∈ wsX5_absent := fun w h => List.mem_cons_of_mem _ (List.mem_append_right _ h)
  have k_28 := B.1.2.2.2.2 (.fieldLink RX5 28 "JointLoansModel" "thrown" "I") (by decide +kernel)
  have k_7 := B.1.2.2.2.2 (.fieldLink RX5 7 "JointLoansModel" "now" "[I") (by decide +kernel)
  have zk := x_X5_absent.eq_1 S p1
  have hl : lv_has ls 2 [(0, .ref (ad 0)), (1, .int p1)] := hl
  refine lv_aload_n hx hb dX5_absent_0 rfl (lv_at hl 0 rfl) ?_
  refine lv_iconst (v := 0) hx hb dX5_absent_1 (by decide) ?_
  refine x_put B hW (by decide) cls5 hin_X5 6 (by decide) cM_o rfl (ty := .int) (by decide +kernel) rfl rfl (Nat.le_of_ble_eq_true rfl) (j := 6) pO_6 k_28 dX5_absent_2 (fun H locs S_2 he_2 hW => ?_)
  have zk := nm_at zk he_2
  have hf_S_2_0_3_7 : vp_in (S_2 0 3) 7 := by rw [he_2, st_at, if_neg (by rintro ⟨h1, h2⟩; omega)]; exact hkp
  have hf_S_2_0_6_1 : vp_in (S_2 0 6) 1 := by rw [he_2, st_at, if_pos ⟨rfl, rfl⟩]; exact isN_vin (isN_lit 0 (by decide)) (by decide) (by decide)
  refine lv_aload_n hx hb dX5_absent_5 rfl (lv_at hl 0 rfl) ?_
  refine lv_iload_n hx hb dX5_absent_6 rfl (lv_at hl 1 rfl) ?_
  refine x_calli hW (x_runV B hW (As := [.int p1]) (rest := []) (by decide) cM_o cls5 (c_X5_isMember (D := D) (ad := ad) l _ S_2 p1) (cwV 1 B.1.2.2.2.2 gX5_absent_X5_isMember rfl rfl rfl hd_X5_isMember ⟨Nat.le_of_ble_eq_true rfl, Nat.le_of_ble_eq_true rfl⟩) rfl hls (Nat.le_of_ble_eq_true rfl) dX5_absent_7 ⟨Nat.zero_le _, Nat.zero_le _⟩) (fun r_7 S_7 H locs he hW => ?_)
  obtain ⟨hr_7, hs, hz_7⟩ := he
  rw [hs] at hW
  have zk := nm_at zk hr_7
  refine lv_if_ne (tgt := 19) hx hb dX5_absent_10 (by decide) (fun c_10 => ?_) (fun c_10 => ?_)
  · have zk := zk.trans (if_neg c_10)
    refine lv_aload_n hx hb dX5_absent_19 rfl (lv_at hl 0 rfl) ?_
    refine x_callv hW (x_runV B hW (As := []) (rest := []) (by decide) cM_o cls5 (c_X5_saves (D := D) (ad := ad) l _ S_2 (isN_vin (isN_var hf_S_2_0_3_7 (by decide)) (by decide) (by decide))) (cwV 0 B.1.2.2.2.2 gX5_absent_X5_saves rfl rfl rfl hd_X5_saves ⟨Nat.le_of_ble_eq_true rfl, Nat.le_of_ble_eq_true rfl⟩) rfl hls (Nat.le_of_ble_eq_true rfl) dX5_absent_20 ⟨Nat.zero_le _, Nat.zero_le _⟩) (fun S_20 H locs he hW => ?_)
    have he_20 := he
    have zk := nm_at zk he_20
    have hf_S_20_0_6_1 : vp_in (S_20 0 6) 1 := by rw [he_20, (fr_saves (by decide))]; exact hf_S_2_0_6_1
    refine lv_aload_n hx hb dX5_absent_23 rfl (lv_at hl 0 rfl) ?_
    refine x_get B hW (by decide) cM_o cls5 hin_X5 0 (by decide) (v := .ref (ad 1)) rfl k_7 dX5_absent_24 ?_
    refine lv_iload_n hx hb dX5_absent_27 rfl (lv_at hl 1 rfl) ?_
    refine lv_bipush (v := 7) hx hb dX5_absent_28 (by decide) ?_
    refine lv_iconst (v := 1) hx hb dX5_absent_30 (by decide) ?_
    refine lv_iconst (v := 2) hx hb dX5_absent_31 (by decide) ?_
    refine lv_aload_n hx hb dX5_absent_32 rfl (lv_at hl 0 rfl) ?_
    refine x_get B hW (by decide) cM_o cls5 hin_X5 0 (by decide) (v := .ref (ad 1)) rfl k_7 dX5_absent_33 ?_
    refine lv_iload_n hx hb dX5_absent_36 rfl (lv_at hl 1 rfl) ?_
    refine lv_bipush (v := 7) hx hb dX5_absent_37 (by decide) ?_
    refine x_calli hW (x_runS B hW (As := [.ref (ad 1), .int p1, .int 7]) (rest := .int 2 :: .int 1 :: .int 7 :: .int p1 :: .ref (ad 1) :: []) (c_X5_of (D := D) (ad := ad) l _ S_20 1 p1 7 (Or.inl rfl) (isN_vin (isN_var (ismem_vin hr_7 c_10) (by decide)) (by decide) (by decide)) (isN_vin (isN_lit 7 (by decide)) (by decide) (by decide))) (va_cwS 3 B.1.2.2.2.2 gX5_absent_X5_of rfl rfl rfl hd_X5_of.2 ⟨Nat.le_of_ble_eq_true rfl, Nat.le_of_ble_eq_true rfl⟩) rfl hls (Nat.le_of_ble_eq_true rfl) dX5_absent_39 ⟨Nat.zero_le _, Nat.zero_le _⟩) (fun r_39 S_39 H locs he hW => ?_)
    obtain ⟨hr_39, hs⟩ := he
    rw [hs] at hW
    have zk := nm_at zk hr_39
    refine lv_imul hx hb dX5_absent_42 ?_
    refine lv_isub hx hb dX5_absent_43 ?_
    refine x_callv hW (x_runS B hW (As := [.ref (ad 1), .int p1, .int 7, .int (1 - (2 * r_39))]) (rest := []) (c_X5_adds (D := D) (ad := ad) l _ S_20 1 p1 7 (1 - (2 * r_39)) (Or.inl rfl) (isN_vin (isN_var (ismem_vin hr_7 c_10) (by decide)) (by decide) (by decide)) (isN_vin (isN_lit 7 (by decide)) (by decide) (by decide))) (va_cwS 4 B.1.2.2.2.2 gX5_absent_X5_adds rfl rfl rfl hd_X5_adds.2 ⟨Nat.le_of_ble_eq_true rfl, Nat.le_of_ble_eq_true rfl⟩) rfl hls (Nat.le_of_ble_eq_true rfl) dX5_absent_44 ⟨Nat.zero_le _, Nat.zero_le _⟩) (fun S_44 H locs he hW => ?_)
    have he_44 := he
    have zk := nm_at zk he_44
    have hf_S_44_0_6_1 : vp_in (S_44 0 6) 1 := by rw [he_44, (fr_adds (Or.inl (by decide)))]; exact hf_S_20_0_6_1
    refine lv_aload_n hx hb dX5_absent_47 rfl (lv_at hl 0 rfl) ?_
    refine x_calli hW (x_runV B hW (As := []) (rest := []) (by decide) cM_o cls5 (c_X5_absents (D := D) (ad := ad) l _ S_44) (cwV 0 B.1.2.2.2.2 gX5_absent_X5_absents rfl rfl rfl hd_X5_absents ⟨Nat.le_of_ble_eq_true rfl, Nat.le_of_ble_eq_true rfl⟩) rfl hls (Nat.le_of_ble_eq_true rfl) dX5_absent_48 ⟨Nat.zero_le _, Nat.zero_le _⟩) (fun r_48 S_48 H locs he hW => ?_)
    obtain ⟨hr_48, hs⟩ := he
    rw [hs] at hW
    have zk := nm_at zk hr_48
    exact x_iret B hW zk.symm dX5_absent_51
  · have zk := zk.trans (if_pos c_10)
    refine lv_aload_n hx hb dX5_absent_13 rfl (lv_at hl 0 rfl) ?_
    refine lv_iconst (v := 1) hx hb dX5_absent_14 (by decide) ?_
    refine x_calli hW (x_runV B hW (As := [.int 1]) (rest := []) (by decide) cM_o cls5 (c_X5_fails (D := D) (ad := ad) l _ S_2 1) (cwV 1 B.1.2.2.2.2 gX5_absent_X5_fails rfl rfl rfl hd_X5_fails ⟨Nat.le_of_ble_eq_true rfl, Nat.le_of_ble_eq_true rfl⟩) rfl hls (Nat.le_of_ble_eq_true rfl) dX5_absent_15 ⟨Nat.zero_le _, Nat.zero_le _⟩) (fun r_15 S_15 H locs he hW => ?_)
    have hr_15 := he
    have zk := nmp_at zk hr_15
    have he_15 : S_15 = (x_X5_fails S_2 1).2 := by rw [← hr_15]
    exact x_iret B hW zk.symm dX5_absent_18

def x_X5_week (S : vS) : (Int32 × vS) := nm (st S 0 6 0) (fun S_2 => if ((S_2 1 0) + 1) ≤ 999 then nm (x_X5_saves S_2) (fun S_26 => nmp (x_X5_ends S_26 1) (fun r_34 S_34 => (r_34, S_34))) else nmp (x_X5_fails S_2 1) (fun r_21 S_21 => (r_21, S_21)))
theorem hd_X5_week : yX5_week.cls = RX5 ∧ yX5_week.cls ≠ "java/lang/invoke/MethodHandle" ∧ yX5_week.cls ≠ "java/lang/invoke/VarHandle" ∧ (parseMethodDescriptor yX5_week.desc).map (fun d => d.parameters.length) = some 0 := by decide +kernel
set_option maxHeartbeats 4000000 in
set_option maxRecDepth 100000 in
theorem c_X5_week {D : va_G} {ad : Nat → Nat} (l : Launch) (sz : Nat) (S : vS) (hkp : vp_in (S 0 3) 7) (hch : chairOK (S 1 2)) (hs6 : ¬ (S 1 6) = 0) : Met l yX5_week wsX5_week (rmD 5) (pW D 7 (cM D ad) ad sz S [.ref (ad 0)]) (va_Qi (fun (r : Int32) (S1 : vS) => (r, S1) = (x_X5_week S)) (bW D 7 (cM D ad) ad (aW 7 ad sz)) (aW 7 ad sz)) 0 0 (aW 7 ad sz) := by
  refine x_met (own := RX5) (cc := cX5_week) (maxL := 1) (ret := (some .int)) (Qc := fun A => va_Qi (fun (r : Int32) (S1 : vS) => (r, S1) = (x_X5_week S)) (bW D 7 (cM D ad) ad A) A) rfl ⟨by decide +kernel, rfl, Nat.le_of_ble_eq_true rfl⟩ ?_
  intro p e s mm args below meth c A ls B hW hl hls
  have hx := B.1.1
  have hb := B.1.2.1
  have hin_X5 : ∀ w ∈ wsX50, w ∈ wsX5_week := fun w h => List.mem_cons_of_mem _ (List.mem_append_right _ h)
  have k_28 := B.1.2.2.2.2 (.fieldLink RX5 28 "JointLoansModel" "thrown" "I") (by decide +kernel)
  have k_7 := B.1.2.2.2.2 (.fieldLink RX5 7 "JointLoansModel" "now" "[I") (by decide +kernel)
  have zk := x_X5_week.eq_1 S
  have hl : lv_has ls 1 [(0, .ref (ad 0))] := hl
  refine lv_aload_n hx hb dX5_week_0 rfl (lv_at hl 0 rfl) ?_
  refine lv_iconst (v := 0) hx hb dX5_week_1 (by decide) ?_
  refine x_put B hW (by decide) cls5 hin_X5 6 (by decide) cM_o rfl (ty := .int) (by decide +kernel) rfl rfl (Nat.le_of_ble_eq_true rfl) (j := 6) pO_6 k_28 dX5_week_2 (fun H locs S_2 he_2 hW => ?_)
  have zk := nm_at zk he_2
  have hf_S_2_0_3_7 : vp_in (S_2 0 3) 7 := by rw [he_2, st_at, if_neg (by rintro ⟨h1, h2⟩; omega)]; exact hkp
  have hf_S_2_1_2_chairOK : chairOK (S_2 1 2) := by rw [he_2, st_at, if_neg (by rintro ⟨h1, h2⟩; omega)]; exact hch
  have hf_S_2_1_6_0 : ¬ (S_2 1 6) = 0 := by rw [he_2, st_at, if_neg (by rintro ⟨h1, h2⟩; omega)]; exact hs6
  have hf_S_2_0_6_1 : vp_in (S_2 0 6) 1 := by rw [he_2, st_at, if_pos ⟨rfl, rfl⟩]; exact isN_vin (isN_lit 0 (by decide)) (by decide) (by decide)
  refine lv_aload_n hx hb dX5_week_5 rfl (lv_at hl 0 rfl) ?_
  refine x_get B hW (by decide) cM_o cls5 hin_X5 0 (by decide) (v := .ref (ad 1)) rfl k_7 dX5_week_6 ?_
  refine lv_iconst (v := 0) hx hb dX5_week_9 (by decide) ?_
  refine x_iald B hW (by decide) cM_1 (isN_lit 0 (by decide)) (by decide) (by decide) dX5_week_10 ?_
  refine lv_iconst (v := 1) hx hb dX5_week_11 (by decide) ?_
  refine lv_iadd hx hb dX5_week_12 ?_
  refine lv_sipush (v := 999) hx hb dX5_week_13 (by decide) ?_
  refine lv_icmp_le (tgt := 25) hx hb dX5_week_16 (by decide) (fun c_16 => ?_) (fun c_16 => ?_)
  · have zk := zk.trans (if_pos c_16)
    refine lv_aload_n hx hb dX5_week_25 rfl (lv_at hl 0 rfl) ?_
    refine x_callv hW (x_runV B hW (As := []) (rest := []) (by decide) cM_o cls5 (c_X5_saves (D := D) (ad := ad) l _ S_2 (isN_vin (isN_var hf_S_2_0_3_7 (by decide)) (by decide) (by decide))) (cwV 0 B.1.2.2.2.2 gX5_week_X5_saves rfl rfl rfl hd_X5_saves ⟨Nat.le_of_ble_eq_true rfl, Nat.le_of_ble_eq_true rfl⟩) rfl hls (Nat.le_of_ble_eq_true rfl) dX5_week_26 ⟨Nat.zero_le _, Nat.zero_le _⟩) (fun S_26 H locs he hW => ?_)
    have he_26 := he
    have zk := nm_at zk he_26
    have hf_S_26_1_2_chairOK : chairOK (S_26 1 2) := by rw [he_26, (fr_saves (by decide))]; exact hf_S_2_1_2_chairOK
    have hf_S_26_1_6_0 : ¬ (S_26 1 6) = 0 := by rw [he_26, (fr_saves (by decide))]; exact hf_S_2_1_6_0
    have hf_S_26_0_6_1 : vp_in (S_26 0 6) 1 := by rw [he_26, (fr_saves (by decide))]; exact hf_S_2_0_6_1
    refine lv_aload_n hx hb dX5_week_29 rfl (lv_at hl 0 rfl) ?_
    refine lv_aload_n hx hb dX5_week_30 rfl (lv_at hl 0 rfl) ?_
    refine x_get B hW (by decide) cM_o cls5 hin_X5 0 (by decide) (v := .ref (ad 1)) rfl k_7 dX5_week_31 ?_
    refine x_calli hW (x_runV B hW (As := [.ref (ad 1)]) (rest := []) (by decide) cM_o cls5 (c_X5_ends (D := D) (ad := ad) l _ S_26 1 (Or.inl rfl) hf_S_26_1_2_chairOK hf_S_26_1_6_0) (cwV 1 B.1.2.2.2.2 gX5_week_X5_ends rfl rfl rfl hd_X5_ends ⟨Nat.le_of_ble_eq_true rfl, Nat.le_of_ble_eq_true rfl⟩) rfl hls (Nat.le_of_ble_eq_true rfl) dX5_week_34 ⟨Nat.zero_le _, Nat.zero_le _⟩) (fun r_34 S_34 H locs he hW => ?_)
    have hr_34 := he
    have zk := nmp_at zk hr_34
    have he_34 : S_34 = (x_X5_ends S_26 1).2 := by rw [← hr_34]
    have hf_S_34_1_6_0 : ¬ (S_34 1 6) = 0 := by rw [he_34, ((ep_ends (Or.inl rfl)).1 _ _ (fun _ => by decide) (by decide) (by decide))]; exact hf_S_26_1_6_0
    have hf_S_34_0_6_1 : vp_in (S_34 0 6) 1 := by rw [he_34, ((ep_ends (Or.inl rfl)).1 _ _ (by decide) (by decide) (by decide))]; exact hf_S_26_0_6_1
    exact x_iret B hW zk.symm dX5_week_37
  · have zk := zk.trans (if_neg c_16)
    refine lv_aload_n hx hb dX5_week_19 rfl (lv_at hl 0 rfl) ?_
    refine lv_iconst (v := 1) hx hb dX5_week_20 (by decide) ?_
    refine x_calli hW (x_runV B hW (As := [.int 1]) (rest := []) (by decide) cM_o cls5 (c_X5_fails (D := D) (ad := ad) l _ S_2 1) (cwV 1 B.1.2.2.2.2 gX5_week_X5_fails rfl rfl rfl hd_X5_fails ⟨Nat.le_of_ble_eq_true rfl, Nat.le_of_ble_eq_true rfl⟩) rfl hls (Nat.le_of_ble_eq_true rfl) dX5_week_21 ⟨Nat.zero_le _, Nat.zero_le _⟩) (fun r_21 S_21 H locs he hW => ?_)
    have hr_21 := he
    have zk := nmp_at zk hr_21
    have he_21 : S_21 = (x_X5_fails S_2 1).2 := by rw [← hr_21]
    exact x_iret B hW zk.symm dX5_week_24

def x_X5_mayPay (S : vS) (p1 : Int32) (p2 : Int32) : Int32 := nm (x_X5_isMember S p1) (fun r_2 => if r_2 = 0 then 1 else nm (x_X5_in S p2 1 2000) (fun r_15 => if r_15 = 0 then 2 else nm (x_X5_debts S 1 p1) (fun r_30 => if r_30 = 0 then 3 else 0)))
theorem hd_X5_mayPay : yX5_mayPay.cls = RX5 ∧ yX5_mayPay.cls ≠ "java/lang/invoke/MethodHandle" ∧ yX5_mayPay.cls ≠ "java/lang/invoke/VarHandle" ∧ (parseMethodDescriptor yX5_mayPay.desc).map (fun d => d.parameters.length) = some 2 := by decide +kernel
set_option maxHeartbeats 4000000 in
set_option maxRecDepth 100000 in
theorem c_X5_mayPay {D : va_G} {ad : Nat → Nat} (l : Launch) (sz : Nat) (S : vS) (p1 : Int32) (p2 : Int32) : Met l yX5_mayPay wsX5_mayPay (rmD 3) (pW D 7 (cM D ad) ad sz S [.ref (ad 0), .int p1, .int p2]) (va_Qi (fun (r : Int32) (S1 : vS) => r = (x_X5_mayPay S p1 p2) ∧ S1 = S) (bW D 7 (cM D ad) ad (aW 7 ad sz)) (aW 7 ad sz)) 0 0 (aW 7 ad sz) := by
  refine x_met (own := RX5) (cc := cX5_mayPay) (maxL := 3) (ret := (some .int)) (Qc := fun A => va_Qi (fun (r : Int32) (S1 : vS) => r = (x_X5_mayPay S p1 p2) ∧ S1 = S) (bW D 7 (cM D ad) ad A) A) rfl ⟨by decide +kernel, rfl, Nat.le_of_ble_eq_true rfl⟩ ?_
  intro p e s mm args below meth c A ls B hW hl hls
  have hx := B.1.1
  have hb := B.1.2.1
  have hin_X5 : ∀ w ∈ wsX50, w ∈ wsX5_mayPay := fun w h => List.mem_cons_of_mem _ (List.mem_append_right _ h)
  have k_7 := B.1.2.2.2.2 (.fieldLink RX5 7 "JointLoansModel" "now" "[I") (by decide +kernel)
  have zk := x_X5_mayPay.eq_1 S p1 p2
  have hl : lv_has ls 3 [(0, .ref (ad 0)), (1, .int p1), (2, .int p2)] := hl
  refine lv_aload_n hx hb dX5_mayPay_0 rfl (lv_at hl 0 rfl) ?_
  refine lv_iload_n hx hb dX5_mayPay_1 rfl (lv_at hl 1 rfl) ?_
  refine x_calli hW (x_runV B hW (As := [.int p1]) (rest := []) (by decide) cM_o cls5 (c_X5_isMember (D := D) (ad := ad) l _ S p1) (cwV 1 B.1.2.2.2.2 gX5_mayPay_X5_isMember rfl rfl rfl hd_X5_isMember ⟨Nat.le_of_ble_eq_true rfl, Nat.le_of_ble_eq_true rfl⟩) rfl hls (Nat.le_of_ble_eq_true rfl) dX5_mayPay_2 ⟨Nat.zero_le _, Nat.zero_le _⟩) (fun r_2 S_2 H locs he hW => ?_)
  obtain ⟨hr_2, hs, hz_2⟩ := he
  rw [hs] at hW
  have zk := nm_at zk hr_2
  refine lv_if_ne (tgt := 10) hx hb dX5_mayPay_5 (by decide) (fun c_5 => ?_) (fun c_5 => ?_)
  · have zk := zk.trans (if_neg c_5)
    refine lv_iload_n hx hb dX5_mayPay_10 rfl (lv_at hl 2 rfl) ?_
    refine lv_iconst (v := 1) hx hb dX5_mayPay_11 (by decide) ?_
    refine lv_sipush (v := 2000) hx hb dX5_mayPay_12 (by decide) ?_
    refine x_calli hW (x_runS B hW (As := [.int p2, .int 1, .int 2000]) (rest := []) (c_X5_in (D := D) (ad := ad) l _ S p2 1 2000) (va_cwS 3 B.1.2.2.2.2 gX5_mayPay_X5_in rfl rfl rfl hd_X5_in.2 ⟨Nat.le_of_ble_eq_true rfl, Nat.le_of_ble_eq_true rfl⟩) rfl hls (Nat.le_of_ble_eq_true rfl) dX5_mayPay_15 ⟨Nat.zero_le _, Nat.zero_le _⟩) (fun r_15 S_15 H locs he hW => ?_)
    obtain ⟨hr_15, hs, hz_15⟩ := he
    rw [hs] at hW
    have zk := nm_at zk hr_15
    refine lv_if_ne (tgt := 25) hx hb dX5_mayPay_18 (by decide) (fun c_18 => ?_) (fun c_18 => ?_)
    · have zk := zk.trans (if_neg c_18)
      refine lv_aload_n hx hb dX5_mayPay_25 rfl (lv_at hl 0 rfl) ?_
      refine x_get B hW (by decide) cM_o cls5 hin_X5 0 (by decide) (v := .ref (ad 1)) rfl k_7 dX5_mayPay_26 ?_
      refine lv_iload_n hx hb dX5_mayPay_29 rfl (lv_at hl 1 rfl) ?_
      refine x_calli hW (x_runS B hW (As := [.ref (ad 1), .int p1]) (rest := []) (c_X5_debts (D := D) (ad := ad) l _ S 1 p1 (Or.inl rfl) (isN_vin (isN_var (ismem_vin hr_2 c_5) (by decide)) (by decide) (by decide))) (va_cwS 2 B.1.2.2.2.2 gX5_mayPay_X5_debts rfl rfl rfl hd_X5_debts.2 ⟨Nat.le_of_ble_eq_true rfl, Nat.le_of_ble_eq_true rfl⟩) rfl hls (Nat.le_of_ble_eq_true rfl) dX5_mayPay_30 ⟨Nat.zero_le _, Nat.zero_le _⟩) (fun r_30 S_30 H locs he hW => ?_)
      obtain ⟨hr_30, hs⟩ := he
      rw [hs] at hW
      have zk := nm_at zk hr_30
      refine lv_if_ne (tgt := 40) hx hb dX5_mayPay_33 (by decide) (fun c_33 => ?_) (fun c_33 => ?_)
      · have zk := zk.trans (if_neg c_33)
        refine lv_iconst (v := 0) hx hb dX5_mayPay_40 (by decide) ?_
        exact x_iret B hW ⟨zk.symm, rfl⟩ dX5_mayPay_41
      · have zk := zk.trans (if_pos c_33)
        refine lv_iconst (v := 3) hx hb dX5_mayPay_36 (by decide) ?_
        refine lv_goto (tgt := 41) hx hb dX5_mayPay_37 (by decide) ?_
        exact x_iret B hW ⟨zk.symm, rfl⟩ dX5_mayPay_41
    · have zk := zk.trans (if_pos c_18)
      refine lv_iconst (v := 2) hx hb dX5_mayPay_21 (by decide) ?_
      refine lv_goto (tgt := 41) hx hb dX5_mayPay_22 (by decide) ?_
      exact x_iret B hW ⟨zk.symm, rfl⟩ dX5_mayPay_41
  · have zk := zk.trans (if_pos c_5)
    refine lv_iconst (v := 1) hx hb dX5_mayPay_8 (by decide) ?_
    exact x_iret B hW ⟨zk.symm, rfl⟩ dX5_mayPay_9
theorem mayPay_ok {S : vS} {a b r : Int32} (hr : r = x_X5_mayPay S a b) (h : r = 0) : vp_in a 8 := by
  rw [hr] at h
  unfold x_X5_mayPay at h
  try simp only [nm_eq, nmp_eq] at h
  by_cases c1 : x_X5_isMember S a = 0
  · rw [if_pos c1] at h; exact absurd h (by decide)
  · exact ismem_vin rfl c1

def x_X5_least (S : vS) (p1 : Int32) (p2 : Int32) : Int32 := if p2 ≤ p1 then p2 else p1
theorem hd_X5_least : yX5_least.cls = RX5 ∧ yX5_least.cls ≠ "java/lang/invoke/MethodHandle" ∧ yX5_least.cls ≠ "java/lang/invoke/VarHandle" ∧ (parseMethodDescriptor yX5_least.desc).map (fun d => d.parameters.length) = some 2 := by decide +kernel
set_option maxHeartbeats 4000000 in
set_option maxRecDepth 100000 in
theorem c_X5_least {D : va_G} {ad : Nat → Nat} (l : Launch) (sz : Nat) (S : vS) (p1 : Int32) (p2 : Int32) : Met l yX5_least wsX5_least (rmD 0) (pW D 7 (cM D ad) ad sz S [.int p1, .int p2]) (va_Qi (fun (r : Int32) (S1 : vS) => r = (x_X5_least S p1 p2) ∧ S1 = S) (bW D 7 (cM D ad) ad (aW 7 ad sz)) (aW 7 ad sz)) 0 0 (aW 7 ad sz) := by
  refine x_met (own := RX5) (cc := cX5_least) (maxL := 2) (ret := (some .int)) (Qc := fun A => va_Qi (fun (r : Int32) (S1 : vS) => r = (x_X5_least S p1 p2) ∧ S1 = S) (bW D 7 (cM D ad) ad A) A) rfl ⟨by decide +kernel, rfl, Nat.le_of_ble_eq_true rfl⟩ ?_
  intro p e s mm args below meth c A ls B hW hl hls
  have hx := B.1.1
  have hb := B.1.2.1
  have zk := x_X5_least.eq_1 S p1 p2
  have hl : lv_has ls 2 [(0, .int p1), (1, .int p2)] := hl
  refine lv_iload_n hx hb dX5_least_0 rfl (lv_at hl 0 rfl) ?_
  refine lv_iload_n hx hb dX5_least_1 rfl (lv_at hl 1 rfl) ?_
  refine lv_icmp_ge (tgt := 9) hx hb dX5_least_2 (by decide) (fun c_2 => ?_) (fun c_2 => ?_)
  · have zk := zk.trans (if_pos c_2)
    refine lv_iload_n hx hb dX5_least_9 rfl (lv_at hl 1 rfl) ?_
    exact x_iret B hW ⟨zk.symm, rfl⟩ dX5_least_10
  · have zk := zk.trans (if_neg c_2)
    refine lv_iload_n hx hb dX5_least_5 rfl (lv_at hl 0 rfl) ?_
    refine lv_goto (tgt := 10) hx hb dX5_least_6 (by decide) ?_
    exact x_iret B hW ⟨zk.symm, rfl⟩ dX5_least_10

def x_X5_pays_L97 : Nat → vS → Int32 → Int32 → Nat → Int32 → (Int32 × vS)
  | 0, S, _, _, _, _ => (0, S)
  | n + 1, S, p1, p2, n6, v3 => if 8 ≤ (nI n6) then ((p2 - v3), S) else nm (x_X5_debt S 1 p1 (nI n6)) (fun r_112 => nm (x_X5_least S v3 r_112) (fun r_115 => nm (st S 1 ((125 + (8 * p1.toNatClampNeg)) + n6) ((S 1 ((125 + (8 * p1.toNatClampNeg)) + n6)) - r_115)) (fun S_139 => nm ((v3 - r_115)) (fun x_144 => x_X5_pays_L97 n S_139 p1 p2 ((n6 + 1)) (x_144)))))
def x_X5_pays (S : vS) (p1 : Int32) (p2 : Int32) : (Int32 × vS) := nm (x_X5_of S 1 p1 10) (fun r_10 => nm (x_X5_least S p2 r_10) (fun r_13 => nm (x_X5_adds S 1 p1 10 (-r_13)) (fun S_28 => nm (st S_28 1 11 ((S_28 1 11) + r_13)) (fun S_42 => nm ((p2 - r_13)) (fun x_47 => nm (x_X5_of S_42 1 p1 11) (fun r_56 => nm (x_X5_least S_42 x_47 r_56) (fun r_59 => nm (x_X5_adds S_42 1 p1 11 (-r_59)) (fun S_74 => nm (st S_74 1 8 ((S_74 1 8) + r_59)) (fun S_88 => nm ((x_47 - r_59)) (fun x_93 => x_X5_pays_L97 (9) S_88 p1 p2 (0) (x_93)))))))))))
theorem hd_X5_pays : yX5_pays.cls = RX5 ∧ yX5_pays.cls ≠ "java/lang/invoke/MethodHandle" ∧ yX5_pays.cls ≠ "java/lang/invoke/VarHandle" ∧ (parseMethodDescriptor yX5_pays.desc).map (fun d => d.parameters.length) = some 2 := by decide +kernel
set_option maxHeartbeats 4000000 in
set_option maxRecDepth 100000 in
theorem w_X5_pays_L97 {D : va_G} {ad : Nat → Nat} (l : Launch) {p : Program} {e : Env} {s : State} {mm : MethodId} {args : Array Value} {below : List Frame} {meth : Method} {c : Code} {A : Nat → Prop} (B : Cx p mm c cX5_pays 8 s args wsX5_pays RX5 meth (some .int) D) (z : (Int32 × vS)) (p1 : Int32) (p2 : Int32) (h1 : vp_in p1 8) : ∀ (n : Nat) (n6 : Nat) (v3 : Int32) (S : vS) (H : Heap) (locs : List Loc) (ls : Array Slot), n6 ≤ 8 → n6 + n = 9 → Wd D 7 (cM D ad) ad A s.heap S H locs → lv_has ls 8 [(6, .int (nI n6)), (3, .int v3), (0, .ref (ad 0)), (1, .int p1), (2, .int p2)] → ls.size = 8 → z = x_X5_pays_L97 n S p1 p2 n6 v3 → W p l e (rmD 1) s mm args below meth c H locs 0 0 (MQ below (va_Qi (fun (r : Int32) (S1 : vS) => (r, S1) = z) (bW D 7 (cM D ad) ad A) A) args s 0 0 A) (F0 mm 97 ls []) := by
  have hx := B.1.1
  have hb := B.1.2.1
  have hin_X5 : ∀ w ∈ wsX50, w ∈ wsX5_pays := fun w h => List.mem_cons_of_mem _ (List.mem_append_right _ h)
  have k_7 := B.1.2.2.2.2 (.fieldLink RX5 7 "JointLoansModel" "now" "[I") (by decide +kernel)
  intro n
  induction n with
  | zero =>
    intro n6 v3 S H locs ls hle hsum
    omega
  | succ n ih =>
    intro n6 v3 S H locs ls hle hsum hW hl hls zk
    have zk := zk.trans (x_X5_pays_L97.eq_2 _ _ _ _ _ _ )
    refine lv_iload hx hb dX5_pays_97 (lv_at hl 0 rfl) ?_
    refine lv_bipush (v := 8) hx hb dX5_pays_99 (by decide) ?_
    refine lv_icmp_ge (tgt := 151) hx hb dX5_pays_101 (by decide) (fun c_101 => ?_) (fun c_101 => ?_)
    · have zk := zk.trans (if_pos c_101)
      refine lv_iload_n hx hb dX5_pays_151 rfl (lv_at hl 4 rfl) ?_
      refine lv_iload_n hx hb dX5_pays_152 rfl (lv_at hl 1 rfl) ?_
      refine lv_isub hx hb dX5_pays_153 ?_
      exact x_iret B hW zk.symm dX5_pays_154
    · have zk := zk.trans (if_neg c_101)
      have hb_c_101 : n6 < 8 := nI_of_nle (by decide) c_101 (by omega)
      refine lv_iload_n hx hb dX5_pays_104 rfl (lv_at hl 1 rfl) ?_
      refine lv_aload_n hx hb dX5_pays_105 rfl (lv_at hl 2 rfl) ?_
      refine x_get B hW (by decide) cM_o cls5 hin_X5 0 (by decide) (v := .ref (ad 1)) rfl k_7 dX5_pays_106 ?_
      refine lv_iload_n hx hb dX5_pays_109 rfl (lv_at hl 3 rfl) ?_
      refine lv_iload hx hb dX5_pays_110 (lv_at hl 0 rfl) ?_
      refine x_calli hW (x_runS B hW (As := [.ref (ad 1), .int p1, .int (nI n6)]) (rest := .int v3 :: []) (c_X5_debt (D := D) (ad := ad) l _ S 1 p1 (nI n6) (Or.inl rfl) h1 (isN_vin (isN_nI hb_c_101 (by decide)) (by decide) (by decide))) (va_cwS 3 B.1.2.2.2.2 gX5_pays_X5_debt rfl rfl rfl hd_X5_debt.2 ⟨Nat.le_of_ble_eq_true rfl, Nat.le_of_ble_eq_true rfl⟩) rfl hls (Nat.le_of_ble_eq_true rfl) dX5_pays_112 ⟨Nat.zero_le _, Nat.zero_le _⟩) (fun r_112 S_112 H locs he hW => ?_)
      obtain ⟨hr_112, hs⟩ := he
      rw [hs] at hW
      have zk := nm_at zk hr_112
      refine x_calli hW (x_runS B hW (As := [.int v3, .int r_112]) (rest := []) (c_X5_least (D := D) (ad := ad) l _ S v3 r_112) (va_cwS 2 B.1.2.2.2.2 gX5_pays_X5_least rfl rfl rfl hd_X5_least.2 ⟨Nat.le_of_ble_eq_true rfl, Nat.le_of_ble_eq_true rfl⟩) rfl hls (Nat.le_of_ble_eq_true rfl) dX5_pays_115 ⟨Nat.zero_le _, Nat.zero_le _⟩) (fun r_115 S_115 H locs he hW => ?_)
      obtain ⟨hr_115, hs⟩ := he
      rw [hs] at hW
      have zk := nm_at zk hr_115
      refine lv_istore (lv' := [(7, .int r_115), (6, .int (nI n6)), (3, .int v3), (0, .ref (ad 0)), (1, .int p1), (2, .int p2)]) hx hb dX5_pays_118 hl (by decide) rfl (fun ls hl => ?_)
      have hls := hl.1
      refine lv_aload_n hx hb dX5_pays_120 rfl (lv_at hl 3 rfl) ?_
      refine x_get B hW (by decide) cM_o cls5 hin_X5 0 (by decide) (v := .ref (ad 1)) rfl k_7 dX5_pays_121 ?_
      refine lv_bipush (v := 125) hx hb dX5_pays_124 (by decide) ?_
      refine lv_bipush (v := 8) hx hb dX5_pays_126 (by decide) ?_
      refine lv_iload_n hx hb dX5_pays_128 rfl (lv_at hl 4 rfl) ?_
      refine lv_imul hx hb dX5_pays_129 ?_
      refine lv_iadd hx hb dX5_pays_130 ?_
      refine lv_iload hx hb dX5_pays_131 (lv_at hl 1 rfl) ?_
      refine lv_iadd hx hb dX5_pays_133 ?_
      refine lv_dup2_11 hx hb dX5_pays_134 rfl rfl ?_
      refine x_iald B hW (by decide) cM_1 (isN_add (isN_add (isN_lit 125 (by decide)) (isN_mul (isN_lit 8 (by decide)) (isN_var h1 (by decide)) (by decide)) (by decide)) (isN_nI hb_c_101 (by decide)) (by decide)) (by decide) (by decide) dX5_pays_135 ?_
      refine lv_iload hx hb dX5_pays_136 (lv_at hl 0 rfl) ?_
      refine lv_isub hx hb dX5_pays_138 ?_
      refine x_iast B hW (by decide) (fun _ => cM_1) (isN_add (isN_add (isN_lit 125 (by decide)) (isN_mul (isN_lit 8 (by decide)) (isN_var h1 (by decide)) (by decide)) (by decide)) (isN_nI hb_c_101 (by decide)) (by decide)) (by decide) (by decide) dX5_pays_139 (fun H locs S_139 he_139 hW => ?_)
      have zk := nm_at zk he_139
      refine lv_iload_n hx hb dX5_pays_140 rfl (lv_at hl 2 rfl) ?_
      refine lv_iload hx hb dX5_pays_141 (lv_at hl 0 rfl) ?_
      refine lv_isub hx hb dX5_pays_143 ?_
      refine lv_topi (fun x_144 ex_144 => ?_)
      have zk := nm_at zk ex_144
      refine lv_istore_n (lv' := [(3, .int x_144), (7, .int r_115), (6, .int (nI n6)), (0, .ref (ad 0)), (1, .int p1), (2, .int p2)]) hx hb dX5_pays_144 rfl hl (by decide) rfl (fun ls hl => ?_)
      have hls := hl.1
      refine lv_iinc (v := (nI (n6 + 1))) (lv' := [(6, .int (nI (n6 + 1))), (3, .int x_144), (7, .int r_115), (0, .ref (ad 0)), (1, .int p1), (2, .int p2)]) hx hb dX5_pays_145 hl (k := 2) rfl (nI_1 _) (by decide) rfl (fun ls hl => ?_)
      have hls := hl.1
      refine lv_goto (tgt := 97) hx hb dX5_pays_148 (by decide) ?_
      exact ih ((n6 + 1)) (x_144) S_139 _ _ _ (show (n6 + 1) ≤ 8 by omega) (show (n6 + 1) + n = 9 by omega) hW (lv_sub hl [0, 1, 3, 4, 5] rfl) hls zk
set_option maxHeartbeats 4000000 in
set_option maxRecDepth 100000 in
theorem c_X5_pays {D : va_G} {ad : Nat → Nat} (l : Launch) (sz : Nat) (S : vS) (p1 : Int32) (p2 : Int32) (h1 : vp_in p1 8) : Met l yX5_pays wsX5_pays (rmD 1) (pW D 7 (cM D ad) ad sz S [.ref (ad 0), .int p1, .int p2]) (va_Qi (fun (r : Int32) (S1 : vS) => (r, S1) = (x_X5_pays S p1 p2)) (bW D 7 (cM D ad) ad (aW 7 ad sz)) (aW 7 ad sz)) 0 0 (aW 7 ad sz) := by
  refine x_met (own := RX5) (cc := cX5_pays) (maxL := 8) (ret := (some .int)) (Qc := fun A => va_Qi (fun (r : Int32) (S1 : vS) => (r, S1) = (x_X5_pays S p1 p2)) (bW D 7 (cM D ad) ad A) A) rfl ⟨by decide +kernel, rfl, Nat.le_of_ble_eq_true rfl⟩ ?_
  intro p e s mm args below meth c A ls B hW hl hls
  have hx := B.1.1
  have hb := B.1.2.1
  have hin_X5 : ∀ w ∈ wsX50, w ∈ wsX5_pays := fun w h => List.mem_cons_of_mem _ (List.mem_append_right _ h)
  have k_7 := B.1.2.2.2.2 (.fieldLink RX5 7 "JointLoansModel" "now" "[I") (by decide +kernel)
  have zk := x_X5_pays.eq_1 S p1 p2
  have hl : lv_has ls 8 [(0, .ref (ad 0)), (1, .int p1), (2, .int p2)] := hl
  refine lv_iload_n hx hb dX5_pays_0 rfl (lv_at hl 2 rfl) ?_
  refine lv_istore_n (lv' := [(3, .int p2), (0, .ref (ad 0)), (1, .int p1), (2, .int p2)]) hx hb dX5_pays_1 rfl hl (by decide) rfl (fun ls hl => ?_)
  have hls := hl.1
  refine lv_iload_n hx hb dX5_pays_2 rfl (lv_at hl 0 rfl) ?_
  refine lv_aload_n hx hb dX5_pays_3 rfl (lv_at hl 1 rfl) ?_
  refine x_get B hW (by decide) cM_o cls5 hin_X5 0 (by decide) (v := .ref (ad 1)) rfl k_7 dX5_pays_4 ?_
  refine lv_iload_n hx hb dX5_pays_7 rfl (lv_at hl 2 rfl) ?_
  refine lv_bipush (v := 10) hx hb dX5_pays_8 (by decide) ?_
  refine x_calli hW (x_runS B hW (As := [.ref (ad 1), .int p1, .int 10]) (rest := .int p2 :: []) (c_X5_of (D := D) (ad := ad) l _ S 1 p1 10 (Or.inl rfl) h1 (isN_vin (isN_lit 10 (by decide)) (by decide) (by decide))) (va_cwS 3 B.1.2.2.2.2 gX5_pays_X5_of rfl rfl rfl hd_X5_of.2 ⟨Nat.le_of_ble_eq_true rfl, Nat.le_of_ble_eq_true rfl⟩) rfl hls (Nat.le_of_ble_eq_true rfl) dX5_pays_10 ⟨Nat.zero_le _, Nat.zero_le _⟩) (fun r_10 S_10 H locs he hW => ?_)
  obtain ⟨hr_10, hs⟩ := he
  rw [hs] at hW
  have zk := nm_at zk hr_10
  refine x_calli hW (x_runS B hW (As := [.int p2, .int r_10]) (rest := []) (c_X5_least (D := D) (ad := ad) l _ S p2 r_10) (va_cwS 2 B.1.2.2.2.2 gX5_pays_X5_least rfl rfl rfl hd_X5_least.2 ⟨Nat.le_of_ble_eq_true rfl, Nat.le_of_ble_eq_true rfl⟩) rfl hls (Nat.le_of_ble_eq_true rfl) dX5_pays_13 ⟨Nat.zero_le _, Nat.zero_le _⟩) (fun r_13 S_13 H locs he hW => ?_)
  obtain ⟨hr_13, hs⟩ := he
  rw [hs] at hW
  have zk := nm_at zk hr_13
  refine lv_istore (lv' := [(4, .int r_13), (3, .int p2), (0, .ref (ad 0)), (1, .int p1), (2, .int p2)]) hx hb dX5_pays_16 hl (by decide) rfl (fun ls hl => ?_)
  have hls := hl.1
  refine lv_aload_n hx hb dX5_pays_18 rfl (lv_at hl 2 rfl) ?_
  refine x_get B hW (by decide) cM_o cls5 hin_X5 0 (by decide) (v := .ref (ad 1)) rfl k_7 dX5_pays_19 ?_
  refine lv_iload_n hx hb dX5_pays_22 rfl (lv_at hl 3 rfl) ?_
  refine lv_bipush (v := 10) hx hb dX5_pays_23 (by decide) ?_
  refine lv_iload hx hb dX5_pays_25 (lv_at hl 0 rfl) ?_
  refine lv_ineg hx hb dX5_pays_27 ?_
  refine x_callv hW (x_runS B hW (As := [.ref (ad 1), .int p1, .int 10, .int (-r_13)]) (rest := []) (c_X5_adds (D := D) (ad := ad) l _ S 1 p1 10 (-r_13) (Or.inl rfl) h1 (isN_vin (isN_lit 10 (by decide)) (by decide) (by decide))) (va_cwS 4 B.1.2.2.2.2 gX5_pays_X5_adds rfl rfl rfl hd_X5_adds.2 ⟨Nat.le_of_ble_eq_true rfl, Nat.le_of_ble_eq_true rfl⟩) rfl hls (Nat.le_of_ble_eq_true rfl) dX5_pays_28 ⟨Nat.zero_le _, Nat.zero_le _⟩) (fun S_28 H locs he hW => ?_)
  have he_28 := he
  have zk := nm_at zk he_28
  refine lv_aload_n hx hb dX5_pays_31 rfl (lv_at hl 2 rfl) ?_
  refine x_get B hW (by decide) cM_o cls5 hin_X5 0 (by decide) (v := .ref (ad 1)) rfl k_7 dX5_pays_32 ?_
  refine lv_bipush (v := 11) hx hb dX5_pays_35 (by decide) ?_
  refine lv_dup2_11 hx hb dX5_pays_37 rfl rfl ?_
  refine x_iald B hW (by decide) cM_1 (isN_lit 11 (by decide)) (by decide) (by decide) dX5_pays_38 ?_
  refine lv_iload hx hb dX5_pays_39 (lv_at hl 0 rfl) ?_
  refine lv_iadd hx hb dX5_pays_41 ?_
  refine x_iast B hW (by decide) (fun _ => cM_1) (isN_lit 11 (by decide)) (by decide) (by decide) dX5_pays_42 (fun H locs S_42 he_42 hW => ?_)
  have zk := nm_at zk he_42
  refine lv_iload_n hx hb dX5_pays_43 rfl (lv_at hl 1 rfl) ?_
  refine lv_iload hx hb dX5_pays_44 (lv_at hl 0 rfl) ?_
  refine lv_isub hx hb dX5_pays_46 ?_
  refine lv_topi (fun x_47 ex_47 => ?_)
  have zk := nm_at zk ex_47
  refine lv_istore_n (lv' := [(3, .int x_47), (4, .int r_13), (0, .ref (ad 0)), (1, .int p1), (2, .int p2)]) hx hb dX5_pays_47 rfl hl (by decide) rfl (fun ls hl => ?_)
  have hls := hl.1
  refine lv_iload_n hx hb dX5_pays_48 rfl (lv_at hl 0 rfl) ?_
  refine lv_aload_n hx hb dX5_pays_49 rfl (lv_at hl 2 rfl) ?_
  refine x_get B hW (by decide) cM_o cls5 hin_X5 0 (by decide) (v := .ref (ad 1)) rfl k_7 dX5_pays_50 ?_
  refine lv_iload_n hx hb dX5_pays_53 rfl (lv_at hl 3 rfl) ?_
  refine lv_bipush (v := 11) hx hb dX5_pays_54 (by decide) ?_
  refine x_calli hW (x_runS B hW (As := [.ref (ad 1), .int p1, .int 11]) (rest := .int x_47 :: []) (c_X5_of (D := D) (ad := ad) l _ S_42 1 p1 11 (Or.inl rfl) h1 (isN_vin (isN_lit 11 (by decide)) (by decide) (by decide))) (va_cwS 3 B.1.2.2.2.2 gX5_pays_X5_of rfl rfl rfl hd_X5_of.2 ⟨Nat.le_of_ble_eq_true rfl, Nat.le_of_ble_eq_true rfl⟩) rfl hls (Nat.le_of_ble_eq_true rfl) dX5_pays_56 ⟨Nat.zero_le _, Nat.zero_le _⟩) (fun r_56 S_56 H locs he hW => ?_)
  obtain ⟨hr_56, hs⟩ := he
  rw [hs] at hW
  have zk := nm_at zk hr_56
  refine x_calli hW (x_runS B hW (As := [.int x_47, .int r_56]) (rest := []) (c_X5_least (D := D) (ad := ad) l _ S_42 x_47 r_56) (va_cwS 2 B.1.2.2.2.2 gX5_pays_X5_least rfl rfl rfl hd_X5_least.2 ⟨Nat.le_of_ble_eq_true rfl, Nat.le_of_ble_eq_true rfl⟩) rfl hls (Nat.le_of_ble_eq_true rfl) dX5_pays_59 ⟨Nat.zero_le _, Nat.zero_le _⟩) (fun r_59 S_59 H locs he hW => ?_)
  obtain ⟨hr_59, hs⟩ := he
  rw [hs] at hW
  have zk := nm_at zk hr_59
  refine lv_istore (lv' := [(5, .int r_59), (3, .int x_47), (4, .int r_13), (0, .ref (ad 0)), (1, .int p1), (2, .int p2)]) hx hb dX5_pays_62 hl (by decide) rfl (fun ls hl => ?_)
  have hls := hl.1
  refine lv_aload_n hx hb dX5_pays_64 rfl (lv_at hl 3 rfl) ?_
  refine x_get B hW (by decide) cM_o cls5 hin_X5 0 (by decide) (v := .ref (ad 1)) rfl k_7 dX5_pays_65 ?_
  refine lv_iload_n hx hb dX5_pays_68 rfl (lv_at hl 4 rfl) ?_
  refine lv_bipush (v := 11) hx hb dX5_pays_69 (by decide) ?_
  refine lv_iload hx hb dX5_pays_71 (lv_at hl 0 rfl) ?_
  refine lv_ineg hx hb dX5_pays_73 ?_
  refine x_callv hW (x_runS B hW (As := [.ref (ad 1), .int p1, .int 11, .int (-r_59)]) (rest := []) (c_X5_adds (D := D) (ad := ad) l _ S_42 1 p1 11 (-r_59) (Or.inl rfl) h1 (isN_vin (isN_lit 11 (by decide)) (by decide) (by decide))) (va_cwS 4 B.1.2.2.2.2 gX5_pays_X5_adds rfl rfl rfl hd_X5_adds.2 ⟨Nat.le_of_ble_eq_true rfl, Nat.le_of_ble_eq_true rfl⟩) rfl hls (Nat.le_of_ble_eq_true rfl) dX5_pays_74 ⟨Nat.zero_le _, Nat.zero_le _⟩) (fun S_74 H locs he hW => ?_)
  have he_74 := he
  have zk := nm_at zk he_74
  refine lv_aload_n hx hb dX5_pays_77 rfl (lv_at hl 3 rfl) ?_
  refine x_get B hW (by decide) cM_o cls5 hin_X5 0 (by decide) (v := .ref (ad 1)) rfl k_7 dX5_pays_78 ?_
  refine lv_bipush (v := 8) hx hb dX5_pays_81 (by decide) ?_
  refine lv_dup2_11 hx hb dX5_pays_83 rfl rfl ?_
  refine x_iald B hW (by decide) cM_1 (isN_lit 8 (by decide)) (by decide) (by decide) dX5_pays_84 ?_
  refine lv_iload hx hb dX5_pays_85 (lv_at hl 0 rfl) ?_
  refine lv_iadd hx hb dX5_pays_87 ?_
  refine x_iast B hW (by decide) (fun _ => cM_1) (isN_lit 8 (by decide)) (by decide) (by decide) dX5_pays_88 (fun H locs S_88 he_88 hW => ?_)
  have zk := nm_at zk he_88
  refine lv_iload_n hx hb dX5_pays_89 rfl (lv_at hl 1 rfl) ?_
  refine lv_iload hx hb dX5_pays_90 (lv_at hl 0 rfl) ?_
  refine lv_isub hx hb dX5_pays_92 ?_
  refine lv_topi (fun x_93 ex_93 => ?_)
  have zk := nm_at zk ex_93
  refine lv_istore_n (lv' := [(3, .int x_93), (5, .int r_59), (4, .int r_13), (0, .ref (ad 0)), (1, .int p1), (2, .int p2)]) hx hb dX5_pays_93 rfl hl (by decide) rfl (fun ls hl => ?_)
  have hls := hl.1
  refine lv_iconst (v := 0) hx hb dX5_pays_94 (by decide) ?_
  refine lv_istore (lv' := [(6, .int 0), (3, .int x_93), (5, .int r_59), (4, .int r_13), (0, .ref (ad 0)), (1, .int p1), (2, .int p2)]) hx hb dX5_pays_95 hl (by decide) rfl (fun ls hl => ?_)
  have hls := hl.1
  exact w_X5_pays_L97 l B  _ p1 p2 h1 (9) (0) (x_93) S_88 _ _ _ (show 0 ≤ 8 by omega) (show 0 + (9) = 9 by omega) hW (lv_sub hl [0, 1, 4, 5, 6] rfl) hls zk
theorem ex_pays_L {p1 p2 : Int32} : ∀ (n : Nat) (S S0 : vS) (k : Nat) (v : Int32), EX S0 S → EX S0 (x_X5_pays_L97 n S p1 p2 k v).2 := by
  intro n
  induction n with
  | zero => intro S S0 k v h; exact h
  | succ n ih =>
    intro S S0 k v h
    rw [x_X5_pays_L97]
    try simp only [nm_eq, nmp_eq]
    repeat' split
    all_goals repeat (first | (with_reducible assumption) | (with_reducible apply ih) | (with_reducible refine EX.w ?_ (by omega)))
theorem EX.pays {S S1 : vS} {a b : Int32} (h : EX S S1) : EX S (x_X5_pays S1 a b).2 := by
  unfold x_X5_pays
  try simp only [nm_eq, nmp_eq]
  repeat (first | (with_reducible assumption) | (with_reducible apply ex_pays_L) | (rw [e_adds]; with_reducible refine EX.w ?_ (by omega)) | (with_reducible refine EX.w ?_ (by omega)))

def x_X5_payBack (S : vS) (p1 : Int32) (p2 : Int32) : (Int32 × vS) := nm (x_X5_mayPay S p1 p2) (fun r_4 => nm (st S 0 6 r_4) (fun S_7 => if (S_7 0 6) = 0 then nm (x_X5_saves S_7) (fun S_20 => nmp (x_X5_pays S_20 p1 p2) (fun r_26 S_26 => (r_26, S_26))) else (0, S_7)))
theorem hd_X5_payBack : yX5_payBack.cls = RX5 ∧ yX5_payBack.cls ≠ "java/lang/invoke/MethodHandle" ∧ yX5_payBack.cls ≠ "java/lang/invoke/VarHandle" ∧ (parseMethodDescriptor yX5_payBack.desc).map (fun d => d.parameters.length) = some 2 := by decide +kernel
set_option maxHeartbeats 4000000 in
set_option maxRecDepth 100000 in
theorem c_X5_payBack {D : va_G} {ad : Nat → Nat} (l : Launch) (sz : Nat) (S : vS) (p1 : Int32) (p2 : Int32) (hkp : vp_in (S 0 3) 7) : Met l yX5_payBack wsX5_payBack (rmD 4) (pW D 7 (cM D ad) ad sz S [.ref (ad 0), .int p1, .int p2]) (va_Qi (fun (r : Int32) (S1 : vS) => (r, S1) = (x_X5_payBack S p1 p2)) (bW D 7 (cM D ad) ad (aW 7 ad sz)) (aW 7 ad sz)) 0 0 (aW 7 ad sz) := by
  refine x_met (own := RX5) (cc := cX5_payBack) (maxL := 3) (ret := (some .int)) (Qc := fun A => va_Qi (fun (r : Int32) (S1 : vS) => (r, S1) = (x_X5_payBack S p1 p2)) (bW D 7 (cM D ad) ad A) A) rfl ⟨by decide +kernel, rfl, Nat.le_of_ble_eq_true rfl⟩ ?_
  intro p e s mm args below meth c A ls B hW hl hls
  have hx := B.1.1
  have hb := B.1.2.1
  have hin_X5 : ∀ w ∈ wsX50, w ∈ wsX5_payBack := fun w h => List.mem_cons_of_mem _ (List.mem_append_right _ h)
  have k_28 := B.1.2.2.2.2 (.fieldLink RX5 28 "JointLoansModel" "thrown" "I") (by decide +kernel)
  have zk := x_X5_payBack.eq_1 S p1 p2
  have hl : lv_has ls 3 [(0, .ref (ad 0)), (1, .int p1), (2, .int p2)] := hl
  refine lv_aload_n hx hb dX5_payBack_0 rfl (lv_at hl 0 rfl) ?_
  refine lv_aload_n hx hb dX5_payBack_1 rfl (lv_at hl 0 rfl) ?_
  refine lv_iload_n hx hb dX5_payBack_2 rfl (lv_at hl 1 rfl) ?_
  refine lv_iload_n hx hb dX5_payBack_3 rfl (lv_at hl 2 rfl) ?_
  refine x_calli hW (x_runV B hW (As := [.int p1, .int p2]) (rest := .ref (ad 0) :: []) (by decide) cM_o cls5 (c_X5_mayPay (D := D) (ad := ad) l _ S p1 p2) (cwV 2 B.1.2.2.2.2 gX5_payBack_X5_mayPay rfl rfl rfl hd_X5_mayPay ⟨Nat.le_of_ble_eq_true rfl, Nat.le_of_ble_eq_true rfl⟩) rfl hls (Nat.le_of_ble_eq_true rfl) dX5_payBack_4 ⟨Nat.zero_le _, Nat.zero_le _⟩) (fun r_4 S_4 H locs he hW => ?_)
  obtain ⟨hr_4, hs⟩ := he
  rw [hs] at hW
  have zk := nm_at zk hr_4
  refine x_put B hW (by decide) cls5 hin_X5 6 (by decide) cM_o rfl (ty := .int) (by decide +kernel) rfl rfl (Nat.le_of_ble_eq_true rfl) (j := 6) pO_6 k_28 dX5_payBack_7 (fun H locs S_7 he_7 hW => ?_)
  have zk := nm_at zk he_7
  have hf_S_7_0_3_7 : vp_in (S_7 0 3) 7 := by rw [he_7, st_at, if_neg (by rintro ⟨h1, h2⟩; omega)]; exact hkp
  refine lv_aload_n hx hb dX5_payBack_10 rfl (lv_at hl 0 rfl) ?_
  refine x_get B hW (by decide) cM_o cls5 hin_X5 6 (by decide) (v := .int (S_7 0 6)) rfl k_28 dX5_payBack_11 ?_
  refine lv_if_eq (tgt := 19) hx hb dX5_payBack_14 (by decide) (fun c_14 => ?_) (fun c_14 => ?_)
  · have zk := zk.trans (if_pos c_14)
    have hml := mayPay_ok (S := S) (r := r_4) hr_4 (by rw [he_7, st_at, if_pos ⟨rfl, rfl⟩] at c_14; exact c_14)
    refine lv_aload_n hx hb dX5_payBack_19 rfl (lv_at hl 0 rfl) ?_
    refine x_callv hW (x_runV B hW (As := []) (rest := []) (by decide) cM_o cls5 (c_X5_saves (D := D) (ad := ad) l _ S_7 (isN_vin (isN_var hf_S_7_0_3_7 (by decide)) (by decide) (by decide))) (cwV 0 B.1.2.2.2.2 gX5_payBack_X5_saves rfl rfl rfl hd_X5_saves ⟨Nat.le_of_ble_eq_true rfl, Nat.le_of_ble_eq_true rfl⟩) rfl hls (Nat.le_of_ble_eq_true rfl) dX5_payBack_20 ⟨Nat.zero_le _, Nat.zero_le _⟩) (fun S_20 H locs he hW => ?_)
    have he_20 := he
    have zk := nm_at zk he_20
    have hf_S_20_0_6_0 : (S_20 0 6) = 0 := by rw [he_20, (fr_saves (by decide))]; exact c_14
    refine lv_aload_n hx hb dX5_payBack_23 rfl (lv_at hl 0 rfl) ?_
    refine lv_iload_n hx hb dX5_payBack_24 rfl (lv_at hl 1 rfl) ?_
    refine lv_iload_n hx hb dX5_payBack_25 rfl (lv_at hl 2 rfl) ?_
    refine x_calli hW (x_runV B hW (As := [.int p1, .int p2]) (rest := []) (by decide) cM_o cls5 (c_X5_pays (D := D) (ad := ad) l _ S_20 p1 p2 (isN_vin (isN_var hml (by decide)) (by decide) (by decide))) (cwV 2 B.1.2.2.2.2 gX5_payBack_X5_pays rfl rfl rfl hd_X5_pays ⟨Nat.le_of_ble_eq_true rfl, Nat.le_of_ble_eq_true rfl⟩) rfl hls (Nat.le_of_ble_eq_true rfl) dX5_payBack_26 ⟨Nat.zero_le _, Nat.zero_le _⟩) (fun r_26 S_26 H locs he hW => ?_)
    have hr_26 := he
    have zk := nmp_at zk hr_26
    have he_26 : S_26 = (x_X5_pays S_20 p1 p2).2 := by rw [← hr_26]
    exact x_iret B hW zk.symm dX5_payBack_29
  · have zk := zk.trans (if_neg c_14)
    refine lv_iconst (v := 0) hx hb dX5_payBack_17 (by decide) ?_
    exact x_iret B hW zk.symm dX5_payBack_18

def x_X5_mayHelp (S : vS) (p1 : Int32) (p2 : Int32) : Int32 := nm (x_X5_isMember S p1) (fun r_2 => if r_2 = 0 then 1 else nm (x_X5_in S p2 1 2000) (fun r_15 => if r_15 = 0 then 2 else if (S 1 2) = (-1) then 3 else if (S 1 2) = p1 then 3 else nm (x_X5_of S 1 p1 11) (fun r_50 => if r_50 = 0 then if (((S 1 8) * (S 1 7)) / 100) < p2 then 3 else 0 else 3)))
theorem hd_X5_mayHelp : yX5_mayHelp.cls = RX5 ∧ yX5_mayHelp.cls ≠ "java/lang/invoke/MethodHandle" ∧ yX5_mayHelp.cls ≠ "java/lang/invoke/VarHandle" ∧ (parseMethodDescriptor yX5_mayHelp.desc).map (fun d => d.parameters.length) = some 2 := by decide +kernel
set_option maxHeartbeats 4000000 in
set_option maxRecDepth 100000 in
theorem c_X5_mayHelp {D : va_G} {ad : Nat → Nat} (l : Launch) (sz : Nat) (S : vS) (p1 : Int32) (p2 : Int32) : Met l yX5_mayHelp wsX5_mayHelp (rmD 2) (pW D 7 (cM D ad) ad sz S [.ref (ad 0), .int p1, .int p2]) (va_Qi (fun (r : Int32) (S1 : vS) => r = (x_X5_mayHelp S p1 p2) ∧ S1 = S) (bW D 7 (cM D ad) ad (aW 7 ad sz)) (aW 7 ad sz)) 0 0 (aW 7 ad sz) := by
  refine x_met (own := RX5) (cc := cX5_mayHelp) (maxL := 4) (ret := (some .int)) (Qc := fun A => va_Qi (fun (r : Int32) (S1 : vS) => r = (x_X5_mayHelp S p1 p2) ∧ S1 = S) (bW D 7 (cM D ad) ad A) A) rfl ⟨by decide +kernel, rfl, Nat.le_of_ble_eq_true rfl⟩ ?_
  intro p e s mm args below meth c A ls B hW hl hls
  have hx := B.1.1
  have hb := B.1.2.1
  have hin_X5 : ∀ w ∈ wsX50, w ∈ wsX5_mayHelp := fun w h => List.mem_cons_of_mem _ (List.mem_append_right _ h)
  have k_7 := B.1.2.2.2.2 (.fieldLink RX5 7 "JointLoansModel" "now" "[I") (by decide +kernel)
  have zk := x_X5_mayHelp.eq_1 S p1 p2
  have hl : lv_has ls 4 [(0, .ref (ad 0)), (1, .int p1), (2, .int p2)] := hl
  refine lv_aload_n hx hb dX5_mayHelp_0 rfl (lv_at hl 0 rfl) ?_
  refine lv_iload_n hx hb dX5_mayHelp_1 rfl (lv_at hl 1 rfl) ?_
  refine x_calli hW (x_runV B hW (As := [.int p1]) (rest := []) (by decide) cM_o cls5 (c_X5_isMember (D := D) (ad := ad) l _ S p1) (cwV 1 B.1.2.2.2.2 gX5_mayHelp_X5_isMember rfl rfl rfl hd_X5_isMember ⟨Nat.le_of_ble_eq_true rfl, Nat.le_of_ble_eq_true rfl⟩) rfl hls (Nat.le_of_ble_eq_true rfl) dX5_mayHelp_2 ⟨Nat.zero_le _, Nat.zero_le _⟩) (fun r_2 S_2 H locs he hW => ?_)
  obtain ⟨hr_2, hs, hz_2⟩ := he
  rw [hs] at hW
  have zk := nm_at zk hr_2
  refine lv_if_ne (tgt := 10) hx hb dX5_mayHelp_5 (by decide) (fun c_5 => ?_) (fun c_5 => ?_)
  · have zk := zk.trans (if_neg c_5)
    refine lv_iload_n hx hb dX5_mayHelp_10 rfl (lv_at hl 2 rfl) ?_
    refine lv_iconst (v := 1) hx hb dX5_mayHelp_11 (by decide) ?_
    refine lv_sipush (v := 2000) hx hb dX5_mayHelp_12 (by decide) ?_
    refine x_calli hW (x_runS B hW (As := [.int p2, .int 1, .int 2000]) (rest := []) (c_X5_in (D := D) (ad := ad) l _ S p2 1 2000) (va_cwS 3 B.1.2.2.2.2 gX5_mayHelp_X5_in rfl rfl rfl hd_X5_in.2 ⟨Nat.le_of_ble_eq_true rfl, Nat.le_of_ble_eq_true rfl⟩) rfl hls (Nat.le_of_ble_eq_true rfl) dX5_mayHelp_15 ⟨Nat.zero_le _, Nat.zero_le _⟩) (fun r_15 S_15 H locs he hW => ?_)
    obtain ⟨hr_15, hs, hz_15⟩ := he
    rw [hs] at hW
    have zk := nm_at zk hr_15
    refine lv_if_ne (tgt := 23) hx hb dX5_mayHelp_18 (by decide) (fun c_18 => ?_) (fun c_18 => ?_)
    · have zk := zk.trans (if_neg c_18)
      refine lv_aload_n hx hb dX5_mayHelp_23 rfl (lv_at hl 0 rfl) ?_
      refine x_get B hW (by decide) cM_o cls5 hin_X5 0 (by decide) (v := .ref (ad 1)) rfl k_7 dX5_mayHelp_24 ?_
      refine lv_iconst (v := 2) hx hb dX5_mayHelp_27 (by decide) ?_
      refine x_iald B hW (by decide) cM_1 (isN_lit 2 (by decide)) (by decide) (by decide) dX5_mayHelp_28 ?_
      refine lv_iconst (v := (-1)) hx hb dX5_mayHelp_29 (by decide) ?_
      refine lv_icmp_eq (tgt := 82) hx hb dX5_mayHelp_30 (by decide) (fun c_30 => ?_) (fun c_30 => ?_)
      · have zk := zk.trans (if_pos c_30)
        refine lv_iconst (v := 0) hx hb dX5_mayHelp_82 (by decide) ?_
        refine lv_istore_n (lv' := [(3, .int 0), (0, .ref (ad 0)), (1, .int p1), (2, .int p2)]) hx hb dX5_mayHelp_83 rfl hl (by decide) rfl (fun ls hl => ?_)
        have hls := hl.1
        refine lv_iload_n hx hb dX5_mayHelp_84 rfl (lv_at hl 0 rfl) ?_
        refine lv_if_eq (tgt := 92) hx hb dX5_mayHelp_85 (by decide) (fun c_85 => ?_) (fun c_85 => ?_)
        rotate_left
        · exact absurd c_85 (by decide)
        refine lv_iconst (v := 3) hx hb dX5_mayHelp_92 (by decide) ?_
        exact x_iret B hW ⟨zk.symm, rfl⟩ dX5_mayHelp_93
      · have zk := zk.trans (if_neg c_30)
        refine lv_aload_n hx hb dX5_mayHelp_33 rfl (lv_at hl 0 rfl) ?_
        refine x_get B hW (by decide) cM_o cls5 hin_X5 0 (by decide) (v := .ref (ad 1)) rfl k_7 dX5_mayHelp_34 ?_
        refine lv_iconst (v := 2) hx hb dX5_mayHelp_37 (by decide) ?_
        refine x_iald B hW (by decide) cM_1 (isN_lit 2 (by decide)) (by decide) (by decide) dX5_mayHelp_38 ?_
        refine lv_iload_n hx hb dX5_mayHelp_39 rfl (lv_at hl 1 rfl) ?_
        refine lv_icmp_eq (tgt := 82) hx hb dX5_mayHelp_40 (by decide) (fun c_40 => ?_) (fun c_40 => ?_)
        · have zk := zk.trans (if_pos c_40)
          refine lv_iconst (v := 0) hx hb dX5_mayHelp_82 (by decide) ?_
          refine lv_istore_n (lv' := [(3, .int 0), (0, .ref (ad 0)), (1, .int p1), (2, .int p2)]) hx hb dX5_mayHelp_83 rfl hl (by decide) rfl (fun ls hl => ?_)
          have hls := hl.1
          refine lv_iload_n hx hb dX5_mayHelp_84 rfl (lv_at hl 0 rfl) ?_
          refine lv_if_eq (tgt := 92) hx hb dX5_mayHelp_85 (by decide) (fun c_85 => ?_) (fun c_85 => ?_)
          rotate_left
          · exact absurd c_85 (by decide)
          refine lv_iconst (v := 3) hx hb dX5_mayHelp_92 (by decide) ?_
          exact x_iret B hW ⟨zk.symm, rfl⟩ dX5_mayHelp_93
        · have zk := zk.trans (if_neg c_40)
          refine lv_aload_n hx hb dX5_mayHelp_43 rfl (lv_at hl 0 rfl) ?_
          refine x_get B hW (by decide) cM_o cls5 hin_X5 0 (by decide) (v := .ref (ad 1)) rfl k_7 dX5_mayHelp_44 ?_
          refine lv_iload_n hx hb dX5_mayHelp_47 rfl (lv_at hl 1 rfl) ?_
          refine lv_bipush (v := 11) hx hb dX5_mayHelp_48 (by decide) ?_
          refine x_calli hW (x_runS B hW (As := [.ref (ad 1), .int p1, .int 11]) (rest := []) (c_X5_of (D := D) (ad := ad) l _ S 1 p1 11 (Or.inl rfl) (isN_vin (isN_var (ismem_vin hr_2 c_5) (by decide)) (by decide) (by decide)) (isN_vin (isN_lit 11 (by decide)) (by decide) (by decide))) (va_cwS 3 B.1.2.2.2.2 gX5_mayHelp_X5_of rfl rfl rfl hd_X5_of.2 ⟨Nat.le_of_ble_eq_true rfl, Nat.le_of_ble_eq_true rfl⟩) rfl hls (Nat.le_of_ble_eq_true rfl) dX5_mayHelp_50 ⟨Nat.zero_le _, Nat.zero_le _⟩) (fun r_50 S_50 H locs he hW => ?_)
          obtain ⟨hr_50, hs⟩ := he
          rw [hs] at hW
          have zk := nm_at zk hr_50
          refine lv_if_ne (tgt := 82) hx hb dX5_mayHelp_53 (by decide) (fun c_53 => ?_) (fun c_53 => ?_)
          · have zk := zk.trans (if_neg c_53)
            refine lv_iconst (v := 0) hx hb dX5_mayHelp_82 (by decide) ?_
            refine lv_istore_n (lv' := [(3, .int 0), (0, .ref (ad 0)), (1, .int p1), (2, .int p2)]) hx hb dX5_mayHelp_83 rfl hl (by decide) rfl (fun ls hl => ?_)
            have hls := hl.1
            refine lv_iload_n hx hb dX5_mayHelp_84 rfl (lv_at hl 0 rfl) ?_
            refine lv_if_eq (tgt := 92) hx hb dX5_mayHelp_85 (by decide) (fun c_85 => ?_) (fun c_85 => ?_)
            rotate_left
            · exact absurd c_85 (by decide)
            refine lv_iconst (v := 3) hx hb dX5_mayHelp_92 (by decide) ?_
            exact x_iret B hW ⟨zk.symm, rfl⟩ dX5_mayHelp_93
          · have zk := zk.trans (if_pos c_53)
            refine lv_iload_n hx hb dX5_mayHelp_56 rfl (lv_at hl 2 rfl) ?_
            refine lv_aload_n hx hb dX5_mayHelp_57 rfl (lv_at hl 0 rfl) ?_
            refine x_get B hW (by decide) cM_o cls5 hin_X5 0 (by decide) (v := .ref (ad 1)) rfl k_7 dX5_mayHelp_58 ?_
            refine lv_bipush (v := 8) hx hb dX5_mayHelp_61 (by decide) ?_
            refine x_iald B hW (by decide) cM_1 (isN_lit 8 (by decide)) (by decide) (by decide) dX5_mayHelp_63 ?_
            refine lv_aload_n hx hb dX5_mayHelp_64 rfl (lv_at hl 0 rfl) ?_
            refine x_get B hW (by decide) cM_o cls5 hin_X5 0 (by decide) (v := .ref (ad 1)) rfl k_7 dX5_mayHelp_65 ?_
            refine lv_bipush (v := 7) hx hb dX5_mayHelp_68 (by decide) ?_
            refine x_iald B hW (by decide) cM_1 (isN_lit 7 (by decide)) (by decide) (by decide) dX5_mayHelp_70 ?_
            refine lv_imul hx hb dX5_mayHelp_71 ?_
            refine lv_bipush (v := 100) hx hb dX5_mayHelp_72 (by decide) ?_
            refine lv_idiv hx hb dX5_mayHelp_74 (by decide) ?_
            refine lv_icmp_gt (tgt := 82) hx hb dX5_mayHelp_75 (by decide) (fun c_75 => ?_) (fun c_75 => ?_)
            · have zk := zk.trans (if_pos c_75)
              refine lv_iconst (v := 0) hx hb dX5_mayHelp_82 (by decide) ?_
              refine lv_istore_n (lv' := [(3, .int 0), (0, .ref (ad 0)), (1, .int p1), (2, .int p2)]) hx hb dX5_mayHelp_83 rfl hl (by decide) rfl (fun ls hl => ?_)
              have hls := hl.1
              refine lv_iload_n hx hb dX5_mayHelp_84 rfl (lv_at hl 0 rfl) ?_
              refine lv_if_eq (tgt := 92) hx hb dX5_mayHelp_85 (by decide) (fun c_85 => ?_) (fun c_85 => ?_)
              rotate_left
              · exact absurd c_85 (by decide)
              refine lv_iconst (v := 3) hx hb dX5_mayHelp_92 (by decide) ?_
              exact x_iret B hW ⟨zk.symm, rfl⟩ dX5_mayHelp_93
            · have zk := zk.trans (if_neg c_75)
              refine lv_iconst (v := 1) hx hb dX5_mayHelp_78 (by decide) ?_
              refine lv_goto (tgt := 83) hx hb dX5_mayHelp_79 (by decide) ?_
              refine lv_istore_n (lv' := [(3, .int 1), (0, .ref (ad 0)), (1, .int p1), (2, .int p2)]) hx hb dX5_mayHelp_83 rfl hl (by decide) rfl (fun ls hl => ?_)
              have hls := hl.1
              refine lv_iload_n hx hb dX5_mayHelp_84 rfl (lv_at hl 0 rfl) ?_
              refine lv_if_eq (tgt := 92) hx hb dX5_mayHelp_85 (by decide) (fun c_85 => ?_) (fun c_85 => ?_)
              · exact absurd c_85 (by decide)
              refine lv_iconst (v := 0) hx hb dX5_mayHelp_88 (by decide) ?_
              refine lv_goto (tgt := 93) hx hb dX5_mayHelp_89 (by decide) ?_
              exact x_iret B hW ⟨zk.symm, rfl⟩ dX5_mayHelp_93
    · have zk := zk.trans (if_pos c_18)
      refine lv_iconst (v := 2) hx hb dX5_mayHelp_21 (by decide) ?_
      exact x_iret B hW ⟨zk.symm, rfl⟩ dX5_mayHelp_22
  · have zk := zk.trans (if_pos c_5)
    refine lv_iconst (v := 1) hx hb dX5_mayHelp_8 (by decide) ?_
    exact x_iret B hW ⟨zk.symm, rfl⟩ dX5_mayHelp_9
theorem mayHelp_ok {S : vS} {a b r : Int32} (hr : r = x_X5_mayHelp S a b) (h : r = 0) : vp_in a 8 := by
  rw [hr] at h
  unfold x_X5_mayHelp at h
  try simp only [nm_eq, nmp_eq] at h
  by_cases c1 : x_X5_isMember S a = 0
  · rw [if_pos c1] at h; exact absurd h (by decide)
  · exact ismem_vin rfl c1

def x_X5_helps (S : vS) (p1 : Int32) (p2 : Int32) : (Int32 × vS) := nm (st S 1 8 ((S 1 8) - p2)) (fun S_10 => nm (x_X5_adds S_10 1 p1 11 p2) (fun S_19 => ((S_19 1 8), S_19)))
theorem hd_X5_helps : yX5_helps.cls = RX5 ∧ yX5_helps.cls ≠ "java/lang/invoke/MethodHandle" ∧ yX5_helps.cls ≠ "java/lang/invoke/VarHandle" ∧ (parseMethodDescriptor yX5_helps.desc).map (fun d => d.parameters.length) = some 2 := by decide +kernel
set_option maxHeartbeats 4000000 in
set_option maxRecDepth 100000 in
theorem c_X5_helps {D : va_G} {ad : Nat → Nat} (l : Launch) (sz : Nat) (S : vS) (p1 : Int32) (p2 : Int32) (h1 : vp_in p1 8) : Met l yX5_helps wsX5_helps (rmD 1) (pW D 7 (cM D ad) ad sz S [.ref (ad 0), .int p1, .int p2]) (va_Qi (fun (r : Int32) (S1 : vS) => (r, S1) = (x_X5_helps S p1 p2)) (bW D 7 (cM D ad) ad (aW 7 ad sz)) (aW 7 ad sz)) 0 0 (aW 7 ad sz) := by
  refine x_met (own := RX5) (cc := cX5_helps) (maxL := 3) (ret := (some .int)) (Qc := fun A => va_Qi (fun (r : Int32) (S1 : vS) => (r, S1) = (x_X5_helps S p1 p2)) (bW D 7 (cM D ad) ad A) A) rfl ⟨by decide +kernel, rfl, Nat.le_of_ble_eq_true rfl⟩ ?_
  intro p e s mm args below meth c A ls B hW hl hls
  have hx := B.1.1
  have hb := B.1.2.1
  have hin_X5 : ∀ w ∈ wsX50, w ∈ wsX5_helps := fun w h => List.mem_cons_of_mem _ (List.mem_append_right _ h)
  have k_7 := B.1.2.2.2.2 (.fieldLink RX5 7 "JointLoansModel" "now" "[I") (by decide +kernel)
  have zk := x_X5_helps.eq_1 S p1 p2
  have hl : lv_has ls 3 [(0, .ref (ad 0)), (1, .int p1), (2, .int p2)] := hl
  refine lv_aload_n hx hb dX5_helps_0 rfl (lv_at hl 0 rfl) ?_
  refine x_get B hW (by decide) cM_o cls5 hin_X5 0 (by decide) (v := .ref (ad 1)) rfl k_7 dX5_helps_1 ?_
  refine lv_bipush (v := 8) hx hb dX5_helps_4 (by decide) ?_
  refine lv_dup2_11 hx hb dX5_helps_6 rfl rfl ?_
  refine x_iald B hW (by decide) cM_1 (isN_lit 8 (by decide)) (by decide) (by decide) dX5_helps_7 ?_
  refine lv_iload_n hx hb dX5_helps_8 rfl (lv_at hl 2 rfl) ?_
  refine lv_isub hx hb dX5_helps_9 ?_
  refine x_iast B hW (by decide) (fun _ => cM_1) (isN_lit 8 (by decide)) (by decide) (by decide) dX5_helps_10 (fun H locs S_10 he_10 hW => ?_)
  have zk := nm_at zk he_10
  refine lv_aload_n hx hb dX5_helps_11 rfl (lv_at hl 0 rfl) ?_
  refine x_get B hW (by decide) cM_o cls5 hin_X5 0 (by decide) (v := .ref (ad 1)) rfl k_7 dX5_helps_12 ?_
  refine lv_iload_n hx hb dX5_helps_15 rfl (lv_at hl 1 rfl) ?_
  refine lv_bipush (v := 11) hx hb dX5_helps_16 (by decide) ?_
  refine lv_iload_n hx hb dX5_helps_18 rfl (lv_at hl 2 rfl) ?_
  refine x_callv hW (x_runS B hW (As := [.ref (ad 1), .int p1, .int 11, .int p2]) (rest := []) (c_X5_adds (D := D) (ad := ad) l _ S_10 1 p1 11 p2 (Or.inl rfl) h1 (isN_vin (isN_lit 11 (by decide)) (by decide) (by decide))) (va_cwS 4 B.1.2.2.2.2 gX5_helps_X5_adds rfl rfl rfl hd_X5_adds.2 ⟨Nat.le_of_ble_eq_true rfl, Nat.le_of_ble_eq_true rfl⟩) rfl hls (Nat.le_of_ble_eq_true rfl) dX5_helps_19 ⟨Nat.zero_le _, Nat.zero_le _⟩) (fun S_19 H locs he hW => ?_)
  have he_19 := he
  have zk := nm_at zk he_19
  refine lv_aload_n hx hb dX5_helps_22 rfl (lv_at hl 0 rfl) ?_
  refine x_get B hW (by decide) cM_o cls5 hin_X5 0 (by decide) (v := .ref (ad 1)) rfl k_7 dX5_helps_23 ?_
  refine lv_bipush (v := 8) hx hb dX5_helps_26 (by decide) ?_
  refine x_iald B hW (by decide) cM_1 (isN_lit 8 (by decide)) (by decide) (by decide) dX5_helps_28 ?_
  exact x_iret B hW zk.symm dX5_helps_29
theorem EX.helps {S S1 : vS} {a b : Int32} (h : EX S S1) : EX S (x_X5_helps S1 a b).2 := by
  unfold x_X5_helps
  try simp only [nm_eq, nmp_eq]
  exact (h.w (by decide)).adds

def x_X5_help (S : vS) (p1 : Int32) (p2 : Int32) : (Int32 × vS) := nm (x_X5_mayHelp S p1 p2) (fun r_4 => nm (st S 0 6 r_4) (fun S_7 => if (S_7 0 6) = 0 then nm (x_X5_saves S_7) (fun S_20 => nmp (x_X5_helps S_20 p1 p2) (fun r_26 S_26 => (r_26, S_26))) else (0, S_7)))
theorem hd_X5_help : yX5_help.cls = RX5 ∧ yX5_help.cls ≠ "java/lang/invoke/MethodHandle" ∧ yX5_help.cls ≠ "java/lang/invoke/VarHandle" ∧ (parseMethodDescriptor yX5_help.desc).map (fun d => d.parameters.length) = some 2 := by decide +kernel
set_option maxHeartbeats 4000000 in
set_option maxRecDepth 100000 in
theorem c_X5_help {D : va_G} {ad : Nat → Nat} (l : Launch) (sz : Nat) (S : vS) (p1 : Int32) (p2 : Int32) (hkp : vp_in (S 0 3) 7) : Met l yX5_help wsX5_help (rmD 3) (pW D 7 (cM D ad) ad sz S [.ref (ad 0), .int p1, .int p2]) (va_Qi (fun (r : Int32) (S1 : vS) => (r, S1) = (x_X5_help S p1 p2)) (bW D 7 (cM D ad) ad (aW 7 ad sz)) (aW 7 ad sz)) 0 0 (aW 7 ad sz) := by
  refine x_met (own := RX5) (cc := cX5_help) (maxL := 3) (ret := (some .int)) (Qc := fun A => va_Qi (fun (r : Int32) (S1 : vS) => (r, S1) = (x_X5_help S p1 p2)) (bW D 7 (cM D ad) ad A) A) rfl ⟨by decide +kernel, rfl, Nat.le_of_ble_eq_true rfl⟩ ?_
  intro p e s mm args below meth c A ls B hW hl hls
  have hx := B.1.1
  have hb := B.1.2.1
  have hin_X5 : ∀ w ∈ wsX50, w ∈ wsX5_help := fun w h => List.mem_cons_of_mem _ (List.mem_append_right _ h)
  have k_28 := B.1.2.2.2.2 (.fieldLink RX5 28 "JointLoansModel" "thrown" "I") (by decide +kernel)
  have zk := x_X5_help.eq_1 S p1 p2
  have hl : lv_has ls 3 [(0, .ref (ad 0)), (1, .int p1), (2, .int p2)] := hl
  refine lv_aload_n hx hb dX5_help_0 rfl (lv_at hl 0 rfl) ?_
  refine lv_aload_n hx hb dX5_help_1 rfl (lv_at hl 0 rfl) ?_
  refine lv_iload_n hx hb dX5_help_2 rfl (lv_at hl 1 rfl) ?_
  refine lv_iload_n hx hb dX5_help_3 rfl (lv_at hl 2 rfl) ?_
  refine x_calli hW (x_runV B hW (As := [.int p1, .int p2]) (rest := .ref (ad 0) :: []) (by decide) cM_o cls5 (c_X5_mayHelp (D := D) (ad := ad) l _ S p1 p2) (cwV 2 B.1.2.2.2.2 gX5_help_X5_mayHelp rfl rfl rfl hd_X5_mayHelp ⟨Nat.le_of_ble_eq_true rfl, Nat.le_of_ble_eq_true rfl⟩) rfl hls (Nat.le_of_ble_eq_true rfl) dX5_help_4 ⟨Nat.zero_le _, Nat.zero_le _⟩) (fun r_4 S_4 H locs he hW => ?_)
  obtain ⟨hr_4, hs⟩ := he
  rw [hs] at hW
  have zk := nm_at zk hr_4
  refine x_put B hW (by decide) cls5 hin_X5 6 (by decide) cM_o rfl (ty := .int) (by decide +kernel) rfl rfl (Nat.le_of_ble_eq_true rfl) (j := 6) pO_6 k_28 dX5_help_7 (fun H locs S_7 he_7 hW => ?_)
  have zk := nm_at zk he_7
  have hf_S_7_0_3_7 : vp_in (S_7 0 3) 7 := by rw [he_7, st_at, if_neg (by rintro ⟨h1, h2⟩; omega)]; exact hkp
  refine lv_aload_n hx hb dX5_help_10 rfl (lv_at hl 0 rfl) ?_
  refine x_get B hW (by decide) cM_o cls5 hin_X5 6 (by decide) (v := .int (S_7 0 6)) rfl k_28 dX5_help_11 ?_
  refine lv_if_eq (tgt := 19) hx hb dX5_help_14 (by decide) (fun c_14 => ?_) (fun c_14 => ?_)
  · have zk := zk.trans (if_pos c_14)
    have hml := mayHelp_ok (S := S) (r := r_4) hr_4 (by rw [he_7, st_at, if_pos ⟨rfl, rfl⟩] at c_14; exact c_14)
    refine lv_aload_n hx hb dX5_help_19 rfl (lv_at hl 0 rfl) ?_
    refine x_callv hW (x_runV B hW (As := []) (rest := []) (by decide) cM_o cls5 (c_X5_saves (D := D) (ad := ad) l _ S_7 (isN_vin (isN_var hf_S_7_0_3_7 (by decide)) (by decide) (by decide))) (cwV 0 B.1.2.2.2.2 gX5_help_X5_saves rfl rfl rfl hd_X5_saves ⟨Nat.le_of_ble_eq_true rfl, Nat.le_of_ble_eq_true rfl⟩) rfl hls (Nat.le_of_ble_eq_true rfl) dX5_help_20 ⟨Nat.zero_le _, Nat.zero_le _⟩) (fun S_20 H locs he hW => ?_)
    have he_20 := he
    have zk := nm_at zk he_20
    have hf_S_20_0_6_0 : (S_20 0 6) = 0 := by rw [he_20, (fr_saves (by decide))]; exact c_14
    refine lv_aload_n hx hb dX5_help_23 rfl (lv_at hl 0 rfl) ?_
    refine lv_iload_n hx hb dX5_help_24 rfl (lv_at hl 1 rfl) ?_
    refine lv_iload_n hx hb dX5_help_25 rfl (lv_at hl 2 rfl) ?_
    refine x_calli hW (x_runV B hW (As := [.int p1, .int p2]) (rest := []) (by decide) cM_o cls5 (c_X5_helps (D := D) (ad := ad) l _ S_20 p1 p2 (isN_vin (isN_var hml (by decide)) (by decide) (by decide))) (cwV 2 B.1.2.2.2.2 gX5_help_X5_helps rfl rfl rfl hd_X5_helps ⟨Nat.le_of_ble_eq_true rfl, Nat.le_of_ble_eq_true rfl⟩) rfl hls (Nat.le_of_ble_eq_true rfl) dX5_help_26 ⟨Nat.zero_le _, Nat.zero_le _⟩) (fun r_26 S_26 H locs he hW => ?_)
    have hr_26 := he
    have zk := nmp_at zk hr_26
    have he_26 : S_26 = (x_X5_helps S_20 p1 p2).2 := by rw [← hr_26]
    exact x_iret B hW zk.symm dX5_help_29
  · have zk := zk.trans (if_neg c_14)
    refine lv_iconst (v := 0) hx hb dX5_help_17 (by decide) ?_
    exact x_iret B hW zk.symm dX5_help_18

def x_X5_sumOf_L4 : Nat → vS → Int32 → Nat → Int32 → Int32
  | 0, S, _, _, _ => 0
  | n + 1, S, p1, n3, v2 => if 8 ≤ (nI n3) then v2 else nm (x_X5_of S 1 (nI n3) p1) (fun r_17 => nm ((v2 + r_17)) (fun x_21 => x_X5_sumOf_L4 n S p1 ((n3 + 1)) (x_21)))
def x_X5_sumOf (S : vS) (p1 : Int32) : Int32 := x_X5_sumOf_L4 (9) S p1 (0) (0)
theorem hd_X5_sumOf : yX5_sumOf.cls = RX5 ∧ yX5_sumOf.cls ≠ "java/lang/invoke/MethodHandle" ∧ yX5_sumOf.cls ≠ "java/lang/invoke/VarHandle" ∧ (parseMethodDescriptor yX5_sumOf.desc).map (fun d => d.parameters.length) = some 1 := by decide +kernel
set_option maxHeartbeats 4000000 in
set_option maxRecDepth 100000 in
theorem w_X5_sumOf_L4 {D : va_G} {ad : Nat → Nat} (l : Launch) {p : Program} {e : Env} {s : State} {mm : MethodId} {args : Array Value} {below : List Frame} {meth : Method} {c : Code} {A : Nat → Prop} (B : Cx p mm c cX5_sumOf 4 s args wsX5_sumOf RX5 meth (some .int) D) (S : vS) (z : Int32) (p1 : Int32) (h1 : vp_in p1 14) : ∀ (n : Nat) (n3 : Nat) (v2 : Int32) (H : Heap) (locs : List Loc) (ls : Array Slot), n3 ≤ 8 → n3 + n = 9 → Wd D 7 (cM D ad) ad A s.heap S H locs → lv_has ls 4 [(3, .int (nI n3)), (2, .int v2), (0, .ref (ad 0)), (1, .int p1)] → ls.size = 4 → z = x_X5_sumOf_L4 n S p1 n3 v2 → W p l e (rmD 1) s mm args below meth c H locs 0 0 (MQ below (va_Qi (fun (r : Int32) (S1 : vS) => r = z ∧ S1 = S) (bW D 7 (cM D ad) ad A) A) args s 0 0 A) (F0 mm 4 ls []) := by
  have hx := B.1.1
  have hb := B.1.2.1
  have hin_X5 : ∀ w ∈ wsX50, w ∈ wsX5_sumOf := fun w h => List.mem_cons_of_mem _ (List.mem_append_right _ h)
  have k_7 := B.1.2.2.2.2 (.fieldLink RX5 7 "JointLoansModel" "now" "[I") (by decide +kernel)
  intro n
  induction n with
  | zero =>
    intro n3 v2 H locs ls hle hsum
    omega
  | succ n ih =>
    intro n3 v2 H locs ls hle hsum hW hl hls zk
    have zk := zk.trans (x_X5_sumOf_L4.eq_2 _ _ _ _ _ )
    refine lv_iload_n hx hb dX5_sumOf_4 rfl (lv_at hl 0 rfl) ?_
    refine lv_bipush (v := 8) hx hb dX5_sumOf_5 (by decide) ?_
    refine lv_icmp_ge (tgt := 28) hx hb dX5_sumOf_7 (by decide) (fun c_7 => ?_) (fun c_7 => ?_)
    · have zk := zk.trans (if_pos c_7)
      refine lv_iload_n hx hb dX5_sumOf_28 rfl (lv_at hl 1 rfl) ?_
      exact x_iret B hW ⟨zk.symm, rfl⟩ dX5_sumOf_29
    · have zk := zk.trans (if_neg c_7)
      have hb_c_7 : n3 < 8 := nI_of_nle (by decide) c_7 (by omega)
      refine lv_iload_n hx hb dX5_sumOf_10 rfl (lv_at hl 1 rfl) ?_
      refine lv_aload_n hx hb dX5_sumOf_11 rfl (lv_at hl 2 rfl) ?_
      refine x_get B hW (by decide) cM_o cls5 hin_X5 0 (by decide) (v := .ref (ad 1)) rfl k_7 dX5_sumOf_12 ?_
      refine lv_iload_n hx hb dX5_sumOf_15 rfl (lv_at hl 0 rfl) ?_
      refine lv_iload_n hx hb dX5_sumOf_16 rfl (lv_at hl 3 rfl) ?_
      refine x_calli hW (x_runS B hW (As := [.ref (ad 1), .int (nI n3), .int p1]) (rest := .int v2 :: []) (c_X5_of (D := D) (ad := ad) l _ S 1 (nI n3) p1 (Or.inl rfl) (isN_vin (isN_nI hb_c_7 (by decide)) (by decide) (by decide)) h1) (va_cwS 3 B.1.2.2.2.2 gX5_sumOf_X5_of rfl rfl rfl hd_X5_of.2 ⟨Nat.le_of_ble_eq_true rfl, Nat.le_of_ble_eq_true rfl⟩) rfl hls (Nat.le_of_ble_eq_true rfl) dX5_sumOf_17 ⟨Nat.zero_le _, Nat.zero_le _⟩) (fun r_17 S_17 H locs he hW => ?_)
      obtain ⟨hr_17, hs⟩ := he
      rw [hs] at hW
      have zk := nm_at zk hr_17
      refine lv_iadd hx hb dX5_sumOf_20 ?_
      refine lv_topi (fun x_21 ex_21 => ?_)
      have zk := nm_at zk ex_21
      refine lv_istore_n (lv' := [(2, .int x_21), (3, .int (nI n3)), (0, .ref (ad 0)), (1, .int p1)]) hx hb dX5_sumOf_21 rfl hl (by decide) rfl (fun ls hl => ?_)
      have hls := hl.1
      refine lv_iinc (v := (nI (n3 + 1))) (lv' := [(3, .int (nI (n3 + 1))), (2, .int x_21), (0, .ref (ad 0)), (1, .int p1)]) hx hb dX5_sumOf_22 hl (k := 1) rfl (nI_1 _) (by decide) rfl (fun ls hl => ?_)
      have hls := hl.1
      refine lv_goto (tgt := 4) hx hb dX5_sumOf_25 (by decide) ?_
      exact ih ((n3 + 1)) (x_21)  _ _ _ (show (n3 + 1) ≤ 8 by omega) (show (n3 + 1) + n = 9 by omega) hW (lv_sub hl [0, 1, 2, 3] rfl) hls zk
set_option maxHeartbeats 4000000 in
set_option maxRecDepth 100000 in
theorem c_X5_sumOf {D : va_G} {ad : Nat → Nat} (l : Launch) (sz : Nat) (S : vS) (p1 : Int32) (h1 : vp_in p1 14) : Met l yX5_sumOf wsX5_sumOf (rmD 1) (pW D 7 (cM D ad) ad sz S [.ref (ad 0), .int p1]) (va_Qi (fun (r : Int32) (S1 : vS) => r = (x_X5_sumOf S p1) ∧ S1 = S) (bW D 7 (cM D ad) ad (aW 7 ad sz)) (aW 7 ad sz)) 0 0 (aW 7 ad sz) := by
  refine x_met (own := RX5) (cc := cX5_sumOf) (maxL := 4) (ret := (some .int)) (Qc := fun A => va_Qi (fun (r : Int32) (S1 : vS) => r = (x_X5_sumOf S p1) ∧ S1 = S) (bW D 7 (cM D ad) ad A) A) rfl ⟨by decide +kernel, rfl, Nat.le_of_ble_eq_true rfl⟩ ?_
  intro p e s mm args below meth c A ls B hW hl hls
  have hx := B.1.1
  have hb := B.1.2.1
  have hin_X5 : ∀ w ∈ wsX50, w ∈ wsX5_sumOf := fun w h => List.mem_cons_of_mem _ (List.mem_append_right _ h)
  have k_7 := B.1.2.2.2.2 (.fieldLink RX5 7 "JointLoansModel" "now" "[I") (by decide +kernel)
  have zk := x_X5_sumOf.eq_1 S p1
  have hl : lv_has ls 4 [(0, .ref (ad 0)), (1, .int p1)] := hl
  refine lv_iconst (v := 0) hx hb dX5_sumOf_0 (by decide) ?_
  refine lv_istore_n (lv' := [(2, .int 0), (0, .ref (ad 0)), (1, .int p1)]) hx hb dX5_sumOf_1 rfl hl (by decide) rfl (fun ls hl => ?_)
  have hls := hl.1
  refine lv_iconst (v := 0) hx hb dX5_sumOf_2 (by decide) ?_
  refine lv_istore_n (lv' := [(3, .int 0), (2, .int 0), (0, .ref (ad 0)), (1, .int p1)]) hx hb dX5_sumOf_3 rfl hl (by decide) rfl (fun ls hl => ?_)
  have hls := hl.1
  exact w_X5_sumOf_L4 l B S _ p1 h1 (9) (0) (0)  _ _ _ (show 0 ≤ 8 by omega) (show 0 + (9) = 9 by omega) hW (lv_sub hl [0, 1, 2, 3] rfl) hls zk

def x_X5_mayCycle (S : vS) : Int32 := nm (x_X5_sumOf S 4) (fun r_2 => if r_2 = 0 then nm (x_X5_sumOf S 10) (fun r_11 => if r_11 = 0 then 1 else 0) else 0)
theorem hd_X5_mayCycle : yX5_mayCycle.cls = RX5 ∧ yX5_mayCycle.cls ≠ "java/lang/invoke/MethodHandle" ∧ yX5_mayCycle.cls ≠ "java/lang/invoke/VarHandle" ∧ (parseMethodDescriptor yX5_mayCycle.desc).map (fun d => d.parameters.length) = some 0 := by decide +kernel
set_option maxHeartbeats 4000000 in
set_option maxRecDepth 100000 in
theorem c_X5_mayCycle {D : va_G} {ad : Nat → Nat} (l : Launch) (sz : Nat) (S : vS) : Met l yX5_mayCycle wsX5_mayCycle (rmD 2) (pW D 7 (cM D ad) ad sz S [.ref (ad 0)]) (va_Qi (fun (r : Int32) (S1 : vS) => r = (x_X5_mayCycle S) ∧ S1 = S ∧ (r = 0 ∨ r = 1)) (bW D 7 (cM D ad) ad (aW 7 ad sz)) (aW 7 ad sz)) 0 0 (aW 7 ad sz) := by
  refine x_met (own := RX5) (cc := cX5_mayCycle) (maxL := 1) (ret := (some .boolean)) (Qc := fun A => va_Qi (fun (r : Int32) (S1 : vS) => r = (x_X5_mayCycle S) ∧ S1 = S ∧ (r = 0 ∨ r = 1)) (bW D 7 (cM D ad) ad A) A) rfl ⟨by decide +kernel, rfl, Nat.le_of_ble_eq_true rfl⟩ ?_
  intro p e s mm args below meth c A ls B hW hl hls
  have hx := B.1.1
  have hb := B.1.2.1
  have zk := x_X5_mayCycle.eq_1 S
  have hl : lv_has ls 1 [(0, .ref (ad 0))] := hl
  refine lv_aload_n hx hb dX5_mayCycle_0 rfl (lv_at hl 0 rfl) ?_
  refine lv_iconst (v := 4) hx hb dX5_mayCycle_1 (by decide) ?_
  refine x_calli hW (x_runV B hW (As := [.int 4]) (rest := []) (by decide) cM_o cls5 (c_X5_sumOf (D := D) (ad := ad) l _ S 4 (isN_vin (isN_lit 4 (by decide)) (by decide) (by decide))) (cwV 1 B.1.2.2.2.2 gX5_mayCycle_X5_sumOf rfl rfl rfl hd_X5_sumOf ⟨Nat.le_of_ble_eq_true rfl, Nat.le_of_ble_eq_true rfl⟩) rfl hls (Nat.le_of_ble_eq_true rfl) dX5_mayCycle_2 ⟨Nat.zero_le _, Nat.zero_le _⟩) (fun r_2 S_2 H locs he hW => ?_)
  obtain ⟨hr_2, hs⟩ := he
  rw [hs] at hW
  have zk := nm_at zk hr_2
  refine lv_if_ne (tgt := 21) hx hb dX5_mayCycle_5 (by decide) (fun c_5 => ?_) (fun c_5 => ?_)
  · have zk := zk.trans (if_neg c_5)
    refine lv_iconst (v := 0) hx hb dX5_mayCycle_21 (by decide) ?_
    exact x_zret B hW (Or.inl rfl) ⟨zk.symm, rfl, (Or.inl rfl)⟩ dX5_mayCycle_22
  · have zk := zk.trans (if_pos c_5)
    refine lv_aload_n hx hb dX5_mayCycle_8 rfl (lv_at hl 0 rfl) ?_
    refine lv_bipush (v := 10) hx hb dX5_mayCycle_9 (by decide) ?_
    refine x_calli hW (x_runV B hW (As := [.int 10]) (rest := []) (by decide) cM_o cls5 (c_X5_sumOf (D := D) (ad := ad) l _ S 10 (isN_vin (isN_lit 10 (by decide)) (by decide) (by decide))) (cwV 1 B.1.2.2.2.2 gX5_mayCycle_X5_sumOf rfl rfl rfl hd_X5_sumOf ⟨Nat.le_of_ble_eq_true rfl, Nat.le_of_ble_eq_true rfl⟩) rfl hls (Nat.le_of_ble_eq_true rfl) dX5_mayCycle_11 ⟨Nat.zero_le _, Nat.zero_le _⟩) (fun r_11 S_11 H locs he hW => ?_)
    obtain ⟨hr_11, hs⟩ := he
    rw [hs] at hW
    have zk := nm_at zk hr_11
    refine lv_if_ne (tgt := 21) hx hb dX5_mayCycle_14 (by decide) (fun c_14 => ?_) (fun c_14 => ?_)
    · have zk := zk.trans (if_neg c_14)
      refine lv_iconst (v := 0) hx hb dX5_mayCycle_21 (by decide) ?_
      exact x_zret B hW (Or.inl rfl) ⟨zk.symm, rfl, (Or.inl rfl)⟩ dX5_mayCycle_22
    · have zk := zk.trans (if_pos c_14)
      refine lv_iconst (v := 1) hx hb dX5_mayCycle_17 (by decide) ?_
      refine lv_goto (tgt := 22) hx hb dX5_mayCycle_18 (by decide) ?_
      exact x_zret B hW (Or.inr rfl) ⟨zk.symm, rfl, (Or.inr rfl)⟩ dX5_mayCycle_22

def x_X5_limitThen (S : vS) (p1 : Int32) : Int32 := nm (x_X5_of S 1 p1 1) (fun r_6 => nm (x_X5_of S 1 p1 8) (fun r_17 => if r_17 = 0 then nm (x_X5_least S 2000 (r_6 + (r_6 / 2))) (fun r_31 => r_31) else nm (x_X5_of S 1 p1 8) (fun r_42 => if 3 ≤ r_42 then if 20 ≤ (r_6 / 2) then (r_6 / 2) else 20 else r_6)))
theorem hd_X5_limitThen : yX5_limitThen.cls = RX5 ∧ yX5_limitThen.cls ≠ "java/lang/invoke/MethodHandle" ∧ yX5_limitThen.cls ≠ "java/lang/invoke/VarHandle" ∧ (parseMethodDescriptor yX5_limitThen.desc).map (fun d => d.parameters.length) = some 1 := by decide +kernel
set_option maxHeartbeats 4000000 in
set_option maxRecDepth 100000 in
theorem c_X5_limitThen {D : va_G} {ad : Nat → Nat} (l : Launch) (sz : Nat) (S : vS) (p1 : Int32) (h1 : vp_in p1 8) : Met l yX5_limitThen wsX5_limitThen (rmD 1) (pW D 7 (cM D ad) ad sz S [.ref (ad 0), .int p1]) (va_Qi (fun (r : Int32) (S1 : vS) => r = (x_X5_limitThen S p1) ∧ S1 = S) (bW D 7 (cM D ad) ad (aW 7 ad sz)) (aW 7 ad sz)) 0 0 (aW 7 ad sz) := by
  refine x_met (own := RX5) (cc := cX5_limitThen) (maxL := 3) (ret := (some .int)) (Qc := fun A => va_Qi (fun (r : Int32) (S1 : vS) => r = (x_X5_limitThen S p1) ∧ S1 = S) (bW D 7 (cM D ad) ad A) A) rfl ⟨by decide +kernel, rfl, Nat.le_of_ble_eq_true rfl⟩ ?_
  intro p e s mm args below meth c A ls B hW hl hls
  have hx := B.1.1
  have hb := B.1.2.1
  have hin_X5 : ∀ w ∈ wsX50, w ∈ wsX5_limitThen := fun w h => List.mem_cons_of_mem _ (List.mem_append_right _ h)
  have k_7 := B.1.2.2.2.2 (.fieldLink RX5 7 "JointLoansModel" "now" "[I") (by decide +kernel)
  have zk := x_X5_limitThen.eq_1 S p1
  have hl : lv_has ls 3 [(0, .ref (ad 0)), (1, .int p1)] := hl
  refine lv_aload_n hx hb dX5_limitThen_0 rfl (lv_at hl 0 rfl) ?_
  refine x_get B hW (by decide) cM_o cls5 hin_X5 0 (by decide) (v := .ref (ad 1)) rfl k_7 dX5_limitThen_1 ?_
  refine lv_iload_n hx hb dX5_limitThen_4 rfl (lv_at hl 1 rfl) ?_
  refine lv_iconst (v := 1) hx hb dX5_limitThen_5 (by decide) ?_
  refine x_calli hW (x_runS B hW (As := [.ref (ad 1), .int p1, .int 1]) (rest := []) (c_X5_of (D := D) (ad := ad) l _ S 1 p1 1 (Or.inl rfl) h1 (isN_vin (isN_lit 1 (by decide)) (by decide) (by decide))) (va_cwS 3 B.1.2.2.2.2 gX5_limitThen_X5_of rfl rfl rfl hd_X5_of.2 ⟨Nat.le_of_ble_eq_true rfl, Nat.le_of_ble_eq_true rfl⟩) rfl hls (Nat.le_of_ble_eq_true rfl) dX5_limitThen_6 ⟨Nat.zero_le _, Nat.zero_le _⟩) (fun r_6 S_6 H locs he hW => ?_)
  obtain ⟨hr_6, hs⟩ := he
  rw [hs] at hW
  have zk := nm_at zk hr_6
  refine lv_istore_n (lv' := [(2, .int r_6), (0, .ref (ad 0)), (1, .int p1)]) hx hb dX5_limitThen_9 rfl hl (by decide) rfl (fun ls hl => ?_)
  have hls := hl.1
  refine lv_aload_n hx hb dX5_limitThen_10 rfl (lv_at hl 1 rfl) ?_
  refine x_get B hW (by decide) cM_o cls5 hin_X5 0 (by decide) (v := .ref (ad 1)) rfl k_7 dX5_limitThen_11 ?_
  refine lv_iload_n hx hb dX5_limitThen_14 rfl (lv_at hl 2 rfl) ?_
  refine lv_bipush (v := 8) hx hb dX5_limitThen_15 (by decide) ?_
  refine x_calli hW (x_runS B hW (As := [.ref (ad 1), .int p1, .int 8]) (rest := []) (c_X5_of (D := D) (ad := ad) l _ S 1 p1 8 (Or.inl rfl) h1 (isN_vin (isN_lit 8 (by decide)) (by decide) (by decide))) (va_cwS 3 B.1.2.2.2.2 gX5_limitThen_X5_of rfl rfl rfl hd_X5_of.2 ⟨Nat.le_of_ble_eq_true rfl, Nat.le_of_ble_eq_true rfl⟩) rfl hls (Nat.le_of_ble_eq_true rfl) dX5_limitThen_17 ⟨Nat.zero_le _, Nat.zero_le _⟩) (fun r_17 S_17 H locs he hW => ?_)
  obtain ⟨hr_17, hs⟩ := he
  rw [hs] at hW
  have zk := nm_at zk hr_17
  refine lv_if_ne (tgt := 35) hx hb dX5_limitThen_20 (by decide) (fun c_20 => ?_) (fun c_20 => ?_)
  · have zk := zk.trans (if_neg c_20)
    refine lv_aload_n hx hb dX5_limitThen_35 rfl (lv_at hl 1 rfl) ?_
    refine x_get B hW (by decide) cM_o cls5 hin_X5 0 (by decide) (v := .ref (ad 1)) rfl k_7 dX5_limitThen_36 ?_
    refine lv_iload_n hx hb dX5_limitThen_39 rfl (lv_at hl 2 rfl) ?_
    refine lv_bipush (v := 8) hx hb dX5_limitThen_40 (by decide) ?_
    refine x_calli hW (x_runS B hW (As := [.ref (ad 1), .int p1, .int 8]) (rest := []) (c_X5_of (D := D) (ad := ad) l _ S 1 p1 8 (Or.inl rfl) h1 (isN_vin (isN_lit 8 (by decide)) (by decide) (by decide))) (va_cwS 3 B.1.2.2.2.2 gX5_limitThen_X5_of rfl rfl rfl hd_X5_of.2 ⟨Nat.le_of_ble_eq_true rfl, Nat.le_of_ble_eq_true rfl⟩) rfl hls (Nat.le_of_ble_eq_true rfl) dX5_limitThen_42 ⟨Nat.zero_le _, Nat.zero_le _⟩) (fun r_42 S_42 H locs he hW => ?_)
    obtain ⟨hr_42, hs⟩ := he
    rw [hs] at hW
    have zk := nm_at zk hr_42
    refine lv_iconst (v := 3) hx hb dX5_limitThen_45 (by decide) ?_
    refine lv_icmp_ge (tgt := 53) hx hb dX5_limitThen_46 (by decide) (fun c_46 => ?_) (fun c_46 => ?_)
    · have zk := zk.trans (if_pos c_46)
      refine lv_iload_n hx hb dX5_limitThen_53 rfl (lv_at hl 0 rfl) ?_
      refine lv_iconst (v := 2) hx hb dX5_limitThen_54 (by decide) ?_
      refine lv_idiv hx hb dX5_limitThen_55 (by decide) ?_
      refine lv_bipush (v := 20) hx hb dX5_limitThen_56 (by decide) ?_
      refine lv_icmp_ge (tgt := 66) hx hb dX5_limitThen_58 (by decide) (fun c_58 => ?_) (fun c_58 => ?_)
      · have zk := zk.trans (if_pos c_58)
        refine lv_iload_n hx hb dX5_limitThen_66 rfl (lv_at hl 0 rfl) ?_
        refine lv_iconst (v := 2) hx hb dX5_limitThen_67 (by decide) ?_
        refine lv_idiv hx hb dX5_limitThen_68 (by decide) ?_
        exact x_iret B hW ⟨zk.symm, rfl⟩ dX5_limitThen_69
      · have zk := zk.trans (if_neg c_58)
        refine lv_bipush (v := 20) hx hb dX5_limitThen_61 (by decide) ?_
        refine lv_goto (tgt := 69) hx hb dX5_limitThen_63 (by decide) ?_
        exact x_iret B hW ⟨zk.symm, rfl⟩ dX5_limitThen_69
    · have zk := zk.trans (if_neg c_46)
      refine lv_iload_n hx hb dX5_limitThen_49 rfl (lv_at hl 0 rfl) ?_
      refine lv_goto (tgt := 69) hx hb dX5_limitThen_50 (by decide) ?_
      exact x_iret B hW ⟨zk.symm, rfl⟩ dX5_limitThen_69
  · have zk := zk.trans (if_pos c_20)
    refine lv_sipush (v := 2000) hx hb dX5_limitThen_23 (by decide) ?_
    refine lv_iload_n hx hb dX5_limitThen_26 rfl (lv_at hl 0 rfl) ?_
    refine lv_iload_n hx hb dX5_limitThen_27 rfl (lv_at hl 0 rfl) ?_
    refine lv_iconst (v := 2) hx hb dX5_limitThen_28 (by decide) ?_
    refine lv_idiv hx hb dX5_limitThen_29 (by decide) ?_
    refine lv_iadd hx hb dX5_limitThen_30 ?_
    refine x_calli hW (x_runS B hW (As := [.int 2000, .int (r_6 + (r_6 / 2))]) (rest := []) (c_X5_least (D := D) (ad := ad) l _ S 2000 (r_6 + (r_6 / 2))) (va_cwS 2 B.1.2.2.2.2 gX5_limitThen_X5_least rfl rfl rfl hd_X5_least.2 ⟨Nat.le_of_ble_eq_true rfl, Nat.le_of_ble_eq_true rfl⟩) rfl hls (Nat.le_of_ble_eq_true rfl) dX5_limitThen_31 ⟨Nat.zero_le _, Nat.zero_le _⟩) (fun r_31 S_31 H locs he hW => ?_)
    obtain ⟨hr_31, hs⟩ := he
    rw [hs] at hW
    have zk := nm_at zk hr_31
    exact x_iret B hW ⟨zk.symm, rfl⟩ dX5_limitThen_34

def x_X5_cycles_L2 : Nat → vS → Nat → (Int32 × vS)
  | 0, S, _ => (0, S)
  | n + 1, S, n1 => if 8 ≤ (nI n1) then nm (st S 1 1 ((S 1 1) + 1)) (fun S_71 => ((S_71 1 1), S_71)) else nm (x_X5_of S 1 (nI n1) 0) (fun r_14 => if r_14 = 1 then nm (x_X5_limitThen S (nI n1)) (fun r_36 => nm (st S 1 ((13 + (14 * n1)) + 1) r_36) (fun S_39 => nm (st S_39 1 ((13 + (14 * n1)) + 8) 0) (fun S_55 => x_X5_cycles_L2 n S_55 ((n1 + 1))))) else x_X5_cycles_L2 n S ((n1 + 1)))
def x_X5_cycles (S : vS) : (Int32 × vS) := x_X5_cycles_L2 (9) S (0)
theorem hd_X5_cycles : yX5_cycles.cls = RX5 ∧ yX5_cycles.cls ≠ "java/lang/invoke/MethodHandle" ∧ yX5_cycles.cls ≠ "java/lang/invoke/VarHandle" ∧ (parseMethodDescriptor yX5_cycles.desc).map (fun d => d.parameters.length) = some 0 := by decide +kernel
set_option maxHeartbeats 4000000 in
set_option maxRecDepth 100000 in
theorem w_X5_cycles_L2 {D : va_G} {ad : Nat → Nat} (l : Launch) {p : Program} {e : Env} {s : State} {mm : MethodId} {args : Array Value} {below : List Frame} {meth : Method} {c : Code} {A : Nat → Prop} (B : Cx p mm c cX5_cycles 2 s args wsX5_cycles RX5 meth (some .int) D) (z : (Int32 × vS)) : ∀ (n : Nat) (n1 : Nat) (S : vS) (H : Heap) (locs : List Loc) (ls : Array Slot), n1 ≤ 8 → n1 + n = 9 → Wd D 7 (cM D ad) ad A s.heap S H locs → lv_has ls 2 [(1, .int (nI n1)), (0, .ref (ad 0))] → ls.size = 2 → z = x_X5_cycles_L2 n S n1 → W p l e (rmD 2) s mm args below meth c H locs 0 0 (MQ below (va_Qi (fun (r : Int32) (S1 : vS) => (r, S1) = z) (bW D 7 (cM D ad) ad A) A) args s 0 0 A) (F0 mm 2 ls []) := by
  have hx := B.1.1
  have hb := B.1.2.1
  have hin_X5 : ∀ w ∈ wsX50, w ∈ wsX5_cycles := fun w h => List.mem_cons_of_mem _ (List.mem_append_right _ h)
  have k_7 := B.1.2.2.2.2 (.fieldLink RX5 7 "JointLoansModel" "now" "[I") (by decide +kernel)
  intro n
  induction n with
  | zero =>
    intro n1 S H locs ls hle hsum
    omega
  | succ n ih =>
    intro n1 S H locs ls hle hsum hW hl hls zk
    have zk := zk.trans (x_X5_cycles_L2.eq_2 _ _ _ )
    refine lv_iload_n hx hb dX5_cycles_2 rfl (lv_at hl 0 rfl) ?_
    refine lv_bipush (v := 8) hx hb dX5_cycles_3 (by decide) ?_
    refine lv_icmp_ge (tgt := 62) hx hb dX5_cycles_5 (by decide) (fun c_5 => ?_) (fun c_5 => ?_)
    · have zk := zk.trans (if_pos c_5)
      refine lv_aload_n hx hb dX5_cycles_62 rfl (lv_at hl 1 rfl) ?_
      refine x_get B hW (by decide) cM_o cls5 hin_X5 0 (by decide) (v := .ref (ad 1)) rfl k_7 dX5_cycles_63 ?_
      refine lv_iconst (v := 1) hx hb dX5_cycles_66 (by decide) ?_
      refine lv_dup2_11 hx hb dX5_cycles_67 rfl rfl ?_
      refine x_iald B hW (by decide) cM_1 (isN_lit 1 (by decide)) (by decide) (by decide) dX5_cycles_68 ?_
      refine lv_iconst (v := 1) hx hb dX5_cycles_69 (by decide) ?_
      refine lv_iadd hx hb dX5_cycles_70 ?_
      refine x_iast B hW (by decide) (fun _ => cM_1) (isN_lit 1 (by decide)) (by decide) (by decide) dX5_cycles_71 (fun H locs S_71 he_71 hW => ?_)
      have zk := nm_at zk he_71
      refine lv_aload_n hx hb dX5_cycles_72 rfl (lv_at hl 1 rfl) ?_
      refine x_get B hW (by decide) cM_o cls5 hin_X5 0 (by decide) (v := .ref (ad 1)) rfl k_7 dX5_cycles_73 ?_
      refine lv_iconst (v := 1) hx hb dX5_cycles_76 (by decide) ?_
      refine x_iald B hW (by decide) cM_1 (isN_lit 1 (by decide)) (by decide) (by decide) dX5_cycles_77 ?_
      exact x_iret B hW zk.symm dX5_cycles_78
    · have zk := zk.trans (if_neg c_5)
      have hb_c_5 : n1 < 8 := nI_of_nle (by decide) c_5 (by omega)
      refine lv_aload_n hx hb dX5_cycles_8 rfl (lv_at hl 1 rfl) ?_
      refine x_get B hW (by decide) cM_o cls5 hin_X5 0 (by decide) (v := .ref (ad 1)) rfl k_7 dX5_cycles_9 ?_
      refine lv_iload_n hx hb dX5_cycles_12 rfl (lv_at hl 0 rfl) ?_
      refine lv_iconst (v := 0) hx hb dX5_cycles_13 (by decide) ?_
      refine x_calli hW (x_runS B hW (As := [.ref (ad 1), .int (nI n1), .int 0]) (rest := []) (c_X5_of (D := D) (ad := ad) l _ S 1 (nI n1) 0 (Or.inl rfl) (isN_vin (isN_nI hb_c_5 (by decide)) (by decide) (by decide)) (isN_vin (isN_lit 0 (by decide)) (by decide) (by decide))) (va_cwS 3 B.1.2.2.2.2 gX5_cycles_X5_of rfl rfl rfl hd_X5_of.2 ⟨Nat.le_of_ble_eq_true rfl, Nat.le_of_ble_eq_true rfl⟩) rfl hls (Nat.le_of_ble_eq_true rfl) dX5_cycles_14 ⟨Nat.zero_le _, Nat.zero_le _⟩) (fun r_14 S_14 H locs he hW => ?_)
      obtain ⟨hr_14, hs⟩ := he
      rw [hs] at hW
      have zk := nm_at zk hr_14
      refine lv_iconst (v := 1) hx hb dX5_cycles_17 (by decide) ?_
      refine lv_icmp_ne (tgt := 56) hx hb dX5_cycles_18 (by decide) (fun c_18 => ?_) (fun c_18 => ?_)
      · have zk := zk.trans (if_neg c_18)
        refine lv_iinc (v := (nI (n1 + 1))) (lv' := [(1, .int (nI (n1 + 1))), (0, .ref (ad 0))]) hx hb dX5_cycles_56 hl (k := 0) rfl (nI_1 _) (by decide) rfl (fun ls hl => ?_)
        have hls := hl.1
        refine lv_goto (tgt := 2) hx hb dX5_cycles_59 (by decide) ?_
        exact ih ((n1 + 1)) S _ _ _ (show (n1 + 1) ≤ 8 by omega) (show (n1 + 1) + n = 9 by omega) hW (lv_sub hl [0, 1] rfl) hls zk
      · have zk := zk.trans (if_pos c_18)
        refine lv_aload_n hx hb dX5_cycles_21 rfl (lv_at hl 1 rfl) ?_
        refine x_get B hW (by decide) cM_o cls5 hin_X5 0 (by decide) (v := .ref (ad 1)) rfl k_7 dX5_cycles_22 ?_
        refine lv_bipush (v := 13) hx hb dX5_cycles_25 (by decide) ?_
        refine lv_bipush (v := 14) hx hb dX5_cycles_27 (by decide) ?_
        refine lv_iload_n hx hb dX5_cycles_29 rfl (lv_at hl 0 rfl) ?_
        refine lv_imul hx hb dX5_cycles_30 ?_
        refine lv_iadd hx hb dX5_cycles_31 ?_
        refine lv_iconst (v := 1) hx hb dX5_cycles_32 (by decide) ?_
        refine lv_iadd hx hb dX5_cycles_33 ?_
        refine lv_aload_n hx hb dX5_cycles_34 rfl (lv_at hl 1 rfl) ?_
        refine lv_iload_n hx hb dX5_cycles_35 rfl (lv_at hl 0 rfl) ?_
        refine x_calli hW (x_runV B hW (As := [.int (nI n1)]) (rest := .int ((13 + (14 * (nI n1))) + 1) :: .ref (ad 1) :: []) (by decide) cM_o cls5 (c_X5_limitThen (D := D) (ad := ad) l _ S (nI n1) (isN_vin (isN_nI hb_c_5 (by decide)) (by decide) (by decide))) (cwV 1 B.1.2.2.2.2 gX5_cycles_X5_limitThen rfl rfl rfl hd_X5_limitThen ⟨Nat.le_of_ble_eq_true rfl, Nat.le_of_ble_eq_true rfl⟩) rfl hls (Nat.le_of_ble_eq_true rfl) dX5_cycles_36 ⟨Nat.zero_le _, Nat.zero_le _⟩) (fun r_36 S_36 H locs he hW => ?_)
        obtain ⟨hr_36, hs⟩ := he
        rw [hs] at hW
        have zk := nm_at zk hr_36
        refine x_iast B hW (by decide) (fun _ => cM_1) (isN_add (isN_add (isN_lit 13 (by decide)) (isN_mul (isN_lit 14 (by decide)) (isN_nI hb_c_5 (by decide)) (by decide)) (by decide)) (isN_lit 1 (by decide)) (by decide)) (by decide) (by decide) dX5_cycles_39 (fun H locs S_39 he_39 hW => ?_)
        have zk := nm_at zk he_39
        refine lv_aload_n hx hb dX5_cycles_40 rfl (lv_at hl 1 rfl) ?_
        refine x_get B hW (by decide) cM_o cls5 hin_X5 0 (by decide) (v := .ref (ad 1)) rfl k_7 dX5_cycles_41 ?_
        refine lv_bipush (v := 13) hx hb dX5_cycles_44 (by decide) ?_
        refine lv_bipush (v := 14) hx hb dX5_cycles_46 (by decide) ?_
        refine lv_iload_n hx hb dX5_cycles_48 rfl (lv_at hl 0 rfl) ?_
        refine lv_imul hx hb dX5_cycles_49 ?_
        refine lv_iadd hx hb dX5_cycles_50 ?_
        refine lv_bipush (v := 8) hx hb dX5_cycles_51 (by decide) ?_
        refine lv_iadd hx hb dX5_cycles_53 ?_
        refine lv_iconst (v := 0) hx hb dX5_cycles_54 (by decide) ?_
        refine x_iast B hW (by decide) (fun _ => cM_1) (isN_add (isN_add (isN_lit 13 (by decide)) (isN_mul (isN_lit 14 (by decide)) (isN_nI hb_c_5 (by decide)) (by decide)) (by decide)) (isN_lit 8 (by decide)) (by decide)) (by decide) (by decide) dX5_cycles_55 (fun H locs S_55 he_55 hW => ?_)
        have zk := nm_at zk he_55
        refine lv_iinc (v := (nI (n1 + 1))) (lv' := [(1, .int (nI (n1 + 1))), (0, .ref (ad 0))]) hx hb dX5_cycles_56 hl (k := 0) rfl (nI_1 _) (by decide) rfl (fun ls hl => ?_)
        have hls := hl.1
        refine lv_goto (tgt := 2) hx hb dX5_cycles_59 (by decide) ?_
        exact ih ((n1 + 1)) S_55 _ _ _ (show (n1 + 1) ≤ 8 by omega) (show (n1 + 1) + n = 9 by omega) hW (lv_sub hl [0, 1] rfl) hls zk
set_option maxHeartbeats 4000000 in
set_option maxRecDepth 100000 in
theorem c_X5_cycles {D : va_G} {ad : Nat → Nat} (l : Launch) (sz : Nat) (S : vS) : Met l yX5_cycles wsX5_cycles (rmD 2) (pW D 7 (cM D ad) ad sz S [.ref (ad 0)]) (va_Qi (fun (r : Int32) (S1 : vS) => (r, S1) = (x_X5_cycles S)) (bW D 7 (cM D ad) ad (aW 7 ad sz)) (aW 7 ad sz)) 0 0 (aW 7 ad sz) := by
  refine x_met (own := RX5) (cc := cX5_cycles) (maxL := 2) (ret := (some .int)) (Qc := fun A => va_Qi (fun (r : Int32) (S1 : vS) => (r, S1) = (x_X5_cycles S)) (bW D 7 (cM D ad) ad A) A) rfl ⟨by decide +kernel, rfl, Nat.le_of_ble_eq_true rfl⟩ ?_
  intro p e s mm args below meth c A ls B hW hl hls
  have hx := B.1.1
  have hb := B.1.2.1
  have hin_X5 : ∀ w ∈ wsX50, w ∈ wsX5_cycles := fun w h => List.mem_cons_of_mem _ (List.mem_append_right _ h)
  have k_7 := B.1.2.2.2.2 (.fieldLink RX5 7 "JointLoansModel" "now" "[I") (by decide +kernel)
  have zk := x_X5_cycles.eq_1 S
  have hl : lv_has ls 2 [(0, .ref (ad 0))] := hl
  refine lv_iconst (v := 0) hx hb dX5_cycles_0 (by decide) ?_
  refine lv_istore_n (lv' := [(1, .int 0), (0, .ref (ad 0))]) hx hb dX5_cycles_1 rfl hl (by decide) rfl (fun ls hl => ?_)
  have hls := hl.1
  exact w_X5_cycles_L2 l B  _  (9) (0) S _ _ _ (show 0 ≤ 8 by omega) (show 0 + (9) = 9 by omega) hW (lv_sub hl [0, 1] rfl) hls zk
theorem ex_cycles_L : ∀ (n : Nat) (S S0 : vS) (k : Nat), EX S0 S → EX S0 (x_X5_cycles_L2 n S k).2 := by
  intro n
  induction n with
  | zero => intro S S0 k h; exact h
  | succ n ih =>
    intro S S0 k h
    rw [x_X5_cycles_L2]
    try simp only [nm_eq, nmp_eq]
    repeat' split
    all_goals repeat (first | (with_reducible assumption) | (with_reducible apply ih) | (with_reducible refine EX.w ?_ (by omega)))
theorem EX.cycles {S S1 : vS} (h : EX S S1) : EX S (x_X5_cycles S1).2 := ex_cycles_L _ _ _ _ h

def x_X5_cycle (S : vS) : (Int32 × vS) := nm (st S 0 6 0) (fun S_2 => nm (x_X5_mayCycle S_2) (fun r_6 => if r_6 = 0 then nmp (x_X5_fails S_2 1) (fun r_14 S_14 => (r_14, S_14)) else nm (x_X5_saves S_2) (fun S_19 => nmp (x_X5_cycles S_19) (fun r_23 S_23 => (r_23, S_23)))))
theorem hd_X5_cycle : yX5_cycle.cls = RX5 ∧ yX5_cycle.cls ≠ "java/lang/invoke/MethodHandle" ∧ yX5_cycle.cls ≠ "java/lang/invoke/VarHandle" ∧ (parseMethodDescriptor yX5_cycle.desc).map (fun d => d.parameters.length) = some 0 := by decide +kernel
set_option maxHeartbeats 4000000 in
set_option maxRecDepth 100000 in
theorem c_X5_cycle {D : va_G} {ad : Nat → Nat} (l : Launch) (sz : Nat) (S : vS) (hkp : vp_in (S 0 3) 7) : Met l yX5_cycle wsX5_cycle (rmD 3) (pW D 7 (cM D ad) ad sz S [.ref (ad 0)]) (va_Qi (fun (r : Int32) (S1 : vS) => (r, S1) = (x_X5_cycle S)) (bW D 7 (cM D ad) ad (aW 7 ad sz)) (aW 7 ad sz)) 0 0 (aW 7 ad sz) := by
  refine x_met (own := RX5) (cc := cX5_cycle) (maxL := 1) (ret := (some .int)) (Qc := fun A => va_Qi (fun (r : Int32) (S1 : vS) => (r, S1) = (x_X5_cycle S)) (bW D 7 (cM D ad) ad A) A) rfl ⟨by decide +kernel, rfl, Nat.le_of_ble_eq_true rfl⟩ ?_
  intro p e s mm args below meth c A ls B hW hl hls
  have hx := B.1.1
  have hb := B.1.2.1
  have hin_X5 : ∀ w ∈ wsX50, w ∈ wsX5_cycle := fun w h => List.mem_cons_of_mem _ (List.mem_append_right _ h)
  have k_28 := B.1.2.2.2.2 (.fieldLink RX5 28 "JointLoansModel" "thrown" "I") (by decide +kernel)
  have zk := x_X5_cycle.eq_1 S
  have hl : lv_has ls 1 [(0, .ref (ad 0))] := hl
  refine lv_aload_n hx hb dX5_cycle_0 rfl (lv_at hl 0 rfl) ?_
  refine lv_iconst (v := 0) hx hb dX5_cycle_1 (by decide) ?_
  refine x_put B hW (by decide) cls5 hin_X5 6 (by decide) cM_o rfl (ty := .int) (by decide +kernel) rfl rfl (Nat.le_of_ble_eq_true rfl) (j := 6) pO_6 k_28 dX5_cycle_2 (fun H locs S_2 he_2 hW => ?_)
  have zk := nm_at zk he_2
  have hf_S_2_0_3_7 : vp_in (S_2 0 3) 7 := by rw [he_2, st_at, if_neg (by rintro ⟨h1, h2⟩; omega)]; exact hkp
  have hf_S_2_0_6_1 : vp_in (S_2 0 6) 1 := by rw [he_2, st_at, if_pos ⟨rfl, rfl⟩]; exact isN_vin (isN_lit 0 (by decide)) (by decide) (by decide)
  refine lv_aload_n hx hb dX5_cycle_5 rfl (lv_at hl 0 rfl) ?_
  refine x_calli hW (x_runV B hW (As := []) (rest := []) (by decide) cM_o cls5 (c_X5_mayCycle (D := D) (ad := ad) l _ S_2) (cwV 0 B.1.2.2.2.2 gX5_cycle_X5_mayCycle rfl rfl rfl hd_X5_mayCycle ⟨Nat.le_of_ble_eq_true rfl, Nat.le_of_ble_eq_true rfl⟩) rfl hls (Nat.le_of_ble_eq_true rfl) dX5_cycle_6 ⟨Nat.zero_le _, Nat.zero_le _⟩) (fun r_6 S_6 H locs he hW => ?_)
  obtain ⟨hr_6, hs, hz_6⟩ := he
  rw [hs] at hW
  have zk := nm_at zk hr_6
  refine lv_if_ne (tgt := 18) hx hb dX5_cycle_9 (by decide) (fun c_9 => ?_) (fun c_9 => ?_)
  · have zk := zk.trans (if_neg c_9)
    refine lv_aload_n hx hb dX5_cycle_18 rfl (lv_at hl 0 rfl) ?_
    refine x_callv hW (x_runV B hW (As := []) (rest := []) (by decide) cM_o cls5 (c_X5_saves (D := D) (ad := ad) l _ S_2 (isN_vin (isN_var hf_S_2_0_3_7 (by decide)) (by decide) (by decide))) (cwV 0 B.1.2.2.2.2 gX5_cycle_X5_saves rfl rfl rfl hd_X5_saves ⟨Nat.le_of_ble_eq_true rfl, Nat.le_of_ble_eq_true rfl⟩) rfl hls (Nat.le_of_ble_eq_true rfl) dX5_cycle_19 ⟨Nat.zero_le _, Nat.zero_le _⟩) (fun S_19 H locs he hW => ?_)
    have he_19 := he
    have zk := nm_at zk he_19
    have hf_S_19_0_6_1 : vp_in (S_19 0 6) 1 := by rw [he_19, (fr_saves (by decide))]; exact hf_S_2_0_6_1
    refine lv_aload_n hx hb dX5_cycle_22 rfl (lv_at hl 0 rfl) ?_
    refine x_calli hW (x_runV B hW (As := []) (rest := []) (by decide) cM_o cls5 (c_X5_cycles (D := D) (ad := ad) l _ S_19) (cwV 0 B.1.2.2.2.2 gX5_cycle_X5_cycles rfl rfl rfl hd_X5_cycles ⟨Nat.le_of_ble_eq_true rfl, Nat.le_of_ble_eq_true rfl⟩) rfl hls (Nat.le_of_ble_eq_true rfl) dX5_cycle_23 ⟨Nat.zero_le _, Nat.zero_le _⟩) (fun r_23 S_23 H locs he hW => ?_)
    have hr_23 := he
    have zk := nmp_at zk hr_23
    have he_23 : S_23 = (x_X5_cycles S_19).2 := by rw [← hr_23]
    exact x_iret B hW zk.symm dX5_cycle_26
  · have zk := zk.trans (if_pos c_9)
    refine lv_aload_n hx hb dX5_cycle_12 rfl (lv_at hl 0 rfl) ?_
    refine lv_iconst (v := 1) hx hb dX5_cycle_13 (by decide) ?_
    refine x_calli hW (x_runV B hW (As := [.int 1]) (rest := []) (by decide) cM_o cls5 (c_X5_fails (D := D) (ad := ad) l _ S_2 1) (cwV 1 B.1.2.2.2.2 gX5_cycle_X5_fails rfl rfl rfl hd_X5_fails ⟨Nat.le_of_ble_eq_true rfl, Nat.le_of_ble_eq_true rfl⟩) rfl hls (Nat.le_of_ble_eq_true rfl) dX5_cycle_14 ⟨Nat.zero_le _, Nat.zero_le _⟩) (fun r_14 S_14 H locs he hW => ?_)
    have hr_14 := he
    have zk := nmp_at zk hr_14
    have he_14 : S_14 = (x_X5_fails S_2 1).2 := by rw [← hr_14]
    exact x_iret B hW zk.symm dX5_cycle_17

def x_X5_isFor (S : vS) (p1 : Int32) (p2 : Int32) : Int32 := if p1 = 0 then nm (x_X5_in S p2 0 50) (fun r_8 => r_8) else if p1 = 1 then nm (x_X5_in S p2 0 99) (fun r_23 => r_23) else if p1 = 2 then nm (x_X5_in S p2 1 20) (fun r_38 => r_38) else nm (x_X5_in S p2 0 100) (fun r_48 => r_48)
theorem hd_X5_isFor : yX5_isFor.cls = RX5 ∧ yX5_isFor.cls ≠ "java/lang/invoke/MethodHandle" ∧ yX5_isFor.cls ≠ "java/lang/invoke/VarHandle" ∧ (parseMethodDescriptor yX5_isFor.desc).map (fun d => d.parameters.length) = some 2 := by decide +kernel
set_option maxHeartbeats 4000000 in
set_option maxRecDepth 100000 in
theorem c_X5_isFor {D : va_G} {ad : Nat → Nat} (l : Launch) (sz : Nat) (S : vS) (p1 : Int32) (p2 : Int32) : Met l yX5_isFor wsX5_isFor (rmD 1) (pW D 7 (cM D ad) ad sz S [.int p1, .int p2]) (va_Qi (fun (r : Int32) (S1 : vS) => r = (x_X5_isFor S p1 p2) ∧ S1 = S ∧ (r = 0 ∨ r = 1)) (bW D 7 (cM D ad) ad (aW 7 ad sz)) (aW 7 ad sz)) 0 0 (aW 7 ad sz) := by
  refine x_met (own := RX5) (cc := cX5_isFor) (maxL := 2) (ret := (some .boolean)) (Qc := fun A => va_Qi (fun (r : Int32) (S1 : vS) => r = (x_X5_isFor S p1 p2) ∧ S1 = S ∧ (r = 0 ∨ r = 1)) (bW D 7 (cM D ad) ad A) A) rfl ⟨by decide +kernel, rfl, Nat.le_of_ble_eq_true rfl⟩ ?_
  intro p e s mm args below meth c A ls B hW hl hls
  have hx := B.1.1
  have hb := B.1.2.1
  have zk := x_X5_isFor.eq_1 S p1 p2
  have hl : lv_has ls 2 [(0, .int p1), (1, .int p2)] := hl
  refine lv_iload_n hx hb dX5_isFor_0 rfl (lv_at hl 0 rfl) ?_
  refine lv_if_ne (tgt := 14) hx hb dX5_isFor_1 (by decide) (fun c_1 => ?_) (fun c_1 => ?_)
  · have zk := zk.trans (if_neg c_1)
    refine lv_iload_n hx hb dX5_isFor_14 rfl (lv_at hl 0 rfl) ?_
    refine lv_iconst (v := 1) hx hb dX5_isFor_15 (by decide) ?_
    refine lv_icmp_ne (tgt := 29) hx hb dX5_isFor_16 (by decide) (fun c_16 => ?_) (fun c_16 => ?_)
    · have zk := zk.trans (if_neg c_16)
      refine lv_iload_n hx hb dX5_isFor_29 rfl (lv_at hl 0 rfl) ?_
      refine lv_iconst (v := 2) hx hb dX5_isFor_30 (by decide) ?_
      refine lv_icmp_ne (tgt := 44) hx hb dX5_isFor_31 (by decide) (fun c_31 => ?_) (fun c_31 => ?_)
      · have zk := zk.trans (if_neg c_31)
        refine lv_iload_n hx hb dX5_isFor_44 rfl (lv_at hl 1 rfl) ?_
        refine lv_iconst (v := 0) hx hb dX5_isFor_45 (by decide) ?_
        refine lv_bipush (v := 100) hx hb dX5_isFor_46 (by decide) ?_
        refine x_calli hW (x_runS B hW (As := [.int p2, .int 0, .int 100]) (rest := []) (c_X5_in (D := D) (ad := ad) l _ S p2 0 100) (va_cwS 3 B.1.2.2.2.2 gX5_isFor_X5_in rfl rfl rfl hd_X5_in.2 ⟨Nat.le_of_ble_eq_true rfl, Nat.le_of_ble_eq_true rfl⟩) rfl hls (Nat.le_of_ble_eq_true rfl) dX5_isFor_48 ⟨Nat.zero_le _, Nat.zero_le _⟩) (fun r_48 S_48 H locs he hW => ?_)
        obtain ⟨hr_48, hs, hz_48⟩ := he
        rw [hs] at hW
        have zk := nm_at zk hr_48
        exact x_zret B hW hz_48 ⟨zk.symm, rfl, hz_48⟩ dX5_isFor_51
      · have zk := zk.trans (if_pos c_31)
        refine lv_iload_n hx hb dX5_isFor_34 rfl (lv_at hl 1 rfl) ?_
        refine lv_iconst (v := 1) hx hb dX5_isFor_35 (by decide) ?_
        refine lv_bipush (v := 20) hx hb dX5_isFor_36 (by decide) ?_
        refine x_calli hW (x_runS B hW (As := [.int p2, .int 1, .int 20]) (rest := []) (c_X5_in (D := D) (ad := ad) l _ S p2 1 20) (va_cwS 3 B.1.2.2.2.2 gX5_isFor_X5_in rfl rfl rfl hd_X5_in.2 ⟨Nat.le_of_ble_eq_true rfl, Nat.le_of_ble_eq_true rfl⟩) rfl hls (Nat.le_of_ble_eq_true rfl) dX5_isFor_38 ⟨Nat.zero_le _, Nat.zero_le _⟩) (fun r_38 S_38 H locs he hW => ?_)
        obtain ⟨hr_38, hs, hz_38⟩ := he
        rw [hs] at hW
        have zk := nm_at zk hr_38
        refine lv_goto (tgt := 51) hx hb dX5_isFor_41 (by decide) ?_
        exact x_zret B hW hz_38 ⟨zk.symm, rfl, hz_38⟩ dX5_isFor_51
    · have zk := zk.trans (if_pos c_16)
      refine lv_iload_n hx hb dX5_isFor_19 rfl (lv_at hl 1 rfl) ?_
      refine lv_iconst (v := 0) hx hb dX5_isFor_20 (by decide) ?_
      refine lv_bipush (v := 99) hx hb dX5_isFor_21 (by decide) ?_
      refine x_calli hW (x_runS B hW (As := [.int p2, .int 0, .int 99]) (rest := []) (c_X5_in (D := D) (ad := ad) l _ S p2 0 99) (va_cwS 3 B.1.2.2.2.2 gX5_isFor_X5_in rfl rfl rfl hd_X5_in.2 ⟨Nat.le_of_ble_eq_true rfl, Nat.le_of_ble_eq_true rfl⟩) rfl hls (Nat.le_of_ble_eq_true rfl) dX5_isFor_23 ⟨Nat.zero_le _, Nat.zero_le _⟩) (fun r_23 S_23 H locs he hW => ?_)
      obtain ⟨hr_23, hs, hz_23⟩ := he
      rw [hs] at hW
      have zk := nm_at zk hr_23
      refine lv_goto (tgt := 51) hx hb dX5_isFor_26 (by decide) ?_
      exact x_zret B hW hz_23 ⟨zk.symm, rfl, hz_23⟩ dX5_isFor_51
  · have zk := zk.trans (if_pos c_1)
    refine lv_iload_n hx hb dX5_isFor_4 rfl (lv_at hl 1 rfl) ?_
    refine lv_iconst (v := 0) hx hb dX5_isFor_5 (by decide) ?_
    refine lv_bipush (v := 50) hx hb dX5_isFor_6 (by decide) ?_
    refine x_calli hW (x_runS B hW (As := [.int p2, .int 0, .int 50]) (rest := []) (c_X5_in (D := D) (ad := ad) l _ S p2 0 50) (va_cwS 3 B.1.2.2.2.2 gX5_isFor_X5_in rfl rfl rfl hd_X5_in.2 ⟨Nat.le_of_ble_eq_true rfl, Nat.le_of_ble_eq_true rfl⟩) rfl hls (Nat.le_of_ble_eq_true rfl) dX5_isFor_8 ⟨Nat.zero_le _, Nat.zero_le _⟩) (fun r_8 S_8 H locs he hW => ?_)
    obtain ⟨hr_8, hs, hz_8⟩ := he
    rw [hs] at hW
    have zk := nm_at zk hr_8
    refine lv_goto (tgt := 51) hx hb dX5_isFor_11 (by decide) ?_
    exact x_zret B hW hz_8 ⟨zk.symm, rfl, hz_8⟩ dX5_isFor_51

def x_X5_set (S : vS) (p1 : Int32) (p2 : Int32) : (Int32 × vS) := nm (st S 0 6 0) (fun S_2 => nm (x_X5_in S_2 p1 0 3) (fun r_8 => if r_8 = 0 then nmp (x_X5_fails S_2 1) (fun r_16 S_16 => (r_16, S_16)) else nm (x_X5_isFor S_2 p1 p2) (fun r_22 => if r_22 = 0 then nmp (x_X5_fails S_2 2) (fun r_30 S_30 => (r_30, S_30)) else nm (x_X5_saves S_2) (fun S_35 => nm ((S_35 1 (4 + p1.toNatClampNeg))) (fun x_46 => nm (st S_35 1 (4 + p1.toNatClampNeg) p2) (fun S_55 => (x_46, S_55)))))))
theorem hd_X5_set : yX5_set.cls = RX5 ∧ yX5_set.cls ≠ "java/lang/invoke/MethodHandle" ∧ yX5_set.cls ≠ "java/lang/invoke/VarHandle" ∧ (parseMethodDescriptor yX5_set.desc).map (fun d => d.parameters.length) = some 2 := by decide +kernel
set_option maxHeartbeats 4000000 in
set_option maxRecDepth 100000 in
theorem c_X5_set {D : va_G} {ad : Nat → Nat} (l : Launch) (sz : Nat) (S : vS) (p1 : Int32) (p2 : Int32) (hkp : vp_in (S 0 3) 7) : Met l yX5_set wsX5_set (rmD 2) (pW D 7 (cM D ad) ad sz S [.ref (ad 0), .int p1, .int p2]) (va_Qi (fun (r : Int32) (S1 : vS) => (r, S1) = (x_X5_set S p1 p2)) (bW D 7 (cM D ad) ad (aW 7 ad sz)) (aW 7 ad sz)) 0 0 (aW 7 ad sz) := by
  refine x_met (own := RX5) (cc := cX5_set) (maxL := 4) (ret := (some .int)) (Qc := fun A => va_Qi (fun (r : Int32) (S1 : vS) => (r, S1) = (x_X5_set S p1 p2)) (bW D 7 (cM D ad) ad A) A) rfl ⟨by decide +kernel, rfl, Nat.le_of_ble_eq_true rfl⟩ ?_
  intro p e s mm args below meth c A ls B hW hl hls
  have hx := B.1.1
  have hb := B.1.2.1
  have hin_X5 : ∀ w ∈ wsX50, w ∈ wsX5_set := fun w h => List.mem_cons_of_mem _ (List.mem_append_right _ h)
  have k_28 := B.1.2.2.2.2 (.fieldLink RX5 28 "JointLoansModel" "thrown" "I") (by decide +kernel)
  have k_7 := B.1.2.2.2.2 (.fieldLink RX5 7 "JointLoansModel" "now" "[I") (by decide +kernel)
  have zk := x_X5_set.eq_1 S p1 p2
  have hl : lv_has ls 4 [(0, .ref (ad 0)), (1, .int p1), (2, .int p2)] := hl
  refine lv_aload_n hx hb dX5_set_0 rfl (lv_at hl 0 rfl) ?_
  refine lv_iconst (v := 0) hx hb dX5_set_1 (by decide) ?_
  refine x_put B hW (by decide) cls5 hin_X5 6 (by decide) cM_o rfl (ty := .int) (by decide +kernel) rfl rfl (Nat.le_of_ble_eq_true rfl) (j := 6) pO_6 k_28 dX5_set_2 (fun H locs S_2 he_2 hW => ?_)
  have zk := nm_at zk he_2
  have hf_S_2_0_3_7 : vp_in (S_2 0 3) 7 := by rw [he_2, st_at, if_neg (by rintro ⟨h1, h2⟩; omega)]; exact hkp
  have hf_S_2_0_6_1 : vp_in (S_2 0 6) 1 := by rw [he_2, st_at, if_pos ⟨rfl, rfl⟩]; exact isN_vin (isN_lit 0 (by decide)) (by decide) (by decide)
  refine lv_iload_n hx hb dX5_set_5 rfl (lv_at hl 1 rfl) ?_
  refine lv_iconst (v := 0) hx hb dX5_set_6 (by decide) ?_
  refine lv_iconst (v := 3) hx hb dX5_set_7 (by decide) ?_
  refine x_calli hW (x_runS B hW (As := [.int p1, .int 0, .int 3]) (rest := []) (c_X5_in (D := D) (ad := ad) l _ S_2 p1 0 3) (va_cwS 3 B.1.2.2.2.2 gX5_set_X5_in rfl rfl rfl hd_X5_in.2 ⟨Nat.le_of_ble_eq_true rfl, Nat.le_of_ble_eq_true rfl⟩) rfl hls (Nat.le_of_ble_eq_true rfl) dX5_set_8 ⟨Nat.zero_le _, Nat.zero_le _⟩) (fun r_8 S_8 H locs he hW => ?_)
  obtain ⟨hr_8, hs, hz_8⟩ := he
  rw [hs] at hW
  have zk := nm_at zk hr_8
  refine lv_if_ne (tgt := 20) hx hb dX5_set_11 (by decide) (fun c_11 => ?_) (fun c_11 => ?_)
  · have zk := zk.trans (if_neg c_11)
    refine lv_iload_n hx hb dX5_set_20 rfl (lv_at hl 1 rfl) ?_
    refine lv_iload_n hx hb dX5_set_21 rfl (lv_at hl 2 rfl) ?_
    refine x_calli hW (x_runS B hW (As := [.int p1, .int p2]) (rest := []) (c_X5_isFor (D := D) (ad := ad) l _ S_2 p1 p2) (va_cwS 2 B.1.2.2.2.2 gX5_set_X5_isFor rfl rfl rfl hd_X5_isFor.2 ⟨Nat.le_of_ble_eq_true rfl, Nat.le_of_ble_eq_true rfl⟩) rfl hls (Nat.le_of_ble_eq_true rfl) dX5_set_22 ⟨Nat.zero_le _, Nat.zero_le _⟩) (fun r_22 S_22 H locs he hW => ?_)
    obtain ⟨hr_22, hs, hz_22⟩ := he
    rw [hs] at hW
    have zk := nm_at zk hr_22
    refine lv_if_ne (tgt := 34) hx hb dX5_set_25 (by decide) (fun c_25 => ?_) (fun c_25 => ?_)
    · have zk := zk.trans (if_neg c_25)
      refine lv_aload_n hx hb dX5_set_34 rfl (lv_at hl 0 rfl) ?_
      refine x_callv hW (x_runV B hW (As := []) (rest := []) (by decide) cM_o cls5 (c_X5_saves (D := D) (ad := ad) l _ S_2 (isN_vin (isN_var hf_S_2_0_3_7 (by decide)) (by decide) (by decide))) (cwV 0 B.1.2.2.2.2 gX5_set_X5_saves rfl rfl rfl hd_X5_saves ⟨Nat.le_of_ble_eq_true rfl, Nat.le_of_ble_eq_true rfl⟩) rfl hls (Nat.le_of_ble_eq_true rfl) dX5_set_35 ⟨Nat.zero_le _, Nat.zero_le _⟩) (fun S_35 H locs he hW => ?_)
      have he_35 := he
      have zk := nm_at zk he_35
      have hf_S_35_0_6_1 : vp_in (S_35 0 6) 1 := by rw [he_35, (fr_saves (by decide))]; exact hf_S_2_0_6_1
      refine lv_aload_n hx hb dX5_set_38 rfl (lv_at hl 0 rfl) ?_
      refine x_get B hW (by decide) cM_o cls5 hin_X5 0 (by decide) (v := .ref (ad 1)) rfl k_7 dX5_set_39 ?_
      refine lv_iconst (v := 4) hx hb dX5_set_42 (by decide) ?_
      refine lv_iload_n hx hb dX5_set_43 rfl (lv_at hl 1 rfl) ?_
      refine lv_iadd hx hb dX5_set_44 ?_
      refine x_iald B hW (by decide) cM_1 (isN_add (isN_lit 4 (by decide)) (isN_var (in_vin hr_8 c_11) (by decide)) (by decide)) (by decide) (by decide) dX5_set_45 ?_
      refine lv_topi (fun x_46 ex_46 => ?_)
      have zk := nm_at zk ex_46
      refine lv_istore_n (lv' := [(3, .int x_46), (0, .ref (ad 0)), (1, .int p1), (2, .int p2)]) hx hb dX5_set_46 rfl hl (by decide) rfl (fun ls hl => ?_)
      have hls := hl.1
      refine lv_aload_n hx hb dX5_set_47 rfl (lv_at hl 1 rfl) ?_
      refine x_get B hW (by decide) cM_o cls5 hin_X5 0 (by decide) (v := .ref (ad 1)) rfl k_7 dX5_set_48 ?_
      refine lv_iconst (v := 4) hx hb dX5_set_51 (by decide) ?_
      refine lv_iload_n hx hb dX5_set_52 rfl (lv_at hl 2 rfl) ?_
      refine lv_iadd hx hb dX5_set_53 ?_
      refine lv_iload_n hx hb dX5_set_54 rfl (lv_at hl 3 rfl) ?_
      refine x_iast B hW (by decide) (fun _ => cM_1) (isN_add (isN_lit 4 (by decide)) (isN_var (in_vin hr_8 c_11) (by decide)) (by decide)) (by decide) (by decide) dX5_set_55 (fun H locs S_55 he_55 hW => ?_)
      have zk := nm_at zk he_55
      have hf_S_55_0_6_1 : vp_in (S_55 0 6) 1 := by rw [he_55, st_at, if_neg (by rintro ⟨h1, h2⟩; omega)]; exact hf_S_35_0_6_1
      refine lv_iload_n hx hb dX5_set_56 rfl (lv_at hl 0 rfl) ?_
      exact x_iret B hW zk.symm dX5_set_57
    · have zk := zk.trans (if_pos c_25)
      refine lv_aload_n hx hb dX5_set_28 rfl (lv_at hl 0 rfl) ?_
      refine lv_iconst (v := 2) hx hb dX5_set_29 (by decide) ?_
      refine x_calli hW (x_runV B hW (As := [.int 2]) (rest := []) (by decide) cM_o cls5 (c_X5_fails (D := D) (ad := ad) l _ S_2 2) (cwV 1 B.1.2.2.2.2 gX5_set_X5_fails rfl rfl rfl hd_X5_fails ⟨Nat.le_of_ble_eq_true rfl, Nat.le_of_ble_eq_true rfl⟩) rfl hls (Nat.le_of_ble_eq_true rfl) dX5_set_30 ⟨Nat.zero_le _, Nat.zero_le _⟩) (fun r_30 S_30 H locs he hW => ?_)
      have hr_30 := he
      have zk := nmp_at zk hr_30
      have he_30 : S_30 = (x_X5_fails S_2 2).2 := by rw [← hr_30]
      exact x_iret B hW zk.symm dX5_set_33
  · have zk := zk.trans (if_pos c_11)
    refine lv_aload_n hx hb dX5_set_14 rfl (lv_at hl 0 rfl) ?_
    refine lv_iconst (v := 1) hx hb dX5_set_15 (by decide) ?_
    refine x_calli hW (x_runV B hW (As := [.int 1]) (rest := []) (by decide) cM_o cls5 (c_X5_fails (D := D) (ad := ad) l _ S_2 1) (cwV 1 B.1.2.2.2.2 gX5_set_X5_fails rfl rfl rfl hd_X5_fails ⟨Nat.le_of_ble_eq_true rfl, Nat.le_of_ble_eq_true rfl⟩) rfl hls (Nat.le_of_ble_eq_true rfl) dX5_set_16 ⟨Nat.zero_le _, Nat.zero_le _⟩) (fun r_16 S_16 H locs he hW => ?_)
    have hr_16 := he
    have zk := nmp_at zk hr_16
    have he_16 : S_16 = (x_X5_fails S_2 1).2 := by rw [← hr_16]
    exact x_iret B hW zk.symm dX5_set_19

def x_X5_append (S : vS) (p1 : Int32) : (Int32 × vS) := nm (st S 0 6 0) (fun S_2 => nm (x_X5_in S_2 p1 33 126) (fun r_10 => if r_10 = 0 then nmp (x_X5_fails S_2 1) (fun r_18 S_18 => (r_18, S_18)) else if (S_2 0 5) = 60 then nmp (x_X5_fails S_2 2) (fun r_33 S_33 => (r_33, S_33)) else nm (st S_2 4 (S_2 0 5).toNatClampNeg p1) (fun S_46 => nm (st S_46 0 5 ((S_46 0 5) + 1)) (fun S_54 => ((S_54 0 5), S_54)))))
theorem hd_X5_append : yX5_append.cls = RX5 ∧ yX5_append.cls ≠ "java/lang/invoke/MethodHandle" ∧ yX5_append.cls ≠ "java/lang/invoke/VarHandle" ∧ (parseMethodDescriptor yX5_append.desc).map (fun d => d.parameters.length) = some 1 := by decide +kernel
set_option maxHeartbeats 4000000 in
set_option maxRecDepth 100000 in
theorem c_X5_append {D : va_G} {ad : Nat → Nat} (l : Launch) (sz : Nat) (S : vS) (p1 : Int32) (hty : vp_in (S 0 5) 61) : Met l yX5_append wsX5_append (rmD 1) (pW D 7 (cM D ad) ad sz S [.ref (ad 0), .int p1]) (va_Qi (fun (r : Int32) (S1 : vS) => (r, S1) = (x_X5_append S p1)) (bW D 7 (cM D ad) ad (aW 7 ad sz)) (aW 7 ad sz)) 0 0 (aW 7 ad sz) := by
  refine x_met (own := RX5) (cc := cX5_append) (maxL := 2) (ret := (some .int)) (Qc := fun A => va_Qi (fun (r : Int32) (S1 : vS) => (r, S1) = (x_X5_append S p1)) (bW D 7 (cM D ad) ad A) A) rfl ⟨by decide +kernel, rfl, Nat.le_of_ble_eq_true rfl⟩ ?_
  intro p e s mm args below meth c A ls B hW hl hls
  have hx := B.1.1
  have hb := B.1.2.1
  have hin_X5 : ∀ w ∈ wsX50, w ∈ wsX5_append := fun w h => List.mem_cons_of_mem _ (List.mem_append_right _ h)
  have k_145 := B.1.2.2.2.2 (.fieldLink RX5 145 "JointLoansModel" "typed" "I") (by decide +kernel)
  have k_19 := B.1.2.2.2.2 (.fieldLink RX5 19 "JointLoansModel" "text" "[I") (by decide +kernel)
  have k_28 := B.1.2.2.2.2 (.fieldLink RX5 28 "JointLoansModel" "thrown" "I") (by decide +kernel)
  have zk := x_X5_append.eq_1 S p1
  have hl : lv_has ls 2 [(0, .ref (ad 0)), (1, .int p1)] := hl
  refine lv_aload_n hx hb dX5_append_0 rfl (lv_at hl 0 rfl) ?_
  refine lv_iconst (v := 0) hx hb dX5_append_1 (by decide) ?_
  refine x_put B hW (by decide) cls5 hin_X5 6 (by decide) cM_o rfl (ty := .int) (by decide +kernel) rfl rfl (Nat.le_of_ble_eq_true rfl) (j := 6) pO_6 k_28 dX5_append_2 (fun H locs S_2 he_2 hW => ?_)
  have zk := nm_at zk he_2
  have hf_S_2_0_5_61 : vp_in (S_2 0 5) 61 := by rw [he_2, st_at, if_neg (by rintro ⟨h1, h2⟩; omega)]; exact hty
  have hf_S_2_0_6_1 : vp_in (S_2 0 6) 1 := by rw [he_2, st_at, if_pos ⟨rfl, rfl⟩]; exact isN_vin (isN_lit 0 (by decide)) (by decide) (by decide)
  refine lv_iload_n hx hb dX5_append_5 rfl (lv_at hl 1 rfl) ?_
  refine lv_bipush (v := 33) hx hb dX5_append_6 (by decide) ?_
  refine lv_bipush (v := 126) hx hb dX5_append_8 (by decide) ?_
  refine x_calli hW (x_runS B hW (As := [.int p1, .int 33, .int 126]) (rest := []) (c_X5_in (D := D) (ad := ad) l _ S_2 p1 33 126) (va_cwS 3 B.1.2.2.2.2 gX5_append_X5_in rfl rfl rfl hd_X5_in.2 ⟨Nat.le_of_ble_eq_true rfl, Nat.le_of_ble_eq_true rfl⟩) rfl hls (Nat.le_of_ble_eq_true rfl) dX5_append_10 ⟨Nat.zero_le _, Nat.zero_le _⟩) (fun r_10 S_10 H locs he hW => ?_)
  obtain ⟨hr_10, hs, hz_10⟩ := he
  rw [hs] at hW
  have zk := nm_at zk hr_10
  refine lv_if_ne (tgt := 22) hx hb dX5_append_13 (by decide) (fun c_13 => ?_) (fun c_13 => ?_)
  · have zk := zk.trans (if_neg c_13)
    refine lv_aload_n hx hb dX5_append_22 rfl (lv_at hl 0 rfl) ?_
    refine x_get B hW (by decide) cM_o cls5 hin_X5 5 (by decide) (v := .int (S_2 0 5)) rfl k_145 dX5_append_23 ?_
    refine lv_bipush (v := 60) hx hb dX5_append_26 (by decide) ?_
    refine lv_icmp_ne (tgt := 37) hx hb dX5_append_28 (by decide) (fun c_28 => ?_) (fun c_28 => ?_)
    · have zk := zk.trans (if_neg c_28)
      refine lv_aload_n hx hb dX5_append_37 rfl (lv_at hl 0 rfl) ?_
      refine x_get B hW (by decide) cM_o cls5 hin_X5 4 (by decide) (v := .ref (ad 4)) rfl k_19 dX5_append_38 ?_
      refine lv_aload_n hx hb dX5_append_41 rfl (lv_at hl 0 rfl) ?_
      refine x_get B hW (by decide) cM_o cls5 hin_X5 5 (by decide) (v := .int (S_2 0 5)) rfl k_145 dX5_append_42 ?_
      refine lv_iload_n hx hb dX5_append_45 rfl (lv_at hl 1 rfl) ?_
      refine x_iast B hW (by decide) (fun _ => cM_4) (isN_var (vin_ne hf_S_2_0_5_61 c_28) (by decide)) (by decide) (by decide) dX5_append_46 (fun H locs S_46 he_46 hW => ?_)
      have zk := nm_at zk he_46
      have hf_S_46_0_5_61 : vp_in (S_46 0 5) 61 := by rw [he_46, st_at, if_neg (by rintro ⟨h1, h2⟩; omega)]; exact hf_S_2_0_5_61
      have hf_S_46_0_6_1 : vp_in (S_46 0 6) 1 := by rw [he_46, st_at, if_neg (by rintro ⟨h1, h2⟩; omega)]; exact hf_S_2_0_6_1
      have hf_S_46_0_5_60 : vp_in (S_46 0 5) 60 := by rw [he_46, st_at, if_neg (by rintro ⟨h1, h2⟩; omega)]; exact (vin_ne hf_S_2_0_5_61 c_28)
      refine lv_aload_n hx hb dX5_append_47 rfl (lv_at hl 0 rfl) ?_
      refine lv_dup hx hb dX5_append_48 rfl ?_
      refine x_get B hW (by decide) cM_o cls5 hin_X5 5 (by decide) (v := .int (S_46 0 5)) rfl k_145 dX5_append_49 ?_
      refine lv_iconst (v := 1) hx hb dX5_append_52 (by decide) ?_
      refine lv_iadd hx hb dX5_append_53 ?_
      refine x_put B hW (by decide) cls5 hin_X5 5 (by decide) cM_o rfl (ty := .int) (by decide +kernel) rfl rfl (Nat.le_of_ble_eq_true rfl) (j := 5) pO_5 k_145 dX5_append_54 (fun H locs S_54 he_54 hW => ?_)
      have zk := nm_at zk he_54
      have hf_S_54_0_6_1 : vp_in (S_54 0 6) 1 := by rw [he_54, st_at, if_neg (by rintro ⟨h1, h2⟩; omega)]; exact hf_S_46_0_6_1
      have hf_S_54_0_5_61 : vp_in (S_54 0 5) 61 := by rw [he_54, st_at, if_pos ⟨rfl, rfl⟩]; exact isN_vin (isN_add (isN_var hf_S_46_0_5_60 (by decide)) (isN_lit 1 (by decide)) (by decide)) (by decide) (by decide)
      refine lv_aload_n hx hb dX5_append_57 rfl (lv_at hl 0 rfl) ?_
      refine x_get B hW (by decide) cM_o cls5 hin_X5 5 (by decide) (v := .int (S_54 0 5)) rfl k_145 dX5_append_58 ?_
      exact x_iret B hW zk.symm dX5_append_61
    · have zk := zk.trans (if_pos c_28)
      refine lv_aload_n hx hb dX5_append_31 rfl (lv_at hl 0 rfl) ?_
      refine lv_iconst (v := 2) hx hb dX5_append_32 (by decide) ?_
      refine x_calli hW (x_runV B hW (As := [.int 2]) (rest := []) (by decide) cM_o cls5 (c_X5_fails (D := D) (ad := ad) l _ S_2 2) (cwV 1 B.1.2.2.2.2 gX5_append_X5_fails rfl rfl rfl hd_X5_fails ⟨Nat.le_of_ble_eq_true rfl, Nat.le_of_ble_eq_true rfl⟩) rfl hls (Nat.le_of_ble_eq_true rfl) dX5_append_33 ⟨Nat.zero_le _, Nat.zero_le _⟩) (fun r_33 S_33 H locs he hW => ?_)
      have hr_33 := he
      have zk := nmp_at zk hr_33
      have he_33 : S_33 = (x_X5_fails S_2 2).2 := by rw [← hr_33]
      exact x_iret B hW zk.symm dX5_append_36
  · have zk := zk.trans (if_pos c_13)
    refine lv_aload_n hx hb dX5_append_16 rfl (lv_at hl 0 rfl) ?_
    refine lv_iconst (v := 1) hx hb dX5_append_17 (by decide) ?_
    refine x_calli hW (x_runV B hW (As := [.int 1]) (rest := []) (by decide) cM_o cls5 (c_X5_fails (D := D) (ad := ad) l _ S_2 1) (cwV 1 B.1.2.2.2.2 gX5_append_X5_fails rfl rfl rfl hd_X5_fails ⟨Nat.le_of_ble_eq_true rfl, Nat.le_of_ble_eq_true rfl⟩) rfl hls (Nat.le_of_ble_eq_true rfl) dX5_append_18 ⟨Nat.zero_le _, Nat.zero_le _⟩) (fun r_18 S_18 H locs he hW => ?_)
    have hr_18 := he
    have zk := nmp_at zk hr_18
    have he_18 : S_18 = (x_X5_fails S_2 1).2 := by rw [← hr_18]
    exact x_iret B hW zk.symm dX5_append_21

def x_X5_clearBuffer (S : vS) : (Int32 × vS) := nm (st S 0 6 0) (fun S_2 => nm ((S_2 0 5)) (fun x_9 => nm (st S_2 0 5 0) (fun S_12 => (x_9, S_12))))
theorem hd_X5_clearBuffer : yX5_clearBuffer.cls = RX5 ∧ yX5_clearBuffer.cls ≠ "java/lang/invoke/MethodHandle" ∧ yX5_clearBuffer.cls ≠ "java/lang/invoke/VarHandle" ∧ (parseMethodDescriptor yX5_clearBuffer.desc).map (fun d => d.parameters.length) = some 0 := by decide +kernel
set_option maxHeartbeats 4000000 in
set_option maxRecDepth 100000 in
theorem c_X5_clearBuffer {D : va_G} {ad : Nat → Nat} (l : Launch) (sz : Nat) (S : vS) : Met l yX5_clearBuffer wsX5_clearBuffer (rmD 0) (pW D 7 (cM D ad) ad sz S [.ref (ad 0)]) (va_Qi (fun (r : Int32) (S1 : vS) => (r, S1) = (x_X5_clearBuffer S)) (bW D 7 (cM D ad) ad (aW 7 ad sz)) (aW 7 ad sz)) 0 0 (aW 7 ad sz) := by
  refine x_met (own := RX5) (cc := cX5_clearBuffer) (maxL := 2) (ret := (some .int)) (Qc := fun A => va_Qi (fun (r : Int32) (S1 : vS) => (r, S1) = (x_X5_clearBuffer S)) (bW D 7 (cM D ad) ad A) A) rfl ⟨by decide +kernel, rfl, Nat.le_of_ble_eq_true rfl⟩ ?_
  intro p e s mm args below meth c A ls B hW hl hls
  have hx := B.1.1
  have hb := B.1.2.1
  have hin_X5 : ∀ w ∈ wsX50, w ∈ wsX5_clearBuffer := fun w h => List.mem_cons_of_mem _ (List.mem_append_right _ h)
  have k_145 := B.1.2.2.2.2 (.fieldLink RX5 145 "JointLoansModel" "typed" "I") (by decide +kernel)
  have k_28 := B.1.2.2.2.2 (.fieldLink RX5 28 "JointLoansModel" "thrown" "I") (by decide +kernel)
  have zk := x_X5_clearBuffer.eq_1 S
  have hl : lv_has ls 2 [(0, .ref (ad 0))] := hl
  refine lv_aload_n hx hb dX5_clearBuffer_0 rfl (lv_at hl 0 rfl) ?_
  refine lv_iconst (v := 0) hx hb dX5_clearBuffer_1 (by decide) ?_
  refine x_put B hW (by decide) cls5 hin_X5 6 (by decide) cM_o rfl (ty := .int) (by decide +kernel) rfl rfl (Nat.le_of_ble_eq_true rfl) (j := 6) pO_6 k_28 dX5_clearBuffer_2 (fun H locs S_2 he_2 hW => ?_)
  have zk := nm_at zk he_2
  have hf_S_2_0_6_1 : vp_in (S_2 0 6) 1 := by rw [he_2, st_at, if_pos ⟨rfl, rfl⟩]; exact isN_vin (isN_lit 0 (by decide)) (by decide) (by decide)
  refine lv_aload_n hx hb dX5_clearBuffer_5 rfl (lv_at hl 0 rfl) ?_
  refine x_get B hW (by decide) cM_o cls5 hin_X5 5 (by decide) (v := .int (S_2 0 5)) rfl k_145 dX5_clearBuffer_6 ?_
  refine lv_topi (fun x_9 ex_9 => ?_)
  have zk := nm_at zk ex_9
  refine lv_istore_n (lv' := [(1, .int x_9), (0, .ref (ad 0))]) hx hb dX5_clearBuffer_9 rfl hl (by decide) rfl (fun ls hl => ?_)
  have hls := hl.1
  refine lv_aload_n hx hb dX5_clearBuffer_10 rfl (lv_at hl 1 rfl) ?_
  refine lv_iconst (v := 0) hx hb dX5_clearBuffer_11 (by decide) ?_
  refine x_put B hW (by decide) cls5 hin_X5 5 (by decide) cM_o rfl (ty := .int) (by decide +kernel) rfl rfl (Nat.le_of_ble_eq_true rfl) (j := 5) pO_5 k_145 dX5_clearBuffer_12 (fun H locs S_12 he_12 hW => ?_)
  have zk := nm_at zk he_12
  have hf_S_12_0_6_1 : vp_in (S_12 0 6) 1 := by rw [he_12, st_at, if_neg (by rintro ⟨h1, h2⟩; omega)]; exact hf_S_2_0_6_1
  have hf_S_12_0_5_1 : vp_in (S_12 0 5) 1 := by rw [he_12, st_at, if_pos ⟨rfl, rfl⟩]; exact isN_vin (isN_lit 0 (by decide)) (by decide) (by decide)
  refine lv_iload_n hx hb dX5_clearBuffer_15 rfl (lv_at hl 0 rfl) ?_
  exact x_iret B hW zk.symm dX5_clearBuffer_16

def x_X5_isAt (S : vS) (p1 : Int32) (p2 : Int32) : Int32 := if (S 0 5) ≤ (S 0 7) then 0 else nm (x_X5_in S (S 4 (S 0 7).toNatClampNeg) p1 p2) (fun r_22 => if r_22 = 0 then 0 else 1)
theorem hd_X5_isAt : yX5_isAt.cls = RX5 ∧ yX5_isAt.cls ≠ "java/lang/invoke/MethodHandle" ∧ yX5_isAt.cls ≠ "java/lang/invoke/VarHandle" ∧ (parseMethodDescriptor yX5_isAt.desc).map (fun d => d.parameters.length) = some 2 := by decide +kernel
set_option maxHeartbeats 4000000 in
set_option maxRecDepth 100000 in
theorem c_X5_isAt {D : va_G} {ad : Nat → Nat} (l : Launch) (sz : Nat) (S : vS) (p1 : Int32) (p2 : Int32) (hTI : TI S) : Met l yX5_isAt wsX5_isAt (rmD 1) (pW D 7 (cM D ad) ad sz S [.ref (ad 0), .int p1, .int p2]) (va_Qi (fun (r : Int32) (S1 : vS) => r = (x_X5_isAt S p1 p2) ∧ S1 = S ∧ (r = 0 ∨ r = 1)) (bW D 7 (cM D ad) ad (aW 7 ad sz)) (aW 7 ad sz)) 0 0 (aW 7 ad sz) := by
  refine x_met (own := RX5) (cc := cX5_isAt) (maxL := 3) (ret := (some .boolean)) (Qc := fun A => va_Qi (fun (r : Int32) (S1 : vS) => r = (x_X5_isAt S p1 p2) ∧ S1 = S ∧ (r = 0 ∨ r = 1)) (bW D 7 (cM D ad) ad A) A) rfl ⟨by decide +kernel, rfl, Nat.le_of_ble_eq_true rfl⟩ ?_
  intro p e s mm args below meth c A ls B hW hl hls
  have hx := B.1.1
  have hb := B.1.2.1
  have hin_X5 : ∀ w ∈ wsX50, w ∈ wsX5_isAt := fun w h => List.mem_cons_of_mem _ (List.mem_append_right _ h)
  have k_145 := B.1.2.2.2.2 (.fieldLink RX5 145 "JointLoansModel" "typed" "I") (by decide +kernel)
  have k_148 := B.1.2.2.2.2 (.fieldLink RX5 148 "JointLoansModel" "at" "I") (by decide +kernel)
  have k_19 := B.1.2.2.2.2 (.fieldLink RX5 19 "JointLoansModel" "text" "[I") (by decide +kernel)
  have zk := x_X5_isAt.eq_1 S p1 p2
  have hl : lv_has ls 3 [(0, .ref (ad 0)), (1, .int p1), (2, .int p2)] := hl
  refine lv_aload_n hx hb dX5_isAt_0 rfl (lv_at hl 0 rfl) ?_
  refine x_get B hW (by decide) cM_o cls5 hin_X5 7 (by decide) (v := .int (S 0 7)) rfl k_148 dX5_isAt_1 ?_
  refine lv_aload_n hx hb dX5_isAt_4 rfl (lv_at hl 0 rfl) ?_
  refine x_get B hW (by decide) cM_o cls5 hin_X5 5 (by decide) (v := .int (S 0 5)) rfl k_145 dX5_isAt_5 ?_
  refine lv_icmp_ge (tgt := 32) hx hb dX5_isAt_8 (by decide) (fun c_8 => ?_) (fun c_8 => ?_)
  · have zk := zk.trans (if_pos c_8)
    refine lv_iconst (v := 0) hx hb dX5_isAt_32 (by decide) ?_
    exact x_zret B hW (Or.inl rfl) ⟨zk.symm, rfl, (Or.inl rfl)⟩ dX5_isAt_33
  · have zk := zk.trans (if_neg c_8)
    refine lv_aload_n hx hb dX5_isAt_11 rfl (lv_at hl 0 rfl) ?_
    refine x_get B hW (by decide) cM_o cls5 hin_X5 4 (by decide) (v := .ref (ad 4)) rfl k_19 dX5_isAt_12 ?_
    refine lv_aload_n hx hb dX5_isAt_15 rfl (lv_at hl 0 rfl) ?_
    refine x_get B hW (by decide) cM_o cls5 hin_X5 7 (by decide) (v := .int (S 0 7)) rfl k_148 dX5_isAt_16 ?_
    refine x_iald B hW (by decide) cM_4 (isN_var (TI.at hTI c_8) (by decide)) (by decide) (by decide) dX5_isAt_19 ?_
    refine lv_iload_n hx hb dX5_isAt_20 rfl (lv_at hl 1 rfl) ?_
    refine lv_iload_n hx hb dX5_isAt_21 rfl (lv_at hl 2 rfl) ?_
    refine x_calli hW (x_runS B hW (As := [.int (S 4 (S 0 7).toNatClampNeg), .int p1, .int p2]) (rest := []) (c_X5_in (D := D) (ad := ad) l _ S (S 4 (S 0 7).toNatClampNeg) p1 p2) (va_cwS 3 B.1.2.2.2.2 gX5_isAt_X5_in rfl rfl rfl hd_X5_in.2 ⟨Nat.le_of_ble_eq_true rfl, Nat.le_of_ble_eq_true rfl⟩) rfl hls (Nat.le_of_ble_eq_true rfl) dX5_isAt_22 ⟨Nat.zero_le _, Nat.zero_le _⟩) (fun r_22 S_22 H locs he hW => ?_)
    obtain ⟨hr_22, hs, hz_22⟩ := he
    rw [hs] at hW
    have zk := nm_at zk hr_22
    refine lv_if_eq (tgt := 32) hx hb dX5_isAt_25 (by decide) (fun c_25 => ?_) (fun c_25 => ?_)
    · have zk := zk.trans (if_pos c_25)
      refine lv_iconst (v := 0) hx hb dX5_isAt_32 (by decide) ?_
      exact x_zret B hW (Or.inl rfl) ⟨zk.symm, rfl, (Or.inl rfl)⟩ dX5_isAt_33
    · have zk := zk.trans (if_neg c_25)
      refine lv_iconst (v := 1) hx hb dX5_isAt_28 (by decide) ?_
      refine lv_goto (tgt := 33) hx hb dX5_isAt_29 (by decide) ?_
      exact x_zret B hW (Or.inr rfl) ⟨zk.symm, rfl, (Or.inr rfl)⟩ dX5_isAt_33
theorem isAt_at {S : vS} {a b r : Int32} (hr : r = x_X5_isAt S a b) (h : ¬ r = 0) : ¬ S 0 5 ≤ S 0 7 := by
  intro c
  rw [hr] at h
  unfold x_X5_isAt at h
  rw [if_pos c] at h
  exact absurd rfl h

def x_X5_stops (S : vS) : (Int32 × vS) := if (S 0 5) ≤ (S 0 7) then nm (st S 0 8 0) (fun S_17 => (0, S_17)) else nm (st S 0 8 1) (fun S_17 => (0, S_17))
theorem hd_X5_stops : yX5_stops.cls = RX5 ∧ yX5_stops.cls ≠ "java/lang/invoke/MethodHandle" ∧ yX5_stops.cls ≠ "java/lang/invoke/VarHandle" ∧ (parseMethodDescriptor yX5_stops.desc).map (fun d => d.parameters.length) = some 0 := by decide +kernel
set_option maxHeartbeats 4000000 in
set_option maxRecDepth 100000 in
theorem c_X5_stops {D : va_G} {ad : Nat → Nat} (l : Launch) (sz : Nat) (S : vS) : Met l yX5_stops wsX5_stops (rmD 0) (pW D 7 (cM D ad) ad sz S [.ref (ad 0)]) (va_Qi (fun (r : Int32) (S1 : vS) => (r, S1) = (x_X5_stops S) ∧ (r = 0 ∨ r = 1)) (bW D 7 (cM D ad) ad (aW 7 ad sz)) (aW 7 ad sz)) 0 0 (aW 7 ad sz) := by
  refine x_met (own := RX5) (cc := cX5_stops) (maxL := 1) (ret := (some .boolean)) (Qc := fun A => va_Qi (fun (r : Int32) (S1 : vS) => (r, S1) = (x_X5_stops S) ∧ (r = 0 ∨ r = 1)) (bW D 7 (cM D ad) ad A) A) rfl ⟨by decide +kernel, rfl, Nat.le_of_ble_eq_true rfl⟩ ?_
  intro p e s mm args below meth c A ls B hW hl hls
  have hx := B.1.1
  have hb := B.1.2.1
  have hin_X5 : ∀ w ∈ wsX50, w ∈ wsX5_stops := fun w h => List.mem_cons_of_mem _ (List.mem_append_right _ h)
  have k_145 := B.1.2.2.2.2 (.fieldLink RX5 145 "JointLoansModel" "typed" "I") (by decide +kernel)
  have k_148 := B.1.2.2.2.2 (.fieldLink RX5 148 "JointLoansModel" "at" "I") (by decide +kernel)
  have k_151 := B.1.2.2.2.2 (.fieldLink RX5 151 "JointLoansModel" "isFault" "Z") (by decide +kernel)
  have zk := x_X5_stops.eq_1 S
  have hl : lv_has ls 1 [(0, .ref (ad 0))] := hl
  refine lv_aload_n hx hb dX5_stops_0 rfl (lv_at hl 0 rfl) ?_
  refine lv_aload_n hx hb dX5_stops_1 rfl (lv_at hl 0 rfl) ?_
  refine x_get B hW (by decide) cM_o cls5 hin_X5 7 (by decide) (v := .int (S 0 7)) rfl k_148 dX5_stops_2 ?_
  refine lv_aload_n hx hb dX5_stops_5 rfl (lv_at hl 0 rfl) ?_
  refine x_get B hW (by decide) cM_o cls5 hin_X5 5 (by decide) (v := .int (S 0 5)) rfl k_145 dX5_stops_6 ?_
  refine lv_icmp_ge (tgt := 16) hx hb dX5_stops_9 (by decide) (fun c_9 => ?_) (fun c_9 => ?_)
  · have zk := zk.trans (if_pos c_9)
    refine lv_iconst (v := 0) hx hb dX5_stops_16 (by decide) ?_
    refine x_put B hW (by decide) cls5 hin_X5 8 (by decide) cM_o rfl (ty := .boolean) (by decide +kernel) (nar_z (Or.inl rfl)) (fit_z (Or.inl rfl)) (Nat.le_of_ble_eq_true rfl) (j := 8) (pO_8 (Or.inl rfl)) k_151 dX5_stops_17 (fun H locs S_17 he_17 hW => ?_)
    have zk := nm_at zk he_17
    have hf_S_17_0_8_1 : vp_in (S_17 0 8) 1 := by rw [he_17, st_at, if_pos ⟨rfl, rfl⟩]; exact isN_vin (isN_lit 0 (by decide)) (by decide) (by decide)
    refine lv_iconst (v := 0) hx hb dX5_stops_20 (by decide) ?_
    exact x_zret B hW (Or.inl rfl) ⟨zk.symm, (Or.inl rfl)⟩ dX5_stops_21
  · have zk := zk.trans (if_neg c_9)
    refine lv_iconst (v := 1) hx hb dX5_stops_12 (by decide) ?_
    refine lv_goto (tgt := 17) hx hb dX5_stops_13 (by decide) ?_
    refine x_put B hW (by decide) cls5 hin_X5 8 (by decide) cM_o rfl (ty := .boolean) (by decide +kernel) (nar_z (Or.inr rfl)) (fit_z (Or.inr rfl)) (Nat.le_of_ble_eq_true rfl) (j := 8) (pO_8 (Or.inr rfl)) k_151 dX5_stops_17 (fun H locs S_17 he_17 hW => ?_)
    have zk := nm_at zk he_17
    have hf_S_17_0_8_2 : vp_in (S_17 0 8) 2 := by rw [he_17, st_at, if_pos ⟨rfl, rfl⟩]; exact isN_vin (isN_lit 1 (by decide)) (by decide) (by decide)
    refine lv_iconst (v := 0) hx hb dX5_stops_20 (by decide) ?_
    exact x_zret B hW (Or.inl rfl) ⟨zk.symm, (Or.inl rfl)⟩ dX5_stops_21
theorem ad_stops {S : vS} {K : Int} (h : TI S) : PP S K (x_X5_stops S) := by
  unfold x_X5_stops
  try simp only [nm_eq, nmp_eq]
  split <;> exact PP.zero (AD.z h (by decide))
theorem TI_stops {S : vS} (h : TI S) : TI (x_X5_stops S).2 := (ad_stops (K := 0) h).1.1
theorem tp_stops {S S0 : vS} (h : TP S0 S) : TP S0 (x_X5_stops S).2 := by
  unfold x_X5_stops
  try simp only [nm_eq, nmp_eq]
  repeat' split
  all_goals repeat (first | (with_reducible assumption) | (with_reducible apply TP.five) | (with_reducible refine TP.z ?_ (by decide)))

def x_X5_isSign (S : vS) (p1 : Int32) : (Int32 × vS) := nm (x_X5_isAt S p1 p1) (fun r_3 => if r_3 = 0 then nmp (x_X5_stops S) (fun r_10 S_10 => (r_10, S_10)) else nm (st S 0 7 ((S 0 7) + 1)) (fun S_21 => (1, S_21)))
theorem hd_X5_isSign : yX5_isSign.cls = RX5 ∧ yX5_isSign.cls ≠ "java/lang/invoke/MethodHandle" ∧ yX5_isSign.cls ≠ "java/lang/invoke/VarHandle" ∧ (parseMethodDescriptor yX5_isSign.desc).map (fun d => d.parameters.length) = some 1 := by decide +kernel
set_option maxHeartbeats 4000000 in
set_option maxRecDepth 100000 in
theorem c_X5_isSign {D : va_G} {ad : Nat → Nat} (l : Launch) (sz : Nat) (S : vS) (p1 : Int32) (hTI : TI S) : Met l yX5_isSign wsX5_isSign (rmD 2) (pW D 7 (cM D ad) ad sz S [.ref (ad 0), .int p1]) (va_Qi (fun (r : Int32) (S1 : vS) => (r, S1) = (x_X5_isSign S p1) ∧ (r = 0 ∨ r = 1)) (bW D 7 (cM D ad) ad (aW 7 ad sz)) (aW 7 ad sz)) 0 0 (aW 7 ad sz) := by
  refine x_met (own := RX5) (cc := cX5_isSign) (maxL := 2) (ret := (some .boolean)) (Qc := fun A => va_Qi (fun (r : Int32) (S1 : vS) => (r, S1) = (x_X5_isSign S p1) ∧ (r = 0 ∨ r = 1)) (bW D 7 (cM D ad) ad A) A) rfl ⟨by decide +kernel, rfl, Nat.le_of_ble_eq_true rfl⟩ ?_
  intro p e s mm args below meth c A ls B hW hl hls
  have hx := B.1.1
  have hb := B.1.2.1
  have hin_X5 : ∀ w ∈ wsX50, w ∈ wsX5_isSign := fun w h => List.mem_cons_of_mem _ (List.mem_append_right _ h)
  have k_148 := B.1.2.2.2.2 (.fieldLink RX5 148 "JointLoansModel" "at" "I") (by decide +kernel)
  have zk := x_X5_isSign.eq_1 S p1
  have hl : lv_has ls 2 [(0, .ref (ad 0)), (1, .int p1)] := hl
  refine lv_aload_n hx hb dX5_isSign_0 rfl (lv_at hl 0 rfl) ?_
  refine lv_iload_n hx hb dX5_isSign_1 rfl (lv_at hl 1 rfl) ?_
  refine lv_iload_n hx hb dX5_isSign_2 rfl (lv_at hl 1 rfl) ?_
  refine x_calli hW (x_runV B hW (As := [.int p1, .int p1]) (rest := []) (by decide) cM_o cls5 (c_X5_isAt (D := D) (ad := ad) l _ S p1 p1 hTI) (cwV 2 B.1.2.2.2.2 gX5_isSign_X5_isAt rfl rfl rfl hd_X5_isAt ⟨Nat.le_of_ble_eq_true rfl, Nat.le_of_ble_eq_true rfl⟩) rfl hls (Nat.le_of_ble_eq_true rfl) dX5_isSign_3 ⟨Nat.zero_le _, Nat.zero_le _⟩) (fun r_3 S_3 H locs he hW => ?_)
  obtain ⟨hr_3, hs, hz_3⟩ := he
  rw [hs] at hW
  have zk := nm_at zk hr_3
  refine lv_if_ne (tgt := 14) hx hb dX5_isSign_6 (by decide) (fun c_6 => ?_) (fun c_6 => ?_)
  · have zk := zk.trans (if_neg c_6)
    refine lv_aload_n hx hb dX5_isSign_14 rfl (lv_at hl 0 rfl) ?_
    refine lv_dup hx hb dX5_isSign_15 rfl ?_
    refine x_get B hW (by decide) cM_o cls5 hin_X5 7 (by decide) (v := .int (S 0 7)) rfl k_148 dX5_isSign_16 ?_
    refine lv_iconst (v := 1) hx hb dX5_isSign_19 (by decide) ?_
    refine lv_iadd hx hb dX5_isSign_20 ?_
    refine x_put B hW (by decide) cls5 hin_X5 7 (by decide) cM_o rfl (ty := .int) (by decide +kernel) rfl rfl (Nat.le_of_ble_eq_true rfl) (j := 7) pO_7 k_148 dX5_isSign_21 (fun H locs S_21 he_21 hW => ?_)
    have zk := nm_at zk he_21
    have hTI_21 : TI S_21 := by rw [he_21]; exact TI_at hTI (isAt_at hr_3 c_6)
    have hf_S_21_0_11_16 : vp_in (S_21 0 11) 16 := by rw [he_21, st_at, if_neg (by rintro ⟨h1, h2⟩; omega)]; exact (hTI).2.1
    have hf_S_21_0_5_61 : vp_in (S_21 0 5) 61 := by rw [he_21, st_at, if_neg (by rintro ⟨h1, h2⟩; omega)]; exact (hTI).1
    have hf_S_21_0_7_61 : vp_in (S_21 0 7) 61 := by rw [he_21, st_at, if_pos ⟨rfl, rfl⟩]; exact isN_vin (isN_add (isN_var (TI.at hTI (isAt_at hr_3 c_6)) (by decide)) (isN_lit 1 (by decide)) (by decide)) (by decide) (by decide)
    refine lv_iconst (v := 1) hx hb dX5_isSign_24 (by decide) ?_
    exact x_zret B hW (Or.inr rfl) ⟨zk.symm, (Or.inr rfl)⟩ dX5_isSign_25
  · have zk := zk.trans (if_pos c_6)
    refine lv_aload_n hx hb dX5_isSign_9 rfl (lv_at hl 0 rfl) ?_
    refine x_calli hW (x_runV B hW (As := []) (rest := []) (by decide) cM_o cls5 (c_X5_stops (D := D) (ad := ad) l _ S) (cwV 0 B.1.2.2.2.2 gX5_isSign_X5_stops rfl rfl rfl hd_X5_stops ⟨Nat.le_of_ble_eq_true rfl, Nat.le_of_ble_eq_true rfl⟩) rfl hls (Nat.le_of_ble_eq_true rfl) dX5_isSign_10 ⟨Nat.zero_le _, Nat.zero_le _⟩) (fun r_10 S_10 H locs he hW => ?_)
    obtain ⟨hr_10, hz_10⟩ := he
    have zk := nmp_at zk hr_10
    have he_10 : S_10 = (x_X5_stops S).2 := by rw [← hr_10]
    have hTI_10 : TI S_10 := by rw [he_10]; exact TI_stops hTI
    exact x_zret B hW hz_10 ⟨zk.symm, hz_10⟩ dX5_isSign_13
theorem ad_isSign {S : vS} {a : Int32} (h : TI S) : PP S 1 (x_X5_isSign S a) := by
  unfold x_X5_isSign
  try simp only [nm_eq, nmp_eq]
  by_cases c : x_X5_isAt S a a = 0
  · rw [if_pos c]; exact ad_stops h
  · rw [if_neg c]; exact PP.one (AD.at h (isAt_at rfl c)) (by decide) (by decide)
theorem TI_isSign {S : vS} {a : Int32} (h : TI S) : TI (x_X5_isSign S a).2 := (ad_isSign h).1.1
theorem tp_isSign {S S0 : vS} {a : Int32} (h : TP S0 S) : TP S0 (x_X5_isSign S a).2 := by
  unfold x_X5_isSign
  try simp only [nm_eq, nmp_eq]
  repeat' split
  all_goals repeat (first | (with_reducible assumption) | (with_reducible apply tp_stops) | (with_reducible apply TP.five) | (with_reducible refine TP.z ?_ (by decide)))

def x_X5_begins_L5 : Nat → vS → Int32 → Int32 → Int32 → Int32 → Int32 → Int32
  | 0, S, _, _, _, _, _ => 0
  | n + 1, S, p1, p2, p3, v4, v3 => if p1 ≤ 0 then 0 else if p3 < v3 then 0 else if v4 < p2 then nm ((v3 * 10)) (fun x_26 => nm (((10 * v4) + 9)) (fun x_35 => x_X5_begins_L5 n S p1 p2 p3 (x_35) (x_26))) else 1
def x_X5_begins (S : vS) (p1 : Int32) (p2 : Int32) (p3 : Int32) : Int32 := x_X5_begins_L5 (2002) S p1 p2 p3 (p1) (p1)
theorem hd_X5_begins : yX5_begins.cls = RX5 ∧ yX5_begins.cls ≠ "java/lang/invoke/MethodHandle" ∧ yX5_begins.cls ≠ "java/lang/invoke/VarHandle" ∧ (parseMethodDescriptor yX5_begins.desc).map (fun d => d.parameters.length) = some 3 := by decide +kernel
set_option maxHeartbeats 4000000 in
set_option maxRecDepth 100000 in
theorem w_X5_begins_L5 {D : va_G} {ad : Nat → Nat} (l : Launch) {p : Program} {e : Env} {s : State} {mm : MethodId} {args : Array Value} {below : List Frame} {meth : Method} {c : Code} {A : Nat → Prop} (B : Cx p mm c cX5_begins 5 s args wsX5_begins RX5 meth (some .boolean) D) (S : vS) (z : Int32) (p1 : Int32) (p2 : Int32) (p3 : Int32) (hhi : p3.toInt ≤ 2000) : ∀ (n : Nat) (v4 : Int32) (v3 : Int32) (H : Heap) (locs : List Loc) (ls : Array Slot), ((0 < n ∧ p3.toInt + 2 ≤ v3.toInt + (n : Int) ∧ 1 ≤ v3.toInt) ∧ p3.toInt ≤ 2000) ∨ (p1 ≤ 0 ∧ 0 < n) → Wd D 7 (cM D ad) ad A s.heap S H locs → lv_has ls 5 [(4, .int v4), (3, .int v3), (0, .int p1), (1, .int p2), (2, .int p3)] → ls.size = 5 → z = x_X5_begins_L5 n S p1 p2 p3 v4 v3 → W p l e (rmD 0) s mm args below meth c H locs 0 0 (MQ below (va_Qi (fun (r : Int32) (S1 : vS) => r = z ∧ S1 = S ∧ (r = 0 ∨ r = 1)) (bW D 7 (cM D ad) ad A) A) args s 0 0 A) (F0 mm 5 ls []) := by
  have hx := B.1.1
  have hb := B.1.2.1
  intro n
  induction n with
  | zero =>
    intro v4 v3 H locs ls hms
    omega
  | succ n ih =>
    intro v4 v3 H locs ls hms hW hl hls zk
    have zk := zk.trans (x_X5_begins_L5.eq_2 _ _ _ _ _ _ _ )
    refine lv_iload_n hx hb dX5_begins_5 rfl (lv_at hl 2 rfl) ?_
    refine lv_if_le (tgt := 40) hx hb dX5_begins_6 (by decide) (fun c_6 => ?_) (fun c_6 => ?_)
    · have zk := zk.trans (if_pos c_6)
      refine lv_iconst (v := 0) hx hb dX5_begins_40 (by decide) ?_
      exact x_zret B hW (Or.inl rfl) ⟨zk.symm, rfl, (Or.inl rfl)⟩ dX5_begins_41
    · have zk := zk.trans (if_neg c_6)
      refine lv_iload_n hx hb dX5_begins_9 rfl (lv_at hl 1 rfl) ?_
      refine lv_iload_n hx hb dX5_begins_10 rfl (lv_at hl 4 rfl) ?_
      refine lv_icmp_gt (tgt := 40) hx hb dX5_begins_11 (by decide) (fun c_11 => ?_) (fun c_11 => ?_)
      · have zk := zk.trans (if_pos c_11)
        refine lv_iconst (v := 0) hx hb dX5_begins_40 (by decide) ?_
        exact x_zret B hW (Or.inl rfl) ⟨zk.symm, rfl, (Or.inl rfl)⟩ dX5_begins_41
      · have zk := zk.trans (if_neg c_11)
        refine lv_iload hx hb dX5_begins_14 (lv_at hl 0 rfl) ?_
        refine lv_iload_n hx hb dX5_begins_16 rfl (lv_at hl 3 rfl) ?_
        refine lv_icmp_lt (tgt := 22) hx hb dX5_begins_17 (by decide) (fun c_17 => ?_) (fun c_17 => ?_)
        · have zk := zk.trans (if_pos c_17)
          refine lv_iload_n hx hb dX5_begins_22 rfl (lv_at hl 1 rfl) ?_
          refine lv_bipush (v := 10) hx hb dX5_begins_23 (by decide) ?_
          refine lv_imul hx hb dX5_begins_25 ?_
          refine lv_topi (fun x_26 ex_26 => ?_)
          have zk := nm_at zk ex_26
          refine lv_istore_n (lv' := [(3, .int x_26), (4, .int v4), (0, .int p1), (1, .int p2), (2, .int p3)]) hx hb dX5_begins_26 rfl hl (by decide) rfl (fun ls hl => ?_)
          have hls := hl.1
          refine lv_bipush (v := 10) hx hb dX5_begins_27 (by decide) ?_
          refine lv_iload hx hb dX5_begins_29 (lv_at hl 1 rfl) ?_
          refine lv_imul hx hb dX5_begins_31 ?_
          refine lv_bipush (v := 9) hx hb dX5_begins_32 (by decide) ?_
          refine lv_iadd hx hb dX5_begins_34 ?_
          refine lv_topi (fun x_35 ex_35 => ?_)
          have zk := nm_at zk ex_35
          refine lv_istore (lv' := [(4, .int x_35), (3, .int x_26), (0, .int p1), (1, .int p2), (2, .int p3)]) hx hb dX5_begins_35 hl (by decide) rfl (fun ls hl => ?_)
          have hls := hl.1
          refine lv_goto (tgt := 5) hx hb dX5_begins_37 (by decide) ?_
          exact ih (x_35) (x_26)  _ _ _ (Or.inl (by rw [ex_26]; exact bg_step (hms.resolve_right (fun z => c_6 z.1)) c_11)) hW (lv_sub hl [0, 1, 2, 3, 4] rfl) hls zk
        · have zk := zk.trans (if_neg c_17)
          refine lv_iconst (v := 1) hx hb dX5_begins_20 (by decide) ?_
          exact x_zret B hW (Or.inr rfl) ⟨zk.symm, rfl, (Or.inr rfl)⟩ dX5_begins_21
set_option maxHeartbeats 4000000 in
set_option maxRecDepth 100000 in
theorem c_X5_begins {D : va_G} {ad : Nat → Nat} (l : Launch) (sz : Nat) (S : vS) (p1 : Int32) (p2 : Int32) (p3 : Int32) (hhi : p3.toInt ≤ 2000) : Met l yX5_begins wsX5_begins (rmD 0) (pW D 7 (cM D ad) ad sz S [.int p1, .int p2, .int p3]) (va_Qi (fun (r : Int32) (S1 : vS) => r = (x_X5_begins S p1 p2 p3) ∧ S1 = S ∧ (r = 0 ∨ r = 1)) (bW D 7 (cM D ad) ad (aW 7 ad sz)) (aW 7 ad sz)) 0 0 (aW 7 ad sz) := by
  refine x_met (own := RX5) (cc := cX5_begins) (maxL := 5) (ret := (some .boolean)) (Qc := fun A => va_Qi (fun (r : Int32) (S1 : vS) => r = (x_X5_begins S p1 p2 p3) ∧ S1 = S ∧ (r = 0 ∨ r = 1)) (bW D 7 (cM D ad) ad A) A) rfl ⟨by decide +kernel, rfl, Nat.le_of_ble_eq_true rfl⟩ ?_
  intro p e s mm args below meth c A ls B hW hl hls
  have hx := B.1.1
  have hb := B.1.2.1
  have zk := x_X5_begins.eq_1 S p1 p2 p3
  have hl : lv_has ls 5 [(0, .int p1), (1, .int p2), (2, .int p3)] := hl
  refine lv_iload_n hx hb dX5_begins_0 rfl (lv_at hl 0 rfl) ?_
  refine lv_istore_n (lv' := [(3, .int p1), (0, .int p1), (1, .int p2), (2, .int p3)]) hx hb dX5_begins_1 rfl hl (by decide) rfl (fun ls hl => ?_)
  have hls := hl.1
  refine lv_iload_n hx hb dX5_begins_2 rfl (lv_at hl 1 rfl) ?_
  refine lv_istore (lv' := [(4, .int p1), (3, .int p1), (0, .int p1), (1, .int p2), (2, .int p3)]) hx hb dX5_begins_3 hl (by decide) rfl (fun ls hl => ?_)
  have hls := hl.1
  exact w_X5_begins_L5 l B S _ p1 p2 p3 hhi (2002) (p1) (p1)  _ _ _ (bg_first hhi) hW (lv_sub hl [0, 1, 2, 3, 4] rfl) hls zk

def x_X5_isNumber_L5 : Nat → vS → Int32 → Int32 → (Int32 × vS)
  | 0, S, _, _ => (0, S)
  | n + 1, S, p1, p2 => nm (x_X5_isAt S 48 57) (fun r_10 => if r_10 = 0 then nm (x_X5_in S (S 0 9) p1 p2) (fun r_87 => if r_87 = 0 then nmp (x_X5_stops S) (fun r_94 S_94 => if r_94 = 0 then (0, S_94) else (1, S_94)) else (1, S)) else nm (x_X5_begins S (((10 * (S 0 9)) + (S 4 (S 0 7).toNatClampNeg)) - 48) p1 p2) (fun r_38 => if r_38 = 0 then nm (x_X5_in S (S 0 9) p1 p2) (fun r_87 => if r_87 = 0 then nmp (x_X5_stops S) (fun r_94 S_94 => if r_94 = 0 then (0, S_94) else (1, S_94)) else (1, S)) else nm (st S 0 9 (((10 * (S 0 9)) + (S 4 (S 0 7).toNatClampNeg)) - 48)) (fun S_65 => nm (st S_65 0 7 ((S_65 0 7) + 1)) (fun S_75 => x_X5_isNumber_L5 n S_75 p1 p2))))
def x_X5_isNumber (S : vS) (p1 : Int32) (p2 : Int32) : (Int32 × vS) := nm (st S 0 9 0) (fun S_2 => x_X5_isNumber_L5 (62) S_2 p1 p2)
theorem hd_X5_isNumber : yX5_isNumber.cls = RX5 ∧ yX5_isNumber.cls ≠ "java/lang/invoke/MethodHandle" ∧ yX5_isNumber.cls ≠ "java/lang/invoke/VarHandle" ∧ (parseMethodDescriptor yX5_isNumber.desc).map (fun d => d.parameters.length) = some 2 := by decide +kernel
set_option maxHeartbeats 4000000 in
set_option maxRecDepth 100000 in
theorem w_X5_isNumber_L5 {D : va_G} {ad : Nat → Nat} (l : Launch) {p : Program} {e : Env} {s : State} {mm : MethodId} {args : Array Value} {below : List Frame} {meth : Method} {c : Code} {A : Nat → Prop} (B : Cx p mm c cX5_isNumber 3 s args wsX5_isNumber RX5 meth (some .boolean) D) (z : (Int32 × vS)) (p1 : Int32) (p2 : Int32) (hhi : p2.toInt ≤ 2000) : ∀ (n : Nat) (S : vS) (H : Heap) (locs : List Loc) (ls : Array Slot), (S 0 5).toInt < (S 0 7).toInt + (n : Int) → TI S → Wd D 7 (cM D ad) ad A s.heap S H locs → lv_has ls 3 [(0, .ref (ad 0)), (1, .int p1), (2, .int p2)] → ls.size = 3 → z = x_X5_isNumber_L5 n S p1 p2 → W p l e (rmD 2) s mm args below meth c H locs 0 0 (MQ below (va_Qi (fun (r : Int32) (S1 : vS) => (r, S1) = z ∧ (r = 0 ∨ r = 1)) (bW D 7 (cM D ad) ad A) A) args s 0 0 A) (F0 mm 5 ls []) := by
  have hx := B.1.1
  have hb := B.1.2.1
  have hin_X5 : ∀ w ∈ wsX50, w ∈ wsX5_isNumber := fun w h => List.mem_cons_of_mem _ (List.mem_append_right _ h)
  have k_148 := B.1.2.2.2.2 (.fieldLink RX5 148 "JointLoansModel" "at" "I") (by decide +kernel)
  have k_160 := B.1.2.2.2.2 (.fieldLink RX5 160 "JointLoansModel" "value" "I") (by decide +kernel)
  have k_19 := B.1.2.2.2.2 (.fieldLink RX5 19 "JointLoansModel" "text" "[I") (by decide +kernel)
  intro n
  induction n with
  | zero =>
    intro S H locs ls hms hTI
    exact absurd hTI.2.2.2 (by omega)
  | succ n ih =>
    intro S H locs ls hms hTI hW hl hls zk
    have zk := zk.trans (x_X5_isNumber_L5.eq_2 _ _ _ _ )
    refine lv_aload_n hx hb dX5_isNumber_5 rfl (lv_at hl 0 rfl) ?_
    refine lv_bipush (v := 48) hx hb dX5_isNumber_6 (by decide) ?_
    refine lv_bipush (v := 57) hx hb dX5_isNumber_8 (by decide) ?_
    refine x_calli hW (x_runV B hW (As := [.int 48, .int 57]) (rest := []) (by decide) cM_o cls5 (c_X5_isAt (D := D) (ad := ad) l _ S 48 57 hTI) (cwV 2 B.1.2.2.2.2 gX5_isNumber_X5_isAt rfl rfl rfl hd_X5_isAt ⟨Nat.le_of_ble_eq_true rfl, Nat.le_of_ble_eq_true rfl⟩) rfl hls (Nat.le_of_ble_eq_true rfl) dX5_isNumber_10 ⟨Nat.zero_le _, Nat.zero_le _⟩) (fun r_10 S_10 H locs he hW => ?_)
    obtain ⟨hr_10, hs, hz_10⟩ := he
    rw [hs] at hW
    have zk := nm_at zk hr_10
    refine lv_if_eq (tgt := 81) hx hb dX5_isNumber_13 (by decide) (fun c_13 => ?_) (fun c_13 => ?_)
    · have zk := zk.trans (if_pos c_13)
      refine lv_aload_n hx hb dX5_isNumber_81 rfl (lv_at hl 0 rfl) ?_
      refine x_get B hW (by decide) cM_o cls5 hin_X5 9 (by decide) (v := .int (S 0 9)) rfl k_160 dX5_isNumber_82 ?_
      refine lv_iload_n hx hb dX5_isNumber_85 rfl (lv_at hl 1 rfl) ?_
      refine lv_iload_n hx hb dX5_isNumber_86 rfl (lv_at hl 2 rfl) ?_
      refine x_calli hW (x_runS B hW (As := [.int (S 0 9), .int p1, .int p2]) (rest := []) (c_X5_in (D := D) (ad := ad) l _ S (S 0 9) p1 p2) (va_cwS 3 B.1.2.2.2.2 gX5_isNumber_X5_in rfl rfl rfl hd_X5_in.2 ⟨Nat.le_of_ble_eq_true rfl, Nat.le_of_ble_eq_true rfl⟩) rfl hls (Nat.le_of_ble_eq_true rfl) dX5_isNumber_87 ⟨Nat.zero_le _, Nat.zero_le _⟩) (fun r_87 S_87 H locs he hW => ?_)
      obtain ⟨hr_87, hs, hz_87⟩ := he
      rw [hs] at hW
      have zk := nm_at zk hr_87
      refine lv_if_ne (tgt := 100) hx hb dX5_isNumber_90 (by decide) (fun c_90 => ?_) (fun c_90 => ?_)
      · have zk := zk.trans (if_neg c_90)
        refine lv_iconst (v := 1) hx hb dX5_isNumber_100 (by decide) ?_
        refine lv_goto (tgt := 105) hx hb dX5_isNumber_101 (by decide) ?_
        exact x_zret B hW (Or.inr rfl) ⟨zk.symm, (Or.inr rfl)⟩ dX5_isNumber_105
      · have zk := zk.trans (if_pos c_90)
        refine lv_aload_n hx hb dX5_isNumber_93 rfl (lv_at hl 0 rfl) ?_
        refine x_calli hW (x_runV B hW (As := []) (rest := []) (by decide) cM_o cls5 (c_X5_stops (D := D) (ad := ad) l _ S) (cwV 0 B.1.2.2.2.2 gX5_isNumber_X5_stops rfl rfl rfl hd_X5_stops ⟨Nat.le_of_ble_eq_true rfl, Nat.le_of_ble_eq_true rfl⟩) rfl hls (Nat.le_of_ble_eq_true rfl) dX5_isNumber_94 ⟨Nat.zero_le _, Nat.zero_le _⟩) (fun r_94 S_94 H locs he hW => ?_)
        obtain ⟨hr_94, hz_94⟩ := he
        have zk := nmp_at zk hr_94
        have he_94 : S_94 = (x_X5_stops S).2 := by rw [← hr_94]
        have hTI_94 : TI S_94 := by rw [he_94]; exact TI_stops hTI
        refine lv_if_eq (tgt := 104) hx hb dX5_isNumber_97 (by decide) (fun c_97 => ?_) (fun c_97 => ?_)
        · have zk := zk.trans (if_pos c_97)
          refine lv_iconst (v := 0) hx hb dX5_isNumber_104 (by decide) ?_
          exact x_zret B hW (Or.inl rfl) ⟨zk.symm, (Or.inl rfl)⟩ dX5_isNumber_105
        · have zk := zk.trans (if_neg c_97)
          refine lv_iconst (v := 1) hx hb dX5_isNumber_100 (by decide) ?_
          refine lv_goto (tgt := 105) hx hb dX5_isNumber_101 (by decide) ?_
          exact x_zret B hW (Or.inr rfl) ⟨zk.symm, (Or.inr rfl)⟩ dX5_isNumber_105
    · have zk := zk.trans (if_neg c_13)
      refine lv_bipush (v := 10) hx hb dX5_isNumber_16 (by decide) ?_
      refine lv_aload_n hx hb dX5_isNumber_18 rfl (lv_at hl 0 rfl) ?_
      refine x_get B hW (by decide) cM_o cls5 hin_X5 9 (by decide) (v := .int (S 0 9)) rfl k_160 dX5_isNumber_19 ?_
      refine lv_imul hx hb dX5_isNumber_22 ?_
      refine lv_aload_n hx hb dX5_isNumber_23 rfl (lv_at hl 0 rfl) ?_
      refine x_get B hW (by decide) cM_o cls5 hin_X5 4 (by decide) (v := .ref (ad 4)) rfl k_19 dX5_isNumber_24 ?_
      refine lv_aload_n hx hb dX5_isNumber_27 rfl (lv_at hl 0 rfl) ?_
      refine x_get B hW (by decide) cM_o cls5 hin_X5 7 (by decide) (v := .int (S 0 7)) rfl k_148 dX5_isNumber_28 ?_
      refine x_iald B hW (by decide) cM_4 (isN_var (TI.at hTI (isAt_at hr_10 c_13)) (by decide)) (by decide) (by decide) dX5_isNumber_31 ?_
      refine lv_iadd hx hb dX5_isNumber_32 ?_
      refine lv_bipush (v := 48) hx hb dX5_isNumber_33 (by decide) ?_
      refine lv_isub hx hb dX5_isNumber_35 ?_
      refine lv_iload_n hx hb dX5_isNumber_36 rfl (lv_at hl 1 rfl) ?_
      refine lv_iload_n hx hb dX5_isNumber_37 rfl (lv_at hl 2 rfl) ?_
      refine x_calli hW (x_runS B hW (As := [.int (((10 * (S 0 9)) + (S 4 (S 0 7).toNatClampNeg)) - 48), .int p1, .int p2]) (rest := []) (c_X5_begins (D := D) (ad := ad) l _ S (((10 * (S 0 9)) + (S 4 (S 0 7).toNatClampNeg)) - 48) p1 p2 hhi) (va_cwS 3 B.1.2.2.2.2 gX5_isNumber_X5_begins rfl rfl rfl hd_X5_begins.2 ⟨Nat.le_of_ble_eq_true rfl, Nat.le_of_ble_eq_true rfl⟩) rfl hls (Nat.le_of_ble_eq_true rfl) dX5_isNumber_38 ⟨Nat.zero_le _, Nat.zero_le _⟩) (fun r_38 S_38 H locs he hW => ?_)
      obtain ⟨hr_38, hs, hz_38⟩ := he
      rw [hs] at hW
      have zk := nm_at zk hr_38
      refine lv_if_eq (tgt := 81) hx hb dX5_isNumber_41 (by decide) (fun c_41 => ?_) (fun c_41 => ?_)
      · have zk := zk.trans (if_pos c_41)
        refine lv_aload_n hx hb dX5_isNumber_81 rfl (lv_at hl 0 rfl) ?_
        refine x_get B hW (by decide) cM_o cls5 hin_X5 9 (by decide) (v := .int (S 0 9)) rfl k_160 dX5_isNumber_82 ?_
        refine lv_iload_n hx hb dX5_isNumber_85 rfl (lv_at hl 1 rfl) ?_
        refine lv_iload_n hx hb dX5_isNumber_86 rfl (lv_at hl 2 rfl) ?_
        refine x_calli hW (x_runS B hW (As := [.int (S 0 9), .int p1, .int p2]) (rest := []) (c_X5_in (D := D) (ad := ad) l _ S (S 0 9) p1 p2) (va_cwS 3 B.1.2.2.2.2 gX5_isNumber_X5_in rfl rfl rfl hd_X5_in.2 ⟨Nat.le_of_ble_eq_true rfl, Nat.le_of_ble_eq_true rfl⟩) rfl hls (Nat.le_of_ble_eq_true rfl) dX5_isNumber_87 ⟨Nat.zero_le _, Nat.zero_le _⟩) (fun r_87 S_87 H locs he hW => ?_)
        obtain ⟨hr_87, hs, hz_87⟩ := he
        rw [hs] at hW
        have zk := nm_at zk hr_87
        refine lv_if_ne (tgt := 100) hx hb dX5_isNumber_90 (by decide) (fun c_90 => ?_) (fun c_90 => ?_)
        · have zk := zk.trans (if_neg c_90)
          refine lv_iconst (v := 1) hx hb dX5_isNumber_100 (by decide) ?_
          refine lv_goto (tgt := 105) hx hb dX5_isNumber_101 (by decide) ?_
          exact x_zret B hW (Or.inr rfl) ⟨zk.symm, (Or.inr rfl)⟩ dX5_isNumber_105
        · have zk := zk.trans (if_pos c_90)
          refine lv_aload_n hx hb dX5_isNumber_93 rfl (lv_at hl 0 rfl) ?_
          refine x_calli hW (x_runV B hW (As := []) (rest := []) (by decide) cM_o cls5 (c_X5_stops (D := D) (ad := ad) l _ S) (cwV 0 B.1.2.2.2.2 gX5_isNumber_X5_stops rfl rfl rfl hd_X5_stops ⟨Nat.le_of_ble_eq_true rfl, Nat.le_of_ble_eq_true rfl⟩) rfl hls (Nat.le_of_ble_eq_true rfl) dX5_isNumber_94 ⟨Nat.zero_le _, Nat.zero_le _⟩) (fun r_94 S_94 H locs he hW => ?_)
          obtain ⟨hr_94, hz_94⟩ := he
          have zk := nmp_at zk hr_94
          have he_94 : S_94 = (x_X5_stops S).2 := by rw [← hr_94]
          have hTI_94 : TI S_94 := by rw [he_94]; exact TI_stops hTI
          refine lv_if_eq (tgt := 104) hx hb dX5_isNumber_97 (by decide) (fun c_97 => ?_) (fun c_97 => ?_)
          · have zk := zk.trans (if_pos c_97)
            refine lv_iconst (v := 0) hx hb dX5_isNumber_104 (by decide) ?_
            exact x_zret B hW (Or.inl rfl) ⟨zk.symm, (Or.inl rfl)⟩ dX5_isNumber_105
          · have zk := zk.trans (if_neg c_97)
            refine lv_iconst (v := 1) hx hb dX5_isNumber_100 (by decide) ?_
            refine lv_goto (tgt := 105) hx hb dX5_isNumber_101 (by decide) ?_
            exact x_zret B hW (Or.inr rfl) ⟨zk.symm, (Or.inr rfl)⟩ dX5_isNumber_105
      · have zk := zk.trans (if_neg c_41)
        refine lv_aload_n hx hb dX5_isNumber_44 rfl (lv_at hl 0 rfl) ?_
        refine lv_bipush (v := 10) hx hb dX5_isNumber_45 (by decide) ?_
        refine lv_aload_n hx hb dX5_isNumber_47 rfl (lv_at hl 0 rfl) ?_
        refine x_get B hW (by decide) cM_o cls5 hin_X5 9 (by decide) (v := .int (S 0 9)) rfl k_160 dX5_isNumber_48 ?_
        refine lv_imul hx hb dX5_isNumber_51 ?_
        refine lv_aload_n hx hb dX5_isNumber_52 rfl (lv_at hl 0 rfl) ?_
        refine x_get B hW (by decide) cM_o cls5 hin_X5 4 (by decide) (v := .ref (ad 4)) rfl k_19 dX5_isNumber_53 ?_
        refine lv_aload_n hx hb dX5_isNumber_56 rfl (lv_at hl 0 rfl) ?_
        refine x_get B hW (by decide) cM_o cls5 hin_X5 7 (by decide) (v := .int (S 0 7)) rfl k_148 dX5_isNumber_57 ?_
        refine x_iald B hW (by decide) cM_4 (isN_var (TI.at hTI (isAt_at hr_10 c_13)) (by decide)) (by decide) (by decide) dX5_isNumber_60 ?_
        refine lv_iadd hx hb dX5_isNumber_61 ?_
        refine lv_bipush (v := 48) hx hb dX5_isNumber_62 (by decide) ?_
        refine lv_isub hx hb dX5_isNumber_64 ?_
        refine x_put B hW (by decide) cls5 hin_X5 9 (by decide) cM_o rfl (ty := .int) (by decide +kernel) rfl rfl (Nat.le_of_ble_eq_true rfl) (j := 9) pO_9 k_160 dX5_isNumber_65 (fun H locs S_65 he_65 hW => ?_)
        have zk := nm_at zk he_65
        have hTI_65 : TI S_65 := by rw [he_65]; exact TI_st0 hTI (by decide)
        have hAT_65 : ¬ (S_65 0 5) ≤ (S_65 0 7) := by rw [he_65, st_at, st_at, if_neg (by rintro ⟨h1, h2⟩; omega), if_neg (by rintro ⟨h1, h2⟩; omega)]; exact (isAt_at hr_10 c_13)
        have hf_S_65_0_11_16 : vp_in (S_65 0 11) 16 := by rw [he_65, st_at, if_neg (by rintro ⟨h1, h2⟩; omega)]; exact (hTI).2.1
        have hf_S_65_0_5_61 : vp_in (S_65 0 5) 61 := by rw [he_65, st_at, if_neg (by rintro ⟨h1, h2⟩; omega)]; exact (hTI).1
        have hf_S_65_0_7_60 : vp_in (S_65 0 7) 60 := by rw [he_65, st_at, if_neg (by rintro ⟨h1, h2⟩; omega)]; exact (TI.at hTI (isAt_at hr_10 c_13))
        refine lv_aload_n hx hb dX5_isNumber_68 rfl (lv_at hl 0 rfl) ?_
        refine lv_dup hx hb dX5_isNumber_69 rfl ?_
        refine x_get B hW (by decide) cM_o cls5 hin_X5 7 (by decide) (v := .int (S_65 0 7)) rfl k_148 dX5_isNumber_70 ?_
        refine lv_iconst (v := 1) hx hb dX5_isNumber_73 (by decide) ?_
        refine lv_iadd hx hb dX5_isNumber_74 ?_
        refine x_put B hW (by decide) cls5 hin_X5 7 (by decide) cM_o rfl (ty := .int) (by decide +kernel) rfl rfl (Nat.le_of_ble_eq_true rfl) (j := 7) pO_7 k_148 dX5_isNumber_75 (fun H locs S_75 he_75 hW => ?_)
        have zk := nm_at zk he_75
        have hTI_75 : TI S_75 := by rw [he_75]; exact TI_at hTI_65 hAT_65
        have hf_S_75_0_11_16 : vp_in (S_75 0 11) 16 := by rw [he_75, st_at, if_neg (by rintro ⟨h1, h2⟩; omega)]; exact hf_S_65_0_11_16
        have hf_S_75_0_5_61 : vp_in (S_75 0 5) 61 := by rw [he_75, st_at, if_neg (by rintro ⟨h1, h2⟩; omega)]; exact hf_S_65_0_5_61
        have hf_S_75_0_7_61 : vp_in (S_75 0 7) 61 := by rw [he_75, st_at, if_pos ⟨rfl, rfl⟩]; exact isN_vin (isN_add (isN_var hf_S_65_0_7_60 (by decide)) (isN_lit 1 (by decide)) (by decide)) (by decide) (by decide)
        refine lv_goto (tgt := 5) hx hb dX5_isNumber_78 (by decide) ?_
        exact ih  S_75 _ _ _ (ms_step hms he_65 he_75 hTI (isAt_at hr_10 c_13)) hTI_75 hW (lv_sub hl [0, 1, 2] rfl) hls zk
set_option maxHeartbeats 4000000 in
set_option maxRecDepth 100000 in
theorem c_X5_isNumber {D : va_G} {ad : Nat → Nat} (l : Launch) (sz : Nat) (S : vS) (p1 : Int32) (p2 : Int32) (hTI : TI S) (hhi : p2.toInt ≤ 2000) : Met l yX5_isNumber wsX5_isNumber (rmD 2) (pW D 7 (cM D ad) ad sz S [.ref (ad 0), .int p1, .int p2]) (va_Qi (fun (r : Int32) (S1 : vS) => (r, S1) = (x_X5_isNumber S p1 p2) ∧ (r = 0 ∨ r = 1)) (bW D 7 (cM D ad) ad (aW 7 ad sz)) (aW 7 ad sz)) 0 0 (aW 7 ad sz) := by
  refine x_met (own := RX5) (cc := cX5_isNumber) (maxL := 3) (ret := (some .boolean)) (Qc := fun A => va_Qi (fun (r : Int32) (S1 : vS) => (r, S1) = (x_X5_isNumber S p1 p2) ∧ (r = 0 ∨ r = 1)) (bW D 7 (cM D ad) ad A) A) rfl ⟨by decide +kernel, rfl, Nat.le_of_ble_eq_true rfl⟩ ?_
  intro p e s mm args below meth c A ls B hW hl hls
  have hx := B.1.1
  have hb := B.1.2.1
  have hin_X5 : ∀ w ∈ wsX50, w ∈ wsX5_isNumber := fun w h => List.mem_cons_of_mem _ (List.mem_append_right _ h)
  have k_148 := B.1.2.2.2.2 (.fieldLink RX5 148 "JointLoansModel" "at" "I") (by decide +kernel)
  have k_160 := B.1.2.2.2.2 (.fieldLink RX5 160 "JointLoansModel" "value" "I") (by decide +kernel)
  have k_19 := B.1.2.2.2.2 (.fieldLink RX5 19 "JointLoansModel" "text" "[I") (by decide +kernel)
  have zk := x_X5_isNumber.eq_1 S p1 p2
  have hl : lv_has ls 3 [(0, .ref (ad 0)), (1, .int p1), (2, .int p2)] := hl
  refine lv_aload_n hx hb dX5_isNumber_0 rfl (lv_at hl 0 rfl) ?_
  refine lv_iconst (v := 0) hx hb dX5_isNumber_1 (by decide) ?_
  refine x_put B hW (by decide) cls5 hin_X5 9 (by decide) cM_o rfl (ty := .int) (by decide +kernel) rfl rfl (Nat.le_of_ble_eq_true rfl) (j := 9) pO_9 k_160 dX5_isNumber_2 (fun H locs S_2 he_2 hW => ?_)
  have zk := nm_at zk he_2
  have hTI_2 : TI S_2 := by rw [he_2]; exact TI_st0 hTI (by decide)
  have hf_S_2_0_11_16 : vp_in (S_2 0 11) 16 := by rw [he_2, st_at, if_neg (by rintro ⟨h1, h2⟩; omega)]; exact (hTI).2.1
  have hf_S_2_0_5_61 : vp_in (S_2 0 5) 61 := by rw [he_2, st_at, if_neg (by rintro ⟨h1, h2⟩; omega)]; exact (hTI).1
  have hf_S_2_0_9_1 : vp_in (S_2 0 9) 1 := by rw [he_2, st_at, if_pos ⟨rfl, rfl⟩]; exact isN_vin (isN_lit 0 (by decide)) (by decide) (by decide)
  exact w_X5_isNumber_L5 l B  _ p1 p2 hhi (62)  S_2 _ _ _ (ms_first hTI_2) hTI_2 hW (lv_sub hl [0, 1, 2] rfl) hls zk
theorem ad_isNumber_L (a b : Int32) : ∀ (n : Nat) (S : vS), TI S → PP S 0 (x_X5_isNumber_L5 n S a b) := by
  intro n
  induction n with
  | zero => intro S h; exact PP.zero (AD.rf h)
  | succ n ih =>
    intro S h
    rw [x_X5_isNumber_L5]
    try simp only [nm_eq, nmp_eq]
    have e1 : PP S 0 (if x_X5_in S (S 0 9) a b = 0 then nmp (x_X5_stops S) (fun r_94 S_94 => if r_94 = 0 then (0, S_94) else (1, S_94)) else (1, S)) := by
      split
      · exact PP.chain (by decide) (AD.rf h) (ad_stops (K := 0) h) (fun _ _ _ q => PP.zero q) (fun _ _ q => PP.one q (by decide) (by decide))
      · exact PP.one (AD.rf h) (by decide) (by decide)
    by_cases c : x_X5_isAt S 48 57 = 0
    · rw [if_pos c]; exact e1
    · rw [if_neg c]
      split
      · exact e1
      · have h1 := AD.z (j := 9) (x := ((10 * (S 0 9)) + (S 4 (S 0 7).toNatClampNeg)) - 48) h (by decide)
        have h2 := AD.at h1.1 (AT_0 (isAt_at rfl c) (by decide))
        have h3 := ih _ h2.1
        exact ⟨((h1.tr h2).tr h3.1).mono (by decide), fun z => ((h1.tr h2).tr (h3.2 z)).mono (by decide)⟩
theorem ad_isNumber {S : vS} {a b : Int32} (h : TI S) : PP S 0 (x_X5_isNumber S a b) := by
  unfold x_X5_isNumber
  try simp only [nm_eq, nmp_eq]
  have h1 := AD.z (j := 9) (x := 0) h (by decide)
  have h2 := ad_isNumber_L a b 62 _ h1.1
  exact ⟨(h1.tr h2.1).mono (by decide), fun z => (h1.tr (h2.2 z)).mono (by decide)⟩
theorem TI_isNumber {S : vS} {a b : Int32} (h : TI S) : TI (x_X5_isNumber S a b).2 := (ad_isNumber h).1.1
theorem tp_isNumber_L {a b : Int32} : ∀ (n : Nat) (S S0 : vS), TP S0 S → TP S0 (x_X5_isNumber_L5 n S a b).2 := by
  intro n
  induction n with
  | zero => intro S S0 h; exact h
  | succ n ih =>
    intro S S0 h
    rw [x_X5_isNumber_L5]
    try simp only [nm_eq, nmp_eq]
    repeat' split
    all_goals repeat (first | (with_reducible assumption) | (with_reducible apply ih) | (with_reducible apply tp_stops) | (with_reducible refine TP.z ?_ (by decide)))
theorem tp_isNumber {S S0 : vS} {a b : Int32} (h : TP S0 S) : TP S0 (x_X5_isNumber S a b).2 := by
  unfold x_X5_isNumber
  try simp only [nm_eq, nmp_eq]
  exact tp_isNumber_L _ _ _ (h.z (by decide))

def x_X5_isMemberOf (S : vS) : (Int32 × vS) := nm (x_X5_isAt S 48 55) (fun r_5 => if r_5 = 0 then nmp (x_X5_stops S) (fun r_12 S_12 => (r_12, S_12)) else nm (st S 5 ((4 * (S 0 11).toNatClampNeg) + 1) ((S 4 (S 0 7).toNatClampNeg) - 48)) (fun S_40 => nm (st S_40 0 7 ((S_40 0 7) + 1)) (fun S_48 => (1, S_48))))
theorem hd_X5_isMemberOf : yX5_isMemberOf.cls = RX5 ∧ yX5_isMemberOf.cls ≠ "java/lang/invoke/MethodHandle" ∧ yX5_isMemberOf.cls ≠ "java/lang/invoke/VarHandle" ∧ (parseMethodDescriptor yX5_isMemberOf.desc).map (fun d => d.parameters.length) = some 0 := by decide +kernel
set_option maxHeartbeats 4000000 in
set_option maxRecDepth 100000 in
theorem c_X5_isMemberOf {D : va_G} {ad : Nat → Nat} (l : Launch) (sz : Nat) (S : vS) (hTI : TI S) : Met l yX5_isMemberOf wsX5_isMemberOf (rmD 2) (pW D 7 (cM D ad) ad sz S [.ref (ad 0)]) (va_Qi (fun (r : Int32) (S1 : vS) => (r, S1) = (x_X5_isMemberOf S) ∧ (r = 0 ∨ r = 1)) (bW D 7 (cM D ad) ad (aW 7 ad sz)) (aW 7 ad sz)) 0 0 (aW 7 ad sz) := by
  refine x_met (own := RX5) (cc := cX5_isMemberOf) (maxL := 1) (ret := (some .boolean)) (Qc := fun A => va_Qi (fun (r : Int32) (S1 : vS) => (r, S1) = (x_X5_isMemberOf S) ∧ (r = 0 ∨ r = 1)) (bW D 7 (cM D ad) ad A) A) rfl ⟨by decide +kernel, rfl, Nat.le_of_ble_eq_true rfl⟩ ?_
  intro p e s mm args below meth c A ls B hW hl hls
  have hx := B.1.1
  have hb := B.1.2.1
  have hin_X5 : ∀ w ∈ wsX50, w ∈ wsX5_isMemberOf := fun w h => List.mem_cons_of_mem _ (List.mem_append_right _ h)
  have k_148 := B.1.2.2.2.2 (.fieldLink RX5 148 "JointLoansModel" "at" "I") (by decide +kernel)
  have k_166 := B.1.2.2.2.2 (.fieldLink RX5 166 "JointLoansModel" "tolds" "I") (by decide +kernel)
  have k_19 := B.1.2.2.2.2 (.fieldLink RX5 19 "JointLoansModel" "text" "[I") (by decide +kernel)
  have k_22 := B.1.2.2.2.2 (.fieldLink RX5 22 "JointLoansModel" "told" "[I") (by decide +kernel)
  have zk := x_X5_isMemberOf.eq_1 S
  have hl : lv_has ls 1 [(0, .ref (ad 0))] := hl
  refine lv_aload_n hx hb dX5_isMemberOf_0 rfl (lv_at hl 0 rfl) ?_
  refine lv_bipush (v := 48) hx hb dX5_isMemberOf_1 (by decide) ?_
  refine lv_bipush (v := 55) hx hb dX5_isMemberOf_3 (by decide) ?_
  refine x_calli hW (x_runV B hW (As := [.int 48, .int 55]) (rest := []) (by decide) cM_o cls5 (c_X5_isAt (D := D) (ad := ad) l _ S 48 55 hTI) (cwV 2 B.1.2.2.2.2 gX5_isMemberOf_X5_isAt rfl rfl rfl hd_X5_isAt ⟨Nat.le_of_ble_eq_true rfl, Nat.le_of_ble_eq_true rfl⟩) rfl hls (Nat.le_of_ble_eq_true rfl) dX5_isMemberOf_5 ⟨Nat.zero_le _, Nat.zero_le _⟩) (fun r_5 S_5 H locs he hW => ?_)
  obtain ⟨hr_5, hs, hz_5⟩ := he
  rw [hs] at hW
  have zk := nm_at zk hr_5
  refine lv_if_ne (tgt := 16) hx hb dX5_isMemberOf_8 (by decide) (fun c_8 => ?_) (fun c_8 => ?_)
  · have zk := zk.trans (if_neg c_8)
    refine lv_aload_n hx hb dX5_isMemberOf_16 rfl (lv_at hl 0 rfl) ?_
    refine x_get B hW (by decide) cM_o cls5 hin_X5 10 (by decide) (v := .ref (ad 5)) rfl k_22 dX5_isMemberOf_17 ?_
    refine lv_iconst (v := 4) hx hb dX5_isMemberOf_20 (by decide) ?_
    refine lv_aload_n hx hb dX5_isMemberOf_21 rfl (lv_at hl 0 rfl) ?_
    refine x_get B hW (by decide) cM_o cls5 hin_X5 11 (by decide) (v := .int (S 0 11)) rfl k_166 dX5_isMemberOf_22 ?_
    refine lv_imul hx hb dX5_isMemberOf_25 ?_
    refine lv_iconst (v := 1) hx hb dX5_isMemberOf_26 (by decide) ?_
    refine lv_iadd hx hb dX5_isMemberOf_27 ?_
    refine lv_aload_n hx hb dX5_isMemberOf_28 rfl (lv_at hl 0 rfl) ?_
    refine x_get B hW (by decide) cM_o cls5 hin_X5 4 (by decide) (v := .ref (ad 4)) rfl k_19 dX5_isMemberOf_29 ?_
    refine lv_aload_n hx hb dX5_isMemberOf_32 rfl (lv_at hl 0 rfl) ?_
    refine x_get B hW (by decide) cM_o cls5 hin_X5 7 (by decide) (v := .int (S 0 7)) rfl k_148 dX5_isMemberOf_33 ?_
    refine x_iald B hW (by decide) cM_4 (isN_var (TI.at hTI (isAt_at hr_5 c_8)) (by decide)) (by decide) (by decide) dX5_isMemberOf_36 ?_
    refine lv_bipush (v := 48) hx hb dX5_isMemberOf_37 (by decide) ?_
    refine lv_isub hx hb dX5_isMemberOf_39 ?_
    refine x_iast B hW (by decide) (fun _ => cM_5) (isN_add (isN_mul (isN_lit 4 (by decide)) (isN_var (hTI).2.1 (by decide)) (by decide)) (isN_lit 1 (by decide)) (by decide)) (by decide) (by decide) dX5_isMemberOf_40 (fun H locs S_40 he_40 hW => ?_)
    have zk := nm_at zk he_40
    have hTI_40 : TI S_40 := by rw [he_40]; exact TI_stq hTI (by decide)
    have hAT_40 : ¬ (S_40 0 5) ≤ (S_40 0 7) := by rw [he_40, st_at, st_at, if_neg (by rintro ⟨h1, h2⟩; omega), if_neg (by rintro ⟨h1, h2⟩; omega)]; exact (isAt_at hr_5 c_8)
    have hf_S_40_0_11_16 : vp_in (S_40 0 11) 16 := by rw [he_40, st_at, if_neg (by rintro ⟨h1, h2⟩; omega)]; exact (hTI).2.1
    have hf_S_40_0_5_61 : vp_in (S_40 0 5) 61 := by rw [he_40, st_at, if_neg (by rintro ⟨h1, h2⟩; omega)]; exact (hTI).1
    have hf_S_40_0_7_60 : vp_in (S_40 0 7) 60 := by rw [he_40, st_at, if_neg (by rintro ⟨h1, h2⟩; omega)]; exact (TI.at hTI (isAt_at hr_5 c_8))
    refine lv_aload_n hx hb dX5_isMemberOf_41 rfl (lv_at hl 0 rfl) ?_
    refine lv_dup hx hb dX5_isMemberOf_42 rfl ?_
    refine x_get B hW (by decide) cM_o cls5 hin_X5 7 (by decide) (v := .int (S_40 0 7)) rfl k_148 dX5_isMemberOf_43 ?_
    refine lv_iconst (v := 1) hx hb dX5_isMemberOf_46 (by decide) ?_
    refine lv_iadd hx hb dX5_isMemberOf_47 ?_
    refine x_put B hW (by decide) cls5 hin_X5 7 (by decide) cM_o rfl (ty := .int) (by decide +kernel) rfl rfl (Nat.le_of_ble_eq_true rfl) (j := 7) pO_7 k_148 dX5_isMemberOf_48 (fun H locs S_48 he_48 hW => ?_)
    have zk := nm_at zk he_48
    have hTI_48 : TI S_48 := by rw [he_48]; exact TI_at hTI_40 hAT_40
    have hf_S_48_0_11_16 : vp_in (S_48 0 11) 16 := by rw [he_48, st_at, if_neg (by rintro ⟨h1, h2⟩; omega)]; exact hf_S_40_0_11_16
    have hf_S_48_0_5_61 : vp_in (S_48 0 5) 61 := by rw [he_48, st_at, if_neg (by rintro ⟨h1, h2⟩; omega)]; exact hf_S_40_0_5_61
    have hf_S_48_0_7_61 : vp_in (S_48 0 7) 61 := by rw [he_48, st_at, if_pos ⟨rfl, rfl⟩]; exact isN_vin (isN_add (isN_var hf_S_40_0_7_60 (by decide)) (isN_lit 1 (by decide)) (by decide)) (by decide) (by decide)
    refine lv_iconst (v := 1) hx hb dX5_isMemberOf_51 (by decide) ?_
    exact x_zret B hW (Or.inr rfl) ⟨zk.symm, (Or.inr rfl)⟩ dX5_isMemberOf_52
  · have zk := zk.trans (if_pos c_8)
    refine lv_aload_n hx hb dX5_isMemberOf_11 rfl (lv_at hl 0 rfl) ?_
    refine x_calli hW (x_runV B hW (As := []) (rest := []) (by decide) cM_o cls5 (c_X5_stops (D := D) (ad := ad) l _ S) (cwV 0 B.1.2.2.2.2 gX5_isMemberOf_X5_stops rfl rfl rfl hd_X5_stops ⟨Nat.le_of_ble_eq_true rfl, Nat.le_of_ble_eq_true rfl⟩) rfl hls (Nat.le_of_ble_eq_true rfl) dX5_isMemberOf_12 ⟨Nat.zero_le _, Nat.zero_le _⟩) (fun r_12 S_12 H locs he hW => ?_)
    obtain ⟨hr_12, hz_12⟩ := he
    have zk := nmp_at zk hr_12
    have he_12 : S_12 = (x_X5_stops S).2 := by rw [← hr_12]
    have hTI_12 : TI S_12 := by rw [he_12]; exact TI_stops hTI
    exact x_zret B hW hz_12 ⟨zk.symm, hz_12⟩ dX5_isMemberOf_15
theorem ad_isMemberOf {S : vS} (h : TI S) : PP S 1 (x_X5_isMemberOf S) := by
  unfold x_X5_isMemberOf
  try simp only [nm_eq, nmp_eq]
  by_cases c : x_X5_isAt S 48 55 = 0
  · rw [if_pos c]; exact ad_stops h
  · rw [if_neg c]
    have h1 := AD.q (q := 5) (j := ((4 * (S 0 11).toNatClampNeg) + 1)) (x := ((S 4 (S 0 7).toNatClampNeg) - 48)) h (by decide)
    exact PP.one (h1.tr (AD.at h1.1 (AT_q (isAt_at rfl c) (by decide)))) (by decide) (by decide)
theorem TI_isMemberOf {S : vS} (h : TI S) : TI (x_X5_isMemberOf S).2 := (ad_isMemberOf h).1.1
theorem tp_isMemberOf {S S0 : vS} (h : TP S0 S) : TP S0 (x_X5_isMemberOf S).2 := by
  unfold x_X5_isMemberOf
  try simp only [nm_eq, nmp_eq]
  repeat' split
  all_goals repeat (first | (with_reducible assumption) | (with_reducible apply tp_isNumber) | (with_reducible apply tp_isSign) | (with_reducible apply tp_stops) | (with_reducible apply TP.five) | (with_reducible refine TP.z ?_ (by decide)))

def x_X5_isMoney (S : vS) : (Int32 × vS) := nmp (x_X5_isMemberOf S) (fun r_1 S_1 => if r_1 = 0 then nm (st S_1 5 ((4 * (S_1 0 11).toNatClampNeg) + 2) (S_1 0 9)) (fun S_49 => (0, S_49)) else nmp (x_X5_isSign S_1 42) (fun r_10 S_10 => if r_10 = 0 then nm (st S_10 5 ((4 * (S_10 0 11).toNatClampNeg) + 2) (S_10 0 9)) (fun S_49 => (0, S_49)) else nmp (x_X5_isNumber S_10 1 2000) (fun r_21 S_21 => if r_21 = 0 then nm (st S_21 5 ((4 * (S_21 0 11).toNatClampNeg) + 2) (S_21 0 9)) (fun S_49 => (0, S_49)) else nm (st S_21 5 ((4 * (S_21 0 11).toNatClampNeg) + 2) (S_21 0 9)) (fun S_49 => (1, S_49)))))
theorem hd_X5_isMoney : yX5_isMoney.cls = RX5 ∧ yX5_isMoney.cls ≠ "java/lang/invoke/MethodHandle" ∧ yX5_isMoney.cls ≠ "java/lang/invoke/VarHandle" ∧ (parseMethodDescriptor yX5_isMoney.desc).map (fun d => d.parameters.length) = some 0 := by decide +kernel
set_option maxHeartbeats 4000000 in
set_option maxRecDepth 100000 in
theorem c_X5_isMoney {D : va_G} {ad : Nat → Nat} (l : Launch) (sz : Nat) (S : vS) (hTI : TI S) : Met l yX5_isMoney wsX5_isMoney (rmD 3) (pW D 7 (cM D ad) ad sz S [.ref (ad 0)]) (va_Qi (fun (r : Int32) (S1 : vS) => (r, S1) = (x_X5_isMoney S) ∧ (r = 0 ∨ r = 1)) (bW D 7 (cM D ad) ad (aW 7 ad sz)) (aW 7 ad sz)) 0 0 (aW 7 ad sz) := by
  refine x_met (own := RX5) (cc := cX5_isMoney) (maxL := 2) (ret := (some .boolean)) (Qc := fun A => va_Qi (fun (r : Int32) (S1 : vS) => (r, S1) = (x_X5_isMoney S) ∧ (r = 0 ∨ r = 1)) (bW D 7 (cM D ad) ad A) A) rfl ⟨by decide +kernel, rfl, Nat.le_of_ble_eq_true rfl⟩ ?_
  intro p e s mm args below meth c A ls B hW hl hls
  have hx := B.1.1
  have hb := B.1.2.1
  have hin_X5 : ∀ w ∈ wsX50, w ∈ wsX5_isMoney := fun w h => List.mem_cons_of_mem _ (List.mem_append_right _ h)
  have k_160 := B.1.2.2.2.2 (.fieldLink RX5 160 "JointLoansModel" "value" "I") (by decide +kernel)
  have k_166 := B.1.2.2.2.2 (.fieldLink RX5 166 "JointLoansModel" "tolds" "I") (by decide +kernel)
  have k_22 := B.1.2.2.2.2 (.fieldLink RX5 22 "JointLoansModel" "told" "[I") (by decide +kernel)
  have zk := x_X5_isMoney.eq_1 S
  have hl : lv_has ls 2 [(0, .ref (ad 0))] := hl
  refine lv_aload_n hx hb dX5_isMoney_0 rfl (lv_at hl 0 rfl) ?_
  refine x_calli hW (x_runV B hW (As := []) (rest := []) (by decide) cM_o cls5 (c_X5_isMemberOf (D := D) (ad := ad) l _ S hTI) (cwV 0 B.1.2.2.2.2 gX5_isMoney_X5_isMemberOf rfl rfl rfl hd_X5_isMemberOf ⟨Nat.le_of_ble_eq_true rfl, Nat.le_of_ble_eq_true rfl⟩) rfl hls (Nat.le_of_ble_eq_true rfl) dX5_isMoney_1 ⟨Nat.zero_le _, Nat.zero_le _⟩) (fun r_1 S_1 H locs he hW => ?_)
  obtain ⟨hr_1, hz_1⟩ := he
  have zk := nmp_at zk hr_1
  have he_1 : S_1 = (x_X5_isMemberOf S).2 := by rw [← hr_1]
  have hTI_1 : TI S_1 := by rw [he_1]; exact TI_isMemberOf hTI
  refine lv_if_eq (tgt := 31) hx hb dX5_isMoney_4 (by decide) (fun c_4 => ?_) (fun c_4 => ?_)
  · have zk := zk.trans (if_pos c_4)
    refine lv_iconst (v := 0) hx hb dX5_isMoney_31 (by decide) ?_
    refine lv_istore_n (lv' := [(1, .int 0), (0, .ref (ad 0))]) hx hb dX5_isMoney_32 rfl hl (by decide) rfl (fun ls hl => ?_)
    have hls := hl.1
    refine lv_aload_n hx hb dX5_isMoney_33 rfl (lv_at hl 1 rfl) ?_
    refine x_get B hW (by decide) cM_o cls5 hin_X5 10 (by decide) (v := .ref (ad 5)) rfl k_22 dX5_isMoney_34 ?_
    refine lv_iconst (v := 4) hx hb dX5_isMoney_37 (by decide) ?_
    refine lv_aload_n hx hb dX5_isMoney_38 rfl (lv_at hl 1 rfl) ?_
    refine x_get B hW (by decide) cM_o cls5 hin_X5 11 (by decide) (v := .int (S_1 0 11)) rfl k_166 dX5_isMoney_39 ?_
    refine lv_imul hx hb dX5_isMoney_42 ?_
    refine lv_iconst (v := 2) hx hb dX5_isMoney_43 (by decide) ?_
    refine lv_iadd hx hb dX5_isMoney_44 ?_
    refine lv_aload_n hx hb dX5_isMoney_45 rfl (lv_at hl 1 rfl) ?_
    refine x_get B hW (by decide) cM_o cls5 hin_X5 9 (by decide) (v := .int (S_1 0 9)) rfl k_160 dX5_isMoney_46 ?_
    refine x_iast B hW (by decide) (fun _ => cM_5) (isN_add (isN_mul (isN_lit 4 (by decide)) (isN_var (hTI_1).2.1 (by decide)) (by decide)) (isN_lit 2 (by decide)) (by decide)) (by decide) (by decide) dX5_isMoney_49 (fun H locs S_49 he_49 hW => ?_)
    have zk := nm_at zk he_49
    have hTI_49 : TI S_49 := by rw [he_49]; exact TI_stq hTI_1 (by decide)
    have hf_S_49_0_11_16 : vp_in (S_49 0 11) 16 := by rw [he_49, st_at, if_neg (by rintro ⟨h1, h2⟩; omega)]; exact (hTI_1).2.1
    have hf_S_49_0_5_61 : vp_in (S_49 0 5) 61 := by rw [he_49, st_at, if_neg (by rintro ⟨h1, h2⟩; omega)]; exact (hTI_1).1
    refine lv_iload_n hx hb dX5_isMoney_50 rfl (lv_at hl 0 rfl) ?_
    exact x_zret B hW (Or.inl rfl) ⟨zk.symm, (Or.inl rfl)⟩ dX5_isMoney_51
  · have zk := zk.trans (if_neg c_4)
    refine lv_aload_n hx hb dX5_isMoney_7 rfl (lv_at hl 0 rfl) ?_
    refine lv_bipush (v := 42) hx hb dX5_isMoney_8 (by decide) ?_
    refine x_calli hW (x_runV B hW (As := [.int 42]) (rest := []) (by decide) cM_o cls5 (c_X5_isSign (D := D) (ad := ad) l _ S_1 42 hTI_1) (cwV 1 B.1.2.2.2.2 gX5_isMoney_X5_isSign rfl rfl rfl hd_X5_isSign ⟨Nat.le_of_ble_eq_true rfl, Nat.le_of_ble_eq_true rfl⟩) rfl hls (Nat.le_of_ble_eq_true rfl) dX5_isMoney_10 ⟨Nat.zero_le _, Nat.zero_le _⟩) (fun r_10 S_10 H locs he hW => ?_)
    obtain ⟨hr_10, hz_10⟩ := he
    have zk := nmp_at zk hr_10
    have he_10 : S_10 = (x_X5_isSign S_1 42).2 := by rw [← hr_10]
    have hTI_10 : TI S_10 := by rw [he_10]; exact TI_isSign hTI_1
    refine lv_if_eq (tgt := 31) hx hb dX5_isMoney_13 (by decide) (fun c_13 => ?_) (fun c_13 => ?_)
    · have zk := zk.trans (if_pos c_13)
      refine lv_iconst (v := 0) hx hb dX5_isMoney_31 (by decide) ?_
      refine lv_istore_n (lv' := [(1, .int 0), (0, .ref (ad 0))]) hx hb dX5_isMoney_32 rfl hl (by decide) rfl (fun ls hl => ?_)
      have hls := hl.1
      refine lv_aload_n hx hb dX5_isMoney_33 rfl (lv_at hl 1 rfl) ?_
      refine x_get B hW (by decide) cM_o cls5 hin_X5 10 (by decide) (v := .ref (ad 5)) rfl k_22 dX5_isMoney_34 ?_
      refine lv_iconst (v := 4) hx hb dX5_isMoney_37 (by decide) ?_
      refine lv_aload_n hx hb dX5_isMoney_38 rfl (lv_at hl 1 rfl) ?_
      refine x_get B hW (by decide) cM_o cls5 hin_X5 11 (by decide) (v := .int (S_10 0 11)) rfl k_166 dX5_isMoney_39 ?_
      refine lv_imul hx hb dX5_isMoney_42 ?_
      refine lv_iconst (v := 2) hx hb dX5_isMoney_43 (by decide) ?_
      refine lv_iadd hx hb dX5_isMoney_44 ?_
      refine lv_aload_n hx hb dX5_isMoney_45 rfl (lv_at hl 1 rfl) ?_
      refine x_get B hW (by decide) cM_o cls5 hin_X5 9 (by decide) (v := .int (S_10 0 9)) rfl k_160 dX5_isMoney_46 ?_
      refine x_iast B hW (by decide) (fun _ => cM_5) (isN_add (isN_mul (isN_lit 4 (by decide)) (isN_var (hTI_10).2.1 (by decide)) (by decide)) (isN_lit 2 (by decide)) (by decide)) (by decide) (by decide) dX5_isMoney_49 (fun H locs S_49 he_49 hW => ?_)
      have zk := nm_at zk he_49
      have hTI_49 : TI S_49 := by rw [he_49]; exact TI_stq hTI_10 (by decide)
      have hf_S_49_0_11_16 : vp_in (S_49 0 11) 16 := by rw [he_49, st_at, if_neg (by rintro ⟨h1, h2⟩; omega)]; exact (hTI_10).2.1
      have hf_S_49_0_5_61 : vp_in (S_49 0 5) 61 := by rw [he_49, st_at, if_neg (by rintro ⟨h1, h2⟩; omega)]; exact (hTI_10).1
      refine lv_iload_n hx hb dX5_isMoney_50 rfl (lv_at hl 0 rfl) ?_
      exact x_zret B hW (Or.inl rfl) ⟨zk.symm, (Or.inl rfl)⟩ dX5_isMoney_51
    · have zk := zk.trans (if_neg c_13)
      refine lv_aload_n hx hb dX5_isMoney_16 rfl (lv_at hl 0 rfl) ?_
      refine lv_iconst (v := 1) hx hb dX5_isMoney_17 (by decide) ?_
      refine lv_sipush (v := 2000) hx hb dX5_isMoney_18 (by decide) ?_
      refine x_calli hW (x_runV B hW (As := [.int 1, .int 2000]) (rest := []) (by decide) cM_o cls5 (c_X5_isNumber (D := D) (ad := ad) l _ S_10 1 2000 hTI_10 (by decide)) (cwV 2 B.1.2.2.2.2 gX5_isMoney_X5_isNumber rfl rfl rfl hd_X5_isNumber ⟨Nat.le_of_ble_eq_true rfl, Nat.le_of_ble_eq_true rfl⟩) rfl hls (Nat.le_of_ble_eq_true rfl) dX5_isMoney_21 ⟨Nat.zero_le _, Nat.zero_le _⟩) (fun r_21 S_21 H locs he hW => ?_)
      obtain ⟨hr_21, hz_21⟩ := he
      have zk := nmp_at zk hr_21
      have he_21 : S_21 = (x_X5_isNumber S_10 1 2000).2 := by rw [← hr_21]
      have hTI_21 : TI S_21 := by rw [he_21]; exact TI_isNumber hTI_10
      refine lv_if_eq (tgt := 31) hx hb dX5_isMoney_24 (by decide) (fun c_24 => ?_) (fun c_24 => ?_)
      · have zk := zk.trans (if_pos c_24)
        refine lv_iconst (v := 0) hx hb dX5_isMoney_31 (by decide) ?_
        refine lv_istore_n (lv' := [(1, .int 0), (0, .ref (ad 0))]) hx hb dX5_isMoney_32 rfl hl (by decide) rfl (fun ls hl => ?_)
        have hls := hl.1
        refine lv_aload_n hx hb dX5_isMoney_33 rfl (lv_at hl 1 rfl) ?_
        refine x_get B hW (by decide) cM_o cls5 hin_X5 10 (by decide) (v := .ref (ad 5)) rfl k_22 dX5_isMoney_34 ?_
        refine lv_iconst (v := 4) hx hb dX5_isMoney_37 (by decide) ?_
        refine lv_aload_n hx hb dX5_isMoney_38 rfl (lv_at hl 1 rfl) ?_
        refine x_get B hW (by decide) cM_o cls5 hin_X5 11 (by decide) (v := .int (S_21 0 11)) rfl k_166 dX5_isMoney_39 ?_
        refine lv_imul hx hb dX5_isMoney_42 ?_
        refine lv_iconst (v := 2) hx hb dX5_isMoney_43 (by decide) ?_
        refine lv_iadd hx hb dX5_isMoney_44 ?_
        refine lv_aload_n hx hb dX5_isMoney_45 rfl (lv_at hl 1 rfl) ?_
        refine x_get B hW (by decide) cM_o cls5 hin_X5 9 (by decide) (v := .int (S_21 0 9)) rfl k_160 dX5_isMoney_46 ?_
        refine x_iast B hW (by decide) (fun _ => cM_5) (isN_add (isN_mul (isN_lit 4 (by decide)) (isN_var (hTI_21).2.1 (by decide)) (by decide)) (isN_lit 2 (by decide)) (by decide)) (by decide) (by decide) dX5_isMoney_49 (fun H locs S_49 he_49 hW => ?_)
        have zk := nm_at zk he_49
        have hTI_49 : TI S_49 := by rw [he_49]; exact TI_stq hTI_21 (by decide)
        have hf_S_49_0_11_16 : vp_in (S_49 0 11) 16 := by rw [he_49, st_at, if_neg (by rintro ⟨h1, h2⟩; omega)]; exact (hTI_21).2.1
        have hf_S_49_0_5_61 : vp_in (S_49 0 5) 61 := by rw [he_49, st_at, if_neg (by rintro ⟨h1, h2⟩; omega)]; exact (hTI_21).1
        refine lv_iload_n hx hb dX5_isMoney_50 rfl (lv_at hl 0 rfl) ?_
        exact x_zret B hW (Or.inl rfl) ⟨zk.symm, (Or.inl rfl)⟩ dX5_isMoney_51
      · have zk := zk.trans (if_neg c_24)
        refine lv_iconst (v := 1) hx hb dX5_isMoney_27 (by decide) ?_
        refine lv_goto (tgt := 32) hx hb dX5_isMoney_28 (by decide) ?_
        refine lv_istore_n (lv' := [(1, .int 1), (0, .ref (ad 0))]) hx hb dX5_isMoney_32 rfl hl (by decide) rfl (fun ls hl => ?_)
        have hls := hl.1
        refine lv_aload_n hx hb dX5_isMoney_33 rfl (lv_at hl 1 rfl) ?_
        refine x_get B hW (by decide) cM_o cls5 hin_X5 10 (by decide) (v := .ref (ad 5)) rfl k_22 dX5_isMoney_34 ?_
        refine lv_iconst (v := 4) hx hb dX5_isMoney_37 (by decide) ?_
        refine lv_aload_n hx hb dX5_isMoney_38 rfl (lv_at hl 1 rfl) ?_
        refine x_get B hW (by decide) cM_o cls5 hin_X5 11 (by decide) (v := .int (S_21 0 11)) rfl k_166 dX5_isMoney_39 ?_
        refine lv_imul hx hb dX5_isMoney_42 ?_
        refine lv_iconst (v := 2) hx hb dX5_isMoney_43 (by decide) ?_
        refine lv_iadd hx hb dX5_isMoney_44 ?_
        refine lv_aload_n hx hb dX5_isMoney_45 rfl (lv_at hl 1 rfl) ?_
        refine x_get B hW (by decide) cM_o cls5 hin_X5 9 (by decide) (v := .int (S_21 0 9)) rfl k_160 dX5_isMoney_46 ?_
        refine x_iast B hW (by decide) (fun _ => cM_5) (isN_add (isN_mul (isN_lit 4 (by decide)) (isN_var (hTI_21).2.1 (by decide)) (by decide)) (isN_lit 2 (by decide)) (by decide)) (by decide) (by decide) dX5_isMoney_49 (fun H locs S_49 he_49 hW => ?_)
        have zk := nm_at zk he_49
        have hTI_49 : TI S_49 := by rw [he_49]; exact TI_stq hTI_21 (by decide)
        have hf_S_49_0_11_16 : vp_in (S_49 0 11) 16 := by rw [he_49, st_at, if_neg (by rintro ⟨h1, h2⟩; omega)]; exact (hTI_21).2.1
        have hf_S_49_0_5_61 : vp_in (S_49 0 5) 61 := by rw [he_49, st_at, if_neg (by rintro ⟨h1, h2⟩; omega)]; exact (hTI_21).1
        refine lv_iload_n hx hb dX5_isMoney_50 rfl (lv_at hl 0 rfl) ?_
        exact x_zret B hW (Or.inr rfl) ⟨zk.symm, (Or.inr rfl)⟩ dX5_isMoney_51
theorem ad_isMoney {S : vS} (h : TI S) : PP S 2 (x_X5_isMoney S) := by
  unfold x_X5_isMoney
  simp only [nm_eq]
  exact PP.chain (by decide) (AD.rf h) (ad_isMemberOf h) (fun _ _ _ q => PP.zero (q.tr (AD.q q.1 (by decide)))) (fun _ _ q => PP.chain (by decide) q (ad_isSign q.1) (fun _ _ _ q => PP.zero (q.tr (AD.q q.1 (by decide)))) (fun _ _ q => PP.chain (by decide) q (ad_isNumber q.1) (fun _ _ _ q => PP.zero (q.tr (AD.q q.1 (by decide)))) (fun _ _ q => PP.one (q.tr (AD.q q.1 (by decide))) (by decide) (by decide))))
theorem TI_isMoney {S : vS} (h : TI S) : TI (x_X5_isMoney S).2 := (ad_isMoney h).1.1
theorem tp_isMoney {S S0 : vS} (h : TP S0 S) : TP S0 (x_X5_isMoney S).2 := by
  unfold x_X5_isMoney
  try simp only [nm_eq, nmp_eq]
  repeat' split
  all_goals repeat (first | (with_reducible assumption) | (with_reducible apply tp_isMemberOf) | (with_reducible apply tp_isNumber) | (with_reducible apply tp_isSign) | (with_reducible apply tp_stops) | (with_reducible apply TP.five) | (with_reducible refine TP.z ?_ (by decide)))

def x_X5_isLoan (S : vS) : (Int32 × vS) := nmp (x_X5_isMemberOf S) (fun r_1 S_1 => if r_1 = 0 then (0, S_1) else nmp (x_X5_isSign S_1 42) (fun r_10 S_10 => if r_10 = 0 then (0, S_10) else nmp (x_X5_isNumber S_10 10 2000) (fun r_22 S_22 => if r_22 = 0 then (0, S_22) else nm (st S_22 5 ((4 * (S_22 0 11).toNatClampNeg) + 2) (S_22 0 9)) (fun S_46 => nmp (x_X5_isSign S_46 47) (fun r_50 S_50 => if r_50 = 0 then nm (st S_50 5 ((4 * (S_50 0 11).toNatClampNeg) + 3) (S_50 0 9)) (fun S_88 => (0, S_88)) else nmp (x_X5_isNumber S_50 1 52) (fun r_60 S_60 => if r_60 = 0 then nm (st S_60 5 ((4 * (S_60 0 11).toNatClampNeg) + 3) (S_60 0 9)) (fun S_88 => (0, S_88)) else nm (st S_60 5 ((4 * (S_60 0 11).toNatClampNeg) + 3) (S_60 0 9)) (fun S_88 => (1, S_88))))))))
theorem hd_X5_isLoan : yX5_isLoan.cls = RX5 ∧ yX5_isLoan.cls ≠ "java/lang/invoke/MethodHandle" ∧ yX5_isLoan.cls ≠ "java/lang/invoke/VarHandle" ∧ (parseMethodDescriptor yX5_isLoan.desc).map (fun d => d.parameters.length) = some 0 := by decide +kernel
set_option maxHeartbeats 4000000 in
set_option maxRecDepth 100000 in
theorem c_X5_isLoan {D : va_G} {ad : Nat → Nat} (l : Launch) (sz : Nat) (S : vS) (hTI : TI S) : Met l yX5_isLoan wsX5_isLoan (rmD 3) (pW D 7 (cM D ad) ad sz S [.ref (ad 0)]) (va_Qi (fun (r : Int32) (S1 : vS) => (r, S1) = (x_X5_isLoan S) ∧ (r = 0 ∨ r = 1)) (bW D 7 (cM D ad) ad (aW 7 ad sz)) (aW 7 ad sz)) 0 0 (aW 7 ad sz) := by
  refine x_met (own := RX5) (cc := cX5_isLoan) (maxL := 2) (ret := (some .boolean)) (Qc := fun A => va_Qi (fun (r : Int32) (S1 : vS) => (r, S1) = (x_X5_isLoan S) ∧ (r = 0 ∨ r = 1)) (bW D 7 (cM D ad) ad A) A) rfl ⟨by decide +kernel, rfl, Nat.le_of_ble_eq_true rfl⟩ ?_
  intro p e s mm args below meth c A ls B hW hl hls
  have hx := B.1.1
  have hb := B.1.2.1
  have hin_X5 : ∀ w ∈ wsX50, w ∈ wsX5_isLoan := fun w h => List.mem_cons_of_mem _ (List.mem_append_right _ h)
  have k_160 := B.1.2.2.2.2 (.fieldLink RX5 160 "JointLoansModel" "value" "I") (by decide +kernel)
  have k_166 := B.1.2.2.2.2 (.fieldLink RX5 166 "JointLoansModel" "tolds" "I") (by decide +kernel)
  have k_22 := B.1.2.2.2.2 (.fieldLink RX5 22 "JointLoansModel" "told" "[I") (by decide +kernel)
  have zk := x_X5_isLoan.eq_1 S
  have hl : lv_has ls 2 [(0, .ref (ad 0))] := hl
  refine lv_aload_n hx hb dX5_isLoan_0 rfl (lv_at hl 0 rfl) ?_
  refine x_calli hW (x_runV B hW (As := []) (rest := []) (by decide) cM_o cls5 (c_X5_isMemberOf (D := D) (ad := ad) l _ S hTI) (cwV 0 B.1.2.2.2.2 gX5_isLoan_X5_isMemberOf rfl rfl rfl hd_X5_isMemberOf ⟨Nat.le_of_ble_eq_true rfl, Nat.le_of_ble_eq_true rfl⟩) rfl hls (Nat.le_of_ble_eq_true rfl) dX5_isLoan_1 ⟨Nat.zero_le _, Nat.zero_le _⟩) (fun r_1 S_1 H locs he hW => ?_)
  obtain ⟨hr_1, hz_1⟩ := he
  have zk := nmp_at zk hr_1
  have he_1 : S_1 = (x_X5_isMemberOf S).2 := by rw [← hr_1]
  have hTI_1 : TI S_1 := by rw [he_1]; exact TI_isMemberOf hTI
  refine lv_if_eq (tgt := 28) hx hb dX5_isLoan_4 (by decide) (fun c_4 => ?_) (fun c_4 => ?_)
  · have zk := zk.trans (if_pos c_4)
    refine lv_iconst (v := 0) hx hb dX5_isLoan_28 (by decide) ?_
    exact x_zret B hW (Or.inl rfl) ⟨zk.symm, (Or.inl rfl)⟩ dX5_isLoan_29
  · have zk := zk.trans (if_neg c_4)
    refine lv_aload_n hx hb dX5_isLoan_7 rfl (lv_at hl 0 rfl) ?_
    refine lv_bipush (v := 42) hx hb dX5_isLoan_8 (by decide) ?_
    refine x_calli hW (x_runV B hW (As := [.int 42]) (rest := []) (by decide) cM_o cls5 (c_X5_isSign (D := D) (ad := ad) l _ S_1 42 hTI_1) (cwV 1 B.1.2.2.2.2 gX5_isLoan_X5_isSign rfl rfl rfl hd_X5_isSign ⟨Nat.le_of_ble_eq_true rfl, Nat.le_of_ble_eq_true rfl⟩) rfl hls (Nat.le_of_ble_eq_true rfl) dX5_isLoan_10 ⟨Nat.zero_le _, Nat.zero_le _⟩) (fun r_10 S_10 H locs he hW => ?_)
    obtain ⟨hr_10, hz_10⟩ := he
    have zk := nmp_at zk hr_10
    have he_10 : S_10 = (x_X5_isSign S_1 42).2 := by rw [← hr_10]
    have hTI_10 : TI S_10 := by rw [he_10]; exact TI_isSign hTI_1
    refine lv_if_eq (tgt := 28) hx hb dX5_isLoan_13 (by decide) (fun c_13 => ?_) (fun c_13 => ?_)
    · have zk := zk.trans (if_pos c_13)
      refine lv_iconst (v := 0) hx hb dX5_isLoan_28 (by decide) ?_
      exact x_zret B hW (Or.inl rfl) ⟨zk.symm, (Or.inl rfl)⟩ dX5_isLoan_29
    · have zk := zk.trans (if_neg c_13)
      refine lv_aload_n hx hb dX5_isLoan_16 rfl (lv_at hl 0 rfl) ?_
      refine lv_bipush (v := 10) hx hb dX5_isLoan_17 (by decide) ?_
      refine lv_sipush (v := 2000) hx hb dX5_isLoan_19 (by decide) ?_
      refine x_calli hW (x_runV B hW (As := [.int 10, .int 2000]) (rest := []) (by decide) cM_o cls5 (c_X5_isNumber (D := D) (ad := ad) l _ S_10 10 2000 hTI_10 (by decide)) (cwV 2 B.1.2.2.2.2 gX5_isLoan_X5_isNumber rfl rfl rfl hd_X5_isNumber ⟨Nat.le_of_ble_eq_true rfl, Nat.le_of_ble_eq_true rfl⟩) rfl hls (Nat.le_of_ble_eq_true rfl) dX5_isLoan_22 ⟨Nat.zero_le _, Nat.zero_le _⟩) (fun r_22 S_22 H locs he hW => ?_)
      obtain ⟨hr_22, hz_22⟩ := he
      have zk := nmp_at zk hr_22
      have he_22 : S_22 = (x_X5_isNumber S_10 10 2000).2 := by rw [← hr_22]
      have hTI_22 : TI S_22 := by rw [he_22]; exact TI_isNumber hTI_10
      refine lv_if_ne (tgt := 30) hx hb dX5_isLoan_25 (by decide) (fun c_25 => ?_) (fun c_25 => ?_)
      · have zk := zk.trans (if_neg c_25)
        refine lv_aload_n hx hb dX5_isLoan_30 rfl (lv_at hl 0 rfl) ?_
        refine x_get B hW (by decide) cM_o cls5 hin_X5 10 (by decide) (v := .ref (ad 5)) rfl k_22 dX5_isLoan_31 ?_
        refine lv_iconst (v := 4) hx hb dX5_isLoan_34 (by decide) ?_
        refine lv_aload_n hx hb dX5_isLoan_35 rfl (lv_at hl 0 rfl) ?_
        refine x_get B hW (by decide) cM_o cls5 hin_X5 11 (by decide) (v := .int (S_22 0 11)) rfl k_166 dX5_isLoan_36 ?_
        refine lv_imul hx hb dX5_isLoan_39 ?_
        refine lv_iconst (v := 2) hx hb dX5_isLoan_40 (by decide) ?_
        refine lv_iadd hx hb dX5_isLoan_41 ?_
        refine lv_aload_n hx hb dX5_isLoan_42 rfl (lv_at hl 0 rfl) ?_
        refine x_get B hW (by decide) cM_o cls5 hin_X5 9 (by decide) (v := .int (S_22 0 9)) rfl k_160 dX5_isLoan_43 ?_
        refine x_iast B hW (by decide) (fun _ => cM_5) (isN_add (isN_mul (isN_lit 4 (by decide)) (isN_var (hTI_22).2.1 (by decide)) (by decide)) (isN_lit 2 (by decide)) (by decide)) (by decide) (by decide) dX5_isLoan_46 (fun H locs S_46 he_46 hW => ?_)
        have zk := nm_at zk he_46
        have hTI_46 : TI S_46 := by rw [he_46]; exact TI_stq hTI_22 (by decide)
        have hf_S_46_0_11_16 : vp_in (S_46 0 11) 16 := by rw [he_46, st_at, if_neg (by rintro ⟨h1, h2⟩; omega)]; exact (hTI_22).2.1
        have hf_S_46_0_5_61 : vp_in (S_46 0 5) 61 := by rw [he_46, st_at, if_neg (by rintro ⟨h1, h2⟩; omega)]; exact (hTI_22).1
        refine lv_aload_n hx hb dX5_isLoan_47 rfl (lv_at hl 0 rfl) ?_
        refine lv_bipush (v := 47) hx hb dX5_isLoan_48 (by decide) ?_
        refine x_calli hW (x_runV B hW (As := [.int 47]) (rest := []) (by decide) cM_o cls5 (c_X5_isSign (D := D) (ad := ad) l _ S_46 47 hTI_46) (cwV 1 B.1.2.2.2.2 gX5_isLoan_X5_isSign rfl rfl rfl hd_X5_isSign ⟨Nat.le_of_ble_eq_true rfl, Nat.le_of_ble_eq_true rfl⟩) rfl hls (Nat.le_of_ble_eq_true rfl) dX5_isLoan_50 ⟨Nat.zero_le _, Nat.zero_le _⟩) (fun r_50 S_50 H locs he hW => ?_)
        obtain ⟨hr_50, hz_50⟩ := he
        have zk := nmp_at zk hr_50
        have he_50 : S_50 = (x_X5_isSign S_46 47).2 := by rw [← hr_50]
        have hTI_50 : TI S_50 := by rw [he_50]; exact TI_isSign hTI_46
        refine lv_if_eq (tgt := 70) hx hb dX5_isLoan_53 (by decide) (fun c_53 => ?_) (fun c_53 => ?_)
        · have zk := zk.trans (if_pos c_53)
          refine lv_iconst (v := 0) hx hb dX5_isLoan_70 (by decide) ?_
          refine lv_istore_n (lv' := [(1, .int 0), (0, .ref (ad 0))]) hx hb dX5_isLoan_71 rfl hl (by decide) rfl (fun ls hl => ?_)
          have hls := hl.1
          refine lv_aload_n hx hb dX5_isLoan_72 rfl (lv_at hl 1 rfl) ?_
          refine x_get B hW (by decide) cM_o cls5 hin_X5 10 (by decide) (v := .ref (ad 5)) rfl k_22 dX5_isLoan_73 ?_
          refine lv_iconst (v := 4) hx hb dX5_isLoan_76 (by decide) ?_
          refine lv_aload_n hx hb dX5_isLoan_77 rfl (lv_at hl 1 rfl) ?_
          refine x_get B hW (by decide) cM_o cls5 hin_X5 11 (by decide) (v := .int (S_50 0 11)) rfl k_166 dX5_isLoan_78 ?_
          refine lv_imul hx hb dX5_isLoan_81 ?_
          refine lv_iconst (v := 3) hx hb dX5_isLoan_82 (by decide) ?_
          refine lv_iadd hx hb dX5_isLoan_83 ?_
          refine lv_aload_n hx hb dX5_isLoan_84 rfl (lv_at hl 1 rfl) ?_
          refine x_get B hW (by decide) cM_o cls5 hin_X5 9 (by decide) (v := .int (S_50 0 9)) rfl k_160 dX5_isLoan_85 ?_
          refine x_iast B hW (by decide) (fun _ => cM_5) (isN_add (isN_mul (isN_lit 4 (by decide)) (isN_var (hTI_50).2.1 (by decide)) (by decide)) (isN_lit 3 (by decide)) (by decide)) (by decide) (by decide) dX5_isLoan_88 (fun H locs S_88 he_88 hW => ?_)
          have zk := nm_at zk he_88
          have hTI_88 : TI S_88 := by rw [he_88]; exact TI_stq hTI_50 (by decide)
          have hf_S_88_0_11_16 : vp_in (S_88 0 11) 16 := by rw [he_88, st_at, if_neg (by rintro ⟨h1, h2⟩; omega)]; exact (hTI_50).2.1
          have hf_S_88_0_5_61 : vp_in (S_88 0 5) 61 := by rw [he_88, st_at, if_neg (by rintro ⟨h1, h2⟩; omega)]; exact (hTI_50).1
          refine lv_iload_n hx hb dX5_isLoan_89 rfl (lv_at hl 0 rfl) ?_
          exact x_zret B hW (Or.inl rfl) ⟨zk.symm, (Or.inl rfl)⟩ dX5_isLoan_90
        · have zk := zk.trans (if_neg c_53)
          refine lv_aload_n hx hb dX5_isLoan_56 rfl (lv_at hl 0 rfl) ?_
          refine lv_iconst (v := 1) hx hb dX5_isLoan_57 (by decide) ?_
          refine lv_bipush (v := 52) hx hb dX5_isLoan_58 (by decide) ?_
          refine x_calli hW (x_runV B hW (As := [.int 1, .int 52]) (rest := []) (by decide) cM_o cls5 (c_X5_isNumber (D := D) (ad := ad) l _ S_50 1 52 hTI_50 (by decide)) (cwV 2 B.1.2.2.2.2 gX5_isLoan_X5_isNumber rfl rfl rfl hd_X5_isNumber ⟨Nat.le_of_ble_eq_true rfl, Nat.le_of_ble_eq_true rfl⟩) rfl hls (Nat.le_of_ble_eq_true rfl) dX5_isLoan_60 ⟨Nat.zero_le _, Nat.zero_le _⟩) (fun r_60 S_60 H locs he hW => ?_)
          obtain ⟨hr_60, hz_60⟩ := he
          have zk := nmp_at zk hr_60
          have he_60 : S_60 = (x_X5_isNumber S_50 1 52).2 := by rw [← hr_60]
          have hTI_60 : TI S_60 := by rw [he_60]; exact TI_isNumber hTI_50
          refine lv_if_eq (tgt := 70) hx hb dX5_isLoan_63 (by decide) (fun c_63 => ?_) (fun c_63 => ?_)
          · have zk := zk.trans (if_pos c_63)
            refine lv_iconst (v := 0) hx hb dX5_isLoan_70 (by decide) ?_
            refine lv_istore_n (lv' := [(1, .int 0), (0, .ref (ad 0))]) hx hb dX5_isLoan_71 rfl hl (by decide) rfl (fun ls hl => ?_)
            have hls := hl.1
            refine lv_aload_n hx hb dX5_isLoan_72 rfl (lv_at hl 1 rfl) ?_
            refine x_get B hW (by decide) cM_o cls5 hin_X5 10 (by decide) (v := .ref (ad 5)) rfl k_22 dX5_isLoan_73 ?_
            refine lv_iconst (v := 4) hx hb dX5_isLoan_76 (by decide) ?_
            refine lv_aload_n hx hb dX5_isLoan_77 rfl (lv_at hl 1 rfl) ?_
            refine x_get B hW (by decide) cM_o cls5 hin_X5 11 (by decide) (v := .int (S_60 0 11)) rfl k_166 dX5_isLoan_78 ?_
            refine lv_imul hx hb dX5_isLoan_81 ?_
            refine lv_iconst (v := 3) hx hb dX5_isLoan_82 (by decide) ?_
            refine lv_iadd hx hb dX5_isLoan_83 ?_
            refine lv_aload_n hx hb dX5_isLoan_84 rfl (lv_at hl 1 rfl) ?_
            refine x_get B hW (by decide) cM_o cls5 hin_X5 9 (by decide) (v := .int (S_60 0 9)) rfl k_160 dX5_isLoan_85 ?_
            refine x_iast B hW (by decide) (fun _ => cM_5) (isN_add (isN_mul (isN_lit 4 (by decide)) (isN_var (hTI_60).2.1 (by decide)) (by decide)) (isN_lit 3 (by decide)) (by decide)) (by decide) (by decide) dX5_isLoan_88 (fun H locs S_88 he_88 hW => ?_)
            have zk := nm_at zk he_88
            have hTI_88 : TI S_88 := by rw [he_88]; exact TI_stq hTI_60 (by decide)
            have hf_S_88_0_11_16 : vp_in (S_88 0 11) 16 := by rw [he_88, st_at, if_neg (by rintro ⟨h1, h2⟩; omega)]; exact (hTI_60).2.1
            have hf_S_88_0_5_61 : vp_in (S_88 0 5) 61 := by rw [he_88, st_at, if_neg (by rintro ⟨h1, h2⟩; omega)]; exact (hTI_60).1
            refine lv_iload_n hx hb dX5_isLoan_89 rfl (lv_at hl 0 rfl) ?_
            exact x_zret B hW (Or.inl rfl) ⟨zk.symm, (Or.inl rfl)⟩ dX5_isLoan_90
          · have zk := zk.trans (if_neg c_63)
            refine lv_iconst (v := 1) hx hb dX5_isLoan_66 (by decide) ?_
            refine lv_goto (tgt := 71) hx hb dX5_isLoan_67 (by decide) ?_
            refine lv_istore_n (lv' := [(1, .int 1), (0, .ref (ad 0))]) hx hb dX5_isLoan_71 rfl hl (by decide) rfl (fun ls hl => ?_)
            have hls := hl.1
            refine lv_aload_n hx hb dX5_isLoan_72 rfl (lv_at hl 1 rfl) ?_
            refine x_get B hW (by decide) cM_o cls5 hin_X5 10 (by decide) (v := .ref (ad 5)) rfl k_22 dX5_isLoan_73 ?_
            refine lv_iconst (v := 4) hx hb dX5_isLoan_76 (by decide) ?_
            refine lv_aload_n hx hb dX5_isLoan_77 rfl (lv_at hl 1 rfl) ?_
            refine x_get B hW (by decide) cM_o cls5 hin_X5 11 (by decide) (v := .int (S_60 0 11)) rfl k_166 dX5_isLoan_78 ?_
            refine lv_imul hx hb dX5_isLoan_81 ?_
            refine lv_iconst (v := 3) hx hb dX5_isLoan_82 (by decide) ?_
            refine lv_iadd hx hb dX5_isLoan_83 ?_
            refine lv_aload_n hx hb dX5_isLoan_84 rfl (lv_at hl 1 rfl) ?_
            refine x_get B hW (by decide) cM_o cls5 hin_X5 9 (by decide) (v := .int (S_60 0 9)) rfl k_160 dX5_isLoan_85 ?_
            refine x_iast B hW (by decide) (fun _ => cM_5) (isN_add (isN_mul (isN_lit 4 (by decide)) (isN_var (hTI_60).2.1 (by decide)) (by decide)) (isN_lit 3 (by decide)) (by decide)) (by decide) (by decide) dX5_isLoan_88 (fun H locs S_88 he_88 hW => ?_)
            have zk := nm_at zk he_88
            have hTI_88 : TI S_88 := by rw [he_88]; exact TI_stq hTI_60 (by decide)
            have hf_S_88_0_11_16 : vp_in (S_88 0 11) 16 := by rw [he_88, st_at, if_neg (by rintro ⟨h1, h2⟩; omega)]; exact (hTI_60).2.1
            have hf_S_88_0_5_61 : vp_in (S_88 0 5) 61 := by rw [he_88, st_at, if_neg (by rintro ⟨h1, h2⟩; omega)]; exact (hTI_60).1
            refine lv_iload_n hx hb dX5_isLoan_89 rfl (lv_at hl 0 rfl) ?_
            exact x_zret B hW (Or.inr rfl) ⟨zk.symm, (Or.inr rfl)⟩ dX5_isLoan_90
      · have zk := zk.trans (if_pos c_25)
        refine lv_iconst (v := 0) hx hb dX5_isLoan_28 (by decide) ?_
        exact x_zret B hW (Or.inl rfl) ⟨zk.symm, (Or.inl rfl)⟩ dX5_isLoan_29
theorem ad_isLoan {S : vS} (h : TI S) : PP S 3 (x_X5_isLoan S) := by
  unfold x_X5_isLoan
  simp only [nm_eq]
  exact PP.chain (by decide) (AD.rf h) (ad_isMemberOf h) (fun _ _ _ q => PP.zero q) (fun _ _ q => PP.chain (by decide) q (ad_isSign q.1) (fun _ _ _ q => PP.zero q) (fun _ _ q => PP.chain (by decide) q (ad_isNumber q.1) (fun _ _ _ q => PP.zero q) (fun _ _ q => PP.chain (by decide) (q.tr (AD.q q.1 (by decide))) (ad_isSign (TI_stq q.1 (by decide))) (fun _ _ _ q => PP.zero (q.tr (AD.q q.1 (by decide)))) (fun _ _ q => PP.chain (by decide) q (ad_isNumber q.1) (fun _ _ _ q => PP.zero (q.tr (AD.q q.1 (by decide)))) (fun _ _ q => PP.one (q.tr (AD.q q.1 (by decide))) (by decide) (by decide))))))
theorem TI_isLoan {S : vS} (h : TI S) : TI (x_X5_isLoan S).2 := (ad_isLoan h).1.1
theorem tp_isLoan {S S0 : vS} (h : TP S0 S) : TP S0 (x_X5_isLoan S).2 := by
  unfold x_X5_isLoan
  try simp only [nm_eq, nmp_eq]
  repeat' split
  all_goals repeat (first | (with_reducible assumption) | (with_reducible apply tp_isMoney) | (with_reducible apply tp_isMemberOf) | (with_reducible apply tp_isNumber) | (with_reducible apply tp_isSign) | (with_reducible apply tp_stops) | (with_reducible apply TP.five) | (with_reducible refine TP.z ?_ (by decide)))

def x_X5_kinds (S : vS) (p1 : Int32) : (Int32 × vS) := nm (st S 5 (4 * (S 0 11).toNatClampNeg) p1) (fun S_11 => nm (st S_11 0 7 ((S_11 0 7) + 1)) (fun S_19 => (1, S_19)))
theorem hd_X5_kinds : yX5_kinds.cls = RX5 ∧ yX5_kinds.cls ≠ "java/lang/invoke/MethodHandle" ∧ yX5_kinds.cls ≠ "java/lang/invoke/VarHandle" ∧ (parseMethodDescriptor yX5_kinds.desc).map (fun d => d.parameters.length) = some 1 := by decide +kernel
set_option maxHeartbeats 4000000 in
set_option maxRecDepth 100000 in
theorem c_X5_kinds {D : va_G} {ad : Nat → Nat} (l : Launch) (sz : Nat) (S : vS) (p1 : Int32) (hTI : TI S) (hat : ¬ (S 0 5) ≤ (S 0 7)) : Met l yX5_kinds wsX5_kinds (rmD 0) (pW D 7 (cM D ad) ad sz S [.ref (ad 0), .int p1]) (va_Qi (fun (r : Int32) (S1 : vS) => (r, S1) = (x_X5_kinds S p1) ∧ (r = 0 ∨ r = 1)) (bW D 7 (cM D ad) ad (aW 7 ad sz)) (aW 7 ad sz)) 0 0 (aW 7 ad sz) := by
  refine x_met (own := RX5) (cc := cX5_kinds) (maxL := 2) (ret := (some .boolean)) (Qc := fun A => va_Qi (fun (r : Int32) (S1 : vS) => (r, S1) = (x_X5_kinds S p1) ∧ (r = 0 ∨ r = 1)) (bW D 7 (cM D ad) ad A) A) rfl ⟨by decide +kernel, rfl, Nat.le_of_ble_eq_true rfl⟩ ?_
  intro p e s mm args below meth c A ls B hW hl hls
  have hx := B.1.1
  have hb := B.1.2.1
  have hin_X5 : ∀ w ∈ wsX50, w ∈ wsX5_kinds := fun w h => List.mem_cons_of_mem _ (List.mem_append_right _ h)
  have k_148 := B.1.2.2.2.2 (.fieldLink RX5 148 "JointLoansModel" "at" "I") (by decide +kernel)
  have k_166 := B.1.2.2.2.2 (.fieldLink RX5 166 "JointLoansModel" "tolds" "I") (by decide +kernel)
  have k_22 := B.1.2.2.2.2 (.fieldLink RX5 22 "JointLoansModel" "told" "[I") (by decide +kernel)
  have zk := x_X5_kinds.eq_1 S p1
  have hl : lv_has ls 2 [(0, .ref (ad 0)), (1, .int p1)] := hl
  refine lv_aload_n hx hb dX5_kinds_0 rfl (lv_at hl 0 rfl) ?_
  refine x_get B hW (by decide) cM_o cls5 hin_X5 10 (by decide) (v := .ref (ad 5)) rfl k_22 dX5_kinds_1 ?_
  refine lv_iconst (v := 4) hx hb dX5_kinds_4 (by decide) ?_
  refine lv_aload_n hx hb dX5_kinds_5 rfl (lv_at hl 0 rfl) ?_
  refine x_get B hW (by decide) cM_o cls5 hin_X5 11 (by decide) (v := .int (S 0 11)) rfl k_166 dX5_kinds_6 ?_
  refine lv_imul hx hb dX5_kinds_9 ?_
  refine lv_iload_n hx hb dX5_kinds_10 rfl (lv_at hl 1 rfl) ?_
  refine x_iast B hW (by decide) (fun _ => cM_5) (isN_mul (isN_lit 4 (by decide)) (isN_var (hTI).2.1 (by decide)) (by decide)) (by decide) (by decide) dX5_kinds_11 (fun H locs S_11 he_11 hW => ?_)
  have zk := nm_at zk he_11
  have hTI_11 : TI S_11 := by rw [he_11]; exact TI_stq hTI (by decide)
  have hAT_11 : ¬ (S_11 0 5) ≤ (S_11 0 7) := by rw [he_11, st_at, st_at, if_neg (by rintro ⟨h1, h2⟩; omega), if_neg (by rintro ⟨h1, h2⟩; omega)]; exact hat
  have hf_S_11_0_11_16 : vp_in (S_11 0 11) 16 := by rw [he_11, st_at, if_neg (by rintro ⟨h1, h2⟩; omega)]; exact (hTI).2.1
  have hf_S_11_0_5_61 : vp_in (S_11 0 5) 61 := by rw [he_11, st_at, if_neg (by rintro ⟨h1, h2⟩; omega)]; exact (hTI).1
  have hf_S_11_0_7_60 : vp_in (S_11 0 7) 60 := by rw [he_11, st_at, if_neg (by rintro ⟨h1, h2⟩; omega)]; exact (TI.at hTI hat)
  refine lv_aload_n hx hb dX5_kinds_12 rfl (lv_at hl 0 rfl) ?_
  refine lv_dup hx hb dX5_kinds_13 rfl ?_
  refine x_get B hW (by decide) cM_o cls5 hin_X5 7 (by decide) (v := .int (S_11 0 7)) rfl k_148 dX5_kinds_14 ?_
  refine lv_iconst (v := 1) hx hb dX5_kinds_17 (by decide) ?_
  refine lv_iadd hx hb dX5_kinds_18 ?_
  refine x_put B hW (by decide) cls5 hin_X5 7 (by decide) cM_o rfl (ty := .int) (by decide +kernel) rfl rfl (Nat.le_of_ble_eq_true rfl) (j := 7) pO_7 k_148 dX5_kinds_19 (fun H locs S_19 he_19 hW => ?_)
  have zk := nm_at zk he_19
  have hTI_19 : TI S_19 := by rw [he_19]; exact TI_at hTI_11 hAT_11
  have hf_S_19_0_11_16 : vp_in (S_19 0 11) 16 := by rw [he_19, st_at, if_neg (by rintro ⟨h1, h2⟩; omega)]; exact hf_S_11_0_11_16
  have hf_S_19_0_5_61 : vp_in (S_19 0 5) 61 := by rw [he_19, st_at, if_neg (by rintro ⟨h1, h2⟩; omega)]; exact hf_S_11_0_5_61
  have hf_S_19_0_7_61 : vp_in (S_19 0 7) 61 := by rw [he_19, st_at, if_pos ⟨rfl, rfl⟩]; exact isN_vin (isN_add (isN_var hf_S_11_0_7_60 (by decide)) (isN_lit 1 (by decide)) (by decide)) (by decide) (by decide)
  refine lv_iconst (v := 1) hx hb dX5_kinds_22 (by decide) ?_
  exact x_zret B hW (Or.inr rfl) ⟨zk.symm, (Or.inr rfl)⟩ dX5_kinds_23
theorem ad_kinds {S : vS} {a : Int32} (h : TI S) (c : ¬ (S 0 5) ≤ (S 0 7)) : PP S 1 (x_X5_kinds S a) := by
  unfold x_X5_kinds
  try simp only [nm_eq, nmp_eq]
  have h1 := AD.q (q := 5) (j := (4 * (S 0 11).toNatClampNeg)) (x := a) h (by decide)
  exact PP.one (h1.tr (AD.at h1.1 (AT_q c (by decide)))) (by decide) (by decide)
theorem TI_kinds {S : vS} {a : Int32} (h : TI S) (c : ¬ (S 0 5) ≤ (S 0 7)) : TI (x_X5_kinds S a).2 := (ad_kinds h c).1.1
theorem tp_kinds {S S0 : vS} {a : Int32} (h : TP S0 S) : TP S0 (x_X5_kinds S a).2 := by
  unfold x_X5_kinds
  try simp only [nm_eq, nmp_eq]
  repeat' split
  all_goals repeat (first | (with_reducible assumption) | (with_reducible apply tp_isLoan) | (with_reducible apply tp_isMoney) | (with_reducible apply tp_isMemberOf) | (with_reducible apply tp_isNumber) | (with_reducible apply tp_isSign) | (with_reducible apply tp_stops) | (with_reducible apply TP.five) | (with_reducible refine TP.z ?_ (by decide)))

def x_X5_isOrder (S : vS) : (Int32 × vS) := if (S 0 5) ≤ (S 0 7) then nmp (x_X5_stops S) (fun r_359 S_359 => (r_359, S_359)) else nm ((S 4 (S 0 7).toNatClampNeg)) (fun x_24 => if x_24 = 97 then nmp (x_X5_kinds S 1) (fun r_134 S_134 => if r_134 = 0 then (0, S_134) else nmp (x_X5_isSign S_134 119) (fun r_143 S_143 => if r_143 = 0 then (0, S_143) else nmp (x_X5_isSign S_143 97) (fun r_152 S_152 => if r_152 = 0 then (0, S_152) else nmp (x_X5_isSign S_152 121) (fun r_161 S_161 => if r_161 = 0 then (0, S_161) else nmp (x_X5_isMemberOf S_161) (fun r_168 S_168 => if r_168 = 0 then (0, S_168) else (1, S_168)))))) else (if x_24 = 99 then nmp (x_X5_kinds S 5) (fun r_310 S_310 => if r_310 = 0 then (0, S_310) else nmp (x_X5_isSign S_310 121) (fun r_319 S_319 => if r_319 = 0 then (0, S_319) else nmp (x_X5_isSign S_319 99) (fun r_328 S_328 => if r_328 = 0 then (0, S_328) else nmp (x_X5_isSign S_328 108) (fun r_337 S_337 => if r_337 = 0 then (0, S_337) else nmp (x_X5_isSign S_337 101) (fun r_346 S_346 => if r_346 = 0 then (0, S_346) else (1, S_346)))))) else (if x_24 = 104 then nmp (x_X5_kinds S 3) (fun r_221 S_221 => if r_221 = 0 then (0, S_221) else nmp (x_X5_isSign S_221 101) (fun r_230 S_230 => if r_230 = 0 then (0, S_230) else nmp (x_X5_isSign S_230 108) (fun r_239 S_239 => if r_239 = 0 then (0, S_239) else nmp (x_X5_isSign S_239 112) (fun r_248 S_248 => if r_248 = 0 then (0, S_248) else nmp (x_X5_isMoney S_248) (fun r_255 S_255 => if r_255 = 0 then (0, S_255) else (1, S_255)))))) else (if x_24 = 108 then nmp (x_X5_kinds S 0) (fun r_86 S_86 => if r_86 = 0 then (0, S_86) else nmp (x_X5_isSign S_86 111) (fun r_95 S_95 => if r_95 = 0 then (0, S_95) else nmp (x_X5_isSign S_95 97) (fun r_104 S_104 => if r_104 = 0 then (0, S_104) else nmp (x_X5_isSign S_104 110) (fun r_113 S_113 => if r_113 = 0 then (0, S_113) else nmp (x_X5_isLoan S_113) (fun r_120 S_120 => if r_120 = 0 then (0, S_120) else (1, S_120)))))) else (if x_24 = 112 then nmp (x_X5_kinds S 2) (fun r_182 S_182 => if r_182 = 0 then (0, S_182) else nmp (x_X5_isSign S_182 97) (fun r_191 S_191 => if r_191 = 0 then (0, S_191) else nmp (x_X5_isSign S_191 121) (fun r_200 S_200 => if r_200 = 0 then (0, S_200) else nmp (x_X5_isMoney S_200) (fun r_207 S_207 => if r_207 = 0 then (0, S_207) else (1, S_207))))) else (if x_24 = 119 then nmp (x_X5_kinds S 4) (fun r_269 S_269 => if r_269 = 0 then (0, S_269) else nmp (x_X5_isSign S_269 101) (fun r_278 S_278 => if r_278 = 0 then (0, S_278) else nmp (x_X5_isSign S_278 101) (fun r_287 S_287 => if r_287 = 0 then (0, S_287) else nmp (x_X5_isSign S_287 107) (fun r_296 S_296 => if r_296 = 0 then (0, S_296) else (1, S_296))))) else (nmp (x_X5_stops S) (fun r_359 S_359 => (r_359, S_359)))))))))
theorem hd_X5_isOrder : yX5_isOrder.cls = RX5 ∧ yX5_isOrder.cls ≠ "java/lang/invoke/MethodHandle" ∧ yX5_isOrder.cls ≠ "java/lang/invoke/VarHandle" ∧ (parseMethodDescriptor yX5_isOrder.desc).map (fun d => d.parameters.length) = some 0 := by decide +kernel
set_option maxHeartbeats 4000000 in
set_option maxRecDepth 100000 in
theorem c_X5_isOrder {D : va_G} {ad : Nat → Nat} (l : Launch) (sz : Nat) (S : vS) (hTI : TI S) : Met l yX5_isOrder wsX5_isOrder (rmD 4) (pW D 7 (cM D ad) ad sz S [.ref (ad 0)]) (va_Qi (fun (r : Int32) (S1 : vS) => (r, S1) = (x_X5_isOrder S) ∧ (r = 0 ∨ r = 1)) (bW D 7 (cM D ad) ad (aW 7 ad sz)) (aW 7 ad sz)) 0 0 (aW 7 ad sz) := by
  refine x_met (own := RX5) (cc := cX5_isOrder) (maxL := 2) (ret := (some .boolean)) (Qc := fun A => va_Qi (fun (r : Int32) (S1 : vS) => (r, S1) = (x_X5_isOrder S) ∧ (r = 0 ∨ r = 1)) (bW D 7 (cM D ad) ad A) A) rfl ⟨by decide +kernel, rfl, Nat.le_of_ble_eq_true rfl⟩ ?_
  intro p e s mm args below meth c A ls B hW hl hls
  have hx := B.1.1
  have hb := B.1.2.1
  have hin_X5 : ∀ w ∈ wsX50, w ∈ wsX5_isOrder := fun w h => List.mem_cons_of_mem _ (List.mem_append_right _ h)
  have k_145 := B.1.2.2.2.2 (.fieldLink RX5 145 "JointLoansModel" "typed" "I") (by decide +kernel)
  have k_148 := B.1.2.2.2.2 (.fieldLink RX5 148 "JointLoansModel" "at" "I") (by decide +kernel)
  have k_19 := B.1.2.2.2.2 (.fieldLink RX5 19 "JointLoansModel" "text" "[I") (by decide +kernel)
  have zk := x_X5_isOrder.eq_1 S
  have hl : lv_has ls 2 [(0, .ref (ad 0))] := hl
  refine lv_aload_n hx hb dX5_isOrder_0 rfl (lv_at hl 0 rfl) ?_
  refine x_get B hW (by decide) cM_o cls5 hin_X5 7 (by decide) (v := .int (S 0 7)) rfl k_148 dX5_isOrder_1 ?_
  refine lv_aload_n hx hb dX5_isOrder_4 rfl (lv_at hl 0 rfl) ?_
  refine x_get B hW (by decide) cM_o cls5 hin_X5 5 (by decide) (v := .int (S 0 5)) rfl k_145 dX5_isOrder_5 ?_
  refine lv_icmp_ge (tgt := 23) hx hb dX5_isOrder_8 (by decide) (fun c_8 => ?_) (fun c_8 => ?_)
  · have zk := zk.trans (if_pos c_8)
    refine lv_iconst (v := 0) hx hb dX5_isOrder_23 (by decide) ?_
    refine lv_istore_n (lv' := [(1, .int 0), (0, .ref (ad 0))]) hx hb dX5_isOrder_24 rfl hl (by decide) rfl (fun ls hl => ?_)
    have hls := hl.1
    refine lv_iload_n hx hb dX5_isOrder_25 rfl (lv_at hl 0 rfl) ?_
    refine lv_lookup (off := 332) (tgt := 358) hx hb dX5_isOrder_26 (by decide) (by decide) (by decide) ?_
    refine lv_aload_n hx hb dX5_isOrder_358 rfl (lv_at hl 1 rfl) ?_
    refine x_calli hW (x_runV B hW (As := []) (rest := []) (by decide) cM_o cls5 (c_X5_stops (D := D) (ad := ad) l _ S) (cwV 0 B.1.2.2.2.2 gX5_isOrder_X5_stops rfl rfl rfl hd_X5_stops ⟨Nat.le_of_ble_eq_true rfl, Nat.le_of_ble_eq_true rfl⟩) rfl hls (Nat.le_of_ble_eq_true rfl) dX5_isOrder_359 ⟨Nat.zero_le _, Nat.zero_le _⟩) (fun r_359 S_359 H locs he hW => ?_)
    obtain ⟨hr_359, hz_359⟩ := he
    have zk := nmp_at zk hr_359
    have he_359 : S_359 = (x_X5_stops S).2 := by rw [← hr_359]
    have hTI_359 : TI S_359 := by rw [he_359]; exact TI_stops hTI
    exact x_zret B hW hz_359 ⟨zk.symm, hz_359⟩ dX5_isOrder_362
  · have zk := zk.trans (if_neg c_8)
    refine lv_aload_n hx hb dX5_isOrder_11 rfl (lv_at hl 0 rfl) ?_
    refine x_get B hW (by decide) cM_o cls5 hin_X5 4 (by decide) (v := .ref (ad 4)) rfl k_19 dX5_isOrder_12 ?_
    refine lv_aload_n hx hb dX5_isOrder_15 rfl (lv_at hl 0 rfl) ?_
    refine x_get B hW (by decide) cM_o cls5 hin_X5 7 (by decide) (v := .int (S 0 7)) rfl k_148 dX5_isOrder_16 ?_
    refine x_iald B hW (by decide) cM_4 (isN_var (TI.at hTI c_8) (by decide)) (by decide) (by decide) dX5_isOrder_19 ?_
    refine lv_goto (tgt := 24) hx hb dX5_isOrder_20 (by decide) ?_
    refine lv_topi (fun x_24 ex_24 => ?_)
    have zk := nm_at zk ex_24
    refine lv_istore_n (lv' := [(1, .int x_24), (0, .ref (ad 0))]) hx hb dX5_isOrder_24 rfl hl (by decide) rfl (fun ls hl => ?_)
    have hls := hl.1
    refine lv_iload_n hx hb dX5_isOrder_25 rfl (lv_at hl 0 rfl) ?_
    by_cases c_26_97 : x_24 = 97
    · have zk := zk.trans (if_pos c_26_97)
      refine lv_lookup (off := 106) (tgt := 132) hx hb dX5_isOrder_26 (by decide) (by rw [c_26_97]; decide) (by decide) ?_
      refine lv_aload_n hx hb dX5_isOrder_132 rfl (lv_at hl 1 rfl) ?_
      refine lv_iconst (v := 1) hx hb dX5_isOrder_133 (by decide) ?_
      refine x_calli hW (x_runV B hW (As := [.int 1]) (rest := []) (by decide) cM_o cls5 (c_X5_kinds (D := D) (ad := ad) l _ S 1 hTI c_8) (cwV 1 B.1.2.2.2.2 gX5_isOrder_X5_kinds rfl rfl rfl hd_X5_kinds ⟨Nat.le_of_ble_eq_true rfl, Nat.le_of_ble_eq_true rfl⟩) rfl hls (Nat.le_of_ble_eq_true rfl) dX5_isOrder_134 ⟨Nat.zero_le _, Nat.zero_le _⟩) (fun r_134 S_134 H locs he hW => ?_)
      obtain ⟨hr_134, hz_134⟩ := he
      have zk := nmp_at zk hr_134
      have he_134 : S_134 = (x_X5_kinds S 1).2 := by rw [← hr_134]
      have hTI_134 : TI S_134 := by rw [he_134]; exact TI_kinds hTI c_8
      refine lv_if_eq (tgt := 178) hx hb dX5_isOrder_137 (by decide) (fun c_137 => ?_) (fun c_137 => ?_)
      · have zk := zk.trans (if_pos c_137)
        refine lv_iconst (v := 0) hx hb dX5_isOrder_178 (by decide) ?_
        exact x_zret B hW (Or.inl rfl) ⟨zk.symm, (Or.inl rfl)⟩ dX5_isOrder_179
      · have zk := zk.trans (if_neg c_137)
        refine lv_aload_n hx hb dX5_isOrder_140 rfl (lv_at hl 1 rfl) ?_
        refine lv_bipush (v := 119) hx hb dX5_isOrder_141 (by decide) ?_
        refine x_calli hW (x_runV B hW (As := [.int 119]) (rest := []) (by decide) cM_o cls5 (c_X5_isSign (D := D) (ad := ad) l _ S_134 119 hTI_134) (cwV 1 B.1.2.2.2.2 gX5_isOrder_X5_isSign rfl rfl rfl hd_X5_isSign ⟨Nat.le_of_ble_eq_true rfl, Nat.le_of_ble_eq_true rfl⟩) rfl hls (Nat.le_of_ble_eq_true rfl) dX5_isOrder_143 ⟨Nat.zero_le _, Nat.zero_le _⟩) (fun r_143 S_143 H locs he hW => ?_)
        obtain ⟨hr_143, hz_143⟩ := he
        have zk := nmp_at zk hr_143
        have he_143 : S_143 = (x_X5_isSign S_134 119).2 := by rw [← hr_143]
        have hTI_143 : TI S_143 := by rw [he_143]; exact TI_isSign hTI_134
        refine lv_if_eq (tgt := 178) hx hb dX5_isOrder_146 (by decide) (fun c_146 => ?_) (fun c_146 => ?_)
        · have zk := zk.trans (if_pos c_146)
          refine lv_iconst (v := 0) hx hb dX5_isOrder_178 (by decide) ?_
          exact x_zret B hW (Or.inl rfl) ⟨zk.symm, (Or.inl rfl)⟩ dX5_isOrder_179
        · have zk := zk.trans (if_neg c_146)
          refine lv_aload_n hx hb dX5_isOrder_149 rfl (lv_at hl 1 rfl) ?_
          refine lv_bipush (v := 97) hx hb dX5_isOrder_150 (by decide) ?_
          refine x_calli hW (x_runV B hW (As := [.int 97]) (rest := []) (by decide) cM_o cls5 (c_X5_isSign (D := D) (ad := ad) l _ S_143 97 hTI_143) (cwV 1 B.1.2.2.2.2 gX5_isOrder_X5_isSign rfl rfl rfl hd_X5_isSign ⟨Nat.le_of_ble_eq_true rfl, Nat.le_of_ble_eq_true rfl⟩) rfl hls (Nat.le_of_ble_eq_true rfl) dX5_isOrder_152 ⟨Nat.zero_le _, Nat.zero_le _⟩) (fun r_152 S_152 H locs he hW => ?_)
          obtain ⟨hr_152, hz_152⟩ := he
          have zk := nmp_at zk hr_152
          have he_152 : S_152 = (x_X5_isSign S_143 97).2 := by rw [← hr_152]
          have hTI_152 : TI S_152 := by rw [he_152]; exact TI_isSign hTI_143
          refine lv_if_eq (tgt := 178) hx hb dX5_isOrder_155 (by decide) (fun c_155 => ?_) (fun c_155 => ?_)
          · have zk := zk.trans (if_pos c_155)
            refine lv_iconst (v := 0) hx hb dX5_isOrder_178 (by decide) ?_
            exact x_zret B hW (Or.inl rfl) ⟨zk.symm, (Or.inl rfl)⟩ dX5_isOrder_179
          · have zk := zk.trans (if_neg c_155)
            refine lv_aload_n hx hb dX5_isOrder_158 rfl (lv_at hl 1 rfl) ?_
            refine lv_bipush (v := 121) hx hb dX5_isOrder_159 (by decide) ?_
            refine x_calli hW (x_runV B hW (As := [.int 121]) (rest := []) (by decide) cM_o cls5 (c_X5_isSign (D := D) (ad := ad) l _ S_152 121 hTI_152) (cwV 1 B.1.2.2.2.2 gX5_isOrder_X5_isSign rfl rfl rfl hd_X5_isSign ⟨Nat.le_of_ble_eq_true rfl, Nat.le_of_ble_eq_true rfl⟩) rfl hls (Nat.le_of_ble_eq_true rfl) dX5_isOrder_161 ⟨Nat.zero_le _, Nat.zero_le _⟩) (fun r_161 S_161 H locs he hW => ?_)
            obtain ⟨hr_161, hz_161⟩ := he
            have zk := nmp_at zk hr_161
            have he_161 : S_161 = (x_X5_isSign S_152 121).2 := by rw [← hr_161]
            have hTI_161 : TI S_161 := by rw [he_161]; exact TI_isSign hTI_152
            refine lv_if_eq (tgt := 178) hx hb dX5_isOrder_164 (by decide) (fun c_164 => ?_) (fun c_164 => ?_)
            · have zk := zk.trans (if_pos c_164)
              refine lv_iconst (v := 0) hx hb dX5_isOrder_178 (by decide) ?_
              exact x_zret B hW (Or.inl rfl) ⟨zk.symm, (Or.inl rfl)⟩ dX5_isOrder_179
            · have zk := zk.trans (if_neg c_164)
              refine lv_aload_n hx hb dX5_isOrder_167 rfl (lv_at hl 1 rfl) ?_
              refine x_calli hW (x_runV B hW (As := []) (rest := []) (by decide) cM_o cls5 (c_X5_isMemberOf (D := D) (ad := ad) l _ S_161 hTI_161) (cwV 0 B.1.2.2.2.2 gX5_isOrder_X5_isMemberOf rfl rfl rfl hd_X5_isMemberOf ⟨Nat.le_of_ble_eq_true rfl, Nat.le_of_ble_eq_true rfl⟩) rfl hls (Nat.le_of_ble_eq_true rfl) dX5_isOrder_168 ⟨Nat.zero_le _, Nat.zero_le _⟩) (fun r_168 S_168 H locs he hW => ?_)
              obtain ⟨hr_168, hz_168⟩ := he
              have zk := nmp_at zk hr_168
              have he_168 : S_168 = (x_X5_isMemberOf S_161).2 := by rw [← hr_168]
              have hTI_168 : TI S_168 := by rw [he_168]; exact TI_isMemberOf hTI_161
              refine lv_if_eq (tgt := 178) hx hb dX5_isOrder_171 (by decide) (fun c_171 => ?_) (fun c_171 => ?_)
              · have zk := zk.trans (if_pos c_171)
                refine lv_iconst (v := 0) hx hb dX5_isOrder_178 (by decide) ?_
                exact x_zret B hW (Or.inl rfl) ⟨zk.symm, (Or.inl rfl)⟩ dX5_isOrder_179
              · have zk := zk.trans (if_neg c_171)
                refine lv_iconst (v := 1) hx hb dX5_isOrder_174 (by decide) ?_
                refine lv_goto (tgt := 179) hx hb dX5_isOrder_175 (by decide) ?_
                exact x_zret B hW (Or.inr rfl) ⟨zk.symm, (Or.inr rfl)⟩ dX5_isOrder_179
    · have zk := zk.trans (if_neg c_26_97)
      by_cases c_26_99 : x_24 = 99
      · have zk := zk.trans (if_pos c_26_99)
        refine lv_lookup (off := 282) (tgt := 308) hx hb dX5_isOrder_26 (by decide) (by rw [c_26_99]; decide) (by decide) ?_
        refine lv_aload_n hx hb dX5_isOrder_308 rfl (lv_at hl 1 rfl) ?_
        refine lv_iconst (v := 5) hx hb dX5_isOrder_309 (by decide) ?_
        refine x_calli hW (x_runV B hW (As := [.int 5]) (rest := []) (by decide) cM_o cls5 (c_X5_kinds (D := D) (ad := ad) l _ S 5 hTI c_8) (cwV 1 B.1.2.2.2.2 gX5_isOrder_X5_kinds rfl rfl rfl hd_X5_kinds ⟨Nat.le_of_ble_eq_true rfl, Nat.le_of_ble_eq_true rfl⟩) rfl hls (Nat.le_of_ble_eq_true rfl) dX5_isOrder_310 ⟨Nat.zero_le _, Nat.zero_le _⟩) (fun r_310 S_310 H locs he hW => ?_)
        obtain ⟨hr_310, hz_310⟩ := he
        have zk := nmp_at zk hr_310
        have he_310 : S_310 = (x_X5_kinds S 5).2 := by rw [← hr_310]
        have hTI_310 : TI S_310 := by rw [he_310]; exact TI_kinds hTI c_8
        refine lv_if_eq (tgt := 356) hx hb dX5_isOrder_313 (by decide) (fun c_313 => ?_) (fun c_313 => ?_)
        · have zk := zk.trans (if_pos c_313)
          refine lv_iconst (v := 0) hx hb dX5_isOrder_356 (by decide) ?_
          exact x_zret B hW (Or.inl rfl) ⟨zk.symm, (Or.inl rfl)⟩ dX5_isOrder_357
        · have zk := zk.trans (if_neg c_313)
          refine lv_aload_n hx hb dX5_isOrder_316 rfl (lv_at hl 1 rfl) ?_
          refine lv_bipush (v := 121) hx hb dX5_isOrder_317 (by decide) ?_
          refine x_calli hW (x_runV B hW (As := [.int 121]) (rest := []) (by decide) cM_o cls5 (c_X5_isSign (D := D) (ad := ad) l _ S_310 121 hTI_310) (cwV 1 B.1.2.2.2.2 gX5_isOrder_X5_isSign rfl rfl rfl hd_X5_isSign ⟨Nat.le_of_ble_eq_true rfl, Nat.le_of_ble_eq_true rfl⟩) rfl hls (Nat.le_of_ble_eq_true rfl) dX5_isOrder_319 ⟨Nat.zero_le _, Nat.zero_le _⟩) (fun r_319 S_319 H locs he hW => ?_)
          obtain ⟨hr_319, hz_319⟩ := he
          have zk := nmp_at zk hr_319
          have he_319 : S_319 = (x_X5_isSign S_310 121).2 := by rw [← hr_319]
          have hTI_319 : TI S_319 := by rw [he_319]; exact TI_isSign hTI_310
          refine lv_if_eq (tgt := 356) hx hb dX5_isOrder_322 (by decide) (fun c_322 => ?_) (fun c_322 => ?_)
          · have zk := zk.trans (if_pos c_322)
            refine lv_iconst (v := 0) hx hb dX5_isOrder_356 (by decide) ?_
            exact x_zret B hW (Or.inl rfl) ⟨zk.symm, (Or.inl rfl)⟩ dX5_isOrder_357
          · have zk := zk.trans (if_neg c_322)
            refine lv_aload_n hx hb dX5_isOrder_325 rfl (lv_at hl 1 rfl) ?_
            refine lv_bipush (v := 99) hx hb dX5_isOrder_326 (by decide) ?_
            refine x_calli hW (x_runV B hW (As := [.int 99]) (rest := []) (by decide) cM_o cls5 (c_X5_isSign (D := D) (ad := ad) l _ S_319 99 hTI_319) (cwV 1 B.1.2.2.2.2 gX5_isOrder_X5_isSign rfl rfl rfl hd_X5_isSign ⟨Nat.le_of_ble_eq_true rfl, Nat.le_of_ble_eq_true rfl⟩) rfl hls (Nat.le_of_ble_eq_true rfl) dX5_isOrder_328 ⟨Nat.zero_le _, Nat.zero_le _⟩) (fun r_328 S_328 H locs he hW => ?_)
            obtain ⟨hr_328, hz_328⟩ := he
            have zk := nmp_at zk hr_328
            have he_328 : S_328 = (x_X5_isSign S_319 99).2 := by rw [← hr_328]
            have hTI_328 : TI S_328 := by rw [he_328]; exact TI_isSign hTI_319
            refine lv_if_eq (tgt := 356) hx hb dX5_isOrder_331 (by decide) (fun c_331 => ?_) (fun c_331 => ?_)
            · have zk := zk.trans (if_pos c_331)
              refine lv_iconst (v := 0) hx hb dX5_isOrder_356 (by decide) ?_
              exact x_zret B hW (Or.inl rfl) ⟨zk.symm, (Or.inl rfl)⟩ dX5_isOrder_357
            · have zk := zk.trans (if_neg c_331)
              refine lv_aload_n hx hb dX5_isOrder_334 rfl (lv_at hl 1 rfl) ?_
              refine lv_bipush (v := 108) hx hb dX5_isOrder_335 (by decide) ?_
              refine x_calli hW (x_runV B hW (As := [.int 108]) (rest := []) (by decide) cM_o cls5 (c_X5_isSign (D := D) (ad := ad) l _ S_328 108 hTI_328) (cwV 1 B.1.2.2.2.2 gX5_isOrder_X5_isSign rfl rfl rfl hd_X5_isSign ⟨Nat.le_of_ble_eq_true rfl, Nat.le_of_ble_eq_true rfl⟩) rfl hls (Nat.le_of_ble_eq_true rfl) dX5_isOrder_337 ⟨Nat.zero_le _, Nat.zero_le _⟩) (fun r_337 S_337 H locs he hW => ?_)
              obtain ⟨hr_337, hz_337⟩ := he
              have zk := nmp_at zk hr_337
              have he_337 : S_337 = (x_X5_isSign S_328 108).2 := by rw [← hr_337]
              have hTI_337 : TI S_337 := by rw [he_337]; exact TI_isSign hTI_328
              refine lv_if_eq (tgt := 356) hx hb dX5_isOrder_340 (by decide) (fun c_340 => ?_) (fun c_340 => ?_)
              · have zk := zk.trans (if_pos c_340)
                refine lv_iconst (v := 0) hx hb dX5_isOrder_356 (by decide) ?_
                exact x_zret B hW (Or.inl rfl) ⟨zk.symm, (Or.inl rfl)⟩ dX5_isOrder_357
              · have zk := zk.trans (if_neg c_340)
                refine lv_aload_n hx hb dX5_isOrder_343 rfl (lv_at hl 1 rfl) ?_
                refine lv_bipush (v := 101) hx hb dX5_isOrder_344 (by decide) ?_
                refine x_calli hW (x_runV B hW (As := [.int 101]) (rest := []) (by decide) cM_o cls5 (c_X5_isSign (D := D) (ad := ad) l _ S_337 101 hTI_337) (cwV 1 B.1.2.2.2.2 gX5_isOrder_X5_isSign rfl rfl rfl hd_X5_isSign ⟨Nat.le_of_ble_eq_true rfl, Nat.le_of_ble_eq_true rfl⟩) rfl hls (Nat.le_of_ble_eq_true rfl) dX5_isOrder_346 ⟨Nat.zero_le _, Nat.zero_le _⟩) (fun r_346 S_346 H locs he hW => ?_)
                obtain ⟨hr_346, hz_346⟩ := he
                have zk := nmp_at zk hr_346
                have he_346 : S_346 = (x_X5_isSign S_337 101).2 := by rw [← hr_346]
                have hTI_346 : TI S_346 := by rw [he_346]; exact TI_isSign hTI_337
                refine lv_if_eq (tgt := 356) hx hb dX5_isOrder_349 (by decide) (fun c_349 => ?_) (fun c_349 => ?_)
                · have zk := zk.trans (if_pos c_349)
                  refine lv_iconst (v := 0) hx hb dX5_isOrder_356 (by decide) ?_
                  exact x_zret B hW (Or.inl rfl) ⟨zk.symm, (Or.inl rfl)⟩ dX5_isOrder_357
                · have zk := zk.trans (if_neg c_349)
                  refine lv_iconst (v := 1) hx hb dX5_isOrder_352 (by decide) ?_
                  refine lv_goto (tgt := 357) hx hb dX5_isOrder_353 (by decide) ?_
                  exact x_zret B hW (Or.inr rfl) ⟨zk.symm, (Or.inr rfl)⟩ dX5_isOrder_357
      · have zk := zk.trans (if_neg c_26_99)
        by_cases c_26_104 : x_24 = 104
        · have zk := zk.trans (if_pos c_26_104)
          refine lv_lookup (off := 193) (tgt := 219) hx hb dX5_isOrder_26 (by decide) (by rw [c_26_104]; decide) (by decide) ?_
          refine lv_aload_n hx hb dX5_isOrder_219 rfl (lv_at hl 1 rfl) ?_
          refine lv_iconst (v := 3) hx hb dX5_isOrder_220 (by decide) ?_
          refine x_calli hW (x_runV B hW (As := [.int 3]) (rest := []) (by decide) cM_o cls5 (c_X5_kinds (D := D) (ad := ad) l _ S 3 hTI c_8) (cwV 1 B.1.2.2.2.2 gX5_isOrder_X5_kinds rfl rfl rfl hd_X5_kinds ⟨Nat.le_of_ble_eq_true rfl, Nat.le_of_ble_eq_true rfl⟩) rfl hls (Nat.le_of_ble_eq_true rfl) dX5_isOrder_221 ⟨Nat.zero_le _, Nat.zero_le _⟩) (fun r_221 S_221 H locs he hW => ?_)
          obtain ⟨hr_221, hz_221⟩ := he
          have zk := nmp_at zk hr_221
          have he_221 : S_221 = (x_X5_kinds S 3).2 := by rw [← hr_221]
          have hTI_221 : TI S_221 := by rw [he_221]; exact TI_kinds hTI c_8
          refine lv_if_eq (tgt := 265) hx hb dX5_isOrder_224 (by decide) (fun c_224 => ?_) (fun c_224 => ?_)
          · have zk := zk.trans (if_pos c_224)
            refine lv_iconst (v := 0) hx hb dX5_isOrder_265 (by decide) ?_
            exact x_zret B hW (Or.inl rfl) ⟨zk.symm, (Or.inl rfl)⟩ dX5_isOrder_266
          · have zk := zk.trans (if_neg c_224)
            refine lv_aload_n hx hb dX5_isOrder_227 rfl (lv_at hl 1 rfl) ?_
            refine lv_bipush (v := 101) hx hb dX5_isOrder_228 (by decide) ?_
            refine x_calli hW (x_runV B hW (As := [.int 101]) (rest := []) (by decide) cM_o cls5 (c_X5_isSign (D := D) (ad := ad) l _ S_221 101 hTI_221) (cwV 1 B.1.2.2.2.2 gX5_isOrder_X5_isSign rfl rfl rfl hd_X5_isSign ⟨Nat.le_of_ble_eq_true rfl, Nat.le_of_ble_eq_true rfl⟩) rfl hls (Nat.le_of_ble_eq_true rfl) dX5_isOrder_230 ⟨Nat.zero_le _, Nat.zero_le _⟩) (fun r_230 S_230 H locs he hW => ?_)
            obtain ⟨hr_230, hz_230⟩ := he
            have zk := nmp_at zk hr_230
            have he_230 : S_230 = (x_X5_isSign S_221 101).2 := by rw [← hr_230]
            have hTI_230 : TI S_230 := by rw [he_230]; exact TI_isSign hTI_221
            refine lv_if_eq (tgt := 265) hx hb dX5_isOrder_233 (by decide) (fun c_233 => ?_) (fun c_233 => ?_)
            · have zk := zk.trans (if_pos c_233)
              refine lv_iconst (v := 0) hx hb dX5_isOrder_265 (by decide) ?_
              exact x_zret B hW (Or.inl rfl) ⟨zk.symm, (Or.inl rfl)⟩ dX5_isOrder_266
            · have zk := zk.trans (if_neg c_233)
              refine lv_aload_n hx hb dX5_isOrder_236 rfl (lv_at hl 1 rfl) ?_
              refine lv_bipush (v := 108) hx hb dX5_isOrder_237 (by decide) ?_
              refine x_calli hW (x_runV B hW (As := [.int 108]) (rest := []) (by decide) cM_o cls5 (c_X5_isSign (D := D) (ad := ad) l _ S_230 108 hTI_230) (cwV 1 B.1.2.2.2.2 gX5_isOrder_X5_isSign rfl rfl rfl hd_X5_isSign ⟨Nat.le_of_ble_eq_true rfl, Nat.le_of_ble_eq_true rfl⟩) rfl hls (Nat.le_of_ble_eq_true rfl) dX5_isOrder_239 ⟨Nat.zero_le _, Nat.zero_le _⟩) (fun r_239 S_239 H locs he hW => ?_)
              obtain ⟨hr_239, hz_239⟩ := he
              have zk := nmp_at zk hr_239
              have he_239 : S_239 = (x_X5_isSign S_230 108).2 := by rw [← hr_239]
              have hTI_239 : TI S_239 := by rw [he_239]; exact TI_isSign hTI_230
              refine lv_if_eq (tgt := 265) hx hb dX5_isOrder_242 (by decide) (fun c_242 => ?_) (fun c_242 => ?_)
              · have zk := zk.trans (if_pos c_242)
                refine lv_iconst (v := 0) hx hb dX5_isOrder_265 (by decide) ?_
                exact x_zret B hW (Or.inl rfl) ⟨zk.symm, (Or.inl rfl)⟩ dX5_isOrder_266
              · have zk := zk.trans (if_neg c_242)
                refine lv_aload_n hx hb dX5_isOrder_245 rfl (lv_at hl 1 rfl) ?_
                refine lv_bipush (v := 112) hx hb dX5_isOrder_246 (by decide) ?_
                refine x_calli hW (x_runV B hW (As := [.int 112]) (rest := []) (by decide) cM_o cls5 (c_X5_isSign (D := D) (ad := ad) l _ S_239 112 hTI_239) (cwV 1 B.1.2.2.2.2 gX5_isOrder_X5_isSign rfl rfl rfl hd_X5_isSign ⟨Nat.le_of_ble_eq_true rfl, Nat.le_of_ble_eq_true rfl⟩) rfl hls (Nat.le_of_ble_eq_true rfl) dX5_isOrder_248 ⟨Nat.zero_le _, Nat.zero_le _⟩) (fun r_248 S_248 H locs he hW => ?_)
                obtain ⟨hr_248, hz_248⟩ := he
                have zk := nmp_at zk hr_248
                have he_248 : S_248 = (x_X5_isSign S_239 112).2 := by rw [← hr_248]
                have hTI_248 : TI S_248 := by rw [he_248]; exact TI_isSign hTI_239
                refine lv_if_eq (tgt := 265) hx hb dX5_isOrder_251 (by decide) (fun c_251 => ?_) (fun c_251 => ?_)
                · have zk := zk.trans (if_pos c_251)
                  refine lv_iconst (v := 0) hx hb dX5_isOrder_265 (by decide) ?_
                  exact x_zret B hW (Or.inl rfl) ⟨zk.symm, (Or.inl rfl)⟩ dX5_isOrder_266
                · have zk := zk.trans (if_neg c_251)
                  refine lv_aload_n hx hb dX5_isOrder_254 rfl (lv_at hl 1 rfl) ?_
                  refine x_calli hW (x_runV B hW (As := []) (rest := []) (by decide) cM_o cls5 (c_X5_isMoney (D := D) (ad := ad) l _ S_248 hTI_248) (cwV 0 B.1.2.2.2.2 gX5_isOrder_X5_isMoney rfl rfl rfl hd_X5_isMoney ⟨Nat.le_of_ble_eq_true rfl, Nat.le_of_ble_eq_true rfl⟩) rfl hls (Nat.le_of_ble_eq_true rfl) dX5_isOrder_255 ⟨Nat.zero_le _, Nat.zero_le _⟩) (fun r_255 S_255 H locs he hW => ?_)
                  obtain ⟨hr_255, hz_255⟩ := he
                  have zk := nmp_at zk hr_255
                  have he_255 : S_255 = (x_X5_isMoney S_248).2 := by rw [← hr_255]
                  have hTI_255 : TI S_255 := by rw [he_255]; exact TI_isMoney hTI_248
                  refine lv_if_eq (tgt := 265) hx hb dX5_isOrder_258 (by decide) (fun c_258 => ?_) (fun c_258 => ?_)
                  · have zk := zk.trans (if_pos c_258)
                    refine lv_iconst (v := 0) hx hb dX5_isOrder_265 (by decide) ?_
                    exact x_zret B hW (Or.inl rfl) ⟨zk.symm, (Or.inl rfl)⟩ dX5_isOrder_266
                  · have zk := zk.trans (if_neg c_258)
                    refine lv_iconst (v := 1) hx hb dX5_isOrder_261 (by decide) ?_
                    refine lv_goto (tgt := 266) hx hb dX5_isOrder_262 (by decide) ?_
                    exact x_zret B hW (Or.inr rfl) ⟨zk.symm, (Or.inr rfl)⟩ dX5_isOrder_266
        · have zk := zk.trans (if_neg c_26_104)
          by_cases c_26_108 : x_24 = 108
          · have zk := zk.trans (if_pos c_26_108)
            refine lv_lookup (off := 58) (tgt := 84) hx hb dX5_isOrder_26 (by decide) (by rw [c_26_108]; decide) (by decide) ?_
            refine lv_aload_n hx hb dX5_isOrder_84 rfl (lv_at hl 1 rfl) ?_
            refine lv_iconst (v := 0) hx hb dX5_isOrder_85 (by decide) ?_
            refine x_calli hW (x_runV B hW (As := [.int 0]) (rest := []) (by decide) cM_o cls5 (c_X5_kinds (D := D) (ad := ad) l _ S 0 hTI c_8) (cwV 1 B.1.2.2.2.2 gX5_isOrder_X5_kinds rfl rfl rfl hd_X5_kinds ⟨Nat.le_of_ble_eq_true rfl, Nat.le_of_ble_eq_true rfl⟩) rfl hls (Nat.le_of_ble_eq_true rfl) dX5_isOrder_86 ⟨Nat.zero_le _, Nat.zero_le _⟩) (fun r_86 S_86 H locs he hW => ?_)
            obtain ⟨hr_86, hz_86⟩ := he
            have zk := nmp_at zk hr_86
            have he_86 : S_86 = (x_X5_kinds S 0).2 := by rw [← hr_86]
            have hTI_86 : TI S_86 := by rw [he_86]; exact TI_kinds hTI c_8
            refine lv_if_eq (tgt := 130) hx hb dX5_isOrder_89 (by decide) (fun c_89 => ?_) (fun c_89 => ?_)
            · have zk := zk.trans (if_pos c_89)
              refine lv_iconst (v := 0) hx hb dX5_isOrder_130 (by decide) ?_
              exact x_zret B hW (Or.inl rfl) ⟨zk.symm, (Or.inl rfl)⟩ dX5_isOrder_131
            · have zk := zk.trans (if_neg c_89)
              refine lv_aload_n hx hb dX5_isOrder_92 rfl (lv_at hl 1 rfl) ?_
              refine lv_bipush (v := 111) hx hb dX5_isOrder_93 (by decide) ?_
              refine x_calli hW (x_runV B hW (As := [.int 111]) (rest := []) (by decide) cM_o cls5 (c_X5_isSign (D := D) (ad := ad) l _ S_86 111 hTI_86) (cwV 1 B.1.2.2.2.2 gX5_isOrder_X5_isSign rfl rfl rfl hd_X5_isSign ⟨Nat.le_of_ble_eq_true rfl, Nat.le_of_ble_eq_true rfl⟩) rfl hls (Nat.le_of_ble_eq_true rfl) dX5_isOrder_95 ⟨Nat.zero_le _, Nat.zero_le _⟩) (fun r_95 S_95 H locs he hW => ?_)
              obtain ⟨hr_95, hz_95⟩ := he
              have zk := nmp_at zk hr_95
              have he_95 : S_95 = (x_X5_isSign S_86 111).2 := by rw [← hr_95]
              have hTI_95 : TI S_95 := by rw [he_95]; exact TI_isSign hTI_86
              refine lv_if_eq (tgt := 130) hx hb dX5_isOrder_98 (by decide) (fun c_98 => ?_) (fun c_98 => ?_)
              · have zk := zk.trans (if_pos c_98)
                refine lv_iconst (v := 0) hx hb dX5_isOrder_130 (by decide) ?_
                exact x_zret B hW (Or.inl rfl) ⟨zk.symm, (Or.inl rfl)⟩ dX5_isOrder_131
              · have zk := zk.trans (if_neg c_98)
                refine lv_aload_n hx hb dX5_isOrder_101 rfl (lv_at hl 1 rfl) ?_
                refine lv_bipush (v := 97) hx hb dX5_isOrder_102 (by decide) ?_
                refine x_calli hW (x_runV B hW (As := [.int 97]) (rest := []) (by decide) cM_o cls5 (c_X5_isSign (D := D) (ad := ad) l _ S_95 97 hTI_95) (cwV 1 B.1.2.2.2.2 gX5_isOrder_X5_isSign rfl rfl rfl hd_X5_isSign ⟨Nat.le_of_ble_eq_true rfl, Nat.le_of_ble_eq_true rfl⟩) rfl hls (Nat.le_of_ble_eq_true rfl) dX5_isOrder_104 ⟨Nat.zero_le _, Nat.zero_le _⟩) (fun r_104 S_104 H locs he hW => ?_)
                obtain ⟨hr_104, hz_104⟩ := he
                have zk := nmp_at zk hr_104
                have he_104 : S_104 = (x_X5_isSign S_95 97).2 := by rw [← hr_104]
                have hTI_104 : TI S_104 := by rw [he_104]; exact TI_isSign hTI_95
                refine lv_if_eq (tgt := 130) hx hb dX5_isOrder_107 (by decide) (fun c_107 => ?_) (fun c_107 => ?_)
                · have zk := zk.trans (if_pos c_107)
                  refine lv_iconst (v := 0) hx hb dX5_isOrder_130 (by decide) ?_
                  exact x_zret B hW (Or.inl rfl) ⟨zk.symm, (Or.inl rfl)⟩ dX5_isOrder_131
                · have zk := zk.trans (if_neg c_107)
                  refine lv_aload_n hx hb dX5_isOrder_110 rfl (lv_at hl 1 rfl) ?_
                  refine lv_bipush (v := 110) hx hb dX5_isOrder_111 (by decide) ?_
                  refine x_calli hW (x_runV B hW (As := [.int 110]) (rest := []) (by decide) cM_o cls5 (c_X5_isSign (D := D) (ad := ad) l _ S_104 110 hTI_104) (cwV 1 B.1.2.2.2.2 gX5_isOrder_X5_isSign rfl rfl rfl hd_X5_isSign ⟨Nat.le_of_ble_eq_true rfl, Nat.le_of_ble_eq_true rfl⟩) rfl hls (Nat.le_of_ble_eq_true rfl) dX5_isOrder_113 ⟨Nat.zero_le _, Nat.zero_le _⟩) (fun r_113 S_113 H locs he hW => ?_)
                  obtain ⟨hr_113, hz_113⟩ := he
                  have zk := nmp_at zk hr_113
                  have he_113 : S_113 = (x_X5_isSign S_104 110).2 := by rw [← hr_113]
                  have hTI_113 : TI S_113 := by rw [he_113]; exact TI_isSign hTI_104
                  refine lv_if_eq (tgt := 130) hx hb dX5_isOrder_116 (by decide) (fun c_116 => ?_) (fun c_116 => ?_)
                  · have zk := zk.trans (if_pos c_116)
                    refine lv_iconst (v := 0) hx hb dX5_isOrder_130 (by decide) ?_
                    exact x_zret B hW (Or.inl rfl) ⟨zk.symm, (Or.inl rfl)⟩ dX5_isOrder_131
                  · have zk := zk.trans (if_neg c_116)
                    refine lv_aload_n hx hb dX5_isOrder_119 rfl (lv_at hl 1 rfl) ?_
                    refine x_calli hW (x_runV B hW (As := []) (rest := []) (by decide) cM_o cls5 (c_X5_isLoan (D := D) (ad := ad) l _ S_113 hTI_113) (cwV 0 B.1.2.2.2.2 gX5_isOrder_X5_isLoan rfl rfl rfl hd_X5_isLoan ⟨Nat.le_of_ble_eq_true rfl, Nat.le_of_ble_eq_true rfl⟩) rfl hls (Nat.le_of_ble_eq_true rfl) dX5_isOrder_120 ⟨Nat.zero_le _, Nat.zero_le _⟩) (fun r_120 S_120 H locs he hW => ?_)
                    obtain ⟨hr_120, hz_120⟩ := he
                    have zk := nmp_at zk hr_120
                    have he_120 : S_120 = (x_X5_isLoan S_113).2 := by rw [← hr_120]
                    have hTI_120 : TI S_120 := by rw [he_120]; exact TI_isLoan hTI_113
                    refine lv_if_eq (tgt := 130) hx hb dX5_isOrder_123 (by decide) (fun c_123 => ?_) (fun c_123 => ?_)
                    · have zk := zk.trans (if_pos c_123)
                      refine lv_iconst (v := 0) hx hb dX5_isOrder_130 (by decide) ?_
                      exact x_zret B hW (Or.inl rfl) ⟨zk.symm, (Or.inl rfl)⟩ dX5_isOrder_131
                    · have zk := zk.trans (if_neg c_123)
                      refine lv_iconst (v := 1) hx hb dX5_isOrder_126 (by decide) ?_
                      refine lv_goto (tgt := 131) hx hb dX5_isOrder_127 (by decide) ?_
                      exact x_zret B hW (Or.inr rfl) ⟨zk.symm, (Or.inr rfl)⟩ dX5_isOrder_131
          · have zk := zk.trans (if_neg c_26_108)
            by_cases c_26_112 : x_24 = 112
            · have zk := zk.trans (if_pos c_26_112)
              refine lv_lookup (off := 154) (tgt := 180) hx hb dX5_isOrder_26 (by decide) (by rw [c_26_112]; decide) (by decide) ?_
              refine lv_aload_n hx hb dX5_isOrder_180 rfl (lv_at hl 1 rfl) ?_
              refine lv_iconst (v := 2) hx hb dX5_isOrder_181 (by decide) ?_
              refine x_calli hW (x_runV B hW (As := [.int 2]) (rest := []) (by decide) cM_o cls5 (c_X5_kinds (D := D) (ad := ad) l _ S 2 hTI c_8) (cwV 1 B.1.2.2.2.2 gX5_isOrder_X5_kinds rfl rfl rfl hd_X5_kinds ⟨Nat.le_of_ble_eq_true rfl, Nat.le_of_ble_eq_true rfl⟩) rfl hls (Nat.le_of_ble_eq_true rfl) dX5_isOrder_182 ⟨Nat.zero_le _, Nat.zero_le _⟩) (fun r_182 S_182 H locs he hW => ?_)
              obtain ⟨hr_182, hz_182⟩ := he
              have zk := nmp_at zk hr_182
              have he_182 : S_182 = (x_X5_kinds S 2).2 := by rw [← hr_182]
              have hTI_182 : TI S_182 := by rw [he_182]; exact TI_kinds hTI c_8
              refine lv_if_eq (tgt := 217) hx hb dX5_isOrder_185 (by decide) (fun c_185 => ?_) (fun c_185 => ?_)
              · have zk := zk.trans (if_pos c_185)
                refine lv_iconst (v := 0) hx hb dX5_isOrder_217 (by decide) ?_
                exact x_zret B hW (Or.inl rfl) ⟨zk.symm, (Or.inl rfl)⟩ dX5_isOrder_218
              · have zk := zk.trans (if_neg c_185)
                refine lv_aload_n hx hb dX5_isOrder_188 rfl (lv_at hl 1 rfl) ?_
                refine lv_bipush (v := 97) hx hb dX5_isOrder_189 (by decide) ?_
                refine x_calli hW (x_runV B hW (As := [.int 97]) (rest := []) (by decide) cM_o cls5 (c_X5_isSign (D := D) (ad := ad) l _ S_182 97 hTI_182) (cwV 1 B.1.2.2.2.2 gX5_isOrder_X5_isSign rfl rfl rfl hd_X5_isSign ⟨Nat.le_of_ble_eq_true rfl, Nat.le_of_ble_eq_true rfl⟩) rfl hls (Nat.le_of_ble_eq_true rfl) dX5_isOrder_191 ⟨Nat.zero_le _, Nat.zero_le _⟩) (fun r_191 S_191 H locs he hW => ?_)
                obtain ⟨hr_191, hz_191⟩ := he
                have zk := nmp_at zk hr_191
                have he_191 : S_191 = (x_X5_isSign S_182 97).2 := by rw [← hr_191]
                have hTI_191 : TI S_191 := by rw [he_191]; exact TI_isSign hTI_182
                refine lv_if_eq (tgt := 217) hx hb dX5_isOrder_194 (by decide) (fun c_194 => ?_) (fun c_194 => ?_)
                · have zk := zk.trans (if_pos c_194)
                  refine lv_iconst (v := 0) hx hb dX5_isOrder_217 (by decide) ?_
                  exact x_zret B hW (Or.inl rfl) ⟨zk.symm, (Or.inl rfl)⟩ dX5_isOrder_218
                · have zk := zk.trans (if_neg c_194)
                  refine lv_aload_n hx hb dX5_isOrder_197 rfl (lv_at hl 1 rfl) ?_
                  refine lv_bipush (v := 121) hx hb dX5_isOrder_198 (by decide) ?_
                  refine x_calli hW (x_runV B hW (As := [.int 121]) (rest := []) (by decide) cM_o cls5 (c_X5_isSign (D := D) (ad := ad) l _ S_191 121 hTI_191) (cwV 1 B.1.2.2.2.2 gX5_isOrder_X5_isSign rfl rfl rfl hd_X5_isSign ⟨Nat.le_of_ble_eq_true rfl, Nat.le_of_ble_eq_true rfl⟩) rfl hls (Nat.le_of_ble_eq_true rfl) dX5_isOrder_200 ⟨Nat.zero_le _, Nat.zero_le _⟩) (fun r_200 S_200 H locs he hW => ?_)
                  obtain ⟨hr_200, hz_200⟩ := he
                  have zk := nmp_at zk hr_200
                  have he_200 : S_200 = (x_X5_isSign S_191 121).2 := by rw [← hr_200]
                  have hTI_200 : TI S_200 := by rw [he_200]; exact TI_isSign hTI_191
                  refine lv_if_eq (tgt := 217) hx hb dX5_isOrder_203 (by decide) (fun c_203 => ?_) (fun c_203 => ?_)
                  · have zk := zk.trans (if_pos c_203)
                    refine lv_iconst (v := 0) hx hb dX5_isOrder_217 (by decide) ?_
                    exact x_zret B hW (Or.inl rfl) ⟨zk.symm, (Or.inl rfl)⟩ dX5_isOrder_218
                  · have zk := zk.trans (if_neg c_203)
                    refine lv_aload_n hx hb dX5_isOrder_206 rfl (lv_at hl 1 rfl) ?_
                    refine x_calli hW (x_runV B hW (As := []) (rest := []) (by decide) cM_o cls5 (c_X5_isMoney (D := D) (ad := ad) l _ S_200 hTI_200) (cwV 0 B.1.2.2.2.2 gX5_isOrder_X5_isMoney rfl rfl rfl hd_X5_isMoney ⟨Nat.le_of_ble_eq_true rfl, Nat.le_of_ble_eq_true rfl⟩) rfl hls (Nat.le_of_ble_eq_true rfl) dX5_isOrder_207 ⟨Nat.zero_le _, Nat.zero_le _⟩) (fun r_207 S_207 H locs he hW => ?_)
                    obtain ⟨hr_207, hz_207⟩ := he
                    have zk := nmp_at zk hr_207
                    have he_207 : S_207 = (x_X5_isMoney S_200).2 := by rw [← hr_207]
                    have hTI_207 : TI S_207 := by rw [he_207]; exact TI_isMoney hTI_200
                    refine lv_if_eq (tgt := 217) hx hb dX5_isOrder_210 (by decide) (fun c_210 => ?_) (fun c_210 => ?_)
                    · have zk := zk.trans (if_pos c_210)
                      refine lv_iconst (v := 0) hx hb dX5_isOrder_217 (by decide) ?_
                      exact x_zret B hW (Or.inl rfl) ⟨zk.symm, (Or.inl rfl)⟩ dX5_isOrder_218
                    · have zk := zk.trans (if_neg c_210)
                      refine lv_iconst (v := 1) hx hb dX5_isOrder_213 (by decide) ?_
                      refine lv_goto (tgt := 218) hx hb dX5_isOrder_214 (by decide) ?_
                      exact x_zret B hW (Or.inr rfl) ⟨zk.symm, (Or.inr rfl)⟩ dX5_isOrder_218
            · have zk := zk.trans (if_neg c_26_112)
              by_cases c_26_119 : x_24 = 119
              · have zk := zk.trans (if_pos c_26_119)
                refine lv_lookup (off := 241) (tgt := 267) hx hb dX5_isOrder_26 (by decide) (by rw [c_26_119]; decide) (by decide) ?_
                refine lv_aload_n hx hb dX5_isOrder_267 rfl (lv_at hl 1 rfl) ?_
                refine lv_iconst (v := 4) hx hb dX5_isOrder_268 (by decide) ?_
                refine x_calli hW (x_runV B hW (As := [.int 4]) (rest := []) (by decide) cM_o cls5 (c_X5_kinds (D := D) (ad := ad) l _ S 4 hTI c_8) (cwV 1 B.1.2.2.2.2 gX5_isOrder_X5_kinds rfl rfl rfl hd_X5_kinds ⟨Nat.le_of_ble_eq_true rfl, Nat.le_of_ble_eq_true rfl⟩) rfl hls (Nat.le_of_ble_eq_true rfl) dX5_isOrder_269 ⟨Nat.zero_le _, Nat.zero_le _⟩) (fun r_269 S_269 H locs he hW => ?_)
                obtain ⟨hr_269, hz_269⟩ := he
                have zk := nmp_at zk hr_269
                have he_269 : S_269 = (x_X5_kinds S 4).2 := by rw [← hr_269]
                have hTI_269 : TI S_269 := by rw [he_269]; exact TI_kinds hTI c_8
                refine lv_if_eq (tgt := 306) hx hb dX5_isOrder_272 (by decide) (fun c_272 => ?_) (fun c_272 => ?_)
                · have zk := zk.trans (if_pos c_272)
                  refine lv_iconst (v := 0) hx hb dX5_isOrder_306 (by decide) ?_
                  exact x_zret B hW (Or.inl rfl) ⟨zk.symm, (Or.inl rfl)⟩ dX5_isOrder_307
                · have zk := zk.trans (if_neg c_272)
                  refine lv_aload_n hx hb dX5_isOrder_275 rfl (lv_at hl 1 rfl) ?_
                  refine lv_bipush (v := 101) hx hb dX5_isOrder_276 (by decide) ?_
                  refine x_calli hW (x_runV B hW (As := [.int 101]) (rest := []) (by decide) cM_o cls5 (c_X5_isSign (D := D) (ad := ad) l _ S_269 101 hTI_269) (cwV 1 B.1.2.2.2.2 gX5_isOrder_X5_isSign rfl rfl rfl hd_X5_isSign ⟨Nat.le_of_ble_eq_true rfl, Nat.le_of_ble_eq_true rfl⟩) rfl hls (Nat.le_of_ble_eq_true rfl) dX5_isOrder_278 ⟨Nat.zero_le _, Nat.zero_le _⟩) (fun r_278 S_278 H locs he hW => ?_)
                  obtain ⟨hr_278, hz_278⟩ := he
                  have zk := nmp_at zk hr_278
                  have he_278 : S_278 = (x_X5_isSign S_269 101).2 := by rw [← hr_278]
                  have hTI_278 : TI S_278 := by rw [he_278]; exact TI_isSign hTI_269
                  refine lv_if_eq (tgt := 306) hx hb dX5_isOrder_281 (by decide) (fun c_281 => ?_) (fun c_281 => ?_)
                  · have zk := zk.trans (if_pos c_281)
                    refine lv_iconst (v := 0) hx hb dX5_isOrder_306 (by decide) ?_
                    exact x_zret B hW (Or.inl rfl) ⟨zk.symm, (Or.inl rfl)⟩ dX5_isOrder_307
                  · have zk := zk.trans (if_neg c_281)
                    refine lv_aload_n hx hb dX5_isOrder_284 rfl (lv_at hl 1 rfl) ?_
                    refine lv_bipush (v := 101) hx hb dX5_isOrder_285 (by decide) ?_
                    refine x_calli hW (x_runV B hW (As := [.int 101]) (rest := []) (by decide) cM_o cls5 (c_X5_isSign (D := D) (ad := ad) l _ S_278 101 hTI_278) (cwV 1 B.1.2.2.2.2 gX5_isOrder_X5_isSign rfl rfl rfl hd_X5_isSign ⟨Nat.le_of_ble_eq_true rfl, Nat.le_of_ble_eq_true rfl⟩) rfl hls (Nat.le_of_ble_eq_true rfl) dX5_isOrder_287 ⟨Nat.zero_le _, Nat.zero_le _⟩) (fun r_287 S_287 H locs he hW => ?_)
                    obtain ⟨hr_287, hz_287⟩ := he
                    have zk := nmp_at zk hr_287
                    have he_287 : S_287 = (x_X5_isSign S_278 101).2 := by rw [← hr_287]
                    have hTI_287 : TI S_287 := by rw [he_287]; exact TI_isSign hTI_278
                    refine lv_if_eq (tgt := 306) hx hb dX5_isOrder_290 (by decide) (fun c_290 => ?_) (fun c_290 => ?_)
                    · have zk := zk.trans (if_pos c_290)
                      refine lv_iconst (v := 0) hx hb dX5_isOrder_306 (by decide) ?_
                      exact x_zret B hW (Or.inl rfl) ⟨zk.symm, (Or.inl rfl)⟩ dX5_isOrder_307
                    · have zk := zk.trans (if_neg c_290)
                      refine lv_aload_n hx hb dX5_isOrder_293 rfl (lv_at hl 1 rfl) ?_
                      refine lv_bipush (v := 107) hx hb dX5_isOrder_294 (by decide) ?_
                      refine x_calli hW (x_runV B hW (As := [.int 107]) (rest := []) (by decide) cM_o cls5 (c_X5_isSign (D := D) (ad := ad) l _ S_287 107 hTI_287) (cwV 1 B.1.2.2.2.2 gX5_isOrder_X5_isSign rfl rfl rfl hd_X5_isSign ⟨Nat.le_of_ble_eq_true rfl, Nat.le_of_ble_eq_true rfl⟩) rfl hls (Nat.le_of_ble_eq_true rfl) dX5_isOrder_296 ⟨Nat.zero_le _, Nat.zero_le _⟩) (fun r_296 S_296 H locs he hW => ?_)
                      obtain ⟨hr_296, hz_296⟩ := he
                      have zk := nmp_at zk hr_296
                      have he_296 : S_296 = (x_X5_isSign S_287 107).2 := by rw [← hr_296]
                      have hTI_296 : TI S_296 := by rw [he_296]; exact TI_isSign hTI_287
                      refine lv_if_eq (tgt := 306) hx hb dX5_isOrder_299 (by decide) (fun c_299 => ?_) (fun c_299 => ?_)
                      · have zk := zk.trans (if_pos c_299)
                        refine lv_iconst (v := 0) hx hb dX5_isOrder_306 (by decide) ?_
                        exact x_zret B hW (Or.inl rfl) ⟨zk.symm, (Or.inl rfl)⟩ dX5_isOrder_307
                      · have zk := zk.trans (if_neg c_299)
                        refine lv_iconst (v := 1) hx hb dX5_isOrder_302 (by decide) ?_
                        refine lv_goto (tgt := 307) hx hb dX5_isOrder_303 (by decide) ?_
                        exact x_zret B hW (Or.inr rfl) ⟨zk.symm, (Or.inr rfl)⟩ dX5_isOrder_307
              · have zk := zk.trans (if_neg c_26_119)
                refine lv_lookup (off := 332) (tgt := 358) hx hb dX5_isOrder_26 (by decide) (by rw [lv_osw c_26_97 (by decide), lv_osw c_26_99 (by decide), lv_osw c_26_104 (by decide), lv_osw c_26_108 (by decide), lv_osw c_26_112 (by decide), lv_osw c_26_119 (by decide)]; rfl) (by decide) ?_
                refine lv_aload_n hx hb dX5_isOrder_358 rfl (lv_at hl 1 rfl) ?_
                refine x_calli hW (x_runV B hW (As := []) (rest := []) (by decide) cM_o cls5 (c_X5_stops (D := D) (ad := ad) l _ S) (cwV 0 B.1.2.2.2.2 gX5_isOrder_X5_stops rfl rfl rfl hd_X5_stops ⟨Nat.le_of_ble_eq_true rfl, Nat.le_of_ble_eq_true rfl⟩) rfl hls (Nat.le_of_ble_eq_true rfl) dX5_isOrder_359 ⟨Nat.zero_le _, Nat.zero_le _⟩) (fun r_359 S_359 H locs he hW => ?_)
                obtain ⟨hr_359, hz_359⟩ := he
                have zk := nmp_at zk hr_359
                have he_359 : S_359 = (x_X5_stops S).2 := by rw [← hr_359]
                have hTI_359 : TI S_359 := by rw [he_359]; exact TI_stops hTI
                exact x_zret B hW hz_359 ⟨zk.symm, hz_359⟩ dX5_isOrder_362
theorem ad_isOrder {S : vS} (h : TI S) : PP S 4 (x_X5_isOrder S) := by
  unfold x_X5_isOrder
  simp only [nm_eq]
  by_cases c : (S 0 5) ≤ (S 0 7)
  · rw [if_pos c]; exact ad_stops h
  · rw [if_neg c]
    split
    · exact PP.chain (by decide) (AD.rf h) (ad_kinds h c) (fun _ _ _ q => PP.zero q) (fun _ _ q => PP.chain (by decide) q (ad_isSign q.1) (fun _ _ _ q => PP.zero q) (fun _ _ q => PP.chain (by decide) q (ad_isSign q.1) (fun _ _ _ q => PP.zero q) (fun _ _ q => PP.chain (by decide) q (ad_isSign q.1) (fun _ _ _ q => PP.zero q) (fun _ _ q => PP.chain (by decide) q (ad_isMemberOf q.1) (fun _ _ _ q => PP.zero q) (fun _ _ q => PP.one q (by decide) (by decide))))))
    · split
      · exact PP.chain (by decide) (AD.rf h) (ad_kinds h c) (fun _ _ _ q => PP.zero q) (fun _ _ q => PP.chain (by decide) q (ad_isSign q.1) (fun _ _ _ q => PP.zero q) (fun _ _ q => PP.chain (by decide) q (ad_isSign q.1) (fun _ _ _ q => PP.zero q) (fun _ _ q => PP.chain (by decide) q (ad_isSign q.1) (fun _ _ _ q => PP.zero q) (fun _ _ q => PP.chain (by decide) q (ad_isSign q.1) (fun _ _ _ q => PP.zero q) (fun _ _ q => PP.one q (by decide) (by decide))))))
      · split
        · exact PP.chain (by decide) (AD.rf h) (ad_kinds h c) (fun _ _ _ q => PP.zero q) (fun _ _ q => PP.chain (by decide) q (ad_isSign q.1) (fun _ _ _ q => PP.zero q) (fun _ _ q => PP.chain (by decide) q (ad_isSign q.1) (fun _ _ _ q => PP.zero q) (fun _ _ q => PP.chain (by decide) q (ad_isSign q.1) (fun _ _ _ q => PP.zero q) (fun _ _ q => PP.chain (by decide) q (ad_isMoney q.1) (fun _ _ _ q => PP.zero q) (fun _ _ q => PP.one q (by decide) (by decide))))))
        · split
          · exact PP.chain (by decide) (AD.rf h) (ad_kinds h c) (fun _ _ _ q => PP.zero q) (fun _ _ q => PP.chain (by decide) q (ad_isSign q.1) (fun _ _ _ q => PP.zero q) (fun _ _ q => PP.chain (by decide) q (ad_isSign q.1) (fun _ _ _ q => PP.zero q) (fun _ _ q => PP.chain (by decide) q (ad_isSign q.1) (fun _ _ _ q => PP.zero q) (fun _ _ q => PP.chain (by decide) q (ad_isLoan q.1) (fun _ _ _ q => PP.zero q) (fun _ _ q => PP.one q (by decide) (by decide))))))
          · split
            · exact PP.chain (by decide) (AD.rf h) (ad_kinds h c) (fun _ _ _ q => PP.zero q) (fun _ _ q => PP.chain (by decide) q (ad_isSign q.1) (fun _ _ _ q => PP.zero q) (fun _ _ q => PP.chain (by decide) q (ad_isSign q.1) (fun _ _ _ q => PP.zero q) (fun _ _ q => PP.chain (by decide) q (ad_isMoney q.1) (fun _ _ _ q => PP.zero q) (fun _ _ q => PP.one q (by decide) (by decide)))))
            · split
              · exact PP.chain (by decide) (AD.rf h) (ad_kinds h c) (fun _ _ _ q => PP.zero q) (fun _ _ q => PP.chain (by decide) q (ad_isSign q.1) (fun _ _ _ q => PP.zero q) (fun _ _ q => PP.chain (by decide) q (ad_isSign q.1) (fun _ _ _ q => PP.zero q) (fun _ _ q => PP.chain (by decide) q (ad_isSign q.1) (fun _ _ _ q => PP.zero q) (fun _ _ q => PP.one q (by decide) (by decide)))))
              · exact ad_stops h
theorem TI_isOrder {S : vS} (h : TI S) : TI (x_X5_isOrder S).2 := (ad_isOrder h).1.1
theorem tp_isOrder {S S0 : vS} (h : TP S0 S) : TP S0 (x_X5_isOrder S).2 := by
  unfold x_X5_isOrder
  simp only [nm_eq]
  by_cases c : (S 0 5) ≤ (S 0 7)
  · rw [if_pos c]; exact tp_stops h
  · rw [if_neg c]
    split
    · exact TP.chain (tp_kinds h) (fun _ _ q => q) (fun _ _ q => TP.chain (tp_isSign q) (fun _ _ q => q) (fun _ _ q => TP.chain (tp_isSign q) (fun _ _ q => q) (fun _ _ q => TP.chain (tp_isSign q) (fun _ _ q => q) (fun _ _ q => TP.chain (tp_isMemberOf q) (fun _ _ q => q) (fun _ _ q => q)))))
    · split
      · exact TP.chain (tp_kinds h) (fun _ _ q => q) (fun _ _ q => TP.chain (tp_isSign q) (fun _ _ q => q) (fun _ _ q => TP.chain (tp_isSign q) (fun _ _ q => q) (fun _ _ q => TP.chain (tp_isSign q) (fun _ _ q => q) (fun _ _ q => TP.chain (tp_isSign q) (fun _ _ q => q) (fun _ _ q => q)))))
      · split
        · exact TP.chain (tp_kinds h) (fun _ _ q => q) (fun _ _ q => TP.chain (tp_isSign q) (fun _ _ q => q) (fun _ _ q => TP.chain (tp_isSign q) (fun _ _ q => q) (fun _ _ q => TP.chain (tp_isSign q) (fun _ _ q => q) (fun _ _ q => TP.chain (tp_isMoney q) (fun _ _ q => q) (fun _ _ q => q)))))
        · split
          · exact TP.chain (tp_kinds h) (fun _ _ q => q) (fun _ _ q => TP.chain (tp_isSign q) (fun _ _ q => q) (fun _ _ q => TP.chain (tp_isSign q) (fun _ _ q => q) (fun _ _ q => TP.chain (tp_isSign q) (fun _ _ q => q) (fun _ _ q => TP.chain (tp_isLoan q) (fun _ _ q => q) (fun _ _ q => q)))))
          · split
            · exact TP.chain (tp_kinds h) (fun _ _ q => q) (fun _ _ q => TP.chain (tp_isSign q) (fun _ _ q => q) (fun _ _ q => TP.chain (tp_isSign q) (fun _ _ q => q) (fun _ _ q => TP.chain (tp_isMoney q) (fun _ _ q => q) (fun _ _ q => q))))
            · split
              · exact TP.chain (tp_kinds h) (fun _ _ q => q) (fun _ _ q => TP.chain (tp_isSign q) (fun _ _ q => q) (fun _ _ q => TP.chain (tp_isSign q) (fun _ _ q => q) (fun _ _ q => TP.chain (tp_isSign q) (fun _ _ q => q) (fun _ _ q => q))))
              · exact tp_stops h

def x_X5_isText_L17 : Nat → vS → Int32 → (Int32 × vS)
  | 0, S, _ => (0, S)
  | n + 1, S, v1 => if v1 = 0 then if (S 0 5) ≤ (S 0 7) then nm (st S 0 8 0) (fun S_87 => if (S_87 0 7) = (S_87 0 5) then (1, S_87) else (0, S_87)) else nm (st S 0 8 1) (fun S_87 => if (S_87 0 7) = (S_87 0 5) then (1, S_87) else (0, S_87)) else nmp (x_X5_isOrder S) (fun r_22 S_22 => if r_22 = 0 then (0, S_22) else nm (st S_22 0 11 ((S_22 0 11) + 1)) (fun S_37 => nm (x_X5_isAt S_37 59 59) (fun r_45 => if r_45 = 0 then nm (st S_37 0 7 ((S_37 0 7) + 0)) (fun S_64 => x_X5_isText_L17 n S_64 (r_45)) else nm (st S_37 0 7 ((S_37 0 7) + 1)) (fun S_64 => x_X5_isText_L17 n S_64 (r_45)))))
def x_X5_isText (S : vS) : (Int32 × vS) := nm (st S 0 7 0) (fun S_2 => nm (st S_2 0 11 0) (fun S_7 => nm (st S_7 0 8 0) (fun S_12 => x_X5_isText_L17 (62) S_12 (1))))
theorem hd_X5_isText : yX5_isText.cls = RX5 ∧ yX5_isText.cls ≠ "java/lang/invoke/MethodHandle" ∧ yX5_isText.cls ≠ "java/lang/invoke/VarHandle" ∧ (parseMethodDescriptor yX5_isText.desc).map (fun d => d.parameters.length) = some 0 := by decide +kernel
set_option maxHeartbeats 4000000 in
set_option maxRecDepth 100000 in
theorem w_X5_isText_L17 {D : va_G} {ad : Nat → Nat} (l : Launch) {p : Program} {e : Env} {s : State} {mm : MethodId} {args : Array Value} {below : List Frame} {meth : Method} {c : Code} {A : Nat → Prop} (B : Cx p mm c cX5_isText 2 s args wsX5_isText RX5 meth (some .boolean) D) (z : (Int32 × vS)) : ∀ (n : Nat) (v1 : Int32) (S : vS) (H : Heap) (locs : List Loc) (ls : Array Slot), (S 0 5).toInt < (S 0 7).toInt + (n : Int) → TJ S v1 → Wd D 7 (cM D ad) ad A s.heap S H locs → lv_has ls 2 [(1, .int v1), (0, .ref (ad 0))] → ls.size = 2 → z = x_X5_isText_L17 n S v1 → W p l e (rmD 5) s mm args below meth c H locs 0 0 (MQ below (va_Qi (fun (r : Int32) (S1 : vS) => (r, S1) = z ∧ (r = 0 ∨ r = 1)) (bW D 7 (cM D ad) ad A) A) args s 0 0 A) (F0 mm 17 ls []) := by
  have hx := B.1.1
  have hb := B.1.2.1
  have hin_X5 : ∀ w ∈ wsX50, w ∈ wsX5_isText := fun w h => List.mem_cons_of_mem _ (List.mem_append_right _ h)
  have k_145 := B.1.2.2.2.2 (.fieldLink RX5 145 "JointLoansModel" "typed" "I") (by decide +kernel)
  have k_148 := B.1.2.2.2.2 (.fieldLink RX5 148 "JointLoansModel" "at" "I") (by decide +kernel)
  have k_151 := B.1.2.2.2.2 (.fieldLink RX5 151 "JointLoansModel" "isFault" "Z") (by decide +kernel)
  have k_166 := B.1.2.2.2.2 (.fieldLink RX5 166 "JointLoansModel" "tolds" "I") (by decide +kernel)
  intro n
  induction n with
  | zero =>
    intro v1 S H locs ls hms hTJ
    exact absurd hTJ.1.2.2.2 (by omega)
  | succ n ih =>
    intro v1 S H locs ls hms hTJ hW hl hls zk
    have zk := zk.trans (x_X5_isText_L17.eq_2 _ _ _ )
    refine lv_iload_n hx hb dX5_isText_17 rfl (lv_at hl 0 rfl) ?_
    refine lv_if_eq (tgt := 70) hx hb dX5_isText_18 (by decide) (fun c_18 => ?_) (fun c_18 => ?_)
    · have zk := zk.trans (if_pos c_18)
      refine lv_aload_n hx hb dX5_isText_70 rfl (lv_at hl 1 rfl) ?_
      refine lv_aload_n hx hb dX5_isText_71 rfl (lv_at hl 1 rfl) ?_
      refine x_get B hW (by decide) cM_o cls5 hin_X5 7 (by decide) (v := .int (S 0 7)) rfl k_148 dX5_isText_72 ?_
      refine lv_aload_n hx hb dX5_isText_75 rfl (lv_at hl 1 rfl) ?_
      refine x_get B hW (by decide) cM_o cls5 hin_X5 5 (by decide) (v := .int (S 0 5)) rfl k_145 dX5_isText_76 ?_
      refine lv_icmp_ge (tgt := 86) hx hb dX5_isText_79 (by decide) (fun c_79 => ?_) (fun c_79 => ?_)
      · have zk := zk.trans (if_pos c_79)
        refine lv_iconst (v := 0) hx hb dX5_isText_86 (by decide) ?_
        refine x_put B hW (by decide) cls5 hin_X5 8 (by decide) cM_o rfl (ty := .boolean) (by decide +kernel) (nar_z (Or.inl rfl)) (fit_z (Or.inl rfl)) (Nat.le_of_ble_eq_true rfl) (j := 8) (pO_8 (Or.inl rfl)) k_151 dX5_isText_87 (fun H locs S_87 he_87 hW => ?_)
        have zk := nm_at zk he_87
        have hTI_87 : TI S_87 := by rw [he_87]; exact TI_st0 hTJ.1 (by decide)
        have hf_S_87_0_11_16 : vp_in (S_87 0 11) 16 := by rw [he_87, st_at, if_neg (by rintro ⟨h1, h2⟩; omega)]; exact (hTJ.1).2.1
        have hf_S_87_0_5_61 : vp_in (S_87 0 5) 61 := by rw [he_87, st_at, if_neg (by rintro ⟨h1, h2⟩; omega)]; exact (hTJ.1).1
        have hf_S_87_0_8_1 : vp_in (S_87 0 8) 1 := by rw [he_87, st_at, if_pos ⟨rfl, rfl⟩]; exact isN_vin (isN_lit 0 (by decide)) (by decide) (by decide)
        refine lv_aload_n hx hb dX5_isText_90 rfl (lv_at hl 1 rfl) ?_
        refine x_get B hW (by decide) cM_o cls5 hin_X5 7 (by decide) (v := .int (S_87 0 7)) rfl k_148 dX5_isText_91 ?_
        refine lv_aload_n hx hb dX5_isText_94 rfl (lv_at hl 1 rfl) ?_
        refine x_get B hW (by decide) cM_o cls5 hin_X5 5 (by decide) (v := .int (S_87 0 5)) rfl k_145 dX5_isText_95 ?_
        refine lv_icmp_ne (tgt := 105) hx hb dX5_isText_98 (by decide) (fun c_98 => ?_) (fun c_98 => ?_)
        · have zk := zk.trans (if_neg c_98)
          refine lv_iconst (v := 0) hx hb dX5_isText_105 (by decide) ?_
          exact x_zret B hW (Or.inl rfl) ⟨zk.symm, (Or.inl rfl)⟩ dX5_isText_106
        · have zk := zk.trans (if_pos c_98)
          refine lv_iconst (v := 1) hx hb dX5_isText_101 (by decide) ?_
          refine lv_goto (tgt := 106) hx hb dX5_isText_102 (by decide) ?_
          exact x_zret B hW (Or.inr rfl) ⟨zk.symm, (Or.inr rfl)⟩ dX5_isText_106
      · have zk := zk.trans (if_neg c_79)
        refine lv_iconst (v := 1) hx hb dX5_isText_82 (by decide) ?_
        refine lv_goto (tgt := 87) hx hb dX5_isText_83 (by decide) ?_
        refine x_put B hW (by decide) cls5 hin_X5 8 (by decide) cM_o rfl (ty := .boolean) (by decide +kernel) (nar_z (Or.inr rfl)) (fit_z (Or.inr rfl)) (Nat.le_of_ble_eq_true rfl) (j := 8) (pO_8 (Or.inr rfl)) k_151 dX5_isText_87 (fun H locs S_87 he_87 hW => ?_)
        have zk := nm_at zk he_87
        have hTI_87 : TI S_87 := by rw [he_87]; exact TI_st0 hTJ.1 (by decide)
        have hAT_87 : ¬ (S_87 0 5) ≤ (S_87 0 7) := by rw [he_87, st_at, st_at, if_neg (by rintro ⟨h1, h2⟩; omega), if_neg (by rintro ⟨h1, h2⟩; omega)]; exact c_79
        have hf_S_87_0_11_16 : vp_in (S_87 0 11) 16 := by rw [he_87, st_at, if_neg (by rintro ⟨h1, h2⟩; omega)]; exact (hTJ.1).2.1
        have hf_S_87_0_5_61 : vp_in (S_87 0 5) 61 := by rw [he_87, st_at, if_neg (by rintro ⟨h1, h2⟩; omega)]; exact (hTJ.1).1
        have hf_S_87_0_7_60 : vp_in (S_87 0 7) 60 := by rw [he_87, st_at, if_neg (by rintro ⟨h1, h2⟩; omega)]; exact (TI.at hTJ.1 c_79)
        have hf_S_87_0_8_2 : vp_in (S_87 0 8) 2 := by rw [he_87, st_at, if_pos ⟨rfl, rfl⟩]; exact isN_vin (isN_lit 1 (by decide)) (by decide) (by decide)
        refine lv_aload_n hx hb dX5_isText_90 rfl (lv_at hl 1 rfl) ?_
        refine x_get B hW (by decide) cM_o cls5 hin_X5 7 (by decide) (v := .int (S_87 0 7)) rfl k_148 dX5_isText_91 ?_
        refine lv_aload_n hx hb dX5_isText_94 rfl (lv_at hl 1 rfl) ?_
        refine x_get B hW (by decide) cM_o cls5 hin_X5 5 (by decide) (v := .int (S_87 0 5)) rfl k_145 dX5_isText_95 ?_
        refine lv_icmp_ne (tgt := 105) hx hb dX5_isText_98 (by decide) (fun c_98 => ?_) (fun c_98 => ?_)
        · have zk := zk.trans (if_neg c_98)
          refine lv_iconst (v := 0) hx hb dX5_isText_105 (by decide) ?_
          exact x_zret B hW (Or.inl rfl) ⟨zk.symm, (Or.inl rfl)⟩ dX5_isText_106
        · have zk := zk.trans (if_pos c_98)
          refine lv_iconst (v := 1) hx hb dX5_isText_101 (by decide) ?_
          refine lv_goto (tgt := 106) hx hb dX5_isText_102 (by decide) ?_
          exact x_zret B hW (Or.inr rfl) ⟨zk.symm, (Or.inr rfl)⟩ dX5_isText_106
    · have zk := zk.trans (if_neg c_18)
      refine lv_aload_n hx hb dX5_isText_21 rfl (lv_at hl 1 rfl) ?_
      refine x_calli hW (x_runV B hW (As := []) (rest := []) (by decide) cM_o cls5 (c_X5_isOrder (D := D) (ad := ad) l _ S hTJ.1) (cwV 0 B.1.2.2.2.2 gX5_isText_X5_isOrder rfl rfl rfl hd_X5_isOrder ⟨Nat.le_of_ble_eq_true rfl, Nat.le_of_ble_eq_true rfl⟩) rfl hls (Nat.le_of_ble_eq_true rfl) dX5_isText_22 ⟨Nat.zero_le _, Nat.zero_le _⟩) (fun r_22 S_22 H locs he hW => ?_)
      obtain ⟨hr_22, hz_22⟩ := he
      have zk := nmp_at zk hr_22
      have he_22 : S_22 = (x_X5_isOrder S).2 := by rw [← hr_22]
      have hTI_22 : TI S_22 := by rw [he_22]; exact TI_isOrder hTJ.1
      refine lv_if_ne (tgt := 30) hx hb dX5_isText_25 (by decide) (fun c_25 => ?_) (fun c_25 => ?_)
      · have zk := zk.trans (if_neg c_25)
        have hA22 : AD S S_22 4 := by rw [he_22]; exact (ad_isOrder hTJ.1).2 (by rw [← hr_22]; exact c_25)
        refine lv_aload_n hx hb dX5_isText_30 rfl (lv_at hl 1 rfl) ?_
        refine lv_dup hx hb dX5_isText_31 rfl ?_
        refine x_get B hW (by decide) cM_o cls5 hin_X5 11 (by decide) (v := .int (S_22 0 11)) rfl k_166 dX5_isText_32 ?_
        refine lv_iconst (v := 1) hx hb dX5_isText_35 (by decide) ?_
        refine lv_iadd hx hb dX5_isText_36 ?_
        refine x_put B hW (by decide) cls5 hin_X5 11 (by decide) cM_o rfl (ty := .int) (by decide +kernel) rfl rfl (Nat.le_of_ble_eq_true rfl) (j := 11) pO_11 k_166 dX5_isText_37 (fun H locs S_37 he_37 hW => ?_)
        have zk := nm_at zk he_37
        have hf_S_37_0_5_61 : vp_in (S_37 0 5) 61 := by rw [he_37, st_at, if_neg (by rintro ⟨h1, h2⟩; omega)]; exact (hTI_22).1
        have hf_S_37_0_11_17 : vp_in (S_37 0 11) 17 := by rw [he_37, st_at, if_pos ⟨rfl, rfl⟩]; exact isN_vin (isN_add (isN_var (hTI_22).2.1 (by decide)) (isN_lit 1 (by decide)) (by decide)) (by decide) (by decide)
        have hTI_37 : TI S_37 := by rw [he_37]; exact (TI_inc11 hTJ c_18 hA22).1
        refine lv_aload_n hx hb dX5_isText_40 rfl (lv_at hl 1 rfl) ?_
        refine lv_bipush (v := 59) hx hb dX5_isText_41 (by decide) ?_
        refine lv_bipush (v := 59) hx hb dX5_isText_43 (by decide) ?_
        refine x_calli hW (x_runV B hW (As := [.int 59, .int 59]) (rest := []) (by decide) cM_o cls5 (c_X5_isAt (D := D) (ad := ad) l _ S_37 59 59 hTI_37) (cwV 2 B.1.2.2.2.2 gX5_isText_X5_isAt rfl rfl rfl hd_X5_isAt ⟨Nat.le_of_ble_eq_true rfl, Nat.le_of_ble_eq_true rfl⟩) rfl hls (Nat.le_of_ble_eq_true rfl) dX5_isText_45 ⟨Nat.zero_le _, Nat.zero_le _⟩) (fun r_45 S_45 H locs he hW => ?_)
        obtain ⟨hr_45, hs, hz_45⟩ := he
        rw [hs] at hW
        have zk := nm_at zk hr_45
        refine lv_istore_n (lv' := [(1, .int r_45), (0, .ref (ad 0))]) hx hb dX5_isText_48 rfl hl (by decide) rfl (fun ls hl => ?_)
        have hls := hl.1
        refine lv_aload_n hx hb dX5_isText_49 rfl (lv_at hl 1 rfl) ?_
        refine lv_dup hx hb dX5_isText_50 rfl ?_
        refine x_get B hW (by decide) cM_o cls5 hin_X5 7 (by decide) (v := .int (S_37 0 7)) rfl k_148 dX5_isText_51 ?_
        refine lv_iload_n hx hb dX5_isText_54 rfl (lv_at hl 0 rfl) ?_
        refine lv_if_eq (tgt := 62) hx hb dX5_isText_55 (by decide) (fun c_55 => ?_) (fun c_55 => ?_)
        · have zk := zk.trans (if_pos c_55)
          refine lv_iconst (v := 0) hx hb dX5_isText_62 (by decide) ?_
          refine lv_iadd hx hb dX5_isText_63 ?_
          refine x_put B hW (by decide) cls5 hin_X5 7 (by decide) cM_o rfl (ty := .int) (by decide +kernel) rfl rfl (Nat.le_of_ble_eq_true rfl) (j := 7) pO_7 k_148 dX5_isText_64 (fun H locs S_64 he_64 hW => ?_)
          have zk := nm_at zk he_64
          have hTI_64 : TI S_64 := by rw [he_64]; exact TI_at0 hTI_37
          have hf_S_64_0_5_61 : vp_in (S_64 0 5) 61 := by rw [he_64, st_at, if_neg (by rintro ⟨h1, h2⟩; omega)]; exact (hTI_37).1
          have hf_S_64_0_11_17 : vp_in (S_64 0 11) 17 := by rw [he_64, st_at, if_neg (by rintro ⟨h1, h2⟩; omega)]; exact hf_S_37_0_11_17
          have hf_S_64_0_11_16 : vp_in (S_64 0 11) 16 := by rw [he_64, st_at, if_neg (by rintro ⟨h1, h2⟩; omega)]; exact (hTI_37).2.1
          refine lv_goto (tgt := 17) hx hb dX5_isText_67 (by decide) ?_
          exact ih (r_45) S_64 _ _ _ (ms_text hms hA22 he_37 hTI_37 he_64 (by first | exact Or.inl ⟨rfl, isAt_at hr_45 c_55⟩ | exact Or.inr rfl)) (by first | exact TJ_b1 hTJ c_18 hA22 he_37 hTI_37 (isAt_at hr_45 c_55) he_64 | exact ⟨hTI_64, fun z => absurd c_55 z⟩) hW (lv_sub hl [0, 1] rfl) hls zk
        · have zk := zk.trans (if_neg c_55)
          refine lv_iconst (v := 1) hx hb dX5_isText_58 (by decide) ?_
          refine lv_goto (tgt := 63) hx hb dX5_isText_59 (by decide) ?_
          refine lv_iadd hx hb dX5_isText_63 ?_
          refine x_put B hW (by decide) cls5 hin_X5 7 (by decide) cM_o rfl (ty := .int) (by decide +kernel) rfl rfl (Nat.le_of_ble_eq_true rfl) (j := 7) pO_7 k_148 dX5_isText_64 (fun H locs S_64 he_64 hW => ?_)
          have zk := nm_at zk he_64
          have hTI_64 : TI S_64 := by rw [he_64]; exact TI_at hTI_37 (isAt_at hr_45 c_55)
          have hf_S_64_0_5_61 : vp_in (S_64 0 5) 61 := by rw [he_64, st_at, if_neg (by rintro ⟨h1, h2⟩; omega)]; exact (hTI_37).1
          have hf_S_64_0_11_17 : vp_in (S_64 0 11) 17 := by rw [he_64, st_at, if_neg (by rintro ⟨h1, h2⟩; omega)]; exact hf_S_37_0_11_17
          have hf_S_64_0_11_16 : vp_in (S_64 0 11) 16 := by rw [he_64, st_at, if_neg (by rintro ⟨h1, h2⟩; omega)]; exact (hTI_37).2.1
          have hf_S_64_0_7_61 : vp_in (S_64 0 7) 61 := by rw [he_64, st_at, if_pos ⟨rfl, rfl⟩]; exact isN_vin (isN_add (isN_var (TI.at hTI_37 (isAt_at hr_45 c_55)) (by decide)) (isN_lit 1 (by decide)) (by decide)) (by decide) (by decide)
          refine lv_goto (tgt := 17) hx hb dX5_isText_67 (by decide) ?_
          exact ih (r_45) S_64 _ _ _ (ms_text hms hA22 he_37 hTI_37 he_64 (by first | exact Or.inl ⟨rfl, isAt_at hr_45 c_55⟩ | exact Or.inr rfl)) (by first | exact TJ_b1 hTJ c_18 hA22 he_37 hTI_37 (isAt_at hr_45 c_55) he_64 | exact ⟨hTI_64, fun z => absurd c_55 z⟩) hW (lv_sub hl [0, 1] rfl) hls zk
      · have zk := zk.trans (if_pos c_25)
        refine lv_iconst (v := 0) hx hb dX5_isText_28 (by decide) ?_
        exact x_zret B hW (Or.inl rfl) ⟨zk.symm, (Or.inl rfl)⟩ dX5_isText_29
set_option maxHeartbeats 4000000 in
set_option maxRecDepth 100000 in
theorem c_X5_isText {D : va_G} {ad : Nat → Nat} (l : Launch) (sz : Nat) (S : vS) (hty : vp_in (S 0 5) 61) : Met l yX5_isText wsX5_isText (rmD 5) (pW D 7 (cM D ad) ad sz S [.ref (ad 0)]) (va_Qi (fun (r : Int32) (S1 : vS) => (r, S1) = (x_X5_isText S) ∧ (r = 0 ∨ r = 1)) (bW D 7 (cM D ad) ad (aW 7 ad sz)) (aW 7 ad sz)) 0 0 (aW 7 ad sz) := by
  refine x_met (own := RX5) (cc := cX5_isText) (maxL := 2) (ret := (some .boolean)) (Qc := fun A => va_Qi (fun (r : Int32) (S1 : vS) => (r, S1) = (x_X5_isText S) ∧ (r = 0 ∨ r = 1)) (bW D 7 (cM D ad) ad A) A) rfl ⟨by decide +kernel, rfl, Nat.le_of_ble_eq_true rfl⟩ ?_
  intro p e s mm args below meth c A ls B hW hl hls
  have hx := B.1.1
  have hb := B.1.2.1
  have hin_X5 : ∀ w ∈ wsX50, w ∈ wsX5_isText := fun w h => List.mem_cons_of_mem _ (List.mem_append_right _ h)
  have k_145 := B.1.2.2.2.2 (.fieldLink RX5 145 "JointLoansModel" "typed" "I") (by decide +kernel)
  have k_148 := B.1.2.2.2.2 (.fieldLink RX5 148 "JointLoansModel" "at" "I") (by decide +kernel)
  have k_151 := B.1.2.2.2.2 (.fieldLink RX5 151 "JointLoansModel" "isFault" "Z") (by decide +kernel)
  have k_166 := B.1.2.2.2.2 (.fieldLink RX5 166 "JointLoansModel" "tolds" "I") (by decide +kernel)
  have zk := x_X5_isText.eq_1 S
  have hl : lv_has ls 2 [(0, .ref (ad 0))] := hl
  refine lv_aload_n hx hb dX5_isText_0 rfl (lv_at hl 0 rfl) ?_
  refine lv_iconst (v := 0) hx hb dX5_isText_1 (by decide) ?_
  refine x_put B hW (by decide) cls5 hin_X5 7 (by decide) cM_o rfl (ty := .int) (by decide +kernel) rfl rfl (Nat.le_of_ble_eq_true rfl) (j := 7) pO_7 k_148 dX5_isText_2 (fun H locs S_2 he_2 hW => ?_)
  have zk := nm_at zk he_2
  have hf_S_2_0_5_61 : vp_in (S_2 0 5) 61 := by rw [he_2, st_at, if_neg (by rintro ⟨h1, h2⟩; omega)]; exact hty
  have hf_S_2_0_7_1 : vp_in (S_2 0 7) 1 := by rw [he_2, st_at, if_pos ⟨rfl, rfl⟩]; exact isN_vin (isN_lit 0 (by decide)) (by decide) (by decide)
  refine lv_aload_n hx hb dX5_isText_5 rfl (lv_at hl 0 rfl) ?_
  refine lv_iconst (v := 0) hx hb dX5_isText_6 (by decide) ?_
  refine x_put B hW (by decide) cls5 hin_X5 11 (by decide) cM_o rfl (ty := .int) (by decide +kernel) rfl rfl (Nat.le_of_ble_eq_true rfl) (j := 11) pO_11 k_166 dX5_isText_7 (fun H locs S_7 he_7 hW => ?_)
  have zk := nm_at zk he_7
  have hf_S_7_0_5_61 : vp_in (S_7 0 5) 61 := by rw [he_7, st_at, if_neg (by rintro ⟨h1, h2⟩; omega)]; exact hf_S_2_0_5_61
  have hf_S_7_0_7_1 : vp_in (S_7 0 7) 1 := by rw [he_7, st_at, if_neg (by rintro ⟨h1, h2⟩; omega)]; exact hf_S_2_0_7_1
  have hf_S_7_0_11_1 : vp_in (S_7 0 11) 1 := by rw [he_7, st_at, if_pos ⟨rfl, rfl⟩]; exact isN_vin (isN_lit 0 (by decide)) (by decide) (by decide)
  refine lv_aload_n hx hb dX5_isText_10 rfl (lv_at hl 0 rfl) ?_
  refine lv_iconst (v := 0) hx hb dX5_isText_11 (by decide) ?_
  refine x_put B hW (by decide) cls5 hin_X5 8 (by decide) cM_o rfl (ty := .boolean) (by decide +kernel) (nar_z (Or.inl rfl)) (fit_z (Or.inl rfl)) (Nat.le_of_ble_eq_true rfl) (j := 8) (pO_8 (Or.inl rfl)) k_151 dX5_isText_12 (fun H locs S_12 he_12 hW => ?_)
  have zk := nm_at zk he_12
  have hf_S_12_0_5_61 : vp_in (S_12 0 5) 61 := by rw [he_12, st_at, if_neg (by rintro ⟨h1, h2⟩; omega)]; exact hf_S_7_0_5_61
  have hf_S_12_0_7_1 : vp_in (S_12 0 7) 1 := by rw [he_12, st_at, if_neg (by rintro ⟨h1, h2⟩; omega)]; exact hf_S_7_0_7_1
  have hf_S_12_0_11_1 : vp_in (S_12 0 11) 1 := by rw [he_12, st_at, if_neg (by rintro ⟨h1, h2⟩; omega)]; exact hf_S_7_0_11_1
  have hf_S_12_0_8_1 : vp_in (S_12 0 8) 1 := by rw [he_12, st_at, if_pos ⟨rfl, rfl⟩]; exact isN_vin (isN_lit 0 (by decide)) (by decide) (by decide)
  refine lv_iconst (v := 1) hx hb dX5_isText_15 (by decide) ?_
  refine lv_istore_n (lv' := [(1, .int 1), (0, .ref (ad 0))]) hx hb dX5_isText_16 rfl hl (by decide) rfl (fun ls hl => ?_)
  have hls := hl.1
  exact w_X5_isText_L17 l B  _  (62) (1) S_12 _ _ _ (ms_first (TJ_first (v := 1) hty he_2 he_7 he_12).1) (TJ_first hty he_2 he_7 he_12) hW (lv_sub hl [0, 1] rfl) hls zk
theorem tp_isText_L : ∀ (n : Nat) (S S0 : vS) (v : Int32), TP S0 S → TP S0 (x_X5_isText_L17 n S v).2 := by
  intro n
  induction n with
  | zero => intro S S0 v h; exact h
  | succ n ih =>
    intro S S0 v h
    rw [x_X5_isText_L17]
    try simp only [nm_eq, nmp_eq]
    repeat' split
    all_goals repeat (first | (with_reducible assumption) | (with_reducible apply ih) | (with_reducible apply tp_isOrder) | (with_reducible refine TP.z ?_ (by decide)))
theorem tp_isText {S : vS} : TP S (x_X5_isText S).2 := by
  unfold x_X5_isText
  try simp only [nm_eq, nmp_eq]
  exact tp_isText_L _ _ _ _ (((TP.rf.z (by decide)).z (by decide)).z (by decide))
theorem ti_isText_L : ∀ (n : Nat) (S : vS) (v : Int32), TJ S v → TI (x_X5_isText_L17 n S v).2 := by
  intro n
  induction n with
  | zero => intro S v h; exact h.1
  | succ n ih =>
    intro S v h
    rw [x_X5_isText_L17]
    try simp only [nm_eq, nmp_eq]
    by_cases c : v = 0
    · rw [if_pos c]
      repeat' split
      all_goals exact TI_st0 h.1 (by decide)
    · rw [if_neg c]
      have ho := ad_isOrder h.1
      split
      · exact ho.1.1
      · next c2 =>
        have h4 := ho.2 c2
        have h3 := (TI_inc11 h c h4).1
        split
        · next c3 => exact ih _ _ ⟨TI_at0 h3, fun z => absurd c3 z⟩
        · next c3 => exact ih _ _ (TJ_b1 h c h4 rfl h3 (isAt_at rfl c3) rfl)
theorem ti_isText {S : vS} (h : vp_in (S 0 5) 61) : TI (x_X5_isText S).2 := by
  unfold x_X5_isText
  try simp only [nm_eq, nmp_eq]
  exact ti_isText_L _ _ _ (TJ_first h rfl rfl rfl)

def x_X5_firstError (S : vS) : (Int32 × vS) := nm (st S 0 6 0) (fun S_2 => nmp (x_X5_isText S_2) (fun r_6 S_6 => if r_6 = 0 then if (bz (S_6 0 8)) = 0 then ((S_6 0 5), S_6) else ((S_6 0 7), S_6) else ((S_6 0 5), S_6)))
theorem hd_X5_firstError : yX5_firstError.cls = RX5 ∧ yX5_firstError.cls ≠ "java/lang/invoke/MethodHandle" ∧ yX5_firstError.cls ≠ "java/lang/invoke/VarHandle" ∧ (parseMethodDescriptor yX5_firstError.desc).map (fun d => d.parameters.length) = some 0 := by decide +kernel
set_option maxHeartbeats 4000000 in
set_option maxRecDepth 100000 in
theorem c_X5_firstError {D : va_G} {ad : Nat → Nat} (l : Launch) (sz : Nat) (S : vS) (hty : vp_in (S 0 5) 61) : Met l yX5_firstError wsX5_firstError (rmD 6) (pW D 7 (cM D ad) ad sz S [.ref (ad 0)]) (va_Qi (fun (r : Int32) (S1 : vS) => (r, S1) = (x_X5_firstError S)) (bW D 7 (cM D ad) ad (aW 7 ad sz)) (aW 7 ad sz)) 0 0 (aW 7 ad sz) := by
  refine x_met (own := RX5) (cc := cX5_firstError) (maxL := 2) (ret := (some .int)) (Qc := fun A => va_Qi (fun (r : Int32) (S1 : vS) => (r, S1) = (x_X5_firstError S)) (bW D 7 (cM D ad) ad A) A) rfl ⟨by decide +kernel, rfl, Nat.le_of_ble_eq_true rfl⟩ ?_
  intro p e s mm args below meth c A ls B hW hl hls
  have hx := B.1.1
  have hb := B.1.2.1
  have hin_X5 : ∀ w ∈ wsX50, w ∈ wsX5_firstError := fun w h => List.mem_cons_of_mem _ (List.mem_append_right _ h)
  have k_145 := B.1.2.2.2.2 (.fieldLink RX5 145 "JointLoansModel" "typed" "I") (by decide +kernel)
  have k_148 := B.1.2.2.2.2 (.fieldLink RX5 148 "JointLoansModel" "at" "I") (by decide +kernel)
  have k_151 := B.1.2.2.2.2 (.fieldLink RX5 151 "JointLoansModel" "isFault" "Z") (by decide +kernel)
  have k_28 := B.1.2.2.2.2 (.fieldLink RX5 28 "JointLoansModel" "thrown" "I") (by decide +kernel)
  have zk := x_X5_firstError.eq_1 S
  have hl : lv_has ls 2 [(0, .ref (ad 0))] := hl
  refine lv_aload_n hx hb dX5_firstError_0 rfl (lv_at hl 0 rfl) ?_
  refine lv_iconst (v := 0) hx hb dX5_firstError_1 (by decide) ?_
  refine x_put B hW (by decide) cls5 hin_X5 6 (by decide) cM_o rfl (ty := .int) (by decide +kernel) rfl rfl (Nat.le_of_ble_eq_true rfl) (j := 6) pO_6 k_28 dX5_firstError_2 (fun H locs S_2 he_2 hW => ?_)
  have zk := nm_at zk he_2
  have hf_S_2_0_5_61 : vp_in (S_2 0 5) 61 := by rw [he_2, st_at, if_neg (by rintro ⟨h1, h2⟩; omega)]; exact hty
  have hf_S_2_0_6_1 : vp_in (S_2 0 6) 1 := by rw [he_2, st_at, if_pos ⟨rfl, rfl⟩]; exact isN_vin (isN_lit 0 (by decide)) (by decide) (by decide)
  refine lv_aload_n hx hb dX5_firstError_5 rfl (lv_at hl 0 rfl) ?_
  refine x_calli hW (x_runV B hW (As := []) (rest := []) (by decide) cM_o cls5 (c_X5_isText (D := D) (ad := ad) l _ S_2 (isN_vin (isN_var hf_S_2_0_5_61 (by decide)) (by decide) (by decide))) (cwV 0 B.1.2.2.2.2 gX5_firstError_X5_isText rfl rfl rfl hd_X5_isText ⟨Nat.le_of_ble_eq_true rfl, Nat.le_of_ble_eq_true rfl⟩) rfl hls (Nat.le_of_ble_eq_true rfl) dX5_firstError_6 ⟨Nat.zero_le _, Nat.zero_le _⟩) (fun r_6 S_6 H locs he hW => ?_)
  obtain ⟨hr_6, hz_6⟩ := he
  have zk := nmp_at zk hr_6
  have he_6 : S_6 = (x_X5_isText S_2).2 := by rw [← hr_6]
  have hf_S_6_0_5_61 : vp_in (S_6 0 5) 61 := by rw [he_6, (tp_isText _ _ (by decide) (by decide))]; exact hf_S_2_0_5_61
  have hf_S_6_0_6_1 : vp_in (S_6 0 6) 1 := by rw [he_6, (tp_isText _ _ (by decide) (by decide))]; exact hf_S_2_0_6_1
  have hg_S_6_0_11_16 : vp_in (S_6 0 11) 16 := by rw [he_6]; exact (ti_isText hf_S_2_0_5_61).2.1
  refine lv_istore_n (lv' := [(1, .int r_6), (0, .ref (ad 0))]) hx hb dX5_firstError_9 rfl hl (by decide) rfl (fun ls hl => ?_)
  have hls := hl.1
  refine lv_iload_n hx hb dX5_firstError_10 rfl (lv_at hl 0 rfl) ?_
  refine lv_if_ne (tgt := 28) hx hb dX5_firstError_11 (by decide) (fun c_11 => ?_) (fun c_11 => ?_)
  · have zk := zk.trans (if_neg c_11)
    refine lv_aload_n hx hb dX5_firstError_28 rfl (lv_at hl 1 rfl) ?_
    refine x_get B hW (by decide) cM_o cls5 hin_X5 5 (by decide) (v := .int (S_6 0 5)) rfl k_145 dX5_firstError_29 ?_
    exact x_iret B hW zk.symm dX5_firstError_32
  · have zk := zk.trans (if_pos c_11)
    refine lv_aload_n hx hb dX5_firstError_14 rfl (lv_at hl 1 rfl) ?_
    refine x_get B hW (by decide) cM_o cls5 hin_X5 8 (by decide) (v := .int (bz (S_6 0 8))) rfl k_151 dX5_firstError_15 ?_
    refine lv_if_eq (tgt := 28) hx hb dX5_firstError_18 (by decide) (fun c_18 => ?_) (fun c_18 => ?_)
    · have zk := zk.trans (if_pos c_18)
      refine lv_aload_n hx hb dX5_firstError_28 rfl (lv_at hl 1 rfl) ?_
      refine x_get B hW (by decide) cM_o cls5 hin_X5 5 (by decide) (v := .int (S_6 0 5)) rfl k_145 dX5_firstError_29 ?_
      exact x_iret B hW zk.symm dX5_firstError_32
    · have zk := zk.trans (if_neg c_18)
      refine lv_aload_n hx hb dX5_firstError_21 rfl (lv_at hl 1 rfl) ?_
      refine x_get B hW (by decide) cM_o cls5 hin_X5 7 (by decide) (v := .int (S_6 0 7)) rfl k_148 dX5_firstError_22 ?_
      refine lv_goto (tgt := 32) hx hb dX5_firstError_25 (by decide) ?_
      exact x_iret B hW zk.symm dX5_firstError_32

def x_X5_may (S : vS) (p1 : Int32) (p2 : Int32) (p3 : Int32) (p4 : Int32) : Int32 := if p1 = 0 then nm (x_X5_mayLend S p2 p3 p4) (fun r_41 => if r_41 = 0 then 1 else 0) else (if p1 = 1 then nm (x_X5_isMember S p2) (fun r_55 => r_55) else (if p1 = 2 then nm (x_X5_mayPay S p2 p3) (fun r_62 => if r_62 = 0 then 1 else 0) else (if p1 = 3 then nm (x_X5_mayHelp S p2 p3) (fun r_77 => if r_77 = 0 then 1 else 0) else (if p1 = 4 then if 999 ≤ (S 1 0) then 0 else 1 else (nm (x_X5_mayCycle S) (fun r_108 => r_108))))))
theorem hd_X5_may : yX5_may.cls = RX5 ∧ yX5_may.cls ≠ "java/lang/invoke/MethodHandle" ∧ yX5_may.cls ≠ "java/lang/invoke/VarHandle" ∧ (parseMethodDescriptor yX5_may.desc).map (fun d => d.parameters.length) = some 4 := by decide +kernel
set_option maxHeartbeats 4000000 in
set_option maxRecDepth 100000 in
theorem c_X5_may {D : va_G} {ad : Nat → Nat} (l : Launch) (sz : Nat) (S : vS) (p1 : Int32) (p2 : Int32) (p3 : Int32) (p4 : Int32) : Met l yX5_may wsX5_may (rmD 4) (pW D 7 (cM D ad) ad sz S [.ref (ad 0), .int p1, .int p2, .int p3, .int p4]) (va_Qi (fun (r : Int32) (S1 : vS) => r = (x_X5_may S p1 p2 p3 p4) ∧ S1 = S ∧ (r = 0 ∨ r = 1)) (bW D 7 (cM D ad) ad (aW 7 ad sz)) (aW 7 ad sz)) 0 0 (aW 7 ad sz) := by
  refine x_met (own := RX5) (cc := cX5_may) (maxL := 5) (ret := (some .boolean)) (Qc := fun A => va_Qi (fun (r : Int32) (S1 : vS) => r = (x_X5_may S p1 p2 p3 p4) ∧ S1 = S ∧ (r = 0 ∨ r = 1)) (bW D 7 (cM D ad) ad A) A) rfl ⟨by decide +kernel, rfl, Nat.le_of_ble_eq_true rfl⟩ ?_
  intro p e s mm args below meth c A ls B hW hl hls
  have hx := B.1.1
  have hb := B.1.2.1
  have hin_X5 : ∀ w ∈ wsX50, w ∈ wsX5_may := fun w h => List.mem_cons_of_mem _ (List.mem_append_right _ h)
  have k_7 := B.1.2.2.2.2 (.fieldLink RX5 7 "JointLoansModel" "now" "[I") (by decide +kernel)
  have zk := x_X5_may.eq_1 S p1 p2 p3 p4
  have hl : lv_has ls 5 [(0, .ref (ad 0)), (1, .int p1), (2, .int p2), (3, .int p3), (4, .int p4)] := hl
  refine lv_iload_n hx hb dX5_may_0 rfl (lv_at hl 1 rfl) ?_
  by_cases c_1_0 : p1 = 0
  · have zk := zk.trans (if_pos c_1_0)
    refine lv_tableIn (off := 35) (tgt := 36) hx hb dX5_may_1 (by rw [c_1_0]; decide) (by rw [c_1_0]; decide) (by rw [c_1_0]; rfl) (by decide) ?_
    refine lv_aload_n hx hb dX5_may_36 rfl (lv_at hl 0 rfl) ?_
    refine lv_iload_n hx hb dX5_may_37 rfl (lv_at hl 2 rfl) ?_
    refine lv_iload_n hx hb dX5_may_38 rfl (lv_at hl 3 rfl) ?_
    refine lv_iload hx hb dX5_may_39 (lv_at hl 4 rfl) ?_
    refine x_calli hW (x_runV B hW (As := [.int p2, .int p3, .int p4]) (rest := []) (by decide) cM_o cls5 (c_X5_mayLend (D := D) (ad := ad) l _ S p2 p3 p4) (cwV 3 B.1.2.2.2.2 gX5_may_X5_mayLend rfl rfl rfl hd_X5_mayLend ⟨Nat.le_of_ble_eq_true rfl, Nat.le_of_ble_eq_true rfl⟩) rfl hls (Nat.le_of_ble_eq_true rfl) dX5_may_41 ⟨Nat.zero_le _, Nat.zero_le _⟩) (fun r_41 S_41 H locs he hW => ?_)
    obtain ⟨hr_41, hs⟩ := he
    rw [hs] at hW
    have zk := nm_at zk hr_41
    refine lv_if_ne (tgt := 51) hx hb dX5_may_44 (by decide) (fun c_44 => ?_) (fun c_44 => ?_)
    · have zk := zk.trans (if_neg c_44)
      refine lv_iconst (v := 0) hx hb dX5_may_51 (by decide) ?_
      exact x_zret B hW (Or.inl rfl) ⟨zk.symm, rfl, (Or.inl rfl)⟩ dX5_may_52
    · have zk := zk.trans (if_pos c_44)
      refine lv_iconst (v := 1) hx hb dX5_may_47 (by decide) ?_
      refine lv_goto (tgt := 52) hx hb dX5_may_48 (by decide) ?_
      exact x_zret B hW (Or.inr rfl) ⟨zk.symm, rfl, (Or.inr rfl)⟩ dX5_may_52
  · have zk := zk.trans (if_neg c_1_0)
    by_cases c_1_1 : p1 = 1
    · have zk := zk.trans (if_pos c_1_1)
      refine lv_tableIn (off := 52) (tgt := 53) hx hb dX5_may_1 (by rw [c_1_1]; decide) (by rw [c_1_1]; decide) (by rw [c_1_1]; rfl) (by decide) ?_
      refine lv_aload_n hx hb dX5_may_53 rfl (lv_at hl 0 rfl) ?_
      refine lv_iload_n hx hb dX5_may_54 rfl (lv_at hl 2 rfl) ?_
      refine x_calli hW (x_runV B hW (As := [.int p2]) (rest := []) (by decide) cM_o cls5 (c_X5_isMember (D := D) (ad := ad) l _ S p2) (cwV 1 B.1.2.2.2.2 gX5_may_X5_isMember rfl rfl rfl hd_X5_isMember ⟨Nat.le_of_ble_eq_true rfl, Nat.le_of_ble_eq_true rfl⟩) rfl hls (Nat.le_of_ble_eq_true rfl) dX5_may_55 ⟨Nat.zero_le _, Nat.zero_le _⟩) (fun r_55 S_55 H locs he hW => ?_)
      obtain ⟨hr_55, hs, hz_55⟩ := he
      rw [hs] at hW
      have zk := nm_at zk hr_55
      exact x_zret B hW hz_55 ⟨zk.symm, rfl, hz_55⟩ dX5_may_58
    · have zk := zk.trans (if_neg c_1_1)
      by_cases c_1_2 : p1 = 2
      · have zk := zk.trans (if_pos c_1_2)
        refine lv_tableIn (off := 58) (tgt := 59) hx hb dX5_may_1 (by rw [c_1_2]; decide) (by rw [c_1_2]; decide) (by rw [c_1_2]; rfl) (by decide) ?_
        refine lv_aload_n hx hb dX5_may_59 rfl (lv_at hl 0 rfl) ?_
        refine lv_iload_n hx hb dX5_may_60 rfl (lv_at hl 2 rfl) ?_
        refine lv_iload_n hx hb dX5_may_61 rfl (lv_at hl 3 rfl) ?_
        refine x_calli hW (x_runV B hW (As := [.int p2, .int p3]) (rest := []) (by decide) cM_o cls5 (c_X5_mayPay (D := D) (ad := ad) l _ S p2 p3) (cwV 2 B.1.2.2.2.2 gX5_may_X5_mayPay rfl rfl rfl hd_X5_mayPay ⟨Nat.le_of_ble_eq_true rfl, Nat.le_of_ble_eq_true rfl⟩) rfl hls (Nat.le_of_ble_eq_true rfl) dX5_may_62 ⟨Nat.zero_le _, Nat.zero_le _⟩) (fun r_62 S_62 H locs he hW => ?_)
        obtain ⟨hr_62, hs⟩ := he
        rw [hs] at hW
        have zk := nm_at zk hr_62
        refine lv_if_ne (tgt := 72) hx hb dX5_may_65 (by decide) (fun c_65 => ?_) (fun c_65 => ?_)
        · have zk := zk.trans (if_neg c_65)
          refine lv_iconst (v := 0) hx hb dX5_may_72 (by decide) ?_
          exact x_zret B hW (Or.inl rfl) ⟨zk.symm, rfl, (Or.inl rfl)⟩ dX5_may_73
        · have zk := zk.trans (if_pos c_65)
          refine lv_iconst (v := 1) hx hb dX5_may_68 (by decide) ?_
          refine lv_goto (tgt := 73) hx hb dX5_may_69 (by decide) ?_
          exact x_zret B hW (Or.inr rfl) ⟨zk.symm, rfl, (Or.inr rfl)⟩ dX5_may_73
      · have zk := zk.trans (if_neg c_1_2)
        by_cases c_1_3 : p1 = 3
        · have zk := zk.trans (if_pos c_1_3)
          refine lv_tableIn (off := 73) (tgt := 74) hx hb dX5_may_1 (by rw [c_1_3]; decide) (by rw [c_1_3]; decide) (by rw [c_1_3]; rfl) (by decide) ?_
          refine lv_aload_n hx hb dX5_may_74 rfl (lv_at hl 0 rfl) ?_
          refine lv_iload_n hx hb dX5_may_75 rfl (lv_at hl 2 rfl) ?_
          refine lv_iload_n hx hb dX5_may_76 rfl (lv_at hl 3 rfl) ?_
          refine x_calli hW (x_runV B hW (As := [.int p2, .int p3]) (rest := []) (by decide) cM_o cls5 (c_X5_mayHelp (D := D) (ad := ad) l _ S p2 p3) (cwV 2 B.1.2.2.2.2 gX5_may_X5_mayHelp rfl rfl rfl hd_X5_mayHelp ⟨Nat.le_of_ble_eq_true rfl, Nat.le_of_ble_eq_true rfl⟩) rfl hls (Nat.le_of_ble_eq_true rfl) dX5_may_77 ⟨Nat.zero_le _, Nat.zero_le _⟩) (fun r_77 S_77 H locs he hW => ?_)
          obtain ⟨hr_77, hs⟩ := he
          rw [hs] at hW
          have zk := nm_at zk hr_77
          refine lv_if_ne (tgt := 87) hx hb dX5_may_80 (by decide) (fun c_80 => ?_) (fun c_80 => ?_)
          · have zk := zk.trans (if_neg c_80)
            refine lv_iconst (v := 0) hx hb dX5_may_87 (by decide) ?_
            exact x_zret B hW (Or.inl rfl) ⟨zk.symm, rfl, (Or.inl rfl)⟩ dX5_may_88
          · have zk := zk.trans (if_pos c_80)
            refine lv_iconst (v := 1) hx hb dX5_may_83 (by decide) ?_
            refine lv_goto (tgt := 88) hx hb dX5_may_84 (by decide) ?_
            exact x_zret B hW (Or.inr rfl) ⟨zk.symm, rfl, (Or.inr rfl)⟩ dX5_may_88
        · have zk := zk.trans (if_neg c_1_3)
          by_cases c_1_4 : p1 = 4
          · have zk := zk.trans (if_pos c_1_4)
            refine lv_tableIn (off := 88) (tgt := 89) hx hb dX5_may_1 (by rw [c_1_4]; decide) (by rw [c_1_4]; decide) (by rw [c_1_4]; rfl) (by decide) ?_
            refine lv_aload_n hx hb dX5_may_89 rfl (lv_at hl 0 rfl) ?_
            refine x_get B hW (by decide) cM_o cls5 hin_X5 0 (by decide) (v := .ref (ad 1)) rfl k_7 dX5_may_90 ?_
            refine lv_iconst (v := 0) hx hb dX5_may_93 (by decide) ?_
            refine x_iald B hW (by decide) cM_1 (isN_lit 0 (by decide)) (by decide) (by decide) dX5_may_94 ?_
            refine lv_sipush (v := 999) hx hb dX5_may_95 (by decide) ?_
            refine lv_icmp_ge (tgt := 105) hx hb dX5_may_98 (by decide) (fun c_98 => ?_) (fun c_98 => ?_)
            · have zk := zk.trans (if_pos c_98)
              refine lv_iconst (v := 0) hx hb dX5_may_105 (by decide) ?_
              exact x_zret B hW (Or.inl rfl) ⟨zk.symm, rfl, (Or.inl rfl)⟩ dX5_may_106
            · have zk := zk.trans (if_neg c_98)
              refine lv_iconst (v := 1) hx hb dX5_may_101 (by decide) ?_
              refine lv_goto (tgt := 106) hx hb dX5_may_102 (by decide) ?_
              exact x_zret B hW (Or.inr rfl) ⟨zk.symm, rfl, (Or.inr rfl)⟩ dX5_may_106
          · have zk := zk.trans (if_neg c_1_4)
            have nc_1_0 := lv_neT c_1_0 (a := 0) (by decide)
            have nc_1_1 := lv_neT c_1_1 (a := 1) (by decide)
            have nc_1_2 := lv_neT c_1_2 (a := 2) (by decide)
            have nc_1_3 := lv_neT c_1_3 (a := 3) (by decide)
            have nc_1_4 := lv_neT c_1_4 (a := 4) (by decide)
            have hsw : p1.toInt < 0 ∨ 4 < p1.toInt := by omega
            refine lv_tableOut (tgt := 107) hx hb dX5_may_1 hsw (by decide) ?_
            refine lv_aload_n hx hb dX5_may_107 rfl (lv_at hl 0 rfl) ?_
            refine x_calli hW (x_runV B hW (As := []) (rest := []) (by decide) cM_o cls5 (c_X5_mayCycle (D := D) (ad := ad) l _ S) (cwV 0 B.1.2.2.2.2 gX5_may_X5_mayCycle rfl rfl rfl hd_X5_mayCycle ⟨Nat.le_of_ble_eq_true rfl, Nat.le_of_ble_eq_true rfl⟩) rfl hls (Nat.le_of_ble_eq_true rfl) dX5_may_108 ⟨Nat.zero_le _, Nat.zero_le _⟩) (fun r_108 S_108 H locs he hW => ?_)
            obtain ⟨hr_108, hs, hz_108⟩ := he
            rw [hs] at hW
            have zk := nm_at zk hr_108
            exact x_zret B hW hz_108 ⟨zk.symm, rfl, hz_108⟩ dX5_may_111
theorem may_ok {S : vS} {k a b c r : Int32} (hr : r = x_X5_may S k a b c) (h : ¬ r = 0) : (k = 0 → vp_in a 8 ∧ ¬ c = 0) ∧ (k = 1 ∨ k = 2 ∨ k = 3 → vp_in a 8) := by
  rw [hr] at h
  unfold x_X5_may at h
  try simp only [nm_eq, nmp_eq] at h
  refine ⟨fun e => ?_, fun e => ?_⟩
  · subst e
    rw [if_pos rfl] at h
    by_cases q : x_X5_mayLend S a b c = 0
    · exact mayLend_ok rfl q
    · rw [if_neg q] at h; exact absurd rfl h
  · rcases e with rfl | rfl | rfl
    · rw [if_neg (by decide), if_pos rfl] at h
      exact ismem_vin rfl h
    · rw [if_neg (by decide), if_neg (by decide), if_pos rfl] at h
      by_cases q : x_X5_mayPay S a b = 0
      · exact mayPay_ok rfl q
      · rw [if_neg q] at h; exact absurd rfl h
    · rw [if_neg (by decide), if_neg (by decide), if_neg (by decide), if_pos rfl] at h
      by_cases q : x_X5_mayHelp S a b = 0
      · exact mayHelp_ok rfl q
      · rw [if_neg q] at h; exact absurd rfl h

def x_X5_does (S : vS) (p1 : Int32) : (Int32 × vS) := nm ((S 5 ((4 * p1.toNatClampNeg) + 1))) (fun x_10 => nm ((S 5 ((4 * p1.toNatClampNeg) + 2))) (fun x_21 => nm ((S 5 ((4 * p1.toNatClampNeg) + 3))) (fun x_32 => nm (x_X5_may S (S 5 (4 * p1.toNatClampNeg)) x_10 x_21 x_32) (fun r_47 => if r_47 = 0 then (0, S) else if (S 5 (4 * p1.toNatClampNeg)) = 0 then nmp (x_X5_lends S x_10 x_21 x_32) (fun r_101 S_101 => (1, S_101)) else (if (S 5 (4 * p1.toNatClampNeg)) = 1 then nm (st S 1 ((13 + (14 * x_10.toNatClampNeg)) + 7) 1) (fun S_123 => (1, S_123)) else (if (S 5 (4 * p1.toNatClampNeg)) = 2 then nmp (x_X5_pays S x_10 x_21) (fun r_130 S_130 => (1, S_130)) else (if (S 5 (4 * p1.toNatClampNeg)) = 3 then nmp (x_X5_helps S x_10 x_21) (fun r_140 S_140 => (1, S_140)) else (if (S 5 (4 * p1.toNatClampNeg)) = 4 then nmp (x_X5_ends S 1) (fun r_152 S_152 => (1, S_152)) else (nmp (x_X5_cycles S) (fun r_160 S_160 => (1, S_160)))))))))))
theorem hd_X5_does : yX5_does.cls = RX5 ∧ yX5_does.cls ≠ "java/lang/invoke/MethodHandle" ∧ yX5_does.cls ≠ "java/lang/invoke/VarHandle" ∧ (parseMethodDescriptor yX5_does.desc).map (fun d => d.parameters.length) = some 1 := by decide +kernel
set_option maxHeartbeats 4000000 in
set_option maxRecDepth 100000 in
theorem c_X5_does {D : va_G} {ad : Nat → Nat} (l : Launch) (sz : Nat) (S : vS) (p1 : Int32) (h1 : vp_in p1 16) (hch : chairOK (S 1 2)) (hs6 : ¬ (S 1 6) = 0) : Met l yX5_does wsX5_does (rmD 5) (pW D 7 (cM D ad) ad sz S [.ref (ad 0), .int p1]) (va_Qi (fun (r : Int32) (S1 : vS) => (r, S1) = (x_X5_does S p1) ∧ (r = 0 ∨ r = 1)) (bW D 7 (cM D ad) ad (aW 7 ad sz)) (aW 7 ad sz)) 0 0 (aW 7 ad sz) := by
  refine x_met (own := RX5) (cc := cX5_does) (maxL := 5) (ret := (some .boolean)) (Qc := fun A => va_Qi (fun (r : Int32) (S1 : vS) => (r, S1) = (x_X5_does S p1) ∧ (r = 0 ∨ r = 1)) (bW D 7 (cM D ad) ad A) A) rfl ⟨by decide +kernel, rfl, Nat.le_of_ble_eq_true rfl⟩ ?_
  intro p e s mm args below meth c A ls B hW hl hls
  have hx := B.1.1
  have hb := B.1.2.1
  have hin_X5 : ∀ w ∈ wsX50, w ∈ wsX5_does := fun w h => List.mem_cons_of_mem _ (List.mem_append_right _ h)
  have k_22 := B.1.2.2.2.2 (.fieldLink RX5 22 "JointLoansModel" "told" "[I") (by decide +kernel)
  have k_7 := B.1.2.2.2.2 (.fieldLink RX5 7 "JointLoansModel" "now" "[I") (by decide +kernel)
  have zk := x_X5_does.eq_1 S p1
  have hl : lv_has ls 5 [(0, .ref (ad 0)), (1, .int p1)] := hl
  refine lv_aload_n hx hb dX5_does_0 rfl (lv_at hl 0 rfl) ?_
  refine x_get B hW (by decide) cM_o cls5 hin_X5 10 (by decide) (v := .ref (ad 5)) rfl k_22 dX5_does_1 ?_
  refine lv_iconst (v := 4) hx hb dX5_does_4 (by decide) ?_
  refine lv_iload_n hx hb dX5_does_5 rfl (lv_at hl 1 rfl) ?_
  refine lv_imul hx hb dX5_does_6 ?_
  refine lv_iconst (v := 1) hx hb dX5_does_7 (by decide) ?_
  refine lv_iadd hx hb dX5_does_8 ?_
  refine x_iald B hW (by decide) cM_5 (isN_add (isN_mul (isN_lit 4 (by decide)) (isN_var h1 (by decide)) (by decide)) (isN_lit 1 (by decide)) (by decide)) (by decide) (by decide) dX5_does_9 ?_
  refine lv_topi (fun x_10 ex_10 => ?_)
  have zk := nm_at zk ex_10
  refine lv_istore_n (lv' := [(2, .int x_10), (0, .ref (ad 0)), (1, .int p1)]) hx hb dX5_does_10 rfl hl (by decide) rfl (fun ls hl => ?_)
  have hls := hl.1
  refine lv_aload_n hx hb dX5_does_11 rfl (lv_at hl 1 rfl) ?_
  refine x_get B hW (by decide) cM_o cls5 hin_X5 10 (by decide) (v := .ref (ad 5)) rfl k_22 dX5_does_12 ?_
  refine lv_iconst (v := 4) hx hb dX5_does_15 (by decide) ?_
  refine lv_iload_n hx hb dX5_does_16 rfl (lv_at hl 2 rfl) ?_
  refine lv_imul hx hb dX5_does_17 ?_
  refine lv_iconst (v := 2) hx hb dX5_does_18 (by decide) ?_
  refine lv_iadd hx hb dX5_does_19 ?_
  refine x_iald B hW (by decide) cM_5 (isN_add (isN_mul (isN_lit 4 (by decide)) (isN_var h1 (by decide)) (by decide)) (isN_lit 2 (by decide)) (by decide)) (by decide) (by decide) dX5_does_20 ?_
  refine lv_topi (fun x_21 ex_21 => ?_)
  have zk := nm_at zk ex_21
  refine lv_istore_n (lv' := [(3, .int x_21), (2, .int x_10), (0, .ref (ad 0)), (1, .int p1)]) hx hb dX5_does_21 rfl hl (by decide) rfl (fun ls hl => ?_)
  have hls := hl.1
  refine lv_aload_n hx hb dX5_does_22 rfl (lv_at hl 2 rfl) ?_
  refine x_get B hW (by decide) cM_o cls5 hin_X5 10 (by decide) (v := .ref (ad 5)) rfl k_22 dX5_does_23 ?_
  refine lv_iconst (v := 4) hx hb dX5_does_26 (by decide) ?_
  refine lv_iload_n hx hb dX5_does_27 rfl (lv_at hl 3 rfl) ?_
  refine lv_imul hx hb dX5_does_28 ?_
  refine lv_iconst (v := 3) hx hb dX5_does_29 (by decide) ?_
  refine lv_iadd hx hb dX5_does_30 ?_
  refine x_iald B hW (by decide) cM_5 (isN_add (isN_mul (isN_lit 4 (by decide)) (isN_var h1 (by decide)) (by decide)) (isN_lit 3 (by decide)) (by decide)) (by decide) (by decide) dX5_does_31 ?_
  refine lv_topi (fun x_32 ex_32 => ?_)
  have zk := nm_at zk ex_32
  refine lv_istore (lv' := [(4, .int x_32), (3, .int x_21), (2, .int x_10), (0, .ref (ad 0)), (1, .int p1)]) hx hb dX5_does_32 hl (by decide) rfl (fun ls hl => ?_)
  have hls := hl.1
  refine lv_aload_n hx hb dX5_does_34 rfl (lv_at hl 3 rfl) ?_
  refine lv_aload_n hx hb dX5_does_35 rfl (lv_at hl 3 rfl) ?_
  refine x_get B hW (by decide) cM_o cls5 hin_X5 10 (by decide) (v := .ref (ad 5)) rfl k_22 dX5_does_36 ?_
  refine lv_iconst (v := 4) hx hb dX5_does_39 (by decide) ?_
  refine lv_iload_n hx hb dX5_does_40 rfl (lv_at hl 4 rfl) ?_
  refine lv_imul hx hb dX5_does_41 ?_
  refine x_iald B hW (by decide) cM_5 (isN_mul (isN_lit 4 (by decide)) (isN_var h1 (by decide)) (by decide)) (by decide) (by decide) dX5_does_42 ?_
  refine lv_iload_n hx hb dX5_does_43 rfl (lv_at hl 2 rfl) ?_
  refine lv_iload_n hx hb dX5_does_44 rfl (lv_at hl 1 rfl) ?_
  refine lv_iload hx hb dX5_does_45 (lv_at hl 0 rfl) ?_
  refine x_calli hW (x_runV B hW (As := [.int (S 5 (4 * p1.toNatClampNeg)), .int x_10, .int x_21, .int x_32]) (rest := []) (by decide) cM_o cls5 (c_X5_may (D := D) (ad := ad) l _ S (S 5 (4 * p1.toNatClampNeg)) x_10 x_21 x_32) (cwV 4 B.1.2.2.2.2 gX5_does_X5_may rfl rfl rfl hd_X5_may ⟨Nat.le_of_ble_eq_true rfl, Nat.le_of_ble_eq_true rfl⟩) rfl hls (Nat.le_of_ble_eq_true rfl) dX5_does_47 ⟨Nat.zero_le _, Nat.zero_le _⟩) (fun r_47 S_47 H locs he hW => ?_)
  obtain ⟨hr_47, hs, hz_47⟩ := he
  rw [hs] at hW
  have zk := nm_at zk hr_47
  refine lv_if_ne (tgt := 55) hx hb dX5_does_50 (by decide) (fun c_50 => ?_) (fun c_50 => ?_)
  · have zk := zk.trans (if_neg c_50)
    refine lv_aload_n hx hb dX5_does_55 rfl (lv_at hl 3 rfl) ?_
    refine x_get B hW (by decide) cM_o cls5 hin_X5 10 (by decide) (v := .ref (ad 5)) rfl k_22 dX5_does_56 ?_
    refine lv_iconst (v := 4) hx hb dX5_does_59 (by decide) ?_
    refine lv_iload_n hx hb dX5_does_60 rfl (lv_at hl 4 rfl) ?_
    refine lv_imul hx hb dX5_does_61 ?_
    refine x_iald B hW (by decide) cM_5 (isN_mul (isN_lit 4 (by decide)) (isN_var h1 (by decide)) (by decide)) (by decide) (by decide) dX5_does_62 ?_
    by_cases c_63_0 : (S 5 (4 * p1.toNatClampNeg)) = 0
    · have zk := zk.trans (if_pos c_63_0)
      refine lv_tableIn (off := 33) (tgt := 96) hx hb dX5_does_63 (by rw [c_63_0]; decide) (by rw [c_63_0]; decide) (by rw [c_63_0]; rfl) (by decide) ?_
      have hml := (may_ok hr_47 c_50).1 c_63_0
      refine lv_aload_n hx hb dX5_does_96 rfl (lv_at hl 3 rfl) ?_
      refine lv_iload_n hx hb dX5_does_97 rfl (lv_at hl 2 rfl) ?_
      refine lv_iload_n hx hb dX5_does_98 rfl (lv_at hl 1 rfl) ?_
      refine lv_iload hx hb dX5_does_99 (lv_at hl 0 rfl) ?_
      refine x_calli hW (x_runV B hW (As := [.int x_10, .int x_21, .int x_32]) (rest := []) (by decide) cM_o cls5 (c_X5_lends (D := D) (ad := ad) l _ S x_10 x_21 x_32 (isN_vin (isN_var hml.1 (by decide)) (by decide) (by decide)) hml.2) (cwV 3 B.1.2.2.2.2 gX5_does_X5_lends rfl rfl rfl hd_X5_lends ⟨Nat.le_of_ble_eq_true rfl, Nat.le_of_ble_eq_true rfl⟩) rfl hls (Nat.le_of_ble_eq_true rfl) dX5_does_101 ⟨Nat.zero_le _, Nat.zero_le _⟩) (fun r_101 S_101 H locs he hW => ?_)
      have hr_101 := he
      have zk := nmp_at zk hr_101
      have he_101 : S_101 = (x_X5_lends S x_10 x_21 x_32).2 := by rw [← hr_101]
      refine lv_pop hx hb dX5_does_104 rfl ?_
      refine lv_goto (tgt := 164) hx hb dX5_does_105 (by decide) ?_
      refine lv_iconst (v := 1) hx hb dX5_does_164 (by decide) ?_
      exact x_zret B hW (Or.inr rfl) ⟨zk.symm, (Or.inr rfl)⟩ dX5_does_165
    · have zk := zk.trans (if_neg c_63_0)
      by_cases c_63_1 : (S 5 (4 * p1.toNatClampNeg)) = 1
      · have zk := zk.trans (if_pos c_63_1)
        refine lv_tableIn (off := 45) (tgt := 108) hx hb dX5_does_63 (by rw [c_63_1]; decide) (by rw [c_63_1]; decide) (by rw [c_63_1]; rfl) (by decide) ?_
        have hml := (may_ok hr_47 c_50).2 (Or.inl c_63_1)
        refine lv_aload_n hx hb dX5_does_108 rfl (lv_at hl 3 rfl) ?_
        refine x_get B hW (by decide) cM_o cls5 hin_X5 0 (by decide) (v := .ref (ad 1)) rfl k_7 dX5_does_109 ?_
        refine lv_bipush (v := 13) hx hb dX5_does_112 (by decide) ?_
        refine lv_bipush (v := 14) hx hb dX5_does_114 (by decide) ?_
        refine lv_iload_n hx hb dX5_does_116 rfl (lv_at hl 2 rfl) ?_
        refine lv_imul hx hb dX5_does_117 ?_
        refine lv_iadd hx hb dX5_does_118 ?_
        refine lv_bipush (v := 7) hx hb dX5_does_119 (by decide) ?_
        refine lv_iadd hx hb dX5_does_121 ?_
        refine lv_iconst (v := 1) hx hb dX5_does_122 (by decide) ?_
        refine x_iast B hW (by decide) (fun _ => cM_1) (isN_add (isN_add (isN_lit 13 (by decide)) (isN_mul (isN_lit 14 (by decide)) (isN_var hml (by decide)) (by decide)) (by decide)) (isN_lit 7 (by decide)) (by decide)) (by decide) (by decide) dX5_does_123 (fun H locs S_123 he_123 hW => ?_)
        have zk := nm_at zk he_123
        have hf_S_123_1_2_chairOK : chairOK (S_123 1 2) := by rw [he_123, st_at, if_neg (by rintro ⟨h1, h2⟩; omega)]; exact hch
        have hf_S_123_1_6_0 : ¬ (S_123 1 6) = 0 := by rw [he_123, st_at, if_neg (by rintro ⟨h1, h2⟩; omega)]; exact hs6
        refine lv_goto (tgt := 164) hx hb dX5_does_124 (by decide) ?_
        refine lv_iconst (v := 1) hx hb dX5_does_164 (by decide) ?_
        exact x_zret B hW (Or.inr rfl) ⟨zk.symm, (Or.inr rfl)⟩ dX5_does_165
      · have zk := zk.trans (if_neg c_63_1)
        by_cases c_63_2 : (S 5 (4 * p1.toNatClampNeg)) = 2
        · have zk := zk.trans (if_pos c_63_2)
          refine lv_tableIn (off := 64) (tgt := 127) hx hb dX5_does_63 (by rw [c_63_2]; decide) (by rw [c_63_2]; decide) (by rw [c_63_2]; rfl) (by decide) ?_
          have hml := (may_ok hr_47 c_50).2 (Or.inr (Or.inl c_63_2))
          refine lv_aload_n hx hb dX5_does_127 rfl (lv_at hl 3 rfl) ?_
          refine lv_iload_n hx hb dX5_does_128 rfl (lv_at hl 2 rfl) ?_
          refine lv_iload_n hx hb dX5_does_129 rfl (lv_at hl 1 rfl) ?_
          refine x_calli hW (x_runV B hW (As := [.int x_10, .int x_21]) (rest := []) (by decide) cM_o cls5 (c_X5_pays (D := D) (ad := ad) l _ S x_10 x_21 (isN_vin (isN_var hml (by decide)) (by decide) (by decide))) (cwV 2 B.1.2.2.2.2 gX5_does_X5_pays rfl rfl rfl hd_X5_pays ⟨Nat.le_of_ble_eq_true rfl, Nat.le_of_ble_eq_true rfl⟩) rfl hls (Nat.le_of_ble_eq_true rfl) dX5_does_130 ⟨Nat.zero_le _, Nat.zero_le _⟩) (fun r_130 S_130 H locs he hW => ?_)
          have hr_130 := he
          have zk := nmp_at zk hr_130
          have he_130 : S_130 = (x_X5_pays S x_10 x_21).2 := by rw [← hr_130]
          refine lv_pop hx hb dX5_does_133 rfl ?_
          refine lv_goto (tgt := 164) hx hb dX5_does_134 (by decide) ?_
          refine lv_iconst (v := 1) hx hb dX5_does_164 (by decide) ?_
          exact x_zret B hW (Or.inr rfl) ⟨zk.symm, (Or.inr rfl)⟩ dX5_does_165
        · have zk := zk.trans (if_neg c_63_2)
          by_cases c_63_3 : (S 5 (4 * p1.toNatClampNeg)) = 3
          · have zk := zk.trans (if_pos c_63_3)
            refine lv_tableIn (off := 74) (tgt := 137) hx hb dX5_does_63 (by rw [c_63_3]; decide) (by rw [c_63_3]; decide) (by rw [c_63_3]; rfl) (by decide) ?_
            have hml := (may_ok hr_47 c_50).2 (Or.inr (Or.inr c_63_3))
            refine lv_aload_n hx hb dX5_does_137 rfl (lv_at hl 3 rfl) ?_
            refine lv_iload_n hx hb dX5_does_138 rfl (lv_at hl 2 rfl) ?_
            refine lv_iload_n hx hb dX5_does_139 rfl (lv_at hl 1 rfl) ?_
            refine x_calli hW (x_runV B hW (As := [.int x_10, .int x_21]) (rest := []) (by decide) cM_o cls5 (c_X5_helps (D := D) (ad := ad) l _ S x_10 x_21 (isN_vin (isN_var hml (by decide)) (by decide) (by decide))) (cwV 2 B.1.2.2.2.2 gX5_does_X5_helps rfl rfl rfl hd_X5_helps ⟨Nat.le_of_ble_eq_true rfl, Nat.le_of_ble_eq_true rfl⟩) rfl hls (Nat.le_of_ble_eq_true rfl) dX5_does_140 ⟨Nat.zero_le _, Nat.zero_le _⟩) (fun r_140 S_140 H locs he hW => ?_)
            have hr_140 := he
            have zk := nmp_at zk hr_140
            have he_140 : S_140 = (x_X5_helps S x_10 x_21).2 := by rw [← hr_140]
            refine lv_pop hx hb dX5_does_143 rfl ?_
            refine lv_goto (tgt := 164) hx hb dX5_does_144 (by decide) ?_
            refine lv_iconst (v := 1) hx hb dX5_does_164 (by decide) ?_
            exact x_zret B hW (Or.inr rfl) ⟨zk.symm, (Or.inr rfl)⟩ dX5_does_165
          · have zk := zk.trans (if_neg c_63_3)
            by_cases c_63_4 : (S 5 (4 * p1.toNatClampNeg)) = 4
            · have zk := zk.trans (if_pos c_63_4)
              refine lv_tableIn (off := 84) (tgt := 147) hx hb dX5_does_63 (by rw [c_63_4]; decide) (by rw [c_63_4]; decide) (by rw [c_63_4]; rfl) (by decide) ?_
              refine lv_aload_n hx hb dX5_does_147 rfl (lv_at hl 3 rfl) ?_
              refine lv_aload_n hx hb dX5_does_148 rfl (lv_at hl 3 rfl) ?_
              refine x_get B hW (by decide) cM_o cls5 hin_X5 0 (by decide) (v := .ref (ad 1)) rfl k_7 dX5_does_149 ?_
              refine x_calli hW (x_runV B hW (As := [.ref (ad 1)]) (rest := []) (by decide) cM_o cls5 (c_X5_ends (D := D) (ad := ad) l _ S 1 (Or.inl rfl) hch hs6) (cwV 1 B.1.2.2.2.2 gX5_does_X5_ends rfl rfl rfl hd_X5_ends ⟨Nat.le_of_ble_eq_true rfl, Nat.le_of_ble_eq_true rfl⟩) rfl hls (Nat.le_of_ble_eq_true rfl) dX5_does_152 ⟨Nat.zero_le _, Nat.zero_le _⟩) (fun r_152 S_152 H locs he hW => ?_)
              have hr_152 := he
              have zk := nmp_at zk hr_152
              have he_152 : S_152 = (x_X5_ends S 1).2 := by rw [← hr_152]
              have hf_S_152_1_6_0 : ¬ (S_152 1 6) = 0 := by rw [he_152, ((ep_ends (Or.inl rfl)).1 _ _ (fun _ => by decide) (by decide) (by decide))]; exact hs6
              refine lv_pop hx hb dX5_does_155 rfl ?_
              refine lv_goto (tgt := 164) hx hb dX5_does_156 (by decide) ?_
              refine lv_iconst (v := 1) hx hb dX5_does_164 (by decide) ?_
              exact x_zret B hW (Or.inr rfl) ⟨zk.symm, (Or.inr rfl)⟩ dX5_does_165
            · have zk := zk.trans (if_neg c_63_4)
              have nc_63_0 := lv_neT c_63_0 (a := 0) (by decide)
              have nc_63_1 := lv_neT c_63_1 (a := 1) (by decide)
              have nc_63_2 := lv_neT c_63_2 (a := 2) (by decide)
              have nc_63_3 := lv_neT c_63_3 (a := 3) (by decide)
              have nc_63_4 := lv_neT c_63_4 (a := 4) (by decide)
              have hsw : (S 5 (4 * p1.toNatClampNeg)).toInt < 0 ∨ 4 < (S 5 (4 * p1.toNatClampNeg)).toInt := by omega
              refine lv_tableOut (tgt := 159) hx hb dX5_does_63 hsw (by decide) ?_
              refine lv_aload_n hx hb dX5_does_159 rfl (lv_at hl 3 rfl) ?_
              refine x_calli hW (x_runV B hW (As := []) (rest := []) (by decide) cM_o cls5 (c_X5_cycles (D := D) (ad := ad) l _ S) (cwV 0 B.1.2.2.2.2 gX5_does_X5_cycles rfl rfl rfl hd_X5_cycles ⟨Nat.le_of_ble_eq_true rfl, Nat.le_of_ble_eq_true rfl⟩) rfl hls (Nat.le_of_ble_eq_true rfl) dX5_does_160 ⟨Nat.zero_le _, Nat.zero_le _⟩) (fun r_160 S_160 H locs he hW => ?_)
              have hr_160 := he
              have zk := nmp_at zk hr_160
              have he_160 : S_160 = (x_X5_cycles S).2 := by rw [← hr_160]
              refine lv_pop hx hb dX5_does_163 rfl ?_
              refine lv_iconst (v := 1) hx hb dX5_does_164 (by decide) ?_
              exact x_zret B hW (Or.inr rfl) ⟨zk.symm, (Or.inr rfl)⟩ dX5_does_165
  · have zk := zk.trans (if_pos c_50)
    refine lv_iconst (v := 0) hx hb dX5_does_53 (by decide) ?_
    exact x_zret B hW (Or.inl rfl) ⟨zk.symm, (Or.inl rfl)⟩ dX5_does_54
theorem ex_does {S : vS} {k : Int32} : EX S (x_X5_does S k).2 := by
  unfold x_X5_does
  try simp only [nm_eq, nmp_eq]
  repeat' split
  all_goals first
    | exact EX.rf
    | exact EX.lends EX.rf
    | exact EX.pays EX.rf
    | exact EX.helps EX.rf
    | exact EX.cycles EX.rf
    | exact EX.ends EX.rf
    | exact EX.rf.w (by omega)

def x_X5_run_L29 : Nat → vS → Nat → (Int32 × vS)
  | 0, S, _ => (0, S)
  | n + 1, S, n1 => if (S 0 11) ≤ (nI n1) then ((nI n1), S) else nmp (x_X5_does S (nI n1)) (fun r_39 S_39 => if r_39 = 0 then ((nI n1), S_39) else x_X5_run_L29 n S_39 ((n1 + 1)))
def x_X5_run (S : vS) : (Int32 × vS) := nm (st S 0 6 0) (fun S_2 => nmp (x_X5_isText S_2) (fun r_6 S_6 => if r_6 = 0 then nmp (x_X5_fails S_6 1) (fun r_14 S_14 => (r_14, S_14)) else nm (x_X5_saves S_6) (fun S_19 => nm (st S_19 0 5 0) (fun S_24 => x_X5_run_L29 (17) S_24 (0)))))
theorem hd_X5_run : yX5_run.cls = RX5 ∧ yX5_run.cls ≠ "java/lang/invoke/MethodHandle" ∧ yX5_run.cls ≠ "java/lang/invoke/VarHandle" ∧ (parseMethodDescriptor yX5_run.desc).map (fun d => d.parameters.length) = some 0 := by decide +kernel
set_option maxHeartbeats 4000000 in
set_option maxRecDepth 100000 in
theorem w_X5_run_L29 {D : va_G} {ad : Nat → Nat} (l : Launch) {p : Program} {e : Env} {s : State} {mm : MethodId} {args : Array Value} {below : List Frame} {meth : Method} {c : Code} {A : Nat → Prop} (B : Cx p mm c cX5_run 2 s args wsX5_run RX5 meth (some .int) D) (z : (Int32 × vS)) : ∀ (n : Nat) (n1 : Nat) (S : vS) (H : Heap) (locs : List Loc) (ls : Array Slot), n1 ≤ 16 → n1 + n = 17 → chairOK (S 1 2) → ¬ (S 1 6) = 0 → vp_in (S 0 11) 16 → Wd D 7 (cM D ad) ad A s.heap S H locs → lv_has ls 2 [(1, .int (nI n1)), (0, .ref (ad 0))] → ls.size = 2 → z = x_X5_run_L29 n S n1 → W p l e (rmD 6) s mm args below meth c H locs 0 0 (MQ below (va_Qi (fun (r : Int32) (S1 : vS) => (r, S1) = z) (bW D 7 (cM D ad) ad A) A) args s 0 0 A) (F0 mm 29 ls []) := by
  have hx := B.1.1
  have hb := B.1.2.1
  have hin_X5 : ∀ w ∈ wsX50, w ∈ wsX5_run := fun w h => List.mem_cons_of_mem _ (List.mem_append_right _ h)
  have k_145 := B.1.2.2.2.2 (.fieldLink RX5 145 "JointLoansModel" "typed" "I") (by decide +kernel)
  have k_166 := B.1.2.2.2.2 (.fieldLink RX5 166 "JointLoansModel" "tolds" "I") (by decide +kernel)
  have k_28 := B.1.2.2.2.2 (.fieldLink RX5 28 "JointLoansModel" "thrown" "I") (by decide +kernel)
  intro n
  induction n with
  | zero =>
    intro n1 S H locs ls hle hsum hch hs6 hto
    omega
  | succ n ih =>
    intro n1 S H locs ls hle hsum hch hs6 hto hW hl hls zk
    have zk := zk.trans (x_X5_run_L29.eq_2 _ _ _ )
    refine lv_iload_n hx hb dX5_run_29 rfl (lv_at hl 0 rfl) ?_
    refine lv_aload_n hx hb dX5_run_30 rfl (lv_at hl 1 rfl) ?_
    refine x_get B hW (by decide) cM_o cls5 hin_X5 11 (by decide) (v := .int (S 0 11)) rfl k_166 dX5_run_31 ?_
    refine lv_icmp_ge (tgt := 51) hx hb dX5_run_34 (by decide) (fun c_34 => ?_) (fun c_34 => ?_)
    · have zk := zk.trans (if_pos c_34)
      refine lv_iload_n hx hb dX5_run_51 rfl (lv_at hl 0 rfl) ?_
      exact x_iret B hW zk.symm dX5_run_52
    · have zk := zk.trans (if_neg c_34)
      have hb16 : n1 < 16 := lt16 hto c_34 (by omega)
      refine lv_aload_n hx hb dX5_run_37 rfl (lv_at hl 1 rfl) ?_
      refine lv_iload_n hx hb dX5_run_38 rfl (lv_at hl 0 rfl) ?_
      refine x_calli hW (x_runV B hW (As := [.int (nI n1)]) (rest := []) (by decide) cM_o cls5 (c_X5_does (D := D) (ad := ad) l _ S (nI n1) (isN_vin (isN_nI hb16 (by decide)) (by decide) (by decide)) hch hs6) (cwV 1 B.1.2.2.2.2 gX5_run_X5_does rfl rfl rfl hd_X5_does ⟨Nat.le_of_ble_eq_true rfl, Nat.le_of_ble_eq_true rfl⟩) rfl hls (Nat.le_of_ble_eq_true rfl) dX5_run_39 ⟨Nat.zero_le _, Nat.zero_le _⟩) (fun r_39 S_39 H locs he hW => ?_)
      obtain ⟨hr_39, hz_39⟩ := he
      have zk := nmp_at zk hr_39
      have he_39 : S_39 = (x_X5_does S (nI n1)).2 := by rw [← hr_39]
      have hf_S_39_1_6_0 : ¬ (S_39 1 6) = 0 := by rw [he_39, (ex_does.1 _ _ (by decide) (by decide) (by decide))]; exact hs6
      have hf_S_39_0_11_16 : vp_in (S_39 0 11) 16 := by rw [he_39, (ex_does.1 _ _ (by decide) (by decide) (by decide))]; exact hto
      have hg_S_39_1_2_chairOK : chairOK (S_39 1 2) := by rw [he_39]; exact (ex_does.2 hch)
      refine lv_if_eq (tgt := 51) hx hb dX5_run_42 (by decide) (fun c_42 => ?_) (fun c_42 => ?_)
      · have zk := zk.trans (if_pos c_42)
        refine lv_iload_n hx hb dX5_run_51 rfl (lv_at hl 0 rfl) ?_
        exact x_iret B hW zk.symm dX5_run_52
      · have zk := zk.trans (if_neg c_42)
        refine lv_iinc (v := (nI (n1 + 1))) (lv' := [(1, .int (nI (n1 + 1))), (0, .ref (ad 0))]) hx hb dX5_run_45 hl (k := 0) rfl (nI_1 _) (by decide) rfl (fun ls hl => ?_)
        have hls := hl.1
        refine lv_goto (tgt := 29) hx hb dX5_run_48 (by decide) ?_
        exact ih ((n1 + 1)) S_39 _ _ _ (show (n1 + 1) ≤ 16 by omega) (show (n1 + 1) + n = 17 by omega) hg_S_39_1_2_chairOK hf_S_39_1_6_0 (isN_vin (isN_var hf_S_39_0_11_16 (by decide)) (by decide) (by decide)) hW (lv_sub hl [0, 1] rfl) hls zk
set_option maxHeartbeats 4000000 in
set_option maxRecDepth 100000 in
theorem c_X5_run {D : va_G} {ad : Nat → Nat} (l : Launch) (sz : Nat) (S : vS) (hkp : vp_in (S 0 3) 7) (hty : vp_in (S 0 5) 61) (hch : chairOK (S 1 2)) (hs6 : ¬ (S 1 6) = 0) : Met l yX5_run wsX5_run (rmD 6) (pW D 7 (cM D ad) ad sz S [.ref (ad 0)]) (va_Qi (fun (r : Int32) (S1 : vS) => (r, S1) = (x_X5_run S)) (bW D 7 (cM D ad) ad (aW 7 ad sz)) (aW 7 ad sz)) 0 0 (aW 7 ad sz) := by
  refine x_met (own := RX5) (cc := cX5_run) (maxL := 2) (ret := (some .int)) (Qc := fun A => va_Qi (fun (r : Int32) (S1 : vS) => (r, S1) = (x_X5_run S)) (bW D 7 (cM D ad) ad A) A) rfl ⟨by decide +kernel, rfl, Nat.le_of_ble_eq_true rfl⟩ ?_
  intro p e s mm args below meth c A ls B hW hl hls
  have hx := B.1.1
  have hb := B.1.2.1
  have hin_X5 : ∀ w ∈ wsX50, w ∈ wsX5_run := fun w h => List.mem_cons_of_mem _ (List.mem_append_right _ h)
  have k_145 := B.1.2.2.2.2 (.fieldLink RX5 145 "JointLoansModel" "typed" "I") (by decide +kernel)
  have k_166 := B.1.2.2.2.2 (.fieldLink RX5 166 "JointLoansModel" "tolds" "I") (by decide +kernel)
  have k_28 := B.1.2.2.2.2 (.fieldLink RX5 28 "JointLoansModel" "thrown" "I") (by decide +kernel)
  have zk := x_X5_run.eq_1 S
  have hl : lv_has ls 2 [(0, .ref (ad 0))] := hl
  refine lv_aload_n hx hb dX5_run_0 rfl (lv_at hl 0 rfl) ?_
  refine lv_iconst (v := 0) hx hb dX5_run_1 (by decide) ?_
  refine x_put B hW (by decide) cls5 hin_X5 6 (by decide) cM_o rfl (ty := .int) (by decide +kernel) rfl rfl (Nat.le_of_ble_eq_true rfl) (j := 6) pO_6 k_28 dX5_run_2 (fun H locs S_2 he_2 hW => ?_)
  have zk := nm_at zk he_2
  have hf_S_2_0_3_7 : vp_in (S_2 0 3) 7 := by rw [he_2, st_at, if_neg (by rintro ⟨h1, h2⟩; omega)]; exact hkp
  have hf_S_2_0_5_61 : vp_in (S_2 0 5) 61 := by rw [he_2, st_at, if_neg (by rintro ⟨h1, h2⟩; omega)]; exact hty
  have hf_S_2_1_2_chairOK : chairOK (S_2 1 2) := by rw [he_2, st_at, if_neg (by rintro ⟨h1, h2⟩; omega)]; exact hch
  have hf_S_2_1_6_0 : ¬ (S_2 1 6) = 0 := by rw [he_2, st_at, if_neg (by rintro ⟨h1, h2⟩; omega)]; exact hs6
  have hf_S_2_0_6_1 : vp_in (S_2 0 6) 1 := by rw [he_2, st_at, if_pos ⟨rfl, rfl⟩]; exact isN_vin (isN_lit 0 (by decide)) (by decide) (by decide)
  refine lv_aload_n hx hb dX5_run_5 rfl (lv_at hl 0 rfl) ?_
  refine x_calli hW (x_runV B hW (As := []) (rest := []) (by decide) cM_o cls5 (c_X5_isText (D := D) (ad := ad) l _ S_2 (isN_vin (isN_var hf_S_2_0_5_61 (by decide)) (by decide) (by decide))) (cwV 0 B.1.2.2.2.2 gX5_run_X5_isText rfl rfl rfl hd_X5_isText ⟨Nat.le_of_ble_eq_true rfl, Nat.le_of_ble_eq_true rfl⟩) rfl hls (Nat.le_of_ble_eq_true rfl) dX5_run_6 ⟨Nat.zero_le _, Nat.zero_le _⟩) (fun r_6 S_6 H locs he hW => ?_)
  obtain ⟨hr_6, hz_6⟩ := he
  have zk := nmp_at zk hr_6
  have he_6 : S_6 = (x_X5_isText S_2).2 := by rw [← hr_6]
  have hf_S_6_0_3_7 : vp_in (S_6 0 3) 7 := by rw [he_6, (tp_isText _ _ (by decide) (by decide))]; exact hf_S_2_0_3_7
  have hf_S_6_0_5_61 : vp_in (S_6 0 5) 61 := by rw [he_6, (tp_isText _ _ (by decide) (by decide))]; exact hf_S_2_0_5_61
  have hf_S_6_1_2_chairOK : chairOK (S_6 1 2) := by rw [he_6, (tp_isText _ _ (by decide) (by decide))]; exact hf_S_2_1_2_chairOK
  have hf_S_6_1_6_0 : ¬ (S_6 1 6) = 0 := by rw [he_6, (tp_isText _ _ (by decide) (by decide))]; exact hf_S_2_1_6_0
  have hf_S_6_0_6_1 : vp_in (S_6 0 6) 1 := by rw [he_6, (tp_isText _ _ (by decide) (by decide))]; exact hf_S_2_0_6_1
  have hg_S_6_0_11_16 : vp_in (S_6 0 11) 16 := by rw [he_6]; exact (ti_isText hf_S_2_0_5_61).2.1
  refine lv_if_ne (tgt := 18) hx hb dX5_run_9 (by decide) (fun c_9 => ?_) (fun c_9 => ?_)
  · have zk := zk.trans (if_neg c_9)
    refine lv_aload_n hx hb dX5_run_18 rfl (lv_at hl 0 rfl) ?_
    refine x_callv hW (x_runV B hW (As := []) (rest := []) (by decide) cM_o cls5 (c_X5_saves (D := D) (ad := ad) l _ S_6 (isN_vin (isN_var hf_S_6_0_3_7 (by decide)) (by decide) (by decide))) (cwV 0 B.1.2.2.2.2 gX5_run_X5_saves rfl rfl rfl hd_X5_saves ⟨Nat.le_of_ble_eq_true rfl, Nat.le_of_ble_eq_true rfl⟩) rfl hls (Nat.le_of_ble_eq_true rfl) dX5_run_19 ⟨Nat.zero_le _, Nat.zero_le _⟩) (fun S_19 H locs he hW => ?_)
    have he_19 := he
    have zk := nm_at zk he_19
    have hf_S_19_0_5_61 : vp_in (S_19 0 5) 61 := by rw [he_19, (fr_saves (by decide))]; exact hf_S_6_0_5_61
    have hf_S_19_1_2_chairOK : chairOK (S_19 1 2) := by rw [he_19, (fr_saves (by decide))]; exact hf_S_6_1_2_chairOK
    have hf_S_19_1_6_0 : ¬ (S_19 1 6) = 0 := by rw [he_19, (fr_saves (by decide))]; exact hf_S_6_1_6_0
    have hf_S_19_0_6_1 : vp_in (S_19 0 6) 1 := by rw [he_19, (fr_saves (by decide))]; exact hf_S_6_0_6_1
    have hf_S_19_0_11_16 : vp_in (S_19 0 11) 16 := by rw [he_19, (fr_saves (by decide))]; exact hg_S_6_0_11_16
    refine lv_aload_n hx hb dX5_run_22 rfl (lv_at hl 0 rfl) ?_
    refine lv_iconst (v := 0) hx hb dX5_run_23 (by decide) ?_
    refine x_put B hW (by decide) cls5 hin_X5 5 (by decide) cM_o rfl (ty := .int) (by decide +kernel) rfl rfl (Nat.le_of_ble_eq_true rfl) (j := 5) pO_5 k_145 dX5_run_24 (fun H locs S_24 he_24 hW => ?_)
    have zk := nm_at zk he_24
    have hf_S_24_1_2_chairOK : chairOK (S_24 1 2) := by rw [he_24, st_at, if_neg (by rintro ⟨h1, h2⟩; omega)]; exact hf_S_19_1_2_chairOK
    have hf_S_24_1_6_0 : ¬ (S_24 1 6) = 0 := by rw [he_24, st_at, if_neg (by rintro ⟨h1, h2⟩; omega)]; exact hf_S_19_1_6_0
    have hf_S_24_0_6_1 : vp_in (S_24 0 6) 1 := by rw [he_24, st_at, if_neg (by rintro ⟨h1, h2⟩; omega)]; exact hf_S_19_0_6_1
    have hf_S_24_0_11_16 : vp_in (S_24 0 11) 16 := by rw [he_24, st_at, if_neg (by rintro ⟨h1, h2⟩; omega)]; exact hf_S_19_0_11_16
    have hf_S_24_0_5_1 : vp_in (S_24 0 5) 1 := by rw [he_24, st_at, if_pos ⟨rfl, rfl⟩]; exact isN_vin (isN_lit 0 (by decide)) (by decide) (by decide)
    refine lv_iconst (v := 0) hx hb dX5_run_27 (by decide) ?_
    refine lv_istore_n (lv' := [(1, .int 0), (0, .ref (ad 0))]) hx hb dX5_run_28 rfl hl (by decide) rfl (fun ls hl => ?_)
    have hls := hl.1
    exact w_X5_run_L29 l B  _  (17) (0) S_24 _ _ _ (show 0 ≤ 16 by omega) (show 0 + (17) = 17 by omega) hf_S_24_1_2_chairOK hf_S_24_1_6_0 (isN_vin (isN_var hf_S_24_0_11_16 (by decide)) (by decide) (by decide)) hW (lv_sub hl [0, 1] rfl) hls zk
  · have zk := zk.trans (if_pos c_9)
    refine lv_aload_n hx hb dX5_run_12 rfl (lv_at hl 0 rfl) ?_
    refine lv_iconst (v := 1) hx hb dX5_run_13 (by decide) ?_
    refine x_calli hW (x_runV B hW (As := [.int 1]) (rest := []) (by decide) cM_o cls5 (c_X5_fails (D := D) (ad := ad) l _ S_6 1) (cwV 1 B.1.2.2.2.2 gX5_run_X5_fails rfl rfl rfl hd_X5_fails ⟨Nat.le_of_ble_eq_true rfl, Nat.le_of_ble_eq_true rfl⟩) rfl hls (Nat.le_of_ble_eq_true rfl) dX5_run_14 ⟨Nat.zero_le _, Nat.zero_le _⟩) (fun r_14 S_14 H locs he hW => ?_)
    have hr_14 := he
    have zk := nmp_at zk hr_14
    have he_14 : S_14 = (x_X5_fails S_6 1).2 := by rw [← hr_14]
    exact x_iret B hW zk.symm dX5_run_17

def x_X5_ofMember (S : vS) (p1 : Int32) (p2 : Int32) : Int32 := if 4 ≤ p2 then if 10 ≤ p2 then if p2 = 10 then nm (x_X5_toOthers S 1 p1) (fun r_76 => r_76) else if p2 = 11 then nm (x_X5_fromOthers S 1 p1) (fun r_93 => r_93) else nm (x_X5_of S 1 p1 p2) (fun r_105 => r_105) else if p2 = 4 then nm (x_X5_due S 1 p1) (fun r_33 => r_33) else if p2 = 9 then nm (x_X5_of S 1 p1 11) (fun r_61 => r_61) else nm (x_X5_of S 1 p1 ((7 + p2) - 5)) (fun r_61 => r_61) else nm (x_X5_of S 1 p1 (1 + p2)) (fun r_13 => r_13)
theorem hd_X5_ofMember : yX5_ofMember.cls = RX5 ∧ yX5_ofMember.cls ≠ "java/lang/invoke/MethodHandle" ∧ yX5_ofMember.cls ≠ "java/lang/invoke/VarHandle" ∧ (parseMethodDescriptor yX5_ofMember.desc).map (fun d => d.parameters.length) = some 2 := by decide +kernel
set_option maxHeartbeats 4000000 in
set_option maxRecDepth 100000 in
theorem c_X5_ofMember {D : va_G} {ad : Nat → Nat} (l : Launch) (sz : Nat) (S : vS) (p1 : Int32) (p2 : Int32) (h1 : vp_in p1 8) (h2 : vp_in p2 14) : Met l yX5_ofMember wsX5_ofMember (rmD 3) (pW D 7 (cM D ad) ad sz S [.ref (ad 0), .int p1, .int p2]) (va_Qi (fun (r : Int32) (S1 : vS) => r = (x_X5_ofMember S p1 p2) ∧ S1 = S) (bW D 7 (cM D ad) ad (aW 7 ad sz)) (aW 7 ad sz)) 0 0 (aW 7 ad sz) := by
  refine x_met (own := RX5) (cc := cX5_ofMember) (maxL := 3) (ret := (some .int)) (Qc := fun A => va_Qi (fun (r : Int32) (S1 : vS) => r = (x_X5_ofMember S p1 p2) ∧ S1 = S) (bW D 7 (cM D ad) ad A) A) rfl ⟨by decide +kernel, rfl, Nat.le_of_ble_eq_true rfl⟩ ?_
  intro p e s mm args below meth c A ls B hW hl hls
  have hx := B.1.1
  have hb := B.1.2.1
  have hin_X5 : ∀ w ∈ wsX50, w ∈ wsX5_ofMember := fun w h => List.mem_cons_of_mem _ (List.mem_append_right _ h)
  have k_7 := B.1.2.2.2.2 (.fieldLink RX5 7 "JointLoansModel" "now" "[I") (by decide +kernel)
  have zk := x_X5_ofMember.eq_1 S p1 p2
  have hl : lv_has ls 3 [(0, .ref (ad 0)), (1, .int p1), (2, .int p2)] := hl
  refine lv_iload_n hx hb dX5_ofMember_0 rfl (lv_at hl 2 rfl) ?_
  refine lv_iconst (v := 4) hx hb dX5_ofMember_1 (by decide) ?_
  refine lv_icmp_ge (tgt := 17) hx hb dX5_ofMember_2 (by decide) (fun c_2 => ?_) (fun c_2 => ?_)
  · have zk := zk.trans (if_pos c_2)
    refine lv_iload_n hx hb dX5_ofMember_17 rfl (lv_at hl 2 rfl) ?_
    refine lv_bipush (v := 10) hx hb dX5_ofMember_18 (by decide) ?_
    refine lv_icmp_ge (tgt := 65) hx hb dX5_ofMember_20 (by decide) (fun c_20 => ?_) (fun c_20 => ?_)
    · have zk := zk.trans (if_pos c_20)
      refine lv_iload_n hx hb dX5_ofMember_65 rfl (lv_at hl 2 rfl) ?_
      refine lv_bipush (v := 10) hx hb dX5_ofMember_66 (by decide) ?_
      refine lv_icmp_ne (tgt := 82) hx hb dX5_ofMember_68 (by decide) (fun c_68 => ?_) (fun c_68 => ?_)
      · have zk := zk.trans (if_neg c_68)
        refine lv_iload_n hx hb dX5_ofMember_82 rfl (lv_at hl 2 rfl) ?_
        refine lv_bipush (v := 11) hx hb dX5_ofMember_83 (by decide) ?_
        refine lv_icmp_ne (tgt := 99) hx hb dX5_ofMember_85 (by decide) (fun c_85 => ?_) (fun c_85 => ?_)
        · have zk := zk.trans (if_neg c_85)
          refine lv_aload_n hx hb dX5_ofMember_99 rfl (lv_at hl 0 rfl) ?_
          refine x_get B hW (by decide) cM_o cls5 hin_X5 0 (by decide) (v := .ref (ad 1)) rfl k_7 dX5_ofMember_100 ?_
          refine lv_iload_n hx hb dX5_ofMember_103 rfl (lv_at hl 1 rfl) ?_
          refine lv_iload_n hx hb dX5_ofMember_104 rfl (lv_at hl 2 rfl) ?_
          refine x_calli hW (x_runS B hW (As := [.ref (ad 1), .int p1, .int p2]) (rest := []) (c_X5_of (D := D) (ad := ad) l _ S 1 p1 p2 (Or.inl rfl) h1 h2) (va_cwS 3 B.1.2.2.2.2 gX5_ofMember_X5_of rfl rfl rfl hd_X5_of.2 ⟨Nat.le_of_ble_eq_true rfl, Nat.le_of_ble_eq_true rfl⟩) rfl hls (Nat.le_of_ble_eq_true rfl) dX5_ofMember_105 ⟨Nat.zero_le _, Nat.zero_le _⟩) (fun r_105 S_105 H locs he hW => ?_)
          obtain ⟨hr_105, hs⟩ := he
          rw [hs] at hW
          have zk := nm_at zk hr_105
          exact x_iret B hW ⟨zk.symm, rfl⟩ dX5_ofMember_108
        · have zk := zk.trans (if_pos c_85)
          refine lv_aload_n hx hb dX5_ofMember_88 rfl (lv_at hl 0 rfl) ?_
          refine x_get B hW (by decide) cM_o cls5 hin_X5 0 (by decide) (v := .ref (ad 1)) rfl k_7 dX5_ofMember_89 ?_
          refine lv_iload_n hx hb dX5_ofMember_92 rfl (lv_at hl 1 rfl) ?_
          refine x_calli hW (x_runS B hW (As := [.ref (ad 1), .int p1]) (rest := []) (c_X5_fromOthers (D := D) (ad := ad) l _ S 1 p1 (Or.inl rfl) h1) (va_cwS 2 B.1.2.2.2.2 gX5_ofMember_X5_fromOthers rfl rfl rfl hd_X5_fromOthers.2 ⟨Nat.le_of_ble_eq_true rfl, Nat.le_of_ble_eq_true rfl⟩) rfl hls (Nat.le_of_ble_eq_true rfl) dX5_ofMember_93 ⟨Nat.zero_le _, Nat.zero_le _⟩) (fun r_93 S_93 H locs he hW => ?_)
          obtain ⟨hr_93, hs⟩ := he
          rw [hs] at hW
          have zk := nm_at zk hr_93
          refine lv_goto (tgt := 108) hx hb dX5_ofMember_96 (by decide) ?_
          exact x_iret B hW ⟨zk.symm, rfl⟩ dX5_ofMember_108
      · have zk := zk.trans (if_pos c_68)
        refine lv_aload_n hx hb dX5_ofMember_71 rfl (lv_at hl 0 rfl) ?_
        refine x_get B hW (by decide) cM_o cls5 hin_X5 0 (by decide) (v := .ref (ad 1)) rfl k_7 dX5_ofMember_72 ?_
        refine lv_iload_n hx hb dX5_ofMember_75 rfl (lv_at hl 1 rfl) ?_
        refine x_calli hW (x_runS B hW (As := [.ref (ad 1), .int p1]) (rest := []) (c_X5_toOthers (D := D) (ad := ad) l _ S 1 p1 (Or.inl rfl) h1) (va_cwS 2 B.1.2.2.2.2 gX5_ofMember_X5_toOthers rfl rfl rfl hd_X5_toOthers.2 ⟨Nat.le_of_ble_eq_true rfl, Nat.le_of_ble_eq_true rfl⟩) rfl hls (Nat.le_of_ble_eq_true rfl) dX5_ofMember_76 ⟨Nat.zero_le _, Nat.zero_le _⟩) (fun r_76 S_76 H locs he hW => ?_)
        obtain ⟨hr_76, hs⟩ := he
        rw [hs] at hW
        have zk := nm_at zk hr_76
        refine lv_goto (tgt := 108) hx hb dX5_ofMember_79 (by decide) ?_
        exact x_iret B hW ⟨zk.symm, rfl⟩ dX5_ofMember_108
    · have zk := zk.trans (if_neg c_20)
      refine lv_iload_n hx hb dX5_ofMember_23 rfl (lv_at hl 2 rfl) ?_
      refine lv_iconst (v := 4) hx hb dX5_ofMember_24 (by decide) ?_
      refine lv_icmp_ne (tgt := 39) hx hb dX5_ofMember_25 (by decide) (fun c_25 => ?_) (fun c_25 => ?_)
      · have zk := zk.trans (if_neg c_25)
        refine lv_aload_n hx hb dX5_ofMember_39 rfl (lv_at hl 0 rfl) ?_
        refine x_get B hW (by decide) cM_o cls5 hin_X5 0 (by decide) (v := .ref (ad 1)) rfl k_7 dX5_ofMember_40 ?_
        refine lv_iload_n hx hb dX5_ofMember_43 rfl (lv_at hl 1 rfl) ?_
        refine lv_iload_n hx hb dX5_ofMember_44 rfl (lv_at hl 2 rfl) ?_
        refine lv_bipush (v := 9) hx hb dX5_ofMember_45 (by decide) ?_
        refine lv_icmp_ne (tgt := 55) hx hb dX5_ofMember_47 (by decide) (fun c_47 => ?_) (fun c_47 => ?_)
        · have zk := zk.trans (if_neg c_47)
          refine lv_bipush (v := 7) hx hb dX5_ofMember_55 (by decide) ?_
          have hv7 : vp_in ((7 + p2) - 5) 14 := ofm7 h2 c_20
          refine lv_iload_n hx hb dX5_ofMember_57 rfl (lv_at hl 2 rfl) ?_
          refine lv_iadd hx hb dX5_ofMember_58 ?_
          refine lv_iconst (v := 5) hx hb dX5_ofMember_59 (by decide) ?_
          refine lv_isub hx hb dX5_ofMember_60 ?_
          refine x_calli hW (x_runS B hW (As := [.ref (ad 1), .int p1, .int ((7 + p2) - 5)]) (rest := []) (c_X5_of (D := D) (ad := ad) l _ S 1 p1 ((7 + p2) - 5) (Or.inl rfl) h1 (isN_vin (isN_var hv7 (by decide)) (by decide) (by decide))) (va_cwS 3 B.1.2.2.2.2 gX5_ofMember_X5_of rfl rfl rfl hd_X5_of.2 ⟨Nat.le_of_ble_eq_true rfl, Nat.le_of_ble_eq_true rfl⟩) rfl hls (Nat.le_of_ble_eq_true rfl) dX5_ofMember_61 ⟨Nat.zero_le _, Nat.zero_le _⟩) (fun r_61 S_61 H locs he hW => ?_)
          obtain ⟨hr_61, hs⟩ := he
          rw [hs] at hW
          have zk := nm_at zk hr_61
          exact x_iret B hW ⟨zk.symm, rfl⟩ dX5_ofMember_64
        · have zk := zk.trans (if_pos c_47)
          refine lv_bipush (v := 11) hx hb dX5_ofMember_50 (by decide) ?_
          refine lv_goto (tgt := 61) hx hb dX5_ofMember_52 (by decide) ?_
          refine x_calli hW (x_runS B hW (As := [.ref (ad 1), .int p1, .int 11]) (rest := []) (c_X5_of (D := D) (ad := ad) l _ S 1 p1 11 (Or.inl rfl) h1 (isN_vin (isN_lit 11 (by decide)) (by decide) (by decide))) (va_cwS 3 B.1.2.2.2.2 gX5_ofMember_X5_of rfl rfl rfl hd_X5_of.2 ⟨Nat.le_of_ble_eq_true rfl, Nat.le_of_ble_eq_true rfl⟩) rfl hls (Nat.le_of_ble_eq_true rfl) dX5_ofMember_61 ⟨Nat.zero_le _, Nat.zero_le _⟩) (fun r_61 S_61 H locs he hW => ?_)
          obtain ⟨hr_61, hs⟩ := he
          rw [hs] at hW
          have zk := nm_at zk hr_61
          exact x_iret B hW ⟨zk.symm, rfl⟩ dX5_ofMember_64
      · have zk := zk.trans (if_pos c_25)
        refine lv_aload_n hx hb dX5_ofMember_28 rfl (lv_at hl 0 rfl) ?_
        refine x_get B hW (by decide) cM_o cls5 hin_X5 0 (by decide) (v := .ref (ad 1)) rfl k_7 dX5_ofMember_29 ?_
        refine lv_iload_n hx hb dX5_ofMember_32 rfl (lv_at hl 1 rfl) ?_
        refine x_calli hW (x_runS B hW (As := [.ref (ad 1), .int p1]) (rest := []) (c_X5_due (D := D) (ad := ad) l _ S 1 p1 (Or.inl rfl) h1) (va_cwS 2 B.1.2.2.2.2 gX5_ofMember_X5_due rfl rfl rfl hd_X5_due.2 ⟨Nat.le_of_ble_eq_true rfl, Nat.le_of_ble_eq_true rfl⟩) rfl hls (Nat.le_of_ble_eq_true rfl) dX5_ofMember_33 ⟨Nat.zero_le _, Nat.zero_le _⟩) (fun r_33 S_33 H locs he hW => ?_)
        obtain ⟨hr_33, hs⟩ := he
        rw [hs] at hW
        have zk := nm_at zk hr_33
        refine lv_goto (tgt := 64) hx hb dX5_ofMember_36 (by decide) ?_
        exact x_iret B hW ⟨zk.symm, rfl⟩ dX5_ofMember_64
  · have zk := zk.trans (if_neg c_2)
    refine lv_aload_n hx hb dX5_ofMember_5 rfl (lv_at hl 0 rfl) ?_
    refine x_get B hW (by decide) cM_o cls5 hin_X5 0 (by decide) (v := .ref (ad 1)) rfl k_7 dX5_ofMember_6 ?_
    refine lv_iload_n hx hb dX5_ofMember_9 rfl (lv_at hl 1 rfl) ?_
    refine lv_iconst (v := 1) hx hb dX5_ofMember_10 (by decide) ?_
    refine lv_iload_n hx hb dX5_ofMember_11 rfl (lv_at hl 2 rfl) ?_
    refine lv_iadd hx hb dX5_ofMember_12 ?_
    refine x_calli hW (x_runS B hW (As := [.ref (ad 1), .int p1, .int (1 + p2)]) (rest := []) (c_X5_of (D := D) (ad := ad) l _ S 1 p1 (1 + p2) (Or.inl rfl) h1 (isN_vin (isN_add (isN_lit 1 (by decide)) (isN_var (vin_hi (m := 4) h2 c_2 (by decide)) (by decide)) (by decide)) (by decide) (by decide))) (va_cwS 3 B.1.2.2.2.2 gX5_ofMember_X5_of rfl rfl rfl hd_X5_of.2 ⟨Nat.le_of_ble_eq_true rfl, Nat.le_of_ble_eq_true rfl⟩) rfl hls (Nat.le_of_ble_eq_true rfl) dX5_ofMember_13 ⟨Nat.zero_le _, Nat.zero_le _⟩) (fun r_13 S_13 H locs he hW => ?_)
    obtain ⟨hr_13, hs⟩ := he
    rw [hs] at hW
    have zk := nm_at zk hr_13
    exact x_iret B hW ⟨zk.symm, rfl⟩ dX5_ofMember_16

def x_X5_member (S : vS) (p1 : Int32) (p2 : Int32) : (Int32 × vS) := nm (st S 0 6 0) (fun S_2 => nm (x_X5_isMember S_2 p1) (fun r_7 => if r_7 = 0 then nmp (x_X5_fails S_2 1) (fun r_15 S_15 => (r_15, S_15)) else nm (x_X5_in S_2 p2 0 13) (fun r_23 => if r_23 = 0 then nmp (x_X5_fails S_2 2) (fun r_40 S_40 => (r_40, S_40)) else nm (x_X5_ofMember S_2 p1 p2) (fun r_32 => (r_32, S_2)))))
theorem hd_X5_member : yX5_member.cls = RX5 ∧ yX5_member.cls ≠ "java/lang/invoke/MethodHandle" ∧ yX5_member.cls ≠ "java/lang/invoke/VarHandle" ∧ (parseMethodDescriptor yX5_member.desc).map (fun d => d.parameters.length) = some 2 := by decide +kernel
set_option maxHeartbeats 4000000 in
set_option maxRecDepth 100000 in
theorem c_X5_member {D : va_G} {ad : Nat → Nat} (l : Launch) (sz : Nat) (S : vS) (p1 : Int32) (p2 : Int32) : Met l yX5_member wsX5_member (rmD 4) (pW D 7 (cM D ad) ad sz S [.ref (ad 0), .int p1, .int p2]) (va_Qi (fun (r : Int32) (S1 : vS) => (r, S1) = (x_X5_member S p1 p2)) (bW D 7 (cM D ad) ad (aW 7 ad sz)) (aW 7 ad sz)) 0 0 (aW 7 ad sz) := by
  refine x_met (own := RX5) (cc := cX5_member) (maxL := 3) (ret := (some .int)) (Qc := fun A => va_Qi (fun (r : Int32) (S1 : vS) => (r, S1) = (x_X5_member S p1 p2)) (bW D 7 (cM D ad) ad A) A) rfl ⟨by decide +kernel, rfl, Nat.le_of_ble_eq_true rfl⟩ ?_
  intro p e s mm args below meth c A ls B hW hl hls
  have hx := B.1.1
  have hb := B.1.2.1
  have hin_X5 : ∀ w ∈ wsX50, w ∈ wsX5_member := fun w h => List.mem_cons_of_mem _ (List.mem_append_right _ h)
  have k_28 := B.1.2.2.2.2 (.fieldLink RX5 28 "JointLoansModel" "thrown" "I") (by decide +kernel)
  have zk := x_X5_member.eq_1 S p1 p2
  have hl : lv_has ls 3 [(0, .ref (ad 0)), (1, .int p1), (2, .int p2)] := hl
  refine lv_aload_n hx hb dX5_member_0 rfl (lv_at hl 0 rfl) ?_
  refine lv_iconst (v := 0) hx hb dX5_member_1 (by decide) ?_
  refine x_put B hW (by decide) cls5 hin_X5 6 (by decide) cM_o rfl (ty := .int) (by decide +kernel) rfl rfl (Nat.le_of_ble_eq_true rfl) (j := 6) pO_6 k_28 dX5_member_2 (fun H locs S_2 he_2 hW => ?_)
  have zk := nm_at zk he_2
  have hf_S_2_0_6_1 : vp_in (S_2 0 6) 1 := by rw [he_2, st_at, if_pos ⟨rfl, rfl⟩]; exact isN_vin (isN_lit 0 (by decide)) (by decide) (by decide)
  refine lv_aload_n hx hb dX5_member_5 rfl (lv_at hl 0 rfl) ?_
  refine lv_iload_n hx hb dX5_member_6 rfl (lv_at hl 1 rfl) ?_
  refine x_calli hW (x_runV B hW (As := [.int p1]) (rest := []) (by decide) cM_o cls5 (c_X5_isMember (D := D) (ad := ad) l _ S_2 p1) (cwV 1 B.1.2.2.2.2 gX5_member_X5_isMember rfl rfl rfl hd_X5_isMember ⟨Nat.le_of_ble_eq_true rfl, Nat.le_of_ble_eq_true rfl⟩) rfl hls (Nat.le_of_ble_eq_true rfl) dX5_member_7 ⟨Nat.zero_le _, Nat.zero_le _⟩) (fun r_7 S_7 H locs he hW => ?_)
  obtain ⟨hr_7, hs, hz_7⟩ := he
  rw [hs] at hW
  have zk := nm_at zk hr_7
  refine lv_if_ne (tgt := 19) hx hb dX5_member_10 (by decide) (fun c_10 => ?_) (fun c_10 => ?_)
  · have zk := zk.trans (if_neg c_10)
    refine lv_iload_n hx hb dX5_member_19 rfl (lv_at hl 2 rfl) ?_
    refine lv_iconst (v := 0) hx hb dX5_member_20 (by decide) ?_
    refine lv_bipush (v := 13) hx hb dX5_member_21 (by decide) ?_
    refine x_calli hW (x_runS B hW (As := [.int p2, .int 0, .int 13]) (rest := []) (c_X5_in (D := D) (ad := ad) l _ S_2 p2 0 13) (va_cwS 3 B.1.2.2.2.2 gX5_member_X5_in rfl rfl rfl hd_X5_in.2 ⟨Nat.le_of_ble_eq_true rfl, Nat.le_of_ble_eq_true rfl⟩) rfl hls (Nat.le_of_ble_eq_true rfl) dX5_member_23 ⟨Nat.zero_le _, Nat.zero_le _⟩) (fun r_23 S_23 H locs he hW => ?_)
    obtain ⟨hr_23, hs, hz_23⟩ := he
    rw [hs] at hW
    have zk := nm_at zk hr_23
    refine lv_if_eq (tgt := 38) hx hb dX5_member_26 (by decide) (fun c_26 => ?_) (fun c_26 => ?_)
    · have zk := zk.trans (if_pos c_26)
      refine lv_aload_n hx hb dX5_member_38 rfl (lv_at hl 0 rfl) ?_
      refine lv_iconst (v := 2) hx hb dX5_member_39 (by decide) ?_
      refine x_calli hW (x_runV B hW (As := [.int 2]) (rest := []) (by decide) cM_o cls5 (c_X5_fails (D := D) (ad := ad) l _ S_2 2) (cwV 1 B.1.2.2.2.2 gX5_member_X5_fails rfl rfl rfl hd_X5_fails ⟨Nat.le_of_ble_eq_true rfl, Nat.le_of_ble_eq_true rfl⟩) rfl hls (Nat.le_of_ble_eq_true rfl) dX5_member_40 ⟨Nat.zero_le _, Nat.zero_le _⟩) (fun r_40 S_40 H locs he hW => ?_)
      have hr_40 := he
      have zk := nmp_at zk hr_40
      have he_40 : S_40 = (x_X5_fails S_2 2).2 := by rw [← hr_40]
      exact x_iret B hW zk.symm dX5_member_43
    · have zk := zk.trans (if_neg c_26)
      refine lv_aload_n hx hb dX5_member_29 rfl (lv_at hl 0 rfl) ?_
      refine lv_iload_n hx hb dX5_member_30 rfl (lv_at hl 1 rfl) ?_
      refine lv_iload_n hx hb dX5_member_31 rfl (lv_at hl 2 rfl) ?_
      refine x_calli hW (x_runV B hW (As := [.int p1, .int p2]) (rest := []) (by decide) cM_o cls5 (c_X5_ofMember (D := D) (ad := ad) l _ S_2 p1 p2 (isN_vin (isN_var (ismem_vin hr_7 c_10) (by decide)) (by decide) (by decide)) (isN_vin (isN_var (in_vin hr_23 c_26) (by decide)) (by decide) (by decide))) (cwV 2 B.1.2.2.2.2 gX5_member_X5_ofMember rfl rfl rfl hd_X5_ofMember ⟨Nat.le_of_ble_eq_true rfl, Nat.le_of_ble_eq_true rfl⟩) rfl hls (Nat.le_of_ble_eq_true rfl) dX5_member_32 ⟨Nat.zero_le _, Nat.zero_le _⟩) (fun r_32 S_32 H locs he hW => ?_)
      obtain ⟨hr_32, hs⟩ := he
      rw [hs] at hW
      have zk := nm_at zk hr_32
      refine lv_goto (tgt := 43) hx hb dX5_member_35 (by decide) ?_
      exact x_iret B hW zk.symm dX5_member_43
  · have zk := zk.trans (if_pos c_10)
    refine lv_aload_n hx hb dX5_member_13 rfl (lv_at hl 0 rfl) ?_
    refine lv_iconst (v := 1) hx hb dX5_member_14 (by decide) ?_
    refine x_calli hW (x_runV B hW (As := [.int 1]) (rest := []) (by decide) cM_o cls5 (c_X5_fails (D := D) (ad := ad) l _ S_2 1) (cwV 1 B.1.2.2.2.2 gX5_member_X5_fails rfl rfl rfl hd_X5_fails ⟨Nat.le_of_ble_eq_true rfl, Nat.le_of_ble_eq_true rfl⟩) rfl hls (Nat.le_of_ble_eq_true rfl) dX5_member_15 ⟨Nat.zero_le _, Nat.zero_le _⟩) (fun r_15 S_15 H locs he hW => ?_)
    have hr_15 := he
    have zk := nmp_at zk hr_15
    have he_15 : S_15 = (x_X5_fails S_2 1).2 := by rw [← hr_15]
    exact x_iret B hW zk.symm dX5_member_18

def x_X5_owes (S : vS) (p1 : Int32) (p2 : Int32) : (Int32 × vS) := nm (st S 0 6 0) (fun S_2 => nm (x_X5_isMember S_2 p1) (fun r_7 => if r_7 = 0 then nmp (x_X5_fails S_2 1) (fun r_35 S_35 => (r_35, S_35)) else nm (x_X5_isMember S_2 p2) (fun r_15 => if r_15 = 0 then nmp (x_X5_fails S_2 1) (fun r_35 S_35 => (r_35, S_35)) else nm (x_X5_debt S_2 1 p1 p2) (fun r_27 => (r_27, S_2)))))
theorem hd_X5_owes : yX5_owes.cls = RX5 ∧ yX5_owes.cls ≠ "java/lang/invoke/MethodHandle" ∧ yX5_owes.cls ≠ "java/lang/invoke/VarHandle" ∧ (parseMethodDescriptor yX5_owes.desc).map (fun d => d.parameters.length) = some 2 := by decide +kernel
set_option maxHeartbeats 4000000 in
set_option maxRecDepth 100000 in
theorem c_X5_owes {D : va_G} {ad : Nat → Nat} (l : Launch) (sz : Nat) (S : vS) (p1 : Int32) (p2 : Int32) : Met l yX5_owes wsX5_owes (rmD 2) (pW D 7 (cM D ad) ad sz S [.ref (ad 0), .int p1, .int p2]) (va_Qi (fun (r : Int32) (S1 : vS) => (r, S1) = (x_X5_owes S p1 p2)) (bW D 7 (cM D ad) ad (aW 7 ad sz)) (aW 7 ad sz)) 0 0 (aW 7 ad sz) := by
  refine x_met (own := RX5) (cc := cX5_owes) (maxL := 3) (ret := (some .int)) (Qc := fun A => va_Qi (fun (r : Int32) (S1 : vS) => (r, S1) = (x_X5_owes S p1 p2)) (bW D 7 (cM D ad) ad A) A) rfl ⟨by decide +kernel, rfl, Nat.le_of_ble_eq_true rfl⟩ ?_
  intro p e s mm args below meth c A ls B hW hl hls
  have hx := B.1.1
  have hb := B.1.2.1
  have hin_X5 : ∀ w ∈ wsX50, w ∈ wsX5_owes := fun w h => List.mem_cons_of_mem _ (List.mem_append_right _ h)
  have k_28 := B.1.2.2.2.2 (.fieldLink RX5 28 "JointLoansModel" "thrown" "I") (by decide +kernel)
  have k_7 := B.1.2.2.2.2 (.fieldLink RX5 7 "JointLoansModel" "now" "[I") (by decide +kernel)
  have zk := x_X5_owes.eq_1 S p1 p2
  have hl : lv_has ls 3 [(0, .ref (ad 0)), (1, .int p1), (2, .int p2)] := hl
  refine lv_aload_n hx hb dX5_owes_0 rfl (lv_at hl 0 rfl) ?_
  refine lv_iconst (v := 0) hx hb dX5_owes_1 (by decide) ?_
  refine x_put B hW (by decide) cls5 hin_X5 6 (by decide) cM_o rfl (ty := .int) (by decide +kernel) rfl rfl (Nat.le_of_ble_eq_true rfl) (j := 6) pO_6 k_28 dX5_owes_2 (fun H locs S_2 he_2 hW => ?_)
  have zk := nm_at zk he_2
  have hf_S_2_0_6_1 : vp_in (S_2 0 6) 1 := by rw [he_2, st_at, if_pos ⟨rfl, rfl⟩]; exact isN_vin (isN_lit 0 (by decide)) (by decide) (by decide)
  refine lv_aload_n hx hb dX5_owes_5 rfl (lv_at hl 0 rfl) ?_
  refine lv_iload_n hx hb dX5_owes_6 rfl (lv_at hl 1 rfl) ?_
  refine x_calli hW (x_runV B hW (As := [.int p1]) (rest := []) (by decide) cM_o cls5 (c_X5_isMember (D := D) (ad := ad) l _ S_2 p1) (cwV 1 B.1.2.2.2.2 gX5_owes_X5_isMember rfl rfl rfl hd_X5_isMember ⟨Nat.le_of_ble_eq_true rfl, Nat.le_of_ble_eq_true rfl⟩) rfl hls (Nat.le_of_ble_eq_true rfl) dX5_owes_7 ⟨Nat.zero_le _, Nat.zero_le _⟩) (fun r_7 S_7 H locs he hW => ?_)
  obtain ⟨hr_7, hs, hz_7⟩ := he
  rw [hs] at hW
  have zk := nm_at zk hr_7
  refine lv_if_eq (tgt := 33) hx hb dX5_owes_10 (by decide) (fun c_10 => ?_) (fun c_10 => ?_)
  · have zk := zk.trans (if_pos c_10)
    refine lv_aload_n hx hb dX5_owes_33 rfl (lv_at hl 0 rfl) ?_
    refine lv_iconst (v := 1) hx hb dX5_owes_34 (by decide) ?_
    refine x_calli hW (x_runV B hW (As := [.int 1]) (rest := []) (by decide) cM_o cls5 (c_X5_fails (D := D) (ad := ad) l _ S_2 1) (cwV 1 B.1.2.2.2.2 gX5_owes_X5_fails rfl rfl rfl hd_X5_fails ⟨Nat.le_of_ble_eq_true rfl, Nat.le_of_ble_eq_true rfl⟩) rfl hls (Nat.le_of_ble_eq_true rfl) dX5_owes_35 ⟨Nat.zero_le _, Nat.zero_le _⟩) (fun r_35 S_35 H locs he hW => ?_)
    have hr_35 := he
    have zk := nmp_at zk hr_35
    have he_35 : S_35 = (x_X5_fails S_2 1).2 := by rw [← hr_35]
    exact x_iret B hW zk.symm dX5_owes_38
  · have zk := zk.trans (if_neg c_10)
    refine lv_aload_n hx hb dX5_owes_13 rfl (lv_at hl 0 rfl) ?_
    refine lv_iload_n hx hb dX5_owes_14 rfl (lv_at hl 2 rfl) ?_
    refine x_calli hW (x_runV B hW (As := [.int p2]) (rest := []) (by decide) cM_o cls5 (c_X5_isMember (D := D) (ad := ad) l _ S_2 p2) (cwV 1 B.1.2.2.2.2 gX5_owes_X5_isMember rfl rfl rfl hd_X5_isMember ⟨Nat.le_of_ble_eq_true rfl, Nat.le_of_ble_eq_true rfl⟩) rfl hls (Nat.le_of_ble_eq_true rfl) dX5_owes_15 ⟨Nat.zero_le _, Nat.zero_le _⟩) (fun r_15 S_15 H locs he hW => ?_)
    obtain ⟨hr_15, hs, hz_15⟩ := he
    rw [hs] at hW
    have zk := nm_at zk hr_15
    refine lv_if_eq (tgt := 33) hx hb dX5_owes_18 (by decide) (fun c_18 => ?_) (fun c_18 => ?_)
    · have zk := zk.trans (if_pos c_18)
      refine lv_aload_n hx hb dX5_owes_33 rfl (lv_at hl 0 rfl) ?_
      refine lv_iconst (v := 1) hx hb dX5_owes_34 (by decide) ?_
      refine x_calli hW (x_runV B hW (As := [.int 1]) (rest := []) (by decide) cM_o cls5 (c_X5_fails (D := D) (ad := ad) l _ S_2 1) (cwV 1 B.1.2.2.2.2 gX5_owes_X5_fails rfl rfl rfl hd_X5_fails ⟨Nat.le_of_ble_eq_true rfl, Nat.le_of_ble_eq_true rfl⟩) rfl hls (Nat.le_of_ble_eq_true rfl) dX5_owes_35 ⟨Nat.zero_le _, Nat.zero_le _⟩) (fun r_35 S_35 H locs he hW => ?_)
      have hr_35 := he
      have zk := nmp_at zk hr_35
      have he_35 : S_35 = (x_X5_fails S_2 1).2 := by rw [← hr_35]
      exact x_iret B hW zk.symm dX5_owes_38
    · have zk := zk.trans (if_neg c_18)
      refine lv_aload_n hx hb dX5_owes_21 rfl (lv_at hl 0 rfl) ?_
      refine x_get B hW (by decide) cM_o cls5 hin_X5 0 (by decide) (v := .ref (ad 1)) rfl k_7 dX5_owes_22 ?_
      refine lv_iload_n hx hb dX5_owes_25 rfl (lv_at hl 1 rfl) ?_
      refine lv_iload_n hx hb dX5_owes_26 rfl (lv_at hl 2 rfl) ?_
      refine x_calli hW (x_runS B hW (As := [.ref (ad 1), .int p1, .int p2]) (rest := []) (c_X5_debt (D := D) (ad := ad) l _ S_2 1 p1 p2 (Or.inl rfl) (isN_vin (isN_var (ismem_vin hr_7 c_10) (by decide)) (by decide) (by decide)) (isN_vin (isN_var (ismem_vin hr_15 c_18) (by decide)) (by decide) (by decide))) (va_cwS 3 B.1.2.2.2.2 gX5_owes_X5_debt rfl rfl rfl hd_X5_debt.2 ⟨Nat.le_of_ble_eq_true rfl, Nat.le_of_ble_eq_true rfl⟩) rfl hls (Nat.le_of_ble_eq_true rfl) dX5_owes_27 ⟨Nat.zero_le _, Nat.zero_le _⟩) (fun r_27 S_27 H locs he hW => ?_)
      obtain ⟨hr_27, hs⟩ := he
      rw [hs] at hW
      have zk := nm_at zk hr_27
      refine lv_goto (tgt := 38) hx hb dX5_owes_30 (by decide) ?_
      exact x_iret B hW zk.symm dX5_owes_38

def x_X5_among_L4 : Nat → vS → Nat → Nat → Int32 → Int32
  | 0, S, _, _, _ => 0
  | n + 1, S, q, n2, v1 => if 8 ≤ (nI n2) then v1 else nm (x_X5_toOthers S q (nI n2)) (fun r_13 => nm ((v1 + r_13)) (fun x_17 => x_X5_among_L4 n S q ((n2 + 1)) (x_17)))
def x_X5_among (S : vS) (q : Nat) : Int32 := x_X5_among_L4 (9) S q (0) (0)
theorem hd_X5_among : yX5_among.cls = RX5 ∧ yX5_among.cls ≠ "java/lang/invoke/MethodHandle" ∧ yX5_among.cls ≠ "java/lang/invoke/VarHandle" ∧ (parseMethodDescriptor yX5_among.desc).map (fun d => d.parameters.length) = some 1 := by decide +kernel
set_option maxHeartbeats 4000000 in
set_option maxRecDepth 100000 in
theorem w_X5_among_L4 {D : va_G} {ad : Nat → Nat} (l : Launch) {p : Program} {e : Env} {s : State} {mm : MethodId} {args : Array Value} {below : List Frame} {meth : Method} {c : Code} {A : Nat → Prop} (B : Cx p mm c cX5_among 3 s args wsX5_among RX5 meth (some .int) D) (S : vS) (z : Int32) (q : Nat) (hq : q = 1 ∨ q = 2) : ∀ (n : Nat) (n2 : Nat) (v1 : Int32) (H : Heap) (locs : List Loc) (ls : Array Slot), n2 ≤ 8 → n2 + n = 9 → Wd D 7 (cM D ad) ad A s.heap S H locs → lv_has ls 3 [(2, .int (nI n2)), (1, .int v1), (0, .ref (ad q))] → ls.size = 3 → z = x_X5_among_L4 n S q n2 v1 → W p l e (rmD 2) s mm args below meth c H locs 0 0 (MQ below (va_Qi (fun (r : Int32) (S1 : vS) => r = z ∧ S1 = S) (bW D 7 (cM D ad) ad A) A) args s 0 0 A) (F0 mm 4 ls []) := by
  have hx := B.1.1
  have hb := B.1.2.1
  intro n
  induction n with
  | zero =>
    intro n2 v1 H locs ls hle hsum
    omega
  | succ n ih =>
    intro n2 v1 H locs ls hle hsum hW hl hls zk
    have zk := zk.trans (x_X5_among_L4.eq_2 _ _ _ _ _ )
    refine lv_iload_n hx hb dX5_among_4 rfl (lv_at hl 0 rfl) ?_
    refine lv_bipush (v := 8) hx hb dX5_among_5 (by decide) ?_
    refine lv_icmp_ge (tgt := 24) hx hb dX5_among_7 (by decide) (fun c_7 => ?_) (fun c_7 => ?_)
    · have zk := zk.trans (if_pos c_7)
      refine lv_iload_n hx hb dX5_among_24 rfl (lv_at hl 1 rfl) ?_
      exact x_iret B hW ⟨zk.symm, rfl⟩ dX5_among_25
    · have zk := zk.trans (if_neg c_7)
      have hb_c_7 : n2 < 8 := nI_of_nle (by decide) c_7 (by omega)
      refine lv_iload_n hx hb dX5_among_10 rfl (lv_at hl 1 rfl) ?_
      refine lv_aload_n hx hb dX5_among_11 rfl (lv_at hl 2 rfl) ?_
      refine lv_iload_n hx hb dX5_among_12 rfl (lv_at hl 0 rfl) ?_
      refine x_calli hW (x_runS B hW (As := [.ref (ad q), .int (nI n2)]) (rest := .int v1 :: []) (c_X5_toOthers (D := D) (ad := ad) l _ S q (nI n2) hq (isN_vin (isN_nI hb_c_7 (by decide)) (by decide) (by decide))) (va_cwS 2 B.1.2.2.2.2 gX5_among_X5_toOthers rfl rfl rfl hd_X5_toOthers.2 ⟨Nat.le_of_ble_eq_true rfl, Nat.le_of_ble_eq_true rfl⟩) rfl hls (Nat.le_of_ble_eq_true rfl) dX5_among_13 ⟨Nat.zero_le _, Nat.zero_le _⟩) (fun r_13 S_13 H locs he hW => ?_)
      obtain ⟨hr_13, hs⟩ := he
      rw [hs] at hW
      have zk := nm_at zk hr_13
      refine lv_iadd hx hb dX5_among_16 ?_
      refine lv_topi (fun x_17 ex_17 => ?_)
      have zk := nm_at zk ex_17
      refine lv_istore_n (lv' := [(1, .int x_17), (2, .int (nI n2)), (0, .ref (ad q))]) hx hb dX5_among_17 rfl hl (by decide) rfl (fun ls hl => ?_)
      have hls := hl.1
      refine lv_iinc (v := (nI (n2 + 1))) (lv' := [(2, .int (nI (n2 + 1))), (1, .int x_17), (0, .ref (ad q))]) hx hb dX5_among_18 hl (k := 1) rfl (nI_1 _) (by decide) rfl (fun ls hl => ?_)
      have hls := hl.1
      refine lv_goto (tgt := 4) hx hb dX5_among_21 (by decide) ?_
      exact ih ((n2 + 1)) (x_17)  _ _ _ (show (n2 + 1) ≤ 8 by omega) (show (n2 + 1) + n = 9 by omega) hW (lv_sub hl [0, 1, 2] rfl) hls zk
set_option maxHeartbeats 4000000 in
set_option maxRecDepth 100000 in
theorem c_X5_among {D : va_G} {ad : Nat → Nat} (l : Launch) (sz : Nat) (S : vS) (q : Nat) (hq : q = 1 ∨ q = 2) : Met l yX5_among wsX5_among (rmD 2) (pW D 7 (cM D ad) ad sz S [.ref (ad q)]) (va_Qi (fun (r : Int32) (S1 : vS) => r = (x_X5_among S q) ∧ S1 = S) (bW D 7 (cM D ad) ad (aW 7 ad sz)) (aW 7 ad sz)) 0 0 (aW 7 ad sz) := by
  refine x_met (own := RX5) (cc := cX5_among) (maxL := 3) (ret := (some .int)) (Qc := fun A => va_Qi (fun (r : Int32) (S1 : vS) => r = (x_X5_among S q) ∧ S1 = S) (bW D 7 (cM D ad) ad A) A) rfl ⟨by decide +kernel, rfl, Nat.le_of_ble_eq_true rfl⟩ ?_
  intro p e s mm args below meth c A ls B hW hl hls
  have hx := B.1.1
  have hb := B.1.2.1
  have zk := x_X5_among.eq_1 S q
  have hl : lv_has ls 3 [(0, .ref (ad q))] := hl
  refine lv_iconst (v := 0) hx hb dX5_among_0 (by decide) ?_
  refine lv_istore_n (lv' := [(1, .int 0), (0, .ref (ad q))]) hx hb dX5_among_1 rfl hl (by decide) rfl (fun ls hl => ?_)
  have hls := hl.1
  refine lv_iconst (v := 0) hx hb dX5_among_2 (by decide) ?_
  refine lv_istore_n (lv' := [(2, .int 0), (1, .int 0), (0, .ref (ad q))]) hx hb dX5_among_3 rfl hl (by decide) rfl (fun ls hl => ?_)
  have hls := hl.1
  exact w_X5_among_L4 l B S _ q hq (9) (0) (0)  _ _ _ (show 0 ≤ 8 by omega) (show 0 + (9) = 9 by omega) hW (lv_sub hl [0, 1, 2] rfl) hls zk

def x_X5_counted (S : vS) (p1 : Int32) : Int32 := if 5 ≤ p1 then if 9 ≤ p1 then if 12 ≤ p1 then if p1 = 12 then (((S 1 9) + (S 1 10)) - (S 1 11)) else if p1 = 13 then (S 1 12) else if p1 = 14 then nm (x_X5_absents S) (fun r_170 => r_170) else (S 0 3) else (S 1 ((9 + p1) - 9).toNatClampNeg) else if p1 = 5 then nm (x_X5_sumOf S 3) (fun r_52 => r_52) else if p1 = 6 then nm (x_X5_sumOf S 10) (fun r_67 => r_67) else if p1 = 7 then nm (x_X5_sumOf S 11) (fun r_82 => r_82) else nm (x_X5_among S 1) (fun r_92 => r_92) else if 3 ≤ p1 then if p1 = 3 then nm (x_X5_members S) (fun r_25 => r_25) else (S 1 8) else (S 1 p1.toNatClampNeg)
theorem hd_X5_counted : yX5_counted.cls = RX5 ∧ yX5_counted.cls ≠ "java/lang/invoke/MethodHandle" ∧ yX5_counted.cls ≠ "java/lang/invoke/VarHandle" ∧ (parseMethodDescriptor yX5_counted.desc).map (fun d => d.parameters.length) = some 1 := by decide +kernel
set_option maxHeartbeats 4000000 in
set_option maxRecDepth 100000 in
theorem c_X5_counted {D : va_G} {ad : Nat → Nat} (l : Launch) (sz : Nat) (S : vS) (p1 : Int32) (h1 : vp_in p1 16) : Met l yX5_counted wsX5_counted (rmD 3) (pW D 7 (cM D ad) ad sz S [.ref (ad 0), .int p1]) (va_Qi (fun (r : Int32) (S1 : vS) => r = (x_X5_counted S p1) ∧ S1 = S) (bW D 7 (cM D ad) ad (aW 7 ad sz)) (aW 7 ad sz)) 0 0 (aW 7 ad sz) := by
  refine x_met (own := RX5) (cc := cX5_counted) (maxL := 2) (ret := (some .int)) (Qc := fun A => va_Qi (fun (r : Int32) (S1 : vS) => r = (x_X5_counted S p1) ∧ S1 = S) (bW D 7 (cM D ad) ad A) A) rfl ⟨by decide +kernel, rfl, Nat.le_of_ble_eq_true rfl⟩ ?_
  intro p e s mm args below meth c A ls B hW hl hls
  have hx := B.1.1
  have hb := B.1.2.1
  have hin_X5 : ∀ w ∈ wsX50, w ∈ wsX5_counted := fun w h => List.mem_cons_of_mem _ (List.mem_append_right _ h)
  have k_40 := B.1.2.2.2.2 (.fieldLink RX5 40 "JointLoansModel" "kept" "I") (by decide +kernel)
  have k_7 := B.1.2.2.2.2 (.fieldLink RX5 7 "JointLoansModel" "now" "[I") (by decide +kernel)
  have zk := x_X5_counted.eq_1 S p1
  have hl : lv_has ls 2 [(0, .ref (ad 0)), (1, .int p1)] := hl
  refine lv_iload_n hx hb dX5_counted_0 rfl (lv_at hl 1 rfl) ?_
  refine lv_iconst (v := 5) hx hb dX5_counted_1 (by decide) ?_
  refine lv_icmp_ge (tgt := 39) hx hb dX5_counted_2 (by decide) (fun c_2 => ?_) (fun c_2 => ?_)
  · have zk := zk.trans (if_pos c_2)
    refine lv_iload_n hx hb dX5_counted_39 rfl (lv_at hl 1 rfl) ?_
    refine lv_bipush (v := 9) hx hb dX5_counted_40 (by decide) ?_
    refine lv_icmp_ge (tgt := 96) hx hb dX5_counted_42 (by decide) (fun c_42 => ?_) (fun c_42 => ?_)
    · have zk := zk.trans (if_pos c_42)
      refine lv_iload_n hx hb dX5_counted_96 rfl (lv_at hl 1 rfl) ?_
      refine lv_bipush (v := 12) hx hb dX5_counted_97 (by decide) ?_
      refine lv_icmp_ge (tgt := 115) hx hb dX5_counted_99 (by decide) (fun c_99 => ?_) (fun c_99 => ?_)
      · have zk := zk.trans (if_pos c_99)
        refine lv_iload_n hx hb dX5_counted_115 rfl (lv_at hl 1 rfl) ?_
        refine lv_bipush (v := 12) hx hb dX5_counted_116 (by decide) ?_
        refine lv_icmp_ne (tgt := 147) hx hb dX5_counted_118 (by decide) (fun c_118 => ?_) (fun c_118 => ?_)
        · have zk := zk.trans (if_neg c_118)
          refine lv_iload_n hx hb dX5_counted_147 rfl (lv_at hl 1 rfl) ?_
          refine lv_bipush (v := 13) hx hb dX5_counted_148 (by decide) ?_
          refine lv_icmp_ne (tgt := 163) hx hb dX5_counted_150 (by decide) (fun c_150 => ?_) (fun c_150 => ?_)
          · have zk := zk.trans (if_neg c_150)
            refine lv_iload_n hx hb dX5_counted_163 rfl (lv_at hl 1 rfl) ?_
            refine lv_bipush (v := 14) hx hb dX5_counted_164 (by decide) ?_
            refine lv_icmp_ne (tgt := 176) hx hb dX5_counted_166 (by decide) (fun c_166 => ?_) (fun c_166 => ?_)
            · have zk := zk.trans (if_neg c_166)
              refine lv_aload_n hx hb dX5_counted_176 rfl (lv_at hl 0 rfl) ?_
              refine x_get B hW (by decide) cM_o cls5 hin_X5 3 (by decide) (v := .int (S 0 3)) rfl k_40 dX5_counted_177 ?_
              exact x_iret B hW ⟨zk.symm, rfl⟩ dX5_counted_180
            · have zk := zk.trans (if_pos c_166)
              refine lv_aload_n hx hb dX5_counted_169 rfl (lv_at hl 0 rfl) ?_
              refine x_calli hW (x_runV B hW (As := []) (rest := []) (by decide) cM_o cls5 (c_X5_absents (D := D) (ad := ad) l _ S) (cwV 0 B.1.2.2.2.2 gX5_counted_X5_absents rfl rfl rfl hd_X5_absents ⟨Nat.le_of_ble_eq_true rfl, Nat.le_of_ble_eq_true rfl⟩) rfl hls (Nat.le_of_ble_eq_true rfl) dX5_counted_170 ⟨Nat.zero_le _, Nat.zero_le _⟩) (fun r_170 S_170 H locs he hW => ?_)
              obtain ⟨hr_170, hs⟩ := he
              rw [hs] at hW
              have zk := nm_at zk hr_170
              refine lv_goto (tgt := 180) hx hb dX5_counted_173 (by decide) ?_
              exact x_iret B hW ⟨zk.symm, rfl⟩ dX5_counted_180
          · have zk := zk.trans (if_pos c_150)
            refine lv_aload_n hx hb dX5_counted_153 rfl (lv_at hl 0 rfl) ?_
            refine x_get B hW (by decide) cM_o cls5 hin_X5 0 (by decide) (v := .ref (ad 1)) rfl k_7 dX5_counted_154 ?_
            refine lv_bipush (v := 12) hx hb dX5_counted_157 (by decide) ?_
            refine x_iald B hW (by decide) cM_1 (isN_lit 12 (by decide)) (by decide) (by decide) dX5_counted_159 ?_
            refine lv_goto (tgt := 180) hx hb dX5_counted_160 (by decide) ?_
            exact x_iret B hW ⟨zk.symm, rfl⟩ dX5_counted_180
        · have zk := zk.trans (if_pos c_118)
          refine lv_aload_n hx hb dX5_counted_121 rfl (lv_at hl 0 rfl) ?_
          refine x_get B hW (by decide) cM_o cls5 hin_X5 0 (by decide) (v := .ref (ad 1)) rfl k_7 dX5_counted_122 ?_
          refine lv_bipush (v := 9) hx hb dX5_counted_125 (by decide) ?_
          refine x_iald B hW (by decide) cM_1 (isN_lit 9 (by decide)) (by decide) (by decide) dX5_counted_127 ?_
          refine lv_aload_n hx hb dX5_counted_128 rfl (lv_at hl 0 rfl) ?_
          refine x_get B hW (by decide) cM_o cls5 hin_X5 0 (by decide) (v := .ref (ad 1)) rfl k_7 dX5_counted_129 ?_
          refine lv_bipush (v := 10) hx hb dX5_counted_132 (by decide) ?_
          refine x_iald B hW (by decide) cM_1 (isN_lit 10 (by decide)) (by decide) (by decide) dX5_counted_134 ?_
          refine lv_iadd hx hb dX5_counted_135 ?_
          refine lv_aload_n hx hb dX5_counted_136 rfl (lv_at hl 0 rfl) ?_
          refine x_get B hW (by decide) cM_o cls5 hin_X5 0 (by decide) (v := .ref (ad 1)) rfl k_7 dX5_counted_137 ?_
          refine lv_bipush (v := 11) hx hb dX5_counted_140 (by decide) ?_
          refine x_iald B hW (by decide) cM_1 (isN_lit 11 (by decide)) (by decide) (by decide) dX5_counted_142 ?_
          refine lv_isub hx hb dX5_counted_143 ?_
          refine lv_goto (tgt := 180) hx hb dX5_counted_144 (by decide) ?_
          exact x_iret B hW ⟨zk.symm, rfl⟩ dX5_counted_180
      · have zk := zk.trans (if_neg c_99)
        have hv9 : vp_in ((9 + p1) - 9) 189 := cnt9 h1
        refine lv_aload_n hx hb dX5_counted_102 rfl (lv_at hl 0 rfl) ?_
        refine x_get B hW (by decide) cM_o cls5 hin_X5 0 (by decide) (v := .ref (ad 1)) rfl k_7 dX5_counted_103 ?_
        refine lv_bipush (v := 9) hx hb dX5_counted_106 (by decide) ?_
        refine lv_iload_n hx hb dX5_counted_108 rfl (lv_at hl 1 rfl) ?_
        refine lv_iadd hx hb dX5_counted_109 ?_
        refine lv_bipush (v := 9) hx hb dX5_counted_110 (by decide) ?_
        refine lv_isub hx hb dX5_counted_112 ?_
        refine x_iald B hW (by decide) cM_1 (isN_var hv9 (by decide)) (by decide) (by decide) dX5_counted_113 ?_
        exact x_iret B hW ⟨zk.symm, rfl⟩ dX5_counted_114
    · have zk := zk.trans (if_neg c_42)
      refine lv_iload_n hx hb dX5_counted_45 rfl (lv_at hl 1 rfl) ?_
      refine lv_iconst (v := 5) hx hb dX5_counted_46 (by decide) ?_
      refine lv_icmp_ne (tgt := 58) hx hb dX5_counted_47 (by decide) (fun c_47 => ?_) (fun c_47 => ?_)
      · have zk := zk.trans (if_neg c_47)
        refine lv_iload_n hx hb dX5_counted_58 rfl (lv_at hl 1 rfl) ?_
        refine lv_bipush (v := 6) hx hb dX5_counted_59 (by decide) ?_
        refine lv_icmp_ne (tgt := 73) hx hb dX5_counted_61 (by decide) (fun c_61 => ?_) (fun c_61 => ?_)
        · have zk := zk.trans (if_neg c_61)
          refine lv_iload_n hx hb dX5_counted_73 rfl (lv_at hl 1 rfl) ?_
          refine lv_bipush (v := 7) hx hb dX5_counted_74 (by decide) ?_
          refine lv_icmp_ne (tgt := 88) hx hb dX5_counted_76 (by decide) (fun c_76 => ?_) (fun c_76 => ?_)
          · have zk := zk.trans (if_neg c_76)
            refine lv_aload_n hx hb dX5_counted_88 rfl (lv_at hl 0 rfl) ?_
            refine x_get B hW (by decide) cM_o cls5 hin_X5 0 (by decide) (v := .ref (ad 1)) rfl k_7 dX5_counted_89 ?_
            refine x_calli hW (x_runS B hW (As := [.ref (ad 1)]) (rest := []) (c_X5_among (D := D) (ad := ad) l _ S 1 (Or.inl rfl)) (va_cwS 1 B.1.2.2.2.2 gX5_counted_X5_among rfl rfl rfl hd_X5_among.2 ⟨Nat.le_of_ble_eq_true rfl, Nat.le_of_ble_eq_true rfl⟩) rfl hls (Nat.le_of_ble_eq_true rfl) dX5_counted_92 ⟨Nat.zero_le _, Nat.zero_le _⟩) (fun r_92 S_92 H locs he hW => ?_)
            obtain ⟨hr_92, hs⟩ := he
            rw [hs] at hW
            have zk := nm_at zk hr_92
            exact x_iret B hW ⟨zk.symm, rfl⟩ dX5_counted_95
          · have zk := zk.trans (if_pos c_76)
            refine lv_aload_n hx hb dX5_counted_79 rfl (lv_at hl 0 rfl) ?_
            refine lv_bipush (v := 11) hx hb dX5_counted_80 (by decide) ?_
            refine x_calli hW (x_runV B hW (As := [.int 11]) (rest := []) (by decide) cM_o cls5 (c_X5_sumOf (D := D) (ad := ad) l _ S 11 (isN_vin (isN_lit 11 (by decide)) (by decide) (by decide))) (cwV 1 B.1.2.2.2.2 gX5_counted_X5_sumOf rfl rfl rfl hd_X5_sumOf ⟨Nat.le_of_ble_eq_true rfl, Nat.le_of_ble_eq_true rfl⟩) rfl hls (Nat.le_of_ble_eq_true rfl) dX5_counted_82 ⟨Nat.zero_le _, Nat.zero_le _⟩) (fun r_82 S_82 H locs he hW => ?_)
            obtain ⟨hr_82, hs⟩ := he
            rw [hs] at hW
            have zk := nm_at zk hr_82
            refine lv_goto (tgt := 95) hx hb dX5_counted_85 (by decide) ?_
            exact x_iret B hW ⟨zk.symm, rfl⟩ dX5_counted_95
        · have zk := zk.trans (if_pos c_61)
          refine lv_aload_n hx hb dX5_counted_64 rfl (lv_at hl 0 rfl) ?_
          refine lv_bipush (v := 10) hx hb dX5_counted_65 (by decide) ?_
          refine x_calli hW (x_runV B hW (As := [.int 10]) (rest := []) (by decide) cM_o cls5 (c_X5_sumOf (D := D) (ad := ad) l _ S 10 (isN_vin (isN_lit 10 (by decide)) (by decide) (by decide))) (cwV 1 B.1.2.2.2.2 gX5_counted_X5_sumOf rfl rfl rfl hd_X5_sumOf ⟨Nat.le_of_ble_eq_true rfl, Nat.le_of_ble_eq_true rfl⟩) rfl hls (Nat.le_of_ble_eq_true rfl) dX5_counted_67 ⟨Nat.zero_le _, Nat.zero_le _⟩) (fun r_67 S_67 H locs he hW => ?_)
          obtain ⟨hr_67, hs⟩ := he
          rw [hs] at hW
          have zk := nm_at zk hr_67
          refine lv_goto (tgt := 95) hx hb dX5_counted_70 (by decide) ?_
          exact x_iret B hW ⟨zk.symm, rfl⟩ dX5_counted_95
      · have zk := zk.trans (if_pos c_47)
        refine lv_aload_n hx hb dX5_counted_50 rfl (lv_at hl 0 rfl) ?_
        refine lv_iconst (v := 3) hx hb dX5_counted_51 (by decide) ?_
        refine x_calli hW (x_runV B hW (As := [.int 3]) (rest := []) (by decide) cM_o cls5 (c_X5_sumOf (D := D) (ad := ad) l _ S 3 (isN_vin (isN_lit 3 (by decide)) (by decide) (by decide))) (cwV 1 B.1.2.2.2.2 gX5_counted_X5_sumOf rfl rfl rfl hd_X5_sumOf ⟨Nat.le_of_ble_eq_true rfl, Nat.le_of_ble_eq_true rfl⟩) rfl hls (Nat.le_of_ble_eq_true rfl) dX5_counted_52 ⟨Nat.zero_le _, Nat.zero_le _⟩) (fun r_52 S_52 H locs he hW => ?_)
        obtain ⟨hr_52, hs⟩ := he
        rw [hs] at hW
        have zk := nm_at zk hr_52
        refine lv_goto (tgt := 95) hx hb dX5_counted_55 (by decide) ?_
        exact x_iret B hW ⟨zk.symm, rfl⟩ dX5_counted_95
  · have zk := zk.trans (if_neg c_2)
    refine lv_iload_n hx hb dX5_counted_5 rfl (lv_at hl 1 rfl) ?_
    refine lv_iconst (v := 3) hx hb dX5_counted_6 (by decide) ?_
    refine lv_icmp_ge (tgt := 19) hx hb dX5_counted_7 (by decide) (fun c_7 => ?_) (fun c_7 => ?_)
    · have zk := zk.trans (if_pos c_7)
      refine lv_iload_n hx hb dX5_counted_19 rfl (lv_at hl 1 rfl) ?_
      refine lv_iconst (v := 3) hx hb dX5_counted_20 (by decide) ?_
      refine lv_icmp_ne (tgt := 31) hx hb dX5_counted_21 (by decide) (fun c_21 => ?_) (fun c_21 => ?_)
      · have zk := zk.trans (if_neg c_21)
        refine lv_aload_n hx hb dX5_counted_31 rfl (lv_at hl 0 rfl) ?_
        refine x_get B hW (by decide) cM_o cls5 hin_X5 0 (by decide) (v := .ref (ad 1)) rfl k_7 dX5_counted_32 ?_
        refine lv_bipush (v := 8) hx hb dX5_counted_35 (by decide) ?_
        refine x_iald B hW (by decide) cM_1 (isN_lit 8 (by decide)) (by decide) (by decide) dX5_counted_37 ?_
        exact x_iret B hW ⟨zk.symm, rfl⟩ dX5_counted_38
      · have zk := zk.trans (if_pos c_21)
        refine lv_aload_n hx hb dX5_counted_24 rfl (lv_at hl 0 rfl) ?_
        refine x_calli hW (x_runV B hW (As := []) (rest := []) (by decide) cM_o cls5 (c_X5_members (D := D) (ad := ad) l _ S) (cwV 0 B.1.2.2.2.2 gX5_counted_X5_members rfl rfl rfl hd_X5_members ⟨Nat.le_of_ble_eq_true rfl, Nat.le_of_ble_eq_true rfl⟩) rfl hls (Nat.le_of_ble_eq_true rfl) dX5_counted_25 ⟨Nat.zero_le _, Nat.zero_le _⟩) (fun r_25 S_25 H locs he hW => ?_)
        obtain ⟨hr_25, hs⟩ := he
        rw [hs] at hW
        have zk := nm_at zk hr_25
        refine lv_goto (tgt := 38) hx hb dX5_counted_28 (by decide) ?_
        exact x_iret B hW ⟨zk.symm, rfl⟩ dX5_counted_38
    · have zk := zk.trans (if_neg c_7)
      refine lv_aload_n hx hb dX5_counted_10 rfl (lv_at hl 0 rfl) ?_
      refine x_get B hW (by decide) cM_o cls5 hin_X5 0 (by decide) (v := .ref (ad 1)) rfl k_7 dX5_counted_11 ?_
      refine lv_iload_n hx hb dX5_counted_14 rfl (lv_at hl 1 rfl) ?_
      refine x_iald B hW (by decide) cM_1 (isN_var (vin_hi (m := 3) h1 c_7 (by decide)) (by decide)) (by decide) (by decide) dX5_counted_15 ?_
      refine lv_goto (tgt := 38) hx hb dX5_counted_16 (by decide) ?_
      exact x_iret B hW ⟨zk.symm, rfl⟩ dX5_counted_38

def x_X5_count (S : vS) (p1 : Int32) : (Int32 × vS) := nm (st S 0 6 0) (fun S_2 => nm (x_X5_in S_2 p1 0 15) (fun r_9 => if r_9 = 0 then nmp (x_X5_fails S_2 1) (fun r_25 S_25 => (r_25, S_25)) else nm (x_X5_counted S_2 p1) (fun r_17 => (r_17, S_2))))
theorem hd_X5_count : yX5_count.cls = RX5 ∧ yX5_count.cls ≠ "java/lang/invoke/MethodHandle" ∧ yX5_count.cls ≠ "java/lang/invoke/VarHandle" ∧ (parseMethodDescriptor yX5_count.desc).map (fun d => d.parameters.length) = some 1 := by decide +kernel
set_option maxHeartbeats 4000000 in
set_option maxRecDepth 100000 in
theorem c_X5_count {D : va_G} {ad : Nat → Nat} (l : Launch) (sz : Nat) (S : vS) (p1 : Int32) : Met l yX5_count wsX5_count (rmD 4) (pW D 7 (cM D ad) ad sz S [.ref (ad 0), .int p1]) (va_Qi (fun (r : Int32) (S1 : vS) => (r, S1) = (x_X5_count S p1)) (bW D 7 (cM D ad) ad (aW 7 ad sz)) (aW 7 ad sz)) 0 0 (aW 7 ad sz) := by
  refine x_met (own := RX5) (cc := cX5_count) (maxL := 2) (ret := (some .int)) (Qc := fun A => va_Qi (fun (r : Int32) (S1 : vS) => (r, S1) = (x_X5_count S p1)) (bW D 7 (cM D ad) ad A) A) rfl ⟨by decide +kernel, rfl, Nat.le_of_ble_eq_true rfl⟩ ?_
  intro p e s mm args below meth c A ls B hW hl hls
  have hx := B.1.1
  have hb := B.1.2.1
  have hin_X5 : ∀ w ∈ wsX50, w ∈ wsX5_count := fun w h => List.mem_cons_of_mem _ (List.mem_append_right _ h)
  have k_28 := B.1.2.2.2.2 (.fieldLink RX5 28 "JointLoansModel" "thrown" "I") (by decide +kernel)
  have zk := x_X5_count.eq_1 S p1
  have hl : lv_has ls 2 [(0, .ref (ad 0)), (1, .int p1)] := hl
  refine lv_aload_n hx hb dX5_count_0 rfl (lv_at hl 0 rfl) ?_
  refine lv_iconst (v := 0) hx hb dX5_count_1 (by decide) ?_
  refine x_put B hW (by decide) cls5 hin_X5 6 (by decide) cM_o rfl (ty := .int) (by decide +kernel) rfl rfl (Nat.le_of_ble_eq_true rfl) (j := 6) pO_6 k_28 dX5_count_2 (fun H locs S_2 he_2 hW => ?_)
  have zk := nm_at zk he_2
  have hf_S_2_0_6_1 : vp_in (S_2 0 6) 1 := by rw [he_2, st_at, if_pos ⟨rfl, rfl⟩]; exact isN_vin (isN_lit 0 (by decide)) (by decide) (by decide)
  refine lv_iload_n hx hb dX5_count_5 rfl (lv_at hl 1 rfl) ?_
  refine lv_iconst (v := 0) hx hb dX5_count_6 (by decide) ?_
  refine lv_bipush (v := 15) hx hb dX5_count_7 (by decide) ?_
  refine x_calli hW (x_runS B hW (As := [.int p1, .int 0, .int 15]) (rest := []) (c_X5_in (D := D) (ad := ad) l _ S_2 p1 0 15) (va_cwS 3 B.1.2.2.2.2 gX5_count_X5_in rfl rfl rfl hd_X5_in.2 ⟨Nat.le_of_ble_eq_true rfl, Nat.le_of_ble_eq_true rfl⟩) rfl hls (Nat.le_of_ble_eq_true rfl) dX5_count_9 ⟨Nat.zero_le _, Nat.zero_le _⟩) (fun r_9 S_9 H locs he hW => ?_)
  obtain ⟨hr_9, hs, hz_9⟩ := he
  rw [hs] at hW
  have zk := nm_at zk hr_9
  refine lv_if_eq (tgt := 23) hx hb dX5_count_12 (by decide) (fun c_12 => ?_) (fun c_12 => ?_)
  · have zk := zk.trans (if_pos c_12)
    refine lv_aload_n hx hb dX5_count_23 rfl (lv_at hl 0 rfl) ?_
    refine lv_iconst (v := 1) hx hb dX5_count_24 (by decide) ?_
    refine x_calli hW (x_runV B hW (As := [.int 1]) (rest := []) (by decide) cM_o cls5 (c_X5_fails (D := D) (ad := ad) l _ S_2 1) (cwV 1 B.1.2.2.2.2 gX5_count_X5_fails rfl rfl rfl hd_X5_fails ⟨Nat.le_of_ble_eq_true rfl, Nat.le_of_ble_eq_true rfl⟩) rfl hls (Nat.le_of_ble_eq_true rfl) dX5_count_25 ⟨Nat.zero_le _, Nat.zero_le _⟩) (fun r_25 S_25 H locs he hW => ?_)
    have hr_25 := he
    have zk := nmp_at zk hr_25
    have he_25 : S_25 = (x_X5_fails S_2 1).2 := by rw [← hr_25]
    exact x_iret B hW zk.symm dX5_count_28
  · have zk := zk.trans (if_neg c_12)
    refine lv_aload_n hx hb dX5_count_15 rfl (lv_at hl 0 rfl) ?_
    refine lv_iload_n hx hb dX5_count_16 rfl (lv_at hl 1 rfl) ?_
    refine x_calli hW (x_runV B hW (As := [.int p1]) (rest := []) (by decide) cM_o cls5 (c_X5_counted (D := D) (ad := ad) l _ S_2 p1 (isN_vin (isN_var (in_vin hr_9 c_12) (by decide)) (by decide) (by decide))) (cwV 1 B.1.2.2.2.2 gX5_count_X5_counted rfl rfl rfl hd_X5_counted ⟨Nat.le_of_ble_eq_true rfl, Nat.le_of_ble_eq_true rfl⟩) rfl hls (Nat.le_of_ble_eq_true rfl) dX5_count_17 ⟨Nat.zero_le _, Nat.zero_le _⟩) (fun r_17 S_17 H locs he hW => ?_)
    obtain ⟨hr_17, hs⟩ := he
    rw [hs] at hW
    have zk := nm_at zk hr_17
    refine lv_goto (tgt := 28) hx hb dX5_count_20 (by decide) ?_
    exact x_iret B hW zk.symm dX5_count_28

def x_X5_setting (S : vS) (p1 : Int32) : (Int32 × vS) := nm (st S 0 6 0) (fun S_2 => nm (x_X5_in S_2 p1 0 3) (fun r_8 => if r_8 = 0 then nmp (x_X5_fails S_2 1) (fun r_27 S_27 => (r_27, S_27)) else ((S_2 1 (4 + p1.toNatClampNeg)), S_2)))
theorem hd_X5_setting : yX5_setting.cls = RX5 ∧ yX5_setting.cls ≠ "java/lang/invoke/MethodHandle" ∧ yX5_setting.cls ≠ "java/lang/invoke/VarHandle" ∧ (parseMethodDescriptor yX5_setting.desc).map (fun d => d.parameters.length) = some 1 := by decide +kernel
set_option maxHeartbeats 4000000 in
set_option maxRecDepth 100000 in
theorem c_X5_setting {D : va_G} {ad : Nat → Nat} (l : Launch) (sz : Nat) (S : vS) (p1 : Int32) : Met l yX5_setting wsX5_setting (rmD 1) (pW D 7 (cM D ad) ad sz S [.ref (ad 0), .int p1]) (va_Qi (fun (r : Int32) (S1 : vS) => (r, S1) = (x_X5_setting S p1)) (bW D 7 (cM D ad) ad (aW 7 ad sz)) (aW 7 ad sz)) 0 0 (aW 7 ad sz) := by
  refine x_met (own := RX5) (cc := cX5_setting) (maxL := 2) (ret := (some .int)) (Qc := fun A => va_Qi (fun (r : Int32) (S1 : vS) => (r, S1) = (x_X5_setting S p1)) (bW D 7 (cM D ad) ad A) A) rfl ⟨by decide +kernel, rfl, Nat.le_of_ble_eq_true rfl⟩ ?_
  intro p e s mm args below meth c A ls B hW hl hls
  have hx := B.1.1
  have hb := B.1.2.1
  have hin_X5 : ∀ w ∈ wsX50, w ∈ wsX5_setting := fun w h => List.mem_cons_of_mem _ (List.mem_append_right _ h)
  have k_28 := B.1.2.2.2.2 (.fieldLink RX5 28 "JointLoansModel" "thrown" "I") (by decide +kernel)
  have k_7 := B.1.2.2.2.2 (.fieldLink RX5 7 "JointLoansModel" "now" "[I") (by decide +kernel)
  have zk := x_X5_setting.eq_1 S p1
  have hl : lv_has ls 2 [(0, .ref (ad 0)), (1, .int p1)] := hl
  refine lv_aload_n hx hb dX5_setting_0 rfl (lv_at hl 0 rfl) ?_
  refine lv_iconst (v := 0) hx hb dX5_setting_1 (by decide) ?_
  refine x_put B hW (by decide) cls5 hin_X5 6 (by decide) cM_o rfl (ty := .int) (by decide +kernel) rfl rfl (Nat.le_of_ble_eq_true rfl) (j := 6) pO_6 k_28 dX5_setting_2 (fun H locs S_2 he_2 hW => ?_)
  have zk := nm_at zk he_2
  have hf_S_2_0_6_1 : vp_in (S_2 0 6) 1 := by rw [he_2, st_at, if_pos ⟨rfl, rfl⟩]; exact isN_vin (isN_lit 0 (by decide)) (by decide) (by decide)
  refine lv_iload_n hx hb dX5_setting_5 rfl (lv_at hl 1 rfl) ?_
  refine lv_iconst (v := 0) hx hb dX5_setting_6 (by decide) ?_
  refine lv_iconst (v := 3) hx hb dX5_setting_7 (by decide) ?_
  refine x_calli hW (x_runS B hW (As := [.int p1, .int 0, .int 3]) (rest := []) (c_X5_in (D := D) (ad := ad) l _ S_2 p1 0 3) (va_cwS 3 B.1.2.2.2.2 gX5_setting_X5_in rfl rfl rfl hd_X5_in.2 ⟨Nat.le_of_ble_eq_true rfl, Nat.le_of_ble_eq_true rfl⟩) rfl hls (Nat.le_of_ble_eq_true rfl) dX5_setting_8 ⟨Nat.zero_le _, Nat.zero_le _⟩) (fun r_8 S_8 H locs he hW => ?_)
  obtain ⟨hr_8, hs, hz_8⟩ := he
  rw [hs] at hW
  have zk := nm_at zk hr_8
  refine lv_if_eq (tgt := 25) hx hb dX5_setting_11 (by decide) (fun c_11 => ?_) (fun c_11 => ?_)
  · have zk := zk.trans (if_pos c_11)
    refine lv_aload_n hx hb dX5_setting_25 rfl (lv_at hl 0 rfl) ?_
    refine lv_iconst (v := 1) hx hb dX5_setting_26 (by decide) ?_
    refine x_calli hW (x_runV B hW (As := [.int 1]) (rest := []) (by decide) cM_o cls5 (c_X5_fails (D := D) (ad := ad) l _ S_2 1) (cwV 1 B.1.2.2.2.2 gX5_setting_X5_fails rfl rfl rfl hd_X5_fails ⟨Nat.le_of_ble_eq_true rfl, Nat.le_of_ble_eq_true rfl⟩) rfl hls (Nat.le_of_ble_eq_true rfl) dX5_setting_27 ⟨Nat.zero_le _, Nat.zero_le _⟩) (fun r_27 S_27 H locs he hW => ?_)
    have hr_27 := he
    have zk := nmp_at zk hr_27
    have he_27 : S_27 = (x_X5_fails S_2 1).2 := by rw [← hr_27]
    exact x_iret B hW zk.symm dX5_setting_30
  · have zk := zk.trans (if_neg c_11)
    refine lv_aload_n hx hb dX5_setting_14 rfl (lv_at hl 0 rfl) ?_
    refine x_get B hW (by decide) cM_o cls5 hin_X5 0 (by decide) (v := .ref (ad 1)) rfl k_7 dX5_setting_15 ?_
    refine lv_iconst (v := 4) hx hb dX5_setting_18 (by decide) ?_
    refine lv_iload_n hx hb dX5_setting_19 rfl (lv_at hl 1 rfl) ?_
    refine lv_iadd hx hb dX5_setting_20 ?_
    refine x_iald B hW (by decide) cM_1 (isN_add (isN_lit 4 (by decide)) (isN_var (in_vin hr_8 c_11) (by decide)) (by decide)) (by decide) (by decide) dX5_setting_21 ?_
    refine lv_goto (tgt := 30) hx hb dX5_setting_22 (by decide) ?_
    exact x_iret B hW zk.symm dX5_setting_30

def x_X5_endsWith_L2 : Nat → vS → Int32 → Nat → (Int32 × vS)
  | 0, S, _, _ => (0, S)
  | n + 1, S, p1, n2 => if 8 ≤ (nI n2) then nmp (x_X5_ends S 2) (fun r_39 S_39 => (r_39, S_39)) else nm (st S 2 ((13 + (14 * n2)) + 7) ((p1 >>> ((nI n2) &&& 31)) &&& 1)) (fun S_27 => x_X5_endsWith_L2 n S_27 p1 ((n2 + 1)))
def x_X5_endsWith (S : vS) (p1 : Int32) : (Int32 × vS) := x_X5_endsWith_L2 (9) S p1 (0)
theorem hd_X5_endsWith : yX5_endsWith.cls = RX5 ∧ yX5_endsWith.cls ≠ "java/lang/invoke/MethodHandle" ∧ yX5_endsWith.cls ≠ "java/lang/invoke/VarHandle" ∧ (parseMethodDescriptor yX5_endsWith.desc).map (fun d => d.parameters.length) = some 1 := by decide +kernel
set_option maxHeartbeats 4000000 in
set_option maxRecDepth 100000 in
theorem w_X5_endsWith_L2 {D : va_G} {ad : Nat → Nat} (l : Launch) {p : Program} {e : Env} {s : State} {mm : MethodId} {args : Array Value} {below : List Frame} {meth : Method} {c : Code} {A : Nat → Prop} (B : Cx p mm c cX5_endsWith 3 s args wsX5_endsWith RX5 meth (some .int) D) (z : (Int32 × vS)) (p1 : Int32) : ∀ (n : Nat) (n2 : Nat) (S : vS) (H : Heap) (locs : List Loc) (ls : Array Slot), n2 ≤ 8 → n2 + n = 9 → chairOK (S 2 2) → ¬ (S 2 6) = 0 → Wd D 7 (cM D ad) ad A s.heap S H locs → lv_has ls 3 [(2, .int (nI n2)), (0, .ref (ad 0)), (1, .int p1)] → ls.size = 3 → z = x_X5_endsWith_L2 n S p1 n2 → W p l e (rmD 5) s mm args below meth c H locs 0 0 (MQ below (va_Qi (fun (r : Int32) (S1 : vS) => (r, S1) = z) (bW D 7 (cM D ad) ad A) A) args s 0 0 A) (F0 mm 2 ls []) := by
  have hx := B.1.1
  have hb := B.1.2.1
  have hin_X5 : ∀ w ∈ wsX50, w ∈ wsX5_endsWith := fun w h => List.mem_cons_of_mem _ (List.mem_append_right _ h)
  have k_13 := B.1.2.2.2.2 (.fieldLink RX5 13 "JointLoansModel" "then" "[I") (by decide +kernel)
  intro n
  induction n with
  | zero =>
    intro n2 S H locs ls hle hsum hch hs6
    omega
  | succ n ih =>
    intro n2 S H locs ls hle hsum hch hs6 hW hl hls zk
    have zk := zk.trans (x_X5_endsWith_L2.eq_2 _ _ _ _ )
    refine lv_iload_n hx hb dX5_endsWith_2 rfl (lv_at hl 0 rfl) ?_
    refine lv_bipush (v := 8) hx hb dX5_endsWith_3 (by decide) ?_
    refine lv_icmp_ge (tgt := 34) hx hb dX5_endsWith_5 (by decide) (fun c_5 => ?_) (fun c_5 => ?_)
    · have zk := zk.trans (if_pos c_5)
      refine lv_aload_n hx hb dX5_endsWith_34 rfl (lv_at hl 1 rfl) ?_
      refine lv_aload_n hx hb dX5_endsWith_35 rfl (lv_at hl 1 rfl) ?_
      refine x_get B hW (by decide) cM_o cls5 hin_X5 1 (by decide) (v := .ref (ad 2)) rfl k_13 dX5_endsWith_36 ?_
      refine x_calli hW (x_runV B hW (As := [.ref (ad 2)]) (rest := []) (by decide) cM_o cls5 (c_X5_ends (D := D) (ad := ad) l _ S 2 (Or.inr rfl) hch hs6) (cwV 1 B.1.2.2.2.2 gX5_endsWith_X5_ends rfl rfl rfl hd_X5_ends ⟨Nat.le_of_ble_eq_true rfl, Nat.le_of_ble_eq_true rfl⟩) rfl hls (Nat.le_of_ble_eq_true rfl) dX5_endsWith_39 ⟨Nat.zero_le _, Nat.zero_le _⟩) (fun r_39 S_39 H locs he hW => ?_)
      have hr_39 := he
      have zk := nmp_at zk hr_39
      have he_39 : S_39 = (x_X5_ends S 2).2 := by rw [← hr_39]
      have hf_S_39_2_6_0 : ¬ (S_39 2 6) = 0 := by rw [he_39, ((ep_ends (Or.inr rfl)).1 _ _ (fun _ => by decide) (by decide) (by decide))]; exact hs6
      exact x_iret B hW zk.symm dX5_endsWith_42
    · have zk := zk.trans (if_neg c_5)
      have hb_c_5 : n2 < 8 := nI_of_nle (by decide) c_5 (by omega)
      refine lv_aload_n hx hb dX5_endsWith_8 rfl (lv_at hl 1 rfl) ?_
      refine x_get B hW (by decide) cM_o cls5 hin_X5 1 (by decide) (v := .ref (ad 2)) rfl k_13 dX5_endsWith_9 ?_
      refine lv_bipush (v := 13) hx hb dX5_endsWith_12 (by decide) ?_
      refine lv_bipush (v := 14) hx hb dX5_endsWith_14 (by decide) ?_
      refine lv_iload_n hx hb dX5_endsWith_16 rfl (lv_at hl 0 rfl) ?_
      refine lv_imul hx hb dX5_endsWith_17 ?_
      refine lv_iadd hx hb dX5_endsWith_18 ?_
      refine lv_bipush (v := 7) hx hb dX5_endsWith_19 (by decide) ?_
      refine lv_iadd hx hb dX5_endsWith_21 ?_
      refine lv_iload_n hx hb dX5_endsWith_22 rfl (lv_at hl 2 rfl) ?_
      refine lv_iload_n hx hb dX5_endsWith_23 rfl (lv_at hl 0 rfl) ?_
      refine lv_ishr hx hb dX5_endsWith_24 ?_
      refine lv_iconst (v := 1) hx hb dX5_endsWith_25 (by decide) ?_
      refine lv_iand hx hb dX5_endsWith_26 ?_
      refine x_iast B hW (by decide) (fun _ => cM_2) (isN_add (isN_add (isN_lit 13 (by decide)) (isN_mul (isN_lit 14 (by decide)) (isN_nI hb_c_5 (by decide)) (by decide)) (by decide)) (isN_lit 7 (by decide)) (by decide)) (by decide) (by decide) dX5_endsWith_27 (fun H locs S_27 he_27 hW => ?_)
      have zk := nm_at zk he_27
      have hf_S_27_2_2_chairOK : chairOK (S_27 2 2) := by rw [he_27, st_at, if_neg (by rintro ⟨h1, h2⟩; omega)]; exact hch
      have hf_S_27_2_6_0 : ¬ (S_27 2 6) = 0 := by rw [he_27, st_at, if_neg (by rintro ⟨h1, h2⟩; omega)]; exact hs6
      refine lv_iinc (v := (nI (n2 + 1))) (lv' := [(2, .int (nI (n2 + 1))), (0, .ref (ad 0)), (1, .int p1)]) hx hb dX5_endsWith_28 hl (k := 0) rfl (nI_1 _) (by decide) rfl (fun ls hl => ?_)
      have hls := hl.1
      refine lv_goto (tgt := 2) hx hb dX5_endsWith_31 (by decide) ?_
      exact ih ((n2 + 1)) S_27 _ _ _ (show (n2 + 1) ≤ 8 by omega) (show (n2 + 1) + n = 9 by omega) hf_S_27_2_2_chairOK hf_S_27_2_6_0 hW (lv_sub hl [0, 1, 2] rfl) hls zk
set_option maxHeartbeats 4000000 in
set_option maxRecDepth 100000 in
theorem c_X5_endsWith {D : va_G} {ad : Nat → Nat} (l : Launch) (sz : Nat) (S : vS) (p1 : Int32) (hch : chairOK (S 2 2)) (hs6 : ¬ (S 2 6) = 0) : Met l yX5_endsWith wsX5_endsWith (rmD 5) (pW D 7 (cM D ad) ad sz S [.ref (ad 0), .int p1]) (va_Qi (fun (r : Int32) (S1 : vS) => (r, S1) = (x_X5_endsWith S p1)) (bW D 7 (cM D ad) ad (aW 7 ad sz)) (aW 7 ad sz)) 0 0 (aW 7 ad sz) := by
  refine x_met (own := RX5) (cc := cX5_endsWith) (maxL := 3) (ret := (some .int)) (Qc := fun A => va_Qi (fun (r : Int32) (S1 : vS) => (r, S1) = (x_X5_endsWith S p1)) (bW D 7 (cM D ad) ad A) A) rfl ⟨by decide +kernel, rfl, Nat.le_of_ble_eq_true rfl⟩ ?_
  intro p e s mm args below meth c A ls B hW hl hls
  have hx := B.1.1
  have hb := B.1.2.1
  have hin_X5 : ∀ w ∈ wsX50, w ∈ wsX5_endsWith := fun w h => List.mem_cons_of_mem _ (List.mem_append_right _ h)
  have k_13 := B.1.2.2.2.2 (.fieldLink RX5 13 "JointLoansModel" "then" "[I") (by decide +kernel)
  have zk := x_X5_endsWith.eq_1 S p1
  have hl : lv_has ls 3 [(0, .ref (ad 0)), (1, .int p1)] := hl
  refine lv_iconst (v := 0) hx hb dX5_endsWith_0 (by decide) ?_
  refine lv_istore_n (lv' := [(2, .int 0), (0, .ref (ad 0)), (1, .int p1)]) hx hb dX5_endsWith_1 rfl hl (by decide) rfl (fun ls hl => ?_)
  have hls := hl.1
  exact w_X5_endsWith_L2 l B  _ p1 (9) (0) S _ _ _ (show 0 ≤ 8 by omega) (show 0 + (9) = 9 by omega) hch hs6 hW (lv_sub hl [0, 1, 2] rfl) hls zk
theorem ep_endsWith_L {a : Int32} : ∀ (n : Nat) (S S0 : vS) (k : Nat), EP 2 S0 S → EP 2 S0 (x_X5_endsWith_L2 n S a k).2 := by
  intro n
  induction n with
  | zero => intro S S0 k h; exact h
  | succ n ih =>
    intro S S0 k h
    rw [x_X5_endsWith_L2]
    try simp only [nm_eq, nmp_eq]
    split
    · exact h.tr (ep_ends (Or.inr rfl))
    · exact ih _ _ _ (h.w (by omega))
theorem ep_endsWith {S : vS} {a : Int32} : EP 2 S (x_X5_endsWith S a).2 := ep_endsWith_L _ _ _ _ EP.rf

def x_X5_shared_L7 : Nat → vS → Int32 → Nat → Int32 → Int32 → Int32
  | 0, S, _, _, _, _ => 0
  | n + 1, S, p1, n4, v3, v2 => if 8 ≤ (nI n4) then if p1 = 0 then v2 else v3 else nm ((v2 + (S 6 n4))) (fun x_23 => if (S 6 n4) ≤ v3 then x_X5_shared_L7 n S p1 ((n4 + 1)) (v3) (x_23) else nm ((S 6 n4)) (fun x_46 => x_X5_shared_L7 n S p1 ((n4 + 1)) (x_46) (x_23)))
def x_X5_shared (S : vS) (p1 : Int32) : Int32 := x_X5_shared_L7 (9) S p1 (0) (0) (0)
theorem hd_X5_shared : yX5_shared.cls = RX5 ∧ yX5_shared.cls ≠ "java/lang/invoke/MethodHandle" ∧ yX5_shared.cls ≠ "java/lang/invoke/VarHandle" ∧ (parseMethodDescriptor yX5_shared.desc).map (fun d => d.parameters.length) = some 1 := by decide +kernel
set_option maxHeartbeats 4000000 in
set_option maxRecDepth 100000 in
theorem w_X5_shared_L7 {D : va_G} {ad : Nat → Nat} (l : Launch) {p : Program} {e : Env} {s : State} {mm : MethodId} {args : Array Value} {below : List Frame} {meth : Method} {c : Code} {A : Nat → Prop} (B : Cx p mm c cX5_shared 5 s args wsX5_shared RX5 meth (some .int) D) (S : vS) (z : Int32) (p1 : Int32) : ∀ (n : Nat) (n4 : Nat) (v3 : Int32) (v2 : Int32) (H : Heap) (locs : List Loc) (ls : Array Slot), n4 ≤ 8 → n4 + n = 9 → Wd D 7 (cM D ad) ad A s.heap S H locs → lv_has ls 5 [(4, .int (nI n4)), (3, .int v3), (2, .int v2), (0, .ref (ad 0)), (1, .int p1)] → ls.size = 5 → z = x_X5_shared_L7 n S p1 n4 v3 v2 → W p l e (rmD 0) s mm args below meth c H locs 0 0 (MQ below (va_Qi (fun (r : Int32) (S1 : vS) => r = z ∧ S1 = S) (bW D 7 (cM D ad) ad A) A) args s 0 0 A) (F0 mm 7 ls []) := by
  have hx := B.1.1
  have hb := B.1.2.1
  have hin_X5 : ∀ w ∈ wsX50, w ∈ wsX5_shared := fun w h => List.mem_cons_of_mem _ (List.mem_append_right _ h)
  have k_25 := B.1.2.2.2.2 (.fieldLink RX5 25 "JointLoansModel" "shares" "[I") (by decide +kernel)
  intro n
  induction n with
  | zero =>
    intro n4 v3 v2 H locs ls hle hsum
    omega
  | succ n ih =>
    intro n4 v3 v2 H locs ls hle hsum hW hl hls zk
    have zk := zk.trans (x_X5_shared_L7.eq_2 _ _ _ _ _ _ )
    refine lv_iload hx hb dX5_shared_7 (lv_at hl 0 rfl) ?_
    refine lv_bipush (v := 8) hx hb dX5_shared_9 (by decide) ?_
    refine lv_icmp_ge (tgt := 53) hx hb dX5_shared_11 (by decide) (fun c_11 => ?_) (fun c_11 => ?_)
    · have zk := zk.trans (if_pos c_11)
      refine lv_iload_n hx hb dX5_shared_53 rfl (lv_at hl 4 rfl) ?_
      refine lv_if_eq (tgt := 61) hx hb dX5_shared_54 (by decide) (fun c_54 => ?_) (fun c_54 => ?_)
      · have zk := zk.trans (if_pos c_54)
        refine lv_iload_n hx hb dX5_shared_61 rfl (lv_at hl 2 rfl) ?_
        exact x_iret B hW ⟨zk.symm, rfl⟩ dX5_shared_62
      · have zk := zk.trans (if_neg c_54)
        refine lv_iload_n hx hb dX5_shared_57 rfl (lv_at hl 1 rfl) ?_
        refine lv_goto (tgt := 62) hx hb dX5_shared_58 (by decide) ?_
        exact x_iret B hW ⟨zk.symm, rfl⟩ dX5_shared_62
    · have zk := zk.trans (if_neg c_11)
      have hb_c_11 : n4 < 8 := nI_of_nle (by decide) c_11 (by omega)
      refine lv_iload_n hx hb dX5_shared_14 rfl (lv_at hl 2 rfl) ?_
      refine lv_aload_n hx hb dX5_shared_15 rfl (lv_at hl 3 rfl) ?_
      refine x_get B hW (by decide) cM_o cls5 hin_X5 12 (by decide) (v := .ref (ad 6)) rfl k_25 dX5_shared_16 ?_
      refine lv_iload hx hb dX5_shared_19 (lv_at hl 0 rfl) ?_
      refine x_iald B hW (by decide) cM_6 (isN_nI hb_c_11 (by decide)) (by decide) (by decide) dX5_shared_21 ?_
      refine lv_iadd hx hb dX5_shared_22 ?_
      refine lv_topi (fun x_23 ex_23 => ?_)
      have zk := nm_at zk ex_23
      refine lv_istore_n (lv' := [(2, .int x_23), (4, .int (nI n4)), (3, .int v3), (0, .ref (ad 0)), (1, .int p1)]) hx hb dX5_shared_23 rfl hl (by decide) rfl (fun ls hl => ?_)
      have hls := hl.1
      refine lv_aload_n hx hb dX5_shared_24 rfl (lv_at hl 3 rfl) ?_
      refine x_get B hW (by decide) cM_o cls5 hin_X5 12 (by decide) (v := .ref (ad 6)) rfl k_25 dX5_shared_25 ?_
      refine lv_iload hx hb dX5_shared_28 (lv_at hl 1 rfl) ?_
      refine x_iald B hW (by decide) cM_6 (isN_nI hb_c_11 (by decide)) (by decide) (by decide) dX5_shared_30 ?_
      refine lv_iload_n hx hb dX5_shared_31 rfl (lv_at hl 2 rfl) ?_
      refine lv_icmp_le (tgt := 45) hx hb dX5_shared_32 (by decide) (fun c_32 => ?_) (fun c_32 => ?_)
      · have zk := zk.trans (if_pos c_32)
        refine lv_iload_n hx hb dX5_shared_45 rfl (lv_at hl 2 rfl) ?_
        refine lv_istore_n (lv' := [(3, .int v3), (2, .int x_23), (4, .int (nI n4)), (0, .ref (ad 0)), (1, .int p1)]) hx hb dX5_shared_46 rfl hl (by decide) rfl (fun ls hl => ?_)
        have hls := hl.1
        refine lv_iinc (v := (nI (n4 + 1))) (lv' := [(4, .int (nI (n4 + 1))), (3, .int v3), (2, .int x_23), (0, .ref (ad 0)), (1, .int p1)]) hx hb dX5_shared_47 hl (k := 2) rfl (nI_1 _) (by decide) rfl (fun ls hl => ?_)
        have hls := hl.1
        refine lv_goto (tgt := 7) hx hb dX5_shared_50 (by decide) ?_
        exact ih ((n4 + 1)) (v3) (x_23)  _ _ _ (show (n4 + 1) ≤ 8 by omega) (show (n4 + 1) + n = 9 by omega) hW (lv_sub hl [0, 1, 2, 3, 4] rfl) hls zk
      · have zk := zk.trans (if_neg c_32)
        refine lv_aload_n hx hb dX5_shared_35 rfl (lv_at hl 3 rfl) ?_
        refine x_get B hW (by decide) cM_o cls5 hin_X5 12 (by decide) (v := .ref (ad 6)) rfl k_25 dX5_shared_36 ?_
        refine lv_iload hx hb dX5_shared_39 (lv_at hl 1 rfl) ?_
        refine x_iald B hW (by decide) cM_6 (isN_nI hb_c_11 (by decide)) (by decide) (by decide) dX5_shared_41 ?_
        refine lv_goto (tgt := 46) hx hb dX5_shared_42 (by decide) ?_
        refine lv_topi (fun x_46 ex_46 => ?_)
        have zk := nm_at zk ex_46
        refine lv_istore_n (lv' := [(3, .int x_46), (2, .int x_23), (4, .int (nI n4)), (0, .ref (ad 0)), (1, .int p1)]) hx hb dX5_shared_46 rfl hl (by decide) rfl (fun ls hl => ?_)
        have hls := hl.1
        refine lv_iinc (v := (nI (n4 + 1))) (lv' := [(4, .int (nI (n4 + 1))), (3, .int x_46), (2, .int x_23), (0, .ref (ad 0)), (1, .int p1)]) hx hb dX5_shared_47 hl (k := 2) rfl (nI_1 _) (by decide) rfl (fun ls hl => ?_)
        have hls := hl.1
        refine lv_goto (tgt := 7) hx hb dX5_shared_50 (by decide) ?_
        exact ih ((n4 + 1)) (x_46) (x_23)  _ _ _ (show (n4 + 1) ≤ 8 by omega) (show (n4 + 1) + n = 9 by omega) hW (lv_sub hl [0, 1, 2, 3, 4] rfl) hls zk
set_option maxHeartbeats 4000000 in
set_option maxRecDepth 100000 in
theorem c_X5_shared {D : va_G} {ad : Nat → Nat} (l : Launch) (sz : Nat) (S : vS) (p1 : Int32) : Met l yX5_shared wsX5_shared (rmD 0) (pW D 7 (cM D ad) ad sz S [.ref (ad 0), .int p1]) (va_Qi (fun (r : Int32) (S1 : vS) => r = (x_X5_shared S p1) ∧ S1 = S) (bW D 7 (cM D ad) ad (aW 7 ad sz)) (aW 7 ad sz)) 0 0 (aW 7 ad sz) := by
  refine x_met (own := RX5) (cc := cX5_shared) (maxL := 5) (ret := (some .int)) (Qc := fun A => va_Qi (fun (r : Int32) (S1 : vS) => r = (x_X5_shared S p1) ∧ S1 = S) (bW D 7 (cM D ad) ad A) A) rfl ⟨by decide +kernel, rfl, Nat.le_of_ble_eq_true rfl⟩ ?_
  intro p e s mm args below meth c A ls B hW hl hls
  have hx := B.1.1
  have hb := B.1.2.1
  have hin_X5 : ∀ w ∈ wsX50, w ∈ wsX5_shared := fun w h => List.mem_cons_of_mem _ (List.mem_append_right _ h)
  have k_25 := B.1.2.2.2.2 (.fieldLink RX5 25 "JointLoansModel" "shares" "[I") (by decide +kernel)
  have zk := x_X5_shared.eq_1 S p1
  have hl : lv_has ls 5 [(0, .ref (ad 0)), (1, .int p1)] := hl
  refine lv_iconst (v := 0) hx hb dX5_shared_0 (by decide) ?_
  refine lv_istore_n (lv' := [(2, .int 0), (0, .ref (ad 0)), (1, .int p1)]) hx hb dX5_shared_1 rfl hl (by decide) rfl (fun ls hl => ?_)
  have hls := hl.1
  refine lv_iconst (v := 0) hx hb dX5_shared_2 (by decide) ?_
  refine lv_istore_n (lv' := [(3, .int 0), (2, .int 0), (0, .ref (ad 0)), (1, .int p1)]) hx hb dX5_shared_3 rfl hl (by decide) rfl (fun ls hl => ?_)
  have hls := hl.1
  refine lv_iconst (v := 0) hx hb dX5_shared_4 (by decide) ?_
  refine lv_istore (lv' := [(4, .int 0), (3, .int 0), (2, .int 0), (0, .ref (ad 0)), (1, .int p1)]) hx hb dX5_shared_5 hl (by decide) rfl (fun ls hl => ?_)
  have hls := hl.1
  exact w_X5_shared_L7 l B S _ p1 (9) (0) (0) (0)  _ _ _ (show 0 ≤ 8 by omega) (show 0 + (9) = 9 by omega) hW (lv_sub hl [0, 1, 2, 3, 4] rfl) hls zk

def x_X5_bringsBy_L37 : Nat → vS → Int32 → Int32 → Nat → Int32 → (Int32 × vS)
  | 0, S, _, _, _, _ => (0, S)
  | n + 1, S, p1, p2, n5, v4 => if 8 ≤ (nI n5) then if p2 = 2 then (v4, S) else if p2 = 3 then nm (x_X5_among S 2) (fun r_85 => (r_85, S)) else nm (x_X5_shared S 1) (fun r_93 => (r_93, S)) else nm (x_X5_of S 2 (nI n5) 10) (fun r_54 => nm ((v4 + r_54)) (fun x_58 => x_X5_bringsBy_L37 n S p1 p2 ((n5 + 1)) (x_58)))
def x_X5_bringsBy (S : vS) (p1 : Int32) (p2 : Int32) : (Int32 × vS) := nm (x_X5_tries S) (fun S_1 => nmp (x_X5_endsWith S_1 p1) (fun r_6 S_6 => if 2 ≤ p2 then x_X5_bringsBy_L37 (9) S_6 p1 p2 (0) (0) else if p2 = 0 then (r_6, S_6) else ((S_6 2 8), S_6)))
theorem hd_X5_bringsBy : yX5_bringsBy.cls = RX5 ∧ yX5_bringsBy.cls ≠ "java/lang/invoke/MethodHandle" ∧ yX5_bringsBy.cls ≠ "java/lang/invoke/VarHandle" ∧ (parseMethodDescriptor yX5_bringsBy.desc).map (fun d => d.parameters.length) = some 2 := by decide +kernel
set_option maxHeartbeats 4000000 in
set_option maxRecDepth 100000 in
theorem w_X5_bringsBy_L37 {D : va_G} {ad : Nat → Nat} (l : Launch) {p : Program} {e : Env} {s : State} {mm : MethodId} {args : Array Value} {below : List Frame} {meth : Method} {c : Code} {A : Nat → Prop} (B : Cx p mm c cX5_bringsBy 6 s args wsX5_bringsBy RX5 meth (some .int) D) (z : (Int32 × vS)) (p1 : Int32) (p2 : Int32) : ∀ (n : Nat) (n5 : Nat) (v4 : Int32) (S : vS) (H : Heap) (locs : List Loc) (ls : Array Slot), n5 ≤ 8 → n5 + n = 9 → Wd D 7 (cM D ad) ad A s.heap S H locs → lv_has ls 6 [(5, .int (nI n5)), (4, .int v4), (0, .ref (ad 0)), (2, .int p2)] → ls.size = 6 → z = x_X5_bringsBy_L37 n S p1 p2 n5 v4 → W p l e (rmD 6) s mm args below meth c H locs 0 0 (MQ below (va_Qi (fun (r : Int32) (S1 : vS) => (r, S1) = z) (bW D 7 (cM D ad) ad A) A) args s 0 0 A) (F0 mm 37 ls []) := by
  have hx := B.1.1
  have hb := B.1.2.1
  have hin_X5 : ∀ w ∈ wsX50, w ∈ wsX5_bringsBy := fun w h => List.mem_cons_of_mem _ (List.mem_append_right _ h)
  have k_13 := B.1.2.2.2.2 (.fieldLink RX5 13 "JointLoansModel" "then" "[I") (by decide +kernel)
  intro n
  induction n with
  | zero =>
    intro n5 v4 S H locs ls hle hsum
    omega
  | succ n ih =>
    intro n5 v4 S H locs ls hle hsum hW hl hls zk
    have zk := zk.trans (x_X5_bringsBy_L37.eq_2 _ _ _ _ _ _ )
    refine lv_iload hx hb dX5_bringsBy_37 (lv_at hl 0 rfl) ?_
    refine lv_bipush (v := 8) hx hb dX5_bringsBy_39 (by decide) ?_
    refine lv_icmp_ge (tgt := 66) hx hb dX5_bringsBy_41 (by decide) (fun c_41 => ?_) (fun c_41 => ?_)
    · have zk := zk.trans (if_pos c_41)
      refine lv_iload_n hx hb dX5_bringsBy_66 rfl (lv_at hl 3 rfl) ?_
      refine lv_iconst (v := 2) hx hb dX5_bringsBy_67 (by decide) ?_
      refine lv_icmp_ne (tgt := 76) hx hb dX5_bringsBy_68 (by decide) (fun c_68 => ?_) (fun c_68 => ?_)
      · have zk := zk.trans (if_neg c_68)
        refine lv_iload_n hx hb dX5_bringsBy_76 rfl (lv_at hl 3 rfl) ?_
        refine lv_iconst (v := 3) hx hb dX5_bringsBy_77 (by decide) ?_
        refine lv_icmp_ne (tgt := 91) hx hb dX5_bringsBy_78 (by decide) (fun c_78 => ?_) (fun c_78 => ?_)
        · have zk := zk.trans (if_neg c_78)
          refine lv_aload_n hx hb dX5_bringsBy_91 rfl (lv_at hl 2 rfl) ?_
          refine lv_iconst (v := 1) hx hb dX5_bringsBy_92 (by decide) ?_
          refine x_calli hW (x_runV B hW (As := [.int 1]) (rest := []) (by decide) cM_o cls5 (c_X5_shared (D := D) (ad := ad) l _ S 1) (cwV 1 B.1.2.2.2.2 gX5_bringsBy_X5_shared rfl rfl rfl hd_X5_shared ⟨Nat.le_of_ble_eq_true rfl, Nat.le_of_ble_eq_true rfl⟩) rfl hls (Nat.le_of_ble_eq_true rfl) dX5_bringsBy_93 ⟨Nat.zero_le _, Nat.zero_le _⟩) (fun r_93 S_93 H locs he hW => ?_)
          obtain ⟨hr_93, hs⟩ := he
          rw [hs] at hW
          have zk := nm_at zk hr_93
          exact x_iret B hW zk.symm dX5_bringsBy_96
        · have zk := zk.trans (if_pos c_78)
          refine lv_aload_n hx hb dX5_bringsBy_81 rfl (lv_at hl 2 rfl) ?_
          refine x_get B hW (by decide) cM_o cls5 hin_X5 1 (by decide) (v := .ref (ad 2)) rfl k_13 dX5_bringsBy_82 ?_
          refine x_calli hW (x_runS B hW (As := [.ref (ad 2)]) (rest := []) (c_X5_among (D := D) (ad := ad) l _ S 2 (Or.inr rfl)) (va_cwS 1 B.1.2.2.2.2 gX5_bringsBy_X5_among rfl rfl rfl hd_X5_among.2 ⟨Nat.le_of_ble_eq_true rfl, Nat.le_of_ble_eq_true rfl⟩) rfl hls (Nat.le_of_ble_eq_true rfl) dX5_bringsBy_85 ⟨Nat.zero_le _, Nat.zero_le _⟩) (fun r_85 S_85 H locs he hW => ?_)
          obtain ⟨hr_85, hs⟩ := he
          rw [hs] at hW
          have zk := nm_at zk hr_85
          refine lv_goto (tgt := 96) hx hb dX5_bringsBy_88 (by decide) ?_
          exact x_iret B hW zk.symm dX5_bringsBy_96
      · have zk := zk.trans (if_pos c_68)
        refine lv_iload hx hb dX5_bringsBy_71 (lv_at hl 1 rfl) ?_
        refine lv_goto (tgt := 96) hx hb dX5_bringsBy_73 (by decide) ?_
        exact x_iret B hW zk.symm dX5_bringsBy_96
    · have zk := zk.trans (if_neg c_41)
      have hb_c_41 : n5 < 8 := nI_of_nle (by decide) c_41 (by omega)
      refine lv_iload hx hb dX5_bringsBy_44 (lv_at hl 1 rfl) ?_
      refine lv_aload_n hx hb dX5_bringsBy_46 rfl (lv_at hl 2 rfl) ?_
      refine x_get B hW (by decide) cM_o cls5 hin_X5 1 (by decide) (v := .ref (ad 2)) rfl k_13 dX5_bringsBy_47 ?_
      refine lv_iload hx hb dX5_bringsBy_50 (lv_at hl 0 rfl) ?_
      refine lv_bipush (v := 10) hx hb dX5_bringsBy_52 (by decide) ?_
      refine x_calli hW (x_runS B hW (As := [.ref (ad 2), .int (nI n5), .int 10]) (rest := .int v4 :: []) (c_X5_of (D := D) (ad := ad) l _ S 2 (nI n5) 10 (Or.inr rfl) (isN_vin (isN_nI hb_c_41 (by decide)) (by decide) (by decide)) (isN_vin (isN_lit 10 (by decide)) (by decide) (by decide))) (va_cwS 3 B.1.2.2.2.2 gX5_bringsBy_X5_of rfl rfl rfl hd_X5_of.2 ⟨Nat.le_of_ble_eq_true rfl, Nat.le_of_ble_eq_true rfl⟩) rfl hls (Nat.le_of_ble_eq_true rfl) dX5_bringsBy_54 ⟨Nat.zero_le _, Nat.zero_le _⟩) (fun r_54 S_54 H locs he hW => ?_)
      obtain ⟨hr_54, hs⟩ := he
      rw [hs] at hW
      have zk := nm_at zk hr_54
      refine lv_iadd hx hb dX5_bringsBy_57 ?_
      refine lv_topi (fun x_58 ex_58 => ?_)
      have zk := nm_at zk ex_58
      refine lv_istore (lv' := [(4, .int x_58), (5, .int (nI n5)), (0, .ref (ad 0)), (2, .int p2)]) hx hb dX5_bringsBy_58 hl (by decide) rfl (fun ls hl => ?_)
      have hls := hl.1
      refine lv_iinc (v := (nI (n5 + 1))) (lv' := [(5, .int (nI (n5 + 1))), (4, .int x_58), (0, .ref (ad 0)), (2, .int p2)]) hx hb dX5_bringsBy_60 hl (k := 1) rfl (nI_1 _) (by decide) rfl (fun ls hl => ?_)
      have hls := hl.1
      refine lv_goto (tgt := 37) hx hb dX5_bringsBy_63 (by decide) ?_
      exact ih ((n5 + 1)) (x_58) S _ _ _ (show (n5 + 1) ≤ 8 by omega) (show (n5 + 1) + n = 9 by omega) hW (lv_sub hl [0, 1, 2, 3] rfl) hls zk
set_option maxHeartbeats 4000000 in
set_option maxRecDepth 100000 in
theorem c_X5_bringsBy {D : va_G} {ad : Nat → Nat} (l : Launch) (sz : Nat) (S : vS) (p1 : Int32) (p2 : Int32) (hch : chairOK (S 1 2)) (hs6 : ¬ (S 1 6) = 0) : Met l yX5_bringsBy wsX5_bringsBy (rmD 6) (pW D 7 (cM D ad) ad sz S [.ref (ad 0), .int p1, .int p2]) (va_Qi (fun (r : Int32) (S1 : vS) => (r, S1) = (x_X5_bringsBy S p1 p2)) (bW D 7 (cM D ad) ad (aW 7 ad sz)) (aW 7 ad sz)) 0 0 (aW 7 ad sz) := by
  refine x_met (own := RX5) (cc := cX5_bringsBy) (maxL := 6) (ret := (some .int)) (Qc := fun A => va_Qi (fun (r : Int32) (S1 : vS) => (r, S1) = (x_X5_bringsBy S p1 p2)) (bW D 7 (cM D ad) ad A) A) rfl ⟨by decide +kernel, rfl, Nat.le_of_ble_eq_true rfl⟩ ?_
  intro p e s mm args below meth c A ls B hW hl hls
  have hx := B.1.1
  have hb := B.1.2.1
  have hin_X5 : ∀ w ∈ wsX50, w ∈ wsX5_bringsBy := fun w h => List.mem_cons_of_mem _ (List.mem_append_right _ h)
  have k_13 := B.1.2.2.2.2 (.fieldLink RX5 13 "JointLoansModel" "then" "[I") (by decide +kernel)
  have zk := x_X5_bringsBy.eq_1 S p1 p2
  have hl : lv_has ls 6 [(0, .ref (ad 0)), (1, .int p1), (2, .int p2)] := hl
  refine lv_aload_n hx hb dX5_bringsBy_0 rfl (lv_at hl 0 rfl) ?_
  refine x_callv hW (x_runV B hW (As := []) (rest := []) (by decide) cM_o cls5 (c_X5_tries (D := D) (ad := ad) l _ S) (cwV 0 B.1.2.2.2.2 gX5_bringsBy_X5_tries rfl rfl rfl hd_X5_tries ⟨Nat.le_of_ble_eq_true rfl, Nat.le_of_ble_eq_true rfl⟩) rfl hls (Nat.le_of_ble_eq_true rfl) dX5_bringsBy_1 ⟨Nat.zero_le _, Nat.zero_le _⟩) (fun S_1 H locs he hW => ?_)
  have he_1 := he
  have zk := nm_at zk he_1
  have hf_S_1_1_2_chairOK : chairOK (S_1 1 2) := by rw [he_1, (fr_tries (by decide))]; exact hch
  have hf_S_1_1_6_0 : ¬ (S_1 1 6) = 0 := by rw [he_1, (fr_tries (by decide))]; exact hs6
  have hg_S_1_2_2_chairOK : chairOK (S_1 2 2) := by rw [he_1]; exact (by rw [tries_row (by decide)]; exact hch)
  have hg_S_1_2_6_0 : ¬ (S_1 2 6) = 0 := by rw [he_1]; exact (by rw [tries_row (by decide)]; exact hs6)
  refine lv_aload_n hx hb dX5_bringsBy_4 rfl (lv_at hl 0 rfl) ?_
  refine lv_iload_n hx hb dX5_bringsBy_5 rfl (lv_at hl 1 rfl) ?_
  refine x_calli hW (x_runV B hW (As := [.int p1]) (rest := []) (by decide) cM_o cls5 (c_X5_endsWith (D := D) (ad := ad) l _ S_1 p1 hg_S_1_2_2_chairOK hg_S_1_2_6_0) (cwV 1 B.1.2.2.2.2 gX5_bringsBy_X5_endsWith rfl rfl rfl hd_X5_endsWith ⟨Nat.le_of_ble_eq_true rfl, Nat.le_of_ble_eq_true rfl⟩) rfl hls (Nat.le_of_ble_eq_true rfl) dX5_bringsBy_6 ⟨Nat.zero_le _, Nat.zero_le _⟩) (fun r_6 S_6 H locs he hW => ?_)
  have hr_6 := he
  have zk := nmp_at zk hr_6
  have he_6 : S_6 = (x_X5_endsWith S_1 p1).2 := by rw [← hr_6]
  have hf_S_6_1_2_chairOK : chairOK (S_6 1 2) := by rw [he_6, (ep_endsWith.1 _ _ (by decide) (by decide) (by decide))]; exact hf_S_1_1_2_chairOK
  have hf_S_6_1_6_0 : ¬ (S_6 1 6) = 0 := by rw [he_6, (ep_endsWith.1 _ _ (by decide) (by decide) (by decide))]; exact hf_S_1_1_6_0
  have hf_S_6_2_6_0 : ¬ (S_6 2 6) = 0 := by rw [he_6, (ep_endsWith.1 _ _ (fun _ => by decide) (by decide) (by decide))]; exact hg_S_1_2_6_0
  have hg_S_6_2_2_chairOK : chairOK (S_6 2 2) := by rw [he_6]; exact (ep_endsWith.2 hg_S_1_2_2_chairOK)
  refine lv_istore_n (lv' := [(3, .int r_6), (0, .ref (ad 0)), (1, .int p1), (2, .int p2)]) hx hb dX5_bringsBy_9 rfl hl (by decide) rfl (fun ls hl => ?_)
  have hls := hl.1
  refine lv_iload_n hx hb dX5_bringsBy_10 rfl (lv_at hl 3 rfl) ?_
  refine lv_iconst (v := 2) hx hb dX5_bringsBy_11 (by decide) ?_
  refine lv_icmp_ge (tgt := 31) hx hb dX5_bringsBy_12 (by decide) (fun c_12 => ?_) (fun c_12 => ?_)
  · have zk := zk.trans (if_pos c_12)
    refine lv_iconst (v := 0) hx hb dX5_bringsBy_31 (by decide) ?_
    refine lv_istore (lv' := [(4, .int 0), (3, .int r_6), (0, .ref (ad 0)), (1, .int p1), (2, .int p2)]) hx hb dX5_bringsBy_32 hl (by decide) rfl (fun ls hl => ?_)
    have hls := hl.1
    refine lv_iconst (v := 0) hx hb dX5_bringsBy_34 (by decide) ?_
    refine lv_istore (lv' := [(5, .int 0), (4, .int 0), (3, .int r_6), (0, .ref (ad 0)), (1, .int p1), (2, .int p2)]) hx hb dX5_bringsBy_35 hl (by decide) rfl (fun ls hl => ?_)
    have hls := hl.1
    exact w_X5_bringsBy_L37 l B  _ p1 p2 (9) (0) (0) S_6 _ _ _ (show 0 ≤ 8 by omega) (show 0 + (9) = 9 by omega) hW (lv_sub hl [0, 1, 3, 5] rfl) hls zk
  · have zk := zk.trans (if_neg c_12)
    refine lv_iload_n hx hb dX5_bringsBy_15 rfl (lv_at hl 3 rfl) ?_
    refine lv_if_ne (tgt := 23) hx hb dX5_bringsBy_16 (by decide) (fun c_16 => ?_) (fun c_16 => ?_)
    · have zk := zk.trans (if_neg c_16)
      refine lv_aload_n hx hb dX5_bringsBy_23 rfl (lv_at hl 1 rfl) ?_
      refine x_get B hW (by decide) cM_o cls5 hin_X5 1 (by decide) (v := .ref (ad 2)) rfl k_13 dX5_bringsBy_24 ?_
      refine lv_bipush (v := 8) hx hb dX5_bringsBy_27 (by decide) ?_
      refine x_iald B hW (by decide) cM_2 (isN_lit 8 (by decide)) (by decide) (by decide) dX5_bringsBy_29 ?_
      exact x_iret B hW zk.symm dX5_bringsBy_30
    · have zk := zk.trans (if_pos c_16)
      refine lv_iload_n hx hb dX5_bringsBy_19 rfl (lv_at hl 0 rfl) ?_
      refine lv_goto (tgt := 30) hx hb dX5_bringsBy_20 (by decide) ?_
      exact x_iret B hW zk.symm dX5_bringsBy_30
def LF (S S' : vS) : Prop := ∀ q0 j0, q0 ≠ 2 → q0 ≠ 6 → (q0 = 0 → j0 ≠ 13) → S' q0 j0 = S q0 j0
theorem LF.rf {S : vS} : LF S S := fun _ _ _ _ _ => rfl
theorem LF.tr {S S1 S2 : vS} (h : LF S S1) (h2 : LF S1 S2) : LF S S2 := fun q0 j0 a b c => (h2 q0 j0 a b c).trans (h q0 j0 a b c)
theorem LF.tries {S S1 : vS} (h : LF S S1) : LF S (x_X5_tries S1) := h.tr fun _ _ a _ _ => fr_tries a
theorem LF.ew {S S1 : vS} {a : Int32} (h : LF S S1) : LF S (x_X5_endsWith S1 a).2 := h.tr fun q0 j0 a b c => ep_endsWith.1 q0 j0 (fun z => absurd z a) b c
theorem lf_bringsBy {S S1 : vS} {a b : Int32} (h : LF S S1) : LF S (x_X5_bringsBy S1 a b).2 := by
  have e := h.tries.ew (a := a)
  have hL : ∀ (n : Nat) (S2 : vS) (k : Nat) (v4 v3 : Int32), LF S S2 → LF S (x_X5_bringsBy_L37 n S2 a b k v4).2 := by
    intro n
    induction n with
    | zero => intro S2 k v4 v3 h; exact h
    | succ n ih =>
      intro S2 k v4 v3 h
      rw [x_X5_bringsBy_L37]
      simp only [nm_eq, nmp_eq]
      repeat' split
      all_goals first | exact h | exact ih _ _ _ 0 h
  unfold x_X5_bringsBy
  simp only [nm_eq, nmp_eq]
  repeat' split
  all_goals first | (with_reducible exact e) | (with_reducible exact hL _ _ _ _ 0 e)

def x_X5_ifAbsent (S : vS) (p1 : Int32) (p2 : Int32) : (Int32 × vS) := nm (st S 0 6 0) (fun S_2 => nm (x_X5_in S_2 p1 0 255) (fun r_10 => if r_10 = 0 then nmp (x_X5_fails S_2 1) (fun r_36 S_36 => (r_36, S_36)) else nm (x_X5_in S_2 p2 0 4) (fun r_19 => if r_19 = 0 then nmp (x_X5_fails S_2 1) (fun r_36 S_36 => (r_36, S_36)) else nmp (x_X5_bringsBy S_2 p1 p2) (fun r_28 S_28 => (r_28, S_28)))))
theorem hd_X5_ifAbsent : yX5_ifAbsent.cls = RX5 ∧ yX5_ifAbsent.cls ≠ "java/lang/invoke/MethodHandle" ∧ yX5_ifAbsent.cls ≠ "java/lang/invoke/VarHandle" ∧ (parseMethodDescriptor yX5_ifAbsent.desc).map (fun d => d.parameters.length) = some 2 := by decide +kernel
set_option maxHeartbeats 4000000 in
set_option maxRecDepth 100000 in
theorem c_X5_ifAbsent {D : va_G} {ad : Nat → Nat} (l : Launch) (sz : Nat) (S : vS) (p1 : Int32) (p2 : Int32) (hch : chairOK (S 1 2)) (hs6 : ¬ (S 1 6) = 0) : Met l yX5_ifAbsent wsX5_ifAbsent (rmD 7) (pW D 7 (cM D ad) ad sz S [.ref (ad 0), .int p1, .int p2]) (va_Qi (fun (r : Int32) (S1 : vS) => (r, S1) = (x_X5_ifAbsent S p1 p2)) (bW D 7 (cM D ad) ad (aW 7 ad sz)) (aW 7 ad sz)) 0 0 (aW 7 ad sz) := by
  refine x_met (own := RX5) (cc := cX5_ifAbsent) (maxL := 3) (ret := (some .int)) (Qc := fun A => va_Qi (fun (r : Int32) (S1 : vS) => (r, S1) = (x_X5_ifAbsent S p1 p2)) (bW D 7 (cM D ad) ad A) A) rfl ⟨by decide +kernel, rfl, Nat.le_of_ble_eq_true rfl⟩ ?_
  intro p e s mm args below meth c A ls B hW hl hls
  have hx := B.1.1
  have hb := B.1.2.1
  have hin_X5 : ∀ w ∈ wsX50, w ∈ wsX5_ifAbsent := fun w h => List.mem_cons_of_mem _ (List.mem_append_right _ h)
  have k_28 := B.1.2.2.2.2 (.fieldLink RX5 28 "JointLoansModel" "thrown" "I") (by decide +kernel)
  have zk := x_X5_ifAbsent.eq_1 S p1 p2
  have hl : lv_has ls 3 [(0, .ref (ad 0)), (1, .int p1), (2, .int p2)] := hl
  refine lv_aload_n hx hb dX5_ifAbsent_0 rfl (lv_at hl 0 rfl) ?_
  refine lv_iconst (v := 0) hx hb dX5_ifAbsent_1 (by decide) ?_
  refine x_put B hW (by decide) cls5 hin_X5 6 (by decide) cM_o rfl (ty := .int) (by decide +kernel) rfl rfl (Nat.le_of_ble_eq_true rfl) (j := 6) pO_6 k_28 dX5_ifAbsent_2 (fun H locs S_2 he_2 hW => ?_)
  have zk := nm_at zk he_2
  have hf_S_2_1_2_chairOK : chairOK (S_2 1 2) := by rw [he_2, st_at, if_neg (by rintro ⟨h1, h2⟩; omega)]; exact hch
  have hf_S_2_1_6_0 : ¬ (S_2 1 6) = 0 := by rw [he_2, st_at, if_neg (by rintro ⟨h1, h2⟩; omega)]; exact hs6
  have hf_S_2_0_6_1 : vp_in (S_2 0 6) 1 := by rw [he_2, st_at, if_pos ⟨rfl, rfl⟩]; exact isN_vin (isN_lit 0 (by decide)) (by decide) (by decide)
  refine lv_iload_n hx hb dX5_ifAbsent_5 rfl (lv_at hl 1 rfl) ?_
  refine lv_iconst (v := 0) hx hb dX5_ifAbsent_6 (by decide) ?_
  refine lv_sipush (v := 255) hx hb dX5_ifAbsent_7 (by decide) ?_
  refine x_calli hW (x_runS B hW (As := [.int p1, .int 0, .int 255]) (rest := []) (c_X5_in (D := D) (ad := ad) l _ S_2 p1 0 255) (va_cwS 3 B.1.2.2.2.2 gX5_ifAbsent_X5_in rfl rfl rfl hd_X5_in.2 ⟨Nat.le_of_ble_eq_true rfl, Nat.le_of_ble_eq_true rfl⟩) rfl hls (Nat.le_of_ble_eq_true rfl) dX5_ifAbsent_10 ⟨Nat.zero_le _, Nat.zero_le _⟩) (fun r_10 S_10 H locs he hW => ?_)
  obtain ⟨hr_10, hs, hz_10⟩ := he
  rw [hs] at hW
  have zk := nm_at zk hr_10
  refine lv_if_eq (tgt := 34) hx hb dX5_ifAbsent_13 (by decide) (fun c_13 => ?_) (fun c_13 => ?_)
  · have zk := zk.trans (if_pos c_13)
    refine lv_aload_n hx hb dX5_ifAbsent_34 rfl (lv_at hl 0 rfl) ?_
    refine lv_iconst (v := 1) hx hb dX5_ifAbsent_35 (by decide) ?_
    refine x_calli hW (x_runV B hW (As := [.int 1]) (rest := []) (by decide) cM_o cls5 (c_X5_fails (D := D) (ad := ad) l _ S_2 1) (cwV 1 B.1.2.2.2.2 gX5_ifAbsent_X5_fails rfl rfl rfl hd_X5_fails ⟨Nat.le_of_ble_eq_true rfl, Nat.le_of_ble_eq_true rfl⟩) rfl hls (Nat.le_of_ble_eq_true rfl) dX5_ifAbsent_36 ⟨Nat.zero_le _, Nat.zero_le _⟩) (fun r_36 S_36 H locs he hW => ?_)
    have hr_36 := he
    have zk := nmp_at zk hr_36
    have he_36 : S_36 = (x_X5_fails S_2 1).2 := by rw [← hr_36]
    exact x_iret B hW zk.symm dX5_ifAbsent_39
  · have zk := zk.trans (if_neg c_13)
    refine lv_iload_n hx hb dX5_ifAbsent_16 rfl (lv_at hl 2 rfl) ?_
    refine lv_iconst (v := 0) hx hb dX5_ifAbsent_17 (by decide) ?_
    refine lv_iconst (v := 4) hx hb dX5_ifAbsent_18 (by decide) ?_
    refine x_calli hW (x_runS B hW (As := [.int p2, .int 0, .int 4]) (rest := []) (c_X5_in (D := D) (ad := ad) l _ S_2 p2 0 4) (va_cwS 3 B.1.2.2.2.2 gX5_ifAbsent_X5_in rfl rfl rfl hd_X5_in.2 ⟨Nat.le_of_ble_eq_true rfl, Nat.le_of_ble_eq_true rfl⟩) rfl hls (Nat.le_of_ble_eq_true rfl) dX5_ifAbsent_19 ⟨Nat.zero_le _, Nat.zero_le _⟩) (fun r_19 S_19 H locs he hW => ?_)
    obtain ⟨hr_19, hs, hz_19⟩ := he
    rw [hs] at hW
    have zk := nm_at zk hr_19
    refine lv_if_eq (tgt := 34) hx hb dX5_ifAbsent_22 (by decide) (fun c_22 => ?_) (fun c_22 => ?_)
    · have zk := zk.trans (if_pos c_22)
      refine lv_aload_n hx hb dX5_ifAbsent_34 rfl (lv_at hl 0 rfl) ?_
      refine lv_iconst (v := 1) hx hb dX5_ifAbsent_35 (by decide) ?_
      refine x_calli hW (x_runV B hW (As := [.int 1]) (rest := []) (by decide) cM_o cls5 (c_X5_fails (D := D) (ad := ad) l _ S_2 1) (cwV 1 B.1.2.2.2.2 gX5_ifAbsent_X5_fails rfl rfl rfl hd_X5_fails ⟨Nat.le_of_ble_eq_true rfl, Nat.le_of_ble_eq_true rfl⟩) rfl hls (Nat.le_of_ble_eq_true rfl) dX5_ifAbsent_36 ⟨Nat.zero_le _, Nat.zero_le _⟩) (fun r_36 S_36 H locs he hW => ?_)
      have hr_36 := he
      have zk := nmp_at zk hr_36
      have he_36 : S_36 = (x_X5_fails S_2 1).2 := by rw [← hr_36]
      exact x_iret B hW zk.symm dX5_ifAbsent_39
    · have zk := zk.trans (if_neg c_22)
      refine lv_aload_n hx hb dX5_ifAbsent_25 rfl (lv_at hl 0 rfl) ?_
      refine lv_iload_n hx hb dX5_ifAbsent_26 rfl (lv_at hl 1 rfl) ?_
      refine lv_iload_n hx hb dX5_ifAbsent_27 rfl (lv_at hl 2 rfl) ?_
      refine x_calli hW (x_runV B hW (As := [.int p1, .int p2]) (rest := []) (by decide) cM_o cls5 (c_X5_bringsBy (D := D) (ad := ad) l _ S_2 p1 p2 hf_S_2_1_2_chairOK hf_S_2_1_6_0) (cwV 2 B.1.2.2.2.2 gX5_ifAbsent_X5_bringsBy rfl rfl rfl hd_X5_bringsBy ⟨Nat.le_of_ble_eq_true rfl, Nat.le_of_ble_eq_true rfl⟩) rfl hls (Nat.le_of_ble_eq_true rfl) dX5_ifAbsent_28 ⟨Nat.zero_le _, Nat.zero_le _⟩) (fun r_28 S_28 H locs he hW => ?_)
      have hr_28 := he
      have zk := nmp_at zk hr_28
      have he_28 : S_28 = (x_X5_bringsBy S_2 p1 p2).2 := by rw [← hr_28]
      have hf_S_28_1_2_chairOK : chairOK (S_28 1 2) := by rw [he_28, (lf_bringsBy LF.rf _ _ (by decide) (by decide) (by decide))]; exact hf_S_2_1_2_chairOK
      have hf_S_28_1_6_0 : ¬ (S_28 1 6) = 0 := by rw [he_28, (lf_bringsBy LF.rf _ _ (by decide) (by decide) (by decide))]; exact hf_S_2_1_6_0
      have hf_S_28_0_6_1 : vp_in (S_28 0 6) 1 := by rw [he_28, (lf_bringsBy LF.rf _ _ (by decide) (by decide) (by decide))]; exact hf_S_2_0_6_1
      refine lv_goto (tgt := 39) hx hb dX5_ifAbsent_31 (by decide) ?_
      exact x_iret B hW zk.symm dX5_ifAbsent_39

def x_X5_lasts_L6 : Nat → vS → Int32 → Nat → (Int32 × vS)
  | 0, S, _, _ => (0, S)
  | n + 1, S, p1, n2 => if 100 < (nI n2) then ((-1), S) else nmp (x_X5_endsWith S (1 <<< (p1 &&& 31))) (fun r_16 S_16 => if (bz (S_16 0 13)) = 0 then nm (x_X5_shared S_16 0) (fun r_29 => if r_29 ≤ 0 then x_X5_lasts_L6 n S_16 p1 ((n2 + 1)) else ((nI n2), S_16)) else ((nI n2), S_16))
def x_X5_lasts (S : vS) (p1 : Int32) : (Int32 × vS) := nm (x_X5_tries S) (fun S_1 => x_X5_lasts_L6 (102) S_1 p1 (0))
theorem hd_X5_lasts : yX5_lasts.cls = RX5 ∧ yX5_lasts.cls ≠ "java/lang/invoke/MethodHandle" ∧ yX5_lasts.cls ≠ "java/lang/invoke/VarHandle" ∧ (parseMethodDescriptor yX5_lasts.desc).map (fun d => d.parameters.length) = some 1 := by decide +kernel
set_option maxHeartbeats 4000000 in
set_option maxRecDepth 100000 in
theorem w_X5_lasts_L6 {D : va_G} {ad : Nat → Nat} (l : Launch) {p : Program} {e : Env} {s : State} {mm : MethodId} {args : Array Value} {below : List Frame} {meth : Method} {c : Code} {A : Nat → Prop} (B : Cx p mm c cX5_lasts 3 s args wsX5_lasts RX5 meth (some .int) D) (z : (Int32 × vS)) (p1 : Int32) : ∀ (n : Nat) (n2 : Nat) (S : vS) (H : Heap) (locs : List Loc) (ls : Array Slot), n2 ≤ 101 → n2 + n = 102 → chairOK (S 2 2) → ¬ (S 2 6) = 0 → Wd D 7 (cM D ad) ad A s.heap S H locs → lv_has ls 3 [(2, .int (nI n2)), (0, .ref (ad 0)), (1, .int p1)] → ls.size = 3 → z = x_X5_lasts_L6 n S p1 n2 → W p l e (rmD 6) s mm args below meth c H locs 0 0 (MQ below (va_Qi (fun (r : Int32) (S1 : vS) => (r, S1) = z) (bW D 7 (cM D ad) ad A) A) args s 0 0 A) (F0 mm 6 ls []) := by
  have hx := B.1.1
  have hb := B.1.2.1
  have hin_X5 : ∀ w ∈ wsX50, w ∈ wsX5_lasts := fun w h => List.mem_cons_of_mem _ (List.mem_append_right _ h)
  have k_68 := B.1.2.2.2.2 (.fieldLink RX5 68 "JointLoansModel" "isUnpaid" "Z") (by decide +kernel)
  intro n
  induction n with
  | zero =>
    intro n2 S H locs ls hle hsum hch hs6
    omega
  | succ n ih =>
    intro n2 S H locs ls hle hsum hch hs6 hW hl hls zk
    have zk := zk.trans (x_X5_lasts_L6.eq_2 _ _ _ _ )
    refine lv_iload_n hx hb dX5_lasts_6 rfl (lv_at hl 0 rfl) ?_
    refine lv_bipush (v := 100) hx hb dX5_lasts_7 (by decide) ?_
    refine lv_icmp_gt (tgt := 43) hx hb dX5_lasts_9 (by decide) (fun c_9 => ?_) (fun c_9 => ?_)
    · have zk := zk.trans (if_pos c_9)
      refine lv_iconst (v := (-1)) hx hb dX5_lasts_43 (by decide) ?_
      exact x_iret B hW zk.symm dX5_lasts_44
    · have zk := zk.trans (if_neg c_9)
      have hb_c_9 : n2 < 101 := nI_of_nlt (by decide) c_9 (by omega)
      refine lv_aload_n hx hb dX5_lasts_12 rfl (lv_at hl 1 rfl) ?_
      refine lv_iconst (v := 1) hx hb dX5_lasts_13 (by decide) ?_
      refine lv_iload_n hx hb dX5_lasts_14 rfl (lv_at hl 2 rfl) ?_
      refine lv_ishl hx hb dX5_lasts_15 ?_
      refine x_calli hW (x_runV B hW (As := [.int (1 <<< (p1 &&& 31))]) (rest := []) (by decide) cM_o cls5 (c_X5_endsWith (D := D) (ad := ad) l _ S (1 <<< (p1 &&& 31)) hch hs6) (cwV 1 B.1.2.2.2.2 gX5_lasts_X5_endsWith rfl rfl rfl hd_X5_endsWith ⟨Nat.le_of_ble_eq_true rfl, Nat.le_of_ble_eq_true rfl⟩) rfl hls (Nat.le_of_ble_eq_true rfl) dX5_lasts_16 ⟨Nat.zero_le _, Nat.zero_le _⟩) (fun r_16 S_16 H locs he hW => ?_)
      have hr_16 := he
      have zk := nmp_at zk hr_16
      have he_16 : S_16 = (x_X5_endsWith S (1 <<< (p1 &&& 31))).2 := by rw [← hr_16]
      have hf_S_16_2_6_0 : ¬ (S_16 2 6) = 0 := by rw [he_16, (ep_endsWith.1 _ _ (fun _ => by decide) (by decide) (by decide))]; exact hs6
      have hg_S_16_2_2_chairOK : chairOK (S_16 2 2) := by rw [he_16]; exact (ep_endsWith.2 hch)
      refine lv_pop hx hb dX5_lasts_19 rfl ?_
      refine lv_aload_n hx hb dX5_lasts_20 rfl (lv_at hl 1 rfl) ?_
      refine x_get B hW (by decide) cM_o cls5 hin_X5 13 (by decide) (v := .int (bz (S_16 0 13))) rfl k_68 dX5_lasts_21 ?_
      refine lv_if_ne (tgt := 35) hx hb dX5_lasts_24 (by decide) (fun c_24 => ?_) (fun c_24 => ?_)
      · have zk := zk.trans (if_neg c_24)
        refine lv_iload_n hx hb dX5_lasts_35 rfl (lv_at hl 0 rfl) ?_
        exact x_iret B hW zk.symm dX5_lasts_36
      · have zk := zk.trans (if_pos c_24)
        refine lv_aload_n hx hb dX5_lasts_27 rfl (lv_at hl 1 rfl) ?_
        refine lv_iconst (v := 0) hx hb dX5_lasts_28 (by decide) ?_
        refine x_calli hW (x_runV B hW (As := [.int 0]) (rest := []) (by decide) cM_o cls5 (c_X5_shared (D := D) (ad := ad) l _ S_16 0) (cwV 1 B.1.2.2.2.2 gX5_lasts_X5_shared rfl rfl rfl hd_X5_shared ⟨Nat.le_of_ble_eq_true rfl, Nat.le_of_ble_eq_true rfl⟩) rfl hls (Nat.le_of_ble_eq_true rfl) dX5_lasts_29 ⟨Nat.zero_le _, Nat.zero_le _⟩) (fun r_29 S_29 H locs he hW => ?_)
        obtain ⟨hr_29, hs⟩ := he
        rw [hs] at hW
        have zk := nm_at zk hr_29
        refine lv_if_le (tgt := 37) hx hb dX5_lasts_32 (by decide) (fun c_32 => ?_) (fun c_32 => ?_)
        · have zk := zk.trans (if_pos c_32)
          refine lv_iinc (v := (nI (n2 + 1))) (lv' := [(2, .int (nI (n2 + 1))), (0, .ref (ad 0)), (1, .int p1)]) hx hb dX5_lasts_37 hl (k := 0) rfl (nI_1 _) (by decide) rfl (fun ls hl => ?_)
          have hls := hl.1
          refine lv_goto (tgt := 6) hx hb dX5_lasts_40 (by decide) ?_
          exact ih ((n2 + 1)) S_16 _ _ _ (show (n2 + 1) ≤ 101 by omega) (show (n2 + 1) + n = 102 by omega) hg_S_16_2_2_chairOK hf_S_16_2_6_0 hW (lv_sub hl [0, 1, 2] rfl) hls zk
        · have zk := zk.trans (if_neg c_32)
          refine lv_iload_n hx hb dX5_lasts_35 rfl (lv_at hl 0 rfl) ?_
          exact x_iret B hW zk.symm dX5_lasts_36
set_option maxHeartbeats 4000000 in
set_option maxRecDepth 100000 in
theorem c_X5_lasts {D : va_G} {ad : Nat → Nat} (l : Launch) (sz : Nat) (S : vS) (p1 : Int32) (hch : chairOK (S 1 2)) (hs6 : ¬ (S 1 6) = 0) : Met l yX5_lasts wsX5_lasts (rmD 6) (pW D 7 (cM D ad) ad sz S [.ref (ad 0), .int p1]) (va_Qi (fun (r : Int32) (S1 : vS) => (r, S1) = (x_X5_lasts S p1)) (bW D 7 (cM D ad) ad (aW 7 ad sz)) (aW 7 ad sz)) 0 0 (aW 7 ad sz) := by
  refine x_met (own := RX5) (cc := cX5_lasts) (maxL := 3) (ret := (some .int)) (Qc := fun A => va_Qi (fun (r : Int32) (S1 : vS) => (r, S1) = (x_X5_lasts S p1)) (bW D 7 (cM D ad) ad A) A) rfl ⟨by decide +kernel, rfl, Nat.le_of_ble_eq_true rfl⟩ ?_
  intro p e s mm args below meth c A ls B hW hl hls
  have hx := B.1.1
  have hb := B.1.2.1
  have hin_X5 : ∀ w ∈ wsX50, w ∈ wsX5_lasts := fun w h => List.mem_cons_of_mem _ (List.mem_append_right _ h)
  have k_68 := B.1.2.2.2.2 (.fieldLink RX5 68 "JointLoansModel" "isUnpaid" "Z") (by decide +kernel)
  have zk := x_X5_lasts.eq_1 S p1
  have hl : lv_has ls 3 [(0, .ref (ad 0)), (1, .int p1)] := hl
  refine lv_aload_n hx hb dX5_lasts_0 rfl (lv_at hl 0 rfl) ?_
  refine x_callv hW (x_runV B hW (As := []) (rest := []) (by decide) cM_o cls5 (c_X5_tries (D := D) (ad := ad) l _ S) (cwV 0 B.1.2.2.2.2 gX5_lasts_X5_tries rfl rfl rfl hd_X5_tries ⟨Nat.le_of_ble_eq_true rfl, Nat.le_of_ble_eq_true rfl⟩) rfl hls (Nat.le_of_ble_eq_true rfl) dX5_lasts_1 ⟨Nat.zero_le _, Nat.zero_le _⟩) (fun S_1 H locs he hW => ?_)
  have he_1 := he
  have zk := nm_at zk he_1
  have hf_S_1_1_2_chairOK : chairOK (S_1 1 2) := by rw [he_1, (fr_tries (by decide))]; exact hch
  have hf_S_1_1_6_0 : ¬ (S_1 1 6) = 0 := by rw [he_1, (fr_tries (by decide))]; exact hs6
  have hg_S_1_2_2_chairOK : chairOK (S_1 2 2) := by rw [he_1]; exact (by rw [tries_row (by decide)]; exact hch)
  have hg_S_1_2_6_0 : ¬ (S_1 2 6) = 0 := by rw [he_1]; exact (by rw [tries_row (by decide)]; exact hs6)
  refine lv_iconst (v := 0) hx hb dX5_lasts_4 (by decide) ?_
  refine lv_istore_n (lv' := [(2, .int 0), (0, .ref (ad 0)), (1, .int p1)]) hx hb dX5_lasts_5 rfl hl (by decide) rfl (fun ls hl => ?_)
  have hls := hl.1
  exact w_X5_lasts_L6 l B  _ p1 (102) (0) S_1 _ _ _ (show 0 ≤ 101 by omega) (show 0 + (102) = 102 by omega) hg_S_1_2_2_chairOK hg_S_1_2_6_0 hW (lv_sub hl [0, 1, 2] rfl) hls zk
theorem lf_lasts_L {p : Int32} : ∀ (n : Nat) (S S0 : vS) (k : Nat), LF S0 S → LF S0 (x_X5_lasts_L6 n S p k).2 := by
  intro n
  induction n with
  | zero => intro S S0 k h; exact h
  | succ n ih =>
    intro S S0 k h
    rw [x_X5_lasts_L6]
    simp only [nm_eq, nmp_eq]
    repeat' split
    all_goals first | (with_reducible exact h) | (with_reducible exact h.ew) | (with_reducible exact ih _ _ _ h.ew)
theorem lf_lasts {S S1 : vS} {a : Int32} (h : LF S S1) : LF S (x_X5_lasts S1 a).2 := by
  unfold x_X5_lasts
  simp only [nm_eq, nmp_eq]
  exact lf_lasts_L _ _ _ _ h.tries

def x_X5_fundLasts (S : vS) (p1 : Int32) : (Int32 × vS) := nm (st S 0 6 0) (fun S_2 => nm (x_X5_isMember S_2 p1) (fun r_7 => if r_7 = 0 then nmp (x_X5_fails S_2 1) (fun r_23 S_23 => (r_23, S_23)) else nmp (x_X5_lasts S_2 p1) (fun r_15 S_15 => (r_15, S_15))))
theorem hd_X5_fundLasts : yX5_fundLasts.cls = RX5 ∧ yX5_fundLasts.cls ≠ "java/lang/invoke/MethodHandle" ∧ yX5_fundLasts.cls ≠ "java/lang/invoke/VarHandle" ∧ (parseMethodDescriptor yX5_fundLasts.desc).map (fun d => d.parameters.length) = some 1 := by decide +kernel
set_option maxHeartbeats 4000000 in
set_option maxRecDepth 100000 in
theorem c_X5_fundLasts {D : va_G} {ad : Nat → Nat} (l : Launch) (sz : Nat) (S : vS) (p1 : Int32) (hch : chairOK (S 1 2)) (hs6 : ¬ (S 1 6) = 0) : Met l yX5_fundLasts wsX5_fundLasts (rmD 7) (pW D 7 (cM D ad) ad sz S [.ref (ad 0), .int p1]) (va_Qi (fun (r : Int32) (S1 : vS) => (r, S1) = (x_X5_fundLasts S p1)) (bW D 7 (cM D ad) ad (aW 7 ad sz)) (aW 7 ad sz)) 0 0 (aW 7 ad sz) := by
  refine x_met (own := RX5) (cc := cX5_fundLasts) (maxL := 2) (ret := (some .int)) (Qc := fun A => va_Qi (fun (r : Int32) (S1 : vS) => (r, S1) = (x_X5_fundLasts S p1)) (bW D 7 (cM D ad) ad A) A) rfl ⟨by decide +kernel, rfl, Nat.le_of_ble_eq_true rfl⟩ ?_
  intro p e s mm args below meth c A ls B hW hl hls
  have hx := B.1.1
  have hb := B.1.2.1
  have hin_X5 : ∀ w ∈ wsX50, w ∈ wsX5_fundLasts := fun w h => List.mem_cons_of_mem _ (List.mem_append_right _ h)
  have k_28 := B.1.2.2.2.2 (.fieldLink RX5 28 "JointLoansModel" "thrown" "I") (by decide +kernel)
  have zk := x_X5_fundLasts.eq_1 S p1
  have hl : lv_has ls 2 [(0, .ref (ad 0)), (1, .int p1)] := hl
  refine lv_aload_n hx hb dX5_fundLasts_0 rfl (lv_at hl 0 rfl) ?_
  refine lv_iconst (v := 0) hx hb dX5_fundLasts_1 (by decide) ?_
  refine x_put B hW (by decide) cls5 hin_X5 6 (by decide) cM_o rfl (ty := .int) (by decide +kernel) rfl rfl (Nat.le_of_ble_eq_true rfl) (j := 6) pO_6 k_28 dX5_fundLasts_2 (fun H locs S_2 he_2 hW => ?_)
  have zk := nm_at zk he_2
  have hf_S_2_1_2_chairOK : chairOK (S_2 1 2) := by rw [he_2, st_at, if_neg (by rintro ⟨h1, h2⟩; omega)]; exact hch
  have hf_S_2_1_6_0 : ¬ (S_2 1 6) = 0 := by rw [he_2, st_at, if_neg (by rintro ⟨h1, h2⟩; omega)]; exact hs6
  have hf_S_2_0_6_1 : vp_in (S_2 0 6) 1 := by rw [he_2, st_at, if_pos ⟨rfl, rfl⟩]; exact isN_vin (isN_lit 0 (by decide)) (by decide) (by decide)
  refine lv_aload_n hx hb dX5_fundLasts_5 rfl (lv_at hl 0 rfl) ?_
  refine lv_iload_n hx hb dX5_fundLasts_6 rfl (lv_at hl 1 rfl) ?_
  refine x_calli hW (x_runV B hW (As := [.int p1]) (rest := []) (by decide) cM_o cls5 (c_X5_isMember (D := D) (ad := ad) l _ S_2 p1) (cwV 1 B.1.2.2.2.2 gX5_fundLasts_X5_isMember rfl rfl rfl hd_X5_isMember ⟨Nat.le_of_ble_eq_true rfl, Nat.le_of_ble_eq_true rfl⟩) rfl hls (Nat.le_of_ble_eq_true rfl) dX5_fundLasts_7 ⟨Nat.zero_le _, Nat.zero_le _⟩) (fun r_7 S_7 H locs he hW => ?_)
  obtain ⟨hr_7, hs, hz_7⟩ := he
  rw [hs] at hW
  have zk := nm_at zk hr_7
  refine lv_if_eq (tgt := 21) hx hb dX5_fundLasts_10 (by decide) (fun c_10 => ?_) (fun c_10 => ?_)
  · have zk := zk.trans (if_pos c_10)
    refine lv_aload_n hx hb dX5_fundLasts_21 rfl (lv_at hl 0 rfl) ?_
    refine lv_iconst (v := 1) hx hb dX5_fundLasts_22 (by decide) ?_
    refine x_calli hW (x_runV B hW (As := [.int 1]) (rest := []) (by decide) cM_o cls5 (c_X5_fails (D := D) (ad := ad) l _ S_2 1) (cwV 1 B.1.2.2.2.2 gX5_fundLasts_X5_fails rfl rfl rfl hd_X5_fails ⟨Nat.le_of_ble_eq_true rfl, Nat.le_of_ble_eq_true rfl⟩) rfl hls (Nat.le_of_ble_eq_true rfl) dX5_fundLasts_23 ⟨Nat.zero_le _, Nat.zero_le _⟩) (fun r_23 S_23 H locs he hW => ?_)
    have hr_23 := he
    have zk := nmp_at zk hr_23
    have he_23 : S_23 = (x_X5_fails S_2 1).2 := by rw [← hr_23]
    exact x_iret B hW zk.symm dX5_fundLasts_26
  · have zk := zk.trans (if_neg c_10)
    refine lv_aload_n hx hb dX5_fundLasts_13 rfl (lv_at hl 0 rfl) ?_
    refine lv_iload_n hx hb dX5_fundLasts_14 rfl (lv_at hl 1 rfl) ?_
    refine x_calli hW (x_runV B hW (As := [.int p1]) (rest := []) (by decide) cM_o cls5 (c_X5_lasts (D := D) (ad := ad) l _ S_2 p1 hf_S_2_1_2_chairOK hf_S_2_1_6_0) (cwV 1 B.1.2.2.2.2 gX5_fundLasts_X5_lasts rfl rfl rfl hd_X5_lasts ⟨Nat.le_of_ble_eq_true rfl, Nat.le_of_ble_eq_true rfl⟩) rfl hls (Nat.le_of_ble_eq_true rfl) dX5_fundLasts_15 ⟨Nat.zero_le _, Nat.zero_le _⟩) (fun r_15 S_15 H locs he hW => ?_)
    have hr_15 := he
    have zk := nmp_at zk hr_15
    have he_15 : S_15 = (x_X5_lasts S_2 p1).2 := by rw [← hr_15]
    have hf_S_15_1_2_chairOK : chairOK (S_15 1 2) := by rw [he_15, (lf_lasts LF.rf _ _ (by decide) (by decide) (by decide))]; exact hf_S_2_1_2_chairOK
    have hf_S_15_1_6_0 : ¬ (S_15 1 6) = 0 := by rw [he_15, (lf_lasts LF.rf _ _ (by decide) (by decide) (by decide))]; exact hf_S_2_1_6_0
    have hf_S_15_0_6_1 : vp_in (S_15 0 6) 1 := by rw [he_15, (lf_lasts LF.rf _ _ (by decide) (by decide) (by decide))]; exact hf_S_2_0_6_1
    refine lv_goto (tgt := 26) hx hb dX5_fundLasts_18 (by decide) ?_
    exact x_iret B hW zk.symm dX5_fundLasts_26

def x_X5_weakestOf_L6 : Nat → vS → Nat → Int32 → Int32 → (Int32 × vS)
  | 0, S, _, _, _ => (0, S)
  | n + 1, S, n3, v2, v1 => if 8 ≤ (nI n3) then (v1, S) else nm (x_X5_of S 1 (nI n3) 0) (fun r_18 => if r_18 = 1 then nm (x_X5_tries S) (fun S_26 => nmp (x_X5_endsWith S_26 (1 <<< ((nI n3) &&& 31))) (fun r_33 S_33 => nm (x_X5_shared S_33 0) (fun r_39 => if r_39 ≤ v2 then if r_39 ≤ v2 then x_X5_weakestOf_L6 n S_33 ((n3 + 1)) (v2) (v1) else x_X5_weakestOf_L6 n S_33 ((n3 + 1)) (r_39) (v1) else if r_39 ≤ v2 then x_X5_weakestOf_L6 n S_33 ((n3 + 1)) (v2) ((nI n3)) else x_X5_weakestOf_L6 n S_33 ((n3 + 1)) (r_39) ((nI n3))))) else x_X5_weakestOf_L6 n S ((n3 + 1)) (v2) (v1))
def x_X5_weakestOf (S : vS) : (Int32 × vS) := x_X5_weakestOf_L6 (9) S (0) (0) ((-1))
theorem hd_X5_weakestOf : yX5_weakestOf.cls = RX5 ∧ yX5_weakestOf.cls ≠ "java/lang/invoke/MethodHandle" ∧ yX5_weakestOf.cls ≠ "java/lang/invoke/VarHandle" ∧ (parseMethodDescriptor yX5_weakestOf.desc).map (fun d => d.parameters.length) = some 0 := by decide +kernel
set_option maxHeartbeats 4000000 in
set_option maxRecDepth 100000 in
theorem w_X5_weakestOf_L6 {D : va_G} {ad : Nat → Nat} (l : Launch) {p : Program} {e : Env} {s : State} {mm : MethodId} {args : Array Value} {below : List Frame} {meth : Method} {c : Code} {A : Nat → Prop} (B : Cx p mm c cX5_weakestOf 5 s args wsX5_weakestOf RX5 meth (some .int) D) (z : (Int32 × vS)) : ∀ (n : Nat) (n3 : Nat) (v2 : Int32) (v1 : Int32) (S : vS) (H : Heap) (locs : List Loc) (ls : Array Slot), n3 ≤ 8 → n3 + n = 9 → chairOK (S 1 2) → ¬ (S 1 6) = 0 → Wd D 7 (cM D ad) ad A s.heap S H locs → lv_has ls 5 [(3, .int (nI n3)), (2, .int v2), (1, .int v1), (0, .ref (ad 0))] → ls.size = 5 → z = x_X5_weakestOf_L6 n S n3 v2 v1 → W p l e (rmD 6) s mm args below meth c H locs 0 0 (MQ below (va_Qi (fun (r : Int32) (S1 : vS) => (r, S1) = z) (bW D 7 (cM D ad) ad A) A) args s 0 0 A) (F0 mm 6 ls []) := by
  have hx := B.1.1
  have hb := B.1.2.1
  have hin_X5 : ∀ w ∈ wsX50, w ∈ wsX5_weakestOf := fun w h => List.mem_cons_of_mem _ (List.mem_append_right _ h)
  have k_7 := B.1.2.2.2.2 (.fieldLink RX5 7 "JointLoansModel" "now" "[I") (by decide +kernel)
  intro n
  induction n with
  | zero =>
    intro n3 v2 v1 S H locs ls hle hsum hch hs6
    omega
  | succ n ih =>
    intro n3 v2 v1 S H locs ls hle hsum hch hs6 hW hl hls zk
    have zk := zk.trans (x_X5_weakestOf_L6.eq_2 _ _ _ _ _ )
    refine lv_iload_n hx hb dX5_weakestOf_6 rfl (lv_at hl 0 rfl) ?_
    refine lv_bipush (v := 8) hx hb dX5_weakestOf_7 (by decide) ?_
    refine lv_icmp_ge (tgt := 75) hx hb dX5_weakestOf_9 (by decide) (fun c_9 => ?_) (fun c_9 => ?_)
    · have zk := zk.trans (if_pos c_9)
      refine lv_iload_n hx hb dX5_weakestOf_75 rfl (lv_at hl 2 rfl) ?_
      exact x_iret B hW zk.symm dX5_weakestOf_76
    · have zk := zk.trans (if_neg c_9)
      have hb_c_9 : n3 < 8 := nI_of_nle (by decide) c_9 (by omega)
      refine lv_aload_n hx hb dX5_weakestOf_12 rfl (lv_at hl 3 rfl) ?_
      refine x_get B hW (by decide) cM_o cls5 hin_X5 0 (by decide) (v := .ref (ad 1)) rfl k_7 dX5_weakestOf_13 ?_
      refine lv_iload_n hx hb dX5_weakestOf_16 rfl (lv_at hl 0 rfl) ?_
      refine lv_iconst (v := 0) hx hb dX5_weakestOf_17 (by decide) ?_
      refine x_calli hW (x_runS B hW (As := [.ref (ad 1), .int (nI n3), .int 0]) (rest := []) (c_X5_of (D := D) (ad := ad) l _ S 1 (nI n3) 0 (Or.inl rfl) (isN_vin (isN_nI hb_c_9 (by decide)) (by decide) (by decide)) (isN_vin (isN_lit 0 (by decide)) (by decide) (by decide))) (va_cwS 3 B.1.2.2.2.2 gX5_weakestOf_X5_of rfl rfl rfl hd_X5_of.2 ⟨Nat.le_of_ble_eq_true rfl, Nat.le_of_ble_eq_true rfl⟩) rfl hls (Nat.le_of_ble_eq_true rfl) dX5_weakestOf_18 ⟨Nat.zero_le _, Nat.zero_le _⟩) (fun r_18 S_18 H locs he hW => ?_)
      obtain ⟨hr_18, hs⟩ := he
      rw [hs] at hW
      have zk := nm_at zk hr_18
      refine lv_iconst (v := 1) hx hb dX5_weakestOf_21 (by decide) ?_
      refine lv_icmp_ne (tgt := 69) hx hb dX5_weakestOf_22 (by decide) (fun c_22 => ?_) (fun c_22 => ?_)
      · have zk := zk.trans (if_neg c_22)
        refine lv_iinc (v := (nI (n3 + 1))) (lv' := [(3, .int (nI (n3 + 1))), (2, .int v2), (1, .int v1), (0, .ref (ad 0))]) hx hb dX5_weakestOf_69 hl (k := 0) rfl (nI_1 _) (by decide) rfl (fun ls hl => ?_)
        have hls := hl.1
        refine lv_goto (tgt := 6) hx hb dX5_weakestOf_72 (by decide) ?_
        exact ih ((n3 + 1)) (v2) (v1) S _ _ _ (show (n3 + 1) ≤ 8 by omega) (show (n3 + 1) + n = 9 by omega) hch hs6 hW (lv_sub hl [0, 1, 2, 3] rfl) hls zk
      · have zk := zk.trans (if_pos c_22)
        refine lv_aload_n hx hb dX5_weakestOf_25 rfl (lv_at hl 3 rfl) ?_
        refine x_callv hW (x_runV B hW (As := []) (rest := []) (by decide) cM_o cls5 (c_X5_tries (D := D) (ad := ad) l _ S) (cwV 0 B.1.2.2.2.2 gX5_weakestOf_X5_tries rfl rfl rfl hd_X5_tries ⟨Nat.le_of_ble_eq_true rfl, Nat.le_of_ble_eq_true rfl⟩) rfl hls (Nat.le_of_ble_eq_true rfl) dX5_weakestOf_26 ⟨Nat.zero_le _, Nat.zero_le _⟩) (fun S_26 H locs he hW => ?_)
        have he_26 := he
        have zk := nm_at zk he_26
        have hf_S_26_1_2_chairOK : chairOK (S_26 1 2) := by rw [he_26, (fr_tries (by decide))]; exact hch
        have hf_S_26_1_6_0 : ¬ (S_26 1 6) = 0 := by rw [he_26, (fr_tries (by decide))]; exact hs6
        have hg_S_26_2_2_chairOK : chairOK (S_26 2 2) := by rw [he_26]; exact (by rw [tries_row (by decide)]; exact hch)
        have hg_S_26_2_6_0 : ¬ (S_26 2 6) = 0 := by rw [he_26]; exact (by rw [tries_row (by decide)]; exact hs6)
        refine lv_aload_n hx hb dX5_weakestOf_29 rfl (lv_at hl 3 rfl) ?_
        refine lv_iconst (v := 1) hx hb dX5_weakestOf_30 (by decide) ?_
        refine lv_iload_n hx hb dX5_weakestOf_31 rfl (lv_at hl 0 rfl) ?_
        refine lv_ishl hx hb dX5_weakestOf_32 ?_
        refine x_calli hW (x_runV B hW (As := [.int (1 <<< ((nI n3) &&& 31))]) (rest := []) (by decide) cM_o cls5 (c_X5_endsWith (D := D) (ad := ad) l _ S_26 (1 <<< ((nI n3) &&& 31)) hg_S_26_2_2_chairOK hg_S_26_2_6_0) (cwV 1 B.1.2.2.2.2 gX5_weakestOf_X5_endsWith rfl rfl rfl hd_X5_endsWith ⟨Nat.le_of_ble_eq_true rfl, Nat.le_of_ble_eq_true rfl⟩) rfl hls (Nat.le_of_ble_eq_true rfl) dX5_weakestOf_33 ⟨Nat.zero_le _, Nat.zero_le _⟩) (fun r_33 S_33 H locs he hW => ?_)
        have hr_33 := he
        have zk := nmp_at zk hr_33
        have he_33 : S_33 = (x_X5_endsWith S_26 (1 <<< ((nI n3) &&& 31))).2 := by rw [← hr_33]
        have hf_S_33_1_2_chairOK : chairOK (S_33 1 2) := by rw [he_33, (ep_endsWith.1 _ _ (by decide) (by decide) (by decide))]; exact hf_S_26_1_2_chairOK
        have hf_S_33_1_6_0 : ¬ (S_33 1 6) = 0 := by rw [he_33, (ep_endsWith.1 _ _ (by decide) (by decide) (by decide))]; exact hf_S_26_1_6_0
        have hf_S_33_2_6_0 : ¬ (S_33 2 6) = 0 := by rw [he_33, (ep_endsWith.1 _ _ (fun _ => by decide) (by decide) (by decide))]; exact hg_S_26_2_6_0
        have hg_S_33_2_2_chairOK : chairOK (S_33 2 2) := by rw [he_33]; exact (ep_endsWith.2 hg_S_26_2_2_chairOK)
        refine lv_pop hx hb dX5_weakestOf_36 rfl ?_
        refine lv_aload_n hx hb dX5_weakestOf_37 rfl (lv_at hl 3 rfl) ?_
        refine lv_iconst (v := 0) hx hb dX5_weakestOf_38 (by decide) ?_
        refine x_calli hW (x_runV B hW (As := [.int 0]) (rest := []) (by decide) cM_o cls5 (c_X5_shared (D := D) (ad := ad) l _ S_33 0) (cwV 1 B.1.2.2.2.2 gX5_weakestOf_X5_shared rfl rfl rfl hd_X5_shared ⟨Nat.le_of_ble_eq_true rfl, Nat.le_of_ble_eq_true rfl⟩) rfl hls (Nat.le_of_ble_eq_true rfl) dX5_weakestOf_39 ⟨Nat.zero_le _, Nat.zero_le _⟩) (fun r_39 S_39 H locs he hW => ?_)
        obtain ⟨hr_39, hs⟩ := he
        rw [hs] at hW
        have zk := nm_at zk hr_39
        refine lv_istore (lv' := [(4, .int r_39), (3, .int (nI n3)), (2, .int v2), (1, .int v1), (0, .ref (ad 0))]) hx hb dX5_weakestOf_42 hl (by decide) rfl (fun ls hl => ?_)
        have hls := hl.1
        refine lv_iload hx hb dX5_weakestOf_44 (lv_at hl 0 rfl) ?_
        refine lv_iload_n hx hb dX5_weakestOf_46 rfl (lv_at hl 2 rfl) ?_
        refine lv_icmp_le (tgt := 54) hx hb dX5_weakestOf_47 (by decide) (fun c_47 => ?_) (fun c_47 => ?_)
        · have zk := zk.trans (if_pos c_47)
          refine lv_iload_n hx hb dX5_weakestOf_54 rfl (lv_at hl 3 rfl) ?_
          refine lv_istore_n (lv' := [(1, .int v1), (4, .int r_39), (3, .int (nI n3)), (2, .int v2), (0, .ref (ad 0))]) hx hb dX5_weakestOf_55 rfl hl (by decide) rfl (fun ls hl => ?_)
          have hls := hl.1
          refine lv_iload hx hb dX5_weakestOf_56 (lv_at hl 1 rfl) ?_
          refine lv_iload_n hx hb dX5_weakestOf_58 rfl (lv_at hl 3 rfl) ?_
          refine lv_icmp_le (tgt := 67) hx hb dX5_weakestOf_59 (by decide) (fun c_59 => ?_) (fun c_59 => ?_)
          · have zk := zk.trans (if_pos c_59)
            refine lv_iload_n hx hb dX5_weakestOf_67 rfl (lv_at hl 3 rfl) ?_
            refine lv_istore_n (lv' := [(2, .int v2), (1, .int v1), (4, .int r_39), (3, .int (nI n3)), (0, .ref (ad 0))]) hx hb dX5_weakestOf_68 rfl hl (by decide) rfl (fun ls hl => ?_)
            have hls := hl.1
            refine lv_iinc (v := (nI (n3 + 1))) (lv' := [(3, .int (nI (n3 + 1))), (2, .int v2), (1, .int v1), (4, .int r_39), (0, .ref (ad 0))]) hx hb dX5_weakestOf_69 hl (k := 3) rfl (nI_1 _) (by decide) rfl (fun ls hl => ?_)
            have hls := hl.1
            refine lv_goto (tgt := 6) hx hb dX5_weakestOf_72 (by decide) ?_
            exact ih ((n3 + 1)) (v2) (v1) S_33 _ _ _ (show (n3 + 1) ≤ 8 by omega) (show (n3 + 1) + n = 9 by omega) hf_S_33_1_2_chairOK hf_S_33_1_6_0 hW (lv_sub hl [0, 1, 2, 4] rfl) hls zk
          · have zk := zk.trans (if_neg c_59)
            refine lv_iload hx hb dX5_weakestOf_62 (lv_at hl 1 rfl) ?_
            refine lv_goto (tgt := 68) hx hb dX5_weakestOf_64 (by decide) ?_
            refine lv_istore_n (lv' := [(2, .int r_39), (1, .int v1), (4, .int r_39), (3, .int (nI n3)), (0, .ref (ad 0))]) hx hb dX5_weakestOf_68 rfl hl (by decide) rfl (fun ls hl => ?_)
            have hls := hl.1
            refine lv_iinc (v := (nI (n3 + 1))) (lv' := [(3, .int (nI (n3 + 1))), (2, .int r_39), (1, .int v1), (4, .int r_39), (0, .ref (ad 0))]) hx hb dX5_weakestOf_69 hl (k := 3) rfl (nI_1 _) (by decide) rfl (fun ls hl => ?_)
            have hls := hl.1
            refine lv_goto (tgt := 6) hx hb dX5_weakestOf_72 (by decide) ?_
            exact ih ((n3 + 1)) (r_39) (v1) S_33 _ _ _ (show (n3 + 1) ≤ 8 by omega) (show (n3 + 1) + n = 9 by omega) hf_S_33_1_2_chairOK hf_S_33_1_6_0 hW (lv_sub hl [0, 1, 2, 4] rfl) hls zk
        · have zk := zk.trans (if_neg c_47)
          refine lv_iload_n hx hb dX5_weakestOf_50 rfl (lv_at hl 1 rfl) ?_
          refine lv_goto (tgt := 55) hx hb dX5_weakestOf_51 (by decide) ?_
          refine lv_istore_n (lv' := [(1, .int (nI n3)), (4, .int r_39), (3, .int (nI n3)), (2, .int v2), (0, .ref (ad 0))]) hx hb dX5_weakestOf_55 rfl hl (by decide) rfl (fun ls hl => ?_)
          have hls := hl.1
          refine lv_iload hx hb dX5_weakestOf_56 (lv_at hl 1 rfl) ?_
          refine lv_iload_n hx hb dX5_weakestOf_58 rfl (lv_at hl 3 rfl) ?_
          refine lv_icmp_le (tgt := 67) hx hb dX5_weakestOf_59 (by decide) (fun c_59 => ?_) (fun c_59 => ?_)
          · have zk := zk.trans (if_pos c_59)
            refine lv_iload_n hx hb dX5_weakestOf_67 rfl (lv_at hl 3 rfl) ?_
            refine lv_istore_n (lv' := [(2, .int v2), (1, .int (nI n3)), (4, .int r_39), (3, .int (nI n3)), (0, .ref (ad 0))]) hx hb dX5_weakestOf_68 rfl hl (by decide) rfl (fun ls hl => ?_)
            have hls := hl.1
            refine lv_iinc (v := (nI (n3 + 1))) (lv' := [(3, .int (nI (n3 + 1))), (2, .int v2), (1, .int (nI n3)), (4, .int r_39), (0, .ref (ad 0))]) hx hb dX5_weakestOf_69 hl (k := 3) rfl (nI_1 _) (by decide) rfl (fun ls hl => ?_)
            have hls := hl.1
            refine lv_goto (tgt := 6) hx hb dX5_weakestOf_72 (by decide) ?_
            exact ih ((n3 + 1)) (v2) ((nI n3)) S_33 _ _ _ (show (n3 + 1) ≤ 8 by omega) (show (n3 + 1) + n = 9 by omega) hf_S_33_1_2_chairOK hf_S_33_1_6_0 hW (lv_sub hl [0, 1, 2, 4] rfl) hls zk
          · have zk := zk.trans (if_neg c_59)
            refine lv_iload hx hb dX5_weakestOf_62 (lv_at hl 1 rfl) ?_
            refine lv_goto (tgt := 68) hx hb dX5_weakestOf_64 (by decide) ?_
            refine lv_istore_n (lv' := [(2, .int r_39), (1, .int (nI n3)), (4, .int r_39), (3, .int (nI n3)), (0, .ref (ad 0))]) hx hb dX5_weakestOf_68 rfl hl (by decide) rfl (fun ls hl => ?_)
            have hls := hl.1
            refine lv_iinc (v := (nI (n3 + 1))) (lv' := [(3, .int (nI (n3 + 1))), (2, .int r_39), (1, .int (nI n3)), (4, .int r_39), (0, .ref (ad 0))]) hx hb dX5_weakestOf_69 hl (k := 3) rfl (nI_1 _) (by decide) rfl (fun ls hl => ?_)
            have hls := hl.1
            refine lv_goto (tgt := 6) hx hb dX5_weakestOf_72 (by decide) ?_
            exact ih ((n3 + 1)) (r_39) ((nI n3)) S_33 _ _ _ (show (n3 + 1) ≤ 8 by omega) (show (n3 + 1) + n = 9 by omega) hf_S_33_1_2_chairOK hf_S_33_1_6_0 hW (lv_sub hl [0, 1, 2, 4] rfl) hls zk
set_option maxHeartbeats 4000000 in
set_option maxRecDepth 100000 in
theorem c_X5_weakestOf {D : va_G} {ad : Nat → Nat} (l : Launch) (sz : Nat) (S : vS) (hch : chairOK (S 1 2)) (hs6 : ¬ (S 1 6) = 0) : Met l yX5_weakestOf wsX5_weakestOf (rmD 6) (pW D 7 (cM D ad) ad sz S [.ref (ad 0)]) (va_Qi (fun (r : Int32) (S1 : vS) => (r, S1) = (x_X5_weakestOf S)) (bW D 7 (cM D ad) ad (aW 7 ad sz)) (aW 7 ad sz)) 0 0 (aW 7 ad sz) := by
  refine x_met (own := RX5) (cc := cX5_weakestOf) (maxL := 5) (ret := (some .int)) (Qc := fun A => va_Qi (fun (r : Int32) (S1 : vS) => (r, S1) = (x_X5_weakestOf S)) (bW D 7 (cM D ad) ad A) A) rfl ⟨by decide +kernel, rfl, Nat.le_of_ble_eq_true rfl⟩ ?_
  intro p e s mm args below meth c A ls B hW hl hls
  have hx := B.1.1
  have hb := B.1.2.1
  have hin_X5 : ∀ w ∈ wsX50, w ∈ wsX5_weakestOf := fun w h => List.mem_cons_of_mem _ (List.mem_append_right _ h)
  have k_7 := B.1.2.2.2.2 (.fieldLink RX5 7 "JointLoansModel" "now" "[I") (by decide +kernel)
  have zk := x_X5_weakestOf.eq_1 S
  have hl : lv_has ls 5 [(0, .ref (ad 0))] := hl
  refine lv_iconst (v := (-1)) hx hb dX5_weakestOf_0 (by decide) ?_
  refine lv_istore_n (lv' := [(1, .int (-1)), (0, .ref (ad 0))]) hx hb dX5_weakestOf_1 rfl hl (by decide) rfl (fun ls hl => ?_)
  have hls := hl.1
  refine lv_iconst (v := 0) hx hb dX5_weakestOf_2 (by decide) ?_
  refine lv_istore_n (lv' := [(2, .int 0), (1, .int (-1)), (0, .ref (ad 0))]) hx hb dX5_weakestOf_3 rfl hl (by decide) rfl (fun ls hl => ?_)
  have hls := hl.1
  refine lv_iconst (v := 0) hx hb dX5_weakestOf_4 (by decide) ?_
  refine lv_istore_n (lv' := [(3, .int 0), (2, .int 0), (1, .int (-1)), (0, .ref (ad 0))]) hx hb dX5_weakestOf_5 rfl hl (by decide) rfl (fun ls hl => ?_)
  have hls := hl.1
  exact w_X5_weakestOf_L6 l B  _  (9) (0) (0) ((-1)) S _ _ _ (show 0 ≤ 8 by omega) (show 0 + (9) = 9 by omega) hch hs6 hW (lv_sub hl [0, 1, 2, 3] rfl) hls zk
theorem lf_weakestOf_L : ∀ (n : Nat) (S S0 : vS) (k : Nat) (v2 v1 : Int32), LF S0 S → LF S0 (x_X5_weakestOf_L6 n S k v2 v1).2 := by
  intro n
  induction n with
  | zero => intro S S0 k v2 v1 h; exact h
  | succ n ih =>
    intro S S0 k v2 v1 h
    rw [x_X5_weakestOf_L6]
    simp only [nm_eq, nmp_eq]
    repeat' split
    all_goals first | (with_reducible exact h) | (with_reducible exact ih _ _ _ _ _ h) | (with_reducible exact ih _ _ _ _ _ h.tries.ew)
theorem lf_weakestOf {S S1 : vS} (h : LF S S1) : LF S (x_X5_weakestOf S1).2 := by
  unfold x_X5_weakestOf
  exact lf_weakestOf_L _ _ _ _ _ _ h

def x_X5_weakest (S : vS) : (Int32 × vS) := nm (st S 0 6 0) (fun S_2 => nmp (x_X5_weakestOf S_2) (fun r_6 S_6 => (r_6, S_6)))
theorem hd_X5_weakest : yX5_weakest.cls = RX5 ∧ yX5_weakest.cls ≠ "java/lang/invoke/MethodHandle" ∧ yX5_weakest.cls ≠ "java/lang/invoke/VarHandle" ∧ (parseMethodDescriptor yX5_weakest.desc).map (fun d => d.parameters.length) = some 0 := by decide +kernel
set_option maxHeartbeats 4000000 in
set_option maxRecDepth 100000 in
theorem c_X5_weakest {D : va_G} {ad : Nat → Nat} (l : Launch) (sz : Nat) (S : vS) (hch : chairOK (S 1 2)) (hs6 : ¬ (S 1 6) = 0) : Met l yX5_weakest wsX5_weakest (rmD 7) (pW D 7 (cM D ad) ad sz S [.ref (ad 0)]) (va_Qi (fun (r : Int32) (S1 : vS) => (r, S1) = (x_X5_weakest S)) (bW D 7 (cM D ad) ad (aW 7 ad sz)) (aW 7 ad sz)) 0 0 (aW 7 ad sz) := by
  refine x_met (own := RX5) (cc := cX5_weakest) (maxL := 1) (ret := (some .int)) (Qc := fun A => va_Qi (fun (r : Int32) (S1 : vS) => (r, S1) = (x_X5_weakest S)) (bW D 7 (cM D ad) ad A) A) rfl ⟨by decide +kernel, rfl, Nat.le_of_ble_eq_true rfl⟩ ?_
  intro p e s mm args below meth c A ls B hW hl hls
  have hx := B.1.1
  have hb := B.1.2.1
  have hin_X5 : ∀ w ∈ wsX50, w ∈ wsX5_weakest := fun w h => List.mem_cons_of_mem _ (List.mem_append_right _ h)
  have k_28 := B.1.2.2.2.2 (.fieldLink RX5 28 "JointLoansModel" "thrown" "I") (by decide +kernel)
  have zk := x_X5_weakest.eq_1 S
  have hl : lv_has ls 1 [(0, .ref (ad 0))] := hl
  refine lv_aload_n hx hb dX5_weakest_0 rfl (lv_at hl 0 rfl) ?_
  refine lv_iconst (v := 0) hx hb dX5_weakest_1 (by decide) ?_
  refine x_put B hW (by decide) cls5 hin_X5 6 (by decide) cM_o rfl (ty := .int) (by decide +kernel) rfl rfl (Nat.le_of_ble_eq_true rfl) (j := 6) pO_6 k_28 dX5_weakest_2 (fun H locs S_2 he_2 hW => ?_)
  have zk := nm_at zk he_2
  have hf_S_2_1_2_chairOK : chairOK (S_2 1 2) := by rw [he_2, st_at, if_neg (by rintro ⟨h1, h2⟩; omega)]; exact hch
  have hf_S_2_1_6_0 : ¬ (S_2 1 6) = 0 := by rw [he_2, st_at, if_neg (by rintro ⟨h1, h2⟩; omega)]; exact hs6
  have hf_S_2_0_6_1 : vp_in (S_2 0 6) 1 := by rw [he_2, st_at, if_pos ⟨rfl, rfl⟩]; exact isN_vin (isN_lit 0 (by decide)) (by decide) (by decide)
  refine lv_aload_n hx hb dX5_weakest_5 rfl (lv_at hl 0 rfl) ?_
  refine x_calli hW (x_runV B hW (As := []) (rest := []) (by decide) cM_o cls5 (c_X5_weakestOf (D := D) (ad := ad) l _ S_2 hf_S_2_1_2_chairOK hf_S_2_1_6_0) (cwV 0 B.1.2.2.2.2 gX5_weakest_X5_weakestOf rfl rfl rfl hd_X5_weakestOf ⟨Nat.le_of_ble_eq_true rfl, Nat.le_of_ble_eq_true rfl⟩) rfl hls (Nat.le_of_ble_eq_true rfl) dX5_weakest_6 ⟨Nat.zero_le _, Nat.zero_le _⟩) (fun r_6 S_6 H locs he hW => ?_)
  have hr_6 := he
  have zk := nmp_at zk hr_6
  have he_6 : S_6 = (x_X5_weakestOf S_2).2 := by rw [← hr_6]
  have hf_S_6_1_2_chairOK : chairOK (S_6 1 2) := by rw [he_6, (lf_weakestOf LF.rf _ _ (by decide) (by decide) (by decide))]; exact hf_S_2_1_2_chairOK
  have hf_S_6_1_6_0 : ¬ (S_6 1 6) = 0 := by rw [he_6, (lf_weakestOf LF.rf _ _ (by decide) (by decide) (by decide))]; exact hf_S_2_1_6_0
  have hf_S_6_0_6_1 : vp_in (S_6 0 6) 1 := by rw [he_6, (lf_weakestOf LF.rf _ _ (by decide) (by decide) (by decide))]; exact hf_S_2_0_6_1
  exact x_iret B hW zk.symm dX5_weakest_9

def x_X5_longest_L4 : Nat → vS → Nat → Int32 → Int32
  | 0, S, _, _ => 0
  | n + 1, S, n2, v1 => if 8 ≤ (nI n2) then v1 else nm (x_X5_of S 1 (nI n2) 4) (fun r_16 => if r_16 ≤ v1 then x_X5_longest_L4 n S ((n2 + 1)) (v1) else nm (x_X5_of S 1 (nI n2) 4) (fun r_29 => x_X5_longest_L4 n S ((n2 + 1)) (r_29)))
def x_X5_longest (S : vS) : Int32 := x_X5_longest_L4 (9) S (0) (0)
theorem hd_X5_longest : yX5_longest.cls = RX5 ∧ yX5_longest.cls ≠ "java/lang/invoke/MethodHandle" ∧ yX5_longest.cls ≠ "java/lang/invoke/VarHandle" ∧ (parseMethodDescriptor yX5_longest.desc).map (fun d => d.parameters.length) = some 0 := by decide +kernel
set_option maxHeartbeats 4000000 in
set_option maxRecDepth 100000 in
theorem w_X5_longest_L4 {D : va_G} {ad : Nat → Nat} (l : Launch) {p : Program} {e : Env} {s : State} {mm : MethodId} {args : Array Value} {below : List Frame} {meth : Method} {c : Code} {A : Nat → Prop} (B : Cx p mm c cX5_longest 3 s args wsX5_longest RX5 meth (some .int) D) (S : vS) (z : Int32) : ∀ (n : Nat) (n2 : Nat) (v1 : Int32) (H : Heap) (locs : List Loc) (ls : Array Slot), n2 ≤ 8 → n2 + n = 9 → Wd D 7 (cM D ad) ad A s.heap S H locs → lv_has ls 3 [(2, .int (nI n2)), (1, .int v1), (0, .ref (ad 0))] → ls.size = 3 → z = x_X5_longest_L4 n S n2 v1 → W p l e (rmD 1) s mm args below meth c H locs 0 0 (MQ below (va_Qi (fun (r : Int32) (S1 : vS) => r = z ∧ S1 = S) (bW D 7 (cM D ad) ad A) A) args s 0 0 A) (F0 mm 4 ls []) := by
  have hx := B.1.1
  have hb := B.1.2.1
  have hin_X5 : ∀ w ∈ wsX50, w ∈ wsX5_longest := fun w h => List.mem_cons_of_mem _ (List.mem_append_right _ h)
  have k_7 := B.1.2.2.2.2 (.fieldLink RX5 7 "JointLoansModel" "now" "[I") (by decide +kernel)
  intro n
  induction n with
  | zero =>
    intro n2 v1 H locs ls hle hsum
    omega
  | succ n ih =>
    intro n2 v1 H locs ls hle hsum hW hl hls zk
    have zk := zk.trans (x_X5_longest_L4.eq_2 _ _ _ _ )
    refine lv_iload_n hx hb dX5_longest_4 rfl (lv_at hl 0 rfl) ?_
    refine lv_bipush (v := 8) hx hb dX5_longest_5 (by decide) ?_
    refine lv_icmp_ge (tgt := 43) hx hb dX5_longest_7 (by decide) (fun c_7 => ?_) (fun c_7 => ?_)
    · have zk := zk.trans (if_pos c_7)
      refine lv_iload_n hx hb dX5_longest_43 rfl (lv_at hl 1 rfl) ?_
      exact x_iret B hW ⟨zk.symm, rfl⟩ dX5_longest_44
    · have zk := zk.trans (if_neg c_7)
      have hb_c_7 : n2 < 8 := nI_of_nle (by decide) c_7 (by omega)
      refine lv_aload_n hx hb dX5_longest_10 rfl (lv_at hl 2 rfl) ?_
      refine x_get B hW (by decide) cM_o cls5 hin_X5 0 (by decide) (v := .ref (ad 1)) rfl k_7 dX5_longest_11 ?_
      refine lv_iload_n hx hb dX5_longest_14 rfl (lv_at hl 0 rfl) ?_
      refine lv_iconst (v := 4) hx hb dX5_longest_15 (by decide) ?_
      refine x_calli hW (x_runS B hW (As := [.ref (ad 1), .int (nI n2), .int 4]) (rest := []) (c_X5_of (D := D) (ad := ad) l _ S 1 (nI n2) 4 (Or.inl rfl) (isN_vin (isN_nI hb_c_7 (by decide)) (by decide) (by decide)) (isN_vin (isN_lit 4 (by decide)) (by decide) (by decide))) (va_cwS 3 B.1.2.2.2.2 gX5_longest_X5_of rfl rfl rfl hd_X5_of.2 ⟨Nat.le_of_ble_eq_true rfl, Nat.le_of_ble_eq_true rfl⟩) rfl hls (Nat.le_of_ble_eq_true rfl) dX5_longest_16 ⟨Nat.zero_le _, Nat.zero_le _⟩) (fun r_16 S_16 H locs he hW => ?_)
      obtain ⟨hr_16, hs⟩ := he
      rw [hs] at hW
      have zk := nm_at zk hr_16
      refine lv_iload_n hx hb dX5_longest_19 rfl (lv_at hl 1 rfl) ?_
      refine lv_icmp_le (tgt := 35) hx hb dX5_longest_20 (by decide) (fun c_20 => ?_) (fun c_20 => ?_)
      · have zk := zk.trans (if_pos c_20)
        refine lv_iload_n hx hb dX5_longest_35 rfl (lv_at hl 1 rfl) ?_
        refine lv_istore_n (lv' := [(1, .int v1), (2, .int (nI n2)), (0, .ref (ad 0))]) hx hb dX5_longest_36 rfl hl (by decide) rfl (fun ls hl => ?_)
        have hls := hl.1
        refine lv_iinc (v := (nI (n2 + 1))) (lv' := [(2, .int (nI (n2 + 1))), (1, .int v1), (0, .ref (ad 0))]) hx hb dX5_longest_37 hl (k := 1) rfl (nI_1 _) (by decide) rfl (fun ls hl => ?_)
        have hls := hl.1
        refine lv_goto (tgt := 4) hx hb dX5_longest_40 (by decide) ?_
        exact ih ((n2 + 1)) (v1)  _ _ _ (show (n2 + 1) ≤ 8 by omega) (show (n2 + 1) + n = 9 by omega) hW (lv_sub hl [0, 1, 2] rfl) hls zk
      · have zk := zk.trans (if_neg c_20)
        refine lv_aload_n hx hb dX5_longest_23 rfl (lv_at hl 2 rfl) ?_
        refine x_get B hW (by decide) cM_o cls5 hin_X5 0 (by decide) (v := .ref (ad 1)) rfl k_7 dX5_longest_24 ?_
        refine lv_iload_n hx hb dX5_longest_27 rfl (lv_at hl 0 rfl) ?_
        refine lv_iconst (v := 4) hx hb dX5_longest_28 (by decide) ?_
        refine x_calli hW (x_runS B hW (As := [.ref (ad 1), .int (nI n2), .int 4]) (rest := []) (c_X5_of (D := D) (ad := ad) l _ S 1 (nI n2) 4 (Or.inl rfl) (isN_vin (isN_nI hb_c_7 (by decide)) (by decide) (by decide)) (isN_vin (isN_lit 4 (by decide)) (by decide) (by decide))) (va_cwS 3 B.1.2.2.2.2 gX5_longest_X5_of rfl rfl rfl hd_X5_of.2 ⟨Nat.le_of_ble_eq_true rfl, Nat.le_of_ble_eq_true rfl⟩) rfl hls (Nat.le_of_ble_eq_true rfl) dX5_longest_29 ⟨Nat.zero_le _, Nat.zero_le _⟩) (fun r_29 S_29 H locs he hW => ?_)
        obtain ⟨hr_29, hs⟩ := he
        rw [hs] at hW
        have zk := nm_at zk hr_29
        refine lv_goto (tgt := 36) hx hb dX5_longest_32 (by decide) ?_
        refine lv_istore_n (lv' := [(1, .int r_29), (2, .int (nI n2)), (0, .ref (ad 0))]) hx hb dX5_longest_36 rfl hl (by decide) rfl (fun ls hl => ?_)
        have hls := hl.1
        refine lv_iinc (v := (nI (n2 + 1))) (lv' := [(2, .int (nI (n2 + 1))), (1, .int r_29), (0, .ref (ad 0))]) hx hb dX5_longest_37 hl (k := 1) rfl (nI_1 _) (by decide) rfl (fun ls hl => ?_)
        have hls := hl.1
        refine lv_goto (tgt := 4) hx hb dX5_longest_40 (by decide) ?_
        exact ih ((n2 + 1)) (r_29)  _ _ _ (show (n2 + 1) ≤ 8 by omega) (show (n2 + 1) + n = 9 by omega) hW (lv_sub hl [0, 1, 2] rfl) hls zk
set_option maxHeartbeats 4000000 in
set_option maxRecDepth 100000 in
theorem c_X5_longest {D : va_G} {ad : Nat → Nat} (l : Launch) (sz : Nat) (S : vS) : Met l yX5_longest wsX5_longest (rmD 1) (pW D 7 (cM D ad) ad sz S [.ref (ad 0)]) (va_Qi (fun (r : Int32) (S1 : vS) => r = (x_X5_longest S) ∧ S1 = S) (bW D 7 (cM D ad) ad (aW 7 ad sz)) (aW 7 ad sz)) 0 0 (aW 7 ad sz) := by
  refine x_met (own := RX5) (cc := cX5_longest) (maxL := 3) (ret := (some .int)) (Qc := fun A => va_Qi (fun (r : Int32) (S1 : vS) => r = (x_X5_longest S) ∧ S1 = S) (bW D 7 (cM D ad) ad A) A) rfl ⟨by decide +kernel, rfl, Nat.le_of_ble_eq_true rfl⟩ ?_
  intro p e s mm args below meth c A ls B hW hl hls
  have hx := B.1.1
  have hb := B.1.2.1
  have hin_X5 : ∀ w ∈ wsX50, w ∈ wsX5_longest := fun w h => List.mem_cons_of_mem _ (List.mem_append_right _ h)
  have k_7 := B.1.2.2.2.2 (.fieldLink RX5 7 "JointLoansModel" "now" "[I") (by decide +kernel)
  have zk := x_X5_longest.eq_1 S
  have hl : lv_has ls 3 [(0, .ref (ad 0))] := hl
  refine lv_iconst (v := 0) hx hb dX5_longest_0 (by decide) ?_
  refine lv_istore_n (lv' := [(1, .int 0), (0, .ref (ad 0))]) hx hb dX5_longest_1 rfl hl (by decide) rfl (fun ls hl => ?_)
  have hls := hl.1
  refine lv_iconst (v := 0) hx hb dX5_longest_2 (by decide) ?_
  refine lv_istore_n (lv' := [(2, .int 0), (1, .int 0), (0, .ref (ad 0))]) hx hb dX5_longest_3 rfl hl (by decide) rfl (fun ls hl => ?_)
  have hls := hl.1
  exact w_X5_longest_L4 l B S _  (9) (0) (0)  _ _ _ (show 0 ≤ 8 by omega) (show 0 + (9) = 9 by omega) hW (lv_sub hl [0, 1, 2] rfl) hls zk

def x_X5_weeksToGo (S : vS) : (Int32 × vS) := nm (st S 0 6 0) (fun S_2 => nm (x_X5_longest S_2) (fun r_6 => (r_6, S_2)))
theorem hd_X5_weeksToGo : yX5_weeksToGo.cls = RX5 ∧ yX5_weeksToGo.cls ≠ "java/lang/invoke/MethodHandle" ∧ yX5_weeksToGo.cls ≠ "java/lang/invoke/VarHandle" ∧ (parseMethodDescriptor yX5_weeksToGo.desc).map (fun d => d.parameters.length) = some 0 := by decide +kernel
set_option maxHeartbeats 4000000 in
set_option maxRecDepth 100000 in
theorem c_X5_weeksToGo {D : va_G} {ad : Nat → Nat} (l : Launch) (sz : Nat) (S : vS) : Met l yX5_weeksToGo wsX5_weeksToGo (rmD 2) (pW D 7 (cM D ad) ad sz S [.ref (ad 0)]) (va_Qi (fun (r : Int32) (S1 : vS) => (r, S1) = (x_X5_weeksToGo S)) (bW D 7 (cM D ad) ad (aW 7 ad sz)) (aW 7 ad sz)) 0 0 (aW 7 ad sz) := by
  refine x_met (own := RX5) (cc := cX5_weeksToGo) (maxL := 1) (ret := (some .int)) (Qc := fun A => va_Qi (fun (r : Int32) (S1 : vS) => (r, S1) = (x_X5_weeksToGo S)) (bW D 7 (cM D ad) ad A) A) rfl ⟨by decide +kernel, rfl, Nat.le_of_ble_eq_true rfl⟩ ?_
  intro p e s mm args below meth c A ls B hW hl hls
  have hx := B.1.1
  have hb := B.1.2.1
  have hin_X5 : ∀ w ∈ wsX50, w ∈ wsX5_weeksToGo := fun w h => List.mem_cons_of_mem _ (List.mem_append_right _ h)
  have k_28 := B.1.2.2.2.2 (.fieldLink RX5 28 "JointLoansModel" "thrown" "I") (by decide +kernel)
  have zk := x_X5_weeksToGo.eq_1 S
  have hl : lv_has ls 1 [(0, .ref (ad 0))] := hl
  refine lv_aload_n hx hb dX5_weeksToGo_0 rfl (lv_at hl 0 rfl) ?_
  refine lv_iconst (v := 0) hx hb dX5_weeksToGo_1 (by decide) ?_
  refine x_put B hW (by decide) cls5 hin_X5 6 (by decide) cM_o rfl (ty := .int) (by decide +kernel) rfl rfl (Nat.le_of_ble_eq_true rfl) (j := 6) pO_6 k_28 dX5_weeksToGo_2 (fun H locs S_2 he_2 hW => ?_)
  have zk := nm_at zk he_2
  have hf_S_2_0_6_1 : vp_in (S_2 0 6) 1 := by rw [he_2, st_at, if_pos ⟨rfl, rfl⟩]; exact isN_vin (isN_lit 0 (by decide)) (by decide) (by decide)
  refine lv_aload_n hx hb dX5_weeksToGo_5 rfl (lv_at hl 0 rfl) ?_
  refine x_calli hW (x_runV B hW (As := []) (rest := []) (by decide) cM_o cls5 (c_X5_longest (D := D) (ad := ad) l _ S_2) (cwV 0 B.1.2.2.2.2 gX5_weeksToGo_X5_longest rfl rfl rfl hd_X5_longest ⟨Nat.le_of_ble_eq_true rfl, Nat.le_of_ble_eq_true rfl⟩) rfl hls (Nat.le_of_ble_eq_true rfl) dX5_weeksToGo_6 ⟨Nat.zero_le _, Nat.zero_le _⟩) (fun r_6 S_6 H locs he hW => ?_)
  obtain ⟨hr_6, hs⟩ := he
  rw [hs] at hW
  have zk := nm_at zk hr_6
  exact x_iret B hW zk.symm dX5_weeksToGo_9

def x_X5_ifCycle (S : vS) (p1 : Int32) : (Int32 × vS) := nm (st S 0 6 0) (fun S_2 => nm (x_X5_isMember S_2 p1) (fun r_7 => if r_7 = 0 then nmp (x_X5_fails S_2 1) (fun r_23 S_23 => (r_23, S_23)) else nm (x_X5_limitThen S_2 p1) (fun r_15 => (r_15, S_2))))
theorem hd_X5_ifCycle : yX5_ifCycle.cls = RX5 ∧ yX5_ifCycle.cls ≠ "java/lang/invoke/MethodHandle" ∧ yX5_ifCycle.cls ≠ "java/lang/invoke/VarHandle" ∧ (parseMethodDescriptor yX5_ifCycle.desc).map (fun d => d.parameters.length) = some 1 := by decide +kernel
set_option maxHeartbeats 4000000 in
set_option maxRecDepth 100000 in
theorem c_X5_ifCycle {D : va_G} {ad : Nat → Nat} (l : Launch) (sz : Nat) (S : vS) (p1 : Int32) : Met l yX5_ifCycle wsX5_ifCycle (rmD 2) (pW D 7 (cM D ad) ad sz S [.ref (ad 0), .int p1]) (va_Qi (fun (r : Int32) (S1 : vS) => (r, S1) = (x_X5_ifCycle S p1)) (bW D 7 (cM D ad) ad (aW 7 ad sz)) (aW 7 ad sz)) 0 0 (aW 7 ad sz) := by
  refine x_met (own := RX5) (cc := cX5_ifCycle) (maxL := 2) (ret := (some .int)) (Qc := fun A => va_Qi (fun (r : Int32) (S1 : vS) => (r, S1) = (x_X5_ifCycle S p1)) (bW D 7 (cM D ad) ad A) A) rfl ⟨by decide +kernel, rfl, Nat.le_of_ble_eq_true rfl⟩ ?_
  intro p e s mm args below meth c A ls B hW hl hls
  have hx := B.1.1
  have hb := B.1.2.1
  have hin_X5 : ∀ w ∈ wsX50, w ∈ wsX5_ifCycle := fun w h => List.mem_cons_of_mem _ (List.mem_append_right _ h)
  have k_28 := B.1.2.2.2.2 (.fieldLink RX5 28 "JointLoansModel" "thrown" "I") (by decide +kernel)
  have zk := x_X5_ifCycle.eq_1 S p1
  have hl : lv_has ls 2 [(0, .ref (ad 0)), (1, .int p1)] := hl
  refine lv_aload_n hx hb dX5_ifCycle_0 rfl (lv_at hl 0 rfl) ?_
  refine lv_iconst (v := 0) hx hb dX5_ifCycle_1 (by decide) ?_
  refine x_put B hW (by decide) cls5 hin_X5 6 (by decide) cM_o rfl (ty := .int) (by decide +kernel) rfl rfl (Nat.le_of_ble_eq_true rfl) (j := 6) pO_6 k_28 dX5_ifCycle_2 (fun H locs S_2 he_2 hW => ?_)
  have zk := nm_at zk he_2
  have hf_S_2_0_6_1 : vp_in (S_2 0 6) 1 := by rw [he_2, st_at, if_pos ⟨rfl, rfl⟩]; exact isN_vin (isN_lit 0 (by decide)) (by decide) (by decide)
  refine lv_aload_n hx hb dX5_ifCycle_5 rfl (lv_at hl 0 rfl) ?_
  refine lv_iload_n hx hb dX5_ifCycle_6 rfl (lv_at hl 1 rfl) ?_
  refine x_calli hW (x_runV B hW (As := [.int p1]) (rest := []) (by decide) cM_o cls5 (c_X5_isMember (D := D) (ad := ad) l _ S_2 p1) (cwV 1 B.1.2.2.2.2 gX5_ifCycle_X5_isMember rfl rfl rfl hd_X5_isMember ⟨Nat.le_of_ble_eq_true rfl, Nat.le_of_ble_eq_true rfl⟩) rfl hls (Nat.le_of_ble_eq_true rfl) dX5_ifCycle_7 ⟨Nat.zero_le _, Nat.zero_le _⟩) (fun r_7 S_7 H locs he hW => ?_)
  obtain ⟨hr_7, hs, hz_7⟩ := he
  rw [hs] at hW
  have zk := nm_at zk hr_7
  refine lv_if_eq (tgt := 21) hx hb dX5_ifCycle_10 (by decide) (fun c_10 => ?_) (fun c_10 => ?_)
  · have zk := zk.trans (if_pos c_10)
    refine lv_aload_n hx hb dX5_ifCycle_21 rfl (lv_at hl 0 rfl) ?_
    refine lv_iconst (v := 1) hx hb dX5_ifCycle_22 (by decide) ?_
    refine x_calli hW (x_runV B hW (As := [.int 1]) (rest := []) (by decide) cM_o cls5 (c_X5_fails (D := D) (ad := ad) l _ S_2 1) (cwV 1 B.1.2.2.2.2 gX5_ifCycle_X5_fails rfl rfl rfl hd_X5_fails ⟨Nat.le_of_ble_eq_true rfl, Nat.le_of_ble_eq_true rfl⟩) rfl hls (Nat.le_of_ble_eq_true rfl) dX5_ifCycle_23 ⟨Nat.zero_le _, Nat.zero_le _⟩) (fun r_23 S_23 H locs he hW => ?_)
    have hr_23 := he
    have zk := nmp_at zk hr_23
    have he_23 : S_23 = (x_X5_fails S_2 1).2 := by rw [← hr_23]
    exact x_iret B hW zk.symm dX5_ifCycle_26
  · have zk := zk.trans (if_neg c_10)
    refine lv_aload_n hx hb dX5_ifCycle_13 rfl (lv_at hl 0 rfl) ?_
    refine lv_iload_n hx hb dX5_ifCycle_14 rfl (lv_at hl 1 rfl) ?_
    refine x_calli hW (x_runV B hW (As := [.int p1]) (rest := []) (by decide) cM_o cls5 (c_X5_limitThen (D := D) (ad := ad) l _ S_2 p1 (isN_vin (isN_var (ismem_vin hr_7 c_10) (by decide)) (by decide) (by decide))) (cwV 1 B.1.2.2.2.2 gX5_ifCycle_X5_limitThen rfl rfl rfl hd_X5_limitThen ⟨Nat.le_of_ble_eq_true rfl, Nat.le_of_ble_eq_true rfl⟩) rfl hls (Nat.le_of_ble_eq_true rfl) dX5_ifCycle_15 ⟨Nat.zero_le _, Nat.zero_le _⟩) (fun r_15 S_15 H locs he hW => ?_)
    obtain ⟨hr_15, hs⟩ := he
    rw [hs] at hW
    have zk := nm_at zk hr_15
    refine lv_goto (tgt := 26) hx hb dX5_ifCycle_18 (by decide) ?_
    exact x_iret B hW zk.symm dX5_ifCycle_26

def x_X5_share (S : vS) : UInt64 := nm (((S 1 9) + (S 1 10))) (fun x_15 => if x_15 = 0 then FP.dconst1 else (FP.ddiv (FP.i2d (S 1 11)) (FP.i2d x_15)))
theorem hd_X5_share : yX5_share.cls = RX5 ∧ yX5_share.cls ≠ "java/lang/invoke/MethodHandle" ∧ yX5_share.cls ≠ "java/lang/invoke/VarHandle" ∧ (parseMethodDescriptor yX5_share.desc).map (fun d => d.parameters.length) = some 0 := by decide +kernel
set_option maxHeartbeats 4000000 in
set_option maxRecDepth 100000 in
theorem c_X5_share {D : va_G} {ad : Nat → Nat} (l : Launch) (sz : Nat) (S : vS) : Met l yX5_share wsX5_share (rmD 0) (pW D 7 (cM D ad) ad sz S [.ref (ad 0)]) (va_Qd (fun (r : UInt64) (S1 : vS) => r = (x_X5_share S) ∧ S1 = S) (bW D 7 (cM D ad) ad (aW 7 ad sz)) (aW 7 ad sz)) 0 0 (aW 7 ad sz) := by
  refine x_met (own := RX5) (cc := cX5_share) (maxL := 2) (ret := (some .double)) (Qc := fun A => va_Qd (fun (r : UInt64) (S1 : vS) => r = (x_X5_share S) ∧ S1 = S) (bW D 7 (cM D ad) ad A) A) rfl ⟨by decide +kernel, rfl, Nat.le_of_ble_eq_true rfl⟩ ?_
  intro p e s mm args below meth c A ls B hW hl hls
  have hx := B.1.1
  have hb := B.1.2.1
  have hin_X5 : ∀ w ∈ wsX50, w ∈ wsX5_share := fun w h => List.mem_cons_of_mem _ (List.mem_append_right _ h)
  have k_7 := B.1.2.2.2.2 (.fieldLink RX5 7 "JointLoansModel" "now" "[I") (by decide +kernel)
  have zk := x_X5_share.eq_1 S
  have hl : lv_has ls 2 [(0, .ref (ad 0))] := hl
  refine lv_aload_n hx hb dX5_share_0 rfl (lv_at hl 0 rfl) ?_
  refine x_get B hW (by decide) cM_o cls5 hin_X5 0 (by decide) (v := .ref (ad 1)) rfl k_7 dX5_share_1 ?_
  refine lv_bipush (v := 9) hx hb dX5_share_4 (by decide) ?_
  refine x_iald B hW (by decide) cM_1 (isN_lit 9 (by decide)) (by decide) (by decide) dX5_share_6 ?_
  refine lv_aload_n hx hb dX5_share_7 rfl (lv_at hl 0 rfl) ?_
  refine x_get B hW (by decide) cM_o cls5 hin_X5 0 (by decide) (v := .ref (ad 1)) rfl k_7 dX5_share_8 ?_
  refine lv_bipush (v := 10) hx hb dX5_share_11 (by decide) ?_
  refine x_iald B hW (by decide) cM_1 (isN_lit 10 (by decide)) (by decide) (by decide) dX5_share_13 ?_
  refine lv_iadd hx hb dX5_share_14 ?_
  refine lv_topi (fun x_15 ex_15 => ?_)
  have zk := nm_at zk ex_15
  refine lv_istore_n (lv' := [(1, .int x_15), (0, .ref (ad 0))]) hx hb dX5_share_15 rfl hl (by decide) rfl (fun ls hl => ?_)
  have hls := hl.1
  refine lv_iload_n hx hb dX5_share_16 rfl (lv_at hl 0 rfl) ?_
  refine lv_if_ne (tgt := 24) hx hb dX5_share_17 (by decide) (fun c_17 => ?_) (fun c_17 => ?_)
  · have zk := zk.trans (if_neg c_17)
    refine lv_aload_n hx hb dX5_share_24 rfl (lv_at hl 1 rfl) ?_
    refine x_get B hW (by decide) cM_o cls5 hin_X5 0 (by decide) (v := .ref (ad 1)) rfl k_7 dX5_share_25 ?_
    refine lv_bipush (v := 11) hx hb dX5_share_28 (by decide) ?_
    refine x_iald B hW (by decide) cM_1 (isN_lit 11 (by decide)) (by decide) (by decide) dX5_share_30 ?_
    refine lv_i2d hx hb dX5_share_31 ?_
    refine lv_iload_n hx hb dX5_share_32 rfl (lv_at hl 0 rfl) ?_
    refine lv_i2d hx hb dX5_share_33 ?_
    refine lv_ddiv hx hb dX5_share_34 (dd_ok2 c_17) ?_
    exact x_dret B hW ⟨zk.symm, rfl⟩ dX5_share_35
  · have zk := zk.trans (if_pos c_17)
    refine lv_dconst1 hx hb dX5_share_20 ?_
    refine lv_goto (tgt := 35) hx hb dX5_share_21 (by decide) ?_
    exact x_dret B hW ⟨zk.symm, rfl⟩ dX5_share_35

def x_X5_paidShare (S : vS) : (UInt64 × vS) := nm (st S 0 6 0) (fun S_2 => nm (x_X5_share S_2) (fun r_6 => (r_6, S_2)))
theorem hd_X5_paidShare : yX5_paidShare.cls = RX5 ∧ yX5_paidShare.cls ≠ "java/lang/invoke/MethodHandle" ∧ yX5_paidShare.cls ≠ "java/lang/invoke/VarHandle" ∧ (parseMethodDescriptor yX5_paidShare.desc).map (fun d => d.parameters.length) = some 0 := by decide +kernel
set_option maxHeartbeats 4000000 in
set_option maxRecDepth 100000 in
theorem c_X5_paidShare {D : va_G} {ad : Nat → Nat} (l : Launch) (sz : Nat) (S : vS) : Met l yX5_paidShare wsX5_paidShare (rmD 1) (pW D 7 (cM D ad) ad sz S [.ref (ad 0)]) (va_Qd (fun (r : UInt64) (S1 : vS) => (r, S1) = (x_X5_paidShare S)) (bW D 7 (cM D ad) ad (aW 7 ad sz)) (aW 7 ad sz)) 0 0 (aW 7 ad sz) := by
  refine x_met (own := RX5) (cc := cX5_paidShare) (maxL := 1) (ret := (some .double)) (Qc := fun A => va_Qd (fun (r : UInt64) (S1 : vS) => (r, S1) = (x_X5_paidShare S)) (bW D 7 (cM D ad) ad A) A) rfl ⟨by decide +kernel, rfl, Nat.le_of_ble_eq_true rfl⟩ ?_
  intro p e s mm args below meth c A ls B hW hl hls
  have hx := B.1.1
  have hb := B.1.2.1
  have hin_X5 : ∀ w ∈ wsX50, w ∈ wsX5_paidShare := fun w h => List.mem_cons_of_mem _ (List.mem_append_right _ h)
  have k_28 := B.1.2.2.2.2 (.fieldLink RX5 28 "JointLoansModel" "thrown" "I") (by decide +kernel)
  have zk := x_X5_paidShare.eq_1 S
  have hl : lv_has ls 1 [(0, .ref (ad 0))] := hl
  refine lv_aload_n hx hb dX5_paidShare_0 rfl (lv_at hl 0 rfl) ?_
  refine lv_iconst (v := 0) hx hb dX5_paidShare_1 (by decide) ?_
  refine x_put B hW (by decide) cls5 hin_X5 6 (by decide) cM_o rfl (ty := .int) (by decide +kernel) rfl rfl (Nat.le_of_ble_eq_true rfl) (j := 6) pO_6 k_28 dX5_paidShare_2 (fun H locs S_2 he_2 hW => ?_)
  have zk := nm_at zk he_2
  have hf_S_2_0_6_1 : vp_in (S_2 0 6) 1 := by rw [he_2, st_at, if_pos ⟨rfl, rfl⟩]; exact isN_vin (isN_lit 0 (by decide)) (by decide) (by decide)
  refine lv_aload_n hx hb dX5_paidShare_5 rfl (lv_at hl 0 rfl) ?_
  refine x_calld hW (x_runV B hW (As := []) (rest := []) (by decide) cM_o cls5 (c_X5_share (D := D) (ad := ad) l _ S_2) (cwV 0 B.1.2.2.2.2 gX5_paidShare_X5_share rfl rfl rfl hd_X5_share ⟨Nat.le_of_ble_eq_true rfl, Nat.le_of_ble_eq_true rfl⟩) rfl hls (Nat.le_of_ble_eq_true rfl) dX5_paidShare_6 ⟨Nat.zero_le _, Nat.zero_le _⟩) (fun r_6 S_6 H locs he hW => ?_)
  obtain ⟨hr_6, hs⟩ := he
  rw [hs] at hW
  have zk := nm_at zk hr_6
  exact x_dret B hW zk.symm dX5_paidShare_9

end P24_model
