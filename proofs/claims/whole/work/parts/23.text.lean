section P23_text
def x_X3_add (S : vS) (p1 : Int32) : vS := if (S tO 1) < 0 then S else if 60 ≤ (S tO 1) then S else nm (st S tC (S tO 1).toNatClampNeg (vp_nar .char p1)) (fun S_25 => nm (st S_25 tO 1 ((S_25 tO 1) + 1)) (fun S_33 => S_33))
theorem hd_X3_add : yX3_add.cls = RX3 ∧ yX3_add.cls ≠ "java/lang/invoke/MethodHandle" ∧ yX3_add.cls ≠ "java/lang/invoke/VarHandle" ∧ (parseMethodDescriptor yX3_add.desc).map (fun d => d.parameters.length) = some 1 := by decide +kernel
set_option maxHeartbeats 4000000 in
set_option maxRecDepth 100000 in
theorem c_X3_add {D : va_G} {ad : Nat → Nat} (l : Launch) (sz : Nat) (S : vS) (p1 : Int32) : Met l yX3_add wsX3_add (rmD 0) (pW D 158 (cC D ad) ad sz S [.ref (ad tO), .int p1]) (va_Qv (fun (S1 : vS) => S1 = (x_X3_add S p1)) (bW D 158 (cC D ad) ad (aW 158 ad sz)) (aW 158 ad sz)) 0 0 (aW 158 ad sz) := by
  refine x_met (own := RX3) (cc := cX3_add) (maxL := 2) (ret := none) (Qc := fun A => va_Qv (fun (S1 : vS) => S1 = (x_X3_add S p1)) (bW D 158 (cC D ad) ad A) A) rfl ⟨by decide +kernel, rfl, Nat.le_of_ble_eq_true rfl⟩ ?_
  intro p e s mm args below meth c A ls B hW hl hls
  have hx := B.1.1
  have hb := B.1.2.1
  have hin_X3 : ∀ w ∈ wsX30, w ∈ wsX3_add := fun w h => List.mem_cons_of_mem _ (List.mem_append_right _ h)
  have k_15 := B.1.2.2.2.2 (.fieldLink RX3 15 "JointLoans$OrderText" "length" "I") (by decide +kernel)
  have k_9 := B.1.2.2.2.2 (.fieldLink RX3 9 "JointLoans$OrderText" "chars" "[C") (by decide +kernel)
  have zk := x_X3_add.eq_1 S p1
  have hl : lv_has ls 2 [(0, .ref (ad tO)), (1, .int p1)] := hl
  refine lv_aload_n hx hb dX3_add_0 rfl (lv_at hl 0 rfl) ?_
  refine x_get B hW hqt cC_t cls3 hin_X3 1 (by decide) (v := .int (S tO 1)) rfl k_15 dX3_add_1 ?_
  refine lv_if_lt (tgt := 36) hx hb dX3_add_4 (by decide) (fun c_4 => ?_) (fun c_4 => ?_)
  · have zk := zk.trans (if_pos c_4)
    exact x_vret B hW zk.symm dX3_add_36
  · have zk := zk.trans (if_neg c_4)
    refine lv_aload_n hx hb dX3_add_7 rfl (lv_at hl 0 rfl) ?_
    refine x_get B hW hqt cC_t cls3 hin_X3 1 (by decide) (v := .int (S tO 1)) rfl k_15 dX3_add_8 ?_
    refine lv_bipush (v := 60) hx hb dX3_add_11 (by decide) ?_
    refine lv_icmp_ge (tgt := 36) hx hb dX3_add_13 (by decide) (fun c_13 => ?_) (fun c_13 => ?_)
    · have zk := zk.trans (if_pos c_13)
      exact x_vret B hW zk.symm dX3_add_36
    · have zk := zk.trans (if_neg c_13)
      refine lv_aload_n hx hb dX3_add_16 rfl (lv_at hl 0 rfl) ?_
      refine x_get B hW hqt cC_t cls3 hin_X3 0 (by decide) (v := .ref (ad tC)) rfl k_9 dX3_add_17 ?_
      refine lv_aload_n hx hb dX3_add_20 rfl (lv_at hl 0 rfl) ?_
      refine x_get B hW hqt cC_t cls3 hin_X3 1 (by decide) (v := .int (S tO 1)) rfl k_15 dX3_add_21 ?_
      refine lv_iload_n hx hb dX3_add_24 rfl (lv_at hl 1 rfl) ?_
      refine x_cast B hW hqc (fun _ => cC_c) (isN_var (vin_of (n := 60) (N := 60) c_4 c_13 (by decide) (by decide)) (by decide)) (by decide) (by decide) dX3_add_25 (fun H locs S_25 he_25 hW => ?_)
      have zk := nm_at zk he_25
      refine lv_aload_n hx hb dX3_add_26 rfl (lv_at hl 0 rfl) ?_
      refine lv_dup hx hb dX3_add_27 rfl ?_
      refine x_get B hW hqt cC_t cls3 hin_X3 1 (by decide) (v := .int (S_25 tO 1)) rfl k_15 dX3_add_28 ?_
      refine lv_iconst (v := 1) hx hb dX3_add_31 (by decide) ?_
      refine lv_iadd hx hb dX3_add_32 ?_
      refine x_put B hW hqt cls3 hin_X3 1 (by decide) cC_t rfl (ty := .int) (by decide +kernel) rfl rfl (Nat.le_of_ble_eq_true rfl) (j := 1) pT_1 k_15 dX3_add_33 (fun H locs S_33 he_33 hW => ?_)
      have zk := nm_at zk he_33
      exact x_vret B hW zk.symm dX3_add_36

def x_X3_clear (S : vS) : vS := nm (st S tO 1 0) (fun S_2 => S_2)
theorem hd_X3_clear : yX3_clear.cls = RX3 ∧ yX3_clear.cls ≠ "java/lang/invoke/MethodHandle" ∧ yX3_clear.cls ≠ "java/lang/invoke/VarHandle" ∧ (parseMethodDescriptor yX3_clear.desc).map (fun d => d.parameters.length) = some 0 := by decide +kernel
set_option maxHeartbeats 4000000 in
set_option maxRecDepth 100000 in
theorem c_X3_clear {D : va_G} {ad : Nat → Nat} (l : Launch) (sz : Nat) (S : vS) : Met l yX3_clear wsX3_clear (rmD 0) (pW D 158 (cC D ad) ad sz S [.ref (ad tO)]) (va_Qv (fun (S1 : vS) => S1 = (x_X3_clear S)) (bW D 158 (cC D ad) ad (aW 158 ad sz)) (aW 158 ad sz)) 0 0 (aW 158 ad sz) := by
  refine x_met (own := RX3) (cc := cX3_clear) (maxL := 1) (ret := none) (Qc := fun A => va_Qv (fun (S1 : vS) => S1 = (x_X3_clear S)) (bW D 158 (cC D ad) ad A) A) rfl ⟨by decide +kernel, rfl, Nat.le_of_ble_eq_true rfl⟩ ?_
  intro p e s mm args below meth c A ls B hW hl hls
  have hx := B.1.1
  have hb := B.1.2.1
  have hin_X3 : ∀ w ∈ wsX30, w ∈ wsX3_clear := fun w h => List.mem_cons_of_mem _ (List.mem_append_right _ h)
  have k_15 := B.1.2.2.2.2 (.fieldLink RX3 15 "JointLoans$OrderText" "length" "I") (by decide +kernel)
  have zk := x_X3_clear.eq_1 S
  have hl : lv_has ls 1 [(0, .ref (ad tO))] := hl
  refine lv_aload_n hx hb dX3_clear_0 rfl (lv_at hl 0 rfl) ?_
  refine lv_iconst (v := 0) hx hb dX3_clear_1 (by decide) ?_
  refine x_put B hW hqt cls3 hin_X3 1 (by decide) cC_t rfl (ty := .int) (by decide +kernel) rfl rfl (Nat.le_of_ble_eq_true rfl) (j := 1) pT_1 k_15 dX3_clear_2 (fun H locs S_2 he_2 hW => ?_)
  have zk := nm_at zk he_2
  exact x_vret B hW zk.symm dX3_clear_5

def x_X3_restart (S : vS) : vS := nm (st S tO 2 0) (fun S_2 => S_2)
theorem hd_X3_restart : yX3_restart.cls = RX3 ∧ yX3_restart.cls ≠ "java/lang/invoke/MethodHandle" ∧ yX3_restart.cls ≠ "java/lang/invoke/VarHandle" ∧ (parseMethodDescriptor yX3_restart.desc).map (fun d => d.parameters.length) = some 0 := by decide +kernel
set_option maxHeartbeats 4000000 in
set_option maxRecDepth 100000 in
theorem c_X3_restart {D : va_G} {ad : Nat → Nat} (l : Launch) (sz : Nat) (S : vS) : Met l yX3_restart wsX3_restart (rmD 0) (pW D 158 (cC D ad) ad sz S [.ref (ad tO)]) (va_Qv (fun (S1 : vS) => S1 = (x_X3_restart S)) (bW D 158 (cC D ad) ad (aW 158 ad sz)) (aW 158 ad sz)) 0 0 (aW 158 ad sz) := by
  refine x_met (own := RX3) (cc := cX3_restart) (maxL := 1) (ret := none) (Qc := fun A => va_Qv (fun (S1 : vS) => S1 = (x_X3_restart S)) (bW D 158 (cC D ad) ad A) A) rfl ⟨by decide +kernel, rfl, Nat.le_of_ble_eq_true rfl⟩ ?_
  intro p e s mm args below meth c A ls B hW hl hls
  have hx := B.1.1
  have hb := B.1.2.1
  have hin_X3 : ∀ w ∈ wsX30, w ∈ wsX3_restart := fun w h => List.mem_cons_of_mem _ (List.mem_append_right _ h)
  have k_19 := B.1.2.2.2.2 (.fieldLink RX3 19 "JointLoans$OrderText" "place" "I") (by decide +kernel)
  have zk := x_X3_restart.eq_1 S
  have hl : lv_has ls 1 [(0, .ref (ad tO))] := hl
  refine lv_aload_n hx hb dX3_restart_0 rfl (lv_at hl 0 rfl) ?_
  refine lv_iconst (v := 0) hx hb dX3_restart_1 (by decide) ?_
  refine x_put B hW hqt cls3 hin_X3 2 (by decide) cC_t rfl (ty := .int) (by decide +kernel) rfl rfl (Nat.le_of_ble_eq_true rfl) (j := 2) pT_2 k_19 dX3_restart_2 (fun H locs S_2 he_2 hW => ?_)
  have zk := nm_at zk he_2
  exact x_vret B hW zk.symm dX3_restart_5

def x_X3_next (S : vS) : Int32 := if (S tO 2) < 0 then (-1) else if (S tO 1) ≤ (S tO 2) then (-1) else if 60 ≤ (S tO 2) then (-1) else (S tC (S tO 2).toNatClampNeg)
theorem hd_X3_next : yX3_next.cls = RX3 ∧ yX3_next.cls ≠ "java/lang/invoke/MethodHandle" ∧ yX3_next.cls ≠ "java/lang/invoke/VarHandle" ∧ (parseMethodDescriptor yX3_next.desc).map (fun d => d.parameters.length) = some 0 := by decide +kernel
set_option maxHeartbeats 4000000 in
set_option maxRecDepth 100000 in
theorem c_X3_next {D : va_G} {ad : Nat → Nat} (l : Launch) (sz : Nat) (S : vS) : Met l yX3_next wsX3_next (rmD 0) (pW D 158 (cC D ad) ad sz S [.ref (ad tO)]) (va_Qi (fun (r : Int32) (S1 : vS) => r = (x_X3_next S) ∧ S1 = S) (bW D 158 (cC D ad) ad (aW 158 ad sz)) (aW 158 ad sz)) 0 0 (aW 158 ad sz) := by
  refine x_met (own := RX3) (cc := cX3_next) (maxL := 1) (ret := (some .int)) (Qc := fun A => va_Qi (fun (r : Int32) (S1 : vS) => r = (x_X3_next S) ∧ S1 = S) (bW D 158 (cC D ad) ad A) A) rfl ⟨by decide +kernel, rfl, Nat.le_of_ble_eq_true rfl⟩ ?_
  intro p e s mm args below meth c A ls B hW hl hls
  have hx := B.1.1
  have hb := B.1.2.1
  have hin_X3 : ∀ w ∈ wsX30, w ∈ wsX3_next := fun w h => List.mem_cons_of_mem _ (List.mem_append_right _ h)
  have k_15 := B.1.2.2.2.2 (.fieldLink RX3 15 "JointLoans$OrderText" "length" "I") (by decide +kernel)
  have k_19 := B.1.2.2.2.2 (.fieldLink RX3 19 "JointLoans$OrderText" "place" "I") (by decide +kernel)
  have k_9 := B.1.2.2.2.2 (.fieldLink RX3 9 "JointLoans$OrderText" "chars" "[C") (by decide +kernel)
  have zk := x_X3_next.eq_1 S
  have hl : lv_has ls 1 [(0, .ref (ad tO))] := hl
  refine lv_aload_n hx hb dX3_next_0 rfl (lv_at hl 0 rfl) ?_
  refine x_get B hW hqt cC_t cls3 hin_X3 2 (by decide) (v := .int (S tO 2)) rfl k_19 dX3_next_1 ?_
  refine lv_if_lt (tgt := 39) hx hb dX3_next_4 (by decide) (fun c_4 => ?_) (fun c_4 => ?_)
  · have zk := zk.trans (if_pos c_4)
    refine lv_iconst (v := (-1)) hx hb dX3_next_39 (by decide) ?_
    exact x_iret B hW ⟨zk.symm, rfl⟩ dX3_next_40
  · have zk := zk.trans (if_neg c_4)
    refine lv_aload_n hx hb dX3_next_7 rfl (lv_at hl 0 rfl) ?_
    refine x_get B hW hqt cC_t cls3 hin_X3 2 (by decide) (v := .int (S tO 2)) rfl k_19 dX3_next_8 ?_
    refine lv_aload_n hx hb dX3_next_11 rfl (lv_at hl 0 rfl) ?_
    refine x_get B hW hqt cC_t cls3 hin_X3 1 (by decide) (v := .int (S tO 1)) rfl k_15 dX3_next_12 ?_
    refine lv_icmp_ge (tgt := 39) hx hb dX3_next_15 (by decide) (fun c_15 => ?_) (fun c_15 => ?_)
    · have zk := zk.trans (if_pos c_15)
      refine lv_iconst (v := (-1)) hx hb dX3_next_39 (by decide) ?_
      exact x_iret B hW ⟨zk.symm, rfl⟩ dX3_next_40
    · have zk := zk.trans (if_neg c_15)
      refine lv_aload_n hx hb dX3_next_18 rfl (lv_at hl 0 rfl) ?_
      refine x_get B hW hqt cC_t cls3 hin_X3 2 (by decide) (v := .int (S tO 2)) rfl k_19 dX3_next_19 ?_
      refine lv_bipush (v := 60) hx hb dX3_next_22 (by decide) ?_
      refine lv_icmp_ge (tgt := 39) hx hb dX3_next_24 (by decide) (fun c_24 => ?_) (fun c_24 => ?_)
      · have zk := zk.trans (if_pos c_24)
        refine lv_iconst (v := (-1)) hx hb dX3_next_39 (by decide) ?_
        exact x_iret B hW ⟨zk.symm, rfl⟩ dX3_next_40
      · have zk := zk.trans (if_neg c_24)
        refine lv_aload_n hx hb dX3_next_27 rfl (lv_at hl 0 rfl) ?_
        refine x_get B hW hqt cC_t cls3 hin_X3 0 (by decide) (v := .ref (ad tC)) rfl k_9 dX3_next_28 ?_
        refine lv_aload_n hx hb dX3_next_31 rfl (lv_at hl 0 rfl) ?_
        refine x_get B hW hqt cC_t cls3 hin_X3 2 (by decide) (v := .int (S tO 2)) rfl k_19 dX3_next_32 ?_
        refine x_cald B hW hqc cC_c (isN_var (vin_of (n := 60) (N := 60) c_4 c_24 (by decide) (by decide)) (by decide)) (by decide) (by decide) dX3_next_35 ?_
        refine lv_goto (tgt := 40) hx hb dX3_next_36 (by decide) ?_
        exact x_iret B hW ⟨zk.symm, rfl⟩ dX3_next_40

def x_X3_readMark (S : vS) (p1 : Int32) : (Int32 × vS) := nm (x_X3_next S) (fun r_1 => if r_1 = p1 then nm (st S tO 2 ((S tO 2) + 1)) (fun S_25 => (1, S_25)) else (0, S))
theorem hd_X3_readMark : yX3_readMark.cls = RX3 ∧ yX3_readMark.cls ≠ "java/lang/invoke/MethodHandle" ∧ yX3_readMark.cls ≠ "java/lang/invoke/VarHandle" ∧ (parseMethodDescriptor yX3_readMark.desc).map (fun d => d.parameters.length) = some 1 := by decide +kernel
set_option maxHeartbeats 4000000 in
set_option maxRecDepth 100000 in
theorem c_X3_readMark {D : va_G} {ad : Nat → Nat} (l : Launch) (sz : Nat) (S : vS) (p1 : Int32) : Met l yX3_readMark wsX3_readMark (rmD 1) (pW D 158 (cC D ad) ad sz S [.ref (ad tO), .int p1]) (va_Qi (fun (r : Int32) (S1 : vS) => (r, S1) = (x_X3_readMark S p1) ∧ (r = 0 ∨ r = 1)) (bW D 158 (cC D ad) ad (aW 158 ad sz)) (aW 158 ad sz)) 0 0 (aW 158 ad sz) := by
  refine x_met (own := RX3) (cc := cX3_readMark) (maxL := 3) (ret := (some .boolean)) (Qc := fun A => va_Qi (fun (r : Int32) (S1 : vS) => (r, S1) = (x_X3_readMark S p1) ∧ (r = 0 ∨ r = 1)) (bW D 158 (cC D ad) ad A) A) rfl ⟨by decide +kernel, rfl, Nat.le_of_ble_eq_true rfl⟩ ?_
  intro p e s mm args below meth c A ls B hW hl hls
  have hx := B.1.1
  have hb := B.1.2.1
  have hin_X3 : ∀ w ∈ wsX30, w ∈ wsX3_readMark := fun w h => List.mem_cons_of_mem _ (List.mem_append_right _ h)
  have k_19 := B.1.2.2.2.2 (.fieldLink RX3 19 "JointLoans$OrderText" "place" "I") (by decide +kernel)
  have zk := x_X3_readMark.eq_1 S p1
  have hl : lv_has ls 3 [(0, .ref (ad tO)), (1, .int p1)] := hl
  refine lv_aload_n hx hb dX3_readMark_0 rfl (lv_at hl 0 rfl) ?_
  refine x_calli hW (x_runV B hW (As := []) (rest := []) hqt cC_t cls3 (c_X3_next (D := D) (ad := ad) l _ S) (cwV 0 B.1.2.2.2.2 gX3_readMark_X3_next rfl rfl rfl hd_X3_next ⟨Nat.le_of_ble_eq_true rfl, Nat.le_of_ble_eq_true rfl⟩) rfl hls (Nat.le_of_ble_eq_true rfl) dX3_readMark_1 ⟨Nat.zero_le _, Nat.zero_le _⟩) (fun r_1 S_1 H locs he hW => ?_)
  obtain ⟨hr_1, hs⟩ := he
  rw [hs] at hW
  have zk := nm_at zk hr_1
  refine lv_iload_n hx hb dX3_readMark_4 rfl (lv_at hl 1 rfl) ?_
  refine lv_icmp_ne (tgt := 12) hx hb dX3_readMark_5 (by decide) (fun c_5 => ?_) (fun c_5 => ?_)
  · have zk := zk.trans (if_neg c_5)
    refine lv_iconst (v := 0) hx hb dX3_readMark_12 (by decide) ?_
    refine lv_istore_n (lv' := [(2, .int 0), (0, .ref (ad tO)), (1, .int p1)]) hx hb dX3_readMark_13 rfl hl (by decide) rfl (fun ls hl => ?_)
    have hls := hl.1
    refine lv_iload_n hx hb dX3_readMark_14 rfl (lv_at hl 0 rfl) ?_
    refine lv_if_eq (tgt := 28) hx hb dX3_readMark_15 (by decide) (fun c_15 => ?_) (fun c_15 => ?_)
    rotate_left
    · exact absurd c_15 (by decide)
    refine lv_iload_n hx hb dX3_readMark_28 rfl (lv_at hl 0 rfl) ?_
    exact x_zret B hW (Or.inl rfl) ⟨zk.symm, (Or.inl rfl)⟩ dX3_readMark_29
  · have zk := zk.trans (if_pos c_5)
    refine lv_iconst (v := 1) hx hb dX3_readMark_8 (by decide) ?_
    refine lv_goto (tgt := 13) hx hb dX3_readMark_9 (by decide) ?_
    refine lv_istore_n (lv' := [(2, .int 1), (0, .ref (ad tO)), (1, .int p1)]) hx hb dX3_readMark_13 rfl hl (by decide) rfl (fun ls hl => ?_)
    have hls := hl.1
    refine lv_iload_n hx hb dX3_readMark_14 rfl (lv_at hl 0 rfl) ?_
    refine lv_if_eq (tgt := 28) hx hb dX3_readMark_15 (by decide) (fun c_15 => ?_) (fun c_15 => ?_)
    · exact absurd c_15 (by decide)
    refine lv_aload_n hx hb dX3_readMark_18 rfl (lv_at hl 1 rfl) ?_
    refine lv_dup hx hb dX3_readMark_19 rfl ?_
    refine x_get B hW hqt cC_t cls3 hin_X3 2 (by decide) (v := .int (S tO 2)) rfl k_19 dX3_readMark_20 ?_
    refine lv_iconst (v := 1) hx hb dX3_readMark_23 (by decide) ?_
    refine lv_iadd hx hb dX3_readMark_24 ?_
    refine x_put B hW hqt cls3 hin_X3 2 (by decide) cC_t rfl (ty := .int) (by decide +kernel) rfl rfl (Nat.le_of_ble_eq_true rfl) (j := 2) pT_2 k_19 dX3_readMark_25 (fun H locs S_25 he_25 hW => ?_)
    have zk := nm_at zk he_25
    refine lv_iload_n hx hb dX3_readMark_28 rfl (lv_at hl 0 rfl) ?_
    exact x_zret B hW (Or.inr rfl) ⟨zk.symm, (Or.inr rfl)⟩ dX3_readMark_29

def x_X3_readNumber_L4 : Nat → vS → Int32 → Nat → Int32 → (Int32 × vS)
  | 0, S, _, _, _ => (0, S)
  | n + 1, S, p1, n3, v2 => if 60 ≤ (nI n3) then (v2, S) else nm (x_X3_next S) (fun r_11 => nm ((r_11 - 48)) (fun x_17 => nm (((v2 * 10) + x_17)) (fun x_26 => if x_17 < 0 then (v2, S) else if 9 < x_17 then (v2, S) else if x_26 < 1 then (v2, S) else if x_26 ≤ p1 then nm (st S tO 2 ((S tO 2) + 1)) (fun S_65 => x_X3_readNumber_L4 n S_65 p1 ((n3 + 1)) (x_26)) else (v2, S))))
def x_X3_readNumber (S : vS) (p1 : Int32) : (Int32 × vS) := x_X3_readNumber_L4 (61) S p1 (0) (0)
theorem hd_X3_readNumber : yX3_readNumber.cls = RX3 ∧ yX3_readNumber.cls ≠ "java/lang/invoke/MethodHandle" ∧ yX3_readNumber.cls ≠ "java/lang/invoke/VarHandle" ∧ (parseMethodDescriptor yX3_readNumber.desc).map (fun d => d.parameters.length) = some 1 := by decide +kernel
set_option maxHeartbeats 4000000 in
set_option maxRecDepth 100000 in
theorem w_X3_readNumber_L4 {D : va_G} {ad : Nat → Nat} (l : Launch) {p : Program} {e : Env} {s : State} {mm : MethodId} {args : Array Value} {below : List Frame} {meth : Method} {c : Code} {A : Nat → Prop} (B : Cx p mm c cX3_readNumber 6 s args wsX3_readNumber RX3 meth (some .int) D) (z : (Int32 × vS)) (p1 : Int32) : ∀ (n : Nat) (n3 : Nat) (v2 : Int32) (S : vS) (H : Heap) (locs : List Loc) (ls : Array Slot), n3 ≤ 60 → n3 + n = 61 → Wd D 158 (cC D ad) ad A s.heap S H locs → lv_has ls 6 [(3, .int (nI n3)), (2, .int v2), (0, .ref (ad tO)), (1, .int p1)] → ls.size = 6 → z = x_X3_readNumber_L4 n S p1 n3 v2 → W p l e (rmD 1) s mm args below meth c H locs 0 0 (MQ below (va_Qi (fun (r : Int32) (S1 : vS) => (r, S1) = z) (bW D 158 (cC D ad) ad A) A) args s 0 0 A) (F0 mm 4 ls []) := by
  have hx := B.1.1
  have hb := B.1.2.1
  have hin_X3 : ∀ w ∈ wsX30, w ∈ wsX3_readNumber := fun w h => List.mem_cons_of_mem _ (List.mem_append_right _ h)
  have k_19 := B.1.2.2.2.2 (.fieldLink RX3 19 "JointLoans$OrderText" "place" "I") (by decide +kernel)
  intro n
  induction n with
  | zero =>
    intro n3 v2 S H locs ls hle hsum
    omega
  | succ n ih =>
    intro n3 v2 S H locs ls hle hsum hW hl hls zk
    have zk := zk.trans (x_X3_readNumber_L4.eq_2 _ _ _ _ _ )
    refine lv_iload_n hx hb dX3_readNumber_4 rfl (lv_at hl 0 rfl) ?_
    refine lv_bipush (v := 60) hx hb dX3_readNumber_5 (by decide) ?_
    refine lv_icmp_ge (tgt := 74) hx hb dX3_readNumber_7 (by decide) (fun c_7 => ?_) (fun c_7 => ?_)
    · have zk := zk.trans (if_pos c_7)
      refine lv_iload_n hx hb dX3_readNumber_74 rfl (lv_at hl 1 rfl) ?_
      exact x_iret B hW zk.symm dX3_readNumber_75
    · have zk := zk.trans (if_neg c_7)
      have hb_c_7 : n3 < 60 := nI_of_nle (by decide) c_7 (by omega)
      refine lv_aload_n hx hb dX3_readNumber_10 rfl (lv_at hl 2 rfl) ?_
      refine x_calli hW (x_runV B hW (As := []) (rest := []) hqt cC_t cls3 (c_X3_next (D := D) (ad := ad) l _ S) (cwV 0 B.1.2.2.2.2 gX3_readNumber_X3_next rfl rfl rfl hd_X3_next ⟨Nat.le_of_ble_eq_true rfl, Nat.le_of_ble_eq_true rfl⟩) rfl hls (Nat.le_of_ble_eq_true rfl) dX3_readNumber_11 ⟨Nat.zero_le _, Nat.zero_le _⟩) (fun r_11 S_11 H locs he hW => ?_)
      obtain ⟨hr_11, hs⟩ := he
      rw [hs] at hW
      have zk := nm_at zk hr_11
      refine lv_bipush (v := 48) hx hb dX3_readNumber_14 (by decide) ?_
      refine lv_isub hx hb dX3_readNumber_16 ?_
      refine lv_topi (fun x_17 ex_17 => ?_)
      have zk := nm_at zk ex_17
      refine lv_istore (lv' := [(4, .int x_17), (3, .int (nI n3)), (2, .int v2), (0, .ref (ad tO)), (1, .int p1)]) hx hb dX3_readNumber_17 hl (by decide) rfl (fun ls hl => ?_)
      have hls := hl.1
      refine lv_iload_n hx hb dX3_readNumber_19 rfl (lv_at hl 2 rfl) ?_
      refine lv_bipush (v := 10) hx hb dX3_readNumber_20 (by decide) ?_
      refine lv_imul hx hb dX3_readNumber_22 ?_
      refine lv_iload hx hb dX3_readNumber_23 (lv_at hl 0 rfl) ?_
      refine lv_iadd hx hb dX3_readNumber_25 ?_
      refine lv_topi (fun x_26 ex_26 => ?_)
      have zk := nm_at zk ex_26
      refine lv_istore (lv' := [(5, .int x_26), (4, .int x_17), (3, .int (nI n3)), (2, .int v2), (0, .ref (ad tO)), (1, .int p1)]) hx hb dX3_readNumber_26 hl (by decide) rfl (fun ls hl => ?_)
      have hls := hl.1
      refine lv_iload hx hb dX3_readNumber_28 (lv_at hl 1 rfl) ?_
      refine lv_if_lt (tgt := 74) hx hb dX3_readNumber_30 (by decide) (fun c_30 => ?_) (fun c_30 => ?_)
      · have zk := zk.trans (if_pos c_30)
        refine lv_iload_n hx hb dX3_readNumber_74 rfl (lv_at hl 3 rfl) ?_
        exact x_iret B hW zk.symm dX3_readNumber_75
      · have zk := zk.trans (if_neg c_30)
        refine lv_iload hx hb dX3_readNumber_33 (lv_at hl 1 rfl) ?_
        refine lv_bipush (v := 9) hx hb dX3_readNumber_35 (by decide) ?_
        refine lv_icmp_gt (tgt := 74) hx hb dX3_readNumber_37 (by decide) (fun c_37 => ?_) (fun c_37 => ?_)
        · have zk := zk.trans (if_pos c_37)
          refine lv_iload_n hx hb dX3_readNumber_74 rfl (lv_at hl 3 rfl) ?_
          exact x_iret B hW zk.symm dX3_readNumber_75
        · have zk := zk.trans (if_neg c_37)
          refine lv_iload hx hb dX3_readNumber_40 (lv_at hl 0 rfl) ?_
          refine lv_iconst (v := 1) hx hb dX3_readNumber_42 (by decide) ?_
          refine lv_icmp_lt (tgt := 74) hx hb dX3_readNumber_43 (by decide) (fun c_43 => ?_) (fun c_43 => ?_)
          · have zk := zk.trans (if_pos c_43)
            refine lv_iload_n hx hb dX3_readNumber_74 rfl (lv_at hl 3 rfl) ?_
            exact x_iret B hW zk.symm dX3_readNumber_75
          · have zk := zk.trans (if_neg c_43)
            refine lv_iload hx hb dX3_readNumber_46 (lv_at hl 0 rfl) ?_
            refine lv_iload_n hx hb dX3_readNumber_48 rfl (lv_at hl 5 rfl) ?_
            refine lv_icmp_le (tgt := 55) hx hb dX3_readNumber_49 (by decide) (fun c_49 => ?_) (fun c_49 => ?_)
            · have zk := zk.trans (if_pos c_49)
              refine lv_iload hx hb dX3_readNumber_55 (lv_at hl 0 rfl) ?_
              refine lv_istore_n (lv' := [(2, .int x_26), (5, .int x_26), (4, .int x_17), (3, .int (nI n3)), (0, .ref (ad tO)), (1, .int p1)]) hx hb dX3_readNumber_57 rfl hl (by decide) rfl (fun ls hl => ?_)
              have hls := hl.1
              refine lv_aload_n hx hb dX3_readNumber_58 rfl (lv_at hl 4 rfl) ?_
              refine lv_dup hx hb dX3_readNumber_59 rfl ?_
              refine x_get B hW hqt cC_t cls3 hin_X3 2 (by decide) (v := .int (S tO 2)) rfl k_19 dX3_readNumber_60 ?_
              refine lv_iconst (v := 1) hx hb dX3_readNumber_63 (by decide) ?_
              refine lv_iadd hx hb dX3_readNumber_64 ?_
              refine x_put B hW hqt cls3 hin_X3 2 (by decide) cC_t rfl (ty := .int) (by decide +kernel) rfl rfl (Nat.le_of_ble_eq_true rfl) (j := 2) pT_2 k_19 dX3_readNumber_65 (fun H locs S_65 he_65 hW => ?_)
              have zk := nm_at zk he_65
              refine lv_iinc (v := (nI (n3 + 1))) (lv' := [(3, .int (nI (n3 + 1))), (2, .int x_26), (5, .int x_26), (4, .int x_17), (0, .ref (ad tO)), (1, .int p1)]) hx hb dX3_readNumber_68 hl (k := 3) rfl (nI_1 _) (by decide) rfl (fun ls hl => ?_)
              have hls := hl.1
              refine lv_goto (tgt := 4) hx hb dX3_readNumber_71 (by decide) ?_
              exact ih ((n3 + 1)) (x_26) S_65 _ _ _ (show (n3 + 1) ≤ 60 by omega) (show (n3 + 1) + n = 61 by omega) hW (lv_sub hl [0, 1, 4, 5] rfl) hls zk
            · have zk := zk.trans (if_neg c_49)
              refine lv_goto (tgt := 74) hx hb dX3_readNumber_52 (by decide) ?_
              refine lv_iload_n hx hb dX3_readNumber_74 rfl (lv_at hl 3 rfl) ?_
              exact x_iret B hW zk.symm dX3_readNumber_75
set_option maxHeartbeats 4000000 in
set_option maxRecDepth 100000 in
theorem c_X3_readNumber {D : va_G} {ad : Nat → Nat} (l : Launch) (sz : Nat) (S : vS) (p1 : Int32) : Met l yX3_readNumber wsX3_readNumber (rmD 1) (pW D 158 (cC D ad) ad sz S [.ref (ad tO), .int p1]) (va_Qi (fun (r : Int32) (S1 : vS) => (r, S1) = (x_X3_readNumber S p1)) (bW D 158 (cC D ad) ad (aW 158 ad sz)) (aW 158 ad sz)) 0 0 (aW 158 ad sz) := by
  refine x_met (own := RX3) (cc := cX3_readNumber) (maxL := 6) (ret := (some .int)) (Qc := fun A => va_Qi (fun (r : Int32) (S1 : vS) => (r, S1) = (x_X3_readNumber S p1)) (bW D 158 (cC D ad) ad A) A) rfl ⟨by decide +kernel, rfl, Nat.le_of_ble_eq_true rfl⟩ ?_
  intro p e s mm args below meth c A ls B hW hl hls
  have hx := B.1.1
  have hb := B.1.2.1
  have hin_X3 : ∀ w ∈ wsX30, w ∈ wsX3_readNumber := fun w h => List.mem_cons_of_mem _ (List.mem_append_right _ h)
  have k_19 := B.1.2.2.2.2 (.fieldLink RX3 19 "JointLoans$OrderText" "place" "I") (by decide +kernel)
  have zk := x_X3_readNumber.eq_1 S p1
  have hl : lv_has ls 6 [(0, .ref (ad tO)), (1, .int p1)] := hl
  refine lv_iconst (v := 0) hx hb dX3_readNumber_0 (by decide) ?_
  refine lv_istore_n (lv' := [(2, .int 0), (0, .ref (ad tO)), (1, .int p1)]) hx hb dX3_readNumber_1 rfl hl (by decide) rfl (fun ls hl => ?_)
  have hls := hl.1
  refine lv_iconst (v := 0) hx hb dX3_readNumber_2 (by decide) ?_
  refine lv_istore_n (lv' := [(3, .int 0), (2, .int 0), (0, .ref (ad tO)), (1, .int p1)]) hx hb dX3_readNumber_3 rfl hl (by decide) rfl (fun ls hl => ?_)
  have hls := hl.1
  exact w_X3_readNumber_L4 l B  _ p1 (61) (0) (0) S _ _ _ (show 0 ≤ 60 by omega) (show 0 + (61) = 61 by omega) hW (lv_sub hl [0, 1, 2, 3] rfl) hls zk

def x_X3_readAmount (S : vS) (p1 : Int32) (p2 : Int32) : (Int32 × vS) := nmp (x_X3_readNumber S p2) (fun r_3 S_3 => nm (st S_3 tO 5 r_3) (fun S_6 => if (S_6 tO 5) < p1 then (0, S_6) else (1, S_6)))
theorem hd_X3_readAmount : yX3_readAmount.cls = RX3 ∧ yX3_readAmount.cls ≠ "java/lang/invoke/MethodHandle" ∧ yX3_readAmount.cls ≠ "java/lang/invoke/VarHandle" ∧ (parseMethodDescriptor yX3_readAmount.desc).map (fun d => d.parameters.length) = some 2 := by decide +kernel
set_option maxHeartbeats 4000000 in
set_option maxRecDepth 100000 in
theorem c_X3_readAmount {D : va_G} {ad : Nat → Nat} (l : Launch) (sz : Nat) (S : vS) (p1 : Int32) (p2 : Int32) : Met l yX3_readAmount wsX3_readAmount (rmD 2) (pW D 158 (cC D ad) ad sz S [.ref (ad tO), .int p1, .int p2]) (va_Qi (fun (r : Int32) (S1 : vS) => (r, S1) = (x_X3_readAmount S p1 p2) ∧ (r = 0 ∨ r = 1)) (bW D 158 (cC D ad) ad (aW 158 ad sz)) (aW 158 ad sz)) 0 0 (aW 158 ad sz) := by
  refine x_met (own := RX3) (cc := cX3_readAmount) (maxL := 3) (ret := (some .boolean)) (Qc := fun A => va_Qi (fun (r : Int32) (S1 : vS) => (r, S1) = (x_X3_readAmount S p1 p2) ∧ (r = 0 ∨ r = 1)) (bW D 158 (cC D ad) ad A) A) rfl ⟨by decide +kernel, rfl, Nat.le_of_ble_eq_true rfl⟩ ?_
  intro p e s mm args below meth c A ls B hW hl hls
  have hx := B.1.1
  have hb := B.1.2.1
  have hin_X3 : ∀ w ∈ wsX30, w ∈ wsX3_readAmount := fun w h => List.mem_cons_of_mem _ (List.mem_append_right _ h)
  have k_81 := B.1.2.2.2.2 (.fieldLink RX3 81 "JointLoans$OrderText" "amount" "I") (by decide +kernel)
  have zk := x_X3_readAmount.eq_1 S p1 p2
  have hl : lv_has ls 3 [(0, .ref (ad tO)), (1, .int p1), (2, .int p2)] := hl
  refine lv_aload_n hx hb dX3_readAmount_0 rfl (lv_at hl 0 rfl) ?_
  refine lv_aload_n hx hb dX3_readAmount_1 rfl (lv_at hl 0 rfl) ?_
  refine lv_iload_n hx hb dX3_readAmount_2 rfl (lv_at hl 2 rfl) ?_
  refine x_calli hW (x_runV B hW (As := [.int p2]) (rest := .ref (ad tO) :: []) hqt cC_t cls3 (c_X3_readNumber (D := D) (ad := ad) l _ S p2) (cwV 1 B.1.2.2.2.2 gX3_readAmount_X3_readNumber rfl rfl rfl hd_X3_readNumber ⟨Nat.le_of_ble_eq_true rfl, Nat.le_of_ble_eq_true rfl⟩) rfl hls (Nat.le_of_ble_eq_true rfl) dX3_readAmount_3 ⟨Nat.zero_le _, Nat.zero_le _⟩) (fun r_3 S_3 H locs he hW => ?_)
  have hr_3 := he
  have zk := nmp_at zk hr_3
  have he_3 : S_3 = (x_X3_readNumber S p2).2 := by rw [← hr_3]
  refine x_put B hW hqt cls3 hin_X3 5 (by decide) cC_t rfl (ty := .int) (by decide +kernel) rfl rfl (Nat.le_of_ble_eq_true rfl) (j := 5) pT_5 k_81 dX3_readAmount_6 (fun H locs S_6 he_6 hW => ?_)
  have zk := nm_at zk he_6
  refine lv_aload_n hx hb dX3_readAmount_9 rfl (lv_at hl 0 rfl) ?_
  refine x_get B hW hqt cC_t cls3 hin_X3 5 (by decide) (v := .int (S_6 tO 5)) rfl k_81 dX3_readAmount_10 ?_
  refine lv_iload_n hx hb dX3_readAmount_13 rfl (lv_at hl 1 rfl) ?_
  refine lv_icmp_lt (tgt := 21) hx hb dX3_readAmount_14 (by decide) (fun c_14 => ?_) (fun c_14 => ?_)
  · have zk := zk.trans (if_pos c_14)
    refine lv_iconst (v := 0) hx hb dX3_readAmount_21 (by decide) ?_
    exact x_zret B hW (Or.inl rfl) ⟨zk.symm, (Or.inl rfl)⟩ dX3_readAmount_22
  · have zk := zk.trans (if_neg c_14)
    refine lv_iconst (v := 1) hx hb dX3_readAmount_17 (by decide) ?_
    refine lv_goto (tgt := 22) hx hb dX3_readAmount_18 (by decide) ?_
    exact x_zret B hW (Or.inr rfl) ⟨zk.symm, (Or.inr rfl)⟩ dX3_readAmount_22

def x_X3_readWeeks (S : vS) : (Int32 × vS) := nmp (x_X3_readNumber S 52) (fun r_4 S_4 => nm (st S_4 tO 6 r_4) (fun S_7 => if (S_7 tO 6) < 1 then (0, S_7) else (1, S_7)))
theorem hd_X3_readWeeks : yX3_readWeeks.cls = RX3 ∧ yX3_readWeeks.cls ≠ "java/lang/invoke/MethodHandle" ∧ yX3_readWeeks.cls ≠ "java/lang/invoke/VarHandle" ∧ (parseMethodDescriptor yX3_readWeeks.desc).map (fun d => d.parameters.length) = some 0 := by decide +kernel
set_option maxHeartbeats 4000000 in
set_option maxRecDepth 100000 in
theorem c_X3_readWeeks {D : va_G} {ad : Nat → Nat} (l : Launch) (sz : Nat) (S : vS) : Met l yX3_readWeeks wsX3_readWeeks (rmD 2) (pW D 158 (cC D ad) ad sz S [.ref (ad tO)]) (va_Qi (fun (r : Int32) (S1 : vS) => (r, S1) = (x_X3_readWeeks S) ∧ (r = 0 ∨ r = 1)) (bW D 158 (cC D ad) ad (aW 158 ad sz)) (aW 158 ad sz)) 0 0 (aW 158 ad sz) := by
  refine x_met (own := RX3) (cc := cX3_readWeeks) (maxL := 1) (ret := (some .boolean)) (Qc := fun A => va_Qi (fun (r : Int32) (S1 : vS) => (r, S1) = (x_X3_readWeeks S) ∧ (r = 0 ∨ r = 1)) (bW D 158 (cC D ad) ad A) A) rfl ⟨by decide +kernel, rfl, Nat.le_of_ble_eq_true rfl⟩ ?_
  intro p e s mm args below meth c A ls B hW hl hls
  have hx := B.1.1
  have hb := B.1.2.1
  have hin_X3 : ∀ w ∈ wsX30, w ∈ wsX3_readWeeks := fun w h => List.mem_cons_of_mem _ (List.mem_append_right _ h)
  have k_84 := B.1.2.2.2.2 (.fieldLink RX3 84 "JointLoans$OrderText" "weeks" "I") (by decide +kernel)
  have zk := x_X3_readWeeks.eq_1 S
  have hl : lv_has ls 1 [(0, .ref (ad tO))] := hl
  refine lv_aload_n hx hb dX3_readWeeks_0 rfl (lv_at hl 0 rfl) ?_
  refine lv_aload_n hx hb dX3_readWeeks_1 rfl (lv_at hl 0 rfl) ?_
  refine lv_bipush (v := 52) hx hb dX3_readWeeks_2 (by decide) ?_
  refine x_calli hW (x_runV B hW (As := [.int 52]) (rest := .ref (ad tO) :: []) hqt cC_t cls3 (c_X3_readNumber (D := D) (ad := ad) l _ S 52) (cwV 1 B.1.2.2.2.2 gX3_readWeeks_X3_readNumber rfl rfl rfl hd_X3_readNumber ⟨Nat.le_of_ble_eq_true rfl, Nat.le_of_ble_eq_true rfl⟩) rfl hls (Nat.le_of_ble_eq_true rfl) dX3_readWeeks_4 ⟨Nat.zero_le _, Nat.zero_le _⟩) (fun r_4 S_4 H locs he hW => ?_)
  have hr_4 := he
  have zk := nmp_at zk hr_4
  have he_4 : S_4 = (x_X3_readNumber S 52).2 := by rw [← hr_4]
  refine x_put B hW hqt cls3 hin_X3 6 (by decide) cC_t rfl (ty := .int) (by decide +kernel) rfl rfl (Nat.le_of_ble_eq_true rfl) (j := 6) pT_6 k_84 dX3_readWeeks_7 (fun H locs S_7 he_7 hW => ?_)
  have zk := nm_at zk he_7
  refine lv_aload_n hx hb dX3_readWeeks_10 rfl (lv_at hl 0 rfl) ?_
  refine x_get B hW hqt cC_t cls3 hin_X3 6 (by decide) (v := .int (S_7 tO 6)) rfl k_84 dX3_readWeeks_11 ?_
  refine lv_iconst (v := 1) hx hb dX3_readWeeks_14 (by decide) ?_
  refine lv_icmp_lt (tgt := 22) hx hb dX3_readWeeks_15 (by decide) (fun c_15 => ?_) (fun c_15 => ?_)
  · have zk := zk.trans (if_pos c_15)
    refine lv_iconst (v := 0) hx hb dX3_readWeeks_22 (by decide) ?_
    exact x_zret B hW (Or.inl rfl) ⟨zk.symm, (Or.inl rfl)⟩ dX3_readWeeks_23
  · have zk := zk.trans (if_neg c_15)
    refine lv_iconst (v := 1) hx hb dX3_readWeeks_18 (by decide) ?_
    refine lv_goto (tgt := 23) hx hb dX3_readWeeks_19 (by decide) ?_
    exact x_zret B hW (Or.inr rfl) ⟨zk.symm, (Or.inr rfl)⟩ dX3_readWeeks_23

def x_X3_readWho (S : vS) : (Int32 × vS) := nm (x_X3_next S) (fun r_2 => nm (st S tO 4 (r_2 - 48)) (fun S_8 => if (S_8 tO 4) < 0 then (0, S_8) else if 8 ≤ (S_8 tO 4) then (0, S_8) else nm (st S_8 tO 2 ((S_8 tO 2) + 1)) (fun S_44 => (1, S_44))))
theorem hd_X3_readWho : yX3_readWho.cls = RX3 ∧ yX3_readWho.cls ≠ "java/lang/invoke/MethodHandle" ∧ yX3_readWho.cls ≠ "java/lang/invoke/VarHandle" ∧ (parseMethodDescriptor yX3_readWho.desc).map (fun d => d.parameters.length) = some 0 := by decide +kernel
set_option maxHeartbeats 4000000 in
set_option maxRecDepth 100000 in
theorem c_X3_readWho {D : va_G} {ad : Nat → Nat} (l : Launch) (sz : Nat) (S : vS) : Met l yX3_readWho wsX3_readWho (rmD 1) (pW D 158 (cC D ad) ad sz S [.ref (ad tO)]) (va_Qi (fun (r : Int32) (S1 : vS) => (r, S1) = (x_X3_readWho S) ∧ (r = 0 ∨ r = 1)) (bW D 158 (cC D ad) ad (aW 158 ad sz)) (aW 158 ad sz)) 0 0 (aW 158 ad sz) := by
  refine x_met (own := RX3) (cc := cX3_readWho) (maxL := 2) (ret := (some .boolean)) (Qc := fun A => va_Qi (fun (r : Int32) (S1 : vS) => (r, S1) = (x_X3_readWho S) ∧ (r = 0 ∨ r = 1)) (bW D 158 (cC D ad) ad A) A) rfl ⟨by decide +kernel, rfl, Nat.le_of_ble_eq_true rfl⟩ ?_
  intro p e s mm args below meth c A ls B hW hl hls
  have hx := B.1.1
  have hb := B.1.2.1
  have hin_X3 : ∀ w ∈ wsX30, w ∈ wsX3_readWho := fun w h => List.mem_cons_of_mem _ (List.mem_append_right _ h)
  have k_19 := B.1.2.2.2.2 (.fieldLink RX3 19 "JointLoans$OrderText" "place" "I") (by decide +kernel)
  have k_74 := B.1.2.2.2.2 (.fieldLink RX3 74 "JointLoans$OrderText" "who" "I") (by decide +kernel)
  have zk := x_X3_readWho.eq_1 S
  have hl : lv_has ls 2 [(0, .ref (ad tO))] := hl
  refine lv_aload_n hx hb dX3_readWho_0 rfl (lv_at hl 0 rfl) ?_
  refine lv_aload_n hx hb dX3_readWho_1 rfl (lv_at hl 0 rfl) ?_
  refine x_calli hW (x_runV B hW (As := []) (rest := .ref (ad tO) :: []) hqt cC_t cls3 (c_X3_next (D := D) (ad := ad) l _ S) (cwV 0 B.1.2.2.2.2 gX3_readWho_X3_next rfl rfl rfl hd_X3_next ⟨Nat.le_of_ble_eq_true rfl, Nat.le_of_ble_eq_true rfl⟩) rfl hls (Nat.le_of_ble_eq_true rfl) dX3_readWho_2 ⟨Nat.zero_le _, Nat.zero_le _⟩) (fun r_2 S_2 H locs he hW => ?_)
  obtain ⟨hr_2, hs⟩ := he
  rw [hs] at hW
  have zk := nm_at zk hr_2
  refine lv_bipush (v := 48) hx hb dX3_readWho_5 (by decide) ?_
  refine lv_isub hx hb dX3_readWho_7 ?_
  refine x_put B hW hqt cls3 hin_X3 4 (by decide) cC_t rfl (ty := .int) (by decide +kernel) rfl rfl (Nat.le_of_ble_eq_true rfl) (j := 4) pT_4 k_74 dX3_readWho_8 (fun H locs S_8 he_8 hW => ?_)
  have zk := nm_at zk he_8
  refine lv_aload_n hx hb dX3_readWho_11 rfl (lv_at hl 0 rfl) ?_
  refine x_get B hW hqt cC_t cls3 hin_X3 4 (by decide) (v := .int (S_8 tO 4)) rfl k_74 dX3_readWho_12 ?_
  refine lv_if_lt (tgt := 31) hx hb dX3_readWho_15 (by decide) (fun c_15 => ?_) (fun c_15 => ?_)
  · have zk := zk.trans (if_pos c_15)
    refine lv_iconst (v := 0) hx hb dX3_readWho_31 (by decide) ?_
    refine lv_istore_n (lv' := [(1, .int 0), (0, .ref (ad tO))]) hx hb dX3_readWho_32 rfl hl (by decide) rfl (fun ls hl => ?_)
    have hls := hl.1
    refine lv_iload_n hx hb dX3_readWho_33 rfl (lv_at hl 0 rfl) ?_
    refine lv_if_eq (tgt := 47) hx hb dX3_readWho_34 (by decide) (fun c_34 => ?_) (fun c_34 => ?_)
    rotate_left
    · exact absurd c_34 (by decide)
    refine lv_iload_n hx hb dX3_readWho_47 rfl (lv_at hl 0 rfl) ?_
    exact x_zret B hW (Or.inl rfl) ⟨zk.symm, (Or.inl rfl)⟩ dX3_readWho_48
  · have zk := zk.trans (if_neg c_15)
    refine lv_aload_n hx hb dX3_readWho_18 rfl (lv_at hl 0 rfl) ?_
    refine x_get B hW hqt cC_t cls3 hin_X3 4 (by decide) (v := .int (S_8 tO 4)) rfl k_74 dX3_readWho_19 ?_
    refine lv_bipush (v := 8) hx hb dX3_readWho_22 (by decide) ?_
    refine lv_icmp_ge (tgt := 31) hx hb dX3_readWho_24 (by decide) (fun c_24 => ?_) (fun c_24 => ?_)
    · have zk := zk.trans (if_pos c_24)
      refine lv_iconst (v := 0) hx hb dX3_readWho_31 (by decide) ?_
      refine lv_istore_n (lv' := [(1, .int 0), (0, .ref (ad tO))]) hx hb dX3_readWho_32 rfl hl (by decide) rfl (fun ls hl => ?_)
      have hls := hl.1
      refine lv_iload_n hx hb dX3_readWho_33 rfl (lv_at hl 0 rfl) ?_
      refine lv_if_eq (tgt := 47) hx hb dX3_readWho_34 (by decide) (fun c_34 => ?_) (fun c_34 => ?_)
      rotate_left
      · exact absurd c_34 (by decide)
      refine lv_iload_n hx hb dX3_readWho_47 rfl (lv_at hl 0 rfl) ?_
      exact x_zret B hW (Or.inl rfl) ⟨zk.symm, (Or.inl rfl)⟩ dX3_readWho_48
    · have zk := zk.trans (if_neg c_24)
      refine lv_iconst (v := 1) hx hb dX3_readWho_27 (by decide) ?_
      refine lv_goto (tgt := 32) hx hb dX3_readWho_28 (by decide) ?_
      refine lv_istore_n (lv' := [(1, .int 1), (0, .ref (ad tO))]) hx hb dX3_readWho_32 rfl hl (by decide) rfl (fun ls hl => ?_)
      have hls := hl.1
      refine lv_iload_n hx hb dX3_readWho_33 rfl (lv_at hl 0 rfl) ?_
      refine lv_if_eq (tgt := 47) hx hb dX3_readWho_34 (by decide) (fun c_34 => ?_) (fun c_34 => ?_)
      · exact absurd c_34 (by decide)
      refine lv_aload_n hx hb dX3_readWho_37 rfl (lv_at hl 1 rfl) ?_
      refine lv_dup hx hb dX3_readWho_38 rfl ?_
      refine x_get B hW hqt cC_t cls3 hin_X3 2 (by decide) (v := .int (S_8 tO 2)) rfl k_19 dX3_readWho_39 ?_
      refine lv_iconst (v := 1) hx hb dX3_readWho_42 (by decide) ?_
      refine lv_iadd hx hb dX3_readWho_43 ?_
      refine x_put B hW hqt cls3 hin_X3 2 (by decide) cC_t rfl (ty := .int) (by decide +kernel) rfl rfl (Nat.le_of_ble_eq_true rfl) (j := 2) pT_2 k_19 dX3_readWho_44 (fun H locs S_44 he_44 hW => ?_)
      have zk := nm_at zk he_44
      refine lv_iload_n hx hb dX3_readWho_47 rfl (lv_at hl 0 rfl) ?_
      exact x_zret B hW (Or.inr rfl) ⟨zk.symm, (Or.inr rfl)⟩ dX3_readWho_48

def x_X3_readWord_L2 : Nat → vS → Nat → Nat → (Int32 × vS)
  | 0, S, _, _ => (0, S)
  | n + 1, S, w, n2 => nm (x_J0_length_8abf5 S w) (fun r_4 => if r_4 ≤ (nI n2) then (1, S) else nm (x_J0_charAt_5068e S w n2) (fun r_13 => nmp (x_X3_readMark S r_13) (fun r_16 S_16 => if r_16 = 0 then (0, S_16) else x_X3_readWord_L2 n S_16 w ((n2 + 1)))))
def x_X3_readWord (S : vS) (w : Nat) : (Int32 × vS) := x_X3_readWord_L2 (6) S w (0)
theorem hd_X3_readWord : yX3_readWord.cls = RX3 ∧ yX3_readWord.cls ≠ "java/lang/invoke/MethodHandle" ∧ yX3_readWord.cls ≠ "java/lang/invoke/VarHandle" ∧ (parseMethodDescriptor yX3_readWord.desc).map (fun d => d.parameters.length) = some 1 := by decide +kernel
set_option maxHeartbeats 4000000 in
set_option maxRecDepth 100000 in
theorem w_X3_readWord_L2 {D : va_G} {ad : Nat → Nat} (l : Launch) {p : Program} {e : Env} {s : State} {mm : MethodId} {args : Array Value} {below : List Frame} {meth : Method} {c : Code} {A : Nat → Prop} {V : vE} (B : Cx p mm c cX3_readWord 3 s args wsX3_readWord RX3 meth (some .boolean) D) (hE : nv V A s s.heap) (z : (Int32 × vS)) (w : Nat) (hw : w < 6) : ∀ (n : Nat) (n2 : Nat) (S : vS) (H : Heap) (locs : List Loc) (ls : Array Slot), n2 ≤ 5 → n2 + n = 6 → Wd D 158 (cC D ad) ad A s.heap S H locs → lv_has ls 3 [(2, .int (nI n2)), (0, .ref (ad tO)), (1, .ref (V.1 w))] → ls.size = 3 → z = x_X3_readWord_L2 n S w n2 → W p l e (rmD 4) s mm args below meth c H locs 0 0 (MQ below (va_Qi (fun (r : Int32) (S1 : vS) => (r, S1) = z ∧ (r = 0 ∨ r = 1)) (bW D 158 (cC D ad) ad A) A) args s 0 0 A) (F0 mm 2 ls []) := by
  have hx := B.1.1
  have hb := B.1.2.1
  intro n
  induction n with
  | zero =>
    intro n2 S H locs ls hle hsum
    omega
  | succ n ih =>
    intro n2 S H locs ls hle hsum hW hl hls zk
    have zk := zk.trans (x_X3_readWord_L2.eq_2 _ _ _ _ )
    refine lv_iload_n hx hb dX3_readWord_2 rfl (lv_at hl 0 rfl) ?_
    refine lv_aload_n hx hb dX3_readWord_3 rfl (lv_at hl 2 rfl) ?_
    refine x_calli hW (x_runTE B hW hE hw (As := []) (rest := .int (nI n2) :: []) (c_J0_length_8abf5 (D := D) (ad := ad) (V := V) l _ S w hw) (cwV 0 B.1.2.2.2.2 gX3_readWord_J0_length_8abf5 rfl rfl rfl hd_J0_length_8abf5 ⟨Nat.le_of_ble_eq_true rfl, Nat.le_of_ble_eq_true rfl⟩) rfl hls (Nat.le_of_ble_eq_true rfl) dX3_readWord_4 ⟨Nat.zero_le _, Nat.zero_le _⟩) (fun r_4 S_4 H locs he hW => ?_)
    obtain ⟨hr_4, hs⟩ := he
    rw [hs] at hW
    have zk := nm_at zk hr_4
    refine lv_icmp_ge (tgt := 30) hx hb dX3_readWord_7 (by decide) (fun c_7 => ?_) (fun c_7 => ?_)
    · have zk := zk.trans (if_pos c_7)
      refine lv_iconst (v := 1) hx hb dX3_readWord_30 (by decide) ?_
      exact x_zret B hW (Or.inr rfl) ⟨zk.symm, (Or.inr rfl)⟩ dX3_readWord_31
    · have zk := zk.trans (if_neg c_7)
      have hb_w := rw_lt hr_4 hw c_7 (by omega)
      have hb_w6 := (lnE_le w hw).2
      refine lv_aload_n hx hb dX3_readWord_10 rfl (lv_at hl 1 rfl) ?_
      refine lv_aload_n hx hb dX3_readWord_11 rfl (lv_at hl 2 rfl) ?_
      refine lv_iload_n hx hb dX3_readWord_12 rfl (lv_at hl 0 rfl) ?_
      refine x_calli hW (x_runTE B hW hE hw (As := [.int (nI n2)]) (rest := .ref (ad tO) :: []) (c_J0_charAt_5068e (D := D) (ad := ad) (V := V) l _ S w n2 hw hb_w) (cwV 1 B.1.2.2.2.2 gX3_readWord_J0_charAt_5068e rfl rfl rfl hd_J0_charAt_5068e ⟨Nat.le_of_ble_eq_true rfl, Nat.le_of_ble_eq_true rfl⟩) rfl hls (Nat.le_of_ble_eq_true rfl) dX3_readWord_13 ⟨Nat.zero_le _, Nat.zero_le _⟩) (fun r_13 S_13 H locs he hW => ?_)
      obtain ⟨hr_13, hs⟩ := he
      rw [hs] at hW
      have zk := nm_at zk hr_13
      refine x_calli hW (x_runV B hW (As := [.int r_13]) (rest := []) hqt cC_t cls3 (c_X3_readMark (D := D) (ad := ad) l _ S r_13) (cwV 1 B.1.2.2.2.2 gX3_readWord_X3_readMark rfl rfl rfl hd_X3_readMark ⟨Nat.le_of_ble_eq_true rfl, Nat.le_of_ble_eq_true rfl⟩) rfl hls (Nat.le_of_ble_eq_true rfl) dX3_readWord_16 ⟨Nat.zero_le _, Nat.zero_le _⟩) (fun r_16 S_16 H locs he hW => ?_)
      obtain ⟨hr_16, hz_16⟩ := he
      have zk := nmp_at zk hr_16
      have he_16 : S_16 = (x_X3_readMark S r_13).2 := by rw [← hr_16]
      refine lv_if_ne (tgt := 24) hx hb dX3_readWord_19 (by decide) (fun c_19 => ?_) (fun c_19 => ?_)
      · have zk := zk.trans (if_neg c_19)
        have hb_w := rw_lt hr_4 hw c_7 (by omega)
        have hb_w6 := (lnE_le w hw).2
        refine lv_iinc (v := (nI (n2 + 1))) (lv' := [(2, .int (nI (n2 + 1))), (0, .ref (ad tO)), (1, .ref (V.1 w))]) hx hb dX3_readWord_24 hl (k := 0) rfl (nI_1 _) (by decide) rfl (fun ls hl => ?_)
        have hls := hl.1
        refine lv_goto (tgt := 2) hx hb dX3_readWord_27 (by decide) ?_
        exact ih ((n2 + 1)) S_16 _ _ _ (show (n2 + 1) ≤ 5 by omega) (show (n2 + 1) + n = 6 by omega) hW (lv_sub hl [0, 1, 2] rfl) hls zk
      · have zk := zk.trans (if_pos c_19)
        refine lv_iconst (v := 0) hx hb dX3_readWord_22 (by decide) ?_
        exact x_zret B hW (Or.inl rfl) ⟨zk.symm, (Or.inl rfl)⟩ dX3_readWord_23
set_option maxHeartbeats 4000000 in
set_option maxRecDepth 100000 in
theorem c_X3_readWord {D : va_G} {ad : Nat → Nat} {V : vE} (l : Launch) (sz : Nat) (S : vS) (w : Nat) (hw : w < 6) : Met l yX3_readWord wsX3_readWord (rmD 4) (pE D 158 (cC D ad) ad sz V S [.ref (ad tO), .ref (V.1 w)]) (va_Qi (fun (r : Int32) (S1 : vS) => (r, S1) = (x_X3_readWord S w) ∧ (r = 0 ∨ r = 1)) (bW D 158 (cC D ad) ad (aW 158 ad sz)) (aW 158 ad sz)) 0 0 (aW 158 ad sz) := by
  refine x_metE (own := RX3) (cc := cX3_readWord) (maxL := 3) (ret := (some .boolean)) (Qc := fun A => va_Qi (fun (r : Int32) (S1 : vS) => (r, S1) = (x_X3_readWord S w) ∧ (r = 0 ∨ r = 1)) (bW D 158 (cC D ad) ad A) A) rfl ⟨by decide +kernel, rfl, Nat.le_of_ble_eq_true rfl⟩ ?_
  intro p e s mm args below meth c A ls B hW hE hl hls
  have hx := B.1.1
  have hb := B.1.2.1
  have zk := x_X3_readWord.eq_1 S w
  have hl : lv_has ls 3 [(0, .ref (ad tO)), (1, .ref (V.1 w))] := hl
  refine lv_iconst (v := 0) hx hb dX3_readWord_0 (by decide) ?_
  refine lv_istore_n (lv' := [(2, .int 0), (0, .ref (ad tO)), (1, .ref (V.1 w))]) hx hb dX3_readWord_1 rfl hl (by decide) rfl (fun ls hl => ?_)
  have hls := hl.1
  exact w_X3_readWord_L2 l B hE  _ w hw (6) (0) S _ _ _ (show 0 ≤ 5 by omega) (show 0 + (6) = 6 by omega) hW (lv_sub hl [0, 1, 2] rfl) hls zk

def x_X3_readOrder (S : vS) : (Int32 × vS) := nm (x_X3_next S) (fun r_1 => if r_1 = 97 then nm (st S tO 3 2) (fun S_130 => nmp (x_X3_readWord S_130 1) (fun r_136 S_136 => if r_136 = 0 then (0, S_136) else nmp (x_X3_readWho S_136) (fun r_143 S_143 => if r_143 = 0 then (0, S_143) else (1, S_143)))) else (if r_1 = 99 then nm (st S tO 3 6) (fun S_264 => nmp (x_X3_readWord S_264 5) (fun r_270 S_270 => (r_270, S_270))) else (if r_1 = 104 then nm (st S tO 3 4) (fun S_204 => nmp (x_X3_readWord S_204 3) (fun r_210 S_210 => if r_210 = 0 then (0, S_210) else nmp (x_X3_readWho S_210) (fun r_217 S_217 => if r_217 = 0 then (0, S_217) else nmp (x_X3_readMark S_217 42) (fun r_226 S_226 => if r_226 = 0 then (0, S_226) else nmp (x_X3_readAmount S_226 1 2000) (fun r_237 S_237 => if r_237 = 0 then (0, S_237) else (1, S_237)))))) else (if r_1 = 108 then nm (st S tO 3 1) (fun S_66 => nmp (x_X3_readWord S_66 0) (fun r_72 S_72 => if r_72 = 0 then (0, S_72) else nmp (x_X3_readWho S_72) (fun r_79 S_79 => if r_79 = 0 then (0, S_79) else nmp (x_X3_readMark S_79 42) (fun r_88 S_88 => if r_88 = 0 then (0, S_88) else nmp (x_X3_readAmount S_88 10 2000) (fun r_100 S_100 => if r_100 = 0 then (0, S_100) else nmp (x_X3_readMark S_100 47) (fun r_109 S_109 => if r_109 = 0 then (0, S_109) else nmp (x_X3_readWeeks S_109) (fun r_116 S_116 => if r_116 = 0 then (0, S_116) else (1, S_116)))))))) else (if r_1 = 112 then nm (st S tO 3 3) (fun S_157 => nmp (x_X3_readWord S_157 2) (fun r_163 S_163 => if r_163 = 0 then (0, S_163) else nmp (x_X3_readWho S_163) (fun r_170 S_170 => if r_170 = 0 then (0, S_170) else nmp (x_X3_readMark S_170 42) (fun r_179 S_179 => if r_179 = 0 then (0, S_179) else nmp (x_X3_readAmount S_179 1 2000) (fun r_190 S_190 => if r_190 = 0 then (0, S_190) else (1, S_190)))))) else (if r_1 = 119 then nm (st S tO 3 5) (fun S_251 => nmp (x_X3_readWord S_251 4) (fun r_257 S_257 => (r_257, S_257))) else ((0, S))))))))
theorem hd_X3_readOrder : yX3_readOrder.cls = RX3 ∧ yX3_readOrder.cls ≠ "java/lang/invoke/MethodHandle" ∧ yX3_readOrder.cls ≠ "java/lang/invoke/VarHandle" ∧ (parseMethodDescriptor yX3_readOrder.desc).map (fun d => d.parameters.length) = some 0 := by decide +kernel
set_option maxHeartbeats 4000000 in
set_option maxRecDepth 100000 in
theorem c_X3_readOrder {D : va_G} {ad : Nat → Nat} {V : vE} (l : Launch) (sz : Nat) (S : vS) : Met l yX3_readOrder wsX3_readOrder (rmD 5) (pE D 158 (cC D ad) ad sz V S [.ref (ad tO)]) (va_Qi (fun (r : Int32) (S1 : vS) => (r, S1) = (x_X3_readOrder S) ∧ (r = 0 ∨ r = 1)) (bW D 158 (cC D ad) ad (aW 158 ad sz)) (aW 158 ad sz)) 0 0 (aW 158 ad sz) := by
  refine x_metE (own := RX3) (cc := cX3_readOrder) (maxL := 1) (ret := (some .boolean)) (Qc := fun A => va_Qi (fun (r : Int32) (S1 : vS) => (r, S1) = (x_X3_readOrder S) ∧ (r = 0 ∨ r = 1)) (bW D 158 (cC D ad) ad A) A) rfl ⟨by decide +kernel, rfl, Nat.le_of_ble_eq_true rfl⟩ ?_
  intro p e s mm args below meth c A ls B hW hE hl hls
  have hx := B.1.1
  have hb := B.1.2.1
  have hin_X3 : ∀ w ∈ wsX30, w ∈ wsX3_readOrder := fun w h => List.mem_cons_of_mem _ (List.mem_append_right _ h)
  have k_37 := B.1.2.2.2.2 (.fieldLink RX3 37 "JointLoans$OrderText" "kind" "I") (by decide +kernel)
  have zk := x_X3_readOrder.eq_1 S
  have hl : lv_has ls 1 [(0, .ref (ad tO))] := hl
  refine lv_aload_n hx hb dX3_readOrder_0 rfl (lv_at hl 0 rfl) ?_
  refine x_calli hW (x_runV B hW (As := []) (rest := []) hqt cC_t cls3 (c_X3_next (D := D) (ad := ad) l _ S) (cwV 0 B.1.2.2.2.2 gX3_readOrder_X3_next rfl rfl rfl hd_X3_next ⟨Nat.le_of_ble_eq_true rfl, Nat.le_of_ble_eq_true rfl⟩) rfl hls (Nat.le_of_ble_eq_true rfl) dX3_readOrder_1 ⟨Nat.zero_le _, Nat.zero_le _⟩) (fun r_1 S_1 H locs he hW => ?_)
  obtain ⟨hr_1, hs⟩ := he
  rw [hs] at hW
  have zk := nm_at zk hr_1
  by_cases c_4_97 : r_1 = 97
  · have zk := zk.trans (if_pos c_4_97)
    refine lv_lookup (off := 124) (tgt := 128) hx hb dX3_readOrder_4 (by decide) (by rw [c_4_97]; decide) (by decide) ?_
    refine lv_aload_n hx hb dX3_readOrder_128 rfl (lv_at hl 0 rfl) ?_
    refine lv_iconst (v := 2) hx hb dX3_readOrder_129 (by decide) ?_
    refine x_put B hW hqt cls3 hin_X3 3 (by decide) cC_t rfl (ty := .int) (by decide +kernel) rfl rfl (Nat.le_of_ble_eq_true rfl) (j := 3) pT_3 k_37 dX3_readOrder_130 (fun H locs S_130 he_130 hW => ?_)
    have zk := nm_at zk he_130
    refine lv_aload_n hx hb dX3_readOrder_133 rfl (lv_at hl 0 rfl) ?_
    refine va_ldcS hx hb B.1.2.2.2.1 (hE.2.1 1 (by decide)) dX3_readOrder_134 ?_
    refine x_calli hW (x_runVE B hW hE (As := [.ref (V.1 1)]) (rest := []) hqt cC_t cls3 (c_X3_readWord (D := D) (ad := ad) (V := V) l _ S_130 1 (by decide)) (cwV 1 B.1.2.2.2.2 gX3_readOrder_X3_readWord rfl rfl rfl hd_X3_readWord ⟨Nat.le_of_ble_eq_true rfl, Nat.le_of_ble_eq_true rfl⟩) rfl hls (Nat.le_of_ble_eq_true rfl) dX3_readOrder_136 ⟨Nat.zero_le _, Nat.zero_le _⟩) (fun r_136 S_136 H locs he hW => ?_)
    obtain ⟨hr_136, hz_136⟩ := he
    have zk := nmp_at zk hr_136
    have he_136 : S_136 = (x_X3_readWord S_130 1).2 := by rw [← hr_136]
    refine lv_if_eq (tgt := 153) hx hb dX3_readOrder_139 (by decide) (fun c_139 => ?_) (fun c_139 => ?_)
    · have zk := zk.trans (if_pos c_139)
      refine lv_iconst (v := 0) hx hb dX3_readOrder_153 (by decide) ?_
      exact x_zret B hW (Or.inl rfl) ⟨zk.symm, (Or.inl rfl)⟩ dX3_readOrder_154
    · have zk := zk.trans (if_neg c_139)
      refine lv_aload_n hx hb dX3_readOrder_142 rfl (lv_at hl 0 rfl) ?_
      refine x_calli hW (x_runV B hW (As := []) (rest := []) hqt cC_t cls3 (c_X3_readWho (D := D) (ad := ad) l _ S_136) (cwV 0 B.1.2.2.2.2 gX3_readOrder_X3_readWho rfl rfl rfl hd_X3_readWho ⟨Nat.le_of_ble_eq_true rfl, Nat.le_of_ble_eq_true rfl⟩) rfl hls (Nat.le_of_ble_eq_true rfl) dX3_readOrder_143 ⟨Nat.zero_le _, Nat.zero_le _⟩) (fun r_143 S_143 H locs he hW => ?_)
      obtain ⟨hr_143, hz_143⟩ := he
      have zk := nmp_at zk hr_143
      have he_143 : S_143 = (x_X3_readWho S_136).2 := by rw [← hr_143]
      refine lv_if_eq (tgt := 153) hx hb dX3_readOrder_146 (by decide) (fun c_146 => ?_) (fun c_146 => ?_)
      · have zk := zk.trans (if_pos c_146)
        refine lv_iconst (v := 0) hx hb dX3_readOrder_153 (by decide) ?_
        exact x_zret B hW (Or.inl rfl) ⟨zk.symm, (Or.inl rfl)⟩ dX3_readOrder_154
      · have zk := zk.trans (if_neg c_146)
        refine lv_iconst (v := 1) hx hb dX3_readOrder_149 (by decide) ?_
        refine lv_goto (tgt := 154) hx hb dX3_readOrder_150 (by decide) ?_
        exact x_zret B hW (Or.inr rfl) ⟨zk.symm, (Or.inr rfl)⟩ dX3_readOrder_154
  · have zk := zk.trans (if_neg c_4_97)
    by_cases c_4_99 : r_1 = 99
    · have zk := zk.trans (if_pos c_4_99)
      refine lv_lookup (off := 257) (tgt := 261) hx hb dX3_readOrder_4 (by decide) (by rw [c_4_99]; decide) (by decide) ?_
      refine lv_aload_n hx hb dX3_readOrder_261 rfl (lv_at hl 0 rfl) ?_
      refine lv_bipush (v := 6) hx hb dX3_readOrder_262 (by decide) ?_
      refine x_put B hW hqt cls3 hin_X3 3 (by decide) cC_t rfl (ty := .int) (by decide +kernel) rfl rfl (Nat.le_of_ble_eq_true rfl) (j := 3) pT_3 k_37 dX3_readOrder_264 (fun H locs S_264 he_264 hW => ?_)
      have zk := nm_at zk he_264
      refine lv_aload_n hx hb dX3_readOrder_267 rfl (lv_at hl 0 rfl) ?_
      refine va_ldcS hx hb B.1.2.2.2.1 (hE.2.1 5 (by decide)) dX3_readOrder_268 ?_
      refine x_calli hW (x_runVE B hW hE (As := [.ref (V.1 5)]) (rest := []) hqt cC_t cls3 (c_X3_readWord (D := D) (ad := ad) (V := V) l _ S_264 5 (by decide)) (cwV 1 B.1.2.2.2.2 gX3_readOrder_X3_readWord rfl rfl rfl hd_X3_readWord ⟨Nat.le_of_ble_eq_true rfl, Nat.le_of_ble_eq_true rfl⟩) rfl hls (Nat.le_of_ble_eq_true rfl) dX3_readOrder_270 ⟨Nat.zero_le _, Nat.zero_le _⟩) (fun r_270 S_270 H locs he hW => ?_)
      obtain ⟨hr_270, hz_270⟩ := he
      have zk := nmp_at zk hr_270
      have he_270 : S_270 = (x_X3_readWord S_264 5).2 := by rw [← hr_270]
      exact x_zret B hW hz_270 ⟨zk.symm, hz_270⟩ dX3_readOrder_273
    · have zk := zk.trans (if_neg c_4_99)
      by_cases c_4_104 : r_1 = 104
      · have zk := zk.trans (if_pos c_4_104)
        refine lv_lookup (off := 198) (tgt := 202) hx hb dX3_readOrder_4 (by decide) (by rw [c_4_104]; decide) (by decide) ?_
        refine lv_aload_n hx hb dX3_readOrder_202 rfl (lv_at hl 0 rfl) ?_
        refine lv_iconst (v := 4) hx hb dX3_readOrder_203 (by decide) ?_
        refine x_put B hW hqt cls3 hin_X3 3 (by decide) cC_t rfl (ty := .int) (by decide +kernel) rfl rfl (Nat.le_of_ble_eq_true rfl) (j := 3) pT_3 k_37 dX3_readOrder_204 (fun H locs S_204 he_204 hW => ?_)
        have zk := nm_at zk he_204
        refine lv_aload_n hx hb dX3_readOrder_207 rfl (lv_at hl 0 rfl) ?_
        refine va_ldcS hx hb B.1.2.2.2.1 (hE.2.1 3 (by decide)) dX3_readOrder_208 ?_
        refine x_calli hW (x_runVE B hW hE (As := [.ref (V.1 3)]) (rest := []) hqt cC_t cls3 (c_X3_readWord (D := D) (ad := ad) (V := V) l _ S_204 3 (by decide)) (cwV 1 B.1.2.2.2.2 gX3_readOrder_X3_readWord rfl rfl rfl hd_X3_readWord ⟨Nat.le_of_ble_eq_true rfl, Nat.le_of_ble_eq_true rfl⟩) rfl hls (Nat.le_of_ble_eq_true rfl) dX3_readOrder_210 ⟨Nat.zero_le _, Nat.zero_le _⟩) (fun r_210 S_210 H locs he hW => ?_)
        obtain ⟨hr_210, hz_210⟩ := he
        have zk := nmp_at zk hr_210
        have he_210 : S_210 = (x_X3_readWord S_204 3).2 := by rw [← hr_210]
        refine lv_if_eq (tgt := 247) hx hb dX3_readOrder_213 (by decide) (fun c_213 => ?_) (fun c_213 => ?_)
        · have zk := zk.trans (if_pos c_213)
          refine lv_iconst (v := 0) hx hb dX3_readOrder_247 (by decide) ?_
          exact x_zret B hW (Or.inl rfl) ⟨zk.symm, (Or.inl rfl)⟩ dX3_readOrder_248
        · have zk := zk.trans (if_neg c_213)
          refine lv_aload_n hx hb dX3_readOrder_216 rfl (lv_at hl 0 rfl) ?_
          refine x_calli hW (x_runV B hW (As := []) (rest := []) hqt cC_t cls3 (c_X3_readWho (D := D) (ad := ad) l _ S_210) (cwV 0 B.1.2.2.2.2 gX3_readOrder_X3_readWho rfl rfl rfl hd_X3_readWho ⟨Nat.le_of_ble_eq_true rfl, Nat.le_of_ble_eq_true rfl⟩) rfl hls (Nat.le_of_ble_eq_true rfl) dX3_readOrder_217 ⟨Nat.zero_le _, Nat.zero_le _⟩) (fun r_217 S_217 H locs he hW => ?_)
          obtain ⟨hr_217, hz_217⟩ := he
          have zk := nmp_at zk hr_217
          have he_217 : S_217 = (x_X3_readWho S_210).2 := by rw [← hr_217]
          refine lv_if_eq (tgt := 247) hx hb dX3_readOrder_220 (by decide) (fun c_220 => ?_) (fun c_220 => ?_)
          · have zk := zk.trans (if_pos c_220)
            refine lv_iconst (v := 0) hx hb dX3_readOrder_247 (by decide) ?_
            exact x_zret B hW (Or.inl rfl) ⟨zk.symm, (Or.inl rfl)⟩ dX3_readOrder_248
          · have zk := zk.trans (if_neg c_220)
            refine lv_aload_n hx hb dX3_readOrder_223 rfl (lv_at hl 0 rfl) ?_
            refine lv_bipush (v := 42) hx hb dX3_readOrder_224 (by decide) ?_
            refine x_calli hW (x_runV B hW (As := [.int 42]) (rest := []) hqt cC_t cls3 (c_X3_readMark (D := D) (ad := ad) l _ S_217 42) (cwV 1 B.1.2.2.2.2 gX3_readOrder_X3_readMark rfl rfl rfl hd_X3_readMark ⟨Nat.le_of_ble_eq_true rfl, Nat.le_of_ble_eq_true rfl⟩) rfl hls (Nat.le_of_ble_eq_true rfl) dX3_readOrder_226 ⟨Nat.zero_le _, Nat.zero_le _⟩) (fun r_226 S_226 H locs he hW => ?_)
            obtain ⟨hr_226, hz_226⟩ := he
            have zk := nmp_at zk hr_226
            have he_226 : S_226 = (x_X3_readMark S_217 42).2 := by rw [← hr_226]
            refine lv_if_eq (tgt := 247) hx hb dX3_readOrder_229 (by decide) (fun c_229 => ?_) (fun c_229 => ?_)
            · have zk := zk.trans (if_pos c_229)
              refine lv_iconst (v := 0) hx hb dX3_readOrder_247 (by decide) ?_
              exact x_zret B hW (Or.inl rfl) ⟨zk.symm, (Or.inl rfl)⟩ dX3_readOrder_248
            · have zk := zk.trans (if_neg c_229)
              refine lv_aload_n hx hb dX3_readOrder_232 rfl (lv_at hl 0 rfl) ?_
              refine lv_iconst (v := 1) hx hb dX3_readOrder_233 (by decide) ?_
              refine lv_sipush (v := 2000) hx hb dX3_readOrder_234 (by decide) ?_
              refine x_calli hW (x_runV B hW (As := [.int 1, .int 2000]) (rest := []) hqt cC_t cls3 (c_X3_readAmount (D := D) (ad := ad) l _ S_226 1 2000) (cwV 2 B.1.2.2.2.2 gX3_readOrder_X3_readAmount rfl rfl rfl hd_X3_readAmount ⟨Nat.le_of_ble_eq_true rfl, Nat.le_of_ble_eq_true rfl⟩) rfl hls (Nat.le_of_ble_eq_true rfl) dX3_readOrder_237 ⟨Nat.zero_le _, Nat.zero_le _⟩) (fun r_237 S_237 H locs he hW => ?_)
              obtain ⟨hr_237, hz_237⟩ := he
              have zk := nmp_at zk hr_237
              have he_237 : S_237 = (x_X3_readAmount S_226 1 2000).2 := by rw [← hr_237]
              refine lv_if_eq (tgt := 247) hx hb dX3_readOrder_240 (by decide) (fun c_240 => ?_) (fun c_240 => ?_)
              · have zk := zk.trans (if_pos c_240)
                refine lv_iconst (v := 0) hx hb dX3_readOrder_247 (by decide) ?_
                exact x_zret B hW (Or.inl rfl) ⟨zk.symm, (Or.inl rfl)⟩ dX3_readOrder_248
              · have zk := zk.trans (if_neg c_240)
                refine lv_iconst (v := 1) hx hb dX3_readOrder_243 (by decide) ?_
                refine lv_goto (tgt := 248) hx hb dX3_readOrder_244 (by decide) ?_
                exact x_zret B hW (Or.inr rfl) ⟨zk.symm, (Or.inr rfl)⟩ dX3_readOrder_248
      · have zk := zk.trans (if_neg c_4_104)
        by_cases c_4_108 : r_1 = 108
        · have zk := zk.trans (if_pos c_4_108)
          refine lv_lookup (off := 60) (tgt := 64) hx hb dX3_readOrder_4 (by decide) (by rw [c_4_108]; decide) (by decide) ?_
          refine lv_aload_n hx hb dX3_readOrder_64 rfl (lv_at hl 0 rfl) ?_
          refine lv_iconst (v := 1) hx hb dX3_readOrder_65 (by decide) ?_
          refine x_put B hW hqt cls3 hin_X3 3 (by decide) cC_t rfl (ty := .int) (by decide +kernel) rfl rfl (Nat.le_of_ble_eq_true rfl) (j := 3) pT_3 k_37 dX3_readOrder_66 (fun H locs S_66 he_66 hW => ?_)
          have zk := nm_at zk he_66
          refine lv_aload_n hx hb dX3_readOrder_69 rfl (lv_at hl 0 rfl) ?_
          refine va_ldcS hx hb B.1.2.2.2.1 (hE.2.1 0 (by decide)) dX3_readOrder_70 ?_
          refine x_calli hW (x_runVE B hW hE (As := [.ref (V.1 0)]) (rest := []) hqt cC_t cls3 (c_X3_readWord (D := D) (ad := ad) (V := V) l _ S_66 0 (by decide)) (cwV 1 B.1.2.2.2.2 gX3_readOrder_X3_readWord rfl rfl rfl hd_X3_readWord ⟨Nat.le_of_ble_eq_true rfl, Nat.le_of_ble_eq_true rfl⟩) rfl hls (Nat.le_of_ble_eq_true rfl) dX3_readOrder_72 ⟨Nat.zero_le _, Nat.zero_le _⟩) (fun r_72 S_72 H locs he hW => ?_)
          obtain ⟨hr_72, hz_72⟩ := he
          have zk := nmp_at zk hr_72
          have he_72 : S_72 = (x_X3_readWord S_66 0).2 := by rw [← hr_72]
          refine lv_if_eq (tgt := 126) hx hb dX3_readOrder_75 (by decide) (fun c_75 => ?_) (fun c_75 => ?_)
          · have zk := zk.trans (if_pos c_75)
            refine lv_iconst (v := 0) hx hb dX3_readOrder_126 (by decide) ?_
            exact x_zret B hW (Or.inl rfl) ⟨zk.symm, (Or.inl rfl)⟩ dX3_readOrder_127
          · have zk := zk.trans (if_neg c_75)
            refine lv_aload_n hx hb dX3_readOrder_78 rfl (lv_at hl 0 rfl) ?_
            refine x_calli hW (x_runV B hW (As := []) (rest := []) hqt cC_t cls3 (c_X3_readWho (D := D) (ad := ad) l _ S_72) (cwV 0 B.1.2.2.2.2 gX3_readOrder_X3_readWho rfl rfl rfl hd_X3_readWho ⟨Nat.le_of_ble_eq_true rfl, Nat.le_of_ble_eq_true rfl⟩) rfl hls (Nat.le_of_ble_eq_true rfl) dX3_readOrder_79 ⟨Nat.zero_le _, Nat.zero_le _⟩) (fun r_79 S_79 H locs he hW => ?_)
            obtain ⟨hr_79, hz_79⟩ := he
            have zk := nmp_at zk hr_79
            have he_79 : S_79 = (x_X3_readWho S_72).2 := by rw [← hr_79]
            refine lv_if_eq (tgt := 126) hx hb dX3_readOrder_82 (by decide) (fun c_82 => ?_) (fun c_82 => ?_)
            · have zk := zk.trans (if_pos c_82)
              refine lv_iconst (v := 0) hx hb dX3_readOrder_126 (by decide) ?_
              exact x_zret B hW (Or.inl rfl) ⟨zk.symm, (Or.inl rfl)⟩ dX3_readOrder_127
            · have zk := zk.trans (if_neg c_82)
              refine lv_aload_n hx hb dX3_readOrder_85 rfl (lv_at hl 0 rfl) ?_
              refine lv_bipush (v := 42) hx hb dX3_readOrder_86 (by decide) ?_
              refine x_calli hW (x_runV B hW (As := [.int 42]) (rest := []) hqt cC_t cls3 (c_X3_readMark (D := D) (ad := ad) l _ S_79 42) (cwV 1 B.1.2.2.2.2 gX3_readOrder_X3_readMark rfl rfl rfl hd_X3_readMark ⟨Nat.le_of_ble_eq_true rfl, Nat.le_of_ble_eq_true rfl⟩) rfl hls (Nat.le_of_ble_eq_true rfl) dX3_readOrder_88 ⟨Nat.zero_le _, Nat.zero_le _⟩) (fun r_88 S_88 H locs he hW => ?_)
              obtain ⟨hr_88, hz_88⟩ := he
              have zk := nmp_at zk hr_88
              have he_88 : S_88 = (x_X3_readMark S_79 42).2 := by rw [← hr_88]
              refine lv_if_eq (tgt := 126) hx hb dX3_readOrder_91 (by decide) (fun c_91 => ?_) (fun c_91 => ?_)
              · have zk := zk.trans (if_pos c_91)
                refine lv_iconst (v := 0) hx hb dX3_readOrder_126 (by decide) ?_
                exact x_zret B hW (Or.inl rfl) ⟨zk.symm, (Or.inl rfl)⟩ dX3_readOrder_127
              · have zk := zk.trans (if_neg c_91)
                refine lv_aload_n hx hb dX3_readOrder_94 rfl (lv_at hl 0 rfl) ?_
                refine lv_bipush (v := 10) hx hb dX3_readOrder_95 (by decide) ?_
                refine lv_sipush (v := 2000) hx hb dX3_readOrder_97 (by decide) ?_
                refine x_calli hW (x_runV B hW (As := [.int 10, .int 2000]) (rest := []) hqt cC_t cls3 (c_X3_readAmount (D := D) (ad := ad) l _ S_88 10 2000) (cwV 2 B.1.2.2.2.2 gX3_readOrder_X3_readAmount rfl rfl rfl hd_X3_readAmount ⟨Nat.le_of_ble_eq_true rfl, Nat.le_of_ble_eq_true rfl⟩) rfl hls (Nat.le_of_ble_eq_true rfl) dX3_readOrder_100 ⟨Nat.zero_le _, Nat.zero_le _⟩) (fun r_100 S_100 H locs he hW => ?_)
                obtain ⟨hr_100, hz_100⟩ := he
                have zk := nmp_at zk hr_100
                have he_100 : S_100 = (x_X3_readAmount S_88 10 2000).2 := by rw [← hr_100]
                refine lv_if_eq (tgt := 126) hx hb dX3_readOrder_103 (by decide) (fun c_103 => ?_) (fun c_103 => ?_)
                · have zk := zk.trans (if_pos c_103)
                  refine lv_iconst (v := 0) hx hb dX3_readOrder_126 (by decide) ?_
                  exact x_zret B hW (Or.inl rfl) ⟨zk.symm, (Or.inl rfl)⟩ dX3_readOrder_127
                · have zk := zk.trans (if_neg c_103)
                  refine lv_aload_n hx hb dX3_readOrder_106 rfl (lv_at hl 0 rfl) ?_
                  refine lv_bipush (v := 47) hx hb dX3_readOrder_107 (by decide) ?_
                  refine x_calli hW (x_runV B hW (As := [.int 47]) (rest := []) hqt cC_t cls3 (c_X3_readMark (D := D) (ad := ad) l _ S_100 47) (cwV 1 B.1.2.2.2.2 gX3_readOrder_X3_readMark rfl rfl rfl hd_X3_readMark ⟨Nat.le_of_ble_eq_true rfl, Nat.le_of_ble_eq_true rfl⟩) rfl hls (Nat.le_of_ble_eq_true rfl) dX3_readOrder_109 ⟨Nat.zero_le _, Nat.zero_le _⟩) (fun r_109 S_109 H locs he hW => ?_)
                  obtain ⟨hr_109, hz_109⟩ := he
                  have zk := nmp_at zk hr_109
                  have he_109 : S_109 = (x_X3_readMark S_100 47).2 := by rw [← hr_109]
                  refine lv_if_eq (tgt := 126) hx hb dX3_readOrder_112 (by decide) (fun c_112 => ?_) (fun c_112 => ?_)
                  · have zk := zk.trans (if_pos c_112)
                    refine lv_iconst (v := 0) hx hb dX3_readOrder_126 (by decide) ?_
                    exact x_zret B hW (Or.inl rfl) ⟨zk.symm, (Or.inl rfl)⟩ dX3_readOrder_127
                  · have zk := zk.trans (if_neg c_112)
                    refine lv_aload_n hx hb dX3_readOrder_115 rfl (lv_at hl 0 rfl) ?_
                    refine x_calli hW (x_runV B hW (As := []) (rest := []) hqt cC_t cls3 (c_X3_readWeeks (D := D) (ad := ad) l _ S_109) (cwV 0 B.1.2.2.2.2 gX3_readOrder_X3_readWeeks rfl rfl rfl hd_X3_readWeeks ⟨Nat.le_of_ble_eq_true rfl, Nat.le_of_ble_eq_true rfl⟩) rfl hls (Nat.le_of_ble_eq_true rfl) dX3_readOrder_116 ⟨Nat.zero_le _, Nat.zero_le _⟩) (fun r_116 S_116 H locs he hW => ?_)
                    obtain ⟨hr_116, hz_116⟩ := he
                    have zk := nmp_at zk hr_116
                    have he_116 : S_116 = (x_X3_readWeeks S_109).2 := by rw [← hr_116]
                    refine lv_if_eq (tgt := 126) hx hb dX3_readOrder_119 (by decide) (fun c_119 => ?_) (fun c_119 => ?_)
                    · have zk := zk.trans (if_pos c_119)
                      refine lv_iconst (v := 0) hx hb dX3_readOrder_126 (by decide) ?_
                      exact x_zret B hW (Or.inl rfl) ⟨zk.symm, (Or.inl rfl)⟩ dX3_readOrder_127
                    · have zk := zk.trans (if_neg c_119)
                      refine lv_iconst (v := 1) hx hb dX3_readOrder_122 (by decide) ?_
                      refine lv_goto (tgt := 127) hx hb dX3_readOrder_123 (by decide) ?_
                      exact x_zret B hW (Or.inr rfl) ⟨zk.symm, (Or.inr rfl)⟩ dX3_readOrder_127
        · have zk := zk.trans (if_neg c_4_108)
          by_cases c_4_112 : r_1 = 112
          · have zk := zk.trans (if_pos c_4_112)
            refine lv_lookup (off := 151) (tgt := 155) hx hb dX3_readOrder_4 (by decide) (by rw [c_4_112]; decide) (by decide) ?_
            refine lv_aload_n hx hb dX3_readOrder_155 rfl (lv_at hl 0 rfl) ?_
            refine lv_iconst (v := 3) hx hb dX3_readOrder_156 (by decide) ?_
            refine x_put B hW hqt cls3 hin_X3 3 (by decide) cC_t rfl (ty := .int) (by decide +kernel) rfl rfl (Nat.le_of_ble_eq_true rfl) (j := 3) pT_3 k_37 dX3_readOrder_157 (fun H locs S_157 he_157 hW => ?_)
            have zk := nm_at zk he_157
            refine lv_aload_n hx hb dX3_readOrder_160 rfl (lv_at hl 0 rfl) ?_
            refine va_ldcS hx hb B.1.2.2.2.1 (hE.2.1 2 (by decide)) dX3_readOrder_161 ?_
            refine x_calli hW (x_runVE B hW hE (As := [.ref (V.1 2)]) (rest := []) hqt cC_t cls3 (c_X3_readWord (D := D) (ad := ad) (V := V) l _ S_157 2 (by decide)) (cwV 1 B.1.2.2.2.2 gX3_readOrder_X3_readWord rfl rfl rfl hd_X3_readWord ⟨Nat.le_of_ble_eq_true rfl, Nat.le_of_ble_eq_true rfl⟩) rfl hls (Nat.le_of_ble_eq_true rfl) dX3_readOrder_163 ⟨Nat.zero_le _, Nat.zero_le _⟩) (fun r_163 S_163 H locs he hW => ?_)
            obtain ⟨hr_163, hz_163⟩ := he
            have zk := nmp_at zk hr_163
            have he_163 : S_163 = (x_X3_readWord S_157 2).2 := by rw [← hr_163]
            refine lv_if_eq (tgt := 200) hx hb dX3_readOrder_166 (by decide) (fun c_166 => ?_) (fun c_166 => ?_)
            · have zk := zk.trans (if_pos c_166)
              refine lv_iconst (v := 0) hx hb dX3_readOrder_200 (by decide) ?_
              exact x_zret B hW (Or.inl rfl) ⟨zk.symm, (Or.inl rfl)⟩ dX3_readOrder_201
            · have zk := zk.trans (if_neg c_166)
              refine lv_aload_n hx hb dX3_readOrder_169 rfl (lv_at hl 0 rfl) ?_
              refine x_calli hW (x_runV B hW (As := []) (rest := []) hqt cC_t cls3 (c_X3_readWho (D := D) (ad := ad) l _ S_163) (cwV 0 B.1.2.2.2.2 gX3_readOrder_X3_readWho rfl rfl rfl hd_X3_readWho ⟨Nat.le_of_ble_eq_true rfl, Nat.le_of_ble_eq_true rfl⟩) rfl hls (Nat.le_of_ble_eq_true rfl) dX3_readOrder_170 ⟨Nat.zero_le _, Nat.zero_le _⟩) (fun r_170 S_170 H locs he hW => ?_)
              obtain ⟨hr_170, hz_170⟩ := he
              have zk := nmp_at zk hr_170
              have he_170 : S_170 = (x_X3_readWho S_163).2 := by rw [← hr_170]
              refine lv_if_eq (tgt := 200) hx hb dX3_readOrder_173 (by decide) (fun c_173 => ?_) (fun c_173 => ?_)
              · have zk := zk.trans (if_pos c_173)
                refine lv_iconst (v := 0) hx hb dX3_readOrder_200 (by decide) ?_
                exact x_zret B hW (Or.inl rfl) ⟨zk.symm, (Or.inl rfl)⟩ dX3_readOrder_201
              · have zk := zk.trans (if_neg c_173)
                refine lv_aload_n hx hb dX3_readOrder_176 rfl (lv_at hl 0 rfl) ?_
                refine lv_bipush (v := 42) hx hb dX3_readOrder_177 (by decide) ?_
                refine x_calli hW (x_runV B hW (As := [.int 42]) (rest := []) hqt cC_t cls3 (c_X3_readMark (D := D) (ad := ad) l _ S_170 42) (cwV 1 B.1.2.2.2.2 gX3_readOrder_X3_readMark rfl rfl rfl hd_X3_readMark ⟨Nat.le_of_ble_eq_true rfl, Nat.le_of_ble_eq_true rfl⟩) rfl hls (Nat.le_of_ble_eq_true rfl) dX3_readOrder_179 ⟨Nat.zero_le _, Nat.zero_le _⟩) (fun r_179 S_179 H locs he hW => ?_)
                obtain ⟨hr_179, hz_179⟩ := he
                have zk := nmp_at zk hr_179
                have he_179 : S_179 = (x_X3_readMark S_170 42).2 := by rw [← hr_179]
                refine lv_if_eq (tgt := 200) hx hb dX3_readOrder_182 (by decide) (fun c_182 => ?_) (fun c_182 => ?_)
                · have zk := zk.trans (if_pos c_182)
                  refine lv_iconst (v := 0) hx hb dX3_readOrder_200 (by decide) ?_
                  exact x_zret B hW (Or.inl rfl) ⟨zk.symm, (Or.inl rfl)⟩ dX3_readOrder_201
                · have zk := zk.trans (if_neg c_182)
                  refine lv_aload_n hx hb dX3_readOrder_185 rfl (lv_at hl 0 rfl) ?_
                  refine lv_iconst (v := 1) hx hb dX3_readOrder_186 (by decide) ?_
                  refine lv_sipush (v := 2000) hx hb dX3_readOrder_187 (by decide) ?_
                  refine x_calli hW (x_runV B hW (As := [.int 1, .int 2000]) (rest := []) hqt cC_t cls3 (c_X3_readAmount (D := D) (ad := ad) l _ S_179 1 2000) (cwV 2 B.1.2.2.2.2 gX3_readOrder_X3_readAmount rfl rfl rfl hd_X3_readAmount ⟨Nat.le_of_ble_eq_true rfl, Nat.le_of_ble_eq_true rfl⟩) rfl hls (Nat.le_of_ble_eq_true rfl) dX3_readOrder_190 ⟨Nat.zero_le _, Nat.zero_le _⟩) (fun r_190 S_190 H locs he hW => ?_)
                  obtain ⟨hr_190, hz_190⟩ := he
                  have zk := nmp_at zk hr_190
                  have he_190 : S_190 = (x_X3_readAmount S_179 1 2000).2 := by rw [← hr_190]
                  refine lv_if_eq (tgt := 200) hx hb dX3_readOrder_193 (by decide) (fun c_193 => ?_) (fun c_193 => ?_)
                  · have zk := zk.trans (if_pos c_193)
                    refine lv_iconst (v := 0) hx hb dX3_readOrder_200 (by decide) ?_
                    exact x_zret B hW (Or.inl rfl) ⟨zk.symm, (Or.inl rfl)⟩ dX3_readOrder_201
                  · have zk := zk.trans (if_neg c_193)
                    refine lv_iconst (v := 1) hx hb dX3_readOrder_196 (by decide) ?_
                    refine lv_goto (tgt := 201) hx hb dX3_readOrder_197 (by decide) ?_
                    exact x_zret B hW (Or.inr rfl) ⟨zk.symm, (Or.inr rfl)⟩ dX3_readOrder_201
          · have zk := zk.trans (if_neg c_4_112)
            by_cases c_4_119 : r_1 = 119
            · have zk := zk.trans (if_pos c_4_119)
              refine lv_lookup (off := 245) (tgt := 249) hx hb dX3_readOrder_4 (by decide) (by rw [c_4_119]; decide) (by decide) ?_
              refine lv_aload_n hx hb dX3_readOrder_249 rfl (lv_at hl 0 rfl) ?_
              refine lv_iconst (v := 5) hx hb dX3_readOrder_250 (by decide) ?_
              refine x_put B hW hqt cls3 hin_X3 3 (by decide) cC_t rfl (ty := .int) (by decide +kernel) rfl rfl (Nat.le_of_ble_eq_true rfl) (j := 3) pT_3 k_37 dX3_readOrder_251 (fun H locs S_251 he_251 hW => ?_)
              have zk := nm_at zk he_251
              refine lv_aload_n hx hb dX3_readOrder_254 rfl (lv_at hl 0 rfl) ?_
              refine va_ldcS hx hb B.1.2.2.2.1 (hE.2.1 4 (by decide)) dX3_readOrder_255 ?_
              refine x_calli hW (x_runVE B hW hE (As := [.ref (V.1 4)]) (rest := []) hqt cC_t cls3 (c_X3_readWord (D := D) (ad := ad) (V := V) l _ S_251 4 (by decide)) (cwV 1 B.1.2.2.2.2 gX3_readOrder_X3_readWord rfl rfl rfl hd_X3_readWord ⟨Nat.le_of_ble_eq_true rfl, Nat.le_of_ble_eq_true rfl⟩) rfl hls (Nat.le_of_ble_eq_true rfl) dX3_readOrder_257 ⟨Nat.zero_le _, Nat.zero_le _⟩) (fun r_257 S_257 H locs he hW => ?_)
              obtain ⟨hr_257, hz_257⟩ := he
              have zk := nmp_at zk hr_257
              have he_257 : S_257 = (x_X3_readWord S_251 4).2 := by rw [← hr_257]
              exact x_zret B hW hz_257 ⟨zk.symm, hz_257⟩ dX3_readOrder_260
            · have zk := zk.trans (if_neg c_4_119)
              refine lv_lookup (off := 270) (tgt := 274) hx hb dX3_readOrder_4 (by decide) (by rw [lv_osw c_4_97 (by decide), lv_osw c_4_99 (by decide), lv_osw c_4_104 (by decide), lv_osw c_4_108 (by decide), lv_osw c_4_112 (by decide), lv_osw c_4_119 (by decide)]; rfl) (by decide) ?_
              refine lv_iconst (v := 0) hx hb dX3_readOrder_274 (by decide) ?_
              exact x_zret B hW (Or.inl rfl) ⟨zk.symm, (Or.inl rfl)⟩ dX3_readOrder_275

def x_X3_readAll_L6 : Nat → vS → Nat → (Int32 × vS)
  | 0, S, _ => (0, S)
  | n + 1, S, n1 => if 60 ≤ (nI n1) then (0, S) else nmp (x_X3_readOrder S) (fun r_13 S_13 => if r_13 = 0 then (0, S_13) else if (S_13 tO 2) < (S_13 tO 1) then nmp (x_X3_readMark S_13 59) (fun r_37 S_37 => if r_37 = 0 then (0, S_37) else x_X3_readAll_L6 n S_37 ((n1 + 1))) else (1, S_13))
def x_X3_readAll (S : vS) : (Int32 × vS) := nm (x_X3_restart S) (fun S_1 => x_X3_readAll_L6 (61) S_1 (0))
theorem hd_X3_readAll : yX3_readAll.cls = RX3 ∧ yX3_readAll.cls ≠ "java/lang/invoke/MethodHandle" ∧ yX3_readAll.cls ≠ "java/lang/invoke/VarHandle" ∧ (parseMethodDescriptor yX3_readAll.desc).map (fun d => d.parameters.length) = some 0 := by decide +kernel
set_option maxHeartbeats 4000000 in
set_option maxRecDepth 100000 in
theorem w_X3_readAll_L6 {D : va_G} {ad : Nat → Nat} (l : Launch) {p : Program} {e : Env} {s : State} {mm : MethodId} {args : Array Value} {below : List Frame} {meth : Method} {c : Code} {A : Nat → Prop} {V : vE} (B : Cx p mm c cX3_readAll 2 s args wsX3_readAll RX3 meth (some .boolean) D) (hE : nv V A s s.heap) (z : (Int32 × vS)) : ∀ (n : Nat) (n1 : Nat) (S : vS) (H : Heap) (locs : List Loc) (ls : Array Slot), n1 ≤ 60 → n1 + n = 61 → Wd D 158 (cC D ad) ad A s.heap S H locs → lv_has ls 2 [(1, .int (nI n1)), (0, .ref (ad tO))] → ls.size = 2 → z = x_X3_readAll_L6 n S n1 → W p l e (rmD 6) s mm args below meth c H locs 0 0 (MQ below (va_Qi (fun (r : Int32) (S1 : vS) => (r, S1) = z ∧ (r = 0 ∨ r = 1)) (bW D 158 (cC D ad) ad A) A) args s 0 0 A) (F0 mm 6 ls []) := by
  have hx := B.1.1
  have hb := B.1.2.1
  have hin_X3 : ∀ w ∈ wsX30, w ∈ wsX3_readAll := fun w h => List.mem_cons_of_mem _ (List.mem_append_right _ h)
  have k_15 := B.1.2.2.2.2 (.fieldLink RX3 15 "JointLoans$OrderText" "length" "I") (by decide +kernel)
  have k_19 := B.1.2.2.2.2 (.fieldLink RX3 19 "JointLoans$OrderText" "place" "I") (by decide +kernel)
  intro n
  induction n with
  | zero =>
    intro n1 S H locs ls hle hsum
    omega
  | succ n ih =>
    intro n1 S H locs ls hle hsum hW hl hls zk
    have zk := zk.trans (x_X3_readAll_L6.eq_2 _ _ _ )
    refine lv_iload_n hx hb dX3_readAll_6 rfl (lv_at hl 0 rfl) ?_
    refine lv_bipush (v := 60) hx hb dX3_readAll_7 (by decide) ?_
    refine lv_icmp_ge (tgt := 51) hx hb dX3_readAll_9 (by decide) (fun c_9 => ?_) (fun c_9 => ?_)
    · have zk := zk.trans (if_pos c_9)
      refine lv_iconst (v := 0) hx hb dX3_readAll_51 (by decide) ?_
      exact x_zret B hW (Or.inl rfl) ⟨zk.symm, (Or.inl rfl)⟩ dX3_readAll_52
    · have zk := zk.trans (if_neg c_9)
      have hb_c_9 : n1 < 60 := nI_of_nle (by decide) c_9 (by omega)
      refine lv_aload_n hx hb dX3_readAll_12 rfl (lv_at hl 1 rfl) ?_
      refine x_calli hW (x_runVE B hW hE (As := []) (rest := []) hqt cC_t cls3 (c_X3_readOrder (D := D) (ad := ad) (V := V) l _ S) (cwV 0 B.1.2.2.2.2 gX3_readAll_X3_readOrder rfl rfl rfl hd_X3_readOrder ⟨Nat.le_of_ble_eq_true rfl, Nat.le_of_ble_eq_true rfl⟩) rfl hls (Nat.le_of_ble_eq_true rfl) dX3_readAll_13 ⟨Nat.zero_le _, Nat.zero_le _⟩) (fun r_13 S_13 H locs he hW => ?_)
      obtain ⟨hr_13, hz_13⟩ := he
      have zk := nmp_at zk hr_13
      have he_13 : S_13 = (x_X3_readOrder S).2 := by rw [← hr_13]
      refine lv_if_ne (tgt := 21) hx hb dX3_readAll_16 (by decide) (fun c_16 => ?_) (fun c_16 => ?_)
      · have zk := zk.trans (if_neg c_16)
        refine lv_aload_n hx hb dX3_readAll_21 rfl (lv_at hl 1 rfl) ?_
        refine x_get B hW hqt cC_t cls3 hin_X3 2 (by decide) (v := .int (S_13 tO 2)) rfl k_19 dX3_readAll_22 ?_
        refine lv_aload_n hx hb dX3_readAll_25 rfl (lv_at hl 1 rfl) ?_
        refine x_get B hW hqt cC_t cls3 hin_X3 1 (by decide) (v := .int (S_13 tO 1)) rfl k_15 dX3_readAll_26 ?_
        refine lv_icmp_lt (tgt := 34) hx hb dX3_readAll_29 (by decide) (fun c_29 => ?_) (fun c_29 => ?_)
        · have zk := zk.trans (if_pos c_29)
          refine lv_aload_n hx hb dX3_readAll_34 rfl (lv_at hl 1 rfl) ?_
          refine lv_bipush (v := 59) hx hb dX3_readAll_35 (by decide) ?_
          refine x_calli hW (x_runV B hW (As := [.int 59]) (rest := []) hqt cC_t cls3 (c_X3_readMark (D := D) (ad := ad) l _ S_13 59) (cwV 1 B.1.2.2.2.2 gX3_readAll_X3_readMark rfl rfl rfl hd_X3_readMark ⟨Nat.le_of_ble_eq_true rfl, Nat.le_of_ble_eq_true rfl⟩) rfl hls (Nat.le_of_ble_eq_true rfl) dX3_readAll_37 ⟨Nat.zero_le _, Nat.zero_le _⟩) (fun r_37 S_37 H locs he hW => ?_)
          obtain ⟨hr_37, hz_37⟩ := he
          have zk := nmp_at zk hr_37
          have he_37 : S_37 = (x_X3_readMark S_13 59).2 := by rw [← hr_37]
          refine lv_if_ne (tgt := 45) hx hb dX3_readAll_40 (by decide) (fun c_40 => ?_) (fun c_40 => ?_)
          · have zk := zk.trans (if_neg c_40)
            refine lv_iinc (v := (nI (n1 + 1))) (lv' := [(1, .int (nI (n1 + 1))), (0, .ref (ad tO))]) hx hb dX3_readAll_45 hl (k := 0) rfl (nI_1 _) (by decide) rfl (fun ls hl => ?_)
            have hls := hl.1
            refine lv_goto (tgt := 6) hx hb dX3_readAll_48 (by decide) ?_
            exact ih ((n1 + 1)) S_37 _ _ _ (show (n1 + 1) ≤ 60 by omega) (show (n1 + 1) + n = 61 by omega) hW (lv_sub hl [0, 1] rfl) hls zk
          · have zk := zk.trans (if_pos c_40)
            refine lv_iconst (v := 0) hx hb dX3_readAll_43 (by decide) ?_
            exact x_zret B hW (Or.inl rfl) ⟨zk.symm, (Or.inl rfl)⟩ dX3_readAll_44
        · have zk := zk.trans (if_neg c_29)
          refine lv_iconst (v := 1) hx hb dX3_readAll_32 (by decide) ?_
          exact x_zret B hW (Or.inr rfl) ⟨zk.symm, (Or.inr rfl)⟩ dX3_readAll_33
      · have zk := zk.trans (if_pos c_16)
        refine lv_iconst (v := 0) hx hb dX3_readAll_19 (by decide) ?_
        exact x_zret B hW (Or.inl rfl) ⟨zk.symm, (Or.inl rfl)⟩ dX3_readAll_20
set_option maxHeartbeats 4000000 in
set_option maxRecDepth 100000 in
theorem c_X3_readAll {D : va_G} {ad : Nat → Nat} {V : vE} (l : Launch) (sz : Nat) (S : vS) : Met l yX3_readAll wsX3_readAll (rmD 6) (pE D 158 (cC D ad) ad sz V S [.ref (ad tO)]) (va_Qi (fun (r : Int32) (S1 : vS) => (r, S1) = (x_X3_readAll S) ∧ (r = 0 ∨ r = 1)) (bW D 158 (cC D ad) ad (aW 158 ad sz)) (aW 158 ad sz)) 0 0 (aW 158 ad sz) := by
  refine x_metE (own := RX3) (cc := cX3_readAll) (maxL := 2) (ret := (some .boolean)) (Qc := fun A => va_Qi (fun (r : Int32) (S1 : vS) => (r, S1) = (x_X3_readAll S) ∧ (r = 0 ∨ r = 1)) (bW D 158 (cC D ad) ad A) A) rfl ⟨by decide +kernel, rfl, Nat.le_of_ble_eq_true rfl⟩ ?_
  intro p e s mm args below meth c A ls B hW hE hl hls
  have hx := B.1.1
  have hb := B.1.2.1
  have hin_X3 : ∀ w ∈ wsX30, w ∈ wsX3_readAll := fun w h => List.mem_cons_of_mem _ (List.mem_append_right _ h)
  have k_15 := B.1.2.2.2.2 (.fieldLink RX3 15 "JointLoans$OrderText" "length" "I") (by decide +kernel)
  have k_19 := B.1.2.2.2.2 (.fieldLink RX3 19 "JointLoans$OrderText" "place" "I") (by decide +kernel)
  have zk := x_X3_readAll.eq_1 S
  have hl : lv_has ls 2 [(0, .ref (ad tO))] := hl
  refine lv_aload_n hx hb dX3_readAll_0 rfl (lv_at hl 0 rfl) ?_
  refine x_callv hW (x_runV B hW (As := []) (rest := []) hqt cC_t cls3 (c_X3_restart (D := D) (ad := ad) l _ S) (cwV 0 B.1.2.2.2.2 gX3_readAll_X3_restart rfl rfl rfl hd_X3_restart ⟨Nat.le_of_ble_eq_true rfl, Nat.le_of_ble_eq_true rfl⟩) rfl hls (Nat.le_of_ble_eq_true rfl) dX3_readAll_1 ⟨Nat.zero_le _, Nat.zero_le _⟩) (fun S_1 H locs he hW => ?_)
  have he_1 := he
  have zk := nm_at zk he_1
  refine lv_iconst (v := 0) hx hb dX3_readAll_4 (by decide) ?_
  refine lv_istore_n (lv' := [(1, .int 0), (0, .ref (ad tO))]) hx hb dX3_readAll_5 rfl hl (by decide) rfl (fun ls hl => ?_)
  have hls := hl.1
  exact w_X3_readAll_L6 l B hE  _  (61) (0) S_1 _ _ _ (show 0 ≤ 60 by omega) (show 0 + (61) = 61 by omega) hW (lv_sub hl [0, 1] rfl) hls zk

end P23_text
