section HELP0
theorem hd_L_join : yL_join.cls = RL ∧ yL_join.cls ≠ "java/lang/invoke/MethodHandle" ∧ yL_join.cls ≠ "java/lang/invoke/VarHandle" ∧ (parseMethodDescriptor yL_join.desc).map (fun d => d.parameters.length) = some 2 := by decide +kernel
theorem h_L_join {D : va_G} {ad : Nat → Nat} {V : vE} (l : Launch) (sz : Nat) (hl0 : l.stackTraces = false) (S : vS) : vx_Met l yL_join wsL_join (rmX 7 1) (pH D 158 (cC D ad) ad sz V S [.ref (ad jO), .ref (ad oL)]) (va_Qi (fun (r : Int32) (S1 : vS) => (r, S1) = hL (fun c : Nat => if c = 0 then (0 : Int32) else 1) (x_X4_join S)) (bW D 158 (cC D ad) ad (aW 158 ad sz)) (aW 158 ad sz)) (xX D 158 (cC D ad) ad (aW 158 ad sz) (fun _ _ => False)) 1 6 (aW 158 ad sz) := by
  refine x_metH (own := RL) (cc := cL_join) (maxL := 3) (ret := (some .int)) (hh := [(0, 8, 11, 13)]) (Qc := fun A => va_Qi (fun (r : Int32) (S1 : vS) => (r, S1) = hL (fun c : Nat => if c = 0 then (0 : Int32) else 1) (x_X4_join S)) (bW D 158 (cC D ad) ad A) A) (XC := fun A => xX D 158 (cC D ad) ad A (fun _ _ => False)) rfl ⟨by decide +kernel, rfl, Nat.le_of_ble_eq_true rfl⟩ ?_
  intro p e s mm args below meth c A ls B htab hW hE hN hl hls
  have hx := B.1.1
  have hb := B.1.2.1
  have hl : lv_has ls 3 [(0, .ref (ad jO)), (1, .ref (ad oL))] := hl
  refine lv_aload_n hx hb dL_join_0 rfl (lv_at hl 1 rfl) ?_
  refine lv_iconst (v := 0) hx hb dL_join_1 (by decide) ?_
  refine lv_aload_n hx hb dL_join_2 rfl (lv_at hl 0 rfl) ?_
  refine vx_calli (x_runVX B hW hE (As := []) (rest := [.int 0, .ref (ad oL)]) hqj cC_j cls4 (c_X4_join (D := D) (ad := ad) (V := V) l _ hl0 S) (cwV 0 B.1.2.2.2.2 gL_join_X4_join rfl rfl rfl hd_X4_join ⟨Nat.le_of_ble_eq_true rfl, Nat.le_of_ble_eq_true rfl⟩) rfl hls (Nat.le_of_ble_eq_true rfl) dL_join_3 ⟨Nat.le_of_ble_eq_true rfl, Nat.le_of_ble_eq_true rfl⟩) hW.2.2.1 (fun q _ h => aW_A hW q h) (aW_A hW) (fun q _ h => aW_A hW q h) (fun E ce q9 u t H1 locs1 ht _ _ hB _ _ hS hce hcv hcl => ?_) (fun r u t H1 locs1 ht _ hp hB _ _ hS => ?_)
  · have hW := hW.back (aW_A hW) ht hB.2 hS
    obtain ⟨k, v, hk, hn, he⟩ := hB.1
    have hcd := cd_join (S := S)
    rw [← he] at hcd
    have hcd : k = 0 ∨ k = 1 := hcd
    rcases hcd with hcd | rfl
    · exact absurd hcd hk
    · have hn : "java/lang/IllegalStateException" = E := hn
      subst hn
      refine vx_catch (own := RL) (name := "java/lang/IllegalStateException") B.1.2.2.2.1 [] (⟨0, 8, 11, 13⟩ : ExceptionTableEntry) [] htab (fun z hz => absurd hz List.not_mem_nil) (by decide) (by decide) (B.1.2.2.2.2 (.classLink RL 13 "java/lang/IllegalStateException") (by decide +kernel)) (va_Nw.use rfl (hE.2.2.2.1 _ (by decide))) hce hcv hcl ?_
      refine lv_astore_n (lv' := [(2, .ref q9), (0, .ref (ad jO)), (1, .ref (ad oL))]) hx hb dL_join_11 rfl hl (by decide) rfl (fun ls hl => ?_)
      refine lv_iconst (v := 1) hx hb dL_join_12 (by decide) ?_
      exact x_end ⟨Nat.le_of_ble_eq_true rfl, Nat.le_of_ble_eq_true rfl⟩ (x_iret B hW (by rw [← he]; rfl) dL_join_13)
  · have hW := hW.back (aW_A hW) ht hB hS
    refine lv_i2l hx hb dL_join_6 rfl ?_
    refine x_last B hW dL_join_7 (fun H locs S2 hs hW => ?_)
    refine lv_goto (tgt := 14) hx hb dL_join_8 (by decide) ?_
    refine lv_iconst (v := 0) hx hb dL_join_14 (by decide) ?_
    exact x_end ⟨Nat.le_of_ble_eq_true rfl, Nat.le_of_ble_eq_true rfl⟩ (x_iret B hW (by rw [hs, ← hp]; rfl) dL_join_15)
theorem hd_L_leave : yL_leave.cls = RL ∧ yL_leave.cls ≠ "java/lang/invoke/MethodHandle" ∧ yL_leave.cls ≠ "java/lang/invoke/VarHandle" ∧ (parseMethodDescriptor yL_leave.desc).map (fun d => d.parameters.length) = some 3 := by decide +kernel
theorem h_L_leave {D : va_G} {ad : Nat → Nat} {V : vE} (l : Launch) (sz : Nat) (hl0 : l.stackTraces = false) (S : vS) (p1 : Int32) : vx_Met l yL_leave wsL_leave (rmX 8 2) (pH D 158 (cC D ad) ad sz V S [.ref (ad jO), .int p1, .ref (ad oL)]) (va_Qi (fun (r : Int32) (S1 : vS) => (r, S1) = hL (fun c : Nat => if c = 0 then (0 : Int32) else if c = 2 then 1 else 2) (x_X4_leave S p1)) (bW D 158 (cC D ad) ad (aW 158 ad sz)) (aW 158 ad sz)) (xX D 158 (cC D ad) ad (aW 158 ad sz) (fun _ _ => False)) 2 12 (aW 158 ad sz) := by
  refine x_metH (own := RL) (cc := cL_leave) (maxL := 4) (ret := (some .int)) (hh := [(0, 9, 12, 19), (0, 9, 15, 13)]) (Qc := fun A => va_Qi (fun (r : Int32) (S1 : vS) => (r, S1) = hL (fun c : Nat => if c = 0 then (0 : Int32) else if c = 2 then 1 else 2) (x_X4_leave S p1)) (bW D 158 (cC D ad) ad A) A) (XC := fun A => xX D 158 (cC D ad) ad A (fun _ _ => False)) rfl ⟨by decide +kernel, rfl, Nat.le_of_ble_eq_true rfl⟩ ?_
  intro p e s mm args below meth c A ls B htab hW hE hN hl hls
  have hx := B.1.1
  have hb := B.1.2.1
  have hl : lv_has ls 4 [(0, .ref (ad jO)), (1, .int p1), (2, .ref (ad oL))] := hl
  refine lv_aload_n hx hb dL_leave_0 rfl (lv_at hl 2 rfl) ?_
  refine lv_iconst (v := 0) hx hb dL_leave_1 (by decide) ?_
  refine lv_aload_n hx hb dL_leave_2 rfl (lv_at hl 0 rfl) ?_
  refine lv_iload_n hx hb dL_leave_3 rfl (lv_at hl 1 rfl) ?_
  refine vx_calli (x_runVX B hW hE (As := [.int p1]) (rest := [.int 0, .ref (ad oL)]) hqj cC_j cls4 (c_X4_leave (D := D) (ad := ad) (V := V) l _ hl0 S p1) (cwV 1 B.1.2.2.2.2 gL_leave_X4_leave rfl rfl rfl hd_X4_leave ⟨Nat.le_of_ble_eq_true rfl, Nat.le_of_ble_eq_true rfl⟩) rfl hls (Nat.le_of_ble_eq_true rfl) dL_leave_4 ⟨Nat.le_of_ble_eq_true rfl, Nat.le_of_ble_eq_true rfl⟩) hW.2.2.1 (fun q _ h => aW_A hW q h) (aW_A hW) (fun q _ h => aW_A hW q h) (fun E ce q9 u t H1 locs1 ht _ _ hB _ _ hS hce hcv hcl => ?_) (fun r u t H1 locs1 ht _ hp hB _ _ hS => ?_)
  · have hW := hW.back (aW_A hW) ht hB.2 hS
    obtain ⟨k, v, hk, hn, he⟩ := hB.1
    have hcd := cd_leave (S := S) p1
    rw [← he] at hcd
    have hcd : k = 0 ∨ k = 1 ∨ k = 2 := hcd
    rcases hcd with hcd | rfl | rfl
    · exact absurd hcd hk
    · have hn : "java/lang/IllegalStateException" = E := hn
      subst hn
      refine vx_catch (own := RL) (name := "java/lang/IllegalStateException") B.1.2.2.2.1 [(⟨0, 9, 12, 19⟩ : ExceptionTableEntry)] (⟨0, 9, 15, 13⟩ : ExceptionTableEntry) [] htab (fun z hz => by
        rcases List.mem_cons.mp hz with rfl | hz
        · exact Or.inr ⟨by decide, "java/lang/IndexOutOfBoundsException", B.1.2.2.2.2 (.classLink RL 19 "java/lang/IndexOutOfBoundsException") (by decide +kernel), hN.2.1⟩
        · exact absurd hz List.not_mem_nil) (by decide) (by decide) (B.1.2.2.2.2 (.classLink RL 13 "java/lang/IllegalStateException") (by decide +kernel)) (va_Nw.use rfl (hE.2.2.2.1 _ (by decide))) hce hcv hcl ?_
      refine lv_astore_n (lv' := [(3, .ref q9), (0, .ref (ad jO)), (1, .int p1), (2, .ref (ad oL))]) hx hb dL_leave_15 rfl hl (by decide) rfl (fun ls hl => ?_)
      refine lv_iconst (v := 2) hx hb dL_leave_16 (by decide) ?_
      exact x_end ⟨Nat.le_of_ble_eq_true rfl, Nat.le_of_ble_eq_true rfl⟩ (x_iret B hW (by rw [← he]; rfl) dL_leave_17)
    · have hn : "java/lang/IndexOutOfBoundsException" = E := hn
      subst hn
      refine vx_catch (own := RL) (name := "java/lang/IndexOutOfBoundsException") B.1.2.2.2.1 [] (⟨0, 9, 12, 19⟩ : ExceptionTableEntry) [(⟨0, 9, 15, 13⟩ : ExceptionTableEntry)] htab (fun z hz => absurd hz List.not_mem_nil) (by decide) (by decide) (B.1.2.2.2.2 (.classLink RL 19 "java/lang/IndexOutOfBoundsException") (by decide +kernel)) (va_Nw.use rfl (hE.2.2.2.1 _ (by decide))) hce hcv hcl ?_
      refine lv_astore_n (lv' := [(3, .ref q9), (0, .ref (ad jO)), (1, .int p1), (2, .ref (ad oL))]) hx hb dL_leave_12 rfl hl (by decide) rfl (fun ls hl => ?_)
      refine lv_iconst (v := 1) hx hb dL_leave_13 (by decide) ?_
      exact x_end ⟨Nat.le_of_ble_eq_true rfl, Nat.le_of_ble_eq_true rfl⟩ (x_iret B hW (by rw [← he]; rfl) dL_leave_14)
  · have hW := hW.back (aW_A hW) ht hB hS
    refine lv_i2l hx hb dL_leave_7 rfl ?_
    refine x_last B hW dL_leave_8 (fun H locs S2 hs hW => ?_)
    refine lv_goto (tgt := 18) hx hb dL_leave_9 (by decide) ?_
    refine lv_iconst (v := 0) hx hb dL_leave_18 (by decide) ?_
    exact x_end ⟨Nat.le_of_ble_eq_true rfl, Nat.le_of_ble_eq_true rfl⟩ (x_iret B hW (by rw [hs, ← hp]; rfl) dL_leave_19)
theorem hd_L_lend : yL_lend.cls = RL ∧ yL_lend.cls ≠ "java/lang/invoke/MethodHandle" ∧ yL_lend.cls ≠ "java/lang/invoke/VarHandle" ∧ (parseMethodDescriptor yL_lend.desc).map (fun d => d.parameters.length) = some 5 := by decide +kernel
theorem h_L_lend {D : va_G} {ad : Nat → Nat} {V : vE} (l : Launch) (sz : Nat) (hl0 : l.stackTraces = false) (S : vS) (p1 : Int32) (p2 : Int32) (p3 : Int32) : vx_Met l yL_lend wsL_lend (rmX 8 2) (pH D 158 (cC D ad) ad sz V S [.ref (ad jO), .int p1, .int p2, .int p3, .ref (ad oL)]) (va_Qi (fun (r : Int32) (S1 : vS) => (r, S1) = hL mp3 (x_X4_lend S p1 p2 p3)) (bW D 158 (cC D ad) ad (aW 158 ad sz)) (aW 158 ad sz)) (xX D 158 (cC D ad) ad (aW 158 ad sz) (fun _ _ => False)) 2 12 (aW 158 ad sz) := by
  refine x_metH (own := RL) (cc := cL_lend) (maxL := 6) (ret := (some .int)) (hh := [(0, 12, 15, 19), (0, 12, 19, 25), (0, 12, 23, 13)]) (Qc := fun A => va_Qi (fun (r : Int32) (S1 : vS) => (r, S1) = hL mp3 (x_X4_lend S p1 p2 p3)) (bW D 158 (cC D ad) ad A) A) (XC := fun A => xX D 158 (cC D ad) ad A (fun _ _ => False)) rfl ⟨by decide +kernel, rfl, Nat.le_of_ble_eq_true rfl⟩ ?_
  intro p e s mm args below meth c A ls B htab hW hE hN hl hls
  have hx := B.1.1
  have hb := B.1.2.1
  have hl : lv_has ls 6 [(0, .ref (ad jO)), (1, .int p1), (2, .int p2), (3, .int p3), (4, .ref (ad oL))] := hl
  refine lv_aload hx hb dL_lend_0 (lv_at hl 4 rfl) ?_
  refine lv_iconst (v := 0) hx hb dL_lend_2 (by decide) ?_
  refine lv_aload_n hx hb dL_lend_3 rfl (lv_at hl 0 rfl) ?_
  refine lv_iload_n hx hb dL_lend_4 rfl (lv_at hl 1 rfl) ?_
  refine lv_iload_n hx hb dL_lend_5 rfl (lv_at hl 2 rfl) ?_
  refine lv_iload_n hx hb dL_lend_6 rfl (lv_at hl 3 rfl) ?_
  refine vx_calli (x_runVX B hW hE (As := [.int p1, .int p2, .int p3]) (rest := [.int 0, .ref (ad oL)]) hqj cC_j cls4 (c_X4_lend (D := D) (ad := ad) (V := V) l _ hl0 S p1 p2 p3) (cwV 3 B.1.2.2.2.2 gL_lend_X4_lend rfl rfl rfl hd_X4_lend ⟨Nat.le_of_ble_eq_true rfl, Nat.le_of_ble_eq_true rfl⟩) rfl hls (Nat.le_of_ble_eq_true rfl) dL_lend_7 ⟨Nat.le_of_ble_eq_true rfl, Nat.le_of_ble_eq_true rfl⟩) hW.2.2.1 (fun q _ h => aW_A hW q h) (aW_A hW) (fun q _ h => aW_A hW q h) (fun E ce q9 u t H1 locs1 ht _ _ hB _ _ hS hce hcv hcl => ?_) (fun r u t H1 locs1 ht _ hp hB _ _ hS => ?_)
  · have hW := hW.back (aW_A hW) ht hB.2 hS
    obtain ⟨k, v, hk, hn, he⟩ := hB.1
    have hcd := cd_lend (S := S) p1 p2 p3
    rw [← he] at hcd
    have hcd : k = 0 ∨ k = 1 ∨ k = 2 ∨ k = 3 := hcd
    rcases hcd with hcd | rfl | rfl | rfl
    · exact absurd hcd hk
    · have hn : "java/lang/IllegalStateException" = E := hn
      subst hn
      refine vx_catch (own := RL) (name := "java/lang/IllegalStateException") B.1.2.2.2.1 [(⟨0, 12, 15, 19⟩ : ExceptionTableEntry), (⟨0, 12, 19, 25⟩ : ExceptionTableEntry)] (⟨0, 12, 23, 13⟩ : ExceptionTableEntry) [] htab (fun z hz => by
        rcases List.mem_cons.mp hz with rfl | hz
        · exact Or.inr ⟨by decide, "java/lang/IndexOutOfBoundsException", B.1.2.2.2.2 (.classLink RL 19 "java/lang/IndexOutOfBoundsException") (by decide +kernel), hN.2.1⟩
        · rcases List.mem_cons.mp hz with rfl | hz
          · exact Or.inr ⟨by decide, "java/lang/IllegalArgumentException", B.1.2.2.2.2 (.classLink RL 25 "java/lang/IllegalArgumentException") (by decide +kernel), hN.2.2⟩
          · exact absurd hz List.not_mem_nil) (by decide) (by decide) (B.1.2.2.2.2 (.classLink RL 13 "java/lang/IllegalStateException") (by decide +kernel)) (va_Nw.use rfl (hE.2.2.2.1 _ (by decide))) hce hcv hcl ?_
      refine lv_astore (lv' := [(5, .ref q9), (0, .ref (ad jO)), (1, .int p1), (2, .int p2), (3, .int p3), (4, .ref (ad oL))]) hx hb dL_lend_23 hl (by decide) rfl (fun ls hl => ?_)
      refine lv_iconst (v := 3) hx hb dL_lend_25 (by decide) ?_
      exact x_end ⟨Nat.le_of_ble_eq_true rfl, Nat.le_of_ble_eq_true rfl⟩ (x_iret B hW (by rw [← he]; rfl) dL_lend_26)
    · have hn : "java/lang/IndexOutOfBoundsException" = E := hn
      subst hn
      refine vx_catch (own := RL) (name := "java/lang/IndexOutOfBoundsException") B.1.2.2.2.1 [] (⟨0, 12, 15, 19⟩ : ExceptionTableEntry) [(⟨0, 12, 19, 25⟩ : ExceptionTableEntry), (⟨0, 12, 23, 13⟩ : ExceptionTableEntry)] htab (fun z hz => absurd hz List.not_mem_nil) (by decide) (by decide) (B.1.2.2.2.2 (.classLink RL 19 "java/lang/IndexOutOfBoundsException") (by decide +kernel)) (va_Nw.use rfl (hE.2.2.2.1 _ (by decide))) hce hcv hcl ?_
      refine lv_astore (lv' := [(5, .ref q9), (0, .ref (ad jO)), (1, .int p1), (2, .int p2), (3, .int p3), (4, .ref (ad oL))]) hx hb dL_lend_15 hl (by decide) rfl (fun ls hl => ?_)
      refine lv_iconst (v := 1) hx hb dL_lend_17 (by decide) ?_
      exact x_end ⟨Nat.le_of_ble_eq_true rfl, Nat.le_of_ble_eq_true rfl⟩ (x_iret B hW (by rw [← he]; rfl) dL_lend_18)
    · have hn : "java/lang/IllegalArgumentException" = E := hn
      subst hn
      refine vx_catch (own := RL) (name := "java/lang/IllegalArgumentException") B.1.2.2.2.1 [(⟨0, 12, 15, 19⟩ : ExceptionTableEntry)] (⟨0, 12, 19, 25⟩ : ExceptionTableEntry) [(⟨0, 12, 23, 13⟩ : ExceptionTableEntry)] htab (fun z hz => by
        rcases List.mem_cons.mp hz with rfl | hz
        · exact Or.inr ⟨by decide, "java/lang/IndexOutOfBoundsException", B.1.2.2.2.2 (.classLink RL 19 "java/lang/IndexOutOfBoundsException") (by decide +kernel), hN.1⟩
        · exact absurd hz List.not_mem_nil) (by decide) (by decide) (B.1.2.2.2.2 (.classLink RL 25 "java/lang/IllegalArgumentException") (by decide +kernel)) (va_Nw.use rfl (hE.2.2.2.1 _ (by decide))) hce hcv hcl ?_
      refine lv_astore (lv' := [(5, .ref q9), (0, .ref (ad jO)), (1, .int p1), (2, .int p2), (3, .int p3), (4, .ref (ad oL))]) hx hb dL_lend_19 hl (by decide) rfl (fun ls hl => ?_)
      refine lv_iconst (v := 2) hx hb dL_lend_21 (by decide) ?_
      exact x_end ⟨Nat.le_of_ble_eq_true rfl, Nat.le_of_ble_eq_true rfl⟩ (x_iret B hW (by rw [← he]; rfl) dL_lend_22)
  · have hW := hW.back (aW_A hW) ht hB hS
    refine lv_i2l hx hb dL_lend_10 rfl ?_
    refine x_last B hW dL_lend_11 (fun H locs S2 hs hW => ?_)
    refine lv_goto (tgt := 27) hx hb dL_lend_12 (by decide) ?_
    refine lv_iconst (v := 0) hx hb dL_lend_27 (by decide) ?_
    exact x_end ⟨Nat.le_of_ble_eq_true rfl, Nat.le_of_ble_eq_true rfl⟩ (x_iret B hW (by rw [hs, ← hp]; rfl) dL_lend_28)
theorem hd_L_absent : yL_absent.cls = RL ∧ yL_absent.cls ≠ "java/lang/invoke/MethodHandle" ∧ yL_absent.cls ≠ "java/lang/invoke/VarHandle" ∧ (parseMethodDescriptor yL_absent.desc).map (fun d => d.parameters.length) = some 3 := by decide +kernel
theorem h_L_absent {D : va_G} {ad : Nat → Nat} {V : vE} (l : Launch) (sz : Nat) (hl0 : l.stackTraces = false) (S : vS) (p1 : Int32) : vx_Met l yL_absent wsL_absent (rmX 8 1) (pH D 158 (cC D ad) ad sz V S [.ref (ad jO), .int p1, .ref (ad oL)]) (va_Qi (fun (r : Int32) (S1 : vS) => (r, S1) = hL (fun c : Nat => if c = 0 then (0 : Int32) else 1) (x_X4_absent S p1)) (bW D 158 (cC D ad) ad (aW 158 ad sz)) (aW 158 ad sz)) (xX D 158 (cC D ad) ad (aW 158 ad sz) (fun _ _ => False)) 1 6 (aW 158 ad sz) := by
  refine x_metH (own := RL) (cc := cL_absent) (maxL := 4) (ret := (some .int)) (hh := [(0, 9, 12, 19)]) (Qc := fun A => va_Qi (fun (r : Int32) (S1 : vS) => (r, S1) = hL (fun c : Nat => if c = 0 then (0 : Int32) else 1) (x_X4_absent S p1)) (bW D 158 (cC D ad) ad A) A) (XC := fun A => xX D 158 (cC D ad) ad A (fun _ _ => False)) rfl ⟨by decide +kernel, rfl, Nat.le_of_ble_eq_true rfl⟩ ?_
  intro p e s mm args below meth c A ls B htab hW hE hN hl hls
  have hx := B.1.1
  have hb := B.1.2.1
  have hl : lv_has ls 4 [(0, .ref (ad jO)), (1, .int p1), (2, .ref (ad oL))] := hl
  refine lv_aload_n hx hb dL_absent_0 rfl (lv_at hl 2 rfl) ?_
  refine lv_iconst (v := 0) hx hb dL_absent_1 (by decide) ?_
  refine lv_aload_n hx hb dL_absent_2 rfl (lv_at hl 0 rfl) ?_
  refine lv_iload_n hx hb dL_absent_3 rfl (lv_at hl 1 rfl) ?_
  refine vx_calli (x_runVX B hW hE (As := [.int p1]) (rest := [.int 0, .ref (ad oL)]) hqj cC_j cls4 (c_X4_absent (D := D) (ad := ad) (V := V) l _ hl0 S p1) (cwV 1 B.1.2.2.2.2 gL_absent_X4_absent rfl rfl rfl hd_X4_absent ⟨Nat.le_of_ble_eq_true rfl, Nat.le_of_ble_eq_true rfl⟩) rfl hls (Nat.le_of_ble_eq_true rfl) dL_absent_4 ⟨Nat.le_of_ble_eq_true rfl, Nat.le_of_ble_eq_true rfl⟩) hW.2.2.1 (fun q _ h => aW_A hW q h) (aW_A hW) (fun q _ h => aW_A hW q h) (fun E ce q9 u t H1 locs1 ht _ _ hB _ _ hS hce hcv hcl => ?_) (fun r u t H1 locs1 ht _ hp hB _ _ hS => ?_)
  · have hW := hW.back (aW_A hW) ht hB.2 hS
    obtain ⟨k, v, hk, hn, he⟩ := hB.1
    have hcd := cd_absent (S := S) p1
    rw [← he] at hcd
    have hcd : k = 0 ∨ k = 2 := hcd
    rcases hcd with hcd | rfl
    · exact absurd hcd hk
    · have hn : "java/lang/IndexOutOfBoundsException" = E := hn
      subst hn
      refine vx_catch (own := RL) (name := "java/lang/IndexOutOfBoundsException") B.1.2.2.2.1 [] (⟨0, 9, 12, 19⟩ : ExceptionTableEntry) [] htab (fun z hz => absurd hz List.not_mem_nil) (by decide) (by decide) (B.1.2.2.2.2 (.classLink RL 19 "java/lang/IndexOutOfBoundsException") (by decide +kernel)) (va_Nw.use rfl (hE.2.2.2.1 _ (by decide))) hce hcv hcl ?_
      refine lv_astore_n (lv' := [(3, .ref q9), (0, .ref (ad jO)), (1, .int p1), (2, .ref (ad oL))]) hx hb dL_absent_12 rfl hl (by decide) rfl (fun ls hl => ?_)
      refine lv_iconst (v := 1) hx hb dL_absent_13 (by decide) ?_
      exact x_end ⟨Nat.le_of_ble_eq_true rfl, Nat.le_of_ble_eq_true rfl⟩ (x_iret B hW (by rw [← he]; rfl) dL_absent_14)
  · have hW := hW.back (aW_A hW) ht hB hS
    refine lv_i2l hx hb dL_absent_7 rfl ?_
    refine x_last B hW dL_absent_8 (fun H locs S2 hs hW => ?_)
    refine lv_goto (tgt := 15) hx hb dL_absent_9 (by decide) ?_
    refine lv_iconst (v := 0) hx hb dL_absent_15 (by decide) ?_
    exact x_end ⟨Nat.le_of_ble_eq_true rfl, Nat.le_of_ble_eq_true rfl⟩ (x_iret B hW (by rw [hs, ← hp]; rfl) dL_absent_16)
theorem hd_L_week : yL_week.cls = RL ∧ yL_week.cls ≠ "java/lang/invoke/MethodHandle" ∧ yL_week.cls ≠ "java/lang/invoke/VarHandle" ∧ (parseMethodDescriptor yL_week.desc).map (fun d => d.parameters.length) = some 2 := by decide +kernel
theorem h_L_week {D : va_G} {ad : Nat → Nat} {V : vE} (l : Launch) (sz : Nat) (hl0 : l.stackTraces = false) (S : vS) : vx_Met l yL_week wsL_week (rmX 7 1) (pH D 158 (cC D ad) ad sz V S [.ref (ad jO), .ref (ad oL)]) (va_Qi (fun (r : Int32) (S1 : vS) => (r, S1) = hL (fun c : Nat => if c = 0 then (0 : Int32) else 1) (x_X4_week S)) (bW D 158 (cC D ad) ad (aW 158 ad sz)) (aW 158 ad sz)) (xX D 158 (cC D ad) ad (aW 158 ad sz) (fun _ _ => False)) 1 6 (aW 158 ad sz) := by
  refine x_metH (own := RL) (cc := cL_week) (maxL := 3) (ret := (some .int)) (hh := [(0, 8, 11, 13)]) (Qc := fun A => va_Qi (fun (r : Int32) (S1 : vS) => (r, S1) = hL (fun c : Nat => if c = 0 then (0 : Int32) else 1) (x_X4_week S)) (bW D 158 (cC D ad) ad A) A) (XC := fun A => xX D 158 (cC D ad) ad A (fun _ _ => False)) rfl ⟨by decide +kernel, rfl, Nat.le_of_ble_eq_true rfl⟩ ?_
  intro p e s mm args below meth c A ls B htab hW hE hN hl hls
  have hx := B.1.1
  have hb := B.1.2.1
  have hl : lv_has ls 3 [(0, .ref (ad jO)), (1, .ref (ad oL))] := hl
  refine lv_aload_n hx hb dL_week_0 rfl (lv_at hl 1 rfl) ?_
  refine lv_iconst (v := 0) hx hb dL_week_1 (by decide) ?_
  refine lv_aload_n hx hb dL_week_2 rfl (lv_at hl 0 rfl) ?_
  refine vx_calli (x_runVX B hW hE (As := []) (rest := [.int 0, .ref (ad oL)]) hqj cC_j cls4 (c_X4_week (D := D) (ad := ad) (V := V) l _ hl0 S) (cwV 0 B.1.2.2.2.2 gL_week_X4_week rfl rfl rfl hd_X4_week ⟨Nat.le_of_ble_eq_true rfl, Nat.le_of_ble_eq_true rfl⟩) rfl hls (Nat.le_of_ble_eq_true rfl) dL_week_3 ⟨Nat.le_of_ble_eq_true rfl, Nat.le_of_ble_eq_true rfl⟩) hW.2.2.1 (fun q _ h => aW_A hW q h) (aW_A hW) (fun q _ h => aW_A hW q h) (fun E ce q9 u t H1 locs1 ht _ _ hB _ _ hS hce hcv hcl => ?_) (fun r u t H1 locs1 ht _ hp hB _ _ hS => ?_)
  · have hW := hW.back (aW_A hW) ht hB.2 hS
    obtain ⟨k, v, hk, hn, he⟩ := hB.1
    have hcd := cd_week (S := S)
    rw [← he] at hcd
    have hcd : k = 0 ∨ k = 1 := hcd
    rcases hcd with hcd | rfl
    · exact absurd hcd hk
    · have hn : "java/lang/IllegalStateException" = E := hn
      subst hn
      refine vx_catch (own := RL) (name := "java/lang/IllegalStateException") B.1.2.2.2.1 [] (⟨0, 8, 11, 13⟩ : ExceptionTableEntry) [] htab (fun z hz => absurd hz List.not_mem_nil) (by decide) (by decide) (B.1.2.2.2.2 (.classLink RL 13 "java/lang/IllegalStateException") (by decide +kernel)) (va_Nw.use rfl (hE.2.2.2.1 _ (by decide))) hce hcv hcl ?_
      refine lv_astore_n (lv' := [(2, .ref q9), (0, .ref (ad jO)), (1, .ref (ad oL))]) hx hb dL_week_11 rfl hl (by decide) rfl (fun ls hl => ?_)
      refine lv_iconst (v := 1) hx hb dL_week_12 (by decide) ?_
      exact x_end ⟨Nat.le_of_ble_eq_true rfl, Nat.le_of_ble_eq_true rfl⟩ (x_iret B hW (by rw [← he]; rfl) dL_week_13)
  · have hW := hW.back (aW_A hW) ht hB hS
    refine lv_i2l hx hb dL_week_6 rfl ?_
    refine x_last B hW dL_week_7 (fun H locs S2 hs hW => ?_)
    refine lv_goto (tgt := 14) hx hb dL_week_8 (by decide) ?_
    refine lv_iconst (v := 0) hx hb dL_week_14 (by decide) ?_
    exact x_end ⟨Nat.le_of_ble_eq_true rfl, Nat.le_of_ble_eq_true rfl⟩ (x_iret B hW (by rw [hs, ← hp]; rfl) dL_week_15)
end HELP0
