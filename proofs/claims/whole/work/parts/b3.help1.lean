section HELP1
theorem hd_L_payBack : yL_payBack.cls = RL ∧ yL_payBack.cls ≠ "java/lang/invoke/MethodHandle" ∧ yL_payBack.cls ≠ "java/lang/invoke/VarHandle" ∧ (parseMethodDescriptor yL_payBack.desc).map (fun d => d.parameters.length) = some 4 := by decide +kernel
theorem h_L_payBack {D : va_G} {ad : Nat → Nat} {V : vE} (l : Launch) (sz : Nat) (hl0 : l.stackTraces = false) (S : vS) (p1 : Int32) (p2 : Int32) : vx_Met l yL_payBack wsL_payBack (rmX 8 3) (pH D 158 (cC D ad) ad sz V S [.ref (ad jO), .int p1, .int p2, .ref (ad oL)]) (va_Qi (fun (r : Int32) (S1 : vS) => (r, S1) = hL mp3 (x_X4_payBack S p1 p2)) (bW D 158 (cC D ad) ad (aW 158 ad sz)) (aW 158 ad sz)) (xX D 158 (cC D ad) ad (aW 158 ad sz) (fun _ _ => False)) 3 18 (aW 158 ad sz) := by
  refine x_metH (own := RL) (cc := cL_payBack) (maxL := 5) (ret := (some .int)) (hh := [(0, 10, 13, 19), (0, 10, 17, 25), (0, 10, 21, 13)]) (Qc := fun A => va_Qi (fun (r : Int32) (S1 : vS) => (r, S1) = hL mp3 (x_X4_payBack S p1 p2)) (bW D 158 (cC D ad) ad A) A) (XC := fun A => xX D 158 (cC D ad) ad A (fun _ _ => False)) rfl ⟨by decide +kernel, rfl, Nat.le_of_ble_eq_true rfl⟩ ?_
  intro p e s mm args below meth c A ls B htab hW hE hN hl hls
  have hx := B.1.1
  have hb := B.1.2.1
  have hl : lv_has ls 5 [(0, .ref (ad jO)), (1, .int p1), (2, .int p2), (3, .ref (ad oL))] := hl
  refine lv_aload_n hx hb dL_payBack_0 rfl (lv_at hl 3 rfl) ?_
  refine lv_iconst (v := 0) hx hb dL_payBack_1 (by decide) ?_
  refine lv_aload_n hx hb dL_payBack_2 rfl (lv_at hl 0 rfl) ?_
  refine lv_iload_n hx hb dL_payBack_3 rfl (lv_at hl 1 rfl) ?_
  refine lv_iload_n hx hb dL_payBack_4 rfl (lv_at hl 2 rfl) ?_
  refine vx_calli (x_runVX B hW hE (As := [.int p1, .int p2]) (rest := [.int 0, .ref (ad oL)]) hqj cC_j cls4 (c_X4_payBack (D := D) (ad := ad) (V := V) l _ hl0 S p1 p2) (cwV 2 B.1.2.2.2.2 gL_payBack_X4_payBack rfl rfl rfl hd_X4_payBack ⟨Nat.le_of_ble_eq_true rfl, Nat.le_of_ble_eq_true rfl⟩) rfl hls (Nat.le_of_ble_eq_true rfl) dL_payBack_5 ⟨Nat.le_of_ble_eq_true rfl, Nat.le_of_ble_eq_true rfl⟩) hW.2.2.1 (fun q _ h => aW_A hW q h) (aW_A hW) (fun q _ h => aW_A hW q h) (fun E ce q9 u t H1 locs1 ht _ _ hB _ _ hS hce hcv hcl => ?_) (fun r u t H1 locs1 ht _ hp hB _ _ hS => ?_)
  · have hW := hW.back (aW_A hW) ht hB.2 hS
    obtain ⟨k, v, hk, hn, he⟩ := hB.1
    have hcd := cd_payBack (S := S) p1 p2
    rw [← he] at hcd
    have hcd : k = 0 ∨ k = 1 ∨ k = 2 ∨ k = 3 := hcd
    rcases hcd with hcd | rfl | rfl | rfl
    · exact absurd hcd hk
    · have hn : "java/lang/IllegalStateException" = E := hn
      subst hn
      refine vx_catch (own := RL) (name := "java/lang/IllegalStateException") B.1.2.2.2.1 [(⟨0, 10, 13, 19⟩ : ExceptionTableEntry), (⟨0, 10, 17, 25⟩ : ExceptionTableEntry)] (⟨0, 10, 21, 13⟩ : ExceptionTableEntry) [] htab (fun z hz => by
        rcases List.mem_cons.mp hz with rfl | hz
        · exact Or.inr ⟨by decide, "java/lang/IndexOutOfBoundsException", B.1.2.2.2.2 (.classLink RL 19 "java/lang/IndexOutOfBoundsException") (by decide +kernel), hN.2.1⟩
        · rcases List.mem_cons.mp hz with rfl | hz
          · exact Or.inr ⟨by decide, "java/lang/IllegalArgumentException", B.1.2.2.2.2 (.classLink RL 25 "java/lang/IllegalArgumentException") (by decide +kernel), hN.2.2⟩
          · exact absurd hz List.not_mem_nil) (by decide) (by decide) (B.1.2.2.2.2 (.classLink RL 13 "java/lang/IllegalStateException") (by decide +kernel)) (va_Nw.use rfl (hE.2.2.2.1 _ (by decide))) hce hcv hcl ?_
      refine lv_astore (lv' := [(4, .ref q9), (0, .ref (ad jO)), (1, .int p1), (2, .int p2), (3, .ref (ad oL))]) hx hb dL_payBack_21 hl (by decide) rfl (fun ls hl => ?_)
      refine lv_iconst (v := 3) hx hb dL_payBack_23 (by decide) ?_
      exact x_end ⟨Nat.le_of_ble_eq_true rfl, Nat.le_of_ble_eq_true rfl⟩ (x_iret B hW (by rw [← he]; rfl) dL_payBack_24)
    · have hn : "java/lang/IndexOutOfBoundsException" = E := hn
      subst hn
      refine vx_catch (own := RL) (name := "java/lang/IndexOutOfBoundsException") B.1.2.2.2.1 [] (⟨0, 10, 13, 19⟩ : ExceptionTableEntry) [(⟨0, 10, 17, 25⟩ : ExceptionTableEntry), (⟨0, 10, 21, 13⟩ : ExceptionTableEntry)] htab (fun z hz => absurd hz List.not_mem_nil) (by decide) (by decide) (B.1.2.2.2.2 (.classLink RL 19 "java/lang/IndexOutOfBoundsException") (by decide +kernel)) (va_Nw.use rfl (hE.2.2.2.1 _ (by decide))) hce hcv hcl ?_
      refine lv_astore (lv' := [(4, .ref q9), (0, .ref (ad jO)), (1, .int p1), (2, .int p2), (3, .ref (ad oL))]) hx hb dL_payBack_13 hl (by decide) rfl (fun ls hl => ?_)
      refine lv_iconst (v := 1) hx hb dL_payBack_15 (by decide) ?_
      exact x_end ⟨Nat.le_of_ble_eq_true rfl, Nat.le_of_ble_eq_true rfl⟩ (x_iret B hW (by rw [← he]; rfl) dL_payBack_16)
    · have hn : "java/lang/IllegalArgumentException" = E := hn
      subst hn
      refine vx_catch (own := RL) (name := "java/lang/IllegalArgumentException") B.1.2.2.2.1 [(⟨0, 10, 13, 19⟩ : ExceptionTableEntry)] (⟨0, 10, 17, 25⟩ : ExceptionTableEntry) [(⟨0, 10, 21, 13⟩ : ExceptionTableEntry)] htab (fun z hz => by
        rcases List.mem_cons.mp hz with rfl | hz
        · exact Or.inr ⟨by decide, "java/lang/IndexOutOfBoundsException", B.1.2.2.2.2 (.classLink RL 19 "java/lang/IndexOutOfBoundsException") (by decide +kernel), hN.1⟩
        · exact absurd hz List.not_mem_nil) (by decide) (by decide) (B.1.2.2.2.2 (.classLink RL 25 "java/lang/IllegalArgumentException") (by decide +kernel)) (va_Nw.use rfl (hE.2.2.2.1 _ (by decide))) hce hcv hcl ?_
      refine lv_astore (lv' := [(4, .ref q9), (0, .ref (ad jO)), (1, .int p1), (2, .int p2), (3, .ref (ad oL))]) hx hb dL_payBack_17 hl (by decide) rfl (fun ls hl => ?_)
      refine lv_iconst (v := 2) hx hb dL_payBack_19 (by decide) ?_
      exact x_end ⟨Nat.le_of_ble_eq_true rfl, Nat.le_of_ble_eq_true rfl⟩ (x_iret B hW (by rw [← he]; rfl) dL_payBack_20)
  · have hW := hW.back (aW_A hW) ht hB hS
    refine lv_i2l hx hb dL_payBack_8 rfl ?_
    refine x_last B hW dL_payBack_9 (fun H locs S2 hs hW => ?_)
    refine lv_goto (tgt := 25) hx hb dL_payBack_10 (by decide) ?_
    refine lv_iconst (v := 0) hx hb dL_payBack_25 (by decide) ?_
    exact x_end ⟨Nat.le_of_ble_eq_true rfl, Nat.le_of_ble_eq_true rfl⟩ (x_iret B hW (by rw [hs, ← hp]; rfl) dL_payBack_26)
theorem hd_L_help : yL_help.cls = RL ∧ yL_help.cls ≠ "java/lang/invoke/MethodHandle" ∧ yL_help.cls ≠ "java/lang/invoke/VarHandle" ∧ (parseMethodDescriptor yL_help.desc).map (fun d => d.parameters.length) = some 4 := by decide +kernel
theorem h_L_help {D : va_G} {ad : Nat → Nat} {V : vE} (l : Launch) (sz : Nat) (hl0 : l.stackTraces = false) (S : vS) (p1 : Int32) (p2 : Int32) : vx_Met l yL_help wsL_help (rmX 8 3) (pH D 158 (cC D ad) ad sz V S [.ref (ad jO), .int p1, .int p2, .ref (ad oL)]) (va_Qi (fun (r : Int32) (S1 : vS) => (r, S1) = hL mp3 (x_X4_help S p1 p2)) (bW D 158 (cC D ad) ad (aW 158 ad sz)) (aW 158 ad sz)) (xX D 158 (cC D ad) ad (aW 158 ad sz) (fun _ _ => False)) 3 18 (aW 158 ad sz) := by
  refine x_metH (own := RL) (cc := cL_help) (maxL := 5) (ret := (some .int)) (hh := [(0, 10, 13, 19), (0, 10, 17, 25), (0, 10, 21, 13)]) (Qc := fun A => va_Qi (fun (r : Int32) (S1 : vS) => (r, S1) = hL mp3 (x_X4_help S p1 p2)) (bW D 158 (cC D ad) ad A) A) (XC := fun A => xX D 158 (cC D ad) ad A (fun _ _ => False)) rfl ⟨by decide +kernel, rfl, Nat.le_of_ble_eq_true rfl⟩ ?_
  intro p e s mm args below meth c A ls B htab hW hE hN hl hls
  have hx := B.1.1
  have hb := B.1.2.1
  have hl : lv_has ls 5 [(0, .ref (ad jO)), (1, .int p1), (2, .int p2), (3, .ref (ad oL))] := hl
  refine lv_aload_n hx hb dL_help_0 rfl (lv_at hl 3 rfl) ?_
  refine lv_iconst (v := 0) hx hb dL_help_1 (by decide) ?_
  refine lv_aload_n hx hb dL_help_2 rfl (lv_at hl 0 rfl) ?_
  refine lv_iload_n hx hb dL_help_3 rfl (lv_at hl 1 rfl) ?_
  refine lv_iload_n hx hb dL_help_4 rfl (lv_at hl 2 rfl) ?_
  refine vx_calli (x_runVX B hW hE (As := [.int p1, .int p2]) (rest := [.int 0, .ref (ad oL)]) hqj cC_j cls4 (c_X4_help (D := D) (ad := ad) (V := V) l _ hl0 S p1 p2) (cwV 2 B.1.2.2.2.2 gL_help_X4_help rfl rfl rfl hd_X4_help ⟨Nat.le_of_ble_eq_true rfl, Nat.le_of_ble_eq_true rfl⟩) rfl hls (Nat.le_of_ble_eq_true rfl) dL_help_5 ⟨Nat.le_of_ble_eq_true rfl, Nat.le_of_ble_eq_true rfl⟩) hW.2.2.1 (fun q _ h => aW_A hW q h) (aW_A hW) (fun q _ h => aW_A hW q h) (fun E ce q9 u t H1 locs1 ht _ _ hB _ _ hS hce hcv hcl => ?_) (fun r u t H1 locs1 ht _ hp hB _ _ hS => ?_)
  · have hW := hW.back (aW_A hW) ht hB.2 hS
    obtain ⟨k, v, hk, hn, he⟩ := hB.1
    have hcd := cd_help (S := S) p1 p2
    rw [← he] at hcd
    have hcd : k = 0 ∨ k = 1 ∨ k = 2 ∨ k = 3 := hcd
    rcases hcd with hcd | rfl | rfl | rfl
    · exact absurd hcd hk
    · have hn : "java/lang/IllegalStateException" = E := hn
      subst hn
      refine vx_catch (own := RL) (name := "java/lang/IllegalStateException") B.1.2.2.2.1 [(⟨0, 10, 13, 19⟩ : ExceptionTableEntry), (⟨0, 10, 17, 25⟩ : ExceptionTableEntry)] (⟨0, 10, 21, 13⟩ : ExceptionTableEntry) [] htab (fun z hz => by
        rcases List.mem_cons.mp hz with rfl | hz
        · exact Or.inr ⟨by decide, "java/lang/IndexOutOfBoundsException", B.1.2.2.2.2 (.classLink RL 19 "java/lang/IndexOutOfBoundsException") (by decide +kernel), hN.2.1⟩
        · rcases List.mem_cons.mp hz with rfl | hz
          · exact Or.inr ⟨by decide, "java/lang/IllegalArgumentException", B.1.2.2.2.2 (.classLink RL 25 "java/lang/IllegalArgumentException") (by decide +kernel), hN.2.2⟩
          · exact absurd hz List.not_mem_nil) (by decide) (by decide) (B.1.2.2.2.2 (.classLink RL 13 "java/lang/IllegalStateException") (by decide +kernel)) (va_Nw.use rfl (hE.2.2.2.1 _ (by decide))) hce hcv hcl ?_
      refine lv_astore (lv' := [(4, .ref q9), (0, .ref (ad jO)), (1, .int p1), (2, .int p2), (3, .ref (ad oL))]) hx hb dL_help_21 hl (by decide) rfl (fun ls hl => ?_)
      refine lv_iconst (v := 3) hx hb dL_help_23 (by decide) ?_
      exact x_end ⟨Nat.le_of_ble_eq_true rfl, Nat.le_of_ble_eq_true rfl⟩ (x_iret B hW (by rw [← he]; rfl) dL_help_24)
    · have hn : "java/lang/IndexOutOfBoundsException" = E := hn
      subst hn
      refine vx_catch (own := RL) (name := "java/lang/IndexOutOfBoundsException") B.1.2.2.2.1 [] (⟨0, 10, 13, 19⟩ : ExceptionTableEntry) [(⟨0, 10, 17, 25⟩ : ExceptionTableEntry), (⟨0, 10, 21, 13⟩ : ExceptionTableEntry)] htab (fun z hz => absurd hz List.not_mem_nil) (by decide) (by decide) (B.1.2.2.2.2 (.classLink RL 19 "java/lang/IndexOutOfBoundsException") (by decide +kernel)) (va_Nw.use rfl (hE.2.2.2.1 _ (by decide))) hce hcv hcl ?_
      refine lv_astore (lv' := [(4, .ref q9), (0, .ref (ad jO)), (1, .int p1), (2, .int p2), (3, .ref (ad oL))]) hx hb dL_help_13 hl (by decide) rfl (fun ls hl => ?_)
      refine lv_iconst (v := 1) hx hb dL_help_15 (by decide) ?_
      exact x_end ⟨Nat.le_of_ble_eq_true rfl, Nat.le_of_ble_eq_true rfl⟩ (x_iret B hW (by rw [← he]; rfl) dL_help_16)
    · have hn : "java/lang/IllegalArgumentException" = E := hn
      subst hn
      refine vx_catch (own := RL) (name := "java/lang/IllegalArgumentException") B.1.2.2.2.1 [(⟨0, 10, 13, 19⟩ : ExceptionTableEntry)] (⟨0, 10, 17, 25⟩ : ExceptionTableEntry) [(⟨0, 10, 21, 13⟩ : ExceptionTableEntry)] htab (fun z hz => by
        rcases List.mem_cons.mp hz with rfl | hz
        · exact Or.inr ⟨by decide, "java/lang/IndexOutOfBoundsException", B.1.2.2.2.2 (.classLink RL 19 "java/lang/IndexOutOfBoundsException") (by decide +kernel), hN.1⟩
        · exact absurd hz List.not_mem_nil) (by decide) (by decide) (B.1.2.2.2.2 (.classLink RL 25 "java/lang/IllegalArgumentException") (by decide +kernel)) (va_Nw.use rfl (hE.2.2.2.1 _ (by decide))) hce hcv hcl ?_
      refine lv_astore (lv' := [(4, .ref q9), (0, .ref (ad jO)), (1, .int p1), (2, .int p2), (3, .ref (ad oL))]) hx hb dL_help_17 hl (by decide) rfl (fun ls hl => ?_)
      refine lv_iconst (v := 2) hx hb dL_help_19 (by decide) ?_
      exact x_end ⟨Nat.le_of_ble_eq_true rfl, Nat.le_of_ble_eq_true rfl⟩ (x_iret B hW (by rw [← he]; rfl) dL_help_20)
  · have hW := hW.back (aW_A hW) ht hB hS
    refine lv_i2l hx hb dL_help_8 rfl ?_
    refine x_last B hW dL_help_9 (fun H locs S2 hs hW => ?_)
    refine lv_goto (tgt := 25) hx hb dL_help_10 (by decide) ?_
    refine lv_iconst (v := 0) hx hb dL_help_25 (by decide) ?_
    exact x_end ⟨Nat.le_of_ble_eq_true rfl, Nat.le_of_ble_eq_true rfl⟩ (x_iret B hW (by rw [hs, ← hp]; rfl) dL_help_26)
theorem hd_L_cycle : yL_cycle.cls = RL ∧ yL_cycle.cls ≠ "java/lang/invoke/MethodHandle" ∧ yL_cycle.cls ≠ "java/lang/invoke/VarHandle" ∧ (parseMethodDescriptor yL_cycle.desc).map (fun d => d.parameters.length) = some 2 := by decide +kernel
theorem h_L_cycle {D : va_G} {ad : Nat → Nat} {V : vE} (l : Launch) (sz : Nat) (hl0 : l.stackTraces = false) (S : vS) : vx_Met l yL_cycle wsL_cycle (rmX 7 1) (pH D 158 (cC D ad) ad sz V S [.ref (ad jO), .ref (ad oL)]) (va_Qi (fun (r : Int32) (S1 : vS) => (r, S1) = hL (fun c : Nat => if c = 0 then (0 : Int32) else 1) (x_X4_cycle S)) (bW D 158 (cC D ad) ad (aW 158 ad sz)) (aW 158 ad sz)) (xX D 158 (cC D ad) ad (aW 158 ad sz) (fun _ _ => False)) 1 6 (aW 158 ad sz) := by
  refine x_metH (own := RL) (cc := cL_cycle) (maxL := 3) (ret := (some .int)) (hh := [(0, 8, 11, 13)]) (Qc := fun A => va_Qi (fun (r : Int32) (S1 : vS) => (r, S1) = hL (fun c : Nat => if c = 0 then (0 : Int32) else 1) (x_X4_cycle S)) (bW D 158 (cC D ad) ad A) A) (XC := fun A => xX D 158 (cC D ad) ad A (fun _ _ => False)) rfl ⟨by decide +kernel, rfl, Nat.le_of_ble_eq_true rfl⟩ ?_
  intro p e s mm args below meth c A ls B htab hW hE hN hl hls
  have hx := B.1.1
  have hb := B.1.2.1
  have hl : lv_has ls 3 [(0, .ref (ad jO)), (1, .ref (ad oL))] := hl
  refine lv_aload_n hx hb dL_cycle_0 rfl (lv_at hl 1 rfl) ?_
  refine lv_iconst (v := 0) hx hb dL_cycle_1 (by decide) ?_
  refine lv_aload_n hx hb dL_cycle_2 rfl (lv_at hl 0 rfl) ?_
  refine vx_calli (x_runVX B hW hE (As := []) (rest := [.int 0, .ref (ad oL)]) hqj cC_j cls4 (c_X4_cycle (D := D) (ad := ad) (V := V) l _ hl0 S) (cwV 0 B.1.2.2.2.2 gL_cycle_X4_cycle rfl rfl rfl hd_X4_cycle ⟨Nat.le_of_ble_eq_true rfl, Nat.le_of_ble_eq_true rfl⟩) rfl hls (Nat.le_of_ble_eq_true rfl) dL_cycle_3 ⟨Nat.le_of_ble_eq_true rfl, Nat.le_of_ble_eq_true rfl⟩) hW.2.2.1 (fun q _ h => aW_A hW q h) (aW_A hW) (fun q _ h => aW_A hW q h) (fun E ce q9 u t H1 locs1 ht _ _ hB _ _ hS hce hcv hcl => ?_) (fun r u t H1 locs1 ht _ hp hB _ _ hS => ?_)
  · have hW := hW.back (aW_A hW) ht hB.2 hS
    obtain ⟨k, v, hk, hn, he⟩ := hB.1
    have hcd := cd_cycle (S := S)
    rw [← he] at hcd
    have hcd : k = 0 ∨ k = 1 := hcd
    rcases hcd with hcd | rfl
    · exact absurd hcd hk
    · have hn : "java/lang/IllegalStateException" = E := hn
      subst hn
      refine vx_catch (own := RL) (name := "java/lang/IllegalStateException") B.1.2.2.2.1 [] (⟨0, 8, 11, 13⟩ : ExceptionTableEntry) [] htab (fun z hz => absurd hz List.not_mem_nil) (by decide) (by decide) (B.1.2.2.2.2 (.classLink RL 13 "java/lang/IllegalStateException") (by decide +kernel)) (va_Nw.use rfl (hE.2.2.2.1 _ (by decide))) hce hcv hcl ?_
      refine lv_astore_n (lv' := [(2, .ref q9), (0, .ref (ad jO)), (1, .ref (ad oL))]) hx hb dL_cycle_11 rfl hl (by decide) rfl (fun ls hl => ?_)
      refine lv_iconst (v := 1) hx hb dL_cycle_12 (by decide) ?_
      exact x_end ⟨Nat.le_of_ble_eq_true rfl, Nat.le_of_ble_eq_true rfl⟩ (x_iret B hW (by rw [← he]; rfl) dL_cycle_13)
  · have hW := hW.back (aW_A hW) ht hB hS
    refine lv_i2l hx hb dL_cycle_6 rfl ?_
    refine x_last B hW dL_cycle_7 (fun H locs S2 hs hW => ?_)
    refine lv_goto (tgt := 14) hx hb dL_cycle_8 (by decide) ?_
    refine lv_iconst (v := 0) hx hb dL_cycle_14 (by decide) ?_
    exact x_end ⟨Nat.le_of_ble_eq_true rfl, Nat.le_of_ble_eq_true rfl⟩ (x_iret B hW (by rw [hs, ← hp]; rfl) dL_cycle_15)
theorem hd_L_set : yL_set.cls = RL ∧ yL_set.cls ≠ "java/lang/invoke/MethodHandle" ∧ yL_set.cls ≠ "java/lang/invoke/VarHandle" ∧ (parseMethodDescriptor yL_set.desc).map (fun d => d.parameters.length) = some 4 := by decide +kernel
theorem h_L_set {D : va_G} {ad : Nat → Nat} {V : vE} (l : Launch) (sz : Nat) (hl0 : l.stackTraces = false) (S : vS) (p1 : Int32) (p2 : Int32) : vx_Met l yL_set wsL_set (rmX 8 2) (pH D 158 (cC D ad) ad sz V S [.ref (ad jO), .int p1, .int p2, .ref (ad oL)]) (va_Qi (fun (r : Int32) (S1 : vS) => (r, S1) = hL mp3 (x_X4_set S p1 p2)) (bW D 158 (cC D ad) ad (aW 158 ad sz)) (aW 158 ad sz)) (xX D 158 (cC D ad) ad (aW 158 ad sz) (fun _ _ => False)) 2 12 (aW 158 ad sz) := by
  refine x_metH (own := RL) (cc := cL_set) (maxL := 5) (ret := (some .int)) (hh := [(0, 10, 13, 19), (0, 10, 17, 25)]) (Qc := fun A => va_Qi (fun (r : Int32) (S1 : vS) => (r, S1) = hL mp3 (x_X4_set S p1 p2)) (bW D 158 (cC D ad) ad A) A) (XC := fun A => xX D 158 (cC D ad) ad A (fun _ _ => False)) rfl ⟨by decide +kernel, rfl, Nat.le_of_ble_eq_true rfl⟩ ?_
  intro p e s mm args below meth c A ls B htab hW hE hN hl hls
  have hx := B.1.1
  have hb := B.1.2.1
  have hl : lv_has ls 5 [(0, .ref (ad jO)), (1, .int p1), (2, .int p2), (3, .ref (ad oL))] := hl
  refine lv_aload_n hx hb dL_set_0 rfl (lv_at hl 3 rfl) ?_
  refine lv_iconst (v := 0) hx hb dL_set_1 (by decide) ?_
  refine lv_aload_n hx hb dL_set_2 rfl (lv_at hl 0 rfl) ?_
  refine lv_iload_n hx hb dL_set_3 rfl (lv_at hl 1 rfl) ?_
  refine lv_iload_n hx hb dL_set_4 rfl (lv_at hl 2 rfl) ?_
  refine vx_calli (x_runVX B hW hE (As := [.int p1, .int p2]) (rest := [.int 0, .ref (ad oL)]) hqj cC_j cls4 (c_X4_set (D := D) (ad := ad) (V := V) l _ hl0 S p1 p2) (cwV 2 B.1.2.2.2.2 gL_set_X4_set rfl rfl rfl hd_X4_set ⟨Nat.le_of_ble_eq_true rfl, Nat.le_of_ble_eq_true rfl⟩) rfl hls (Nat.le_of_ble_eq_true rfl) dL_set_5 ⟨Nat.le_of_ble_eq_true rfl, Nat.le_of_ble_eq_true rfl⟩) hW.2.2.1 (fun q _ h => aW_A hW q h) (aW_A hW) (fun q _ h => aW_A hW q h) (fun E ce q9 u t H1 locs1 ht _ _ hB _ _ hS hce hcv hcl => ?_) (fun r u t H1 locs1 ht _ hp hB _ _ hS => ?_)
  · have hW := hW.back (aW_A hW) ht hB.2 hS
    obtain ⟨k, v, hk, hn, he⟩ := hB.1
    have hcd := cd_set (S := S) p1 p2
    rw [← he] at hcd
    have hcd : k = 0 ∨ k = 2 ∨ k = 3 := hcd
    rcases hcd with hcd | rfl | rfl
    · exact absurd hcd hk
    · have hn : "java/lang/IndexOutOfBoundsException" = E := hn
      subst hn
      refine vx_catch (own := RL) (name := "java/lang/IndexOutOfBoundsException") B.1.2.2.2.1 [] (⟨0, 10, 13, 19⟩ : ExceptionTableEntry) [(⟨0, 10, 17, 25⟩ : ExceptionTableEntry)] htab (fun z hz => absurd hz List.not_mem_nil) (by decide) (by decide) (B.1.2.2.2.2 (.classLink RL 19 "java/lang/IndexOutOfBoundsException") (by decide +kernel)) (va_Nw.use rfl (hE.2.2.2.1 _ (by decide))) hce hcv hcl ?_
      refine lv_astore (lv' := [(4, .ref q9), (0, .ref (ad jO)), (1, .int p1), (2, .int p2), (3, .ref (ad oL))]) hx hb dL_set_13 hl (by decide) rfl (fun ls hl => ?_)
      refine lv_iconst (v := 1) hx hb dL_set_15 (by decide) ?_
      exact x_end ⟨Nat.le_of_ble_eq_true rfl, Nat.le_of_ble_eq_true rfl⟩ (x_iret B hW (by rw [← he]; rfl) dL_set_16)
    · have hn : "java/lang/IllegalArgumentException" = E := hn
      subst hn
      refine vx_catch (own := RL) (name := "java/lang/IllegalArgumentException") B.1.2.2.2.1 [(⟨0, 10, 13, 19⟩ : ExceptionTableEntry)] (⟨0, 10, 17, 25⟩ : ExceptionTableEntry) [] htab (fun z hz => by
        rcases List.mem_cons.mp hz with rfl | hz
        · exact Or.inr ⟨by decide, "java/lang/IndexOutOfBoundsException", B.1.2.2.2.2 (.classLink RL 19 "java/lang/IndexOutOfBoundsException") (by decide +kernel), hN.1⟩
        · exact absurd hz List.not_mem_nil) (by decide) (by decide) (B.1.2.2.2.2 (.classLink RL 25 "java/lang/IllegalArgumentException") (by decide +kernel)) (va_Nw.use rfl (hE.2.2.2.1 _ (by decide))) hce hcv hcl ?_
      refine lv_astore (lv' := [(4, .ref q9), (0, .ref (ad jO)), (1, .int p1), (2, .int p2), (3, .ref (ad oL))]) hx hb dL_set_17 hl (by decide) rfl (fun ls hl => ?_)
      refine lv_iconst (v := 2) hx hb dL_set_19 (by decide) ?_
      exact x_end ⟨Nat.le_of_ble_eq_true rfl, Nat.le_of_ble_eq_true rfl⟩ (x_iret B hW (by rw [← he]; rfl) dL_set_20)
  · have hW := hW.back (aW_A hW) ht hB hS
    refine lv_i2l hx hb dL_set_8 rfl ?_
    refine x_last B hW dL_set_9 (fun H locs S2 hs hW => ?_)
    refine lv_goto (tgt := 21) hx hb dL_set_10 (by decide) ?_
    refine lv_iconst (v := 0) hx hb dL_set_21 (by decide) ?_
    exact x_end ⟨Nat.le_of_ble_eq_true rfl, Nat.le_of_ble_eq_true rfl⟩ (x_iret B hW (by rw [hs, ← hp]; rfl) dL_set_22)
theorem hd_L_append : yL_append.cls = RL ∧ yL_append.cls ≠ "java/lang/invoke/MethodHandle" ∧ yL_append.cls ≠ "java/lang/invoke/VarHandle" ∧ (parseMethodDescriptor yL_append.desc).map (fun d => d.parameters.length) = some 3 := by decide +kernel
theorem h_L_append {D : va_G} {ad : Nat → Nat} {V : vE} (l : Launch) (sz : Nat) (hl0 : l.stackTraces = false) (S : vS) (p1 : Int32) : vx_Met l yL_append wsL_append (rmX 7 1) (pH D 158 (cC D ad) ad sz V S [.ref (ad jO), .int p1, .ref (ad oL)]) (va_Qi (fun (r : Int32) (S1 : vS) => (r, S1) = hL mpA (x_X4_append S p1)) (bW D 158 (cC D ad) ad (aW 158 ad sz)) (aW 158 ad sz)) (xX D 158 (cC D ad) ad (aW 158 ad sz) (fun _ _ => False)) 1 6 (aW 158 ad sz) := by
  refine x_metH (own := RL) (cc := cL_append) (maxL := 4) (ret := (some .int)) (hh := [(0, 9, 12, 25), (0, 9, 15, 13)]) (Qc := fun A => va_Qi (fun (r : Int32) (S1 : vS) => (r, S1) = hL mpA (x_X4_append S p1)) (bW D 158 (cC D ad) ad A) A) (XC := fun A => xX D 158 (cC D ad) ad A (fun _ _ => False)) rfl ⟨by decide +kernel, rfl, Nat.le_of_ble_eq_true rfl⟩ ?_
  intro p e s mm args below meth c A ls B htab hW hE hN hl hls
  have hx := B.1.1
  have hb := B.1.2.1
  have hl : lv_has ls 4 [(0, .ref (ad jO)), (1, .int p1), (2, .ref (ad oL))] := hl
  refine lv_aload_n hx hb dL_append_0 rfl (lv_at hl 2 rfl) ?_
  refine lv_iconst (v := 0) hx hb dL_append_1 (by decide) ?_
  refine lv_aload_n hx hb dL_append_2 rfl (lv_at hl 0 rfl) ?_
  refine lv_iload_n hx hb dL_append_3 rfl (lv_at hl 1 rfl) ?_
  refine vx_calli (x_runVX B hW hE (As := [.int p1]) (rest := [.int 0, .ref (ad oL)]) hqj cC_j cls4 (c_X4_append (D := D) (ad := ad) (V := V) l _ hl0 S p1) (cwV 1 B.1.2.2.2.2 gL_append_X4_append rfl rfl rfl hd_X4_append ⟨Nat.le_of_ble_eq_true rfl, Nat.le_of_ble_eq_true rfl⟩) rfl hls (Nat.le_of_ble_eq_true rfl) dL_append_4 ⟨Nat.le_of_ble_eq_true rfl, Nat.le_of_ble_eq_true rfl⟩) hW.2.2.1 (fun q _ h => aW_A hW q h) (aW_A hW) (fun q _ h => aW_A hW q h) (fun E ce q9 u t H1 locs1 ht _ _ hB _ _ hS hce hcv hcl => ?_) (fun r u t H1 locs1 ht _ hp hB _ _ hS => ?_)
  · have hW := hW.back (aW_A hW) ht hB.2 hS
    obtain ⟨k, v, hk, hn, he⟩ := hB.1
    have hcd := cd_append (S := S) p1
    rw [← he] at hcd
    have hcd : k = 0 ∨ k = 1 ∨ k = 3 := hcd
    rcases hcd with hcd | rfl | rfl
    · exact absurd hcd hk
    · have hn : "java/lang/IllegalStateException" = E := hn
      subst hn
      refine vx_catch (own := RL) (name := "java/lang/IllegalStateException") B.1.2.2.2.1 [(⟨0, 9, 12, 25⟩ : ExceptionTableEntry)] (⟨0, 9, 15, 13⟩ : ExceptionTableEntry) [] htab (fun z hz => by
        rcases List.mem_cons.mp hz with rfl | hz
        · exact Or.inr ⟨by decide, "java/lang/IllegalArgumentException", B.1.2.2.2.2 (.classLink RL 25 "java/lang/IllegalArgumentException") (by decide +kernel), hN.2.2⟩
        · exact absurd hz List.not_mem_nil) (by decide) (by decide) (B.1.2.2.2.2 (.classLink RL 13 "java/lang/IllegalStateException") (by decide +kernel)) (va_Nw.use rfl (hE.2.2.2.1 _ (by decide))) hce hcv hcl ?_
      refine lv_astore_n (lv' := [(3, .ref q9), (0, .ref (ad jO)), (1, .int p1), (2, .ref (ad oL))]) hx hb dL_append_15 rfl hl (by decide) rfl (fun ls hl => ?_)
      refine lv_iconst (v := 2) hx hb dL_append_16 (by decide) ?_
      exact x_end ⟨Nat.le_of_ble_eq_true rfl, Nat.le_of_ble_eq_true rfl⟩ (x_iret B hW (by rw [← he]; rfl) dL_append_17)
    · have hn : "java/lang/IllegalArgumentException" = E := hn
      subst hn
      refine vx_catch (own := RL) (name := "java/lang/IllegalArgumentException") B.1.2.2.2.1 [] (⟨0, 9, 12, 25⟩ : ExceptionTableEntry) [(⟨0, 9, 15, 13⟩ : ExceptionTableEntry)] htab (fun z hz => absurd hz List.not_mem_nil) (by decide) (by decide) (B.1.2.2.2.2 (.classLink RL 25 "java/lang/IllegalArgumentException") (by decide +kernel)) (va_Nw.use rfl (hE.2.2.2.1 _ (by decide))) hce hcv hcl ?_
      refine lv_astore_n (lv' := [(3, .ref q9), (0, .ref (ad jO)), (1, .int p1), (2, .ref (ad oL))]) hx hb dL_append_12 rfl hl (by decide) rfl (fun ls hl => ?_)
      refine lv_iconst (v := 1) hx hb dL_append_13 (by decide) ?_
      exact x_end ⟨Nat.le_of_ble_eq_true rfl, Nat.le_of_ble_eq_true rfl⟩ (x_iret B hW (by rw [← he]; rfl) dL_append_14)
  · have hW := hW.back (aW_A hW) ht hB hS
    refine lv_i2l hx hb dL_append_7 rfl ?_
    refine x_last B hW dL_append_8 (fun H locs S2 hs hW => ?_)
    refine lv_goto (tgt := 18) hx hb dL_append_9 (by decide) ?_
    refine lv_iconst (v := 0) hx hb dL_append_18 (by decide) ?_
    exact x_end ⟨Nat.le_of_ble_eq_true rfl, Nat.le_of_ble_eq_true rfl⟩ (x_iret B hW (by rw [hs, ← hp]; rfl) dL_append_19)
end HELP1
