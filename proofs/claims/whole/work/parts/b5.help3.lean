section HELP3
theorem hd_L_setting : yL_setting.cls = RL ∧ yL_setting.cls ≠ "java/lang/invoke/MethodHandle" ∧ yL_setting.cls ≠ "java/lang/invoke/VarHandle" ∧ (parseMethodDescriptor yL_setting.desc).map (fun d => d.parameters.length) = some 3 := by decide +kernel
theorem h_L_setting {D : va_G} {ad : Nat → Nat} {V : vE} (l : Launch) (sz : Nat) (hl0 : l.stackTraces = false) (S : vS) (p1 : Int32) : vx_Met l yL_setting wsL_setting (rmX 8 1) (pH D 158 (cC D ad) ad sz V S [.ref (ad jO), .int p1, .ref (ad oL)]) (va_Qi (fun (r : Int32) (S1 : vS) => (r, S1) = hL (fun c : Nat => if c = 0 then (0 : Int32) else 1) ((x_X4_setting S p1), S)) (bW D 158 (cC D ad) ad (aW 158 ad sz)) (aW 158 ad sz)) (xX D 158 (cC D ad) ad (aW 158 ad sz) (fun _ _ => False)) 1 6 (aW 158 ad sz) := by
  refine x_metH (own := RL) (cc := cL_setting) (maxL := 4) (ret := (some .int)) (hh := [(0, 9, 12, 19)]) (Qc := fun A => va_Qi (fun (r : Int32) (S1 : vS) => (r, S1) = hL (fun c : Nat => if c = 0 then (0 : Int32) else 1) ((x_X4_setting S p1), S)) (bW D 158 (cC D ad) ad A) A) (XC := fun A => xX D 158 (cC D ad) ad A (fun _ _ => False)) rfl ⟨by decide +kernel, rfl, Nat.le_of_ble_eq_true rfl⟩ ?_
  intro p e s mm args below meth c A ls B htab hW hE hN hl hls
  have hx := B.1.1
  have hb := B.1.2.1
  have hl : lv_has ls 4 [(0, .ref (ad jO)), (1, .int p1), (2, .ref (ad oL))] := hl
  refine lv_aload_n hx hb dL_setting_0 rfl (lv_at hl 2 rfl) ?_
  refine lv_iconst (v := 0) hx hb dL_setting_1 (by decide) ?_
  refine lv_aload_n hx hb dL_setting_2 rfl (lv_at hl 0 rfl) ?_
  refine lv_iload_n hx hb dL_setting_3 rfl (lv_at hl 1 rfl) ?_
  refine vx_calli (x_runVX B hW hE (As := [.int p1]) (rest := [.int 0, .ref (ad oL)]) hqj cC_j cls4 (c_X4_setting (D := D) (ad := ad) (V := V) l _ hl0 S p1) (cwV 1 B.1.2.2.2.2 gL_setting_X4_setting rfl rfl rfl hd_X4_setting ⟨Nat.le_of_ble_eq_true rfl, Nat.le_of_ble_eq_true rfl⟩) rfl hls (Nat.le_of_ble_eq_true rfl) dL_setting_4 ⟨Nat.le_of_ble_eq_true rfl, Nat.le_of_ble_eq_true rfl⟩) hW.2.2.1 (fun q _ h => aW_A hW q h) (aW_A hW) (fun q _ h => aW_A hW q h) (fun E ce q9 u t H1 locs1 ht _ _ hB _ _ hS hce hcv hcl => ?_) (fun r u t H1 locs1 ht _ hp hB _ _ hS => ?_)
  · have hW := hW.back (aW_A hW) ht hB.2 hS
    obtain ⟨⟨k, v, hk, hn, he⟩, hu⟩ := hB.1
    have hcd := cd_setting (S := S) p1
    rw [← he] at hcd
    have hcd : k = 0 ∨ k = 2 := hcd
    rcases hcd with hcd | rfl
    · exact absurd hcd hk
    · have hn : "java/lang/IndexOutOfBoundsException" = E := hn
      subst hn
      refine vx_catch (own := RL) (name := "java/lang/IndexOutOfBoundsException") B.1.2.2.2.1 [] (⟨0, 9, 12, 19⟩ : ExceptionTableEntry) [] htab (fun z hz => absurd hz List.not_mem_nil) (by decide) (by decide) (B.1.2.2.2.2 (.classLink RL 19 "java/lang/IndexOutOfBoundsException") (by decide +kernel)) (va_Nw.use rfl (hE.2.2.2.1 _ (by decide))) hce hcv hcl ?_
      refine lv_astore_n (lv' := [(3, .ref q9), (0, .ref (ad jO)), (1, .int p1), (2, .ref (ad oL))]) hx hb dL_setting_12 rfl hl (by decide) rfl (fun ls hl => ?_)
      refine lv_iconst (v := 1) hx hb dL_setting_13 (by decide) ?_
      exact x_end ⟨Nat.le_of_ble_eq_true rfl, Nat.le_of_ble_eq_true rfl⟩ (x_iret B hW (by rw [hu, ← he]; rfl) dL_setting_14)
  · have hW := hW.back (aW_A hW) ht hB hS
    refine lv_i2l hx hb dL_setting_7 rfl ?_
    refine x_last B hW dL_setting_8 (fun H locs S2 hs hW => ?_)
    refine lv_goto (tgt := 15) hx hb dL_setting_9 (by decide) ?_
    refine lv_iconst (v := 0) hx hb dL_setting_15 (by decide) ?_
    exact x_end ⟨Nat.le_of_ble_eq_true rfl, Nat.le_of_ble_eq_true rfl⟩ (x_iret B hW (by rw [hs, hp.2, ← hp.1]; rfl) dL_setting_16)
theorem hd_L_ifAbsent : yL_ifAbsent.cls = RL ∧ yL_ifAbsent.cls ≠ "java/lang/invoke/MethodHandle" ∧ yL_ifAbsent.cls ≠ "java/lang/invoke/VarHandle" ∧ (parseMethodDescriptor yL_ifAbsent.desc).map (fun d => d.parameters.length) = some 4 := by decide +kernel
theorem h_L_ifAbsent {D : va_G} {ad : Nat → Nat} {V : vE} (l : Launch) (sz : Nat) (hl0 : l.stackTraces = false) (S : vS) (p1 : Int32) (p2 : Int32) : vx_Met l yL_ifAbsent wsL_ifAbsent (rmX 7 1) (pH D 158 (cC D ad) ad sz V S [.ref (ad jO), .int p1, .int p2, .ref (ad oL)]) (va_Qi (fun (r : Int32) (S1 : vS) => (r, S1) = hL (fun c : Nat => if c = 0 then (0 : Int32) else 1) (x_X4_ifAbsent S p1 p2)) (bW D 158 (cC D ad) ad (aW 158 ad sz)) (aW 158 ad sz)) (xX D 158 (cC D ad) ad (aW 158 ad sz) (fun _ _ => False)) 1 6 (aW 158 ad sz) := by
  refine x_metH (own := RL) (cc := cL_ifAbsent) (maxL := 5) (ret := (some .int)) (hh := [(0, 10, 13, 25)]) (Qc := fun A => va_Qi (fun (r : Int32) (S1 : vS) => (r, S1) = hL (fun c : Nat => if c = 0 then (0 : Int32) else 1) (x_X4_ifAbsent S p1 p2)) (bW D 158 (cC D ad) ad A) A) (XC := fun A => xX D 158 (cC D ad) ad A (fun _ _ => False)) rfl ⟨by decide +kernel, rfl, Nat.le_of_ble_eq_true rfl⟩ ?_
  intro p e s mm args below meth c A ls B htab hW hE hN hl hls
  have hx := B.1.1
  have hb := B.1.2.1
  have hl : lv_has ls 5 [(0, .ref (ad jO)), (1, .int p1), (2, .int p2), (3, .ref (ad oL))] := hl
  refine lv_aload_n hx hb dL_ifAbsent_0 rfl (lv_at hl 3 rfl) ?_
  refine lv_iconst (v := 0) hx hb dL_ifAbsent_1 (by decide) ?_
  refine lv_aload_n hx hb dL_ifAbsent_2 rfl (lv_at hl 0 rfl) ?_
  refine lv_iload_n hx hb dL_ifAbsent_3 rfl (lv_at hl 1 rfl) ?_
  refine lv_iload_n hx hb dL_ifAbsent_4 rfl (lv_at hl 2 rfl) ?_
  refine vx_calli (x_runVX B hW hE (As := [.int p1, .int p2]) (rest := [.int 0, .ref (ad oL)]) hqj cC_j cls4 (c_X4_ifAbsent (D := D) (ad := ad) (V := V) l _ hl0 S p1 p2) (cwV 2 B.1.2.2.2.2 gL_ifAbsent_X4_ifAbsent rfl rfl rfl hd_X4_ifAbsent ⟨Nat.le_of_ble_eq_true rfl, Nat.le_of_ble_eq_true rfl⟩) rfl hls (Nat.le_of_ble_eq_true rfl) dL_ifAbsent_5 ⟨Nat.le_of_ble_eq_true rfl, Nat.le_of_ble_eq_true rfl⟩) hW.2.2.1 (fun q _ h => aW_A hW q h) (aW_A hW) (fun q _ h => aW_A hW q h) (fun E ce q9 u t H1 locs1 ht _ _ hB _ _ hS hce hcv hcl => ?_) (fun r u t H1 locs1 ht _ hp hB _ _ hS => ?_)
  · have hW := hW.back (aW_A hW) ht hB.2 hS
    obtain ⟨k, v, hk, hn, he⟩ := hB.1
    have hcd := cd_ifAbsent (S := S) p1 p2
    rw [← he] at hcd
    have hcd : k = 0 ∨ k = 3 := hcd
    rcases hcd with hcd | rfl
    · exact absurd hcd hk
    · have hn : "java/lang/IllegalArgumentException" = E := hn
      subst hn
      refine vx_catch (own := RL) (name := "java/lang/IllegalArgumentException") B.1.2.2.2.1 [] (⟨0, 10, 13, 25⟩ : ExceptionTableEntry) [] htab (fun z hz => absurd hz List.not_mem_nil) (by decide) (by decide) (B.1.2.2.2.2 (.classLink RL 25 "java/lang/IllegalArgumentException") (by decide +kernel)) (va_Nw.use rfl (hE.2.2.2.1 _ (by decide))) hce hcv hcl ?_
      refine lv_astore (lv' := [(4, .ref q9), (0, .ref (ad jO)), (1, .int p1), (2, .int p2), (3, .ref (ad oL))]) hx hb dL_ifAbsent_13 hl (by decide) rfl (fun ls hl => ?_)
      refine lv_iconst (v := 1) hx hb dL_ifAbsent_15 (by decide) ?_
      exact x_end ⟨Nat.le_of_ble_eq_true rfl, Nat.le_of_ble_eq_true rfl⟩ (x_iret B hW (by rw [← he]; rfl) dL_ifAbsent_16)
  · have hW := hW.back (aW_A hW) ht hB hS
    refine lv_i2l hx hb dL_ifAbsent_8 rfl ?_
    refine x_last B hW dL_ifAbsent_9 (fun H locs S2 hs hW => ?_)
    refine lv_goto (tgt := 17) hx hb dL_ifAbsent_10 (by decide) ?_
    refine lv_iconst (v := 0) hx hb dL_ifAbsent_17 (by decide) ?_
    exact x_end ⟨Nat.le_of_ble_eq_true rfl, Nat.le_of_ble_eq_true rfl⟩ (x_iret B hW (by rw [hs, ← hp]; rfl) dL_ifAbsent_18)
theorem hd_L_fundLasts : yL_fundLasts.cls = RL ∧ yL_fundLasts.cls ≠ "java/lang/invoke/MethodHandle" ∧ yL_fundLasts.cls ≠ "java/lang/invoke/VarHandle" ∧ (parseMethodDescriptor yL_fundLasts.desc).map (fun d => d.parameters.length) = some 3 := by decide +kernel
theorem h_L_fundLasts {D : va_G} {ad : Nat → Nat} {V : vE} (l : Launch) (sz : Nat) (hl0 : l.stackTraces = false) (S : vS) (p1 : Int32) : vx_Met l yL_fundLasts wsL_fundLasts (rmX 8 1) (pH D 158 (cC D ad) ad sz V S [.ref (ad jO), .int p1, .ref (ad oL)]) (va_Qi (fun (r : Int32) (S1 : vS) => (r, S1) = hL (fun c : Nat => if c = 0 then (0 : Int32) else 1) ((x_X4_fundLasts S p1), S)) (bW D 158 (cC D ad) ad (aW 158 ad sz)) (aW 158 ad sz)) (xX D 158 (cC D ad) ad (aW 158 ad sz) (fun _ _ => False)) 1 6 (aW 158 ad sz) := by
  refine x_metH (own := RL) (cc := cL_fundLasts) (maxL := 4) (ret := (some .int)) (hh := [(0, 9, 12, 19)]) (Qc := fun A => va_Qi (fun (r : Int32) (S1 : vS) => (r, S1) = hL (fun c : Nat => if c = 0 then (0 : Int32) else 1) ((x_X4_fundLasts S p1), S)) (bW D 158 (cC D ad) ad A) A) (XC := fun A => xX D 158 (cC D ad) ad A (fun _ _ => False)) rfl ⟨by decide +kernel, rfl, Nat.le_of_ble_eq_true rfl⟩ ?_
  intro p e s mm args below meth c A ls B htab hW hE hN hl hls
  have hx := B.1.1
  have hb := B.1.2.1
  have hl : lv_has ls 4 [(0, .ref (ad jO)), (1, .int p1), (2, .ref (ad oL))] := hl
  refine lv_aload_n hx hb dL_fundLasts_0 rfl (lv_at hl 2 rfl) ?_
  refine lv_iconst (v := 0) hx hb dL_fundLasts_1 (by decide) ?_
  refine lv_aload_n hx hb dL_fundLasts_2 rfl (lv_at hl 0 rfl) ?_
  refine lv_iload_n hx hb dL_fundLasts_3 rfl (lv_at hl 1 rfl) ?_
  refine vx_calli (x_runVX B hW hE (As := [.int p1]) (rest := [.int 0, .ref (ad oL)]) hqj cC_j cls4 (c_X4_fundLasts (D := D) (ad := ad) (V := V) l _ hl0 S p1) (cwV 1 B.1.2.2.2.2 gL_fundLasts_X4_fundLasts rfl rfl rfl hd_X4_fundLasts ⟨Nat.le_of_ble_eq_true rfl, Nat.le_of_ble_eq_true rfl⟩) rfl hls (Nat.le_of_ble_eq_true rfl) dL_fundLasts_4 ⟨Nat.le_of_ble_eq_true rfl, Nat.le_of_ble_eq_true rfl⟩) hW.2.2.1 (fun q _ h => aW_A hW q h) (aW_A hW) (fun q _ h => aW_A hW q h) (fun E ce q9 u t H1 locs1 ht _ _ hB _ _ hS hce hcv hcl => ?_) (fun r u t H1 locs1 ht _ hp hB _ _ hS => ?_)
  · have hW := hW.back (aW_A hW) ht hB.2 hS
    obtain ⟨⟨k, v, hk, hn, he⟩, hu⟩ := hB.1
    have hcd := cd_fundLasts (S := S) p1
    rw [← he] at hcd
    have hcd : k = 0 ∨ k = 2 := hcd
    rcases hcd with hcd | rfl
    · exact absurd hcd hk
    · have hn : "java/lang/IndexOutOfBoundsException" = E := hn
      subst hn
      refine vx_catch (own := RL) (name := "java/lang/IndexOutOfBoundsException") B.1.2.2.2.1 [] (⟨0, 9, 12, 19⟩ : ExceptionTableEntry) [] htab (fun z hz => absurd hz List.not_mem_nil) (by decide) (by decide) (B.1.2.2.2.2 (.classLink RL 19 "java/lang/IndexOutOfBoundsException") (by decide +kernel)) (va_Nw.use rfl (hE.2.2.2.1 _ (by decide))) hce hcv hcl ?_
      refine lv_astore_n (lv' := [(3, .ref q9), (0, .ref (ad jO)), (1, .int p1), (2, .ref (ad oL))]) hx hb dL_fundLasts_12 rfl hl (by decide) rfl (fun ls hl => ?_)
      refine lv_iconst (v := 1) hx hb dL_fundLasts_13 (by decide) ?_
      exact x_end ⟨Nat.le_of_ble_eq_true rfl, Nat.le_of_ble_eq_true rfl⟩ (x_iret B hW (by rw [hu, ← he]; rfl) dL_fundLasts_14)
  · have hW := hW.back (aW_A hW) ht hB hS
    refine lv_i2l hx hb dL_fundLasts_7 rfl ?_
    refine x_last B hW dL_fundLasts_8 (fun H locs S2 hs hW => ?_)
    refine lv_goto (tgt := 15) hx hb dL_fundLasts_9 (by decide) ?_
    refine lv_iconst (v := 0) hx hb dL_fundLasts_15 (by decide) ?_
    exact x_end ⟨Nat.le_of_ble_eq_true rfl, Nat.le_of_ble_eq_true rfl⟩ (x_iret B hW (by rw [hs, hp.2, ← hp.1]; rfl) dL_fundLasts_16)
theorem hd_L_ifCycle : yL_ifCycle.cls = RL ∧ yL_ifCycle.cls ≠ "java/lang/invoke/MethodHandle" ∧ yL_ifCycle.cls ≠ "java/lang/invoke/VarHandle" ∧ (parseMethodDescriptor yL_ifCycle.desc).map (fun d => d.parameters.length) = some 3 := by decide +kernel
theorem h_L_ifCycle {D : va_G} {ad : Nat → Nat} {V : vE} (l : Launch) (sz : Nat) (hl0 : l.stackTraces = false) (S : vS) (p1 : Int32) : vx_Met l yL_ifCycle wsL_ifCycle (rmX 8 1) (pH D 158 (cC D ad) ad sz V S [.ref (ad jO), .int p1, .ref (ad oL)]) (va_Qi (fun (r : Int32) (S1 : vS) => (r, S1) = hL (fun c : Nat => if c = 0 then (0 : Int32) else 1) ((x_X4_ifCycle S p1), S)) (bW D 158 (cC D ad) ad (aW 158 ad sz)) (aW 158 ad sz)) (xX D 158 (cC D ad) ad (aW 158 ad sz) (fun _ _ => False)) 1 6 (aW 158 ad sz) := by
  refine x_metH (own := RL) (cc := cL_ifCycle) (maxL := 4) (ret := (some .int)) (hh := [(0, 9, 12, 19)]) (Qc := fun A => va_Qi (fun (r : Int32) (S1 : vS) => (r, S1) = hL (fun c : Nat => if c = 0 then (0 : Int32) else 1) ((x_X4_ifCycle S p1), S)) (bW D 158 (cC D ad) ad A) A) (XC := fun A => xX D 158 (cC D ad) ad A (fun _ _ => False)) rfl ⟨by decide +kernel, rfl, Nat.le_of_ble_eq_true rfl⟩ ?_
  intro p e s mm args below meth c A ls B htab hW hE hN hl hls
  have hx := B.1.1
  have hb := B.1.2.1
  have hl : lv_has ls 4 [(0, .ref (ad jO)), (1, .int p1), (2, .ref (ad oL))] := hl
  refine lv_aload_n hx hb dL_ifCycle_0 rfl (lv_at hl 2 rfl) ?_
  refine lv_iconst (v := 0) hx hb dL_ifCycle_1 (by decide) ?_
  refine lv_aload_n hx hb dL_ifCycle_2 rfl (lv_at hl 0 rfl) ?_
  refine lv_iload_n hx hb dL_ifCycle_3 rfl (lv_at hl 1 rfl) ?_
  refine vx_calli (x_runVX B hW hE (As := [.int p1]) (rest := [.int 0, .ref (ad oL)]) hqj cC_j cls4 (c_X4_ifCycle (D := D) (ad := ad) (V := V) l _ hl0 S p1) (cwV 1 B.1.2.2.2.2 gL_ifCycle_X4_ifCycle rfl rfl rfl hd_X4_ifCycle ⟨Nat.le_of_ble_eq_true rfl, Nat.le_of_ble_eq_true rfl⟩) rfl hls (Nat.le_of_ble_eq_true rfl) dL_ifCycle_4 ⟨Nat.le_of_ble_eq_true rfl, Nat.le_of_ble_eq_true rfl⟩) hW.2.2.1 (fun q _ h => aW_A hW q h) (aW_A hW) (fun q _ h => aW_A hW q h) (fun E ce q9 u t H1 locs1 ht _ _ hB _ _ hS hce hcv hcl => ?_) (fun r u t H1 locs1 ht _ hp hB _ _ hS => ?_)
  · have hW := hW.back (aW_A hW) ht hB.2 hS
    obtain ⟨⟨k, v, hk, hn, he⟩, hu⟩ := hB.1
    have hcd := cd_ifCycle (S := S) p1
    rw [← he] at hcd
    have hcd : k = 0 ∨ k = 2 := hcd
    rcases hcd with hcd | rfl
    · exact absurd hcd hk
    · have hn : "java/lang/IndexOutOfBoundsException" = E := hn
      subst hn
      refine vx_catch (own := RL) (name := "java/lang/IndexOutOfBoundsException") B.1.2.2.2.1 [] (⟨0, 9, 12, 19⟩ : ExceptionTableEntry) [] htab (fun z hz => absurd hz List.not_mem_nil) (by decide) (by decide) (B.1.2.2.2.2 (.classLink RL 19 "java/lang/IndexOutOfBoundsException") (by decide +kernel)) (va_Nw.use rfl (hE.2.2.2.1 _ (by decide))) hce hcv hcl ?_
      refine lv_astore_n (lv' := [(3, .ref q9), (0, .ref (ad jO)), (1, .int p1), (2, .ref (ad oL))]) hx hb dL_ifCycle_12 rfl hl (by decide) rfl (fun ls hl => ?_)
      refine lv_iconst (v := 1) hx hb dL_ifCycle_13 (by decide) ?_
      exact x_end ⟨Nat.le_of_ble_eq_true rfl, Nat.le_of_ble_eq_true rfl⟩ (x_iret B hW (by rw [hu, ← he]; rfl) dL_ifCycle_14)
  · have hW := hW.back (aW_A hW) ht hB hS
    refine lv_i2l hx hb dL_ifCycle_7 rfl ?_
    refine x_last B hW dL_ifCycle_8 (fun H locs S2 hs hW => ?_)
    refine lv_goto (tgt := 15) hx hb dL_ifCycle_9 (by decide) ?_
    refine lv_iconst (v := 0) hx hb dL_ifCycle_15 (by decide) ?_
    exact x_end ⟨Nat.le_of_ble_eq_true rfl, Nat.le_of_ble_eq_true rfl⟩ (x_iret B hW (by rw [hs, hp.2, ← hp.1]; rfl) dL_ifCycle_16)
end HELP3
