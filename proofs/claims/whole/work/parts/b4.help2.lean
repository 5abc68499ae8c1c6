section HELP2
theorem hd_L_run : yL_run.cls = RL ∧ yL_run.cls ≠ "java/lang/invoke/MethodHandle" ∧ yL_run.cls ≠ "java/lang/invoke/VarHandle" ∧ (parseMethodDescriptor yL_run.desc).map (fun d => d.parameters.length) = some 2 := by decide +kernel
theorem h_L_run {D : va_G} {ad : Nat → Nat} {V : vE} (l : Launch) (sz : Nat) (hl0 : l.stackTraces = false) (S : vS) : vx_Met l yL_run wsL_run (rmX 8 1) (pH D 158 (cC D ad) ad sz V S [.ref (ad jO), .ref (ad oL)]) (va_Qi (fun (r : Int32) (S1 : vS) => (r, S1) = hL (fun c : Nat => if c = 0 then (0 : Int32) else 1) (x_X4_run S)) (bW D 158 (cC D ad) ad (aW 158 ad sz)) (aW 158 ad sz)) (xX D 158 (cC D ad) ad (aW 158 ad sz) (fun _ _ => False)) 1 6 (aW 158 ad sz) := by
  refine x_metH (own := RL) (cc := cL_run) (maxL := 3) (ret := (some .int)) (hh := [(0, 8, 11, 25)]) (Qc := fun A => va_Qi (fun (r : Int32) (S1 : vS) => (r, S1) = hL (fun c : Nat => if c = 0 then (0 : Int32) else 1) (x_X4_run S)) (bW D 158 (cC D ad) ad A) A) (XC := fun A => xX D 158 (cC D ad) ad A (fun _ _ => False)) rfl ⟨by decide +kernel, rfl, Nat.le_of_ble_eq_true rfl⟩ ?_
  intro p e s mm args below meth c A ls B htab hW hE hN hl hls
  have hx := B.1.1
  have hb := B.1.2.1
  have hl : lv_has ls 3 [(0, .ref (ad jO)), (1, .ref (ad oL))] := hl
  refine lv_aload_n hx hb dL_run_0 rfl (lv_at hl 1 rfl) ?_
  refine lv_iconst (v := 0) hx hb dL_run_1 (by decide) ?_
  refine lv_aload_n hx hb dL_run_2 rfl (lv_at hl 0 rfl) ?_
  refine vx_calli (x_runVX B hW hE (As := []) (rest := [.int 0, .ref (ad oL)]) hqj cC_j cls4 (c_X4_run (D := D) (ad := ad) (V := V) l _ hl0 S) (cwV 0 B.1.2.2.2.2 gL_run_X4_run rfl rfl rfl hd_X4_run ⟨Nat.le_of_ble_eq_true rfl, Nat.le_of_ble_eq_true rfl⟩) rfl hls (Nat.le_of_ble_eq_true rfl) dL_run_3 ⟨Nat.le_of_ble_eq_true rfl, Nat.le_of_ble_eq_true rfl⟩) hW.2.2.1 (fun q _ h => aW_A hW q h) (aW_A hW) (fun q _ h => aW_A hW q h) (fun E ce q9 u t H1 locs1 ht _ _ hB _ _ hS hce hcv hcl => ?_) (fun r u t H1 locs1 ht _ hp hB _ _ hS => ?_)
  · have hW := hW.back (aW_A hW) ht hB.2 hS
    obtain ⟨k, v, hk, hn, he⟩ := hB.1
    have hcd := cd_run (S := S)
    rw [← he] at hcd
    have hcd : k = 0 ∨ k = 3 := hcd
    rcases hcd with hcd | rfl
    · exact absurd hcd hk
    · have hn : "java/lang/IllegalArgumentException" = E := hn
      subst hn
      refine vx_catch (own := RL) (name := "java/lang/IllegalArgumentException") B.1.2.2.2.1 [] (⟨0, 8, 11, 25⟩ : ExceptionTableEntry) [] htab (fun z hz => absurd hz List.not_mem_nil) (by decide) (by decide) (B.1.2.2.2.2 (.classLink RL 25 "java/lang/IllegalArgumentException") (by decide +kernel)) (va_Nw.use rfl (hE.2.2.2.1 _ (by decide))) hce hcv hcl ?_
      refine lv_astore_n (lv' := [(2, .ref q9), (0, .ref (ad jO)), (1, .ref (ad oL))]) hx hb dL_run_11 rfl hl (by decide) rfl (fun ls hl => ?_)
      refine lv_iconst (v := 1) hx hb dL_run_12 (by decide) ?_
      exact x_end ⟨Nat.le_of_ble_eq_true rfl, Nat.le_of_ble_eq_true rfl⟩ (x_iret B hW (by rw [← he]; rfl) dL_run_13)
  · have hW := hW.back (aW_A hW) ht hB hS
    refine lv_i2l hx hb dL_run_6 rfl ?_
    refine x_last B hW dL_run_7 (fun H locs S2 hs hW => ?_)
    refine lv_goto (tgt := 14) hx hb dL_run_8 (by decide) ?_
    refine lv_iconst (v := 0) hx hb dL_run_14 (by decide) ?_
    exact x_end ⟨Nat.le_of_ble_eq_true rfl, Nat.le_of_ble_eq_true rfl⟩ (x_iret B hW (by rw [hs, ← hp]; rfl) dL_run_15)
theorem hd_L_undo : yL_undo.cls = RL ∧ yL_undo.cls ≠ "java/lang/invoke/MethodHandle" ∧ yL_undo.cls ≠ "java/lang/invoke/VarHandle" ∧ (parseMethodDescriptor yL_undo.desc).map (fun d => d.parameters.length) = some 2 := by decide +kernel
theorem h_L_undo {D : va_G} {ad : Nat → Nat} {V : vE} (l : Launch) (sz : Nat) (hl0 : l.stackTraces = false) (S : vS) : vx_Met l yL_undo wsL_undo (rmX 7 1) (pH D 158 (cC D ad) ad sz V S [.ref (ad jO), .ref (ad oL)]) (va_Qi (fun (r : Int32) (S1 : vS) => (r, S1) = hL (fun c : Nat => if c = 0 then (0 : Int32) else 1) (x_X4_undo S)) (bW D 158 (cC D ad) ad (aW 158 ad sz)) (aW 158 ad sz)) (xX D 158 (cC D ad) ad (aW 158 ad sz) (fun _ _ => False)) 1 6 (aW 158 ad sz) := by
  refine x_metH (own := RL) (cc := cL_undo) (maxL := 3) (ret := (some .int)) (hh := [(0, 8, 11, 13)]) (Qc := fun A => va_Qi (fun (r : Int32) (S1 : vS) => (r, S1) = hL (fun c : Nat => if c = 0 then (0 : Int32) else 1) (x_X4_undo S)) (bW D 158 (cC D ad) ad A) A) (XC := fun A => xX D 158 (cC D ad) ad A (fun _ _ => False)) rfl ⟨by decide +kernel, rfl, Nat.le_of_ble_eq_true rfl⟩ ?_
  intro p e s mm args below meth c A ls B htab hW hE hN hl hls
  have hx := B.1.1
  have hb := B.1.2.1
  have hl : lv_has ls 3 [(0, .ref (ad jO)), (1, .ref (ad oL))] := hl
  refine lv_aload_n hx hb dL_undo_0 rfl (lv_at hl 1 rfl) ?_
  refine lv_iconst (v := 0) hx hb dL_undo_1 (by decide) ?_
  refine lv_aload_n hx hb dL_undo_2 rfl (lv_at hl 0 rfl) ?_
  refine vx_calli (x_runVX B hW hE (As := []) (rest := [.int 0, .ref (ad oL)]) hqj cC_j cls4 (c_X4_undo (D := D) (ad := ad) (V := V) l _ hl0 S) (cwV 0 B.1.2.2.2.2 gL_undo_X4_undo rfl rfl rfl hd_X4_undo ⟨Nat.le_of_ble_eq_true rfl, Nat.le_of_ble_eq_true rfl⟩) rfl hls (Nat.le_of_ble_eq_true rfl) dL_undo_3 ⟨Nat.le_of_ble_eq_true rfl, Nat.le_of_ble_eq_true rfl⟩) hW.2.2.1 (fun q _ h => aW_A hW q h) (aW_A hW) (fun q _ h => aW_A hW q h) (fun E ce q9 u t H1 locs1 ht _ _ hB _ _ hS hce hcv hcl => ?_) (fun r u t H1 locs1 ht _ hp hB _ _ hS => ?_)
  · have hW := hW.back (aW_A hW) ht hB.2 hS
    obtain ⟨k, v, hk, hn, he⟩ := hB.1
    have hcd := cd_undo (S := S)
    rw [← he] at hcd
    have hcd : k = 0 ∨ k = 1 := hcd
    rcases hcd with hcd | rfl
    · exact absurd hcd hk
    · have hn : "java/lang/IllegalStateException" = E := hn
      subst hn
      refine vx_catch (own := RL) (name := "java/lang/IllegalStateException") B.1.2.2.2.1 [] (⟨0, 8, 11, 13⟩ : ExceptionTableEntry) [] htab (fun z hz => absurd hz List.not_mem_nil) (by decide) (by decide) (B.1.2.2.2.2 (.classLink RL 13 "java/lang/IllegalStateException") (by decide +kernel)) (va_Nw.use rfl (hE.2.2.2.1 _ (by decide))) hce hcv hcl ?_
      refine lv_astore_n (lv' := [(2, .ref q9), (0, .ref (ad jO)), (1, .ref (ad oL))]) hx hb dL_undo_11 rfl hl (by decide) rfl (fun ls hl => ?_)
      refine lv_iconst (v := 1) hx hb dL_undo_12 (by decide) ?_
      exact x_end ⟨Nat.le_of_ble_eq_true rfl, Nat.le_of_ble_eq_true rfl⟩ (x_iret B hW (by rw [← he]; rfl) dL_undo_13)
  · have hW := hW.back (aW_A hW) ht hB hS
    refine lv_i2l hx hb dL_undo_6 rfl ?_
    refine x_last B hW dL_undo_7 (fun H locs S2 hs hW => ?_)
    refine lv_goto (tgt := 14) hx hb dL_undo_8 (by decide) ?_
    refine lv_iconst (v := 0) hx hb dL_undo_14 (by decide) ?_
    exact x_end ⟨Nat.le_of_ble_eq_true rfl, Nat.le_of_ble_eq_true rfl⟩ (x_iret B hW (by rw [hs, ← hp]; rfl) dL_undo_15)
theorem hd_L_member : yL_member.cls = RL ∧ yL_member.cls ≠ "java/lang/invoke/MethodHandle" ∧ yL_member.cls ≠ "java/lang/invoke/VarHandle" ∧ (parseMethodDescriptor yL_member.desc).map (fun d => d.parameters.length) = some 4 := by decide +kernel
theorem h_L_member {D : va_G} {ad : Nat → Nat} {V : vE} (l : Launch) (sz : Nat) (hl0 : l.stackTraces = false) (S : vS) (p1 : Int32) (p2 : Int32) : vx_Met l yL_member wsL_member (rmX 8 2) (pH D 158 (cC D ad) ad sz V S [.ref (ad jO), .int p1, .int p2, .ref (ad oL)]) (va_Qi (fun (r : Int32) (S1 : vS) => (r, S1) = hL mp3 ((x_X4_member S p1 p2), S)) (bW D 158 (cC D ad) ad (aW 158 ad sz)) (aW 158 ad sz)) (xX D 158 (cC D ad) ad (aW 158 ad sz) (fun _ _ => False)) 2 12 (aW 158 ad sz) := by
  refine x_metH (own := RL) (cc := cL_member) (maxL := 5) (ret := (some .int)) (hh := [(0, 10, 13, 19), (0, 10, 17, 25)]) (Qc := fun A => va_Qi (fun (r : Int32) (S1 : vS) => (r, S1) = hL mp3 ((x_X4_member S p1 p2), S)) (bW D 158 (cC D ad) ad A) A) (XC := fun A => xX D 158 (cC D ad) ad A (fun _ _ => False)) rfl ⟨by decide +kernel, rfl, Nat.le_of_ble_eq_true rfl⟩ ?_
  intro p e s mm args below meth c A ls B htab hW hE hN hl hls
  have hx := B.1.1
  have hb := B.1.2.1
  have hl : lv_has ls 5 [(0, .ref (ad jO)), (1, .int p1), (2, .int p2), (3, .ref (ad oL))] := hl
  refine lv_aload_n hx hb dL_member_0 rfl (lv_at hl 3 rfl) ?_
  refine lv_iconst (v := 0) hx hb dL_member_1 (by decide) ?_
  refine lv_aload_n hx hb dL_member_2 rfl (lv_at hl 0 rfl) ?_
  refine lv_iload_n hx hb dL_member_3 rfl (lv_at hl 1 rfl) ?_
  refine lv_iload_n hx hb dL_member_4 rfl (lv_at hl 2 rfl) ?_
  refine vx_calli (x_runVX B hW hE (As := [.int p1, .int p2]) (rest := [.int 0, .ref (ad oL)]) hqj cC_j cls4 (c_X4_member (D := D) (ad := ad) (V := V) l _ hl0 S p1 p2) (cwV 2 B.1.2.2.2.2 gL_member_X4_member rfl rfl rfl hd_X4_member ⟨Nat.le_of_ble_eq_true rfl, Nat.le_of_ble_eq_true rfl⟩) rfl hls (Nat.le_of_ble_eq_true rfl) dL_member_5 ⟨Nat.le_of_ble_eq_true rfl, Nat.le_of_ble_eq_true rfl⟩) hW.2.2.1 (fun q _ h => aW_A hW q h) (aW_A hW) (fun q _ h => aW_A hW q h) (fun E ce q9 u t H1 locs1 ht _ _ hB _ _ hS hce hcv hcl => ?_) (fun r u t H1 locs1 ht _ hp hB _ _ hS => ?_)
  · have hW := hW.back (aW_A hW) ht hB.2 hS
    obtain ⟨⟨k, v, hk, hn, he⟩, hu⟩ := hB.1
    have hcd := cd_member (S := S) p1 p2
    rw [← he] at hcd
    have hcd : k = 0 ∨ k = 2 ∨ k = 3 := hcd
    rcases hcd with hcd | rfl | rfl
    · exact absurd hcd hk
    · have hn : "java/lang/IndexOutOfBoundsException" = E := hn
      subst hn
      refine vx_catch (own := RL) (name := "java/lang/IndexOutOfBoundsException") B.1.2.2.2.1 [] (⟨0, 10, 13, 19⟩ : ExceptionTableEntry) [(⟨0, 10, 17, 25⟩ : ExceptionTableEntry)] htab (fun z hz => absurd hz List.not_mem_nil) (by decide) (by decide) (B.1.2.2.2.2 (.classLink RL 19 "java/lang/IndexOutOfBoundsException") (by decide +kernel)) (va_Nw.use rfl (hE.2.2.2.1 _ (by decide))) hce hcv hcl ?_
      refine lv_astore (lv' := [(4, .ref q9), (0, .ref (ad jO)), (1, .int p1), (2, .int p2), (3, .ref (ad oL))]) hx hb dL_member_13 hl (by decide) rfl (fun ls hl => ?_)
      refine lv_iconst (v := 1) hx hb dL_member_15 (by decide) ?_
      exact x_end ⟨Nat.le_of_ble_eq_true rfl, Nat.le_of_ble_eq_true rfl⟩ (x_iret B hW (by rw [hu, ← he]; rfl) dL_member_16)
    · have hn : "java/lang/IllegalArgumentException" = E := hn
      subst hn
      refine vx_catch (own := RL) (name := "java/lang/IllegalArgumentException") B.1.2.2.2.1 [(⟨0, 10, 13, 19⟩ : ExceptionTableEntry)] (⟨0, 10, 17, 25⟩ : ExceptionTableEntry) [] htab (fun z hz => by
        rcases List.mem_cons.mp hz with rfl | hz
        · exact Or.inr ⟨by decide, "java/lang/IndexOutOfBoundsException", B.1.2.2.2.2 (.classLink RL 19 "java/lang/IndexOutOfBoundsException") (by decide +kernel), hN.1⟩
        · exact absurd hz List.not_mem_nil) (by decide) (by decide) (B.1.2.2.2.2 (.classLink RL 25 "java/lang/IllegalArgumentException") (by decide +kernel)) (va_Nw.use rfl (hE.2.2.2.1 _ (by decide))) hce hcv hcl ?_
      refine lv_astore (lv' := [(4, .ref q9), (0, .ref (ad jO)), (1, .int p1), (2, .int p2), (3, .ref (ad oL))]) hx hb dL_member_17 hl (by decide) rfl (fun ls hl => ?_)
      refine lv_iconst (v := 2) hx hb dL_member_19 (by decide) ?_
      exact x_end ⟨Nat.le_of_ble_eq_true rfl, Nat.le_of_ble_eq_true rfl⟩ (x_iret B hW (by rw [hu, ← he]; rfl) dL_member_20)
  · have hW := hW.back (aW_A hW) ht hB hS
    refine lv_i2l hx hb dL_member_8 rfl ?_
    refine x_last B hW dL_member_9 (fun H locs S2 hs hW => ?_)
    refine lv_goto (tgt := 21) hx hb dL_member_10 (by decide) ?_
    refine lv_iconst (v := 0) hx hb dL_member_21 (by decide) ?_
    exact x_end ⟨Nat.le_of_ble_eq_true rfl, Nat.le_of_ble_eq_true rfl⟩ (x_iret B hW (by rw [hs, hp.2, ← hp.1]; rfl) dL_member_22)
theorem hd_L_owes : yL_owes.cls = RL ∧ yL_owes.cls ≠ "java/lang/invoke/MethodHandle" ∧ yL_owes.cls ≠ "java/lang/invoke/VarHandle" ∧ (parseMethodDescriptor yL_owes.desc).map (fun d => d.parameters.length) = some 4 := by decide +kernel
theorem h_L_owes {D : va_G} {ad : Nat → Nat} {V : vE} (l : Launch) (sz : Nat) (hl0 : l.stackTraces = false) (S : vS) (p1 : Int32) (p2 : Int32) : vx_Met l yL_owes wsL_owes (rmX 8 2) (pH D 158 (cC D ad) ad sz V S [.ref (ad jO), .int p1, .int p2, .ref (ad oL)]) (va_Qi (fun (r : Int32) (S1 : vS) => (r, S1) = hL (fun c : Nat => if c = 0 then (0 : Int32) else 1) ((x_X4_owes S p1 p2), S)) (bW D 158 (cC D ad) ad (aW 158 ad sz)) (aW 158 ad sz)) (xX D 158 (cC D ad) ad (aW 158 ad sz) (fun _ _ => False)) 2 12 (aW 158 ad sz) := by
  refine x_metH (own := RL) (cc := cL_owes) (maxL := 5) (ret := (some .int)) (hh := [(0, 10, 13, 19)]) (Qc := fun A => va_Qi (fun (r : Int32) (S1 : vS) => (r, S1) = hL (fun c : Nat => if c = 0 then (0 : Int32) else 1) ((x_X4_owes S p1 p2), S)) (bW D 158 (cC D ad) ad A) A) (XC := fun A => xX D 158 (cC D ad) ad A (fun _ _ => False)) rfl ⟨by decide +kernel, rfl, Nat.le_of_ble_eq_true rfl⟩ ?_
  intro p e s mm args below meth c A ls B htab hW hE hN hl hls
  have hx := B.1.1
  have hb := B.1.2.1
  have hl : lv_has ls 5 [(0, .ref (ad jO)), (1, .int p1), (2, .int p2), (3, .ref (ad oL))] := hl
  refine lv_aload_n hx hb dL_owes_0 rfl (lv_at hl 3 rfl) ?_
  refine lv_iconst (v := 0) hx hb dL_owes_1 (by decide) ?_
  refine lv_aload_n hx hb dL_owes_2 rfl (lv_at hl 0 rfl) ?_
  refine lv_iload_n hx hb dL_owes_3 rfl (lv_at hl 1 rfl) ?_
  refine lv_iload_n hx hb dL_owes_4 rfl (lv_at hl 2 rfl) ?_
  refine vx_calli (x_runVX B hW hE (As := [.int p1, .int p2]) (rest := [.int 0, .ref (ad oL)]) hqj cC_j cls4 (c_X4_owes (D := D) (ad := ad) (V := V) l _ hl0 S p1 p2) (cwV 2 B.1.2.2.2.2 gL_owes_X4_owes rfl rfl rfl hd_X4_owes ⟨Nat.le_of_ble_eq_true rfl, Nat.le_of_ble_eq_true rfl⟩) rfl hls (Nat.le_of_ble_eq_true rfl) dL_owes_5 ⟨Nat.le_of_ble_eq_true rfl, Nat.le_of_ble_eq_true rfl⟩) hW.2.2.1 (fun q _ h => aW_A hW q h) (aW_A hW) (fun q _ h => aW_A hW q h) (fun E ce q9 u t H1 locs1 ht _ _ hB _ _ hS hce hcv hcl => ?_) (fun r u t H1 locs1 ht _ hp hB _ _ hS => ?_)
  · have hW := hW.back (aW_A hW) ht hB.2 hS
    obtain ⟨⟨k, v, hk, hn, he⟩, hu⟩ := hB.1
    have hcd := cd_owes (S := S) p1 p2
    rw [← he] at hcd
    have hcd : k = 0 ∨ k = 2 := hcd
    rcases hcd with hcd | rfl
    · exact absurd hcd hk
    · have hn : "java/lang/IndexOutOfBoundsException" = E := hn
      subst hn
      refine vx_catch (own := RL) (name := "java/lang/IndexOutOfBoundsException") B.1.2.2.2.1 [] (⟨0, 10, 13, 19⟩ : ExceptionTableEntry) [] htab (fun z hz => absurd hz List.not_mem_nil) (by decide) (by decide) (B.1.2.2.2.2 (.classLink RL 19 "java/lang/IndexOutOfBoundsException") (by decide +kernel)) (va_Nw.use rfl (hE.2.2.2.1 _ (by decide))) hce hcv hcl ?_
      refine lv_astore (lv' := [(4, .ref q9), (0, .ref (ad jO)), (1, .int p1), (2, .int p2), (3, .ref (ad oL))]) hx hb dL_owes_13 hl (by decide) rfl (fun ls hl => ?_)
      refine lv_iconst (v := 1) hx hb dL_owes_15 (by decide) ?_
      exact x_end ⟨Nat.le_of_ble_eq_true rfl, Nat.le_of_ble_eq_true rfl⟩ (x_iret B hW (by rw [hu, ← he]; rfl) dL_owes_16)
  · have hW := hW.back (aW_A hW) ht hB hS
    refine lv_i2l hx hb dL_owes_8 rfl ?_
    refine x_last B hW dL_owes_9 (fun H locs S2 hs hW => ?_)
    refine lv_goto (tgt := 17) hx hb dL_owes_10 (by decide) ?_
    refine lv_iconst (v := 0) hx hb dL_owes_17 (by decide) ?_
    exact x_end ⟨Nat.le_of_ble_eq_true rfl, Nat.le_of_ble_eq_true rfl⟩ (x_iret B hW (by rw [hs, hp.2, ← hp.1]; rfl) dL_owes_18)
theorem hd_L_count : yL_count.cls = RL ∧ yL_count.cls ≠ "java/lang/invoke/MethodHandle" ∧ yL_count.cls ≠ "java/lang/invoke/VarHandle" ∧ (parseMethodDescriptor yL_count.desc).map (fun d => d.parameters.length) = some 3 := by decide +kernel
theorem h_L_count {D : va_G} {ad : Nat → Nat} {V : vE} (l : Launch) (sz : Nat) (hl0 : l.stackTraces = false) (S : vS) (p1 : Int32) : vx_Met l yL_count wsL_count (rmX 7 1) (pH D 158 (cC D ad) ad sz V S [.ref (ad jO), .int p1, .ref (ad oL)]) (va_Qi (fun (r : Int32) (S1 : vS) => (r, S1) = hL (fun c : Nat => if c = 0 then (0 : Int32) else 1) ((x_X4_count S p1), S)) (bW D 158 (cC D ad) ad (aW 158 ad sz)) (aW 158 ad sz)) (xX D 158 (cC D ad) ad (aW 158 ad sz) (fun _ _ => False)) 1 6 (aW 158 ad sz) := by
  refine x_metH (own := RL) (cc := cL_count) (maxL := 4) (ret := (some .int)) (hh := [(0, 9, 12, 25)]) (Qc := fun A => va_Qi (fun (r : Int32) (S1 : vS) => (r, S1) = hL (fun c : Nat => if c = 0 then (0 : Int32) else 1) ((x_X4_count S p1), S)) (bW D 158 (cC D ad) ad A) A) (XC := fun A => xX D 158 (cC D ad) ad A (fun _ _ => False)) rfl ⟨by decide +kernel, rfl, Nat.le_of_ble_eq_true rfl⟩ ?_
  intro p e s mm args below meth c A ls B htab hW hE hN hl hls
  have hx := B.1.1
  have hb := B.1.2.1
  have hl : lv_has ls 4 [(0, .ref (ad jO)), (1, .int p1), (2, .ref (ad oL))] := hl
  refine lv_aload_n hx hb dL_count_0 rfl (lv_at hl 2 rfl) ?_
  refine lv_iconst (v := 0) hx hb dL_count_1 (by decide) ?_
  refine lv_aload_n hx hb dL_count_2 rfl (lv_at hl 0 rfl) ?_
  refine lv_iload_n hx hb dL_count_3 rfl (lv_at hl 1 rfl) ?_
  refine vx_calli (x_runVX B hW hE (As := [.int p1]) (rest := [.int 0, .ref (ad oL)]) hqj cC_j cls4 (c_X4_count (D := D) (ad := ad) (V := V) l _ hl0 S p1) (cwV 1 B.1.2.2.2.2 gL_count_X4_count rfl rfl rfl hd_X4_count ⟨Nat.le_of_ble_eq_true rfl, Nat.le_of_ble_eq_true rfl⟩) rfl hls (Nat.le_of_ble_eq_true rfl) dL_count_4 ⟨Nat.le_of_ble_eq_true rfl, Nat.le_of_ble_eq_true rfl⟩) hW.2.2.1 (fun q _ h => aW_A hW q h) (aW_A hW) (fun q _ h => aW_A hW q h) (fun E ce q9 u t H1 locs1 ht _ _ hB _ _ hS hce hcv hcl => ?_) (fun r u t H1 locs1 ht _ hp hB _ _ hS => ?_)
  · have hW := hW.back (aW_A hW) ht hB.2 hS
    obtain ⟨⟨k, v, hk, hn, he⟩, hu⟩ := hB.1
    have hcd := cd_count (S := S) p1
    rw [← he] at hcd
    have hcd : k = 0 ∨ k = 3 := hcd
    rcases hcd with hcd | rfl
    · exact absurd hcd hk
    · have hn : "java/lang/IllegalArgumentException" = E := hn
      subst hn
      refine vx_catch (own := RL) (name := "java/lang/IllegalArgumentException") B.1.2.2.2.1 [] (⟨0, 9, 12, 25⟩ : ExceptionTableEntry) [] htab (fun z hz => absurd hz List.not_mem_nil) (by decide) (by decide) (B.1.2.2.2.2 (.classLink RL 25 "java/lang/IllegalArgumentException") (by decide +kernel)) (va_Nw.use rfl (hE.2.2.2.1 _ (by decide))) hce hcv hcl ?_
      refine lv_astore_n (lv' := [(3, .ref q9), (0, .ref (ad jO)), (1, .int p1), (2, .ref (ad oL))]) hx hb dL_count_12 rfl hl (by decide) rfl (fun ls hl => ?_)
      refine lv_iconst (v := 1) hx hb dL_count_13 (by decide) ?_
      exact x_end ⟨Nat.le_of_ble_eq_true rfl, Nat.le_of_ble_eq_true rfl⟩ (x_iret B hW (by rw [hu, ← he]; rfl) dL_count_14)
  · have hW := hW.back (aW_A hW) ht hB hS
    refine lv_i2l hx hb dL_count_7 rfl ?_
    refine x_last B hW dL_count_8 (fun H locs S2 hs hW => ?_)
    refine lv_goto (tgt := 15) hx hb dL_count_9 (by decide) ?_
    refine lv_iconst (v := 0) hx hb dL_count_15 (by decide) ?_
    exact x_end ⟨Nat.le_of_ble_eq_true rfl, Nat.le_of_ble_eq_true rfl⟩ (x_iret B hW (by rw [hs, hp.2, ← hp.1]; rfl) dL_count_16)
end HELP2
