section DHELP
theorem hd_L_join : yL_join.cls = RL ∧ yL_join.cls ≠ "java/lang/invoke/MethodHandle" ∧ yL_join.cls ≠ "java/lang/invoke/VarHandle" ∧ (parseMethodDescriptor yL_join.desc).map (fun d => d.parameters.length) = some 1 := by decide +kernel
theorem h_L_join {D : va_G} {ad : Nat → Nat} {V : vE} (l : Launch) (sz : Nat) (hl0 : l.stackTraces = false) (S : vS) {cy : Int} (hok : OKs cy S (x_X4_join S)) : vx_Met l yL_join wsL_join (rmX 7 1) (pE D 157 (cC D ad) ad sz V S [.ref (ad jO)]) (va_Qi (fun (r : Int32) (S1 : vS) => SO cy S r S1) (bW D 157 (cC D ad) ad (aW 157 ad sz)) (aW 157 ad sz)) (xX D 157 (cC D ad) ad (aW 157 ad sz) (fun _ _ => False)) 1 6 (aW 157 ad sz) := by
  refine x_metT (own := RL) (cc := cL_join) (maxL := 2) (ret := (some .int)) (hh := [(0, 4, 5, 21)]) (Qc := fun A => va_Qi (fun (r : Int32) (S1 : vS) => SO cy S r S1) (bW D 157 (cC D ad) ad A) A) (XC := fun A => xX D 157 (cC D ad) ad A (fun _ _ => False)) rfl ⟨by decide +kernel, rfl, Nat.le_of_ble_eq_true rfl⟩ ?_
  intro p e s mm args below meth c A ls B htab hW hE hl hls
  have hx := B.1.1
  have hb := B.1.2.1
  have hl : lv_has ls 2 [(0, .ref (ad jO))] := hl
  refine lv_aload_n hx hb dL_join_0 rfl (lv_at hl 0 rfl) ?_
  refine vx_calli (x_runVX B hW hE (As := []) (rest := []) hqj cC_j cls4 (c_X4_join (D := D) (ad := ad) (V := V) l _ hl0 S) (cwV 0 B.1.2.2.2.2 gL_join_X4_join rfl rfl rfl hd_X4_join ⟨Nat.le_of_ble_eq_true rfl, Nat.le_of_ble_eq_true rfl⟩) rfl hls (Nat.le_of_ble_eq_true rfl) dL_join_1 ⟨Nat.le_of_ble_eq_true rfl, Nat.le_of_ble_eq_true rfl⟩) hW.2.2.1 (fun q _ h => aW_A hW q h) (aW_A hW) (fun q _ h => aW_A hW q h) (fun E ce q9 u t H1 locs1 ht _ _ hB _ _ hS hce hcv hcl => ?_) (fun r u t H1 locs1 ht _ hp hB _ _ hS => ?_)
  · have hW := hW.back (aW_A hW) ht hB.2 hS
    obtain ⟨k, v, hk, hn, he⟩ := hB.1
    rw [← he] at hok
    rcases hok with ⟨q, _⟩ | ⟨q1, q2⟩
    · exact absurd q hk
    · have q1 : k = 1 := q1
      have q2 : u = S := q2
      subst q1
      have hn : "java/lang/IllegalStateException" = E := hn
      subst hn
      refine vx_catch (own := RL) (name := "java/lang/IllegalStateException") B.1.2.2.2.1 [] (⟨0, 4, 5, 21⟩ : ExceptionTableEntry) [] htab (fun z hz => absurd hz List.not_mem_nil) (by decide) (by decide) (B.1.2.2.2.2 (.classLink RL 21 "java/lang/IllegalStateException") (by decide +kernel)) (va_Nw.use rfl (hE.2.2.2.1 _ (by decide))) hce hcv hcl ?_
      refine lv_astore_n (lv' := [(1, .ref q9), (0, .ref (ad jO))]) hx hb dL_join_5 rfl hl (by decide) rfl (fun ls hl => ?_)
      have hls := hl.1
      refine lv_bipush (v := (-3)) hx hb dL_join_6 (by decide) ?_
      exact x_end ⟨Nat.le_of_ble_eq_true rfl, Nat.le_of_ble_eq_true rfl⟩ (x_iret B hW (Or.inr q2) dL_join_8)
  · have hW := hW.back (aW_A hW) ht hB hS
    rw [← hp] at hok
    rcases hok with ⟨_, q2, q3⟩ | ⟨q1, _⟩
    · exact x_end ⟨Nat.le_of_ble_eq_true rfl, Nat.le_of_ble_eq_true rfl⟩ (x_iret B hW (Or.inl ⟨q2, q3⟩) dL_join_4)
    · exact absurd (show (0 : Nat) = 1 from q1) (by decide)
theorem hd_L_leave : yL_leave.cls = RL ∧ yL_leave.cls ≠ "java/lang/invoke/MethodHandle" ∧ yL_leave.cls ≠ "java/lang/invoke/VarHandle" ∧ (parseMethodDescriptor yL_leave.desc).map (fun d => d.parameters.length) = some 2 := by decide +kernel
theorem h_L_leave {D : va_G} {ad : Nat → Nat} {V : vE} (l : Launch) (sz : Nat) (hl0 : l.stackTraces = false) (S : vS) {cy : Int} (p1 : Int32) (hok : OKs cy S (x_X4_leave S p1)) : vx_Met l yL_leave wsL_leave (rmX 8 2) (pE D 157 (cC D ad) ad sz V S [.ref (ad jO), .int p1]) (va_Qi (fun (r : Int32) (S1 : vS) => SO cy S r S1) (bW D 157 (cC D ad) ad (aW 157 ad sz)) (aW 157 ad sz)) (xX D 157 (cC D ad) ad (aW 157 ad sz) (fun _ _ => False)) 2 12 (aW 157 ad sz) := by
  refine x_metT (own := RL) (cc := cL_leave) (maxL := 3) (ret := (some .int)) (hh := [(0, 5, 6, 21)]) (Qc := fun A => va_Qi (fun (r : Int32) (S1 : vS) => SO cy S r S1) (bW D 157 (cC D ad) ad A) A) (XC := fun A => xX D 157 (cC D ad) ad A (fun _ _ => False)) rfl ⟨by decide +kernel, rfl, Nat.le_of_ble_eq_true rfl⟩ ?_
  intro p e s mm args below meth c A ls B htab hW hE hl hls
  have hx := B.1.1
  have hb := B.1.2.1
  have hl : lv_has ls 3 [(0, .ref (ad jO)), (1, .int p1)] := hl
  refine lv_aload_n hx hb dL_leave_0 rfl (lv_at hl 0 rfl) ?_
  refine lv_iload_n hx hb dL_leave_1 rfl (lv_at hl 1 rfl) ?_
  refine vx_calli (x_runVX B hW hE (As := [.int p1]) (rest := []) hqj cC_j cls4 (c_X4_leave (D := D) (ad := ad) (V := V) l _ hl0 S p1) (cwV 1 B.1.2.2.2.2 gL_leave_X4_leave rfl rfl rfl hd_X4_leave ⟨Nat.le_of_ble_eq_true rfl, Nat.le_of_ble_eq_true rfl⟩) rfl hls (Nat.le_of_ble_eq_true rfl) dL_leave_2 ⟨Nat.le_of_ble_eq_true rfl, Nat.le_of_ble_eq_true rfl⟩) hW.2.2.1 (fun q _ h => aW_A hW q h) (aW_A hW) (fun q _ h => aW_A hW q h) (fun E ce q9 u t H1 locs1 ht _ _ hB _ _ hS hce hcv hcl => ?_) (fun r u t H1 locs1 ht _ hp hB _ _ hS => ?_)
  · have hW := hW.back (aW_A hW) ht hB.2 hS
    obtain ⟨k, v, hk, hn, he⟩ := hB.1
    rw [← he] at hok
    rcases hok with ⟨q, _⟩ | ⟨q1, q2⟩
    · exact absurd q hk
    · have q1 : k = 1 := q1
      have q2 : u = S := q2
      subst q1
      have hn : "java/lang/IllegalStateException" = E := hn
      subst hn
      refine vx_catch (own := RL) (name := "java/lang/IllegalStateException") B.1.2.2.2.1 [] (⟨0, 5, 6, 21⟩ : ExceptionTableEntry) [] htab (fun z hz => absurd hz List.not_mem_nil) (by decide) (by decide) (B.1.2.2.2.2 (.classLink RL 21 "java/lang/IllegalStateException") (by decide +kernel)) (va_Nw.use rfl (hE.2.2.2.1 _ (by decide))) hce hcv hcl ?_
      refine lv_astore_n (lv' := [(2, .ref q9), (0, .ref (ad jO)), (1, .int p1)]) hx hb dL_leave_6 rfl hl (by decide) rfl (fun ls hl => ?_)
      have hls := hl.1
      refine lv_bipush (v := (-3)) hx hb dL_leave_7 (by decide) ?_
      exact x_end ⟨Nat.le_of_ble_eq_true rfl, Nat.le_of_ble_eq_true rfl⟩ (x_iret B hW (Or.inr q2) dL_leave_9)
  · have hW := hW.back (aW_A hW) ht hB hS
    rw [← hp] at hok
    rcases hok with ⟨_, q2, q3⟩ | ⟨q1, _⟩
    · exact x_end ⟨Nat.le_of_ble_eq_true rfl, Nat.le_of_ble_eq_true rfl⟩ (x_iret B hW (Or.inl ⟨q2, q3⟩) dL_leave_5)
    · exact absurd (show (0 : Nat) = 1 from q1) (by decide)
theorem hd_L_lend : yL_lend.cls = RL ∧ yL_lend.cls ≠ "java/lang/invoke/MethodHandle" ∧ yL_lend.cls ≠ "java/lang/invoke/VarHandle" ∧ (parseMethodDescriptor yL_lend.desc).map (fun d => d.parameters.length) = some 4 := by decide +kernel
theorem h_L_lend {D : va_G} {ad : Nat → Nat} {V : vE} (l : Launch) (sz : Nat) (hl0 : l.stackTraces = false) (S : vS) {cy : Int} (p1 : Int32) (p2 : Int32) (p3 : Int32) (hok : OKs cy S (x_X4_lend S p1 p2 p3)) : vx_Met l yL_lend wsL_lend (rmX 8 2) (pE D 157 (cC D ad) ad sz V S [.ref (ad jO), .int p1, .int p2, .int p3]) (va_Qi (fun (r : Int32) (S1 : vS) => SO cy S r S1) (bW D 157 (cC D ad) ad (aW 157 ad sz)) (aW 157 ad sz)) (xX D 157 (cC D ad) ad (aW 157 ad sz) (fun _ _ => False)) 2 12 (aW 157 ad sz) := by
  refine x_metT (own := RL) (cc := cL_lend) (maxL := 5) (ret := (some .int)) (hh := [(0, 7, 8, 21)]) (Qc := fun A => va_Qi (fun (r : Int32) (S1 : vS) => SO cy S r S1) (bW D 157 (cC D ad) ad A) A) (XC := fun A => xX D 157 (cC D ad) ad A (fun _ _ => False)) rfl ⟨by decide +kernel, rfl, Nat.le_of_ble_eq_true rfl⟩ ?_
  intro p e s mm args below meth c A ls B htab hW hE hl hls
  have hx := B.1.1
  have hb := B.1.2.1
  have hl : lv_has ls 5 [(0, .ref (ad jO)), (1, .int p1), (2, .int p2), (3, .int p3)] := hl
  refine lv_aload_n hx hb dL_lend_0 rfl (lv_at hl 0 rfl) ?_
  refine lv_iload_n hx hb dL_lend_1 rfl (lv_at hl 1 rfl) ?_
  refine lv_iload_n hx hb dL_lend_2 rfl (lv_at hl 2 rfl) ?_
  refine lv_iload_n hx hb dL_lend_3 rfl (lv_at hl 3 rfl) ?_
  refine vx_calli (x_runVX B hW hE (As := [.int p1, .int p2, .int p3]) (rest := []) hqj cC_j cls4 (c_X4_lend (D := D) (ad := ad) (V := V) l _ hl0 S p1 p2 p3) (cwV 3 B.1.2.2.2.2 gL_lend_X4_lend rfl rfl rfl hd_X4_lend ⟨Nat.le_of_ble_eq_true rfl, Nat.le_of_ble_eq_true rfl⟩) rfl hls (Nat.le_of_ble_eq_true rfl) dL_lend_4 ⟨Nat.le_of_ble_eq_true rfl, Nat.le_of_ble_eq_true rfl⟩) hW.2.2.1 (fun q _ h => aW_A hW q h) (aW_A hW) (fun q _ h => aW_A hW q h) (fun E ce q9 u t H1 locs1 ht _ _ hB _ _ hS hce hcv hcl => ?_) (fun r u t H1 locs1 ht _ hp hB _ _ hS => ?_)
  · have hW := hW.back (aW_A hW) ht hB.2 hS
    obtain ⟨k, v, hk, hn, he⟩ := hB.1
    rw [← he] at hok
    rcases hok with ⟨q, _⟩ | ⟨q1, q2⟩
    · exact absurd q hk
    · have q1 : k = 1 := q1
      have q2 : u = S := q2
      subst q1
      have hn : "java/lang/IllegalStateException" = E := hn
      subst hn
      refine vx_catch (own := RL) (name := "java/lang/IllegalStateException") B.1.2.2.2.1 [] (⟨0, 7, 8, 21⟩ : ExceptionTableEntry) [] htab (fun z hz => absurd hz List.not_mem_nil) (by decide) (by decide) (B.1.2.2.2.2 (.classLink RL 21 "java/lang/IllegalStateException") (by decide +kernel)) (va_Nw.use rfl (hE.2.2.2.1 _ (by decide))) hce hcv hcl ?_
      refine lv_astore (lv' := [(4, .ref q9), (0, .ref (ad jO)), (1, .int p1), (2, .int p2), (3, .int p3)]) hx hb dL_lend_8 hl (by decide) rfl (fun ls hl => ?_)
      have hls := hl.1
      refine lv_bipush (v := (-3)) hx hb dL_lend_10 (by decide) ?_
      exact x_end ⟨Nat.le_of_ble_eq_true rfl, Nat.le_of_ble_eq_true rfl⟩ (x_iret B hW (Or.inr q2) dL_lend_12)
  · have hW := hW.back (aW_A hW) ht hB hS
    rw [← hp] at hok
    rcases hok with ⟨_, q2, q3⟩ | ⟨q1, _⟩
    · exact x_end ⟨Nat.le_of_ble_eq_true rfl, Nat.le_of_ble_eq_true rfl⟩ (x_iret B hW (Or.inl ⟨q2, q3⟩) dL_lend_7)
    · exact absurd (show (0 : Nat) = 1 from q1) (by decide)
theorem hd_L_payBack : yL_payBack.cls = RL ∧ yL_payBack.cls ≠ "java/lang/invoke/MethodHandle" ∧ yL_payBack.cls ≠ "java/lang/invoke/VarHandle" ∧ (parseMethodDescriptor yL_payBack.desc).map (fun d => d.parameters.length) = some 3 := by decide +kernel
theorem h_L_payBack {D : va_G} {ad : Nat → Nat} {V : vE} (l : Launch) (sz : Nat) (hl0 : l.stackTraces = false) (S : vS) {cy : Int} (p1 : Int32) (p2 : Int32) (hok : OKs cy S (x_X4_payBack S p1 p2)) : vx_Met l yL_payBack wsL_payBack (rmX 8 3) (pE D 157 (cC D ad) ad sz V S [.ref (ad jO), .int p1, .int p2]) (va_Qi (fun (r : Int32) (S1 : vS) => SO cy S r S1) (bW D 157 (cC D ad) ad (aW 157 ad sz)) (aW 157 ad sz)) (xX D 157 (cC D ad) ad (aW 157 ad sz) (fun _ _ => False)) 3 18 (aW 157 ad sz) := by
  refine x_metT (own := RL) (cc := cL_payBack) (maxL := 4) (ret := (some .int)) (hh := [(0, 6, 7, 21)]) (Qc := fun A => va_Qi (fun (r : Int32) (S1 : vS) => SO cy S r S1) (bW D 157 (cC D ad) ad A) A) (XC := fun A => xX D 157 (cC D ad) ad A (fun _ _ => False)) rfl ⟨by decide +kernel, rfl, Nat.le_of_ble_eq_true rfl⟩ ?_
  intro p e s mm args below meth c A ls B htab hW hE hl hls
  have hx := B.1.1
  have hb := B.1.2.1
  have hl : lv_has ls 4 [(0, .ref (ad jO)), (1, .int p1), (2, .int p2)] := hl
  refine lv_aload_n hx hb dL_payBack_0 rfl (lv_at hl 0 rfl) ?_
  refine lv_iload_n hx hb dL_payBack_1 rfl (lv_at hl 1 rfl) ?_
  refine lv_iload_n hx hb dL_payBack_2 rfl (lv_at hl 2 rfl) ?_
  refine vx_calli (x_runVX B hW hE (As := [.int p1, .int p2]) (rest := []) hqj cC_j cls4 (c_X4_payBack (D := D) (ad := ad) (V := V) l _ hl0 S p1 p2) (cwV 2 B.1.2.2.2.2 gL_payBack_X4_payBack rfl rfl rfl hd_X4_payBack ⟨Nat.le_of_ble_eq_true rfl, Nat.le_of_ble_eq_true rfl⟩) rfl hls (Nat.le_of_ble_eq_true rfl) dL_payBack_3 ⟨Nat.le_of_ble_eq_true rfl, Nat.le_of_ble_eq_true rfl⟩) hW.2.2.1 (fun q _ h => aW_A hW q h) (aW_A hW) (fun q _ h => aW_A hW q h) (fun E ce q9 u t H1 locs1 ht _ _ hB _ _ hS hce hcv hcl => ?_) (fun r u t H1 locs1 ht _ hp hB _ _ hS => ?_)
  · have hW := hW.back (aW_A hW) ht hB.2 hS
    obtain ⟨k, v, hk, hn, he⟩ := hB.1
    rw [← he] at hok
    rcases hok with ⟨q, _⟩ | ⟨q1, q2⟩
    · exact absurd q hk
    · have q1 : k = 1 := q1
      have q2 : u = S := q2
      subst q1
      have hn : "java/lang/IllegalStateException" = E := hn
      subst hn
      refine vx_catch (own := RL) (name := "java/lang/IllegalStateException") B.1.2.2.2.1 [] (⟨0, 6, 7, 21⟩ : ExceptionTableEntry) [] htab (fun z hz => absurd hz List.not_mem_nil) (by decide) (by decide) (B.1.2.2.2.2 (.classLink RL 21 "java/lang/IllegalStateException") (by decide +kernel)) (va_Nw.use rfl (hE.2.2.2.1 _ (by decide))) hce hcv hcl ?_
      refine lv_astore_n (lv' := [(3, .ref q9), (0, .ref (ad jO)), (1, .int p1), (2, .int p2)]) hx hb dL_payBack_7 rfl hl (by decide) rfl (fun ls hl => ?_)
      have hls := hl.1
      refine lv_bipush (v := (-3)) hx hb dL_payBack_8 (by decide) ?_
      exact x_end ⟨Nat.le_of_ble_eq_true rfl, Nat.le_of_ble_eq_true rfl⟩ (x_iret B hW (Or.inr q2) dL_payBack_10)
  · have hW := hW.back (aW_A hW) ht hB hS
    rw [← hp] at hok
    rcases hok with ⟨_, q2, q3⟩ | ⟨q1, _⟩
    · exact x_end ⟨Nat.le_of_ble_eq_true rfl, Nat.le_of_ble_eq_true rfl⟩ (x_iret B hW (Or.inl ⟨q2, q3⟩) dL_payBack_6)
    · exact absurd (show (0 : Nat) = 1 from q1) (by decide)
theorem hd_L_help : yL_help.cls = RL ∧ yL_help.cls ≠ "java/lang/invoke/MethodHandle" ∧ yL_help.cls ≠ "java/lang/invoke/VarHandle" ∧ (parseMethodDescriptor yL_help.desc).map (fun d => d.parameters.length) = some 3 := by decide +kernel
theorem h_L_help {D : va_G} {ad : Nat → Nat} {V : vE} (l : Launch) (sz : Nat) (hl0 : l.stackTraces = false) (S : vS) {cy : Int} (p1 : Int32) (p2 : Int32) (hok : OKs cy S (x_X4_help S p1 p2)) : vx_Met l yL_help wsL_help (rmX 8 3) (pE D 157 (cC D ad) ad sz V S [.ref (ad jO), .int p1, .int p2]) (va_Qi (fun (r : Int32) (S1 : vS) => SO cy S r S1) (bW D 157 (cC D ad) ad (aW 157 ad sz)) (aW 157 ad sz)) (xX D 157 (cC D ad) ad (aW 157 ad sz) (fun _ _ => False)) 3 18 (aW 157 ad sz) := by
  refine x_metT (own := RL) (cc := cL_help) (maxL := 4) (ret := (some .int)) (hh := [(0, 6, 7, 21)]) (Qc := fun A => va_Qi (fun (r : Int32) (S1 : vS) => SO cy S r S1) (bW D 157 (cC D ad) ad A) A) (XC := fun A => xX D 157 (cC D ad) ad A (fun _ _ => False)) rfl ⟨by decide +kernel, rfl, Nat.le_of_ble_eq_true rfl⟩ ?_
  intro p e s mm args below meth c A ls B htab hW hE hl hls
  have hx := B.1.1
  have hb := B.1.2.1
  have hl : lv_has ls 4 [(0, .ref (ad jO)), (1, .int p1), (2, .int p2)] := hl
  refine lv_aload_n hx hb dL_help_0 rfl (lv_at hl 0 rfl) ?_
  refine lv_iload_n hx hb dL_help_1 rfl (lv_at hl 1 rfl) ?_
  refine lv_iload_n hx hb dL_help_2 rfl (lv_at hl 2 rfl) ?_
  refine vx_calli (x_runVX B hW hE (As := [.int p1, .int p2]) (rest := []) hqj cC_j cls4 (c_X4_help (D := D) (ad := ad) (V := V) l _ hl0 S p1 p2) (cwV 2 B.1.2.2.2.2 gL_help_X4_help rfl rfl rfl hd_X4_help ⟨Nat.le_of_ble_eq_true rfl, Nat.le_of_ble_eq_true rfl⟩) rfl hls (Nat.le_of_ble_eq_true rfl) dL_help_3 ⟨Nat.le_of_ble_eq_true rfl, Nat.le_of_ble_eq_true rfl⟩) hW.2.2.1 (fun q _ h => aW_A hW q h) (aW_A hW) (fun q _ h => aW_A hW q h) (fun E ce q9 u t H1 locs1 ht _ _ hB _ _ hS hce hcv hcl => ?_) (fun r u t H1 locs1 ht _ hp hB _ _ hS => ?_)
  · have hW := hW.back (aW_A hW) ht hB.2 hS
    obtain ⟨k, v, hk, hn, he⟩ := hB.1
    rw [← he] at hok
    rcases hok with ⟨q, _⟩ | ⟨q1, q2⟩
    · exact absurd q hk
    · have q1 : k = 1 := q1
      have q2 : u = S := q2
      subst q1
      have hn : "java/lang/IllegalStateException" = E := hn
      subst hn
      refine vx_catch (own := RL) (name := "java/lang/IllegalStateException") B.1.2.2.2.1 [] (⟨0, 6, 7, 21⟩ : ExceptionTableEntry) [] htab (fun z hz => absurd hz List.not_mem_nil) (by decide) (by decide) (B.1.2.2.2.2 (.classLink RL 21 "java/lang/IllegalStateException") (by decide +kernel)) (va_Nw.use rfl (hE.2.2.2.1 _ (by decide))) hce hcv hcl ?_
      refine lv_astore_n (lv' := [(3, .ref q9), (0, .ref (ad jO)), (1, .int p1), (2, .int p2)]) hx hb dL_help_7 rfl hl (by decide) rfl (fun ls hl => ?_)
      have hls := hl.1
      refine lv_bipush (v := (-3)) hx hb dL_help_8 (by decide) ?_
      exact x_end ⟨Nat.le_of_ble_eq_true rfl, Nat.le_of_ble_eq_true rfl⟩ (x_iret B hW (Or.inr q2) dL_help_10)
  · have hW := hW.back (aW_A hW) ht hB hS
    rw [← hp] at hok
    rcases hok with ⟨_, q2, q3⟩ | ⟨q1, _⟩
    · exact x_end ⟨Nat.le_of_ble_eq_true rfl, Nat.le_of_ble_eq_true rfl⟩ (x_iret B hW (Or.inl ⟨q2, q3⟩) dL_help_6)
    · exact absurd (show (0 : Nat) = 1 from q1) (by decide)
theorem hd_L_cycle : yL_cycle.cls = RL ∧ yL_cycle.cls ≠ "java/lang/invoke/MethodHandle" ∧ yL_cycle.cls ≠ "java/lang/invoke/VarHandle" ∧ (parseMethodDescriptor yL_cycle.desc).map (fun d => d.parameters.length) = some 1 := by decide +kernel
theorem h_L_cycle {D : va_G} {ad : Nat → Nat} {V : vE} (l : Launch) (sz : Nat) (hl0 : l.stackTraces = false) (S : vS) {cy : Int} (hok : OKs cy S (x_X4_cycle S)) : vx_Met l yL_cycle wsL_cycle (rmX 7 1) (pE D 157 (cC D ad) ad sz V S [.ref (ad jO)]) (va_Qi (fun (r : Int32) (S1 : vS) => SO cy S r S1) (bW D 157 (cC D ad) ad (aW 157 ad sz)) (aW 157 ad sz)) (xX D 157 (cC D ad) ad (aW 157 ad sz) (fun _ _ => False)) 1 6 (aW 157 ad sz) := by
  refine x_metT (own := RL) (cc := cL_cycle) (maxL := 2) (ret := (some .int)) (hh := [(0, 4, 5, 21)]) (Qc := fun A => va_Qi (fun (r : Int32) (S1 : vS) => SO cy S r S1) (bW D 157 (cC D ad) ad A) A) (XC := fun A => xX D 157 (cC D ad) ad A (fun _ _ => False)) rfl ⟨by decide +kernel, rfl, Nat.le_of_ble_eq_true rfl⟩ ?_
  intro p e s mm args below meth c A ls B htab hW hE hl hls
  have hx := B.1.1
  have hb := B.1.2.1
  have hl : lv_has ls 2 [(0, .ref (ad jO))] := hl
  refine lv_aload_n hx hb dL_cycle_0 rfl (lv_at hl 0 rfl) ?_
  refine vx_calli (x_runVX B hW hE (As := []) (rest := []) hqj cC_j cls4 (c_X4_cycle (D := D) (ad := ad) (V := V) l _ hl0 S) (cwV 0 B.1.2.2.2.2 gL_cycle_X4_cycle rfl rfl rfl hd_X4_cycle ⟨Nat.le_of_ble_eq_true rfl, Nat.le_of_ble_eq_true rfl⟩) rfl hls (Nat.le_of_ble_eq_true rfl) dL_cycle_1 ⟨Nat.le_of_ble_eq_true rfl, Nat.le_of_ble_eq_true rfl⟩) hW.2.2.1 (fun q _ h => aW_A hW q h) (aW_A hW) (fun q _ h => aW_A hW q h) (fun E ce q9 u t H1 locs1 ht _ _ hB _ _ hS hce hcv hcl => ?_) (fun r u t H1 locs1 ht _ hp hB _ _ hS => ?_)
  · have hW := hW.back (aW_A hW) ht hB.2 hS
    obtain ⟨k, v, hk, hn, he⟩ := hB.1
    rw [← he] at hok
    rcases hok with ⟨q, _⟩ | ⟨q1, q2⟩
    · exact absurd q hk
    · have q1 : k = 1 := q1
      have q2 : u = S := q2
      subst q1
      have hn : "java/lang/IllegalStateException" = E := hn
      subst hn
      refine vx_catch (own := RL) (name := "java/lang/IllegalStateException") B.1.2.2.2.1 [] (⟨0, 4, 5, 21⟩ : ExceptionTableEntry) [] htab (fun z hz => absurd hz List.not_mem_nil) (by decide) (by decide) (B.1.2.2.2.2 (.classLink RL 21 "java/lang/IllegalStateException") (by decide +kernel)) (va_Nw.use rfl (hE.2.2.2.1 _ (by decide))) hce hcv hcl ?_
      refine lv_astore_n (lv' := [(1, .ref q9), (0, .ref (ad jO))]) hx hb dL_cycle_5 rfl hl (by decide) rfl (fun ls hl => ?_)
      have hls := hl.1
      refine lv_bipush (v := (-3)) hx hb dL_cycle_6 (by decide) ?_
      exact x_end ⟨Nat.le_of_ble_eq_true rfl, Nat.le_of_ble_eq_true rfl⟩ (x_iret B hW (Or.inr q2) dL_cycle_8)
  · have hW := hW.back (aW_A hW) ht hB hS
    rw [← hp] at hok
    rcases hok with ⟨_, q2, q3⟩ | ⟨q1, _⟩
    · exact x_end ⟨Nat.le_of_ble_eq_true rfl, Nat.le_of_ble_eq_true rfl⟩ (x_iret B hW (Or.inl ⟨q2, q3⟩) dL_cycle_4)
    · exact absurd (show (0 : Nat) = 1 from q1) (by decide)
theorem hd_L_undo : yL_undo.cls = RL ∧ yL_undo.cls ≠ "java/lang/invoke/MethodHandle" ∧ yL_undo.cls ≠ "java/lang/invoke/VarHandle" ∧ (parseMethodDescriptor yL_undo.desc).map (fun d => d.parameters.length) = some 1 := by decide +kernel
theorem h_L_undo {D : va_G} {ad : Nat → Nat} {V : vE} (l : Launch) (sz : Nat) (hl0 : l.stackTraces = false) (S : vS) {cy : Int} (hok : OKs cy S (x_X4_undo S)) : vx_Met l yL_undo wsL_undo (rmX 7 1) (pE D 157 (cC D ad) ad sz V S [.ref (ad jO)]) (va_Qi (fun (r : Int32) (S1 : vS) => SO cy S r S1) (bW D 157 (cC D ad) ad (aW 157 ad sz)) (aW 157 ad sz)) (xX D 157 (cC D ad) ad (aW 157 ad sz) (fun _ _ => False)) 1 6 (aW 157 ad sz) := by
  refine x_metT (own := RL) (cc := cL_undo) (maxL := 2) (ret := (some .int)) (hh := [(0, 4, 5, 21)]) (Qc := fun A => va_Qi (fun (r : Int32) (S1 : vS) => SO cy S r S1) (bW D 157 (cC D ad) ad A) A) (XC := fun A => xX D 157 (cC D ad) ad A (fun _ _ => False)) rfl ⟨by decide +kernel, rfl, Nat.le_of_ble_eq_true rfl⟩ ?_
  intro p e s mm args below meth c A ls B htab hW hE hl hls
  have hx := B.1.1
  have hb := B.1.2.1
  have hl : lv_has ls 2 [(0, .ref (ad jO))] := hl
  refine lv_aload_n hx hb dL_undo_0 rfl (lv_at hl 0 rfl) ?_
  refine vx_calli (x_runVX B hW hE (As := []) (rest := []) hqj cC_j cls4 (c_X4_undo (D := D) (ad := ad) (V := V) l _ hl0 S) (cwV 0 B.1.2.2.2.2 gL_undo_X4_undo rfl rfl rfl hd_X4_undo ⟨Nat.le_of_ble_eq_true rfl, Nat.le_of_ble_eq_true rfl⟩) rfl hls (Nat.le_of_ble_eq_true rfl) dL_undo_1 ⟨Nat.le_of_ble_eq_true rfl, Nat.le_of_ble_eq_true rfl⟩) hW.2.2.1 (fun q _ h => aW_A hW q h) (aW_A hW) (fun q _ h => aW_A hW q h) (fun E ce q9 u t H1 locs1 ht _ _ hB _ _ hS hce hcv hcl => ?_) (fun r u t H1 locs1 ht _ hp hB _ _ hS => ?_)
  · have hW := hW.back (aW_A hW) ht hB.2 hS
    obtain ⟨k, v, hk, hn, he⟩ := hB.1
    rw [← he] at hok
    rcases hok with ⟨q, _⟩ | ⟨q1, q2⟩
    · exact absurd q hk
    · have q1 : k = 1 := q1
      have q2 : u = S := q2
      subst q1
      have hn : "java/lang/IllegalStateException" = E := hn
      subst hn
      refine vx_catch (own := RL) (name := "java/lang/IllegalStateException") B.1.2.2.2.1 [] (⟨0, 4, 5, 21⟩ : ExceptionTableEntry) [] htab (fun z hz => absurd hz List.not_mem_nil) (by decide) (by decide) (B.1.2.2.2.2 (.classLink RL 21 "java/lang/IllegalStateException") (by decide +kernel)) (va_Nw.use rfl (hE.2.2.2.1 _ (by decide))) hce hcv hcl ?_
      refine lv_astore_n (lv' := [(1, .ref q9), (0, .ref (ad jO))]) hx hb dL_undo_5 rfl hl (by decide) rfl (fun ls hl => ?_)
      have hls := hl.1
      refine lv_bipush (v := (-3)) hx hb dL_undo_6 (by decide) ?_
      exact x_end ⟨Nat.le_of_ble_eq_true rfl, Nat.le_of_ble_eq_true rfl⟩ (x_iret B hW (Or.inr q2) dL_undo_8)
  · have hW := hW.back (aW_A hW) ht hB hS
    rw [← hp] at hok
    rcases hok with ⟨_, q2, q3⟩ | ⟨q1, _⟩
    · exact x_end ⟨Nat.le_of_ble_eq_true rfl, Nat.le_of_ble_eq_true rfl⟩ (x_iret B hW (Or.inl ⟨q2, q3⟩) dL_undo_4)
    · exact absurd (show (0 : Nat) = 1 from q1) (by decide)
theorem hd_L_isMember : yL_isMember.cls = RL ∧ yL_isMember.cls ≠ "java/lang/invoke/MethodHandle" ∧ yL_isMember.cls ≠ "java/lang/invoke/VarHandle" ∧ (parseMethodDescriptor yL_isMember.desc).map (fun d => d.parameters.length) = some 2 := by decide +kernel
theorem h_L_isMember {D : va_G} {ad : Nat → Nat} {V : vE} (l : Launch) (sz : Nat) (hl0 : l.stackTraces = false) (S : vS) {cy : Int} (hrx : RX cy S) (k : Nat) (hk8 : k < 8) : vx_Met l yL_isMember wsL_isMember (rmX 8 2) (pE D 157 (cC D ad) ad sz V S [.ref (ad jO), .int (nI k)]) (va_Qi (fun (r : Int32) (S1 : vS) => r = (if cv S 0 (13 + 14 * k + 0) = 0 then (0 : Int32) else 1) ∧ S1 = S) (bW D 157 (cC D ad) ad (aW 157 ad sz)) (aW 157 ad sz)) (xX D 157 (cC D ad) ad (aW 157 ad sz) (fun _ _ => False)) 2 12 (aW 157 ad sz) := by
  refine x_metT (own := RL) (cc := cL_isMember) (maxL := 3) (ret := (some .boolean)) (hh := [(0, 14, 15, 15)]) (Qc := fun A => va_Qi (fun (r : Int32) (S1 : vS) => r = (if cv S 0 (13 + 14 * k + 0) = 0 then (0 : Int32) else 1) ∧ S1 = S) (bW D 157 (cC D ad) ad A) A) (XC := fun A => xX D 157 (cC D ad) ad A (fun _ _ => False)) rfl ⟨by decide +kernel, rfl, Nat.le_of_ble_eq_true rfl⟩ ?_
  intro p e s mm args below meth c A ls B htab hW hE hl hls
  have hx := B.1.1
  have hb := B.1.2.1
  have hl : lv_has ls 3 [(0, .ref (ad jO)), (1, .int (nI k))] := hl
  refine lv_aload_n hx hb dL_isMember_0 rfl (lv_at hl 0 rfl) ?_
  refine lv_iload_n hx hb dL_isMember_1 rfl (lv_at hl 1 rfl) ?_
  refine lv_iconst (v := 0) hx hb dL_isMember_2 (by decide) ?_
  refine vx_calli (x_runVX B hW hE (As := [.int (nI k), .int 0]) (rest := []) hqj cC_j cls4 (c_X4_member (D := D) (ad := ad) (V := V) l _ hl0 S (nI k) 0) (cwV 2 B.1.2.2.2.2 gL_isMember_X4_member rfl rfl rfl hd_X4_member ⟨Nat.le_of_ble_eq_true rfl, Nat.le_of_ble_eq_true rfl⟩) rfl hls (Nat.le_of_ble_eq_true rfl) dL_isMember_3 ⟨Nat.le_of_ble_eq_true rfl, Nat.le_of_ble_eq_true rfl⟩) hW.2.2.1 (fun q _ h => aW_A hW q h) (aW_A hW) (fun q _ h => aW_A hW q h) (fun E ce q9 u t H1 locs1 ht _ _ hB _ _ hS hce hcv hcl => ?_) (fun r u t H1 locs1 ht _ hp hB _ _ hS => ?_)
  · have hW := hW.back (aW_A hW) ht hB.2 hS
    obtain ⟨⟨k9, v, hk, hn, he⟩, hu⟩ := hB.1
    by_cases hh : cv S 0 (13 + 14 * k + 0) = 0
    · rw [rd_no hk8 hh] at he
      have q1 : k9 = 2 := (Prod.mk.inj he).1
      subst q1
      have hn : "java/lang/IndexOutOfBoundsException" = E := hn
      subst hn
      refine vx_catch (own := RL) (name := "java/lang/IndexOutOfBoundsException") B.1.2.2.2.1 [] (⟨0, 14, 15, 15⟩ : ExceptionTableEntry) [] htab (fun z hz => absurd hz List.not_mem_nil) (by decide) (by decide) (B.1.2.2.2.2 (.classLink RL 15 "java/lang/IndexOutOfBoundsException") (by decide +kernel)) (va_Nw.use rfl (hE.2.2.2.1 _ (by decide))) hce hcv hcl ?_
      refine lv_astore_n (lv' := [(2, .ref q9), (0, .ref (ad jO)), (1, .int (nI k))]) hx hb dL_isMember_15 rfl hl (by decide) rfl (fun ls hl => ?_)
      have hls := hl.1
      refine lv_iconst (v := 0) hx hb dL_isMember_16 (by decide) ?_
      exact x_end ⟨Nat.le_of_ble_eq_true rfl, Nat.le_of_ble_eq_true rfl⟩ (x_zret B hW (Or.inl rfl) ⟨by rw [if_pos hh], hu⟩ dL_isMember_17)
    · exfalso
      have hr := rd (q := 0) hk8 hh (by decide)
      rw [show nI 0 = (0 : Int32) from rfl] at hr
      rw [hr] at he
      exact hk (Prod.mk.inj he).1
  · have hW := hW.back (aW_A hW) ht hB hS
    obtain ⟨hp, hu⟩ := hp
    by_cases hh : cv S 0 (13 + 14 * k + 0) = 0
    · exfalso
      rw [rd_no hk8 hh] at hp
      exact absurd (Prod.mk.inj hp).1 (by decide)
    · have hr := rd (q := 0) hk8 hh (by decide)
      rw [show nI 0 = (0 : Int32) from rfl] at hr
      rw [hr] at hp
      have er : r = cv S 0 (13 + 14 * k + 1) := (Prod.mk.inj hp).2
      have hlim := (hrx.2.1.1.2.1 k hk8 hh).1
      have n0 : ¬ r < 0 := by rw [Int32.lt_iff_toInt_lt, z32, er]; omega
      refine lv_if_lt (tgt := 13) hx hb dL_isMember_6 (by decide) (fun q => absurd q n0) (fun _ => ?_)
      refine lv_iconst (v := 1) hx hb dL_isMember_9 (by decide) ?_
      refine lv_goto (tgt := 14) hx hb dL_isMember_10 (by decide) ?_
      exact x_end ⟨Nat.le_of_ble_eq_true rfl, Nat.le_of_ble_eq_true rfl⟩ (x_zret B hW (Or.inr rfl) ⟨by rw [if_neg hh], hu⟩ dL_isMember_14)
end DHELP
