section P25_mdigest
def x_X5_digest_L310 : Nat → vS → Nat → Int64 → (Int64 × vS)
  | 0, S, _, _ => (0, S)
  | n + 1, S, n3, v1 => if (S 0 5) ≤ (nI n3) then (v1, S) else nm (((31 * v1) + (S 4 n3).toInt64)) (fun x_331 => x_X5_digest_L310 n S ((n3 + 1)) (x_331))
def x_X5_digest_L218 : Nat → vS → Nat → Nat → Int64 → (Int64 × vS)
  | 0, S, _, _, _ => (0, S)
  | n + 1, S, n4, n3, v1 => if 5 ≤ (nI n4) then (v1, S) else if 2 ≤ (nI n3) then nmp (x_X5_bringsBy S 255 (nI n4)) (fun r_244 S_244 => nm (((31 * v1) + r_244.toInt64)) (fun x_249 => x_X5_digest_L218 n S_244 ((n4 + 1)) (n3) (x_249))) else nmp (x_X5_bringsBy S (nI n3) (nI n4)) (fun r_244 S_244 => nm (((31 * v1) + r_244.toInt64)) (fun x_249 => x_X5_digest_L218 n S_244 ((n4 + 1)) (n3) (x_249)))
def x_X5_digest_L210 : Nat → vS → Nat → Int64 → (Int64 × vS)
  | 0, S, _, _ => (0, S)
  | n + 1, S, n3, v1 => if 3 ≤ (nI n3) then nmp (x_X5_weakestOf S) (fun r_271 S_271 => nm (x_X5_longest S_271) (fun r_278 => nm (((31 * ((31 * v1) + r_271.toInt64)) + r_278.toInt64)) (fun x_283 => nm (x_X5_share S_271) (fun r_293 => nm (x_Jxe99ae_doubleToLongBits_ccdee S_271 r_293) (fun r_296 => nm (((31 * ((31 * x_283) + r_296)) + (S_271 0 5).toInt64)) (fun x_307 => x_X5_digest_L310 (61) S_271 (0) (x_307))))))) else nmp (x_X5_digest_L218 (6) S (0) (n3) (v1)) (fun h_218 S_218 => x_X5_digest_L210 n S_218 ((n3 + 1)) (h_218))
def x_X5_digest_L98 : Nat → vS → Nat → Int64 → Nat → (Int64 × vS)
  | 0, S, _, _, _ => (0, S)
  | n + 1, S, n4, v1, n3 => if 14 ≤ (nI n4) then (v1, S) else nm (x_X5_ofMember S (nI n3) (nI n4)) (fun r_114 => nm (((31 * v1) + r_114.toInt64)) (fun x_119 => x_X5_digest_L98 n S ((n4 + 1)) (x_119) (n3)))
def x_X5_digest_L129 : Nat → vS → Nat → Int64 → Nat → (Int64 × vS)
  | 0, S, _, _, _ => (0, S)
  | n + 1, S, n4, v1, n3 => if 8 ≤ (nI n4) then (v1, S) else nm (x_X5_of S 1 (nI n4) 0) (fun r_143 => if r_143 = 1 then nm (x_X5_debt S 1 (nI n3) (nI n4)) (fun r_162 => nm (((31 * v1) + r_162.toInt64)) (fun x_171 => x_X5_digest_L129 n S ((n4 + 1)) (x_171) (n3))) else x_X5_digest_L129 n S ((n4 + 1)) (v1) (n3))
def x_X5_digest_L67 : Nat → vS → Nat → Int64 → (Int64 × vS)
  | 0, S, _, _ => (0, S)
  | n + 1, S, n3, v1 => if 8 ≤ (nI n3) then x_X5_digest_L210 (4) S (0) (v1) else nm (x_X5_of S 1 (nI n3) 0) (fun r_79 => if r_79 = 1 then nm (((31 * v1) + (nI n3).toInt64)) (fun x_94 => nmp (x_X5_digest_L98 (15) S (0) (x_94) (n3)) (fun h_98 S_98 => nmp (x_X5_digest_L129 (9) S_98 (0) (h_98) (n3)) (fun h_129 S_129 => nmp (x_X5_lasts S_129 (nI n3)) (fun r_188 S_188 => nm (x_X5_limitThen S_188 (nI n3)) (fun r_196 => nm (((31 * ((31 * h_129) + r_188.toInt64)) + r_196.toInt64)) (fun x_201 => x_X5_digest_L67 n S_188 ((n3 + 1)) (x_201))))))) else x_X5_digest_L67 n S ((n3 + 1)) (v1))
def x_X5_digest_L38 : Nat → vS → Nat → Int64 → (Int64 × vS)
  | 0, S, _, _ => (0, S)
  | n + 1, S, n3, v1 => if 4 ≤ (nI n3) then x_X5_digest_L67 (9) S (0) (v1) else nm (((31 * v1) + (S 1 (4 + n3)).toInt64)) (fun x_58 => x_X5_digest_L38 n S ((n3 + 1)) (x_58))
def x_X5_digest_L11 : Nat → vS → Nat → Int64 → (Int64 × vS)
  | 0, S, _, _ => (0, S)
  | n + 1, S, n3, v1 => if 16 ≤ (nI n3) then x_X5_digest_L38 (5) S (0) (v1) else nm (x_X5_counted S (nI n3)) (fun r_24 => nm (((31 * v1) + r_24.toInt64)) (fun x_29 => x_X5_digest_L11 n S ((n3 + 1)) (x_29)))
def x_X5_digest (S : vS) : (Int64 × vS) := nm (st S 0 6 0) (fun S_2 => x_X5_digest_L11 (17) S_2 (0) (2713))
theorem lf_d218 : ∀ (n : Nat) (S S0 : vS) (n4 n3 : Nat) (v : Int64), LF S0 S → LF S0 (x_X5_digest_L218 n S n4 n3 v).2 := by
  intro n
  induction n with
  | zero => intro S S0 n4 n3 v h; exact h
  | succ n ih =>
    intro S S0 n4 n3 v h
    rw [x_X5_digest_L218]
    simp only [nm_eq, nmp_eq]
    repeat' split
    all_goals first | (with_reducible exact h) | (with_reducible exact ih _ _ _ _ _ (lf_bringsBy h))
theorem d98_S : ∀ (n : Nat) (S : vS) (n4 : Nat) (v : Int64) (n3 : Nat), (x_X5_digest_L98 n S n4 v n3).2 = S := by
  intro n
  induction n with
  | zero => intros; rfl
  | succ n ih =>
    intro S n4 v n3
    rw [x_X5_digest_L98]
    simp only [nm_eq, nmp_eq]
    repeat' split
    all_goals first | rfl | exact ih _ _ _ _
theorem d129_S : ∀ (n : Nat) (S : vS) (n4 : Nat) (v : Int64) (n3 : Nat), (x_X5_digest_L129 n S n4 v n3).2 = S := by
  intro n
  induction n with
  | zero => intros; rfl
  | succ n ih =>
    intro S n4 v n3
    rw [x_X5_digest_L129]
    simp only [nm_eq, nmp_eq]
    repeat' split
    all_goals first | rfl | exact ih _ _ _ _
theorem hd_X5_digest : yX5_digest.cls = RX5 ∧ yX5_digest.cls ≠ "java/lang/invoke/MethodHandle" ∧ yX5_digest.cls ≠ "java/lang/invoke/VarHandle" ∧ (parseMethodDescriptor yX5_digest.desc).map (fun d => d.parameters.length) = some 0 := by decide +kernel
set_option maxHeartbeats 4000000 in
set_option maxRecDepth 100000 in
theorem w_X5_digest_L310 {D : va_G} {ad : Nat → Nat} (l : Launch) {p : Program} {e : Env} {s : State} {mm : MethodId} {args : Array Value} {below : List Frame} {meth : Method} {c : Code} {A : Nat → Prop} (B : Cx p mm c cX5_digest 5 s args wsX5_digest RX5 meth (some .long) D) (z : (Int64 × vS)) : ∀ (n : Nat) (n3 : Nat) (v1 : Int64) (S : vS) (H : Heap) (locs : List Loc) (ls : Array Slot), n3 ≤ 60 → n3 + n = 61 → vp_in (S 0 5) 61 → Wd D 7 (cM D ad) ad A s.heap S H locs → lv_has ls 5 [(3, .int (nI n3)), (1, .long v1), (0, .ref (ad 0))] → ls.size = 5 → z = x_X5_digest_L310 n S n3 v1 → W p l e (rmD 7) s mm args below meth c H locs 0 0 (MQ below (va_Ql (fun (r : Int64) (S1 : vS) => (r, S1) = z) (bW D 7 (cM D ad) ad A) A) args s 0 0 A) (F0 mm 310 ls []) := by
  have hx := B.1.1
  have hb := B.1.2.1
  have hin_X5 : ∀ w ∈ wsX50, w ∈ wsX5_digest := fun w h => List.mem_cons_of_mem _ (List.mem_append_right _ h)
  have k_145 := B.1.2.2.2.2 (.fieldLink RX5 145 "JointLoansModel" "typed" "I") (by decide +kernel)
  have k_19 := B.1.2.2.2.2 (.fieldLink RX5 19 "JointLoansModel" "text" "[I") (by decide +kernel)
  have k_28 := B.1.2.2.2.2 (.fieldLink RX5 28 "JointLoansModel" "thrown" "I") (by decide +kernel)
  have k_7 := B.1.2.2.2.2 (.fieldLink RX5 7 "JointLoansModel" "now" "[I") (by decide +kernel)
  have kk_235 := B.1.2.2.2.2 (.constantLong RX5 235 2713) (by decide +kernel)
  have kk_237 := B.1.2.2.2.2 (.constantLong RX5 237 31) (by decide +kernel)
  intro n
  induction n with
  | zero =>
    intro n3 v1 S H locs ls hle hsum hty
    omega
  | succ n ih =>
    intro n3 v1 S H locs ls hle hsum hty hW hl hls zk
    have zk := zk.trans (x_X5_digest_L310.eq_2 _ _ _ _ )
    refine lv_iload_n hx hb dX5_digest_310 rfl (lv_at hl 0 rfl) ?_
    refine lv_aload_n hx hb dX5_digest_311 rfl (lv_at hl 2 rfl) ?_
    refine x_get B hW (by decide) cM_o cls5 hin_X5 5 (by decide) (v := .int (S 0 5)) rfl k_145 dX5_digest_312 ?_
    refine lv_icmp_ge (tgt := 338) hx hb dX5_digest_315 (by decide) (fun c_315 => ?_) (fun c_315 => ?_)
    · have zk := zk.trans (if_pos c_315)
      refine lv_lload_n hx hb dX5_digest_338 rfl (lv_at hl 1 rfl) ?_
      exact x_lret B hW zk.symm dX5_digest_339
    · have zk := zk.trans (if_neg c_315)
      have hb60 : n3 < 60 := lt60 hty c_315 hle
      refine lv_ldc2 (v := 31) hx hb B.1.2.2.2.1 kk_237 dX5_digest_318 ?_
      refine lv_lload_n hx hb dX5_digest_321 rfl (lv_at hl 1 rfl) ?_
      refine lv_lmul hx hb dX5_digest_322 ?_
      refine lv_aload_n hx hb dX5_digest_323 rfl (lv_at hl 2 rfl) ?_
      refine x_get B hW (by decide) cM_o cls5 hin_X5 4 (by decide) (v := .ref (ad 4)) rfl k_19 dX5_digest_324 ?_
      refine lv_iload_n hx hb dX5_digest_327 rfl (lv_at hl 0 rfl) ?_
      refine x_iald B hW (by decide) cM_4 (isN_nI hb60 (by decide)) (by decide) (by decide) dX5_digest_328 ?_
      refine lv_i2l hx hb dX5_digest_329 rfl ?_
      refine lv_ladd hx hb dX5_digest_330 ?_
      refine lv_topl (fun x_331 ex_331 => ?_)
      have zk := nm_at zk ex_331
      refine lv_lstore_n (lv' := [(1, .long x_331), (3, .int (nI n3)), (0, .ref (ad 0))]) hx hb dX5_digest_331 rfl hl (by decide) rfl (fun ls hl => ?_)
      have hls := hl.1
      refine lv_iinc (v := (nI (n3 + 1))) (lv' := [(3, .int (nI (n3 + 1))), (1, .long x_331), (0, .ref (ad 0))]) hx hb dX5_digest_332 hl (k := 1) rfl (nI_1 _) (by decide) rfl (fun ls hl => ?_)
      have hls := hl.1
      refine lv_goto (tgt := 310) hx hb dX5_digest_335 (by decide) ?_
      exact ih ((n3 + 1)) (x_331) S _ _ _ (show (n3 + 1) ≤ 60 by omega) (show (n3 + 1) + n = 61 by omega) hty hW (lv_sub hl [0, 1, 2] rfl) hls zk
set_option maxHeartbeats 4000000 in
set_option maxRecDepth 100000 in
theorem w_X5_digest_L218 {D : va_G} {ad : Nat → Nat} (l : Launch) {p : Program} {e : Env} {s : State} {mm : MethodId} {args : Array Value} {below : List Frame} {meth : Method} {c : Code} {A : Nat → Prop} {Q : State → Prop} (B : Cx p mm c cX5_digest 5 s args wsX5_digest RX5 meth (some .long) D) (z : (Int64 × vS)) : ∀ (n : Nat) (n4 : Nat) (n3 : Nat) (v1 : Int64) (S : vS) (H : Heap) (locs : List Loc) (ls : Array Slot), n4 ≤ 5 → n4 + n = 6 → n3 < 3 → chairOK (S 1 2) → ¬ (S 1 6) = 0 → vp_in (S 0 5) 61 → Wd D 7 (cM D ad) ad A s.heap S H locs → lv_has ls 5 [(4, .int (nI n4)), (3, .int (nI n3)), (1, .long v1), (0, .ref (ad 0))] → ls.size = 5 → z = x_X5_digest_L218 n S n4 n3 v1 → (∀ (v' : Int64) (S' : vS) (H : Heap) (locs : List Loc) (ls : Array Slot), Wd D 7 (cM D ad) ad A s.heap S' H locs → lv_has ls 5 [(3, .int (nI n3)), (1, .long v'), (0, .ref (ad 0))] → ls.size = 5 → (v', S') = z → W p l e (rmD 7) s mm args below meth c H locs 0 0 Q (F0 mm 256 ls [])) → W p l e (rmD 7) s mm args below meth c H locs 0 0 Q (F0 mm 218 ls []) := by
  have hx := B.1.1
  have hb := B.1.2.1
  have hin_X5 : ∀ w ∈ wsX50, w ∈ wsX5_digest := fun w h => List.mem_cons_of_mem _ (List.mem_append_right _ h)
  have k_145 := B.1.2.2.2.2 (.fieldLink RX5 145 "JointLoansModel" "typed" "I") (by decide +kernel)
  have k_19 := B.1.2.2.2.2 (.fieldLink RX5 19 "JointLoansModel" "text" "[I") (by decide +kernel)
  have k_28 := B.1.2.2.2.2 (.fieldLink RX5 28 "JointLoansModel" "thrown" "I") (by decide +kernel)
  have k_7 := B.1.2.2.2.2 (.fieldLink RX5 7 "JointLoansModel" "now" "[I") (by decide +kernel)
  have kk_235 := B.1.2.2.2.2 (.constantLong RX5 235 2713) (by decide +kernel)
  have kk_237 := B.1.2.2.2.2 (.constantLong RX5 237 31) (by decide +kernel)
  intro n
  induction n with
  | zero =>
    intro n4 n3 v1 S H locs ls hle hsum hc_n3 hch hs6 hty
    omega
  | succ n ih =>
    intro n4 n3 v1 S H locs ls hle hsum hc_n3 hch hs6 hty hW hl hls zk kk
    have zk := zk.trans (x_X5_digest_L218.eq_2 _ _ _ _ _ )
    refine lv_iload hx hb dX5_digest_218 (lv_at hl 0 rfl) ?_
    refine lv_iconst (v := 5) hx hb dX5_digest_220 (by decide) ?_
    refine lv_icmp_ge (tgt := 256) hx hb dX5_digest_221 (by decide) (fun c_221 => ?_) (fun c_221 => ?_)
    · have zk := zk.trans (if_pos c_221)
      exact kk v1 S _ _ _ hW (lv_sub hl [1, 2, 3] rfl) hls zk.symm
    · have zk := zk.trans (if_neg c_221)
      have hb_c_221 : n4 < 5 := nI_of_nle (by decide) c_221 (by omega)
      refine lv_ldc2 (v := 31) hx hb B.1.2.2.2.1 kk_237 dX5_digest_224 ?_
      refine lv_lload_n hx hb dX5_digest_227 rfl (lv_at hl 2 rfl) ?_
      refine lv_lmul hx hb dX5_digest_228 ?_
      refine lv_aload_n hx hb dX5_digest_229 rfl (lv_at hl 3 rfl) ?_
      refine lv_iload_n hx hb dX5_digest_230 rfl (lv_at hl 1 rfl) ?_
      refine lv_iconst (v := 2) hx hb dX5_digest_231 (by decide) ?_
      refine lv_icmp_ge (tgt := 239) hx hb dX5_digest_232 (by decide) (fun c_232 => ?_) (fun c_232 => ?_)
      · have zk := zk.trans (if_pos c_232)
        refine lv_sipush (v := 255) hx hb dX5_digest_239 (by decide) ?_
        refine lv_iload hx hb dX5_digest_242 (lv_at hl 0 rfl) ?_
        refine x_calli hW (x_runV B hW (As := [.int 255, .int (nI n4)]) (rest := .long (31 * v1) :: []) (by decide) cM_o cls5 (c_X5_bringsBy (D := D) (ad := ad) l _ S 255 (nI n4) hch hs6) (cwV 2 B.1.2.2.2.2 gX5_digest_X5_bringsBy rfl rfl rfl hd_X5_bringsBy ⟨Nat.le_of_ble_eq_true rfl, Nat.le_of_ble_eq_true rfl⟩) rfl hls (Nat.le_of_ble_eq_true rfl) dX5_digest_244 ⟨Nat.zero_le _, Nat.zero_le _⟩) (fun r_244 S_244 H locs he hW => ?_)
        have hr_244 := he
        have zk := nmp_at zk hr_244
        have he_244 : S_244 = (x_X5_bringsBy S 255 (nI n4)).2 := by rw [← hr_244]
        have hf_S_244_1_2_chairOK : chairOK (S_244 1 2) := by rw [he_244, (lf_bringsBy LF.rf _ _ (by decide) (by decide) (by decide))]; exact hch
        have hf_S_244_1_6_0 : ¬ (S_244 1 6) = 0 := by rw [he_244, (lf_bringsBy LF.rf _ _ (by decide) (by decide) (by decide))]; exact hs6
        have hf_S_244_0_5_61 : vp_in (S_244 0 5) 61 := by rw [he_244, (lf_bringsBy LF.rf _ _ (by decide) (by decide) (by decide))]; exact hty
        refine lv_i2l hx hb dX5_digest_247 rfl ?_
        refine lv_ladd hx hb dX5_digest_248 ?_
        refine lv_topl (fun x_249 ex_249 => ?_)
        have zk := nm_at zk ex_249
        refine lv_lstore_n (lv' := [(1, .long x_249), (4, .int (nI n4)), (3, .int (nI n3)), (0, .ref (ad 0))]) hx hb dX5_digest_249 rfl hl (by decide) rfl (fun ls hl => ?_)
        have hls := hl.1
        refine lv_iinc (v := (nI (n4 + 1))) (lv' := [(4, .int (nI (n4 + 1))), (1, .long x_249), (3, .int (nI n3)), (0, .ref (ad 0))]) hx hb dX5_digest_250 hl (k := 1) rfl (nI_1 _) (by decide) rfl (fun ls hl => ?_)
        have hls := hl.1
        refine lv_goto (tgt := 218) hx hb dX5_digest_253 (by decide) ?_
        exact ih ((n4 + 1)) (n3) (x_249) S_244 _ _ _ (show (n4 + 1) ≤ 5 by omega) (show (n4 + 1) + n = 6 by omega) hc_n3 hf_S_244_1_2_chairOK hf_S_244_1_6_0 (isN_vin (isN_var hf_S_244_0_5_61 (by decide)) (by decide) (by decide)) hW (lv_sub hl [0, 2, 1, 3] rfl) hls zk kk
      · have zk := zk.trans (if_neg c_232)
        have hb_c_232 : n3 < 2 := nI_of_nle (by decide) c_232 (by omega)
        refine lv_iload_n hx hb dX5_digest_235 rfl (lv_at hl 1 rfl) ?_
        refine lv_goto (tgt := 242) hx hb dX5_digest_236 (by decide) ?_
        refine lv_iload hx hb dX5_digest_242 (lv_at hl 0 rfl) ?_
        refine x_calli hW (x_runV B hW (As := [.int (nI n3), .int (nI n4)]) (rest := .long (31 * v1) :: []) (by decide) cM_o cls5 (c_X5_bringsBy (D := D) (ad := ad) l _ S (nI n3) (nI n4) hch hs6) (cwV 2 B.1.2.2.2.2 gX5_digest_X5_bringsBy rfl rfl rfl hd_X5_bringsBy ⟨Nat.le_of_ble_eq_true rfl, Nat.le_of_ble_eq_true rfl⟩) rfl hls (Nat.le_of_ble_eq_true rfl) dX5_digest_244 ⟨Nat.zero_le _, Nat.zero_le _⟩) (fun r_244 S_244 H locs he hW => ?_)
        have hr_244 := he
        have zk := nmp_at zk hr_244
        have he_244 : S_244 = (x_X5_bringsBy S (nI n3) (nI n4)).2 := by rw [← hr_244]
        have hf_S_244_1_2_chairOK : chairOK (S_244 1 2) := by rw [he_244, (lf_bringsBy LF.rf _ _ (by decide) (by decide) (by decide))]; exact hch
        have hf_S_244_1_6_0 : ¬ (S_244 1 6) = 0 := by rw [he_244, (lf_bringsBy LF.rf _ _ (by decide) (by decide) (by decide))]; exact hs6
        have hf_S_244_0_5_61 : vp_in (S_244 0 5) 61 := by rw [he_244, (lf_bringsBy LF.rf _ _ (by decide) (by decide) (by decide))]; exact hty
        refine lv_i2l hx hb dX5_digest_247 rfl ?_
        refine lv_ladd hx hb dX5_digest_248 ?_
        refine lv_topl (fun x_249 ex_249 => ?_)
        have zk := nm_at zk ex_249
        refine lv_lstore_n (lv' := [(1, .long x_249), (4, .int (nI n4)), (3, .int (nI n3)), (0, .ref (ad 0))]) hx hb dX5_digest_249 rfl hl (by decide) rfl (fun ls hl => ?_)
        have hls := hl.1
        refine lv_iinc (v := (nI (n4 + 1))) (lv' := [(4, .int (nI (n4 + 1))), (1, .long x_249), (3, .int (nI n3)), (0, .ref (ad 0))]) hx hb dX5_digest_250 hl (k := 1) rfl (nI_1 _) (by decide) rfl (fun ls hl => ?_)
        have hls := hl.1
        refine lv_goto (tgt := 218) hx hb dX5_digest_253 (by decide) ?_
        exact ih ((n4 + 1)) (n3) (x_249) S_244 _ _ _ (show (n4 + 1) ≤ 5 by omega) (show (n4 + 1) + n = 6 by omega) (Nat.lt_of_lt_of_le hb_c_232 (by decide)) hf_S_244_1_2_chairOK hf_S_244_1_6_0 (isN_vin (isN_var hf_S_244_0_5_61 (by decide)) (by decide) (by decide)) hW (lv_sub hl [0, 2, 1, 3] rfl) hls zk kk
set_option maxHeartbeats 4000000 in
set_option maxRecDepth 100000 in
theorem w_X5_digest_L210 {D : va_G} {ad : Nat → Nat} (l : Launch) {p : Program} {e : Env} {s : State} {mm : MethodId} {args : Array Value} {below : List Frame} {meth : Method} {c : Code} {A : Nat → Prop} (B : Cx p mm c cX5_digest 5 s args wsX5_digest RX5 meth (some .long) D) (z : (Int64 × vS)) : ∀ (n : Nat) (n3 : Nat) (v1 : Int64) (S : vS) (H : Heap) (locs : List Loc) (ls : Array Slot), n3 ≤ 3 → n3 + n = 4 → chairOK (S 1 2) → ¬ (S 1 6) = 0 → vp_in (S 0 5) 61 → Wd D 7 (cM D ad) ad A s.heap S H locs → lv_has ls 5 [(3, .int (nI n3)), (1, .long v1), (0, .ref (ad 0))] → ls.size = 5 → z = x_X5_digest_L210 n S n3 v1 → W p l e (rmD 7) s mm args below meth c H locs 0 0 (MQ below (va_Ql (fun (r : Int64) (S1 : vS) => (r, S1) = z) (bW D 7 (cM D ad) ad A) A) args s 0 0 A) (F0 mm 210 ls []) := by
  have hx := B.1.1
  have hb := B.1.2.1
  have hin_X5 : ∀ w ∈ wsX50, w ∈ wsX5_digest := fun w h => List.mem_cons_of_mem _ (List.mem_append_right _ h)
  have k_145 := B.1.2.2.2.2 (.fieldLink RX5 145 "JointLoansModel" "typed" "I") (by decide +kernel)
  have k_19 := B.1.2.2.2.2 (.fieldLink RX5 19 "JointLoansModel" "text" "[I") (by decide +kernel)
  have k_28 := B.1.2.2.2.2 (.fieldLink RX5 28 "JointLoansModel" "thrown" "I") (by decide +kernel)
  have k_7 := B.1.2.2.2.2 (.fieldLink RX5 7 "JointLoansModel" "now" "[I") (by decide +kernel)
  have kk_235 := B.1.2.2.2.2 (.constantLong RX5 235 2713) (by decide +kernel)
  have kk_237 := B.1.2.2.2.2 (.constantLong RX5 237 31) (by decide +kernel)
  intro n
  induction n with
  | zero =>
    intro n3 v1 S H locs ls hle hsum hch hs6 hty
    omega
  | succ n ih =>
    intro n3 v1 S H locs ls hle hsum hch hs6 hty hW hl hls zk
    have zk := zk.trans (x_X5_digest_L210.eq_2 _ _ _ _ )
    refine lv_iload_n hx hb dX5_digest_210 rfl (lv_at hl 0 rfl) ?_
    refine lv_iconst (v := 3) hx hb dX5_digest_211 (by decide) ?_
    refine lv_icmp_ge (tgt := 262) hx hb dX5_digest_212 (by decide) (fun c_212 => ?_) (fun c_212 => ?_)
    · have zk := zk.trans (if_pos c_212)
      refine lv_ldc2 (v := 31) hx hb B.1.2.2.2.1 kk_237 dX5_digest_262 ?_
      refine lv_ldc2 (v := 31) hx hb B.1.2.2.2.1 kk_237 dX5_digest_265 ?_
      refine lv_lload_n hx hb dX5_digest_268 rfl (lv_at hl 1 rfl) ?_
      refine lv_lmul hx hb dX5_digest_269 ?_
      refine lv_aload_n hx hb dX5_digest_270 rfl (lv_at hl 2 rfl) ?_
      refine x_calli hW (x_runV B hW (As := []) (rest := .long (31 * v1) :: .long 31 :: []) (by decide) cM_o cls5 (c_X5_weakestOf (D := D) (ad := ad) l _ S hch hs6) (cwV 0 B.1.2.2.2.2 gX5_digest_X5_weakestOf rfl rfl rfl hd_X5_weakestOf ⟨Nat.le_of_ble_eq_true rfl, Nat.le_of_ble_eq_true rfl⟩) rfl hls (Nat.le_of_ble_eq_true rfl) dX5_digest_271 ⟨Nat.zero_le _, Nat.zero_le _⟩) (fun r_271 S_271 H locs he hW => ?_)
      have hr_271 := he
      have zk := nmp_at zk hr_271
      have he_271 : S_271 = (x_X5_weakestOf S).2 := by rw [← hr_271]
      have hf_S_271_1_2_chairOK : chairOK (S_271 1 2) := by rw [he_271, (lf_weakestOf LF.rf _ _ (by decide) (by decide) (by decide))]; exact hch
      have hf_S_271_1_6_0 : ¬ (S_271 1 6) = 0 := by rw [he_271, (lf_weakestOf LF.rf _ _ (by decide) (by decide) (by decide))]; exact hs6
      have hf_S_271_0_5_61 : vp_in (S_271 0 5) 61 := by rw [he_271, (lf_weakestOf LF.rf _ _ (by decide) (by decide) (by decide))]; exact hty
      refine lv_i2l hx hb dX5_digest_274 rfl ?_
      refine lv_ladd hx hb dX5_digest_275 ?_
      refine lv_lmul hx hb dX5_digest_276 ?_
      refine lv_aload_n hx hb dX5_digest_277 rfl (lv_at hl 2 rfl) ?_
      refine x_calli hW (x_runV B hW (As := []) (rest := .long (31 * ((31 * v1) + r_271.toInt64)) :: []) (by decide) cM_o cls5 (c_X5_longest (D := D) (ad := ad) l _ S_271) (cwV 0 B.1.2.2.2.2 gX5_digest_X5_longest rfl rfl rfl hd_X5_longest ⟨Nat.le_of_ble_eq_true rfl, Nat.le_of_ble_eq_true rfl⟩) rfl hls (Nat.le_of_ble_eq_true rfl) dX5_digest_278 ⟨Nat.zero_le _, Nat.zero_le _⟩) (fun r_278 S_278 H locs he hW => ?_)
      obtain ⟨hr_278, hs⟩ := he
      rw [hs] at hW
      have zk := nm_at zk hr_278
      refine lv_i2l hx hb dX5_digest_281 rfl ?_
      refine lv_ladd hx hb dX5_digest_282 ?_
      refine lv_topl (fun x_283 ex_283 => ?_)
      have zk := nm_at zk ex_283
      refine lv_lstore_n (lv' := [(1, .long x_283), (3, .int (nI n3)), (0, .ref (ad 0))]) hx hb dX5_digest_283 rfl hl (by decide) rfl (fun ls hl => ?_)
      have hls := hl.1
      refine lv_ldc2 (v := 31) hx hb B.1.2.2.2.1 kk_237 dX5_digest_284 ?_
      refine lv_ldc2 (v := 31) hx hb B.1.2.2.2.1 kk_237 dX5_digest_287 ?_
      refine lv_lload_n hx hb dX5_digest_290 rfl (lv_at hl 0 rfl) ?_
      refine lv_lmul hx hb dX5_digest_291 ?_
      refine lv_aload_n hx hb dX5_digest_292 rfl (lv_at hl 2 rfl) ?_
      refine x_calld hW (x_runV B hW (As := []) (rest := .long (31 * x_283) :: .long 31 :: []) (by decide) cM_o cls5 (c_X5_share (D := D) (ad := ad) l _ S_271) (cwV 0 B.1.2.2.2.2 gX5_digest_X5_share rfl rfl rfl hd_X5_share ⟨Nat.le_of_ble_eq_true rfl, Nat.le_of_ble_eq_true rfl⟩) rfl hls (Nat.le_of_ble_eq_true rfl) dX5_digest_293 ⟨Nat.zero_le _, Nat.zero_le _⟩) (fun r_293 S_293 H locs he hW => ?_)
      obtain ⟨hr_293, hs⟩ := he
      rw [hs] at hW
      have zk := nm_at zk hr_293
      refine x_calll hW (x_runS B hW (As := [.double r_293]) (rest := .long (31 * x_283) :: .long 31 :: []) (c_Jxe99ae_doubleToLongBits_ccdee (D := D) (ad := ad) l _ S_271 r_293) (va_cwS 1 B.1.2.2.2.2 gX5_digest_Jxe99ae_doubleToLongBits_ccdee rfl rfl rfl hd_Jxe99ae_doubleToLongBits_ccdee.2 ⟨Nat.le_of_ble_eq_true rfl, Nat.le_of_ble_eq_true rfl⟩) rfl hls (Nat.le_of_ble_eq_true rfl) dX5_digest_296 ⟨Nat.zero_le _, Nat.zero_le _⟩) (fun r_296 S_296 H locs he hW => ?_)
      obtain ⟨hr_296, hs⟩ := he
      rw [hs] at hW
      have zk := nm_at zk hr_296
      refine lv_ladd hx hb dX5_digest_299 ?_
      refine lv_lmul hx hb dX5_digest_300 ?_
      refine lv_aload_n hx hb dX5_digest_301 rfl (lv_at hl 2 rfl) ?_
      refine x_get B hW (by decide) cM_o cls5 hin_X5 5 (by decide) (v := .int (S_271 0 5)) rfl k_145 dX5_digest_302 ?_
      refine lv_i2l hx hb dX5_digest_305 rfl ?_
      refine lv_ladd hx hb dX5_digest_306 ?_
      refine lv_topl (fun x_307 ex_307 => ?_)
      have zk := nm_at zk ex_307
      refine lv_lstore_n (lv' := [(1, .long x_307), (3, .int (nI n3)), (0, .ref (ad 0))]) hx hb dX5_digest_307 rfl hl (by decide) rfl (fun ls hl => ?_)
      have hls := hl.1
      refine lv_iconst (v := 0) hx hb dX5_digest_308 (by decide) ?_
      refine lv_istore_n (lv' := [(3, .int 0), (1, .long x_307), (0, .ref (ad 0))]) hx hb dX5_digest_309 rfl hl (by decide) rfl (fun ls hl => ?_)
      have hls := hl.1
      exact w_X5_digest_L310 l B  _  (61) (0) (x_307) S_271 _ _ _ (show 0 ≤ 60 by omega) (show 0 + (61) = 61 by omega) (isN_vin (isN_var hf_S_271_0_5_61 (by decide)) (by decide) (by decide)) hW (lv_sub hl [0, 1, 2] rfl) hls zk
    · have zk := zk.trans (if_neg c_212)
      have hb_c_212 : n3 < 3 := nI_of_nle (by decide) c_212 (by omega)
      refine lv_iconst (v := 0) hx hb dX5_digest_215 (by decide) ?_
      refine lv_istore (lv' := [(4, .int 0), (3, .int (nI n3)), (1, .long v1), (0, .ref (ad 0))]) hx hb dX5_digest_216 hl (by decide) rfl (fun ls hl => ?_)
      have hls := hl.1
      refine w_X5_digest_L218 l B _  (6) (0) (n3) (v1) S _ _ _ (show 0 ≤ 5 by omega) (show 0 + (6) = 6 by omega) hb_c_212 hch hs6 hty hW (lv_sub hl [0, 1, 2, 3] rfl) hls rfl (fun h_218 S_218 H locs ls hW hl hls he_218 => ?_)
      have zk := nmp_at zk he_218
      have he_218 : S_218 = (x_X5_digest_L218 (6) S (0) (n3) (v1)).2 := by rw [← he_218]
      have hf_S_218_1_2_chairOK : chairOK (S_218 1 2) := by rw [he_218, (lf_d218 _ _ _ _ _ _ LF.rf _ _ (by decide) (by decide) (by decide))]; exact hch
      have hf_S_218_1_6_0 : ¬ (S_218 1 6) = 0 := by rw [he_218, (lf_d218 _ _ _ _ _ _ LF.rf _ _ (by decide) (by decide) (by decide))]; exact hs6
      have hf_S_218_0_5_61 : vp_in (S_218 0 5) 61 := by rw [he_218, (lf_d218 _ _ _ _ _ _ LF.rf _ _ (by decide) (by decide) (by decide))]; exact hty
      refine lv_iinc (v := (nI (n3 + 1))) (lv' := [(3, .int (nI (n3 + 1))), (1, .long h_218), (0, .ref (ad 0))]) hx hb dX5_digest_256 hl (k := 0) rfl (nI_1 _) (by decide) rfl (fun ls hl => ?_)
      have hls := hl.1
      refine lv_goto (tgt := 210) hx hb dX5_digest_259 (by decide) ?_
      exact ih ((n3 + 1)) (h_218) S_218 _ _ _ (show (n3 + 1) ≤ 3 by omega) (show (n3 + 1) + n = 4 by omega) hf_S_218_1_2_chairOK hf_S_218_1_6_0 (isN_vin (isN_var hf_S_218_0_5_61 (by decide)) (by decide) (by decide)) hW (lv_sub hl [0, 1, 2] rfl) hls zk
set_option maxHeartbeats 4000000 in
set_option maxRecDepth 100000 in
theorem w_X5_digest_L98 {D : va_G} {ad : Nat → Nat} (l : Launch) {p : Program} {e : Env} {s : State} {mm : MethodId} {args : Array Value} {below : List Frame} {meth : Method} {c : Code} {A : Nat → Prop} {Q : State → Prop} (B : Cx p mm c cX5_digest 5 s args wsX5_digest RX5 meth (some .long) D) (z : (Int64 × vS)) : ∀ (n : Nat) (n4 : Nat) (v1 : Int64) (n3 : Nat) (S : vS) (H : Heap) (locs : List Loc) (ls : Array Slot), n4 ≤ 14 → n4 + n = 15 → n3 < 8 → chairOK (S 1 2) → ¬ (S 1 6) = 0 → vp_in (S 0 5) 61 → Wd D 7 (cM D ad) ad A s.heap S H locs → lv_has ls 5 [(4, .int (nI n4)), (1, .long v1), (3, .int (nI n3)), (0, .ref (ad 0))] → ls.size = 5 → z = x_X5_digest_L98 n S n4 v1 n3 → (∀ (v' : Int64) (S' : vS) (H : Heap) (locs : List Loc) (ls : Array Slot), Wd D 7 (cM D ad) ad A s.heap S' H locs → lv_has ls 5 [(1, .long v'), (3, .int (nI n3)), (0, .ref (ad 0))] → ls.size = 5 → (v', S') = z → W p l e (rmD 7) s mm args below meth c H locs 0 0 Q (F0 mm 126 ls [])) → W p l e (rmD 7) s mm args below meth c H locs 0 0 Q (F0 mm 98 ls []) := by
  have hx := B.1.1
  have hb := B.1.2.1
  have hin_X5 : ∀ w ∈ wsX50, w ∈ wsX5_digest := fun w h => List.mem_cons_of_mem _ (List.mem_append_right _ h)
  have k_145 := B.1.2.2.2.2 (.fieldLink RX5 145 "JointLoansModel" "typed" "I") (by decide +kernel)
  have k_19 := B.1.2.2.2.2 (.fieldLink RX5 19 "JointLoansModel" "text" "[I") (by decide +kernel)
  have k_28 := B.1.2.2.2.2 (.fieldLink RX5 28 "JointLoansModel" "thrown" "I") (by decide +kernel)
  have k_7 := B.1.2.2.2.2 (.fieldLink RX5 7 "JointLoansModel" "now" "[I") (by decide +kernel)
  have kk_235 := B.1.2.2.2.2 (.constantLong RX5 235 2713) (by decide +kernel)
  have kk_237 := B.1.2.2.2.2 (.constantLong RX5 237 31) (by decide +kernel)
  intro n
  induction n with
  | zero =>
    intro n4 v1 n3 S H locs ls hle hsum hc_n3 hch hs6 hty
    omega
  | succ n ih =>
    intro n4 v1 n3 S H locs ls hle hsum hc_n3 hch hs6 hty hW hl hls zk kk
    have zk := zk.trans (x_X5_digest_L98.eq_2 _ _ _ _ _ )
    refine lv_iload hx hb dX5_digest_98 (lv_at hl 0 rfl) ?_
    refine lv_bipush (v := 14) hx hb dX5_digest_100 (by decide) ?_
    refine lv_icmp_ge (tgt := 126) hx hb dX5_digest_102 (by decide) (fun c_102 => ?_) (fun c_102 => ?_)
    · have zk := zk.trans (if_pos c_102)
      exact kk v1 S _ _ _ hW (lv_sub hl [1, 2, 3] rfl) hls zk.symm
    · have zk := zk.trans (if_neg c_102)
      have hb_c_102 : n4 < 14 := nI_of_nle (by decide) c_102 (by omega)
      refine lv_ldc2 (v := 31) hx hb B.1.2.2.2.1 kk_237 dX5_digest_105 ?_
      refine lv_lload_n hx hb dX5_digest_108 rfl (lv_at hl 1 rfl) ?_
      refine lv_lmul hx hb dX5_digest_109 ?_
      refine lv_aload_n hx hb dX5_digest_110 rfl (lv_at hl 3 rfl) ?_
      refine lv_iload_n hx hb dX5_digest_111 rfl (lv_at hl 2 rfl) ?_
      refine lv_iload hx hb dX5_digest_112 (lv_at hl 0 rfl) ?_
      refine x_calli hW (x_runV B hW (As := [.int (nI n3), .int (nI n4)]) (rest := .long (31 * v1) :: []) (by decide) cM_o cls5 (c_X5_ofMember (D := D) (ad := ad) l _ S (nI n3) (nI n4) (isN_vin (isN_nI hc_n3 (by decide)) (by decide) (by decide)) (isN_vin (isN_nI hb_c_102 (by decide)) (by decide) (by decide))) (cwV 2 B.1.2.2.2.2 gX5_digest_X5_ofMember rfl rfl rfl hd_X5_ofMember ⟨Nat.le_of_ble_eq_true rfl, Nat.le_of_ble_eq_true rfl⟩) rfl hls (Nat.le_of_ble_eq_true rfl) dX5_digest_114 ⟨Nat.zero_le _, Nat.zero_le _⟩) (fun r_114 S_114 H locs he hW => ?_)
      obtain ⟨hr_114, hs⟩ := he
      rw [hs] at hW
      have zk := nm_at zk hr_114
      refine lv_i2l hx hb dX5_digest_117 rfl ?_
      refine lv_ladd hx hb dX5_digest_118 ?_
      refine lv_topl (fun x_119 ex_119 => ?_)
      have zk := nm_at zk ex_119
      refine lv_lstore_n (lv' := [(1, .long x_119), (4, .int (nI n4)), (3, .int (nI n3)), (0, .ref (ad 0))]) hx hb dX5_digest_119 rfl hl (by decide) rfl (fun ls hl => ?_)
      have hls := hl.1
      refine lv_iinc (v := (nI (n4 + 1))) (lv' := [(4, .int (nI (n4 + 1))), (1, .long x_119), (3, .int (nI n3)), (0, .ref (ad 0))]) hx hb dX5_digest_120 hl (k := 1) rfl (nI_1 _) (by decide) rfl (fun ls hl => ?_)
      have hls := hl.1
      refine lv_goto (tgt := 98) hx hb dX5_digest_123 (by decide) ?_
      exact ih ((n4 + 1)) (x_119) (n3) S _ _ _ (show (n4 + 1) ≤ 14 by omega) (show (n4 + 1) + n = 15 by omega) hc_n3 hch hs6 hty hW (lv_sub hl [0, 1, 2, 3] rfl) hls zk kk
set_option maxHeartbeats 4000000 in
set_option maxRecDepth 100000 in
theorem w_X5_digest_L129 {D : va_G} {ad : Nat → Nat} (l : Launch) {p : Program} {e : Env} {s : State} {mm : MethodId} {args : Array Value} {below : List Frame} {meth : Method} {c : Code} {A : Nat → Prop} {Q : State → Prop} (B : Cx p mm c cX5_digest 5 s args wsX5_digest RX5 meth (some .long) D) (z : (Int64 × vS)) : ∀ (n : Nat) (n4 : Nat) (v1 : Int64) (n3 : Nat) (S : vS) (H : Heap) (locs : List Loc) (ls : Array Slot), n4 ≤ 8 → n4 + n = 9 → n3 < 8 → chairOK (S 1 2) → ¬ (S 1 6) = 0 → vp_in (S 0 5) 61 → Wd D 7 (cM D ad) ad A s.heap S H locs → lv_has ls 5 [(4, .int (nI n4)), (1, .long v1), (3, .int (nI n3)), (0, .ref (ad 0))] → ls.size = 5 → z = x_X5_digest_L129 n S n4 v1 n3 → (∀ (v' : Int64) (S' : vS) (H : Heap) (locs : List Loc) (ls : Array Slot), Wd D 7 (cM D ad) ad A s.heap S' H locs → lv_has ls 5 [(1, .long v'), (3, .int (nI n3)), (0, .ref (ad 0))] → ls.size = 5 → (v', S') = z → W p l e (rmD 7) s mm args below meth c H locs 0 0 Q (F0 mm 178 ls [])) → W p l e (rmD 7) s mm args below meth c H locs 0 0 Q (F0 mm 129 ls []) := by
  have hx := B.1.1
  have hb := B.1.2.1
  have hin_X5 : ∀ w ∈ wsX50, w ∈ wsX5_digest := fun w h => List.mem_cons_of_mem _ (List.mem_append_right _ h)
  have k_145 := B.1.2.2.2.2 (.fieldLink RX5 145 "JointLoansModel" "typed" "I") (by decide +kernel)
  have k_19 := B.1.2.2.2.2 (.fieldLink RX5 19 "JointLoansModel" "text" "[I") (by decide +kernel)
  have k_28 := B.1.2.2.2.2 (.fieldLink RX5 28 "JointLoansModel" "thrown" "I") (by decide +kernel)
  have k_7 := B.1.2.2.2.2 (.fieldLink RX5 7 "JointLoansModel" "now" "[I") (by decide +kernel)
  have kk_235 := B.1.2.2.2.2 (.constantLong RX5 235 2713) (by decide +kernel)
  have kk_237 := B.1.2.2.2.2 (.constantLong RX5 237 31) (by decide +kernel)
  intro n
  induction n with
  | zero =>
    intro n4 v1 n3 S H locs ls hle hsum hc_n3 hch hs6 hty
    omega
  | succ n ih =>
    intro n4 v1 n3 S H locs ls hle hsum hc_n3 hch hs6 hty hW hl hls zk kk
    have zk := zk.trans (x_X5_digest_L129.eq_2 _ _ _ _ _ )
    refine lv_iload hx hb dX5_digest_129 (lv_at hl 0 rfl) ?_
    refine lv_bipush (v := 8) hx hb dX5_digest_131 (by decide) ?_
    refine lv_icmp_ge (tgt := 178) hx hb dX5_digest_133 (by decide) (fun c_133 => ?_) (fun c_133 => ?_)
    · have zk := zk.trans (if_pos c_133)
      exact kk v1 S _ _ _ hW (lv_sub hl [1, 2, 3] rfl) hls zk.symm
    · have zk := zk.trans (if_neg c_133)
      have hb_c_133 : n4 < 8 := nI_of_nle (by decide) c_133 (by omega)
      refine lv_aload_n hx hb dX5_digest_136 rfl (lv_at hl 3 rfl) ?_
      refine x_get B hW (by decide) cM_o cls5 hin_X5 0 (by decide) (v := .ref (ad 1)) rfl k_7 dX5_digest_137 ?_
      refine lv_iload hx hb dX5_digest_140 (lv_at hl 0 rfl) ?_
      refine lv_iconst (v := 0) hx hb dX5_digest_142 (by decide) ?_
      refine x_calli hW (x_runS B hW (As := [.ref (ad 1), .int (nI n4), .int 0]) (rest := []) (c_X5_of (D := D) (ad := ad) l _ S 1 (nI n4) 0 (Or.inl rfl) (isN_vin (isN_nI hb_c_133 (by decide)) (by decide) (by decide)) (isN_vin (isN_lit 0 (by decide)) (by decide) (by decide))) (va_cwS 3 B.1.2.2.2.2 gX5_digest_X5_of rfl rfl rfl hd_X5_of.2 ⟨Nat.le_of_ble_eq_true rfl, Nat.le_of_ble_eq_true rfl⟩) rfl hls (Nat.le_of_ble_eq_true rfl) dX5_digest_143 ⟨Nat.zero_le _, Nat.zero_le _⟩) (fun r_143 S_143 H locs he hW => ?_)
      obtain ⟨hr_143, hs⟩ := he
      rw [hs] at hW
      have zk := nm_at zk hr_143
      refine lv_iconst (v := 1) hx hb dX5_digest_146 (by decide) ?_
      refine lv_icmp_ne (tgt := 170) hx hb dX5_digest_147 (by decide) (fun c_147 => ?_) (fun c_147 => ?_)
      · have zk := zk.trans (if_neg c_147)
        refine lv_lload_n hx hb dX5_digest_170 rfl (lv_at hl 1 rfl) ?_
        refine lv_lstore_n (lv' := [(1, .long v1), (4, .int (nI n4)), (3, .int (nI n3)), (0, .ref (ad 0))]) hx hb dX5_digest_171 rfl hl (by decide) rfl (fun ls hl => ?_)
        have hls := hl.1
        refine lv_iinc (v := (nI (n4 + 1))) (lv' := [(4, .int (nI (n4 + 1))), (1, .long v1), (3, .int (nI n3)), (0, .ref (ad 0))]) hx hb dX5_digest_172 hl (k := 1) rfl (nI_1 _) (by decide) rfl (fun ls hl => ?_)
        have hls := hl.1
        refine lv_goto (tgt := 129) hx hb dX5_digest_175 (by decide) ?_
        exact ih ((n4 + 1)) (v1) (n3) S _ _ _ (show (n4 + 1) ≤ 8 by omega) (show (n4 + 1) + n = 9 by omega) hc_n3 hch hs6 hty hW (lv_sub hl [0, 1, 2, 3] rfl) hls zk kk
      · have zk := zk.trans (if_pos c_147)
        refine lv_ldc2 (v := 31) hx hb B.1.2.2.2.1 kk_237 dX5_digest_150 ?_
        refine lv_lload_n hx hb dX5_digest_153 rfl (lv_at hl 1 rfl) ?_
        refine lv_lmul hx hb dX5_digest_154 ?_
        refine lv_aload_n hx hb dX5_digest_155 rfl (lv_at hl 3 rfl) ?_
        refine x_get B hW (by decide) cM_o cls5 hin_X5 0 (by decide) (v := .ref (ad 1)) rfl k_7 dX5_digest_156 ?_
        refine lv_iload_n hx hb dX5_digest_159 rfl (lv_at hl 2 rfl) ?_
        refine lv_iload hx hb dX5_digest_160 (lv_at hl 0 rfl) ?_
        refine x_calli hW (x_runS B hW (As := [.ref (ad 1), .int (nI n3), .int (nI n4)]) (rest := .long (31 * v1) :: []) (c_X5_debt (D := D) (ad := ad) l _ S 1 (nI n3) (nI n4) (Or.inl rfl) (isN_vin (isN_nI hc_n3 (by decide)) (by decide) (by decide)) (isN_vin (isN_nI hb_c_133 (by decide)) (by decide) (by decide))) (va_cwS 3 B.1.2.2.2.2 gX5_digest_X5_debt rfl rfl rfl hd_X5_debt.2 ⟨Nat.le_of_ble_eq_true rfl, Nat.le_of_ble_eq_true rfl⟩) rfl hls (Nat.le_of_ble_eq_true rfl) dX5_digest_162 ⟨Nat.zero_le _, Nat.zero_le _⟩) (fun r_162 S_162 H locs he hW => ?_)
        obtain ⟨hr_162, hs⟩ := he
        rw [hs] at hW
        have zk := nm_at zk hr_162
        refine lv_i2l hx hb dX5_digest_165 rfl ?_
        refine lv_ladd hx hb dX5_digest_166 ?_
        refine lv_goto (tgt := 171) hx hb dX5_digest_167 (by decide) ?_
        refine lv_topl (fun x_171 ex_171 => ?_)
        have zk := nm_at zk ex_171
        refine lv_lstore_n (lv' := [(1, .long x_171), (4, .int (nI n4)), (3, .int (nI n3)), (0, .ref (ad 0))]) hx hb dX5_digest_171 rfl hl (by decide) rfl (fun ls hl => ?_)
        have hls := hl.1
        refine lv_iinc (v := (nI (n4 + 1))) (lv' := [(4, .int (nI (n4 + 1))), (1, .long x_171), (3, .int (nI n3)), (0, .ref (ad 0))]) hx hb dX5_digest_172 hl (k := 1) rfl (nI_1 _) (by decide) rfl (fun ls hl => ?_)
        have hls := hl.1
        refine lv_goto (tgt := 129) hx hb dX5_digest_175 (by decide) ?_
        exact ih ((n4 + 1)) (x_171) (n3) S _ _ _ (show (n4 + 1) ≤ 8 by omega) (show (n4 + 1) + n = 9 by omega) hc_n3 hch hs6 hty hW (lv_sub hl [0, 1, 2, 3] rfl) hls zk kk
set_option maxHeartbeats 4000000 in
set_option maxRecDepth 100000 in
theorem w_X5_digest_L67 {D : va_G} {ad : Nat → Nat} (l : Launch) {p : Program} {e : Env} {s : State} {mm : MethodId} {args : Array Value} {below : List Frame} {meth : Method} {c : Code} {A : Nat → Prop} (B : Cx p mm c cX5_digest 5 s args wsX5_digest RX5 meth (some .long) D) (z : (Int64 × vS)) : ∀ (n : Nat) (n3 : Nat) (v1 : Int64) (S : vS) (H : Heap) (locs : List Loc) (ls : Array Slot), n3 ≤ 8 → n3 + n = 9 → chairOK (S 1 2) → ¬ (S 1 6) = 0 → vp_in (S 0 5) 61 → Wd D 7 (cM D ad) ad A s.heap S H locs → lv_has ls 5 [(3, .int (nI n3)), (1, .long v1), (0, .ref (ad 0))] → ls.size = 5 → z = x_X5_digest_L67 n S n3 v1 → W p l e (rmD 7) s mm args below meth c H locs 0 0 (MQ below (va_Ql (fun (r : Int64) (S1 : vS) => (r, S1) = z) (bW D 7 (cM D ad) ad A) A) args s 0 0 A) (F0 mm 67 ls []) := by
  have hx := B.1.1
  have hb := B.1.2.1
  have hin_X5 : ∀ w ∈ wsX50, w ∈ wsX5_digest := fun w h => List.mem_cons_of_mem _ (List.mem_append_right _ h)
  have k_145 := B.1.2.2.2.2 (.fieldLink RX5 145 "JointLoansModel" "typed" "I") (by decide +kernel)
  have k_19 := B.1.2.2.2.2 (.fieldLink RX5 19 "JointLoansModel" "text" "[I") (by decide +kernel)
  have k_28 := B.1.2.2.2.2 (.fieldLink RX5 28 "JointLoansModel" "thrown" "I") (by decide +kernel)
  have k_7 := B.1.2.2.2.2 (.fieldLink RX5 7 "JointLoansModel" "now" "[I") (by decide +kernel)
  have kk_235 := B.1.2.2.2.2 (.constantLong RX5 235 2713) (by decide +kernel)
  have kk_237 := B.1.2.2.2.2 (.constantLong RX5 237 31) (by decide +kernel)
  intro n
  induction n with
  | zero =>
    intro n3 v1 S H locs ls hle hsum hch hs6 hty
    omega
  | succ n ih =>
    intro n3 v1 S H locs ls hle hsum hch hs6 hty hW hl hls zk
    have zk := zk.trans (x_X5_digest_L67.eq_2 _ _ _ _ )
    refine lv_iload_n hx hb dX5_digest_67 rfl (lv_at hl 0 rfl) ?_
    refine lv_bipush (v := 8) hx hb dX5_digest_68 (by decide) ?_
    refine lv_icmp_ge (tgt := 208) hx hb dX5_digest_70 (by decide) (fun c_70 => ?_) (fun c_70 => ?_)
    · have zk := zk.trans (if_pos c_70)
      refine lv_iconst (v := 0) hx hb dX5_digest_208 (by decide) ?_
      refine lv_istore_n (lv' := [(3, .int 0), (1, .long v1), (0, .ref (ad 0))]) hx hb dX5_digest_209 rfl hl (by decide) rfl (fun ls hl => ?_)
      have hls := hl.1
      exact w_X5_digest_L210 l B  _  (4) (0) (v1) S _ _ _ (show 0 ≤ 3 by omega) (show 0 + (4) = 4 by omega) hch hs6 hty hW (lv_sub hl [0, 1, 2] rfl) hls zk
    · have zk := zk.trans (if_neg c_70)
      have hb_c_70 : n3 < 8 := nI_of_nle (by decide) c_70 (by omega)
      refine lv_aload_n hx hb dX5_digest_73 rfl (lv_at hl 2 rfl) ?_
      refine x_get B hW (by decide) cM_o cls5 hin_X5 0 (by decide) (v := .ref (ad 1)) rfl k_7 dX5_digest_74 ?_
      refine lv_iload_n hx hb dX5_digest_77 rfl (lv_at hl 0 rfl) ?_
      refine lv_iconst (v := 0) hx hb dX5_digest_78 (by decide) ?_
      refine x_calli hW (x_runS B hW (As := [.ref (ad 1), .int (nI n3), .int 0]) (rest := []) (c_X5_of (D := D) (ad := ad) l _ S 1 (nI n3) 0 (Or.inl rfl) (isN_vin (isN_nI hb_c_70 (by decide)) (by decide) (by decide)) (isN_vin (isN_lit 0 (by decide)) (by decide) (by decide))) (va_cwS 3 B.1.2.2.2.2 gX5_digest_X5_of rfl rfl rfl hd_X5_of.2 ⟨Nat.le_of_ble_eq_true rfl, Nat.le_of_ble_eq_true rfl⟩) rfl hls (Nat.le_of_ble_eq_true rfl) dX5_digest_79 ⟨Nat.zero_le _, Nat.zero_le _⟩) (fun r_79 S_79 H locs he hW => ?_)
      obtain ⟨hr_79, hs⟩ := he
      rw [hs] at hW
      have zk := nm_at zk hr_79
      refine lv_iconst (v := 1) hx hb dX5_digest_82 (by decide) ?_
      refine lv_icmp_ne (tgt := 202) hx hb dX5_digest_83 (by decide) (fun c_83 => ?_) (fun c_83 => ?_)
      · have zk := zk.trans (if_neg c_83)
        refine lv_iinc (v := (nI (n3 + 1))) (lv' := [(3, .int (nI (n3 + 1))), (1, .long v1), (0, .ref (ad 0))]) hx hb dX5_digest_202 hl (k := 0) rfl (nI_1 _) (by decide) rfl (fun ls hl => ?_)
        have hls := hl.1
        refine lv_goto (tgt := 67) hx hb dX5_digest_205 (by decide) ?_
        exact ih ((n3 + 1)) (v1) S _ _ _ (show (n3 + 1) ≤ 8 by omega) (show (n3 + 1) + n = 9 by omega) hch hs6 hty hW (lv_sub hl [0, 1, 2] rfl) hls zk
      · have zk := zk.trans (if_pos c_83)
        refine lv_ldc2 (v := 31) hx hb B.1.2.2.2.1 kk_237 dX5_digest_86 ?_
        refine lv_lload_n hx hb dX5_digest_89 rfl (lv_at hl 1 rfl) ?_
        refine lv_lmul hx hb dX5_digest_90 ?_
        refine lv_iload_n hx hb dX5_digest_91 rfl (lv_at hl 0 rfl) ?_
        refine lv_i2l hx hb dX5_digest_92 rfl ?_
        refine lv_ladd hx hb dX5_digest_93 ?_
        refine lv_topl (fun x_94 ex_94 => ?_)
        have zk := nm_at zk ex_94
        refine lv_lstore_n (lv' := [(1, .long x_94), (3, .int (nI n3)), (0, .ref (ad 0))]) hx hb dX5_digest_94 rfl hl (by decide) rfl (fun ls hl => ?_)
        have hls := hl.1
        refine lv_iconst (v := 0) hx hb dX5_digest_95 (by decide) ?_
        refine lv_istore (lv' := [(4, .int 0), (1, .long x_94), (3, .int (nI n3)), (0, .ref (ad 0))]) hx hb dX5_digest_96 hl (by decide) rfl (fun ls hl => ?_)
        have hls := hl.1
        refine w_X5_digest_L98 l B _  (15) (0) (x_94) (n3) S _ _ _ (show 0 ≤ 14 by omega) (show 0 + (15) = 15 by omega) hb_c_70 hch hs6 hty hW (lv_sub hl [0, 1, 2, 3] rfl) hls rfl (fun h_98 S_98 H locs ls hW hl hls he_98 => ?_)
        have zk := nmp_at zk he_98
        have he_98 : S_98 = (x_X5_digest_L98 (15) S (0) (x_94) (n3)).2 := by rw [← he_98]
        have hf_S_98_1_2_chairOK : chairOK (S_98 1 2) := by rw [he_98, (d98_S _ _ _ _ _)]; exact hch
        have hf_S_98_1_6_0 : ¬ (S_98 1 6) = 0 := by rw [he_98, (d98_S _ _ _ _ _)]; exact hs6
        have hf_S_98_0_5_61 : vp_in (S_98 0 5) 61 := by rw [he_98, (d98_S _ _ _ _ _)]; exact hty
        refine lv_iconst (v := 0) hx hb dX5_digest_126 (by decide) ?_
        refine lv_istore (lv' := [(4, .int 0), (1, .long h_98), (3, .int (nI n3)), (0, .ref (ad 0))]) hx hb dX5_digest_127 hl (by decide) rfl (fun ls hl => ?_)
        have hls := hl.1
        refine w_X5_digest_L129 l B _  (9) (0) (h_98) (n3) S_98 _ _ _ (show 0 ≤ 8 by omega) (show 0 + (9) = 9 by omega) hb_c_70 hf_S_98_1_2_chairOK hf_S_98_1_6_0 (isN_vin (isN_var hf_S_98_0_5_61 (by decide)) (by decide) (by decide)) hW (lv_sub hl [0, 1, 2, 3] rfl) hls rfl (fun h_129 S_129 H locs ls hW hl hls he_129 => ?_)
        have zk := nmp_at zk he_129
        have he_129 : S_129 = (x_X5_digest_L129 (9) S_98 (0) (h_98) (n3)).2 := by rw [← he_129]
        have hf_S_129_1_2_chairOK : chairOK (S_129 1 2) := by rw [he_129, (d129_S _ _ _ _ _)]; exact hf_S_98_1_2_chairOK
        have hf_S_129_1_6_0 : ¬ (S_129 1 6) = 0 := by rw [he_129, (d129_S _ _ _ _ _)]; exact hf_S_98_1_6_0
        have hf_S_129_0_5_61 : vp_in (S_129 0 5) 61 := by rw [he_129, (d129_S _ _ _ _ _)]; exact hf_S_98_0_5_61
        refine lv_ldc2 (v := 31) hx hb B.1.2.2.2.1 kk_237 dX5_digest_178 ?_
        refine lv_ldc2 (v := 31) hx hb B.1.2.2.2.1 kk_237 dX5_digest_181 ?_
        refine lv_lload_n hx hb dX5_digest_184 rfl (lv_at hl 0 rfl) ?_
        refine lv_lmul hx hb dX5_digest_185 ?_
        refine lv_aload_n hx hb dX5_digest_186 rfl (lv_at hl 2 rfl) ?_
        refine lv_iload_n hx hb dX5_digest_187 rfl (lv_at hl 1 rfl) ?_
        refine x_calli hW (x_runV B hW (As := [.int (nI n3)]) (rest := .long (31 * h_129) :: .long 31 :: []) (by decide) cM_o cls5 (c_X5_lasts (D := D) (ad := ad) l _ S_129 (nI n3) hf_S_129_1_2_chairOK hf_S_129_1_6_0) (cwV 1 B.1.2.2.2.2 gX5_digest_X5_lasts rfl rfl rfl hd_X5_lasts ⟨Nat.le_of_ble_eq_true rfl, Nat.le_of_ble_eq_true rfl⟩) rfl hls (Nat.le_of_ble_eq_true rfl) dX5_digest_188 ⟨Nat.zero_le _, Nat.zero_le _⟩) (fun r_188 S_188 H locs he hW => ?_)
        have hr_188 := he
        have zk := nmp_at zk hr_188
        have he_188 : S_188 = (x_X5_lasts S_129 (nI n3)).2 := by rw [← hr_188]
        have hf_S_188_1_2_chairOK : chairOK (S_188 1 2) := by rw [he_188, (lf_lasts LF.rf _ _ (by decide) (by decide) (by decide))]; exact hf_S_129_1_2_chairOK
        have hf_S_188_1_6_0 : ¬ (S_188 1 6) = 0 := by rw [he_188, (lf_lasts LF.rf _ _ (by decide) (by decide) (by decide))]; exact hf_S_129_1_6_0
        have hf_S_188_0_5_61 : vp_in (S_188 0 5) 61 := by rw [he_188, (lf_lasts LF.rf _ _ (by decide) (by decide) (by decide))]; exact hf_S_129_0_5_61
        refine lv_i2l hx hb dX5_digest_191 rfl ?_
        refine lv_ladd hx hb dX5_digest_192 ?_
        refine lv_lmul hx hb dX5_digest_193 ?_
        refine lv_aload_n hx hb dX5_digest_194 rfl (lv_at hl 2 rfl) ?_
        refine lv_iload_n hx hb dX5_digest_195 rfl (lv_at hl 1 rfl) ?_
        refine x_calli hW (x_runV B hW (As := [.int (nI n3)]) (rest := .long (31 * ((31 * h_129) + r_188.toInt64)) :: []) (by decide) cM_o cls5 (c_X5_limitThen (D := D) (ad := ad) l _ S_188 (nI n3) (isN_vin (isN_nI hb_c_70 (by decide)) (by decide) (by decide))) (cwV 1 B.1.2.2.2.2 gX5_digest_X5_limitThen rfl rfl rfl hd_X5_limitThen ⟨Nat.le_of_ble_eq_true rfl, Nat.le_of_ble_eq_true rfl⟩) rfl hls (Nat.le_of_ble_eq_true rfl) dX5_digest_196 ⟨Nat.zero_le _, Nat.zero_le _⟩) (fun r_196 S_196 H locs he hW => ?_)
        obtain ⟨hr_196, hs⟩ := he
        rw [hs] at hW
        have zk := nm_at zk hr_196
        refine lv_i2l hx hb dX5_digest_199 rfl ?_
        refine lv_ladd hx hb dX5_digest_200 ?_
        refine lv_topl (fun x_201 ex_201 => ?_)
        have zk := nm_at zk ex_201
        refine lv_lstore_n (lv' := [(1, .long x_201), (3, .int (nI n3)), (0, .ref (ad 0))]) hx hb dX5_digest_201 rfl hl (by decide) rfl (fun ls hl => ?_)
        have hls := hl.1
        refine lv_iinc (v := (nI (n3 + 1))) (lv' := [(3, .int (nI (n3 + 1))), (1, .long x_201), (0, .ref (ad 0))]) hx hb dX5_digest_202 hl (k := 1) rfl (nI_1 _) (by decide) rfl (fun ls hl => ?_)
        have hls := hl.1
        refine lv_goto (tgt := 67) hx hb dX5_digest_205 (by decide) ?_
        exact ih ((n3 + 1)) (x_201) S_188 _ _ _ (show (n3 + 1) ≤ 8 by omega) (show (n3 + 1) + n = 9 by omega) hf_S_188_1_2_chairOK hf_S_188_1_6_0 (isN_vin (isN_var hf_S_188_0_5_61 (by decide)) (by decide) (by decide)) hW (lv_sub hl [0, 1, 2] rfl) hls zk
set_option maxHeartbeats 4000000 in
set_option maxRecDepth 100000 in
theorem w_X5_digest_L38 {D : va_G} {ad : Nat → Nat} (l : Launch) {p : Program} {e : Env} {s : State} {mm : MethodId} {args : Array Value} {below : List Frame} {meth : Method} {c : Code} {A : Nat → Prop} (B : Cx p mm c cX5_digest 5 s args wsX5_digest RX5 meth (some .long) D) (z : (Int64 × vS)) : ∀ (n : Nat) (n3 : Nat) (v1 : Int64) (S : vS) (H : Heap) (locs : List Loc) (ls : Array Slot), n3 ≤ 4 → n3 + n = 5 → chairOK (S 1 2) → ¬ (S 1 6) = 0 → vp_in (S 0 5) 61 → Wd D 7 (cM D ad) ad A s.heap S H locs → lv_has ls 5 [(3, .int (nI n3)), (1, .long v1), (0, .ref (ad 0))] → ls.size = 5 → z = x_X5_digest_L38 n S n3 v1 → W p l e (rmD 7) s mm args below meth c H locs 0 0 (MQ below (va_Ql (fun (r : Int64) (S1 : vS) => (r, S1) = z) (bW D 7 (cM D ad) ad A) A) args s 0 0 A) (F0 mm 38 ls []) := by
  have hx := B.1.1
  have hb := B.1.2.1
  have hin_X5 : ∀ w ∈ wsX50, w ∈ wsX5_digest := fun w h => List.mem_cons_of_mem _ (List.mem_append_right _ h)
  have k_145 := B.1.2.2.2.2 (.fieldLink RX5 145 "JointLoansModel" "typed" "I") (by decide +kernel)
  have k_19 := B.1.2.2.2.2 (.fieldLink RX5 19 "JointLoansModel" "text" "[I") (by decide +kernel)
  have k_28 := B.1.2.2.2.2 (.fieldLink RX5 28 "JointLoansModel" "thrown" "I") (by decide +kernel)
  have k_7 := B.1.2.2.2.2 (.fieldLink RX5 7 "JointLoansModel" "now" "[I") (by decide +kernel)
  have kk_235 := B.1.2.2.2.2 (.constantLong RX5 235 2713) (by decide +kernel)
  have kk_237 := B.1.2.2.2.2 (.constantLong RX5 237 31) (by decide +kernel)
  intro n
  induction n with
  | zero =>
    intro n3 v1 S H locs ls hle hsum hch hs6 hty
    omega
  | succ n ih =>
    intro n3 v1 S H locs ls hle hsum hch hs6 hty hW hl hls zk
    have zk := zk.trans (x_X5_digest_L38.eq_2 _ _ _ _ )
    refine lv_iload_n hx hb dX5_digest_38 rfl (lv_at hl 0 rfl) ?_
    refine lv_iconst (v := 4) hx hb dX5_digest_39 (by decide) ?_
    refine lv_icmp_ge (tgt := 65) hx hb dX5_digest_40 (by decide) (fun c_40 => ?_) (fun c_40 => ?_)
    · have zk := zk.trans (if_pos c_40)
      refine lv_iconst (v := 0) hx hb dX5_digest_65 (by decide) ?_
      refine lv_istore_n (lv' := [(3, .int 0), (1, .long v1), (0, .ref (ad 0))]) hx hb dX5_digest_66 rfl hl (by decide) rfl (fun ls hl => ?_)
      have hls := hl.1
      exact w_X5_digest_L67 l B  _  (9) (0) (v1) S _ _ _ (show 0 ≤ 8 by omega) (show 0 + (9) = 9 by omega) hch hs6 hty hW (lv_sub hl [0, 1, 2] rfl) hls zk
    · have zk := zk.trans (if_neg c_40)
      have hb_c_40 : n3 < 4 := nI_of_nle (by decide) c_40 (by omega)
      refine lv_ldc2 (v := 31) hx hb B.1.2.2.2.1 kk_237 dX5_digest_43 ?_
      refine lv_lload_n hx hb dX5_digest_46 rfl (lv_at hl 1 rfl) ?_
      refine lv_lmul hx hb dX5_digest_47 ?_
      refine lv_aload_n hx hb dX5_digest_48 rfl (lv_at hl 2 rfl) ?_
      refine x_get B hW (by decide) cM_o cls5 hin_X5 0 (by decide) (v := .ref (ad 1)) rfl k_7 dX5_digest_49 ?_
      refine lv_iconst (v := 4) hx hb dX5_digest_52 (by decide) ?_
      refine lv_iload_n hx hb dX5_digest_53 rfl (lv_at hl 0 rfl) ?_
      refine lv_iadd hx hb dX5_digest_54 ?_
      refine x_iald B hW (by decide) cM_1 (isN_add (isN_lit 4 (by decide)) (isN_nI hb_c_40 (by decide)) (by decide)) (by decide) (by decide) dX5_digest_55 ?_
      refine lv_i2l hx hb dX5_digest_56 rfl ?_
      refine lv_ladd hx hb dX5_digest_57 ?_
      refine lv_topl (fun x_58 ex_58 => ?_)
      have zk := nm_at zk ex_58
      refine lv_lstore_n (lv' := [(1, .long x_58), (3, .int (nI n3)), (0, .ref (ad 0))]) hx hb dX5_digest_58 rfl hl (by decide) rfl (fun ls hl => ?_)
      have hls := hl.1
      refine lv_iinc (v := (nI (n3 + 1))) (lv' := [(3, .int (nI (n3 + 1))), (1, .long x_58), (0, .ref (ad 0))]) hx hb dX5_digest_59 hl (k := 1) rfl (nI_1 _) (by decide) rfl (fun ls hl => ?_)
      have hls := hl.1
      refine lv_goto (tgt := 38) hx hb dX5_digest_62 (by decide) ?_
      exact ih ((n3 + 1)) (x_58) S _ _ _ (show (n3 + 1) ≤ 4 by omega) (show (n3 + 1) + n = 5 by omega) hch hs6 hty hW (lv_sub hl [0, 1, 2] rfl) hls zk
set_option maxHeartbeats 4000000 in
set_option maxRecDepth 100000 in
theorem w_X5_digest_L11 {D : va_G} {ad : Nat → Nat} (l : Launch) {p : Program} {e : Env} {s : State} {mm : MethodId} {args : Array Value} {below : List Frame} {meth : Method} {c : Code} {A : Nat → Prop} (B : Cx p mm c cX5_digest 5 s args wsX5_digest RX5 meth (some .long) D) (z : (Int64 × vS)) : ∀ (n : Nat) (n3 : Nat) (v1 : Int64) (S : vS) (H : Heap) (locs : List Loc) (ls : Array Slot), n3 ≤ 16 → n3 + n = 17 → chairOK (S 1 2) → ¬ (S 1 6) = 0 → vp_in (S 0 5) 61 → Wd D 7 (cM D ad) ad A s.heap S H locs → lv_has ls 5 [(3, .int (nI n3)), (1, .long v1), (0, .ref (ad 0))] → ls.size = 5 → z = x_X5_digest_L11 n S n3 v1 → W p l e (rmD 7) s mm args below meth c H locs 0 0 (MQ below (va_Ql (fun (r : Int64) (S1 : vS) => (r, S1) = z) (bW D 7 (cM D ad) ad A) A) args s 0 0 A) (F0 mm 11 ls []) := by
  have hx := B.1.1
  have hb := B.1.2.1
  have hin_X5 : ∀ w ∈ wsX50, w ∈ wsX5_digest := fun w h => List.mem_cons_of_mem _ (List.mem_append_right _ h)
  have k_145 := B.1.2.2.2.2 (.fieldLink RX5 145 "JointLoansModel" "typed" "I") (by decide +kernel)
  have k_19 := B.1.2.2.2.2 (.fieldLink RX5 19 "JointLoansModel" "text" "[I") (by decide +kernel)
  have k_28 := B.1.2.2.2.2 (.fieldLink RX5 28 "JointLoansModel" "thrown" "I") (by decide +kernel)
  have k_7 := B.1.2.2.2.2 (.fieldLink RX5 7 "JointLoansModel" "now" "[I") (by decide +kernel)
  have kk_235 := B.1.2.2.2.2 (.constantLong RX5 235 2713) (by decide +kernel)
  have kk_237 := B.1.2.2.2.2 (.constantLong RX5 237 31) (by decide +kernel)
  intro n
  induction n with
  | zero =>
    intro n3 v1 S H locs ls hle hsum hch hs6 hty
    omega
  | succ n ih =>
    intro n3 v1 S H locs ls hle hsum hch hs6 hty hW hl hls zk
    have zk := zk.trans (x_X5_digest_L11.eq_2 _ _ _ _ )
    refine lv_iload_n hx hb dX5_digest_11 rfl (lv_at hl 0 rfl) ?_
    refine lv_bipush (v := 16) hx hb dX5_digest_12 (by decide) ?_
    refine lv_icmp_ge (tgt := 36) hx hb dX5_digest_14 (by decide) (fun c_14 => ?_) (fun c_14 => ?_)
    · have zk := zk.trans (if_pos c_14)
      refine lv_iconst (v := 0) hx hb dX5_digest_36 (by decide) ?_
      refine lv_istore_n (lv' := [(3, .int 0), (1, .long v1), (0, .ref (ad 0))]) hx hb dX5_digest_37 rfl hl (by decide) rfl (fun ls hl => ?_)
      have hls := hl.1
      exact w_X5_digest_L38 l B  _  (5) (0) (v1) S _ _ _ (show 0 ≤ 4 by omega) (show 0 + (5) = 5 by omega) hch hs6 hty hW (lv_sub hl [0, 1, 2] rfl) hls zk
    · have zk := zk.trans (if_neg c_14)
      have hb_c_14 : n3 < 16 := nI_of_nle (by decide) c_14 (by omega)
      refine lv_ldc2 (v := 31) hx hb B.1.2.2.2.1 kk_237 dX5_digest_17 ?_
      refine lv_lload_n hx hb dX5_digest_20 rfl (lv_at hl 1 rfl) ?_
      refine lv_lmul hx hb dX5_digest_21 ?_
      refine lv_aload_n hx hb dX5_digest_22 rfl (lv_at hl 2 rfl) ?_
      refine lv_iload_n hx hb dX5_digest_23 rfl (lv_at hl 0 rfl) ?_
      refine x_calli hW (x_runV B hW (As := [.int (nI n3)]) (rest := .long (31 * v1) :: []) (by decide) cM_o cls5 (c_X5_counted (D := D) (ad := ad) l _ S (nI n3) (isN_vin (isN_nI hb_c_14 (by decide)) (by decide) (by decide))) (cwV 1 B.1.2.2.2.2 gX5_digest_X5_counted rfl rfl rfl hd_X5_counted ⟨Nat.le_of_ble_eq_true rfl, Nat.le_of_ble_eq_true rfl⟩) rfl hls (Nat.le_of_ble_eq_true rfl) dX5_digest_24 ⟨Nat.zero_le _, Nat.zero_le _⟩) (fun r_24 S_24 H locs he hW => ?_)
      obtain ⟨hr_24, hs⟩ := he
      rw [hs] at hW
      have zk := nm_at zk hr_24
      refine lv_i2l hx hb dX5_digest_27 rfl ?_
      refine lv_ladd hx hb dX5_digest_28 ?_
      refine lv_topl (fun x_29 ex_29 => ?_)
      have zk := nm_at zk ex_29
      refine lv_lstore_n (lv' := [(1, .long x_29), (3, .int (nI n3)), (0, .ref (ad 0))]) hx hb dX5_digest_29 rfl hl (by decide) rfl (fun ls hl => ?_)
      have hls := hl.1
      refine lv_iinc (v := (nI (n3 + 1))) (lv' := [(3, .int (nI (n3 + 1))), (1, .long x_29), (0, .ref (ad 0))]) hx hb dX5_digest_30 hl (k := 1) rfl (nI_1 _) (by decide) rfl (fun ls hl => ?_)
      have hls := hl.1
      refine lv_goto (tgt := 11) hx hb dX5_digest_33 (by decide) ?_
      exact ih ((n3 + 1)) (x_29) S _ _ _ (show (n3 + 1) ≤ 16 by omega) (show (n3 + 1) + n = 17 by omega) hch hs6 hty hW (lv_sub hl [0, 1, 2] rfl) hls zk
set_option maxHeartbeats 4000000 in
set_option maxRecDepth 100000 in
theorem c_X5_digest {D : va_G} {ad : Nat → Nat} (l : Launch) (sz : Nat) (S : vS) (hch : chairOK (S 1 2)) (hs6 : ¬ (S 1 6) = 0) (hty : vp_in (S 0 5) 61) : Met l yX5_digest wsX5_digest (rmD 7) (pW D 7 (cM D ad) ad sz S [.ref (ad 0)]) (va_Ql (fun (r : Int64) (S1 : vS) => (r, S1) = (x_X5_digest S)) (bW D 7 (cM D ad) ad (aW 7 ad sz)) (aW 7 ad sz)) 0 0 (aW 7 ad sz) := by
  refine x_met (own := RX5) (cc := cX5_digest) (maxL := 5) (ret := (some .long)) (Qc := fun A => va_Ql (fun (r : Int64) (S1 : vS) => (r, S1) = (x_X5_digest S)) (bW D 7 (cM D ad) ad A) A) rfl ⟨by decide +kernel, rfl, Nat.le_of_ble_eq_true rfl⟩ ?_
  intro p e s mm args below meth c A ls B hW hl hls
  have hx := B.1.1
  have hb := B.1.2.1
  have hin_X5 : ∀ w ∈ wsX50, w ∈ wsX5_digest := fun w h => List.mem_cons_of_mem _ (List.mem_append_right _ h)
  have k_145 := B.1.2.2.2.2 (.fieldLink RX5 145 "JointLoansModel" "typed" "I") (by decide +kernel)
  have k_19 := B.1.2.2.2.2 (.fieldLink RX5 19 "JointLoansModel" "text" "[I") (by decide +kernel)
  have k_28 := B.1.2.2.2.2 (.fieldLink RX5 28 "JointLoansModel" "thrown" "I") (by decide +kernel)
  have k_7 := B.1.2.2.2.2 (.fieldLink RX5 7 "JointLoansModel" "now" "[I") (by decide +kernel)
  have kk_235 := B.1.2.2.2.2 (.constantLong RX5 235 2713) (by decide +kernel)
  have kk_237 := B.1.2.2.2.2 (.constantLong RX5 237 31) (by decide +kernel)
  have zk := x_X5_digest.eq_1 S
  have hl : lv_has ls 5 [(0, .ref (ad 0))] := hl
  refine lv_aload_n hx hb dX5_digest_0 rfl (lv_at hl 0 rfl) ?_
  refine lv_iconst (v := 0) hx hb dX5_digest_1 (by decide) ?_
  refine x_put B hW (by decide) cls5 hin_X5 6 (by decide) cM_o rfl (ty := .int) (by decide +kernel) rfl rfl (Nat.le_of_ble_eq_true rfl) (j := 6) pO_6 k_28 dX5_digest_2 (fun H locs S_2 he_2 hW => ?_)
  have zk := nm_at zk he_2
  have hf_S_2_1_2_chairOK : chairOK (S_2 1 2) := by rw [he_2, st_at, if_neg (by rintro ⟨h1, h2⟩; omega)]; exact hch
  have hf_S_2_1_6_0 : ¬ (S_2 1 6) = 0 := by rw [he_2, st_at, if_neg (by rintro ⟨h1, h2⟩; omega)]; exact hs6
  have hf_S_2_0_5_61 : vp_in (S_2 0 5) 61 := by rw [he_2, st_at, if_neg (by rintro ⟨h1, h2⟩; omega)]; exact hty
  have hf_S_2_0_6_1 : vp_in (S_2 0 6) 1 := by rw [he_2, st_at, if_pos ⟨rfl, rfl⟩]; exact isN_vin (isN_lit 0 (by decide)) (by decide) (by decide)
  refine lv_ldc2 (v := 2713) hx hb B.1.2.2.2.1 kk_235 dX5_digest_5 ?_
  refine lv_lstore_n (lv' := [(1, .long 2713), (0, .ref (ad 0))]) hx hb dX5_digest_8 rfl hl (by decide) rfl (fun ls hl => ?_)
  have hls := hl.1
  refine lv_iconst (v := 0) hx hb dX5_digest_9 (by decide) ?_
  refine lv_istore_n (lv' := [(3, .int 0), (1, .long 2713), (0, .ref (ad 0))]) hx hb dX5_digest_10 rfl hl (by decide) rfl (fun ls hl => ?_)
  have hls := hl.1
  exact w_X5_digest_L11 l B  _  (17) (0) (2713) S_2 _ _ _ (show 0 ≤ 16 by omega) (show 0 + (17) = 17 by omega) hf_S_2_1_2_chairOK hf_S_2_1_6_0 (isN_vin (isN_var hf_S_2_0_5_61 (by decide)) (by decide) (by decide)) hW (lv_sub hl [0, 1, 2] rfl) hls zk

end P25_mdigest
