section JSTR
section NRET
variable {p : Program} {l : Launch} {e : Env} {R : Room} {s : State} {m : MethodId} {args : Array Value} {below : List Frame} {meth : Method} {c : Code} {H : Heap} {locs : List Loc} {cells slots : Nat}
variable {cc : ByteArray} {nL : Nat} {Ts : List Cond} {own : String} {D : va_G} {N : Nat} {cf : Nat → (Nat → Int32) → va_E} {ad : Nat → Nat} {A : Nat → Prop} {S : vS} {pc : Nat} {ls : Array Slot}
theorem x_nret {ty : FieldType} (B : Cx p m c cc nL s args Ts own meth (some ty) D) (hW : Wd D N cf ad A s.heap S H locs) {post : Int32 → vS → Prop} {r : Int32} (hn : narrow ty (.int r) = .int r) (h : post r S) (d : decode cc pc = .ok (.ireturn, 1)) : W p l e R s m args below meth c H locs cells slots (MQ below (va_Qi post (bW D N cf ad A) A) args s cells slots A) (F0 m pc ls [.int r]) :=
  W.zret (v := r) B.1.1 B.1.2.1 B.2.2.1 hn (fun _ ht _ => ⟨⟨r, S, rfl, h, (hW.end ht).1⟩, (hW.end ht).2⟩) hW.2.2.1.2.2 d B.2.2.2
theorem nar_c {x : Int32} (h : (x.toUInt32 % 65536).toInt32 = x) : narrow .char (.int x) = .int x := by
  show Value.int (x.toUInt32 % 65536).toInt32 = .int x
  rw [h]
end NRET
/-- letter k of word i -/
def chE (i k : Nat) : Int32 := (byE.getD i []).getD k 0
def x_J0_length_8abf5 (S : vS) (i : Nat) : Int32 := nI (lnE.getD i 0)
def x_J0_charAt_5068e (S : vS) (i k : Nat) : Int32 := chE i k
theorem chE_nar (i k : Nat) : narrow .char (.int (((chE i k &&& 255).toUInt32 % 65536).toInt32)) = .int (((chE i k &&& 255).toUInt32 % 65536).toInt32) := by
  apply nar_c
  generalize chE i k &&& 255 = x
  apply Int32.toBitVec_inj.mp
  apply BitVec.eq_of_toNat_eq
  simp [BitVec.toNat_umod]
theorem chE_eq : ∀ i, i < 6 → ∀ k, k < lnE.getD i 0 → ((chE i k &&& 255).toUInt32 % 65536).toInt32 = chE i k := by decide +kernel
theorem lnE_le : ∀ i, i < 6 → lnE.getD i 0 < 2 ^ 31 ∧ lnE.getD i 0 < 6 := by decide +kernel
set_option maxHeartbeats 4000000 in
set_option maxRecDepth 100000 in
theorem hd_J3_checkIndex_8e157 : yJ3_checkIndex_8e157.cls = RJ3 ∧ yJ3_checkIndex_8e157.cls ≠ "java/lang/invoke/MethodHandle" ∧ yJ3_checkIndex_8e157.cls ≠ "java/lang/invoke/VarHandle" ∧ (parseMethodDescriptor yJ3_checkIndex_8e157.desc).map (fun d => d.parameters.length) = some 3 := by decide +kernel
set_option maxHeartbeats 4000000 in
set_option maxRecDepth 100000 in
theorem c_J3_checkIndex_q {D : va_G} {ad : Nat → Nat} {V : vE} (l : Launch) (sz : Nat) (S : vS) (p0 p1 : Int32) (t0 : Nat) (h0 : ¬ p0 < 0) (h1 : p0 < p1) : Met l yJ3_checkIndex_8e157 wsJ3_checkIndex_8e157 (rmD 0) (pE D 158 (cC D ad) ad sz V S [.int p0, .int p1, .ref t0]) (va_Qi (fun (r : Int32) (S1 : vS) => r = p0 ∧ S1 = S) (bW D 158 (cC D ad) ad (aW 158 ad sz)) (aW 158 ad sz)) 0 0 (aW 158 ad sz) := by
  refine x_metE (own := RJ3) (cc := cJ3_checkIndex_8e157) (maxL := 3) (ret := (some .int)) (Qc := fun A => va_Qi (fun (r : Int32) (S1 : vS) => r = p0 ∧ S1 = S) (bW D 158 (cC D ad) ad A) A) rfl ⟨by decide +kernel, rfl, Nat.le_of_ble_eq_true rfl⟩ ?_
  intro p e s mm args below meth c A ls B hW hE hl hls
  have hx := B.1.1
  have hb := B.1.2.1
  have hl : lv_has ls 3 [(0, .int p0), (1, .int p1), (2, .ref t0)] := hl
  refine lv_iload_n hx hb dJ3_checkIndex_8e157_0 rfl (lv_at hl 0 rfl) ?_
  refine lv_if_lt (tgt := 9) hx hb dJ3_checkIndex_8e157_1 (by decide) (fun h => absurd h h0) (fun _ => ?_)
  refine lv_iload_n hx hb dJ3_checkIndex_8e157_4 rfl (lv_at hl 0 rfl) ?_
  refine lv_iload_n hx hb dJ3_checkIndex_8e157_5 rfl (lv_at hl 1 rfl) ?_
  refine lv_icmp_lt (tgt := 16) hx hb dJ3_checkIndex_8e157_6 (by decide) (fun _ => ?_) (fun h => absurd h1 h)
  refine lv_iload_n hx hb dJ3_checkIndex_8e157_16 rfl (lv_at hl 0 rfl) ?_
  exact x_iret B hW ⟨rfl, rfl⟩ dJ3_checkIndex_8e157_17

set_option maxHeartbeats 4000000 in
set_option maxRecDepth 100000 in
theorem c_J3_checkIndex_z {D : va_G} {ad : Nat → Nat} {V : vE} (l : Launch) (sz : Nat) (S : vS) (p0 p1 : Int32)  (h0 : ¬ p0 < 0) (h1 : p0 < p1) : Met l yJ3_checkIndex_8e157 wsJ3_checkIndex_8e157 (rmD 0) (pE D 158 (cC D ad) ad sz V S [.int p0, .int p1, .null]) (va_Qi (fun (r : Int32) (S1 : vS) => r = p0 ∧ S1 = S) (bW D 158 (cC D ad) ad (aW 158 ad sz)) (aW 158 ad sz)) 0 0 (aW 158 ad sz) := by
  refine x_metE (own := RJ3) (cc := cJ3_checkIndex_8e157) (maxL := 3) (ret := (some .int)) (Qc := fun A => va_Qi (fun (r : Int32) (S1 : vS) => r = p0 ∧ S1 = S) (bW D 158 (cC D ad) ad A) A) rfl ⟨by decide +kernel, rfl, Nat.le_of_ble_eq_true rfl⟩ ?_
  intro p e s mm args below meth c A ls B hW hE hl hls
  have hx := B.1.1
  have hb := B.1.2.1
  have hl : lv_has ls 3 [(0, .int p0), (1, .int p1), (2, .null)] := hl
  refine lv_iload_n hx hb dJ3_checkIndex_8e157_0 rfl (lv_at hl 0 rfl) ?_
  refine lv_if_lt (tgt := 9) hx hb dJ3_checkIndex_8e157_1 (by decide) (fun h => absurd h h0) (fun _ => ?_)
  refine lv_iload_n hx hb dJ3_checkIndex_8e157_4 rfl (lv_at hl 0 rfl) ?_
  refine lv_iload_n hx hb dJ3_checkIndex_8e157_5 rfl (lv_at hl 1 rfl) ?_
  refine lv_icmp_lt (tgt := 16) hx hb dJ3_checkIndex_8e157_6 (by decide) (fun _ => ?_) (fun h => absurd h1 h)
  refine lv_iload_n hx hb dJ3_checkIndex_8e157_16 rfl (lv_at hl 0 rfl) ?_
  exact x_iret B hW ⟨rfl, rfl⟩ dJ3_checkIndex_8e157_17

set_option maxHeartbeats 4000000 in
set_option maxRecDepth 100000 in
theorem hd_J0_checkIndex_df160 : yJ0_checkIndex_df160.cls = RJ0 ∧ yJ0_checkIndex_df160.cls ≠ "java/lang/invoke/MethodHandle" ∧ yJ0_checkIndex_df160.cls ≠ "java/lang/invoke/VarHandle" ∧ (parseMethodDescriptor yJ0_checkIndex_df160.desc).map (fun d => d.parameters.length) = some 2 := by decide +kernel
set_option maxHeartbeats 4000000 in
set_option maxRecDepth 100000 in
theorem c_J0_checkIndex_df160 {D : va_G} {ad : Nat → Nat} {V : vE} (l : Launch) (sz : Nat) (S : vS) (p0 p1 : Int32) (h0 : ¬ p0 < 0) (h1 : p0 < p1) : Met l yJ0_checkIndex_df160 wsJ0_checkIndex_df160 (rmD 1) (pE D 158 (cC D ad) ad sz V S [.int p0, .int p1]) (va_Qv (fun (S1 : vS) => S1 = S) (bW D 158 (cC D ad) ad (aW 158 ad sz)) (aW 158 ad sz)) 0 0 (aW 158 ad sz) := by
  refine x_metE (own := RJ0) (cc := cJ0_checkIndex_df160) (maxL := 2) (ret := none) (Qc := fun A => va_Qv (fun (S1 : vS) => S1 = S) (bW D 158 (cC D ad) ad A) A) rfl ⟨by decide +kernel, rfl, Nat.le_of_ble_eq_true rfl⟩ ?_
  intro p e s mm args below meth c A ls B hW hE hl hls
  have hx := B.1.1
  have hb := B.1.2.1
  have hl : lv_has ls 2 [(0, .int p0), (1, .int p1)] := hl
  have kf := B.1.2.2.2.2 (.fieldLink RJ0 1053 "jdk/internal/util/Preconditions" "SIOOBE_FORMATTER" "Ljava/util/function/BiFunction;") (by decide +kernel)
  refine lv_iload_n hx hb dJ0_checkIndex_df160_0 rfl (lv_at hl 0 rfl) ?_
  refine lv_iload_n hx hb dJ0_checkIndex_df160_1 rfl (lv_at hl 1 rfl) ?_
  rcases hE.1.2.2.1 with hZ | ⟨t0, hZ⟩
  · refine va_gets hx hb hZ hW.2.2.1 B.1.2.2.2.1 kf (fun _ h => h) dJ0_checkIndex_df160_2 ?_
    refine x_calli hW (x_runSE B hW hE (As := [.int p0, .int p1, .null]) (rest := []) (c_J3_checkIndex_z (D := D) (ad := ad) (V := V) l _ S p0 p1 h0 h1) (va_cwS 3 B.1.2.2.2.2 gJ0_checkIndex_df160_J3_checkIndex_8e157 rfl rfl rfl hd_J3_checkIndex_8e157.2 ⟨Nat.le_of_ble_eq_true rfl, Nat.le_of_ble_eq_true rfl⟩) rfl hls (Nat.le_of_ble_eq_true rfl) dJ0_checkIndex_df160_5 ⟨Nat.zero_le _, Nat.zero_le _⟩) (fun r S1 H locs he hW => ?_)
    obtain ⟨-, hs⟩ := he
    rw [hs] at hW
    refine lv_pop hx hb dJ0_checkIndex_df160_8 rfl ?_
    exact x_vret B hW rfl dJ0_checkIndex_df160_9
  · refine va_gets hx hb hZ hW.2.2.1 B.1.2.2.2.1 kf (fun _ h => h) dJ0_checkIndex_df160_2 ?_
    refine x_calli hW (x_runSE B hW hE (As := [.int p0, .int p1, .ref t0]) (rest := []) (c_J3_checkIndex_q (D := D) (ad := ad) (V := V) l _ S p0 p1 t0 h0 h1) (va_cwS 3 B.1.2.2.2.2 gJ0_checkIndex_df160_J3_checkIndex_8e157 rfl rfl rfl hd_J3_checkIndex_8e157.2 ⟨Nat.le_of_ble_eq_true rfl, Nat.le_of_ble_eq_true rfl⟩) rfl hls (Nat.le_of_ble_eq_true rfl) dJ0_checkIndex_df160_5 ⟨Nat.zero_le _, Nat.zero_le _⟩) (fun r S1 H locs he hW => ?_)
    obtain ⟨-, hs⟩ := he
    rw [hs] at hW
    refine lv_pop hx hb dJ0_checkIndex_df160_8 rfl ?_
    exact x_vret B hW rfl dJ0_checkIndex_df160_9

set_option maxHeartbeats 4000000 in
set_option maxRecDepth 100000 in
theorem hd_J1_charAt_3b067 : yJ1_charAt_3b067.cls = RJ1 ∧ yJ1_charAt_3b067.cls ≠ "java/lang/invoke/MethodHandle" ∧ yJ1_charAt_3b067.cls ≠ "java/lang/invoke/VarHandle" ∧ (parseMethodDescriptor yJ1_charAt_3b067.desc).map (fun d => d.parameters.length) = some 2 := by decide +kernel
set_option maxHeartbeats 4000000 in
set_option maxRecDepth 100000 in
theorem c_J1_charAt_3b067 {D : va_G} {ad : Nat → Nat} {V : vE} (l : Launch) (sz : Nat) (S : vS) (i k : Nat) (hi : i < 6) (hk : k < lnE.getD i 0) : Met l yJ1_charAt_3b067 wsJ1_charAt_3b067 (rmD 2) (pE D 158 (cC D ad) ad sz V S [.ref (V.2.1 i), .int (nI k)]) (va_Qi (fun (r : Int32) (S1 : vS) => r = chE i k ∧ S1 = S) (bW D 158 (cC D ad) ad (aW 158 ad sz)) (aW 158 ad sz)) 0 0 (aW 158 ad sz) := by
  refine x_metE (own := RJ1) (cc := cJ1_charAt_3b067) (maxL := 2) (ret := (some .char)) (Qc := fun A => va_Qi (fun (r : Int32) (S1 : vS) => r = chE i k ∧ S1 = S) (bW D 158 (cC D ad) ad A) A) rfl ⟨by decide +kernel, rfl, Nat.le_of_ble_eq_true rfl⟩ ?_
  intro p e s mm args below meth c A ls B hW hE hl hls
  have hx := B.1.1
  have hb := B.1.2.1
  have hl : lv_has ls 2 [(0, .ref (V.2.1 i)), (1, .int (nI k))] := hl
  have hT := (hE.1.1.1 i hi).2.2.2
  have hln := lnE_le i hi
  refine lv_iload_n hx hb dJ1_charAt_3b067_0 rfl (lv_at hl 1 rfl) ?_
  refine lv_aload_n hx hb dJ1_charAt_3b067_1 rfl (lv_at hl 0 rfl) ?_
  refine va_tlen hx hb hT hW.2.2.1 (v := nI (lnE.getD i 0)) rfl dJ1_charAt_3b067_2 ?_
  refine x_callv hW (x_runSE B hW hE (As := [.int (nI k), .int (nI (lnE.getD i 0))]) (rest := []) (c_J0_checkIndex_df160 (D := D) (ad := ad) (V := V) l _ S (nI k) (nI (lnE.getD i 0)) (fun q => absurd (Int32.lt_iff_toInt_lt.mp q) (by rw [nI_toInt (by omega)]; simp)) (nI_lt hk (by omega))) (va_cwS 2 B.1.2.2.2.2 gJ1_charAt_3b067_J0_checkIndex_df160 rfl rfl rfl hd_J0_checkIndex_df160.2 ⟨Nat.le_of_ble_eq_true rfl, Nat.le_of_ble_eq_true rfl⟩) rfl hls (Nat.le_of_ble_eq_true rfl) dJ1_charAt_3b067_3 ⟨Nat.zero_le _, Nat.zero_le _⟩) (fun S1 H locs he hW => ?_)
  rw [he] at hW
  refine lv_aload_n hx hb dJ1_charAt_3b067_6 rfl (lv_at hl 0 rfl) ?_
  refine lv_iload_n hx hb dJ1_charAt_3b067_7 rfl (lv_at hl 1 rfl) ?_
  refine va_tb hx hb hT hW.2.2.1 (vp_in_nI hk (by omega)) (v := .int (chE i k)) (by rw [nI_clamp (by omega)]; rfl) dJ1_charAt_3b067_8 ?_
  refine lv_sipush (v := 255) hx hb dJ1_charAt_3b067_9 (by decide) ?_
  refine lv_iand hx hb dJ1_charAt_3b067_12 ?_
  refine lv_i2c hx hb dJ1_charAt_3b067_13 rfl ?_
  exact x_nret B hW (chE_nar i k) ⟨chE_eq i hi k hk, rfl⟩ dJ1_charAt_3b067_14

set_option maxHeartbeats 4000000 in
set_option maxRecDepth 100000 in
theorem hd_J0_coder_7d493 : yJ0_coder_7d493.cls = RJ0 ∧ yJ0_coder_7d493.cls ≠ "java/lang/invoke/MethodHandle" ∧ yJ0_coder_7d493.cls ≠ "java/lang/invoke/VarHandle" ∧ (parseMethodDescriptor yJ0_coder_7d493.desc).map (fun d => d.parameters.length) = some 0 := by decide +kernel
set_option maxHeartbeats 4000000 in
set_option maxRecDepth 100000 in
theorem c_J0_coder_7d493 {D : va_G} {ad : Nat → Nat} {V : vE} (l : Launch) (sz : Nat) (S : vS) (i : Nat) (hi : i < 6) : Met l yJ0_coder_7d493 wsJ0_coder_7d493 (rmD 0) (pE D 158 (cC D ad) ad sz V S [.ref (V.1 i)]) (va_Qi (fun (r : Int32) (S1 : vS) => r = 0 ∧ S1 = S) (bW D 158 (cC D ad) ad (aW 158 ad sz)) (aW 158 ad sz)) 0 0 (aW 158 ad sz) := by
  refine x_metE (own := RJ0) (cc := cJ0_coder_7d493) (maxL := 1) (ret := (some .byte)) (Qc := fun A => va_Qi (fun (r : Int32) (S1 : vS) => r = 0 ∧ S1 = S) (bW D 158 (cC D ad) ad A) A) rfl ⟨by decide +kernel, rfl, Nat.le_of_ble_eq_true rfl⟩ ?_
  intro p e s mm args below meth c A ls B hW hE hl hls
  have hx := B.1.1
  have hb := B.1.2.1
  have hl : lv_has ls 1 [(0, .ref (V.1 i))] := hl
  have kz := B.1.2.2.2.2 (.fieldLink RJ0 38 "java/lang/String" "COMPACT_STRINGS" "Z") (by decide +kernel)
  have kc := B.1.2.2.2.2 (.fieldLink RJ0 15 "java/lang/String" "coder" "B") (by decide +kernel)
  refine va_gets hx hb hE.1.2.1 hW.2.2.1 B.1.2.2.2.1 kz (fun _ h => h) dJ0_coder_7d493_0 ?_
  refine lv_if_eq (tgt := 13) hx hb dJ0_coder_7d493_3 (by decide) (fun h => absurd h (by decide)) (fun _ => ?_)
  refine lv_aload_n hx hb dJ0_coder_7d493_6 rfl (lv_at hl 0 rfl) ?_
  refine vk_getf hx hb (hE.1.1.1 i hi).2.1 hW.2.2.1 B.1.2.2.2.1 kc (fun _ h => h) dJ0_coder_7d493_7 ?_
  refine lv_goto (tgt := 14) hx hb dJ0_coder_7d493_10 (by decide) ?_
  exact x_nret B hW rfl ⟨rfl, rfl⟩ dJ0_coder_7d493_14

set_option maxHeartbeats 4000000 in
set_option maxRecDepth 100000 in
theorem hd_J0_isLatin1_aae02 : yJ0_isLatin1_aae02.cls = RJ0 ∧ yJ0_isLatin1_aae02.cls ≠ "java/lang/invoke/MethodHandle" ∧ yJ0_isLatin1_aae02.cls ≠ "java/lang/invoke/VarHandle" ∧ (parseMethodDescriptor yJ0_isLatin1_aae02.desc).map (fun d => d.parameters.length) = some 0 := by decide +kernel
set_option maxHeartbeats 4000000 in
set_option maxRecDepth 100000 in
theorem c_J0_isLatin1_aae02 {D : va_G} {ad : Nat → Nat} {V : vE} (l : Launch) (sz : Nat) (S : vS) (i : Nat) (hi : i < 6) : Met l yJ0_isLatin1_aae02 wsJ0_isLatin1_aae02 (rmD 0) (pE D 158 (cC D ad) ad sz V S [.ref (V.1 i)]) (va_Qi (fun (r : Int32) (S1 : vS) => r = 1 ∧ S1 = S) (bW D 158 (cC D ad) ad (aW 158 ad sz)) (aW 158 ad sz)) 0 0 (aW 158 ad sz) := by
  refine x_metE (own := RJ0) (cc := cJ0_isLatin1_aae02) (maxL := 1) (ret := (some .boolean)) (Qc := fun A => va_Qi (fun (r : Int32) (S1 : vS) => r = 1 ∧ S1 = S) (bW D 158 (cC D ad) ad A) A) rfl ⟨by decide +kernel, rfl, Nat.le_of_ble_eq_true rfl⟩ ?_
  intro p e s mm args below meth c A ls B hW hE hl hls
  have hx := B.1.1
  have hb := B.1.2.1
  have hl : lv_has ls 1 [(0, .ref (V.1 i))] := hl
  have kz := B.1.2.2.2.2 (.fieldLink RJ0 38 "java/lang/String" "COMPACT_STRINGS" "Z") (by decide +kernel)
  have kc := B.1.2.2.2.2 (.fieldLink RJ0 15 "java/lang/String" "coder" "B") (by decide +kernel)
  refine va_gets hx hb hE.1.2.1 hW.2.2.1 B.1.2.2.2.1 kz (fun _ h => h) dJ0_isLatin1_aae02_0 ?_
  refine lv_if_eq (tgt := 17) hx hb dJ0_isLatin1_aae02_3 (by decide) (fun h => absurd h (by decide)) (fun _ => ?_)
  refine lv_aload_n hx hb dJ0_isLatin1_aae02_6 rfl (lv_at hl 0 rfl) ?_
  refine vk_getf hx hb (hE.1.1.1 i hi).2.1 hW.2.2.1 B.1.2.2.2.1 kc (fun _ h => h) dJ0_isLatin1_aae02_7 ?_
  refine lv_if_ne (tgt := 17) hx hb dJ0_isLatin1_aae02_10 (by decide) (fun h => absurd rfl h) (fun _ => ?_)
  refine lv_iconst (v := 1) hx hb dJ0_isLatin1_aae02_13 (by decide) ?_
  refine lv_goto (tgt := 18) hx hb dJ0_isLatin1_aae02_14 (by decide) ?_
  exact x_nret B hW rfl ⟨rfl, rfl⟩ dJ0_isLatin1_aae02_18

theorem shr0 (x : Int32) : x >>> (0 &&& 31) = x := by
  apply Int32.toBitVec_inj.mp
  simp
set_option maxHeartbeats 4000000 in
set_option maxRecDepth 100000 in
theorem hd_J0_length_8abf5 : yJ0_length_8abf5.cls = RJ0 ∧ yJ0_length_8abf5.cls ≠ "java/lang/invoke/MethodHandle" ∧ yJ0_length_8abf5.cls ≠ "java/lang/invoke/VarHandle" ∧ (parseMethodDescriptor yJ0_length_8abf5.desc).map (fun d => d.parameters.length) = some 0 := by decide +kernel
set_option maxHeartbeats 4000000 in
set_option maxRecDepth 100000 in
theorem c_J0_length_8abf5 {D : va_G} {ad : Nat → Nat} {V : vE} (l : Launch) (sz : Nat) (S : vS) (i : Nat) (hi : i < 6) : Met l yJ0_length_8abf5 wsJ0_length_8abf5 (rmD 1) (pE D 158 (cC D ad) ad sz V S [.ref (V.1 i)]) (va_Qi (fun (r : Int32) (S1 : vS) => r = x_J0_length_8abf5 S i ∧ S1 = S) (bW D 158 (cC D ad) ad (aW 158 ad sz)) (aW 158 ad sz)) 0 0 (aW 158 ad sz) := by
  refine x_metE (own := RJ0) (cc := cJ0_length_8abf5) (maxL := 1) (ret := (some .int)) (Qc := fun A => va_Qi (fun (r : Int32) (S1 : vS) => r = x_J0_length_8abf5 S i ∧ S1 = S) (bW D 158 (cC D ad) ad A) A) rfl ⟨by decide +kernel, rfl, Nat.le_of_ble_eq_true rfl⟩ ?_
  intro p e s mm args below meth c A ls B hW hE hl hls
  have hx := B.1.1
  have hb := B.1.2.1
  have hl : lv_has ls 1 [(0, .ref (V.1 i))] := hl
  have kv := B.1.2.2.2.2 (.fieldLink RJ0 9 "java/lang/String" "value" "[B") (by decide +kernel)
  refine lv_aload_n hx hb dJ0_length_8abf5_0 rfl (lv_at hl 0 rfl) ?_
  refine vk_getf hx hb (hE.1.1.1 i hi).2.2.1 hW.2.2.1 B.1.2.2.2.1 kv (fun _ h => h) dJ0_length_8abf5_1 ?_
  refine va_tlen hx hb (hE.1.1.1 i hi).2.2.2 hW.2.2.1 (v := nI (lnE.getD i 0)) rfl dJ0_length_8abf5_4 ?_
  refine lv_aload_n hx hb dJ0_length_8abf5_5 rfl (lv_at hl 0 rfl) ?_
  refine x_calli hW (x_runTE B hW hE hi (As := []) (rest := .int (nI (lnE.getD i 0)) :: []) (c_J0_coder_7d493 (D := D) (ad := ad) (V := V) l _ S i hi) (cwV 0 B.1.2.2.2.2 gJ0_length_8abf5_J0_coder_7d493 rfl rfl rfl hd_J0_coder_7d493 ⟨Nat.le_of_ble_eq_true rfl, Nat.le_of_ble_eq_true rfl⟩) rfl hls (Nat.le_of_ble_eq_true rfl) dJ0_length_8abf5_6 ⟨Nat.zero_le _, Nat.zero_le _⟩) (fun r S1 H locs he hW => ?_)
  obtain ⟨rfl, hs⟩ := he
  rw [hs] at hW
  refine lv_ishr hx hb dJ0_length_8abf5_9 ?_
  exact x_iret B hW ⟨shr0 _, rfl⟩ dJ0_length_8abf5_10

set_option maxHeartbeats 4000000 in
set_option maxRecDepth 100000 in
theorem hd_J0_charAt_5068e : yJ0_charAt_5068e.cls = RJ0 ∧ yJ0_charAt_5068e.cls ≠ "java/lang/invoke/MethodHandle" ∧ yJ0_charAt_5068e.cls ≠ "java/lang/invoke/VarHandle" ∧ (parseMethodDescriptor yJ0_charAt_5068e.desc).map (fun d => d.parameters.length) = some 1 := by decide +kernel
set_option maxHeartbeats 4000000 in
set_option maxRecDepth 100000 in
theorem c_J0_charAt_5068e {D : va_G} {ad : Nat → Nat} {V : vE} (l : Launch) (sz : Nat) (S : vS) (i k : Nat) (hi : i < 6) (hk : k < lnE.getD i 0) : Met l yJ0_charAt_5068e wsJ0_charAt_5068e (rmD 3) (pE D 158 (cC D ad) ad sz V S [.ref (V.1 i), .int (nI k)]) (va_Qi (fun (r : Int32) (S1 : vS) => r = x_J0_charAt_5068e S i k ∧ S1 = S) (bW D 158 (cC D ad) ad (aW 158 ad sz)) (aW 158 ad sz)) 0 0 (aW 158 ad sz) := by
  refine x_metE (own := RJ0) (cc := cJ0_charAt_5068e) (maxL := 2) (ret := (some .char)) (Qc := fun A => va_Qi (fun (r : Int32) (S1 : vS) => r = x_J0_charAt_5068e S i k ∧ S1 = S) (bW D 158 (cC D ad) ad A) A) rfl ⟨by decide +kernel, rfl, Nat.le_of_ble_eq_true rfl⟩ ?_
  intro p e s mm args below meth c A ls B hW hE hl hls
  have hx := B.1.1
  have hb := B.1.2.1
  have hl : lv_has ls 2 [(0, .ref (V.1 i)), (1, .int (nI k))] := hl
  have kv := B.1.2.2.2.2 (.fieldLink RJ0 9 "java/lang/String" "value" "[B") (by decide +kernel)
  refine lv_aload_n hx hb dJ0_charAt_5068e_0 rfl (lv_at hl 0 rfl) ?_
  refine x_calli hW (x_runTE B hW hE hi (As := []) (rest := []) (c_J0_isLatin1_aae02 (D := D) (ad := ad) (V := V) l _ S i hi) (cwV 0 B.1.2.2.2.2 gJ0_charAt_5068e_J0_isLatin1_aae02 rfl rfl rfl hd_J0_isLatin1_aae02 ⟨Nat.le_of_ble_eq_true rfl, Nat.le_of_ble_eq_true rfl⟩) rfl hls (Nat.le_of_ble_eq_true rfl) dJ0_charAt_5068e_1 ⟨Nat.zero_le _, Nat.zero_le _⟩) (fun r S1 H locs he hW => ?_)
  obtain ⟨rfl, hs⟩ := he
  rw [hs] at hW
  refine lv_if_eq (tgt := 16) hx hb dJ0_charAt_5068e_4 (by decide) (fun h => absurd h (by decide)) (fun _ => ?_)
  refine lv_aload_n hx hb dJ0_charAt_5068e_7 rfl (lv_at hl 0 rfl) ?_
  refine vk_getf hx hb (hE.1.1.1 i hi).2.2.1 hW.2.2.1 B.1.2.2.2.1 kv (fun _ h => h) dJ0_charAt_5068e_8 ?_
  refine lv_iload_n hx hb dJ0_charAt_5068e_11 rfl (lv_at hl 1 rfl) ?_
  refine x_calli hW (x_runSE B hW hE (As := [.ref (V.2.1 i), .int (nI k)]) (rest := []) (c_J1_charAt_3b067 (D := D) (ad := ad) (V := V) l _ S i k hi hk) (va_cwS 2 B.1.2.2.2.2 gJ0_charAt_5068e_J1_charAt_3b067 rfl rfl rfl hd_J1_charAt_3b067.2 ⟨Nat.le_of_ble_eq_true rfl, Nat.le_of_ble_eq_true rfl⟩) rfl hls (Nat.le_of_ble_eq_true rfl) dJ0_charAt_5068e_12 ⟨Nat.zero_le _, Nat.zero_le _⟩) (fun r S1 H locs he hW => ?_)
  obtain ⟨hr, hs⟩ := he
  rw [hs] at hW
  exact x_nret B hW (by rw [hr, ← chE_eq i hi k hk]; exact chE_nar i k) ⟨hr, rfl⟩ dJ0_charAt_5068e_15

theorem rw_lt {S : vS} {w n : Nat} {r : Int32} (hr : r = x_J0_length_8abf5 S w) (hw : w < 6) (h : ¬ r ≤ nI n) (hn : n ≤ 2000) : n < lnE.getD w 0 := by
  rw [hr] at h
  exact nI_of_nle (lnE_le w hw).1 h hn
end JSTR
