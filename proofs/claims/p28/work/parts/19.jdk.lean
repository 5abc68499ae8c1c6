section P19_jdk
def x_J9_floorMod_7cf53 (S : vS) (p1 : Int32) (p2 : Int32) : Int32 := nm ((p1 - p1 / p2 * p2)) (fun x_3 => if 0 ≤ (p1 ^^^ p2) then x_3 else if x_3 = 0 then x_3 else (x_3 + p2))
theorem hd_J9_floorMod_7cf53 : yJ9_floorMod_7cf53.cls = RJ9 ∧ yJ9_floorMod_7cf53.cls ≠ "java/lang/invoke/MethodHandle" ∧ yJ9_floorMod_7cf53.cls ≠ "java/lang/invoke/VarHandle" ∧ (parseMethodDescriptor yJ9_floorMod_7cf53.desc).map (fun d => d.parameters.length) = some 2 := by decide +kernel
set_option maxHeartbeats 4000000 in
set_option maxRecDepth 100000 in
theorem c_J9_floorMod_7cf53 {D : va_G} {ad : Nat → Nat} (l : Launch) (sz : Nat) (S : vS) (p1 : Int32) (p2 : Int32) (hnz : ¬ p2 = 0) : Met l yJ9_floorMod_7cf53 wsJ9_floorMod_7cf53 (rmD 0) (pW D 157 (cC D ad) ad sz S [.int p1, .int p2]) (va_Qi (fun (r : Int32) (S1 : vS) => r = (x_J9_floorMod_7cf53 S p1 p2) ∧ S1 = S) (bW D 157 (cC D ad) ad (aW 157 ad sz)) (aW 157 ad sz)) 0 0 (aW 157 ad sz) := by
  refine x_met (own := RJ9) (cc := cJ9_floorMod_7cf53) (maxL := 3) (ret := (some .int)) (Qc := fun A => va_Qi (fun (r : Int32) (S1 : vS) => r = (x_J9_floorMod_7cf53 S p1 p2) ∧ S1 = S) (bW D 157 (cC D ad) ad A) A) rfl ⟨by decide +kernel, rfl, Nat.le_of_ble_eq_true rfl⟩ ?_
  intro p e s mm args below meth c A ls B hW hl hls
  have hx := B.1.1
  have hb := B.1.2.1
  have zk := x_J9_floorMod_7cf53.eq_1 S p1 p2
  have hl : lv_has ls 3 [(0, .int p1), (1, .int p2)] := hl
  refine lv_iload_n hx hb dJ9_floorMod_7cf53_0 rfl (lv_at hl 0 rfl) ?_
  refine lv_iload_n hx hb dJ9_floorMod_7cf53_1 rfl (lv_at hl 1 rfl) ?_
  refine lv_irem hx hb dJ9_floorMod_7cf53_2 hnz ?_
  refine lv_topi (fun x_3 ex_3 => ?_)
  have zk := nm_at zk ex_3
  refine lv_istore_n (lv' := [(2, .int x_3), (0, .int p1), (1, .int p2)]) hx hb dJ9_floorMod_7cf53_3 rfl hl (by decide) rfl (fun ls hl => ?_)
  have hls := hl.1
  refine lv_iload_n hx hb dJ9_floorMod_7cf53_4 rfl (lv_at hl 1 rfl) ?_
  refine lv_iload_n hx hb dJ9_floorMod_7cf53_5 rfl (lv_at hl 2 rfl) ?_
  refine lv_ixor hx hb dJ9_floorMod_7cf53_6 ?_
  refine lv_if_ge (tgt := 18) hx hb dJ9_floorMod_7cf53_7 (by decide) (fun c_7 => ?_) (fun c_7 => ?_)
  · have zk := zk.trans (if_pos c_7)
    refine lv_iload_n hx hb dJ9_floorMod_7cf53_18 rfl (lv_at hl 0 rfl) ?_
    exact x_iret B hW ⟨zk.symm, rfl⟩ dJ9_floorMod_7cf53_19
  · have zk := zk.trans (if_neg c_7)
    refine lv_iload_n hx hb dJ9_floorMod_7cf53_10 rfl (lv_at hl 0 rfl) ?_
    refine lv_if_eq (tgt := 18) hx hb dJ9_floorMod_7cf53_11 (by decide) (fun c_11 => ?_) (fun c_11 => ?_)
    · have zk := zk.trans (if_pos c_11)
      refine lv_iload_n hx hb dJ9_floorMod_7cf53_18 rfl (lv_at hl 0 rfl) ?_
      exact x_iret B hW ⟨zk.symm, rfl⟩ dJ9_floorMod_7cf53_19
    · have zk := zk.trans (if_neg c_11)
      refine lv_iload_n hx hb dJ9_floorMod_7cf53_14 rfl (lv_at hl 0 rfl) ?_
      refine lv_iload_n hx hb dJ9_floorMod_7cf53_15 rfl (lv_at hl 2 rfl) ?_
      refine lv_iadd hx hb dJ9_floorMod_7cf53_16 ?_
      exact x_iret B hW ⟨zk.symm, rfl⟩ dJ9_floorMod_7cf53_17

end P19_jdk
