section P20_member
def x_X2_hasLoan (S : vS) (g k : Nat) : Int32 := if (S (gM g k) 7) ≤ 0 then 0 else 1
theorem hd_X2_hasLoan : yX2_hasLoan.cls = RX2 ∧ yX2_hasLoan.cls ≠ "java/lang/invoke/MethodHandle" ∧ yX2_hasLoan.cls ≠ "java/lang/invoke/VarHandle" ∧ (parseMethodDescriptor yX2_hasLoan.desc).map (fun d => d.parameters.length) = some 0 := by decide +kernel
set_option maxHeartbeats 4000000 in
set_option maxRecDepth 100000 in
theorem c_X2_hasLoan {D : va_G} {ad : Nat → Nat} (l : Launch) (sz : Nat) (S : vS) (g k : Nat) (hg : g < 8) (hk : k < 8) : Met l yX2_hasLoan wsX2_hasLoan (rmD 0) (pW D 157 (cC D ad) ad sz S [.ref (ad (gM g k))]) (va_Qi (fun (r : Int32) (S1 : vS) => r = (x_X2_hasLoan S g k) ∧ S1 = S ∧ (r = 0 ∨ r = 1)) (bW D 157 (cC D ad) ad (aW 157 ad sz)) (aW 157 ad sz)) 0 0 (aW 157 ad sz) := by
  refine x_met (own := RX2) (cc := cX2_hasLoan) (maxL := 1) (ret := (some .boolean)) (Qc := fun A => va_Qi (fun (r : Int32) (S1 : vS) => r = (x_X2_hasLoan S g k) ∧ S1 = S ∧ (r = 0 ∨ r = 1)) (bW D 157 (cC D ad) ad A) A) rfl ⟨by decide +kernel, rfl, Nat.le_of_ble_eq_true rfl⟩ ?_
  intro p e s mm args below meth c A ls B hW hl hls
  have hx := B.1.1
  have hb := B.1.2.1
  have hin_X2 : ∀ w ∈ wsX20, w ∈ wsX2_hasLoan := fun w h => List.mem_cons_of_mem _ (List.mem_append_right _ h)
  have k_19 := B.1.2.2.2.2 (.fieldLink RX2 19 "JointLoans$Member" "loanWeeks" "I") (by decide +kernel)
  have zk := x_X2_hasLoan.eq_1 S g k
  have hl : lv_has ls 1 [(0, .ref (ad (gM g k)))] := hl
  refine lv_aload_n hx hb dX2_hasLoan_0 rfl (lv_at hl 0 rfl) ?_
  refine x_get B hW (hqM hg hk) (cC_M hg hk) cls2 hin_X2 7 (by decide) (v := .int (S (gM g k) 7)) rfl k_19 dX2_hasLoan_1 ?_
  refine lv_if_le (tgt := 11) hx hb dX2_hasLoan_4 (by decide) (fun c_4 => ?_) (fun c_4 => ?_)
  · have zk := zk.trans (if_pos c_4)
    refine lv_iconst (v := 0) hx hb dX2_hasLoan_11 (by decide) ?_
    exact x_zret B hW (Or.inl rfl) ⟨zk.symm, rfl, (Or.inl rfl)⟩ dX2_hasLoan_12
  · have zk := zk.trans (if_neg c_4)
    refine lv_iconst (v := 1) hx hb dX2_hasLoan_7 (by decide) ?_
    refine lv_goto (tgt := 12) hx hb dX2_hasLoan_8 (by decide) ?_
    exact x_zret B hW (Or.inr rfl) ⟨zk.symm, rfl, (Or.inr rfl)⟩ dX2_hasLoan_12

def x_X2_part (S : vS) (g k : Nat) : Int32 := if (S (gM g k) 7) = 1 then (S (gM g k) 6) else (S (gM g k) 4)
theorem hd_X2_part : yX2_part.cls = RX2 ∧ yX2_part.cls ≠ "java/lang/invoke/MethodHandle" ∧ yX2_part.cls ≠ "java/lang/invoke/VarHandle" ∧ (parseMethodDescriptor yX2_part.desc).map (fun d => d.parameters.length) = some 0 := by decide +kernel
set_option maxHeartbeats 4000000 in
set_option maxRecDepth 100000 in
theorem c_X2_part {D : va_G} {ad : Nat → Nat} (l : Launch) (sz : Nat) (S : vS) (g k : Nat) (hg : g < 8) (hk : k < 8) : Met l yX2_part wsX2_part (rmD 0) (pW D 157 (cC D ad) ad sz S [.ref (ad (gM g k))]) (va_Qi (fun (r : Int32) (S1 : vS) => r = (x_X2_part S g k) ∧ S1 = S) (bW D 157 (cC D ad) ad (aW 157 ad sz)) (aW 157 ad sz)) 0 0 (aW 157 ad sz) := by
  refine x_met (own := RX2) (cc := cX2_part) (maxL := 1) (ret := (some .int)) (Qc := fun A => va_Qi (fun (r : Int32) (S1 : vS) => r = (x_X2_part S g k) ∧ S1 = S) (bW D 157 (cC D ad) ad A) A) rfl ⟨by decide +kernel, rfl, Nat.le_of_ble_eq_true rfl⟩ ?_
  intro p e s mm args below meth c A ls B hW hl hls
  have hx := B.1.1
  have hb := B.1.2.1
  have hin_X2 : ∀ w ∈ wsX20, w ∈ wsX2_part := fun w h => List.mem_cons_of_mem _ (List.mem_append_right _ h)
  have k_19 := B.1.2.2.2.2 (.fieldLink RX2 19 "JointLoans$Member" "loanWeeks" "I") (by decide +kernel)
  have k_22 := B.1.2.2.2.2 (.fieldLink RX2 22 "JointLoans$Member" "loanLeft" "I") (by decide +kernel)
  have k_25 := B.1.2.2.2.2 (.fieldLink RX2 25 "JointLoans$Member" "loanPart" "I") (by decide +kernel)
  have zk := x_X2_part.eq_1 S g k
  have hl : lv_has ls 1 [(0, .ref (ad (gM g k)))] := hl
  refine lv_aload_n hx hb dX2_part_0 rfl (lv_at hl 0 rfl) ?_
  refine x_get B hW (hqM hg hk) (cC_M hg hk) cls2 hin_X2 7 (by decide) (v := .int (S (gM g k) 7)) rfl k_19 dX2_part_1 ?_
  refine lv_iconst (v := 1) hx hb dX2_part_4 (by decide) ?_
  refine lv_icmp_ne (tgt := 15) hx hb dX2_part_5 (by decide) (fun c_5 => ?_) (fun c_5 => ?_)
  · have zk := zk.trans (if_neg c_5)
    refine lv_aload_n hx hb dX2_part_15 rfl (lv_at hl 0 rfl) ?_
    refine x_get B hW (hqM hg hk) (cC_M hg hk) cls2 hin_X2 4 (by decide) (v := .int (S (gM g k) 4)) rfl k_25 dX2_part_16 ?_
    exact x_iret B hW ⟨zk.symm, rfl⟩ dX2_part_19
  · have zk := zk.trans (if_pos c_5)
    refine lv_aload_n hx hb dX2_part_8 rfl (lv_at hl 0 rfl) ?_
    refine x_get B hW (hqM hg hk) (cC_M hg hk) cls2 hin_X2 6 (by decide) (v := .int (S (gM g k) 6)) rfl k_22 dX2_part_9 ?_
    refine lv_goto (tgt := 19) hx hb dX2_part_12 (by decide) ?_
    exact x_iret B hW ⟨zk.symm, rfl⟩ dX2_part_19

def x_X2_due (S : vS) (g k : Nat) : Int32 := nm (x_X2_hasLoan S g k) (fun r_1 => if r_1 = 0 then 0 else nm (x_X2_part S g k) (fun r_8 => (r_8 + (S (gM g k) 5))))
theorem hd_X2_due : yX2_due.cls = RX2 ∧ yX2_due.cls ≠ "java/lang/invoke/MethodHandle" ∧ yX2_due.cls ≠ "java/lang/invoke/VarHandle" ∧ (parseMethodDescriptor yX2_due.desc).map (fun d => d.parameters.length) = some 0 := by decide +kernel
set_option maxHeartbeats 4000000 in
set_option maxRecDepth 100000 in
theorem c_X2_due {D : va_G} {ad : Nat → Nat} (l : Launch) (sz : Nat) (S : vS) (g k : Nat) (hg : g < 8) (hk : k < 8) : Met l yX2_due wsX2_due (rmD 1) (pW D 157 (cC D ad) ad sz S [.ref (ad (gM g k))]) (va_Qi (fun (r : Int32) (S1 : vS) => r = (x_X2_due S g k) ∧ S1 = S) (bW D 157 (cC D ad) ad (aW 157 ad sz)) (aW 157 ad sz)) 0 0 (aW 157 ad sz) := by
  refine x_met (own := RX2) (cc := cX2_due) (maxL := 1) (ret := (some .int)) (Qc := fun A => va_Qi (fun (r : Int32) (S1 : vS) => r = (x_X2_due S g k) ∧ S1 = S) (bW D 157 (cC D ad) ad A) A) rfl ⟨by decide +kernel, rfl, Nat.le_of_ble_eq_true rfl⟩ ?_
  intro p e s mm args below meth c A ls B hW hl hls
  have hx := B.1.1
  have hb := B.1.2.1
  have hin_X2 : ∀ w ∈ wsX20, w ∈ wsX2_due := fun w h => List.mem_cons_of_mem _ (List.mem_append_right _ h)
  have k_36 := B.1.2.2.2.2 (.fieldLink RX2 36 "JointLoans$Member" "loanInterest" "I") (by decide +kernel)
  have zk := x_X2_due.eq_1 S g k
  have hl : lv_has ls 1 [(0, .ref (ad (gM g k)))] := hl
  refine lv_aload_n hx hb dX2_due_0 rfl (lv_at hl 0 rfl) ?_
  refine x_calli hW (x_runV B hW (As := []) (rest := []) (hqM hg hk) (cC_M hg hk) cls2 (c_X2_hasLoan (D := D) (ad := ad) l _ S g k hg hk) (cwV 0 B.1.2.2.2.2 gX2_due_X2_hasLoan rfl rfl rfl hd_X2_hasLoan ⟨Nat.le_of_ble_eq_true rfl, Nat.le_of_ble_eq_true rfl⟩) rfl hls (Nat.le_of_ble_eq_true rfl) dX2_due_1 ⟨Nat.zero_le _, Nat.zero_le _⟩) (fun r_1 S_1 H locs he hW => ?_)
  obtain ⟨hr_1, hs, hz_1⟩ := he
  rw [hs] at hW
  have zk := nm_at zk hr_1
  refine lv_if_eq (tgt := 19) hx hb dX2_due_4 (by decide) (fun c_4 => ?_) (fun c_4 => ?_)
  · have zk := zk.trans (if_pos c_4)
    refine lv_iconst (v := 0) hx hb dX2_due_19 (by decide) ?_
    exact x_iret B hW ⟨zk.symm, rfl⟩ dX2_due_20
  · have zk := zk.trans (if_neg c_4)
    refine lv_aload_n hx hb dX2_due_7 rfl (lv_at hl 0 rfl) ?_
    refine x_calli hW (x_runV B hW (As := []) (rest := []) (hqM hg hk) (cC_M hg hk) cls2 (c_X2_part (D := D) (ad := ad) l _ S g k hg hk) (cwV 0 B.1.2.2.2.2 gX2_due_X2_part rfl rfl rfl hd_X2_part ⟨Nat.le_of_ble_eq_true rfl, Nat.le_of_ble_eq_true rfl⟩) rfl hls (Nat.le_of_ble_eq_true rfl) dX2_due_8 ⟨Nat.zero_le _, Nat.zero_le _⟩) (fun r_8 S_8 H locs he hW => ?_)
    obtain ⟨hr_8, hs⟩ := he
    rw [hs] at hW
    have zk := nm_at zk hr_8
    refine lv_aload_n hx hb dX2_due_11 rfl (lv_at hl 0 rfl) ?_
    refine x_get B hW (hqM hg hk) (cC_M hg hk) cls2 hin_X2 5 (by decide) (v := .int (S (gM g k) 5)) rfl k_36 dX2_due_12 ?_
    refine lv_iadd hx hb dX2_due_15 ?_
    refine lv_goto (tgt := 20) hx hb dX2_due_16 (by decide) ?_
    exact x_iret B hW ⟨zk.symm, rfl⟩ dX2_due_20

def x_X2_debtToMembers_L13 : Nat → vS → Nat → Nat → Nat → Int32 → Int32
  | 0, S, _, _, _, _ => 0
  | n + 1, S, g, k, n4, v1 => if 8 ≤ (nI n4) then v1 else nm ((S (gD g k) n4)) (fun x_23 => nm ((v1 + x_23)) (fun x_29 => x_X2_debtToMembers_L13 n S g k ((n4 + 1)) (x_29)))
def x_X2_debtToMembers (S : vS) (g k : Nat) : Int32 := x_X2_debtToMembers_L13 (9) S g k (0) (0)
theorem hd_X2_debtToMembers : yX2_debtToMembers.cls = RX2 ∧ yX2_debtToMembers.cls ≠ "java/lang/invoke/MethodHandle" ∧ yX2_debtToMembers.cls ≠ "java/lang/invoke/VarHandle" ∧ (parseMethodDescriptor yX2_debtToMembers.desc).map (fun d => d.parameters.length) = some 0 := by decide +kernel
set_option maxHeartbeats 4000000 in
set_option maxRecDepth 100000 in
theorem w_X2_debtToMembers_L13 {D : va_G} {ad : Nat → Nat} (l : Launch) {p : Program} {e : Env} {s : State} {mm : MethodId} {args : Array Value} {below : List Frame} {meth : Method} {c : Code} {A : Nat → Prop} (B : Cx p mm c cX2_debtToMembers 6 s args wsX2_debtToMembers RX2 meth (some .int) D) (S : vS) (z : Int32) (g k : Nat) (hg : g < 8) (hk : k < 8) : ∀ (n : Nat) (n4 : Nat) (v1 : Int32) (H : Heap) (locs : List Loc) (ls : Array Slot), n4 ≤ 8 → n4 + n = 9 → Wd D 157 (cC D ad) ad A s.heap S H locs → lv_has ls 6 [(4, .int (nI n4)), (3, .int 8), (2, .ref (ad (gD g k))), (1, .int v1)] → ls.size = 6 → z = x_X2_debtToMembers_L13 n S g k n4 v1 → W p l e (rmD 0) s mm args below meth c H locs 0 0 (MQ below (va_Qi (fun (r : Int32) (S1 : vS) => r = z ∧ S1 = S) (bW D 157 (cC D ad) ad A) A) args s 0 0 A) (F0 mm 13 ls []) := by
  have hx := B.1.1
  have hb := B.1.2.1
  have hin_X2 : ∀ w ∈ wsX20, w ∈ wsX2_debtToMembers := fun w h => List.mem_cons_of_mem _ (List.mem_append_right _ h)
  have k_9 := B.1.2.2.2.2 (.fieldLink RX2 9 "JointLoans$Member" "debts" "[I") (by decide +kernel)
  intro n
  induction n with
  | zero =>
    intro n4 v1 H locs ls hle hsum
    omega
  | succ n ih =>
    intro n4 v1 H locs ls hle hsum hW hl hls zk
    have zk := zk.trans (x_X2_debtToMembers_L13.eq_2 _ _ _ _ _ _ )
    refine lv_iload hx hb dX2_debtToMembers_13 (lv_at hl 0 rfl) ?_
    refine lv_iload_n hx hb dX2_debtToMembers_15 rfl (lv_at hl 1 rfl) ?_
    refine lv_icmp_ge (tgt := 36) hx hb dX2_debtToMembers_16 (by decide) (fun c_16 => ?_) (fun c_16 => ?_)
    · have zk := zk.trans (if_pos c_16)
      refine lv_iload_n hx hb dX2_debtToMembers_36 rfl (lv_at hl 3 rfl) ?_
      exact x_iret B hW ⟨zk.symm, rfl⟩ dX2_debtToMembers_37
    · have zk := zk.trans (if_neg c_16)
      have hb_c_16 : n4 < 8 := nI_of_nle (by decide) c_16 (by omega)
      refine lv_aload_n hx hb dX2_debtToMembers_19 rfl (lv_at hl 2 rfl) ?_
      refine lv_iload hx hb dX2_debtToMembers_20 (lv_at hl 0 rfl) ?_
      refine x_iald B hW (hqD hg hk) (cC_D hg hk) (isN_nI hb_c_16 (by decide)) (by decide) (by decide) dX2_debtToMembers_22 ?_
      refine lv_topi (fun x_23 ex_23 => ?_)
      have zk := nm_at zk ex_23
      refine lv_istore (lv' := [(5, .int x_23), (4, .int (nI n4)), (3, .int 8), (2, .ref (ad (gD g k))), (1, .int v1)]) hx hb dX2_debtToMembers_23 hl (by decide) rfl (fun ls hl => ?_)
      have hls := hl.1
      refine lv_iload_n hx hb dX2_debtToMembers_25 rfl (lv_at hl 4 rfl) ?_
      refine lv_iload hx hb dX2_debtToMembers_26 (lv_at hl 0 rfl) ?_
      refine lv_iadd hx hb dX2_debtToMembers_28 ?_
      refine lv_topi (fun x_29 ex_29 => ?_)
      have zk := nm_at zk ex_29
      refine lv_istore_n (lv' := [(1, .int x_29), (5, .int x_23), (4, .int (nI n4)), (3, .int 8), (2, .ref (ad (gD g k)))]) hx hb dX2_debtToMembers_29 rfl hl (by decide) rfl (fun ls hl => ?_)
      have hls := hl.1
      refine lv_iinc (v := (nI (n4 + 1))) (lv' := [(4, .int (nI (n4 + 1))), (1, .int x_29), (5, .int x_23), (3, .int 8), (2, .ref (ad (gD g k)))]) hx hb dX2_debtToMembers_30 hl (k := 2) rfl (nI_1 _) (by decide) rfl (fun ls hl => ?_)
      have hls := hl.1
      refine lv_goto (tgt := 13) hx hb dX2_debtToMembers_33 (by decide) ?_
      exact ih ((n4 + 1)) (x_29)  _ _ _ (show (n4 + 1) ≤ 8 by omega) (show (n4 + 1) + n = 9 by omega) hW (lv_sub hl [0, 3, 4, 1] rfl) hls zk
set_option maxHeartbeats 4000000 in
set_option maxRecDepth 100000 in
theorem c_X2_debtToMembers {D : va_G} {ad : Nat → Nat} (l : Launch) (sz : Nat) (S : vS) (g k : Nat) (hg : g < 8) (hk : k < 8) : Met l yX2_debtToMembers wsX2_debtToMembers (rmD 0) (pW D 157 (cC D ad) ad sz S [.ref (ad (gM g k))]) (va_Qi (fun (r : Int32) (S1 : vS) => r = (x_X2_debtToMembers S g k) ∧ S1 = S) (bW D 157 (cC D ad) ad (aW 157 ad sz)) (aW 157 ad sz)) 0 0 (aW 157 ad sz) := by
  refine x_met (own := RX2) (cc := cX2_debtToMembers) (maxL := 6) (ret := (some .int)) (Qc := fun A => va_Qi (fun (r : Int32) (S1 : vS) => r = (x_X2_debtToMembers S g k) ∧ S1 = S) (bW D 157 (cC D ad) ad A) A) rfl ⟨by decide +kernel, rfl, Nat.le_of_ble_eq_true rfl⟩ ?_
  intro p e s mm args below meth c A ls B hW hl hls
  have hx := B.1.1
  have hb := B.1.2.1
  have hin_X2 : ∀ w ∈ wsX20, w ∈ wsX2_debtToMembers := fun w h => List.mem_cons_of_mem _ (List.mem_append_right _ h)
  have k_9 := B.1.2.2.2.2 (.fieldLink RX2 9 "JointLoans$Member" "debts" "[I") (by decide +kernel)
  have zk := x_X2_debtToMembers.eq_1 S g k
  have hl : lv_has ls 6 [(0, .ref (ad (gM g k)))] := hl
  refine lv_iconst (v := 0) hx hb dX2_debtToMembers_0 (by decide) ?_
  refine lv_istore_n (lv' := [(1, .int 0), (0, .ref (ad (gM g k)))]) hx hb dX2_debtToMembers_1 rfl hl (by decide) rfl (fun ls hl => ?_)
  have hls := hl.1
  refine lv_aload_n hx hb dX2_debtToMembers_2 rfl (lv_at hl 1 rfl) ?_
  refine x_get B hW (hqM hg hk) (cC_M hg hk) cls2 hin_X2 15 (by decide) (v := .ref (ad (gD g k))) rfl k_9 dX2_debtToMembers_3 ?_
  refine lv_astore_n (lv' := [(2, .ref (ad (gD g k))), (1, .int 0), (0, .ref (ad (gM g k)))]) hx hb dX2_debtToMembers_6 rfl hl (by decide) rfl (fun ls hl => ?_)
  have hls := hl.1
  refine lv_aload_n hx hb dX2_debtToMembers_7 rfl (lv_at hl 0 rfl) ?_
  refine x_alen B hW (hqD hg hk) (cC_D hg hk) (k := 0) rfl (v := 8) rfl dX2_debtToMembers_8 ?_
  refine lv_istore_n (lv' := [(3, .int 8), (2, .ref (ad (gD g k))), (1, .int 0), (0, .ref (ad (gM g k)))]) hx hb dX2_debtToMembers_9 rfl hl (by decide) rfl (fun ls hl => ?_)
  have hls := hl.1
  refine lv_iconst (v := 0) hx hb dX2_debtToMembers_10 (by decide) ?_
  refine lv_istore (lv' := [(4, .int 0), (3, .int 8), (2, .ref (ad (gD g k))), (1, .int 0), (0, .ref (ad (gM g k)))]) hx hb dX2_debtToMembers_11 hl (by decide) rfl (fun ls hl => ?_)
  have hls := hl.1
  exact w_X2_debtToMembers_L13 l B S _ g k hg hk (9) (0) (0)  _ _ _ (show 0 ≤ 8 by omega) (show 0 + (9) = 9 by omega) hW (lv_sub hl [0, 1, 2, 3] rfl) hls zk

def x_X2_hasDebts (S : vS) (g k : Nat) : Int32 := if 0 < (S (gM g k) 11) then 1 else if 0 < (S (gM g k) 12) then 1 else nm (x_X2_debtToMembers S g k) (fun r_15 => if r_15 ≤ 0 then 0 else 1)
theorem hd_X2_hasDebts : yX2_hasDebts.cls = RX2 ∧ yX2_hasDebts.cls ≠ "java/lang/invoke/MethodHandle" ∧ yX2_hasDebts.cls ≠ "java/lang/invoke/VarHandle" ∧ (parseMethodDescriptor yX2_hasDebts.desc).map (fun d => d.parameters.length) = some 0 := by decide +kernel
set_option maxHeartbeats 4000000 in
set_option maxRecDepth 100000 in
theorem c_X2_hasDebts {D : va_G} {ad : Nat → Nat} (l : Launch) (sz : Nat) (S : vS) (g k : Nat) (hg : g < 8) (hk : k < 8) : Met l yX2_hasDebts wsX2_hasDebts (rmD 1) (pW D 157 (cC D ad) ad sz S [.ref (ad (gM g k))]) (va_Qi (fun (r : Int32) (S1 : vS) => r = (x_X2_hasDebts S g k) ∧ S1 = S ∧ (r = 0 ∨ r = 1)) (bW D 157 (cC D ad) ad (aW 157 ad sz)) (aW 157 ad sz)) 0 0 (aW 157 ad sz) := by
  refine x_met (own := RX2) (cc := cX2_hasDebts) (maxL := 1) (ret := (some .boolean)) (Qc := fun A => va_Qi (fun (r : Int32) (S1 : vS) => r = (x_X2_hasDebts S g k) ∧ S1 = S ∧ (r = 0 ∨ r = 1)) (bW D 157 (cC D ad) ad A) A) rfl ⟨by decide +kernel, rfl, Nat.le_of_ble_eq_true rfl⟩ ?_
  intro p e s mm args below meth c A ls B hW hl hls
  have hx := B.1.1
  have hb := B.1.2.1
  have hin_X2 : ∀ w ∈ wsX20, w ∈ wsX2_hasDebts := fun w h => List.mem_cons_of_mem _ (List.mem_append_right _ h)
  have k_39 := B.1.2.2.2.2 (.fieldLink RX2 39 "JointLoans$Member" "bankDebt" "I") (by decide +kernel)
  have k_42 := B.1.2.2.2.2 (.fieldLink RX2 42 "JointLoans$Member" "fundDebt" "I") (by decide +kernel)
  have zk := x_X2_hasDebts.eq_1 S g k
  have hl : lv_has ls 1 [(0, .ref (ad (gM g k)))] := hl
  refine lv_aload_n hx hb dX2_hasDebts_0 rfl (lv_at hl 0 rfl) ?_
  refine x_get B hW (hqM hg hk) (cC_M hg hk) cls2 hin_X2 11 (by decide) (v := .int (S (gM g k) 11)) rfl k_39 dX2_hasDebts_1 ?_
  refine lv_if_gt (tgt := 21) hx hb dX2_hasDebts_4 (by decide) (fun c_4 => ?_) (fun c_4 => ?_)
  · have zk := zk.trans (if_pos c_4)
    refine lv_iconst (v := 1) hx hb dX2_hasDebts_21 (by decide) ?_
    refine lv_goto (tgt := 26) hx hb dX2_hasDebts_22 (by decide) ?_
    exact x_zret B hW (Or.inr rfl) ⟨zk.symm, rfl, (Or.inr rfl)⟩ dX2_hasDebts_26
  · have zk := zk.trans (if_neg c_4)
    refine lv_aload_n hx hb dX2_hasDebts_7 rfl (lv_at hl 0 rfl) ?_
    refine x_get B hW (hqM hg hk) (cC_M hg hk) cls2 hin_X2 12 (by decide) (v := .int (S (gM g k) 12)) rfl k_42 dX2_hasDebts_8 ?_
    refine lv_if_gt (tgt := 21) hx hb dX2_hasDebts_11 (by decide) (fun c_11 => ?_) (fun c_11 => ?_)
    · have zk := zk.trans (if_pos c_11)
      refine lv_iconst (v := 1) hx hb dX2_hasDebts_21 (by decide) ?_
      refine lv_goto (tgt := 26) hx hb dX2_hasDebts_22 (by decide) ?_
      exact x_zret B hW (Or.inr rfl) ⟨zk.symm, rfl, (Or.inr rfl)⟩ dX2_hasDebts_26
    · have zk := zk.trans (if_neg c_11)
      refine lv_aload_n hx hb dX2_hasDebts_14 rfl (lv_at hl 0 rfl) ?_
      refine x_calli hW (x_runV B hW (As := []) (rest := []) (hqM hg hk) (cC_M hg hk) cls2 (c_X2_debtToMembers (D := D) (ad := ad) l _ S g k hg hk) (cwV 0 B.1.2.2.2.2 gX2_hasDebts_X2_debtToMembers rfl rfl rfl hd_X2_debtToMembers ⟨Nat.le_of_ble_eq_true rfl, Nat.le_of_ble_eq_true rfl⟩) rfl hls (Nat.le_of_ble_eq_true rfl) dX2_hasDebts_15 ⟨Nat.zero_le _, Nat.zero_le _⟩) (fun r_15 S_15 H locs he hW => ?_)
      obtain ⟨hr_15, hs⟩ := he
      rw [hs] at hW
      have zk := nm_at zk hr_15
      refine lv_if_le (tgt := 25) hx hb dX2_hasDebts_18 (by decide) (fun c_18 => ?_) (fun c_18 => ?_)
      · have zk := zk.trans (if_pos c_18)
        refine lv_iconst (v := 0) hx hb dX2_hasDebts_25 (by decide) ?_
        exact x_zret B hW (Or.inl rfl) ⟨zk.symm, rfl, (Or.inl rfl)⟩ dX2_hasDebts_26
      · have zk := zk.trans (if_neg c_18)
        refine lv_iconst (v := 1) hx hb dX2_hasDebts_21 (by decide) ?_
        refine lv_goto (tgt := 26) hx hb dX2_hasDebts_22 (by decide) ?_
        exact x_zret B hW (Or.inr rfl) ⟨zk.symm, rfl, (Or.inr rfl)⟩ dX2_hasDebts_26

def x_X2_mayBorrow (S : vS) (g k : Nat) (p1 : Int32) : Int32 := nm (x_X2_hasLoan S g k) (fun r_1 => if r_1 = 0 then nm (x_X2_hasDebts S g k) (fun r_8 => if r_8 = 0 then if (S (gM g k) 2) < p1 then 0 else 1 else 0) else 0)
theorem hd_X2_mayBorrow : yX2_mayBorrow.cls = RX2 ∧ yX2_mayBorrow.cls ≠ "java/lang/invoke/MethodHandle" ∧ yX2_mayBorrow.cls ≠ "java/lang/invoke/VarHandle" ∧ (parseMethodDescriptor yX2_mayBorrow.desc).map (fun d => d.parameters.length) = some 1 := by decide +kernel
set_option maxHeartbeats 4000000 in
set_option maxRecDepth 100000 in
theorem c_X2_mayBorrow {D : va_G} {ad : Nat → Nat} (l : Launch) (sz : Nat) (S : vS) (g k : Nat) (p1 : Int32) (hg : g < 8) (hk : k < 8) : Met l yX2_mayBorrow wsX2_mayBorrow (rmD 2) (pW D 157 (cC D ad) ad sz S [.ref (ad (gM g k)), .int p1]) (va_Qi (fun (r : Int32) (S1 : vS) => r = (x_X2_mayBorrow S g k p1) ∧ S1 = S ∧ (r = 0 ∨ r = 1)) (bW D 157 (cC D ad) ad (aW 157 ad sz)) (aW 157 ad sz)) 0 0 (aW 157 ad sz) := by
  refine x_met (own := RX2) (cc := cX2_mayBorrow) (maxL := 2) (ret := (some .boolean)) (Qc := fun A => va_Qi (fun (r : Int32) (S1 : vS) => r = (x_X2_mayBorrow S g k p1) ∧ S1 = S ∧ (r = 0 ∨ r = 1)) (bW D 157 (cC D ad) ad A) A) rfl ⟨by decide +kernel, rfl, Nat.le_of_ble_eq_true rfl⟩ ?_
  intro p e s mm args below meth c A ls B hW hl hls
  have hx := B.1.1
  have hb := B.1.2.1
  have hin_X2 : ∀ w ∈ wsX20, w ∈ wsX2_mayBorrow := fun w h => List.mem_cons_of_mem _ (List.mem_append_right _ h)
  have k_51 := B.1.2.2.2.2 (.fieldLink RX2 51 "JointLoans$Member" "limit" "I") (by decide +kernel)
  have zk := x_X2_mayBorrow.eq_1 S g k p1
  have hl : lv_has ls 2 [(0, .ref (ad (gM g k))), (1, .int p1)] := hl
  refine lv_aload_n hx hb dX2_mayBorrow_0 rfl (lv_at hl 0 rfl) ?_
  refine x_calli hW (x_runV B hW (As := []) (rest := []) (hqM hg hk) (cC_M hg hk) cls2 (c_X2_hasLoan (D := D) (ad := ad) l _ S g k hg hk) (cwV 0 B.1.2.2.2.2 gX2_mayBorrow_X2_hasLoan rfl rfl rfl hd_X2_hasLoan ⟨Nat.le_of_ble_eq_true rfl, Nat.le_of_ble_eq_true rfl⟩) rfl hls (Nat.le_of_ble_eq_true rfl) dX2_mayBorrow_1 ⟨Nat.zero_le _, Nat.zero_le _⟩) (fun r_1 S_1 H locs he hW => ?_)
  obtain ⟨hr_1, hs, hz_1⟩ := he
  rw [hs] at hW
  have zk := nm_at zk hr_1
  refine lv_if_ne (tgt := 26) hx hb dX2_mayBorrow_4 (by decide) (fun c_4 => ?_) (fun c_4 => ?_)
  · have zk := zk.trans (if_neg c_4)
    refine lv_iconst (v := 0) hx hb dX2_mayBorrow_26 (by decide) ?_
    exact x_zret B hW (Or.inl rfl) ⟨zk.symm, rfl, (Or.inl rfl)⟩ dX2_mayBorrow_27
  · have zk := zk.trans (if_pos c_4)
    refine lv_aload_n hx hb dX2_mayBorrow_7 rfl (lv_at hl 0 rfl) ?_
    refine x_calli hW (x_runV B hW (As := []) (rest := []) (hqM hg hk) (cC_M hg hk) cls2 (c_X2_hasDebts (D := D) (ad := ad) l _ S g k hg hk) (cwV 0 B.1.2.2.2.2 gX2_mayBorrow_X2_hasDebts rfl rfl rfl hd_X2_hasDebts ⟨Nat.le_of_ble_eq_true rfl, Nat.le_of_ble_eq_true rfl⟩) rfl hls (Nat.le_of_ble_eq_true rfl) dX2_mayBorrow_8 ⟨Nat.zero_le _, Nat.zero_le _⟩) (fun r_8 S_8 H locs he hW => ?_)
    obtain ⟨hr_8, hs, hz_8⟩ := he
    rw [hs] at hW
    have zk := nm_at zk hr_8
    refine lv_if_ne (tgt := 26) hx hb dX2_mayBorrow_11 (by decide) (fun c_11 => ?_) (fun c_11 => ?_)
    · have zk := zk.trans (if_neg c_11)
      refine lv_iconst (v := 0) hx hb dX2_mayBorrow_26 (by decide) ?_
      exact x_zret B hW (Or.inl rfl) ⟨zk.symm, rfl, (Or.inl rfl)⟩ dX2_mayBorrow_27
    · have zk := zk.trans (if_pos c_11)
      refine lv_iload_n hx hb dX2_mayBorrow_14 rfl (lv_at hl 1 rfl) ?_
      refine lv_aload_n hx hb dX2_mayBorrow_15 rfl (lv_at hl 0 rfl) ?_
      refine x_get B hW (hqM hg hk) (cC_M hg hk) cls2 hin_X2 2 (by decide) (v := .int (S (gM g k) 2)) rfl k_51 dX2_mayBorrow_16 ?_
      refine lv_icmp_gt (tgt := 26) hx hb dX2_mayBorrow_19 (by decide) (fun c_19 => ?_) (fun c_19 => ?_)
      · have zk := zk.trans (if_pos c_19)
        refine lv_iconst (v := 0) hx hb dX2_mayBorrow_26 (by decide) ?_
        exact x_zret B hW (Or.inl rfl) ⟨zk.symm, rfl, (Or.inl rfl)⟩ dX2_mayBorrow_27
      · have zk := zk.trans (if_neg c_19)
        refine lv_iconst (v := 1) hx hb dX2_mayBorrow_22 (by decide) ?_
        refine lv_goto (tgt := 27) hx hb dX2_mayBorrow_23 (by decide) ?_
        exact x_zret B hW (Or.inr rfl) ⟨zk.symm, rfl, (Or.inr rfl)⟩ dX2_mayBorrow_27

def x_X2_borrow (S : vS) (g k : Nat) (p1 : Int32) (p2 : Int32) (p3 : Int32) : vS := if 1 ≤ p2 then nm (st S (gM g k) 3 p1) (fun S_8 => nm (st S_8 (gM g k) 4 (p1 / p2)) (fun S_15 => nm (st S_15 (gM g k) 5 p3) (fun S_20 => nm (st S_20 (gM g k) 6 p1) (fun S_25 => nm (st S_25 (gM g k) 7 p2) (fun S_30 => S_30))))) else S
theorem hd_X2_borrow : yX2_borrow.cls = RX2 ∧ yX2_borrow.cls ≠ "java/lang/invoke/MethodHandle" ∧ yX2_borrow.cls ≠ "java/lang/invoke/VarHandle" ∧ (parseMethodDescriptor yX2_borrow.desc).map (fun d => d.parameters.length) = some 3 := by decide +kernel
set_option maxHeartbeats 4000000 in
set_option maxRecDepth 100000 in
theorem c_X2_borrow {D : va_G} {ad : Nat → Nat} (l : Launch) (sz : Nat) (S : vS) (g k : Nat) (p1 : Int32) (p2 : Int32) (p3 : Int32) (hg : g < 8) (hk : k < 8) : Met l yX2_borrow wsX2_borrow (rmD 0) (pW D 157 (cC D ad) ad sz S [.ref (ad (gM g k)), .int p1, .int p2, .int p3]) (va_Qv (fun (S1 : vS) => S1 = (x_X2_borrow S g k p1 p2 p3)) (bW D 157 (cC D ad) ad (aW 157 ad sz)) (aW 157 ad sz)) 0 0 (aW 157 ad sz) := by
  refine x_met (own := RX2) (cc := cX2_borrow) (maxL := 4) (ret := none) (Qc := fun A => va_Qv (fun (S1 : vS) => S1 = (x_X2_borrow S g k p1 p2 p3)) (bW D 157 (cC D ad) ad A) A) rfl ⟨by decide +kernel, rfl, Nat.le_of_ble_eq_true rfl⟩ ?_
  intro p e s mm args below meth c A ls B hW hl hls
  have hx := B.1.1
  have hb := B.1.2.1
  have hin_X2 : ∀ w ∈ wsX20, w ∈ wsX2_borrow := fun w h => List.mem_cons_of_mem _ (List.mem_append_right _ h)
  have k_19 := B.1.2.2.2.2 (.fieldLink RX2 19 "JointLoans$Member" "loanWeeks" "I") (by decide +kernel)
  have k_22 := B.1.2.2.2.2 (.fieldLink RX2 22 "JointLoans$Member" "loanLeft" "I") (by decide +kernel)
  have k_25 := B.1.2.2.2.2 (.fieldLink RX2 25 "JointLoans$Member" "loanPart" "I") (by decide +kernel)
  have k_36 := B.1.2.2.2.2 (.fieldLink RX2 36 "JointLoans$Member" "loanInterest" "I") (by decide +kernel)
  have k_54 := B.1.2.2.2.2 (.fieldLink RX2 54 "JointLoans$Member" "loanSum" "I") (by decide +kernel)
  have zk := x_X2_borrow.eq_1 S g k p1 p2 p3
  have hl : lv_has ls 4 [(0, .ref (ad (gM g k))), (1, .int p1), (2, .int p2), (3, .int p3)] := hl
  refine lv_iload_n hx hb dX2_borrow_0 rfl (lv_at hl 2 rfl) ?_
  refine lv_iconst (v := 1) hx hb dX2_borrow_1 (by decide) ?_
  refine lv_icmp_ge (tgt := 6) hx hb dX2_borrow_2 (by decide) (fun c_2 => ?_) (fun c_2 => ?_)
  · have zk := zk.trans (if_pos c_2)
    refine lv_aload_n hx hb dX2_borrow_6 rfl (lv_at hl 0 rfl) ?_
    refine lv_iload_n hx hb dX2_borrow_7 rfl (lv_at hl 1 rfl) ?_
    refine x_put B hW (hqM hg hk) cls2 hin_X2 3 (by decide) (cC_M hg hk) rfl (ty := .int) (by decide +kernel) rfl rfl (Nat.le_of_ble_eq_true rfl) (j := 3) (pM_3 hg hk) k_54 dX2_borrow_8 (fun H locs S_8 he_8 hW => ?_)
    have zk := nm_at zk he_8
    refine lv_aload_n hx hb dX2_borrow_11 rfl (lv_at hl 0 rfl) ?_
    refine lv_iload_n hx hb dX2_borrow_12 rfl (lv_at hl 1 rfl) ?_
    refine lv_iload_n hx hb dX2_borrow_13 rfl (lv_at hl 2 rfl) ?_
    refine lv_idiv hx hb dX2_borrow_14 (nz_of_le c_2) ?_
    refine x_put B hW (hqM hg hk) cls2 hin_X2 4 (by decide) (cC_M hg hk) rfl (ty := .int) (by decide +kernel) rfl rfl (Nat.le_of_ble_eq_true rfl) (j := 4) (pM_4 hg hk) k_25 dX2_borrow_15 (fun H locs S_15 he_15 hW => ?_)
    have zk := nm_at zk he_15
    refine lv_aload_n hx hb dX2_borrow_18 rfl (lv_at hl 0 rfl) ?_
    refine lv_iload_n hx hb dX2_borrow_19 rfl (lv_at hl 3 rfl) ?_
    refine x_put B hW (hqM hg hk) cls2 hin_X2 5 (by decide) (cC_M hg hk) rfl (ty := .int) (by decide +kernel) rfl rfl (Nat.le_of_ble_eq_true rfl) (j := 5) (pM_5 hg hk) k_36 dX2_borrow_20 (fun H locs S_20 he_20 hW => ?_)
    have zk := nm_at zk he_20
    refine lv_aload_n hx hb dX2_borrow_23 rfl (lv_at hl 0 rfl) ?_
    refine lv_iload_n hx hb dX2_borrow_24 rfl (lv_at hl 1 rfl) ?_
    refine x_put B hW (hqM hg hk) cls2 hin_X2 6 (by decide) (cC_M hg hk) rfl (ty := .int) (by decide +kernel) rfl rfl (Nat.le_of_ble_eq_true rfl) (j := 6) (pM_6 hg hk) k_22 dX2_borrow_25 (fun H locs S_25 he_25 hW => ?_)
    have zk := nm_at zk he_25
    refine lv_aload_n hx hb dX2_borrow_28 rfl (lv_at hl 0 rfl) ?_
    refine lv_iload_n hx hb dX2_borrow_29 rfl (lv_at hl 2 rfl) ?_
    refine x_put B hW (hqM hg hk) cls2 hin_X2 7 (by decide) (cC_M hg hk) rfl (ty := .int) (by decide +kernel) rfl rfl (Nat.le_of_ble_eq_true rfl) (j := 7) (pM_7 hg hk) k_19 dX2_borrow_30 (fun H locs S_30 he_30 hW => ?_)
    have zk := nm_at zk he_30
    exact x_vret B hW zk.symm dX2_borrow_33
  · have zk := zk.trans (if_neg c_2)
    exact x_vret B hW zk.symm dX2_borrow_5

def x_X2_lessenLoan (S : vS) (g k : Nat) : vS := nm (x_X2_part S g k) (fun r_6 => nm (st S (gM g k) 6 ((S (gM g k) 6) - r_6)) (fun S_10 => nm (st S_10 (gM g k) 7 ((S_10 (gM g k) 7) - 1)) (fun S_20 => if (S_20 (gM g k) 7) = 0 then nm (st S_20 (gM g k) 3 0) (fun S_32 => nm (st S_32 (gM g k) 4 0) (fun S_37 => nm (st S_37 (gM g k) 5 0) (fun S_42 => S_42))) else S_20)))
theorem hd_X2_lessenLoan : yX2_lessenLoan.cls = RX2 ∧ yX2_lessenLoan.cls ≠ "java/lang/invoke/MethodHandle" ∧ yX2_lessenLoan.cls ≠ "java/lang/invoke/VarHandle" ∧ (parseMethodDescriptor yX2_lessenLoan.desc).map (fun d => d.parameters.length) = some 0 := by decide +kernel
set_option maxHeartbeats 4000000 in
set_option maxRecDepth 100000 in
theorem c_X2_lessenLoan {D : va_G} {ad : Nat → Nat} (l : Launch) (sz : Nat) (S : vS) (g k : Nat) (hg : g < 8) (hk : k < 8) : Met l yX2_lessenLoan wsX2_lessenLoan (rmD 1) (pW D 157 (cC D ad) ad sz S [.ref (ad (gM g k))]) (va_Qv (fun (S1 : vS) => S1 = (x_X2_lessenLoan S g k)) (bW D 157 (cC D ad) ad (aW 157 ad sz)) (aW 157 ad sz)) 0 0 (aW 157 ad sz) := by
  refine x_met (own := RX2) (cc := cX2_lessenLoan) (maxL := 1) (ret := none) (Qc := fun A => va_Qv (fun (S1 : vS) => S1 = (x_X2_lessenLoan S g k)) (bW D 157 (cC D ad) ad A) A) rfl ⟨by decide +kernel, rfl, Nat.le_of_ble_eq_true rfl⟩ ?_
  intro p e s mm args below meth c A ls B hW hl hls
  have hx := B.1.1
  have hb := B.1.2.1
  have hin_X2 : ∀ w ∈ wsX20, w ∈ wsX2_lessenLoan := fun w h => List.mem_cons_of_mem _ (List.mem_append_right _ h)
  have k_19 := B.1.2.2.2.2 (.fieldLink RX2 19 "JointLoans$Member" "loanWeeks" "I") (by decide +kernel)
  have k_22 := B.1.2.2.2.2 (.fieldLink RX2 22 "JointLoans$Member" "loanLeft" "I") (by decide +kernel)
  have k_25 := B.1.2.2.2.2 (.fieldLink RX2 25 "JointLoans$Member" "loanPart" "I") (by decide +kernel)
  have k_36 := B.1.2.2.2.2 (.fieldLink RX2 36 "JointLoans$Member" "loanInterest" "I") (by decide +kernel)
  have k_54 := B.1.2.2.2.2 (.fieldLink RX2 54 "JointLoans$Member" "loanSum" "I") (by decide +kernel)
  have zk := x_X2_lessenLoan.eq_1 S g k
  have hl : lv_has ls 1 [(0, .ref (ad (gM g k)))] := hl
  refine lv_aload_n hx hb dX2_lessenLoan_0 rfl (lv_at hl 0 rfl) ?_
  refine lv_dup hx hb dX2_lessenLoan_1 rfl ?_
  refine x_get B hW (hqM hg hk) (cC_M hg hk) cls2 hin_X2 6 (by decide) (v := .int (S (gM g k) 6)) rfl k_22 dX2_lessenLoan_2 ?_
  refine lv_aload_n hx hb dX2_lessenLoan_5 rfl (lv_at hl 0 rfl) ?_
  refine x_calli hW (x_runV B hW (As := []) (rest := .int (S (gM g k) 6) :: .ref (ad (gM g k)) :: []) (hqM hg hk) (cC_M hg hk) cls2 (c_X2_part (D := D) (ad := ad) l _ S g k hg hk) (cwV 0 B.1.2.2.2.2 gX2_lessenLoan_X2_part rfl rfl rfl hd_X2_part ⟨Nat.le_of_ble_eq_true rfl, Nat.le_of_ble_eq_true rfl⟩) rfl hls (Nat.le_of_ble_eq_true rfl) dX2_lessenLoan_6 ⟨Nat.zero_le _, Nat.zero_le _⟩) (fun r_6 S_6 H locs he hW => ?_)
  obtain ⟨hr_6, hs⟩ := he
  rw [hs] at hW
  have zk := nm_at zk hr_6
  refine lv_isub hx hb dX2_lessenLoan_9 ?_
  refine x_put B hW (hqM hg hk) cls2 hin_X2 6 (by decide) (cC_M hg hk) rfl (ty := .int) (by decide +kernel) rfl rfl (Nat.le_of_ble_eq_true rfl) (j := 6) (pM_6 hg hk) k_22 dX2_lessenLoan_10 (fun H locs S_10 he_10 hW => ?_)
  have zk := nm_at zk he_10
  refine lv_aload_n hx hb dX2_lessenLoan_13 rfl (lv_at hl 0 rfl) ?_
  refine lv_dup hx hb dX2_lessenLoan_14 rfl ?_
  refine x_get B hW (hqM hg hk) (cC_M hg hk) cls2 hin_X2 7 (by decide) (v := .int (S_10 (gM g k) 7)) rfl k_19 dX2_lessenLoan_15 ?_
  refine lv_iconst (v := 1) hx hb dX2_lessenLoan_18 (by decide) ?_
  refine lv_isub hx hb dX2_lessenLoan_19 ?_
  refine x_put B hW (hqM hg hk) cls2 hin_X2 7 (by decide) (cC_M hg hk) rfl (ty := .int) (by decide +kernel) rfl rfl (Nat.le_of_ble_eq_true rfl) (j := 7) (pM_7 hg hk) k_19 dX2_lessenLoan_20 (fun H locs S_20 he_20 hW => ?_)
  have zk := nm_at zk he_20
  refine lv_aload_n hx hb dX2_lessenLoan_23 rfl (lv_at hl 0 rfl) ?_
  refine x_get B hW (hqM hg hk) (cC_M hg hk) cls2 hin_X2 7 (by decide) (v := .int (S_20 (gM g k) 7)) rfl k_19 dX2_lessenLoan_24 ?_
  refine lv_if_ne (tgt := 45) hx hb dX2_lessenLoan_27 (by decide) (fun c_27 => ?_) (fun c_27 => ?_)
  · have zk := zk.trans (if_neg c_27)
    exact x_vret B hW zk.symm dX2_lessenLoan_45
  · have zk := zk.trans (if_pos c_27)
    refine lv_aload_n hx hb dX2_lessenLoan_30 rfl (lv_at hl 0 rfl) ?_
    refine lv_iconst (v := 0) hx hb dX2_lessenLoan_31 (by decide) ?_
    refine x_put B hW (hqM hg hk) cls2 hin_X2 3 (by decide) (cC_M hg hk) rfl (ty := .int) (by decide +kernel) rfl rfl (Nat.le_of_ble_eq_true rfl) (j := 3) (pM_3 hg hk) k_54 dX2_lessenLoan_32 (fun H locs S_32 he_32 hW => ?_)
    have zk := nm_at zk he_32
    refine lv_aload_n hx hb dX2_lessenLoan_35 rfl (lv_at hl 0 rfl) ?_
    refine lv_iconst (v := 0) hx hb dX2_lessenLoan_36 (by decide) ?_
    refine x_put B hW (hqM hg hk) cls2 hin_X2 4 (by decide) (cC_M hg hk) rfl (ty := .int) (by decide +kernel) rfl rfl (Nat.le_of_ble_eq_true rfl) (j := 4) (pM_4 hg hk) k_25 dX2_lessenLoan_37 (fun H locs S_37 he_37 hW => ?_)
    have zk := nm_at zk he_37
    refine lv_aload_n hx hb dX2_lessenLoan_40 rfl (lv_at hl 0 rfl) ?_
    refine lv_iconst (v := 0) hx hb dX2_lessenLoan_41 (by decide) ?_
    refine x_put B hW (hqM hg hk) cls2 hin_X2 5 (by decide) (cC_M hg hk) rfl (ty := .int) (by decide +kernel) rfl rfl (Nat.le_of_ble_eq_true rfl) (j := 5) (pM_5 hg hk) k_36 dX2_lessenLoan_42 (fun H locs S_42 he_42 hW => ?_)
    have zk := nm_at zk he_42
    exact x_vret B hW zk.symm dX2_lessenLoan_45

def x_X2_nextLimit (S : vS) (g k : Nat) : Int32 := if (S (gM g k) 9) = 0 then (if 2000 < ((S (gM g k) 2) + ((S (gM g k) 2) / 2)) then 2000 else ((S (gM g k) 2) + ((S (gM g k) 2) / 2))) else if (S (gM g k) 9) < 3 then (S (gM g k) 2) else (if ((S (gM g k) 2) / 2) < 20 then 20 else ((S (gM g k) 2) / 2))
theorem hd_X2_nextLimit : yX2_nextLimit.cls = RX2 ∧ yX2_nextLimit.cls ≠ "java/lang/invoke/MethodHandle" ∧ yX2_nextLimit.cls ≠ "java/lang/invoke/VarHandle" ∧ (parseMethodDescriptor yX2_nextLimit.desc).map (fun d => d.parameters.length) = some 0 := by decide +kernel
set_option maxHeartbeats 4000000 in
set_option maxRecDepth 100000 in
theorem c_X2_nextLimit {D : va_G} {ad : Nat → Nat} (l : Launch) (sz : Nat) (S : vS) (g k : Nat) (hg : g < 8) (hk : k < 8) : Met l yX2_nextLimit wsX2_nextLimit (rmD 1) (pW D 157 (cC D ad) ad sz S [.ref (ad (gM g k))]) (va_Qi (fun (r : Int32) (S1 : vS) => r = (x_X2_nextLimit S g k) ∧ S1 = S) (bW D 157 (cC D ad) ad (aW 157 ad sz)) (aW 157 ad sz)) 0 0 (aW 157 ad sz) := by
  refine x_met (own := RX2) (cc := cX2_nextLimit) (maxL := 1) (ret := (some .int)) (Qc := fun A => va_Qi (fun (r : Int32) (S1 : vS) => r = (x_X2_nextLimit S g k) ∧ S1 = S) (bW D 157 (cC D ad) ad A) A) rfl ⟨by decide +kernel, rfl, Nat.le_of_ble_eq_true rfl⟩ ?_
  intro p e s mm args below meth c A ls B hW hl hls
  have hx := B.1.1
  have hb := B.1.2.1
  have hin_X2 : ∀ w ∈ wsX20, w ∈ wsX2_nextLimit := fun w h => List.mem_cons_of_mem _ (List.mem_append_right _ h)
  have k_51 := B.1.2.2.2.2 (.fieldLink RX2 51 "JointLoans$Member" "limit" "I") (by decide +kernel)
  have k_57 := B.1.2.2.2.2 (.fieldLink RX2 57 "JointLoans$Member" "missedInCycle" "I") (by decide +kernel)
  have kc_max := B.1.2.2.2.2 (.code Lib.Math.max.name Lib.Math.max.code 2 (some .int)) (by decide +kernel)
  have kc_min := B.1.2.2.2.2 (.code Lib.Math.min.name Lib.Math.min.code 2 (some .int)) (by decide +kernel)
  have ki_math := B.1.2.2.2.2 (.initialized "java/lang/Math") (by decide +kernel)
  have kl_60 := B.1.2.2.2.2 (.methodLink RX2 60 Lib.Math.min.name) (by decide +kernel)
  have kl_66 := B.1.2.2.2.2 (.methodLink RX2 66 Lib.Math.max.name) (by decide +kernel)
  have ks_max := B.1.2.2.2.2 (.static Lib.Math.max.name) (by decide +kernel)
  have ks_min := B.1.2.2.2.2 (.static Lib.Math.min.name) (by decide +kernel)
  have zk := x_X2_nextLimit.eq_1 S g k
  have hl : lv_has ls 1 [(0, .ref (ad (gM g k)))] := hl
  refine lv_aload_n hx hb dX2_nextLimit_0 rfl (lv_at hl 0 rfl) ?_
  refine x_get B hW (hqM hg hk) (cC_M hg hk) cls2 hin_X2 9 (by decide) (v := .int (S (gM g k) 9)) rfl k_57 dX2_nextLimit_1 ?_
  refine lv_if_ne (tgt := 25) hx hb dX2_nextLimit_4 (by decide) (fun c_4 => ?_) (fun c_4 => ?_)
  · have zk := zk.trans (if_neg c_4)
    refine lv_aload_n hx hb dX2_nextLimit_25 rfl (lv_at hl 0 rfl) ?_
    refine x_get B hW (hqM hg hk) (cC_M hg hk) cls2 hin_X2 9 (by decide) (v := .int (S (gM g k) 9)) rfl k_57 dX2_nextLimit_26 ?_
    refine lv_iconst (v := 3) hx hb dX2_nextLimit_29 (by decide) ?_
    refine lv_icmp_lt (tgt := 47) hx hb dX2_nextLimit_30 (by decide) (fun c_30 => ?_) (fun c_30 => ?_)
    · have zk := zk.trans (if_pos c_30)
      refine lv_aload_n hx hb dX2_nextLimit_47 rfl (lv_at hl 0 rfl) ?_
      refine x_get B hW (hqM hg hk) (cC_M hg hk) cls2 hin_X2 2 (by decide) (v := .int (S (gM g k) 2)) rfl k_51 dX2_nextLimit_48 ?_
      exact x_iret B hW ⟨zk.symm, rfl⟩ dX2_nextLimit_51
    · have zk := zk.trans (if_neg c_30)
      refine lv_aload_n hx hb dX2_nextLimit_33 rfl (lv_at hl 0 rfl) ?_
      refine x_get B hW (hqM hg hk) (cC_M hg hk) cls2 hin_X2 2 (by decide) (v := .int (S (gM g k) 2)) rfl k_51 dX2_nextLimit_34 ?_
      refine lv_iconst (v := 2) hx hb dX2_nextLimit_37 (by decide) ?_
      refine lv_idiv hx hb dX2_nextLimit_38 (by decide) ?_
      refine lv_bipush (v := 20) hx hb dX2_nextLimit_39 (by decide) ?_
      refine va_mmax hx hb (B.1.2.2.1.trans hls.symm) B.1.2.2.2.1 kl_66 ks_max ki_math kc_max (Nat.le_of_ble_eq_true rfl) (Nat.le_of_ble_eq_true rfl) (Nat.zero_le _) (Nat.zero_le _) dX2_nextLimit_41 ?_
      refine lv_goto (tgt := 51) hx hb dX2_nextLimit_44 (by decide) ?_
      exact x_iret B hW ⟨zk.symm, rfl⟩ dX2_nextLimit_51
  · have zk := zk.trans (if_pos c_4)
    refine lv_aload_n hx hb dX2_nextLimit_7 rfl (lv_at hl 0 rfl) ?_
    refine x_get B hW (hqM hg hk) (cC_M hg hk) cls2 hin_X2 2 (by decide) (v := .int (S (gM g k) 2)) rfl k_51 dX2_nextLimit_8 ?_
    refine lv_aload_n hx hb dX2_nextLimit_11 rfl (lv_at hl 0 rfl) ?_
    refine x_get B hW (hqM hg hk) (cC_M hg hk) cls2 hin_X2 2 (by decide) (v := .int (S (gM g k) 2)) rfl k_51 dX2_nextLimit_12 ?_
    refine lv_iconst (v := 2) hx hb dX2_nextLimit_15 (by decide) ?_
    refine lv_idiv hx hb dX2_nextLimit_16 (by decide) ?_
    refine lv_iadd hx hb dX2_nextLimit_17 ?_
    refine lv_sipush (v := 2000) hx hb dX2_nextLimit_18 (by decide) ?_
    refine va_mmin hx hb (B.1.2.2.1.trans hls.symm) B.1.2.2.2.1 kl_60 ks_min ki_math kc_min (Nat.le_of_ble_eq_true rfl) (Nat.le_of_ble_eq_true rfl) (Nat.zero_le _) (Nat.zero_le _) dX2_nextLimit_21 ?_
    exact x_iret B hW ⟨zk.symm, rfl⟩ dX2_nextLimit_24

def x_X2_property (S : vS) (g k : Nat) (p1 : Int32) : Int32 := if p1 = 0 then (S (gM g k) 2) else (if p1 = 1 then (S (gM g k) 3) else (if p1 = 2 then (S (gM g k) 6) else (if p1 = 3 then (S (gM g k) 7) else (if p1 = 4 then nm (x_X2_due S g k) (fun r_89 => r_89) else (if p1 = 5 then if (bz (S (gM g k) 8)) = 0 then 0 else 1 else (if p1 = 6 then (S (gM g k) 9) else (if p1 = 7 then (S (gM g k) 10) else (if p1 = 8 then (S (gM g k) 11) else (if p1 = 9 then (S (gM g k) 12) else (if p1 = 10 then nm (x_X2_debtToMembers S g k) (fun r_127 => r_127) else (if p1 = 11 then (S (gM g k) 14) else (if p1 = 12 then (S (gM g k) 13) else ((S (gM g k) 14))))))))))))))
theorem hd_X2_property : yX2_property.cls = RX2 ∧ yX2_property.cls ≠ "java/lang/invoke/MethodHandle" ∧ yX2_property.cls ≠ "java/lang/invoke/VarHandle" ∧ (parseMethodDescriptor yX2_property.desc).map (fun d => d.parameters.length) = some 1 := by decide +kernel
set_option maxHeartbeats 4000000 in
set_option maxRecDepth 100000 in
theorem c_X2_property {D : va_G} {ad : Nat → Nat} (l : Launch) (sz : Nat) (S : vS) (g k : Nat) (p1 : Int32) (hg : g < 8) (hk : k < 8) : Met l yX2_property wsX2_property (rmD 2) (pW D 157 (cC D ad) ad sz S [.ref (ad (gM g k)), .int p1]) (va_Qi (fun (r : Int32) (S1 : vS) => r = (x_X2_property S g k p1) ∧ S1 = S) (bW D 157 (cC D ad) ad (aW 157 ad sz)) (aW 157 ad sz)) 0 0 (aW 157 ad sz) := by
  refine x_met (own := RX2) (cc := cX2_property) (maxL := 2) (ret := (some .int)) (Qc := fun A => va_Qi (fun (r : Int32) (S1 : vS) => r = (x_X2_property S g k p1) ∧ S1 = S) (bW D 157 (cC D ad) ad A) A) rfl ⟨by decide +kernel, rfl, Nat.le_of_ble_eq_true rfl⟩ ?_
  intro p e s mm args below meth c A ls B hW hl hls
  have hx := B.1.1
  have hb := B.1.2.1
  have hin_X2 : ∀ w ∈ wsX20, w ∈ wsX2_property := fun w h => List.mem_cons_of_mem _ (List.mem_append_right _ h)
  have k_19 := B.1.2.2.2.2 (.fieldLink RX2 19 "JointLoans$Member" "loanWeeks" "I") (by decide +kernel)
  have k_22 := B.1.2.2.2.2 (.fieldLink RX2 22 "JointLoans$Member" "loanLeft" "I") (by decide +kernel)
  have k_39 := B.1.2.2.2.2 (.fieldLink RX2 39 "JointLoans$Member" "bankDebt" "I") (by decide +kernel)
  have k_42 := B.1.2.2.2.2 (.fieldLink RX2 42 "JointLoans$Member" "fundDebt" "I") (by decide +kernel)
  have k_51 := B.1.2.2.2.2 (.fieldLink RX2 51 "JointLoans$Member" "limit" "I") (by decide +kernel)
  have k_54 := B.1.2.2.2.2 (.fieldLink RX2 54 "JointLoans$Member" "loanSum" "I") (by decide +kernel)
  have k_57 := B.1.2.2.2.2 (.fieldLink RX2 57 "JointLoans$Member" "missedInCycle" "I") (by decide +kernel)
  have k_72 := B.1.2.2.2.2 (.fieldLink RX2 72 "JointLoans$Member" "isAway" "Z") (by decide +kernel)
  have k_76 := B.1.2.2.2.2 (.fieldLink RX2 76 "JointLoans$Member" "missedSoFar" "I") (by decide +kernel)
  have k_79 := B.1.2.2.2.2 (.fieldLink RX2 79 "JointLoans$Member" "savedSoFar" "I") (by decide +kernel)
  have k_82 := B.1.2.2.2.2 (.fieldLink RX2 82 "JointLoans$Member" "paidForOthers" "I") (by decide +kernel)
  have zk := x_X2_property.eq_1 S g k p1
  have hl : lv_has ls 2 [(0, .ref (ad (gM g k))), (1, .int p1)] := hl
  refine lv_iload_n hx hb dX2_property_0 rfl (lv_at hl 1 rfl) ?_
  by_cases c_1_0 : p1 = 0
  · have zk := zk.trans (if_pos c_1_0)
    refine lv_tableIn (off := 67) (tgt := 68) hx hb dX2_property_1 (by rw [c_1_0]; decide) (by rw [c_1_0]; decide) (by rw [c_1_0]; rfl) (by decide) ?_
    refine lv_aload_n hx hb dX2_property_68 rfl (lv_at hl 0 rfl) ?_
    refine x_get B hW (hqM hg hk) (cC_M hg hk) cls2 hin_X2 2 (by decide) (v := .int (S (gM g k) 2)) rfl k_51 dX2_property_69 ?_
    exact x_iret B hW ⟨zk.symm, rfl⟩ dX2_property_72
  · have zk := zk.trans (if_neg c_1_0)
    by_cases c_1_1 : p1 = 1
    · have zk := zk.trans (if_pos c_1_1)
      refine lv_tableIn (off := 72) (tgt := 73) hx hb dX2_property_1 (by rw [c_1_1]; decide) (by rw [c_1_1]; decide) (by rw [c_1_1]; rfl) (by decide) ?_
      refine lv_aload_n hx hb dX2_property_73 rfl (lv_at hl 0 rfl) ?_
      refine x_get B hW (hqM hg hk) (cC_M hg hk) cls2 hin_X2 3 (by decide) (v := .int (S (gM g k) 3)) rfl k_54 dX2_property_74 ?_
      exact x_iret B hW ⟨zk.symm, rfl⟩ dX2_property_77
    · have zk := zk.trans (if_neg c_1_1)
      by_cases c_1_2 : p1 = 2
      · have zk := zk.trans (if_pos c_1_2)
        refine lv_tableIn (off := 77) (tgt := 78) hx hb dX2_property_1 (by rw [c_1_2]; decide) (by rw [c_1_2]; decide) (by rw [c_1_2]; rfl) (by decide) ?_
        refine lv_aload_n hx hb dX2_property_78 rfl (lv_at hl 0 rfl) ?_
        refine x_get B hW (hqM hg hk) (cC_M hg hk) cls2 hin_X2 6 (by decide) (v := .int (S (gM g k) 6)) rfl k_22 dX2_property_79 ?_
        exact x_iret B hW ⟨zk.symm, rfl⟩ dX2_property_82
      · have zk := zk.trans (if_neg c_1_2)
        by_cases c_1_3 : p1 = 3
        · have zk := zk.trans (if_pos c_1_3)
          refine lv_tableIn (off := 82) (tgt := 83) hx hb dX2_property_1 (by rw [c_1_3]; decide) (by rw [c_1_3]; decide) (by rw [c_1_3]; rfl) (by decide) ?_
          refine lv_aload_n hx hb dX2_property_83 rfl (lv_at hl 0 rfl) ?_
          refine x_get B hW (hqM hg hk) (cC_M hg hk) cls2 hin_X2 7 (by decide) (v := .int (S (gM g k) 7)) rfl k_19 dX2_property_84 ?_
          exact x_iret B hW ⟨zk.symm, rfl⟩ dX2_property_87
        · have zk := zk.trans (if_neg c_1_3)
          by_cases c_1_4 : p1 = 4
          · have zk := zk.trans (if_pos c_1_4)
            refine lv_tableIn (off := 87) (tgt := 88) hx hb dX2_property_1 (by rw [c_1_4]; decide) (by rw [c_1_4]; decide) (by rw [c_1_4]; rfl) (by decide) ?_
            refine lv_aload_n hx hb dX2_property_88 rfl (lv_at hl 0 rfl) ?_
            refine x_calli hW (x_runV B hW (As := []) (rest := []) (hqM hg hk) (cC_M hg hk) cls2 (c_X2_due (D := D) (ad := ad) l _ S g k hg hk) (cwV 0 B.1.2.2.2.2 gX2_property_X2_due rfl rfl rfl hd_X2_due ⟨Nat.le_of_ble_eq_true rfl, Nat.le_of_ble_eq_true rfl⟩) rfl hls (Nat.le_of_ble_eq_true rfl) dX2_property_89 ⟨Nat.zero_le _, Nat.zero_le _⟩) (fun r_89 S_89 H locs he hW => ?_)
            obtain ⟨hr_89, hs⟩ := he
            rw [hs] at hW
            have zk := nm_at zk hr_89
            exact x_iret B hW ⟨zk.symm, rfl⟩ dX2_property_92
          · have zk := zk.trans (if_neg c_1_4)
            by_cases c_1_5 : p1 = 5
            · have zk := zk.trans (if_pos c_1_5)
              refine lv_tableIn (off := 92) (tgt := 93) hx hb dX2_property_1 (by rw [c_1_5]; decide) (by rw [c_1_5]; decide) (by rw [c_1_5]; rfl) (by decide) ?_
              refine lv_aload_n hx hb dX2_property_93 rfl (lv_at hl 0 rfl) ?_
              refine x_get B hW (hqM hg hk) (cC_M hg hk) cls2 hin_X2 8 (by decide) (v := .int (bz (S (gM g k) 8))) rfl k_72 dX2_property_94 ?_
              refine lv_if_eq (tgt := 104) hx hb dX2_property_97 (by decide) (fun c_97 => ?_) (fun c_97 => ?_)
              · have zk := zk.trans (if_pos c_97)
                refine lv_iconst (v := 0) hx hb dX2_property_104 (by decide) ?_
                exact x_iret B hW ⟨zk.symm, rfl⟩ dX2_property_105
              · have zk := zk.trans (if_neg c_97)
                refine lv_iconst (v := 1) hx hb dX2_property_100 (by decide) ?_
                refine lv_goto (tgt := 105) hx hb dX2_property_101 (by decide) ?_
                exact x_iret B hW ⟨zk.symm, rfl⟩ dX2_property_105
            · have zk := zk.trans (if_neg c_1_5)
              by_cases c_1_6 : p1 = 6
              · have zk := zk.trans (if_pos c_1_6)
                refine lv_tableIn (off := 105) (tgt := 106) hx hb dX2_property_1 (by rw [c_1_6]; decide) (by rw [c_1_6]; decide) (by rw [c_1_6]; rfl) (by decide) ?_
                refine lv_aload_n hx hb dX2_property_106 rfl (lv_at hl 0 rfl) ?_
                refine x_get B hW (hqM hg hk) (cC_M hg hk) cls2 hin_X2 9 (by decide) (v := .int (S (gM g k) 9)) rfl k_57 dX2_property_107 ?_
                exact x_iret B hW ⟨zk.symm, rfl⟩ dX2_property_110
              · have zk := zk.trans (if_neg c_1_6)
                by_cases c_1_7 : p1 = 7
                · have zk := zk.trans (if_pos c_1_7)
                  refine lv_tableIn (off := 110) (tgt := 111) hx hb dX2_property_1 (by rw [c_1_7]; decide) (by rw [c_1_7]; decide) (by rw [c_1_7]; rfl) (by decide) ?_
                  refine lv_aload_n hx hb dX2_property_111 rfl (lv_at hl 0 rfl) ?_
                  refine x_get B hW (hqM hg hk) (cC_M hg hk) cls2 hin_X2 10 (by decide) (v := .int (S (gM g k) 10)) rfl k_76 dX2_property_112 ?_
                  exact x_iret B hW ⟨zk.symm, rfl⟩ dX2_property_115
                · have zk := zk.trans (if_neg c_1_7)
                  by_cases c_1_8 : p1 = 8
                  · have zk := zk.trans (if_pos c_1_8)
                    refine lv_tableIn (off := 115) (tgt := 116) hx hb dX2_property_1 (by rw [c_1_8]; decide) (by rw [c_1_8]; decide) (by rw [c_1_8]; rfl) (by decide) ?_
                    refine lv_aload_n hx hb dX2_property_116 rfl (lv_at hl 0 rfl) ?_
                    refine x_get B hW (hqM hg hk) (cC_M hg hk) cls2 hin_X2 11 (by decide) (v := .int (S (gM g k) 11)) rfl k_39 dX2_property_117 ?_
                    exact x_iret B hW ⟨zk.symm, rfl⟩ dX2_property_120
                  · have zk := zk.trans (if_neg c_1_8)
                    by_cases c_1_9 : p1 = 9
                    · have zk := zk.trans (if_pos c_1_9)
                      refine lv_tableIn (off := 120) (tgt := 121) hx hb dX2_property_1 (by rw [c_1_9]; decide) (by rw [c_1_9]; decide) (by rw [c_1_9]; rfl) (by decide) ?_
                      refine lv_aload_n hx hb dX2_property_121 rfl (lv_at hl 0 rfl) ?_
                      refine x_get B hW (hqM hg hk) (cC_M hg hk) cls2 hin_X2 12 (by decide) (v := .int (S (gM g k) 12)) rfl k_42 dX2_property_122 ?_
                      exact x_iret B hW ⟨zk.symm, rfl⟩ dX2_property_125
                    · have zk := zk.trans (if_neg c_1_9)
                      by_cases c_1_10 : p1 = 10
                      · have zk := zk.trans (if_pos c_1_10)
                        refine lv_tableIn (off := 125) (tgt := 126) hx hb dX2_property_1 (by rw [c_1_10]; decide) (by rw [c_1_10]; decide) (by rw [c_1_10]; rfl) (by decide) ?_
                        refine lv_aload_n hx hb dX2_property_126 rfl (lv_at hl 0 rfl) ?_
                        refine x_calli hW (x_runV B hW (As := []) (rest := []) (hqM hg hk) (cC_M hg hk) cls2 (c_X2_debtToMembers (D := D) (ad := ad) l _ S g k hg hk) (cwV 0 B.1.2.2.2.2 gX2_property_X2_debtToMembers rfl rfl rfl hd_X2_debtToMembers ⟨Nat.le_of_ble_eq_true rfl, Nat.le_of_ble_eq_true rfl⟩) rfl hls (Nat.le_of_ble_eq_true rfl) dX2_property_127 ⟨Nat.zero_le _, Nat.zero_le _⟩) (fun r_127 S_127 H locs he hW => ?_)
                        obtain ⟨hr_127, hs⟩ := he
                        rw [hs] at hW
                        have zk := nm_at zk hr_127
                        exact x_iret B hW ⟨zk.symm, rfl⟩ dX2_property_130
                      · have zk := zk.trans (if_neg c_1_10)
                        by_cases c_1_11 : p1 = 11
                        · have zk := zk.trans (if_pos c_1_11)
                          refine lv_tableIn (off := 135) (tgt := 136) hx hb dX2_property_1 (by rw [c_1_11]; decide) (by rw [c_1_11]; decide) (by rw [c_1_11]; rfl) (by decide) ?_
                          refine lv_aload_n hx hb dX2_property_136 rfl (lv_at hl 0 rfl) ?_
                          refine x_get B hW (hqM hg hk) (cC_M hg hk) cls2 hin_X2 14 (by decide) (v := .int (S (gM g k) 14)) rfl k_82 dX2_property_137 ?_
                          exact x_iret B hW ⟨zk.symm, rfl⟩ dX2_property_140
                        · have zk := zk.trans (if_neg c_1_11)
                          by_cases c_1_12 : p1 = 12
                          · have zk := zk.trans (if_pos c_1_12)
                            refine lv_tableIn (off := 130) (tgt := 131) hx hb dX2_property_1 (by rw [c_1_12]; decide) (by rw [c_1_12]; decide) (by rw [c_1_12]; rfl) (by decide) ?_
                            refine lv_aload_n hx hb dX2_property_131 rfl (lv_at hl 0 rfl) ?_
                            refine x_get B hW (hqM hg hk) (cC_M hg hk) cls2 hin_X2 13 (by decide) (v := .int (S (gM g k) 13)) rfl k_79 dX2_property_132 ?_
                            exact x_iret B hW ⟨zk.symm, rfl⟩ dX2_property_135
                          · have zk := zk.trans (if_neg c_1_12)
                            have nc_1_0 := lv_neT c_1_0 (a := 0) (by decide)
                            have nc_1_1 := lv_neT c_1_1 (a := 1) (by decide)
                            have nc_1_2 := lv_neT c_1_2 (a := 2) (by decide)
                            have nc_1_3 := lv_neT c_1_3 (a := 3) (by decide)
                            have nc_1_4 := lv_neT c_1_4 (a := 4) (by decide)
                            have nc_1_5 := lv_neT c_1_5 (a := 5) (by decide)
                            have nc_1_6 := lv_neT c_1_6 (a := 6) (by decide)
                            have nc_1_7 := lv_neT c_1_7 (a := 7) (by decide)
                            have nc_1_8 := lv_neT c_1_8 (a := 8) (by decide)
                            have nc_1_9 := lv_neT c_1_9 (a := 9) (by decide)
                            have nc_1_10 := lv_neT c_1_10 (a := 10) (by decide)
                            have nc_1_11 := lv_neT c_1_11 (a := 11) (by decide)
                            have nc_1_12 := lv_neT c_1_12 (a := 12) (by decide)
                            have hsw : p1.toInt < 0 ∨ 12 < p1.toInt := by omega
                            refine lv_tableOut (tgt := 136) hx hb dX2_property_1 hsw (by decide) ?_
                            refine lv_aload_n hx hb dX2_property_136 rfl (lv_at hl 0 rfl) ?_
                            refine x_get B hW (hqM hg hk) (cC_M hg hk) cls2 hin_X2 14 (by decide) (v := .int (S (gM g k) 14)) rfl k_82 dX2_property_137 ?_
                            exact x_iret B hW ⟨zk.symm, rfl⟩ dX2_property_140

def x_X2_copyFrom (S : vS) (g k g2 k2 : Nat) : vS := nm (st S (gM g k) 1 (bz (S (gM g2 k2) 1))) (fun S_5 => nm (st S_5 (gM g k) 2 (S_5 (gM g2 k2) 2)) (fun S_13 => nm (st S_13 (gM g k) 3 (S_13 (gM g2 k2) 3)) (fun S_21 => nm (st S_21 (gM g k) 4 (S_21 (gM g2 k2) 4)) (fun S_29 => nm (st S_29 (gM g k) 5 (S_29 (gM g2 k2) 5)) (fun S_37 => nm (st S_37 (gM g k) 6 (S_37 (gM g2 k2) 6)) (fun S_45 => nm (st S_45 (gM g k) 7 (S_45 (gM g2 k2) 7)) (fun S_53 => nm (st S_53 (gM g k) 8 (bz (S_53 (gM g2 k2) 8))) (fun S_61 => nm (st S_61 (gM g k) 9 (S_61 (gM g2 k2) 9)) (fun S_69 => nm (st S_69 (gM g k) 10 (S_69 (gM g2 k2) 10)) (fun S_77 => nm (st S_77 (gM g k) 11 (S_77 (gM g2 k2) 11)) (fun S_85 => nm (st S_85 (gM g k) 12 (S_85 (gM g2 k2) 12)) (fun S_93 => nm (st S_93 (gM g k) 13 (S_93 (gM g2 k2) 13)) (fun S_101 => nm (st S_101 (gM g k) 14 (S_101 (gM g2 k2) 14)) (fun S_109 => nm (cpy S_109 (gD g2 k2) (gD g k) 8) (fun S_124 => S_124)))))))))))))))
theorem hd_X2_copyFrom : yX2_copyFrom.cls = RX2 ∧ yX2_copyFrom.cls ≠ "java/lang/invoke/MethodHandle" ∧ yX2_copyFrom.cls ≠ "java/lang/invoke/VarHandle" ∧ (parseMethodDescriptor yX2_copyFrom.desc).map (fun d => d.parameters.length) = some 1 := by decide +kernel
set_option maxHeartbeats 4000000 in
set_option maxRecDepth 100000 in
theorem c_X2_copyFrom {D : va_G} {ad : Nat → Nat} (l : Launch) (sz : Nat) (S : vS) (g k g2 k2 : Nat) (hg : g < 8) (hk : k < 8) (hg2 : g2 < 8) (hk2 : k2 < 8) : Met l yX2_copyFrom wsX2_copyFrom (rmD 1) (pW D 157 (cC D ad) ad sz S [.ref (ad (gM g k)), .ref (ad (gM g2 k2))]) (va_Qv (fun (S1 : vS) => S1 = (x_X2_copyFrom S g k g2 k2)) (bW D 157 (cC D ad) ad (aW 157 ad sz)) (aW 157 ad sz)) 0 0 (aW 157 ad sz) := by
  refine x_met (own := RX2) (cc := cX2_copyFrom) (maxL := 2) (ret := none) (Qc := fun A => va_Qv (fun (S1 : vS) => S1 = (x_X2_copyFrom S g k g2 k2)) (bW D 157 (cC D ad) ad A) A) rfl ⟨by decide +kernel, rfl, Nat.le_of_ble_eq_true rfl⟩ ?_
  intro p e s mm args below meth c A ls B hW hl hls
  have hx := B.1.1
  have hb := B.1.2.1
  have hin_X2 : ∀ w ∈ wsX20, w ∈ wsX2_copyFrom := fun w h => List.mem_cons_of_mem _ (List.mem_append_right _ h)
  have k_19 := B.1.2.2.2.2 (.fieldLink RX2 19 "JointLoans$Member" "loanWeeks" "I") (by decide +kernel)
  have k_22 := B.1.2.2.2.2 (.fieldLink RX2 22 "JointLoans$Member" "loanLeft" "I") (by decide +kernel)
  have k_25 := B.1.2.2.2.2 (.fieldLink RX2 25 "JointLoans$Member" "loanPart" "I") (by decide +kernel)
  have k_36 := B.1.2.2.2.2 (.fieldLink RX2 36 "JointLoans$Member" "loanInterest" "I") (by decide +kernel)
  have k_39 := B.1.2.2.2.2 (.fieldLink RX2 39 "JointLoans$Member" "bankDebt" "I") (by decide +kernel)
  have k_42 := B.1.2.2.2.2 (.fieldLink RX2 42 "JointLoans$Member" "fundDebt" "I") (by decide +kernel)
  have k_51 := B.1.2.2.2.2 (.fieldLink RX2 51 "JointLoans$Member" "limit" "I") (by decide +kernel)
  have k_54 := B.1.2.2.2.2 (.fieldLink RX2 54 "JointLoans$Member" "loanSum" "I") (by decide +kernel)
  have k_57 := B.1.2.2.2.2 (.fieldLink RX2 57 "JointLoans$Member" "missedInCycle" "I") (by decide +kernel)
  have k_72 := B.1.2.2.2.2 (.fieldLink RX2 72 "JointLoans$Member" "isAway" "Z") (by decide +kernel)
  have k_76 := B.1.2.2.2.2 (.fieldLink RX2 76 "JointLoans$Member" "missedSoFar" "I") (by decide +kernel)
  have k_79 := B.1.2.2.2.2 (.fieldLink RX2 79 "JointLoans$Member" "savedSoFar" "I") (by decide +kernel)
  have k_82 := B.1.2.2.2.2 (.fieldLink RX2 82 "JointLoans$Member" "paidForOthers" "I") (by decide +kernel)
  have k_85 := B.1.2.2.2.2 (.fieldLink RX2 85 "JointLoans$Member" "isHere" "Z") (by decide +kernel)
  have k_9 := B.1.2.2.2.2 (.fieldLink RX2 9 "JointLoans$Member" "debts" "[I") (by decide +kernel)
  have ka_ini := B.1.2.2.2.2 (.initialized "java/lang/System") (by decide +kernel)
  have ka_link := B.1.2.2.2.2 (.methodLink RX2 88 arraycopyName) (by decide +kernel)
  have ka_nat := B.1.2.2.2.2 (.native arraycopyName) (by decide +kernel)
  have ka_stat := B.1.2.2.2.2 (.static arraycopyName) (by decide +kernel)
  have zk := x_X2_copyFrom.eq_1 S g k g2 k2
  have hl : lv_has ls 2 [(0, .ref (ad (gM g k))), (1, .ref (ad (gM g2 k2)))] := hl
  refine lv_aload_n hx hb dX2_copyFrom_0 rfl (lv_at hl 0 rfl) ?_
  refine lv_aload_n hx hb dX2_copyFrom_1 rfl (lv_at hl 1 rfl) ?_
  refine x_get B hW (hqM hg2 hk2) (cC_M hg2 hk2) cls2 hin_X2 1 (by decide) (v := .int (bz (S (gM g2 k2) 1))) rfl k_85 dX2_copyFrom_2 ?_
  refine x_put B hW (hqM hg hk) cls2 hin_X2 1 (by decide) (cC_M hg hk) rfl (ty := .boolean) (by decide +kernel) (nar_z (bz_01 _)) (fit_z (bz_01 _)) (Nat.le_of_ble_eq_true rfl) (j := 1) (pM_1 hg hk (bz_01 _)) k_85 dX2_copyFrom_5 (fun H locs S_5 he_5 hW => ?_)
  have zk := nm_at zk he_5
  refine lv_aload_n hx hb dX2_copyFrom_8 rfl (lv_at hl 0 rfl) ?_
  refine lv_aload_n hx hb dX2_copyFrom_9 rfl (lv_at hl 1 rfl) ?_
  refine x_get B hW (hqM hg2 hk2) (cC_M hg2 hk2) cls2 hin_X2 2 (by decide) (v := .int (S_5 (gM g2 k2) 2)) rfl k_51 dX2_copyFrom_10 ?_
  refine x_put B hW (hqM hg hk) cls2 hin_X2 2 (by decide) (cC_M hg hk) rfl (ty := .int) (by decide +kernel) rfl rfl (Nat.le_of_ble_eq_true rfl) (j := 2) (pM_2 hg hk) k_51 dX2_copyFrom_13 (fun H locs S_13 he_13 hW => ?_)
  have zk := nm_at zk he_13
  refine lv_aload_n hx hb dX2_copyFrom_16 rfl (lv_at hl 0 rfl) ?_
  refine lv_aload_n hx hb dX2_copyFrom_17 rfl (lv_at hl 1 rfl) ?_
  refine x_get B hW (hqM hg2 hk2) (cC_M hg2 hk2) cls2 hin_X2 3 (by decide) (v := .int (S_13 (gM g2 k2) 3)) rfl k_54 dX2_copyFrom_18 ?_
  refine x_put B hW (hqM hg hk) cls2 hin_X2 3 (by decide) (cC_M hg hk) rfl (ty := .int) (by decide +kernel) rfl rfl (Nat.le_of_ble_eq_true rfl) (j := 3) (pM_3 hg hk) k_54 dX2_copyFrom_21 (fun H locs S_21 he_21 hW => ?_)
  have zk := nm_at zk he_21
  refine lv_aload_n hx hb dX2_copyFrom_24 rfl (lv_at hl 0 rfl) ?_
  refine lv_aload_n hx hb dX2_copyFrom_25 rfl (lv_at hl 1 rfl) ?_
  refine x_get B hW (hqM hg2 hk2) (cC_M hg2 hk2) cls2 hin_X2 4 (by decide) (v := .int (S_21 (gM g2 k2) 4)) rfl k_25 dX2_copyFrom_26 ?_
  refine x_put B hW (hqM hg hk) cls2 hin_X2 4 (by decide) (cC_M hg hk) rfl (ty := .int) (by decide +kernel) rfl rfl (Nat.le_of_ble_eq_true rfl) (j := 4) (pM_4 hg hk) k_25 dX2_copyFrom_29 (fun H locs S_29 he_29 hW => ?_)
  have zk := nm_at zk he_29
  refine lv_aload_n hx hb dX2_copyFrom_32 rfl (lv_at hl 0 rfl) ?_
  refine lv_aload_n hx hb dX2_copyFrom_33 rfl (lv_at hl 1 rfl) ?_
  refine x_get B hW (hqM hg2 hk2) (cC_M hg2 hk2) cls2 hin_X2 5 (by decide) (v := .int (S_29 (gM g2 k2) 5)) rfl k_36 dX2_copyFrom_34 ?_
  refine x_put B hW (hqM hg hk) cls2 hin_X2 5 (by decide) (cC_M hg hk) rfl (ty := .int) (by decide +kernel) rfl rfl (Nat.le_of_ble_eq_true rfl) (j := 5) (pM_5 hg hk) k_36 dX2_copyFrom_37 (fun H locs S_37 he_37 hW => ?_)
  have zk := nm_at zk he_37
  refine lv_aload_n hx hb dX2_copyFrom_40 rfl (lv_at hl 0 rfl) ?_
  refine lv_aload_n hx hb dX2_copyFrom_41 rfl (lv_at hl 1 rfl) ?_
  refine x_get B hW (hqM hg2 hk2) (cC_M hg2 hk2) cls2 hin_X2 6 (by decide) (v := .int (S_37 (gM g2 k2) 6)) rfl k_22 dX2_copyFrom_42 ?_
  refine x_put B hW (hqM hg hk) cls2 hin_X2 6 (by decide) (cC_M hg hk) rfl (ty := .int) (by decide +kernel) rfl rfl (Nat.le_of_ble_eq_true rfl) (j := 6) (pM_6 hg hk) k_22 dX2_copyFrom_45 (fun H locs S_45 he_45 hW => ?_)
  have zk := nm_at zk he_45
  refine lv_aload_n hx hb dX2_copyFrom_48 rfl (lv_at hl 0 rfl) ?_
  refine lv_aload_n hx hb dX2_copyFrom_49 rfl (lv_at hl 1 rfl) ?_
  refine x_get B hW (hqM hg2 hk2) (cC_M hg2 hk2) cls2 hin_X2 7 (by decide) (v := .int (S_45 (gM g2 k2) 7)) rfl k_19 dX2_copyFrom_50 ?_
  refine x_put B hW (hqM hg hk) cls2 hin_X2 7 (by decide) (cC_M hg hk) rfl (ty := .int) (by decide +kernel) rfl rfl (Nat.le_of_ble_eq_true rfl) (j := 7) (pM_7 hg hk) k_19 dX2_copyFrom_53 (fun H locs S_53 he_53 hW => ?_)
  have zk := nm_at zk he_53
  refine lv_aload_n hx hb dX2_copyFrom_56 rfl (lv_at hl 0 rfl) ?_
  refine lv_aload_n hx hb dX2_copyFrom_57 rfl (lv_at hl 1 rfl) ?_
  refine x_get B hW (hqM hg2 hk2) (cC_M hg2 hk2) cls2 hin_X2 8 (by decide) (v := .int (bz (S_53 (gM g2 k2) 8))) rfl k_72 dX2_copyFrom_58 ?_
  refine x_put B hW (hqM hg hk) cls2 hin_X2 8 (by decide) (cC_M hg hk) rfl (ty := .boolean) (by decide +kernel) (nar_z (bz_01 _)) (fit_z (bz_01 _)) (Nat.le_of_ble_eq_true rfl) (j := 8) (pM_8 hg hk (bz_01 _)) k_72 dX2_copyFrom_61 (fun H locs S_61 he_61 hW => ?_)
  have zk := nm_at zk he_61
  refine lv_aload_n hx hb dX2_copyFrom_64 rfl (lv_at hl 0 rfl) ?_
  refine lv_aload_n hx hb dX2_copyFrom_65 rfl (lv_at hl 1 rfl) ?_
  refine x_get B hW (hqM hg2 hk2) (cC_M hg2 hk2) cls2 hin_X2 9 (by decide) (v := .int (S_61 (gM g2 k2) 9)) rfl k_57 dX2_copyFrom_66 ?_
  refine x_put B hW (hqM hg hk) cls2 hin_X2 9 (by decide) (cC_M hg hk) rfl (ty := .int) (by decide +kernel) rfl rfl (Nat.le_of_ble_eq_true rfl) (j := 9) (pM_9 hg hk) k_57 dX2_copyFrom_69 (fun H locs S_69 he_69 hW => ?_)
  have zk := nm_at zk he_69
  refine lv_aload_n hx hb dX2_copyFrom_72 rfl (lv_at hl 0 rfl) ?_
  refine lv_aload_n hx hb dX2_copyFrom_73 rfl (lv_at hl 1 rfl) ?_
  refine x_get B hW (hqM hg2 hk2) (cC_M hg2 hk2) cls2 hin_X2 10 (by decide) (v := .int (S_69 (gM g2 k2) 10)) rfl k_76 dX2_copyFrom_74 ?_
  refine x_put B hW (hqM hg hk) cls2 hin_X2 10 (by decide) (cC_M hg hk) rfl (ty := .int) (by decide +kernel) rfl rfl (Nat.le_of_ble_eq_true rfl) (j := 10) (pM_10 hg hk) k_76 dX2_copyFrom_77 (fun H locs S_77 he_77 hW => ?_)
  have zk := nm_at zk he_77
  refine lv_aload_n hx hb dX2_copyFrom_80 rfl (lv_at hl 0 rfl) ?_
  refine lv_aload_n hx hb dX2_copyFrom_81 rfl (lv_at hl 1 rfl) ?_
  refine x_get B hW (hqM hg2 hk2) (cC_M hg2 hk2) cls2 hin_X2 11 (by decide) (v := .int (S_77 (gM g2 k2) 11)) rfl k_39 dX2_copyFrom_82 ?_
  refine x_put B hW (hqM hg hk) cls2 hin_X2 11 (by decide) (cC_M hg hk) rfl (ty := .int) (by decide +kernel) rfl rfl (Nat.le_of_ble_eq_true rfl) (j := 11) (pM_11 hg hk) k_39 dX2_copyFrom_85 (fun H locs S_85 he_85 hW => ?_)
  have zk := nm_at zk he_85
  refine lv_aload_n hx hb dX2_copyFrom_88 rfl (lv_at hl 0 rfl) ?_
  refine lv_aload_n hx hb dX2_copyFrom_89 rfl (lv_at hl 1 rfl) ?_
  refine x_get B hW (hqM hg2 hk2) (cC_M hg2 hk2) cls2 hin_X2 12 (by decide) (v := .int (S_85 (gM g2 k2) 12)) rfl k_42 dX2_copyFrom_90 ?_
  refine x_put B hW (hqM hg hk) cls2 hin_X2 12 (by decide) (cC_M hg hk) rfl (ty := .int) (by decide +kernel) rfl rfl (Nat.le_of_ble_eq_true rfl) (j := 12) (pM_12 hg hk) k_42 dX2_copyFrom_93 (fun H locs S_93 he_93 hW => ?_)
  have zk := nm_at zk he_93
  refine lv_aload_n hx hb dX2_copyFrom_96 rfl (lv_at hl 0 rfl) ?_
  refine lv_aload_n hx hb dX2_copyFrom_97 rfl (lv_at hl 1 rfl) ?_
  refine x_get B hW (hqM hg2 hk2) (cC_M hg2 hk2) cls2 hin_X2 13 (by decide) (v := .int (S_93 (gM g2 k2) 13)) rfl k_79 dX2_copyFrom_98 ?_
  refine x_put B hW (hqM hg hk) cls2 hin_X2 13 (by decide) (cC_M hg hk) rfl (ty := .int) (by decide +kernel) rfl rfl (Nat.le_of_ble_eq_true rfl) (j := 13) (pM_13 hg hk) k_79 dX2_copyFrom_101 (fun H locs S_101 he_101 hW => ?_)
  have zk := nm_at zk he_101
  refine lv_aload_n hx hb dX2_copyFrom_104 rfl (lv_at hl 0 rfl) ?_
  refine lv_aload_n hx hb dX2_copyFrom_105 rfl (lv_at hl 1 rfl) ?_
  refine x_get B hW (hqM hg2 hk2) (cC_M hg2 hk2) cls2 hin_X2 14 (by decide) (v := .int (S_101 (gM g2 k2) 14)) rfl k_82 dX2_copyFrom_106 ?_
  refine x_put B hW (hqM hg hk) cls2 hin_X2 14 (by decide) (cC_M hg hk) rfl (ty := .int) (by decide +kernel) rfl rfl (Nat.le_of_ble_eq_true rfl) (j := 14) (pM_14 hg hk) k_82 dX2_copyFrom_109 (fun H locs S_109 he_109 hW => ?_)
  have zk := nm_at zk he_109
  refine lv_aload_n hx hb dX2_copyFrom_112 rfl (lv_at hl 1 rfl) ?_
  refine x_get B hW (hqM hg2 hk2) (cC_M hg2 hk2) cls2 hin_X2 15 (by decide) (v := .ref (ad (gD g2 k2))) rfl k_9 dX2_copyFrom_113 ?_
  refine lv_iconst (v := 0) hx hb dX2_copyFrom_116 (by decide) ?_
  refine lv_aload_n hx hb dX2_copyFrom_117 rfl (lv_at hl 0 rfl) ?_
  refine x_get B hW (hqM hg hk) (cC_M hg hk) cls2 hin_X2 15 (by decide) (v := .ref (ad (gD g k))) rfl k_9 dX2_copyFrom_118 ?_
  refine lv_iconst (v := 0) hx hb dX2_copyFrom_121 (by decide) ?_
  refine lv_bipush (v := 8) hx hb dX2_copyFrom_122 (by decide) ?_
  refine x_copy B hls hW (n := 8) (hqD hg2 hk2) (hqD hg hk) (cC_D hg2 hk2) (fun _ => (cC_D hg hk)) (by decide) (by decide) (by decide) ka_link ka_nat ka_stat ka_ini (Nat.le_of_ble_eq_true rfl) (Nat.le_of_ble_eq_true rfl) dX2_copyFrom_124 (fun H locs S_124 he hW => ?_)
  have zk := nm_at zk he
  exact x_vret B hW zk.symm dX2_copyFrom_127

end P20_member
