section P21_group
def x_X0_copyFrom_L2 : Nat → vS → Nat → Nat → Nat → vS
  | 0, S, _, _, _ => S
  | n + 1, S, g, g2, n2 => if 8 ≤ (nI n2) then nm (cpy S (gS g2) (gS g) 4) (fun S_40 => nm (st S_40 (gG g) 2 (S_40 (gG g2) 2)) (fun S_48 => nm (st S_48 (gG g) 3 (S_48 (gG g2) 3)) (fun S_56 => nm (st S_56 (gG g) 4 (S_56 (gG g2) 4)) (fun S_64 => nm (st S_64 (gG g) 5 (S_64 (gG g2) 5)) (fun S_72 => nm (st S_72 (gG g) 6 (S_72 (gG g2) 6)) (fun S_80 => nm (st S_80 (gG g) 7 (S_80 (gG g2) 7)) (fun S_88 => nm (st S_88 (gG g) 8 (S_88 (gG g2) 8)) (fun S_96 => nm (st S_96 (gG g) 9 (S_96 (gG g2) 9)) (fun S_104 => nm (st S_104 (gG g) 10 (S_104 (gG g2) 10)) (fun S_112 => S_112)))))))))) else nm (x_X2_copyFrom S g n2 g2 n2) (fun S_20 => x_X0_copyFrom_L2 n S_20 g g2 ((n2 + 1)))
def x_X0_copyFrom (S : vS) (g g2 : Nat) : vS := x_X0_copyFrom_L2 (9) S g g2 (0)
theorem hd_X0_copyFrom : yX0_copyFrom.cls = RX0 ∧ yX0_copyFrom.cls ≠ "java/lang/invoke/MethodHandle" ∧ yX0_copyFrom.cls ≠ "java/lang/invoke/VarHandle" ∧ (parseMethodDescriptor yX0_copyFrom.desc).map (fun d => d.parameters.length) = some 1 := by decide +kernel
set_option maxHeartbeats 4000000 in
set_option maxRecDepth 100000 in
theorem w_X0_copyFrom_L2 {D : va_G} {ad : Nat → Nat} (l : Launch) {p : Program} {e : Env} {s : State} {mm : MethodId} {args : Array Value} {below : List Frame} {meth : Method} {c : Code} {A : Nat → Prop} (B : Cx p mm c cX0_copyFrom 3 s args wsX0_copyFrom RX0 meth none D) (z : vS) (g g2 : Nat) (hg : g < 8) (hg2 : g2 < 8) : ∀ (n : Nat) (n2 : Nat) (S : vS) (H : Heap) (locs : List Loc) (ls : Array Slot), n2 ≤ 8 → n2 + n = 9 → Wd D 157 (cC D ad) ad A s.heap S H locs → lv_has ls 3 [(2, .int (nI n2)), (0, .ref (ad (gG g))), (1, .ref (ad (gG g2)))] → ls.size = 3 → z = x_X0_copyFrom_L2 n S g g2 n2 → W p l e (rmD 2) s mm args below meth c H locs 0 0 (MQ below (va_Qv (fun (S1 : vS) => S1 = z) (bW D 157 (cC D ad) ad A) A) args s 0 0 A) (F0 mm 2 ls []) := by
  have hx := B.1.1
  have hb := B.1.2.1
  have hin_X0 : ∀ w ∈ wsX00, w ∈ wsX0_copyFrom := fun w h => List.mem_cons_of_mem _ (List.mem_append_left _ (List.mem_append_right _ h))
  have k_11 := B.1.2.2.2.2 (.fieldLink RX0 11 "JointLoans$Group" "members" "[LJointLoans$Member;") (by decide +kernel)
  have k_17 := B.1.2.2.2.2 (.fieldLink RX0 17 "JointLoans$Group" "settings" "[I") (by decide +kernel)
  have k_21 := B.1.2.2.2.2 (.fieldLink RX0 21 "JointLoans$Group" "chair" "I") (by decide +kernel)
  have k_38 := B.1.2.2.2.2 (.fieldLink RX0 38 "JointLoans$Group" "numbersGiven" "I") (by decide +kernel)
  have k_41 := B.1.2.2.2.2 (.fieldLink RX0 41 "JointLoans$Group" "weekNumber" "I") (by decide +kernel)
  have k_44 := B.1.2.2.2.2 (.fieldLink RX0 44 "JointLoans$Group" "cycleNumber" "I") (by decide +kernel)
  have k_47 := B.1.2.2.2.2 (.fieldLink RX0 47 "JointLoans$Group" "fund" "I") (by decide +kernel)
  have k_50 := B.1.2.2.2.2 (.fieldLink RX0 50 "JointLoans$Group" "bankLent" "I") (by decide +kernel)
  have k_53 := B.1.2.2.2.2 (.fieldLink RX0 53 "JointLoans$Group" "bankInterest" "I") (by decide +kernel)
  have k_56 := B.1.2.2.2.2 (.fieldLink RX0 56 "JointLoans$Group" "bankPaid" "I") (by decide +kernel)
  have k_59 := B.1.2.2.2.2 (.fieldLink RX0 59 "JointLoans$Group" "missedSoFar" "I") (by decide +kernel)
  have ka_ini := B.1.2.2.2.2 (.initialized "java/lang/System") (by decide +kernel)
  have ka_link := B.1.2.2.2.2 (.methodLink RX0 32 arraycopyName) (by decide +kernel)
  have ka_nat := B.1.2.2.2.2 (.native arraycopyName) (by decide +kernel)
  have ka_stat := B.1.2.2.2.2 (.static arraycopyName) (by decide +kernel)
  have ki_X2 := B.1.2.2.2.2 (.initialized RX2) (by decide +kernel)
  have kn_X2_copyFrom := B.1.2.2.2.2 (.instanceMethod yX2_copyFrom) (by decide +kernel)
  have kv_X2_copyFrom := B.1.2.2.2.2 (.selects RX2 yX2_copyFrom yX2_copyFrom) (by decide +kernel)
  intro n
  induction n with
  | zero =>
    intro n2 S H locs ls hle hsum
    omega
  | succ n ih =>
    intro n2 S H locs ls hle hsum hW hl hls zk
    have zk := zk.trans (x_X0_copyFrom_L2.eq_2 _ _ _ _ _ )
    refine lv_iload_n hx hb dX0_copyFrom_2 rfl (lv_at hl 0 rfl) ?_
    refine lv_bipush (v := 8) hx hb dX0_copyFrom_3 (by decide) ?_
    refine lv_icmp_ge (tgt := 29) hx hb dX0_copyFrom_5 (by decide) (fun c_5 => ?_) (fun c_5 => ?_)
    · have zk := zk.trans (if_pos c_5)
      refine lv_aload_n hx hb dX0_copyFrom_29 rfl (lv_at hl 2 rfl) ?_
      refine x_get B hW (hqG hg2) (cC_G hg2) cls0 hin_X0 1 (by decide) (v := .ref (ad (gS g2))) rfl k_17 dX0_copyFrom_30 ?_
      refine lv_iconst (v := 0) hx hb dX0_copyFrom_33 (by decide) ?_
      refine lv_aload_n hx hb dX0_copyFrom_34 rfl (lv_at hl 1 rfl) ?_
      refine x_get B hW (hqG hg) (cC_G hg) cls0 hin_X0 1 (by decide) (v := .ref (ad (gS g))) rfl k_17 dX0_copyFrom_35 ?_
      refine lv_iconst (v := 0) hx hb dX0_copyFrom_38 (by decide) ?_
      refine lv_iconst (v := 4) hx hb dX0_copyFrom_39 (by decide) ?_
      refine x_copy B hls hW (n := 4) (hqS hg2) (hqS hg) (cC_S hg2) (fun _ => (cC_S hg)) (by decide) (by decide) (by decide) ka_link ka_nat ka_stat ka_ini (Nat.le_of_ble_eq_true rfl) (Nat.le_of_ble_eq_true rfl) dX0_copyFrom_40 (fun H locs S_40 he hW => ?_)
      have zk := nm_at zk he
      refine lv_aload_n hx hb dX0_copyFrom_43 rfl (lv_at hl 1 rfl) ?_
      refine lv_aload_n hx hb dX0_copyFrom_44 rfl (lv_at hl 2 rfl) ?_
      refine x_get B hW (hqG hg2) (cC_G hg2) cls0 hin_X0 2 (by decide) (v := .int (S_40 (gG g2) 2)) rfl k_38 dX0_copyFrom_45 ?_
      refine x_put B hW (hqG hg) cls0 hin_X0 2 (by decide) (cC_G hg) rfl (ty := .int) (by decide +kernel) rfl rfl (Nat.le_of_ble_eq_true rfl) (j := 2) (pG_2 hg) k_38 dX0_copyFrom_48 (fun H locs S_48 he_48 hW => ?_)
      have zk := nm_at zk he_48
      refine lv_aload_n hx hb dX0_copyFrom_51 rfl (lv_at hl 1 rfl) ?_
      refine lv_aload_n hx hb dX0_copyFrom_52 rfl (lv_at hl 2 rfl) ?_
      refine x_get B hW (hqG hg2) (cC_G hg2) cls0 hin_X0 3 (by decide) (v := .int (S_48 (gG g2) 3)) rfl k_41 dX0_copyFrom_53 ?_
      refine x_put B hW (hqG hg) cls0 hin_X0 3 (by decide) (cC_G hg) rfl (ty := .int) (by decide +kernel) rfl rfl (Nat.le_of_ble_eq_true rfl) (j := 3) (pG_3 hg) k_41 dX0_copyFrom_56 (fun H locs S_56 he_56 hW => ?_)
      have zk := nm_at zk he_56
      refine lv_aload_n hx hb dX0_copyFrom_59 rfl (lv_at hl 1 rfl) ?_
      refine lv_aload_n hx hb dX0_copyFrom_60 rfl (lv_at hl 2 rfl) ?_
      refine x_get B hW (hqG hg2) (cC_G hg2) cls0 hin_X0 4 (by decide) (v := .int (S_56 (gG g2) 4)) rfl k_44 dX0_copyFrom_61 ?_
      refine x_put B hW (hqG hg) cls0 hin_X0 4 (by decide) (cC_G hg) rfl (ty := .int) (by decide +kernel) rfl rfl (Nat.le_of_ble_eq_true rfl) (j := 4) (pG_4 hg) k_44 dX0_copyFrom_64 (fun H locs S_64 he_64 hW => ?_)
      have zk := nm_at zk he_64
      refine lv_aload_n hx hb dX0_copyFrom_67 rfl (lv_at hl 1 rfl) ?_
      refine lv_aload_n hx hb dX0_copyFrom_68 rfl (lv_at hl 2 rfl) ?_
      refine x_get B hW (hqG hg2) (cC_G hg2) cls0 hin_X0 5 (by decide) (v := .int (S_64 (gG g2) 5)) rfl k_21 dX0_copyFrom_69 ?_
      refine x_put B hW (hqG hg) cls0 hin_X0 5 (by decide) (cC_G hg) rfl (ty := .int) (by decide +kernel) rfl rfl (Nat.le_of_ble_eq_true rfl) (j := 5) (pG_5 hg) k_21 dX0_copyFrom_72 (fun H locs S_72 he_72 hW => ?_)
      have zk := nm_at zk he_72
      refine lv_aload_n hx hb dX0_copyFrom_75 rfl (lv_at hl 1 rfl) ?_
      refine lv_aload_n hx hb dX0_copyFrom_76 rfl (lv_at hl 2 rfl) ?_
      refine x_get B hW (hqG hg2) (cC_G hg2) cls0 hin_X0 6 (by decide) (v := .int (S_72 (gG g2) 6)) rfl k_47 dX0_copyFrom_77 ?_
      refine x_put B hW (hqG hg) cls0 hin_X0 6 (by decide) (cC_G hg) rfl (ty := .int) (by decide +kernel) rfl rfl (Nat.le_of_ble_eq_true rfl) (j := 6) (pG_6 hg) k_47 dX0_copyFrom_80 (fun H locs S_80 he_80 hW => ?_)
      have zk := nm_at zk he_80
      refine lv_aload_n hx hb dX0_copyFrom_83 rfl (lv_at hl 1 rfl) ?_
      refine lv_aload_n hx hb dX0_copyFrom_84 rfl (lv_at hl 2 rfl) ?_
      refine x_get B hW (hqG hg2) (cC_G hg2) cls0 hin_X0 7 (by decide) (v := .int (S_80 (gG g2) 7)) rfl k_50 dX0_copyFrom_85 ?_
      refine x_put B hW (hqG hg) cls0 hin_X0 7 (by decide) (cC_G hg) rfl (ty := .int) (by decide +kernel) rfl rfl (Nat.le_of_ble_eq_true rfl) (j := 7) (pG_7 hg) k_50 dX0_copyFrom_88 (fun H locs S_88 he_88 hW => ?_)
      have zk := nm_at zk he_88
      refine lv_aload_n hx hb dX0_copyFrom_91 rfl (lv_at hl 1 rfl) ?_
      refine lv_aload_n hx hb dX0_copyFrom_92 rfl (lv_at hl 2 rfl) ?_
      refine x_get B hW (hqG hg2) (cC_G hg2) cls0 hin_X0 8 (by decide) (v := .int (S_88 (gG g2) 8)) rfl k_53 dX0_copyFrom_93 ?_
      refine x_put B hW (hqG hg) cls0 hin_X0 8 (by decide) (cC_G hg) rfl (ty := .int) (by decide +kernel) rfl rfl (Nat.le_of_ble_eq_true rfl) (j := 8) (pG_8 hg) k_53 dX0_copyFrom_96 (fun H locs S_96 he_96 hW => ?_)
      have zk := nm_at zk he_96
      refine lv_aload_n hx hb dX0_copyFrom_99 rfl (lv_at hl 1 rfl) ?_
      refine lv_aload_n hx hb dX0_copyFrom_100 rfl (lv_at hl 2 rfl) ?_
      refine x_get B hW (hqG hg2) (cC_G hg2) cls0 hin_X0 9 (by decide) (v := .int (S_96 (gG g2) 9)) rfl k_56 dX0_copyFrom_101 ?_
      refine x_put B hW (hqG hg) cls0 hin_X0 9 (by decide) (cC_G hg) rfl (ty := .int) (by decide +kernel) rfl rfl (Nat.le_of_ble_eq_true rfl) (j := 9) (pG_9 hg) k_56 dX0_copyFrom_104 (fun H locs S_104 he_104 hW => ?_)
      have zk := nm_at zk he_104
      refine lv_aload_n hx hb dX0_copyFrom_107 rfl (lv_at hl 1 rfl) ?_
      refine lv_aload_n hx hb dX0_copyFrom_108 rfl (lv_at hl 2 rfl) ?_
      refine x_get B hW (hqG hg2) (cC_G hg2) cls0 hin_X0 10 (by decide) (v := .int (S_104 (gG g2) 10)) rfl k_59 dX0_copyFrom_109 ?_
      refine x_put B hW (hqG hg) cls0 hin_X0 10 (by decide) (cC_G hg) rfl (ty := .int) (by decide +kernel) rfl rfl (Nat.le_of_ble_eq_true rfl) (j := 10) (pG_10 hg) k_59 dX0_copyFrom_112 (fun H locs S_112 he_112 hW => ?_)
      have zk := nm_at zk he_112
      exact x_vret B hW zk.symm dX0_copyFrom_115
    · have zk := zk.trans (if_neg c_5)
      have hb_c_5 : n2 < 8 := nI_of_nle (by decide) c_5 (by omega)
      refine lv_aload_n hx hb dX0_copyFrom_8 rfl (lv_at hl 1 rfl) ?_
      refine x_get B hW (hqG hg) (cC_G hg) cls0 hin_X0 0 (by decide) (v := .ref (ad (gA g))) rfl k_11 dX0_copyFrom_9 ?_
      refine lv_iload_n hx hb dX0_copyFrom_12 rfl (lv_at hl 0 rfl) ?_
      refine x_aald B hW (hqA hg) (cC_A hg) (k := 2) rfl (isN_nI hb_c_5 (by decide)) (by decide) (by decide) (v := .ref (ad (gM g n2))) rfl dX0_copyFrom_13 ?_
      refine lv_aload_n hx hb dX0_copyFrom_14 rfl (lv_at hl 2 rfl) ?_
      refine x_get B hW (hqG hg2) (cC_G hg2) cls0 hin_X0 0 (by decide) (v := .ref (ad (gA g2))) rfl k_11 dX0_copyFrom_15 ?_
      refine lv_iload_n hx hb dX0_copyFrom_18 rfl (lv_at hl 0 rfl) ?_
      refine x_aald B hW (hqA hg2) (cC_A hg2) (k := 2) rfl (isN_nI hb_c_5 (by decide)) (by decide) (by decide) (v := .ref (ad (gM g2 n2))) rfl dX0_copyFrom_19 ?_
      refine x_callv hW (x_runVN B hW (As := [.ref (ad (gM g2 n2))]) (rest := []) (host := RX4) (hqM hg hb_c_5) (cC_M hg hb_c_5) cls2 (c_X2_copyFrom (D := D) (ad := ad) l _ S g n2 g2 n2 hg hb_c_5 hg2 hb_c_5) ⟨va_cnB 1 B.1.2.2.2.2 gX0_copyFrom_X2_copyFrom_n28 rfl rfl rfl (B.2.1.2 _ nl_X0_28) ki_X2 hd_X2_copyFrom.2 ⟨Nat.le_of_ble_eq_true rfl, Nat.le_of_ble_eq_true rfl⟩, kn_X2_copyFrom, kv_X2_copyFrom⟩ rfl hls (Nat.le_of_ble_eq_true rfl) dX0_copyFrom_20 ⟨Nat.zero_le _, Nat.zero_le _⟩) (fun S_20 H locs he hW => ?_)
      have he_20 := he
      have zk := nm_at zk he_20
      refine lv_iinc (v := (nI (n2 + 1))) (lv' := [(2, .int (nI (n2 + 1))), (0, .ref (ad (gG g))), (1, .ref (ad (gG g2)))]) hx hb dX0_copyFrom_23 hl (k := 0) rfl (nI_1 _) (by decide) rfl (fun ls hl => ?_)
      have hls := hl.1
      refine lv_goto (tgt := 2) hx hb dX0_copyFrom_26 (by decide) ?_
      exact ih ((n2 + 1)) S_20 _ _ _ (show (n2 + 1) ≤ 8 by omega) (show (n2 + 1) + n = 9 by omega) hW (lv_sub hl [0, 1, 2] rfl) hls zk
set_option maxHeartbeats 4000000 in
set_option maxRecDepth 100000 in
theorem c_X0_copyFrom {D : va_G} {ad : Nat → Nat} (l : Launch) (sz : Nat) (S : vS) (g g2 : Nat) (hg : g < 8) (hg2 : g2 < 8) : Met l yX0_copyFrom wsX0_copyFrom (rmD 2) (pW D 157 (cC D ad) ad sz S [.ref (ad (gG g)), .ref (ad (gG g2))]) (va_Qv (fun (S1 : vS) => S1 = (x_X0_copyFrom S g g2)) (bW D 157 (cC D ad) ad (aW 157 ad sz)) (aW 157 ad sz)) 0 0 (aW 157 ad sz) := by
  refine x_met (own := RX0) (cc := cX0_copyFrom) (maxL := 3) (ret := none) (Qc := fun A => va_Qv (fun (S1 : vS) => S1 = (x_X0_copyFrom S g g2)) (bW D 157 (cC D ad) ad A) A) rfl ⟨by decide +kernel, rfl, Nat.le_of_ble_eq_true rfl⟩ ?_
  intro p e s mm args below meth c A ls B hW hl hls
  have hx := B.1.1
  have hb := B.1.2.1
  have hin_X0 : ∀ w ∈ wsX00, w ∈ wsX0_copyFrom := fun w h => List.mem_cons_of_mem _ (List.mem_append_left _ (List.mem_append_right _ h))
  have k_11 := B.1.2.2.2.2 (.fieldLink RX0 11 "JointLoans$Group" "members" "[LJointLoans$Member;") (by decide +kernel)
  have k_17 := B.1.2.2.2.2 (.fieldLink RX0 17 "JointLoans$Group" "settings" "[I") (by decide +kernel)
  have k_21 := B.1.2.2.2.2 (.fieldLink RX0 21 "JointLoans$Group" "chair" "I") (by decide +kernel)
  have k_38 := B.1.2.2.2.2 (.fieldLink RX0 38 "JointLoans$Group" "numbersGiven" "I") (by decide +kernel)
  have k_41 := B.1.2.2.2.2 (.fieldLink RX0 41 "JointLoans$Group" "weekNumber" "I") (by decide +kernel)
  have k_44 := B.1.2.2.2.2 (.fieldLink RX0 44 "JointLoans$Group" "cycleNumber" "I") (by decide +kernel)
  have k_47 := B.1.2.2.2.2 (.fieldLink RX0 47 "JointLoans$Group" "fund" "I") (by decide +kernel)
  have k_50 := B.1.2.2.2.2 (.fieldLink RX0 50 "JointLoans$Group" "bankLent" "I") (by decide +kernel)
  have k_53 := B.1.2.2.2.2 (.fieldLink RX0 53 "JointLoans$Group" "bankInterest" "I") (by decide +kernel)
  have k_56 := B.1.2.2.2.2 (.fieldLink RX0 56 "JointLoans$Group" "bankPaid" "I") (by decide +kernel)
  have k_59 := B.1.2.2.2.2 (.fieldLink RX0 59 "JointLoans$Group" "missedSoFar" "I") (by decide +kernel)
  have ka_ini := B.1.2.2.2.2 (.initialized "java/lang/System") (by decide +kernel)
  have ka_link := B.1.2.2.2.2 (.methodLink RX0 32 arraycopyName) (by decide +kernel)
  have ka_nat := B.1.2.2.2.2 (.native arraycopyName) (by decide +kernel)
  have ka_stat := B.1.2.2.2.2 (.static arraycopyName) (by decide +kernel)
  have ki_X2 := B.1.2.2.2.2 (.initialized RX2) (by decide +kernel)
  have kn_X2_copyFrom := B.1.2.2.2.2 (.instanceMethod yX2_copyFrom) (by decide +kernel)
  have kv_X2_copyFrom := B.1.2.2.2.2 (.selects RX2 yX2_copyFrom yX2_copyFrom) (by decide +kernel)
  have zk := x_X0_copyFrom.eq_1 S g g2
  have hl : lv_has ls 3 [(0, .ref (ad (gG g))), (1, .ref (ad (gG g2)))] := hl
  refine lv_iconst (v := 0) hx hb dX0_copyFrom_0 (by decide) ?_
  refine lv_istore_n (lv' := [(2, .int 0), (0, .ref (ad (gG g))), (1, .ref (ad (gG g2)))]) hx hb dX0_copyFrom_1 rfl hl (by decide) rfl (fun ls hl => ?_)
  have hls := hl.1
  exact w_X0_copyFrom_L2 l B  _ g g2 hg hg2 (9) (0) S _ _ _ (show 0 ≤ 8 by omega) (show 0 + (9) = 9 by omega) hW (lv_sub hl [0, 1, 2] rfl) hls zk

def x_X0_find (S : vS) (g : Nat) (p1 : Int32) : Option Nat := if p1 < 0 then none else if 8 ≤ p1 then none else if (bz (S (gM g p1.toNatClampNeg) 1)) = 0 then none else some p1.toNatClampNeg
theorem hd_X0_find : yX0_find.cls = RX0 ∧ yX0_find.cls ≠ "java/lang/invoke/MethodHandle" ∧ yX0_find.cls ≠ "java/lang/invoke/VarHandle" ∧ (parseMethodDescriptor yX0_find.desc).map (fun d => d.parameters.length) = some 1 := by decide +kernel
set_option maxHeartbeats 4000000 in
set_option maxRecDepth 100000 in
theorem c_X0_find {D : va_G} {ad : Nat → Nat} (l : Launch) (sz : Nat) (S : vS) (g : Nat) (p1 : Int32) (hg : g < 8) : Met l yX0_find wsX0_find (rmD 0) (pW D 157 (cC D ad) ad sz S [.ref (ad (gG g)), .int p1]) (va_Qq (fun (r : Option Nat) (S1 : vS) => r = ((x_X0_find S g p1)).map (fun k => ad (gM g k)) ∧ S1 = S ∧ ∀ k, (x_X0_find S g p1) = some k → k < 8) (bW D 157 (cC D ad) ad (aW 157 ad sz)) (aW 157 ad sz)) 0 0 (aW 157 ad sz) := by
  refine x_met (own := RX0) (cc := cX0_find) (maxL := 2) (ret := (some (.object "JointLoans$Member"))) (Qc := fun A => va_Qq (fun (r : Option Nat) (S1 : vS) => r = ((x_X0_find S g p1)).map (fun k => ad (gM g k)) ∧ S1 = S ∧ ∀ k, (x_X0_find S g p1) = some k → k < 8) (bW D 157 (cC D ad) ad A) A) rfl ⟨by decide +kernel, rfl, Nat.le_of_ble_eq_true rfl⟩ ?_
  intro p e s mm args below meth c A ls B hW hl hls
  have hx := B.1.1
  have hb := B.1.2.1
  have hin_X0 : ∀ w ∈ wsX00, w ∈ wsX0_find := fun w h => List.mem_cons_of_mem _ (List.mem_append_left _ (List.mem_append_right _ h))
  have hin_X2 : ∀ w ∈ wsX20, w ∈ wsX0_find := fun w h => List.mem_cons_of_mem _ (List.mem_append_right _ h)
  have k_11 := B.1.2.2.2.2 (.fieldLink RX0 11 "JointLoans$Group" "members" "[LJointLoans$Member;") (by decide +kernel)
  have zk := x_X0_find.eq_1 S g p1
  have hl : lv_has ls 2 [(0, .ref (ad (gG g))), (1, .int p1)] := hl
  refine lv_iload_n hx hb dX0_find_0 rfl (lv_at hl 1 rfl) ?_
  refine lv_if_lt (tgt := 22) hx hb dX0_find_1 (by decide) (fun c_1 => ?_) (fun c_1 => ?_)
  · have zk := zk.trans (if_pos c_1)
    refine lv_null hx hb dX0_find_22 ?_
    exact x_aret B hW none rfl ⟨by rw [zk]; rfl, rfl, by rw [zk]; intro k h; cases h⟩ dX0_find_23
  · have zk := zk.trans (if_neg c_1)
    refine lv_iload_n hx hb dX0_find_4 rfl (lv_at hl 1 rfl) ?_
    refine lv_bipush (v := 8) hx hb dX0_find_5 (by decide) ?_
    refine lv_icmp_ge (tgt := 22) hx hb dX0_find_7 (by decide) (fun c_7 => ?_) (fun c_7 => ?_)
    · have zk := zk.trans (if_pos c_7)
      refine lv_null hx hb dX0_find_22 ?_
      exact x_aret B hW none rfl ⟨by rw [zk]; rfl, rfl, by rw [zk]; intro k h; cases h⟩ dX0_find_23
    · have zk := zk.trans (if_neg c_7)
      refine lv_aload_n hx hb dX0_find_10 rfl (lv_at hl 0 rfl) ?_
      refine x_get B hW (hqG hg) (cC_G hg) cls0 hin_X0 0 (by decide) (v := .ref (ad (gA g))) rfl k_11 dX0_find_11 ?_
      refine lv_iload_n hx hb dX0_find_14 rfl (lv_at hl 1 rfl) ?_
      refine x_aald B hW (hqA hg) (cC_A hg) (k := 2) rfl (isN_var (vin_of (n := 8) (N := 8) c_1 c_7 (by decide) (by decide)) (by decide)) (by decide) (by decide) (v := .ref (ad (gM g p1.toNatClampNeg))) rfl dX0_find_15 ?_
      refine x_getN B hW (hqM hg (Nat.lt_of_lt_of_le ((isN_var (vin_of (n := 8) (N := 8) c_1 c_7 (by decide) (by decide)) (by decide))).2.1 (by decide))) (cC_M hg (Nat.lt_of_lt_of_le ((isN_var (vin_of (n := 8) (N := 8) c_1 c_7 (by decide) (by decide)) (by decide))).2.1 (by decide))) cls2 hin_X2 1 (by decide) (v := .int (bz (S (gM g p1.toNatClampNeg) 1))) rfl nl_X0_62 dX0_find_16 ?_
      refine lv_if_ne (tgt := 24) hx hb dX0_find_19 (by decide) (fun c_19 => ?_) (fun c_19 => ?_)
      · have zk := zk.trans (if_neg c_19)
        refine lv_aload_n hx hb dX0_find_24 rfl (lv_at hl 0 rfl) ?_
        refine x_get B hW (hqG hg) (cC_G hg) cls0 hin_X0 0 (by decide) (v := .ref (ad (gA g))) rfl k_11 dX0_find_25 ?_
        refine lv_iload_n hx hb dX0_find_28 rfl (lv_at hl 1 rfl) ?_
        refine x_aald B hW (hqA hg) (cC_A hg) (k := 2) rfl (isN_var (vin_of (n := 8) (N := 8) c_1 c_7 (by decide) (by decide)) (by decide)) (by decide) (by decide) (v := .ref (ad (gM g p1.toNatClampNeg))) rfl dX0_find_29 ?_
        exact x_aret B hW (some (ad (gM g p1.toNatClampNeg))) rfl ⟨by rw [zk]; rfl, rfl, by rw [zk]; intro k h; cases h; exact (Nat.lt_of_lt_of_le ((isN_var (vin_of (n := 8) (N := 8) c_1 c_7 (by decide) (by decide)) (by decide))).2.1 (by decide))⟩ dX0_find_30
      · have zk := zk.trans (if_pos c_19)
        refine lv_null hx hb dX0_find_22 ?_
        exact x_aret B hW none rfl ⟨by rw [zk]; rfl, rfl, by rw [zk]; intro k h; cases h⟩ dX0_find_23

def x_X0_memberCount_L13 : Nat → vS → Nat → Nat → Int32 → Int32
  | 0, S, _, _, _ => 0
  | n + 1, S, g, n4, v1 => if 8 ≤ (nI n4) then v1 else if (bz (S (gM g n4) 1)) = 0 then nm ((v1 + 0)) (fun x_40 => x_X0_memberCount_L13 n S g ((n4 + 1)) (x_40)) else nm ((v1 + 1)) (fun x_40 => x_X0_memberCount_L13 n S g ((n4 + 1)) (x_40))
def x_X0_memberCount (S : vS) (g : Nat) : Int32 := x_X0_memberCount_L13 (9) S g (0) (0)
theorem hd_X0_memberCount : yX0_memberCount.cls = RX0 ∧ yX0_memberCount.cls ≠ "java/lang/invoke/MethodHandle" ∧ yX0_memberCount.cls ≠ "java/lang/invoke/VarHandle" ∧ (parseMethodDescriptor yX0_memberCount.desc).map (fun d => d.parameters.length) = some 0 := by decide +kernel
set_option maxHeartbeats 4000000 in
set_option maxRecDepth 100000 in
theorem w_X0_memberCount_L13 {D : va_G} {ad : Nat → Nat} (l : Launch) {p : Program} {e : Env} {s : State} {mm : MethodId} {args : Array Value} {below : List Frame} {meth : Method} {c : Code} {A : Nat → Prop} (B : Cx p mm c cX0_memberCount 6 s args wsX0_memberCount RX0 meth (some .int) D) (S : vS) (z : Int32) (g : Nat) (hg : g < 8) : ∀ (n : Nat) (n4 : Nat) (v1 : Int32) (H : Heap) (locs : List Loc) (ls : Array Slot), n4 ≤ 8 → n4 + n = 9 → Wd D 157 (cC D ad) ad A s.heap S H locs → lv_has ls 6 [(4, .int (nI n4)), (3, .int 8), (2, .ref (ad (gA g))), (1, .int v1)] → ls.size = 6 → z = x_X0_memberCount_L13 n S g n4 v1 → W p l e (rmD 0) s mm args below meth c H locs 0 0 (MQ below (va_Qi (fun (r : Int32) (S1 : vS) => r = z ∧ S1 = S) (bW D 157 (cC D ad) ad A) A) args s 0 0 A) (F0 mm 13 ls []) := by
  have hx := B.1.1
  have hb := B.1.2.1
  have hin_X0 : ∀ w ∈ wsX00, w ∈ wsX0_memberCount := fun w h => List.mem_cons_of_mem _ (List.mem_append_left _ (List.mem_append_right _ h))
  have hin_X2 : ∀ w ∈ wsX20, w ∈ wsX0_memberCount := fun w h => List.mem_cons_of_mem _ (List.mem_append_right _ h)
  have k_11 := B.1.2.2.2.2 (.fieldLink RX0 11 "JointLoans$Group" "members" "[LJointLoans$Member;") (by decide +kernel)
  intro n
  induction n with
  | zero =>
    intro n4 v1 H locs ls hle hsum
    omega
  | succ n ih =>
    intro n4 v1 H locs ls hle hsum hW hl hls zk
    have zk := zk.trans (x_X0_memberCount_L13.eq_2 _ _ _ _ _ )
    refine lv_iload hx hb dX0_memberCount_13 (lv_at hl 0 rfl) ?_
    refine lv_iload_n hx hb dX0_memberCount_15 rfl (lv_at hl 1 rfl) ?_
    refine lv_icmp_ge (tgt := 47) hx hb dX0_memberCount_16 (by decide) (fun c_16 => ?_) (fun c_16 => ?_)
    · have zk := zk.trans (if_pos c_16)
      refine lv_iload_n hx hb dX0_memberCount_47 rfl (lv_at hl 3 rfl) ?_
      exact x_iret B hW ⟨zk.symm, rfl⟩ dX0_memberCount_48
    · have zk := zk.trans (if_neg c_16)
      have hb_c_16 : n4 < 8 := nI_of_nle (by decide) c_16 (by omega)
      refine lv_aload_n hx hb dX0_memberCount_19 rfl (lv_at hl 2 rfl) ?_
      refine lv_iload hx hb dX0_memberCount_20 (lv_at hl 0 rfl) ?_
      refine x_aald B hW (hqA hg) (cC_A hg) (k := 2) rfl (isN_nI hb_c_16 (by decide)) (by decide) (by decide) (v := .ref (ad (gM g n4))) rfl dX0_memberCount_22 ?_
      refine lv_astore (lv' := [(5, .ref (ad (gM g n4))), (4, .int (nI n4)), (3, .int 8), (2, .ref (ad (gA g))), (1, .int v1)]) hx hb dX0_memberCount_23 hl (by decide) rfl (fun ls hl => ?_)
      have hls := hl.1
      refine lv_iload_n hx hb dX0_memberCount_25 rfl (lv_at hl 4 rfl) ?_
      refine lv_aload hx hb dX0_memberCount_26 (lv_at hl 0 rfl) ?_
      refine x_getN B hW (hqM hg hb_c_16) (cC_M hg hb_c_16) cls2 hin_X2 1 (by decide) (v := .int (bz (S (gM g n4) 1))) rfl nl_X0_62 dX0_memberCount_28 ?_
      refine lv_if_eq (tgt := 38) hx hb dX0_memberCount_31 (by decide) (fun c_31 => ?_) (fun c_31 => ?_)
      · have zk := zk.trans (if_pos c_31)
        refine lv_iconst (v := 0) hx hb dX0_memberCount_38 (by decide) ?_
        refine lv_iadd hx hb dX0_memberCount_39 ?_
        refine lv_topi (fun x_40 ex_40 => ?_)
        have zk := nm_at zk ex_40
        refine lv_istore_n (lv' := [(1, .int x_40), (5, .ref (ad (gM g n4))), (4, .int (nI n4)), (3, .int 8), (2, .ref (ad (gA g)))]) hx hb dX0_memberCount_40 rfl hl (by decide) rfl (fun ls hl => ?_)
        have hls := hl.1
        refine lv_iinc (v := (nI (n4 + 1))) (lv' := [(4, .int (nI (n4 + 1))), (1, .int x_40), (5, .ref (ad (gM g n4))), (3, .int 8), (2, .ref (ad (gA g)))]) hx hb dX0_memberCount_41 hl (k := 2) rfl (nI_1 _) (by decide) rfl (fun ls hl => ?_)
        have hls := hl.1
        refine lv_goto (tgt := 13) hx hb dX0_memberCount_44 (by decide) ?_
        exact ih ((n4 + 1)) (x_40)  _ _ _ (show (n4 + 1) ≤ 8 by omega) (show (n4 + 1) + n = 9 by omega) hW (lv_sub hl [0, 3, 4, 1] rfl) hls zk
      · have zk := zk.trans (if_neg c_31)
        refine lv_iconst (v := 1) hx hb dX0_memberCount_34 (by decide) ?_
        refine lv_goto (tgt := 39) hx hb dX0_memberCount_35 (by decide) ?_
        refine lv_iadd hx hb dX0_memberCount_39 ?_
        refine lv_topi (fun x_40 ex_40 => ?_)
        have zk := nm_at zk ex_40
        refine lv_istore_n (lv' := [(1, .int x_40), (5, .ref (ad (gM g n4))), (4, .int (nI n4)), (3, .int 8), (2, .ref (ad (gA g)))]) hx hb dX0_memberCount_40 rfl hl (by decide) rfl (fun ls hl => ?_)
        have hls := hl.1
        refine lv_iinc (v := (nI (n4 + 1))) (lv' := [(4, .int (nI (n4 + 1))), (1, .int x_40), (5, .ref (ad (gM g n4))), (3, .int 8), (2, .ref (ad (gA g)))]) hx hb dX0_memberCount_41 hl (k := 2) rfl (nI_1 _) (by decide) rfl (fun ls hl => ?_)
        have hls := hl.1
        refine lv_goto (tgt := 13) hx hb dX0_memberCount_44 (by decide) ?_
        exact ih ((n4 + 1)) (x_40)  _ _ _ (show (n4 + 1) ≤ 8 by omega) (show (n4 + 1) + n = 9 by omega) hW (lv_sub hl [0, 3, 4, 1] rfl) hls zk
set_option maxHeartbeats 4000000 in
set_option maxRecDepth 100000 in
theorem c_X0_memberCount {D : va_G} {ad : Nat → Nat} (l : Launch) (sz : Nat) (S : vS) (g : Nat) (hg : g < 8) : Met l yX0_memberCount wsX0_memberCount (rmD 0) (pW D 157 (cC D ad) ad sz S [.ref (ad (gG g))]) (va_Qi (fun (r : Int32) (S1 : vS) => r = (x_X0_memberCount S g) ∧ S1 = S) (bW D 157 (cC D ad) ad (aW 157 ad sz)) (aW 157 ad sz)) 0 0 (aW 157 ad sz) := by
  refine x_met (own := RX0) (cc := cX0_memberCount) (maxL := 6) (ret := (some .int)) (Qc := fun A => va_Qi (fun (r : Int32) (S1 : vS) => r = (x_X0_memberCount S g) ∧ S1 = S) (bW D 157 (cC D ad) ad A) A) rfl ⟨by decide +kernel, rfl, Nat.le_of_ble_eq_true rfl⟩ ?_
  intro p e s mm args below meth c A ls B hW hl hls
  have hx := B.1.1
  have hb := B.1.2.1
  have hin_X0 : ∀ w ∈ wsX00, w ∈ wsX0_memberCount := fun w h => List.mem_cons_of_mem _ (List.mem_append_left _ (List.mem_append_right _ h))
  have hin_X2 : ∀ w ∈ wsX20, w ∈ wsX0_memberCount := fun w h => List.mem_cons_of_mem _ (List.mem_append_right _ h)
  have k_11 := B.1.2.2.2.2 (.fieldLink RX0 11 "JointLoans$Group" "members" "[LJointLoans$Member;") (by decide +kernel)
  have zk := x_X0_memberCount.eq_1 S g
  have hl : lv_has ls 6 [(0, .ref (ad (gG g)))] := hl
  refine lv_iconst (v := 0) hx hb dX0_memberCount_0 (by decide) ?_
  refine lv_istore_n (lv' := [(1, .int 0), (0, .ref (ad (gG g)))]) hx hb dX0_memberCount_1 rfl hl (by decide) rfl (fun ls hl => ?_)
  have hls := hl.1
  refine lv_aload_n hx hb dX0_memberCount_2 rfl (lv_at hl 1 rfl) ?_
  refine x_get B hW (hqG hg) (cC_G hg) cls0 hin_X0 0 (by decide) (v := .ref (ad (gA g))) rfl k_11 dX0_memberCount_3 ?_
  refine lv_astore_n (lv' := [(2, .ref (ad (gA g))), (1, .int 0), (0, .ref (ad (gG g)))]) hx hb dX0_memberCount_6 rfl hl (by decide) rfl (fun ls hl => ?_)
  have hls := hl.1
  refine lv_aload_n hx hb dX0_memberCount_7 rfl (lv_at hl 0 rfl) ?_
  refine x_alen B hW (hqA hg) (cC_A hg) (k := 2) rfl (v := 8) rfl dX0_memberCount_8 ?_
  refine lv_istore_n (lv' := [(3, .int 8), (2, .ref (ad (gA g))), (1, .int 0), (0, .ref (ad (gG g)))]) hx hb dX0_memberCount_9 rfl hl (by decide) rfl (fun ls hl => ?_)
  have hls := hl.1
  refine lv_iconst (v := 0) hx hb dX0_memberCount_10 (by decide) ?_
  refine lv_istore (lv' := [(4, .int 0), (3, .int 8), (2, .ref (ad (gA g))), (1, .int 0), (0, .ref (ad (gG g)))]) hx hb dX0_memberCount_11 hl (by decide) rfl (fun ls hl => ?_)
  have hls := hl.1
  exact w_X0_memberCount_L13 l B S _ g hg (9) (0) (0)  _ _ _ (show 0 ≤ 8 by omega) (show 0 + (9) = 9 by omega) hW (lv_sub hl [0, 1, 2, 3] rfl) hls zk

def x_X0_awayMembers_L13 : Nat → vS → Nat → Nat → Int32 → Int32
  | 0, S, _, _, _ => 0
  | n + 1, S, g, n4, v1 => if 8 ≤ (nI n4) then v1 else if (bz (S (gM g n4) 1)) = 0 then nm ((v1 + 0)) (fun x_48 => x_X0_awayMembers_L13 n S g ((n4 + 1)) (x_48)) else if (bz (S (gM g n4) 8)) = 0 then nm ((v1 + 0)) (fun x_48 => x_X0_awayMembers_L13 n S g ((n4 + 1)) (x_48)) else nm ((v1 + 1)) (fun x_48 => x_X0_awayMembers_L13 n S g ((n4 + 1)) (x_48))
def x_X0_awayMembers (S : vS) (g : Nat) : Int32 := x_X0_awayMembers_L13 (9) S g (0) (0)
theorem hd_X0_awayMembers : yX0_awayMembers.cls = RX0 ∧ yX0_awayMembers.cls ≠ "java/lang/invoke/MethodHandle" ∧ yX0_awayMembers.cls ≠ "java/lang/invoke/VarHandle" ∧ (parseMethodDescriptor yX0_awayMembers.desc).map (fun d => d.parameters.length) = some 0 := by decide +kernel
set_option maxHeartbeats 4000000 in
set_option maxRecDepth 100000 in
theorem w_X0_awayMembers_L13 {D : va_G} {ad : Nat → Nat} (l : Launch) {p : Program} {e : Env} {s : State} {mm : MethodId} {args : Array Value} {below : List Frame} {meth : Method} {c : Code} {A : Nat → Prop} (B : Cx p mm c cX0_awayMembers 6 s args wsX0_awayMembers RX0 meth (some .int) D) (S : vS) (z : Int32) (g : Nat) (hg : g < 8) : ∀ (n : Nat) (n4 : Nat) (v1 : Int32) (H : Heap) (locs : List Loc) (ls : Array Slot), n4 ≤ 8 → n4 + n = 9 → Wd D 157 (cC D ad) ad A s.heap S H locs → lv_has ls 6 [(4, .int (nI n4)), (3, .int 8), (2, .ref (ad (gA g))), (1, .int v1)] → ls.size = 6 → z = x_X0_awayMembers_L13 n S g n4 v1 → W p l e (rmD 0) s mm args below meth c H locs 0 0 (MQ below (va_Qi (fun (r : Int32) (S1 : vS) => r = z ∧ S1 = S) (bW D 157 (cC D ad) ad A) A) args s 0 0 A) (F0 mm 13 ls []) := by
  have hx := B.1.1
  have hb := B.1.2.1
  have hin_X0 : ∀ w ∈ wsX00, w ∈ wsX0_awayMembers := fun w h => List.mem_cons_of_mem _ (List.mem_append_left _ (List.mem_append_right _ h))
  have hin_X2 : ∀ w ∈ wsX20, w ∈ wsX0_awayMembers := fun w h => List.mem_cons_of_mem _ (List.mem_append_right _ h)
  have k_11 := B.1.2.2.2.2 (.fieldLink RX0 11 "JointLoans$Group" "members" "[LJointLoans$Member;") (by decide +kernel)
  intro n
  induction n with
  | zero =>
    intro n4 v1 H locs ls hle hsum
    omega
  | succ n ih =>
    intro n4 v1 H locs ls hle hsum hW hl hls zk
    have zk := zk.trans (x_X0_awayMembers_L13.eq_2 _ _ _ _ _ )
    refine lv_iload hx hb dX0_awayMembers_13 (lv_at hl 0 rfl) ?_
    refine lv_iload_n hx hb dX0_awayMembers_15 rfl (lv_at hl 1 rfl) ?_
    refine lv_icmp_ge (tgt := 55) hx hb dX0_awayMembers_16 (by decide) (fun c_16 => ?_) (fun c_16 => ?_)
    · have zk := zk.trans (if_pos c_16)
      refine lv_iload_n hx hb dX0_awayMembers_55 rfl (lv_at hl 3 rfl) ?_
      exact x_iret B hW ⟨zk.symm, rfl⟩ dX0_awayMembers_56
    · have zk := zk.trans (if_neg c_16)
      have hb_c_16 : n4 < 8 := nI_of_nle (by decide) c_16 (by omega)
      refine lv_aload_n hx hb dX0_awayMembers_19 rfl (lv_at hl 2 rfl) ?_
      refine lv_iload hx hb dX0_awayMembers_20 (lv_at hl 0 rfl) ?_
      refine x_aald B hW (hqA hg) (cC_A hg) (k := 2) rfl (isN_nI hb_c_16 (by decide)) (by decide) (by decide) (v := .ref (ad (gM g n4))) rfl dX0_awayMembers_22 ?_
      refine lv_astore (lv' := [(5, .ref (ad (gM g n4))), (4, .int (nI n4)), (3, .int 8), (2, .ref (ad (gA g))), (1, .int v1)]) hx hb dX0_awayMembers_23 hl (by decide) rfl (fun ls hl => ?_)
      have hls := hl.1
      refine lv_iload_n hx hb dX0_awayMembers_25 rfl (lv_at hl 4 rfl) ?_
      refine lv_aload hx hb dX0_awayMembers_26 (lv_at hl 0 rfl) ?_
      refine x_getN B hW (hqM hg hb_c_16) (cC_M hg hb_c_16) cls2 hin_X2 1 (by decide) (v := .int (bz (S (gM g n4) 1))) rfl nl_X0_62 dX0_awayMembers_28 ?_
      refine lv_if_eq (tgt := 46) hx hb dX0_awayMembers_31 (by decide) (fun c_31 => ?_) (fun c_31 => ?_)
      · have zk := zk.trans (if_pos c_31)
        refine lv_iconst (v := 0) hx hb dX0_awayMembers_46 (by decide) ?_
        refine lv_iadd hx hb dX0_awayMembers_47 ?_
        refine lv_topi (fun x_48 ex_48 => ?_)
        have zk := nm_at zk ex_48
        refine lv_istore_n (lv' := [(1, .int x_48), (5, .ref (ad (gM g n4))), (4, .int (nI n4)), (3, .int 8), (2, .ref (ad (gA g)))]) hx hb dX0_awayMembers_48 rfl hl (by decide) rfl (fun ls hl => ?_)
        have hls := hl.1
        refine lv_iinc (v := (nI (n4 + 1))) (lv' := [(4, .int (nI (n4 + 1))), (1, .int x_48), (5, .ref (ad (gM g n4))), (3, .int 8), (2, .ref (ad (gA g)))]) hx hb dX0_awayMembers_49 hl (k := 2) rfl (nI_1 _) (by decide) rfl (fun ls hl => ?_)
        have hls := hl.1
        refine lv_goto (tgt := 13) hx hb dX0_awayMembers_52 (by decide) ?_
        exact ih ((n4 + 1)) (x_48)  _ _ _ (show (n4 + 1) ≤ 8 by omega) (show (n4 + 1) + n = 9 by omega) hW (lv_sub hl [0, 3, 4, 1] rfl) hls zk
      · have zk := zk.trans (if_neg c_31)
        refine lv_aload hx hb dX0_awayMembers_34 (lv_at hl 0 rfl) ?_
        refine x_getN B hW (hqM hg hb_c_16) (cC_M hg hb_c_16) cls2 hin_X2 8 (by decide) (v := .int (bz (S (gM g n4) 8))) rfl nl_X0_66 dX0_awayMembers_36 ?_
        refine lv_if_eq (tgt := 46) hx hb dX0_awayMembers_39 (by decide) (fun c_39 => ?_) (fun c_39 => ?_)
        · have zk := zk.trans (if_pos c_39)
          refine lv_iconst (v := 0) hx hb dX0_awayMembers_46 (by decide) ?_
          refine lv_iadd hx hb dX0_awayMembers_47 ?_
          refine lv_topi (fun x_48 ex_48 => ?_)
          have zk := nm_at zk ex_48
          refine lv_istore_n (lv' := [(1, .int x_48), (5, .ref (ad (gM g n4))), (4, .int (nI n4)), (3, .int 8), (2, .ref (ad (gA g)))]) hx hb dX0_awayMembers_48 rfl hl (by decide) rfl (fun ls hl => ?_)
          have hls := hl.1
          refine lv_iinc (v := (nI (n4 + 1))) (lv' := [(4, .int (nI (n4 + 1))), (1, .int x_48), (5, .ref (ad (gM g n4))), (3, .int 8), (2, .ref (ad (gA g)))]) hx hb dX0_awayMembers_49 hl (k := 2) rfl (nI_1 _) (by decide) rfl (fun ls hl => ?_)
          have hls := hl.1
          refine lv_goto (tgt := 13) hx hb dX0_awayMembers_52 (by decide) ?_
          exact ih ((n4 + 1)) (x_48)  _ _ _ (show (n4 + 1) ≤ 8 by omega) (show (n4 + 1) + n = 9 by omega) hW (lv_sub hl [0, 3, 4, 1] rfl) hls zk
        · have zk := zk.trans (if_neg c_39)
          refine lv_iconst (v := 1) hx hb dX0_awayMembers_42 (by decide) ?_
          refine lv_goto (tgt := 47) hx hb dX0_awayMembers_43 (by decide) ?_
          refine lv_iadd hx hb dX0_awayMembers_47 ?_
          refine lv_topi (fun x_48 ex_48 => ?_)
          have zk := nm_at zk ex_48
          refine lv_istore_n (lv' := [(1, .int x_48), (5, .ref (ad (gM g n4))), (4, .int (nI n4)), (3, .int 8), (2, .ref (ad (gA g)))]) hx hb dX0_awayMembers_48 rfl hl (by decide) rfl (fun ls hl => ?_)
          have hls := hl.1
          refine lv_iinc (v := (nI (n4 + 1))) (lv' := [(4, .int (nI (n4 + 1))), (1, .int x_48), (5, .ref (ad (gM g n4))), (3, .int 8), (2, .ref (ad (gA g)))]) hx hb dX0_awayMembers_49 hl (k := 2) rfl (nI_1 _) (by decide) rfl (fun ls hl => ?_)
          have hls := hl.1
          refine lv_goto (tgt := 13) hx hb dX0_awayMembers_52 (by decide) ?_
          exact ih ((n4 + 1)) (x_48)  _ _ _ (show (n4 + 1) ≤ 8 by omega) (show (n4 + 1) + n = 9 by omega) hW (lv_sub hl [0, 3, 4, 1] rfl) hls zk
set_option maxHeartbeats 4000000 in
set_option maxRecDepth 100000 in
theorem c_X0_awayMembers {D : va_G} {ad : Nat → Nat} (l : Launch) (sz : Nat) (S : vS) (g : Nat) (hg : g < 8) : Met l yX0_awayMembers wsX0_awayMembers (rmD 0) (pW D 157 (cC D ad) ad sz S [.ref (ad (gG g))]) (va_Qi (fun (r : Int32) (S1 : vS) => r = (x_X0_awayMembers S g) ∧ S1 = S) (bW D 157 (cC D ad) ad (aW 157 ad sz)) (aW 157 ad sz)) 0 0 (aW 157 ad sz) := by
  refine x_met (own := RX0) (cc := cX0_awayMembers) (maxL := 6) (ret := (some .int)) (Qc := fun A => va_Qi (fun (r : Int32) (S1 : vS) => r = (x_X0_awayMembers S g) ∧ S1 = S) (bW D 157 (cC D ad) ad A) A) rfl ⟨by decide +kernel, rfl, Nat.le_of_ble_eq_true rfl⟩ ?_
  intro p e s mm args below meth c A ls B hW hl hls
  have hx := B.1.1
  have hb := B.1.2.1
  have hin_X0 : ∀ w ∈ wsX00, w ∈ wsX0_awayMembers := fun w h => List.mem_cons_of_mem _ (List.mem_append_left _ (List.mem_append_right _ h))
  have hin_X2 : ∀ w ∈ wsX20, w ∈ wsX0_awayMembers := fun w h => List.mem_cons_of_mem _ (List.mem_append_right _ h)
  have k_11 := B.1.2.2.2.2 (.fieldLink RX0 11 "JointLoans$Group" "members" "[LJointLoans$Member;") (by decide +kernel)
  have zk := x_X0_awayMembers.eq_1 S g
  have hl : lv_has ls 6 [(0, .ref (ad (gG g)))] := hl
  refine lv_iconst (v := 0) hx hb dX0_awayMembers_0 (by decide) ?_
  refine lv_istore_n (lv' := [(1, .int 0), (0, .ref (ad (gG g)))]) hx hb dX0_awayMembers_1 rfl hl (by decide) rfl (fun ls hl => ?_)
  have hls := hl.1
  refine lv_aload_n hx hb dX0_awayMembers_2 rfl (lv_at hl 1 rfl) ?_
  refine x_get B hW (hqG hg) (cC_G hg) cls0 hin_X0 0 (by decide) (v := .ref (ad (gA g))) rfl k_11 dX0_awayMembers_3 ?_
  refine lv_astore_n (lv' := [(2, .ref (ad (gA g))), (1, .int 0), (0, .ref (ad (gG g)))]) hx hb dX0_awayMembers_6 rfl hl (by decide) rfl (fun ls hl => ?_)
  have hls := hl.1
  refine lv_aload_n hx hb dX0_awayMembers_7 rfl (lv_at hl 0 rfl) ?_
  refine x_alen B hW (hqA hg) (cC_A hg) (k := 2) rfl (v := 8) rfl dX0_awayMembers_8 ?_
  refine lv_istore_n (lv' := [(3, .int 8), (2, .ref (ad (gA g))), (1, .int 0), (0, .ref (ad (gG g)))]) hx hb dX0_awayMembers_9 rfl hl (by decide) rfl (fun ls hl => ?_)
  have hls := hl.1
  refine lv_iconst (v := 0) hx hb dX0_awayMembers_10 (by decide) ?_
  refine lv_istore (lv' := [(4, .int 0), (3, .int 8), (2, .ref (ad (gA g))), (1, .int 0), (0, .ref (ad (gG g)))]) hx hb dX0_awayMembers_11 hl (by decide) rfl (fun ls hl => ?_)
  have hls := hl.1
  exact w_X0_awayMembers_L13 l B S _ g hg (9) (0) (0)  _ _ _ (show 0 ≤ 8 by omega) (show 0 + (9) = 9 by omega) hW (lv_sub hl [0, 1, 2, 3] rfl) hls zk

def x_X0_admit (S : vS) (g : Nat) : (Int32 × vS) := nm ((S (gG g) 2)) (fun x_4 => if x_4 < 0 then ((-1), S) else if x_4 < 8 then nm (x_X0_memberCount S g) (fun r_18 => if r_18 = 0 then nm (st S (gG g) 5 x_4) (fun S_26 => nm (st S_26 (gM g x_4.toNatClampNeg) 1 1) (fun S_36 => nm (st S_36 (gM g x_4.toNatClampNeg) 2 200) (fun S_48 => nm (st S_48 (gG g) 2 ((S_48 (gG g) 2) + 1)) (fun S_58 => (x_4, S_58))))) else nm (st S (gM g x_4.toNatClampNeg) 1 1) (fun S_36 => nm (st S_36 (gM g x_4.toNatClampNeg) 2 200) (fun S_48 => nm (st S_48 (gG g) 2 ((S_48 (gG g) 2) + 1)) (fun S_58 => (x_4, S_58))))) else ((-1), S))
theorem hd_X0_admit : yX0_admit.cls = RX0 ∧ yX0_admit.cls ≠ "java/lang/invoke/MethodHandle" ∧ yX0_admit.cls ≠ "java/lang/invoke/VarHandle" ∧ (parseMethodDescriptor yX0_admit.desc).map (fun d => d.parameters.length) = some 0 := by decide +kernel
set_option maxHeartbeats 4000000 in
set_option maxRecDepth 100000 in
theorem c_X0_admit {D : va_G} {ad : Nat → Nat} (l : Launch) (sz : Nat) (S : vS) (g : Nat) (hg : g < 8) : Met l yX0_admit wsX0_admit (rmD 1) (pW D 157 (cC D ad) ad sz S [.ref (ad (gG g))]) (va_Qi (fun (r : Int32) (S1 : vS) => (r, S1) = (x_X0_admit S g)) (bW D 157 (cC D ad) ad (aW 157 ad sz)) (aW 157 ad sz)) 0 0 (aW 157 ad sz) := by
  refine x_met (own := RX0) (cc := cX0_admit) (maxL := 2) (ret := (some .int)) (Qc := fun A => va_Qi (fun (r : Int32) (S1 : vS) => (r, S1) = (x_X0_admit S g)) (bW D 157 (cC D ad) ad A) A) rfl ⟨by decide +kernel, rfl, Nat.le_of_ble_eq_true rfl⟩ ?_
  intro p e s mm args below meth c A ls B hW hl hls
  have hx := B.1.1
  have hb := B.1.2.1
  have hin_X0 : ∀ w ∈ wsX00, w ∈ wsX0_admit := fun w h => List.mem_cons_of_mem _ (List.mem_append_left _ (List.mem_append_right _ h))
  have hin_X2 : ∀ w ∈ wsX20, w ∈ wsX0_admit := fun w h => List.mem_cons_of_mem _ (List.mem_append_right _ h)
  have k_11 := B.1.2.2.2.2 (.fieldLink RX0 11 "JointLoans$Group" "members" "[LJointLoans$Member;") (by decide +kernel)
  have k_21 := B.1.2.2.2.2 (.fieldLink RX0 21 "JointLoans$Group" "chair" "I") (by decide +kernel)
  have k_38 := B.1.2.2.2.2 (.fieldLink RX0 38 "JointLoans$Group" "numbersGiven" "I") (by decide +kernel)
  have zk := x_X0_admit.eq_1 S g
  have hl : lv_has ls 2 [(0, .ref (ad (gG g)))] := hl
  refine lv_aload_n hx hb dX0_admit_0 rfl (lv_at hl 0 rfl) ?_
  refine x_get B hW (hqG hg) (cC_G hg) cls0 hin_X0 2 (by decide) (v := .int (S (gG g) 2)) rfl k_38 dX0_admit_1 ?_
  refine lv_topi (fun x_4 ex_4 => ?_)
  have zk := nm_at zk ex_4
  refine lv_istore_n (lv' := [(1, .int x_4), (0, .ref (ad (gG g)))]) hx hb dX0_admit_4 rfl hl (by decide) rfl (fun ls hl => ?_)
  have hls := hl.1
  refine lv_iload_n hx hb dX0_admit_5 rfl (lv_at hl 0 rfl) ?_
  refine lv_if_lt (tgt := 15) hx hb dX0_admit_6 (by decide) (fun c_6 => ?_) (fun c_6 => ?_)
  · have zk := zk.trans (if_pos c_6)
    refine lv_iconst (v := (-1)) hx hb dX0_admit_15 (by decide) ?_
    exact x_iret B hW zk.symm dX0_admit_16
  · have zk := zk.trans (if_neg c_6)
    refine lv_iload_n hx hb dX0_admit_9 rfl (lv_at hl 0 rfl) ?_
    refine lv_bipush (v := 8) hx hb dX0_admit_10 (by decide) ?_
    refine lv_icmp_lt (tgt := 17) hx hb dX0_admit_12 (by decide) (fun c_12 => ?_) (fun c_12 => ?_)
    · have zk := zk.trans (if_pos c_12)
      refine lv_aload_n hx hb dX0_admit_17 rfl (lv_at hl 1 rfl) ?_
      refine x_calli hW (x_runV B hW (As := []) (rest := []) (hqG hg) (cC_G hg) cls0 (c_X0_memberCount (D := D) (ad := ad) l _ S g hg) (cwV 0 B.1.2.2.2.2 gX0_admit_X0_memberCount rfl rfl rfl hd_X0_memberCount ⟨Nat.le_of_ble_eq_true rfl, Nat.le_of_ble_eq_true rfl⟩) rfl hls (Nat.le_of_ble_eq_true rfl) dX0_admit_18 ⟨Nat.zero_le _, Nat.zero_le _⟩) (fun r_18 S_18 H locs he hW => ?_)
      obtain ⟨hr_18, hs⟩ := he
      rw [hs] at hW
      have zk := nm_at zk hr_18
      refine lv_if_ne (tgt := 29) hx hb dX0_admit_21 (by decide) (fun c_21 => ?_) (fun c_21 => ?_)
      · have zk := zk.trans (if_neg c_21)
        refine lv_aload_n hx hb dX0_admit_29 rfl (lv_at hl 1 rfl) ?_
        refine x_get B hW (hqG hg) (cC_G hg) cls0 hin_X0 0 (by decide) (v := .ref (ad (gA g))) rfl k_11 dX0_admit_30 ?_
        refine lv_iload_n hx hb dX0_admit_33 rfl (lv_at hl 0 rfl) ?_
        refine x_aald B hW (hqA hg) (cC_A hg) (k := 2) rfl (isN_var (vin_of (n := 8) (N := 8) c_6 (nle_of_lt c_12) (by decide) (by decide)) (by decide)) (by decide) (by decide) (v := .ref (ad (gM g x_4.toNatClampNeg))) rfl dX0_admit_34 ?_
        refine lv_iconst (v := 1) hx hb dX0_admit_35 (by decide) ?_
        refine x_putN B hW (hqM hg (Nat.lt_of_lt_of_le ((isN_var (vin_of (n := 8) (N := 8) c_6 (nle_of_lt c_12) (by decide) (by decide)) (by decide))).2.1 (by decide))) cls2 hin_X2 1 (by decide) (cC_M hg (Nat.lt_of_lt_of_le ((isN_var (vin_of (n := 8) (N := 8) c_6 (nle_of_lt c_12) (by decide) (by decide)) (by decide))).2.1 (by decide))) rfl (ty := .boolean) (by decide +kernel) (nar_z (Or.inr rfl)) (fit_z (Or.inr rfl)) (Nat.le_of_ble_eq_true rfl) (j := 1) (pM_1 hg (Nat.lt_of_lt_of_le ((isN_var (vin_of (n := 8) (N := 8) c_6 (nle_of_lt c_12) (by decide) (by decide)) (by decide))).2.1 (by decide)) (Or.inr rfl)) nl_X0_62 dX0_admit_36 (fun H locs S_36 he_36 hW => ?_)
        have zk := nm_at zk he_36
        refine lv_aload_n hx hb dX0_admit_39 rfl (lv_at hl 1 rfl) ?_
        refine x_get B hW (hqG hg) (cC_G hg) cls0 hin_X0 0 (by decide) (v := .ref (ad (gA g))) rfl k_11 dX0_admit_40 ?_
        refine lv_iload_n hx hb dX0_admit_43 rfl (lv_at hl 0 rfl) ?_
        refine x_aald B hW (hqA hg) (cC_A hg) (k := 2) rfl (isN_var (vin_of (n := 8) (N := 8) c_6 (nle_of_lt c_12) (by decide) (by decide)) (by decide)) (by decide) (by decide) (v := .ref (ad (gM g x_4.toNatClampNeg))) rfl dX0_admit_44 ?_
        refine lv_sipush (v := 200) hx hb dX0_admit_45 (by decide) ?_
        refine x_putN B hW (hqM hg (Nat.lt_of_lt_of_le ((isN_var (vin_of (n := 8) (N := 8) c_6 (nle_of_lt c_12) (by decide) (by decide)) (by decide))).2.1 (by decide))) cls2 hin_X2 2 (by decide) (cC_M hg (Nat.lt_of_lt_of_le ((isN_var (vin_of (n := 8) (N := 8) c_6 (nle_of_lt c_12) (by decide) (by decide)) (by decide))).2.1 (by decide))) rfl (ty := .int) (by decide +kernel) rfl rfl (Nat.le_of_ble_eq_true rfl) (j := 2) (pM_2 hg (Nat.lt_of_lt_of_le ((isN_var (vin_of (n := 8) (N := 8) c_6 (nle_of_lt c_12) (by decide) (by decide)) (by decide))).2.1 (by decide))) nl_X0_73 dX0_admit_48 (fun H locs S_48 he_48 hW => ?_)
        have zk := nm_at zk he_48
        refine lv_aload_n hx hb dX0_admit_51 rfl (lv_at hl 1 rfl) ?_
        refine lv_dup hx hb dX0_admit_52 rfl ?_
        refine x_get B hW (hqG hg) (cC_G hg) cls0 hin_X0 2 (by decide) (v := .int (S_48 (gG g) 2)) rfl k_38 dX0_admit_53 ?_
        refine lv_iconst (v := 1) hx hb dX0_admit_56 (by decide) ?_
        refine lv_iadd hx hb dX0_admit_57 ?_
        refine x_put B hW (hqG hg) cls0 hin_X0 2 (by decide) (cC_G hg) rfl (ty := .int) (by decide +kernel) rfl rfl (Nat.le_of_ble_eq_true rfl) (j := 2) (pG_2 hg) k_38 dX0_admit_58 (fun H locs S_58 he_58 hW => ?_)
        have zk := nm_at zk he_58
        refine lv_iload_n hx hb dX0_admit_61 rfl (lv_at hl 0 rfl) ?_
        exact x_iret B hW zk.symm dX0_admit_62
      · have zk := zk.trans (if_pos c_21)
        refine lv_aload_n hx hb dX0_admit_24 rfl (lv_at hl 1 rfl) ?_
        refine lv_iload_n hx hb dX0_admit_25 rfl (lv_at hl 0 rfl) ?_
        refine x_put B hW (hqG hg) cls0 hin_X0 5 (by decide) (cC_G hg) rfl (ty := .int) (by decide +kernel) rfl rfl (Nat.le_of_ble_eq_true rfl) (j := 5) (pG_5 hg) k_21 dX0_admit_26 (fun H locs S_26 he_26 hW => ?_)
        have zk := nm_at zk he_26
        refine lv_aload_n hx hb dX0_admit_29 rfl (lv_at hl 1 rfl) ?_
        refine x_get B hW (hqG hg) (cC_G hg) cls0 hin_X0 0 (by decide) (v := .ref (ad (gA g))) rfl k_11 dX0_admit_30 ?_
        refine lv_iload_n hx hb dX0_admit_33 rfl (lv_at hl 0 rfl) ?_
        refine x_aald B hW (hqA hg) (cC_A hg) (k := 2) rfl (isN_var (vin_of (n := 8) (N := 8) c_6 (nle_of_lt c_12) (by decide) (by decide)) (by decide)) (by decide) (by decide) (v := .ref (ad (gM g x_4.toNatClampNeg))) rfl dX0_admit_34 ?_
        refine lv_iconst (v := 1) hx hb dX0_admit_35 (by decide) ?_
        refine x_putN B hW (hqM hg (Nat.lt_of_lt_of_le ((isN_var (vin_of (n := 8) (N := 8) c_6 (nle_of_lt c_12) (by decide) (by decide)) (by decide))).2.1 (by decide))) cls2 hin_X2 1 (by decide) (cC_M hg (Nat.lt_of_lt_of_le ((isN_var (vin_of (n := 8) (N := 8) c_6 (nle_of_lt c_12) (by decide) (by decide)) (by decide))).2.1 (by decide))) rfl (ty := .boolean) (by decide +kernel) (nar_z (Or.inr rfl)) (fit_z (Or.inr rfl)) (Nat.le_of_ble_eq_true rfl) (j := 1) (pM_1 hg (Nat.lt_of_lt_of_le ((isN_var (vin_of (n := 8) (N := 8) c_6 (nle_of_lt c_12) (by decide) (by decide)) (by decide))).2.1 (by decide)) (Or.inr rfl)) nl_X0_62 dX0_admit_36 (fun H locs S_36 he_36 hW => ?_)
        have zk := nm_at zk he_36
        refine lv_aload_n hx hb dX0_admit_39 rfl (lv_at hl 1 rfl) ?_
        refine x_get B hW (hqG hg) (cC_G hg) cls0 hin_X0 0 (by decide) (v := .ref (ad (gA g))) rfl k_11 dX0_admit_40 ?_
        refine lv_iload_n hx hb dX0_admit_43 rfl (lv_at hl 0 rfl) ?_
        refine x_aald B hW (hqA hg) (cC_A hg) (k := 2) rfl (isN_var (vin_of (n := 8) (N := 8) c_6 (nle_of_lt c_12) (by decide) (by decide)) (by decide)) (by decide) (by decide) (v := .ref (ad (gM g x_4.toNatClampNeg))) rfl dX0_admit_44 ?_
        refine lv_sipush (v := 200) hx hb dX0_admit_45 (by decide) ?_
        refine x_putN B hW (hqM hg (Nat.lt_of_lt_of_le ((isN_var (vin_of (n := 8) (N := 8) c_6 (nle_of_lt c_12) (by decide) (by decide)) (by decide))).2.1 (by decide))) cls2 hin_X2 2 (by decide) (cC_M hg (Nat.lt_of_lt_of_le ((isN_var (vin_of (n := 8) (N := 8) c_6 (nle_of_lt c_12) (by decide) (by decide)) (by decide))).2.1 (by decide))) rfl (ty := .int) (by decide +kernel) rfl rfl (Nat.le_of_ble_eq_true rfl) (j := 2) (pM_2 hg (Nat.lt_of_lt_of_le ((isN_var (vin_of (n := 8) (N := 8) c_6 (nle_of_lt c_12) (by decide) (by decide)) (by decide))).2.1 (by decide))) nl_X0_73 dX0_admit_48 (fun H locs S_48 he_48 hW => ?_)
        have zk := nm_at zk he_48
        refine lv_aload_n hx hb dX0_admit_51 rfl (lv_at hl 1 rfl) ?_
        refine lv_dup hx hb dX0_admit_52 rfl ?_
        refine x_get B hW (hqG hg) (cC_G hg) cls0 hin_X0 2 (by decide) (v := .int (S_48 (gG g) 2)) rfl k_38 dX0_admit_53 ?_
        refine lv_iconst (v := 1) hx hb dX0_admit_56 (by decide) ?_
        refine lv_iadd hx hb dX0_admit_57 ?_
        refine x_put B hW (hqG hg) cls0 hin_X0 2 (by decide) (cC_G hg) rfl (ty := .int) (by decide +kernel) rfl rfl (Nat.le_of_ble_eq_true rfl) (j := 2) (pG_2 hg) k_38 dX0_admit_58 (fun H locs S_58 he_58 hW => ?_)
        have zk := nm_at zk he_58
        refine lv_iload_n hx hb dX0_admit_61 rfl (lv_at hl 0 rfl) ?_
        exact x_iret B hW zk.symm dX0_admit_62
    · have zk := zk.trans (if_neg c_12)
      refine lv_iconst (v := (-1)) hx hb dX0_admit_15 (by decide) ?_
      exact x_iret B hW zk.symm dX0_admit_16

def x_X0_owedTo_L14 : Nat → vS → Nat → Nat → Nat → Int32 → Int32
  | 0, S, _, _, _, _ => 0
  | n + 1, S, g, k, n5, v2 => if 8 ≤ (nI n5) then v2 else nm ((v2 + (S (gD g n5) k))) (fun x_39 => x_X0_owedTo_L14 n S g k ((n5 + 1)) (x_39))
def x_X0_owedTo (S : vS) (g k : Nat) : Int32 := x_X0_owedTo_L14 (9) S g k (0) (0)
theorem hd_X0_owedTo : yX0_owedTo.cls = RX0 ∧ yX0_owedTo.cls ≠ "java/lang/invoke/MethodHandle" ∧ yX0_owedTo.cls ≠ "java/lang/invoke/VarHandle" ∧ (parseMethodDescriptor yX0_owedTo.desc).map (fun d => d.parameters.length) = some 1 := by decide +kernel
set_option maxHeartbeats 4000000 in
set_option maxRecDepth 100000 in
theorem w_X0_owedTo_L14 {D : va_G} {ad : Nat → Nat} (l : Launch) {p : Program} {e : Env} {s : State} {mm : MethodId} {args : Array Value} {below : List Frame} {meth : Method} {c : Code} {A : Nat → Prop} (B : Cx p mm c cX0_owedTo 7 s args wsX0_owedTo RX0 meth (some .int) D) (S : vS) (z : Int32) (g k : Nat) (hg : g < 8) (hk : k < 8) : ∀ (n : Nat) (n5 : Nat) (v2 : Int32) (H : Heap) (locs : List Loc) (ls : Array Slot), n5 ≤ 8 → n5 + n = 9 → Wd D 157 (cC D ad) ad A s.heap S H locs → lv_has ls 7 [(5, .int (nI n5)), (4, .int 8), (3, .ref (ad (gA g))), (2, .int v2), (1, .ref (ad (gM g k)))] → ls.size = 7 → z = x_X0_owedTo_L14 n S g k n5 v2 → W p l e (rmD 0) s mm args below meth c H locs 0 0 (MQ below (va_Qi (fun (r : Int32) (S1 : vS) => r = z ∧ S1 = S) (bW D 157 (cC D ad) ad A) A) args s 0 0 A) (F0 mm 14 ls []) := by
  have hx := B.1.1
  have hb := B.1.2.1
  have hin_X0 : ∀ w ∈ wsX00, w ∈ wsX0_owedTo := fun w h => List.mem_cons_of_mem _ (List.mem_append_left _ (List.mem_append_right _ h))
  have hin_X2 : ∀ w ∈ wsX20, w ∈ wsX0_owedTo := fun w h => List.mem_cons_of_mem _ (List.mem_append_right _ h)
  have k_11 := B.1.2.2.2.2 (.fieldLink RX0 11 "JointLoans$Group" "members" "[LJointLoans$Member;") (by decide +kernel)
  intro n
  induction n with
  | zero =>
    intro n5 v2 H locs ls hle hsum
    omega
  | succ n ih =>
    intro n5 v2 H locs ls hle hsum hW hl hls zk
    have zk := zk.trans (x_X0_owedTo_L14.eq_2 _ _ _ _ _ _ )
    refine lv_iload hx hb dX0_owedTo_14 (lv_at hl 0 rfl) ?_
    refine lv_iload hx hb dX0_owedTo_16 (lv_at hl 1 rfl) ?_
    refine lv_icmp_ge (tgt := 46) hx hb dX0_owedTo_18 (by decide) (fun c_18 => ?_) (fun c_18 => ?_)
    · have zk := zk.trans (if_pos c_18)
      refine lv_iload_n hx hb dX0_owedTo_46 rfl (lv_at hl 3 rfl) ?_
      exact x_iret B hW ⟨zk.symm, rfl⟩ dX0_owedTo_47
    · have zk := zk.trans (if_neg c_18)
      have hb_c_18 : n5 < 8 := nI_of_nle (by decide) c_18 (by omega)
      refine lv_aload_n hx hb dX0_owedTo_21 rfl (lv_at hl 2 rfl) ?_
      refine lv_iload hx hb dX0_owedTo_22 (lv_at hl 0 rfl) ?_
      refine x_aald B hW (hqA hg) (cC_A hg) (k := 2) rfl (isN_nI hb_c_18 (by decide)) (by decide) (by decide) (v := .ref (ad (gM g n5))) rfl dX0_owedTo_24 ?_
      refine lv_astore (lv' := [(6, .ref (ad (gM g n5))), (5, .int (nI n5)), (4, .int 8), (3, .ref (ad (gA g))), (2, .int v2), (1, .ref (ad (gM g k)))]) hx hb dX0_owedTo_25 hl (by decide) rfl (fun ls hl => ?_)
      have hls := hl.1
      refine lv_iload_n hx hb dX0_owedTo_27 rfl (lv_at hl 4 rfl) ?_
      refine lv_aload hx hb dX0_owedTo_28 (lv_at hl 0 rfl) ?_
      refine x_getN B hW (hqM hg hb_c_18) (cC_M hg hb_c_18) cls2 hin_X2 15 (by decide) (v := .ref (ad (gD g n5))) rfl nl_X0_119 dX0_owedTo_30 ?_
      refine lv_aload_n hx hb dX0_owedTo_33 rfl (lv_at hl 5 rfl) ?_
      refine x_getN B hW (hqM hg hk) (cC_M hg hk) cls2 hin_X2 0 (by decide) (v := .int (nI k)) rfl nl_X0_90 dX0_owedTo_34 ?_
      refine x_iald B hW (hqD hg hb_c_18) (cC_D hg hb_c_18) (isN_nI hk (by decide)) (by decide) (by decide) dX0_owedTo_37 ?_
      refine lv_iadd hx hb dX0_owedTo_38 ?_
      refine lv_topi (fun x_39 ex_39 => ?_)
      have zk := nm_at zk ex_39
      refine lv_istore_n (lv' := [(2, .int x_39), (6, .ref (ad (gM g n5))), (5, .int (nI n5)), (4, .int 8), (3, .ref (ad (gA g))), (1, .ref (ad (gM g k)))]) hx hb dX0_owedTo_39 rfl hl (by decide) rfl (fun ls hl => ?_)
      have hls := hl.1
      refine lv_iinc (v := (nI (n5 + 1))) (lv' := [(5, .int (nI (n5 + 1))), (2, .int x_39), (6, .ref (ad (gM g n5))), (4, .int 8), (3, .ref (ad (gA g))), (1, .ref (ad (gM g k)))]) hx hb dX0_owedTo_40 hl (k := 2) rfl (nI_1 _) (by decide) rfl (fun ls hl => ?_)
      have hls := hl.1
      refine lv_goto (tgt := 14) hx hb dX0_owedTo_43 (by decide) ?_
      exact ih ((n5 + 1)) (x_39)  _ _ _ (show (n5 + 1) ≤ 8 by omega) (show (n5 + 1) + n = 9 by omega) hW (lv_sub hl [0, 3, 4, 1, 5] rfl) hls zk
set_option maxHeartbeats 4000000 in
set_option maxRecDepth 100000 in
theorem c_X0_owedTo {D : va_G} {ad : Nat → Nat} (l : Launch) (sz : Nat) (S : vS) (g k : Nat) (hg : g < 8) (hk : k < 8) : Met l yX0_owedTo wsX0_owedTo (rmD 0) (pW D 157 (cC D ad) ad sz S [.ref (ad (gG g)), .ref (ad (gM g k))]) (va_Qi (fun (r : Int32) (S1 : vS) => r = (x_X0_owedTo S g k) ∧ S1 = S) (bW D 157 (cC D ad) ad (aW 157 ad sz)) (aW 157 ad sz)) 0 0 (aW 157 ad sz) := by
  refine x_met (own := RX0) (cc := cX0_owedTo) (maxL := 7) (ret := (some .int)) (Qc := fun A => va_Qi (fun (r : Int32) (S1 : vS) => r = (x_X0_owedTo S g k) ∧ S1 = S) (bW D 157 (cC D ad) ad A) A) rfl ⟨by decide +kernel, rfl, Nat.le_of_ble_eq_true rfl⟩ ?_
  intro p e s mm args below meth c A ls B hW hl hls
  have hx := B.1.1
  have hb := B.1.2.1
  have hin_X0 : ∀ w ∈ wsX00, w ∈ wsX0_owedTo := fun w h => List.mem_cons_of_mem _ (List.mem_append_left _ (List.mem_append_right _ h))
  have hin_X2 : ∀ w ∈ wsX20, w ∈ wsX0_owedTo := fun w h => List.mem_cons_of_mem _ (List.mem_append_right _ h)
  have k_11 := B.1.2.2.2.2 (.fieldLink RX0 11 "JointLoans$Group" "members" "[LJointLoans$Member;") (by decide +kernel)
  have zk := x_X0_owedTo.eq_1 S g k
  have hl : lv_has ls 7 [(0, .ref (ad (gG g))), (1, .ref (ad (gM g k)))] := hl
  refine lv_iconst (v := 0) hx hb dX0_owedTo_0 (by decide) ?_
  refine lv_istore_n (lv' := [(2, .int 0), (0, .ref (ad (gG g))), (1, .ref (ad (gM g k)))]) hx hb dX0_owedTo_1 rfl hl (by decide) rfl (fun ls hl => ?_)
  have hls := hl.1
  refine lv_aload_n hx hb dX0_owedTo_2 rfl (lv_at hl 1 rfl) ?_
  refine x_get B hW (hqG hg) (cC_G hg) cls0 hin_X0 0 (by decide) (v := .ref (ad (gA g))) rfl k_11 dX0_owedTo_3 ?_
  refine lv_astore_n (lv' := [(3, .ref (ad (gA g))), (2, .int 0), (0, .ref (ad (gG g))), (1, .ref (ad (gM g k)))]) hx hb dX0_owedTo_6 rfl hl (by decide) rfl (fun ls hl => ?_)
  have hls := hl.1
  refine lv_aload_n hx hb dX0_owedTo_7 rfl (lv_at hl 0 rfl) ?_
  refine x_alen B hW (hqA hg) (cC_A hg) (k := 2) rfl (v := 8) rfl dX0_owedTo_8 ?_
  refine lv_istore (lv' := [(4, .int 8), (3, .ref (ad (gA g))), (2, .int 0), (0, .ref (ad (gG g))), (1, .ref (ad (gM g k)))]) hx hb dX0_owedTo_9 hl (by decide) rfl (fun ls hl => ?_)
  have hls := hl.1
  refine lv_iconst (v := 0) hx hb dX0_owedTo_11 (by decide) ?_
  refine lv_istore (lv' := [(5, .int 0), (4, .int 8), (3, .ref (ad (gA g))), (2, .int 0), (0, .ref (ad (gG g))), (1, .ref (ad (gM g k)))]) hx hb dX0_owedTo_12 hl (by decide) rfl (fun ls hl => ?_)
  have hls := hl.1
  exact w_X0_owedTo_L14 l B S _ g k hg hk (9) (0) (0)  _ _ _ (show 0 ≤ 8 by omega) (show 0 + (9) = 9 by omega) hW (lv_sub hl [0, 1, 2, 3, 5] rfl) hls zk

def x_X0_mayGo (S : vS) (g k : Nat) : Int32 := nm (x_X2_hasLoan S g k) (fun r_1 => if r_1 = 0 then nm (x_X2_hasDebts S g k) (fun r_8 => if r_8 = 0 then nm (x_X0_owedTo S g k) (fun r_16 => if r_16 = 0 then if (S (gG g) 6) < (S (gM g k) 13) then 0 else 1 else 0) else 0) else 0)
theorem hd_X0_mayGo : yX0_mayGo.cls = RX0 ∧ yX0_mayGo.cls ≠ "java/lang/invoke/MethodHandle" ∧ yX0_mayGo.cls ≠ "java/lang/invoke/VarHandle" ∧ (parseMethodDescriptor yX0_mayGo.desc).map (fun d => d.parameters.length) = some 1 := by decide +kernel
set_option maxHeartbeats 4000000 in
set_option maxRecDepth 100000 in
theorem c_X0_mayGo {D : va_G} {ad : Nat → Nat} (l : Launch) (sz : Nat) (S : vS) (g k : Nat) (hg : g < 8) (hk : k < 8) : Met l yX0_mayGo wsX0_mayGo (rmD 2) (pW D 157 (cC D ad) ad sz S [.ref (ad (gG g)), .ref (ad (gM g k))]) (va_Qi (fun (r : Int32) (S1 : vS) => r = (x_X0_mayGo S g k) ∧ S1 = S ∧ (r = 0 ∨ r = 1)) (bW D 157 (cC D ad) ad (aW 157 ad sz)) (aW 157 ad sz)) 0 0 (aW 157 ad sz) := by
  refine x_met (own := RX0) (cc := cX0_mayGo) (maxL := 2) (ret := (some .boolean)) (Qc := fun A => va_Qi (fun (r : Int32) (S1 : vS) => r = (x_X0_mayGo S g k) ∧ S1 = S ∧ (r = 0 ∨ r = 1)) (bW D 157 (cC D ad) ad A) A) rfl ⟨by decide +kernel, rfl, Nat.le_of_ble_eq_true rfl⟩ ?_
  intro p e s mm args below meth c A ls B hW hl hls
  have hx := B.1.1
  have hb := B.1.2.1
  have hin_X0 : ∀ w ∈ wsX00, w ∈ wsX0_mayGo := fun w h => List.mem_cons_of_mem _ (List.mem_append_left _ (List.mem_append_right _ h))
  have hin_X2 : ∀ w ∈ wsX20, w ∈ wsX0_mayGo := fun w h => List.mem_cons_of_mem _ (List.mem_append_right _ h)
  have k_47 := B.1.2.2.2.2 (.fieldLink RX0 47 "JointLoans$Group" "fund" "I") (by decide +kernel)
  have ki_X2 := B.1.2.2.2.2 (.initialized RX2) (by decide +kernel)
  have kn_X2_hasDebts := B.1.2.2.2.2 (.instanceMethod yX2_hasDebts) (by decide +kernel)
  have kn_X2_hasLoan := B.1.2.2.2.2 (.instanceMethod yX2_hasLoan) (by decide +kernel)
  have kv_X2_hasDebts := B.1.2.2.2.2 (.selects RX2 yX2_hasDebts yX2_hasDebts) (by decide +kernel)
  have kv_X2_hasLoan := B.1.2.2.2.2 (.selects RX2 yX2_hasLoan yX2_hasLoan) (by decide +kernel)
  have zk := x_X0_mayGo.eq_1 S g k
  have hl : lv_has ls 2 [(0, .ref (ad (gG g))), (1, .ref (ad (gM g k)))] := hl
  refine lv_aload_n hx hb dX0_mayGo_0 rfl (lv_at hl 1 rfl) ?_
  refine x_calli hW (x_runVN B hW (As := []) (rest := []) (host := RX4) (hqM hg hk) (cC_M hg hk) cls2 (c_X2_hasLoan (D := D) (ad := ad) l _ S g k hg hk) ⟨va_cnB 0 B.1.2.2.2.2 gX0_mayGo_X2_hasLoan_n76 rfl rfl rfl (B.2.1.2 _ nl_X0_76) ki_X2 hd_X2_hasLoan.2 ⟨Nat.le_of_ble_eq_true rfl, Nat.le_of_ble_eq_true rfl⟩, kn_X2_hasLoan, kv_X2_hasLoan⟩ rfl hls (Nat.le_of_ble_eq_true rfl) dX0_mayGo_1 ⟨Nat.zero_le _, Nat.zero_le _⟩) (fun r_1 S_1 H locs he hW => ?_)
  obtain ⟨hr_1, hs, hz_1⟩ := he
  rw [hs] at hW
  have zk := nm_at zk hr_1
  refine lv_if_ne (tgt := 37) hx hb dX0_mayGo_4 (by decide) (fun c_4 => ?_) (fun c_4 => ?_)
  · have zk := zk.trans (if_neg c_4)
    refine lv_iconst (v := 0) hx hb dX0_mayGo_37 (by decide) ?_
    exact x_zret B hW (Or.inl rfl) ⟨zk.symm, rfl, (Or.inl rfl)⟩ dX0_mayGo_38
  · have zk := zk.trans (if_pos c_4)
    refine lv_aload_n hx hb dX0_mayGo_7 rfl (lv_at hl 1 rfl) ?_
    refine x_calli hW (x_runVN B hW (As := []) (rest := []) (host := RX4) (hqM hg hk) (cC_M hg hk) cls2 (c_X2_hasDebts (D := D) (ad := ad) l _ S g k hg hk) ⟨va_cnB 0 B.1.2.2.2.2 gX0_mayGo_X2_hasDebts_n80 rfl rfl rfl (B.2.1.2 _ nl_X0_80) ki_X2 hd_X2_hasDebts.2 ⟨Nat.le_of_ble_eq_true rfl, Nat.le_of_ble_eq_true rfl⟩, kn_X2_hasDebts, kv_X2_hasDebts⟩ rfl hls (Nat.le_of_ble_eq_true rfl) dX0_mayGo_8 ⟨Nat.zero_le _, Nat.zero_le _⟩) (fun r_8 S_8 H locs he hW => ?_)
    obtain ⟨hr_8, hs, hz_8⟩ := he
    rw [hs] at hW
    have zk := nm_at zk hr_8
    refine lv_if_ne (tgt := 37) hx hb dX0_mayGo_11 (by decide) (fun c_11 => ?_) (fun c_11 => ?_)
    · have zk := zk.trans (if_neg c_11)
      refine lv_iconst (v := 0) hx hb dX0_mayGo_37 (by decide) ?_
      exact x_zret B hW (Or.inl rfl) ⟨zk.symm, rfl, (Or.inl rfl)⟩ dX0_mayGo_38
    · have zk := zk.trans (if_pos c_11)
      refine lv_aload_n hx hb dX0_mayGo_14 rfl (lv_at hl 0 rfl) ?_
      refine lv_aload_n hx hb dX0_mayGo_15 rfl (lv_at hl 1 rfl) ?_
      refine x_calli hW (x_runV B hW (As := [.ref (ad (gM g k))]) (rest := []) (hqG hg) (cC_G hg) cls0 (c_X0_owedTo (D := D) (ad := ad) l _ S g k hg hk) (cwV 1 B.1.2.2.2.2 gX0_mayGo_X0_owedTo rfl rfl rfl hd_X0_owedTo ⟨Nat.le_of_ble_eq_true rfl, Nat.le_of_ble_eq_true rfl⟩) rfl hls (Nat.le_of_ble_eq_true rfl) dX0_mayGo_16 ⟨Nat.zero_le _, Nat.zero_le _⟩) (fun r_16 S_16 H locs he hW => ?_)
      obtain ⟨hr_16, hs⟩ := he
      rw [hs] at hW
      have zk := nm_at zk hr_16
      refine lv_if_ne (tgt := 37) hx hb dX0_mayGo_19 (by decide) (fun c_19 => ?_) (fun c_19 => ?_)
      · have zk := zk.trans (if_neg c_19)
        refine lv_iconst (v := 0) hx hb dX0_mayGo_37 (by decide) ?_
        exact x_zret B hW (Or.inl rfl) ⟨zk.symm, rfl, (Or.inl rfl)⟩ dX0_mayGo_38
      · have zk := zk.trans (if_pos c_19)
        refine lv_aload_n hx hb dX0_mayGo_22 rfl (lv_at hl 0 rfl) ?_
        refine x_get B hW (hqG hg) (cC_G hg) cls0 hin_X0 6 (by decide) (v := .int (S (gG g) 6)) rfl k_47 dX0_mayGo_23 ?_
        refine lv_aload_n hx hb dX0_mayGo_26 rfl (lv_at hl 1 rfl) ?_
        refine x_getN B hW (hqM hg hk) (cC_M hg hk) cls2 hin_X2 13 (by decide) (v := .int (S (gM g k) 13)) rfl nl_X0_87 dX0_mayGo_27 ?_
        refine lv_icmp_lt (tgt := 37) hx hb dX0_mayGo_30 (by decide) (fun c_30 => ?_) (fun c_30 => ?_)
        · have zk := zk.trans (if_pos c_30)
          refine lv_iconst (v := 0) hx hb dX0_mayGo_37 (by decide) ?_
          exact x_zret B hW (Or.inl rfl) ⟨zk.symm, rfl, (Or.inl rfl)⟩ dX0_mayGo_38
        · have zk := zk.trans (if_neg c_30)
          refine lv_iconst (v := 1) hx hb dX0_mayGo_33 (by decide) ?_
          refine lv_goto (tgt := 38) hx hb dX0_mayGo_34 (by decide) ?_
          exact x_zret B hW (Or.inr rfl) ⟨zk.symm, rfl, (Or.inr rfl)⟩ dX0_mayGo_38

def x_X0_nextChair_L2 : Nat → vS → Nat → Nat → Int32
  | 0, S, _, _ => 0
  | n + 1, S, g, n1 => if 8 < (nI n1) then (-1) else nm (x_J9_floorMod_7cf53 S ((S (gG g) 5) + (nI n1)) 8) (fun r_17 => oc (x_X0_find S g r_17) (x_X0_nextChair_L2 n S g ((n1 + 1))) (fun k_20 => nm (x_X2_hasDebts S g k_20) (fun r_29 => if r_29 = 0 then (nI k_20) else x_X0_nextChair_L2 n S g ((n1 + 1)))))
def x_X0_nextChair (S : vS) (g : Nat) : Int32 := x_X0_nextChair_L2 (9) S g (1)
theorem hd_X0_nextChair : yX0_nextChair.cls = RX0 ∧ yX0_nextChair.cls ≠ "java/lang/invoke/MethodHandle" ∧ yX0_nextChair.cls ≠ "java/lang/invoke/VarHandle" ∧ (parseMethodDescriptor yX0_nextChair.desc).map (fun d => d.parameters.length) = some 0 := by decide +kernel
set_option maxHeartbeats 4000000 in
set_option maxRecDepth 100000 in
theorem w_X0_nextChair_L2 {D : va_G} {ad : Nat → Nat} (l : Launch) {p : Program} {e : Env} {s : State} {mm : MethodId} {args : Array Value} {below : List Frame} {meth : Method} {c : Code} {A : Nat → Prop} (B : Cx p mm c cX0_nextChair 3 s args wsX0_nextChair RX0 meth (some .int) D) (S : vS) (z : Int32) (g : Nat) (hg : g < 8) : ∀ (n : Nat) (n1 : Nat) (H : Heap) (locs : List Loc) (ls : Array Slot), n1 ≤ 9 → n1 + n = 10 → Wd D 157 (cC D ad) ad A s.heap S H locs → lv_has ls 3 [(1, .int (nI n1)), (0, .ref (ad (gG g)))] → ls.size = 3 → z = x_X0_nextChair_L2 n S g n1 → W p l e (rmD 2) s mm args below meth c H locs 0 0 (MQ below (va_Qi (fun (r : Int32) (S1 : vS) => r = z ∧ S1 = S) (bW D 157 (cC D ad) ad A) A) args s 0 0 A) (F0 mm 2 ls []) := by
  have hx := B.1.1
  have hb := B.1.2.1
  have hin_X0 : ∀ w ∈ wsX00, w ∈ wsX0_nextChair := fun w h => List.mem_cons_of_mem _ (List.mem_append_left _ (List.mem_append_right _ h))
  have hin_X2 : ∀ w ∈ wsX20, w ∈ wsX0_nextChair := fun w h => List.mem_cons_of_mem _ (List.mem_append_right _ h)
  have k_21 := B.1.2.2.2.2 (.fieldLink RX0 21 "JointLoans$Group" "chair" "I") (by decide +kernel)
  have ki_X2 := B.1.2.2.2.2 (.initialized RX2) (by decide +kernel)
  have kn_X2_hasDebts := B.1.2.2.2.2 (.instanceMethod yX2_hasDebts) (by decide +kernel)
  have kv_X2_hasDebts := B.1.2.2.2.2 (.selects RX2 yX2_hasDebts yX2_hasDebts) (by decide +kernel)
  intro n
  induction n with
  | zero =>
    intro n1 H locs ls hle hsum
    omega
  | succ n ih =>
    intro n1 H locs ls hle hsum hW hl hls zk
    have zk := zk.trans (x_X0_nextChair_L2.eq_2 _ _ _ _ )
    refine lv_iload_n hx hb dX0_nextChair_2 rfl (lv_at hl 0 rfl) ?_
    refine lv_bipush (v := 8) hx hb dX0_nextChair_3 (by decide) ?_
    refine lv_icmp_gt (tgt := 46) hx hb dX0_nextChair_5 (by decide) (fun c_5 => ?_) (fun c_5 => ?_)
    · have zk := zk.trans (if_pos c_5)
      refine lv_iconst (v := (-1)) hx hb dX0_nextChair_46 (by decide) ?_
      exact x_iret B hW ⟨zk.symm, rfl⟩ dX0_nextChair_47
    · have zk := zk.trans (if_neg c_5)
      have hb_c_5 : n1 < 9 := nI_of_nlt (by decide) c_5 (by omega)
      refine lv_aload_n hx hb dX0_nextChair_8 rfl (lv_at hl 1 rfl) ?_
      refine lv_aload_n hx hb dX0_nextChair_9 rfl (lv_at hl 1 rfl) ?_
      refine x_get B hW (hqG hg) (cC_G hg) cls0 hin_X0 5 (by decide) (v := .int (S (gG g) 5)) rfl k_21 dX0_nextChair_10 ?_
      refine lv_iload_n hx hb dX0_nextChair_13 rfl (lv_at hl 0 rfl) ?_
      refine lv_iadd hx hb dX0_nextChair_14 ?_
      refine lv_bipush (v := 8) hx hb dX0_nextChair_15 (by decide) ?_
      refine x_calli hW (x_runS B hW (As := [.int ((S (gG g) 5) + (nI n1)), .int 8]) (rest := .ref (ad (gG g)) :: []) (c_J9_floorMod_7cf53 (D := D) (ad := ad) l _ S ((S (gG g) 5) + (nI n1)) 8 (by decide)) (va_cwS 2 B.1.2.2.2.2 gX0_nextChair_J9_floorMod_7cf53 rfl rfl rfl hd_J9_floorMod_7cf53.2 ⟨Nat.le_of_ble_eq_true rfl, Nat.le_of_ble_eq_true rfl⟩) rfl hls (Nat.le_of_ble_eq_true rfl) dX0_nextChair_17 ⟨Nat.zero_le _, Nat.zero_le _⟩) (fun r_17 S_17 H locs he hW => ?_)
      obtain ⟨hr_17, hs⟩ := he
      rw [hs] at hW
      have zk := nm_at zk hr_17
      refine x_callq hW (x_runV B hW (As := [.int r_17]) (rest := []) (hqG hg) (cC_G hg) cls0 (c_X0_find (D := D) (ad := ad) l _ S g r_17 hg) (cwV 1 B.1.2.2.2.2 gX0_nextChair_X0_find rfl rfl rfl hd_X0_find ⟨Nat.le_of_ble_eq_true rfl, Nat.le_of_ble_eq_true rfl⟩) rfl hls (Nat.le_of_ble_eq_true rfl) dX0_nextChair_20 ⟨Nat.zero_le _, Nat.zero_le _⟩) (fun r_20 S_20 H locs he hW => ?_)
      obtain ⟨hr, hs, hbk⟩ := he
      rw [hs] at hW
      rcases ho : x_X0_find S g r_17 with _ | k_20
      · have zk := oc_none zk ho
        have hr : r_20 = none := by rw [hr, ho]; rfl
        subst hr
        refine W.eq (g2 := F0 mm 23 ls (.null :: [])) rfl ?_
        refine lv_astore_nN (lv' := [(2, .null), (1, .int (nI n1)), (0, .ref (ad (gG g)))]) hx hb dX0_nextChair_23 rfl hl (by decide) rfl (fun ls hl => ?_)
        have hls := hl.1
        refine lv_aload_nN hx hb dX0_nextChair_24 rfl (lv_at hl 0 rfl) ?_
        refine lv_ifnullN (tgt := 40) hx hb dX0_nextChair_25 (by decide) ?_
        refine lv_iinc (v := (nI (n1 + 1))) (lv' := [(1, .int (nI (n1 + 1))), (2, .null), (0, .ref (ad (gG g)))]) hx hb dX0_nextChair_40 hl (k := 1) rfl (nI_1 _) (by decide) rfl (fun ls hl => ?_)
        have hls := hl.1
        refine lv_goto (tgt := 2) hx hb dX0_nextChair_43 (by decide) ?_
        exact ih ((n1 + 1))  _ _ _ (show (n1 + 1) ≤ 9 by omega) (show (n1 + 1) + n = 10 by omega) hW (lv_sub hl [0, 2] rfl) hls zk
      · have zk := oc_some zk ho
        have hbk := hbk _ ho
        have hr : r_20 = some (ad (gM g k_20)) := by rw [hr, ho]; rfl
        subst hr
        refine W.eq (g2 := F0 mm 23 ls (.ref (ad (gM g k_20)) :: [])) rfl ?_
        have hbk_20 := hbk
        refine lv_astore_n (lv' := [(2, .ref (ad (gM g k_20))), (1, .int (nI n1)), (0, .ref (ad (gG g)))]) hx hb dX0_nextChair_23 rfl hl (by decide) rfl (fun ls hl => ?_)
        have hls := hl.1
        refine lv_aload_n hx hb dX0_nextChair_24 rfl (lv_at hl 0 rfl) ?_
        refine lv_ifnull hx hb dX0_nextChair_25 ?_
        refine lv_aload_n hx hb dX0_nextChair_28 rfl (lv_at hl 0 rfl) ?_
        refine x_calli hW (x_runVN B hW (As := []) (rest := []) (host := RX4) (hqM hg hbk_20) (cC_M hg hbk_20) cls2 (c_X2_hasDebts (D := D) (ad := ad) l _ S g k_20 hg hbk_20) ⟨va_cnB 0 B.1.2.2.2.2 gX0_nextChair_X2_hasDebts_n80 rfl rfl rfl (B.2.1.2 _ nl_X0_80) ki_X2 hd_X2_hasDebts.2 ⟨Nat.le_of_ble_eq_true rfl, Nat.le_of_ble_eq_true rfl⟩, kn_X2_hasDebts, kv_X2_hasDebts⟩ rfl hls (Nat.le_of_ble_eq_true rfl) dX0_nextChair_29 ⟨Nat.zero_le _, Nat.zero_le _⟩) (fun r_29 S_29 H locs he hW => ?_)
        obtain ⟨hr_29, hs, hz_29⟩ := he
        rw [hs] at hW
        have zk := nm_at zk hr_29
        refine lv_if_ne (tgt := 40) hx hb dX0_nextChair_32 (by decide) (fun c_32 => ?_) (fun c_32 => ?_)
        · have zk := zk.trans (if_neg c_32)
          refine lv_iinc (v := (nI (n1 + 1))) (lv' := [(1, .int (nI (n1 + 1))), (2, .ref (ad (gM g k_20))), (0, .ref (ad (gG g)))]) hx hb dX0_nextChair_40 hl (k := 1) rfl (nI_1 _) (by decide) rfl (fun ls hl => ?_)
          have hls := hl.1
          refine lv_goto (tgt := 2) hx hb dX0_nextChair_43 (by decide) ?_
          exact ih ((n1 + 1))  _ _ _ (show (n1 + 1) ≤ 9 by omega) (show (n1 + 1) + n = 10 by omega) hW (lv_sub hl [0, 2] rfl) hls zk
        · have zk := zk.trans (if_pos c_32)
          refine lv_aload_n hx hb dX0_nextChair_35 rfl (lv_at hl 0 rfl) ?_
          refine x_getN B hW (hqM hg hbk_20) (cC_M hg hbk_20) cls2 hin_X2 0 (by decide) (v := .int (nI k_20)) rfl nl_X0_90 dX0_nextChair_36 ?_
          exact x_iret B hW ⟨zk.symm, rfl⟩ dX0_nextChair_39
set_option maxHeartbeats 4000000 in
set_option maxRecDepth 100000 in
theorem c_X0_nextChair {D : va_G} {ad : Nat → Nat} (l : Launch) (sz : Nat) (S : vS) (g : Nat) (hg : g < 8) : Met l yX0_nextChair wsX0_nextChair (rmD 2) (pW D 157 (cC D ad) ad sz S [.ref (ad (gG g))]) (va_Qi (fun (r : Int32) (S1 : vS) => r = (x_X0_nextChair S g) ∧ S1 = S) (bW D 157 (cC D ad) ad (aW 157 ad sz)) (aW 157 ad sz)) 0 0 (aW 157 ad sz) := by
  refine x_met (own := RX0) (cc := cX0_nextChair) (maxL := 3) (ret := (some .int)) (Qc := fun A => va_Qi (fun (r : Int32) (S1 : vS) => r = (x_X0_nextChair S g) ∧ S1 = S) (bW D 157 (cC D ad) ad A) A) rfl ⟨by decide +kernel, rfl, Nat.le_of_ble_eq_true rfl⟩ ?_
  intro p e s mm args below meth c A ls B hW hl hls
  have hx := B.1.1
  have hb := B.1.2.1
  have hin_X0 : ∀ w ∈ wsX00, w ∈ wsX0_nextChair := fun w h => List.mem_cons_of_mem _ (List.mem_append_left _ (List.mem_append_right _ h))
  have hin_X2 : ∀ w ∈ wsX20, w ∈ wsX0_nextChair := fun w h => List.mem_cons_of_mem _ (List.mem_append_right _ h)
  have k_21 := B.1.2.2.2.2 (.fieldLink RX0 21 "JointLoans$Group" "chair" "I") (by decide +kernel)
  have ki_X2 := B.1.2.2.2.2 (.initialized RX2) (by decide +kernel)
  have kn_X2_hasDebts := B.1.2.2.2.2 (.instanceMethod yX2_hasDebts) (by decide +kernel)
  have kv_X2_hasDebts := B.1.2.2.2.2 (.selects RX2 yX2_hasDebts yX2_hasDebts) (by decide +kernel)
  have zk := x_X0_nextChair.eq_1 S g
  have hl : lv_has ls 3 [(0, .ref (ad (gG g)))] := hl
  refine lv_iconst (v := 1) hx hb dX0_nextChair_0 (by decide) ?_
  refine lv_istore_n (lv' := [(1, .int 1), (0, .ref (ad (gG g)))]) hx hb dX0_nextChair_1 rfl hl (by decide) rfl (fun ls hl => ?_)
  have hls := hl.1
  exact w_X0_nextChair_L2 l B S _ g hg (9) (1)  _ _ _ (show 1 ≤ 9 by omega) (show 1 + (9) = 10 by omega) hW (lv_sub hl [0, 1] rfl) hls zk

def x_X0_dismiss (S : vS) (g k : Nat) : (Int32 × vS) := nm (st S (gG g) 6 ((S (gG g) 6) - (S (gM g k) 13))) (fun S_10 => nm (st S_10 (gM g k) 1 0) (fun S_15 => if (S_15 (gG g) 5) = (nI k) then nm (x_X0_nextChair S_15 g) (fun r_31 => nm (st S_15 (gG g) 5 r_31) (fun S_34 => ((S_34 (gM g k) 13), S_34))) else ((S_15 (gM g k) 13), S_15)))
theorem hd_X0_dismiss : yX0_dismiss.cls = RX0 ∧ yX0_dismiss.cls ≠ "java/lang/invoke/MethodHandle" ∧ yX0_dismiss.cls ≠ "java/lang/invoke/VarHandle" ∧ (parseMethodDescriptor yX0_dismiss.desc).map (fun d => d.parameters.length) = some 1 := by decide +kernel
set_option maxHeartbeats 4000000 in
set_option maxRecDepth 100000 in
theorem c_X0_dismiss {D : va_G} {ad : Nat → Nat} (l : Launch) (sz : Nat) (S : vS) (g k : Nat) (hg : g < 8) (hk : k < 8) : Met l yX0_dismiss wsX0_dismiss (rmD 3) (pW D 157 (cC D ad) ad sz S [.ref (ad (gG g)), .ref (ad (gM g k))]) (va_Qi (fun (r : Int32) (S1 : vS) => (r, S1) = (x_X0_dismiss S g k)) (bW D 157 (cC D ad) ad (aW 157 ad sz)) (aW 157 ad sz)) 0 0 (aW 157 ad sz) := by
  refine x_met (own := RX0) (cc := cX0_dismiss) (maxL := 2) (ret := (some .int)) (Qc := fun A => va_Qi (fun (r : Int32) (S1 : vS) => (r, S1) = (x_X0_dismiss S g k)) (bW D 157 (cC D ad) ad A) A) rfl ⟨by decide +kernel, rfl, Nat.le_of_ble_eq_true rfl⟩ ?_
  intro p e s mm args below meth c A ls B hW hl hls
  have hx := B.1.1
  have hb := B.1.2.1
  have hin_X0 : ∀ w ∈ wsX00, w ∈ wsX0_dismiss := fun w h => List.mem_cons_of_mem _ (List.mem_append_left _ (List.mem_append_right _ h))
  have hin_X2 : ∀ w ∈ wsX20, w ∈ wsX0_dismiss := fun w h => List.mem_cons_of_mem _ (List.mem_append_right _ h)
  have k_21 := B.1.2.2.2.2 (.fieldLink RX0 21 "JointLoans$Group" "chair" "I") (by decide +kernel)
  have k_47 := B.1.2.2.2.2 (.fieldLink RX0 47 "JointLoans$Group" "fund" "I") (by decide +kernel)
  have zk := x_X0_dismiss.eq_1 S g k
  have hl : lv_has ls 2 [(0, .ref (ad (gG g))), (1, .ref (ad (gM g k)))] := hl
  refine lv_aload_n hx hb dX0_dismiss_0 rfl (lv_at hl 0 rfl) ?_
  refine lv_dup hx hb dX0_dismiss_1 rfl ?_
  refine x_get B hW (hqG hg) (cC_G hg) cls0 hin_X0 6 (by decide) (v := .int (S (gG g) 6)) rfl k_47 dX0_dismiss_2 ?_
  refine lv_aload_n hx hb dX0_dismiss_5 rfl (lv_at hl 1 rfl) ?_
  refine x_getN B hW (hqM hg hk) (cC_M hg hk) cls2 hin_X2 13 (by decide) (v := .int (S (gM g k) 13)) rfl nl_X0_87 dX0_dismiss_6 ?_
  refine lv_isub hx hb dX0_dismiss_9 ?_
  refine x_put B hW (hqG hg) cls0 hin_X0 6 (by decide) (cC_G hg) rfl (ty := .int) (by decide +kernel) rfl rfl (Nat.le_of_ble_eq_true rfl) (j := 6) (pG_6 hg) k_47 dX0_dismiss_10 (fun H locs S_10 he_10 hW => ?_)
  have zk := nm_at zk he_10
  refine lv_aload_n hx hb dX0_dismiss_13 rfl (lv_at hl 1 rfl) ?_
  refine lv_iconst (v := 0) hx hb dX0_dismiss_14 (by decide) ?_
  refine x_putN B hW (hqM hg hk) cls2 hin_X2 1 (by decide) (cC_M hg hk) rfl (ty := .boolean) (by decide +kernel) (nar_z (Or.inl rfl)) (fit_z (Or.inl rfl)) (Nat.le_of_ble_eq_true rfl) (j := 1) (pM_1 hg hk (Or.inl rfl)) nl_X0_62 dX0_dismiss_15 (fun H locs S_15 he_15 hW => ?_)
  have zk := nm_at zk he_15
  refine lv_aload_n hx hb dX0_dismiss_18 rfl (lv_at hl 0 rfl) ?_
  refine x_get B hW (hqG hg) (cC_G hg) cls0 hin_X0 5 (by decide) (v := .int (S_15 (gG g) 5)) rfl k_21 dX0_dismiss_19 ?_
  refine lv_aload_n hx hb dX0_dismiss_22 rfl (lv_at hl 1 rfl) ?_
  refine x_getN B hW (hqM hg hk) (cC_M hg hk) cls2 hin_X2 0 (by decide) (v := .int (nI k)) rfl nl_X0_90 dX0_dismiss_23 ?_
  refine lv_icmp_ne (tgt := 37) hx hb dX0_dismiss_26 (by decide) (fun c_26 => ?_) (fun c_26 => ?_)
  · have zk := zk.trans (if_neg c_26)
    refine lv_aload_n hx hb dX0_dismiss_37 rfl (lv_at hl 1 rfl) ?_
    refine x_getN B hW (hqM hg hk) (cC_M hg hk) cls2 hin_X2 13 (by decide) (v := .int (S_15 (gM g k) 13)) rfl nl_X0_87 dX0_dismiss_38 ?_
    exact x_iret B hW zk.symm dX0_dismiss_41
  · have zk := zk.trans (if_pos c_26)
    refine lv_aload_n hx hb dX0_dismiss_29 rfl (lv_at hl 0 rfl) ?_
    refine lv_aload_n hx hb dX0_dismiss_30 rfl (lv_at hl 0 rfl) ?_
    refine x_calli hW (x_runV B hW (As := []) (rest := .ref (ad (gG g)) :: []) (hqG hg) (cC_G hg) cls0 (c_X0_nextChair (D := D) (ad := ad) l _ S_15 g hg) (cwV 0 B.1.2.2.2.2 gX0_dismiss_X0_nextChair rfl rfl rfl hd_X0_nextChair ⟨Nat.le_of_ble_eq_true rfl, Nat.le_of_ble_eq_true rfl⟩) rfl hls (Nat.le_of_ble_eq_true rfl) dX0_dismiss_31 ⟨Nat.zero_le _, Nat.zero_le _⟩) (fun r_31 S_31 H locs he hW => ?_)
    obtain ⟨hr_31, hs⟩ := he
    rw [hs] at hW
    have zk := nm_at zk hr_31
    refine x_put B hW (hqG hg) cls0 hin_X0 5 (by decide) (cC_G hg) rfl (ty := .int) (by decide +kernel) rfl rfl (Nat.le_of_ble_eq_true rfl) (j := 5) (pG_5 hg) k_21 dX0_dismiss_34 (fun H locs S_34 he_34 hW => ?_)
    have zk := nm_at zk he_34
    refine lv_aload_n hx hb dX0_dismiss_37 rfl (lv_at hl 1 rfl) ?_
    refine x_getN B hW (hqM hg hk) (cC_M hg hk) cls2 hin_X2 13 (by decide) (v := .int (S_34 (gM g k) 13)) rfl nl_X0_87 dX0_dismiss_38 ?_
    exact x_iret B hW zk.symm dX0_dismiss_41

def x_X0_grantLoan (S : vS) (g k : Nat) (p2 : Int32) (p3 : Int32) : vS := nm (x_X2_borrow S g k p2 p3 ((p2 * (S (gS g) 0)) / 1000)) (fun S_15 => nm (st S_15 (gG g) 7 ((S_15 (gG g) 7) + p2)) (fun S_25 => S_25))
theorem hd_X0_grantLoan : yX0_grantLoan.cls = RX0 ∧ yX0_grantLoan.cls ≠ "java/lang/invoke/MethodHandle" ∧ yX0_grantLoan.cls ≠ "java/lang/invoke/VarHandle" ∧ (parseMethodDescriptor yX0_grantLoan.desc).map (fun d => d.parameters.length) = some 3 := by decide +kernel
set_option maxHeartbeats 4000000 in
set_option maxRecDepth 100000 in
theorem c_X0_grantLoan {D : va_G} {ad : Nat → Nat} (l : Launch) (sz : Nat) (S : vS) (g k : Nat) (p2 : Int32) (p3 : Int32) (hg : g < 8) (hk : k < 8) : Met l yX0_grantLoan wsX0_grantLoan (rmD 1) (pW D 157 (cC D ad) ad sz S [.ref (ad (gG g)), .ref (ad (gM g k)), .int p2, .int p3]) (va_Qv (fun (S1 : vS) => S1 = (x_X0_grantLoan S g k p2 p3)) (bW D 157 (cC D ad) ad (aW 157 ad sz)) (aW 157 ad sz)) 0 0 (aW 157 ad sz) := by
  refine x_met (own := RX0) (cc := cX0_grantLoan) (maxL := 4) (ret := none) (Qc := fun A => va_Qv (fun (S1 : vS) => S1 = (x_X0_grantLoan S g k p2 p3)) (bW D 157 (cC D ad) ad A) A) rfl ⟨by decide +kernel, rfl, Nat.le_of_ble_eq_true rfl⟩ ?_
  intro p e s mm args below meth c A ls B hW hl hls
  have hx := B.1.1
  have hb := B.1.2.1
  have hin_X0 : ∀ w ∈ wsX00, w ∈ wsX0_grantLoan := fun w h => List.mem_cons_of_mem _ (List.mem_append_left _ (List.mem_append_right _ h))
  have k_17 := B.1.2.2.2.2 (.fieldLink RX0 17 "JointLoans$Group" "settings" "[I") (by decide +kernel)
  have k_50 := B.1.2.2.2.2 (.fieldLink RX0 50 "JointLoans$Group" "bankLent" "I") (by decide +kernel)
  have ki_X2 := B.1.2.2.2.2 (.initialized RX2) (by decide +kernel)
  have kn_X2_borrow := B.1.2.2.2.2 (.instanceMethod yX2_borrow) (by decide +kernel)
  have kv_X2_borrow := B.1.2.2.2.2 (.selects RX2 yX2_borrow yX2_borrow) (by decide +kernel)
  have zk := x_X0_grantLoan.eq_1 S g k p2 p3
  have hl : lv_has ls 4 [(0, .ref (ad (gG g))), (1, .ref (ad (gM g k))), (2, .int p2), (3, .int p3)] := hl
  refine lv_aload_n hx hb dX0_grantLoan_0 rfl (lv_at hl 1 rfl) ?_
  refine lv_iload_n hx hb dX0_grantLoan_1 rfl (lv_at hl 2 rfl) ?_
  refine lv_iload_n hx hb dX0_grantLoan_2 rfl (lv_at hl 3 rfl) ?_
  refine lv_iload_n hx hb dX0_grantLoan_3 rfl (lv_at hl 2 rfl) ?_
  refine lv_aload_n hx hb dX0_grantLoan_4 rfl (lv_at hl 0 rfl) ?_
  refine x_get B hW (hqG hg) (cC_G hg) cls0 hin_X0 1 (by decide) (v := .ref (ad (gS g))) rfl k_17 dX0_grantLoan_5 ?_
  refine lv_iconst (v := 0) hx hb dX0_grantLoan_8 (by decide) ?_
  refine x_iald B hW (hqS hg) (cC_S hg) (isN_lit 0 (by decide)) (by decide) (by decide) dX0_grantLoan_9 ?_
  refine lv_imul hx hb dX0_grantLoan_10 ?_
  refine lv_sipush (v := 1000) hx hb dX0_grantLoan_11 (by decide) ?_
  refine lv_idiv hx hb dX0_grantLoan_14 (by decide) ?_
  refine x_callv hW (x_runVN B hW (As := [.int p2, .int p3, .int ((p2 * (S (gS g) 0)) / 1000)]) (rest := []) (host := RX4) (hqM hg hk) (cC_M hg hk) cls2 (c_X2_borrow (D := D) (ad := ad) l _ S g k p2 p3 ((p2 * (S (gS g) 0)) / 1000) hg hk) ⟨va_cnB 3 B.1.2.2.2.2 gX0_grantLoan_X2_borrow_n106 rfl rfl rfl (B.2.1.2 _ nl_X0_106) ki_X2 hd_X2_borrow.2 ⟨Nat.le_of_ble_eq_true rfl, Nat.le_of_ble_eq_true rfl⟩, kn_X2_borrow, kv_X2_borrow⟩ rfl hls (Nat.le_of_ble_eq_true rfl) dX0_grantLoan_15 ⟨Nat.zero_le _, Nat.zero_le _⟩) (fun S_15 H locs he hW => ?_)
  have he_15 := he
  have zk := nm_at zk he_15
  refine lv_aload_n hx hb dX0_grantLoan_18 rfl (lv_at hl 0 rfl) ?_
  refine lv_dup hx hb dX0_grantLoan_19 rfl ?_
  refine x_get B hW (hqG hg) (cC_G hg) cls0 hin_X0 7 (by decide) (v := .int (S_15 (gG g) 7)) rfl k_50 dX0_grantLoan_20 ?_
  refine lv_iload_n hx hb dX0_grantLoan_23 rfl (lv_at hl 2 rfl) ?_
  refine lv_iadd hx hb dX0_grantLoan_24 ?_
  refine x_put B hW (hqG hg) cls0 hin_X0 7 (by decide) (cC_G hg) rfl (ty := .int) (by decide +kernel) rfl rfl (Nat.le_of_ble_eq_true rfl) (j := 7) (pG_7 hg) k_50 dX0_grantLoan_25 (fun H locs S_25 he_25 hW => ?_)
  have zk := nm_at zk he_25
  exact x_vret B hW zk.symm dX0_grantLoan_28

def x_X0_takePayment_L77 : Nat → vS → Nat → Nat → Int32 → Nat → Int32 → (Int32 × vS)
  | 0, S, _, _, _, _, _ => (0, S)
  | n + 1, S, g, k, p2, n6, v4 => if 8 ≤ (nI n6) then ((p2 - v4), S) else nm ((if (S (gD g k) n6) < v4 then (S (gD g k) n6) else v4)) (fun x_96 => nm (st S (gD g k) n6 ((S (gD g k) n6) - x_96)) (fun S_109 => nm ((v4 - x_96)) (fun x_115 => x_X0_takePayment_L77 n S_109 g k p2 ((n6 + 1)) (x_115))))
def x_X0_takePayment (S : vS) (g k : Nat) (p2 : Int32) : (Int32 × vS) := nm ((if (S (gM g k) 11) < p2 then (S (gM g k) 11) else p2)) (fun x_8 => nm (st S (gM g k) 11 ((S (gM g k) 11) - x_8)) (fun S_16 => nm (st S_16 (gG g) 9 ((S_16 (gG g) 9) + x_8)) (fun S_26 => nm ((p2 - x_8)) (fun x_32 => nm ((if (S_26 (gM g k) 12) < x_32 then (S_26 (gM g k) 12) else x_32)) (fun x_43 => nm (st S_26 (gM g k) 12 ((S_26 (gM g k) 12) - x_43)) (fun S_53 => nm (st S_53 (gG g) 6 ((S_53 (gG g) 6) + x_43)) (fun S_64 => nm ((x_32 - x_43)) (fun x_72 => x_X0_takePayment_L77 (9) S_64 g k p2 (0) (x_72)))))))))
theorem hd_X0_takePayment : yX0_takePayment.cls = RX0 ∧ yX0_takePayment.cls ≠ "java/lang/invoke/MethodHandle" ∧ yX0_takePayment.cls ≠ "java/lang/invoke/VarHandle" ∧ (parseMethodDescriptor yX0_takePayment.desc).map (fun d => d.parameters.length) = some 2 := by decide +kernel
set_option maxHeartbeats 4000000 in
set_option maxRecDepth 100000 in
theorem w_X0_takePayment_L77 {D : va_G} {ad : Nat → Nat} (l : Launch) {p : Program} {e : Env} {s : State} {mm : MethodId} {args : Array Value} {below : List Frame} {meth : Method} {c : Code} {A : Nat → Prop} (B : Cx p mm c cX0_takePayment 8 s args wsX0_takePayment RX0 meth (some .int) D) (z : (Int32 × vS)) (g k : Nat) (p2 : Int32) (hg : g < 8) (hk : k < 8) : ∀ (n : Nat) (n6 : Nat) (v4 : Int32) (S : vS) (H : Heap) (locs : List Loc) (ls : Array Slot), n6 ≤ 8 → n6 + n = 9 → Wd D 157 (cC D ad) ad A s.heap S H locs → lv_has ls 8 [(6, .int (nI n6)), (4, .int v4), (1, .ref (ad (gM g k))), (2, .int p2)] → ls.size = 8 → z = x_X0_takePayment_L77 n S g k p2 n6 v4 → W p l e (rmD 1) s mm args below meth c H locs 0 0 (MQ below (va_Qi (fun (r : Int32) (S1 : vS) => (r, S1) = z) (bW D 157 (cC D ad) ad A) A) args s 0 0 A) (F0 mm 77 ls []) := by
  have hx := B.1.1
  have hb := B.1.2.1
  have hin_X0 : ∀ w ∈ wsX00, w ∈ wsX0_takePayment := fun w h => List.mem_cons_of_mem _ (List.mem_append_right _ h)
  have hin_X2 : ∀ w ∈ wsX20, w ∈ wsX0_takePayment := fun w h => List.mem_cons_of_mem _ (List.mem_append_left _ (List.mem_append_right _ h))
  have k_47 := B.1.2.2.2.2 (.fieldLink RX0 47 "JointLoans$Group" "fund" "I") (by decide +kernel)
  have k_56 := B.1.2.2.2.2 (.fieldLink RX0 56 "JointLoans$Group" "bankPaid" "I") (by decide +kernel)
  have kc_min := B.1.2.2.2.2 (.code Lib.Math.min.name Lib.Math.min.code 2 (some .int)) (by decide +kernel)
  have ki_math := B.1.2.2.2.2 (.initialized "java/lang/Math") (by decide +kernel)
  have kl_113 := B.1.2.2.2.2 (.methodLink RX0 113 Lib.Math.min.name) (by decide +kernel)
  have ks_min := B.1.2.2.2.2 (.static Lib.Math.min.name) (by decide +kernel)
  intro n
  induction n with
  | zero =>
    intro n6 v4 S H locs ls hle hsum
    omega
  | succ n ih =>
    intro n6 v4 S H locs ls hle hsum hW hl hls zk
    have zk := zk.trans (x_X0_takePayment_L77.eq_2 _ _ _ _ _ _ _ )
    refine lv_iload hx hb dX0_takePayment_77 (lv_at hl 0 rfl) ?_
    refine lv_bipush (v := 8) hx hb dX0_takePayment_79 (by decide) ?_
    refine lv_icmp_ge (tgt := 123) hx hb dX0_takePayment_81 (by decide) (fun c_81 => ?_) (fun c_81 => ?_)
    · have zk := zk.trans (if_pos c_81)
      refine lv_iload_n hx hb dX0_takePayment_123 rfl (lv_at hl 3 rfl) ?_
      refine lv_iload hx hb dX0_takePayment_124 (lv_at hl 1 rfl) ?_
      refine lv_isub hx hb dX0_takePayment_126 ?_
      exact x_iret B hW zk.symm dX0_takePayment_127
    · have zk := zk.trans (if_neg c_81)
      have hb_c_81 : n6 < 8 := nI_of_nle (by decide) c_81 (by omega)
      refine lv_iload hx hb dX0_takePayment_84 (lv_at hl 1 rfl) ?_
      refine lv_aload_n hx hb dX0_takePayment_86 rfl (lv_at hl 2 rfl) ?_
      refine x_getN B hW (hqM hg hk) (cC_M hg hk) cls2 hin_X2 15 (by decide) (v := .ref (ad (gD g k))) rfl nl_X0_119 dX0_takePayment_87 ?_
      refine lv_iload hx hb dX0_takePayment_90 (lv_at hl 0 rfl) ?_
      refine x_iald B hW (hqD hg hk) (cC_D hg hk) (isN_nI hb_c_81 (by decide)) (by decide) (by decide) dX0_takePayment_92 ?_
      refine va_mmin hx hb (B.1.2.2.1.trans hls.symm) B.1.2.2.2.1 kl_113 ks_min ki_math kc_min (Nat.le_of_ble_eq_true rfl) (Nat.le_of_ble_eq_true rfl) (Nat.zero_le _) (Nat.zero_le _) dX0_takePayment_93 ?_
      refine lv_topi (fun x_96 ex_96 => ?_)
      have zk := nm_at zk ex_96
      refine lv_istore (lv' := [(7, .int x_96), (6, .int (nI n6)), (4, .int v4), (1, .ref (ad (gM g k))), (2, .int p2)]) hx hb dX0_takePayment_96 hl (by decide) rfl (fun ls hl => ?_)
      have hls := hl.1
      refine lv_aload_n hx hb dX0_takePayment_98 rfl (lv_at hl 3 rfl) ?_
      refine x_getN B hW (hqM hg hk) (cC_M hg hk) cls2 hin_X2 15 (by decide) (v := .ref (ad (gD g k))) rfl nl_X0_119 dX0_takePayment_99 ?_
      refine lv_iload hx hb dX0_takePayment_102 (lv_at hl 1 rfl) ?_
      refine lv_dup2_11 hx hb dX0_takePayment_104 rfl rfl ?_
      refine x_iald B hW (hqD hg hk) (cC_D hg hk) (isN_nI hb_c_81 (by decide)) (by decide) (by decide) dX0_takePayment_105 ?_
      refine lv_iload hx hb dX0_takePayment_106 (lv_at hl 0 rfl) ?_
      refine lv_isub hx hb dX0_takePayment_108 ?_
      refine x_iast B hW (hqD hg hk) (fun _ => (cC_D hg hk)) (isN_nI hb_c_81 (by decide)) (by decide) (by decide) dX0_takePayment_109 (fun H locs S_109 he_109 hW => ?_)
      have zk := nm_at zk he_109
      refine lv_iload hx hb dX0_takePayment_110 (lv_at hl 2 rfl) ?_
      refine lv_iload hx hb dX0_takePayment_112 (lv_at hl 0 rfl) ?_
      refine lv_isub hx hb dX0_takePayment_114 ?_
      refine lv_topi (fun x_115 ex_115 => ?_)
      have zk := nm_at zk ex_115
      refine lv_istore (lv' := [(4, .int x_115), (7, .int x_96), (6, .int (nI n6)), (1, .ref (ad (gM g k))), (2, .int p2)]) hx hb dX0_takePayment_115 hl (by decide) rfl (fun ls hl => ?_)
      have hls := hl.1
      refine lv_iinc (v := (nI (n6 + 1))) (lv' := [(6, .int (nI (n6 + 1))), (4, .int x_115), (7, .int x_96), (1, .ref (ad (gM g k))), (2, .int p2)]) hx hb dX0_takePayment_117 hl (k := 2) rfl (nI_1 _) (by decide) rfl (fun ls hl => ?_)
      have hls := hl.1
      refine lv_goto (tgt := 77) hx hb dX0_takePayment_120 (by decide) ?_
      exact ih ((n6 + 1)) (x_115) S_109 _ _ _ (show (n6 + 1) ≤ 8 by omega) (show (n6 + 1) + n = 9 by omega) hW (lv_sub hl [0, 1, 3, 4] rfl) hls zk
set_option maxHeartbeats 4000000 in
set_option maxRecDepth 100000 in
theorem c_X0_takePayment {D : va_G} {ad : Nat → Nat} (l : Launch) (sz : Nat) (S : vS) (g k : Nat) (p2 : Int32) (hg : g < 8) (hk : k < 8) : Met l yX0_takePayment wsX0_takePayment (rmD 1) (pW D 157 (cC D ad) ad sz S [.ref (ad (gG g)), .ref (ad (gM g k)), .int p2]) (va_Qi (fun (r : Int32) (S1 : vS) => (r, S1) = (x_X0_takePayment S g k p2)) (bW D 157 (cC D ad) ad (aW 157 ad sz)) (aW 157 ad sz)) 0 0 (aW 157 ad sz) := by
  refine x_met (own := RX0) (cc := cX0_takePayment) (maxL := 8) (ret := (some .int)) (Qc := fun A => va_Qi (fun (r : Int32) (S1 : vS) => (r, S1) = (x_X0_takePayment S g k p2)) (bW D 157 (cC D ad) ad A) A) rfl ⟨by decide +kernel, rfl, Nat.le_of_ble_eq_true rfl⟩ ?_
  intro p e s mm args below meth c A ls B hW hl hls
  have hx := B.1.1
  have hb := B.1.2.1
  have hin_X0 : ∀ w ∈ wsX00, w ∈ wsX0_takePayment := fun w h => List.mem_cons_of_mem _ (List.mem_append_right _ h)
  have hin_X2 : ∀ w ∈ wsX20, w ∈ wsX0_takePayment := fun w h => List.mem_cons_of_mem _ (List.mem_append_left _ (List.mem_append_right _ h))
  have k_47 := B.1.2.2.2.2 (.fieldLink RX0 47 "JointLoans$Group" "fund" "I") (by decide +kernel)
  have k_56 := B.1.2.2.2.2 (.fieldLink RX0 56 "JointLoans$Group" "bankPaid" "I") (by decide +kernel)
  have kc_min := B.1.2.2.2.2 (.code Lib.Math.min.name Lib.Math.min.code 2 (some .int)) (by decide +kernel)
  have ki_math := B.1.2.2.2.2 (.initialized "java/lang/Math") (by decide +kernel)
  have kl_113 := B.1.2.2.2.2 (.methodLink RX0 113 Lib.Math.min.name) (by decide +kernel)
  have ks_min := B.1.2.2.2.2 (.static Lib.Math.min.name) (by decide +kernel)
  have zk := x_X0_takePayment.eq_1 S g k p2
  have hl : lv_has ls 8 [(0, .ref (ad (gG g))), (1, .ref (ad (gM g k))), (2, .int p2)] := hl
  refine lv_iload_n hx hb dX0_takePayment_0 rfl (lv_at hl 2 rfl) ?_
  refine lv_aload_n hx hb dX0_takePayment_1 rfl (lv_at hl 1 rfl) ?_
  refine x_getN B hW (hqM hg hk) (cC_M hg hk) cls2 hin_X2 11 (by decide) (v := .int (S (gM g k) 11)) rfl nl_X0_110 dX0_takePayment_2 ?_
  refine va_mmin hx hb (B.1.2.2.1.trans hls.symm) B.1.2.2.2.1 kl_113 ks_min ki_math kc_min (Nat.le_of_ble_eq_true rfl) (Nat.le_of_ble_eq_true rfl) (Nat.zero_le _) (Nat.zero_le _) dX0_takePayment_5 ?_
  refine lv_topi (fun x_8 ex_8 => ?_)
  have zk := nm_at zk ex_8
  refine lv_istore_n (lv' := [(3, .int x_8), (0, .ref (ad (gG g))), (1, .ref (ad (gM g k))), (2, .int p2)]) hx hb dX0_takePayment_8 rfl hl (by decide) rfl (fun ls hl => ?_)
  have hls := hl.1
  refine lv_aload_n hx hb dX0_takePayment_9 rfl (lv_at hl 2 rfl) ?_
  refine lv_dup hx hb dX0_takePayment_10 rfl ?_
  refine x_getN B hW (hqM hg hk) (cC_M hg hk) cls2 hin_X2 11 (by decide) (v := .int (S (gM g k) 11)) rfl nl_X0_110 dX0_takePayment_11 ?_
  refine lv_iload_n hx hb dX0_takePayment_14 rfl (lv_at hl 0 rfl) ?_
  refine lv_isub hx hb dX0_takePayment_15 ?_
  refine x_putN B hW (hqM hg hk) cls2 hin_X2 11 (by decide) (cC_M hg hk) rfl (ty := .int) (by decide +kernel) rfl rfl (Nat.le_of_ble_eq_true rfl) (j := 11) (pM_11 hg hk) nl_X0_110 dX0_takePayment_16 (fun H locs S_16 he_16 hW => ?_)
  have zk := nm_at zk he_16
  refine lv_aload_n hx hb dX0_takePayment_19 rfl (lv_at hl 1 rfl) ?_
  refine lv_dup hx hb dX0_takePayment_20 rfl ?_
  refine x_get B hW (hqG hg) (cC_G hg) cls0 hin_X0 9 (by decide) (v := .int (S_16 (gG g) 9)) rfl k_56 dX0_takePayment_21 ?_
  refine lv_iload_n hx hb dX0_takePayment_24 rfl (lv_at hl 0 rfl) ?_
  refine lv_iadd hx hb dX0_takePayment_25 ?_
  refine x_put B hW (hqG hg) cls0 hin_X0 9 (by decide) (cC_G hg) rfl (ty := .int) (by decide +kernel) rfl rfl (Nat.le_of_ble_eq_true rfl) (j := 9) (pG_9 hg) k_56 dX0_takePayment_26 (fun H locs S_26 he_26 hW => ?_)
  have zk := nm_at zk he_26
  refine lv_iload_n hx hb dX0_takePayment_29 rfl (lv_at hl 3 rfl) ?_
  refine lv_iload_n hx hb dX0_takePayment_30 rfl (lv_at hl 0 rfl) ?_
  refine lv_isub hx hb dX0_takePayment_31 ?_
  refine lv_topi (fun x_32 ex_32 => ?_)
  have zk := nm_at zk ex_32
  refine lv_istore (lv' := [(4, .int x_32), (3, .int x_8), (0, .ref (ad (gG g))), (1, .ref (ad (gM g k))), (2, .int p2)]) hx hb dX0_takePayment_32 hl (by decide) rfl (fun ls hl => ?_)
  have hls := hl.1
  refine lv_iload hx hb dX0_takePayment_34 (lv_at hl 0 rfl) ?_
  refine lv_aload_n hx hb dX0_takePayment_36 rfl (lv_at hl 3 rfl) ?_
  refine x_getN B hW (hqM hg hk) (cC_M hg hk) cls2 hin_X2 12 (by decide) (v := .int (S_26 (gM g k) 12)) rfl nl_X0_116 dX0_takePayment_37 ?_
  refine va_mmin hx hb (B.1.2.2.1.trans hls.symm) B.1.2.2.2.1 kl_113 ks_min ki_math kc_min (Nat.le_of_ble_eq_true rfl) (Nat.le_of_ble_eq_true rfl) (Nat.zero_le _) (Nat.zero_le _) dX0_takePayment_40 ?_
  refine lv_topi (fun x_43 ex_43 => ?_)
  have zk := nm_at zk ex_43
  refine lv_istore (lv' := [(5, .int x_43), (4, .int x_32), (3, .int x_8), (0, .ref (ad (gG g))), (1, .ref (ad (gM g k))), (2, .int p2)]) hx hb dX0_takePayment_43 hl (by decide) rfl (fun ls hl => ?_)
  have hls := hl.1
  refine lv_aload_n hx hb dX0_takePayment_45 rfl (lv_at hl 4 rfl) ?_
  refine lv_dup hx hb dX0_takePayment_46 rfl ?_
  refine x_getN B hW (hqM hg hk) (cC_M hg hk) cls2 hin_X2 12 (by decide) (v := .int (S_26 (gM g k) 12)) rfl nl_X0_116 dX0_takePayment_47 ?_
  refine lv_iload hx hb dX0_takePayment_50 (lv_at hl 0 rfl) ?_
  refine lv_isub hx hb dX0_takePayment_52 ?_
  refine x_putN B hW (hqM hg hk) cls2 hin_X2 12 (by decide) (cC_M hg hk) rfl (ty := .int) (by decide +kernel) rfl rfl (Nat.le_of_ble_eq_true rfl) (j := 12) (pM_12 hg hk) nl_X0_116 dX0_takePayment_53 (fun H locs S_53 he_53 hW => ?_)
  have zk := nm_at zk he_53
  refine lv_aload_n hx hb dX0_takePayment_56 rfl (lv_at hl 3 rfl) ?_
  refine lv_dup hx hb dX0_takePayment_57 rfl ?_
  refine x_get B hW (hqG hg) (cC_G hg) cls0 hin_X0 6 (by decide) (v := .int (S_53 (gG g) 6)) rfl k_47 dX0_takePayment_58 ?_
  refine lv_iload hx hb dX0_takePayment_61 (lv_at hl 0 rfl) ?_
  refine lv_iadd hx hb dX0_takePayment_63 ?_
  refine x_put B hW (hqG hg) cls0 hin_X0 6 (by decide) (cC_G hg) rfl (ty := .int) (by decide +kernel) rfl rfl (Nat.le_of_ble_eq_true rfl) (j := 6) (pG_6 hg) k_47 dX0_takePayment_64 (fun H locs S_64 he_64 hW => ?_)
  have zk := nm_at zk he_64
  refine lv_iload hx hb dX0_takePayment_67 (lv_at hl 1 rfl) ?_
  refine lv_iload hx hb dX0_takePayment_69 (lv_at hl 0 rfl) ?_
  refine lv_isub hx hb dX0_takePayment_71 ?_
  refine lv_topi (fun x_72 ex_72 => ?_)
  have zk := nm_at zk ex_72
  refine lv_istore (lv' := [(4, .int x_72), (5, .int x_43), (3, .int x_8), (0, .ref (ad (gG g))), (1, .ref (ad (gM g k))), (2, .int p2)]) hx hb dX0_takePayment_72 hl (by decide) rfl (fun ls hl => ?_)
  have hls := hl.1
  refine lv_iconst (v := 0) hx hb dX0_takePayment_74 (by decide) ?_
  refine lv_istore (lv' := [(6, .int 0), (4, .int x_72), (5, .int x_43), (3, .int x_8), (0, .ref (ad (gG g))), (1, .ref (ad (gM g k))), (2, .int p2)]) hx hb dX0_takePayment_75 hl (by decide) rfl (fun ls hl => ?_)
  have hls := hl.1
  exact w_X0_takePayment_L77 l B  _ g k p2 hg hk (9) (0) (x_72) S_64 _ _ _ (show 0 ≤ 8 by omega) (show 0 + (9) = 9 by omega) hW (lv_sub hl [0, 1, 5, 6] rfl) hls zk

def x_X0_mayHelp (S : vS) (g k : Nat) (p2 : Int32) : Int32 := if (S (gG g) 5) = (-1) then 0 else if (S (gG g) 5) = (nI k) then 0 else if (S (gM g k) 12) = 0 then if (((S (gG g) 6) * (S (gS g) 3)) / 100) < p2 then 0 else 1 else 0
theorem hd_X0_mayHelp : yX0_mayHelp.cls = RX0 ∧ yX0_mayHelp.cls ≠ "java/lang/invoke/MethodHandle" ∧ yX0_mayHelp.cls ≠ "java/lang/invoke/VarHandle" ∧ (parseMethodDescriptor yX0_mayHelp.desc).map (fun d => d.parameters.length) = some 2 := by decide +kernel
set_option maxHeartbeats 4000000 in
set_option maxRecDepth 100000 in
theorem c_X0_mayHelp {D : va_G} {ad : Nat → Nat} (l : Launch) (sz : Nat) (S : vS) (g k : Nat) (p2 : Int32) (hg : g < 8) (hk : k < 8) : Met l yX0_mayHelp wsX0_mayHelp (rmD 0) (pW D 157 (cC D ad) ad sz S [.ref (ad (gG g)), .ref (ad (gM g k)), .int p2]) (va_Qi (fun (r : Int32) (S1 : vS) => r = (x_X0_mayHelp S g k p2) ∧ S1 = S ∧ (r = 0 ∨ r = 1)) (bW D 157 (cC D ad) ad (aW 157 ad sz)) (aW 157 ad sz)) 0 0 (aW 157 ad sz) := by
  refine x_met (own := RX0) (cc := cX0_mayHelp) (maxL := 3) (ret := (some .boolean)) (Qc := fun A => va_Qi (fun (r : Int32) (S1 : vS) => r = (x_X0_mayHelp S g k p2) ∧ S1 = S ∧ (r = 0 ∨ r = 1)) (bW D 157 (cC D ad) ad A) A) rfl ⟨by decide +kernel, rfl, Nat.le_of_ble_eq_true rfl⟩ ?_
  intro p e s mm args below meth c A ls B hW hl hls
  have hx := B.1.1
  have hb := B.1.2.1
  have hin_X0 : ∀ w ∈ wsX00, w ∈ wsX0_mayHelp := fun w h => List.mem_cons_of_mem _ (List.mem_append_left _ (List.mem_append_right _ h))
  have hin_X2 : ∀ w ∈ wsX20, w ∈ wsX0_mayHelp := fun w h => List.mem_cons_of_mem _ (List.mem_append_right _ h)
  have k_17 := B.1.2.2.2.2 (.fieldLink RX0 17 "JointLoans$Group" "settings" "[I") (by decide +kernel)
  have k_21 := B.1.2.2.2.2 (.fieldLink RX0 21 "JointLoans$Group" "chair" "I") (by decide +kernel)
  have k_47 := B.1.2.2.2.2 (.fieldLink RX0 47 "JointLoans$Group" "fund" "I") (by decide +kernel)
  have zk := x_X0_mayHelp.eq_1 S g k p2
  have hl : lv_has ls 3 [(0, .ref (ad (gG g))), (1, .ref (ad (gM g k))), (2, .int p2)] := hl
  refine lv_aload_n hx hb dX0_mayHelp_0 rfl (lv_at hl 0 rfl) ?_
  refine x_get B hW (hqG hg) (cC_G hg) cls0 hin_X0 5 (by decide) (v := .int (S (gG g) 5)) rfl k_21 dX0_mayHelp_1 ?_
  refine lv_iconst (v := (-1)) hx hb dX0_mayHelp_4 (by decide) ?_
  refine lv_icmp_eq (tgt := 48) hx hb dX0_mayHelp_5 (by decide) (fun c_5 => ?_) (fun c_5 => ?_)
  · have zk := zk.trans (if_pos c_5)
    refine lv_iconst (v := 0) hx hb dX0_mayHelp_48 (by decide) ?_
    exact x_zret B hW (Or.inl rfl) ⟨zk.symm, rfl, (Or.inl rfl)⟩ dX0_mayHelp_49
  · have zk := zk.trans (if_neg c_5)
    refine lv_aload_n hx hb dX0_mayHelp_8 rfl (lv_at hl 0 rfl) ?_
    refine x_get B hW (hqG hg) (cC_G hg) cls0 hin_X0 5 (by decide) (v := .int (S (gG g) 5)) rfl k_21 dX0_mayHelp_9 ?_
    refine lv_aload_n hx hb dX0_mayHelp_12 rfl (lv_at hl 1 rfl) ?_
    refine x_getN B hW (hqM hg hk) (cC_M hg hk) cls2 hin_X2 0 (by decide) (v := .int (nI k)) rfl nl_X0_90 dX0_mayHelp_13 ?_
    refine lv_icmp_eq (tgt := 48) hx hb dX0_mayHelp_16 (by decide) (fun c_16 => ?_) (fun c_16 => ?_)
    · have zk := zk.trans (if_pos c_16)
      refine lv_iconst (v := 0) hx hb dX0_mayHelp_48 (by decide) ?_
      exact x_zret B hW (Or.inl rfl) ⟨zk.symm, rfl, (Or.inl rfl)⟩ dX0_mayHelp_49
    · have zk := zk.trans (if_neg c_16)
      refine lv_aload_n hx hb dX0_mayHelp_19 rfl (lv_at hl 1 rfl) ?_
      refine x_getN B hW (hqM hg hk) (cC_M hg hk) cls2 hin_X2 12 (by decide) (v := .int (S (gM g k) 12)) rfl nl_X0_116 dX0_mayHelp_20 ?_
      refine lv_if_ne (tgt := 48) hx hb dX0_mayHelp_23 (by decide) (fun c_23 => ?_) (fun c_23 => ?_)
      · have zk := zk.trans (if_neg c_23)
        refine lv_iconst (v := 0) hx hb dX0_mayHelp_48 (by decide) ?_
        exact x_zret B hW (Or.inl rfl) ⟨zk.symm, rfl, (Or.inl rfl)⟩ dX0_mayHelp_49
      · have zk := zk.trans (if_pos c_23)
        refine lv_iload_n hx hb dX0_mayHelp_26 rfl (lv_at hl 2 rfl) ?_
        refine lv_aload_n hx hb dX0_mayHelp_27 rfl (lv_at hl 0 rfl) ?_
        refine x_get B hW (hqG hg) (cC_G hg) cls0 hin_X0 6 (by decide) (v := .int (S (gG g) 6)) rfl k_47 dX0_mayHelp_28 ?_
        refine lv_aload_n hx hb dX0_mayHelp_31 rfl (lv_at hl 0 rfl) ?_
        refine x_get B hW (hqG hg) (cC_G hg) cls0 hin_X0 1 (by decide) (v := .ref (ad (gS g))) rfl k_17 dX0_mayHelp_32 ?_
        refine lv_iconst (v := 3) hx hb dX0_mayHelp_35 (by decide) ?_
        refine x_iald B hW (hqS hg) (cC_S hg) (isN_lit 3 (by decide)) (by decide) (by decide) dX0_mayHelp_36 ?_
        refine lv_imul hx hb dX0_mayHelp_37 ?_
        refine lv_bipush (v := 100) hx hb dX0_mayHelp_38 (by decide) ?_
        refine lv_idiv hx hb dX0_mayHelp_40 (by decide) ?_
        refine lv_icmp_gt (tgt := 48) hx hb dX0_mayHelp_41 (by decide) (fun c_41 => ?_) (fun c_41 => ?_)
        · have zk := zk.trans (if_pos c_41)
          refine lv_iconst (v := 0) hx hb dX0_mayHelp_48 (by decide) ?_
          exact x_zret B hW (Or.inl rfl) ⟨zk.symm, rfl, (Or.inl rfl)⟩ dX0_mayHelp_49
        · have zk := zk.trans (if_neg c_41)
          refine lv_iconst (v := 1) hx hb dX0_mayHelp_44 (by decide) ?_
          refine lv_goto (tgt := 49) hx hb dX0_mayHelp_45 (by decide) ?_
          exact x_zret B hW (Or.inr rfl) ⟨zk.symm, rfl, (Or.inr rfl)⟩ dX0_mayHelp_49

def x_X0_grantHelp (S : vS) (g k : Nat) (p2 : Int32) : vS := nm (st S (gG g) 6 ((S (gG g) 6) - p2)) (fun S_7 => nm (st S_7 (gM g k) 12 ((S_7 (gM g k) 12) + p2)) (fun S_17 => S_17))
theorem hd_X0_grantHelp : yX0_grantHelp.cls = RX0 ∧ yX0_grantHelp.cls ≠ "java/lang/invoke/MethodHandle" ∧ yX0_grantHelp.cls ≠ "java/lang/invoke/VarHandle" ∧ (parseMethodDescriptor yX0_grantHelp.desc).map (fun d => d.parameters.length) = some 2 := by decide +kernel
set_option maxHeartbeats 4000000 in
set_option maxRecDepth 100000 in
theorem c_X0_grantHelp {D : va_G} {ad : Nat → Nat} (l : Launch) (sz : Nat) (S : vS) (g k : Nat) (p2 : Int32) (hg : g < 8) (hk : k < 8) : Met l yX0_grantHelp wsX0_grantHelp (rmD 0) (pW D 157 (cC D ad) ad sz S [.ref (ad (gG g)), .ref (ad (gM g k)), .int p2]) (va_Qv (fun (S1 : vS) => S1 = (x_X0_grantHelp S g k p2)) (bW D 157 (cC D ad) ad (aW 157 ad sz)) (aW 157 ad sz)) 0 0 (aW 157 ad sz) := by
  refine x_met (own := RX0) (cc := cX0_grantHelp) (maxL := 3) (ret := none) (Qc := fun A => va_Qv (fun (S1 : vS) => S1 = (x_X0_grantHelp S g k p2)) (bW D 157 (cC D ad) ad A) A) rfl ⟨by decide +kernel, rfl, Nat.le_of_ble_eq_true rfl⟩ ?_
  intro p e s mm args below meth c A ls B hW hl hls
  have hx := B.1.1
  have hb := B.1.2.1
  have hin_X0 : ∀ w ∈ wsX00, w ∈ wsX0_grantHelp := fun w h => List.mem_cons_of_mem _ (List.mem_append_left _ (List.mem_append_right _ h))
  have hin_X2 : ∀ w ∈ wsX20, w ∈ wsX0_grantHelp := fun w h => List.mem_cons_of_mem _ (List.mem_append_right _ h)
  have k_47 := B.1.2.2.2.2 (.fieldLink RX0 47 "JointLoans$Group" "fund" "I") (by decide +kernel)
  have zk := x_X0_grantHelp.eq_1 S g k p2
  have hl : lv_has ls 3 [(0, .ref (ad (gG g))), (1, .ref (ad (gM g k))), (2, .int p2)] := hl
  refine lv_aload_n hx hb dX0_grantHelp_0 rfl (lv_at hl 0 rfl) ?_
  refine lv_dup hx hb dX0_grantHelp_1 rfl ?_
  refine x_get B hW (hqG hg) (cC_G hg) cls0 hin_X0 6 (by decide) (v := .int (S (gG g) 6)) rfl k_47 dX0_grantHelp_2 ?_
  refine lv_iload_n hx hb dX0_grantHelp_5 rfl (lv_at hl 2 rfl) ?_
  refine lv_isub hx hb dX0_grantHelp_6 ?_
  refine x_put B hW (hqG hg) cls0 hin_X0 6 (by decide) (cC_G hg) rfl (ty := .int) (by decide +kernel) rfl rfl (Nat.le_of_ble_eq_true rfl) (j := 6) (pG_6 hg) k_47 dX0_grantHelp_7 (fun H locs S_7 he_7 hW => ?_)
  have zk := nm_at zk he_7
  refine lv_aload_n hx hb dX0_grantHelp_10 rfl (lv_at hl 1 rfl) ?_
  refine lv_dup hx hb dX0_grantHelp_11 rfl ?_
  refine x_getN B hW (hqM hg hk) (cC_M hg hk) cls2 hin_X2 12 (by decide) (v := .int (S_7 (gM g k) 12)) rfl nl_X0_116 dX0_grantHelp_12 ?_
  refine lv_iload_n hx hb dX0_grantHelp_15 rfl (lv_at hl 2 rfl) ?_
  refine lv_iadd hx hb dX0_grantHelp_16 ?_
  refine x_putN B hW (hqM hg hk) cls2 hin_X2 12 (by decide) (cC_M hg hk) rfl (ty := .int) (by decide +kernel) rfl rfl (Nat.le_of_ble_eq_true rfl) (j := 12) (pM_12 hg hk) nl_X0_116 dX0_grantHelp_17 (fun H locs S_17 he_17 hW => ?_)
  have zk := nm_at zk he_17
  exact x_vret B hW zk.symm dX0_grantHelp_20

def x_X0_bankDebts_L13 : Nat → vS → Nat → Nat → Int32 → Int32
  | 0, S, _, _, _ => 0
  | n + 1, S, g, n4, v1 => if 8 ≤ (nI n4) then v1 else nm ((v1 + (S (gM g n4) 11))) (fun x_32 => x_X0_bankDebts_L13 n S g ((n4 + 1)) (x_32))
def x_X0_bankDebts (S : vS) (g : Nat) : Int32 := x_X0_bankDebts_L13 (9) S g (0) (0)
theorem hd_X0_bankDebts : yX0_bankDebts.cls = RX0 ∧ yX0_bankDebts.cls ≠ "java/lang/invoke/MethodHandle" ∧ yX0_bankDebts.cls ≠ "java/lang/invoke/VarHandle" ∧ (parseMethodDescriptor yX0_bankDebts.desc).map (fun d => d.parameters.length) = some 0 := by decide +kernel
set_option maxHeartbeats 4000000 in
set_option maxRecDepth 100000 in
theorem w_X0_bankDebts_L13 {D : va_G} {ad : Nat → Nat} (l : Launch) {p : Program} {e : Env} {s : State} {mm : MethodId} {args : Array Value} {below : List Frame} {meth : Method} {c : Code} {A : Nat → Prop} (B : Cx p mm c cX0_bankDebts 6 s args wsX0_bankDebts RX0 meth (some .int) D) (S : vS) (z : Int32) (g : Nat) (hg : g < 8) : ∀ (n : Nat) (n4 : Nat) (v1 : Int32) (H : Heap) (locs : List Loc) (ls : Array Slot), n4 ≤ 8 → n4 + n = 9 → Wd D 157 (cC D ad) ad A s.heap S H locs → lv_has ls 6 [(4, .int (nI n4)), (3, .int 8), (2, .ref (ad (gA g))), (1, .int v1)] → ls.size = 6 → z = x_X0_bankDebts_L13 n S g n4 v1 → W p l e (rmD 0) s mm args below meth c H locs 0 0 (MQ below (va_Qi (fun (r : Int32) (S1 : vS) => r = z ∧ S1 = S) (bW D 157 (cC D ad) ad A) A) args s 0 0 A) (F0 mm 13 ls []) := by
  have hx := B.1.1
  have hb := B.1.2.1
  have hin_X0 : ∀ w ∈ wsX00, w ∈ wsX0_bankDebts := fun w h => List.mem_cons_of_mem _ (List.mem_append_left _ (List.mem_append_right _ h))
  have hin_X2 : ∀ w ∈ wsX20, w ∈ wsX0_bankDebts := fun w h => List.mem_cons_of_mem _ (List.mem_append_right _ h)
  have k_11 := B.1.2.2.2.2 (.fieldLink RX0 11 "JointLoans$Group" "members" "[LJointLoans$Member;") (by decide +kernel)
  intro n
  induction n with
  | zero =>
    intro n4 v1 H locs ls hle hsum
    omega
  | succ n ih =>
    intro n4 v1 H locs ls hle hsum hW hl hls zk
    have zk := zk.trans (x_X0_bankDebts_L13.eq_2 _ _ _ _ _ )
    refine lv_iload hx hb dX0_bankDebts_13 (lv_at hl 0 rfl) ?_
    refine lv_iload_n hx hb dX0_bankDebts_15 rfl (lv_at hl 1 rfl) ?_
    refine lv_icmp_ge (tgt := 39) hx hb dX0_bankDebts_16 (by decide) (fun c_16 => ?_) (fun c_16 => ?_)
    · have zk := zk.trans (if_pos c_16)
      refine lv_iload_n hx hb dX0_bankDebts_39 rfl (lv_at hl 3 rfl) ?_
      exact x_iret B hW ⟨zk.symm, rfl⟩ dX0_bankDebts_40
    · have zk := zk.trans (if_neg c_16)
      have hb_c_16 : n4 < 8 := nI_of_nle (by decide) c_16 (by omega)
      refine lv_aload_n hx hb dX0_bankDebts_19 rfl (lv_at hl 2 rfl) ?_
      refine lv_iload hx hb dX0_bankDebts_20 (lv_at hl 0 rfl) ?_
      refine x_aald B hW (hqA hg) (cC_A hg) (k := 2) rfl (isN_nI hb_c_16 (by decide)) (by decide) (by decide) (v := .ref (ad (gM g n4))) rfl dX0_bankDebts_22 ?_
      refine lv_astore (lv' := [(5, .ref (ad (gM g n4))), (4, .int (nI n4)), (3, .int 8), (2, .ref (ad (gA g))), (1, .int v1)]) hx hb dX0_bankDebts_23 hl (by decide) rfl (fun ls hl => ?_)
      have hls := hl.1
      refine lv_iload_n hx hb dX0_bankDebts_25 rfl (lv_at hl 4 rfl) ?_
      refine lv_aload hx hb dX0_bankDebts_26 (lv_at hl 0 rfl) ?_
      refine x_getN B hW (hqM hg hb_c_16) (cC_M hg hb_c_16) cls2 hin_X2 11 (by decide) (v := .int (S (gM g n4) 11)) rfl nl_X0_110 dX0_bankDebts_28 ?_
      refine lv_iadd hx hb dX0_bankDebts_31 ?_
      refine lv_topi (fun x_32 ex_32 => ?_)
      have zk := nm_at zk ex_32
      refine lv_istore_n (lv' := [(1, .int x_32), (5, .ref (ad (gM g n4))), (4, .int (nI n4)), (3, .int 8), (2, .ref (ad (gA g)))]) hx hb dX0_bankDebts_32 rfl hl (by decide) rfl (fun ls hl => ?_)
      have hls := hl.1
      refine lv_iinc (v := (nI (n4 + 1))) (lv' := [(4, .int (nI (n4 + 1))), (1, .int x_32), (5, .ref (ad (gM g n4))), (3, .int 8), (2, .ref (ad (gA g)))]) hx hb dX0_bankDebts_33 hl (k := 2) rfl (nI_1 _) (by decide) rfl (fun ls hl => ?_)
      have hls := hl.1
      refine lv_goto (tgt := 13) hx hb dX0_bankDebts_36 (by decide) ?_
      exact ih ((n4 + 1)) (x_32)  _ _ _ (show (n4 + 1) ≤ 8 by omega) (show (n4 + 1) + n = 9 by omega) hW (lv_sub hl [0, 3, 4, 1] rfl) hls zk
set_option maxHeartbeats 4000000 in
set_option maxRecDepth 100000 in
theorem c_X0_bankDebts {D : va_G} {ad : Nat → Nat} (l : Launch) (sz : Nat) (S : vS) (g : Nat) (hg : g < 8) : Met l yX0_bankDebts wsX0_bankDebts (rmD 0) (pW D 157 (cC D ad) ad sz S [.ref (ad (gG g))]) (va_Qi (fun (r : Int32) (S1 : vS) => r = (x_X0_bankDebts S g) ∧ S1 = S) (bW D 157 (cC D ad) ad (aW 157 ad sz)) (aW 157 ad sz)) 0 0 (aW 157 ad sz) := by
  refine x_met (own := RX0) (cc := cX0_bankDebts) (maxL := 6) (ret := (some .int)) (Qc := fun A => va_Qi (fun (r : Int32) (S1 : vS) => r = (x_X0_bankDebts S g) ∧ S1 = S) (bW D 157 (cC D ad) ad A) A) rfl ⟨by decide +kernel, rfl, Nat.le_of_ble_eq_true rfl⟩ ?_
  intro p e s mm args below meth c A ls B hW hl hls
  have hx := B.1.1
  have hb := B.1.2.1
  have hin_X0 : ∀ w ∈ wsX00, w ∈ wsX0_bankDebts := fun w h => List.mem_cons_of_mem _ (List.mem_append_left _ (List.mem_append_right _ h))
  have hin_X2 : ∀ w ∈ wsX20, w ∈ wsX0_bankDebts := fun w h => List.mem_cons_of_mem _ (List.mem_append_right _ h)
  have k_11 := B.1.2.2.2.2 (.fieldLink RX0 11 "JointLoans$Group" "members" "[LJointLoans$Member;") (by decide +kernel)
  have zk := x_X0_bankDebts.eq_1 S g
  have hl : lv_has ls 6 [(0, .ref (ad (gG g)))] := hl
  refine lv_iconst (v := 0) hx hb dX0_bankDebts_0 (by decide) ?_
  refine lv_istore_n (lv' := [(1, .int 0), (0, .ref (ad (gG g)))]) hx hb dX0_bankDebts_1 rfl hl (by decide) rfl (fun ls hl => ?_)
  have hls := hl.1
  refine lv_aload_n hx hb dX0_bankDebts_2 rfl (lv_at hl 1 rfl) ?_
  refine x_get B hW (hqG hg) (cC_G hg) cls0 hin_X0 0 (by decide) (v := .ref (ad (gA g))) rfl k_11 dX0_bankDebts_3 ?_
  refine lv_astore_n (lv' := [(2, .ref (ad (gA g))), (1, .int 0), (0, .ref (ad (gG g)))]) hx hb dX0_bankDebts_6 rfl hl (by decide) rfl (fun ls hl => ?_)
  have hls := hl.1
  refine lv_aload_n hx hb dX0_bankDebts_7 rfl (lv_at hl 0 rfl) ?_
  refine x_alen B hW (hqA hg) (cC_A hg) (k := 2) rfl (v := 8) rfl dX0_bankDebts_8 ?_
  refine lv_istore_n (lv' := [(3, .int 8), (2, .ref (ad (gA g))), (1, .int 0), (0, .ref (ad (gG g)))]) hx hb dX0_bankDebts_9 rfl hl (by decide) rfl (fun ls hl => ?_)
  have hls := hl.1
  refine lv_iconst (v := 0) hx hb dX0_bankDebts_10 (by decide) ?_
  refine lv_istore (lv' := [(4, .int 0), (3, .int 8), (2, .ref (ad (gA g))), (1, .int 0), (0, .ref (ad (gG g)))]) hx hb dX0_bankDebts_11 hl (by decide) rfl (fun ls hl => ?_)
  have hls := hl.1
  exact w_X0_bankDebts_L13 l B S _ g hg (9) (0) (0)  _ _ _ (show 0 ≤ 8 by omega) (show 0 + (9) = 9 by omega) hW (lv_sub hl [0, 1, 2, 3] rfl) hls zk

def x_X0_mostLoanWeeks_L13 : Nat → vS → Nat → Nat → Int32 → Int32
  | 0, S, _, _, _ => 0
  | n + 1, S, g, n4, v1 => if 8 ≤ (nI n4) then v1 else nm ((if v1 < (S (gM g n4) 7) then (S (gM g n4) 7) else v1)) (fun x_34 => x_X0_mostLoanWeeks_L13 n S g ((n4 + 1)) (x_34))
def x_X0_mostLoanWeeks (S : vS) (g : Nat) : Int32 := x_X0_mostLoanWeeks_L13 (9) S g (0) (0)
theorem hd_X0_mostLoanWeeks : yX0_mostLoanWeeks.cls = RX0 ∧ yX0_mostLoanWeeks.cls ≠ "java/lang/invoke/MethodHandle" ∧ yX0_mostLoanWeeks.cls ≠ "java/lang/invoke/VarHandle" ∧ (parseMethodDescriptor yX0_mostLoanWeeks.desc).map (fun d => d.parameters.length) = some 0 := by decide +kernel
set_option maxHeartbeats 4000000 in
set_option maxRecDepth 100000 in
theorem w_X0_mostLoanWeeks_L13 {D : va_G} {ad : Nat → Nat} (l : Launch) {p : Program} {e : Env} {s : State} {mm : MethodId} {args : Array Value} {below : List Frame} {meth : Method} {c : Code} {A : Nat → Prop} (B : Cx p mm c cX0_mostLoanWeeks 6 s args wsX0_mostLoanWeeks RX0 meth (some .int) D) (S : vS) (z : Int32) (g : Nat) (hg : g < 8) : ∀ (n : Nat) (n4 : Nat) (v1 : Int32) (H : Heap) (locs : List Loc) (ls : Array Slot), n4 ≤ 8 → n4 + n = 9 → Wd D 157 (cC D ad) ad A s.heap S H locs → lv_has ls 6 [(4, .int (nI n4)), (3, .int 8), (2, .ref (ad (gA g))), (1, .int v1)] → ls.size = 6 → z = x_X0_mostLoanWeeks_L13 n S g n4 v1 → W p l e (rmD 1) s mm args below meth c H locs 0 0 (MQ below (va_Qi (fun (r : Int32) (S1 : vS) => r = z ∧ S1 = S) (bW D 157 (cC D ad) ad A) A) args s 0 0 A) (F0 mm 13 ls []) := by
  have hx := B.1.1
  have hb := B.1.2.1
  have hin_X0 : ∀ w ∈ wsX00, w ∈ wsX0_mostLoanWeeks := fun w h => List.mem_cons_of_mem _ (List.mem_append_left _ (List.mem_append_right _ h))
  have hin_X2 : ∀ w ∈ wsX20, w ∈ wsX0_mostLoanWeeks := fun w h => List.mem_cons_of_mem _ (List.mem_append_right _ h)
  have k_11 := B.1.2.2.2.2 (.fieldLink RX0 11 "JointLoans$Group" "members" "[LJointLoans$Member;") (by decide +kernel)
  have kc_max := B.1.2.2.2.2 (.code Lib.Math.max.name Lib.Math.max.code 2 (some .int)) (by decide +kernel)
  have ki_math := B.1.2.2.2.2 (.initialized "java/lang/Math") (by decide +kernel)
  have kl_182 := B.1.2.2.2.2 (.methodLink RX0 182 Lib.Math.max.name) (by decide +kernel)
  have ks_max := B.1.2.2.2.2 (.static Lib.Math.max.name) (by decide +kernel)
  intro n
  induction n with
  | zero =>
    intro n4 v1 H locs ls hle hsum
    omega
  | succ n ih =>
    intro n4 v1 H locs ls hle hsum hW hl hls zk
    have zk := zk.trans (x_X0_mostLoanWeeks_L13.eq_2 _ _ _ _ _ )
    refine lv_iload hx hb dX0_mostLoanWeeks_13 (lv_at hl 0 rfl) ?_
    refine lv_iload_n hx hb dX0_mostLoanWeeks_15 rfl (lv_at hl 1 rfl) ?_
    refine lv_icmp_ge (tgt := 41) hx hb dX0_mostLoanWeeks_16 (by decide) (fun c_16 => ?_) (fun c_16 => ?_)
    · have zk := zk.trans (if_pos c_16)
      refine lv_iload_n hx hb dX0_mostLoanWeeks_41 rfl (lv_at hl 3 rfl) ?_
      exact x_iret B hW ⟨zk.symm, rfl⟩ dX0_mostLoanWeeks_42
    · have zk := zk.trans (if_neg c_16)
      have hb_c_16 : n4 < 8 := nI_of_nle (by decide) c_16 (by omega)
      refine lv_aload_n hx hb dX0_mostLoanWeeks_19 rfl (lv_at hl 2 rfl) ?_
      refine lv_iload hx hb dX0_mostLoanWeeks_20 (lv_at hl 0 rfl) ?_
      refine x_aald B hW (hqA hg) (cC_A hg) (k := 2) rfl (isN_nI hb_c_16 (by decide)) (by decide) (by decide) (v := .ref (ad (gM g n4))) rfl dX0_mostLoanWeeks_22 ?_
      refine lv_astore (lv' := [(5, .ref (ad (gM g n4))), (4, .int (nI n4)), (3, .int 8), (2, .ref (ad (gA g))), (1, .int v1)]) hx hb dX0_mostLoanWeeks_23 hl (by decide) rfl (fun ls hl => ?_)
      have hls := hl.1
      refine lv_iload_n hx hb dX0_mostLoanWeeks_25 rfl (lv_at hl 4 rfl) ?_
      refine lv_aload hx hb dX0_mostLoanWeeks_26 (lv_at hl 0 rfl) ?_
      refine x_getN B hW (hqM hg hb_c_16) (cC_M hg hb_c_16) cls2 hin_X2 7 (by decide) (v := .int (S (gM g n4) 7)) rfl nl_X0_185 dX0_mostLoanWeeks_28 ?_
      refine va_mmax hx hb (B.1.2.2.1.trans hls.symm) B.1.2.2.2.1 kl_182 ks_max ki_math kc_max (Nat.le_of_ble_eq_true rfl) (Nat.le_of_ble_eq_true rfl) (Nat.zero_le _) (Nat.zero_le _) dX0_mostLoanWeeks_31 ?_
      refine lv_topi (fun x_34 ex_34 => ?_)
      have zk := nm_at zk ex_34
      refine lv_istore_n (lv' := [(1, .int x_34), (5, .ref (ad (gM g n4))), (4, .int (nI n4)), (3, .int 8), (2, .ref (ad (gA g)))]) hx hb dX0_mostLoanWeeks_34 rfl hl (by decide) rfl (fun ls hl => ?_)
      have hls := hl.1
      refine lv_iinc (v := (nI (n4 + 1))) (lv' := [(4, .int (nI (n4 + 1))), (1, .int x_34), (5, .ref (ad (gM g n4))), (3, .int 8), (2, .ref (ad (gA g)))]) hx hb dX0_mostLoanWeeks_35 hl (k := 2) rfl (nI_1 _) (by decide) rfl (fun ls hl => ?_)
      have hls := hl.1
      refine lv_goto (tgt := 13) hx hb dX0_mostLoanWeeks_38 (by decide) ?_
      exact ih ((n4 + 1)) (x_34)  _ _ _ (show (n4 + 1) ≤ 8 by omega) (show (n4 + 1) + n = 9 by omega) hW (lv_sub hl [0, 3, 4, 1] rfl) hls zk
set_option maxHeartbeats 4000000 in
set_option maxRecDepth 100000 in
theorem c_X0_mostLoanWeeks {D : va_G} {ad : Nat → Nat} (l : Launch) (sz : Nat) (S : vS) (g : Nat) (hg : g < 8) : Met l yX0_mostLoanWeeks wsX0_mostLoanWeeks (rmD 1) (pW D 157 (cC D ad) ad sz S [.ref (ad (gG g))]) (va_Qi (fun (r : Int32) (S1 : vS) => r = (x_X0_mostLoanWeeks S g) ∧ S1 = S) (bW D 157 (cC D ad) ad (aW 157 ad sz)) (aW 157 ad sz)) 0 0 (aW 157 ad sz) := by
  refine x_met (own := RX0) (cc := cX0_mostLoanWeeks) (maxL := 6) (ret := (some .int)) (Qc := fun A => va_Qi (fun (r : Int32) (S1 : vS) => r = (x_X0_mostLoanWeeks S g) ∧ S1 = S) (bW D 157 (cC D ad) ad A) A) rfl ⟨by decide +kernel, rfl, Nat.le_of_ble_eq_true rfl⟩ ?_
  intro p e s mm args below meth c A ls B hW hl hls
  have hx := B.1.1
  have hb := B.1.2.1
  have hin_X0 : ∀ w ∈ wsX00, w ∈ wsX0_mostLoanWeeks := fun w h => List.mem_cons_of_mem _ (List.mem_append_left _ (List.mem_append_right _ h))
  have hin_X2 : ∀ w ∈ wsX20, w ∈ wsX0_mostLoanWeeks := fun w h => List.mem_cons_of_mem _ (List.mem_append_right _ h)
  have k_11 := B.1.2.2.2.2 (.fieldLink RX0 11 "JointLoans$Group" "members" "[LJointLoans$Member;") (by decide +kernel)
  have kc_max := B.1.2.2.2.2 (.code Lib.Math.max.name Lib.Math.max.code 2 (some .int)) (by decide +kernel)
  have ki_math := B.1.2.2.2.2 (.initialized "java/lang/Math") (by decide +kernel)
  have kl_182 := B.1.2.2.2.2 (.methodLink RX0 182 Lib.Math.max.name) (by decide +kernel)
  have ks_max := B.1.2.2.2.2 (.static Lib.Math.max.name) (by decide +kernel)
  have zk := x_X0_mostLoanWeeks.eq_1 S g
  have hl : lv_has ls 6 [(0, .ref (ad (gG g)))] := hl
  refine lv_iconst (v := 0) hx hb dX0_mostLoanWeeks_0 (by decide) ?_
  refine lv_istore_n (lv' := [(1, .int 0), (0, .ref (ad (gG g)))]) hx hb dX0_mostLoanWeeks_1 rfl hl (by decide) rfl (fun ls hl => ?_)
  have hls := hl.1
  refine lv_aload_n hx hb dX0_mostLoanWeeks_2 rfl (lv_at hl 1 rfl) ?_
  refine x_get B hW (hqG hg) (cC_G hg) cls0 hin_X0 0 (by decide) (v := .ref (ad (gA g))) rfl k_11 dX0_mostLoanWeeks_3 ?_
  refine lv_astore_n (lv' := [(2, .ref (ad (gA g))), (1, .int 0), (0, .ref (ad (gG g)))]) hx hb dX0_mostLoanWeeks_6 rfl hl (by decide) rfl (fun ls hl => ?_)
  have hls := hl.1
  refine lv_aload_n hx hb dX0_mostLoanWeeks_7 rfl (lv_at hl 0 rfl) ?_
  refine x_alen B hW (hqA hg) (cC_A hg) (k := 2) rfl (v := 8) rfl dX0_mostLoanWeeks_8 ?_
  refine lv_istore_n (lv' := [(3, .int 8), (2, .ref (ad (gA g))), (1, .int 0), (0, .ref (ad (gG g)))]) hx hb dX0_mostLoanWeeks_9 rfl hl (by decide) rfl (fun ls hl => ?_)
  have hls := hl.1
  refine lv_iconst (v := 0) hx hb dX0_mostLoanWeeks_10 (by decide) ?_
  refine lv_istore (lv' := [(4, .int 0), (3, .int 8), (2, .ref (ad (gA g))), (1, .int 0), (0, .ref (ad (gG g)))]) hx hb dX0_mostLoanWeeks_11 hl (by decide) rfl (fun ls hl => ?_)
  have hls := hl.1
  exact w_X0_mostLoanWeeks_L13 l B S _ g hg (9) (0) (0)  _ _ _ (show 0 ≤ 8 by omega) (show 0 + (9) = 9 by omega) hW (lv_sub hl [0, 1, 2, 3] rfl) hls zk

def x_X0_mayBeginCycle (S : vS) (g : Nat) : Int32 := nm (x_X0_mostLoanWeeks S g) (fun r_1 => if r_1 = 0 then nm (x_X0_bankDebts S g) (fun r_8 => if r_8 = 0 then 1 else 0) else 0)
theorem hd_X0_mayBeginCycle : yX0_mayBeginCycle.cls = RX0 ∧ yX0_mayBeginCycle.cls ≠ "java/lang/invoke/MethodHandle" ∧ yX0_mayBeginCycle.cls ≠ "java/lang/invoke/VarHandle" ∧ (parseMethodDescriptor yX0_mayBeginCycle.desc).map (fun d => d.parameters.length) = some 0 := by decide +kernel
set_option maxHeartbeats 4000000 in
set_option maxRecDepth 100000 in
theorem c_X0_mayBeginCycle {D : va_G} {ad : Nat → Nat} (l : Launch) (sz : Nat) (S : vS) (g : Nat) (hg : g < 8) : Met l yX0_mayBeginCycle wsX0_mayBeginCycle (rmD 2) (pW D 157 (cC D ad) ad sz S [.ref (ad (gG g))]) (va_Qi (fun (r : Int32) (S1 : vS) => r = (x_X0_mayBeginCycle S g) ∧ S1 = S ∧ (r = 0 ∨ r = 1)) (bW D 157 (cC D ad) ad (aW 157 ad sz)) (aW 157 ad sz)) 0 0 (aW 157 ad sz) := by
  refine x_met (own := RX0) (cc := cX0_mayBeginCycle) (maxL := 1) (ret := (some .boolean)) (Qc := fun A => va_Qi (fun (r : Int32) (S1 : vS) => r = (x_X0_mayBeginCycle S g) ∧ S1 = S ∧ (r = 0 ∨ r = 1)) (bW D 157 (cC D ad) ad A) A) rfl ⟨by decide +kernel, rfl, Nat.le_of_ble_eq_true rfl⟩ ?_
  intro p e s mm args below meth c A ls B hW hl hls
  have hx := B.1.1
  have hb := B.1.2.1
  have zk := x_X0_mayBeginCycle.eq_1 S g
  have hl : lv_has ls 1 [(0, .ref (ad (gG g)))] := hl
  refine lv_aload_n hx hb dX0_mayBeginCycle_0 rfl (lv_at hl 0 rfl) ?_
  refine x_calli hW (x_runV B hW (As := []) (rest := []) (hqG hg) (cC_G hg) cls0 (c_X0_mostLoanWeeks (D := D) (ad := ad) l _ S g hg) (cwV 0 B.1.2.2.2.2 gX0_mayBeginCycle_X0_mostLoanWeeks rfl rfl rfl hd_X0_mostLoanWeeks ⟨Nat.le_of_ble_eq_true rfl, Nat.le_of_ble_eq_true rfl⟩) rfl hls (Nat.le_of_ble_eq_true rfl) dX0_mayBeginCycle_1 ⟨Nat.zero_le _, Nat.zero_le _⟩) (fun r_1 S_1 H locs he hW => ?_)
  obtain ⟨hr_1, hs⟩ := he
  rw [hs] at hW
  have zk := nm_at zk hr_1
  refine lv_if_ne (tgt := 18) hx hb dX0_mayBeginCycle_4 (by decide) (fun c_4 => ?_) (fun c_4 => ?_)
  · have zk := zk.trans (if_neg c_4)
    refine lv_iconst (v := 0) hx hb dX0_mayBeginCycle_18 (by decide) ?_
    exact x_zret B hW (Or.inl rfl) ⟨zk.symm, rfl, (Or.inl rfl)⟩ dX0_mayBeginCycle_19
  · have zk := zk.trans (if_pos c_4)
    refine lv_aload_n hx hb dX0_mayBeginCycle_7 rfl (lv_at hl 0 rfl) ?_
    refine x_calli hW (x_runV B hW (As := []) (rest := []) (hqG hg) (cC_G hg) cls0 (c_X0_bankDebts (D := D) (ad := ad) l _ S g hg) (cwV 0 B.1.2.2.2.2 gX0_mayBeginCycle_X0_bankDebts rfl rfl rfl hd_X0_bankDebts ⟨Nat.le_of_ble_eq_true rfl, Nat.le_of_ble_eq_true rfl⟩) rfl hls (Nat.le_of_ble_eq_true rfl) dX0_mayBeginCycle_8 ⟨Nat.zero_le _, Nat.zero_le _⟩) (fun r_8 S_8 H locs he hW => ?_)
    obtain ⟨hr_8, hs⟩ := he
    rw [hs] at hW
    have zk := nm_at zk hr_8
    refine lv_if_ne (tgt := 18) hx hb dX0_mayBeginCycle_11 (by decide) (fun c_11 => ?_) (fun c_11 => ?_)
    · have zk := zk.trans (if_neg c_11)
      refine lv_iconst (v := 0) hx hb dX0_mayBeginCycle_18 (by decide) ?_
      exact x_zret B hW (Or.inl rfl) ⟨zk.symm, rfl, (Or.inl rfl)⟩ dX0_mayBeginCycle_19
    · have zk := zk.trans (if_pos c_11)
      refine lv_iconst (v := 1) hx hb dX0_mayBeginCycle_14 (by decide) ?_
      refine lv_goto (tgt := 19) hx hb dX0_mayBeginCycle_15 (by decide) ?_
      exact x_zret B hW (Or.inr rfl) ⟨zk.symm, rfl, (Or.inr rfl)⟩ dX0_mayBeginCycle_19

def x_X0_beginCycle_L10 : Nat → vS → Nat → Nat → vS
  | 0, S, _, _ => S
  | n + 1, S, g, n3 => if 8 ≤ (nI n3) then nm (st S (gG g) 4 ((S (gG g) 4) + 1)) (fun S_49 => S_49) else nm (x_X2_nextLimit S g n3) (fun r_24 => nm (st S (gM g n3) 2 r_24) (fun S_27 => nm (st S_27 (gM g n3) 9 0) (fun S_33 => x_X0_beginCycle_L10 n S_33 g ((n3 + 1)))))
def x_X0_beginCycle (S : vS) (g : Nat) : vS := x_X0_beginCycle_L10 (9) S g (0)
theorem hd_X0_beginCycle : yX0_beginCycle.cls = RX0 ∧ yX0_beginCycle.cls ≠ "java/lang/invoke/MethodHandle" ∧ yX0_beginCycle.cls ≠ "java/lang/invoke/VarHandle" ∧ (parseMethodDescriptor yX0_beginCycle.desc).map (fun d => d.parameters.length) = some 0 := by decide +kernel
set_option maxHeartbeats 4000000 in
set_option maxRecDepth 100000 in
theorem w_X0_beginCycle_L10 {D : va_G} {ad : Nat → Nat} (l : Launch) {p : Program} {e : Env} {s : State} {mm : MethodId} {args : Array Value} {below : List Frame} {meth : Method} {c : Code} {A : Nat → Prop} (B : Cx p mm c cX0_beginCycle 5 s args wsX0_beginCycle RX0 meth none D) (z : vS) (g : Nat) (hg : g < 8) : ∀ (n : Nat) (n3 : Nat) (S : vS) (H : Heap) (locs : List Loc) (ls : Array Slot), n3 ≤ 8 → n3 + n = 9 → Wd D 157 (cC D ad) ad A s.heap S H locs → lv_has ls 5 [(3, .int (nI n3)), (2, .int 8), (1, .ref (ad (gA g))), (0, .ref (ad (gG g)))] → ls.size = 5 → z = x_X0_beginCycle_L10 n S g n3 → W p l e (rmD 2) s mm args below meth c H locs 0 0 (MQ below (va_Qv (fun (S1 : vS) => S1 = z) (bW D 157 (cC D ad) ad A) A) args s 0 0 A) (F0 mm 10 ls []) := by
  have hx := B.1.1
  have hb := B.1.2.1
  have hin_X0 : ∀ w ∈ wsX00, w ∈ wsX0_beginCycle := fun w h => List.mem_cons_of_mem _ (List.mem_append_left _ (List.mem_append_right _ h))
  have hin_X2 : ∀ w ∈ wsX20, w ∈ wsX0_beginCycle := fun w h => List.mem_cons_of_mem _ (List.mem_append_right _ h)
  have k_11 := B.1.2.2.2.2 (.fieldLink RX0 11 "JointLoans$Group" "members" "[LJointLoans$Member;") (by decide +kernel)
  have k_44 := B.1.2.2.2.2 (.fieldLink RX0 44 "JointLoans$Group" "cycleNumber" "I") (by decide +kernel)
  have ki_X2 := B.1.2.2.2.2 (.initialized RX2) (by decide +kernel)
  have kn_X2_nextLimit := B.1.2.2.2.2 (.instanceMethod yX2_nextLimit) (by decide +kernel)
  have kv_X2_nextLimit := B.1.2.2.2.2 (.selects RX2 yX2_nextLimit yX2_nextLimit) (by decide +kernel)
  intro n
  induction n with
  | zero =>
    intro n3 S H locs ls hle hsum
    omega
  | succ n ih =>
    intro n3 S H locs ls hle hsum hW hl hls zk
    have zk := zk.trans (x_X0_beginCycle_L10.eq_2 _ _ _ _ )
    refine lv_iload_n hx hb dX0_beginCycle_10 rfl (lv_at hl 0 rfl) ?_
    refine lv_iload_n hx hb dX0_beginCycle_11 rfl (lv_at hl 1 rfl) ?_
    refine lv_icmp_ge (tgt := 42) hx hb dX0_beginCycle_12 (by decide) (fun c_12 => ?_) (fun c_12 => ?_)
    · have zk := zk.trans (if_pos c_12)
      refine lv_aload_n hx hb dX0_beginCycle_42 rfl (lv_at hl 3 rfl) ?_
      refine lv_dup hx hb dX0_beginCycle_43 rfl ?_
      refine x_get B hW (hqG hg) (cC_G hg) cls0 hin_X0 4 (by decide) (v := .int (S (gG g) 4)) rfl k_44 dX0_beginCycle_44 ?_
      refine lv_iconst (v := 1) hx hb dX0_beginCycle_47 (by decide) ?_
      refine lv_iadd hx hb dX0_beginCycle_48 ?_
      refine x_put B hW (hqG hg) cls0 hin_X0 4 (by decide) (cC_G hg) rfl (ty := .int) (by decide +kernel) rfl rfl (Nat.le_of_ble_eq_true rfl) (j := 4) (pG_4 hg) k_44 dX0_beginCycle_49 (fun H locs S_49 he_49 hW => ?_)
      have zk := nm_at zk he_49
      exact x_vret B hW zk.symm dX0_beginCycle_52
    · have zk := zk.trans (if_neg c_12)
      have hb_c_12 : n3 < 8 := nI_of_nle (by decide) c_12 (by omega)
      refine lv_aload_n hx hb dX0_beginCycle_15 rfl (lv_at hl 2 rfl) ?_
      refine lv_iload_n hx hb dX0_beginCycle_16 rfl (lv_at hl 0 rfl) ?_
      refine x_aald B hW (hqA hg) (cC_A hg) (k := 2) rfl (isN_nI hb_c_12 (by decide)) (by decide) (by decide) (v := .ref (ad (gM g n3))) rfl dX0_beginCycle_17 ?_
      refine lv_astore (lv' := [(4, .ref (ad (gM g n3))), (3, .int (nI n3)), (2, .int 8), (1, .ref (ad (gA g))), (0, .ref (ad (gG g)))]) hx hb dX0_beginCycle_18 hl (by decide) rfl (fun ls hl => ?_)
      have hls := hl.1
      refine lv_aload hx hb dX0_beginCycle_20 (lv_at hl 0 rfl) ?_
      refine lv_aload hx hb dX0_beginCycle_22 (lv_at hl 0 rfl) ?_
      refine x_calli hW (x_runVN B hW (As := []) (rest := .ref (ad (gM g n3)) :: []) (host := RX4) (hqM hg hb_c_12) (cC_M hg hb_c_12) cls2 (c_X2_nextLimit (D := D) (ad := ad) l _ S g n3 hg hb_c_12) ⟨va_cnB 0 B.1.2.2.2.2 gX0_beginCycle_X2_nextLimit_n128 rfl rfl rfl (B.2.1.2 _ nl_X0_128) ki_X2 hd_X2_nextLimit.2 ⟨Nat.le_of_ble_eq_true rfl, Nat.le_of_ble_eq_true rfl⟩, kn_X2_nextLimit, kv_X2_nextLimit⟩ rfl hls (Nat.le_of_ble_eq_true rfl) dX0_beginCycle_24 ⟨Nat.zero_le _, Nat.zero_le _⟩) (fun r_24 S_24 H locs he hW => ?_)
      obtain ⟨hr_24, hs⟩ := he
      rw [hs] at hW
      have zk := nm_at zk hr_24
      refine x_putN B hW (hqM hg hb_c_12) cls2 hin_X2 2 (by decide) (cC_M hg hb_c_12) rfl (ty := .int) (by decide +kernel) rfl rfl (Nat.le_of_ble_eq_true rfl) (j := 2) (pM_2 hg hb_c_12) nl_X0_73 dX0_beginCycle_27 (fun H locs S_27 he_27 hW => ?_)
      have zk := nm_at zk he_27
      refine lv_aload hx hb dX0_beginCycle_30 (lv_at hl 0 rfl) ?_
      refine lv_iconst (v := 0) hx hb dX0_beginCycle_32 (by decide) ?_
      refine x_putN B hW (hqM hg hb_c_12) cls2 hin_X2 9 (by decide) (cC_M hg hb_c_12) rfl (ty := .int) (by decide +kernel) rfl rfl (Nat.le_of_ble_eq_true rfl) (j := 9) (pM_9 hg hb_c_12) nl_X0_131 dX0_beginCycle_33 (fun H locs S_33 he_33 hW => ?_)
      have zk := nm_at zk he_33
      refine lv_iinc (v := (nI (n3 + 1))) (lv' := [(3, .int (nI (n3 + 1))), (4, .ref (ad (gM g n3))), (2, .int 8), (1, .ref (ad (gA g))), (0, .ref (ad (gG g)))]) hx hb dX0_beginCycle_36 hl (k := 1) rfl (nI_1 _) (by decide) rfl (fun ls hl => ?_)
      have hls := hl.1
      refine lv_goto (tgt := 10) hx hb dX0_beginCycle_39 (by decide) ?_
      exact ih ((n3 + 1)) S_33 _ _ _ (show (n3 + 1) ≤ 8 by omega) (show (n3 + 1) + n = 9 by omega) hW (lv_sub hl [0, 2, 3, 4] rfl) hls zk
set_option maxHeartbeats 4000000 in
set_option maxRecDepth 100000 in
theorem c_X0_beginCycle {D : va_G} {ad : Nat → Nat} (l : Launch) (sz : Nat) (S : vS) (g : Nat) (hg : g < 8) : Met l yX0_beginCycle wsX0_beginCycle (rmD 2) (pW D 157 (cC D ad) ad sz S [.ref (ad (gG g))]) (va_Qv (fun (S1 : vS) => S1 = (x_X0_beginCycle S g)) (bW D 157 (cC D ad) ad (aW 157 ad sz)) (aW 157 ad sz)) 0 0 (aW 157 ad sz) := by
  refine x_met (own := RX0) (cc := cX0_beginCycle) (maxL := 5) (ret := none) (Qc := fun A => va_Qv (fun (S1 : vS) => S1 = (x_X0_beginCycle S g)) (bW D 157 (cC D ad) ad A) A) rfl ⟨by decide +kernel, rfl, Nat.le_of_ble_eq_true rfl⟩ ?_
  intro p e s mm args below meth c A ls B hW hl hls
  have hx := B.1.1
  have hb := B.1.2.1
  have hin_X0 : ∀ w ∈ wsX00, w ∈ wsX0_beginCycle := fun w h => List.mem_cons_of_mem _ (List.mem_append_left _ (List.mem_append_right _ h))
  have hin_X2 : ∀ w ∈ wsX20, w ∈ wsX0_beginCycle := fun w h => List.mem_cons_of_mem _ (List.mem_append_right _ h)
  have k_11 := B.1.2.2.2.2 (.fieldLink RX0 11 "JointLoans$Group" "members" "[LJointLoans$Member;") (by decide +kernel)
  have k_44 := B.1.2.2.2.2 (.fieldLink RX0 44 "JointLoans$Group" "cycleNumber" "I") (by decide +kernel)
  have ki_X2 := B.1.2.2.2.2 (.initialized RX2) (by decide +kernel)
  have kn_X2_nextLimit := B.1.2.2.2.2 (.instanceMethod yX2_nextLimit) (by decide +kernel)
  have kv_X2_nextLimit := B.1.2.2.2.2 (.selects RX2 yX2_nextLimit yX2_nextLimit) (by decide +kernel)
  have zk := x_X0_beginCycle.eq_1 S g
  have hl : lv_has ls 5 [(0, .ref (ad (gG g)))] := hl
  refine lv_aload_n hx hb dX0_beginCycle_0 rfl (lv_at hl 0 rfl) ?_
  refine x_get B hW (hqG hg) (cC_G hg) cls0 hin_X0 0 (by decide) (v := .ref (ad (gA g))) rfl k_11 dX0_beginCycle_1 ?_
  refine lv_astore_n (lv' := [(1, .ref (ad (gA g))), (0, .ref (ad (gG g)))]) hx hb dX0_beginCycle_4 rfl hl (by decide) rfl (fun ls hl => ?_)
  have hls := hl.1
  refine lv_aload_n hx hb dX0_beginCycle_5 rfl (lv_at hl 0 rfl) ?_
  refine x_alen B hW (hqA hg) (cC_A hg) (k := 2) rfl (v := 8) rfl dX0_beginCycle_6 ?_
  refine lv_istore_n (lv' := [(2, .int 8), (1, .ref (ad (gA g))), (0, .ref (ad (gG g)))]) hx hb dX0_beginCycle_7 rfl hl (by decide) rfl (fun ls hl => ?_)
  have hls := hl.1
  refine lv_iconst (v := 0) hx hb dX0_beginCycle_8 (by decide) ?_
  refine lv_istore_n (lv' := [(3, .int 0), (2, .int 8), (1, .ref (ad (gA g))), (0, .ref (ad (gG g)))]) hx hb dX0_beginCycle_9 rfl hl (by decide) rfl (fun ls hl => ?_)
  have hls := hl.1
  exact w_X0_beginCycle_L10 l B  _ g hg (9) (0) S _ _ _ (show 0 ≤ 8 by omega) (show 0 + (9) = 9 by omega) hW (lv_sub hl [0, 1, 2, 3] rfl) hls zk

def x_X0_mayEndWeek (S : vS) (g : Nat) : Int32 := if 999 ≤ (S (gG g) 3) then 0 else 1
theorem hd_X0_mayEndWeek : yX0_mayEndWeek.cls = RX0 ∧ yX0_mayEndWeek.cls ≠ "java/lang/invoke/MethodHandle" ∧ yX0_mayEndWeek.cls ≠ "java/lang/invoke/VarHandle" ∧ (parseMethodDescriptor yX0_mayEndWeek.desc).map (fun d => d.parameters.length) = some 0 := by decide +kernel
set_option maxHeartbeats 4000000 in
set_option maxRecDepth 100000 in
theorem c_X0_mayEndWeek {D : va_G} {ad : Nat → Nat} (l : Launch) (sz : Nat) (S : vS) (g : Nat) (hg : g < 8) : Met l yX0_mayEndWeek wsX0_mayEndWeek (rmD 0) (pW D 157 (cC D ad) ad sz S [.ref (ad (gG g))]) (va_Qi (fun (r : Int32) (S1 : vS) => r = (x_X0_mayEndWeek S g) ∧ S1 = S ∧ (r = 0 ∨ r = 1)) (bW D 157 (cC D ad) ad (aW 157 ad sz)) (aW 157 ad sz)) 0 0 (aW 157 ad sz) := by
  refine x_met (own := RX0) (cc := cX0_mayEndWeek) (maxL := 1) (ret := (some .boolean)) (Qc := fun A => va_Qi (fun (r : Int32) (S1 : vS) => r = (x_X0_mayEndWeek S g) ∧ S1 = S ∧ (r = 0 ∨ r = 1)) (bW D 157 (cC D ad) ad A) A) rfl ⟨by decide +kernel, rfl, Nat.le_of_ble_eq_true rfl⟩ ?_
  intro p e s mm args below meth c A ls B hW hl hls
  have hx := B.1.1
  have hb := B.1.2.1
  have hin_X0 : ∀ w ∈ wsX00, w ∈ wsX0_mayEndWeek := fun w h => List.mem_cons_of_mem _ (List.mem_append_right _ h)
  have k_41 := B.1.2.2.2.2 (.fieldLink RX0 41 "JointLoans$Group" "weekNumber" "I") (by decide +kernel)
  have zk := x_X0_mayEndWeek.eq_1 S g
  have hl : lv_has ls 1 [(0, .ref (ad (gG g)))] := hl
  refine lv_aload_n hx hb dX0_mayEndWeek_0 rfl (lv_at hl 0 rfl) ?_
  refine x_get B hW (hqG hg) (cC_G hg) cls0 hin_X0 3 (by decide) (v := .int (S (gG g) 3)) rfl k_41 dX0_mayEndWeek_1 ?_
  refine lv_sipush (v := 999) hx hb dX0_mayEndWeek_4 (by decide) ?_
  refine lv_icmp_ge (tgt := 14) hx hb dX0_mayEndWeek_7 (by decide) (fun c_7 => ?_) (fun c_7 => ?_)
  · have zk := zk.trans (if_pos c_7)
    refine lv_iconst (v := 0) hx hb dX0_mayEndWeek_14 (by decide) ?_
    exact x_zret B hW (Or.inl rfl) ⟨zk.symm, rfl, (Or.inl rfl)⟩ dX0_mayEndWeek_15
  · have zk := zk.trans (if_neg c_7)
    refine lv_iconst (v := 1) hx hb dX0_mayEndWeek_10 (by decide) ?_
    refine lv_goto (tgt := 15) hx hb dX0_mayEndWeek_11 (by decide) ?_
    exact x_zret B hW (Or.inr rfl) ⟨zk.symm, rfl, (Or.inr rfl)⟩ dX0_mayEndWeek_15

def x_X0_letBeAway_L2 : Nat → vS → Nat → Int32 → Nat → vS
  | 0, S, _, _, _ => S
  | n + 1, S, g, p1, n2 => if 8 ≤ (nI n2) then S else if ((p1 >>> ((nI n2) &&& 31)) &&& 1) = 1 then nm (st S (gM g n2) 8 1) (fun S_28 => x_X0_letBeAway_L2 n S_28 g p1 ((n2 + 1))) else nm (st S (gM g n2) 8 0) (fun S_28 => x_X0_letBeAway_L2 n S_28 g p1 ((n2 + 1)))
def x_X0_letBeAway (S : vS) (g : Nat) (p1 : Int32) : vS := x_X0_letBeAway_L2 (9) S g p1 (0)
theorem hd_X0_letBeAway : yX0_letBeAway.cls = RX0 ∧ yX0_letBeAway.cls ≠ "java/lang/invoke/MethodHandle" ∧ yX0_letBeAway.cls ≠ "java/lang/invoke/VarHandle" ∧ (parseMethodDescriptor yX0_letBeAway.desc).map (fun d => d.parameters.length) = some 1 := by decide +kernel
set_option maxHeartbeats 4000000 in
set_option maxRecDepth 100000 in
theorem w_X0_letBeAway_L2 {D : va_G} {ad : Nat → Nat} (l : Launch) {p : Program} {e : Env} {s : State} {mm : MethodId} {args : Array Value} {below : List Frame} {meth : Method} {c : Code} {A : Nat → Prop} (B : Cx p mm c cX0_letBeAway 3 s args wsX0_letBeAway RX0 meth none D) (z : vS) (g : Nat) (p1 : Int32) (hg : g < 8) : ∀ (n : Nat) (n2 : Nat) (S : vS) (H : Heap) (locs : List Loc) (ls : Array Slot), n2 ≤ 8 → n2 + n = 9 → Wd D 157 (cC D ad) ad A s.heap S H locs → lv_has ls 3 [(2, .int (nI n2)), (0, .ref (ad (gG g))), (1, .int p1)] → ls.size = 3 → z = x_X0_letBeAway_L2 n S g p1 n2 → W p l e (rmD 0) s mm args below meth c H locs 0 0 (MQ below (va_Qv (fun (S1 : vS) => S1 = z) (bW D 157 (cC D ad) ad A) A) args s 0 0 A) (F0 mm 2 ls []) := by
  have hx := B.1.1
  have hb := B.1.2.1
  have hin_X0 : ∀ w ∈ wsX00, w ∈ wsX0_letBeAway := fun w h => List.mem_cons_of_mem _ (List.mem_append_left _ (List.mem_append_right _ h))
  have hin_X2 : ∀ w ∈ wsX20, w ∈ wsX0_letBeAway := fun w h => List.mem_cons_of_mem _ (List.mem_append_right _ h)
  have k_11 := B.1.2.2.2.2 (.fieldLink RX0 11 "JointLoans$Group" "members" "[LJointLoans$Member;") (by decide +kernel)
  intro n
  induction n with
  | zero =>
    intro n2 S H locs ls hle hsum
    omega
  | succ n ih =>
    intro n2 S H locs ls hle hsum hW hl hls zk
    have zk := zk.trans (x_X0_letBeAway_L2.eq_2 _ _ _ _ _ )
    refine lv_iload_n hx hb dX0_letBeAway_2 rfl (lv_at hl 0 rfl) ?_
    refine lv_bipush (v := 8) hx hb dX0_letBeAway_3 (by decide) ?_
    refine lv_icmp_ge (tgt := 37) hx hb dX0_letBeAway_5 (by decide) (fun c_5 => ?_) (fun c_5 => ?_)
    · have zk := zk.trans (if_pos c_5)
      exact x_vret B hW zk.symm dX0_letBeAway_37
    · have zk := zk.trans (if_neg c_5)
      have hb_c_5 : n2 < 8 := nI_of_nle (by decide) c_5 (by omega)
      refine lv_aload_n hx hb dX0_letBeAway_8 rfl (lv_at hl 1 rfl) ?_
      refine x_get B hW (hqG hg) (cC_G hg) cls0 hin_X0 0 (by decide) (v := .ref (ad (gA g))) rfl k_11 dX0_letBeAway_9 ?_
      refine lv_iload_n hx hb dX0_letBeAway_12 rfl (lv_at hl 0 rfl) ?_
      refine x_aald B hW (hqA hg) (cC_A hg) (k := 2) rfl (isN_nI hb_c_5 (by decide)) (by decide) (by decide) (v := .ref (ad (gM g n2))) rfl dX0_letBeAway_13 ?_
      refine lv_iload_n hx hb dX0_letBeAway_14 rfl (lv_at hl 2 rfl) ?_
      refine lv_iload_n hx hb dX0_letBeAway_15 rfl (lv_at hl 0 rfl) ?_
      refine lv_ishr hx hb dX0_letBeAway_16 ?_
      refine lv_iconst (v := 1) hx hb dX0_letBeAway_17 (by decide) ?_
      refine lv_iand hx hb dX0_letBeAway_18 ?_
      refine lv_iconst (v := 1) hx hb dX0_letBeAway_19 (by decide) ?_
      refine lv_icmp_ne (tgt := 27) hx hb dX0_letBeAway_20 (by decide) (fun c_20 => ?_) (fun c_20 => ?_)
      · have zk := zk.trans (if_neg c_20)
        refine lv_iconst (v := 0) hx hb dX0_letBeAway_27 (by decide) ?_
        refine x_putN B hW (hqM hg hb_c_5) cls2 hin_X2 8 (by decide) (cC_M hg hb_c_5) rfl (ty := .boolean) (by decide +kernel) (nar_z (Or.inl rfl)) (fit_z (Or.inl rfl)) (Nat.le_of_ble_eq_true rfl) (j := 8) (pM_8 hg hb_c_5 (Or.inl rfl)) nl_X0_66 dX0_letBeAway_28 (fun H locs S_28 he_28 hW => ?_)
        have zk := nm_at zk he_28
        refine lv_iinc (v := (nI (n2 + 1))) (lv' := [(2, .int (nI (n2 + 1))), (0, .ref (ad (gG g))), (1, .int p1)]) hx hb dX0_letBeAway_31 hl (k := 0) rfl (nI_1 _) (by decide) rfl (fun ls hl => ?_)
        have hls := hl.1
        refine lv_goto (tgt := 2) hx hb dX0_letBeAway_34 (by decide) ?_
        exact ih ((n2 + 1)) S_28 _ _ _ (show (n2 + 1) ≤ 8 by omega) (show (n2 + 1) + n = 9 by omega) hW (lv_sub hl [0, 1, 2] rfl) hls zk
      · have zk := zk.trans (if_pos c_20)
        refine lv_iconst (v := 1) hx hb dX0_letBeAway_23 (by decide) ?_
        refine lv_goto (tgt := 28) hx hb dX0_letBeAway_24 (by decide) ?_
        refine x_putN B hW (hqM hg hb_c_5) cls2 hin_X2 8 (by decide) (cC_M hg hb_c_5) rfl (ty := .boolean) (by decide +kernel) (nar_z (Or.inr rfl)) (fit_z (Or.inr rfl)) (Nat.le_of_ble_eq_true rfl) (j := 8) (pM_8 hg hb_c_5 (Or.inr rfl)) nl_X0_66 dX0_letBeAway_28 (fun H locs S_28 he_28 hW => ?_)
        have zk := nm_at zk he_28
        refine lv_iinc (v := (nI (n2 + 1))) (lv' := [(2, .int (nI (n2 + 1))), (0, .ref (ad (gG g))), (1, .int p1)]) hx hb dX0_letBeAway_31 hl (k := 0) rfl (nI_1 _) (by decide) rfl (fun ls hl => ?_)
        have hls := hl.1
        refine lv_goto (tgt := 2) hx hb dX0_letBeAway_34 (by decide) ?_
        exact ih ((n2 + 1)) S_28 _ _ _ (show (n2 + 1) ≤ 8 by omega) (show (n2 + 1) + n = 9 by omega) hW (lv_sub hl [0, 1, 2] rfl) hls zk
set_option maxHeartbeats 4000000 in
set_option maxRecDepth 100000 in
theorem c_X0_letBeAway {D : va_G} {ad : Nat → Nat} (l : Launch) (sz : Nat) (S : vS) (g : Nat) (p1 : Int32) (hg : g < 8) : Met l yX0_letBeAway wsX0_letBeAway (rmD 0) (pW D 157 (cC D ad) ad sz S [.ref (ad (gG g)), .int p1]) (va_Qv (fun (S1 : vS) => S1 = (x_X0_letBeAway S g p1)) (bW D 157 (cC D ad) ad (aW 157 ad sz)) (aW 157 ad sz)) 0 0 (aW 157 ad sz) := by
  refine x_met (own := RX0) (cc := cX0_letBeAway) (maxL := 3) (ret := none) (Qc := fun A => va_Qv (fun (S1 : vS) => S1 = (x_X0_letBeAway S g p1)) (bW D 157 (cC D ad) ad A) A) rfl ⟨by decide +kernel, rfl, Nat.le_of_ble_eq_true rfl⟩ ?_
  intro p e s mm args below meth c A ls B hW hl hls
  have hx := B.1.1
  have hb := B.1.2.1
  have hin_X0 : ∀ w ∈ wsX00, w ∈ wsX0_letBeAway := fun w h => List.mem_cons_of_mem _ (List.mem_append_left _ (List.mem_append_right _ h))
  have hin_X2 : ∀ w ∈ wsX20, w ∈ wsX0_letBeAway := fun w h => List.mem_cons_of_mem _ (List.mem_append_right _ h)
  have k_11 := B.1.2.2.2.2 (.fieldLink RX0 11 "JointLoans$Group" "members" "[LJointLoans$Member;") (by decide +kernel)
  have zk := x_X0_letBeAway.eq_1 S g p1
  have hl : lv_has ls 3 [(0, .ref (ad (gG g))), (1, .int p1)] := hl
  refine lv_iconst (v := 0) hx hb dX0_letBeAway_0 (by decide) ?_
  refine lv_istore_n (lv' := [(2, .int 0), (0, .ref (ad (gG g))), (1, .int p1)]) hx hb dX0_letBeAway_1 rfl hl (by decide) rfl (fun ls hl => ?_)
  have hls := hl.1
  exact w_X0_letBeAway_L2 l B  _ g p1 hg (9) (0) S _ _ _ (show 0 ≤ 8 by omega) (show 0 + (9) = 9 by omega) hW (lv_sub hl [0, 1, 2] rfl) hls zk

def x_X0_saveMoney_L10 : Nat → vS → Nat → Nat → vS
  | 0, S, _, _ => S
  | n + 1, S, g, n3 => if 8 ≤ (nI n3) then S else if (bz (S (gM g n3) 1)) = 0 then x_X0_saveMoney_L10 n S g ((n3 + 1)) else if (bz (S (gM g n3) 8)) = 0 then nm (st S (gM g n3) 13 ((S (gM g n3) 13) + (S (gS g) 1))) (fun S_49 => nm (st S_49 (gG g) 6 ((S_49 (gG g) 6) + (S_49 (gS g) 1))) (fun S_64 => x_X0_saveMoney_L10 n S_64 g ((n3 + 1)))) else x_X0_saveMoney_L10 n S g ((n3 + 1))
def x_X0_saveMoney (S : vS) (g : Nat) : vS := x_X0_saveMoney_L10 (9) S g (0)
theorem hd_X0_saveMoney : yX0_saveMoney.cls = RX0 ∧ yX0_saveMoney.cls ≠ "java/lang/invoke/MethodHandle" ∧ yX0_saveMoney.cls ≠ "java/lang/invoke/VarHandle" ∧ (parseMethodDescriptor yX0_saveMoney.desc).map (fun d => d.parameters.length) = some 0 := by decide +kernel
set_option maxHeartbeats 4000000 in
set_option maxRecDepth 100000 in
theorem w_X0_saveMoney_L10 {D : va_G} {ad : Nat → Nat} (l : Launch) {p : Program} {e : Env} {s : State} {mm : MethodId} {args : Array Value} {below : List Frame} {meth : Method} {c : Code} {A : Nat → Prop} (B : Cx p mm c cX0_saveMoney 5 s args wsX0_saveMoney RX0 meth none D) (z : vS) (g : Nat) (hg : g < 8) : ∀ (n : Nat) (n3 : Nat) (S : vS) (H : Heap) (locs : List Loc) (ls : Array Slot), n3 ≤ 8 → n3 + n = 9 → Wd D 157 (cC D ad) ad A s.heap S H locs → lv_has ls 5 [(3, .int (nI n3)), (2, .int 8), (1, .ref (ad (gA g))), (0, .ref (ad (gG g)))] → ls.size = 5 → z = x_X0_saveMoney_L10 n S g n3 → W p l e (rmD 0) s mm args below meth c H locs 0 0 (MQ below (va_Qv (fun (S1 : vS) => S1 = z) (bW D 157 (cC D ad) ad A) A) args s 0 0 A) (F0 mm 10 ls []) := by
  have hx := B.1.1
  have hb := B.1.2.1
  have hin_X0 : ∀ w ∈ wsX00, w ∈ wsX0_saveMoney := fun w h => List.mem_cons_of_mem _ (List.mem_append_left _ (List.mem_append_right _ h))
  have hin_X2 : ∀ w ∈ wsX20, w ∈ wsX0_saveMoney := fun w h => List.mem_cons_of_mem _ (List.mem_append_right _ h)
  have k_11 := B.1.2.2.2.2 (.fieldLink RX0 11 "JointLoans$Group" "members" "[LJointLoans$Member;") (by decide +kernel)
  have k_17 := B.1.2.2.2.2 (.fieldLink RX0 17 "JointLoans$Group" "settings" "[I") (by decide +kernel)
  have k_47 := B.1.2.2.2.2 (.fieldLink RX0 47 "JointLoans$Group" "fund" "I") (by decide +kernel)
  intro n
  induction n with
  | zero =>
    intro n3 S H locs ls hle hsum
    omega
  | succ n ih =>
    intro n3 S H locs ls hle hsum hW hl hls zk
    have zk := zk.trans (x_X0_saveMoney_L10.eq_2 _ _ _ _ )
    refine lv_iload_n hx hb dX0_saveMoney_10 rfl (lv_at hl 0 rfl) ?_
    refine lv_iload_n hx hb dX0_saveMoney_11 rfl (lv_at hl 1 rfl) ?_
    refine lv_icmp_ge (tgt := 73) hx hb dX0_saveMoney_12 (by decide) (fun c_12 => ?_) (fun c_12 => ?_)
    · have zk := zk.trans (if_pos c_12)
      exact x_vret B hW zk.symm dX0_saveMoney_73
    · have zk := zk.trans (if_neg c_12)
      have hb_c_12 : n3 < 8 := nI_of_nle (by decide) c_12 (by omega)
      refine lv_aload_n hx hb dX0_saveMoney_15 rfl (lv_at hl 2 rfl) ?_
      refine lv_iload_n hx hb dX0_saveMoney_16 rfl (lv_at hl 0 rfl) ?_
      refine x_aald B hW (hqA hg) (cC_A hg) (k := 2) rfl (isN_nI hb_c_12 (by decide)) (by decide) (by decide) (v := .ref (ad (gM g n3))) rfl dX0_saveMoney_17 ?_
      refine lv_astore (lv' := [(4, .ref (ad (gM g n3))), (3, .int (nI n3)), (2, .int 8), (1, .ref (ad (gA g))), (0, .ref (ad (gG g)))]) hx hb dX0_saveMoney_18 hl (by decide) rfl (fun ls hl => ?_)
      have hls := hl.1
      refine lv_aload hx hb dX0_saveMoney_20 (lv_at hl 0 rfl) ?_
      refine x_getN B hW (hqM hg hb_c_12) (cC_M hg hb_c_12) cls2 hin_X2 1 (by decide) (v := .int (bz (S (gM g n3) 1))) rfl nl_X0_62 dX0_saveMoney_22 ?_
      refine lv_if_eq (tgt := 67) hx hb dX0_saveMoney_25 (by decide) (fun c_25 => ?_) (fun c_25 => ?_)
      · have zk := zk.trans (if_pos c_25)
        refine lv_iinc (v := (nI (n3 + 1))) (lv' := [(3, .int (nI (n3 + 1))), (4, .ref (ad (gM g n3))), (2, .int 8), (1, .ref (ad (gA g))), (0, .ref (ad (gG g)))]) hx hb dX0_saveMoney_67 hl (k := 1) rfl (nI_1 _) (by decide) rfl (fun ls hl => ?_)
        have hls := hl.1
        refine lv_goto (tgt := 10) hx hb dX0_saveMoney_70 (by decide) ?_
        exact ih ((n3 + 1)) S _ _ _ (show (n3 + 1) ≤ 8 by omega) (show (n3 + 1) + n = 9 by omega) hW (lv_sub hl [0, 2, 3, 4] rfl) hls zk
      · have zk := zk.trans (if_neg c_25)
        refine lv_aload hx hb dX0_saveMoney_28 (lv_at hl 0 rfl) ?_
        refine x_getN B hW (hqM hg hb_c_12) (cC_M hg hb_c_12) cls2 hin_X2 8 (by decide) (v := .int (bz (S (gM g n3) 8))) rfl nl_X0_66 dX0_saveMoney_30 ?_
        refine lv_if_ne (tgt := 67) hx hb dX0_saveMoney_33 (by decide) (fun c_33 => ?_) (fun c_33 => ?_)
        · have zk := zk.trans (if_neg c_33)
          refine lv_iinc (v := (nI (n3 + 1))) (lv' := [(3, .int (nI (n3 + 1))), (4, .ref (ad (gM g n3))), (2, .int 8), (1, .ref (ad (gA g))), (0, .ref (ad (gG g)))]) hx hb dX0_saveMoney_67 hl (k := 1) rfl (nI_1 _) (by decide) rfl (fun ls hl => ?_)
          have hls := hl.1
          refine lv_goto (tgt := 10) hx hb dX0_saveMoney_70 (by decide) ?_
          exact ih ((n3 + 1)) S _ _ _ (show (n3 + 1) ≤ 8 by omega) (show (n3 + 1) + n = 9 by omega) hW (lv_sub hl [0, 2, 3, 4] rfl) hls zk
        · have zk := zk.trans (if_pos c_33)
          refine lv_aload hx hb dX0_saveMoney_36 (lv_at hl 0 rfl) ?_
          refine lv_dup hx hb dX0_saveMoney_38 rfl ?_
          refine x_getN B hW (hqM hg hb_c_12) (cC_M hg hb_c_12) cls2 hin_X2 13 (by decide) (v := .int (S (gM g n3) 13)) rfl nl_X0_87 dX0_saveMoney_39 ?_
          refine lv_aload_n hx hb dX0_saveMoney_42 rfl (lv_at hl 4 rfl) ?_
          refine x_get B hW (hqG hg) (cC_G hg) cls0 hin_X0 1 (by decide) (v := .ref (ad (gS g))) rfl k_17 dX0_saveMoney_43 ?_
          refine lv_iconst (v := 1) hx hb dX0_saveMoney_46 (by decide) ?_
          refine x_iald B hW (hqS hg) (cC_S hg) (isN_lit 1 (by decide)) (by decide) (by decide) dX0_saveMoney_47 ?_
          refine lv_iadd hx hb dX0_saveMoney_48 ?_
          refine x_putN B hW (hqM hg hb_c_12) cls2 hin_X2 13 (by decide) (cC_M hg hb_c_12) rfl (ty := .int) (by decide +kernel) rfl rfl (Nat.le_of_ble_eq_true rfl) (j := 13) (pM_13 hg hb_c_12) nl_X0_87 dX0_saveMoney_49 (fun H locs S_49 he_49 hW => ?_)
          have zk := nm_at zk he_49
          refine lv_aload_n hx hb dX0_saveMoney_52 rfl (lv_at hl 4 rfl) ?_
          refine lv_dup hx hb dX0_saveMoney_53 rfl ?_
          refine x_get B hW (hqG hg) (cC_G hg) cls0 hin_X0 6 (by decide) (v := .int (S_49 (gG g) 6)) rfl k_47 dX0_saveMoney_54 ?_
          refine lv_aload_n hx hb dX0_saveMoney_57 rfl (lv_at hl 4 rfl) ?_
          refine x_get B hW (hqG hg) (cC_G hg) cls0 hin_X0 1 (by decide) (v := .ref (ad (gS g))) rfl k_17 dX0_saveMoney_58 ?_
          refine lv_iconst (v := 1) hx hb dX0_saveMoney_61 (by decide) ?_
          refine x_iald B hW (hqS hg) (cC_S hg) (isN_lit 1 (by decide)) (by decide) (by decide) dX0_saveMoney_62 ?_
          refine lv_iadd hx hb dX0_saveMoney_63 ?_
          refine x_put B hW (hqG hg) cls0 hin_X0 6 (by decide) (cC_G hg) rfl (ty := .int) (by decide +kernel) rfl rfl (Nat.le_of_ble_eq_true rfl) (j := 6) (pG_6 hg) k_47 dX0_saveMoney_64 (fun H locs S_64 he_64 hW => ?_)
          have zk := nm_at zk he_64
          refine lv_iinc (v := (nI (n3 + 1))) (lv' := [(3, .int (nI (n3 + 1))), (4, .ref (ad (gM g n3))), (2, .int 8), (1, .ref (ad (gA g))), (0, .ref (ad (gG g)))]) hx hb dX0_saveMoney_67 hl (k := 1) rfl (nI_1 _) (by decide) rfl (fun ls hl => ?_)
          have hls := hl.1
          refine lv_goto (tgt := 10) hx hb dX0_saveMoney_70 (by decide) ?_
          exact ih ((n3 + 1)) S_64 _ _ _ (show (n3 + 1) ≤ 8 by omega) (show (n3 + 1) + n = 9 by omega) hW (lv_sub hl [0, 2, 3, 4] rfl) hls zk
set_option maxHeartbeats 4000000 in
set_option maxRecDepth 100000 in
theorem c_X0_saveMoney {D : va_G} {ad : Nat → Nat} (l : Launch) (sz : Nat) (S : vS) (g : Nat) (hg : g < 8) : Met l yX0_saveMoney wsX0_saveMoney (rmD 0) (pW D 157 (cC D ad) ad sz S [.ref (ad (gG g))]) (va_Qv (fun (S1 : vS) => S1 = (x_X0_saveMoney S g)) (bW D 157 (cC D ad) ad (aW 157 ad sz)) (aW 157 ad sz)) 0 0 (aW 157 ad sz) := by
  refine x_met (own := RX0) (cc := cX0_saveMoney) (maxL := 5) (ret := none) (Qc := fun A => va_Qv (fun (S1 : vS) => S1 = (x_X0_saveMoney S g)) (bW D 157 (cC D ad) ad A) A) rfl ⟨by decide +kernel, rfl, Nat.le_of_ble_eq_true rfl⟩ ?_
  intro p e s mm args below meth c A ls B hW hl hls
  have hx := B.1.1
  have hb := B.1.2.1
  have hin_X0 : ∀ w ∈ wsX00, w ∈ wsX0_saveMoney := fun w h => List.mem_cons_of_mem _ (List.mem_append_left _ (List.mem_append_right _ h))
  have hin_X2 : ∀ w ∈ wsX20, w ∈ wsX0_saveMoney := fun w h => List.mem_cons_of_mem _ (List.mem_append_right _ h)
  have k_11 := B.1.2.2.2.2 (.fieldLink RX0 11 "JointLoans$Group" "members" "[LJointLoans$Member;") (by decide +kernel)
  have k_17 := B.1.2.2.2.2 (.fieldLink RX0 17 "JointLoans$Group" "settings" "[I") (by decide +kernel)
  have k_47 := B.1.2.2.2.2 (.fieldLink RX0 47 "JointLoans$Group" "fund" "I") (by decide +kernel)
  have zk := x_X0_saveMoney.eq_1 S g
  have hl : lv_has ls 5 [(0, .ref (ad (gG g)))] := hl
  refine lv_aload_n hx hb dX0_saveMoney_0 rfl (lv_at hl 0 rfl) ?_
  refine x_get B hW (hqG hg) (cC_G hg) cls0 hin_X0 0 (by decide) (v := .ref (ad (gA g))) rfl k_11 dX0_saveMoney_1 ?_
  refine lv_astore_n (lv' := [(1, .ref (ad (gA g))), (0, .ref (ad (gG g)))]) hx hb dX0_saveMoney_4 rfl hl (by decide) rfl (fun ls hl => ?_)
  have hls := hl.1
  refine lv_aload_n hx hb dX0_saveMoney_5 rfl (lv_at hl 0 rfl) ?_
  refine x_alen B hW (hqA hg) (cC_A hg) (k := 2) rfl (v := 8) rfl dX0_saveMoney_6 ?_
  refine lv_istore_n (lv' := [(2, .int 8), (1, .ref (ad (gA g))), (0, .ref (ad (gG g)))]) hx hb dX0_saveMoney_7 rfl hl (by decide) rfl (fun ls hl => ?_)
  have hls := hl.1
  refine lv_iconst (v := 0) hx hb dX0_saveMoney_8 (by decide) ?_
  refine lv_istore_n (lv' := [(3, .int 0), (2, .int 8), (1, .ref (ad (gA g))), (0, .ref (ad (gG g)))]) hx hb dX0_saveMoney_9 rfl hl (by decide) rfl (fun ls hl => ?_)
  have hls := hl.1
  exact w_X0_saveMoney_L10 l B  _ g hg (9) (0) S _ _ _ (show 0 ≤ 8 by omega) (show 0 + (9) = 9 by omega) hW (lv_sub hl [0, 1, 2, 3] rfl) hls zk

def x_X0_shareRest_L29 : Nat → vS → Nat → Nat → Int32 → Int32 → Nat → Int32 → Int32 → vS
  | 0, S, _, _, _, _, _, _, _ => S
  | n + 1, S, g, k, p2, p3, n8, v5, v4 => if 8 ≤ (nI n8) then nm (st S (gG g) 9 ((S (gG g) 9) + p2)) (fun S_118 => S_118) else if (bz (S (gM g n8) 1)) = 0 then x_X0_shareRest_L29 n S g k p2 p3 ((n8 + 1)) (v5) (v4) else if (bz (S (gM g n8) 8)) = 0 then if v5 ≤ 0 then nm (v5 + (-1)) (fun x_75 => nm (st S (gD g k) n8 ((S (gD g k) n8) + v4)) (fun S_92 => nm (st S_92 (gM g n8) 14 ((S_92 (gM g n8) 14) + v4)) (fun S_102 => x_X0_shareRest_L29 n S_102 g k p2 p3 ((n8 + 1)) (x_75) (v4)))) else nm ((v4 + 1)) (fun x_73 => nm (v5 + (-1)) (fun x_75 => nm (st S (gD g k) n8 ((S (gD g k) n8) + x_73)) (fun S_92 => nm (st S_92 (gM g n8) 14 ((S_92 (gM g n8) 14) + x_73)) (fun S_102 => x_X0_shareRest_L29 n S_102 g k p2 p3 ((n8 + 1)) (x_75) (v4))))) else x_X0_shareRest_L29 n S g k p2 p3 ((n8 + 1)) (v5) (v4)
def x_X0_shareRest (S : vS) (g k : Nat) (p2 : Int32) (p3 : Int32) : vS := if 0 < p3 then nm ((p2 / p3)) (fun x_8 => nm ((p2 - p2 / p3 * p3)) (fun x_13 => x_X0_shareRest_L29 (9) S g k p2 p3 (0) (x_13) (x_8))) else S
theorem hd_X0_shareRest : yX0_shareRest.cls = RX0 ∧ yX0_shareRest.cls ≠ "java/lang/invoke/MethodHandle" ∧ yX0_shareRest.cls ≠ "java/lang/invoke/VarHandle" ∧ (parseMethodDescriptor yX0_shareRest.desc).map (fun d => d.parameters.length) = some 3 := by decide +kernel
set_option maxHeartbeats 4000000 in
set_option maxRecDepth 100000 in
theorem w_X0_shareRest_L29 {D : va_G} {ad : Nat → Nat} (l : Launch) {p : Program} {e : Env} {s : State} {mm : MethodId} {args : Array Value} {below : List Frame} {meth : Method} {c : Code} {A : Nat → Prop} (B : Cx p mm c cX0_shareRest 11 s args wsX0_shareRest RX0 meth none D) (z : vS) (g k : Nat) (p2 : Int32) (p3 : Int32) (hg : g < 8) (hk : k < 8) : ∀ (n : Nat) (n8 : Nat) (v5 : Int32) (v4 : Int32) (S : vS) (H : Heap) (locs : List Loc) (ls : Array Slot), n8 ≤ 8 → n8 + n = 9 → Wd D 157 (cC D ad) ad A s.heap S H locs → lv_has ls 11 [(8, .int (nI n8)), (7, .int 8), (6, .ref (ad (gA g))), (5, .int v5), (4, .int v4), (0, .ref (ad (gG g))), (1, .ref (ad (gM g k))), (2, .int p2)] → ls.size = 11 → z = x_X0_shareRest_L29 n S g k p2 p3 n8 v5 v4 → W p l e (rmD 0) s mm args below meth c H locs 0 0 (MQ below (va_Qv (fun (S1 : vS) => S1 = z) (bW D 157 (cC D ad) ad A) A) args s 0 0 A) (F0 mm 29 ls []) := by
  have hx := B.1.1
  have hb := B.1.2.1
  have hin_X0 : ∀ w ∈ wsX00, w ∈ wsX0_shareRest := fun w h => List.mem_cons_of_mem _ (List.mem_append_left _ (List.mem_append_right _ h))
  have hin_X2 : ∀ w ∈ wsX20, w ∈ wsX0_shareRest := fun w h => List.mem_cons_of_mem _ (List.mem_append_right _ h)
  have k_11 := B.1.2.2.2.2 (.fieldLink RX0 11 "JointLoans$Group" "members" "[LJointLoans$Member;") (by decide +kernel)
  have k_56 := B.1.2.2.2.2 (.fieldLink RX0 56 "JointLoans$Group" "bankPaid" "I") (by decide +kernel)
  intro n
  induction n with
  | zero =>
    intro n8 v5 v4 S H locs ls hle hsum
    omega
  | succ n ih =>
    intro n8 v5 v4 S H locs ls hle hsum hW hl hls zk
    have zk := zk.trans (x_X0_shareRest_L29.eq_2 _ _ _ _ _ _ _ _ _ )
    refine lv_iload hx hb dX0_shareRest_29 (lv_at hl 0 rfl) ?_
    refine lv_iload hx hb dX0_shareRest_31 (lv_at hl 1 rfl) ?_
    refine lv_icmp_ge (tgt := 111) hx hb dX0_shareRest_33 (by decide) (fun c_33 => ?_) (fun c_33 => ?_)
    · have zk := zk.trans (if_pos c_33)
      refine lv_aload_n hx hb dX0_shareRest_111 rfl (lv_at hl 5 rfl) ?_
      refine lv_dup hx hb dX0_shareRest_112 rfl ?_
      refine x_get B hW (hqG hg) (cC_G hg) cls0 hin_X0 9 (by decide) (v := .int (S (gG g) 9)) rfl k_56 dX0_shareRest_113 ?_
      refine lv_iload_n hx hb dX0_shareRest_116 rfl (lv_at hl 7 rfl) ?_
      refine lv_iadd hx hb dX0_shareRest_117 ?_
      refine x_put B hW (hqG hg) cls0 hin_X0 9 (by decide) (cC_G hg) rfl (ty := .int) (by decide +kernel) rfl rfl (Nat.le_of_ble_eq_true rfl) (j := 9) (pG_9 hg) k_56 dX0_shareRest_118 (fun H locs S_118 he_118 hW => ?_)
      have zk := nm_at zk he_118
      exact x_vret B hW zk.symm dX0_shareRest_121
    · have zk := zk.trans (if_neg c_33)
      have hb_c_33 : n8 < 8 := nI_of_nle (by decide) c_33 (by omega)
      refine lv_aload hx hb dX0_shareRest_36 (lv_at hl 2 rfl) ?_
      refine lv_iload hx hb dX0_shareRest_38 (lv_at hl 0 rfl) ?_
      refine x_aald B hW (hqA hg) (cC_A hg) (k := 2) rfl (isN_nI hb_c_33 (by decide)) (by decide) (by decide) (v := .ref (ad (gM g n8))) rfl dX0_shareRest_40 ?_
      refine lv_astore (lv' := [(9, .ref (ad (gM g n8))), (8, .int (nI n8)), (7, .int 8), (6, .ref (ad (gA g))), (5, .int v5), (4, .int v4), (0, .ref (ad (gG g))), (1, .ref (ad (gM g k))), (2, .int p2)]) hx hb dX0_shareRest_41 hl (by decide) rfl (fun ls hl => ?_)
      have hls := hl.1
      refine lv_aload hx hb dX0_shareRest_43 (lv_at hl 0 rfl) ?_
      refine x_getN B hW (hqM hg hb_c_33) (cC_M hg hb_c_33) cls2 hin_X2 1 (by decide) (v := .int (bz (S (gM g n8) 1))) rfl nl_X0_62 dX0_shareRest_45 ?_
      refine lv_if_eq (tgt := 105) hx hb dX0_shareRest_48 (by decide) (fun c_48 => ?_) (fun c_48 => ?_)
      · have zk := zk.trans (if_pos c_48)
        refine lv_iinc (v := (nI (n8 + 1))) (lv' := [(8, .int (nI (n8 + 1))), (9, .ref (ad (gM g n8))), (7, .int 8), (6, .ref (ad (gA g))), (5, .int v5), (4, .int v4), (0, .ref (ad (gG g))), (1, .ref (ad (gM g k))), (2, .int p2)]) hx hb dX0_shareRest_105 hl (k := 1) rfl (nI_1 _) (by decide) rfl (fun ls hl => ?_)
        have hls := hl.1
        refine lv_goto (tgt := 29) hx hb dX0_shareRest_108 (by decide) ?_
        exact ih ((n8 + 1)) (v5) (v4) S _ _ _ (show (n8 + 1) ≤ 8 by omega) (show (n8 + 1) + n = 9 by omega) hW (lv_sub hl [0, 2, 3, 4, 5, 6, 7, 8] rfl) hls zk
      · have zk := zk.trans (if_neg c_48)
        refine lv_aload hx hb dX0_shareRest_51 (lv_at hl 0 rfl) ?_
        refine x_getN B hW (hqM hg hb_c_33) (cC_M hg hb_c_33) cls2 hin_X2 8 (by decide) (v := .int (bz (S (gM g n8) 8))) rfl nl_X0_66 dX0_shareRest_53 ?_
        refine lv_if_ne (tgt := 105) hx hb dX0_shareRest_56 (by decide) (fun c_56 => ?_) (fun c_56 => ?_)
        · have zk := zk.trans (if_neg c_56)
          refine lv_iinc (v := (nI (n8 + 1))) (lv' := [(8, .int (nI (n8 + 1))), (9, .ref (ad (gM g n8))), (7, .int 8), (6, .ref (ad (gA g))), (5, .int v5), (4, .int v4), (0, .ref (ad (gG g))), (1, .ref (ad (gM g k))), (2, .int p2)]) hx hb dX0_shareRest_105 hl (k := 1) rfl (nI_1 _) (by decide) rfl (fun ls hl => ?_)
          have hls := hl.1
          refine lv_goto (tgt := 29) hx hb dX0_shareRest_108 (by decide) ?_
          exact ih ((n8 + 1)) (v5) (v4) S _ _ _ (show (n8 + 1) ≤ 8 by omega) (show (n8 + 1) + n = 9 by omega) hW (lv_sub hl [0, 2, 3, 4, 5, 6, 7, 8] rfl) hls zk
        · have zk := zk.trans (if_pos c_56)
          refine lv_iload hx hb dX0_shareRest_59 (lv_at hl 4 rfl) ?_
          refine lv_if_le (tgt := 71) hx hb dX0_shareRest_61 (by decide) (fun c_61 => ?_) (fun c_61 => ?_)
          · have zk := zk.trans (if_pos c_61)
            refine lv_iload hx hb dX0_shareRest_71 (lv_at hl 5 rfl) ?_
            refine lv_istore (lv' := [(10, .int v4), (9, .ref (ad (gM g n8))), (8, .int (nI n8)), (7, .int 8), (6, .ref (ad (gA g))), (5, .int v5), (4, .int v4), (0, .ref (ad (gG g))), (1, .ref (ad (gM g k))), (2, .int p2)]) hx hb dX0_shareRest_73 hl (by decide) rfl (fun ls hl => ?_)
            have hls := hl.1
            obtain ⟨x_75, ex_75⟩ : ∃ y : Int32, y = v5 + (-1) := ⟨_, rfl⟩
            have zk := nm_at zk ex_75
            refine lv_iinc (v := x_75) (lv' := [(5, .int x_75), (10, .int v4), (9, .ref (ad (gM g n8))), (8, .int (nI n8)), (7, .int 8), (6, .ref (ad (gA g))), (4, .int v4), (0, .ref (ad (gG g))), (1, .ref (ad (gM g k))), (2, .int p2)]) hx hb dX0_shareRest_75 hl (k := 5) rfl (by rw [ex_75]; rfl) (by decide) rfl (fun ls hl => ?_)
            have hls := hl.1
            refine lv_aload_n hx hb dX0_shareRest_78 rfl (lv_at hl 8 rfl) ?_
            refine x_getN B hW (hqM hg hk) (cC_M hg hk) cls2 hin_X2 15 (by decide) (v := .ref (ad (gD g k))) rfl nl_X0_119 dX0_shareRest_79 ?_
            refine lv_aload hx hb dX0_shareRest_82 (lv_at hl 2 rfl) ?_
            refine x_getN B hW (hqM hg hb_c_33) (cC_M hg hb_c_33) cls2 hin_X2 0 (by decide) (v := .int (nI n8)) rfl nl_X0_90 dX0_shareRest_84 ?_
            refine lv_dup2_11 hx hb dX0_shareRest_87 rfl rfl ?_
            refine x_iald B hW (hqD hg hk) (cC_D hg hk) (isN_nI hb_c_33 (by decide)) (by decide) (by decide) dX0_shareRest_88 ?_
            refine lv_iload hx hb dX0_shareRest_89 (lv_at hl 1 rfl) ?_
            refine lv_iadd hx hb dX0_shareRest_91 ?_
            refine x_iast B hW (hqD hg hk) (fun _ => (cC_D hg hk)) (isN_nI hb_c_33 (by decide)) (by decide) (by decide) dX0_shareRest_92 (fun H locs S_92 he_92 hW => ?_)
            have zk := nm_at zk he_92
            refine lv_aload hx hb dX0_shareRest_93 (lv_at hl 2 rfl) ?_
            refine lv_dup hx hb dX0_shareRest_95 rfl ?_
            refine x_getN B hW (hqM hg hb_c_33) (cC_M hg hb_c_33) cls2 hin_X2 14 (by decide) (v := .int (S_92 (gM g n8) 14)) rfl nl_X0_164 dX0_shareRest_96 ?_
            refine lv_iload hx hb dX0_shareRest_99 (lv_at hl 1 rfl) ?_
            refine lv_iadd hx hb dX0_shareRest_101 ?_
            refine x_putN B hW (hqM hg hb_c_33) cls2 hin_X2 14 (by decide) (cC_M hg hb_c_33) rfl (ty := .int) (by decide +kernel) rfl rfl (Nat.le_of_ble_eq_true rfl) (j := 14) (pM_14 hg hb_c_33) nl_X0_164 dX0_shareRest_102 (fun H locs S_102 he_102 hW => ?_)
            have zk := nm_at zk he_102
            refine lv_iinc (v := (nI (n8 + 1))) (lv' := [(8, .int (nI (n8 + 1))), (5, .int x_75), (10, .int v4), (9, .ref (ad (gM g n8))), (7, .int 8), (6, .ref (ad (gA g))), (4, .int v4), (0, .ref (ad (gG g))), (1, .ref (ad (gM g k))), (2, .int p2)]) hx hb dX0_shareRest_105 hl (k := 3) rfl (nI_1 _) (by decide) rfl (fun ls hl => ?_)
            have hls := hl.1
            refine lv_goto (tgt := 29) hx hb dX0_shareRest_108 (by decide) ?_
            exact ih ((n8 + 1)) (x_75) (v4) S_102 _ _ _ (show (n8 + 1) ≤ 8 by omega) (show (n8 + 1) + n = 9 by omega) hW (lv_sub hl [0, 4, 5, 1, 6, 7, 8, 9] rfl) hls zk
          · have zk := zk.trans (if_neg c_61)
            refine lv_iload hx hb dX0_shareRest_64 (lv_at hl 5 rfl) ?_
            refine lv_iconst (v := 1) hx hb dX0_shareRest_66 (by decide) ?_
            refine lv_iadd hx hb dX0_shareRest_67 ?_
            refine lv_goto (tgt := 73) hx hb dX0_shareRest_68 (by decide) ?_
            refine lv_topi (fun x_73 ex_73 => ?_)
            have zk := nm_at zk ex_73
            refine lv_istore (lv' := [(10, .int x_73), (9, .ref (ad (gM g n8))), (8, .int (nI n8)), (7, .int 8), (6, .ref (ad (gA g))), (5, .int v5), (4, .int v4), (0, .ref (ad (gG g))), (1, .ref (ad (gM g k))), (2, .int p2)]) hx hb dX0_shareRest_73 hl (by decide) rfl (fun ls hl => ?_)
            have hls := hl.1
            obtain ⟨x_75, ex_75⟩ : ∃ y : Int32, y = v5 + (-1) := ⟨_, rfl⟩
            have zk := nm_at zk ex_75
            refine lv_iinc (v := x_75) (lv' := [(5, .int x_75), (10, .int x_73), (9, .ref (ad (gM g n8))), (8, .int (nI n8)), (7, .int 8), (6, .ref (ad (gA g))), (4, .int v4), (0, .ref (ad (gG g))), (1, .ref (ad (gM g k))), (2, .int p2)]) hx hb dX0_shareRest_75 hl (k := 5) rfl (by rw [ex_75]; rfl) (by decide) rfl (fun ls hl => ?_)
            have hls := hl.1
            refine lv_aload_n hx hb dX0_shareRest_78 rfl (lv_at hl 8 rfl) ?_
            refine x_getN B hW (hqM hg hk) (cC_M hg hk) cls2 hin_X2 15 (by decide) (v := .ref (ad (gD g k))) rfl nl_X0_119 dX0_shareRest_79 ?_
            refine lv_aload hx hb dX0_shareRest_82 (lv_at hl 2 rfl) ?_
            refine x_getN B hW (hqM hg hb_c_33) (cC_M hg hb_c_33) cls2 hin_X2 0 (by decide) (v := .int (nI n8)) rfl nl_X0_90 dX0_shareRest_84 ?_
            refine lv_dup2_11 hx hb dX0_shareRest_87 rfl rfl ?_
            refine x_iald B hW (hqD hg hk) (cC_D hg hk) (isN_nI hb_c_33 (by decide)) (by decide) (by decide) dX0_shareRest_88 ?_
            refine lv_iload hx hb dX0_shareRest_89 (lv_at hl 1 rfl) ?_
            refine lv_iadd hx hb dX0_shareRest_91 ?_
            refine x_iast B hW (hqD hg hk) (fun _ => (cC_D hg hk)) (isN_nI hb_c_33 (by decide)) (by decide) (by decide) dX0_shareRest_92 (fun H locs S_92 he_92 hW => ?_)
            have zk := nm_at zk he_92
            refine lv_aload hx hb dX0_shareRest_93 (lv_at hl 2 rfl) ?_
            refine lv_dup hx hb dX0_shareRest_95 rfl ?_
            refine x_getN B hW (hqM hg hb_c_33) (cC_M hg hb_c_33) cls2 hin_X2 14 (by decide) (v := .int (S_92 (gM g n8) 14)) rfl nl_X0_164 dX0_shareRest_96 ?_
            refine lv_iload hx hb dX0_shareRest_99 (lv_at hl 1 rfl) ?_
            refine lv_iadd hx hb dX0_shareRest_101 ?_
            refine x_putN B hW (hqM hg hb_c_33) cls2 hin_X2 14 (by decide) (cC_M hg hb_c_33) rfl (ty := .int) (by decide +kernel) rfl rfl (Nat.le_of_ble_eq_true rfl) (j := 14) (pM_14 hg hb_c_33) nl_X0_164 dX0_shareRest_102 (fun H locs S_102 he_102 hW => ?_)
            have zk := nm_at zk he_102
            refine lv_iinc (v := (nI (n8 + 1))) (lv' := [(8, .int (nI (n8 + 1))), (5, .int x_75), (10, .int x_73), (9, .ref (ad (gM g n8))), (7, .int 8), (6, .ref (ad (gA g))), (4, .int v4), (0, .ref (ad (gG g))), (1, .ref (ad (gM g k))), (2, .int p2)]) hx hb dX0_shareRest_105 hl (k := 3) rfl (nI_1 _) (by decide) rfl (fun ls hl => ?_)
            have hls := hl.1
            refine lv_goto (tgt := 29) hx hb dX0_shareRest_108 (by decide) ?_
            exact ih ((n8 + 1)) (x_75) (v4) S_102 _ _ _ (show (n8 + 1) ≤ 8 by omega) (show (n8 + 1) + n = 9 by omega) hW (lv_sub hl [0, 4, 5, 1, 6, 7, 8, 9] rfl) hls zk
set_option maxHeartbeats 4000000 in
set_option maxRecDepth 100000 in
theorem c_X0_shareRest {D : va_G} {ad : Nat → Nat} (l : Launch) (sz : Nat) (S : vS) (g k : Nat) (p2 : Int32) (p3 : Int32) (hg : g < 8) (hk : k < 8) : Met l yX0_shareRest wsX0_shareRest (rmD 0) (pW D 157 (cC D ad) ad sz S [.ref (ad (gG g)), .ref (ad (gM g k)), .int p2, .int p3]) (va_Qv (fun (S1 : vS) => S1 = (x_X0_shareRest S g k p2 p3)) (bW D 157 (cC D ad) ad (aW 157 ad sz)) (aW 157 ad sz)) 0 0 (aW 157 ad sz) := by
  refine x_met (own := RX0) (cc := cX0_shareRest) (maxL := 11) (ret := none) (Qc := fun A => va_Qv (fun (S1 : vS) => S1 = (x_X0_shareRest S g k p2 p3)) (bW D 157 (cC D ad) ad A) A) rfl ⟨by decide +kernel, rfl, Nat.le_of_ble_eq_true rfl⟩ ?_
  intro p e s mm args below meth c A ls B hW hl hls
  have hx := B.1.1
  have hb := B.1.2.1
  have hin_X0 : ∀ w ∈ wsX00, w ∈ wsX0_shareRest := fun w h => List.mem_cons_of_mem _ (List.mem_append_left _ (List.mem_append_right _ h))
  have hin_X2 : ∀ w ∈ wsX20, w ∈ wsX0_shareRest := fun w h => List.mem_cons_of_mem _ (List.mem_append_right _ h)
  have k_11 := B.1.2.2.2.2 (.fieldLink RX0 11 "JointLoans$Group" "members" "[LJointLoans$Member;") (by decide +kernel)
  have k_56 := B.1.2.2.2.2 (.fieldLink RX0 56 "JointLoans$Group" "bankPaid" "I") (by decide +kernel)
  have zk := x_X0_shareRest.eq_1 S g k p2 p3
  have hl : lv_has ls 11 [(0, .ref (ad (gG g))), (1, .ref (ad (gM g k))), (2, .int p2), (3, .int p3)] := hl
  refine lv_iload_n hx hb dX0_shareRest_0 rfl (lv_at hl 3 rfl) ?_
  refine lv_if_gt (tgt := 5) hx hb dX0_shareRest_1 (by decide) (fun c_1 => ?_) (fun c_1 => ?_)
  · have zk := zk.trans (if_pos c_1)
    refine lv_iload_n hx hb dX0_shareRest_5 rfl (lv_at hl 2 rfl) ?_
    refine lv_iload_n hx hb dX0_shareRest_6 rfl (lv_at hl 3 rfl) ?_
    refine lv_idiv hx hb dX0_shareRest_7 (nz_of_lt c_1) ?_
    refine lv_topi (fun x_8 ex_8 => ?_)
    have zk := nm_at zk ex_8
    refine lv_istore (lv' := [(4, .int x_8), (0, .ref (ad (gG g))), (1, .ref (ad (gM g k))), (2, .int p2), (3, .int p3)]) hx hb dX0_shareRest_8 hl (by decide) rfl (fun ls hl => ?_)
    have hls := hl.1
    refine lv_iload_n hx hb dX0_shareRest_10 rfl (lv_at hl 3 rfl) ?_
    refine lv_iload_n hx hb dX0_shareRest_11 rfl (lv_at hl 4 rfl) ?_
    refine lv_irem hx hb dX0_shareRest_12 (nz_of_lt c_1) ?_
    refine lv_topi (fun x_13 ex_13 => ?_)
    have zk := nm_at zk ex_13
    refine lv_istore (lv' := [(5, .int x_13), (4, .int x_8), (0, .ref (ad (gG g))), (1, .ref (ad (gM g k))), (2, .int p2), (3, .int p3)]) hx hb dX0_shareRest_13 hl (by decide) rfl (fun ls hl => ?_)
    have hls := hl.1
    refine lv_aload_n hx hb dX0_shareRest_15 rfl (lv_at hl 2 rfl) ?_
    refine x_get B hW (hqG hg) (cC_G hg) cls0 hin_X0 0 (by decide) (v := .ref (ad (gA g))) rfl k_11 dX0_shareRest_16 ?_
    refine lv_astore (lv' := [(6, .ref (ad (gA g))), (5, .int x_13), (4, .int x_8), (0, .ref (ad (gG g))), (1, .ref (ad (gM g k))), (2, .int p2), (3, .int p3)]) hx hb dX0_shareRest_19 hl (by decide) rfl (fun ls hl => ?_)
    have hls := hl.1
    refine lv_aload hx hb dX0_shareRest_21 (lv_at hl 0 rfl) ?_
    refine x_alen B hW (hqA hg) (cC_A hg) (k := 2) rfl (v := 8) rfl dX0_shareRest_23 ?_
    refine lv_istore (lv' := [(7, .int 8), (6, .ref (ad (gA g))), (5, .int x_13), (4, .int x_8), (0, .ref (ad (gG g))), (1, .ref (ad (gM g k))), (2, .int p2), (3, .int p3)]) hx hb dX0_shareRest_24 hl (by decide) rfl (fun ls hl => ?_)
    have hls := hl.1
    refine lv_iconst (v := 0) hx hb dX0_shareRest_26 (by decide) ?_
    refine lv_istore (lv' := [(8, .int 0), (7, .int 8), (6, .ref (ad (gA g))), (5, .int x_13), (4, .int x_8), (0, .ref (ad (gG g))), (1, .ref (ad (gM g k))), (2, .int p2), (3, .int p3)]) hx hb dX0_shareRest_27 hl (by decide) rfl (fun ls hl => ?_)
    have hls := hl.1
    exact w_X0_shareRest_L29 l B  _ g k p2 p3 hg hk (9) (0) (x_13) (x_8) S _ _ _ (show 0 ≤ 8 by omega) (show 0 + (9) = 9 by omega) hW (lv_sub hl [0, 1, 2, 3, 4, 5, 6, 7] rfl) hls zk
  · have zk := zk.trans (if_neg c_1)
    exact x_vret B hW zk.symm dX0_shareRest_4

def x_X0_coverMissed (S : vS) (g k : Nat) (p2 : Int32) : vS := nm (st S (gM g k) 9 ((S (gM g k) 9) + 1)) (fun S_7 => nm (st S_7 (gM g k) 10 ((S_7 (gM g k) 10) + 1)) (fun S_17 => nm (st S_17 (gG g) 10 ((S_17 (gG g) 10) + 1)) (fun S_27 => nm ((if (S_27 (gG g) 6) < p2 then (S_27 (gG g) 6) else p2)) (fun x_38 => nm (st S_27 (gG g) 6 ((S_27 (gG g) 6) - x_38)) (fun S_46 => nm (st S_46 (gM g k) 12 ((S_46 (gM g k) 12) + x_38)) (fun S_56 => nm (st S_56 (gG g) 9 ((S_56 (gG g) 9) + x_38)) (fun S_66 => nm ((p2 - x_38)) (fun x_72 => nm (x_X0_memberCount S_66 g) (fun r_75 => nm (x_X0_awayMembers S_66 g) (fun r_79 => nm ((r_75 - r_79)) (fun x_83 => if x_83 ≤ 0 then nm (st S_66 (gM g k) 11 ((S_66 (gM g k) 11) + x_72)) (fun S_110 => S_110) else nm (x_X0_shareRest S_66 g k x_72 x_83) (fun S_96 => S_96))))))))))))
theorem hd_X0_coverMissed : yX0_coverMissed.cls = RX0 ∧ yX0_coverMissed.cls ≠ "java/lang/invoke/MethodHandle" ∧ yX0_coverMissed.cls ≠ "java/lang/invoke/VarHandle" ∧ (parseMethodDescriptor yX0_coverMissed.desc).map (fun d => d.parameters.length) = some 2 := by decide +kernel
set_option maxHeartbeats 4000000 in
set_option maxRecDepth 100000 in
theorem c_X0_coverMissed {D : va_G} {ad : Nat → Nat} (l : Launch) (sz : Nat) (S : vS) (g k : Nat) (p2 : Int32) (hg : g < 8) (hk : k < 8) : Met l yX0_coverMissed wsX0_coverMissed (rmD 1) (pW D 157 (cC D ad) ad sz S [.ref (ad (gG g)), .ref (ad (gM g k)), .int p2]) (va_Qv (fun (S1 : vS) => S1 = (x_X0_coverMissed S g k p2)) (bW D 157 (cC D ad) ad (aW 157 ad sz)) (aW 157 ad sz)) 0 0 (aW 157 ad sz) := by
  refine x_met (own := RX0) (cc := cX0_coverMissed) (maxL := 6) (ret := none) (Qc := fun A => va_Qv (fun (S1 : vS) => S1 = (x_X0_coverMissed S g k p2)) (bW D 157 (cC D ad) ad A) A) rfl ⟨by decide +kernel, rfl, Nat.le_of_ble_eq_true rfl⟩ ?_
  intro p e s mm args below meth c A ls B hW hl hls
  have hx := B.1.1
  have hb := B.1.2.1
  have hin_X0 : ∀ w ∈ wsX00, w ∈ wsX0_coverMissed := fun w h => List.mem_cons_of_mem _ (List.mem_append_right _ h)
  have hin_X2 : ∀ w ∈ wsX20, w ∈ wsX0_coverMissed := fun w h => List.mem_cons_of_mem _ (List.mem_append_left _ (List.mem_append_right _ h))
  have k_47 := B.1.2.2.2.2 (.fieldLink RX0 47 "JointLoans$Group" "fund" "I") (by decide +kernel)
  have k_56 := B.1.2.2.2.2 (.fieldLink RX0 56 "JointLoans$Group" "bankPaid" "I") (by decide +kernel)
  have k_59 := B.1.2.2.2.2 (.fieldLink RX0 59 "JointLoans$Group" "missedSoFar" "I") (by decide +kernel)
  have kc_min := B.1.2.2.2.2 (.code Lib.Math.min.name Lib.Math.min.code 2 (some .int)) (by decide +kernel)
  have ki_math := B.1.2.2.2.2 (.initialized "java/lang/Math") (by decide +kernel)
  have kl_113 := B.1.2.2.2.2 (.methodLink RX0 113 Lib.Math.min.name) (by decide +kernel)
  have ks_min := B.1.2.2.2.2 (.static Lib.Math.min.name) (by decide +kernel)
  have zk := x_X0_coverMissed.eq_1 S g k p2
  have hl : lv_has ls 6 [(0, .ref (ad (gG g))), (1, .ref (ad (gM g k))), (2, .int p2)] := hl
  refine lv_aload_n hx hb dX0_coverMissed_0 rfl (lv_at hl 1 rfl) ?_
  refine lv_dup hx hb dX0_coverMissed_1 rfl ?_
  refine x_getN B hW (hqM hg hk) (cC_M hg hk) cls2 hin_X2 9 (by decide) (v := .int (S (gM g k) 9)) rfl nl_X0_131 dX0_coverMissed_2 ?_
  refine lv_iconst (v := 1) hx hb dX0_coverMissed_5 (by decide) ?_
  refine lv_iadd hx hb dX0_coverMissed_6 ?_
  refine x_putN B hW (hqM hg hk) cls2 hin_X2 9 (by decide) (cC_M hg hk) rfl (ty := .int) (by decide +kernel) rfl rfl (Nat.le_of_ble_eq_true rfl) (j := 9) (pM_9 hg hk) nl_X0_131 dX0_coverMissed_7 (fun H locs S_7 he_7 hW => ?_)
  have zk := nm_at zk he_7
  refine lv_aload_n hx hb dX0_coverMissed_10 rfl (lv_at hl 1 rfl) ?_
  refine lv_dup hx hb dX0_coverMissed_11 rfl ?_
  refine x_getN B hW (hqM hg hk) (cC_M hg hk) cls2 hin_X2 10 (by decide) (v := .int (S_7 (gM g k) 10)) rfl nl_X0_156 dX0_coverMissed_12 ?_
  refine lv_iconst (v := 1) hx hb dX0_coverMissed_15 (by decide) ?_
  refine lv_iadd hx hb dX0_coverMissed_16 ?_
  refine x_putN B hW (hqM hg hk) cls2 hin_X2 10 (by decide) (cC_M hg hk) rfl (ty := .int) (by decide +kernel) rfl rfl (Nat.le_of_ble_eq_true rfl) (j := 10) (pM_10 hg hk) nl_X0_156 dX0_coverMissed_17 (fun H locs S_17 he_17 hW => ?_)
  have zk := nm_at zk he_17
  refine lv_aload_n hx hb dX0_coverMissed_20 rfl (lv_at hl 0 rfl) ?_
  refine lv_dup hx hb dX0_coverMissed_21 rfl ?_
  refine x_get B hW (hqG hg) (cC_G hg) cls0 hin_X0 10 (by decide) (v := .int (S_17 (gG g) 10)) rfl k_59 dX0_coverMissed_22 ?_
  refine lv_iconst (v := 1) hx hb dX0_coverMissed_25 (by decide) ?_
  refine lv_iadd hx hb dX0_coverMissed_26 ?_
  refine x_put B hW (hqG hg) cls0 hin_X0 10 (by decide) (cC_G hg) rfl (ty := .int) (by decide +kernel) rfl rfl (Nat.le_of_ble_eq_true rfl) (j := 10) (pG_10 hg) k_59 dX0_coverMissed_27 (fun H locs S_27 he_27 hW => ?_)
  have zk := nm_at zk he_27
  refine lv_iload_n hx hb dX0_coverMissed_30 rfl (lv_at hl 2 rfl) ?_
  refine lv_aload_n hx hb dX0_coverMissed_31 rfl (lv_at hl 0 rfl) ?_
  refine x_get B hW (hqG hg) (cC_G hg) cls0 hin_X0 6 (by decide) (v := .int (S_27 (gG g) 6)) rfl k_47 dX0_coverMissed_32 ?_
  refine va_mmin hx hb (B.1.2.2.1.trans hls.symm) B.1.2.2.2.1 kl_113 ks_min ki_math kc_min (Nat.le_of_ble_eq_true rfl) (Nat.le_of_ble_eq_true rfl) (Nat.zero_le _) (Nat.zero_le _) dX0_coverMissed_35 ?_
  refine lv_topi (fun x_38 ex_38 => ?_)
  have zk := nm_at zk ex_38
  refine lv_istore_n (lv' := [(3, .int x_38), (0, .ref (ad (gG g))), (1, .ref (ad (gM g k))), (2, .int p2)]) hx hb dX0_coverMissed_38 rfl hl (by decide) rfl (fun ls hl => ?_)
  have hls := hl.1
  refine lv_aload_n hx hb dX0_coverMissed_39 rfl (lv_at hl 1 rfl) ?_
  refine lv_dup hx hb dX0_coverMissed_40 rfl ?_
  refine x_get B hW (hqG hg) (cC_G hg) cls0 hin_X0 6 (by decide) (v := .int (S_27 (gG g) 6)) rfl k_47 dX0_coverMissed_41 ?_
  refine lv_iload_n hx hb dX0_coverMissed_44 rfl (lv_at hl 0 rfl) ?_
  refine lv_isub hx hb dX0_coverMissed_45 ?_
  refine x_put B hW (hqG hg) cls0 hin_X0 6 (by decide) (cC_G hg) rfl (ty := .int) (by decide +kernel) rfl rfl (Nat.le_of_ble_eq_true rfl) (j := 6) (pG_6 hg) k_47 dX0_coverMissed_46 (fun H locs S_46 he_46 hW => ?_)
  have zk := nm_at zk he_46
  refine lv_aload_n hx hb dX0_coverMissed_49 rfl (lv_at hl 2 rfl) ?_
  refine lv_dup hx hb dX0_coverMissed_50 rfl ?_
  refine x_getN B hW (hqM hg hk) (cC_M hg hk) cls2 hin_X2 12 (by decide) (v := .int (S_46 (gM g k) 12)) rfl nl_X0_116 dX0_coverMissed_51 ?_
  refine lv_iload_n hx hb dX0_coverMissed_54 rfl (lv_at hl 0 rfl) ?_
  refine lv_iadd hx hb dX0_coverMissed_55 ?_
  refine x_putN B hW (hqM hg hk) cls2 hin_X2 12 (by decide) (cC_M hg hk) rfl (ty := .int) (by decide +kernel) rfl rfl (Nat.le_of_ble_eq_true rfl) (j := 12) (pM_12 hg hk) nl_X0_116 dX0_coverMissed_56 (fun H locs S_56 he_56 hW => ?_)
  have zk := nm_at zk he_56
  refine lv_aload_n hx hb dX0_coverMissed_59 rfl (lv_at hl 1 rfl) ?_
  refine lv_dup hx hb dX0_coverMissed_60 rfl ?_
  refine x_get B hW (hqG hg) (cC_G hg) cls0 hin_X0 9 (by decide) (v := .int (S_56 (gG g) 9)) rfl k_56 dX0_coverMissed_61 ?_
  refine lv_iload_n hx hb dX0_coverMissed_64 rfl (lv_at hl 0 rfl) ?_
  refine lv_iadd hx hb dX0_coverMissed_65 ?_
  refine x_put B hW (hqG hg) cls0 hin_X0 9 (by decide) (cC_G hg) rfl (ty := .int) (by decide +kernel) rfl rfl (Nat.le_of_ble_eq_true rfl) (j := 9) (pG_9 hg) k_56 dX0_coverMissed_66 (fun H locs S_66 he_66 hW => ?_)
  have zk := nm_at zk he_66
  refine lv_iload_n hx hb dX0_coverMissed_69 rfl (lv_at hl 3 rfl) ?_
  refine lv_iload_n hx hb dX0_coverMissed_70 rfl (lv_at hl 0 rfl) ?_
  refine lv_isub hx hb dX0_coverMissed_71 ?_
  refine lv_topi (fun x_72 ex_72 => ?_)
  have zk := nm_at zk ex_72
  refine lv_istore (lv' := [(4, .int x_72), (3, .int x_38), (0, .ref (ad (gG g))), (1, .ref (ad (gM g k))), (2, .int p2)]) hx hb dX0_coverMissed_72 hl (by decide) rfl (fun ls hl => ?_)
  have hls := hl.1
  refine lv_aload_n hx hb dX0_coverMissed_74 rfl (lv_at hl 2 rfl) ?_
  refine x_calli hW (x_runV B hW (As := []) (rest := []) (hqG hg) (cC_G hg) cls0 (c_X0_memberCount (D := D) (ad := ad) l _ S_66 g hg) (cwV 0 B.1.2.2.2.2 gX0_coverMissed_X0_memberCount rfl rfl rfl hd_X0_memberCount ⟨Nat.le_of_ble_eq_true rfl, Nat.le_of_ble_eq_true rfl⟩) rfl hls (Nat.le_of_ble_eq_true rfl) dX0_coverMissed_75 ⟨Nat.zero_le _, Nat.zero_le _⟩) (fun r_75 S_75 H locs he hW => ?_)
  obtain ⟨hr_75, hs⟩ := he
  rw [hs] at hW
  have zk := nm_at zk hr_75
  refine lv_aload_n hx hb dX0_coverMissed_78 rfl (lv_at hl 2 rfl) ?_
  refine x_calli hW (x_runV B hW (As := []) (rest := .int r_75 :: []) (hqG hg) (cC_G hg) cls0 (c_X0_awayMembers (D := D) (ad := ad) l _ S_66 g hg) (cwV 0 B.1.2.2.2.2 gX0_coverMissed_X0_awayMembers rfl rfl rfl hd_X0_awayMembers ⟨Nat.le_of_ble_eq_true rfl, Nat.le_of_ble_eq_true rfl⟩) rfl hls (Nat.le_of_ble_eq_true rfl) dX0_coverMissed_79 ⟨Nat.zero_le _, Nat.zero_le _⟩) (fun r_79 S_79 H locs he hW => ?_)
  obtain ⟨hr_79, hs⟩ := he
  rw [hs] at hW
  have zk := nm_at zk hr_79
  refine lv_isub hx hb dX0_coverMissed_82 ?_
  refine lv_topi (fun x_83 ex_83 => ?_)
  have zk := nm_at zk ex_83
  refine lv_istore (lv' := [(5, .int x_83), (4, .int x_72), (3, .int x_38), (0, .ref (ad (gG g))), (1, .ref (ad (gM g k))), (2, .int p2)]) hx hb dX0_coverMissed_83 hl (by decide) rfl (fun ls hl => ?_)
  have hls := hl.1
  refine lv_iload hx hb dX0_coverMissed_85 (lv_at hl 0 rfl) ?_
  refine lv_if_le (tgt := 102) hx hb dX0_coverMissed_87 (by decide) (fun c_87 => ?_) (fun c_87 => ?_)
  · have zk := zk.trans (if_pos c_87)
    refine lv_aload_n hx hb dX0_coverMissed_102 rfl (lv_at hl 4 rfl) ?_
    refine lv_dup hx hb dX0_coverMissed_103 rfl ?_
    refine x_getN B hW (hqM hg hk) (cC_M hg hk) cls2 hin_X2 11 (by decide) (v := .int (S_66 (gM g k) 11)) rfl nl_X0_110 dX0_coverMissed_104 ?_
    refine lv_iload hx hb dX0_coverMissed_107 (lv_at hl 1 rfl) ?_
    refine lv_iadd hx hb dX0_coverMissed_109 ?_
    refine x_putN B hW (hqM hg hk) cls2 hin_X2 11 (by decide) (cC_M hg hk) rfl (ty := .int) (by decide +kernel) rfl rfl (Nat.le_of_ble_eq_true rfl) (j := 11) (pM_11 hg hk) nl_X0_110 dX0_coverMissed_110 (fun H locs S_110 he_110 hW => ?_)
    have zk := nm_at zk he_110
    exact x_vret B hW zk.symm dX0_coverMissed_113
  · have zk := zk.trans (if_neg c_87)
    refine lv_aload_n hx hb dX0_coverMissed_90 rfl (lv_at hl 3 rfl) ?_
    refine lv_aload_n hx hb dX0_coverMissed_91 rfl (lv_at hl 4 rfl) ?_
    refine lv_iload hx hb dX0_coverMissed_92 (lv_at hl 1 rfl) ?_
    refine lv_iload hx hb dX0_coverMissed_94 (lv_at hl 0 rfl) ?_
    refine x_callv hW (x_runV B hW (As := [.ref (ad (gM g k)), .int x_72, .int x_83]) (rest := []) (hqG hg) (cC_G hg) cls0 (c_X0_shareRest (D := D) (ad := ad) l _ S_66 g k x_72 x_83 hg hk) (cwV 3 B.1.2.2.2.2 gX0_coverMissed_X0_shareRest rfl rfl rfl hd_X0_shareRest ⟨Nat.le_of_ble_eq_true rfl, Nat.le_of_ble_eq_true rfl⟩) rfl hls (Nat.le_of_ble_eq_true rfl) dX0_coverMissed_96 ⟨Nat.zero_le _, Nat.zero_le _⟩) (fun S_96 H locs he hW => ?_)
    have he_96 := he
    have zk := nm_at zk he_96
    refine lv_goto (tgt := 113) hx hb dX0_coverMissed_99 (by decide) ?_
    exact x_vret B hW zk.symm dX0_coverMissed_113

def x_X0_settleDue (S : vS) (g k : Nat) : vS := nm (x_X2_due S g k) (fun r_1 => nm (st S (gG g) 8 ((S (gG g) 8) + (S (gM g k) 5))) (fun S_15 => if (bz (S_15 (gM g k) 8)) = 0 then nm (st S_15 (gG g) 9 ((S_15 (gG g) 9) + r_1)) (fun S_41 => nm (x_X2_lessenLoan S_41 g k) (fun S_45 => S_45)) else nm (x_X0_coverMissed S_15 g k r_1) (fun S_28 => nm (x_X2_lessenLoan S_28 g k) (fun S_45 => S_45))))
theorem hd_X0_settleDue : yX0_settleDue.cls = RX0 ∧ yX0_settleDue.cls ≠ "java/lang/invoke/MethodHandle" ∧ yX0_settleDue.cls ≠ "java/lang/invoke/VarHandle" ∧ (parseMethodDescriptor yX0_settleDue.desc).map (fun d => d.parameters.length) = some 1 := by decide +kernel
set_option maxHeartbeats 4000000 in
set_option maxRecDepth 100000 in
theorem c_X0_settleDue {D : va_G} {ad : Nat → Nat} (l : Launch) (sz : Nat) (S : vS) (g k : Nat) (hg : g < 8) (hk : k < 8) : Met l yX0_settleDue wsX0_settleDue (rmD 2) (pW D 157 (cC D ad) ad sz S [.ref (ad (gG g)), .ref (ad (gM g k))]) (va_Qv (fun (S1 : vS) => S1 = (x_X0_settleDue S g k)) (bW D 157 (cC D ad) ad (aW 157 ad sz)) (aW 157 ad sz)) 0 0 (aW 157 ad sz) := by
  refine x_met (own := RX0) (cc := cX0_settleDue) (maxL := 3) (ret := none) (Qc := fun A => va_Qv (fun (S1 : vS) => S1 = (x_X0_settleDue S g k)) (bW D 157 (cC D ad) ad A) A) rfl ⟨by decide +kernel, rfl, Nat.le_of_ble_eq_true rfl⟩ ?_
  intro p e s mm args below meth c A ls B hW hl hls
  have hx := B.1.1
  have hb := B.1.2.1
  have hin_X0 : ∀ w ∈ wsX00, w ∈ wsX0_settleDue := fun w h => List.mem_cons_of_mem _ (List.mem_append_left _ (List.mem_append_right _ h))
  have hin_X2 : ∀ w ∈ wsX20, w ∈ wsX0_settleDue := fun w h => List.mem_cons_of_mem _ (List.mem_append_right _ h)
  have k_53 := B.1.2.2.2.2 (.fieldLink RX0 53 "JointLoans$Group" "bankInterest" "I") (by decide +kernel)
  have k_56 := B.1.2.2.2.2 (.fieldLink RX0 56 "JointLoans$Group" "bankPaid" "I") (by decide +kernel)
  have ki_X2 := B.1.2.2.2.2 (.initialized RX2) (by decide +kernel)
  have kn_X2_due := B.1.2.2.2.2 (.instanceMethod yX2_due) (by decide +kernel)
  have kn_X2_lessenLoan := B.1.2.2.2.2 (.instanceMethod yX2_lessenLoan) (by decide +kernel)
  have kv_X2_due := B.1.2.2.2.2 (.selects RX2 yX2_due yX2_due) (by decide +kernel)
  have kv_X2_lessenLoan := B.1.2.2.2.2 (.selects RX2 yX2_lessenLoan yX2_lessenLoan) (by decide +kernel)
  have zk := x_X0_settleDue.eq_1 S g k
  have hl : lv_has ls 3 [(0, .ref (ad (gG g))), (1, .ref (ad (gM g k)))] := hl
  refine lv_aload_n hx hb dX0_settleDue_0 rfl (lv_at hl 1 rfl) ?_
  refine x_calli hW (x_runVN B hW (As := []) (rest := []) (host := RX4) (hqM hg hk) (cC_M hg hk) cls2 (c_X2_due (D := D) (ad := ad) l _ S g k hg hk) ⟨va_cnB 0 B.1.2.2.2.2 gX0_settleDue_X2_due_n143 rfl rfl rfl (B.2.1.2 _ nl_X0_143) ki_X2 hd_X2_due.2 ⟨Nat.le_of_ble_eq_true rfl, Nat.le_of_ble_eq_true rfl⟩, kn_X2_due, kv_X2_due⟩ rfl hls (Nat.le_of_ble_eq_true rfl) dX0_settleDue_1 ⟨Nat.zero_le _, Nat.zero_le _⟩) (fun r_1 S_1 H locs he hW => ?_)
  obtain ⟨hr_1, hs⟩ := he
  rw [hs] at hW
  have zk := nm_at zk hr_1
  refine lv_istore_n (lv' := [(2, .int r_1), (0, .ref (ad (gG g))), (1, .ref (ad (gM g k)))]) hx hb dX0_settleDue_4 rfl hl (by decide) rfl (fun ls hl => ?_)
  have hls := hl.1
  refine lv_aload_n hx hb dX0_settleDue_5 rfl (lv_at hl 1 rfl) ?_
  refine lv_dup hx hb dX0_settleDue_6 rfl ?_
  refine x_get B hW (hqG hg) (cC_G hg) cls0 hin_X0 8 (by decide) (v := .int (S (gG g) 8)) rfl k_53 dX0_settleDue_7 ?_
  refine lv_aload_n hx hb dX0_settleDue_10 rfl (lv_at hl 2 rfl) ?_
  refine x_getN B hW (hqM hg hk) (cC_M hg hk) cls2 hin_X2 5 (by decide) (v := .int (S (gM g k) 5)) rfl nl_X0_146 dX0_settleDue_11 ?_
  refine lv_iadd hx hb dX0_settleDue_14 ?_
  refine x_put B hW (hqG hg) cls0 hin_X0 8 (by decide) (cC_G hg) rfl (ty := .int) (by decide +kernel) rfl rfl (Nat.le_of_ble_eq_true rfl) (j := 8) (pG_8 hg) k_53 dX0_settleDue_15 (fun H locs S_15 he_15 hW => ?_)
  have zk := nm_at zk he_15
  refine lv_aload_n hx hb dX0_settleDue_18 rfl (lv_at hl 2 rfl) ?_
  refine x_getN B hW (hqM hg hk) (cC_M hg hk) cls2 hin_X2 8 (by decide) (v := .int (bz (S_15 (gM g k) 8))) rfl nl_X0_66 dX0_settleDue_19 ?_
  refine lv_if_eq (tgt := 34) hx hb dX0_settleDue_22 (by decide) (fun c_22 => ?_) (fun c_22 => ?_)
  · have zk := zk.trans (if_pos c_22)
    refine lv_aload_n hx hb dX0_settleDue_34 rfl (lv_at hl 1 rfl) ?_
    refine lv_dup hx hb dX0_settleDue_35 rfl ?_
    refine x_get B hW (hqG hg) (cC_G hg) cls0 hin_X0 9 (by decide) (v := .int (S_15 (gG g) 9)) rfl k_56 dX0_settleDue_36 ?_
    refine lv_iload_n hx hb dX0_settleDue_39 rfl (lv_at hl 0 rfl) ?_
    refine lv_iadd hx hb dX0_settleDue_40 ?_
    refine x_put B hW (hqG hg) cls0 hin_X0 9 (by decide) (cC_G hg) rfl (ty := .int) (by decide +kernel) rfl rfl (Nat.le_of_ble_eq_true rfl) (j := 9) (pG_9 hg) k_56 dX0_settleDue_41 (fun H locs S_41 he_41 hW => ?_)
    have zk := nm_at zk he_41
    refine lv_aload_n hx hb dX0_settleDue_44 rfl (lv_at hl 2 rfl) ?_
    refine x_callv hW (x_runVN B hW (As := []) (rest := []) (host := RX4) (hqM hg hk) (cC_M hg hk) cls2 (c_X2_lessenLoan (D := D) (ad := ad) l _ S_41 g k hg hk) ⟨va_cnB 0 B.1.2.2.2.2 gX0_settleDue_X2_lessenLoan_n153 rfl rfl rfl (B.2.1.2 _ nl_X0_153) ki_X2 hd_X2_lessenLoan.2 ⟨Nat.le_of_ble_eq_true rfl, Nat.le_of_ble_eq_true rfl⟩, kn_X2_lessenLoan, kv_X2_lessenLoan⟩ rfl hls (Nat.le_of_ble_eq_true rfl) dX0_settleDue_45 ⟨Nat.zero_le _, Nat.zero_le _⟩) (fun S_45 H locs he hW => ?_)
    have he_45 := he
    have zk := nm_at zk he_45
    exact x_vret B hW zk.symm dX0_settleDue_48
  · have zk := zk.trans (if_neg c_22)
    refine lv_aload_n hx hb dX0_settleDue_25 rfl (lv_at hl 1 rfl) ?_
    refine lv_aload_n hx hb dX0_settleDue_26 rfl (lv_at hl 2 rfl) ?_
    refine lv_iload_n hx hb dX0_settleDue_27 rfl (lv_at hl 0 rfl) ?_
    refine x_callv hW (x_runV B hW (As := [.ref (ad (gM g k)), .int r_1]) (rest := []) (hqG hg) (cC_G hg) cls0 (c_X0_coverMissed (D := D) (ad := ad) l _ S_15 g k r_1 hg hk) (cwV 2 B.1.2.2.2.2 gX0_settleDue_X0_coverMissed rfl rfl rfl hd_X0_coverMissed ⟨Nat.le_of_ble_eq_true rfl, Nat.le_of_ble_eq_true rfl⟩) rfl hls (Nat.le_of_ble_eq_true rfl) dX0_settleDue_28 ⟨Nat.zero_le _, Nat.zero_le _⟩) (fun S_28 H locs he hW => ?_)
    have he_28 := he
    have zk := nm_at zk he_28
    refine lv_goto (tgt := 44) hx hb dX0_settleDue_31 (by decide) ?_
    refine lv_aload_n hx hb dX0_settleDue_44 rfl (lv_at hl 2 rfl) ?_
    refine x_callv hW (x_runVN B hW (As := []) (rest := []) (host := RX4) (hqM hg hk) (cC_M hg hk) cls2 (c_X2_lessenLoan (D := D) (ad := ad) l _ S_28 g k hg hk) ⟨va_cnB 0 B.1.2.2.2.2 gX0_settleDue_X2_lessenLoan_n153 rfl rfl rfl (B.2.1.2 _ nl_X0_153) ki_X2 hd_X2_lessenLoan.2 ⟨Nat.le_of_ble_eq_true rfl, Nat.le_of_ble_eq_true rfl⟩, kn_X2_lessenLoan, kv_X2_lessenLoan⟩ rfl hls (Nat.le_of_ble_eq_true rfl) dX0_settleDue_45 ⟨Nat.zero_le _, Nat.zero_le _⟩) (fun S_45 H locs he hW => ?_)
    have he_45 := he
    have zk := nm_at zk he_45
    exact x_vret B hW zk.symm dX0_settleDue_48

def x_X0_endWeek_L10 : Nat → vS → Nat → Nat → vS
  | 0, S, _, _ => S
  | n + 1, S, g, n3 => if 8 ≤ (nI n3) then nm (x_X0_saveMoney S g) (fun S_49 => nm (st S_49 (gG g) 3 ((S_49 (gG g) 3) + 1)) (fun S_59 => if (S_59 (gS g) 2) ≤ 0 then nm (x_X0_letBeAway S_59 g 0) (fun S_95 => S_95) else if ((S_59 (gG g) 3) - (S_59 (gG g) 3) / (S_59 (gS g) 2) * (S_59 (gS g) 2)) = 0 then nm (x_X0_nextChair S_59 g) (fun r_87 => nm (st S_59 (gG g) 5 r_87) (fun S_90 => nm (x_X0_letBeAway S_90 g 0) (fun S_95 => S_95))) else nm (x_X0_letBeAway S_59 g 0) (fun S_95 => S_95))) else if (bz (S (gM g n3) 1)) = 0 then x_X0_endWeek_L10 n S g ((n3 + 1)) else nm (x_X2_hasLoan S g n3) (fun r_30 => if r_30 = 0 then x_X0_endWeek_L10 n S g ((n3 + 1)) else nm (x_X0_settleDue S g n3) (fun S_39 => x_X0_endWeek_L10 n S_39 g ((n3 + 1))))
def x_X0_endWeek (S : vS) (g : Nat) : vS := x_X0_endWeek_L10 (9) S g (0)
theorem hd_X0_endWeek : yX0_endWeek.cls = RX0 ∧ yX0_endWeek.cls ≠ "java/lang/invoke/MethodHandle" ∧ yX0_endWeek.cls ≠ "java/lang/invoke/VarHandle" ∧ (parseMethodDescriptor yX0_endWeek.desc).map (fun d => d.parameters.length) = some 0 := by decide +kernel
set_option maxHeartbeats 4000000 in
set_option maxRecDepth 100000 in
theorem w_X0_endWeek_L10 {D : va_G} {ad : Nat → Nat} (l : Launch) {p : Program} {e : Env} {s : State} {mm : MethodId} {args : Array Value} {below : List Frame} {meth : Method} {c : Code} {A : Nat → Prop} (B : Cx p mm c cX0_endWeek 5 s args wsX0_endWeek RX0 meth none D) (z : vS) (g : Nat) (hg : g < 8) : ∀ (n : Nat) (n3 : Nat) (S : vS) (H : Heap) (locs : List Loc) (ls : Array Slot), n3 ≤ 8 → n3 + n = 9 → Wd D 157 (cC D ad) ad A s.heap S H locs → lv_has ls 5 [(3, .int (nI n3)), (2, .int 8), (1, .ref (ad (gA g))), (0, .ref (ad (gG g)))] → ls.size = 5 → z = x_X0_endWeek_L10 n S g n3 → W p l e (rmD 3) s mm args below meth c H locs 0 0 (MQ below (va_Qv (fun (S1 : vS) => S1 = z) (bW D 157 (cC D ad) ad A) A) args s 0 0 A) (F0 mm 10 ls []) := by
  have hx := B.1.1
  have hb := B.1.2.1
  have hin_X0 : ∀ w ∈ wsX00, w ∈ wsX0_endWeek := fun w h => List.mem_cons_of_mem _ (List.mem_append_left _ (List.mem_append_right _ h))
  have hin_X2 : ∀ w ∈ wsX20, w ∈ wsX0_endWeek := fun w h => List.mem_cons_of_mem _ (List.mem_append_right _ h)
  have k_11 := B.1.2.2.2.2 (.fieldLink RX0 11 "JointLoans$Group" "members" "[LJointLoans$Member;") (by decide +kernel)
  have k_17 := B.1.2.2.2.2 (.fieldLink RX0 17 "JointLoans$Group" "settings" "[I") (by decide +kernel)
  have k_21 := B.1.2.2.2.2 (.fieldLink RX0 21 "JointLoans$Group" "chair" "I") (by decide +kernel)
  have k_41 := B.1.2.2.2.2 (.fieldLink RX0 41 "JointLoans$Group" "weekNumber" "I") (by decide +kernel)
  have ki_X2 := B.1.2.2.2.2 (.initialized RX2) (by decide +kernel)
  have kn_X2_hasLoan := B.1.2.2.2.2 (.instanceMethod yX2_hasLoan) (by decide +kernel)
  have kv_X2_hasLoan := B.1.2.2.2.2 (.selects RX2 yX2_hasLoan yX2_hasLoan) (by decide +kernel)
  intro n
  induction n with
  | zero =>
    intro n3 S H locs ls hle hsum
    omega
  | succ n ih =>
    intro n3 S H locs ls hle hsum hW hl hls zk
    have zk := zk.trans (x_X0_endWeek_L10.eq_2 _ _ _ _ )
    refine lv_iload_n hx hb dX0_endWeek_10 rfl (lv_at hl 0 rfl) ?_
    refine lv_iload_n hx hb dX0_endWeek_11 rfl (lv_at hl 1 rfl) ?_
    refine lv_icmp_ge (tgt := 48) hx hb dX0_endWeek_12 (by decide) (fun c_12 => ?_) (fun c_12 => ?_)
    · have zk := zk.trans (if_pos c_12)
      refine lv_aload_n hx hb dX0_endWeek_48 rfl (lv_at hl 3 rfl) ?_
      refine x_callv hW (x_runV B hW (As := []) (rest := []) (hqG hg) (cC_G hg) cls0 (c_X0_saveMoney (D := D) (ad := ad) l _ S g hg) (cwV 0 B.1.2.2.2.2 gX0_endWeek_X0_saveMoney rfl rfl rfl hd_X0_saveMoney ⟨Nat.le_of_ble_eq_true rfl, Nat.le_of_ble_eq_true rfl⟩) rfl hls (Nat.le_of_ble_eq_true rfl) dX0_endWeek_49 ⟨Nat.zero_le _, Nat.zero_le _⟩) (fun S_49 H locs he hW => ?_)
      have he_49 := he
      have zk := nm_at zk he_49
      refine lv_aload_n hx hb dX0_endWeek_52 rfl (lv_at hl 3 rfl) ?_
      refine lv_dup hx hb dX0_endWeek_53 rfl ?_
      refine x_get B hW (hqG hg) (cC_G hg) cls0 hin_X0 3 (by decide) (v := .int (S_49 (gG g) 3)) rfl k_41 dX0_endWeek_54 ?_
      refine lv_iconst (v := 1) hx hb dX0_endWeek_57 (by decide) ?_
      refine lv_iadd hx hb dX0_endWeek_58 ?_
      refine x_put B hW (hqG hg) cls0 hin_X0 3 (by decide) (cC_G hg) rfl (ty := .int) (by decide +kernel) rfl rfl (Nat.le_of_ble_eq_true rfl) (j := 3) (pG_3 hg) k_41 dX0_endWeek_59 (fun H locs S_59 he_59 hW => ?_)
      have zk := nm_at zk he_59
      refine lv_aload_n hx hb dX0_endWeek_62 rfl (lv_at hl 3 rfl) ?_
      refine x_get B hW (hqG hg) (cC_G hg) cls0 hin_X0 1 (by decide) (v := .ref (ad (gS g))) rfl k_17 dX0_endWeek_63 ?_
      refine lv_iconst (v := 2) hx hb dX0_endWeek_66 (by decide) ?_
      refine x_iald B hW (hqS hg) (cC_S hg) (isN_lit 2 (by decide)) (by decide) (by decide) dX0_endWeek_67 ?_
      refine lv_if_le (tgt := 93) hx hb dX0_endWeek_68 (by decide) (fun c_68 => ?_) (fun c_68 => ?_)
      · have zk := zk.trans (if_pos c_68)
        refine lv_aload_n hx hb dX0_endWeek_93 rfl (lv_at hl 3 rfl) ?_
        refine lv_iconst (v := 0) hx hb dX0_endWeek_94 (by decide) ?_
        refine x_callv hW (x_runV B hW (As := [.int 0]) (rest := []) (hqG hg) (cC_G hg) cls0 (c_X0_letBeAway (D := D) (ad := ad) l _ S_59 g 0 hg) (cwV 1 B.1.2.2.2.2 gX0_endWeek_X0_letBeAway rfl rfl rfl hd_X0_letBeAway ⟨Nat.le_of_ble_eq_true rfl, Nat.le_of_ble_eq_true rfl⟩) rfl hls (Nat.le_of_ble_eq_true rfl) dX0_endWeek_95 ⟨Nat.zero_le _, Nat.zero_le _⟩) (fun S_95 H locs he hW => ?_)
        have he_95 := he
        have zk := nm_at zk he_95
        exact x_vret B hW zk.symm dX0_endWeek_98
      · have zk := zk.trans (if_neg c_68)
        refine lv_aload_n hx hb dX0_endWeek_71 rfl (lv_at hl 3 rfl) ?_
        refine x_get B hW (hqG hg) (cC_G hg) cls0 hin_X0 3 (by decide) (v := .int (S_59 (gG g) 3)) rfl k_41 dX0_endWeek_72 ?_
        refine lv_aload_n hx hb dX0_endWeek_75 rfl (lv_at hl 3 rfl) ?_
        refine x_get B hW (hqG hg) (cC_G hg) cls0 hin_X0 1 (by decide) (v := .ref (ad (gS g))) rfl k_17 dX0_endWeek_76 ?_
        refine lv_iconst (v := 2) hx hb dX0_endWeek_79 (by decide) ?_
        refine x_iald B hW (hqS hg) (cC_S hg) (isN_lit 2 (by decide)) (by decide) (by decide) dX0_endWeek_80 ?_
        refine lv_irem hx hb dX0_endWeek_81 (nz_of_nle c_68) ?_
        refine lv_if_ne (tgt := 93) hx hb dX0_endWeek_82 (by decide) (fun c_82 => ?_) (fun c_82 => ?_)
        · have zk := zk.trans (if_neg c_82)
          refine lv_aload_n hx hb dX0_endWeek_93 rfl (lv_at hl 3 rfl) ?_
          refine lv_iconst (v := 0) hx hb dX0_endWeek_94 (by decide) ?_
          refine x_callv hW (x_runV B hW (As := [.int 0]) (rest := []) (hqG hg) (cC_G hg) cls0 (c_X0_letBeAway (D := D) (ad := ad) l _ S_59 g 0 hg) (cwV 1 B.1.2.2.2.2 gX0_endWeek_X0_letBeAway rfl rfl rfl hd_X0_letBeAway ⟨Nat.le_of_ble_eq_true rfl, Nat.le_of_ble_eq_true rfl⟩) rfl hls (Nat.le_of_ble_eq_true rfl) dX0_endWeek_95 ⟨Nat.zero_le _, Nat.zero_le _⟩) (fun S_95 H locs he hW => ?_)
          have he_95 := he
          have zk := nm_at zk he_95
          exact x_vret B hW zk.symm dX0_endWeek_98
        · have zk := zk.trans (if_pos c_82)
          refine lv_aload_n hx hb dX0_endWeek_85 rfl (lv_at hl 3 rfl) ?_
          refine lv_aload_n hx hb dX0_endWeek_86 rfl (lv_at hl 3 rfl) ?_
          refine x_calli hW (x_runV B hW (As := []) (rest := .ref (ad (gG g)) :: []) (hqG hg) (cC_G hg) cls0 (c_X0_nextChair (D := D) (ad := ad) l _ S_59 g hg) (cwV 0 B.1.2.2.2.2 gX0_endWeek_X0_nextChair rfl rfl rfl hd_X0_nextChair ⟨Nat.le_of_ble_eq_true rfl, Nat.le_of_ble_eq_true rfl⟩) rfl hls (Nat.le_of_ble_eq_true rfl) dX0_endWeek_87 ⟨Nat.zero_le _, Nat.zero_le _⟩) (fun r_87 S_87 H locs he hW => ?_)
          obtain ⟨hr_87, hs⟩ := he
          rw [hs] at hW
          have zk := nm_at zk hr_87
          refine x_put B hW (hqG hg) cls0 hin_X0 5 (by decide) (cC_G hg) rfl (ty := .int) (by decide +kernel) rfl rfl (Nat.le_of_ble_eq_true rfl) (j := 5) (pG_5 hg) k_21 dX0_endWeek_90 (fun H locs S_90 he_90 hW => ?_)
          have zk := nm_at zk he_90
          refine lv_aload_n hx hb dX0_endWeek_93 rfl (lv_at hl 3 rfl) ?_
          refine lv_iconst (v := 0) hx hb dX0_endWeek_94 (by decide) ?_
          refine x_callv hW (x_runV B hW (As := [.int 0]) (rest := []) (hqG hg) (cC_G hg) cls0 (c_X0_letBeAway (D := D) (ad := ad) l _ S_90 g 0 hg) (cwV 1 B.1.2.2.2.2 gX0_endWeek_X0_letBeAway rfl rfl rfl hd_X0_letBeAway ⟨Nat.le_of_ble_eq_true rfl, Nat.le_of_ble_eq_true rfl⟩) rfl hls (Nat.le_of_ble_eq_true rfl) dX0_endWeek_95 ⟨Nat.zero_le _, Nat.zero_le _⟩) (fun S_95 H locs he hW => ?_)
          have he_95 := he
          have zk := nm_at zk he_95
          exact x_vret B hW zk.symm dX0_endWeek_98
    · have zk := zk.trans (if_neg c_12)
      have hb_c_12 : n3 < 8 := nI_of_nle (by decide) c_12 (by omega)
      refine lv_aload_n hx hb dX0_endWeek_15 rfl (lv_at hl 2 rfl) ?_
      refine lv_iload_n hx hb dX0_endWeek_16 rfl (lv_at hl 0 rfl) ?_
      refine x_aald B hW (hqA hg) (cC_A hg) (k := 2) rfl (isN_nI hb_c_12 (by decide)) (by decide) (by decide) (v := .ref (ad (gM g n3))) rfl dX0_endWeek_17 ?_
      refine lv_astore (lv' := [(4, .ref (ad (gM g n3))), (3, .int (nI n3)), (2, .int 8), (1, .ref (ad (gA g))), (0, .ref (ad (gG g)))]) hx hb dX0_endWeek_18 hl (by decide) rfl (fun ls hl => ?_)
      have hls := hl.1
      refine lv_aload hx hb dX0_endWeek_20 (lv_at hl 0 rfl) ?_
      refine x_getN B hW (hqM hg hb_c_12) (cC_M hg hb_c_12) cls2 hin_X2 1 (by decide) (v := .int (bz (S (gM g n3) 1))) rfl nl_X0_62 dX0_endWeek_22 ?_
      refine lv_if_eq (tgt := 42) hx hb dX0_endWeek_25 (by decide) (fun c_25 => ?_) (fun c_25 => ?_)
      · have zk := zk.trans (if_pos c_25)
        refine lv_iinc (v := (nI (n3 + 1))) (lv' := [(3, .int (nI (n3 + 1))), (4, .ref (ad (gM g n3))), (2, .int 8), (1, .ref (ad (gA g))), (0, .ref (ad (gG g)))]) hx hb dX0_endWeek_42 hl (k := 1) rfl (nI_1 _) (by decide) rfl (fun ls hl => ?_)
        have hls := hl.1
        refine lv_goto (tgt := 10) hx hb dX0_endWeek_45 (by decide) ?_
        exact ih ((n3 + 1)) S _ _ _ (show (n3 + 1) ≤ 8 by omega) (show (n3 + 1) + n = 9 by omega) hW (lv_sub hl [0, 2, 3, 4] rfl) hls zk
      · have zk := zk.trans (if_neg c_25)
        refine lv_aload hx hb dX0_endWeek_28 (lv_at hl 0 rfl) ?_
        refine x_calli hW (x_runVN B hW (As := []) (rest := []) (host := RX4) (hqM hg hb_c_12) (cC_M hg hb_c_12) cls2 (c_X2_hasLoan (D := D) (ad := ad) l _ S g n3 hg hb_c_12) ⟨va_cnB 0 B.1.2.2.2.2 gX0_endWeek_X2_hasLoan_n76 rfl rfl rfl (B.2.1.2 _ nl_X0_76) ki_X2 hd_X2_hasLoan.2 ⟨Nat.le_of_ble_eq_true rfl, Nat.le_of_ble_eq_true rfl⟩, kn_X2_hasLoan, kv_X2_hasLoan⟩ rfl hls (Nat.le_of_ble_eq_true rfl) dX0_endWeek_30 ⟨Nat.zero_le _, Nat.zero_le _⟩) (fun r_30 S_30 H locs he hW => ?_)
        obtain ⟨hr_30, hs, hz_30⟩ := he
        rw [hs] at hW
        have zk := nm_at zk hr_30
        refine lv_if_eq (tgt := 42) hx hb dX0_endWeek_33 (by decide) (fun c_33 => ?_) (fun c_33 => ?_)
        · have zk := zk.trans (if_pos c_33)
          refine lv_iinc (v := (nI (n3 + 1))) (lv' := [(3, .int (nI (n3 + 1))), (4, .ref (ad (gM g n3))), (2, .int 8), (1, .ref (ad (gA g))), (0, .ref (ad (gG g)))]) hx hb dX0_endWeek_42 hl (k := 1) rfl (nI_1 _) (by decide) rfl (fun ls hl => ?_)
          have hls := hl.1
          refine lv_goto (tgt := 10) hx hb dX0_endWeek_45 (by decide) ?_
          exact ih ((n3 + 1)) S _ _ _ (show (n3 + 1) ≤ 8 by omega) (show (n3 + 1) + n = 9 by omega) hW (lv_sub hl [0, 2, 3, 4] rfl) hls zk
        · have zk := zk.trans (if_neg c_33)
          refine lv_aload_n hx hb dX0_endWeek_36 rfl (lv_at hl 4 rfl) ?_
          refine lv_aload hx hb dX0_endWeek_37 (lv_at hl 0 rfl) ?_
          refine x_callv hW (x_runV B hW (As := [.ref (ad (gM g n3))]) (rest := []) (hqG hg) (cC_G hg) cls0 (c_X0_settleDue (D := D) (ad := ad) l _ S g n3 hg hb_c_12) (cwV 1 B.1.2.2.2.2 gX0_endWeek_X0_settleDue rfl rfl rfl hd_X0_settleDue ⟨Nat.le_of_ble_eq_true rfl, Nat.le_of_ble_eq_true rfl⟩) rfl hls (Nat.le_of_ble_eq_true rfl) dX0_endWeek_39 ⟨Nat.zero_le _, Nat.zero_le _⟩) (fun S_39 H locs he hW => ?_)
          have he_39 := he
          have zk := nm_at zk he_39
          refine lv_iinc (v := (nI (n3 + 1))) (lv' := [(3, .int (nI (n3 + 1))), (4, .ref (ad (gM g n3))), (2, .int 8), (1, .ref (ad (gA g))), (0, .ref (ad (gG g)))]) hx hb dX0_endWeek_42 hl (k := 1) rfl (nI_1 _) (by decide) rfl (fun ls hl => ?_)
          have hls := hl.1
          refine lv_goto (tgt := 10) hx hb dX0_endWeek_45 (by decide) ?_
          exact ih ((n3 + 1)) S_39 _ _ _ (show (n3 + 1) ≤ 8 by omega) (show (n3 + 1) + n = 9 by omega) hW (lv_sub hl [0, 2, 3, 4] rfl) hls zk
set_option maxHeartbeats 4000000 in
set_option maxRecDepth 100000 in
theorem c_X0_endWeek {D : va_G} {ad : Nat → Nat} (l : Launch) (sz : Nat) (S : vS) (g : Nat) (hg : g < 8) : Met l yX0_endWeek wsX0_endWeek (rmD 3) (pW D 157 (cC D ad) ad sz S [.ref (ad (gG g))]) (va_Qv (fun (S1 : vS) => S1 = (x_X0_endWeek S g)) (bW D 157 (cC D ad) ad (aW 157 ad sz)) (aW 157 ad sz)) 0 0 (aW 157 ad sz) := by
  refine x_met (own := RX0) (cc := cX0_endWeek) (maxL := 5) (ret := none) (Qc := fun A => va_Qv (fun (S1 : vS) => S1 = (x_X0_endWeek S g)) (bW D 157 (cC D ad) ad A) A) rfl ⟨by decide +kernel, rfl, Nat.le_of_ble_eq_true rfl⟩ ?_
  intro p e s mm args below meth c A ls B hW hl hls
  have hx := B.1.1
  have hb := B.1.2.1
  have hin_X0 : ∀ w ∈ wsX00, w ∈ wsX0_endWeek := fun w h => List.mem_cons_of_mem _ (List.mem_append_left _ (List.mem_append_right _ h))
  have hin_X2 : ∀ w ∈ wsX20, w ∈ wsX0_endWeek := fun w h => List.mem_cons_of_mem _ (List.mem_append_right _ h)
  have k_11 := B.1.2.2.2.2 (.fieldLink RX0 11 "JointLoans$Group" "members" "[LJointLoans$Member;") (by decide +kernel)
  have k_17 := B.1.2.2.2.2 (.fieldLink RX0 17 "JointLoans$Group" "settings" "[I") (by decide +kernel)
  have k_21 := B.1.2.2.2.2 (.fieldLink RX0 21 "JointLoans$Group" "chair" "I") (by decide +kernel)
  have k_41 := B.1.2.2.2.2 (.fieldLink RX0 41 "JointLoans$Group" "weekNumber" "I") (by decide +kernel)
  have ki_X2 := B.1.2.2.2.2 (.initialized RX2) (by decide +kernel)
  have kn_X2_hasLoan := B.1.2.2.2.2 (.instanceMethod yX2_hasLoan) (by decide +kernel)
  have kv_X2_hasLoan := B.1.2.2.2.2 (.selects RX2 yX2_hasLoan yX2_hasLoan) (by decide +kernel)
  have zk := x_X0_endWeek.eq_1 S g
  have hl : lv_has ls 5 [(0, .ref (ad (gG g)))] := hl
  refine lv_aload_n hx hb dX0_endWeek_0 rfl (lv_at hl 0 rfl) ?_
  refine x_get B hW (hqG hg) (cC_G hg) cls0 hin_X0 0 (by decide) (v := .ref (ad (gA g))) rfl k_11 dX0_endWeek_1 ?_
  refine lv_astore_n (lv' := [(1, .ref (ad (gA g))), (0, .ref (ad (gG g)))]) hx hb dX0_endWeek_4 rfl hl (by decide) rfl (fun ls hl => ?_)
  have hls := hl.1
  refine lv_aload_n hx hb dX0_endWeek_5 rfl (lv_at hl 0 rfl) ?_
  refine x_alen B hW (hqA hg) (cC_A hg) (k := 2) rfl (v := 8) rfl dX0_endWeek_6 ?_
  refine lv_istore_n (lv' := [(2, .int 8), (1, .ref (ad (gA g))), (0, .ref (ad (gG g)))]) hx hb dX0_endWeek_7 rfl hl (by decide) rfl (fun ls hl => ?_)
  have hls := hl.1
  refine lv_iconst (v := 0) hx hb dX0_endWeek_8 (by decide) ?_
  refine lv_istore_n (lv' := [(3, .int 0), (2, .int 8), (1, .ref (ad (gA g))), (0, .ref (ad (gG g)))]) hx hb dX0_endWeek_9 rfl hl (by decide) rfl (fun ls hl => ?_)
  have hls := hl.1
  exact w_X0_endWeek_L10 l B  _ g hg (9) (0) S _ _ _ (show 0 ≤ 8 by omega) (show 0 + (9) = 9 by omega) hW (lv_sub hl [0, 1, 2, 3] rfl) hls zk

def x_X0_loansLeft_L13 : Nat → vS → Nat → Nat → Int32 → Int32
  | 0, S, _, _, _ => 0
  | n + 1, S, g, n4, v1 => if 8 ≤ (nI n4) then v1 else nm ((v1 + (S (gM g n4) 6))) (fun x_32 => x_X0_loansLeft_L13 n S g ((n4 + 1)) (x_32))
def x_X0_loansLeft (S : vS) (g : Nat) : Int32 := x_X0_loansLeft_L13 (9) S g (0) (0)
theorem hd_X0_loansLeft : yX0_loansLeft.cls = RX0 ∧ yX0_loansLeft.cls ≠ "java/lang/invoke/MethodHandle" ∧ yX0_loansLeft.cls ≠ "java/lang/invoke/VarHandle" ∧ (parseMethodDescriptor yX0_loansLeft.desc).map (fun d => d.parameters.length) = some 0 := by decide +kernel
set_option maxHeartbeats 4000000 in
set_option maxRecDepth 100000 in
theorem w_X0_loansLeft_L13 {D : va_G} {ad : Nat → Nat} (l : Launch) {p : Program} {e : Env} {s : State} {mm : MethodId} {args : Array Value} {below : List Frame} {meth : Method} {c : Code} {A : Nat → Prop} (B : Cx p mm c cX0_loansLeft 6 s args wsX0_loansLeft RX0 meth (some .int) D) (S : vS) (z : Int32) (g : Nat) (hg : g < 8) : ∀ (n : Nat) (n4 : Nat) (v1 : Int32) (H : Heap) (locs : List Loc) (ls : Array Slot), n4 ≤ 8 → n4 + n = 9 → Wd D 157 (cC D ad) ad A s.heap S H locs → lv_has ls 6 [(4, .int (nI n4)), (3, .int 8), (2, .ref (ad (gA g))), (1, .int v1)] → ls.size = 6 → z = x_X0_loansLeft_L13 n S g n4 v1 → W p l e (rmD 0) s mm args below meth c H locs 0 0 (MQ below (va_Qi (fun (r : Int32) (S1 : vS) => r = z ∧ S1 = S) (bW D 157 (cC D ad) ad A) A) args s 0 0 A) (F0 mm 13 ls []) := by
  have hx := B.1.1
  have hb := B.1.2.1
  have hin_X0 : ∀ w ∈ wsX00, w ∈ wsX0_loansLeft := fun w h => List.mem_cons_of_mem _ (List.mem_append_left _ (List.mem_append_right _ h))
  have hin_X2 : ∀ w ∈ wsX20, w ∈ wsX0_loansLeft := fun w h => List.mem_cons_of_mem _ (List.mem_append_right _ h)
  have k_11 := B.1.2.2.2.2 (.fieldLink RX0 11 "JointLoans$Group" "members" "[LJointLoans$Member;") (by decide +kernel)
  intro n
  induction n with
  | zero =>
    intro n4 v1 H locs ls hle hsum
    omega
  | succ n ih =>
    intro n4 v1 H locs ls hle hsum hW hl hls zk
    have zk := zk.trans (x_X0_loansLeft_L13.eq_2 _ _ _ _ _ )
    refine lv_iload hx hb dX0_loansLeft_13 (lv_at hl 0 rfl) ?_
    refine lv_iload_n hx hb dX0_loansLeft_15 rfl (lv_at hl 1 rfl) ?_
    refine lv_icmp_ge (tgt := 39) hx hb dX0_loansLeft_16 (by decide) (fun c_16 => ?_) (fun c_16 => ?_)
    · have zk := zk.trans (if_pos c_16)
      refine lv_iload_n hx hb dX0_loansLeft_39 rfl (lv_at hl 3 rfl) ?_
      exact x_iret B hW ⟨zk.symm, rfl⟩ dX0_loansLeft_40
    · have zk := zk.trans (if_neg c_16)
      have hb_c_16 : n4 < 8 := nI_of_nle (by decide) c_16 (by omega)
      refine lv_aload_n hx hb dX0_loansLeft_19 rfl (lv_at hl 2 rfl) ?_
      refine lv_iload hx hb dX0_loansLeft_20 (lv_at hl 0 rfl) ?_
      refine x_aald B hW (hqA hg) (cC_A hg) (k := 2) rfl (isN_nI hb_c_16 (by decide)) (by decide) (by decide) (v := .ref (ad (gM g n4))) rfl dX0_loansLeft_22 ?_
      refine lv_astore (lv' := [(5, .ref (ad (gM g n4))), (4, .int (nI n4)), (3, .int 8), (2, .ref (ad (gA g))), (1, .int v1)]) hx hb dX0_loansLeft_23 hl (by decide) rfl (fun ls hl => ?_)
      have hls := hl.1
      refine lv_iload_n hx hb dX0_loansLeft_25 rfl (lv_at hl 4 rfl) ?_
      refine lv_aload hx hb dX0_loansLeft_26 (lv_at hl 0 rfl) ?_
      refine x_getN B hW (hqM hg hb_c_16) (cC_M hg hb_c_16) cls2 hin_X2 6 (by decide) (v := .int (S (gM g n4) 6)) rfl nl_X0_167 dX0_loansLeft_28 ?_
      refine lv_iadd hx hb dX0_loansLeft_31 ?_
      refine lv_topi (fun x_32 ex_32 => ?_)
      have zk := nm_at zk ex_32
      refine lv_istore_n (lv' := [(1, .int x_32), (5, .ref (ad (gM g n4))), (4, .int (nI n4)), (3, .int 8), (2, .ref (ad (gA g)))]) hx hb dX0_loansLeft_32 rfl hl (by decide) rfl (fun ls hl => ?_)
      have hls := hl.1
      refine lv_iinc (v := (nI (n4 + 1))) (lv' := [(4, .int (nI (n4 + 1))), (1, .int x_32), (5, .ref (ad (gM g n4))), (3, .int 8), (2, .ref (ad (gA g)))]) hx hb dX0_loansLeft_33 hl (k := 2) rfl (nI_1 _) (by decide) rfl (fun ls hl => ?_)
      have hls := hl.1
      refine lv_goto (tgt := 13) hx hb dX0_loansLeft_36 (by decide) ?_
      exact ih ((n4 + 1)) (x_32)  _ _ _ (show (n4 + 1) ≤ 8 by omega) (show (n4 + 1) + n = 9 by omega) hW (lv_sub hl [0, 3, 4, 1] rfl) hls zk
set_option maxHeartbeats 4000000 in
set_option maxRecDepth 100000 in
theorem c_X0_loansLeft {D : va_G} {ad : Nat → Nat} (l : Launch) (sz : Nat) (S : vS) (g : Nat) (hg : g < 8) : Met l yX0_loansLeft wsX0_loansLeft (rmD 0) (pW D 157 (cC D ad) ad sz S [.ref (ad (gG g))]) (va_Qi (fun (r : Int32) (S1 : vS) => r = (x_X0_loansLeft S g) ∧ S1 = S) (bW D 157 (cC D ad) ad (aW 157 ad sz)) (aW 157 ad sz)) 0 0 (aW 157 ad sz) := by
  refine x_met (own := RX0) (cc := cX0_loansLeft) (maxL := 6) (ret := (some .int)) (Qc := fun A => va_Qi (fun (r : Int32) (S1 : vS) => r = (x_X0_loansLeft S g) ∧ S1 = S) (bW D 157 (cC D ad) ad A) A) rfl ⟨by decide +kernel, rfl, Nat.le_of_ble_eq_true rfl⟩ ?_
  intro p e s mm args below meth c A ls B hW hl hls
  have hx := B.1.1
  have hb := B.1.2.1
  have hin_X0 : ∀ w ∈ wsX00, w ∈ wsX0_loansLeft := fun w h => List.mem_cons_of_mem _ (List.mem_append_left _ (List.mem_append_right _ h))
  have hin_X2 : ∀ w ∈ wsX20, w ∈ wsX0_loansLeft := fun w h => List.mem_cons_of_mem _ (List.mem_append_right _ h)
  have k_11 := B.1.2.2.2.2 (.fieldLink RX0 11 "JointLoans$Group" "members" "[LJointLoans$Member;") (by decide +kernel)
  have zk := x_X0_loansLeft.eq_1 S g
  have hl : lv_has ls 6 [(0, .ref (ad (gG g)))] := hl
  refine lv_iconst (v := 0) hx hb dX0_loansLeft_0 (by decide) ?_
  refine lv_istore_n (lv' := [(1, .int 0), (0, .ref (ad (gG g)))]) hx hb dX0_loansLeft_1 rfl hl (by decide) rfl (fun ls hl => ?_)
  have hls := hl.1
  refine lv_aload_n hx hb dX0_loansLeft_2 rfl (lv_at hl 1 rfl) ?_
  refine x_get B hW (hqG hg) (cC_G hg) cls0 hin_X0 0 (by decide) (v := .ref (ad (gA g))) rfl k_11 dX0_loansLeft_3 ?_
  refine lv_astore_n (lv' := [(2, .ref (ad (gA g))), (1, .int 0), (0, .ref (ad (gG g)))]) hx hb dX0_loansLeft_6 rfl hl (by decide) rfl (fun ls hl => ?_)
  have hls := hl.1
  refine lv_aload_n hx hb dX0_loansLeft_7 rfl (lv_at hl 0 rfl) ?_
  refine x_alen B hW (hqA hg) (cC_A hg) (k := 2) rfl (v := 8) rfl dX0_loansLeft_8 ?_
  refine lv_istore_n (lv' := [(3, .int 8), (2, .ref (ad (gA g))), (1, .int 0), (0, .ref (ad (gG g)))]) hx hb dX0_loansLeft_9 rfl hl (by decide) rfl (fun ls hl => ?_)
  have hls := hl.1
  refine lv_iconst (v := 0) hx hb dX0_loansLeft_10 (by decide) ?_
  refine lv_istore (lv' := [(4, .int 0), (3, .int 8), (2, .ref (ad (gA g))), (1, .int 0), (0, .ref (ad (gG g)))]) hx hb dX0_loansLeft_11 hl (by decide) rfl (fun ls hl => ?_)
  have hls := hl.1
  exact w_X0_loansLeft_L13 l B S _ g hg (9) (0) (0)  _ _ _ (show 0 ≤ 8 by omega) (show 0 + (9) = 9 by omega) hW (lv_sub hl [0, 1, 2, 3] rfl) hls zk

def x_X0_fundDebts_L13 : Nat → vS → Nat → Nat → Int32 → Int32
  | 0, S, _, _, _ => 0
  | n + 1, S, g, n4, v1 => if 8 ≤ (nI n4) then v1 else nm ((v1 + (S (gM g n4) 12))) (fun x_32 => x_X0_fundDebts_L13 n S g ((n4 + 1)) (x_32))
def x_X0_fundDebts (S : vS) (g : Nat) : Int32 := x_X0_fundDebts_L13 (9) S g (0) (0)
theorem hd_X0_fundDebts : yX0_fundDebts.cls = RX0 ∧ yX0_fundDebts.cls ≠ "java/lang/invoke/MethodHandle" ∧ yX0_fundDebts.cls ≠ "java/lang/invoke/VarHandle" ∧ (parseMethodDescriptor yX0_fundDebts.desc).map (fun d => d.parameters.length) = some 0 := by decide +kernel
set_option maxHeartbeats 4000000 in
set_option maxRecDepth 100000 in
theorem w_X0_fundDebts_L13 {D : va_G} {ad : Nat → Nat} (l : Launch) {p : Program} {e : Env} {s : State} {mm : MethodId} {args : Array Value} {below : List Frame} {meth : Method} {c : Code} {A : Nat → Prop} (B : Cx p mm c cX0_fundDebts 6 s args wsX0_fundDebts RX0 meth (some .int) D) (S : vS) (z : Int32) (g : Nat) (hg : g < 8) : ∀ (n : Nat) (n4 : Nat) (v1 : Int32) (H : Heap) (locs : List Loc) (ls : Array Slot), n4 ≤ 8 → n4 + n = 9 → Wd D 157 (cC D ad) ad A s.heap S H locs → lv_has ls 6 [(4, .int (nI n4)), (3, .int 8), (2, .ref (ad (gA g))), (1, .int v1)] → ls.size = 6 → z = x_X0_fundDebts_L13 n S g n4 v1 → W p l e (rmD 0) s mm args below meth c H locs 0 0 (MQ below (va_Qi (fun (r : Int32) (S1 : vS) => r = z ∧ S1 = S) (bW D 157 (cC D ad) ad A) A) args s 0 0 A) (F0 mm 13 ls []) := by
  have hx := B.1.1
  have hb := B.1.2.1
  have hin_X0 : ∀ w ∈ wsX00, w ∈ wsX0_fundDebts := fun w h => List.mem_cons_of_mem _ (List.mem_append_left _ (List.mem_append_right _ h))
  have hin_X2 : ∀ w ∈ wsX20, w ∈ wsX0_fundDebts := fun w h => List.mem_cons_of_mem _ (List.mem_append_right _ h)
  have k_11 := B.1.2.2.2.2 (.fieldLink RX0 11 "JointLoans$Group" "members" "[LJointLoans$Member;") (by decide +kernel)
  intro n
  induction n with
  | zero =>
    intro n4 v1 H locs ls hle hsum
    omega
  | succ n ih =>
    intro n4 v1 H locs ls hle hsum hW hl hls zk
    have zk := zk.trans (x_X0_fundDebts_L13.eq_2 _ _ _ _ _ )
    refine lv_iload hx hb dX0_fundDebts_13 (lv_at hl 0 rfl) ?_
    refine lv_iload_n hx hb dX0_fundDebts_15 rfl (lv_at hl 1 rfl) ?_
    refine lv_icmp_ge (tgt := 39) hx hb dX0_fundDebts_16 (by decide) (fun c_16 => ?_) (fun c_16 => ?_)
    · have zk := zk.trans (if_pos c_16)
      refine lv_iload_n hx hb dX0_fundDebts_39 rfl (lv_at hl 3 rfl) ?_
      exact x_iret B hW ⟨zk.symm, rfl⟩ dX0_fundDebts_40
    · have zk := zk.trans (if_neg c_16)
      have hb_c_16 : n4 < 8 := nI_of_nle (by decide) c_16 (by omega)
      refine lv_aload_n hx hb dX0_fundDebts_19 rfl (lv_at hl 2 rfl) ?_
      refine lv_iload hx hb dX0_fundDebts_20 (lv_at hl 0 rfl) ?_
      refine x_aald B hW (hqA hg) (cC_A hg) (k := 2) rfl (isN_nI hb_c_16 (by decide)) (by decide) (by decide) (v := .ref (ad (gM g n4))) rfl dX0_fundDebts_22 ?_
      refine lv_astore (lv' := [(5, .ref (ad (gM g n4))), (4, .int (nI n4)), (3, .int 8), (2, .ref (ad (gA g))), (1, .int v1)]) hx hb dX0_fundDebts_23 hl (by decide) rfl (fun ls hl => ?_)
      have hls := hl.1
      refine lv_iload_n hx hb dX0_fundDebts_25 rfl (lv_at hl 4 rfl) ?_
      refine lv_aload hx hb dX0_fundDebts_26 (lv_at hl 0 rfl) ?_
      refine x_getN B hW (hqM hg hb_c_16) (cC_M hg hb_c_16) cls2 hin_X2 12 (by decide) (v := .int (S (gM g n4) 12)) rfl nl_X0_116 dX0_fundDebts_28 ?_
      refine lv_iadd hx hb dX0_fundDebts_31 ?_
      refine lv_topi (fun x_32 ex_32 => ?_)
      have zk := nm_at zk ex_32
      refine lv_istore_n (lv' := [(1, .int x_32), (5, .ref (ad (gM g n4))), (4, .int (nI n4)), (3, .int 8), (2, .ref (ad (gA g)))]) hx hb dX0_fundDebts_32 rfl hl (by decide) rfl (fun ls hl => ?_)
      have hls := hl.1
      refine lv_iinc (v := (nI (n4 + 1))) (lv' := [(4, .int (nI (n4 + 1))), (1, .int x_32), (5, .ref (ad (gM g n4))), (3, .int 8), (2, .ref (ad (gA g)))]) hx hb dX0_fundDebts_33 hl (k := 2) rfl (nI_1 _) (by decide) rfl (fun ls hl => ?_)
      have hls := hl.1
      refine lv_goto (tgt := 13) hx hb dX0_fundDebts_36 (by decide) ?_
      exact ih ((n4 + 1)) (x_32)  _ _ _ (show (n4 + 1) ≤ 8 by omega) (show (n4 + 1) + n = 9 by omega) hW (lv_sub hl [0, 3, 4, 1] rfl) hls zk
set_option maxHeartbeats 4000000 in
set_option maxRecDepth 100000 in
theorem c_X0_fundDebts {D : va_G} {ad : Nat → Nat} (l : Launch) (sz : Nat) (S : vS) (g : Nat) (hg : g < 8) : Met l yX0_fundDebts wsX0_fundDebts (rmD 0) (pW D 157 (cC D ad) ad sz S [.ref (ad (gG g))]) (va_Qi (fun (r : Int32) (S1 : vS) => r = (x_X0_fundDebts S g) ∧ S1 = S) (bW D 157 (cC D ad) ad (aW 157 ad sz)) (aW 157 ad sz)) 0 0 (aW 157 ad sz) := by
  refine x_met (own := RX0) (cc := cX0_fundDebts) (maxL := 6) (ret := (some .int)) (Qc := fun A => va_Qi (fun (r : Int32) (S1 : vS) => r = (x_X0_fundDebts S g) ∧ S1 = S) (bW D 157 (cC D ad) ad A) A) rfl ⟨by decide +kernel, rfl, Nat.le_of_ble_eq_true rfl⟩ ?_
  intro p e s mm args below meth c A ls B hW hl hls
  have hx := B.1.1
  have hb := B.1.2.1
  have hin_X0 : ∀ w ∈ wsX00, w ∈ wsX0_fundDebts := fun w h => List.mem_cons_of_mem _ (List.mem_append_left _ (List.mem_append_right _ h))
  have hin_X2 : ∀ w ∈ wsX20, w ∈ wsX0_fundDebts := fun w h => List.mem_cons_of_mem _ (List.mem_append_right _ h)
  have k_11 := B.1.2.2.2.2 (.fieldLink RX0 11 "JointLoans$Group" "members" "[LJointLoans$Member;") (by decide +kernel)
  have zk := x_X0_fundDebts.eq_1 S g
  have hl : lv_has ls 6 [(0, .ref (ad (gG g)))] := hl
  refine lv_iconst (v := 0) hx hb dX0_fundDebts_0 (by decide) ?_
  refine lv_istore_n (lv' := [(1, .int 0), (0, .ref (ad (gG g)))]) hx hb dX0_fundDebts_1 rfl hl (by decide) rfl (fun ls hl => ?_)
  have hls := hl.1
  refine lv_aload_n hx hb dX0_fundDebts_2 rfl (lv_at hl 1 rfl) ?_
  refine x_get B hW (hqG hg) (cC_G hg) cls0 hin_X0 0 (by decide) (v := .ref (ad (gA g))) rfl k_11 dX0_fundDebts_3 ?_
  refine lv_astore_n (lv' := [(2, .ref (ad (gA g))), (1, .int 0), (0, .ref (ad (gG g)))]) hx hb dX0_fundDebts_6 rfl hl (by decide) rfl (fun ls hl => ?_)
  have hls := hl.1
  refine lv_aload_n hx hb dX0_fundDebts_7 rfl (lv_at hl 0 rfl) ?_
  refine x_alen B hW (hqA hg) (cC_A hg) (k := 2) rfl (v := 8) rfl dX0_fundDebts_8 ?_
  refine lv_istore_n (lv' := [(3, .int 8), (2, .ref (ad (gA g))), (1, .int 0), (0, .ref (ad (gG g)))]) hx hb dX0_fundDebts_9 rfl hl (by decide) rfl (fun ls hl => ?_)
  have hls := hl.1
  refine lv_iconst (v := 0) hx hb dX0_fundDebts_10 (by decide) ?_
  refine lv_istore (lv' := [(4, .int 0), (3, .int 8), (2, .ref (ad (gA g))), (1, .int 0), (0, .ref (ad (gG g)))]) hx hb dX0_fundDebts_11 hl (by decide) rfl (fun ls hl => ?_)
  have hls := hl.1
  exact w_X0_fundDebts_L13 l B S _ g hg (9) (0) (0)  _ _ _ (show 0 ≤ 8 by omega) (show 0 + (9) = 9 by omega) hW (lv_sub hl [0, 1, 2, 3] rfl) hls zk

def x_X0_debtsAmongMembers_L13 : Nat → vS → Nat → Nat → Int32 → Int32
  | 0, S, _, _, _ => 0
  | n + 1, S, g, n4, v1 => if 8 ≤ (nI n4) then v1 else nm (x_X2_debtToMembers S g n4) (fun r_28 => nm ((v1 + r_28)) (fun x_32 => x_X0_debtsAmongMembers_L13 n S g ((n4 + 1)) (x_32)))
def x_X0_debtsAmongMembers (S : vS) (g : Nat) : Int32 := x_X0_debtsAmongMembers_L13 (9) S g (0) (0)
theorem hd_X0_debtsAmongMembers : yX0_debtsAmongMembers.cls = RX0 ∧ yX0_debtsAmongMembers.cls ≠ "java/lang/invoke/MethodHandle" ∧ yX0_debtsAmongMembers.cls ≠ "java/lang/invoke/VarHandle" ∧ (parseMethodDescriptor yX0_debtsAmongMembers.desc).map (fun d => d.parameters.length) = some 0 := by decide +kernel
set_option maxHeartbeats 4000000 in
set_option maxRecDepth 100000 in
theorem w_X0_debtsAmongMembers_L13 {D : va_G} {ad : Nat → Nat} (l : Launch) {p : Program} {e : Env} {s : State} {mm : MethodId} {args : Array Value} {below : List Frame} {meth : Method} {c : Code} {A : Nat → Prop} (B : Cx p mm c cX0_debtsAmongMembers 6 s args wsX0_debtsAmongMembers RX0 meth (some .int) D) (S : vS) (z : Int32) (g : Nat) (hg : g < 8) : ∀ (n : Nat) (n4 : Nat) (v1 : Int32) (H : Heap) (locs : List Loc) (ls : Array Slot), n4 ≤ 8 → n4 + n = 9 → Wd D 157 (cC D ad) ad A s.heap S H locs → lv_has ls 6 [(4, .int (nI n4)), (3, .int 8), (2, .ref (ad (gA g))), (1, .int v1)] → ls.size = 6 → z = x_X0_debtsAmongMembers_L13 n S g n4 v1 → W p l e (rmD 1) s mm args below meth c H locs 0 0 (MQ below (va_Qi (fun (r : Int32) (S1 : vS) => r = z ∧ S1 = S) (bW D 157 (cC D ad) ad A) A) args s 0 0 A) (F0 mm 13 ls []) := by
  have hx := B.1.1
  have hb := B.1.2.1
  have hin_X0 : ∀ w ∈ wsX00, w ∈ wsX0_debtsAmongMembers := fun w h => List.mem_cons_of_mem _ (List.mem_append_left _ (List.mem_append_right _ h))
  have k_11 := B.1.2.2.2.2 (.fieldLink RX0 11 "JointLoans$Group" "members" "[LJointLoans$Member;") (by decide +kernel)
  have ki_X2 := B.1.2.2.2.2 (.initialized RX2) (by decide +kernel)
  have kn_X2_debtToMembers := B.1.2.2.2.2 (.instanceMethod yX2_debtToMembers) (by decide +kernel)
  have kv_X2_debtToMembers := B.1.2.2.2.2 (.selects RX2 yX2_debtToMembers yX2_debtToMembers) (by decide +kernel)
  intro n
  induction n with
  | zero =>
    intro n4 v1 H locs ls hle hsum
    omega
  | succ n ih =>
    intro n4 v1 H locs ls hle hsum hW hl hls zk
    have zk := zk.trans (x_X0_debtsAmongMembers_L13.eq_2 _ _ _ _ _ )
    refine lv_iload hx hb dX0_debtsAmongMembers_13 (lv_at hl 0 rfl) ?_
    refine lv_iload_n hx hb dX0_debtsAmongMembers_15 rfl (lv_at hl 1 rfl) ?_
    refine lv_icmp_ge (tgt := 39) hx hb dX0_debtsAmongMembers_16 (by decide) (fun c_16 => ?_) (fun c_16 => ?_)
    · have zk := zk.trans (if_pos c_16)
      refine lv_iload_n hx hb dX0_debtsAmongMembers_39 rfl (lv_at hl 3 rfl) ?_
      exact x_iret B hW ⟨zk.symm, rfl⟩ dX0_debtsAmongMembers_40
    · have zk := zk.trans (if_neg c_16)
      have hb_c_16 : n4 < 8 := nI_of_nle (by decide) c_16 (by omega)
      refine lv_aload_n hx hb dX0_debtsAmongMembers_19 rfl (lv_at hl 2 rfl) ?_
      refine lv_iload hx hb dX0_debtsAmongMembers_20 (lv_at hl 0 rfl) ?_
      refine x_aald B hW (hqA hg) (cC_A hg) (k := 2) rfl (isN_nI hb_c_16 (by decide)) (by decide) (by decide) (v := .ref (ad (gM g n4))) rfl dX0_debtsAmongMembers_22 ?_
      refine lv_astore (lv' := [(5, .ref (ad (gM g n4))), (4, .int (nI n4)), (3, .int 8), (2, .ref (ad (gA g))), (1, .int v1)]) hx hb dX0_debtsAmongMembers_23 hl (by decide) rfl (fun ls hl => ?_)
      have hls := hl.1
      refine lv_iload_n hx hb dX0_debtsAmongMembers_25 rfl (lv_at hl 4 rfl) ?_
      refine lv_aload hx hb dX0_debtsAmongMembers_26 (lv_at hl 0 rfl) ?_
      refine x_calli hW (x_runVN B hW (As := []) (rest := .int v1 :: []) (host := RX4) (hqM hg hb_c_16) (cC_M hg hb_c_16) cls2 (c_X2_debtToMembers (D := D) (ad := ad) l _ S g n4 hg hb_c_16) ⟨va_cnB 0 B.1.2.2.2.2 gX0_debtsAmongMembers_X2_debtToMembers_n170 rfl rfl rfl (B.2.1.2 _ nl_X0_170) ki_X2 hd_X2_debtToMembers.2 ⟨Nat.le_of_ble_eq_true rfl, Nat.le_of_ble_eq_true rfl⟩, kn_X2_debtToMembers, kv_X2_debtToMembers⟩ rfl hls (Nat.le_of_ble_eq_true rfl) dX0_debtsAmongMembers_28 ⟨Nat.zero_le _, Nat.zero_le _⟩) (fun r_28 S_28 H locs he hW => ?_)
      obtain ⟨hr_28, hs⟩ := he
      rw [hs] at hW
      have zk := nm_at zk hr_28
      refine lv_iadd hx hb dX0_debtsAmongMembers_31 ?_
      refine lv_topi (fun x_32 ex_32 => ?_)
      have zk := nm_at zk ex_32
      refine lv_istore_n (lv' := [(1, .int x_32), (5, .ref (ad (gM g n4))), (4, .int (nI n4)), (3, .int 8), (2, .ref (ad (gA g)))]) hx hb dX0_debtsAmongMembers_32 rfl hl (by decide) rfl (fun ls hl => ?_)
      have hls := hl.1
      refine lv_iinc (v := (nI (n4 + 1))) (lv' := [(4, .int (nI (n4 + 1))), (1, .int x_32), (5, .ref (ad (gM g n4))), (3, .int 8), (2, .ref (ad (gA g)))]) hx hb dX0_debtsAmongMembers_33 hl (k := 2) rfl (nI_1 _) (by decide) rfl (fun ls hl => ?_)
      have hls := hl.1
      refine lv_goto (tgt := 13) hx hb dX0_debtsAmongMembers_36 (by decide) ?_
      exact ih ((n4 + 1)) (x_32)  _ _ _ (show (n4 + 1) ≤ 8 by omega) (show (n4 + 1) + n = 9 by omega) hW (lv_sub hl [0, 3, 4, 1] rfl) hls zk
set_option maxHeartbeats 4000000 in
set_option maxRecDepth 100000 in
theorem c_X0_debtsAmongMembers {D : va_G} {ad : Nat → Nat} (l : Launch) (sz : Nat) (S : vS) (g : Nat) (hg : g < 8) : Met l yX0_debtsAmongMembers wsX0_debtsAmongMembers (rmD 1) (pW D 157 (cC D ad) ad sz S [.ref (ad (gG g))]) (va_Qi (fun (r : Int32) (S1 : vS) => r = (x_X0_debtsAmongMembers S g) ∧ S1 = S) (bW D 157 (cC D ad) ad (aW 157 ad sz)) (aW 157 ad sz)) 0 0 (aW 157 ad sz) := by
  refine x_met (own := RX0) (cc := cX0_debtsAmongMembers) (maxL := 6) (ret := (some .int)) (Qc := fun A => va_Qi (fun (r : Int32) (S1 : vS) => r = (x_X0_debtsAmongMembers S g) ∧ S1 = S) (bW D 157 (cC D ad) ad A) A) rfl ⟨by decide +kernel, rfl, Nat.le_of_ble_eq_true rfl⟩ ?_
  intro p e s mm args below meth c A ls B hW hl hls
  have hx := B.1.1
  have hb := B.1.2.1
  have hin_X0 : ∀ w ∈ wsX00, w ∈ wsX0_debtsAmongMembers := fun w h => List.mem_cons_of_mem _ (List.mem_append_left _ (List.mem_append_right _ h))
  have k_11 := B.1.2.2.2.2 (.fieldLink RX0 11 "JointLoans$Group" "members" "[LJointLoans$Member;") (by decide +kernel)
  have ki_X2 := B.1.2.2.2.2 (.initialized RX2) (by decide +kernel)
  have kn_X2_debtToMembers := B.1.2.2.2.2 (.instanceMethod yX2_debtToMembers) (by decide +kernel)
  have kv_X2_debtToMembers := B.1.2.2.2.2 (.selects RX2 yX2_debtToMembers yX2_debtToMembers) (by decide +kernel)
  have zk := x_X0_debtsAmongMembers.eq_1 S g
  have hl : lv_has ls 6 [(0, .ref (ad (gG g)))] := hl
  refine lv_iconst (v := 0) hx hb dX0_debtsAmongMembers_0 (by decide) ?_
  refine lv_istore_n (lv' := [(1, .int 0), (0, .ref (ad (gG g)))]) hx hb dX0_debtsAmongMembers_1 rfl hl (by decide) rfl (fun ls hl => ?_)
  have hls := hl.1
  refine lv_aload_n hx hb dX0_debtsAmongMembers_2 rfl (lv_at hl 1 rfl) ?_
  refine x_get B hW (hqG hg) (cC_G hg) cls0 hin_X0 0 (by decide) (v := .ref (ad (gA g))) rfl k_11 dX0_debtsAmongMembers_3 ?_
  refine lv_astore_n (lv' := [(2, .ref (ad (gA g))), (1, .int 0), (0, .ref (ad (gG g)))]) hx hb dX0_debtsAmongMembers_6 rfl hl (by decide) rfl (fun ls hl => ?_)
  have hls := hl.1
  refine lv_aload_n hx hb dX0_debtsAmongMembers_7 rfl (lv_at hl 0 rfl) ?_
  refine x_alen B hW (hqA hg) (cC_A hg) (k := 2) rfl (v := 8) rfl dX0_debtsAmongMembers_8 ?_
  refine lv_istore_n (lv' := [(3, .int 8), (2, .ref (ad (gA g))), (1, .int 0), (0, .ref (ad (gG g)))]) hx hb dX0_debtsAmongMembers_9 rfl hl (by decide) rfl (fun ls hl => ?_)
  have hls := hl.1
  refine lv_iconst (v := 0) hx hb dX0_debtsAmongMembers_10 (by decide) ?_
  refine lv_istore (lv' := [(4, .int 0), (3, .int 8), (2, .ref (ad (gA g))), (1, .int 0), (0, .ref (ad (gG g)))]) hx hb dX0_debtsAmongMembers_11 hl (by decide) rfl (fun ls hl => ?_)
  have hls := hl.1
  exact w_X0_debtsAmongMembers_L13 l B S _ g hg (9) (0) (0)  _ _ _ (show 0 ≤ 8 by omega) (show 0 + (9) = 9 by omega) hW (lv_sub hl [0, 1, 2, 3] rfl) hls zk

def x_X0_figure (S : vS) (g : Nat) (p1 : Int32) : Int32 := if p1 = 0 then (S (gG g) 3) else (if p1 = 1 then (S (gG g) 4) else (if p1 = 2 then (S (gG g) 5) else (if p1 = 3 then nm (x_X0_memberCount S g) (fun r_88 => r_88) else (if p1 = 4 then (S (gG g) 6) else (if p1 = 5 then nm (x_X0_loansLeft S g) (fun r_98 => r_98) else (if p1 = 6 then nm (x_X0_bankDebts S g) (fun r_103 => r_103) else (if p1 = 7 then nm (x_X0_fundDebts S g) (fun r_108 => r_108) else (if p1 = 8 then nm (x_X0_debtsAmongMembers S g) (fun r_113 => r_113) else (if p1 = 9 then (S (gG g) 7) else (if p1 = 10 then (S (gG g) 8) else (if p1 = 11 then (S (gG g) 9) else (if p1 = 12 then (((S (gG g) 7) + (S (gG g) 8)) - (S (gG g) 9)) else (if p1 = 13 then (S (gG g) 10) else (nm (x_X0_awayMembers S g) (fun r_153 => r_153)))))))))))))))
theorem hd_X0_figure : yX0_figure.cls = RX0 ∧ yX0_figure.cls ≠ "java/lang/invoke/MethodHandle" ∧ yX0_figure.cls ≠ "java/lang/invoke/VarHandle" ∧ (parseMethodDescriptor yX0_figure.desc).map (fun d => d.parameters.length) = some 1 := by decide +kernel
set_option maxHeartbeats 4000000 in
set_option maxRecDepth 100000 in
theorem c_X0_figure {D : va_G} {ad : Nat → Nat} (l : Launch) (sz : Nat) (S : vS) (g : Nat) (p1 : Int32) (hg : g < 8) : Met l yX0_figure wsX0_figure (rmD 2) (pW D 157 (cC D ad) ad sz S [.ref (ad (gG g)), .int p1]) (va_Qi (fun (r : Int32) (S1 : vS) => r = (x_X0_figure S g p1) ∧ S1 = S) (bW D 157 (cC D ad) ad (aW 157 ad sz)) (aW 157 ad sz)) 0 0 (aW 157 ad sz) := by
  refine x_met (own := RX0) (cc := cX0_figure) (maxL := 2) (ret := (some .int)) (Qc := fun A => va_Qi (fun (r : Int32) (S1 : vS) => r = (x_X0_figure S g p1) ∧ S1 = S) (bW D 157 (cC D ad) ad A) A) rfl ⟨by decide +kernel, rfl, Nat.le_of_ble_eq_true rfl⟩ ?_
  intro p e s mm args below meth c A ls B hW hl hls
  have hx := B.1.1
  have hb := B.1.2.1
  have hin_X0 : ∀ w ∈ wsX00, w ∈ wsX0_figure := fun w h => List.mem_cons_of_mem _ (List.mem_append_left _ (List.mem_append_right _ h))
  have k_21 := B.1.2.2.2.2 (.fieldLink RX0 21 "JointLoans$Group" "chair" "I") (by decide +kernel)
  have k_41 := B.1.2.2.2.2 (.fieldLink RX0 41 "JointLoans$Group" "weekNumber" "I") (by decide +kernel)
  have k_44 := B.1.2.2.2.2 (.fieldLink RX0 44 "JointLoans$Group" "cycleNumber" "I") (by decide +kernel)
  have k_47 := B.1.2.2.2.2 (.fieldLink RX0 47 "JointLoans$Group" "fund" "I") (by decide +kernel)
  have k_50 := B.1.2.2.2.2 (.fieldLink RX0 50 "JointLoans$Group" "bankLent" "I") (by decide +kernel)
  have k_53 := B.1.2.2.2.2 (.fieldLink RX0 53 "JointLoans$Group" "bankInterest" "I") (by decide +kernel)
  have k_56 := B.1.2.2.2.2 (.fieldLink RX0 56 "JointLoans$Group" "bankPaid" "I") (by decide +kernel)
  have k_59 := B.1.2.2.2.2 (.fieldLink RX0 59 "JointLoans$Group" "missedSoFar" "I") (by decide +kernel)
  have zk := x_X0_figure.eq_1 S g p1
  have hl : lv_has ls 2 [(0, .ref (ad (gG g))), (1, .int p1)] := hl
  refine lv_iload_n hx hb dX0_figure_0 rfl (lv_at hl 1 rfl) ?_
  by_cases c_1_0 : p1 = 0
  · have zk := zk.trans (if_pos c_1_0)
    refine lv_tableIn (off := 71) (tgt := 72) hx hb dX0_figure_1 (by rw [c_1_0]; decide) (by rw [c_1_0]; decide) (by rw [c_1_0]; rfl) (by decide) ?_
    refine lv_aload_n hx hb dX0_figure_72 rfl (lv_at hl 0 rfl) ?_
    refine x_get B hW (hqG hg) (cC_G hg) cls0 hin_X0 3 (by decide) (v := .int (S (gG g) 3)) rfl k_41 dX0_figure_73 ?_
    exact x_iret B hW ⟨zk.symm, rfl⟩ dX0_figure_76
  · have zk := zk.trans (if_neg c_1_0)
    by_cases c_1_1 : p1 = 1
    · have zk := zk.trans (if_pos c_1_1)
      refine lv_tableIn (off := 76) (tgt := 77) hx hb dX0_figure_1 (by rw [c_1_1]; decide) (by rw [c_1_1]; decide) (by rw [c_1_1]; rfl) (by decide) ?_
      refine lv_aload_n hx hb dX0_figure_77 rfl (lv_at hl 0 rfl) ?_
      refine x_get B hW (hqG hg) (cC_G hg) cls0 hin_X0 4 (by decide) (v := .int (S (gG g) 4)) rfl k_44 dX0_figure_78 ?_
      exact x_iret B hW ⟨zk.symm, rfl⟩ dX0_figure_81
    · have zk := zk.trans (if_neg c_1_1)
      by_cases c_1_2 : p1 = 2
      · have zk := zk.trans (if_pos c_1_2)
        refine lv_tableIn (off := 81) (tgt := 82) hx hb dX0_figure_1 (by rw [c_1_2]; decide) (by rw [c_1_2]; decide) (by rw [c_1_2]; rfl) (by decide) ?_
        refine lv_aload_n hx hb dX0_figure_82 rfl (lv_at hl 0 rfl) ?_
        refine x_get B hW (hqG hg) (cC_G hg) cls0 hin_X0 5 (by decide) (v := .int (S (gG g) 5)) rfl k_21 dX0_figure_83 ?_
        exact x_iret B hW ⟨zk.symm, rfl⟩ dX0_figure_86
      · have zk := zk.trans (if_neg c_1_2)
        by_cases c_1_3 : p1 = 3
        · have zk := zk.trans (if_pos c_1_3)
          refine lv_tableIn (off := 86) (tgt := 87) hx hb dX0_figure_1 (by rw [c_1_3]; decide) (by rw [c_1_3]; decide) (by rw [c_1_3]; rfl) (by decide) ?_
          refine lv_aload_n hx hb dX0_figure_87 rfl (lv_at hl 0 rfl) ?_
          refine x_calli hW (x_runV B hW (As := []) (rest := []) (hqG hg) (cC_G hg) cls0 (c_X0_memberCount (D := D) (ad := ad) l _ S g hg) (cwV 0 B.1.2.2.2.2 gX0_figure_X0_memberCount rfl rfl rfl hd_X0_memberCount ⟨Nat.le_of_ble_eq_true rfl, Nat.le_of_ble_eq_true rfl⟩) rfl hls (Nat.le_of_ble_eq_true rfl) dX0_figure_88 ⟨Nat.zero_le _, Nat.zero_le _⟩) (fun r_88 S_88 H locs he hW => ?_)
          obtain ⟨hr_88, hs⟩ := he
          rw [hs] at hW
          have zk := nm_at zk hr_88
          exact x_iret B hW ⟨zk.symm, rfl⟩ dX0_figure_91
        · have zk := zk.trans (if_neg c_1_3)
          by_cases c_1_4 : p1 = 4
          · have zk := zk.trans (if_pos c_1_4)
            refine lv_tableIn (off := 91) (tgt := 92) hx hb dX0_figure_1 (by rw [c_1_4]; decide) (by rw [c_1_4]; decide) (by rw [c_1_4]; rfl) (by decide) ?_
            refine lv_aload_n hx hb dX0_figure_92 rfl (lv_at hl 0 rfl) ?_
            refine x_get B hW (hqG hg) (cC_G hg) cls0 hin_X0 6 (by decide) (v := .int (S (gG g) 6)) rfl k_47 dX0_figure_93 ?_
            exact x_iret B hW ⟨zk.symm, rfl⟩ dX0_figure_96
          · have zk := zk.trans (if_neg c_1_4)
            by_cases c_1_5 : p1 = 5
            · have zk := zk.trans (if_pos c_1_5)
              refine lv_tableIn (off := 96) (tgt := 97) hx hb dX0_figure_1 (by rw [c_1_5]; decide) (by rw [c_1_5]; decide) (by rw [c_1_5]; rfl) (by decide) ?_
              refine lv_aload_n hx hb dX0_figure_97 rfl (lv_at hl 0 rfl) ?_
              refine x_calli hW (x_runV B hW (As := []) (rest := []) (hqG hg) (cC_G hg) cls0 (c_X0_loansLeft (D := D) (ad := ad) l _ S g hg) (cwV 0 B.1.2.2.2.2 gX0_figure_X0_loansLeft rfl rfl rfl hd_X0_loansLeft ⟨Nat.le_of_ble_eq_true rfl, Nat.le_of_ble_eq_true rfl⟩) rfl hls (Nat.le_of_ble_eq_true rfl) dX0_figure_98 ⟨Nat.zero_le _, Nat.zero_le _⟩) (fun r_98 S_98 H locs he hW => ?_)
              obtain ⟨hr_98, hs⟩ := he
              rw [hs] at hW
              have zk := nm_at zk hr_98
              exact x_iret B hW ⟨zk.symm, rfl⟩ dX0_figure_101
            · have zk := zk.trans (if_neg c_1_5)
              by_cases c_1_6 : p1 = 6
              · have zk := zk.trans (if_pos c_1_6)
                refine lv_tableIn (off := 101) (tgt := 102) hx hb dX0_figure_1 (by rw [c_1_6]; decide) (by rw [c_1_6]; decide) (by rw [c_1_6]; rfl) (by decide) ?_
                refine lv_aload_n hx hb dX0_figure_102 rfl (lv_at hl 0 rfl) ?_
                refine x_calli hW (x_runV B hW (As := []) (rest := []) (hqG hg) (cC_G hg) cls0 (c_X0_bankDebts (D := D) (ad := ad) l _ S g hg) (cwV 0 B.1.2.2.2.2 gX0_figure_X0_bankDebts rfl rfl rfl hd_X0_bankDebts ⟨Nat.le_of_ble_eq_true rfl, Nat.le_of_ble_eq_true rfl⟩) rfl hls (Nat.le_of_ble_eq_true rfl) dX0_figure_103 ⟨Nat.zero_le _, Nat.zero_le _⟩) (fun r_103 S_103 H locs he hW => ?_)
                obtain ⟨hr_103, hs⟩ := he
                rw [hs] at hW
                have zk := nm_at zk hr_103
                exact x_iret B hW ⟨zk.symm, rfl⟩ dX0_figure_106
              · have zk := zk.trans (if_neg c_1_6)
                by_cases c_1_7 : p1 = 7
                · have zk := zk.trans (if_pos c_1_7)
                  refine lv_tableIn (off := 106) (tgt := 107) hx hb dX0_figure_1 (by rw [c_1_7]; decide) (by rw [c_1_7]; decide) (by rw [c_1_7]; rfl) (by decide) ?_
                  refine lv_aload_n hx hb dX0_figure_107 rfl (lv_at hl 0 rfl) ?_
                  refine x_calli hW (x_runV B hW (As := []) (rest := []) (hqG hg) (cC_G hg) cls0 (c_X0_fundDebts (D := D) (ad := ad) l _ S g hg) (cwV 0 B.1.2.2.2.2 gX0_figure_X0_fundDebts rfl rfl rfl hd_X0_fundDebts ⟨Nat.le_of_ble_eq_true rfl, Nat.le_of_ble_eq_true rfl⟩) rfl hls (Nat.le_of_ble_eq_true rfl) dX0_figure_108 ⟨Nat.zero_le _, Nat.zero_le _⟩) (fun r_108 S_108 H locs he hW => ?_)
                  obtain ⟨hr_108, hs⟩ := he
                  rw [hs] at hW
                  have zk := nm_at zk hr_108
                  exact x_iret B hW ⟨zk.symm, rfl⟩ dX0_figure_111
                · have zk := zk.trans (if_neg c_1_7)
                  by_cases c_1_8 : p1 = 8
                  · have zk := zk.trans (if_pos c_1_8)
                    refine lv_tableIn (off := 111) (tgt := 112) hx hb dX0_figure_1 (by rw [c_1_8]; decide) (by rw [c_1_8]; decide) (by rw [c_1_8]; rfl) (by decide) ?_
                    refine lv_aload_n hx hb dX0_figure_112 rfl (lv_at hl 0 rfl) ?_
                    refine x_calli hW (x_runV B hW (As := []) (rest := []) (hqG hg) (cC_G hg) cls0 (c_X0_debtsAmongMembers (D := D) (ad := ad) l _ S g hg) (cwV 0 B.1.2.2.2.2 gX0_figure_X0_debtsAmongMembers rfl rfl rfl hd_X0_debtsAmongMembers ⟨Nat.le_of_ble_eq_true rfl, Nat.le_of_ble_eq_true rfl⟩) rfl hls (Nat.le_of_ble_eq_true rfl) dX0_figure_113 ⟨Nat.zero_le _, Nat.zero_le _⟩) (fun r_113 S_113 H locs he hW => ?_)
                    obtain ⟨hr_113, hs⟩ := he
                    rw [hs] at hW
                    have zk := nm_at zk hr_113
                    exact x_iret B hW ⟨zk.symm, rfl⟩ dX0_figure_116
                  · have zk := zk.trans (if_neg c_1_8)
                    by_cases c_1_9 : p1 = 9
                    · have zk := zk.trans (if_pos c_1_9)
                      refine lv_tableIn (off := 116) (tgt := 117) hx hb dX0_figure_1 (by rw [c_1_9]; decide) (by rw [c_1_9]; decide) (by rw [c_1_9]; rfl) (by decide) ?_
                      refine lv_aload_n hx hb dX0_figure_117 rfl (lv_at hl 0 rfl) ?_
                      refine x_get B hW (hqG hg) (cC_G hg) cls0 hin_X0 7 (by decide) (v := .int (S (gG g) 7)) rfl k_50 dX0_figure_118 ?_
                      exact x_iret B hW ⟨zk.symm, rfl⟩ dX0_figure_121
                    · have zk := zk.trans (if_neg c_1_9)
                      by_cases c_1_10 : p1 = 10
                      · have zk := zk.trans (if_pos c_1_10)
                        refine lv_tableIn (off := 121) (tgt := 122) hx hb dX0_figure_1 (by rw [c_1_10]; decide) (by rw [c_1_10]; decide) (by rw [c_1_10]; rfl) (by decide) ?_
                        refine lv_aload_n hx hb dX0_figure_122 rfl (lv_at hl 0 rfl) ?_
                        refine x_get B hW (hqG hg) (cC_G hg) cls0 hin_X0 8 (by decide) (v := .int (S (gG g) 8)) rfl k_53 dX0_figure_123 ?_
                        exact x_iret B hW ⟨zk.symm, rfl⟩ dX0_figure_126
                      · have zk := zk.trans (if_neg c_1_10)
                        by_cases c_1_11 : p1 = 11
                        · have zk := zk.trans (if_pos c_1_11)
                          refine lv_tableIn (off := 126) (tgt := 127) hx hb dX0_figure_1 (by rw [c_1_11]; decide) (by rw [c_1_11]; decide) (by rw [c_1_11]; rfl) (by decide) ?_
                          refine lv_aload_n hx hb dX0_figure_127 rfl (lv_at hl 0 rfl) ?_
                          refine x_get B hW (hqG hg) (cC_G hg) cls0 hin_X0 9 (by decide) (v := .int (S (gG g) 9)) rfl k_56 dX0_figure_128 ?_
                          exact x_iret B hW ⟨zk.symm, rfl⟩ dX0_figure_131
                        · have zk := zk.trans (if_neg c_1_11)
                          by_cases c_1_12 : p1 = 12
                          · have zk := zk.trans (if_pos c_1_12)
                            refine lv_tableIn (off := 131) (tgt := 132) hx hb dX0_figure_1 (by rw [c_1_12]; decide) (by rw [c_1_12]; decide) (by rw [c_1_12]; rfl) (by decide) ?_
                            refine lv_aload_n hx hb dX0_figure_132 rfl (lv_at hl 0 rfl) ?_
                            refine x_get B hW (hqG hg) (cC_G hg) cls0 hin_X0 7 (by decide) (v := .int (S (gG g) 7)) rfl k_50 dX0_figure_133 ?_
                            refine lv_aload_n hx hb dX0_figure_136 rfl (lv_at hl 0 rfl) ?_
                            refine x_get B hW (hqG hg) (cC_G hg) cls0 hin_X0 8 (by decide) (v := .int (S (gG g) 8)) rfl k_53 dX0_figure_137 ?_
                            refine lv_iadd hx hb dX0_figure_140 ?_
                            refine lv_aload_n hx hb dX0_figure_141 rfl (lv_at hl 0 rfl) ?_
                            refine x_get B hW (hqG hg) (cC_G hg) cls0 hin_X0 9 (by decide) (v := .int (S (gG g) 9)) rfl k_56 dX0_figure_142 ?_
                            refine lv_isub hx hb dX0_figure_145 ?_
                            exact x_iret B hW ⟨zk.symm, rfl⟩ dX0_figure_146
                          · have zk := zk.trans (if_neg c_1_12)
                            by_cases c_1_13 : p1 = 13
                            · have zk := zk.trans (if_pos c_1_13)
                              refine lv_tableIn (off := 146) (tgt := 147) hx hb dX0_figure_1 (by rw [c_1_13]; decide) (by rw [c_1_13]; decide) (by rw [c_1_13]; rfl) (by decide) ?_
                              refine lv_aload_n hx hb dX0_figure_147 rfl (lv_at hl 0 rfl) ?_
                              refine x_get B hW (hqG hg) (cC_G hg) cls0 hin_X0 10 (by decide) (v := .int (S (gG g) 10)) rfl k_59 dX0_figure_148 ?_
                              exact x_iret B hW ⟨zk.symm, rfl⟩ dX0_figure_151
                            · have zk := zk.trans (if_neg c_1_13)
                              have nc_1_0 := lv_neT c_1_0 (a := 0) (by decide)
                              have nc_1_1 := lv_neT c_1_1 (a := 1) (by decide)
                              have nc_1_2 := lv_neT c_1_2 (a := 2) (by decide)
                              have nc_1_3 := lv_neT c_1_3 (a := 3) (by decide)
                              have nc_1_4 := lv_neT c_1_4 (a := 4) (by decide)
                              have nc_1_5 := lv_neT c_1_5 (a := 5) (by decide)
                              have nc_1_6 := lv_neT c_1_6 (a := 6) (by decide)
                              have nc_1_7 := lv_neT c_1_7 (a := 7) (by decide)
                              have nc_1_8 := lv_neT c_1_8 (a := 8) (by decide)
                              have nc_1_9 := lv_neT c_1_9 (a := 9) (by decide)
                              have nc_1_10 := lv_neT c_1_10 (a := 10) (by decide)
                              have nc_1_11 := lv_neT c_1_11 (a := 11) (by decide)
                              have nc_1_12 := lv_neT c_1_12 (a := 12) (by decide)
                              have nc_1_13 := lv_neT c_1_13 (a := 13) (by decide)
                              have hsw : p1.toInt < 0 ∨ 13 < p1.toInt := by omega
                              refine lv_tableOut (tgt := 152) hx hb dX0_figure_1 hsw (by decide) ?_
                              refine lv_aload_n hx hb dX0_figure_152 rfl (lv_at hl 0 rfl) ?_
                              refine x_calli hW (x_runV B hW (As := []) (rest := []) (hqG hg) (cC_G hg) cls0 (c_X0_awayMembers (D := D) (ad := ad) l _ S g hg) (cwV 0 B.1.2.2.2.2 gX0_figure_X0_awayMembers rfl rfl rfl hd_X0_awayMembers ⟨Nat.le_of_ble_eq_true rfl, Nat.le_of_ble_eq_true rfl⟩) rfl hls (Nat.le_of_ble_eq_true rfl) dX0_figure_153 ⟨Nat.zero_le _, Nat.zero_le _⟩) (fun r_153 S_153 H locs he hW => ?_)
                              obtain ⟨hr_153, hs⟩ := he
                              rw [hs] at hW
                              have zk := nm_at zk hr_153
                              exact x_iret B hW ⟨zk.symm, rfl⟩ dX0_figure_156

def x_X0_mostPaidForOthersSince_L4 : Nat → vS → Nat → Nat → Nat → Int32 → Int32
  | 0, S, _, _, _, _ => 0
  | n + 1, S, g, g2, n3, v2 => if 8 ≤ (nI n3) then v2 else nm ((if v2 < ((S (gM g n3) 14) - (S (gM g2 n3) 14)) then ((S (gM g n3) 14) - (S (gM g2 n3) 14)) else v2)) (fun x_33 => x_X0_mostPaidForOthersSince_L4 n S g g2 ((n3 + 1)) (x_33))
def x_X0_mostPaidForOthersSince (S : vS) (g g2 : Nat) : Int32 := x_X0_mostPaidForOthersSince_L4 (9) S g g2 (0) (0)
theorem hd_X0_mostPaidForOthersSince : yX0_mostPaidForOthersSince.cls = RX0 ∧ yX0_mostPaidForOthersSince.cls ≠ "java/lang/invoke/MethodHandle" ∧ yX0_mostPaidForOthersSince.cls ≠ "java/lang/invoke/VarHandle" ∧ (parseMethodDescriptor yX0_mostPaidForOthersSince.desc).map (fun d => d.parameters.length) = some 1 := by decide +kernel
set_option maxHeartbeats 4000000 in
set_option maxRecDepth 100000 in
theorem w_X0_mostPaidForOthersSince_L4 {D : va_G} {ad : Nat → Nat} (l : Launch) {p : Program} {e : Env} {s : State} {mm : MethodId} {args : Array Value} {below : List Frame} {meth : Method} {c : Code} {A : Nat → Prop} (B : Cx p mm c cX0_mostPaidForOthersSince 4 s args wsX0_mostPaidForOthersSince RX0 meth (some .int) D) (S : vS) (z : Int32) (g g2 : Nat) (hg : g < 8) (hg2 : g2 < 8) : ∀ (n : Nat) (n3 : Nat) (v2 : Int32) (H : Heap) (locs : List Loc) (ls : Array Slot), n3 ≤ 8 → n3 + n = 9 → Wd D 157 (cC D ad) ad A s.heap S H locs → lv_has ls 4 [(3, .int (nI n3)), (2, .int v2), (0, .ref (ad (gG g))), (1, .ref (ad (gG g2)))] → ls.size = 4 → z = x_X0_mostPaidForOthersSince_L4 n S g g2 n3 v2 → W p l e (rmD 1) s mm args below meth c H locs 0 0 (MQ below (va_Qi (fun (r : Int32) (S1 : vS) => r = z ∧ S1 = S) (bW D 157 (cC D ad) ad A) A) args s 0 0 A) (F0 mm 4 ls []) := by
  have hx := B.1.1
  have hb := B.1.2.1
  have hin_X0 : ∀ w ∈ wsX00, w ∈ wsX0_mostPaidForOthersSince := fun w h => List.mem_cons_of_mem _ (List.mem_append_left _ (List.mem_append_right _ h))
  have hin_X2 : ∀ w ∈ wsX20, w ∈ wsX0_mostPaidForOthersSince := fun w h => List.mem_cons_of_mem _ (List.mem_append_right _ h)
  have k_11 := B.1.2.2.2.2 (.fieldLink RX0 11 "JointLoans$Group" "members" "[LJointLoans$Member;") (by decide +kernel)
  have kc_max := B.1.2.2.2.2 (.code Lib.Math.max.name Lib.Math.max.code 2 (some .int)) (by decide +kernel)
  have ki_math := B.1.2.2.2.2 (.initialized "java/lang/Math") (by decide +kernel)
  have kl_182 := B.1.2.2.2.2 (.methodLink RX0 182 Lib.Math.max.name) (by decide +kernel)
  have ks_max := B.1.2.2.2.2 (.static Lib.Math.max.name) (by decide +kernel)
  intro n
  induction n with
  | zero =>
    intro n3 v2 H locs ls hle hsum
    omega
  | succ n ih =>
    intro n3 v2 H locs ls hle hsum hW hl hls zk
    have zk := zk.trans (x_X0_mostPaidForOthersSince_L4.eq_2 _ _ _ _ _ _ )
    refine lv_iload_n hx hb dX0_mostPaidForOthersSince_4 rfl (lv_at hl 0 rfl) ?_
    refine lv_bipush (v := 8) hx hb dX0_mostPaidForOthersSince_5 (by decide) ?_
    refine lv_icmp_ge (tgt := 40) hx hb dX0_mostPaidForOthersSince_7 (by decide) (fun c_7 => ?_) (fun c_7 => ?_)
    · have zk := zk.trans (if_pos c_7)
      refine lv_iload_n hx hb dX0_mostPaidForOthersSince_40 rfl (lv_at hl 1 rfl) ?_
      exact x_iret B hW ⟨zk.symm, rfl⟩ dX0_mostPaidForOthersSince_41
    · have zk := zk.trans (if_neg c_7)
      have hb_c_7 : n3 < 8 := nI_of_nle (by decide) c_7 (by omega)
      refine lv_iload_n hx hb dX0_mostPaidForOthersSince_10 rfl (lv_at hl 1 rfl) ?_
      refine lv_aload_n hx hb dX0_mostPaidForOthersSince_11 rfl (lv_at hl 2 rfl) ?_
      refine x_get B hW (hqG hg) (cC_G hg) cls0 hin_X0 0 (by decide) (v := .ref (ad (gA g))) rfl k_11 dX0_mostPaidForOthersSince_12 ?_
      refine lv_iload_n hx hb dX0_mostPaidForOthersSince_15 rfl (lv_at hl 0 rfl) ?_
      refine x_aald B hW (hqA hg) (cC_A hg) (k := 2) rfl (isN_nI hb_c_7 (by decide)) (by decide) (by decide) (v := .ref (ad (gM g n3))) rfl dX0_mostPaidForOthersSince_16 ?_
      refine x_getN B hW (hqM hg hb_c_7) (cC_M hg hb_c_7) cls2 hin_X2 14 (by decide) (v := .int (S (gM g n3) 14)) rfl nl_X0_164 dX0_mostPaidForOthersSince_17 ?_
      refine lv_aload_n hx hb dX0_mostPaidForOthersSince_20 rfl (lv_at hl 3 rfl) ?_
      refine x_get B hW (hqG hg2) (cC_G hg2) cls0 hin_X0 0 (by decide) (v := .ref (ad (gA g2))) rfl k_11 dX0_mostPaidForOthersSince_21 ?_
      refine lv_iload_n hx hb dX0_mostPaidForOthersSince_24 rfl (lv_at hl 0 rfl) ?_
      refine x_aald B hW (hqA hg2) (cC_A hg2) (k := 2) rfl (isN_nI hb_c_7 (by decide)) (by decide) (by decide) (v := .ref (ad (gM g2 n3))) rfl dX0_mostPaidForOthersSince_25 ?_
      refine x_getN B hW (hqM hg2 hb_c_7) (cC_M hg2 hb_c_7) cls2 hin_X2 14 (by decide) (v := .int (S (gM g2 n3) 14)) rfl nl_X0_164 dX0_mostPaidForOthersSince_26 ?_
      refine lv_isub hx hb dX0_mostPaidForOthersSince_29 ?_
      refine va_mmax hx hb (B.1.2.2.1.trans hls.symm) B.1.2.2.2.1 kl_182 ks_max ki_math kc_max (Nat.le_of_ble_eq_true rfl) (Nat.le_of_ble_eq_true rfl) (Nat.zero_le _) (Nat.zero_le _) dX0_mostPaidForOthersSince_30 ?_
      refine lv_topi (fun x_33 ex_33 => ?_)
      have zk := nm_at zk ex_33
      refine lv_istore_n (lv' := [(2, .int x_33), (3, .int (nI n3)), (0, .ref (ad (gG g))), (1, .ref (ad (gG g2)))]) hx hb dX0_mostPaidForOthersSince_33 rfl hl (by decide) rfl (fun ls hl => ?_)
      have hls := hl.1
      refine lv_iinc (v := (nI (n3 + 1))) (lv' := [(3, .int (nI (n3 + 1))), (2, .int x_33), (0, .ref (ad (gG g))), (1, .ref (ad (gG g2)))]) hx hb dX0_mostPaidForOthersSince_34 hl (k := 1) rfl (nI_1 _) (by decide) rfl (fun ls hl => ?_)
      have hls := hl.1
      refine lv_goto (tgt := 4) hx hb dX0_mostPaidForOthersSince_37 (by decide) ?_
      exact ih ((n3 + 1)) (x_33)  _ _ _ (show (n3 + 1) ≤ 8 by omega) (show (n3 + 1) + n = 9 by omega) hW (lv_sub hl [0, 1, 2, 3] rfl) hls zk
set_option maxHeartbeats 4000000 in
set_option maxRecDepth 100000 in
theorem c_X0_mostPaidForOthersSince {D : va_G} {ad : Nat → Nat} (l : Launch) (sz : Nat) (S : vS) (g g2 : Nat) (hg : g < 8) (hg2 : g2 < 8) : Met l yX0_mostPaidForOthersSince wsX0_mostPaidForOthersSince (rmD 1) (pW D 157 (cC D ad) ad sz S [.ref (ad (gG g)), .ref (ad (gG g2))]) (va_Qi (fun (r : Int32) (S1 : vS) => r = (x_X0_mostPaidForOthersSince S g g2) ∧ S1 = S) (bW D 157 (cC D ad) ad (aW 157 ad sz)) (aW 157 ad sz)) 0 0 (aW 157 ad sz) := by
  refine x_met (own := RX0) (cc := cX0_mostPaidForOthersSince) (maxL := 4) (ret := (some .int)) (Qc := fun A => va_Qi (fun (r : Int32) (S1 : vS) => r = (x_X0_mostPaidForOthersSince S g g2) ∧ S1 = S) (bW D 157 (cC D ad) ad A) A) rfl ⟨by decide +kernel, rfl, Nat.le_of_ble_eq_true rfl⟩ ?_
  intro p e s mm args below meth c A ls B hW hl hls
  have hx := B.1.1
  have hb := B.1.2.1
  have hin_X0 : ∀ w ∈ wsX00, w ∈ wsX0_mostPaidForOthersSince := fun w h => List.mem_cons_of_mem _ (List.mem_append_left _ (List.mem_append_right _ h))
  have hin_X2 : ∀ w ∈ wsX20, w ∈ wsX0_mostPaidForOthersSince := fun w h => List.mem_cons_of_mem _ (List.mem_append_right _ h)
  have k_11 := B.1.2.2.2.2 (.fieldLink RX0 11 "JointLoans$Group" "members" "[LJointLoans$Member;") (by decide +kernel)
  have kc_max := B.1.2.2.2.2 (.code Lib.Math.max.name Lib.Math.max.code 2 (some .int)) (by decide +kernel)
  have ki_math := B.1.2.2.2.2 (.initialized "java/lang/Math") (by decide +kernel)
  have kl_182 := B.1.2.2.2.2 (.methodLink RX0 182 Lib.Math.max.name) (by decide +kernel)
  have ks_max := B.1.2.2.2.2 (.static Lib.Math.max.name) (by decide +kernel)
  have zk := x_X0_mostPaidForOthersSince.eq_1 S g g2
  have hl : lv_has ls 4 [(0, .ref (ad (gG g))), (1, .ref (ad (gG g2)))] := hl
  refine lv_iconst (v := 0) hx hb dX0_mostPaidForOthersSince_0 (by decide) ?_
  refine lv_istore_n (lv' := [(2, .int 0), (0, .ref (ad (gG g))), (1, .ref (ad (gG g2)))]) hx hb dX0_mostPaidForOthersSince_1 rfl hl (by decide) rfl (fun ls hl => ?_)
  have hls := hl.1
  refine lv_iconst (v := 0) hx hb dX0_mostPaidForOthersSince_2 (by decide) ?_
  refine lv_istore_n (lv' := [(3, .int 0), (2, .int 0), (0, .ref (ad (gG g))), (1, .ref (ad (gG g2)))]) hx hb dX0_mostPaidForOthersSince_3 rfl hl (by decide) rfl (fun ls hl => ?_)
  have hls := hl.1
  exact w_X0_mostPaidForOthersSince_L4 l B S _ g g2 hg hg2 (9) (0) (0)  _ _ _ (show 0 ≤ 8 by omega) (show 0 + (9) = 9 by omega) hW (lv_sub hl [0, 1, 2, 3] rfl) hls zk

def x_X0_weeksOfFund_L28 : Nat → vS → Nat → Nat → Nat → Int32 → Int32 → Int32 → Int32
  | 0, S, _, _, _, _, _, _ => 0
  | n + 1, S, g, k, n5, v4, v3, v2 => if (S (gM g k) 7) ≤ (nI n5) then (-1) else if (nI n5) = ((S (gM g k) 7) - 1) then nm ((v3 + (S (gM g k) 5))) (fun x_65 => if x_65 ≤ v2 then nm ((v2 + (v4 - x_65))) (fun x_83 => nm ((v3 - v3)) (fun x_88 => x_X0_weeksOfFund_L28 n S g k ((n5 + 1)) (v4) (x_88) (x_83))) else (nI n5)) else nm ((S (gM g k) 4)) (fun x_56 => nm ((x_56 + (S (gM g k) 5))) (fun x_65 => if x_65 ≤ v2 then nm ((v2 + (v4 - x_65))) (fun x_83 => nm ((v3 - x_56)) (fun x_88 => x_X0_weeksOfFund_L28 n S g k ((n5 + 1)) (v4) (x_88) (x_83))) else (nI n5)))
def x_X0_weeksOfFund (S : vS) (g k : Nat) : Int32 := nm ((S (gG g) 6)) (fun x_4 => nm ((S (gM g k) 6)) (fun x_9 => nm (x_X0_memberCount S g) (fun r_11 => nm (((r_11 - 1) * (S (gS g) 1))) (fun x_23 => x_X0_weeksOfFund_L28 ((S (gM g k) 7).toNatClampNeg + 1) S g k (0) (x_23) (x_9) (x_4)))))
theorem hd_X0_weeksOfFund : yX0_weeksOfFund.cls = RX0 ∧ yX0_weeksOfFund.cls ≠ "java/lang/invoke/MethodHandle" ∧ yX0_weeksOfFund.cls ≠ "java/lang/invoke/VarHandle" ∧ (parseMethodDescriptor yX0_weeksOfFund.desc).map (fun d => d.parameters.length) = some 1 := by decide +kernel
set_option maxHeartbeats 4000000 in
set_option maxRecDepth 100000 in
theorem w_X0_weeksOfFund_L28 {D : va_G} {ad : Nat → Nat} (l : Launch) {p : Program} {e : Env} {s : State} {mm : MethodId} {args : Array Value} {below : List Frame} {meth : Method} {c : Code} {A : Nat → Prop} (B : Cx p mm c cX0_weeksOfFund 8 s args wsX0_weeksOfFund RX0 meth (some .int) D) (S : vS) (z : Int32) (g k : Nat) (hg : g < 8) (hk : k < 8) : ∀ (n : Nat) (n5 : Nat) (v4 : Int32) (v3 : Int32) (v2 : Int32) (H : Heap) (locs : List Loc) (ls : Array Slot), n5 ≤ (S (gM g k) 7).toNatClampNeg → n5 + n = (S (gM g k) 7).toNatClampNeg + 1 → Wd D 157 (cC D ad) ad A s.heap S H locs → lv_has ls 8 [(5, .int (nI n5)), (4, .int v4), (3, .int v3), (2, .int v2), (1, .ref (ad (gM g k)))] → ls.size = 8 → z = x_X0_weeksOfFund_L28 n S g k n5 v4 v3 v2 → W p l e (rmD 1) s mm args below meth c H locs 0 0 (MQ below (va_Qi (fun (r : Int32) (S1 : vS) => r = z ∧ S1 = S) (bW D 157 (cC D ad) ad A) A) args s 0 0 A) (F0 mm 28 ls []) := by
  have hx := B.1.1
  have hb := B.1.2.1
  have hin_X0 : ∀ w ∈ wsX00, w ∈ wsX0_weeksOfFund := fun w h => List.mem_cons_of_mem _ (List.mem_append_left _ (List.mem_append_right _ h))
  have hin_X2 : ∀ w ∈ wsX20, w ∈ wsX0_weeksOfFund := fun w h => List.mem_cons_of_mem _ (List.mem_append_right _ h)
  have k_17 := B.1.2.2.2.2 (.fieldLink RX0 17 "JointLoans$Group" "settings" "[I") (by decide +kernel)
  have k_47 := B.1.2.2.2.2 (.fieldLink RX0 47 "JointLoans$Group" "fund" "I") (by decide +kernel)
  intro n
  induction n with
  | zero =>
    intro n5 v4 v3 v2 H locs ls hle hsum
    omega
  | succ n ih =>
    intro n5 v4 v3 v2 H locs ls hle hsum hW hl hls zk
    have zk := zk.trans (x_X0_weeksOfFund_L28.eq_2 _ _ _ _ _ _ _ _ )
    refine lv_iload hx hb dX0_weeksOfFund_28 (lv_at hl 0 rfl) ?_
    refine lv_aload_n hx hb dX0_weeksOfFund_30 rfl (lv_at hl 4 rfl) ?_
    refine x_getN B hW (hqM hg hk) (cC_M hg hk) cls2 hin_X2 7 (by decide) (v := .int (S (gM g k) 7)) rfl nl_X0_185 dX0_weeksOfFund_31 ?_
    refine lv_icmp_ge (tgt := 95) hx hb dX0_weeksOfFund_34 (by decide) (fun c_34 => ?_) (fun c_34 => ?_)
    · have zk := zk.trans (if_pos c_34)
      refine lv_iconst (v := (-1)) hx hb dX0_weeksOfFund_95 (by decide) ?_
      exact x_iret B hW ⟨zk.symm, rfl⟩ dX0_weeksOfFund_96
    · have zk := zk.trans (if_neg c_34)
      have hb_c_34 : n5 < (S (gM g k) 7).toNatClampNeg := nI_of_nleV c_34 hle
      refine lv_iload hx hb dX0_weeksOfFund_37 (lv_at hl 0 rfl) ?_
      refine lv_aload_n hx hb dX0_weeksOfFund_39 rfl (lv_at hl 4 rfl) ?_
      refine x_getN B hW (hqM hg hk) (cC_M hg hk) cls2 hin_X2 7 (by decide) (v := .int (S (gM g k) 7)) rfl nl_X0_185 dX0_weeksOfFund_40 ?_
      refine lv_iconst (v := 1) hx hb dX0_weeksOfFund_43 (by decide) ?_
      refine lv_isub hx hb dX0_weeksOfFund_44 ?_
      refine lv_icmp_ne (tgt := 52) hx hb dX0_weeksOfFund_45 (by decide) (fun c_45 => ?_) (fun c_45 => ?_)
      · have zk := zk.trans (if_neg c_45)
        refine lv_aload_n hx hb dX0_weeksOfFund_52 rfl (lv_at hl 4 rfl) ?_
        refine x_getN B hW (hqM hg hk) (cC_M hg hk) cls2 hin_X2 4 (by decide) (v := .int (S (gM g k) 4)) rfl nl_X0_188 dX0_weeksOfFund_53 ?_
        refine lv_topi (fun x_56 ex_56 => ?_)
        have zk := nm_at zk ex_56
        refine lv_istore (lv' := [(6, .int x_56), (5, .int (nI n5)), (4, .int v4), (3, .int v3), (2, .int v2), (1, .ref (ad (gM g k)))]) hx hb dX0_weeksOfFund_56 hl (by decide) rfl (fun ls hl => ?_)
        have hls := hl.1
        refine lv_iload hx hb dX0_weeksOfFund_58 (lv_at hl 0 rfl) ?_
        refine lv_aload_n hx hb dX0_weeksOfFund_60 rfl (lv_at hl 5 rfl) ?_
        refine x_getN B hW (hqM hg hk) (cC_M hg hk) cls2 hin_X2 5 (by decide) (v := .int (S (gM g k) 5)) rfl nl_X0_146 dX0_weeksOfFund_61 ?_
        refine lv_iadd hx hb dX0_weeksOfFund_64 ?_
        refine lv_topi (fun x_65 ex_65 => ?_)
        have zk := nm_at zk ex_65
        refine lv_istore (lv' := [(7, .int x_65), (6, .int x_56), (5, .int (nI n5)), (4, .int v4), (3, .int v3), (2, .int v2), (1, .ref (ad (gM g k)))]) hx hb dX0_weeksOfFund_65 hl (by decide) rfl (fun ls hl => ?_)
        have hls := hl.1
        refine lv_iload hx hb dX0_weeksOfFund_67 (lv_at hl 0 rfl) ?_
        refine lv_iload_n hx hb dX0_weeksOfFund_69 rfl (lv_at hl 5 rfl) ?_
        refine lv_icmp_le (tgt := 76) hx hb dX0_weeksOfFund_70 (by decide) (fun c_70 => ?_) (fun c_70 => ?_)
        · have zk := zk.trans (if_pos c_70)
          refine lv_iload_n hx hb dX0_weeksOfFund_76 rfl (lv_at hl 5 rfl) ?_
          refine lv_iload hx hb dX0_weeksOfFund_77 (lv_at hl 3 rfl) ?_
          refine lv_iload hx hb dX0_weeksOfFund_79 (lv_at hl 0 rfl) ?_
          refine lv_isub hx hb dX0_weeksOfFund_81 ?_
          refine lv_iadd hx hb dX0_weeksOfFund_82 ?_
          refine lv_topi (fun x_83 ex_83 => ?_)
          have zk := nm_at zk ex_83
          refine lv_istore_n (lv' := [(2, .int x_83), (7, .int x_65), (6, .int x_56), (5, .int (nI n5)), (4, .int v4), (3, .int v3), (1, .ref (ad (gM g k)))]) hx hb dX0_weeksOfFund_83 rfl hl (by decide) rfl (fun ls hl => ?_)
          have hls := hl.1
          refine lv_iload_n hx hb dX0_weeksOfFund_84 rfl (lv_at hl 5 rfl) ?_
          refine lv_iload hx hb dX0_weeksOfFund_85 (lv_at hl 2 rfl) ?_
          refine lv_isub hx hb dX0_weeksOfFund_87 ?_
          refine lv_topi (fun x_88 ex_88 => ?_)
          have zk := nm_at zk ex_88
          refine lv_istore_n (lv' := [(3, .int x_88), (2, .int x_83), (7, .int x_65), (6, .int x_56), (5, .int (nI n5)), (4, .int v4), (1, .ref (ad (gM g k)))]) hx hb dX0_weeksOfFund_88 rfl hl (by decide) rfl (fun ls hl => ?_)
          have hls := hl.1
          refine lv_iinc (v := (nI (n5 + 1))) (lv' := [(5, .int (nI (n5 + 1))), (3, .int x_88), (2, .int x_83), (7, .int x_65), (6, .int x_56), (4, .int v4), (1, .ref (ad (gM g k)))]) hx hb dX0_weeksOfFund_89 hl (k := 4) rfl (nI_1 _) (by decide) rfl (fun ls hl => ?_)
          have hls := hl.1
          refine lv_goto (tgt := 28) hx hb dX0_weeksOfFund_92 (by decide) ?_
          exact ih ((n5 + 1)) (v4) (x_88) (x_83)  _ _ _ (show (n5 + 1) ≤ (S (gM g k) 7).toNatClampNeg by omega) (show (n5 + 1) + n = (S (gM g k) 7).toNatClampNeg + 1 by omega) hW (lv_sub hl [0, 5, 1, 2, 6] rfl) hls zk
        · have zk := zk.trans (if_neg c_70)
          refine lv_iload hx hb dX0_weeksOfFund_73 (lv_at hl 2 rfl) ?_
          exact x_iret B hW ⟨zk.symm, rfl⟩ dX0_weeksOfFund_75
      · have zk := zk.trans (if_pos c_45)
        refine lv_iload_n hx hb dX0_weeksOfFund_48 rfl (lv_at hl 2 rfl) ?_
        refine lv_goto (tgt := 56) hx hb dX0_weeksOfFund_49 (by decide) ?_
        refine lv_istore (lv' := [(6, .int v3), (5, .int (nI n5)), (4, .int v4), (3, .int v3), (2, .int v2), (1, .ref (ad (gM g k)))]) hx hb dX0_weeksOfFund_56 hl (by decide) rfl (fun ls hl => ?_)
        have hls := hl.1
        refine lv_iload hx hb dX0_weeksOfFund_58 (lv_at hl 0 rfl) ?_
        refine lv_aload_n hx hb dX0_weeksOfFund_60 rfl (lv_at hl 5 rfl) ?_
        refine x_getN B hW (hqM hg hk) (cC_M hg hk) cls2 hin_X2 5 (by decide) (v := .int (S (gM g k) 5)) rfl nl_X0_146 dX0_weeksOfFund_61 ?_
        refine lv_iadd hx hb dX0_weeksOfFund_64 ?_
        refine lv_topi (fun x_65 ex_65 => ?_)
        have zk := nm_at zk ex_65
        refine lv_istore (lv' := [(7, .int x_65), (6, .int v3), (5, .int (nI n5)), (4, .int v4), (3, .int v3), (2, .int v2), (1, .ref (ad (gM g k)))]) hx hb dX0_weeksOfFund_65 hl (by decide) rfl (fun ls hl => ?_)
        have hls := hl.1
        refine lv_iload hx hb dX0_weeksOfFund_67 (lv_at hl 0 rfl) ?_
        refine lv_iload_n hx hb dX0_weeksOfFund_69 rfl (lv_at hl 5 rfl) ?_
        refine lv_icmp_le (tgt := 76) hx hb dX0_weeksOfFund_70 (by decide) (fun c_70 => ?_) (fun c_70 => ?_)
        · have zk := zk.trans (if_pos c_70)
          refine lv_iload_n hx hb dX0_weeksOfFund_76 rfl (lv_at hl 5 rfl) ?_
          refine lv_iload hx hb dX0_weeksOfFund_77 (lv_at hl 3 rfl) ?_
          refine lv_iload hx hb dX0_weeksOfFund_79 (lv_at hl 0 rfl) ?_
          refine lv_isub hx hb dX0_weeksOfFund_81 ?_
          refine lv_iadd hx hb dX0_weeksOfFund_82 ?_
          refine lv_topi (fun x_83 ex_83 => ?_)
          have zk := nm_at zk ex_83
          refine lv_istore_n (lv' := [(2, .int x_83), (7, .int x_65), (6, .int v3), (5, .int (nI n5)), (4, .int v4), (3, .int v3), (1, .ref (ad (gM g k)))]) hx hb dX0_weeksOfFund_83 rfl hl (by decide) rfl (fun ls hl => ?_)
          have hls := hl.1
          refine lv_iload_n hx hb dX0_weeksOfFund_84 rfl (lv_at hl 5 rfl) ?_
          refine lv_iload hx hb dX0_weeksOfFund_85 (lv_at hl 2 rfl) ?_
          refine lv_isub hx hb dX0_weeksOfFund_87 ?_
          refine lv_topi (fun x_88 ex_88 => ?_)
          have zk := nm_at zk ex_88
          refine lv_istore_n (lv' := [(3, .int x_88), (2, .int x_83), (7, .int x_65), (6, .int v3), (5, .int (nI n5)), (4, .int v4), (1, .ref (ad (gM g k)))]) hx hb dX0_weeksOfFund_88 rfl hl (by decide) rfl (fun ls hl => ?_)
          have hls := hl.1
          refine lv_iinc (v := (nI (n5 + 1))) (lv' := [(5, .int (nI (n5 + 1))), (3, .int x_88), (2, .int x_83), (7, .int x_65), (6, .int v3), (4, .int v4), (1, .ref (ad (gM g k)))]) hx hb dX0_weeksOfFund_89 hl (k := 4) rfl (nI_1 _) (by decide) rfl (fun ls hl => ?_)
          have hls := hl.1
          refine lv_goto (tgt := 28) hx hb dX0_weeksOfFund_92 (by decide) ?_
          exact ih ((n5 + 1)) (v4) (x_88) (x_83)  _ _ _ (show (n5 + 1) ≤ (S (gM g k) 7).toNatClampNeg by omega) (show (n5 + 1) + n = (S (gM g k) 7).toNatClampNeg + 1 by omega) hW (lv_sub hl [0, 5, 1, 2, 6] rfl) hls zk
        · have zk := zk.trans (if_neg c_70)
          refine lv_iload hx hb dX0_weeksOfFund_73 (lv_at hl 2 rfl) ?_
          exact x_iret B hW ⟨zk.symm, rfl⟩ dX0_weeksOfFund_75
set_option maxHeartbeats 4000000 in
set_option maxRecDepth 100000 in
theorem c_X0_weeksOfFund {D : va_G} {ad : Nat → Nat} (l : Launch) (sz : Nat) (S : vS) (g k : Nat) (hg : g < 8) (hk : k < 8) : Met l yX0_weeksOfFund wsX0_weeksOfFund (rmD 1) (pW D 157 (cC D ad) ad sz S [.ref (ad (gG g)), .ref (ad (gM g k))]) (va_Qi (fun (r : Int32) (S1 : vS) => r = (x_X0_weeksOfFund S g k) ∧ S1 = S) (bW D 157 (cC D ad) ad (aW 157 ad sz)) (aW 157 ad sz)) 0 0 (aW 157 ad sz) := by
  refine x_met (own := RX0) (cc := cX0_weeksOfFund) (maxL := 8) (ret := (some .int)) (Qc := fun A => va_Qi (fun (r : Int32) (S1 : vS) => r = (x_X0_weeksOfFund S g k) ∧ S1 = S) (bW D 157 (cC D ad) ad A) A) rfl ⟨by decide +kernel, rfl, Nat.le_of_ble_eq_true rfl⟩ ?_
  intro p e s mm args below meth c A ls B hW hl hls
  have hx := B.1.1
  have hb := B.1.2.1
  have hin_X0 : ∀ w ∈ wsX00, w ∈ wsX0_weeksOfFund := fun w h => List.mem_cons_of_mem _ (List.mem_append_left _ (List.mem_append_right _ h))
  have hin_X2 : ∀ w ∈ wsX20, w ∈ wsX0_weeksOfFund := fun w h => List.mem_cons_of_mem _ (List.mem_append_right _ h)
  have k_17 := B.1.2.2.2.2 (.fieldLink RX0 17 "JointLoans$Group" "settings" "[I") (by decide +kernel)
  have k_47 := B.1.2.2.2.2 (.fieldLink RX0 47 "JointLoans$Group" "fund" "I") (by decide +kernel)
  have zk := x_X0_weeksOfFund.eq_1 S g k
  have hl : lv_has ls 8 [(0, .ref (ad (gG g))), (1, .ref (ad (gM g k)))] := hl
  refine lv_aload_n hx hb dX0_weeksOfFund_0 rfl (lv_at hl 0 rfl) ?_
  refine x_get B hW (hqG hg) (cC_G hg) cls0 hin_X0 6 (by decide) (v := .int (S (gG g) 6)) rfl k_47 dX0_weeksOfFund_1 ?_
  refine lv_topi (fun x_4 ex_4 => ?_)
  have zk := nm_at zk ex_4
  refine lv_istore_n (lv' := [(2, .int x_4), (0, .ref (ad (gG g))), (1, .ref (ad (gM g k)))]) hx hb dX0_weeksOfFund_4 rfl hl (by decide) rfl (fun ls hl => ?_)
  have hls := hl.1
  refine lv_aload_n hx hb dX0_weeksOfFund_5 rfl (lv_at hl 2 rfl) ?_
  refine x_getN B hW (hqM hg hk) (cC_M hg hk) cls2 hin_X2 6 (by decide) (v := .int (S (gM g k) 6)) rfl nl_X0_167 dX0_weeksOfFund_6 ?_
  refine lv_topi (fun x_9 ex_9 => ?_)
  have zk := nm_at zk ex_9
  refine lv_istore_n (lv' := [(3, .int x_9), (2, .int x_4), (0, .ref (ad (gG g))), (1, .ref (ad (gM g k)))]) hx hb dX0_weeksOfFund_9 rfl hl (by decide) rfl (fun ls hl => ?_)
  have hls := hl.1
  refine lv_aload_n hx hb dX0_weeksOfFund_10 rfl (lv_at hl 2 rfl) ?_
  refine x_calli hW (x_runV B hW (As := []) (rest := []) (hqG hg) (cC_G hg) cls0 (c_X0_memberCount (D := D) (ad := ad) l _ S g hg) (cwV 0 B.1.2.2.2.2 gX0_weeksOfFund_X0_memberCount rfl rfl rfl hd_X0_memberCount ⟨Nat.le_of_ble_eq_true rfl, Nat.le_of_ble_eq_true rfl⟩) rfl hls (Nat.le_of_ble_eq_true rfl) dX0_weeksOfFund_11 ⟨Nat.zero_le _, Nat.zero_le _⟩) (fun r_11 S_11 H locs he hW => ?_)
  obtain ⟨hr_11, hs⟩ := he
  rw [hs] at hW
  have zk := nm_at zk hr_11
  refine lv_iconst (v := 1) hx hb dX0_weeksOfFund_14 (by decide) ?_
  refine lv_isub hx hb dX0_weeksOfFund_15 ?_
  refine lv_aload_n hx hb dX0_weeksOfFund_16 rfl (lv_at hl 2 rfl) ?_
  refine x_get B hW (hqG hg) (cC_G hg) cls0 hin_X0 1 (by decide) (v := .ref (ad (gS g))) rfl k_17 dX0_weeksOfFund_17 ?_
  refine lv_iconst (v := 1) hx hb dX0_weeksOfFund_20 (by decide) ?_
  refine x_iald B hW (hqS hg) (cC_S hg) (isN_lit 1 (by decide)) (by decide) (by decide) dX0_weeksOfFund_21 ?_
  refine lv_imul hx hb dX0_weeksOfFund_22 ?_
  refine lv_topi (fun x_23 ex_23 => ?_)
  have zk := nm_at zk ex_23
  refine lv_istore (lv' := [(4, .int x_23), (3, .int x_9), (2, .int x_4), (0, .ref (ad (gG g))), (1, .ref (ad (gM g k)))]) hx hb dX0_weeksOfFund_23 hl (by decide) rfl (fun ls hl => ?_)
  have hls := hl.1
  refine lv_iconst (v := 0) hx hb dX0_weeksOfFund_25 (by decide) ?_
  refine lv_istore (lv' := [(5, .int 0), (4, .int x_23), (3, .int x_9), (2, .int x_4), (0, .ref (ad (gG g))), (1, .ref (ad (gM g k)))]) hx hb dX0_weeksOfFund_26 hl (by decide) rfl (fun ls hl => ?_)
  have hls := hl.1
  exact w_X0_weeksOfFund_L28 l B S _ g k hg hk ((S (gM g k) 7).toNatClampNeg + 1) (0) (x_23) (x_9) (x_4)  _ _ _ (show 0 ≤ (S (gM g k) 7).toNatClampNeg by omega) (show 0 + ((S (gM g k) 7).toNatClampNeg + 1) = (S (gM g k) 7).toNatClampNeg + 1 by omega) hW (lv_sub hl [0, 1, 2, 3, 5] rfl) hls zk

def x_X0_weakestNumber_L26 : Nat → vS → Nat → Nat → Int32 → Int32 → Int32
  | 0, S, _, _, _, _ => 0
  | n + 1, S, g, n5, v2, v1 => if 8 ≤ (nI n5) then v1 else nm (x_X2_due S g n5) (fun r_41 => nm ((r_41 - (S (gG g) 6))) (fun x_49 => if x_49 ≤ v2 then x_X0_weakestNumber_L26 n S g ((n5 + 1)) (v2) (v1) else x_X0_weakestNumber_L26 n S g ((n5 + 1)) (x_49) ((nI n5))))
def x_X0_weakestNumber (S : vS) (g : Nat) : Int32 := nm (x_X0_memberCount S g) (fun r_5 => if 2 ≤ r_5 then x_X0_weakestNumber_L26 (9) S g (0) (0) ((-1)) else (-1))
theorem hd_X0_weakestNumber : yX0_weakestNumber.cls = RX0 ∧ yX0_weakestNumber.cls ≠ "java/lang/invoke/MethodHandle" ∧ yX0_weakestNumber.cls ≠ "java/lang/invoke/VarHandle" ∧ (parseMethodDescriptor yX0_weakestNumber.desc).map (fun d => d.parameters.length) = some 0 := by decide +kernel
set_option maxHeartbeats 4000000 in
set_option maxRecDepth 100000 in
theorem w_X0_weakestNumber_L26 {D : va_G} {ad : Nat → Nat} (l : Launch) {p : Program} {e : Env} {s : State} {mm : MethodId} {args : Array Value} {below : List Frame} {meth : Method} {c : Code} {A : Nat → Prop} (B : Cx p mm c cX0_weakestNumber 8 s args wsX0_weakestNumber RX0 meth (some .int) D) (S : vS) (z : Int32) (g : Nat) (hg : g < 8) : ∀ (n : Nat) (n5 : Nat) (v2 : Int32) (v1 : Int32) (H : Heap) (locs : List Loc) (ls : Array Slot), n5 ≤ 8 → n5 + n = 9 → Wd D 157 (cC D ad) ad A s.heap S H locs → lv_has ls 8 [(5, .int (nI n5)), (4, .int 8), (3, .ref (ad (gA g))), (2, .int v2), (1, .int v1), (0, .ref (ad (gG g)))] → ls.size = 8 → z = x_X0_weakestNumber_L26 n S g n5 v2 v1 → W p l e (rmD 2) s mm args below meth c H locs 0 0 (MQ below (va_Qi (fun (r : Int32) (S1 : vS) => r = z ∧ S1 = S) (bW D 157 (cC D ad) ad A) A) args s 0 0 A) (F0 mm 26 ls []) := by
  have hx := B.1.1
  have hb := B.1.2.1
  have hin_X0 : ∀ w ∈ wsX00, w ∈ wsX0_weakestNumber := fun w h => List.mem_cons_of_mem _ (List.mem_append_left _ (List.mem_append_right _ h))
  have hin_X2 : ∀ w ∈ wsX20, w ∈ wsX0_weakestNumber := fun w h => List.mem_cons_of_mem _ (List.mem_append_right _ h)
  have k_11 := B.1.2.2.2.2 (.fieldLink RX0 11 "JointLoans$Group" "members" "[LJointLoans$Member;") (by decide +kernel)
  have k_47 := B.1.2.2.2.2 (.fieldLink RX0 47 "JointLoans$Group" "fund" "I") (by decide +kernel)
  have ki_X2 := B.1.2.2.2.2 (.initialized RX2) (by decide +kernel)
  have kn_X2_due := B.1.2.2.2.2 (.instanceMethod yX2_due) (by decide +kernel)
  have kv_X2_due := B.1.2.2.2.2 (.selects RX2 yX2_due yX2_due) (by decide +kernel)
  intro n
  induction n with
  | zero =>
    intro n5 v2 v1 H locs ls hle hsum
    omega
  | succ n ih =>
    intro n5 v2 v1 H locs ls hle hsum hW hl hls zk
    have zk := zk.trans (x_X0_weakestNumber_L26.eq_2 _ _ _ _ _ _ )
    refine lv_iload hx hb dX0_weakestNumber_26 (lv_at hl 0 rfl) ?_
    refine lv_iload hx hb dX0_weakestNumber_28 (lv_at hl 1 rfl) ?_
    refine lv_icmp_ge (tgt := 72) hx hb dX0_weakestNumber_30 (by decide) (fun c_30 => ?_) (fun c_30 => ?_)
    · have zk := zk.trans (if_pos c_30)
      refine lv_iload_n hx hb dX0_weakestNumber_72 rfl (lv_at hl 4 rfl) ?_
      exact x_iret B hW ⟨zk.symm, rfl⟩ dX0_weakestNumber_73
    · have zk := zk.trans (if_neg c_30)
      have hb_c_30 : n5 < 8 := nI_of_nle (by decide) c_30 (by omega)
      refine lv_aload_n hx hb dX0_weakestNumber_33 rfl (lv_at hl 2 rfl) ?_
      refine lv_iload hx hb dX0_weakestNumber_34 (lv_at hl 0 rfl) ?_
      refine x_aald B hW (hqA hg) (cC_A hg) (k := 2) rfl (isN_nI hb_c_30 (by decide)) (by decide) (by decide) (v := .ref (ad (gM g n5))) rfl dX0_weakestNumber_36 ?_
      refine lv_astore (lv' := [(6, .ref (ad (gM g n5))), (5, .int (nI n5)), (4, .int 8), (3, .ref (ad (gA g))), (2, .int v2), (1, .int v1), (0, .ref (ad (gG g)))]) hx hb dX0_weakestNumber_37 hl (by decide) rfl (fun ls hl => ?_)
      have hls := hl.1
      refine lv_aload hx hb dX0_weakestNumber_39 (lv_at hl 0 rfl) ?_
      refine x_calli hW (x_runVN B hW (As := []) (rest := []) (host := RX4) (hqM hg hb_c_30) (cC_M hg hb_c_30) cls2 (c_X2_due (D := D) (ad := ad) l _ S g n5 hg hb_c_30) ⟨va_cnB 0 B.1.2.2.2.2 gX0_weakestNumber_X2_due_n143 rfl rfl rfl (B.2.1.2 _ nl_X0_143) ki_X2 hd_X2_due.2 ⟨Nat.le_of_ble_eq_true rfl, Nat.le_of_ble_eq_true rfl⟩, kn_X2_due, kv_X2_due⟩ rfl hls (Nat.le_of_ble_eq_true rfl) dX0_weakestNumber_41 ⟨Nat.zero_le _, Nat.zero_le _⟩) (fun r_41 S_41 H locs he hW => ?_)
      obtain ⟨hr_41, hs⟩ := he
      rw [hs] at hW
      have zk := nm_at zk hr_41
      refine lv_aload_n hx hb dX0_weakestNumber_44 rfl (lv_at hl 6 rfl) ?_
      refine x_get B hW (hqG hg) (cC_G hg) cls0 hin_X0 6 (by decide) (v := .int (S (gG g) 6)) rfl k_47 dX0_weakestNumber_45 ?_
      refine lv_isub hx hb dX0_weakestNumber_48 ?_
      refine lv_topi (fun x_49 ex_49 => ?_)
      have zk := nm_at zk ex_49
      refine lv_istore (lv' := [(7, .int x_49), (6, .ref (ad (gM g n5))), (5, .int (nI n5)), (4, .int 8), (3, .ref (ad (gA g))), (2, .int v2), (1, .int v1), (0, .ref (ad (gG g)))]) hx hb dX0_weakestNumber_49 hl (by decide) rfl (fun ls hl => ?_)
      have hls := hl.1
      refine lv_iload hx hb dX0_weakestNumber_51 (lv_at hl 0 rfl) ?_
      refine lv_iload_n hx hb dX0_weakestNumber_53 rfl (lv_at hl 5 rfl) ?_
      refine lv_icmp_le (tgt := 66) hx hb dX0_weakestNumber_54 (by decide) (fun c_54 => ?_) (fun c_54 => ?_)
      · have zk := zk.trans (if_pos c_54)
        refine lv_iinc (v := (nI (n5 + 1))) (lv' := [(5, .int (nI (n5 + 1))), (7, .int x_49), (6, .ref (ad (gM g n5))), (4, .int 8), (3, .ref (ad (gA g))), (2, .int v2), (1, .int v1), (0, .ref (ad (gG g)))]) hx hb dX0_weakestNumber_66 hl (k := 2) rfl (nI_1 _) (by decide) rfl (fun ls hl => ?_)
        have hls := hl.1
        refine lv_goto (tgt := 26) hx hb dX0_weakestNumber_69 (by decide) ?_
        exact ih ((n5 + 1)) (v2) (v1)  _ _ _ (show (n5 + 1) ≤ 8 by omega) (show (n5 + 1) + n = 9 by omega) hW (lv_sub hl [0, 3, 4, 5, 6, 7] rfl) hls zk
      · have zk := zk.trans (if_neg c_54)
        refine lv_iload hx hb dX0_weakestNumber_57 (lv_at hl 0 rfl) ?_
        refine lv_istore_n (lv' := [(2, .int x_49), (7, .int x_49), (6, .ref (ad (gM g n5))), (5, .int (nI n5)), (4, .int 8), (3, .ref (ad (gA g))), (1, .int v1), (0, .ref (ad (gG g)))]) hx hb dX0_weakestNumber_59 rfl hl (by decide) rfl (fun ls hl => ?_)
        have hls := hl.1
        refine lv_aload hx hb dX0_weakestNumber_60 (lv_at hl 2 rfl) ?_
        refine x_getN B hW (hqM hg hb_c_30) (cC_M hg hb_c_30) cls2 hin_X2 0 (by decide) (v := .int (nI n5)) rfl nl_X0_90 dX0_weakestNumber_62 ?_
        refine lv_istore_n (lv' := [(1, .int (nI n5)), (2, .int x_49), (7, .int x_49), (6, .ref (ad (gM g n5))), (5, .int (nI n5)), (4, .int 8), (3, .ref (ad (gA g))), (0, .ref (ad (gG g)))]) hx hb dX0_weakestNumber_65 rfl hl (by decide) rfl (fun ls hl => ?_)
        have hls := hl.1
        refine lv_iinc (v := (nI (n5 + 1))) (lv' := [(5, .int (nI (n5 + 1))), (1, .int (nI n5)), (2, .int x_49), (7, .int x_49), (6, .ref (ad (gM g n5))), (4, .int 8), (3, .ref (ad (gA g))), (0, .ref (ad (gG g)))]) hx hb dX0_weakestNumber_66 hl (k := 4) rfl (nI_1 _) (by decide) rfl (fun ls hl => ?_)
        have hls := hl.1
        refine lv_goto (tgt := 26) hx hb dX0_weakestNumber_69 (by decide) ?_
        exact ih ((n5 + 1)) (x_49) ((nI n5))  _ _ _ (show (n5 + 1) ≤ 8 by omega) (show (n5 + 1) + n = 9 by omega) hW (lv_sub hl [0, 5, 6, 2, 1, 7] rfl) hls zk
set_option maxHeartbeats 4000000 in
set_option maxRecDepth 100000 in
theorem c_X0_weakestNumber {D : va_G} {ad : Nat → Nat} (l : Launch) (sz : Nat) (S : vS) (g : Nat) (hg : g < 8) : Met l yX0_weakestNumber wsX0_weakestNumber (rmD 2) (pW D 157 (cC D ad) ad sz S [.ref (ad (gG g))]) (va_Qi (fun (r : Int32) (S1 : vS) => r = (x_X0_weakestNumber S g) ∧ S1 = S) (bW D 157 (cC D ad) ad (aW 157 ad sz)) (aW 157 ad sz)) 0 0 (aW 157 ad sz) := by
  refine x_met (own := RX0) (cc := cX0_weakestNumber) (maxL := 8) (ret := (some .int)) (Qc := fun A => va_Qi (fun (r : Int32) (S1 : vS) => r = (x_X0_weakestNumber S g) ∧ S1 = S) (bW D 157 (cC D ad) ad A) A) rfl ⟨by decide +kernel, rfl, Nat.le_of_ble_eq_true rfl⟩ ?_
  intro p e s mm args below meth c A ls B hW hl hls
  have hx := B.1.1
  have hb := B.1.2.1
  have hin_X0 : ∀ w ∈ wsX00, w ∈ wsX0_weakestNumber := fun w h => List.mem_cons_of_mem _ (List.mem_append_left _ (List.mem_append_right _ h))
  have hin_X2 : ∀ w ∈ wsX20, w ∈ wsX0_weakestNumber := fun w h => List.mem_cons_of_mem _ (List.mem_append_right _ h)
  have k_11 := B.1.2.2.2.2 (.fieldLink RX0 11 "JointLoans$Group" "members" "[LJointLoans$Member;") (by decide +kernel)
  have k_47 := B.1.2.2.2.2 (.fieldLink RX0 47 "JointLoans$Group" "fund" "I") (by decide +kernel)
  have ki_X2 := B.1.2.2.2.2 (.initialized RX2) (by decide +kernel)
  have kn_X2_due := B.1.2.2.2.2 (.instanceMethod yX2_due) (by decide +kernel)
  have kv_X2_due := B.1.2.2.2.2 (.selects RX2 yX2_due yX2_due) (by decide +kernel)
  have zk := x_X0_weakestNumber.eq_1 S g
  have hl : lv_has ls 8 [(0, .ref (ad (gG g)))] := hl
  refine lv_iconst (v := (-1)) hx hb dX0_weakestNumber_0 (by decide) ?_
  refine lv_istore_n (lv' := [(1, .int (-1)), (0, .ref (ad (gG g)))]) hx hb dX0_weakestNumber_1 rfl hl (by decide) rfl (fun ls hl => ?_)
  have hls := hl.1
  refine lv_iconst (v := 0) hx hb dX0_weakestNumber_2 (by decide) ?_
  refine lv_istore_n (lv' := [(2, .int 0), (1, .int (-1)), (0, .ref (ad (gG g)))]) hx hb dX0_weakestNumber_3 rfl hl (by decide) rfl (fun ls hl => ?_)
  have hls := hl.1
  refine lv_aload_n hx hb dX0_weakestNumber_4 rfl (lv_at hl 2 rfl) ?_
  refine x_calli hW (x_runV B hW (As := []) (rest := []) (hqG hg) (cC_G hg) cls0 (c_X0_memberCount (D := D) (ad := ad) l _ S g hg) (cwV 0 B.1.2.2.2.2 gX0_weakestNumber_X0_memberCount rfl rfl rfl hd_X0_memberCount ⟨Nat.le_of_ble_eq_true rfl, Nat.le_of_ble_eq_true rfl⟩) rfl hls (Nat.le_of_ble_eq_true rfl) dX0_weakestNumber_5 ⟨Nat.zero_le _, Nat.zero_le _⟩) (fun r_5 S_5 H locs he hW => ?_)
  obtain ⟨hr_5, hs⟩ := he
  rw [hs] at hW
  have zk := nm_at zk hr_5
  refine lv_iconst (v := 2) hx hb dX0_weakestNumber_8 (by decide) ?_
  refine lv_icmp_ge (tgt := 14) hx hb dX0_weakestNumber_9 (by decide) (fun c_9 => ?_) (fun c_9 => ?_)
  · have zk := zk.trans (if_pos c_9)
    refine lv_aload_n hx hb dX0_weakestNumber_14 rfl (lv_at hl 2 rfl) ?_
    refine x_get B hW (hqG hg) (cC_G hg) cls0 hin_X0 0 (by decide) (v := .ref (ad (gA g))) rfl k_11 dX0_weakestNumber_15 ?_
    refine lv_astore_n (lv' := [(3, .ref (ad (gA g))), (2, .int 0), (1, .int (-1)), (0, .ref (ad (gG g)))]) hx hb dX0_weakestNumber_18 rfl hl (by decide) rfl (fun ls hl => ?_)
    have hls := hl.1
    refine lv_aload_n hx hb dX0_weakestNumber_19 rfl (lv_at hl 0 rfl) ?_
    refine x_alen B hW (hqA hg) (cC_A hg) (k := 2) rfl (v := 8) rfl dX0_weakestNumber_20 ?_
    refine lv_istore (lv' := [(4, .int 8), (3, .ref (ad (gA g))), (2, .int 0), (1, .int (-1)), (0, .ref (ad (gG g)))]) hx hb dX0_weakestNumber_21 hl (by decide) rfl (fun ls hl => ?_)
    have hls := hl.1
    refine lv_iconst (v := 0) hx hb dX0_weakestNumber_23 (by decide) ?_
    refine lv_istore (lv' := [(5, .int 0), (4, .int 8), (3, .ref (ad (gA g))), (2, .int 0), (1, .int (-1)), (0, .ref (ad (gG g)))]) hx hb dX0_weakestNumber_24 hl (by decide) rfl (fun ls hl => ?_)
    have hls := hl.1
    exact w_X0_weakestNumber_L26 l B S _ g hg (9) (0) (0) ((-1))  _ _ _ (show 0 ≤ 8 by omega) (show 0 + (9) = 9 by omega) hW (lv_sub hl [0, 1, 2, 3, 4, 5] rfl) hls zk
  · have zk := zk.trans (if_neg c_9)
    refine lv_iconst (v := (-1)) hx hb dX0_weakestNumber_12 (by decide) ?_
    exact x_iret B hW ⟨zk.symm, rfl⟩ dX0_weakestNumber_13

def x_X0_shareOfPaid (S : vS) (g : Nat) : UInt64 := nm (((S (gG g) 7) + (S (gG g) 8))) (fun x_9 => if x_9 ≤ 0 then FP.dconst1 else (FP.ddiv (FP.i2d (S (gG g) 9)) (FP.i2d x_9)))
theorem hd_X0_shareOfPaid : yX0_shareOfPaid.cls = RX0 ∧ yX0_shareOfPaid.cls ≠ "java/lang/invoke/MethodHandle" ∧ yX0_shareOfPaid.cls ≠ "java/lang/invoke/VarHandle" ∧ (parseMethodDescriptor yX0_shareOfPaid.desc).map (fun d => d.parameters.length) = some 0 := by decide +kernel
set_option maxHeartbeats 4000000 in
set_option maxRecDepth 100000 in
theorem c_X0_shareOfPaid {D : va_G} {ad : Nat → Nat} (l : Launch) (sz : Nat) (S : vS) (g : Nat) (hg : g < 8) : Met l yX0_shareOfPaid wsX0_shareOfPaid (rmD 0) (pW D 157 (cC D ad) ad sz S [.ref (ad (gG g))]) (va_Qd (fun (r : UInt64) (S1 : vS) => r = (x_X0_shareOfPaid S g) ∧ S1 = S) (bW D 157 (cC D ad) ad (aW 157 ad sz)) (aW 157 ad sz)) 0 0 (aW 157 ad sz) := by
  refine x_met (own := RX0) (cc := cX0_shareOfPaid) (maxL := 2) (ret := (some .double)) (Qc := fun A => va_Qd (fun (r : UInt64) (S1 : vS) => r = (x_X0_shareOfPaid S g) ∧ S1 = S) (bW D 157 (cC D ad) ad A) A) rfl ⟨by decide +kernel, rfl, Nat.le_of_ble_eq_true rfl⟩ ?_
  intro p e s mm args below meth c A ls B hW hl hls
  have hx := B.1.1
  have hb := B.1.2.1
  have hin_X0 : ∀ w ∈ wsX00, w ∈ wsX0_shareOfPaid := fun w h => List.mem_cons_of_mem _ (List.mem_append_right _ h)
  have k_50 := B.1.2.2.2.2 (.fieldLink RX0 50 "JointLoans$Group" "bankLent" "I") (by decide +kernel)
  have k_53 := B.1.2.2.2.2 (.fieldLink RX0 53 "JointLoans$Group" "bankInterest" "I") (by decide +kernel)
  have k_56 := B.1.2.2.2.2 (.fieldLink RX0 56 "JointLoans$Group" "bankPaid" "I") (by decide +kernel)
  have zk := x_X0_shareOfPaid.eq_1 S g
  have hl : lv_has ls 2 [(0, .ref (ad (gG g)))] := hl
  refine lv_aload_n hx hb dX0_shareOfPaid_0 rfl (lv_at hl 0 rfl) ?_
  refine x_get B hW (hqG hg) (cC_G hg) cls0 hin_X0 7 (by decide) (v := .int (S (gG g) 7)) rfl k_50 dX0_shareOfPaid_1 ?_
  refine lv_aload_n hx hb dX0_shareOfPaid_4 rfl (lv_at hl 0 rfl) ?_
  refine x_get B hW (hqG hg) (cC_G hg) cls0 hin_X0 8 (by decide) (v := .int (S (gG g) 8)) rfl k_53 dX0_shareOfPaid_5 ?_
  refine lv_iadd hx hb dX0_shareOfPaid_8 ?_
  refine lv_topi (fun x_9 ex_9 => ?_)
  have zk := nm_at zk ex_9
  refine lv_istore_n (lv' := [(1, .int x_9), (0, .ref (ad (gG g)))]) hx hb dX0_shareOfPaid_9 rfl hl (by decide) rfl (fun ls hl => ?_)
  have hls := hl.1
  refine lv_iload_n hx hb dX0_shareOfPaid_10 rfl (lv_at hl 0 rfl) ?_
  refine lv_if_le (tgt := 25) hx hb dX0_shareOfPaid_11 (by decide) (fun c_11 => ?_) (fun c_11 => ?_)
  · have zk := zk.trans (if_pos c_11)
    refine lv_dconst1 hx hb dX0_shareOfPaid_25 ?_
    exact x_dret B hW ⟨zk.symm, rfl⟩ dX0_shareOfPaid_26
  · have zk := zk.trans (if_neg c_11)
    refine lv_aload_n hx hb dX0_shareOfPaid_14 rfl (lv_at hl 1 rfl) ?_
    refine x_get B hW (hqG hg) (cC_G hg) cls0 hin_X0 9 (by decide) (v := .int (S (gG g) 9)) rfl k_56 dX0_shareOfPaid_15 ?_
    refine lv_i2d hx hb dX0_shareOfPaid_18 ?_
    refine lv_iload_n hx hb dX0_shareOfPaid_19 rfl (lv_at hl 0 rfl) ?_
    refine lv_i2d hx hb dX0_shareOfPaid_20 ?_
    refine lv_ddiv hx hb dX0_shareOfPaid_21 (dd_ok c_11) ?_
    refine lv_goto (tgt := 26) hx hb dX0_shareOfPaid_22 (by decide) ?_
    exact x_dret B hW ⟨zk.symm, rfl⟩ dX0_shareOfPaid_26

end P21_group
