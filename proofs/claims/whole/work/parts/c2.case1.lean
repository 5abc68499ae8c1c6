section LAWC1
variable {p : Program} {l : Launch} {e : Env} {s : State} {m : MethodId} {b : Nat} {below : List Frame} {meth : Method} {c : Code} {H : Heap} {locs : List Loc} {cells slots : Nat} {Q : State → Prop}
variable {D : va_G} {ad ad2 : Nat → Nat} {A : Nat → Prop} {S T : vS} {V : vE} {L i : Nat} {xs : Nat → Int32} {ls : Array Slot}
set_option maxRecDepth 20000 in
theorem lwc_cycle (B : Cx p m c code 9 s #[Value.ref b] lw_tbl RL meth ret D) (hl0 : l.stackTraces = false) (hE : nv V A s s.heap) (hN : NcT s) (hX : va_X b L xs s s.heap) (hbl : b < s.heap.size) (hbA : ¬ A b) (hL : L ≤ 2048) (hap : ∀ i j, i < 158 → j < 7 → ad i ≠ ad2 j) (hi : i + 4 ≤ L) (hC : Wd D 158 (cC D ad) ad A s.heap S H locs) (hM : Wd D 7 (cM D ad2) ad2 A s.heap T H locs) (hR : RR S T) (hl : lv_has ls 9 (lwl b ad ad2 i)) (hc : cells + 3 ≤ 601024) (hs : slots + 18 ≤ 7293034) (hk : ∀ (S1 T1 : vS) (H1 : Heap) (locs1 : List Loc) (cells1 slots1 : Nat) (ls1 : Array Slot), Wd D 158 (cC D ad) ad A s.heap S1 H1 locs1 → Wd D 7 (cM D ad2) ad2 A s.heap T1 H1 locs1 → RR S1 T1 → lv_has ls1 9 (lwl b ad ad2 i) → cells1 ≤ cells + 3 → slots1 ≤ slots + 18 → W p l e room_1 s m #[Value.ref b] below meth c H1 locs1 cells1 slots1 Q (F0 m 1359 ls1 [])) : W p l e room_1 s m #[Value.ref b] below meth c H locs cells slots Q (F0 m 568 ls []) := by
  have hx := B.1.1
  have hb := B.1.2.1
  have hp := rr_pre hR
  have hap2 : ∀ i j, i < 7 → j < 158 → ad2 i ≠ ad j := fun i j a q z => hap j i q a z.symm
  have hl : lv_has ls 9 [(0, .ref b), (1, .ref (ad jO)), (2, .ref (ad2 0)), (3, .ref (ad oL)), (4, .int (nI i))] := hl
  refine lv_aload_n hx hb dL_law_568 rfl (lv_at hl 1 rfl) ?_
  refine lv_aload_n hx hb dL_law_569 rfl (lv_at hl 3 rfl) ?_
  refine w_hcall B hC hM hap hE hN (As := [.ref (ad jO), .ref (ad oL)]) (rest := []) (h_L_cycle (D := D) (ad := ad) (V := V) l _ hl0 S) (vx_cwSW 2 B.1.2.2.2.2 gL_law_L_cycle rfl rfl rfl hd_L_cycle.2 ⟨Nat.le_of_ble_eq_true rfl, Nat.le_of_ble_eq_true rfl⟩) rfl hl.1 (Nat.le_of_ble_eq_true rfl) dL_law_570 ⟨by show _ ≤ 601024; omega, by show _ ≤ 7293034; omega⟩ (fun k S1 H locs hk1 hC hM => ?_)
  refine lv_istore (lv' := [(5, .int k), (0, .ref b), (1, .ref (ad jO)), (2, .ref (ad2 0)), (3, .ref (ad oL)), (4, .int (nI i))]) hx hb dL_law_573 hl (by decide) rfl (fun ls hl => ?_)
  refine lv_aload_n hx hb dL_law_575 rfl (lv_at hl 3 rfl) ?_
  refine w_calli hM hC hap2 (x_runV B hM (As := []) (rest := []) (q := 0) (by decide) cM_o cls5 (c_X5_cycle (D := D) (ad := ad2) l _ T hp.1) (cwV 0 B.1.2.2.2.2 gL_law_X5_cycle rfl rfl rfl hd_X5_cycle ⟨Nat.le_of_ble_eq_true rfl, Nat.le_of_ble_eq_true rfl⟩) rfl hl.1 (Nat.le_of_ble_eq_true rfl) dL_law_576 ⟨by show _ ≤ 601024; omega, by show _ ≤ 7293034; omega⟩) (fun r T1 H locs hr hM hC => ?_)
  refine lv_istore (lv' := [(6, .int r), (5, .int k), (0, .ref b), (1, .ref (ad jO)), (2, .ref (ad2 0)), (3, .ref (ad oL)), (4, .int (nI i))]) hx hb dL_law_579 hl (by decide) rfl (fun ls hl => ?_)
  have ce := op_cycle hR
  rw [← hr] at ce
  obtain ⟨hR1, h6, hout⟩ := hL_ce mp_01 rfl hk1 ce
  refine lv_aload_n hx hb dL_law_581 rfl (lv_at hl 4 rfl) ?_
  refine w_calli hM hC hap2 (x_runV B hM (As := []) (rest := []) (q := 0) (by decide) cM_o cls5 (c_X5_thrown (D := D) (ad := ad2) l _ T1) (cwV 0 B.1.2.2.2.2 gL_law_X5_thrown rfl rfl rfl hd_X5_thrown ⟨Nat.le_of_ble_eq_true rfl, Nat.le_of_ble_eq_true rfl⟩) rfl hl.1 (Nat.le_of_ble_eq_true rfl) dL_law_582 ⟨by show _ ≤ 601024; omega, by show _ ≤ 7293034; omega⟩) (fun r2 T2 H locs hr2 hM hC => ?_)
  obtain ⟨hr2, hT2⟩ := hr2
  rw [hT2] at hM
  refine lv_iload hx hb dL_law_585 (lv_at hl 1 rfl) ?_
  refine lv_icmp_eq (tgt := 592) hx hb dL_law_587 (by decide) (fun c1 => ?_) (fun c1 => absurd (hr2.trans h6) c1)
  refine lv_iload hx hb dL_law_592 (lv_at hl 1 rfl) ?_
  refine lv_if_ne (tgt := 609) hx hb dL_law_594 (by decide) (fun c2 => ?_) (fun c2 => ?_)
  · refine lv_goto (tgt := 1359) hx hb dL_law_609 (by decide) ?_
    exact hk _ _ _ _ _ _ _ hC hM hR1 (lv_sub hl [2, 3, 4, 5, 6] rfl) (by omega) (by omega)
  · refine lv_aload_n hx hb dL_law_597 rfl (lv_at hl 5 rfl) ?_
    refine lv_iconst (v := 0) hx hb dL_law_598 (by decide) ?_
    refine x_lald B hC dL_law_599 ?_
    refine lv_iload hx hb dL_law_600 (lv_at hl 0 rfl) ?_
    refine lv_i2l hx hb dL_law_602 rfl ?_
    refine lv_lcmp hx hb dL_law_603 ?_
    refine lv_if_eq (tgt := 609) hx hb dL_law_604 (by decide) (fun c3 => ?_) (fun c3 => absurd (lcmp_self (by rw [hout c2])) c3)
    refine lv_goto (tgt := 1359) hx hb dL_law_609 (by decide) ?_
    exact hk _ _ _ _ _ _ _ hC hM hR1 (lv_sub hl [2, 3, 4, 5, 6] rfl) (by omega) (by omega)
set_option maxRecDepth 20000 in
theorem lwc_set (B : Cx p m c code 9 s #[Value.ref b] lw_tbl RL meth ret D) (hl0 : l.stackTraces = false) (hE : nv V A s s.heap) (hN : NcT s) (hX : va_X b L xs s s.heap) (hbl : b < s.heap.size) (hbA : ¬ A b) (hL : L ≤ 2048) (hap : ∀ i j, i < 158 → j < 7 → ad i ≠ ad2 j) (hi : i + 4 ≤ L) (hC : Wd D 158 (cC D ad) ad A s.heap S H locs) (hM : Wd D 7 (cM D ad2) ad2 A s.heap T H locs) (hR : RR S T) (hl : lv_has ls 9 (lwl b ad ad2 i)) (hc : cells + 3 ≤ 601024) (hs : slots + 18 ≤ 7293034) (hk : ∀ (S1 T1 : vS) (H1 : Heap) (locs1 : List Loc) (cells1 slots1 : Nat) (ls1 : Array Slot), Wd D 158 (cC D ad) ad A s.heap S1 H1 locs1 → Wd D 7 (cM D ad2) ad2 A s.heap T1 H1 locs1 → RR S1 T1 → lv_has ls1 9 (lwl b ad ad2 i) → cells1 ≤ cells + 3 → slots1 ≤ slots + 18 → W p l e room_1 s m #[Value.ref b] below meth c H1 locs1 cells1 slots1 Q (F0 m 1359 ls1 [])) : W p l e room_1 s m #[Value.ref b] below meth c H locs cells slots Q (F0 m 612 ls []) := by
  have hx := B.1.1
  have hb := B.1.2.1
  have hp := rr_pre hR
  have hap2 : ∀ i j, i < 7 → j < 158 → ad2 i ≠ ad j := fun i j a q z => hap j i q a z.symm
  have hl : lv_has ls 9 [(0, .ref b), (1, .ref (ad jO)), (2, .ref (ad2 0)), (3, .ref (ad oL)), (4, .int (nI i))] := hl
  refine lv_aload_n hx hb dL_law_612 rfl (lv_at hl 1 rfl) ?_
  refine lv_aload_n hx hb dL_law_613 rfl (lv_at hl 0 rfl) ?_
  refine lv_iload hx hb dL_law_614 (lv_at hl 4 rfl) ?_
  refine lv_iconst (v := 1) hx hb dL_law_616 (by decide) ?_
  refine lv_iadd hx hb dL_law_617 ?_
  refine va_sld hx hb hX hbl hbA hC.2.2.1 (sc_in (j := 1) hi hL (by decide)) dL_law_618 ?_
  refine lv_aload_n hx hb dL_law_619 rfl (lv_at hl 0 rfl) ?_
  refine lv_iload hx hb dL_law_620 (lv_at hl 4 rfl) ?_
  refine lv_iconst (v := 2) hx hb dL_law_622 (by decide) ?_
  refine lv_iadd hx hb dL_law_623 ?_
  refine va_sld hx hb hX hbl hbA hC.2.2.1 (sc_in (j := 2) hi hL (by decide)) dL_law_624 ?_
  refine lv_aload_n hx hb dL_law_625 rfl (lv_at hl 3 rfl) ?_
  refine w_hcall B hC hM hap hE hN (As := [.ref (ad jO), .int (xs (nI i + 1).toNatClampNeg), .int (xs (nI i + 2).toNatClampNeg), .ref (ad oL)]) (rest := []) (h_L_set (D := D) (ad := ad) (V := V) l _ hl0 S (xs (nI i + 1).toNatClampNeg) (xs (nI i + 2).toNatClampNeg)) (vx_cwSW 4 B.1.2.2.2.2 gL_law_L_set rfl rfl rfl hd_L_set.2 ⟨Nat.le_of_ble_eq_true rfl, Nat.le_of_ble_eq_true rfl⟩) rfl hl.1 (Nat.le_of_ble_eq_true rfl) dL_law_626 ⟨by show _ ≤ 601024; omega, by show _ ≤ 7293034; omega⟩ (fun k S1 H locs hk1 hC hM => ?_)
  refine lv_istore (lv' := [(5, .int k), (0, .ref b), (1, .ref (ad jO)), (2, .ref (ad2 0)), (3, .ref (ad oL)), (4, .int (nI i))]) hx hb dL_law_629 hl (by decide) rfl (fun ls hl => ?_)
  refine lv_aload_n hx hb dL_law_631 rfl (lv_at hl 3 rfl) ?_
  refine lv_aload_n hx hb dL_law_632 rfl (lv_at hl 1 rfl) ?_
  refine lv_iload hx hb dL_law_633 (lv_at hl 5 rfl) ?_
  refine lv_iconst (v := 1) hx hb dL_law_635 (by decide) ?_
  refine lv_iadd hx hb dL_law_636 ?_
  refine va_sld hx hb hX hbl hbA hM.2.2.1 (sc_in (j := 1) hi hL (by decide)) dL_law_637 ?_
  refine lv_aload_n hx hb dL_law_638 rfl (lv_at hl 1 rfl) ?_
  refine lv_iload hx hb dL_law_639 (lv_at hl 5 rfl) ?_
  refine lv_iconst (v := 2) hx hb dL_law_641 (by decide) ?_
  refine lv_iadd hx hb dL_law_642 ?_
  refine va_sld hx hb hX hbl hbA hM.2.2.1 (sc_in (j := 2) hi hL (by decide)) dL_law_643 ?_
  refine w_calli hM hC hap2 (x_runV B hM (As := [.int (xs (nI i + 1).toNatClampNeg), .int (xs (nI i + 2).toNatClampNeg)]) (rest := []) (q := 0) (by decide) cM_o cls5 (c_X5_set (D := D) (ad := ad2) l _ T (xs (nI i + 1).toNatClampNeg) (xs (nI i + 2).toNatClampNeg) hp.1) (cwV 2 B.1.2.2.2.2 gL_law_X5_set rfl rfl rfl hd_X5_set ⟨Nat.le_of_ble_eq_true rfl, Nat.le_of_ble_eq_true rfl⟩) rfl hl.1 (Nat.le_of_ble_eq_true rfl) dL_law_644 ⟨by show _ ≤ 601024; omega, by show _ ≤ 7293034; omega⟩) (fun r T1 H locs hr hM hC => ?_)
  refine lv_istore (lv' := [(6, .int r), (5, .int k), (0, .ref b), (1, .ref (ad jO)), (2, .ref (ad2 0)), (3, .ref (ad oL)), (4, .int (nI i))]) hx hb dL_law_647 hl (by decide) rfl (fun ls hl => ?_)
  have ce := op_set hR (xs (nI i + 1).toNatClampNeg) (xs (nI i + 2).toNatClampNeg)
  rw [← hr] at ce
  obtain ⟨hR1, h6, hout⟩ := hL_ce mp_3 rfl hk1 ce
  refine lv_aload_n hx hb dL_law_649 rfl (lv_at hl 4 rfl) ?_
  refine w_calli hM hC hap2 (x_runV B hM (As := []) (rest := []) (q := 0) (by decide) cM_o cls5 (c_X5_thrown (D := D) (ad := ad2) l _ T1) (cwV 0 B.1.2.2.2.2 gL_law_X5_thrown rfl rfl rfl hd_X5_thrown ⟨Nat.le_of_ble_eq_true rfl, Nat.le_of_ble_eq_true rfl⟩) rfl hl.1 (Nat.le_of_ble_eq_true rfl) dL_law_650 ⟨by show _ ≤ 601024; omega, by show _ ≤ 7293034; omega⟩) (fun r2 T2 H locs hr2 hM hC => ?_)
  obtain ⟨hr2, hT2⟩ := hr2
  rw [hT2] at hM
  refine lv_iload hx hb dL_law_653 (lv_at hl 1 rfl) ?_
  refine lv_icmp_eq (tgt := 660) hx hb dL_law_655 (by decide) (fun c1 => ?_) (fun c1 => absurd (hr2.trans h6) c1)
  refine lv_iload hx hb dL_law_660 (lv_at hl 1 rfl) ?_
  refine lv_if_ne (tgt := 677) hx hb dL_law_662 (by decide) (fun c2 => ?_) (fun c2 => ?_)
  · refine lv_goto (tgt := 1359) hx hb dL_law_677 (by decide) ?_
    exact hk _ _ _ _ _ _ _ hC hM hR1 (lv_sub hl [2, 3, 4, 5, 6] rfl) (by omega) (by omega)
  · refine lv_aload_n hx hb dL_law_665 rfl (lv_at hl 5 rfl) ?_
    refine lv_iconst (v := 0) hx hb dL_law_666 (by decide) ?_
    refine x_lald B hC dL_law_667 ?_
    refine lv_iload hx hb dL_law_668 (lv_at hl 0 rfl) ?_
    refine lv_i2l hx hb dL_law_670 rfl ?_
    refine lv_lcmp hx hb dL_law_671 ?_
    refine lv_if_eq (tgt := 677) hx hb dL_law_672 (by decide) (fun c3 => ?_) (fun c3 => absurd (lcmp_self (by rw [hout c2])) c3)
    refine lv_goto (tgt := 1359) hx hb dL_law_677 (by decide) ?_
    exact hk _ _ _ _ _ _ _ hC hM hR1 (lv_sub hl [2, 3, 4, 5, 6] rfl) (by omega) (by omega)
set_option maxRecDepth 20000 in
theorem lwc_append (B : Cx p m c code 9 s #[Value.ref b] lw_tbl RL meth ret D) (hl0 : l.stackTraces = false) (hE : nv V A s s.heap) (hN : NcT s) (hX : va_X b L xs s s.heap) (hbl : b < s.heap.size) (hbA : ¬ A b) (hL : L ≤ 2048) (hap : ∀ i j, i < 158 → j < 7 → ad i ≠ ad2 j) (hi : i + 4 ≤ L) (hC : Wd D 158 (cC D ad) ad A s.heap S H locs) (hM : Wd D 7 (cM D ad2) ad2 A s.heap T H locs) (hR : RR S T) (hl : lv_has ls 9 (lwl b ad ad2 i)) (hc : cells + 3 ≤ 601024) (hs : slots + 18 ≤ 7293034) (hk : ∀ (S1 T1 : vS) (H1 : Heap) (locs1 : List Loc) (cells1 slots1 : Nat) (ls1 : Array Slot), Wd D 158 (cC D ad) ad A s.heap S1 H1 locs1 → Wd D 7 (cM D ad2) ad2 A s.heap T1 H1 locs1 → RR S1 T1 → lv_has ls1 9 (lwl b ad ad2 i) → cells1 ≤ cells + 3 → slots1 ≤ slots + 18 → W p l e room_1 s m #[Value.ref b] below meth c H1 locs1 cells1 slots1 Q (F0 m 1359 ls1 [])) : W p l e room_1 s m #[Value.ref b] below meth c H locs cells slots Q (F0 m 680 ls []) := by
  have hx := B.1.1
  have hb := B.1.2.1
  have hp := rr_pre hR
  have hap2 : ∀ i j, i < 7 → j < 158 → ad2 i ≠ ad j := fun i j a q z => hap j i q a z.symm
  have hl : lv_has ls 9 [(0, .ref b), (1, .ref (ad jO)), (2, .ref (ad2 0)), (3, .ref (ad oL)), (4, .int (nI i))] := hl
  refine lv_aload_n hx hb dL_law_680 rfl (lv_at hl 1 rfl) ?_
  refine lv_aload_n hx hb dL_law_681 rfl (lv_at hl 0 rfl) ?_
  refine lv_iload hx hb dL_law_682 (lv_at hl 4 rfl) ?_
  refine lv_iconst (v := 1) hx hb dL_law_684 (by decide) ?_
  refine lv_iadd hx hb dL_law_685 ?_
  refine va_sld hx hb hX hbl hbA hC.2.2.1 (sc_in (j := 1) hi hL (by decide)) dL_law_686 ?_
  refine lv_aload_n hx hb dL_law_687 rfl (lv_at hl 3 rfl) ?_
  refine w_hcall B hC hM hap hE hN (As := [.ref (ad jO), .int (xs (nI i + 1).toNatClampNeg), .ref (ad oL)]) (rest := []) (h_L_append (D := D) (ad := ad) (V := V) l _ hl0 S (xs (nI i + 1).toNatClampNeg)) (vx_cwSW 3 B.1.2.2.2.2 gL_law_L_append rfl rfl rfl hd_L_append.2 ⟨Nat.le_of_ble_eq_true rfl, Nat.le_of_ble_eq_true rfl⟩) rfl hl.1 (Nat.le_of_ble_eq_true rfl) dL_law_688 ⟨by show _ ≤ 601024; omega, by show _ ≤ 7293034; omega⟩ (fun k S1 H locs hk1 hC hM => ?_)
  refine lv_istore (lv' := [(5, .int k), (0, .ref b), (1, .ref (ad jO)), (2, .ref (ad2 0)), (3, .ref (ad oL)), (4, .int (nI i))]) hx hb dL_law_691 hl (by decide) rfl (fun ls hl => ?_)
  refine lv_aload_n hx hb dL_law_693 rfl (lv_at hl 3 rfl) ?_
  refine lv_aload_n hx hb dL_law_694 rfl (lv_at hl 1 rfl) ?_
  refine lv_iload hx hb dL_law_695 (lv_at hl 5 rfl) ?_
  refine lv_iconst (v := 1) hx hb dL_law_697 (by decide) ?_
  refine lv_iadd hx hb dL_law_698 ?_
  refine va_sld hx hb hX hbl hbA hM.2.2.1 (sc_in (j := 1) hi hL (by decide)) dL_law_699 ?_
  refine w_calli hM hC hap2 (x_runV B hM (As := [.int (xs (nI i + 1).toNatClampNeg)]) (rest := []) (q := 0) (by decide) cM_o cls5 (c_X5_append (D := D) (ad := ad2) l _ T (xs (nI i + 1).toNatClampNeg) hp.2.2.2.2) (cwV 1 B.1.2.2.2.2 gL_law_X5_append rfl rfl rfl hd_X5_append ⟨Nat.le_of_ble_eq_true rfl, Nat.le_of_ble_eq_true rfl⟩) rfl hl.1 (Nat.le_of_ble_eq_true rfl) dL_law_700 ⟨by show _ ≤ 601024; omega, by show _ ≤ 7293034; omega⟩) (fun r T1 H locs hr hM hC => ?_)
  refine lv_istore (lv' := [(6, .int r), (5, .int k), (0, .ref b), (1, .ref (ad jO)), (2, .ref (ad2 0)), (3, .ref (ad oL)), (4, .int (nI i))]) hx hb dL_law_703 hl (by decide) rfl (fun ls hl => ?_)
  have ce := op_append hR (xs (nI i + 1).toNatClampNeg)
  rw [← hr] at ce
  obtain ⟨hR1, h6, hout⟩ := hL_ce mp_A rfl hk1 ce
  refine lv_aload_n hx hb dL_law_705 rfl (lv_at hl 4 rfl) ?_
  refine w_calli hM hC hap2 (x_runV B hM (As := []) (rest := []) (q := 0) (by decide) cM_o cls5 (c_X5_thrown (D := D) (ad := ad2) l _ T1) (cwV 0 B.1.2.2.2.2 gL_law_X5_thrown rfl rfl rfl hd_X5_thrown ⟨Nat.le_of_ble_eq_true rfl, Nat.le_of_ble_eq_true rfl⟩) rfl hl.1 (Nat.le_of_ble_eq_true rfl) dL_law_706 ⟨by show _ ≤ 601024; omega, by show _ ≤ 7293034; omega⟩) (fun r2 T2 H locs hr2 hM hC => ?_)
  obtain ⟨hr2, hT2⟩ := hr2
  rw [hT2] at hM
  refine lv_iload hx hb dL_law_709 (lv_at hl 1 rfl) ?_
  refine lv_icmp_eq (tgt := 716) hx hb dL_law_711 (by decide) (fun c1 => ?_) (fun c1 => absurd (hr2.trans h6) c1)
  refine lv_iload hx hb dL_law_716 (lv_at hl 1 rfl) ?_
  refine lv_if_ne (tgt := 733) hx hb dL_law_718 (by decide) (fun c2 => ?_) (fun c2 => ?_)
  · refine lv_goto (tgt := 1359) hx hb dL_law_733 (by decide) ?_
    exact hk _ _ _ _ _ _ _ hC hM hR1 (lv_sub hl [2, 3, 4, 5, 6] rfl) (by omega) (by omega)
  · refine lv_aload_n hx hb dL_law_721 rfl (lv_at hl 5 rfl) ?_
    refine lv_iconst (v := 0) hx hb dL_law_722 (by decide) ?_
    refine x_lald B hC dL_law_723 ?_
    refine lv_iload hx hb dL_law_724 (lv_at hl 0 rfl) ?_
    refine lv_i2l hx hb dL_law_726 rfl ?_
    refine lv_lcmp hx hb dL_law_727 ?_
    refine lv_if_eq (tgt := 733) hx hb dL_law_728 (by decide) (fun c3 => ?_) (fun c3 => absurd (lcmp_self (by rw [hout c2])) c3)
    refine lv_goto (tgt := 1359) hx hb dL_law_733 (by decide) ?_
    exact hk _ _ _ _ _ _ _ hC hM hR1 (lv_sub hl [2, 3, 4, 5, 6] rfl) (by omega) (by omega)
set_option maxRecDepth 20000 in
theorem lwc_clearBuffer (B : Cx p m c code 9 s #[Value.ref b] lw_tbl RL meth ret D) (hl0 : l.stackTraces = false) (hE : nv V A s s.heap) (hN : NcT s) (hX : va_X b L xs s s.heap) (hbl : b < s.heap.size) (hbA : ¬ A b) (hL : L ≤ 2048) (hap : ∀ i j, i < 158 → j < 7 → ad i ≠ ad2 j) (hi : i + 4 ≤ L) (hC : Wd D 158 (cC D ad) ad A s.heap S H locs) (hM : Wd D 7 (cM D ad2) ad2 A s.heap T H locs) (hR : RR S T) (hl : lv_has ls 9 (lwl b ad ad2 i)) (hc : cells + 3 ≤ 601024) (hs : slots + 18 ≤ 7293034) (hk : ∀ (S1 T1 : vS) (H1 : Heap) (locs1 : List Loc) (cells1 slots1 : Nat) (ls1 : Array Slot), Wd D 158 (cC D ad) ad A s.heap S1 H1 locs1 → Wd D 7 (cM D ad2) ad2 A s.heap T1 H1 locs1 → RR S1 T1 → lv_has ls1 9 (lwl b ad ad2 i) → cells1 ≤ cells + 3 → slots1 ≤ slots + 18 → W p l e room_1 s m #[Value.ref b] below meth c H1 locs1 cells1 slots1 Q (F0 m 1359 ls1 [])) : W p l e room_1 s m #[Value.ref b] below meth c H locs cells slots Q (F0 m 736 ls []) := by
  have hx := B.1.1
  have hb := B.1.2.1
  have hp := rr_pre hR
  have hap2 : ∀ i j, i < 7 → j < 158 → ad2 i ≠ ad j := fun i j a q z => hap j i q a z.symm
  have hl : lv_has ls 9 [(0, .ref b), (1, .ref (ad jO)), (2, .ref (ad2 0)), (3, .ref (ad oL)), (4, .int (nI i))] := hl
  refine lv_aload_n hx hb dL_law_736 rfl (lv_at hl 1 rfl) ?_
  refine w_calli hC hM hap (x_runV B hC (As := []) (rest := []) hqj cC_j cls4 (c_X4_clearBuffer (D := D) (ad := ad) l _ S) (cwV 0 B.1.2.2.2.2 gL_law_X4_clearBuffer rfl rfl rfl hd_X4_clearBuffer ⟨Nat.le_of_ble_eq_true rfl, Nat.le_of_ble_eq_true rfl⟩) rfl hl.1 (Nat.le_of_ble_eq_true rfl) dL_law_737 ⟨by show _ ≤ 601024; omega, by show _ ≤ 7293034; omega⟩) (fun v S1 H locs hv hC hM => ?_)
  have ce := op_clearBuffer hR
  refine lv_aload_n hx hb dL_law_740 rfl (lv_at hl 2 rfl) ?_
  refine w_calli hM hC hap2 (x_runV B hM (As := []) (rest := [.int v]) (q := 0) (by decide) cM_o cls5 (c_X5_clearBuffer (D := D) (ad := ad2) l _ T) (cwV 0 B.1.2.2.2.2 gL_law_X5_clearBuffer rfl rfl rfl hd_X5_clearBuffer ⟨Nat.le_of_ble_eq_true rfl, Nat.le_of_ble_eq_true rfl⟩) rfl hl.1 (Nat.le_of_ble_eq_true rfl) dL_law_741 ⟨by show _ ≤ 601024; omega, by show _ ≤ 7293034; omega⟩) (fun r T1 H locs hr hM hC => ?_)
  rw [← hr, ← hv] at ce
  refine lv_icmp_eq (tgt := 1359) hx hb dL_law_744 (by decide) (fun c1 => ?_) (fun c1 => absurd (ce.2.2 rfl) c1)
  exact hk _ _ _ _ _ _ _ hC hM ce.1 hl (by omega) (by omega)
set_option maxRecDepth 20000 in
theorem lwc_firstError (B : Cx p m c code 9 s #[Value.ref b] lw_tbl RL meth ret D) (hl0 : l.stackTraces = false) (hE : nv V A s s.heap) (hN : NcT s) (hX : va_X b L xs s s.heap) (hbl : b < s.heap.size) (hbA : ¬ A b) (hL : L ≤ 2048) (hap : ∀ i j, i < 158 → j < 7 → ad i ≠ ad2 j) (hi : i + 4 ≤ L) (hC : Wd D 158 (cC D ad) ad A s.heap S H locs) (hM : Wd D 7 (cM D ad2) ad2 A s.heap T H locs) (hR : RR S T) (hl : lv_has ls 9 (lwl b ad ad2 i)) (hc : cells + 3 ≤ 601024) (hs : slots + 18 ≤ 7293034) (hk : ∀ (S1 T1 : vS) (H1 : Heap) (locs1 : List Loc) (cells1 slots1 : Nat) (ls1 : Array Slot), Wd D 158 (cC D ad) ad A s.heap S1 H1 locs1 → Wd D 7 (cM D ad2) ad2 A s.heap T1 H1 locs1 → RR S1 T1 → lv_has ls1 9 (lwl b ad ad2 i) → cells1 ≤ cells + 3 → slots1 ≤ slots + 18 → W p l e room_1 s m #[Value.ref b] below meth c H1 locs1 cells1 slots1 Q (F0 m 1359 ls1 [])) : W p l e room_1 s m #[Value.ref b] below meth c H locs cells slots Q (F0 m 749 ls []) := by
  have hx := B.1.1
  have hb := B.1.2.1
  have hp := rr_pre hR
  have hap2 : ∀ i j, i < 7 → j < 158 → ad2 i ≠ ad j := fun i j a q z => hap j i q a z.symm
  have hl : lv_has ls 9 [(0, .ref b), (1, .ref (ad jO)), (2, .ref (ad2 0)), (3, .ref (ad oL)), (4, .int (nI i))] := hl
  refine lv_aload_n hx hb dL_law_749 rfl (lv_at hl 1 rfl) ?_
  refine w_calli hC hM hap (x_runVE B hC hE (As := []) (rest := []) hqj cC_j cls4 (c_X4_firstError (D := D) (ad := ad) (V := V) l _ S) (cwV 0 B.1.2.2.2.2 gL_law_X4_firstError rfl rfl rfl hd_X4_firstError ⟨Nat.le_of_ble_eq_true rfl, Nat.le_of_ble_eq_true rfl⟩) rfl hl.1 (Nat.le_of_ble_eq_true rfl) dL_law_750 ⟨by show _ ≤ 601024; omega, by show _ ≤ 7293034; omega⟩) (fun v S1 H locs hv hC hM => ?_)
  have ce := op_firstError hR
  refine lv_aload_n hx hb dL_law_753 rfl (lv_at hl 2 rfl) ?_
  refine w_calli hM hC hap2 (x_runV B hM (As := []) (rest := [.int v]) (q := 0) (by decide) cM_o cls5 (c_X5_firstError (D := D) (ad := ad2) l _ T hp.2.2.2.2) (cwV 0 B.1.2.2.2.2 gL_law_X5_firstError rfl rfl rfl hd_X5_firstError ⟨Nat.le_of_ble_eq_true rfl, Nat.le_of_ble_eq_true rfl⟩) rfl hl.1 (Nat.le_of_ble_eq_true rfl) dL_law_754 ⟨by show _ ≤ 601024; omega, by show _ ≤ 7293034; omega⟩) (fun r T1 H locs hr hM hC => ?_)
  rw [← hr, ← hv] at ce
  refine lv_icmp_eq (tgt := 1359) hx hb dL_law_757 (by decide) (fun c1 => ?_) (fun c1 => absurd (ce.2.2 rfl) c1)
  exact hk _ _ _ _ _ _ _ hC hM ce.1 hl (by omega) (by omega)
set_option maxRecDepth 20000 in
theorem lwc_run (B : Cx p m c code 9 s #[Value.ref b] lw_tbl RL meth ret D) (hl0 : l.stackTraces = false) (hE : nv V A s s.heap) (hN : NcT s) (hX : va_X b L xs s s.heap) (hbl : b < s.heap.size) (hbA : ¬ A b) (hL : L ≤ 2048) (hap : ∀ i j, i < 158 → j < 7 → ad i ≠ ad2 j) (hi : i + 4 ≤ L) (hC : Wd D 158 (cC D ad) ad A s.heap S H locs) (hM : Wd D 7 (cM D ad2) ad2 A s.heap T H locs) (hR : RR S T) (hl : lv_has ls 9 (lwl b ad ad2 i)) (hc : cells + 3 ≤ 601024) (hs : slots + 18 ≤ 7293034) (hk : ∀ (S1 T1 : vS) (H1 : Heap) (locs1 : List Loc) (cells1 slots1 : Nat) (ls1 : Array Slot), Wd D 158 (cC D ad) ad A s.heap S1 H1 locs1 → Wd D 7 (cM D ad2) ad2 A s.heap T1 H1 locs1 → RR S1 T1 → lv_has ls1 9 (lwl b ad ad2 i) → cells1 ≤ cells + 3 → slots1 ≤ slots + 18 → W p l e room_1 s m #[Value.ref b] below meth c H1 locs1 cells1 slots1 Q (F0 m 1359 ls1 [])) : W p l e room_1 s m #[Value.ref b] below meth c H locs cells slots Q (F0 m 762 ls []) := by
  have hx := B.1.1
  have hb := B.1.2.1
  have hp := rr_pre hR
  have hap2 : ∀ i j, i < 7 → j < 158 → ad2 i ≠ ad j := fun i j a q z => hap j i q a z.symm
  have hl : lv_has ls 9 [(0, .ref b), (1, .ref (ad jO)), (2, .ref (ad2 0)), (3, .ref (ad oL)), (4, .int (nI i))] := hl
  refine lv_aload_n hx hb dL_law_762 rfl (lv_at hl 1 rfl) ?_
  refine lv_aload_n hx hb dL_law_763 rfl (lv_at hl 3 rfl) ?_
  refine w_hcall B hC hM hap hE hN (As := [.ref (ad jO), .ref (ad oL)]) (rest := []) (h_L_run (D := D) (ad := ad) (V := V) l _ hl0 S) (vx_cwSW 2 B.1.2.2.2.2 gL_law_L_run rfl rfl rfl hd_L_run.2 ⟨Nat.le_of_ble_eq_true rfl, Nat.le_of_ble_eq_true rfl⟩) rfl hl.1 (Nat.le_of_ble_eq_true rfl) dL_law_764 ⟨by show _ ≤ 601024; omega, by show _ ≤ 7293034; omega⟩ (fun k S1 H locs hk1 hC hM => ?_)
  refine lv_istore (lv' := [(5, .int k), (0, .ref b), (1, .ref (ad jO)), (2, .ref (ad2 0)), (3, .ref (ad oL)), (4, .int (nI i))]) hx hb dL_law_767 hl (by decide) rfl (fun ls hl => ?_)
  refine lv_aload_n hx hb dL_law_769 rfl (lv_at hl 3 rfl) ?_
  refine w_calli hM hC hap2 (x_runV B hM (As := []) (rest := []) (q := 0) (by decide) cM_o cls5 (c_X5_run (D := D) (ad := ad2) l _ T hp.1 hp.2.2.2.2 hp.2.2.1 hp.2.2.2.1) (cwV 0 B.1.2.2.2.2 gL_law_X5_run rfl rfl rfl hd_X5_run ⟨Nat.le_of_ble_eq_true rfl, Nat.le_of_ble_eq_true rfl⟩) rfl hl.1 (Nat.le_of_ble_eq_true rfl) dL_law_770 ⟨by show _ ≤ 601024; omega, by show _ ≤ 7293034; omega⟩) (fun r T1 H locs hr hM hC => ?_)
  refine lv_istore (lv' := [(6, .int r), (5, .int k), (0, .ref b), (1, .ref (ad jO)), (2, .ref (ad2 0)), (3, .ref (ad oL)), (4, .int (nI i))]) hx hb dL_law_773 hl (by decide) rfl (fun ls hl => ?_)
  have ce := op_run hR
  rw [← hr] at ce
  obtain ⟨hR1, h6, hout⟩ := hL_ce mp_01 rfl hk1 ce
  refine lv_aload_n hx hb dL_law_775 rfl (lv_at hl 4 rfl) ?_
  refine w_calli hM hC hap2 (x_runV B hM (As := []) (rest := []) (q := 0) (by decide) cM_o cls5 (c_X5_thrown (D := D) (ad := ad2) l _ T1) (cwV 0 B.1.2.2.2.2 gL_law_X5_thrown rfl rfl rfl hd_X5_thrown ⟨Nat.le_of_ble_eq_true rfl, Nat.le_of_ble_eq_true rfl⟩) rfl hl.1 (Nat.le_of_ble_eq_true rfl) dL_law_776 ⟨by show _ ≤ 601024; omega, by show _ ≤ 7293034; omega⟩) (fun r2 T2 H locs hr2 hM hC => ?_)
  obtain ⟨hr2, hT2⟩ := hr2
  rw [hT2] at hM
  refine lv_iload hx hb dL_law_779 (lv_at hl 1 rfl) ?_
  refine lv_icmp_eq (tgt := 786) hx hb dL_law_781 (by decide) (fun c1 => ?_) (fun c1 => absurd (hr2.trans h6) c1)
  refine lv_iload hx hb dL_law_786 (lv_at hl 1 rfl) ?_
  refine lv_if_ne (tgt := 803) hx hb dL_law_788 (by decide) (fun c2 => ?_) (fun c2 => ?_)
  · refine lv_goto (tgt := 1359) hx hb dL_law_803 (by decide) ?_
    exact hk _ _ _ _ _ _ _ hC hM hR1 (lv_sub hl [2, 3, 4, 5, 6] rfl) (by omega) (by omega)
  · refine lv_aload_n hx hb dL_law_791 rfl (lv_at hl 5 rfl) ?_
    refine lv_iconst (v := 0) hx hb dL_law_792 (by decide) ?_
    refine x_lald B hC dL_law_793 ?_
    refine lv_iload hx hb dL_law_794 (lv_at hl 0 rfl) ?_
    refine lv_i2l hx hb dL_law_796 rfl ?_
    refine lv_lcmp hx hb dL_law_797 ?_
    refine lv_if_eq (tgt := 803) hx hb dL_law_798 (by decide) (fun c3 => ?_) (fun c3 => absurd (lcmp_self (by rw [hout c2])) c3)
    refine lv_goto (tgt := 1359) hx hb dL_law_803 (by decide) ?_
    exact hk _ _ _ _ _ _ _ hC hM hR1 (lv_sub hl [2, 3, 4, 5, 6] rfl) (by omega) (by omega)
end LAWC1
