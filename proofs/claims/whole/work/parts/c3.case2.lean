section LAWC2
variable {p : Program} {l : Launch} {e : Env} {s : State} {m : MethodId} {b : Nat} {below : List Frame} {meth : Method} {c : Code} {H : Heap} {locs : List Loc} {cells slots : Nat} {Q : State → Prop}
variable {D : va_G} {ad ad2 : Nat → Nat} {A : Nat → Prop} {S T : vS} {V : vE} {L i : Nat} {xs : Nat → Int32} {ls : Array Slot}
set_option maxRecDepth 20000 in
theorem lwc_undo (B : Cx p m c code 9 s #[Value.ref b] lw_tbl RL meth ret D) (hl0 : l.stackTraces = false) (hE : nv V A s s.heap) (hN : NcT s) (hX : va_X b L xs s s.heap) (hbl : b < s.heap.size) (hbA : ¬ A b) (hL : L ≤ 2048) (hap : ∀ i j, i < 158 → j < 7 → ad i ≠ ad2 j) (hi : i + 4 ≤ L) (hC : Wd D 158 (cC D ad) ad A s.heap S H locs) (hM : Wd D 7 (cM D ad2) ad2 A s.heap T H locs) (hR : RR S T) (hl : lv_has ls 9 (lwl b ad ad2 i)) (hc : cells + 3 ≤ 601024) (hs : slots + 18 ≤ 7293034) (hk : ∀ (S1 T1 : vS) (H1 : Heap) (locs1 : List Loc) (cells1 slots1 : Nat) (ls1 : Array Slot), Wd D 158 (cC D ad) ad A s.heap S1 H1 locs1 → Wd D 7 (cM D ad2) ad2 A s.heap T1 H1 locs1 → RR S1 T1 → lv_has ls1 9 (lwl b ad ad2 i) → cells1 ≤ cells + 3 → slots1 ≤ slots + 18 → W p l e room_1 s m #[Value.ref b] below meth c H1 locs1 cells1 slots1 Q (F0 m 1359 ls1 [])) : W p l e room_1 s m #[Value.ref b] below meth c H locs cells slots Q (F0 m 806 ls []) := by
  have hx := B.1.1
  have hb := B.1.2.1
  have hp := rr_pre hR
  have hap2 : ∀ i j, i < 7 → j < 158 → ad2 i ≠ ad j := fun i j a q z => hap j i q a z.symm
  have hl : lv_has ls 9 [(0, .ref b), (1, .ref (ad jO)), (2, .ref (ad2 0)), (3, .ref (ad oL)), (4, .int (nI i))] := hl
  refine lv_aload_n hx hb dL_law_806 rfl (lv_at hl 1 rfl) ?_
  refine lv_aload_n hx hb dL_law_807 rfl (lv_at hl 3 rfl) ?_
  refine w_hcall B hC hM hap hE hN (As := [.ref (ad jO), .ref (ad oL)]) (rest := []) (h_L_undo (D := D) (ad := ad) (V := V) l _ hl0 S) (vx_cwSW 2 B.1.2.2.2.2 gL_law_L_undo rfl rfl rfl hd_L_undo.2 ⟨Nat.le_of_ble_eq_true rfl, Nat.le_of_ble_eq_true rfl⟩) rfl hl.1 (Nat.le_of_ble_eq_true rfl) dL_law_808 ⟨by show _ ≤ 601024; omega, by show _ ≤ 7293034; omega⟩ (fun k S1 H locs hk1 hC hM => ?_)
  refine lv_istore (lv' := [(5, .int k), (0, .ref b), (1, .ref (ad jO)), (2, .ref (ad2 0)), (3, .ref (ad oL)), (4, .int (nI i))]) hx hb dL_law_811 hl (by decide) rfl (fun ls hl => ?_)
  refine lv_aload_n hx hb dL_law_813 rfl (lv_at hl 3 rfl) ?_
  refine w_calli hM hC hap2 (x_runV B hM (As := []) (rest := []) (q := 0) (by decide) cM_o cls5 (c_X5_undo (D := D) (ad := ad2) l _ T hp.1) (cwV 0 B.1.2.2.2.2 gL_law_X5_undo rfl rfl rfl hd_X5_undo ⟨Nat.le_of_ble_eq_true rfl, Nat.le_of_ble_eq_true rfl⟩) rfl hl.1 (Nat.le_of_ble_eq_true rfl) dL_law_814 ⟨by show _ ≤ 601024; omega, by show _ ≤ 7293034; omega⟩) (fun r T1 H locs hr hM hC => ?_)
  refine lv_istore (lv' := [(6, .int r), (5, .int k), (0, .ref b), (1, .ref (ad jO)), (2, .ref (ad2 0)), (3, .ref (ad oL)), (4, .int (nI i))]) hx hb dL_law_817 hl (by decide) rfl (fun ls hl => ?_)
  have ce := op_undo hR
  rw [← hr] at ce
  obtain ⟨hR1, h6, hout⟩ := hL_ce mp_01 rfl hk1 ce
  refine lv_aload_n hx hb dL_law_819 rfl (lv_at hl 4 rfl) ?_
  refine w_calli hM hC hap2 (x_runV B hM (As := []) (rest := []) (q := 0) (by decide) cM_o cls5 (c_X5_thrown (D := D) (ad := ad2) l _ T1) (cwV 0 B.1.2.2.2.2 gL_law_X5_thrown rfl rfl rfl hd_X5_thrown ⟨Nat.le_of_ble_eq_true rfl, Nat.le_of_ble_eq_true rfl⟩) rfl hl.1 (Nat.le_of_ble_eq_true rfl) dL_law_820 ⟨by show _ ≤ 601024; omega, by show _ ≤ 7293034; omega⟩) (fun r2 T2 H locs hr2 hM hC => ?_)
  obtain ⟨hr2, hT2⟩ := hr2
  rw [hT2] at hM
  refine lv_iload hx hb dL_law_823 (lv_at hl 1 rfl) ?_
  refine lv_icmp_eq (tgt := 830) hx hb dL_law_825 (by decide) (fun c1 => ?_) (fun c1 => absurd (hr2.trans h6) c1)
  refine lv_iload hx hb dL_law_830 (lv_at hl 1 rfl) ?_
  refine lv_if_ne (tgt := 847) hx hb dL_law_832 (by decide) (fun c2 => ?_) (fun c2 => ?_)
  · refine lv_goto (tgt := 1359) hx hb dL_law_847 (by decide) ?_
    exact hk _ _ _ _ _ _ _ hC hM hR1 (lv_sub hl [2, 3, 4, 5, 6] rfl) (by omega) (by omega)
  · refine lv_aload_n hx hb dL_law_835 rfl (lv_at hl 5 rfl) ?_
    refine lv_iconst (v := 0) hx hb dL_law_836 (by decide) ?_
    refine x_lald B hC dL_law_837 ?_
    refine lv_iload hx hb dL_law_838 (lv_at hl 0 rfl) ?_
    refine lv_i2l hx hb dL_law_840 rfl ?_
    refine lv_lcmp hx hb dL_law_841 ?_
    refine lv_if_eq (tgt := 847) hx hb dL_law_842 (by decide) (fun c3 => ?_) (fun c3 => absurd (lcmp_self (by rw [hout c2])) c3)
    refine lv_goto (tgt := 1359) hx hb dL_law_847 (by decide) ?_
    exact hk _ _ _ _ _ _ _ hC hM hR1 (lv_sub hl [2, 3, 4, 5, 6] rfl) (by omega) (by omega)
set_option maxRecDepth 20000 in
theorem lwc_member (B : Cx p m c code 9 s #[Value.ref b] lw_tbl RL meth ret D) (hl0 : l.stackTraces = false) (hE : nv V A s s.heap) (hN : NcT s) (hX : va_X b L xs s s.heap) (hbl : b < s.heap.size) (hbA : ¬ A b) (hL : L ≤ 2048) (hap : ∀ i j, i < 158 → j < 7 → ad i ≠ ad2 j) (hi : i + 4 ≤ L) (hC : Wd D 158 (cC D ad) ad A s.heap S H locs) (hM : Wd D 7 (cM D ad2) ad2 A s.heap T H locs) (hR : RR S T) (hl : lv_has ls 9 (lwl b ad ad2 i)) (hc : cells + 3 ≤ 601024) (hs : slots + 18 ≤ 7293034) (hk : ∀ (S1 T1 : vS) (H1 : Heap) (locs1 : List Loc) (cells1 slots1 : Nat) (ls1 : Array Slot), Wd D 158 (cC D ad) ad A s.heap S1 H1 locs1 → Wd D 7 (cM D ad2) ad2 A s.heap T1 H1 locs1 → RR S1 T1 → lv_has ls1 9 (lwl b ad ad2 i) → cells1 ≤ cells + 3 → slots1 ≤ slots + 18 → W p l e room_1 s m #[Value.ref b] below meth c H1 locs1 cells1 slots1 Q (F0 m 1359 ls1 [])) : W p l e room_1 s m #[Value.ref b] below meth c H locs cells slots Q (F0 m 850 ls []) := by
  have hx := B.1.1
  have hb := B.1.2.1
  have hp := rr_pre hR
  have hap2 : ∀ i j, i < 7 → j < 158 → ad2 i ≠ ad j := fun i j a q z => hap j i q a z.symm
  have hl : lv_has ls 9 [(0, .ref b), (1, .ref (ad jO)), (2, .ref (ad2 0)), (3, .ref (ad oL)), (4, .int (nI i))] := hl
  refine lv_aload_n hx hb dL_law_850 rfl (lv_at hl 1 rfl) ?_
  refine lv_aload_n hx hb dL_law_851 rfl (lv_at hl 0 rfl) ?_
  refine lv_iload hx hb dL_law_852 (lv_at hl 4 rfl) ?_
  refine lv_iconst (v := 1) hx hb dL_law_854 (by decide) ?_
  refine lv_iadd hx hb dL_law_855 ?_
  refine va_sld hx hb hX hbl hbA hC.2.2.1 (sc_in (j := 1) hi hL (by decide)) dL_law_856 ?_
  refine lv_aload_n hx hb dL_law_857 rfl (lv_at hl 0 rfl) ?_
  refine lv_iload hx hb dL_law_858 (lv_at hl 4 rfl) ?_
  refine lv_iconst (v := 2) hx hb dL_law_860 (by decide) ?_
  refine lv_iadd hx hb dL_law_861 ?_
  refine va_sld hx hb hX hbl hbA hC.2.2.1 (sc_in (j := 2) hi hL (by decide)) dL_law_862 ?_
  refine lv_aload_n hx hb dL_law_863 rfl (lv_at hl 3 rfl) ?_
  refine w_hcall B hC hM hap hE hN (As := [.ref (ad jO), .int (xs (nI i + 1).toNatClampNeg), .int (xs (nI i + 2).toNatClampNeg), .ref (ad oL)]) (rest := []) (h_L_member (D := D) (ad := ad) (V := V) l _ hl0 S (xs (nI i + 1).toNatClampNeg) (xs (nI i + 2).toNatClampNeg)) (vx_cwSW 4 B.1.2.2.2.2 gL_law_L_member rfl rfl rfl hd_L_member.2 ⟨Nat.le_of_ble_eq_true rfl, Nat.le_of_ble_eq_true rfl⟩) rfl hl.1 (Nat.le_of_ble_eq_true rfl) dL_law_864 ⟨by show _ ≤ 601024; omega, by show _ ≤ 7293034; omega⟩ (fun k S1 H locs hk1 hC hM => ?_)
  refine lv_istore (lv' := [(5, .int k), (0, .ref b), (1, .ref (ad jO)), (2, .ref (ad2 0)), (3, .ref (ad oL)), (4, .int (nI i))]) hx hb dL_law_867 hl (by decide) rfl (fun ls hl => ?_)
  refine lv_aload_n hx hb dL_law_869 rfl (lv_at hl 3 rfl) ?_
  refine lv_aload_n hx hb dL_law_870 rfl (lv_at hl 1 rfl) ?_
  refine lv_iload hx hb dL_law_871 (lv_at hl 5 rfl) ?_
  refine lv_iconst (v := 1) hx hb dL_law_873 (by decide) ?_
  refine lv_iadd hx hb dL_law_874 ?_
  refine va_sld hx hb hX hbl hbA hM.2.2.1 (sc_in (j := 1) hi hL (by decide)) dL_law_875 ?_
  refine lv_aload_n hx hb dL_law_876 rfl (lv_at hl 1 rfl) ?_
  refine lv_iload hx hb dL_law_877 (lv_at hl 5 rfl) ?_
  refine lv_iconst (v := 2) hx hb dL_law_879 (by decide) ?_
  refine lv_iadd hx hb dL_law_880 ?_
  refine va_sld hx hb hX hbl hbA hM.2.2.1 (sc_in (j := 2) hi hL (by decide)) dL_law_881 ?_
  refine w_calli hM hC hap2 (x_runV B hM (As := [.int (xs (nI i + 1).toNatClampNeg), .int (xs (nI i + 2).toNatClampNeg)]) (rest := []) (q := 0) (by decide) cM_o cls5 (c_X5_member (D := D) (ad := ad2) l _ T (xs (nI i + 1).toNatClampNeg) (xs (nI i + 2).toNatClampNeg)) (cwV 2 B.1.2.2.2.2 gL_law_X5_member rfl rfl rfl hd_X5_member ⟨Nat.le_of_ble_eq_true rfl, Nat.le_of_ble_eq_true rfl⟩) rfl hl.1 (Nat.le_of_ble_eq_true rfl) dL_law_882 ⟨by show _ ≤ 601024; omega, by show _ ≤ 7293034; omega⟩) (fun r T1 H locs hr hM hC => ?_)
  refine lv_istore (lv' := [(6, .int r), (5, .int k), (0, .ref b), (1, .ref (ad jO)), (2, .ref (ad2 0)), (3, .ref (ad oL)), (4, .int (nI i))]) hx hb dL_law_885 hl (by decide) rfl (fun ls hl => ?_)
  have ce := op_member hR (xs (nI i + 1).toNatClampNeg) (xs (nI i + 2).toNatClampNeg)
  rw [← hr] at ce
  obtain ⟨hR1, h6, hout⟩ := hL_ce mp_3 rfl hk1 ce
  refine lv_aload_n hx hb dL_law_887 rfl (lv_at hl 4 rfl) ?_
  refine w_calli hM hC hap2 (x_runV B hM (As := []) (rest := []) (q := 0) (by decide) cM_o cls5 (c_X5_thrown (D := D) (ad := ad2) l _ T1) (cwV 0 B.1.2.2.2.2 gL_law_X5_thrown rfl rfl rfl hd_X5_thrown ⟨Nat.le_of_ble_eq_true rfl, Nat.le_of_ble_eq_true rfl⟩) rfl hl.1 (Nat.le_of_ble_eq_true rfl) dL_law_888 ⟨by show _ ≤ 601024; omega, by show _ ≤ 7293034; omega⟩) (fun r2 T2 H locs hr2 hM hC => ?_)
  obtain ⟨hr2, hT2⟩ := hr2
  rw [hT2] at hM
  refine lv_iload hx hb dL_law_891 (lv_at hl 1 rfl) ?_
  refine lv_icmp_eq (tgt := 898) hx hb dL_law_893 (by decide) (fun c1 => ?_) (fun c1 => absurd (hr2.trans h6) c1)
  refine lv_iload hx hb dL_law_898 (lv_at hl 1 rfl) ?_
  refine lv_if_ne (tgt := 915) hx hb dL_law_900 (by decide) (fun c2 => ?_) (fun c2 => ?_)
  · refine lv_goto (tgt := 1359) hx hb dL_law_915 (by decide) ?_
    exact hk _ _ _ _ _ _ _ hC hM hR1 (lv_sub hl [2, 3, 4, 5, 6] rfl) (by omega) (by omega)
  · refine lv_aload_n hx hb dL_law_903 rfl (lv_at hl 5 rfl) ?_
    refine lv_iconst (v := 0) hx hb dL_law_904 (by decide) ?_
    refine x_lald B hC dL_law_905 ?_
    refine lv_iload hx hb dL_law_906 (lv_at hl 0 rfl) ?_
    refine lv_i2l hx hb dL_law_908 rfl ?_
    refine lv_lcmp hx hb dL_law_909 ?_
    refine lv_if_eq (tgt := 915) hx hb dL_law_910 (by decide) (fun c3 => ?_) (fun c3 => absurd (lcmp_self (by rw [hout c2])) c3)
    refine lv_goto (tgt := 1359) hx hb dL_law_915 (by decide) ?_
    exact hk _ _ _ _ _ _ _ hC hM hR1 (lv_sub hl [2, 3, 4, 5, 6] rfl) (by omega) (by omega)
set_option maxRecDepth 20000 in
theorem lwc_owes (B : Cx p m c code 9 s #[Value.ref b] lw_tbl RL meth ret D) (hl0 : l.stackTraces = false) (hE : nv V A s s.heap) (hN : NcT s) (hX : va_X b L xs s s.heap) (hbl : b < s.heap.size) (hbA : ¬ A b) (hL : L ≤ 2048) (hap : ∀ i j, i < 158 → j < 7 → ad i ≠ ad2 j) (hi : i + 4 ≤ L) (hC : Wd D 158 (cC D ad) ad A s.heap S H locs) (hM : Wd D 7 (cM D ad2) ad2 A s.heap T H locs) (hR : RR S T) (hl : lv_has ls 9 (lwl b ad ad2 i)) (hc : cells + 3 ≤ 601024) (hs : slots + 18 ≤ 7293034) (hk : ∀ (S1 T1 : vS) (H1 : Heap) (locs1 : List Loc) (cells1 slots1 : Nat) (ls1 : Array Slot), Wd D 158 (cC D ad) ad A s.heap S1 H1 locs1 → Wd D 7 (cM D ad2) ad2 A s.heap T1 H1 locs1 → RR S1 T1 → lv_has ls1 9 (lwl b ad ad2 i) → cells1 ≤ cells + 3 → slots1 ≤ slots + 18 → W p l e room_1 s m #[Value.ref b] below meth c H1 locs1 cells1 slots1 Q (F0 m 1359 ls1 [])) : W p l e room_1 s m #[Value.ref b] below meth c H locs cells slots Q (F0 m 918 ls []) := by
  have hx := B.1.1
  have hb := B.1.2.1
  have hp := rr_pre hR
  have hap2 : ∀ i j, i < 7 → j < 158 → ad2 i ≠ ad j := fun i j a q z => hap j i q a z.symm
  have hl : lv_has ls 9 [(0, .ref b), (1, .ref (ad jO)), (2, .ref (ad2 0)), (3, .ref (ad oL)), (4, .int (nI i))] := hl
  refine lv_aload_n hx hb dL_law_918 rfl (lv_at hl 1 rfl) ?_
  refine lv_aload_n hx hb dL_law_919 rfl (lv_at hl 0 rfl) ?_
  refine lv_iload hx hb dL_law_920 (lv_at hl 4 rfl) ?_
  refine lv_iconst (v := 1) hx hb dL_law_922 (by decide) ?_
  refine lv_iadd hx hb dL_law_923 ?_
  refine va_sld hx hb hX hbl hbA hC.2.2.1 (sc_in (j := 1) hi hL (by decide)) dL_law_924 ?_
  refine lv_aload_n hx hb dL_law_925 rfl (lv_at hl 0 rfl) ?_
  refine lv_iload hx hb dL_law_926 (lv_at hl 4 rfl) ?_
  refine lv_iconst (v := 2) hx hb dL_law_928 (by decide) ?_
  refine lv_iadd hx hb dL_law_929 ?_
  refine va_sld hx hb hX hbl hbA hC.2.2.1 (sc_in (j := 2) hi hL (by decide)) dL_law_930 ?_
  refine lv_aload_n hx hb dL_law_931 rfl (lv_at hl 3 rfl) ?_
  refine w_hcall B hC hM hap hE hN (As := [.ref (ad jO), .int (xs (nI i + 1).toNatClampNeg), .int (xs (nI i + 2).toNatClampNeg), .ref (ad oL)]) (rest := []) (h_L_owes (D := D) (ad := ad) (V := V) l _ hl0 S (xs (nI i + 1).toNatClampNeg) (xs (nI i + 2).toNatClampNeg)) (vx_cwSW 4 B.1.2.2.2.2 gL_law_L_owes rfl rfl rfl hd_L_owes.2 ⟨Nat.le_of_ble_eq_true rfl, Nat.le_of_ble_eq_true rfl⟩) rfl hl.1 (Nat.le_of_ble_eq_true rfl) dL_law_932 ⟨by show _ ≤ 601024; omega, by show _ ≤ 7293034; omega⟩ (fun k S1 H locs hk1 hC hM => ?_)
  refine lv_istore (lv' := [(5, .int k), (0, .ref b), (1, .ref (ad jO)), (2, .ref (ad2 0)), (3, .ref (ad oL)), (4, .int (nI i))]) hx hb dL_law_935 hl (by decide) rfl (fun ls hl => ?_)
  refine lv_aload_n hx hb dL_law_937 rfl (lv_at hl 3 rfl) ?_
  refine lv_aload_n hx hb dL_law_938 rfl (lv_at hl 1 rfl) ?_
  refine lv_iload hx hb dL_law_939 (lv_at hl 5 rfl) ?_
  refine lv_iconst (v := 1) hx hb dL_law_941 (by decide) ?_
  refine lv_iadd hx hb dL_law_942 ?_
  refine va_sld hx hb hX hbl hbA hM.2.2.1 (sc_in (j := 1) hi hL (by decide)) dL_law_943 ?_
  refine lv_aload_n hx hb dL_law_944 rfl (lv_at hl 1 rfl) ?_
  refine lv_iload hx hb dL_law_945 (lv_at hl 5 rfl) ?_
  refine lv_iconst (v := 2) hx hb dL_law_947 (by decide) ?_
  refine lv_iadd hx hb dL_law_948 ?_
  refine va_sld hx hb hX hbl hbA hM.2.2.1 (sc_in (j := 2) hi hL (by decide)) dL_law_949 ?_
  refine w_calli hM hC hap2 (x_runV B hM (As := [.int (xs (nI i + 1).toNatClampNeg), .int (xs (nI i + 2).toNatClampNeg)]) (rest := []) (q := 0) (by decide) cM_o cls5 (c_X5_owes (D := D) (ad := ad2) l _ T (xs (nI i + 1).toNatClampNeg) (xs (nI i + 2).toNatClampNeg)) (cwV 2 B.1.2.2.2.2 gL_law_X5_owes rfl rfl rfl hd_X5_owes ⟨Nat.le_of_ble_eq_true rfl, Nat.le_of_ble_eq_true rfl⟩) rfl hl.1 (Nat.le_of_ble_eq_true rfl) dL_law_950 ⟨by show _ ≤ 601024; omega, by show _ ≤ 7293034; omega⟩) (fun r T1 H locs hr hM hC => ?_)
  refine lv_istore (lv' := [(6, .int r), (5, .int k), (0, .ref b), (1, .ref (ad jO)), (2, .ref (ad2 0)), (3, .ref (ad oL)), (4, .int (nI i))]) hx hb dL_law_953 hl (by decide) rfl (fun ls hl => ?_)
  have ce := op_owes hR (xs (nI i + 1).toNatClampNeg) (xs (nI i + 2).toNatClampNeg)
  rw [← hr] at ce
  obtain ⟨hR1, h6, hout⟩ := hL_ce mp_01 rfl hk1 ce
  refine lv_aload_n hx hb dL_law_955 rfl (lv_at hl 4 rfl) ?_
  refine w_calli hM hC hap2 (x_runV B hM (As := []) (rest := []) (q := 0) (by decide) cM_o cls5 (c_X5_thrown (D := D) (ad := ad2) l _ T1) (cwV 0 B.1.2.2.2.2 gL_law_X5_thrown rfl rfl rfl hd_X5_thrown ⟨Nat.le_of_ble_eq_true rfl, Nat.le_of_ble_eq_true rfl⟩) rfl hl.1 (Nat.le_of_ble_eq_true rfl) dL_law_956 ⟨by show _ ≤ 601024; omega, by show _ ≤ 7293034; omega⟩) (fun r2 T2 H locs hr2 hM hC => ?_)
  obtain ⟨hr2, hT2⟩ := hr2
  rw [hT2] at hM
  refine lv_iload hx hb dL_law_959 (lv_at hl 1 rfl) ?_
  refine lv_icmp_eq (tgt := 966) hx hb dL_law_961 (by decide) (fun c1 => ?_) (fun c1 => absurd (hr2.trans h6) c1)
  refine lv_iload hx hb dL_law_966 (lv_at hl 1 rfl) ?_
  refine lv_if_ne (tgt := 983) hx hb dL_law_968 (by decide) (fun c2 => ?_) (fun c2 => ?_)
  · refine lv_goto (tgt := 1359) hx hb dL_law_983 (by decide) ?_
    exact hk _ _ _ _ _ _ _ hC hM hR1 (lv_sub hl [2, 3, 4, 5, 6] rfl) (by omega) (by omega)
  · refine lv_aload_n hx hb dL_law_971 rfl (lv_at hl 5 rfl) ?_
    refine lv_iconst (v := 0) hx hb dL_law_972 (by decide) ?_
    refine x_lald B hC dL_law_973 ?_
    refine lv_iload hx hb dL_law_974 (lv_at hl 0 rfl) ?_
    refine lv_i2l hx hb dL_law_976 rfl ?_
    refine lv_lcmp hx hb dL_law_977 ?_
    refine lv_if_eq (tgt := 983) hx hb dL_law_978 (by decide) (fun c3 => ?_) (fun c3 => absurd (lcmp_self (by rw [hout c2])) c3)
    refine lv_goto (tgt := 1359) hx hb dL_law_983 (by decide) ?_
    exact hk _ _ _ _ _ _ _ hC hM hR1 (lv_sub hl [2, 3, 4, 5, 6] rfl) (by omega) (by omega)
set_option maxRecDepth 20000 in
theorem lwc_count (B : Cx p m c code 9 s #[Value.ref b] lw_tbl RL meth ret D) (hl0 : l.stackTraces = false) (hE : nv V A s s.heap) (hN : NcT s) (hX : va_X b L xs s s.heap) (hbl : b < s.heap.size) (hbA : ¬ A b) (hL : L ≤ 2048) (hap : ∀ i j, i < 158 → j < 7 → ad i ≠ ad2 j) (hi : i + 4 ≤ L) (hC : Wd D 158 (cC D ad) ad A s.heap S H locs) (hM : Wd D 7 (cM D ad2) ad2 A s.heap T H locs) (hR : RR S T) (hl : lv_has ls 9 (lwl b ad ad2 i)) (hc : cells + 3 ≤ 601024) (hs : slots + 18 ≤ 7293034) (hk : ∀ (S1 T1 : vS) (H1 : Heap) (locs1 : List Loc) (cells1 slots1 : Nat) (ls1 : Array Slot), Wd D 158 (cC D ad) ad A s.heap S1 H1 locs1 → Wd D 7 (cM D ad2) ad2 A s.heap T1 H1 locs1 → RR S1 T1 → lv_has ls1 9 (lwl b ad ad2 i) → cells1 ≤ cells + 3 → slots1 ≤ slots + 18 → W p l e room_1 s m #[Value.ref b] below meth c H1 locs1 cells1 slots1 Q (F0 m 1359 ls1 [])) : W p l e room_1 s m #[Value.ref b] below meth c H locs cells slots Q (F0 m 986 ls []) := by
  have hx := B.1.1
  have hb := B.1.2.1
  have hp := rr_pre hR
  have hap2 : ∀ i j, i < 7 → j < 158 → ad2 i ≠ ad j := fun i j a q z => hap j i q a z.symm
  have hl : lv_has ls 9 [(0, .ref b), (1, .ref (ad jO)), (2, .ref (ad2 0)), (3, .ref (ad oL)), (4, .int (nI i))] := hl
  refine lv_aload_n hx hb dL_law_986 rfl (lv_at hl 1 rfl) ?_
  refine lv_aload_n hx hb dL_law_987 rfl (lv_at hl 0 rfl) ?_
  refine lv_iload hx hb dL_law_988 (lv_at hl 4 rfl) ?_
  refine lv_iconst (v := 1) hx hb dL_law_990 (by decide) ?_
  refine lv_iadd hx hb dL_law_991 ?_
  refine va_sld hx hb hX hbl hbA hC.2.2.1 (sc_in (j := 1) hi hL (by decide)) dL_law_992 ?_
  refine lv_aload_n hx hb dL_law_993 rfl (lv_at hl 3 rfl) ?_
  refine w_hcall B hC hM hap hE hN (As := [.ref (ad jO), .int (xs (nI i + 1).toNatClampNeg), .ref (ad oL)]) (rest := []) (h_L_count (D := D) (ad := ad) (V := V) l _ hl0 S (xs (nI i + 1).toNatClampNeg)) (vx_cwSW 3 B.1.2.2.2.2 gL_law_L_count rfl rfl rfl hd_L_count.2 ⟨Nat.le_of_ble_eq_true rfl, Nat.le_of_ble_eq_true rfl⟩) rfl hl.1 (Nat.le_of_ble_eq_true rfl) dL_law_994 ⟨by show _ ≤ 601024; omega, by show _ ≤ 7293034; omega⟩ (fun k S1 H locs hk1 hC hM => ?_)
  refine lv_istore (lv' := [(5, .int k), (0, .ref b), (1, .ref (ad jO)), (2, .ref (ad2 0)), (3, .ref (ad oL)), (4, .int (nI i))]) hx hb dL_law_997 hl (by decide) rfl (fun ls hl => ?_)
  refine lv_aload_n hx hb dL_law_999 rfl (lv_at hl 3 rfl) ?_
  refine lv_aload_n hx hb dL_law_1000 rfl (lv_at hl 1 rfl) ?_
  refine lv_iload hx hb dL_law_1001 (lv_at hl 5 rfl) ?_
  refine lv_iconst (v := 1) hx hb dL_law_1003 (by decide) ?_
  refine lv_iadd hx hb dL_law_1004 ?_
  refine va_sld hx hb hX hbl hbA hM.2.2.1 (sc_in (j := 1) hi hL (by decide)) dL_law_1005 ?_
  refine w_calli hM hC hap2 (x_runV B hM (As := [.int (xs (nI i + 1).toNatClampNeg)]) (rest := []) (q := 0) (by decide) cM_o cls5 (c_X5_count (D := D) (ad := ad2) l _ T (xs (nI i + 1).toNatClampNeg)) (cwV 1 B.1.2.2.2.2 gL_law_X5_count rfl rfl rfl hd_X5_count ⟨Nat.le_of_ble_eq_true rfl, Nat.le_of_ble_eq_true rfl⟩) rfl hl.1 (Nat.le_of_ble_eq_true rfl) dL_law_1006 ⟨by show _ ≤ 601024; omega, by show _ ≤ 7293034; omega⟩) (fun r T1 H locs hr hM hC => ?_)
  refine lv_istore (lv' := [(6, .int r), (5, .int k), (0, .ref b), (1, .ref (ad jO)), (2, .ref (ad2 0)), (3, .ref (ad oL)), (4, .int (nI i))]) hx hb dL_law_1009 hl (by decide) rfl (fun ls hl => ?_)
  have ce := op_count hR (xs (nI i + 1).toNatClampNeg)
  rw [← hr] at ce
  obtain ⟨hR1, h6, hout⟩ := hL_ce mp_01 rfl hk1 ce
  refine lv_aload_n hx hb dL_law_1011 rfl (lv_at hl 4 rfl) ?_
  refine w_calli hM hC hap2 (x_runV B hM (As := []) (rest := []) (q := 0) (by decide) cM_o cls5 (c_X5_thrown (D := D) (ad := ad2) l _ T1) (cwV 0 B.1.2.2.2.2 gL_law_X5_thrown rfl rfl rfl hd_X5_thrown ⟨Nat.le_of_ble_eq_true rfl, Nat.le_of_ble_eq_true rfl⟩) rfl hl.1 (Nat.le_of_ble_eq_true rfl) dL_law_1012 ⟨by show _ ≤ 601024; omega, by show _ ≤ 7293034; omega⟩) (fun r2 T2 H locs hr2 hM hC => ?_)
  obtain ⟨hr2, hT2⟩ := hr2
  rw [hT2] at hM
  refine lv_iload hx hb dL_law_1015 (lv_at hl 1 rfl) ?_
  refine lv_icmp_eq (tgt := 1022) hx hb dL_law_1017 (by decide) (fun c1 => ?_) (fun c1 => absurd (hr2.trans h6) c1)
  refine lv_iload hx hb dL_law_1022 (lv_at hl 1 rfl) ?_
  refine lv_if_ne (tgt := 1039) hx hb dL_law_1024 (by decide) (fun c2 => ?_) (fun c2 => ?_)
  · refine lv_goto (tgt := 1359) hx hb dL_law_1039 (by decide) ?_
    exact hk _ _ _ _ _ _ _ hC hM hR1 (lv_sub hl [2, 3, 4, 5, 6] rfl) (by omega) (by omega)
  · refine lv_aload_n hx hb dL_law_1027 rfl (lv_at hl 5 rfl) ?_
    refine lv_iconst (v := 0) hx hb dL_law_1028 (by decide) ?_
    refine x_lald B hC dL_law_1029 ?_
    refine lv_iload hx hb dL_law_1030 (lv_at hl 0 rfl) ?_
    refine lv_i2l hx hb dL_law_1032 rfl ?_
    refine lv_lcmp hx hb dL_law_1033 ?_
    refine lv_if_eq (tgt := 1039) hx hb dL_law_1034 (by decide) (fun c3 => ?_) (fun c3 => absurd (lcmp_self (by rw [hout c2])) c3)
    refine lv_goto (tgt := 1359) hx hb dL_law_1039 (by decide) ?_
    exact hk _ _ _ _ _ _ _ hC hM hR1 (lv_sub hl [2, 3, 4, 5, 6] rfl) (by omega) (by omega)
set_option maxRecDepth 20000 in
theorem lwc_setting (B : Cx p m c code 9 s #[Value.ref b] lw_tbl RL meth ret D) (hl0 : l.stackTraces = false) (hE : nv V A s s.heap) (hN : NcT s) (hX : va_X b L xs s s.heap) (hbl : b < s.heap.size) (hbA : ¬ A b) (hL : L ≤ 2048) (hap : ∀ i j, i < 158 → j < 7 → ad i ≠ ad2 j) (hi : i + 4 ≤ L) (hC : Wd D 158 (cC D ad) ad A s.heap S H locs) (hM : Wd D 7 (cM D ad2) ad2 A s.heap T H locs) (hR : RR S T) (hl : lv_has ls 9 (lwl b ad ad2 i)) (hc : cells + 3 ≤ 601024) (hs : slots + 18 ≤ 7293034) (hk : ∀ (S1 T1 : vS) (H1 : Heap) (locs1 : List Loc) (cells1 slots1 : Nat) (ls1 : Array Slot), Wd D 158 (cC D ad) ad A s.heap S1 H1 locs1 → Wd D 7 (cM D ad2) ad2 A s.heap T1 H1 locs1 → RR S1 T1 → lv_has ls1 9 (lwl b ad ad2 i) → cells1 ≤ cells + 3 → slots1 ≤ slots + 18 → W p l e room_1 s m #[Value.ref b] below meth c H1 locs1 cells1 slots1 Q (F0 m 1359 ls1 [])) : W p l e room_1 s m #[Value.ref b] below meth c H locs cells slots Q (F0 m 1042 ls []) := by
  have hx := B.1.1
  have hb := B.1.2.1
  have hp := rr_pre hR
  have hap2 : ∀ i j, i < 7 → j < 158 → ad2 i ≠ ad j := fun i j a q z => hap j i q a z.symm
  have hl : lv_has ls 9 [(0, .ref b), (1, .ref (ad jO)), (2, .ref (ad2 0)), (3, .ref (ad oL)), (4, .int (nI i))] := hl
  refine lv_aload_n hx hb dL_law_1042 rfl (lv_at hl 1 rfl) ?_
  refine lv_aload_n hx hb dL_law_1043 rfl (lv_at hl 0 rfl) ?_
  refine lv_iload hx hb dL_law_1044 (lv_at hl 4 rfl) ?_
  refine lv_iconst (v := 1) hx hb dL_law_1046 (by decide) ?_
  refine lv_iadd hx hb dL_law_1047 ?_
  refine va_sld hx hb hX hbl hbA hC.2.2.1 (sc_in (j := 1) hi hL (by decide)) dL_law_1048 ?_
  refine lv_aload_n hx hb dL_law_1049 rfl (lv_at hl 3 rfl) ?_
  refine w_hcall B hC hM hap hE hN (As := [.ref (ad jO), .int (xs (nI i + 1).toNatClampNeg), .ref (ad oL)]) (rest := []) (h_L_setting (D := D) (ad := ad) (V := V) l _ hl0 S (xs (nI i + 1).toNatClampNeg)) (vx_cwSW 3 B.1.2.2.2.2 gL_law_L_setting rfl rfl rfl hd_L_setting.2 ⟨Nat.le_of_ble_eq_true rfl, Nat.le_of_ble_eq_true rfl⟩) rfl hl.1 (Nat.le_of_ble_eq_true rfl) dL_law_1050 ⟨by show _ ≤ 601024; omega, by show _ ≤ 7293034; omega⟩ (fun k S1 H locs hk1 hC hM => ?_)
  refine lv_istore (lv' := [(5, .int k), (0, .ref b), (1, .ref (ad jO)), (2, .ref (ad2 0)), (3, .ref (ad oL)), (4, .int (nI i))]) hx hb dL_law_1053 hl (by decide) rfl (fun ls hl => ?_)
  refine lv_aload_n hx hb dL_law_1055 rfl (lv_at hl 3 rfl) ?_
  refine lv_aload_n hx hb dL_law_1056 rfl (lv_at hl 1 rfl) ?_
  refine lv_iload hx hb dL_law_1057 (lv_at hl 5 rfl) ?_
  refine lv_iconst (v := 1) hx hb dL_law_1059 (by decide) ?_
  refine lv_iadd hx hb dL_law_1060 ?_
  refine va_sld hx hb hX hbl hbA hM.2.2.1 (sc_in (j := 1) hi hL (by decide)) dL_law_1061 ?_
  refine w_calli hM hC hap2 (x_runV B hM (As := [.int (xs (nI i + 1).toNatClampNeg)]) (rest := []) (q := 0) (by decide) cM_o cls5 (c_X5_setting (D := D) (ad := ad2) l _ T (xs (nI i + 1).toNatClampNeg)) (cwV 1 B.1.2.2.2.2 gL_law_X5_setting rfl rfl rfl hd_X5_setting ⟨Nat.le_of_ble_eq_true rfl, Nat.le_of_ble_eq_true rfl⟩) rfl hl.1 (Nat.le_of_ble_eq_true rfl) dL_law_1062 ⟨by show _ ≤ 601024; omega, by show _ ≤ 7293034; omega⟩) (fun r T1 H locs hr hM hC => ?_)
  refine lv_istore (lv' := [(6, .int r), (5, .int k), (0, .ref b), (1, .ref (ad jO)), (2, .ref (ad2 0)), (3, .ref (ad oL)), (4, .int (nI i))]) hx hb dL_law_1065 hl (by decide) rfl (fun ls hl => ?_)
  have ce := op_setting hR (xs (nI i + 1).toNatClampNeg)
  rw [← hr] at ce
  obtain ⟨hR1, h6, hout⟩ := hL_ce mp_01 rfl hk1 ce
  refine lv_aload_n hx hb dL_law_1067 rfl (lv_at hl 4 rfl) ?_
  refine w_calli hM hC hap2 (x_runV B hM (As := []) (rest := []) (q := 0) (by decide) cM_o cls5 (c_X5_thrown (D := D) (ad := ad2) l _ T1) (cwV 0 B.1.2.2.2.2 gL_law_X5_thrown rfl rfl rfl hd_X5_thrown ⟨Nat.le_of_ble_eq_true rfl, Nat.le_of_ble_eq_true rfl⟩) rfl hl.1 (Nat.le_of_ble_eq_true rfl) dL_law_1068 ⟨by show _ ≤ 601024; omega, by show _ ≤ 7293034; omega⟩) (fun r2 T2 H locs hr2 hM hC => ?_)
  obtain ⟨hr2, hT2⟩ := hr2
  rw [hT2] at hM
  refine lv_iload hx hb dL_law_1071 (lv_at hl 1 rfl) ?_
  refine lv_icmp_eq (tgt := 1078) hx hb dL_law_1073 (by decide) (fun c1 => ?_) (fun c1 => absurd (hr2.trans h6) c1)
  refine lv_iload hx hb dL_law_1078 (lv_at hl 1 rfl) ?_
  refine lv_if_ne (tgt := 1095) hx hb dL_law_1080 (by decide) (fun c2 => ?_) (fun c2 => ?_)
  · refine lv_goto (tgt := 1359) hx hb dL_law_1095 (by decide) ?_
    exact hk _ _ _ _ _ _ _ hC hM hR1 (lv_sub hl [2, 3, 4, 5, 6] rfl) (by omega) (by omega)
  · refine lv_aload_n hx hb dL_law_1083 rfl (lv_at hl 5 rfl) ?_
    refine lv_iconst (v := 0) hx hb dL_law_1084 (by decide) ?_
    refine x_lald B hC dL_law_1085 ?_
    refine lv_iload hx hb dL_law_1086 (lv_at hl 0 rfl) ?_
    refine lv_i2l hx hb dL_law_1088 rfl ?_
    refine lv_lcmp hx hb dL_law_1089 ?_
    refine lv_if_eq (tgt := 1095) hx hb dL_law_1090 (by decide) (fun c3 => ?_) (fun c3 => absurd (lcmp_self (by rw [hout c2])) c3)
    refine lv_goto (tgt := 1359) hx hb dL_law_1095 (by decide) ?_
    exact hk _ _ _ _ _ _ _ hC hM hR1 (lv_sub hl [2, 3, 4, 5, 6] rfl) (by omega) (by omega)
set_option maxRecDepth 20000 in
theorem lwc_ifAbsent (B : Cx p m c code 9 s #[Value.ref b] lw_tbl RL meth ret D) (hl0 : l.stackTraces = false) (hE : nv V A s s.heap) (hN : NcT s) (hX : va_X b L xs s s.heap) (hbl : b < s.heap.size) (hbA : ¬ A b) (hL : L ≤ 2048) (hap : ∀ i j, i < 158 → j < 7 → ad i ≠ ad2 j) (hi : i + 4 ≤ L) (hC : Wd D 158 (cC D ad) ad A s.heap S H locs) (hM : Wd D 7 (cM D ad2) ad2 A s.heap T H locs) (hR : RR S T) (hl : lv_has ls 9 (lwl b ad ad2 i)) (hc : cells + 3 ≤ 601024) (hs : slots + 18 ≤ 7293034) (hk : ∀ (S1 T1 : vS) (H1 : Heap) (locs1 : List Loc) (cells1 slots1 : Nat) (ls1 : Array Slot), Wd D 158 (cC D ad) ad A s.heap S1 H1 locs1 → Wd D 7 (cM D ad2) ad2 A s.heap T1 H1 locs1 → RR S1 T1 → lv_has ls1 9 (lwl b ad ad2 i) → cells1 ≤ cells + 3 → slots1 ≤ slots + 18 → W p l e room_1 s m #[Value.ref b] below meth c H1 locs1 cells1 slots1 Q (F0 m 1359 ls1 [])) : W p l e room_1 s m #[Value.ref b] below meth c H locs cells slots Q (F0 m 1098 ls []) := by
  have hx := B.1.1
  have hb := B.1.2.1
  have hp := rr_pre hR
  have hap2 : ∀ i j, i < 7 → j < 158 → ad2 i ≠ ad j := fun i j a q z => hap j i q a z.symm
  have hl : lv_has ls 9 [(0, .ref b), (1, .ref (ad jO)), (2, .ref (ad2 0)), (3, .ref (ad oL)), (4, .int (nI i))] := hl
  refine lv_aload_n hx hb dL_law_1098 rfl (lv_at hl 1 rfl) ?_
  refine lv_aload_n hx hb dL_law_1099 rfl (lv_at hl 0 rfl) ?_
  refine lv_iload hx hb dL_law_1100 (lv_at hl 4 rfl) ?_
  refine lv_iconst (v := 1) hx hb dL_law_1102 (by decide) ?_
  refine lv_iadd hx hb dL_law_1103 ?_
  refine va_sld hx hb hX hbl hbA hC.2.2.1 (sc_in (j := 1) hi hL (by decide)) dL_law_1104 ?_
  refine lv_aload_n hx hb dL_law_1105 rfl (lv_at hl 0 rfl) ?_
  refine lv_iload hx hb dL_law_1106 (lv_at hl 4 rfl) ?_
  refine lv_iconst (v := 2) hx hb dL_law_1108 (by decide) ?_
  refine lv_iadd hx hb dL_law_1109 ?_
  refine va_sld hx hb hX hbl hbA hC.2.2.1 (sc_in (j := 2) hi hL (by decide)) dL_law_1110 ?_
  refine lv_aload_n hx hb dL_law_1111 rfl (lv_at hl 3 rfl) ?_
  refine w_hcall B hC hM hap hE hN (As := [.ref (ad jO), .int (xs (nI i + 1).toNatClampNeg), .int (xs (nI i + 2).toNatClampNeg), .ref (ad oL)]) (rest := []) (h_L_ifAbsent (D := D) (ad := ad) (V := V) l _ hl0 S (xs (nI i + 1).toNatClampNeg) (xs (nI i + 2).toNatClampNeg)) (vx_cwSW 4 B.1.2.2.2.2 gL_law_L_ifAbsent rfl rfl rfl hd_L_ifAbsent.2 ⟨Nat.le_of_ble_eq_true rfl, Nat.le_of_ble_eq_true rfl⟩) rfl hl.1 (Nat.le_of_ble_eq_true rfl) dL_law_1112 ⟨by show _ ≤ 601024; omega, by show _ ≤ 7293034; omega⟩ (fun k S1 H locs hk1 hC hM => ?_)
  refine lv_istore (lv' := [(5, .int k), (0, .ref b), (1, .ref (ad jO)), (2, .ref (ad2 0)), (3, .ref (ad oL)), (4, .int (nI i))]) hx hb dL_law_1115 hl (by decide) rfl (fun ls hl => ?_)
  refine lv_aload_n hx hb dL_law_1117 rfl (lv_at hl 3 rfl) ?_
  refine lv_aload_n hx hb dL_law_1118 rfl (lv_at hl 1 rfl) ?_
  refine lv_iload hx hb dL_law_1119 (lv_at hl 5 rfl) ?_
  refine lv_iconst (v := 1) hx hb dL_law_1121 (by decide) ?_
  refine lv_iadd hx hb dL_law_1122 ?_
  refine va_sld hx hb hX hbl hbA hM.2.2.1 (sc_in (j := 1) hi hL (by decide)) dL_law_1123 ?_
  refine lv_aload_n hx hb dL_law_1124 rfl (lv_at hl 1 rfl) ?_
  refine lv_iload hx hb dL_law_1125 (lv_at hl 5 rfl) ?_
  refine lv_iconst (v := 2) hx hb dL_law_1127 (by decide) ?_
  refine lv_iadd hx hb dL_law_1128 ?_
  refine va_sld hx hb hX hbl hbA hM.2.2.1 (sc_in (j := 2) hi hL (by decide)) dL_law_1129 ?_
  refine w_calli hM hC hap2 (x_runV B hM (As := [.int (xs (nI i + 1).toNatClampNeg), .int (xs (nI i + 2).toNatClampNeg)]) (rest := []) (q := 0) (by decide) cM_o cls5 (c_X5_ifAbsent (D := D) (ad := ad2) l _ T (xs (nI i + 1).toNatClampNeg) (xs (nI i + 2).toNatClampNeg) hp.2.2.1 hp.2.2.2.1) (cwV 2 B.1.2.2.2.2 gL_law_X5_ifAbsent rfl rfl rfl hd_X5_ifAbsent ⟨Nat.le_of_ble_eq_true rfl, Nat.le_of_ble_eq_true rfl⟩) rfl hl.1 (Nat.le_of_ble_eq_true rfl) dL_law_1130 ⟨by show _ ≤ 601024; omega, by show _ ≤ 7293034; omega⟩) (fun r T1 H locs hr hM hC => ?_)
  refine lv_istore (lv' := [(6, .int r), (5, .int k), (0, .ref b), (1, .ref (ad jO)), (2, .ref (ad2 0)), (3, .ref (ad oL)), (4, .int (nI i))]) hx hb dL_law_1133 hl (by decide) rfl (fun ls hl => ?_)
  have ce := op_ifAbsent hR (xs (nI i + 1).toNatClampNeg) (xs (nI i + 2).toNatClampNeg)
  rw [← hr] at ce
  obtain ⟨hR1, h6, hout⟩ := hL_ce mp_01 rfl hk1 ce
  refine lv_aload_n hx hb dL_law_1135 rfl (lv_at hl 4 rfl) ?_
  refine w_calli hM hC hap2 (x_runV B hM (As := []) (rest := []) (q := 0) (by decide) cM_o cls5 (c_X5_thrown (D := D) (ad := ad2) l _ T1) (cwV 0 B.1.2.2.2.2 gL_law_X5_thrown rfl rfl rfl hd_X5_thrown ⟨Nat.le_of_ble_eq_true rfl, Nat.le_of_ble_eq_true rfl⟩) rfl hl.1 (Nat.le_of_ble_eq_true rfl) dL_law_1136 ⟨by show _ ≤ 601024; omega, by show _ ≤ 7293034; omega⟩) (fun r2 T2 H locs hr2 hM hC => ?_)
  obtain ⟨hr2, hT2⟩ := hr2
  rw [hT2] at hM
  refine lv_iload hx hb dL_law_1139 (lv_at hl 1 rfl) ?_
  refine lv_icmp_eq (tgt := 1146) hx hb dL_law_1141 (by decide) (fun c1 => ?_) (fun c1 => absurd (hr2.trans h6) c1)
  refine lv_iload hx hb dL_law_1146 (lv_at hl 1 rfl) ?_
  refine lv_if_ne (tgt := 1163) hx hb dL_law_1148 (by decide) (fun c2 => ?_) (fun c2 => ?_)
  · refine lv_goto (tgt := 1359) hx hb dL_law_1163 (by decide) ?_
    exact hk _ _ _ _ _ _ _ hC hM hR1 (lv_sub hl [2, 3, 4, 5, 6] rfl) (by omega) (by omega)
  · refine lv_aload_n hx hb dL_law_1151 rfl (lv_at hl 5 rfl) ?_
    refine lv_iconst (v := 0) hx hb dL_law_1152 (by decide) ?_
    refine x_lald B hC dL_law_1153 ?_
    refine lv_iload hx hb dL_law_1154 (lv_at hl 0 rfl) ?_
    refine lv_i2l hx hb dL_law_1156 rfl ?_
    refine lv_lcmp hx hb dL_law_1157 ?_
    refine lv_if_eq (tgt := 1163) hx hb dL_law_1158 (by decide) (fun c3 => ?_) (fun c3 => absurd (lcmp_self (by rw [hout c2])) c3)
    refine lv_goto (tgt := 1359) hx hb dL_law_1163 (by decide) ?_
    exact hk _ _ _ _ _ _ _ hC hM hR1 (lv_sub hl [2, 3, 4, 5, 6] rfl) (by omega) (by omega)
end LAWC2
