section LAWC3
variable {p : Program} {l : Launch} {e : Env} {s : State} {m : MethodId} {b : Nat} {below : List Frame} {meth : Method} {c : Code} {H : Heap} {locs : List Loc} {cells slots : Nat} {Q : State → Prop}
variable {D : va_G} {ad ad2 : Nat → Nat} {A : Nat → Prop} {S T : vS} {V : vE} {L i : Nat} {xs : Nat → Int32} {ls : Array Slot}
set_option maxRecDepth 20000 in
theorem lwc_fundLasts (B : Cx p m c code 9 s #[Value.ref b] lw_tbl RL meth ret D) (hl0 : l.stackTraces = false) (hE : nv V A s s.heap) (hN : NcT s) (hX : va_X b L xs s s.heap) (hbl : b < s.heap.size) (hbA : ¬ A b) (hL : L ≤ 2048) (hap : ∀ i j, i < 158 → j < 7 → ad i ≠ ad2 j) (hi : i + 4 ≤ L) (hC : Wd D 158 (cC D ad) ad A s.heap S H locs) (hM : Wd D 7 (cM D ad2) ad2 A s.heap T H locs) (hR : RR S T) (hl : lv_has ls 9 (lwl b ad ad2 i)) (hc : cells + 3 ≤ 601024) (hs : slots + 18 ≤ 7293034) (hk : ∀ (S1 T1 : vS) (H1 : Heap) (locs1 : List Loc) (cells1 slots1 : Nat) (ls1 : Array Slot), Wd D 158 (cC D ad) ad A s.heap S1 H1 locs1 → Wd D 7 (cM D ad2) ad2 A s.heap T1 H1 locs1 → RR S1 T1 → lv_has ls1 9 (lwl b ad ad2 i) → cells1 ≤ cells + 3 → slots1 ≤ slots + 18 → W p l e room_1 s m #[Value.ref b] below meth c H1 locs1 cells1 slots1 Q (F0 m 1359 ls1 [])) : W p l e room_1 s m #[Value.ref b] below meth c H locs cells slots Q (F0 m 1166 ls []) := by
  have hx := B.1.1
  have hb := B.1.2.1
  have hp := rr_pre hR
  have hap2 : ∀ i j, i < 7 → j < 158 → ad2 i ≠ ad j := fun i j a q z => hap j i q a z.symm
  have hl : lv_has ls 9 [(0, .ref b), (1, .ref (ad jO)), (2, .ref (ad2 0)), (3, .ref (ad oL)), (4, .int (nI i))] := hl
  refine lv_aload_n hx hb dL_law_1166 rfl (lv_at hl 1 rfl) ?_
  refine lv_aload_n hx hb dL_law_1167 rfl (lv_at hl 0 rfl) ?_
  refine lv_iload hx hb dL_law_1168 (lv_at hl 4 rfl) ?_
  refine lv_iconst (v := 1) hx hb dL_law_1170 (by decide) ?_
  refine lv_iadd hx hb dL_law_1171 ?_
  refine va_sld hx hb hX hbl hbA hC.2.2.1 (sc_in (j := 1) hi hL (by decide)) dL_law_1172 ?_
  refine lv_aload_n hx hb dL_law_1173 rfl (lv_at hl 3 rfl) ?_
  refine w_hcall B hC hM hap hE hN (As := [.ref (ad jO), .int (xs (nI i + 1).toNatClampNeg), .ref (ad oL)]) (rest := []) (h_L_fundLasts (D := D) (ad := ad) (V := V) l _ hl0 S (xs (nI i + 1).toNatClampNeg)) (vx_cwSW 3 B.1.2.2.2.2 gL_law_L_fundLasts rfl rfl rfl hd_L_fundLasts.2 ⟨Nat.le_of_ble_eq_true rfl, Nat.le_of_ble_eq_true rfl⟩) rfl hl.1 (Nat.le_of_ble_eq_true rfl) dL_law_1174 ⟨by show _ ≤ 601024; omega, by show _ ≤ 7293034; omega⟩ (fun k S1 H locs hk1 hC hM => ?_)
  refine lv_istore (lv' := [(5, .int k), (0, .ref b), (1, .ref (ad jO)), (2, .ref (ad2 0)), (3, .ref (ad oL)), (4, .int (nI i))]) hx hb dL_law_1177 hl (by decide) rfl (fun ls hl => ?_)
  refine lv_aload_n hx hb dL_law_1179 rfl (lv_at hl 3 rfl) ?_
  refine lv_aload_n hx hb dL_law_1180 rfl (lv_at hl 1 rfl) ?_
  refine lv_iload hx hb dL_law_1181 (lv_at hl 5 rfl) ?_
  refine lv_iconst (v := 1) hx hb dL_law_1183 (by decide) ?_
  refine lv_iadd hx hb dL_law_1184 ?_
  refine va_sld hx hb hX hbl hbA hM.2.2.1 (sc_in (j := 1) hi hL (by decide)) dL_law_1185 ?_
  refine w_calli hM hC hap2 (x_runV B hM (As := [.int (xs (nI i + 1).toNatClampNeg)]) (rest := []) (q := 0) (by decide) cM_o cls5 (c_X5_fundLasts (D := D) (ad := ad2) l _ T (xs (nI i + 1).toNatClampNeg) hp.2.2.1 hp.2.2.2.1) (cwV 1 B.1.2.2.2.2 gL_law_X5_fundLasts rfl rfl rfl hd_X5_fundLasts ⟨Nat.le_of_ble_eq_true rfl, Nat.le_of_ble_eq_true rfl⟩) rfl hl.1 (Nat.le_of_ble_eq_true rfl) dL_law_1186 ⟨by show _ ≤ 601024; omega, by show _ ≤ 7293034; omega⟩) (fun r T1 H locs hr hM hC => ?_)
  refine lv_istore (lv' := [(6, .int r), (5, .int k), (0, .ref b), (1, .ref (ad jO)), (2, .ref (ad2 0)), (3, .ref (ad oL)), (4, .int (nI i))]) hx hb dL_law_1189 hl (by decide) rfl (fun ls hl => ?_)
  have ce := op_fundLasts hR (xs (nI i + 1).toNatClampNeg)
  rw [← hr] at ce
  obtain ⟨hR1, h6, hout⟩ := hL_ce mp_01 rfl hk1 ce
  refine lv_aload_n hx hb dL_law_1191 rfl (lv_at hl 4 rfl) ?_
  refine w_calli hM hC hap2 (x_runV B hM (As := []) (rest := []) (q := 0) (by decide) cM_o cls5 (c_X5_thrown (D := D) (ad := ad2) l _ T1) (cwV 0 B.1.2.2.2.2 gL_law_X5_thrown rfl rfl rfl hd_X5_thrown ⟨Nat.le_of_ble_eq_true rfl, Nat.le_of_ble_eq_true rfl⟩) rfl hl.1 (Nat.le_of_ble_eq_true rfl) dL_law_1192 ⟨by show _ ≤ 601024; omega, by show _ ≤ 7293034; omega⟩) (fun r2 T2 H locs hr2 hM hC => ?_)
  obtain ⟨hr2, hT2⟩ := hr2
  rw [hT2] at hM
  refine lv_iload hx hb dL_law_1195 (lv_at hl 1 rfl) ?_
  refine lv_icmp_eq (tgt := 1202) hx hb dL_law_1197 (by decide) (fun c1 => ?_) (fun c1 => absurd (hr2.trans h6) c1)
  refine lv_iload hx hb dL_law_1202 (lv_at hl 1 rfl) ?_
  refine lv_if_ne (tgt := 1219) hx hb dL_law_1204 (by decide) (fun c2 => ?_) (fun c2 => ?_)
  · refine lv_goto (tgt := 1359) hx hb dL_law_1219 (by decide) ?_
    exact hk _ _ _ _ _ _ _ hC hM hR1 (lv_sub hl [2, 3, 4, 5, 6] rfl) (by omega) (by omega)
  · refine lv_aload_n hx hb dL_law_1207 rfl (lv_at hl 5 rfl) ?_
    refine lv_iconst (v := 0) hx hb dL_law_1208 (by decide) ?_
    refine x_lald B hC dL_law_1209 ?_
    refine lv_iload hx hb dL_law_1210 (lv_at hl 0 rfl) ?_
    refine lv_i2l hx hb dL_law_1212 rfl ?_
    refine lv_lcmp hx hb dL_law_1213 ?_
    refine lv_if_eq (tgt := 1219) hx hb dL_law_1214 (by decide) (fun c3 => ?_) (fun c3 => absurd (lcmp_self (by rw [hout c2])) c3)
    refine lv_goto (tgt := 1359) hx hb dL_law_1219 (by decide) ?_
    exact hk _ _ _ _ _ _ _ hC hM hR1 (lv_sub hl [2, 3, 4, 5, 6] rfl) (by omega) (by omega)
set_option maxRecDepth 20000 in
theorem lwc_weakest (B : Cx p m c code 9 s #[Value.ref b] lw_tbl RL meth ret D) (hl0 : l.stackTraces = false) (hE : nv V A s s.heap) (hN : NcT s) (hX : va_X b L xs s s.heap) (hbl : b < s.heap.size) (hbA : ¬ A b) (hL : L ≤ 2048) (hap : ∀ i j, i < 158 → j < 7 → ad i ≠ ad2 j) (hi : i + 4 ≤ L) (hC : Wd D 158 (cC D ad) ad A s.heap S H locs) (hM : Wd D 7 (cM D ad2) ad2 A s.heap T H locs) (hR : RR S T) (hl : lv_has ls 9 (lwl b ad ad2 i)) (hc : cells + 3 ≤ 601024) (hs : slots + 18 ≤ 7293034) (hk : ∀ (S1 T1 : vS) (H1 : Heap) (locs1 : List Loc) (cells1 slots1 : Nat) (ls1 : Array Slot), Wd D 158 (cC D ad) ad A s.heap S1 H1 locs1 → Wd D 7 (cM D ad2) ad2 A s.heap T1 H1 locs1 → RR S1 T1 → lv_has ls1 9 (lwl b ad ad2 i) → cells1 ≤ cells + 3 → slots1 ≤ slots + 18 → W p l e room_1 s m #[Value.ref b] below meth c H1 locs1 cells1 slots1 Q (F0 m 1359 ls1 [])) : W p l e room_1 s m #[Value.ref b] below meth c H locs cells slots Q (F0 m 1222 ls []) := by
  have hx := B.1.1
  have hb := B.1.2.1
  have hp := rr_pre hR
  have hap2 : ∀ i j, i < 7 → j < 158 → ad2 i ≠ ad j := fun i j a q z => hap j i q a z.symm
  have hl : lv_has ls 9 [(0, .ref b), (1, .ref (ad jO)), (2, .ref (ad2 0)), (3, .ref (ad oL)), (4, .int (nI i))] := hl
  refine lv_aload_n hx hb dL_law_1222 rfl (lv_at hl 1 rfl) ?_
  refine w_calli hC hM hap (x_runV B hC (As := []) (rest := []) hqj cC_j cls4 (c_X4_weakest (D := D) (ad := ad) l _ S) (cwV 0 B.1.2.2.2.2 gL_law_X4_weakest rfl rfl rfl hd_X4_weakest ⟨Nat.le_of_ble_eq_true rfl, Nat.le_of_ble_eq_true rfl⟩) rfl hl.1 (Nat.le_of_ble_eq_true rfl) dL_law_1223 ⟨by show _ ≤ 601024; omega, by show _ ≤ 7293034; omega⟩) (fun v S1 H locs hv hC hM => ?_)
  have ce := op_weakest hR
  refine lv_aload_n hx hb dL_law_1226 rfl (lv_at hl 2 rfl) ?_
  refine w_calli hM hC hap2 (x_runV B hM (As := []) (rest := [.int v]) (q := 0) (by decide) cM_o cls5 (c_X5_weakest (D := D) (ad := ad2) l _ T hp.2.2.1 hp.2.2.2.1) (cwV 0 B.1.2.2.2.2 gL_law_X5_weakest rfl rfl rfl hd_X5_weakest ⟨Nat.le_of_ble_eq_true rfl, Nat.le_of_ble_eq_true rfl⟩) rfl hl.1 (Nat.le_of_ble_eq_true rfl) dL_law_1227 ⟨by show _ ≤ 601024; omega, by show _ ≤ 7293034; omega⟩) (fun r T1 H locs hr hM hC => ?_)
  obtain ⟨hv, hS1⟩ := hv
  rw [hS1] at hC
  rw [← hr, ← hv] at ce
  refine lv_icmp_eq (tgt := 1359) hx hb dL_law_1230 (by decide) (fun c1 => ?_) (fun c1 => absurd (ce.2.2 rfl) c1)
  exact hk _ _ _ _ _ _ _ hC hM ce.1 hl (by omega) (by omega)
set_option maxRecDepth 20000 in
theorem lwc_weeksToGo (B : Cx p m c code 9 s #[Value.ref b] lw_tbl RL meth ret D) (hl0 : l.stackTraces = false) (hE : nv V A s s.heap) (hN : NcT s) (hX : va_X b L xs s s.heap) (hbl : b < s.heap.size) (hbA : ¬ A b) (hL : L ≤ 2048) (hap : ∀ i j, i < 158 → j < 7 → ad i ≠ ad2 j) (hi : i + 4 ≤ L) (hC : Wd D 158 (cC D ad) ad A s.heap S H locs) (hM : Wd D 7 (cM D ad2) ad2 A s.heap T H locs) (hR : RR S T) (hl : lv_has ls 9 (lwl b ad ad2 i)) (hc : cells + 3 ≤ 601024) (hs : slots + 18 ≤ 7293034) (hk : ∀ (S1 T1 : vS) (H1 : Heap) (locs1 : List Loc) (cells1 slots1 : Nat) (ls1 : Array Slot), Wd D 158 (cC D ad) ad A s.heap S1 H1 locs1 → Wd D 7 (cM D ad2) ad2 A s.heap T1 H1 locs1 → RR S1 T1 → lv_has ls1 9 (lwl b ad ad2 i) → cells1 ≤ cells + 3 → slots1 ≤ slots + 18 → W p l e room_1 s m #[Value.ref b] below meth c H1 locs1 cells1 slots1 Q (F0 m 1359 ls1 [])) : W p l e room_1 s m #[Value.ref b] below meth c H locs cells slots Q (F0 m 1235 ls []) := by
  have hx := B.1.1
  have hb := B.1.2.1
  have hp := rr_pre hR
  have hap2 : ∀ i j, i < 7 → j < 158 → ad2 i ≠ ad j := fun i j a q z => hap j i q a z.symm
  have hl : lv_has ls 9 [(0, .ref b), (1, .ref (ad jO)), (2, .ref (ad2 0)), (3, .ref (ad oL)), (4, .int (nI i))] := hl
  refine lv_aload_n hx hb dL_law_1235 rfl (lv_at hl 1 rfl) ?_
  refine w_calli hC hM hap (x_runV B hC (As := []) (rest := []) hqj cC_j cls4 (c_X4_weeksToGo (D := D) (ad := ad) l _ S) (cwV 0 B.1.2.2.2.2 gL_law_X4_weeksToGo rfl rfl rfl hd_X4_weeksToGo ⟨Nat.le_of_ble_eq_true rfl, Nat.le_of_ble_eq_true rfl⟩) rfl hl.1 (Nat.le_of_ble_eq_true rfl) dL_law_1236 ⟨by show _ ≤ 601024; omega, by show _ ≤ 7293034; omega⟩) (fun v S1 H locs hv hC hM => ?_)
  have ce := op_weeksToGo hR
  refine lv_aload_n hx hb dL_law_1239 rfl (lv_at hl 2 rfl) ?_
  refine w_calli hM hC hap2 (x_runV B hM (As := []) (rest := [.int v]) (q := 0) (by decide) cM_o cls5 (c_X5_weeksToGo (D := D) (ad := ad2) l _ T) (cwV 0 B.1.2.2.2.2 gL_law_X5_weeksToGo rfl rfl rfl hd_X5_weeksToGo ⟨Nat.le_of_ble_eq_true rfl, Nat.le_of_ble_eq_true rfl⟩) rfl hl.1 (Nat.le_of_ble_eq_true rfl) dL_law_1240 ⟨by show _ ≤ 601024; omega, by show _ ≤ 7293034; omega⟩) (fun r T1 H locs hr hM hC => ?_)
  obtain ⟨hv, hS1⟩ := hv
  rw [hS1] at hC
  rw [← hr, ← hv] at ce
  refine lv_icmp_eq (tgt := 1359) hx hb dL_law_1243 (by decide) (fun c1 => ?_) (fun c1 => absurd (ce.2.2 rfl) c1)
  exact hk _ _ _ _ _ _ _ hC hM ce.1 hl (by omega) (by omega)
set_option maxRecDepth 20000 in
theorem lwc_ifCycle (B : Cx p m c code 9 s #[Value.ref b] lw_tbl RL meth ret D) (hl0 : l.stackTraces = false) (hE : nv V A s s.heap) (hN : NcT s) (hX : va_X b L xs s s.heap) (hbl : b < s.heap.size) (hbA : ¬ A b) (hL : L ≤ 2048) (hap : ∀ i j, i < 158 → j < 7 → ad i ≠ ad2 j) (hi : i + 4 ≤ L) (hC : Wd D 158 (cC D ad) ad A s.heap S H locs) (hM : Wd D 7 (cM D ad2) ad2 A s.heap T H locs) (hR : RR S T) (hl : lv_has ls 9 (lwl b ad ad2 i)) (hc : cells + 3 ≤ 601024) (hs : slots + 18 ≤ 7293034) (hk : ∀ (S1 T1 : vS) (H1 : Heap) (locs1 : List Loc) (cells1 slots1 : Nat) (ls1 : Array Slot), Wd D 158 (cC D ad) ad A s.heap S1 H1 locs1 → Wd D 7 (cM D ad2) ad2 A s.heap T1 H1 locs1 → RR S1 T1 → lv_has ls1 9 (lwl b ad ad2 i) → cells1 ≤ cells + 3 → slots1 ≤ slots + 18 → W p l e room_1 s m #[Value.ref b] below meth c H1 locs1 cells1 slots1 Q (F0 m 1359 ls1 [])) : W p l e room_1 s m #[Value.ref b] below meth c H locs cells slots Q (F0 m 1248 ls []) := by
  have hx := B.1.1
  have hb := B.1.2.1
  have hp := rr_pre hR
  have hap2 : ∀ i j, i < 7 → j < 158 → ad2 i ≠ ad j := fun i j a q z => hap j i q a z.symm
  have hl : lv_has ls 9 [(0, .ref b), (1, .ref (ad jO)), (2, .ref (ad2 0)), (3, .ref (ad oL)), (4, .int (nI i))] := hl
  refine lv_aload_n hx hb dL_law_1248 rfl (lv_at hl 1 rfl) ?_
  refine lv_aload_n hx hb dL_law_1249 rfl (lv_at hl 0 rfl) ?_
  refine lv_iload hx hb dL_law_1250 (lv_at hl 4 rfl) ?_
  refine lv_iconst (v := 1) hx hb dL_law_1252 (by decide) ?_
  refine lv_iadd hx hb dL_law_1253 ?_
  refine va_sld hx hb hX hbl hbA hC.2.2.1 (sc_in (j := 1) hi hL (by decide)) dL_law_1254 ?_
  refine lv_aload_n hx hb dL_law_1255 rfl (lv_at hl 3 rfl) ?_
  refine w_hcall B hC hM hap hE hN (As := [.ref (ad jO), .int (xs (nI i + 1).toNatClampNeg), .ref (ad oL)]) (rest := []) (h_L_ifCycle (D := D) (ad := ad) (V := V) l _ hl0 S (xs (nI i + 1).toNatClampNeg)) (vx_cwSW 3 B.1.2.2.2.2 gL_law_L_ifCycle rfl rfl rfl hd_L_ifCycle.2 ⟨Nat.le_of_ble_eq_true rfl, Nat.le_of_ble_eq_true rfl⟩) rfl hl.1 (Nat.le_of_ble_eq_true rfl) dL_law_1256 ⟨by show _ ≤ 601024; omega, by show _ ≤ 7293034; omega⟩ (fun k S1 H locs hk1 hC hM => ?_)
  refine lv_istore (lv' := [(5, .int k), (0, .ref b), (1, .ref (ad jO)), (2, .ref (ad2 0)), (3, .ref (ad oL)), (4, .int (nI i))]) hx hb dL_law_1259 hl (by decide) rfl (fun ls hl => ?_)
  refine lv_aload_n hx hb dL_law_1261 rfl (lv_at hl 3 rfl) ?_
  refine lv_aload_n hx hb dL_law_1262 rfl (lv_at hl 1 rfl) ?_
  refine lv_iload hx hb dL_law_1263 (lv_at hl 5 rfl) ?_
  refine lv_iconst (v := 1) hx hb dL_law_1265 (by decide) ?_
  refine lv_iadd hx hb dL_law_1266 ?_
  refine va_sld hx hb hX hbl hbA hM.2.2.1 (sc_in (j := 1) hi hL (by decide)) dL_law_1267 ?_
  refine w_calli hM hC hap2 (x_runV B hM (As := [.int (xs (nI i + 1).toNatClampNeg)]) (rest := []) (q := 0) (by decide) cM_o cls5 (c_X5_ifCycle (D := D) (ad := ad2) l _ T (xs (nI i + 1).toNatClampNeg)) (cwV 1 B.1.2.2.2.2 gL_law_X5_ifCycle rfl rfl rfl hd_X5_ifCycle ⟨Nat.le_of_ble_eq_true rfl, Nat.le_of_ble_eq_true rfl⟩) rfl hl.1 (Nat.le_of_ble_eq_true rfl) dL_law_1268 ⟨by show _ ≤ 601024; omega, by show _ ≤ 7293034; omega⟩) (fun r T1 H locs hr hM hC => ?_)
  refine lv_istore (lv' := [(6, .int r), (5, .int k), (0, .ref b), (1, .ref (ad jO)), (2, .ref (ad2 0)), (3, .ref (ad oL)), (4, .int (nI i))]) hx hb dL_law_1271 hl (by decide) rfl (fun ls hl => ?_)
  have ce := op_ifCycle hR (xs (nI i + 1).toNatClampNeg)
  rw [← hr] at ce
  obtain ⟨hR1, h6, hout⟩ := hL_ce mp_01 rfl hk1 ce
  refine lv_aload_n hx hb dL_law_1273 rfl (lv_at hl 4 rfl) ?_
  refine w_calli hM hC hap2 (x_runV B hM (As := []) (rest := []) (q := 0) (by decide) cM_o cls5 (c_X5_thrown (D := D) (ad := ad2) l _ T1) (cwV 0 B.1.2.2.2.2 gL_law_X5_thrown rfl rfl rfl hd_X5_thrown ⟨Nat.le_of_ble_eq_true rfl, Nat.le_of_ble_eq_true rfl⟩) rfl hl.1 (Nat.le_of_ble_eq_true rfl) dL_law_1274 ⟨by show _ ≤ 601024; omega, by show _ ≤ 7293034; omega⟩) (fun r2 T2 H locs hr2 hM hC => ?_)
  obtain ⟨hr2, hT2⟩ := hr2
  rw [hT2] at hM
  refine lv_iload hx hb dL_law_1277 (lv_at hl 1 rfl) ?_
  refine lv_icmp_eq (tgt := 1284) hx hb dL_law_1279 (by decide) (fun c1 => ?_) (fun c1 => absurd (hr2.trans h6) c1)
  refine lv_iload hx hb dL_law_1284 (lv_at hl 1 rfl) ?_
  refine lv_if_ne (tgt := 1301) hx hb dL_law_1286 (by decide) (fun c2 => ?_) (fun c2 => ?_)
  · refine lv_goto (tgt := 1359) hx hb dL_law_1301 (by decide) ?_
    exact hk _ _ _ _ _ _ _ hC hM hR1 (lv_sub hl [2, 3, 4, 5, 6] rfl) (by omega) (by omega)
  · refine lv_aload_n hx hb dL_law_1289 rfl (lv_at hl 5 rfl) ?_
    refine lv_iconst (v := 0) hx hb dL_law_1290 (by decide) ?_
    refine x_lald B hC dL_law_1291 ?_
    refine lv_iload hx hb dL_law_1292 (lv_at hl 0 rfl) ?_
    refine lv_i2l hx hb dL_law_1294 rfl ?_
    refine lv_lcmp hx hb dL_law_1295 ?_
    refine lv_if_eq (tgt := 1301) hx hb dL_law_1296 (by decide) (fun c3 => ?_) (fun c3 => absurd (lcmp_self (by rw [hout c2])) c3)
    refine lv_goto (tgt := 1359) hx hb dL_law_1301 (by decide) ?_
    exact hk _ _ _ _ _ _ _ hC hM hR1 (lv_sub hl [2, 3, 4, 5, 6] rfl) (by omega) (by omega)
set_option maxRecDepth 20000 in
theorem lwc_paidShare (B : Cx p m c code 9 s #[Value.ref b] lw_tbl RL meth ret D) (hl0 : l.stackTraces = false) (hE : nv V A s s.heap) (hN : NcT s) (hX : va_X b L xs s s.heap) (hbl : b < s.heap.size) (hbA : ¬ A b) (hL : L ≤ 2048) (hap : ∀ i j, i < 158 → j < 7 → ad i ≠ ad2 j) (hi : i + 4 ≤ L) (hC : Wd D 158 (cC D ad) ad A s.heap S H locs) (hM : Wd D 7 (cM D ad2) ad2 A s.heap T H locs) (hR : RR S T) (hl : lv_has ls 9 (lwl b ad ad2 i)) (hc : cells + 3 ≤ 601024) (hs : slots + 18 ≤ 7293034) (hk : ∀ (S1 T1 : vS) (H1 : Heap) (locs1 : List Loc) (cells1 slots1 : Nat) (ls1 : Array Slot), Wd D 158 (cC D ad) ad A s.heap S1 H1 locs1 → Wd D 7 (cM D ad2) ad2 A s.heap T1 H1 locs1 → RR S1 T1 → lv_has ls1 9 (lwl b ad ad2 i) → cells1 ≤ cells + 3 → slots1 ≤ slots + 18 → W p l e room_1 s m #[Value.ref b] below meth c H1 locs1 cells1 slots1 Q (F0 m 1359 ls1 [])) : W p l e room_1 s m #[Value.ref b] below meth c H locs cells slots Q (F0 m 1304 ls []) := by
  have hx := B.1.1
  have hb := B.1.2.1
  have hp := rr_pre hR
  have hap2 : ∀ i j, i < 7 → j < 158 → ad2 i ≠ ad j := fun i j a q z => hap j i q a z.symm
  have hl : lv_has ls 9 [(0, .ref b), (1, .ref (ad jO)), (2, .ref (ad2 0)), (3, .ref (ad oL)), (4, .int (nI i))] := hl
  refine lv_aload_n hx hb dL_law_1304 rfl (lv_at hl 1 rfl) ?_
  refine w_calld hC hM hap (x_runV B hC (As := []) (rest := []) hqj cC_j cls4 (c_X4_paidShare (D := D) (ad := ad) l _ S) (cwV 0 B.1.2.2.2.2 gL_law_X4_paidShare rfl rfl rfl hd_X4_paidShare ⟨Nat.le_of_ble_eq_true rfl, Nat.le_of_ble_eq_true rfl⟩) rfl hl.1 (Nat.le_of_ble_eq_true rfl) dL_law_1305 ⟨by show _ ≤ 601024; omega, by show _ ≤ 7293034; omega⟩) (fun v S1 H locs hv hC hM => ?_)
  have ce := op_paidShare hR
  refine lv_dstore (lv' := [(5, .double v), (0, .ref b), (1, .ref (ad jO)), (2, .ref (ad2 0)), (3, .ref (ad oL)), (4, .int (nI i))]) hx hb dL_law_1308 hl (by decide) rfl (fun ls hl => ?_)
  refine lv_aload_n hx hb dL_law_1310 rfl (lv_at hl 3 rfl) ?_
  refine w_calld hM hC hap2 (x_runV B hM (As := []) (rest := []) (q := 0) (by decide) cM_o cls5 (c_X5_paidShare (D := D) (ad := ad2) l _ T) (cwV 0 B.1.2.2.2.2 gL_law_X5_paidShare rfl rfl rfl hd_X5_paidShare ⟨Nat.le_of_ble_eq_true rfl, Nat.le_of_ble_eq_true rfl⟩) rfl hl.1 (Nat.le_of_ble_eq_true rfl) dL_law_1311 ⟨by show _ ≤ 601024; omega, by show _ ≤ 7293034; omega⟩) (fun r T1 H locs hr hM hC => ?_)
  refine lv_dstore (lv' := [(7, .double r), (5, .double v), (0, .ref b), (1, .ref (ad jO)), (2, .ref (ad2 0)), (3, .ref (ad oL)), (4, .int (nI i))]) hx hb dL_law_1314 hl (by decide) rfl (fun ls hl => ?_)
  obtain ⟨hv, hS1⟩ := hv
  rw [hS1] at hC
  rw [← hr] at ce
  have hvr : r = v := ce.1.trans hv.symm
  have hsh : shN v := by rw [hv]; exact (share_rr hR).2
  subst hvr
  refine lv_dload hx hb dL_law_1316 (lv_at hl 1 rfl) ?_
  refine lv_dload hx hb dL_law_1318 (lv_at hl 0 rfl) ?_
  refine lv_dcmp hx hb dL_law_1320 ?_
  refine lv_if_eq (tgt := 1342) hx hb dL_law_1321 (by decide) (fun c3 => ?_) (fun c3 => absurd (nan_no hsh) c3)
  refine lv_goto (tgt := 1359) hx hb dL_law_1342 (by decide) ?_
  exact hk _ _ _ _ _ _ _ hC hM ce.2.2 (lv_sub hl [2, 3, 4, 5, 6] rfl) (by omega) (by omega)
set_option maxRecDepth 20000 in
theorem lwc_digest (B : Cx p m c code 9 s #[Value.ref b] lw_tbl RL meth ret D) (hl0 : l.stackTraces = false) (hE : nv V A s s.heap) (hN : NcT s) (hX : va_X b L xs s s.heap) (hbl : b < s.heap.size) (hbA : ¬ A b) (hL : L ≤ 2048) (hap : ∀ i j, i < 158 → j < 7 → ad i ≠ ad2 j) (hi : i + 4 ≤ L) (hC : Wd D 158 (cC D ad) ad A s.heap S H locs) (hM : Wd D 7 (cM D ad2) ad2 A s.heap T H locs) (hR : RR S T) (hl : lv_has ls 9 (lwl b ad ad2 i)) (hc : cells + 3 ≤ 601024) (hs : slots + 18 ≤ 7293034) (hk : ∀ (S1 T1 : vS) (H1 : Heap) (locs1 : List Loc) (cells1 slots1 : Nat) (ls1 : Array Slot), Wd D 158 (cC D ad) ad A s.heap S1 H1 locs1 → Wd D 7 (cM D ad2) ad2 A s.heap T1 H1 locs1 → RR S1 T1 → lv_has ls1 9 (lwl b ad ad2 i) → cells1 ≤ cells + 3 → slots1 ≤ slots + 18 → W p l e room_1 s m #[Value.ref b] below meth c H1 locs1 cells1 slots1 Q (F0 m 1359 ls1 [])) : W p l e room_1 s m #[Value.ref b] below meth c H locs cells slots Q (F0 m 1345 ls []) := by
  have hx := B.1.1
  have hb := B.1.2.1
  have hp := rr_pre hR
  have hap2 : ∀ i j, i < 7 → j < 158 → ad2 i ≠ ad j := fun i j a q z => hap j i q a z.symm
  have hl : lv_has ls 9 [(0, .ref b), (1, .ref (ad jO)), (2, .ref (ad2 0)), (3, .ref (ad oL)), (4, .int (nI i))] := hl
  refine lv_aload_n hx hb dL_law_1345 rfl (lv_at hl 1 rfl) ?_
  refine w_calll hC hM hap (x_runV B hC (As := []) (rest := []) hqj cC_j cls4 (c_X4_digest (D := D) (ad := ad) l _ S (share_rr hR).2) (cwV 0 B.1.2.2.2.2 gL_law_X4_digest rfl rfl rfl hd_X4_digest ⟨Nat.le_of_ble_eq_true rfl, Nat.le_of_ble_eq_true rfl⟩) rfl hl.1 (Nat.le_of_ble_eq_true rfl) dL_law_1346 ⟨by show _ ≤ 601024; omega, by show _ ≤ 7293034; omega⟩) (fun v S1 H locs hv hC hM => ?_)
  have ce := op_digest hR
  refine lv_aload_n hx hb dL_law_1349 rfl (lv_at hl 2 rfl) ?_
  refine w_calll hM hC hap2 (x_runV B hM (As := []) (rest := [.long v]) (q := 0) (by decide) cM_o cls5 (c_X5_digest (D := D) (ad := ad2) l _ T hp.2.2.1 hp.2.2.2.1 hp.2.2.2.2) (cwV 0 B.1.2.2.2.2 gL_law_X5_digest rfl rfl rfl hd_X5_digest ⟨Nat.le_of_ble_eq_true rfl, Nat.le_of_ble_eq_true rfl⟩) rfl hl.1 (Nat.le_of_ble_eq_true rfl) dL_law_1350 ⟨by show _ ≤ 601024; omega, by show _ ≤ 7293034; omega⟩) (fun r T1 H locs hr hM hC => ?_)
  rw [← hr, ← hv] at ce
  refine lv_lcmp hx hb dL_law_1353 ?_
  refine lv_if_eq (tgt := 1359) hx hb dL_law_1354 (by decide) (fun c3 => ?_) (fun c3 => absurd (lcmp_self ce.1.symm) c3)
  exact hk _ _ _ _ _ _ _ hC hM ce.2.1 hl (by omega) (by omega)
end LAWC3
