section LAWC0
/-- the law's locals at its loop -/
def lwl (b : Nat) (ad ad2 : Nat → Nat) (i : Nat) : List (Nat × Value) := [(0, .ref b), (1, .ref (ad jO)), (2, .ref (ad2 0)), (3, .ref (ad oL)), (4, .int (nI i))]
variable {p : Program} {l : Launch} {e : Env} {s : State} {m : MethodId} {b : Nat} {below : List Frame} {meth : Method} {c : Code} {H : Heap} {locs : List Loc} {cells slots : Nat} {Q : State → Prop}
variable {D : va_G} {ad ad2 : Nat → Nat} {A : Nat → Prop} {S T : vS} {V : vE} {L i : Nat} {xs : Nat → Int32} {ls : Array Slot}
set_option maxRecDepth 20000 in
theorem lwc_join (B : Cx p m c code 9 s #[Value.ref b] lw_tbl RL meth ret D) (hl0 : l.stackTraces = false) (hE : nv V A s s.heap) (hN : NcT s) (hX : va_X b L xs s s.heap) (hbl : b < s.heap.size) (hbA : ¬ A b) (hL : L ≤ 2048) (hap : ∀ i j, i < 158 → j < 7 → ad i ≠ ad2 j) (hi : i + 4 ≤ L) (hC : Wd D 158 (cC D ad) ad A s.heap S H locs) (hM : Wd D 7 (cM D ad2) ad2 A s.heap T H locs) (hR : RR S T) (hl : lv_has ls 9 (lwl b ad ad2 i)) (hc : cells + 3 ≤ 601024) (hs : slots + 18 ≤ 7293034) (hk : ∀ (S1 T1 : vS) (H1 : Heap) (locs1 : List Loc) (cells1 slots1 : Nat) (ls1 : Array Slot), Wd D 158 (cC D ad) ad A s.heap S1 H1 locs1 → Wd D 7 (cM D ad2) ad2 A s.heap T1 H1 locs1 → RR S1 T1 → lv_has ls1 9 (lwl b ad ad2 i) → cells1 ≤ cells + 3 → slots1 ≤ slots + 18 → W p l e room_1 s m #[Value.ref b] below meth c H1 locs1 cells1 slots1 Q (F0 m 1359 ls1 [])) : W p l e room_1 s m #[Value.ref b] below meth c H locs cells slots Q (F0 m 152 ls []) := by
  have hx := B.1.1
  have hb := B.1.2.1
  have hp := rr_pre hR
  have hap2 : ∀ i j, i < 7 → j < 158 → ad2 i ≠ ad j := fun i j a q z => hap j i q a z.symm
  have hl : lv_has ls 9 [(0, .ref b), (1, .ref (ad jO)), (2, .ref (ad2 0)), (3, .ref (ad oL)), (4, .int (nI i))] := hl
  refine lv_aload_n hx hb dL_law_152 rfl (lv_at hl 1 rfl) ?_
  refine lv_aload_n hx hb dL_law_153 rfl (lv_at hl 3 rfl) ?_
  refine w_hcall B hC hM hap hE hN (As := [.ref (ad jO), .ref (ad oL)]) (rest := []) (h_L_join (D := D) (ad := ad) (V := V) l _ hl0 S) (vx_cwSW 2 B.1.2.2.2.2 gL_law_L_join rfl rfl rfl hd_L_join.2 ⟨Nat.le_of_ble_eq_true rfl, Nat.le_of_ble_eq_true rfl⟩) rfl hl.1 (Nat.le_of_ble_eq_true rfl) dL_law_154 ⟨by show _ ≤ 601024; omega, by show _ ≤ 7293034; omega⟩ (fun k S1 H locs hk1 hC hM => ?_)
  refine lv_istore (lv' := [(5, .int k), (0, .ref b), (1, .ref (ad jO)), (2, .ref (ad2 0)), (3, .ref (ad oL)), (4, .int (nI i))]) hx hb dL_law_157 hl (by decide) rfl (fun ls hl => ?_)
  refine lv_aload_n hx hb dL_law_159 rfl (lv_at hl 3 rfl) ?_
  refine w_calli hM hC hap2 (x_runV B hM (As := []) (rest := []) (q := 0) (by decide) cM_o cls5 (c_X5_join (D := D) (ad := ad2) l _ T hp.1 hp.2.1) (cwV 0 B.1.2.2.2.2 gL_law_X5_join rfl rfl rfl hd_X5_join ⟨Nat.le_of_ble_eq_true rfl, Nat.le_of_ble_eq_true rfl⟩) rfl hl.1 (Nat.le_of_ble_eq_true rfl) dL_law_160 ⟨by show _ ≤ 601024; omega, by show _ ≤ 7293034; omega⟩) (fun r T1 H locs hr hM hC => ?_)
  refine lv_istore (lv' := [(6, .int r), (5, .int k), (0, .ref b), (1, .ref (ad jO)), (2, .ref (ad2 0)), (3, .ref (ad oL)), (4, .int (nI i))]) hx hb dL_law_163 hl (by decide) rfl (fun ls hl => ?_)
  have ce := op_join hR
  rw [← hr] at ce
  obtain ⟨hR1, h6, hout⟩ := hL_ce mp_01 rfl hk1 ce
  refine lv_aload_n hx hb dL_law_165 rfl (lv_at hl 4 rfl) ?_
  refine w_calli hM hC hap2 (x_runV B hM (As := []) (rest := []) (q := 0) (by decide) cM_o cls5 (c_X5_thrown (D := D) (ad := ad2) l _ T1) (cwV 0 B.1.2.2.2.2 gL_law_X5_thrown rfl rfl rfl hd_X5_thrown ⟨Nat.le_of_ble_eq_true rfl, Nat.le_of_ble_eq_true rfl⟩) rfl hl.1 (Nat.le_of_ble_eq_true rfl) dL_law_166 ⟨by show _ ≤ 601024; omega, by show _ ≤ 7293034; omega⟩) (fun r2 T2 H locs hr2 hM hC => ?_)
  obtain ⟨hr2, hT2⟩ := hr2
  rw [hT2] at hM
  refine lv_iload hx hb dL_law_169 (lv_at hl 1 rfl) ?_
  refine lv_icmp_eq (tgt := 176) hx hb dL_law_171 (by decide) (fun c1 => ?_) (fun c1 => absurd (hr2.trans h6) c1)
  refine lv_iload hx hb dL_law_176 (lv_at hl 1 rfl) ?_
  refine lv_if_ne (tgt := 193) hx hb dL_law_178 (by decide) (fun c2 => ?_) (fun c2 => ?_)
  · refine lv_goto (tgt := 1359) hx hb dL_law_193 (by decide) ?_
    exact hk _ _ _ _ _ _ _ hC hM hR1 (lv_sub hl [2, 3, 4, 5, 6] rfl) (by omega) (by omega)
  · refine lv_aload_n hx hb dL_law_181 rfl (lv_at hl 5 rfl) ?_
    refine lv_iconst (v := 0) hx hb dL_law_182 (by decide) ?_
    refine x_lald B hC dL_law_183 ?_
    refine lv_iload hx hb dL_law_184 (lv_at hl 0 rfl) ?_
    refine lv_i2l hx hb dL_law_186 rfl ?_
    refine lv_lcmp hx hb dL_law_187 ?_
    refine lv_if_eq (tgt := 193) hx hb dL_law_188 (by decide) (fun c3 => ?_) (fun c3 => absurd (lcmp_self (by rw [hout c2])) c3)
    refine lv_goto (tgt := 1359) hx hb dL_law_193 (by decide) ?_
    exact hk _ _ _ _ _ _ _ hC hM hR1 (lv_sub hl [2, 3, 4, 5, 6] rfl) (by omega) (by omega)
set_option maxRecDepth 20000 in
theorem lwc_leave (B : Cx p m c code 9 s #[Value.ref b] lw_tbl RL meth ret D) (hl0 : l.stackTraces = false) (hE : nv V A s s.heap) (hN : NcT s) (hX : va_X b L xs s s.heap) (hbl : b < s.heap.size) (hbA : ¬ A b) (hL : L ≤ 2048) (hap : ∀ i j, i < 158 → j < 7 → ad i ≠ ad2 j) (hi : i + 4 ≤ L) (hC : Wd D 158 (cC D ad) ad A s.heap S H locs) (hM : Wd D 7 (cM D ad2) ad2 A s.heap T H locs) (hR : RR S T) (hl : lv_has ls 9 (lwl b ad ad2 i)) (hc : cells + 3 ≤ 601024) (hs : slots + 18 ≤ 7293034) (hk : ∀ (S1 T1 : vS) (H1 : Heap) (locs1 : List Loc) (cells1 slots1 : Nat) (ls1 : Array Slot), Wd D 158 (cC D ad) ad A s.heap S1 H1 locs1 → Wd D 7 (cM D ad2) ad2 A s.heap T1 H1 locs1 → RR S1 T1 → lv_has ls1 9 (lwl b ad ad2 i) → cells1 ≤ cells + 3 → slots1 ≤ slots + 18 → W p l e room_1 s m #[Value.ref b] below meth c H1 locs1 cells1 slots1 Q (F0 m 1359 ls1 [])) : W p l e room_1 s m #[Value.ref b] below meth c H locs cells slots Q (F0 m 196 ls []) := by
  have hx := B.1.1
  have hb := B.1.2.1
  have hp := rr_pre hR
  have hap2 : ∀ i j, i < 7 → j < 158 → ad2 i ≠ ad j := fun i j a q z => hap j i q a z.symm
  have hl : lv_has ls 9 [(0, .ref b), (1, .ref (ad jO)), (2, .ref (ad2 0)), (3, .ref (ad oL)), (4, .int (nI i))] := hl
  refine lv_aload_n hx hb dL_law_196 rfl (lv_at hl 1 rfl) ?_
  refine lv_aload_n hx hb dL_law_197 rfl (lv_at hl 0 rfl) ?_
  refine lv_iload hx hb dL_law_198 (lv_at hl 4 rfl) ?_
  refine lv_iconst (v := 1) hx hb dL_law_200 (by decide) ?_
  refine lv_iadd hx hb dL_law_201 ?_
  refine va_sld hx hb hX hbl hbA hC.2.2.1 (sc_in (j := 1) hi hL (by decide)) dL_law_202 ?_
  refine lv_aload_n hx hb dL_law_203 rfl (lv_at hl 3 rfl) ?_
  refine w_hcall B hC hM hap hE hN (As := [.ref (ad jO), .int (xs (nI i + 1).toNatClampNeg), .ref (ad oL)]) (rest := []) (h_L_leave (D := D) (ad := ad) (V := V) l _ hl0 S (xs (nI i + 1).toNatClampNeg)) (vx_cwSW 3 B.1.2.2.2.2 gL_law_L_leave rfl rfl rfl hd_L_leave.2 ⟨Nat.le_of_ble_eq_true rfl, Nat.le_of_ble_eq_true rfl⟩) rfl hl.1 (Nat.le_of_ble_eq_true rfl) dL_law_204 ⟨by show _ ≤ 601024; omega, by show _ ≤ 7293034; omega⟩ (fun k S1 H locs hk1 hC hM => ?_)
  refine lv_istore (lv' := [(5, .int k), (0, .ref b), (1, .ref (ad jO)), (2, .ref (ad2 0)), (3, .ref (ad oL)), (4, .int (nI i))]) hx hb dL_law_207 hl (by decide) rfl (fun ls hl => ?_)
  refine lv_aload_n hx hb dL_law_209 rfl (lv_at hl 3 rfl) ?_
  refine lv_aload_n hx hb dL_law_210 rfl (lv_at hl 1 rfl) ?_
  refine lv_iload hx hb dL_law_211 (lv_at hl 5 rfl) ?_
  refine lv_iconst (v := 1) hx hb dL_law_213 (by decide) ?_
  refine lv_iadd hx hb dL_law_214 ?_
  refine va_sld hx hb hX hbl hbA hM.2.2.1 (sc_in (j := 1) hi hL (by decide)) dL_law_215 ?_
  refine w_calli hM hC hap2 (x_runV B hM (As := [.int (xs (nI i + 1).toNatClampNeg)]) (rest := []) (q := 0) (by decide) cM_o cls5 (c_X5_leave (D := D) (ad := ad2) l _ T (xs (nI i + 1).toNatClampNeg) hp.1) (cwV 1 B.1.2.2.2.2 gL_law_X5_leave rfl rfl rfl hd_X5_leave ⟨Nat.le_of_ble_eq_true rfl, Nat.le_of_ble_eq_true rfl⟩) rfl hl.1 (Nat.le_of_ble_eq_true rfl) dL_law_216 ⟨by show _ ≤ 601024; omega, by show _ ≤ 7293034; omega⟩) (fun r T1 H locs hr hM hC => ?_)
  refine lv_istore (lv' := [(6, .int r), (5, .int k), (0, .ref b), (1, .ref (ad jO)), (2, .ref (ad2 0)), (3, .ref (ad oL)), (4, .int (nI i))]) hx hb dL_law_219 hl (by decide) rfl (fun ls hl => ?_)
  have ce := op_leave hR (xs (nI i + 1).toNatClampNeg)
  rw [← hr] at ce
  obtain ⟨hR1, h6, hout⟩ := hL_ce mp_le rfl hk1 ce
  refine lv_aload_n hx hb dL_law_221 rfl (lv_at hl 4 rfl) ?_
  refine w_calli hM hC hap2 (x_runV B hM (As := []) (rest := []) (q := 0) (by decide) cM_o cls5 (c_X5_thrown (D := D) (ad := ad2) l _ T1) (cwV 0 B.1.2.2.2.2 gL_law_X5_thrown rfl rfl rfl hd_X5_thrown ⟨Nat.le_of_ble_eq_true rfl, Nat.le_of_ble_eq_true rfl⟩) rfl hl.1 (Nat.le_of_ble_eq_true rfl) dL_law_222 ⟨by show _ ≤ 601024; omega, by show _ ≤ 7293034; omega⟩) (fun r2 T2 H locs hr2 hM hC => ?_)
  obtain ⟨hr2, hT2⟩ := hr2
  rw [hT2] at hM
  refine lv_iload hx hb dL_law_225 (lv_at hl 1 rfl) ?_
  refine lv_icmp_eq (tgt := 232) hx hb dL_law_227 (by decide) (fun c1 => ?_) (fun c1 => absurd (hr2.trans h6) c1)
  refine lv_iload hx hb dL_law_232 (lv_at hl 1 rfl) ?_
  refine lv_if_ne (tgt := 249) hx hb dL_law_234 (by decide) (fun c2 => ?_) (fun c2 => ?_)
  · refine lv_goto (tgt := 1359) hx hb dL_law_249 (by decide) ?_
    exact hk _ _ _ _ _ _ _ hC hM hR1 (lv_sub hl [2, 3, 4, 5, 6] rfl) (by omega) (by omega)
  · refine lv_aload_n hx hb dL_law_237 rfl (lv_at hl 5 rfl) ?_
    refine lv_iconst (v := 0) hx hb dL_law_238 (by decide) ?_
    refine x_lald B hC dL_law_239 ?_
    refine lv_iload hx hb dL_law_240 (lv_at hl 0 rfl) ?_
    refine lv_i2l hx hb dL_law_242 rfl ?_
    refine lv_lcmp hx hb dL_law_243 ?_
    refine lv_if_eq (tgt := 249) hx hb dL_law_244 (by decide) (fun c3 => ?_) (fun c3 => absurd (lcmp_self (by rw [hout c2])) c3)
    refine lv_goto (tgt := 1359) hx hb dL_law_249 (by decide) ?_
    exact hk _ _ _ _ _ _ _ hC hM hR1 (lv_sub hl [2, 3, 4, 5, 6] rfl) (by omega) (by omega)
set_option maxRecDepth 20000 in
theorem lwc_lend (B : Cx p m c code 9 s #[Value.ref b] lw_tbl RL meth ret D) (hl0 : l.stackTraces = false) (hE : nv V A s s.heap) (hN : NcT s) (hX : va_X b L xs s s.heap) (hbl : b < s.heap.size) (hbA : ¬ A b) (hL : L ≤ 2048) (hap : ∀ i j, i < 158 → j < 7 → ad i ≠ ad2 j) (hi : i + 4 ≤ L) (hC : Wd D 158 (cC D ad) ad A s.heap S H locs) (hM : Wd D 7 (cM D ad2) ad2 A s.heap T H locs) (hR : RR S T) (hl : lv_has ls 9 (lwl b ad ad2 i)) (hc : cells + 3 ≤ 601024) (hs : slots + 18 ≤ 7293034) (hk : ∀ (S1 T1 : vS) (H1 : Heap) (locs1 : List Loc) (cells1 slots1 : Nat) (ls1 : Array Slot), Wd D 158 (cC D ad) ad A s.heap S1 H1 locs1 → Wd D 7 (cM D ad2) ad2 A s.heap T1 H1 locs1 → RR S1 T1 → lv_has ls1 9 (lwl b ad ad2 i) → cells1 ≤ cells + 3 → slots1 ≤ slots + 18 → W p l e room_1 s m #[Value.ref b] below meth c H1 locs1 cells1 slots1 Q (F0 m 1359 ls1 [])) : W p l e room_1 s m #[Value.ref b] below meth c H locs cells slots Q (F0 m 252 ls []) := by
  have hx := B.1.1
  have hb := B.1.2.1
  have hp := rr_pre hR
  have hap2 : ∀ i j, i < 7 → j < 158 → ad2 i ≠ ad j := fun i j a q z => hap j i q a z.symm
  have hl : lv_has ls 9 [(0, .ref b), (1, .ref (ad jO)), (2, .ref (ad2 0)), (3, .ref (ad oL)), (4, .int (nI i))] := hl
  refine lv_aload_n hx hb dL_law_252 rfl (lv_at hl 1 rfl) ?_
  refine lv_aload_n hx hb dL_law_253 rfl (lv_at hl 0 rfl) ?_
  refine lv_iload hx hb dL_law_254 (lv_at hl 4 rfl) ?_
  refine lv_iconst (v := 1) hx hb dL_law_256 (by decide) ?_
  refine lv_iadd hx hb dL_law_257 ?_
  refine va_sld hx hb hX hbl hbA hC.2.2.1 (sc_in (j := 1) hi hL (by decide)) dL_law_258 ?_
  refine lv_aload_n hx hb dL_law_259 rfl (lv_at hl 0 rfl) ?_
  refine lv_iload hx hb dL_law_260 (lv_at hl 4 rfl) ?_
  refine lv_iconst (v := 2) hx hb dL_law_262 (by decide) ?_
  refine lv_iadd hx hb dL_law_263 ?_
  refine va_sld hx hb hX hbl hbA hC.2.2.1 (sc_in (j := 2) hi hL (by decide)) dL_law_264 ?_
  refine lv_aload_n hx hb dL_law_265 rfl (lv_at hl 0 rfl) ?_
  refine lv_iload hx hb dL_law_266 (lv_at hl 4 rfl) ?_
  refine lv_iconst (v := 3) hx hb dL_law_268 (by decide) ?_
  refine lv_iadd hx hb dL_law_269 ?_
  refine va_sld hx hb hX hbl hbA hC.2.2.1 (sc_in (j := 3) hi hL (by decide)) dL_law_270 ?_
  refine lv_aload_n hx hb dL_law_271 rfl (lv_at hl 3 rfl) ?_
  refine w_hcall B hC hM hap hE hN (As := [.ref (ad jO), .int (xs (nI i + 1).toNatClampNeg), .int (xs (nI i + 2).toNatClampNeg), .int (xs (nI i + 3).toNatClampNeg), .ref (ad oL)]) (rest := []) (h_L_lend (D := D) (ad := ad) (V := V) l _ hl0 S (xs (nI i + 1).toNatClampNeg) (xs (nI i + 2).toNatClampNeg) (xs (nI i + 3).toNatClampNeg)) (vx_cwSW 5 B.1.2.2.2.2 gL_law_L_lend rfl rfl rfl hd_L_lend.2 ⟨Nat.le_of_ble_eq_true rfl, Nat.le_of_ble_eq_true rfl⟩) rfl hl.1 (Nat.le_of_ble_eq_true rfl) dL_law_272 ⟨by show _ ≤ 601024; omega, by show _ ≤ 7293034; omega⟩ (fun k S1 H locs hk1 hC hM => ?_)
  refine lv_istore (lv' := [(5, .int k), (0, .ref b), (1, .ref (ad jO)), (2, .ref (ad2 0)), (3, .ref (ad oL)), (4, .int (nI i))]) hx hb dL_law_275 hl (by decide) rfl (fun ls hl => ?_)
  refine lv_aload_n hx hb dL_law_277 rfl (lv_at hl 3 rfl) ?_
  refine lv_aload_n hx hb dL_law_278 rfl (lv_at hl 1 rfl) ?_
  refine lv_iload hx hb dL_law_279 (lv_at hl 5 rfl) ?_
  refine lv_iconst (v := 1) hx hb dL_law_281 (by decide) ?_
  refine lv_iadd hx hb dL_law_282 ?_
  refine va_sld hx hb hX hbl hbA hM.2.2.1 (sc_in (j := 1) hi hL (by decide)) dL_law_283 ?_
  refine lv_aload_n hx hb dL_law_284 rfl (lv_at hl 1 rfl) ?_
  refine lv_iload hx hb dL_law_285 (lv_at hl 5 rfl) ?_
  refine lv_iconst (v := 2) hx hb dL_law_287 (by decide) ?_
  refine lv_iadd hx hb dL_law_288 ?_
  refine va_sld hx hb hX hbl hbA hM.2.2.1 (sc_in (j := 2) hi hL (by decide)) dL_law_289 ?_
  refine lv_aload_n hx hb dL_law_290 rfl (lv_at hl 1 rfl) ?_
  refine lv_iload hx hb dL_law_291 (lv_at hl 5 rfl) ?_
  refine lv_iconst (v := 3) hx hb dL_law_293 (by decide) ?_
  refine lv_iadd hx hb dL_law_294 ?_
  refine va_sld hx hb hX hbl hbA hM.2.2.1 (sc_in (j := 3) hi hL (by decide)) dL_law_295 ?_
  refine w_calli hM hC hap2 (x_runV B hM (As := [.int (xs (nI i + 1).toNatClampNeg), .int (xs (nI i + 2).toNatClampNeg), .int (xs (nI i + 3).toNatClampNeg)]) (rest := []) (q := 0) (by decide) cM_o cls5 (c_X5_lend (D := D) (ad := ad2) l _ T (xs (nI i + 1).toNatClampNeg) (xs (nI i + 2).toNatClampNeg) (xs (nI i + 3).toNatClampNeg) hp.1) (cwV 3 B.1.2.2.2.2 gL_law_X5_lend rfl rfl rfl hd_X5_lend ⟨Nat.le_of_ble_eq_true rfl, Nat.le_of_ble_eq_true rfl⟩) rfl hl.1 (Nat.le_of_ble_eq_true rfl) dL_law_296 ⟨by show _ ≤ 601024; omega, by show _ ≤ 7293034; omega⟩) (fun r T1 H locs hr hM hC => ?_)
  refine lv_istore (lv' := [(6, .int r), (5, .int k), (0, .ref b), (1, .ref (ad jO)), (2, .ref (ad2 0)), (3, .ref (ad oL)), (4, .int (nI i))]) hx hb dL_law_299 hl (by decide) rfl (fun ls hl => ?_)
  have ce := op_lend hR (xs (nI i + 1).toNatClampNeg) (xs (nI i + 2).toNatClampNeg) (xs (nI i + 3).toNatClampNeg)
  rw [← hr] at ce
  obtain ⟨hR1, h6, hout⟩ := hL_ce mp_3 rfl hk1 ce
  refine lv_aload_n hx hb dL_law_301 rfl (lv_at hl 4 rfl) ?_
  refine w_calli hM hC hap2 (x_runV B hM (As := []) (rest := []) (q := 0) (by decide) cM_o cls5 (c_X5_thrown (D := D) (ad := ad2) l _ T1) (cwV 0 B.1.2.2.2.2 gL_law_X5_thrown rfl rfl rfl hd_X5_thrown ⟨Nat.le_of_ble_eq_true rfl, Nat.le_of_ble_eq_true rfl⟩) rfl hl.1 (Nat.le_of_ble_eq_true rfl) dL_law_302 ⟨by show _ ≤ 601024; omega, by show _ ≤ 7293034; omega⟩) (fun r2 T2 H locs hr2 hM hC => ?_)
  obtain ⟨hr2, hT2⟩ := hr2
  rw [hT2] at hM
  refine lv_iload hx hb dL_law_305 (lv_at hl 1 rfl) ?_
  refine lv_icmp_eq (tgt := 312) hx hb dL_law_307 (by decide) (fun c1 => ?_) (fun c1 => absurd (hr2.trans h6) c1)
  refine lv_iload hx hb dL_law_312 (lv_at hl 1 rfl) ?_
  refine lv_if_ne (tgt := 329) hx hb dL_law_314 (by decide) (fun c2 => ?_) (fun c2 => ?_)
  · refine lv_goto (tgt := 1359) hx hb dL_law_329 (by decide) ?_
    exact hk _ _ _ _ _ _ _ hC hM hR1 (lv_sub hl [2, 3, 4, 5, 6] rfl) (by omega) (by omega)
  · refine lv_aload_n hx hb dL_law_317 rfl (lv_at hl 5 rfl) ?_
    refine lv_iconst (v := 0) hx hb dL_law_318 (by decide) ?_
    refine x_lald B hC dL_law_319 ?_
    refine lv_iload hx hb dL_law_320 (lv_at hl 0 rfl) ?_
    refine lv_i2l hx hb dL_law_322 rfl ?_
    refine lv_lcmp hx hb dL_law_323 ?_
    refine lv_if_eq (tgt := 329) hx hb dL_law_324 (by decide) (fun c3 => ?_) (fun c3 => absurd (lcmp_self (by rw [hout c2])) c3)
    refine lv_goto (tgt := 1359) hx hb dL_law_329 (by decide) ?_
    exact hk _ _ _ _ _ _ _ hC hM hR1 (lv_sub hl [2, 3, 4, 5, 6] rfl) (by omega) (by omega)
set_option maxRecDepth 20000 in
theorem lwc_absent (B : Cx p m c code 9 s #[Value.ref b] lw_tbl RL meth ret D) (hl0 : l.stackTraces = false) (hE : nv V A s s.heap) (hN : NcT s) (hX : va_X b L xs s s.heap) (hbl : b < s.heap.size) (hbA : ¬ A b) (hL : L ≤ 2048) (hap : ∀ i j, i < 158 → j < 7 → ad i ≠ ad2 j) (hi : i + 4 ≤ L) (hC : Wd D 158 (cC D ad) ad A s.heap S H locs) (hM : Wd D 7 (cM D ad2) ad2 A s.heap T H locs) (hR : RR S T) (hl : lv_has ls 9 (lwl b ad ad2 i)) (hc : cells + 3 ≤ 601024) (hs : slots + 18 ≤ 7293034) (hk : ∀ (S1 T1 : vS) (H1 : Heap) (locs1 : List Loc) (cells1 slots1 : Nat) (ls1 : Array Slot), Wd D 158 (cC D ad) ad A s.heap S1 H1 locs1 → Wd D 7 (cM D ad2) ad2 A s.heap T1 H1 locs1 → RR S1 T1 → lv_has ls1 9 (lwl b ad ad2 i) → cells1 ≤ cells + 3 → slots1 ≤ slots + 18 → W p l e room_1 s m #[Value.ref b] below meth c H1 locs1 cells1 slots1 Q (F0 m 1359 ls1 [])) : W p l e room_1 s m #[Value.ref b] below meth c H locs cells slots Q (F0 m 332 ls []) := by
  have hx := B.1.1
  have hb := B.1.2.1
  have hp := rr_pre hR
  have hap2 : ∀ i j, i < 7 → j < 158 → ad2 i ≠ ad j := fun i j a q z => hap j i q a z.symm
  have hl : lv_has ls 9 [(0, .ref b), (1, .ref (ad jO)), (2, .ref (ad2 0)), (3, .ref (ad oL)), (4, .int (nI i))] := hl
  refine lv_aload_n hx hb dL_law_332 rfl (lv_at hl 1 rfl) ?_
  refine lv_aload_n hx hb dL_law_333 rfl (lv_at hl 0 rfl) ?_
  refine lv_iload hx hb dL_law_334 (lv_at hl 4 rfl) ?_
  refine lv_iconst (v := 1) hx hb dL_law_336 (by decide) ?_
  refine lv_iadd hx hb dL_law_337 ?_
  refine va_sld hx hb hX hbl hbA hC.2.2.1 (sc_in (j := 1) hi hL (by decide)) dL_law_338 ?_
  refine lv_aload_n hx hb dL_law_339 rfl (lv_at hl 3 rfl) ?_
  refine w_hcall B hC hM hap hE hN (As := [.ref (ad jO), .int (xs (nI i + 1).toNatClampNeg), .ref (ad oL)]) (rest := []) (h_L_absent (D := D) (ad := ad) (V := V) l _ hl0 S (xs (nI i + 1).toNatClampNeg)) (vx_cwSW 3 B.1.2.2.2.2 gL_law_L_absent rfl rfl rfl hd_L_absent.2 ⟨Nat.le_of_ble_eq_true rfl, Nat.le_of_ble_eq_true rfl⟩) rfl hl.1 (Nat.le_of_ble_eq_true rfl) dL_law_340 ⟨by show _ ≤ 601024; omega, by show _ ≤ 7293034; omega⟩ (fun k S1 H locs hk1 hC hM => ?_)
  refine lv_istore (lv' := [(5, .int k), (0, .ref b), (1, .ref (ad jO)), (2, .ref (ad2 0)), (3, .ref (ad oL)), (4, .int (nI i))]) hx hb dL_law_343 hl (by decide) rfl (fun ls hl => ?_)
  refine lv_aload_n hx hb dL_law_345 rfl (lv_at hl 3 rfl) ?_
  refine lv_aload_n hx hb dL_law_346 rfl (lv_at hl 1 rfl) ?_
  refine lv_iload hx hb dL_law_347 (lv_at hl 5 rfl) ?_
  refine lv_iconst (v := 1) hx hb dL_law_349 (by decide) ?_
  refine lv_iadd hx hb dL_law_350 ?_
  refine va_sld hx hb hX hbl hbA hM.2.2.1 (sc_in (j := 1) hi hL (by decide)) dL_law_351 ?_
  refine w_calli hM hC hap2 (x_runV B hM (As := [.int (xs (nI i + 1).toNatClampNeg)]) (rest := []) (q := 0) (by decide) cM_o cls5 (c_X5_absent (D := D) (ad := ad2) l _ T (xs (nI i + 1).toNatClampNeg) hp.1) (cwV 1 B.1.2.2.2.2 gL_law_X5_absent rfl rfl rfl hd_X5_absent ⟨Nat.le_of_ble_eq_true rfl, Nat.le_of_ble_eq_true rfl⟩) rfl hl.1 (Nat.le_of_ble_eq_true rfl) dL_law_352 ⟨by show _ ≤ 601024; omega, by show _ ≤ 7293034; omega⟩) (fun r T1 H locs hr hM hC => ?_)
  refine lv_istore (lv' := [(6, .int r), (5, .int k), (0, .ref b), (1, .ref (ad jO)), (2, .ref (ad2 0)), (3, .ref (ad oL)), (4, .int (nI i))]) hx hb dL_law_355 hl (by decide) rfl (fun ls hl => ?_)
  have ce := op_absent hR (xs (nI i + 1).toNatClampNeg)
  rw [← hr] at ce
  obtain ⟨hR1, h6, hout⟩ := hL_ce mp_01 rfl hk1 ce
  refine lv_aload_n hx hb dL_law_357 rfl (lv_at hl 4 rfl) ?_
  refine w_calli hM hC hap2 (x_runV B hM (As := []) (rest := []) (q := 0) (by decide) cM_o cls5 (c_X5_thrown (D := D) (ad := ad2) l _ T1) (cwV 0 B.1.2.2.2.2 gL_law_X5_thrown rfl rfl rfl hd_X5_thrown ⟨Nat.le_of_ble_eq_true rfl, Nat.le_of_ble_eq_true rfl⟩) rfl hl.1 (Nat.le_of_ble_eq_true rfl) dL_law_358 ⟨by show _ ≤ 601024; omega, by show _ ≤ 7293034; omega⟩) (fun r2 T2 H locs hr2 hM hC => ?_)
  obtain ⟨hr2, hT2⟩ := hr2
  rw [hT2] at hM
  refine lv_iload hx hb dL_law_361 (lv_at hl 1 rfl) ?_
  refine lv_icmp_eq (tgt := 368) hx hb dL_law_363 (by decide) (fun c1 => ?_) (fun c1 => absurd (hr2.trans h6) c1)
  refine lv_iload hx hb dL_law_368 (lv_at hl 1 rfl) ?_
  refine lv_if_ne (tgt := 385) hx hb dL_law_370 (by decide) (fun c2 => ?_) (fun c2 => ?_)
  · refine lv_goto (tgt := 1359) hx hb dL_law_385 (by decide) ?_
    exact hk _ _ _ _ _ _ _ hC hM hR1 (lv_sub hl [2, 3, 4, 5, 6] rfl) (by omega) (by omega)
  · refine lv_aload_n hx hb dL_law_373 rfl (lv_at hl 5 rfl) ?_
    refine lv_iconst (v := 0) hx hb dL_law_374 (by decide) ?_
    refine x_lald B hC dL_law_375 ?_
    refine lv_iload hx hb dL_law_376 (lv_at hl 0 rfl) ?_
    refine lv_i2l hx hb dL_law_378 rfl ?_
    refine lv_lcmp hx hb dL_law_379 ?_
    refine lv_if_eq (tgt := 385) hx hb dL_law_380 (by decide) (fun c3 => ?_) (fun c3 => absurd (lcmp_self (by rw [hout c2])) c3)
    refine lv_goto (tgt := 1359) hx hb dL_law_385 (by decide) ?_
    exact hk _ _ _ _ _ _ _ hC hM hR1 (lv_sub hl [2, 3, 4, 5, 6] rfl) (by omega) (by omega)
set_option maxRecDepth 20000 in
theorem lwc_week (B : Cx p m c code 9 s #[Value.ref b] lw_tbl RL meth ret D) (hl0 : l.stackTraces = false) (hE : nv V A s s.heap) (hN : NcT s) (hX : va_X b L xs s s.heap) (hbl : b < s.heap.size) (hbA : ¬ A b) (hL : L ≤ 2048) (hap : ∀ i j, i < 158 → j < 7 → ad i ≠ ad2 j) (hi : i + 4 ≤ L) (hC : Wd D 158 (cC D ad) ad A s.heap S H locs) (hM : Wd D 7 (cM D ad2) ad2 A s.heap T H locs) (hR : RR S T) (hl : lv_has ls 9 (lwl b ad ad2 i)) (hc : cells + 3 ≤ 601024) (hs : slots + 18 ≤ 7293034) (hk : ∀ (S1 T1 : vS) (H1 : Heap) (locs1 : List Loc) (cells1 slots1 : Nat) (ls1 : Array Slot), Wd D 158 (cC D ad) ad A s.heap S1 H1 locs1 → Wd D 7 (cM D ad2) ad2 A s.heap T1 H1 locs1 → RR S1 T1 → lv_has ls1 9 (lwl b ad ad2 i) → cells1 ≤ cells + 3 → slots1 ≤ slots + 18 → W p l e room_1 s m #[Value.ref b] below meth c H1 locs1 cells1 slots1 Q (F0 m 1359 ls1 [])) : W p l e room_1 s m #[Value.ref b] below meth c H locs cells slots Q (F0 m 388 ls []) := by
  have hx := B.1.1
  have hb := B.1.2.1
  have hp := rr_pre hR
  have hap2 : ∀ i j, i < 7 → j < 158 → ad2 i ≠ ad j := fun i j a q z => hap j i q a z.symm
  have hl : lv_has ls 9 [(0, .ref b), (1, .ref (ad jO)), (2, .ref (ad2 0)), (3, .ref (ad oL)), (4, .int (nI i))] := hl
  refine lv_aload_n hx hb dL_law_388 rfl (lv_at hl 1 rfl) ?_
  refine lv_aload_n hx hb dL_law_389 rfl (lv_at hl 3 rfl) ?_
  refine w_hcall B hC hM hap hE hN (As := [.ref (ad jO), .ref (ad oL)]) (rest := []) (h_L_week (D := D) (ad := ad) (V := V) l _ hl0 S) (vx_cwSW 2 B.1.2.2.2.2 gL_law_L_week rfl rfl rfl hd_L_week.2 ⟨Nat.le_of_ble_eq_true rfl, Nat.le_of_ble_eq_true rfl⟩) rfl hl.1 (Nat.le_of_ble_eq_true rfl) dL_law_390 ⟨by show _ ≤ 601024; omega, by show _ ≤ 7293034; omega⟩ (fun k S1 H locs hk1 hC hM => ?_)
  refine lv_istore (lv' := [(5, .int k), (0, .ref b), (1, .ref (ad jO)), (2, .ref (ad2 0)), (3, .ref (ad oL)), (4, .int (nI i))]) hx hb dL_law_393 hl (by decide) rfl (fun ls hl => ?_)
  refine lv_aload_n hx hb dL_law_395 rfl (lv_at hl 3 rfl) ?_
  refine w_calli hM hC hap2 (x_runV B hM (As := []) (rest := []) (q := 0) (by decide) cM_o cls5 (c_X5_week (D := D) (ad := ad2) l _ T hp.1 hp.2.2.1 hp.2.2.2.1) (cwV 0 B.1.2.2.2.2 gL_law_X5_week rfl rfl rfl hd_X5_week ⟨Nat.le_of_ble_eq_true rfl, Nat.le_of_ble_eq_true rfl⟩) rfl hl.1 (Nat.le_of_ble_eq_true rfl) dL_law_396 ⟨by show _ ≤ 601024; omega, by show _ ≤ 7293034; omega⟩) (fun r T1 H locs hr hM hC => ?_)
  refine lv_istore (lv' := [(6, .int r), (5, .int k), (0, .ref b), (1, .ref (ad jO)), (2, .ref (ad2 0)), (3, .ref (ad oL)), (4, .int (nI i))]) hx hb dL_law_399 hl (by decide) rfl (fun ls hl => ?_)
  have ce := op_week hR
  rw [← hr] at ce
  obtain ⟨hR1, h6, hout⟩ := hL_ce mp_01 rfl hk1 ce
  refine lv_aload_n hx hb dL_law_401 rfl (lv_at hl 4 rfl) ?_
  refine w_calli hM hC hap2 (x_runV B hM (As := []) (rest := []) (q := 0) (by decide) cM_o cls5 (c_X5_thrown (D := D) (ad := ad2) l _ T1) (cwV 0 B.1.2.2.2.2 gL_law_X5_thrown rfl rfl rfl hd_X5_thrown ⟨Nat.le_of_ble_eq_true rfl, Nat.le_of_ble_eq_true rfl⟩) rfl hl.1 (Nat.le_of_ble_eq_true rfl) dL_law_402 ⟨by show _ ≤ 601024; omega, by show _ ≤ 7293034; omega⟩) (fun r2 T2 H locs hr2 hM hC => ?_)
  obtain ⟨hr2, hT2⟩ := hr2
  rw [hT2] at hM
  refine lv_iload hx hb dL_law_405 (lv_at hl 1 rfl) ?_
  refine lv_icmp_eq (tgt := 412) hx hb dL_law_407 (by decide) (fun c1 => ?_) (fun c1 => absurd (hr2.trans h6) c1)
  refine lv_iload hx hb dL_law_412 (lv_at hl 1 rfl) ?_
  refine lv_if_ne (tgt := 429) hx hb dL_law_414 (by decide) (fun c2 => ?_) (fun c2 => ?_)
  · refine lv_goto (tgt := 1359) hx hb dL_law_429 (by decide) ?_
    exact hk _ _ _ _ _ _ _ hC hM hR1 (lv_sub hl [2, 3, 4, 5, 6] rfl) (by omega) (by omega)
  · refine lv_aload_n hx hb dL_law_417 rfl (lv_at hl 5 rfl) ?_
    refine lv_iconst (v := 0) hx hb dL_law_418 (by decide) ?_
    refine x_lald B hC dL_law_419 ?_
    refine lv_iload hx hb dL_law_420 (lv_at hl 0 rfl) ?_
    refine lv_i2l hx hb dL_law_422 rfl ?_
    refine lv_lcmp hx hb dL_law_423 ?_
    refine lv_if_eq (tgt := 429) hx hb dL_law_424 (by decide) (fun c3 => ?_) (fun c3 => absurd (lcmp_self (by rw [hout c2])) c3)
    refine lv_goto (tgt := 1359) hx hb dL_law_429 (by decide) ?_
    exact hk _ _ _ _ _ _ _ hC hM hR1 (lv_sub hl [2, 3, 4, 5, 6] rfl) (by omega) (by omega)
set_option maxRecDepth 20000 in
theorem lwc_payBack (B : Cx p m c code 9 s #[Value.ref b] lw_tbl RL meth ret D) (hl0 : l.stackTraces = false) (hE : nv V A s s.heap) (hN : NcT s) (hX : va_X b L xs s s.heap) (hbl : b < s.heap.size) (hbA : ¬ A b) (hL : L ≤ 2048) (hap : ∀ i j, i < 158 → j < 7 → ad i ≠ ad2 j) (hi : i + 4 ≤ L) (hC : Wd D 158 (cC D ad) ad A s.heap S H locs) (hM : Wd D 7 (cM D ad2) ad2 A s.heap T H locs) (hR : RR S T) (hl : lv_has ls 9 (lwl b ad ad2 i)) (hc : cells + 3 ≤ 601024) (hs : slots + 18 ≤ 7293034) (hk : ∀ (S1 T1 : vS) (H1 : Heap) (locs1 : List Loc) (cells1 slots1 : Nat) (ls1 : Array Slot), Wd D 158 (cC D ad) ad A s.heap S1 H1 locs1 → Wd D 7 (cM D ad2) ad2 A s.heap T1 H1 locs1 → RR S1 T1 → lv_has ls1 9 (lwl b ad ad2 i) → cells1 ≤ cells + 3 → slots1 ≤ slots + 18 → W p l e room_1 s m #[Value.ref b] below meth c H1 locs1 cells1 slots1 Q (F0 m 1359 ls1 [])) : W p l e room_1 s m #[Value.ref b] below meth c H locs cells slots Q (F0 m 432 ls []) := by
  have hx := B.1.1
  have hb := B.1.2.1
  have hp := rr_pre hR
  have hap2 : ∀ i j, i < 7 → j < 158 → ad2 i ≠ ad j := fun i j a q z => hap j i q a z.symm
  have hl : lv_has ls 9 [(0, .ref b), (1, .ref (ad jO)), (2, .ref (ad2 0)), (3, .ref (ad oL)), (4, .int (nI i))] := hl
  refine lv_aload_n hx hb dL_law_432 rfl (lv_at hl 1 rfl) ?_
  refine lv_aload_n hx hb dL_law_433 rfl (lv_at hl 0 rfl) ?_
  refine lv_iload hx hb dL_law_434 (lv_at hl 4 rfl) ?_
  refine lv_iconst (v := 1) hx hb dL_law_436 (by decide) ?_
  refine lv_iadd hx hb dL_law_437 ?_
  refine va_sld hx hb hX hbl hbA hC.2.2.1 (sc_in (j := 1) hi hL (by decide)) dL_law_438 ?_
  refine lv_aload_n hx hb dL_law_439 rfl (lv_at hl 0 rfl) ?_
  refine lv_iload hx hb dL_law_440 (lv_at hl 4 rfl) ?_
  refine lv_iconst (v := 2) hx hb dL_law_442 (by decide) ?_
  refine lv_iadd hx hb dL_law_443 ?_
  refine va_sld hx hb hX hbl hbA hC.2.2.1 (sc_in (j := 2) hi hL (by decide)) dL_law_444 ?_
  refine lv_aload_n hx hb dL_law_445 rfl (lv_at hl 3 rfl) ?_
  refine w_hcall B hC hM hap hE hN (As := [.ref (ad jO), .int (xs (nI i + 1).toNatClampNeg), .int (xs (nI i + 2).toNatClampNeg), .ref (ad oL)]) (rest := []) (h_L_payBack (D := D) (ad := ad) (V := V) l _ hl0 S (xs (nI i + 1).toNatClampNeg) (xs (nI i + 2).toNatClampNeg)) (vx_cwSW 4 B.1.2.2.2.2 gL_law_L_payBack rfl rfl rfl hd_L_payBack.2 ⟨Nat.le_of_ble_eq_true rfl, Nat.le_of_ble_eq_true rfl⟩) rfl hl.1 (Nat.le_of_ble_eq_true rfl) dL_law_446 ⟨by show _ ≤ 601024; omega, by show _ ≤ 7293034; omega⟩ (fun k S1 H locs hk1 hC hM => ?_)
  refine lv_istore (lv' := [(5, .int k), (0, .ref b), (1, .ref (ad jO)), (2, .ref (ad2 0)), (3, .ref (ad oL)), (4, .int (nI i))]) hx hb dL_law_449 hl (by decide) rfl (fun ls hl => ?_)
  refine lv_aload_n hx hb dL_law_451 rfl (lv_at hl 3 rfl) ?_
  refine lv_aload_n hx hb dL_law_452 rfl (lv_at hl 1 rfl) ?_
  refine lv_iload hx hb dL_law_453 (lv_at hl 5 rfl) ?_
  refine lv_iconst (v := 1) hx hb dL_law_455 (by decide) ?_
  refine lv_iadd hx hb dL_law_456 ?_
  refine va_sld hx hb hX hbl hbA hM.2.2.1 (sc_in (j := 1) hi hL (by decide)) dL_law_457 ?_
  refine lv_aload_n hx hb dL_law_458 rfl (lv_at hl 1 rfl) ?_
  refine lv_iload hx hb dL_law_459 (lv_at hl 5 rfl) ?_
  refine lv_iconst (v := 2) hx hb dL_law_461 (by decide) ?_
  refine lv_iadd hx hb dL_law_462 ?_
  refine va_sld hx hb hX hbl hbA hM.2.2.1 (sc_in (j := 2) hi hL (by decide)) dL_law_463 ?_
  refine w_calli hM hC hap2 (x_runV B hM (As := [.int (xs (nI i + 1).toNatClampNeg), .int (xs (nI i + 2).toNatClampNeg)]) (rest := []) (q := 0) (by decide) cM_o cls5 (c_X5_payBack (D := D) (ad := ad2) l _ T (xs (nI i + 1).toNatClampNeg) (xs (nI i + 2).toNatClampNeg) hp.1) (cwV 2 B.1.2.2.2.2 gL_law_X5_payBack rfl rfl rfl hd_X5_payBack ⟨Nat.le_of_ble_eq_true rfl, Nat.le_of_ble_eq_true rfl⟩) rfl hl.1 (Nat.le_of_ble_eq_true rfl) dL_law_464 ⟨by show _ ≤ 601024; omega, by show _ ≤ 7293034; omega⟩) (fun r T1 H locs hr hM hC => ?_)
  refine lv_istore (lv' := [(6, .int r), (5, .int k), (0, .ref b), (1, .ref (ad jO)), (2, .ref (ad2 0)), (3, .ref (ad oL)), (4, .int (nI i))]) hx hb dL_law_467 hl (by decide) rfl (fun ls hl => ?_)
  have ce := op_payBack hR (xs (nI i + 1).toNatClampNeg) (xs (nI i + 2).toNatClampNeg)
  rw [← hr] at ce
  obtain ⟨hR1, h6, hout⟩ := hL_ce mp_3 rfl hk1 ce
  refine lv_aload_n hx hb dL_law_469 rfl (lv_at hl 4 rfl) ?_
  refine w_calli hM hC hap2 (x_runV B hM (As := []) (rest := []) (q := 0) (by decide) cM_o cls5 (c_X5_thrown (D := D) (ad := ad2) l _ T1) (cwV 0 B.1.2.2.2.2 gL_law_X5_thrown rfl rfl rfl hd_X5_thrown ⟨Nat.le_of_ble_eq_true rfl, Nat.le_of_ble_eq_true rfl⟩) rfl hl.1 (Nat.le_of_ble_eq_true rfl) dL_law_470 ⟨by show _ ≤ 601024; omega, by show _ ≤ 7293034; omega⟩) (fun r2 T2 H locs hr2 hM hC => ?_)
  obtain ⟨hr2, hT2⟩ := hr2
  rw [hT2] at hM
  refine lv_iload hx hb dL_law_473 (lv_at hl 1 rfl) ?_
  refine lv_icmp_eq (tgt := 480) hx hb dL_law_475 (by decide) (fun c1 => ?_) (fun c1 => absurd (hr2.trans h6) c1)
  refine lv_iload hx hb dL_law_480 (lv_at hl 1 rfl) ?_
  refine lv_if_ne (tgt := 497) hx hb dL_law_482 (by decide) (fun c2 => ?_) (fun c2 => ?_)
  · refine lv_goto (tgt := 1359) hx hb dL_law_497 (by decide) ?_
    exact hk _ _ _ _ _ _ _ hC hM hR1 (lv_sub hl [2, 3, 4, 5, 6] rfl) (by omega) (by omega)
  · refine lv_aload_n hx hb dL_law_485 rfl (lv_at hl 5 rfl) ?_
    refine lv_iconst (v := 0) hx hb dL_law_486 (by decide) ?_
    refine x_lald B hC dL_law_487 ?_
    refine lv_iload hx hb dL_law_488 (lv_at hl 0 rfl) ?_
    refine lv_i2l hx hb dL_law_490 rfl ?_
    refine lv_lcmp hx hb dL_law_491 ?_
    refine lv_if_eq (tgt := 497) hx hb dL_law_492 (by decide) (fun c3 => ?_) (fun c3 => absurd (lcmp_self (by rw [hout c2])) c3)
    refine lv_goto (tgt := 1359) hx hb dL_law_497 (by decide) ?_
    exact hk _ _ _ _ _ _ _ hC hM hR1 (lv_sub hl [2, 3, 4, 5, 6] rfl) (by omega) (by omega)
set_option maxRecDepth 20000 in
theorem lwc_help (B : Cx p m c code 9 s #[Value.ref b] lw_tbl RL meth ret D) (hl0 : l.stackTraces = false) (hE : nv V A s s.heap) (hN : NcT s) (hX : va_X b L xs s s.heap) (hbl : b < s.heap.size) (hbA : ¬ A b) (hL : L ≤ 2048) (hap : ∀ i j, i < 158 → j < 7 → ad i ≠ ad2 j) (hi : i + 4 ≤ L) (hC : Wd D 158 (cC D ad) ad A s.heap S H locs) (hM : Wd D 7 (cM D ad2) ad2 A s.heap T H locs) (hR : RR S T) (hl : lv_has ls 9 (lwl b ad ad2 i)) (hc : cells + 3 ≤ 601024) (hs : slots + 18 ≤ 7293034) (hk : ∀ (S1 T1 : vS) (H1 : Heap) (locs1 : List Loc) (cells1 slots1 : Nat) (ls1 : Array Slot), Wd D 158 (cC D ad) ad A s.heap S1 H1 locs1 → Wd D 7 (cM D ad2) ad2 A s.heap T1 H1 locs1 → RR S1 T1 → lv_has ls1 9 (lwl b ad ad2 i) → cells1 ≤ cells + 3 → slots1 ≤ slots + 18 → W p l e room_1 s m #[Value.ref b] below meth c H1 locs1 cells1 slots1 Q (F0 m 1359 ls1 [])) : W p l e room_1 s m #[Value.ref b] below meth c H locs cells slots Q (F0 m 500 ls []) := by
  have hx := B.1.1
  have hb := B.1.2.1
  have hp := rr_pre hR
  have hap2 : ∀ i j, i < 7 → j < 158 → ad2 i ≠ ad j := fun i j a q z => hap j i q a z.symm
  have hl : lv_has ls 9 [(0, .ref b), (1, .ref (ad jO)), (2, .ref (ad2 0)), (3, .ref (ad oL)), (4, .int (nI i))] := hl
  refine lv_aload_n hx hb dL_law_500 rfl (lv_at hl 1 rfl) ?_
  refine lv_aload_n hx hb dL_law_501 rfl (lv_at hl 0 rfl) ?_
  refine lv_iload hx hb dL_law_502 (lv_at hl 4 rfl) ?_
  refine lv_iconst (v := 1) hx hb dL_law_504 (by decide) ?_
  refine lv_iadd hx hb dL_law_505 ?_
  refine va_sld hx hb hX hbl hbA hC.2.2.1 (sc_in (j := 1) hi hL (by decide)) dL_law_506 ?_
  refine lv_aload_n hx hb dL_law_507 rfl (lv_at hl 0 rfl) ?_
  refine lv_iload hx hb dL_law_508 (lv_at hl 4 rfl) ?_
  refine lv_iconst (v := 2) hx hb dL_law_510 (by decide) ?_
  refine lv_iadd hx hb dL_law_511 ?_
  refine va_sld hx hb hX hbl hbA hC.2.2.1 (sc_in (j := 2) hi hL (by decide)) dL_law_512 ?_
  refine lv_aload_n hx hb dL_law_513 rfl (lv_at hl 3 rfl) ?_
  refine w_hcall B hC hM hap hE hN (As := [.ref (ad jO), .int (xs (nI i + 1).toNatClampNeg), .int (xs (nI i + 2).toNatClampNeg), .ref (ad oL)]) (rest := []) (h_L_help (D := D) (ad := ad) (V := V) l _ hl0 S (xs (nI i + 1).toNatClampNeg) (xs (nI i + 2).toNatClampNeg)) (vx_cwSW 4 B.1.2.2.2.2 gL_law_L_help rfl rfl rfl hd_L_help.2 ⟨Nat.le_of_ble_eq_true rfl, Nat.le_of_ble_eq_true rfl⟩) rfl hl.1 (Nat.le_of_ble_eq_true rfl) dL_law_514 ⟨by show _ ≤ 601024; omega, by show _ ≤ 7293034; omega⟩ (fun k S1 H locs hk1 hC hM => ?_)
  refine lv_istore (lv' := [(5, .int k), (0, .ref b), (1, .ref (ad jO)), (2, .ref (ad2 0)), (3, .ref (ad oL)), (4, .int (nI i))]) hx hb dL_law_517 hl (by decide) rfl (fun ls hl => ?_)
  refine lv_aload_n hx hb dL_law_519 rfl (lv_at hl 3 rfl) ?_
  refine lv_aload_n hx hb dL_law_520 rfl (lv_at hl 1 rfl) ?_
  refine lv_iload hx hb dL_law_521 (lv_at hl 5 rfl) ?_
  refine lv_iconst (v := 1) hx hb dL_law_523 (by decide) ?_
  refine lv_iadd hx hb dL_law_524 ?_
  refine va_sld hx hb hX hbl hbA hM.2.2.1 (sc_in (j := 1) hi hL (by decide)) dL_law_525 ?_
  refine lv_aload_n hx hb dL_law_526 rfl (lv_at hl 1 rfl) ?_
  refine lv_iload hx hb dL_law_527 (lv_at hl 5 rfl) ?_
  refine lv_iconst (v := 2) hx hb dL_law_529 (by decide) ?_
  refine lv_iadd hx hb dL_law_530 ?_
  refine va_sld hx hb hX hbl hbA hM.2.2.1 (sc_in (j := 2) hi hL (by decide)) dL_law_531 ?_
  refine w_calli hM hC hap2 (x_runV B hM (As := [.int (xs (nI i + 1).toNatClampNeg), .int (xs (nI i + 2).toNatClampNeg)]) (rest := []) (q := 0) (by decide) cM_o cls5 (c_X5_help (D := D) (ad := ad2) l _ T (xs (nI i + 1).toNatClampNeg) (xs (nI i + 2).toNatClampNeg) hp.1) (cwV 2 B.1.2.2.2.2 gL_law_X5_help rfl rfl rfl hd_X5_help ⟨Nat.le_of_ble_eq_true rfl, Nat.le_of_ble_eq_true rfl⟩) rfl hl.1 (Nat.le_of_ble_eq_true rfl) dL_law_532 ⟨by show _ ≤ 601024; omega, by show _ ≤ 7293034; omega⟩) (fun r T1 H locs hr hM hC => ?_)
  refine lv_istore (lv' := [(6, .int r), (5, .int k), (0, .ref b), (1, .ref (ad jO)), (2, .ref (ad2 0)), (3, .ref (ad oL)), (4, .int (nI i))]) hx hb dL_law_535 hl (by decide) rfl (fun ls hl => ?_)
  have ce := op_help hR (xs (nI i + 1).toNatClampNeg) (xs (nI i + 2).toNatClampNeg)
  rw [← hr] at ce
  obtain ⟨hR1, h6, hout⟩ := hL_ce mp_3 rfl hk1 ce
  refine lv_aload_n hx hb dL_law_537 rfl (lv_at hl 4 rfl) ?_
  refine w_calli hM hC hap2 (x_runV B hM (As := []) (rest := []) (q := 0) (by decide) cM_o cls5 (c_X5_thrown (D := D) (ad := ad2) l _ T1) (cwV 0 B.1.2.2.2.2 gL_law_X5_thrown rfl rfl rfl hd_X5_thrown ⟨Nat.le_of_ble_eq_true rfl, Nat.le_of_ble_eq_true rfl⟩) rfl hl.1 (Nat.le_of_ble_eq_true rfl) dL_law_538 ⟨by show _ ≤ 601024; omega, by show _ ≤ 7293034; omega⟩) (fun r2 T2 H locs hr2 hM hC => ?_)
  obtain ⟨hr2, hT2⟩ := hr2
  rw [hT2] at hM
  refine lv_iload hx hb dL_law_541 (lv_at hl 1 rfl) ?_
  refine lv_icmp_eq (tgt := 548) hx hb dL_law_543 (by decide) (fun c1 => ?_) (fun c1 => absurd (hr2.trans h6) c1)
  refine lv_iload hx hb dL_law_548 (lv_at hl 1 rfl) ?_
  refine lv_if_ne (tgt := 565) hx hb dL_law_550 (by decide) (fun c2 => ?_) (fun c2 => ?_)
  · refine lv_goto (tgt := 1359) hx hb dL_law_565 (by decide) ?_
    exact hk _ _ _ _ _ _ _ hC hM hR1 (lv_sub hl [2, 3, 4, 5, 6] rfl) (by omega) (by omega)
  · refine lv_aload_n hx hb dL_law_553 rfl (lv_at hl 5 rfl) ?_
    refine lv_iconst (v := 0) hx hb dL_law_554 (by decide) ?_
    refine x_lald B hC dL_law_555 ?_
    refine lv_iload hx hb dL_law_556 (lv_at hl 0 rfl) ?_
    refine lv_i2l hx hb dL_law_558 rfl ?_
    refine lv_lcmp hx hb dL_law_559 ?_
    refine lv_if_eq (tgt := 565) hx hb dL_law_560 (by decide) (fun c3 => ?_) (fun c3 => absurd (lcmp_self (by rw [hout c2])) c3)
    refine lv_goto (tgt := 1359) hx hb dL_law_565 (by decide) ?_
    exact hk _ _ _ _ _ _ _ hC hM hR1 (lv_sub hl [2, 3, 4, 5, 6] rfl) (by omega) (by omega)
end LAWC0
