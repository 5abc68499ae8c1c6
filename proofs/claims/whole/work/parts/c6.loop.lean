section LAWLOOP
variable {p : Program} {l : Launch} {e : Env} {s : State} {m : MethodId} {b : Nat} {below : List Frame} {meth : Method} {c : Code} {H : Heap} {locs : List Loc} {cells slots : Nat} {Q : State → Prop}
variable {D : va_G} {ad ad2 : Nat → Nat} {A : Nat → Prop} {S T : vS} {V : vE} {L i : Nat} {xs : Nat → Int32} {ls : Array Slot}
set_option maxRecDepth 20000 in
theorem law_switch (B : Cx p m c code 9 s #[Value.ref b] lw_tbl RL meth ret D) (hl0 : l.stackTraces = false) (hE : nv V A s s.heap) (hN : NcT s) (hX : va_X b L xs s s.heap) (hbl : b < s.heap.size) (hbA : ¬ A b) (hL : L ≤ 2048) (hap : ∀ i j, i < 158 → j < 7 → ad i ≠ ad2 j) (hi : i + 4 ≤ L) (hC : Wd D 158 (cC D ad) ad A s.heap S H locs) (hM : Wd D 7 (cM D ad2) ad2 A s.heap T H locs) (hR : RR S T) (hl : lv_has ls 9 (lwl b ad ad2 i)) (hc : cells + 3 ≤ 601024) (hs : slots + 18 ≤ 7293034) (hk : ∀ (S1 T1 : vS) (H1 : Heap) (locs1 : List Loc) (cells1 slots1 : Nat) (ls1 : Array Slot), Wd D 158 (cC D ad) ad A s.heap S1 H1 locs1 → Wd D 7 (cM D ad2) ad2 A s.heap T1 H1 locs1 → RR S1 T1 → lv_has ls1 9 (lwl b ad ad2 i) → cells1 ≤ cells + 3 → slots1 ≤ slots + 18 → W p l e room_1 s m #[Value.ref b] below meth c H1 locs1 cells1 slots1 Q (F0 m 1359 ls1 [])) : W p l e room_1 s m #[Value.ref b] below meth c H locs cells slots Q (F0 m 32 ls []) := by
  have hx := B.1.1
  have hb := B.1.2.1
  have hl' : lv_has ls 9 [(0, .ref b), (1, .ref (ad jO)), (2, .ref (ad2 0)), (3, .ref (ad oL)), (4, .int (nI i))] := hl
  refine lv_aload_n hx hb dL_law_32 rfl (lv_at hl' 0 rfl) ?_
  refine lv_iload hx hb dL_law_33 (lv_at hl' 4 rfl) ?_
  refine va_sld hx hb hX hbl hbA hC.2.2.1 (vp_in_nI (by omega) (by omega)) dL_law_35 ?_
  refine lv_bipush (v := 31) hx hb dL_law_36 (by decide) ?_
  refine lv_iand hx hb dL_law_38 ?_
  obtain ⟨k, hk32, ek⟩ := and31 (xs (nI i).toNatClampNeg)
  rw [ek]
  rcases (show k = 0 ∨ k = 1 ∨ k = 2 ∨ k = 3 ∨ k = 4 ∨ k = 5 ∨ k = 6 ∨ k = 7 ∨ k = 8 ∨ k = 9 ∨ k = 10 ∨ k = 11 ∨ k = 12 ∨ k = 13 ∨ k = 14 ∨ k = 15 ∨ k = 16 ∨ k = 17 ∨ k = 18 ∨ k = 19 ∨ k = 20 ∨ k = 21 ∨ k = 22 ∨ k = 23 ∨ k = 24 ∨ 25 ≤ k by omega) with rfl | rfl | rfl | rfl | rfl | rfl | rfl | rfl | rfl | rfl | rfl | rfl | rfl | rfl | rfl | rfl | rfl | rfl | rfl | rfl | rfl | rfl | rfl | rfl | rfl | hk25
  · refine lv_tableIn (off := 113) (tgt := 152) hx hb dL_law_39 (by decide) (by decide) rfl (by decide) ?_
    exact lwc_join B hl0 hE hN hX hbl hbA hL hap hi hC hM hR hl hc hs hk
  · refine lv_tableIn (off := 157) (tgt := 196) hx hb dL_law_39 (by decide) (by decide) rfl (by decide) ?_
    exact lwc_leave B hl0 hE hN hX hbl hbA hL hap hi hC hM hR hl hc hs hk
  · refine lv_tableIn (off := 213) (tgt := 252) hx hb dL_law_39 (by decide) (by decide) rfl (by decide) ?_
    exact lwc_lend B hl0 hE hN hX hbl hbA hL hap hi hC hM hR hl hc hs hk
  · refine lv_tableIn (off := 293) (tgt := 332) hx hb dL_law_39 (by decide) (by decide) rfl (by decide) ?_
    exact lwc_absent B hl0 hE hN hX hbl hbA hL hap hi hC hM hR hl hc hs hk
  · refine lv_tableIn (off := 349) (tgt := 388) hx hb dL_law_39 (by decide) (by decide) rfl (by decide) ?_
    exact lwc_week B hl0 hE hN hX hbl hbA hL hap hi hC hM hR hl hc hs hk
  · refine lv_tableIn (off := 393) (tgt := 432) hx hb dL_law_39 (by decide) (by decide) rfl (by decide) ?_
    exact lwc_payBack B hl0 hE hN hX hbl hbA hL hap hi hC hM hR hl hc hs hk
  · refine lv_tableIn (off := 461) (tgt := 500) hx hb dL_law_39 (by decide) (by decide) rfl (by decide) ?_
    exact lwc_help B hl0 hE hN hX hbl hbA hL hap hi hC hM hR hl hc hs hk
  · refine lv_tableIn (off := 529) (tgt := 568) hx hb dL_law_39 (by decide) (by decide) rfl (by decide) ?_
    exact lwc_cycle B hl0 hE hN hX hbl hbA hL hap hi hC hM hR hl hc hs hk
  · refine lv_tableIn (off := 573) (tgt := 612) hx hb dL_law_39 (by decide) (by decide) rfl (by decide) ?_
    exact lwc_set B hl0 hE hN hX hbl hbA hL hap hi hC hM hR hl hc hs hk
  · refine lv_tableIn (off := 641) (tgt := 680) hx hb dL_law_39 (by decide) (by decide) rfl (by decide) ?_
    exact lwc_append B hl0 hE hN hX hbl hbA hL hap hi hC hM hR hl hc hs hk
  · refine lv_tableIn (off := 697) (tgt := 736) hx hb dL_law_39 (by decide) (by decide) rfl (by decide) ?_
    exact lwc_clearBuffer B hl0 hE hN hX hbl hbA hL hap hi hC hM hR hl hc hs hk
  · refine lv_tableIn (off := 710) (tgt := 749) hx hb dL_law_39 (by decide) (by decide) rfl (by decide) ?_
    exact lwc_firstError B hl0 hE hN hX hbl hbA hL hap hi hC hM hR hl hc hs hk
  · refine lv_tableIn (off := 723) (tgt := 762) hx hb dL_law_39 (by decide) (by decide) rfl (by decide) ?_
    exact lwc_run B hl0 hE hN hX hbl hbA hL hap hi hC hM hR hl hc hs hk
  · refine lv_tableIn (off := 767) (tgt := 806) hx hb dL_law_39 (by decide) (by decide) rfl (by decide) ?_
    exact lwc_undo B hl0 hE hN hX hbl hbA hL hap hi hC hM hR hl hc hs hk
  · refine lv_tableIn (off := 811) (tgt := 850) hx hb dL_law_39 (by decide) (by decide) rfl (by decide) ?_
    exact lwc_member B hl0 hE hN hX hbl hbA hL hap hi hC hM hR hl hc hs hk
  · refine lv_tableIn (off := 879) (tgt := 918) hx hb dL_law_39 (by decide) (by decide) rfl (by decide) ?_
    exact lwc_owes B hl0 hE hN hX hbl hbA hL hap hi hC hM hR hl hc hs hk
  · refine lv_tableIn (off := 947) (tgt := 986) hx hb dL_law_39 (by decide) (by decide) rfl (by decide) ?_
    exact lwc_count B hl0 hE hN hX hbl hbA hL hap hi hC hM hR hl hc hs hk
  · refine lv_tableIn (off := 1003) (tgt := 1042) hx hb dL_law_39 (by decide) (by decide) rfl (by decide) ?_
    exact lwc_setting B hl0 hE hN hX hbl hbA hL hap hi hC hM hR hl hc hs hk
  · refine lv_tableIn (off := 1059) (tgt := 1098) hx hb dL_law_39 (by decide) (by decide) rfl (by decide) ?_
    exact lwc_ifAbsent B hl0 hE hN hX hbl hbA hL hap hi hC hM hR hl hc hs hk
  · refine lv_tableIn (off := 1127) (tgt := 1166) hx hb dL_law_39 (by decide) (by decide) rfl (by decide) ?_
    exact lwc_fundLasts B hl0 hE hN hX hbl hbA hL hap hi hC hM hR hl hc hs hk
  · refine lv_tableIn (off := 1183) (tgt := 1222) hx hb dL_law_39 (by decide) (by decide) rfl (by decide) ?_
    exact lwc_weakest B hl0 hE hN hX hbl hbA hL hap hi hC hM hR hl hc hs hk
  · refine lv_tableIn (off := 1196) (tgt := 1235) hx hb dL_law_39 (by decide) (by decide) rfl (by decide) ?_
    exact lwc_weeksToGo B hl0 hE hN hX hbl hbA hL hap hi hC hM hR hl hc hs hk
  · refine lv_tableIn (off := 1209) (tgt := 1248) hx hb dL_law_39 (by decide) (by decide) rfl (by decide) ?_
    exact lwc_ifCycle B hl0 hE hN hX hbl hbA hL hap hi hC hM hR hl hc hs hk
  · refine lv_tableIn (off := 1265) (tgt := 1304) hx hb dL_law_39 (by decide) (by decide) rfl (by decide) ?_
    exact lwc_paidShare B hl0 hE hN hX hbl hbA hL hap hi hC hM hR hl hc hs hk
  · refine lv_tableIn (off := 1306) (tgt := 1345) hx hb dL_law_39 (by decide) (by decide) rfl (by decide) ?_
    exact lwc_digest B hl0 hE hN hX hbl hbA hL hap hi hC hM hR hl hc hs hk
  · refine lv_tableOut (tgt := 1359) hx hb dL_law_39 (Or.inr (by rw [nI_toInt (by omega)]; omega)) (by decide) ?_
    exact hk _ _ _ _ _ _ _ hC hM hR hl (by omega) (by omega)
theorem law_loop (B : Cx p m c code 9 s #[Value.ref b] lw_tbl RL meth ret D) (hl0 : l.stackTraces = false) (hE : nv V A s s.heap) (hN : NcT s) (hX : va_X b L xs s s.heap) (hbl : b < s.heap.size) (hbA : ¬ A b) (hL : L ≤ 2048) (hap : ∀ i j, i < 158 → j < 7 → ad i ≠ ad2 j) (hend : ∀ (H1 : Heap) (locs1 : List Loc) (cells1 slots1 : Nat) (ls1 : Array Slot), (∀ q ∈ locs1, A q.base) → cells1 ≤ 601024 → slots1 ≤ 7293034 → W p l e room_1 s m #[Value.ref b] below meth c H1 locs1 cells1 slots1 Q (F0 m 1365 ls1 [])) : ∀ (n i : Nat) (S T : vS) (H : Heap) (locs : List Loc) (cells slots : Nat) (ls : Array Slot), i ≤ L + 4 → L + 4 < i + n → Wd D 158 (cC D ad) ad A s.heap S H locs → Wd D 7 (cM D ad2) ad2 A s.heap T H locs → RR S T → lv_has ls 9 (lwl b ad ad2 i) → cells ≤ 200 + 3 * i → slots ≤ 4000 + 18 * i → W p l e room_1 s m #[Value.ref b] below meth c H locs cells slots Q (F0 m 23 ls []) := by
  have hx := B.1.1
  have hb := B.1.2.1
  intro n
  induction n with
  | zero => intro i S T H locs cells slots ls h1 h2; omega
  | succ n ih =>
    intro i S T H locs cells slots ls h1 h2 hC hM hR hl hc hs
    have hl' : lv_has ls 9 [(0, .ref b), (1, .ref (ad jO)), (2, .ref (ad2 0)), (3, .ref (ad oL)), (4, .int (nI i))] := hl
    refine lv_iload hx hb dL_law_23 (lv_at hl' 4 rfl) ?_
    refine lv_aload_n hx hb dL_law_25 rfl (lv_at hl' 0 rfl) ?_
    refine va_slen hx hb hX hbl hbA hC.2.2.1 dL_law_26 ?_
    refine lv_iconst (v := 4) hx hb dL_law_27 (by decide) ?_
    refine lv_isub hx hb dL_law_28 ?_
    refine lv_icmp_gt (tgt := 1365) hx hb dL_law_29 (by decide) (fun c1 => ?_) (fun c1 => ?_)
    · exact hend _ _ _ _ _ hC.2.2.1.2.2 (by omega) (by omega)
    · have hi := no_more hL (by omega) c1
      refine law_switch B hl0 hE hN hX hbl hbA hL hap hi hC hM hR hl (by omega) (by omega) ?_
      intro S1 T1 H1 locs1 cells1 slots1 ls1 hC1 hM1 hR1 hl1 hc1 hs1
      have hl1' : lv_has ls1 9 [(0, .ref b), (1, .ref (ad jO)), (2, .ref (ad2 0)), (3, .ref (ad oL)), (4, .int (nI i))] := hl1
      refine lv_iinc (v := nI (i + 4)) (lv' := [(4, .int (nI (i + 4))), (0, .ref b), (1, .ref (ad jO)), (2, .ref (ad2 0)), (3, .ref (ad oL))]) hx hb dL_law_1359 hl1' (k := 4) rfl (by rw [show Int32.ofInt 4 = nI 4 by decide]; exact nI_add i 4) (by decide) rfl (fun ls2 hl2 => ?_)
      refine lv_goto (tgt := 23) hx hb dL_law_1362 (by decide) ?_
      exact ih (i + 4) S1 T1 H1 locs1 cells1 slots1 ls2 (by omega) (by omega) hC1 hM1 hR1 (lv_sub hl2 [1, 2, 3, 4, 0] rfl) (by omega) (by omega)
end LAWLOOP
