section DACT
theorem ok_so {cy : Int} {S : vS} {z : (Nat × Int32) × vS} (h : OKs cy S z) (h0 : z.1.1 = 0) : SO cy S z.1.2 z.2 := h.elim (fun q => Or.inl q.2) (fun q => absurd (q.1.symm.trans h0) (by decide))
theorem hd_L_low : yL_low.cls = RL ∧ yL_low.cls ≠ "java/lang/invoke/MethodHandle" ∧ yL_low.cls ≠ "java/lang/invoke/VarHandle" ∧ (parseMethodDescriptor yL_low.desc).map (fun d => d.parameters.length) = some 2 := by decide +kernel
theorem low_val (v : Int32) {N : Nat} (hN : 0 < N) (hN2 : N < 2 ^ 30) : ∃ j, j < N ∧ (v &&& 2147483647) - (v &&& 2147483647) / nI N * nI N = nI j := by
  obtain ⟨a, ha, e⟩ := pk_andE v (m := 2147483647) 31 (by decide +kernel)
  rw [e, pk_rem (by omega) hN (by omega)]
  exact ⟨a % N, Nat.mod_lt _ hN, rfl⟩
theorem h_L_low {D : va_G} {ad : Nat → Nat} {V : vE} (l : Launch) (sz : Nat) (S : vS) (v n : Int32) (N : Nat) (hn : n = nI N) (hN : 0 < N) (hN2 : N < 2 ^ 30) : Met l yL_low wsL_low (rmD 1) (pE D 157 (cC D ad) ad sz V S [.int v, .int n]) (va_Qi (fun (r : Int32) (S1 : vS) => (∃ j, j < N ∧ r = nI j) ∧ S1 = S) (bW D 157 (cC D ad) ad (aW 157 ad sz)) (aW 157 ad sz)) 0 0 (aW 157 ad sz) := by
  refine x_metE (own := RL) (cc := cL_low) (maxL := 2) (ret := (some .int)) (Qc := fun A => va_Qi (fun (r : Int32) (S1 : vS) => (∃ j, j < N ∧ r = nI j) ∧ S1 = S) (bW D 157 (cC D ad) ad A) A) rfl ⟨by decide +kernel, rfl, Nat.le_of_ble_eq_true rfl⟩ ?_
  intro p e s mm args below meth c A ls B hW hE hl hls
  have hx := B.1.1
  have hb := B.1.2.1
  have hl : lv_has ls 2 [(0, .int v), (1, .int n)] := hl
  subst hn
  refine lv_iload_n hx hb dL_low_0 rfl (lv_at hl 0 rfl) ?_
  refine lv_ldc (v := 2147483647) hx hb B.1.2.2.2.1 (B.1.2.2.2.2 (.constant RL 7 2147483647) (by decide +kernel)) dL_low_1 ?_
  refine lv_iand hx hb dL_low_3 ?_
  refine lv_iload_n hx hb dL_low_4 rfl (lv_at hl 1 rfl) ?_
  refine lv_irem hx hb dL_low_5 (fun q => ?_) ?_
  · have := congrArg Int32.toInt q
    rw [nI_toInt (by omega), z32] at this
    omega
  · exact x_iret B hW ⟨low_val v hN hN2, rfl⟩ dL_low_6
theorem hd_L_cell : yL_cell.cls = RL ∧ yL_cell.cls ≠ "java/lang/invoke/MethodHandle" ∧ yL_cell.cls ≠ "java/lang/invoke/VarHandle" ∧ (parseMethodDescriptor yL_cell.desc).map (fun d => d.parameters.length) = some 2 := by decide +kernel
theorem h_L_cell {D : va_G} {ad : Nat → Nat} {V : vE} (l : Launch) (sz : Nat) (S : vS) (v : Int32) (hL : V.1 1 ≤ 260) (hv : ¬ v < 0) : Met l yL_cell wsL_cell (rmD 1) (pE D 157 (cC D ad) ad sz V S [.ref (V.1 0), .int v]) (va_Qi (fun (r : Int32) (S1 : vS) => S1 = S) (bW D 157 (cC D ad) ad (aW 157 ad sz)) (aW 157 ad sz)) 0 0 (aW 157 ad sz) := by
  refine x_metE (own := RL) (cc := cL_cell) (maxL := 2) (ret := (some .int)) (Qc := fun A => va_Qi (fun (r : Int32) (S1 : vS) => S1 = S) (bW D 157 (cC D ad) ad A) A) rfl ⟨by decide +kernel, rfl, Nat.le_of_ble_eq_true rfl⟩ ?_
  intro p e s mm args below meth c A ls B hW hE hl hls
  have hx := B.1.1
  have hb := B.1.2.1
  have hl : lv_has ls 2 [(0, .ref (V.1 0)), (1, .int v)] := hl
  refine lv_iload_n hx hb dL_cell_0 rfl (lv_at hl 1 rfl) ?_
  refine lv_aload_n hx hb dL_cell_1 rfl (lv_at hl 0 rfl) ?_
  refine va_tlen hx hb hE.1.1 hW.2.2.1 (v := Int32.ofNat (V.1 1)) rfl dL_cell_2 ?_
  refine lv_icmp_ge (tgt := 12) hx hb dL_cell_3 (by decide) (fun q => ?_) (fun q => ?_)
  · refine lv_ldc (v := 40503) hx hb B.1.2.2.2.1 (B.1.2.2.2.2 (.constant RL 8 40503) (by decide +kernel)) dL_cell_12 ?_
    refine lv_iload_n hx hb dL_cell_14 rfl (lv_at hl 1 rfl) ?_
    refine lv_imul hx hb dL_cell_15 ?_
    refine lv_sipush (v := 977) hx hb dL_cell_16 (by decide) ?_
    refine lv_iadd hx hb dL_cell_19 ?_
    exact x_iret B hW rfl dL_cell_20
  · refine lv_aload_n hx hb dL_cell_6 rfl (lv_at hl 0 rfl) ?_
    refine lv_iload_n hx hb dL_cell_7 rfl (lv_at hl 1 rfl) ?_
    refine va_ti hx hb hE.1.1 hW.2.2.1 (vin_of hv q (by omega) (Nat.le_refl _)) rfl dL_cell_8 ?_
    refine lv_goto (tgt := 20) hx hb dL_cell_9 (by decide) ?_
    exact x_iret B hW rfl dL_cell_20
theorem hd_L_act : yL_act.cls = RL ∧ yL_act.cls ≠ "java/lang/invoke/MethodHandle" ∧ yL_act.cls ≠ "java/lang/invoke/VarHandle" ∧ (parseMethodDescriptor yL_act.desc).map (fun d => d.parameters.length) = some 3 := by decide +kernel
theorem rng_add {a N b : Nat} (h : a < N) (hN : N < 2 ^ 30) (hb : b < 2 ^ 30) : (nI b + nI a).toInt = (b : Int) + a := by
  rw [nI_add, nI_toInt (by omega)]; omega
theorem rng_set {q a : Nat} (hq : q < 4) (ha : a < 20) : ¬ (1 + nI a) < lsE q ∧ (1 + nI a) ≤ msE q := by
  have e : (1 : Int32) + nI a = nI (1 + a) := nI_add 1 a
  rw [e]
  have key : ∀ q, q < 4 → ∀ a, a < 20 → ¬ nI (1 + a) < lsE q ∧ nI (1 + a) ≤ msE q := by decide +kernel
  exact key q hq a ha
theorem h_L_act {D : va_G} {ad : Nat → Nat} {V : vE} (l : Launch) (sz : Nat) (hl0 : l.stackTraces = false) (S : vS) {cy : Int} (hrx : RX cy S) (hcy : cy ≤ 900) (hL : V.1 1 ≤ 260) (t : Nat) (ht : t ≤ 1000) (v9 : Int32) (hv9 : v9 = nI t) (b9 : Nat) (hb9 : b9 = V.1 0) : vx_Met l yL_act wsL_act (rmX 9 6) (pE D 157 (cC D ad) ad sz V S [.ref (ad jO), .ref b9, .int v9]) (va_Qi (fun (r : Int32) (S1 : vS) => SO cy S r S1) (bW D 157 (cC D ad) ad (aW 157 ad sz)) (aW 157 ad sz)) (xX D 157 (cC D ad) ad (aW 157 ad sz) (fun _ _ => False)) 6 36 (aW 157 ad sz) := by
  refine x_metX (own := RL) (cc := cL_act) (maxL := 7) (ret := (some .int)) (Qc := fun A => va_Qi (fun (r : Int32) (S1 : vS) => SO cy S r S1) (bW D 157 (cC D ad) ad A) A) (XC := fun A => xX D 157 (cC D ad) ad A (fun _ _ => False)) rfl ⟨by decide +kernel, rfl, Nat.le_of_ble_eq_true rfl⟩ ?_
  intro p e s mm args below meth c A ls B htab hW hE hl hls
  subst hv9
  subst hb9
  have hx := B.1.1
  have hb := B.1.2.1
  have hl : lv_has ls 7 [(0, .ref (ad jO)), (1, .ref (V.1 0)), (2, .int (nI t))] := hl
  refine lv_aload_n hx hb dL_act_0 rfl (lv_at hl 1 rfl) ?_
  refine lv_iload_n hx hb dL_act_1 rfl (lv_at hl 2 rfl) ?_
  refine lv_iconst (v := 1) hx hb dL_act_2 (by decide) ?_
  refine lv_iadd hx hb dL_act_3 ?_
  refine x_calli hW (x_runSE B hW hE (As := [.ref (V.1 0), .int ((nI t) + 1)]) (rest := []) (h_L_cell (D := D) (ad := ad) (V := V) l _ S ((nI t) + 1) hL (by rw [show ((nI t) + 1) = nI (t + 1) from nI_add t 1]; exact nI_pos (by omega))) (va_cwS 2 B.1.2.2.2.2 gL_act_L_cell rfl rfl rfl hd_L_cell.2 ⟨Nat.le_of_ble_eq_true rfl, Nat.le_of_ble_eq_true rfl⟩) rfl hls (Nat.le_of_ble_eq_true rfl) dL_act_4 ⟨Nat.le_of_ble_eq_true rfl, Nat.le_of_ble_eq_true rfl⟩) (fun r_4 S9 H locs he hW => ?_)
  rw [show S9 = S from he] at hW
  refine lv_bipush (v := 8) hx hb dL_act_7 (by decide) ?_
  refine x_calli hW (x_runSE B hW hE (As := [.int r_4, .int 8]) (rest := []) (h_L_low (D := D) (ad := ad) (V := V) l _ S r_4 8 8 rfl (by decide) (by decide)) (va_cwS 2 B.1.2.2.2.2 gL_act_L_low rfl rfl rfl hd_L_low.2 ⟨Nat.le_of_ble_eq_true rfl, Nat.le_of_ble_eq_true rfl⟩) rfl hls (Nat.le_of_ble_eq_true rfl) dL_act_9 ⟨Nat.le_of_ble_eq_true rfl, Nat.le_of_ble_eq_true rfl⟩) (fun r_9 S9 H locs he hW => ?_)
  obtain ⟨⟨j_9, hj_9, ej_9⟩, he⟩ := he
  rw [show S9 = S from he] at hW
  subst ej_9
  refine W.eq (g2 := F0 mm 12 ls (.int (nI j_9) :: [])) rfl ?_
  refine lv_istore_n (lv' := [(3, .int (nI j_9)), (0, .ref (ad jO)), (1, .ref (V.1 0)), (2, .int (nI t))]) hx hb dL_act_12 rfl hl (by decide) rfl (fun ls hl => ?_)
  have hls := hl.1
  refine lv_aload_n hx hb dL_act_13 rfl (lv_at hl 2 rfl) ?_
  refine lv_iload_n hx hb dL_act_14 rfl (lv_at hl 3 rfl) ?_
  refine lv_iconst (v := 2) hx hb dL_act_15 (by decide) ?_
  refine lv_iadd hx hb dL_act_16 ?_
  refine x_calli hW (x_runSE B hW hE (As := [.ref (V.1 0), .int ((nI t) + 2)]) (rest := []) (h_L_cell (D := D) (ad := ad) (V := V) l _ S ((nI t) + 2) hL (by rw [show ((nI t) + 2) = nI (t + 2) from nI_add t 2]; exact nI_pos (by omega))) (va_cwS 2 B.1.2.2.2.2 gL_act_L_cell rfl rfl rfl hd_L_cell.2 ⟨Nat.le_of_ble_eq_true rfl, Nat.le_of_ble_eq_true rfl⟩) rfl hls (Nat.le_of_ble_eq_true rfl) dL_act_17 ⟨Nat.le_of_ble_eq_true rfl, Nat.le_of_ble_eq_true rfl⟩) (fun r_17 S9 H locs he hW => ?_)
  rw [show S9 = S from he] at hW
  refine lv_istore (lv' := [(4, .int r_17), (3, .int (nI j_9)), (0, .ref (ad jO)), (1, .ref (V.1 0)), (2, .int (nI t))]) hx hb dL_act_20 hl (by decide) rfl (fun ls hl => ?_)
  have hls := hl.1
  refine lv_aload_n hx hb dL_act_22 rfl (lv_at hl 3 rfl) ?_
  refine lv_iload_n hx hb dL_act_23 rfl (lv_at hl 4 rfl) ?_
  refine lv_iconst (v := 3) hx hb dL_act_24 (by decide) ?_
  refine lv_iadd hx hb dL_act_25 ?_
  refine x_calli hW (x_runSE B hW hE (As := [.ref (V.1 0), .int ((nI t) + 3)]) (rest := []) (h_L_cell (D := D) (ad := ad) (V := V) l _ S ((nI t) + 3) hL (by rw [show ((nI t) + 3) = nI (t + 3) from nI_add t 3]; exact nI_pos (by omega))) (va_cwS 2 B.1.2.2.2.2 gL_act_L_cell rfl rfl rfl hd_L_cell.2 ⟨Nat.le_of_ble_eq_true rfl, Nat.le_of_ble_eq_true rfl⟩) rfl hls (Nat.le_of_ble_eq_true rfl) dL_act_26 ⟨Nat.le_of_ble_eq_true rfl, Nat.le_of_ble_eq_true rfl⟩) (fun r_26 S9 H locs he hW => ?_)
  rw [show S9 = S from he] at hW
  refine lv_istore (lv' := [(5, .int r_26), (4, .int r_17), (3, .int (nI j_9)), (0, .ref (ad jO)), (1, .ref (V.1 0)), (2, .int (nI t))]) hx hb dL_act_29 hl (by decide) rfl (fun ls hl => ?_)
  have hls := hl.1
  refine lv_aload_n hx hb dL_act_31 rfl (lv_at hl 4 rfl) ?_
  refine lv_iload_n hx hb dL_act_32 rfl (lv_at hl 5 rfl) ?_
  refine x_calli hW (x_runSE B hW hE (As := [.ref (V.1 0), .int (nI t)]) (rest := []) (h_L_cell (D := D) (ad := ad) (V := V) l _ S (nI t) hL (nI_pos (by omega))) (va_cwS 2 B.1.2.2.2.2 gL_act_L_cell rfl rfl rfl hd_L_cell.2 ⟨Nat.le_of_ble_eq_true rfl, Nat.le_of_ble_eq_true rfl⟩) rfl hls (Nat.le_of_ble_eq_true rfl) dL_act_33 ⟨Nat.le_of_ble_eq_true rfl, Nat.le_of_ble_eq_true rfl⟩) (fun r_33 S9 H locs he hW => ?_)
  rw [show S9 = S from he] at hW
  refine lv_bipush (v := 20) hx hb dL_act_36 (by decide) ?_
  refine x_calli hW (x_runSE B hW hE (As := [.int r_33, .int 20]) (rest := []) (h_L_low (D := D) (ad := ad) (V := V) l _ S r_33 20 20 rfl (by decide) (by decide)) (va_cwS 2 B.1.2.2.2.2 gL_act_L_low rfl rfl rfl hd_L_low.2 ⟨Nat.le_of_ble_eq_true rfl, Nat.le_of_ble_eq_true rfl⟩) rfl hls (Nat.le_of_ble_eq_true rfl) dL_act_38 ⟨Nat.le_of_ble_eq_true rfl, Nat.le_of_ble_eq_true rfl⟩) (fun r_38 S9 H locs he hW => ?_)
  obtain ⟨⟨j_38, hj_38, ej_38⟩, he⟩ := he
  rw [show S9 = S from he] at hW
  subst ej_38
  refine W.eq (g2 := F0 mm 41 ls (.int (nI j_38) :: [])) rfl ?_
  refine lv_istore (lv' := [(6, .int (nI j_38)), (5, .int r_26), (4, .int r_17), (3, .int (nI j_9)), (0, .ref (ad jO)), (1, .ref (V.1 0)), (2, .int (nI t))]) hx hb dL_act_41 hl (by decide) rfl (fun ls hl => ?_)
  have hls := hl.1
  refine lv_iload hx hb dL_act_43 (lv_at hl 0 rfl) ?_
  refine lv_iconst (v := 3) hx hb dL_act_45 (by decide) ?_
  refine lv_icmp_ge (tgt := 54) hx hb dL_act_46 (by decide) (fun c46 => ?_) (fun c46 => ?_)
  · skip
    refine lv_iload hx hb dL_act_54 (lv_at hl 0 rfl) ?_
    refine lv_bipush (v := 14) hx hb dL_act_56 (by decide) ?_
    refine lv_icmp_le (tgt := 94) hx hb dL_act_58 (by decide) (fun c58 => ?_) (fun c58 => ?_)
    · skip
      refine lv_aload_n hx hb dL_act_94 rfl (lv_at hl 4 rfl) ?_
      refine lv_iload_n hx hb dL_act_95 rfl (lv_at hl 3 rfl) ?_
      refine lb_help B hW hE (As := [.ref (ad jO), .int (nI j_9)]) (rest := []) (h_L_isMember (D := D) (ad := ad) (V := V) l _ hl0 S hrx j_9 hj_9) (vx_cwSW 2 B.1.2.2.2.2 gL_act_L_isMember rfl rfl rfl hd_L_isMember.2 ⟨Nat.le_of_ble_eq_true rfl, Nat.le_of_ble_eq_true rfl⟩) rfl hls (Nat.le_of_ble_eq_true rfl) dL_act_96 ⟨Nat.le_of_ble_eq_true rfl, Nat.le_of_ble_eq_true rfl⟩ (fun r_96 S9 H locs he hW => ?_)
      obtain ⟨hr, he⟩ := he
      rw [he] at hW
      refine lv_if_ne (tgt := 105) hx hb dL_act_99 (by decide) (fun c99 => ?_) (fun c99 => ?_)
      · skip
        have hh : ¬ cv S 0 (13 + 14 * j_9 + 0) = 0 := fun z => c99 (by rw [hr, if_pos z])
        have hm8 := hj_9
        refine lv_iload hx hb dL_act_105 (lv_at hl 0 rfl) ?_
        refine lv_bipush (v := 7) hx hb dL_act_107 (by decide) ?_
        refine lv_icmp_ge (tgt := 138) hx hb dL_act_109 (by decide) (fun c109 => ?_) (fun c109 => ?_)
        · skip
          refine lv_iload hx hb dL_act_138 (lv_at hl 0 rfl) ?_
          refine lv_bipush (v := 10) hx hb dL_act_140 (by decide) ?_
          refine lv_icmp_ge (tgt := 151) hx hb dL_act_142 (by decide) (fun c142 => ?_) (fun c142 => ?_)
          · skip
            refine lv_iload hx hb dL_act_151 (lv_at hl 0 rfl) ?_
            refine lv_bipush (v := 12) hx hb dL_act_153 (by decide) ?_
            refine lv_icmp_ge (tgt := 173) hx hb dL_act_155 (by decide) (fun c155 => ?_) (fun c155 => ?_)
            · skip
              refine lv_iload hx hb dL_act_173 (lv_at hl 0 rfl) ?_
              refine lv_bipush (v := 12) hx hb dL_act_175 (by decide) ?_
              refine lv_icmp_ne (tgt := 195) hx hb dL_act_177 (by decide) (fun c177 => ?_) (fun c177 => ?_)
              · skip
                refine lv_iload hx hb dL_act_195 (lv_at hl 0 rfl) ?_
                refine lv_bipush (v := 13) hx hb dL_act_197 (by decide) ?_
                refine lv_icmp_ne (tgt := 210) hx hb dL_act_199 (by decide) (fun c199 => ?_) (fun c199 => ?_)
                · skip
                  refine lv_aload_n hx hb dL_act_210 rfl (lv_at hl 4 rfl) ?_
                  refine lv_iload hx hb dL_act_211 (lv_at hl 1 rfl) ?_
                  refine lv_iconst (v := 4) hx hb dL_act_213 (by decide) ?_
                  refine x_calli hW (x_runSE B hW hE (As := [.int r_26, .int 4]) (rest := .ref (ad jO) :: []) (h_L_low (D := D) (ad := ad) (V := V) l _ S r_26 4 4 rfl (by decide) (by decide)) (va_cwS 2 B.1.2.2.2.2 gL_act_L_low rfl rfl rfl hd_L_low.2 ⟨Nat.le_of_ble_eq_true rfl, Nat.le_of_ble_eq_true rfl⟩) rfl hls (Nat.le_of_ble_eq_true rfl) dL_act_214 ⟨Nat.le_of_ble_eq_true rfl, Nat.le_of_ble_eq_true rfl⟩) (fun r_214 S9 H locs he hW => ?_)
                  obtain ⟨⟨j_214, hj_214, ej_214⟩, he⟩ := he
                  rw [show S9 = S from he] at hW
                  subst ej_214
                  refine W.eq (g2 := F0 mm 217 ls (.int (nI j_214) :: .ref (ad jO) :: [])) rfl ?_
                  refine lv_iconst (v := 1) hx hb dL_act_217 (by decide) ?_
                  refine lv_iload hx hb dL_act_218 (lv_at hl 2 rfl) ?_
                  refine lv_bipush (v := 20) hx hb dL_act_220 (by decide) ?_
                  refine x_calli hW (x_runSE B hW hE (As := [.int r_17, .int 20]) (rest := .int 1 :: .int (nI j_214) :: .ref (ad jO) :: []) (h_L_low (D := D) (ad := ad) (V := V) l _ S r_17 20 20 rfl (by decide) (by decide)) (va_cwS 2 B.1.2.2.2.2 gL_act_L_low rfl rfl rfl hd_L_low.2 ⟨Nat.le_of_ble_eq_true rfl, Nat.le_of_ble_eq_true rfl⟩) rfl hls (Nat.le_of_ble_eq_true rfl) dL_act_222 ⟨Nat.le_of_ble_eq_true rfl, Nat.le_of_ble_eq_true rfl⟩) (fun r_222 S9 H locs he hW => ?_)
                  obtain ⟨⟨j_222, hj_222, ej_222⟩, he⟩ := he
                  rw [show S9 = S from he] at hW
                  subst ej_222
                  refine W.eq (g2 := F0 mm 225 ls (.int (nI j_222) :: .int 1 :: .int (nI j_214) :: .ref (ad jO) :: [])) rfl ?_
                  refine lv_iadd hx hb dL_act_225 ?_
                  refine lb_ok hW (x_runVX B hW hE (As := [.int (nI j_214), .int (1 + (nI j_222))]) (rest := []) hqj cC_j cls4 (c_X4_set (D := D) (ad := ad) (V := V) l _ hl0 S ((nI j_214)) ((1 + (nI j_222)))) (cwV 2 B.1.2.2.2.2 gL_act_X4_set rfl rfl rfl hd_X4_set ⟨Nat.le_of_ble_eq_true rfl, Nat.le_of_ble_eq_true rfl⟩) rfl hls (Nat.le_of_ble_eq_true rfl) dL_act_226 ⟨Nat.le_of_ble_eq_true rfl, Nat.le_of_ble_eq_true rfl⟩) (ok_set hrx hj_214 (rng_set hj_214 hj_222).1 (rng_set hj_214 hj_222).2).2 (fun H locs hW => ?_)
                  exact x_end ⟨Nat.le_of_ble_eq_true rfl, Nat.le_of_ble_eq_true rfl⟩ (x_iret B hW (ok_so (ok_set hrx hj_214 (rng_set hj_214 hj_222).1 (rng_set hj_214 hj_222).2).1 (ok_set hrx hj_214 (rng_set hj_214 hj_222).1 (rng_set hj_214 hj_222).2).2) dL_act_229)
                · skip
                  refine lv_aload_n hx hb dL_act_202 rfl (lv_at hl 4 rfl) ?_
                  refine lv_iload_n hx hb dL_act_203 rfl (lv_at hl 3 rfl) ?_
                  refine lb_help B hW hE (As := [.ref (ad jO), .int (nI j_9)]) (rest := []) (h_L_leave (D := D) (ad := ad) (V := V) l _ hl0 S ((nI j_9)) (ok_leave hrx hm8 hh)) (vx_cwSW 2 B.1.2.2.2.2 gL_act_L_leave rfl rfl rfl hd_L_leave.2 ⟨Nat.le_of_ble_eq_true rfl, Nat.le_of_ble_eq_true rfl⟩) rfl hls (Nat.le_of_ble_eq_true rfl) dL_act_204 ⟨Nat.le_of_ble_eq_true rfl, Nat.le_of_ble_eq_true rfl⟩ (fun r_204 S9 H locs he hW => ?_)
                  refine lv_goto (tgt := 229) hx hb dL_act_207 (by decide) ?_
                  exact x_end ⟨Nat.le_of_ble_eq_true rfl, Nat.le_of_ble_eq_true rfl⟩ (x_iret B hW he dL_act_229)
              · skip
                refine lv_aload_n hx hb dL_act_180 rfl (lv_at hl 4 rfl) ?_
                refine lv_iload_n hx hb dL_act_181 rfl (lv_at hl 3 rfl) ?_
                refine lv_iconst (v := 1) hx hb dL_act_182 (by decide) ?_
                refine lv_iload hx hb dL_act_183 (lv_at hl 2 rfl) ?_
                refine lv_bipush (v := 30) hx hb dL_act_185 (by decide) ?_
                refine x_calli hW (x_runSE B hW hE (As := [.int r_17, .int 30]) (rest := .int 1 :: .int (nI j_9) :: .ref (ad jO) :: []) (h_L_low (D := D) (ad := ad) (V := V) l _ S r_17 30 30 rfl (by decide) (by decide)) (va_cwS 2 B.1.2.2.2.2 gL_act_L_low rfl rfl rfl hd_L_low.2 ⟨Nat.le_of_ble_eq_true rfl, Nat.le_of_ble_eq_true rfl⟩) rfl hls (Nat.le_of_ble_eq_true rfl) dL_act_187 ⟨Nat.le_of_ble_eq_true rfl, Nat.le_of_ble_eq_true rfl⟩) (fun r_187 S9 H locs he hW => ?_)
                obtain ⟨⟨j_187, hj_187, ej_187⟩, he⟩ := he
                rw [show S9 = S from he] at hW
                subst ej_187
                refine W.eq (g2 := F0 mm 190 ls (.int (nI j_187) :: .int 1 :: .int (nI j_9) :: .ref (ad jO) :: [])) rfl ?_
                refine lv_iadd hx hb dL_act_190 ?_
                refine lb_help B hW hE (As := [.ref (ad jO), .int (nI j_9), .int (1 + (nI j_187))]) (rest := []) (h_L_help (D := D) (ad := ad) (V := V) l _ hl0 S ((nI j_9)) ((1 + (nI j_187))) (ok_help hrx hm8 hh ⟨by rw [show (1 : Int32) = nI 1 from rfl, rng_add hj_187 (by decide) (by decide)]; omega, by rw [show (1 : Int32) = nI 1 from rfl, rng_add hj_187 (by decide) (by decide)]; omega⟩)) (vx_cwSW 3 B.1.2.2.2.2 gL_act_L_help rfl rfl rfl hd_L_help.2 ⟨Nat.le_of_ble_eq_true rfl, Nat.le_of_ble_eq_true rfl⟩) rfl hls (Nat.le_of_ble_eq_true rfl) dL_act_191 ⟨Nat.le_of_ble_eq_true rfl, Nat.le_of_ble_eq_true rfl⟩ (fun r_191 S9 H locs he hW => ?_)
                exact x_end ⟨Nat.le_of_ble_eq_true rfl, Nat.le_of_ble_eq_true rfl⟩ (x_iret B hW he dL_act_194)
            · skip
              refine lv_aload_n hx hb dL_act_158 rfl (lv_at hl 4 rfl) ?_
              refine lv_iload_n hx hb dL_act_159 rfl (lv_at hl 3 rfl) ?_
              refine lv_iconst (v := 1) hx hb dL_act_160 (by decide) ?_
              refine lv_iload hx hb dL_act_161 (lv_at hl 2 rfl) ?_
              refine lv_bipush (v := 80) hx hb dL_act_163 (by decide) ?_
              refine x_calli hW (x_runSE B hW hE (As := [.int r_17, .int 80]) (rest := .int 1 :: .int (nI j_9) :: .ref (ad jO) :: []) (h_L_low (D := D) (ad := ad) (V := V) l _ S r_17 80 80 rfl (by decide) (by decide)) (va_cwS 2 B.1.2.2.2.2 gL_act_L_low rfl rfl rfl hd_L_low.2 ⟨Nat.le_of_ble_eq_true rfl, Nat.le_of_ble_eq_true rfl⟩) rfl hls (Nat.le_of_ble_eq_true rfl) dL_act_165 ⟨Nat.le_of_ble_eq_true rfl, Nat.le_of_ble_eq_true rfl⟩) (fun r_165 S9 H locs he hW => ?_)
              obtain ⟨⟨j_165, hj_165, ej_165⟩, he⟩ := he
              rw [show S9 = S from he] at hW
              subst ej_165
              refine W.eq (g2 := F0 mm 168 ls (.int (nI j_165) :: .int 1 :: .int (nI j_9) :: .ref (ad jO) :: [])) rfl ?_
              refine lv_iadd hx hb dL_act_168 ?_
              refine lb_help B hW hE (As := [.ref (ad jO), .int (nI j_9), .int (1 + (nI j_165))]) (rest := []) (h_L_payBack (D := D) (ad := ad) (V := V) l _ hl0 S ((nI j_9)) ((1 + (nI j_165))) (ok_payBack hrx hm8 hh ⟨by rw [show (1 : Int32) = nI 1 from rfl, rng_add hj_165 (by decide) (by decide)]; omega, by rw [show (1 : Int32) = nI 1 from rfl, rng_add hj_165 (by decide) (by decide)]; omega⟩)) (vx_cwSW 3 B.1.2.2.2.2 gL_act_L_payBack rfl rfl rfl hd_L_payBack.2 ⟨Nat.le_of_ble_eq_true rfl, Nat.le_of_ble_eq_true rfl⟩) rfl hls (Nat.le_of_ble_eq_true rfl) dL_act_169 ⟨Nat.le_of_ble_eq_true rfl, Nat.le_of_ble_eq_true rfl⟩ (fun r_169 S9 H locs he hW => ?_)
              exact x_end ⟨Nat.le_of_ble_eq_true rfl, Nat.le_of_ble_eq_true rfl⟩ (x_iret B hW he dL_act_172)
          · skip
            refine lv_aload_n hx hb dL_act_145 rfl (lv_at hl 4 rfl) ?_
            refine lv_iload_n hx hb dL_act_146 rfl (lv_at hl 3 rfl) ?_
            refine lb_ok hW (x_runVX B hW hE (As := [.int (nI j_9)]) (rest := []) hqj cC_j cls4 (c_X4_absent (D := D) (ad := ad) (V := V) l _ hl0 S ((nI j_9))) (cwV 1 B.1.2.2.2.2 gL_act_X4_absent rfl rfl rfl hd_X4_absent ⟨Nat.le_of_ble_eq_true rfl, Nat.le_of_ble_eq_true rfl⟩) rfl hls (Nat.le_of_ble_eq_true rfl) dL_act_147 ⟨Nat.le_of_ble_eq_true rfl, Nat.le_of_ble_eq_true rfl⟩) (ok_absent hrx hm8 hh).2 (fun H locs hW => ?_)
            exact x_end ⟨Nat.le_of_ble_eq_true rfl, Nat.le_of_ble_eq_true rfl⟩ (x_iret B hW (ok_so (ok_absent hrx hm8 hh).1 (ok_absent hrx hm8 hh).2) dL_act_150)
        · skip
          refine lv_aload_n hx hb dL_act_112 rfl (lv_at hl 4 rfl) ?_
          refine lv_iload_n hx hb dL_act_113 rfl (lv_at hl 3 rfl) ?_
          refine lv_bipush (v := 10) hx hb dL_act_114 (by decide) ?_
          refine lv_iload hx hb dL_act_116 (lv_at hl 2 rfl) ?_
          refine lv_sipush (v := 200) hx hb dL_act_118 (by decide) ?_
          refine x_calli hW (x_runSE B hW hE (As := [.int r_17, .int 200]) (rest := .int 10 :: .int (nI j_9) :: .ref (ad jO) :: []) (h_L_low (D := D) (ad := ad) (V := V) l _ S r_17 200 200 rfl (by decide) (by decide)) (va_cwS 2 B.1.2.2.2.2 gL_act_L_low rfl rfl rfl hd_L_low.2 ⟨Nat.le_of_ble_eq_true rfl, Nat.le_of_ble_eq_true rfl⟩) rfl hls (Nat.le_of_ble_eq_true rfl) dL_act_121 ⟨Nat.le_of_ble_eq_true rfl, Nat.le_of_ble_eq_true rfl⟩) (fun r_121 S9 H locs he hW => ?_)
          obtain ⟨⟨j_121, hj_121, ej_121⟩, he⟩ := he
          rw [show S9 = S from he] at hW
          subst ej_121
          refine W.eq (g2 := F0 mm 124 ls (.int (nI j_121) :: .int 10 :: .int (nI j_9) :: .ref (ad jO) :: [])) rfl ?_
          refine lv_iadd hx hb dL_act_124 ?_
          refine lv_iconst (v := 1) hx hb dL_act_125 (by decide) ?_
          refine lv_iload hx hb dL_act_126 (lv_at hl 1 rfl) ?_
          refine lv_bipush (v := 15) hx hb dL_act_128 (by decide) ?_
          refine x_calli hW (x_runSE B hW hE (As := [.int r_26, .int 15]) (rest := .int 1 :: .int (10 + (nI j_121)) :: .int (nI j_9) :: .ref (ad jO) :: []) (h_L_low (D := D) (ad := ad) (V := V) l _ S r_26 15 15 rfl (by decide) (by decide)) (va_cwS 2 B.1.2.2.2.2 gL_act_L_low rfl rfl rfl hd_L_low.2 ⟨Nat.le_of_ble_eq_true rfl, Nat.le_of_ble_eq_true rfl⟩) rfl hls (Nat.le_of_ble_eq_true rfl) dL_act_130 ⟨Nat.le_of_ble_eq_true rfl, Nat.le_of_ble_eq_true rfl⟩) (fun r_130 S9 H locs he hW => ?_)
          obtain ⟨⟨j_130, hj_130, ej_130⟩, he⟩ := he
          rw [show S9 = S from he] at hW
          subst ej_130
          refine W.eq (g2 := F0 mm 133 ls (.int (nI j_130) :: .int 1 :: .int (10 + (nI j_121)) :: .int (nI j_9) :: .ref (ad jO) :: [])) rfl ?_
          refine lv_iadd hx hb dL_act_133 ?_
          refine lb_help B hW hE (As := [.ref (ad jO), .int (nI j_9), .int (10 + (nI j_121)), .int (1 + (nI j_130))]) (rest := []) (h_L_lend (D := D) (ad := ad) (V := V) l _ hl0 S ((nI j_9)) ((10 + (nI j_121))) ((1 + (nI j_130))) (ok_lend hrx hm8 hh ⟨by rw [show (10 : Int32) = nI 10 from rfl, rng_add hj_121 (by decide) (by decide)]; omega, by rw [show (10 : Int32) = nI 10 from rfl, rng_add hj_121 (by decide) (by decide)]; omega⟩ ⟨by rw [show (1 : Int32) = nI 1 from rfl, rng_add hj_130 (by decide) (by decide)]; omega, by rw [show (1 : Int32) = nI 1 from rfl, rng_add hj_130 (by decide) (by decide)]; omega⟩)) (vx_cwSW 4 B.1.2.2.2.2 gL_act_L_lend rfl rfl rfl hd_L_lend.2 ⟨Nat.le_of_ble_eq_true rfl, Nat.le_of_ble_eq_true rfl⟩) rfl hls (Nat.le_of_ble_eq_true rfl) dL_act_134 ⟨Nat.le_of_ble_eq_true rfl, Nat.le_of_ble_eq_true rfl⟩ (fun r_134 S9 H locs he hW => ?_)
          exact x_end ⟨Nat.le_of_ble_eq_true rfl, Nat.le_of_ble_eq_true rfl⟩ (x_iret B hW he dL_act_137)
      · skip
        refine lv_bipush (v := (-4)) hx hb dL_act_102 (by decide) ?_
        exact x_end ⟨Nat.le_of_ble_eq_true rfl, Nat.le_of_ble_eq_true rfl⟩ (x_iret B hW (Or.inr rfl) dL_act_104)
    · skip
      refine lv_iload hx hb dL_act_61 (lv_at hl 0 rfl) ?_
      refine lv_bipush (v := 18) hx hb dL_act_63 (by decide) ?_
      refine lv_icmp_ge (tgt := 75) hx hb dL_act_65 (by decide) (fun c65 => ?_) (fun c65 => ?_)
      · skip
        refine lv_iload hx hb dL_act_75 (lv_at hl 0 rfl) ?_
        refine lv_bipush (v := 18) hx hb dL_act_77 (by decide) ?_
        refine lv_icmp_ne (tgt := 89) hx hb dL_act_79 (by decide) (fun c79 => ?_) (fun c79 => ?_)
        · skip
          refine lv_aload_n hx hb dL_act_89 rfl (lv_at hl 4 rfl) ?_
          refine lb_help B hW hE (As := [.ref (ad jO)]) (rest := []) (h_L_undo (D := D) (ad := ad) (V := V) l _ hl0 S (ok_undo hrx)) (vx_cwSW 1 B.1.2.2.2.2 gL_act_L_undo rfl rfl rfl hd_L_undo.2 ⟨Nat.le_of_ble_eq_true rfl, Nat.le_of_ble_eq_true rfl⟩) rfl hls (Nat.le_of_ble_eq_true rfl) dL_act_90 ⟨Nat.le_of_ble_eq_true rfl, Nat.le_of_ble_eq_true rfl⟩ (fun r_90 S9 H locs he hW => ?_)
          exact x_end ⟨Nat.le_of_ble_eq_true rfl, Nat.le_of_ble_eq_true rfl⟩ (x_iret B hW he dL_act_93)
        · skip
          refine lv_aload_n hx hb dL_act_82 rfl (lv_at hl 4 rfl) ?_
          refine lb_help B hW hE (As := [.ref (ad jO)]) (rest := []) (h_L_cycle (D := D) (ad := ad) (V := V) l _ hl0 S (ok_cycle hrx (by omega))) (vx_cwSW 1 B.1.2.2.2.2 gL_act_L_cycle rfl rfl rfl hd_L_cycle.2 ⟨Nat.le_of_ble_eq_true rfl, Nat.le_of_ble_eq_true rfl⟩) rfl hls (Nat.le_of_ble_eq_true rfl) dL_act_83 ⟨Nat.le_of_ble_eq_true rfl, Nat.le_of_ble_eq_true rfl⟩ (fun r_83 S9 H locs he hW => ?_)
          refine lv_goto (tgt := 93) hx hb dL_act_86 (by decide) ?_
          exact x_end ⟨Nat.le_of_ble_eq_true rfl, Nat.le_of_ble_eq_true rfl⟩ (x_iret B hW he dL_act_93)
      · skip
        refine lv_aload_n hx hb dL_act_68 rfl (lv_at hl 4 rfl) ?_
        refine lb_ok hW (x_runVX B hW hE (As := []) (rest := []) hqj cC_j cls4 (c_X4_week (D := D) (ad := ad) (V := V) l _ hl0 S) (cwV 0 B.1.2.2.2.2 gL_act_X4_week rfl rfl rfl hd_X4_week ⟨Nat.le_of_ble_eq_true rfl, Nat.le_of_ble_eq_true rfl⟩) rfl hls (Nat.le_of_ble_eq_true rfl) dL_act_69 ⟨Nat.le_of_ble_eq_true rfl, Nat.le_of_ble_eq_true rfl⟩) (week_0 hrx hcy) (fun H locs hW => ?_)
        refine lv_goto (tgt := 93) hx hb dL_act_72 (by decide) ?_
        exact x_end ⟨Nat.le_of_ble_eq_true rfl, Nat.le_of_ble_eq_true rfl⟩ (x_iret B hW (ok_so (ok_week hrx) (week_0 hrx hcy)) dL_act_93)
  · skip
    refine lv_aload_n hx hb dL_act_49 rfl (lv_at hl 4 rfl) ?_
    refine lb_help B hW hE (As := [.ref (ad jO)]) (rest := []) (h_L_join (D := D) (ad := ad) (V := V) l _ hl0 S (ok_join hrx)) (vx_cwSW 1 B.1.2.2.2.2 gL_act_L_join rfl rfl rfl hd_L_join.2 ⟨Nat.le_of_ble_eq_true rfl, Nat.le_of_ble_eq_true rfl⟩) rfl hls (Nat.le_of_ble_eq_true rfl) dL_act_50 ⟨Nat.le_of_ble_eq_true rfl, Nat.le_of_ble_eq_true rfl⟩ (fun r_50 S9 H locs he hW => ?_)
    exact x_end ⟨Nat.le_of_ble_eq_true rfl, Nat.le_of_ble_eq_true rfl⟩ (x_iret B hW he dL_act_53)
end DACT
