section DBK3
variable {p : Program} {l : Launch} {e : Env} {s : State} {mm : MethodId} {args : Array Value} {below : List Frame} {meth : Method} {c : Code} {Q : State → Prop} {D : va_G} {ad : Nat → Nat} {A : Nat → Prop} {V : vE} {S : vS} {cy : Int} {m : Nat} {H : Heap} {locs : List Loc} {cells slots : Nat} {ls : Array Slot}
theorem bk_outer (B : Cx p mm c cL_books 14 s args wsL_books RL meth (some .boolean) D) (hl0 : l.stackTraces = false) (hE : nv V A s s.heap) (hrx : RX cy S) (kk : ∀ (H : Heap) (locs : List Loc) (cells slots : Nat) (ls : Array Slot), Wd D 157 (cC D ad) ad A s.heap S H locs → lv_has ls 14 [(0, .ref (ad jO)), (1, .int (pS (bC (cv S 0)) 8)), (2, .int (pS (bL (cv S 0)) 8)), (3, .int (pS (bB (cv S 0)) 8)), (4, .int (pS (bF (cv S 0)) 8)), (5, .int (pS (bR (cv S 0)) 8)), (6, .int (pS (bO (cv S 0)) 8)), (7, .int (pS (bA (cv S 0)) 8)), (8, .int (pM (bQ (cv S 0)) 8)), (9, .int 1), (10, .int (nI 8))] → cells ≤ 1024 → slots ≤ 6144 → W p l e (rmX 9 1300) s mm args below meth c H locs cells slots Q (F0 mm 502 ls [])) : ∀ (n m : Nat) (H : Heap) (locs : List Loc) (cells slots : Nat) (ls : Array Slot), m + n = 8 → Wd D 157 (cC D ad) ad A s.heap S H locs → lv_has ls 14 [(0, .ref (ad jO)), (1, .int (pS (bC (cv S 0)) m)), (2, .int (pS (bL (cv S 0)) m)), (3, .int (pS (bB (cv S 0)) m)), (4, .int (pS (bF (cv S 0)) m)), (5, .int (pS (bR (cv S 0)) m)), (6, .int (pS (bO (cv S 0)) m)), (7, .int (pS (bA (cv S 0)) m)), (8, .int (pM (bQ (cv S 0)) m)), (9, .int 1), (10, .int (nI m))] → cells ≤ 128 * m → slots ≤ 768 * m → W p l e (rmX 9 1300) s mm args below meth c H locs cells slots Q (F0 mm 27 ls []) := by
  have hx := B.1.1
  have hb := B.1.2.1
  intro n
  induction n with
  | zero =>
    intro m H locs cells slots ls hi hW hl hc hs
    obtain rfl : m = 8 := by omega
    have hls := hl.1
    refine lv_iload hx hb dL_books_27 (lv_at hl 10 rfl) ?_
    refine lv_bipush (v := 8) hx hb dL_books_29 (by decide) ?_
    refine lv_icmp_ge (tgt := 502) hx hb dL_books_31 (by decide) (fun _ => ?_) (fun q => absurd le8 q)
    exact kk _ _ _ _ _ hW hl (by omega) (by omega)
  | succ n ih =>
    intro m H locs cells slots ls hi hW hl hc hs
    have hls := hl.1
    have hm : m < 8 := by omega
    refine lv_iload hx hb dL_books_27 (lv_at hl 10 rfl) ?_
    refine lv_bipush (v := 8) hx hb dL_books_29 (by decide) ?_
    refine lv_icmp_ge (tgt := 502) hx hb dL_books_31 (by decide) (fun q => absurd q (ge8 hm)) (fun _ => ?_)
    refine lv_iload hx hb dL_books_34 (lv_at hl 9 rfl) ?_
    refine lv_if_eq (tgt := 502) hx hb dL_books_36 (by decide) (fun q => absurd q (by decide)) (fun _ => ?_)
    by_cases hh : cv S 0 (13 + 14 * m + 0) = 0
    · skip
      refine lv_aload_n hx hb dL_books_39 rfl (lv_at hl 0 rfl) ?_
      refine lv_iload hx hb dL_books_40 (lv_at hl 10 rfl) ?_
      refine lb_help B hW hE (As := [.ref (ad jO), .int (nI m)]) (rest := []) (h_L_isMember (D := D) (ad := ad) (V := V) l _ hl0 S hrx m hm) (vx_cwSW 2 B.1.2.2.2.2 gL_books_L_isMember rfl rfl rfl hd_L_isMember.2 ⟨Nat.le_of_ble_eq_true rfl, Nat.le_of_ble_eq_true rfl⟩) rfl hls (Nat.le_of_ble_eq_true rfl) dL_books_42 ⟨by show _ ≤ 1300; omega, by show _ ≤ 7800; omega⟩ (fun r_42 S9 H locs he hW => ?_)
      obtain ⟨hr, he⟩ := he
      rw [he] at hW
      rw [if_pos hh] at hr
      subst hr
      refine lv_if_eq (tgt := 496) hx hb dL_books_45 (by decide) (fun _ => ?_) (fun q => absurd rfl q)
      refine lv_iinc (v := (nI (m + 1))) (lv' := [(10, .int (nI (m + 1))), (0, .ref (ad jO)), (1, .int (pS (bC (cv S 0)) m)), (2, .int (pS (bL (cv S 0)) m)), (3, .int (pS (bB (cv S 0)) m)), (4, .int (pS (bF (cv S 0)) m)), (5, .int (pS (bR (cv S 0)) m)), (6, .int (pS (bO (cv S 0)) m)), (7, .int (pS (bA (cv S 0)) m)), (8, .int (pM (bQ (cv S 0)) m)), (9, .int 1)]) hx hb dL_books_496 hl (k := 10) rfl (nI_1 _) (by decide) rfl (fun ls hl => ?_)
      have hls := hl.1
      refine lv_goto (tgt := 27) hx hb dL_books_499 (by decide) ?_
      have hl := lv_sub hl [1, 2, 3, 4, 5, 6, 7, 8, 9, 10, 0] rfl
      obtain ⟨z1, z2, z3, z4, z5, z6, z7, z8⟩ := nh_zero hrx hm hh
      have e1 : pS (bC (cv S 0)) m = pS (bC (cv S 0)) (m + 1) := by show _ = pS _ m + bC (cv S 0) m; rw [z1, Int32.add_zero]
      have e2 : pS (bL (cv S 0)) m = pS (bL (cv S 0)) (m + 1) := by show _ = pS _ m + bL (cv S 0) m; rw [z2, Int32.add_zero]
      have e3 : pS (bB (cv S 0)) m = pS (bB (cv S 0)) (m + 1) := by show _ = pS _ m + bB (cv S 0) m; rw [z3, Int32.add_zero]
      have e4 : pS (bF (cv S 0)) m = pS (bF (cv S 0)) (m + 1) := by show _ = pS _ m + bF (cv S 0) m; rw [z4, Int32.add_zero]
      have e5 : pS (bR (cv S 0)) m = pS (bR (cv S 0)) (m + 1) := by show _ = pS _ m + bR (cv S 0) m; rw [z5, Int32.add_zero]
      have e6 : pS (bO (cv S 0)) m = pS (bO (cv S 0)) (m + 1) := by show _ = pS _ m + bO (cv S 0) m; rw [z6, Int32.add_zero]
      have e7 : pS (bA (cv S 0)) m = pS (bA (cv S 0)) (m + 1) := by show _ = pS _ m + bA (cv S 0) m; rw [z7, Int32.add_zero]
      have e8 : pM (bQ (cv S 0)) m = pM (bQ (cv S 0)) (m + 1) := by
        show _ = if pM (bQ (cv S 0)) m < bQ (cv S 0) m then bQ (cv S 0) m else pM (bQ (cv S 0)) m
        have := pM_nn (bQ_nn hrx) m (by omega)
        rw [z8, if_neg (by rw [Int32.lt_iff_toInt_lt, z32]; omega)]
      rw [e1, e2, e3, e4, e5, e6, e7, e8] at hl
      exact ih (m + 1) _ _ _ _ _ (by omega) hW hl (by omega) (by omega)
    · skip
      refine lv_aload_n hx hb dL_books_39 rfl (lv_at hl 0 rfl) ?_
      refine lv_iload hx hb dL_books_40 (lv_at hl 10 rfl) ?_
      refine lb_help B hW hE (As := [.ref (ad jO), .int (nI m)]) (rest := []) (h_L_isMember (D := D) (ad := ad) (V := V) l _ hl0 S hrx m hm) (vx_cwSW 2 B.1.2.2.2.2 gL_books_L_isMember rfl rfl rfl hd_L_isMember.2 ⟨Nat.le_of_ble_eq_true rfl, Nat.le_of_ble_eq_true rfl⟩) rfl hls (Nat.le_of_ble_eq_true rfl) dL_books_42 ⟨by show _ ≤ 1300; omega, by show _ ≤ 7800; omega⟩ (fun r_42 S9 H locs he hW => ?_)
      obtain ⟨hr, he⟩ := he
      rw [he] at hW
      rw [if_neg hh] at hr
      subst hr
      refine lv_if_eq (tgt := 496) hx hb dL_books_45 (by decide) (fun q => absurd q (by decide)) (fun _ => ?_)
      refine lv_iconst (v := 0) hx hb dL_books_48 (by decide) ?_
      refine lv_istore (lv' := [(11, .int 0), (0, .ref (ad jO)), (1, .int (pS (bC (cv S 0)) m)), (2, .int (pS (bL (cv S 0)) m)), (3, .int (pS (bB (cv S 0)) m)), (4, .int (pS (bF (cv S 0)) m)), (5, .int (pS (bR (cv S 0)) m)), (6, .int (pS (bO (cv S 0)) m)), (7, .int (pS (bA (cv S 0)) m)), (8, .int (pM (bQ (cv S 0)) m)), (9, .int 1), (10, .int (nI m))]) hx hb dL_books_49 hl (by decide) rfl (fun ls hl => ?_)
      have hls := hl.1
      refine lv_iconst (v := 0) hx hb dL_books_51 (by decide) ?_
      refine lv_istore (lv' := [(12, .int 0), (11, .int 0), (0, .ref (ad jO)), (1, .int (pS (bC (cv S 0)) m)), (2, .int (pS (bL (cv S 0)) m)), (3, .int (pS (bB (cv S 0)) m)), (4, .int (pS (bF (cv S 0)) m)), (5, .int (pS (bR (cv S 0)) m)), (6, .int (pS (bO (cv S 0)) m)), (7, .int (pS (bA (cv S 0)) m)), (8, .int (pM (bQ (cv S 0)) m)), (9, .int 1), (10, .int (nI m))]) hx hb dL_books_52 hl (by decide) rfl (fun ls hl => ?_)
      have hls := hl.1
      refine lv_iconst (v := 0) hx hb dL_books_54 (by decide) ?_
      refine lv_istore (lv' := [(13, .int 0), (12, .int 0), (11, .int 0), (0, .ref (ad jO)), (1, .int (pS (bC (cv S 0)) m)), (2, .int (pS (bL (cv S 0)) m)), (3, .int (pS (bB (cv S 0)) m)), (4, .int (pS (bF (cv S 0)) m)), (5, .int (pS (bR (cv S 0)) m)), (6, .int (pS (bO (cv S 0)) m)), (7, .int (pS (bA (cv S 0)) m)), (8, .int (pM (bQ (cv S 0)) m)), (9, .int 1), (10, .int (nI m))]) hx hb dL_books_55 hl (by decide) rfl (fun ls hl => ?_)
      have hls := hl.1
      have hl := lv_sub hl [3, 4, 5, 6, 7, 8, 9, 10, 11, 12, 13, 2, 1, 0] rfl
      have hl : lv_has ls 14 [(0, .ref (ad jO)), (1, .int (pS (bC (cv S 0)) m)), (2, .int (pS (bL (cv S 0)) m)), (3, .int (pS (bB (cv S 0)) m)), (4, .int (pS (bF (cv S 0)) m)), (5, .int (pS (bR (cv S 0)) m)), (6, .int (pS (bO (cv S 0)) m)), (7, .int (pS (bA (cv S 0)) m)), (8, .int (pM (bQ (cv S 0)) m)), (9, .int 1), (10, .int (nI m)), (11, .int (pS (fun o => cv S 0 (125 + 8 * m + o)) 0)), (12, .int (pS (fun o => cv S 0 (125 + 8 * o + m)) 0)), (13, .int (nI 0))] := hl
      refine bk_inner B hl0 hE hrx hm hh (C0 := 128 * m + 2) (by omega) (fun H locs cells slots ls hW hl hc hs => ?_) 8 0 _ _ _ _ _ rfl hW hl (by omega) (by omega)
      refine bk_A1 B hl0 hE hrx hm hh (C0 := 128 * m + 66) (by omega) hW hl (by omega) (by omega) (fun H locs cells slots ls hW hl hc hs => ?_)
      refine bk_A2 B hl0 hE hrx hm hh (v9 := 1) (C0 := 128 * m + 84) (by omega) hW hl (by omega) (by omega) (fun H locs cells slots ls hW hl hc hs => ?_)
      refine bk_A3 B hl0 hE hrx hm hh (v9 := 1) (C0 := 128 * m + 100) (by omega) hW hl (by omega) (by omega) (fun H locs cells slots ls hW hl hc hs => ?_)
      refine bk_A4 B hl0 hE hrx hm hh (v9 := 1) (C0 := 128 * m + 108) (by omega) hW hl (by omega) (by omega) (fun H locs cells slots ls hW hl hc hs => ?_)
      have hls := hl.1
      refine lv_iinc (v := (nI (m + 1))) (lv' := [(10, .int (nI (m + 1))), (0, .ref (ad jO)), (1, .int (pS (bC (cv S 0)) m + 1)), (2, .int (pS (bL (cv S 0)) m + (pV (cv S 0) m 2))), (3, .int (pS (bB (cv S 0)) m + (pV (cv S 0) m 8))), (4, .int (pS (bF (cv S 0)) m + (pV (cv S 0) m 9))), (5, .int (pS (bR (cv S 0)) m + s8 (fun o => cv S 0 (125 + 8 * m + o)))), (6, .int (pS (bO (cv S 0)) m + s8 (fun o => cv S 0 (125 + 8 * o + m)))), (7, .int (pS (bA (cv S 0)) m + (pV (cv S 0) m 5))), (8, .int (if pM (bQ (cv S 0)) m < (pV (cv S 0) m 3) then (pV (cv S 0) m 3) else pM (bQ (cv S 0)) m)), (9, .int 1), (11, .int (s8 (fun o => cv S 0 (125 + 8 * m + o)))), (12, .int (s8 (fun o => cv S 0 (125 + 8 * o + m)))), (13, .int (nI 8))]) hx hb dL_books_496 hl (k := 10) rfl (nI_1 _) (by decide) rfl (fun ls hl => ?_)
      have hls := hl.1
      refine lv_goto (tgt := 27) hx hb dL_books_499 (by decide) ?_
      have hl := lv_sub hl [1, 2, 3, 4, 5, 6, 7, 8, 9, 10, 0] rfl
      have e1 : pS (bC (cv S 0)) m + 1 = pS (bC (cv S 0)) (m + 1) := by show _ = pS _ m + bC (cv S 0) m; rw [show bC (cv S 0) m = 1 from if_neg hh]
      have e7 : pS (bA (cv S 0)) m + (pV (cv S 0) m 5) = pS (bA (cv S 0)) (m + 1) := by show _ = pS _ m + bA (cv S 0) m; rw [show bA (cv S 0) m = (pV (cv S 0) m 5) from if_neg hh]
      rw [e1, e7] at hl
      exact ih (m + 1) _ _ _ _ _ (by omega) hW hl (by omega) (by omega)
end DBK3
