section DBK4
variable {p : Program} {l : Launch} {e : Env} {s : State} {mm : MethodId} {args : Array Value} {below : List Frame} {meth : Method} {c : Code} {Q : State → Prop} {D : va_G} {ad : Nat → Nat} {A : Nat → Prop} {V : vE} {S : vS} {cy : Int} {m : Nat} {H : Heap} {locs : List Loc} {cells slots : Nat} {ls : Array Slot}
theorem bk_B1 (B : Cx p mm c cL_books 14 s args wsL_books RL meth (some .boolean) D) (hl0 : l.stackTraces = false) (hE : nv V A s s.heap) (hrx : RX cy S) {C0 : Nat} (hC0 : C0 ≤ 1150) (hW : Wd D 157 (cC D ad) ad A s.heap S H locs) (hl : lv_has ls 14 [(0, .ref (ad jO)), (1, .int (pS (bC (cv S 0)) 8)), (2, .int (pS (bL (cv S 0)) 8)), (3, .int (pS (bB (cv S 0)) 8)), (4, .int (pS (bF (cv S 0)) 8)), (5, .int (pS (bR (cv S 0)) 8)), (6, .int (pS (bO (cv S 0)) 8)), (7, .int (pS (bA (cv S 0)) 8)), (8, .int (pM (bQ (cv S 0)) 8)), (9, .int 1), (10, .int (nI 8))]) (hc : cells ≤ C0) (hs : slots ≤ 6 * C0) (kk : ∀ (H : Heap) (locs : List Loc) (cells slots : Nat) (ls : Array Slot), Wd D 157 (cC D ad) ad A s.heap S H locs → lv_has ls 14 [(0, .ref (ad jO)), (1, .int (pS (bC (cv S 0)) 8)), (2, .int (pS (bL (cv S 0)) 8)), (3, .int (pS (bB (cv S 0)) 8)), (4, .int (pS (bF (cv S 0)) 8)), (5, .int (pS (bR (cv S 0)) 8)), (6, .int (pS (bO (cv S 0)) 8)), (7, .int (pS (bA (cv S 0)) 8)), (8, .int (pM (bQ (cv S 0)) 8)), (9, .int 1), (10, .int (nI 8))] → cells ≤ C0 + 8 → slots ≤ 6 * C0 + 6 * 8 → W p l e (rmX 9 1300) s mm args below meth c H locs cells slots Q (F0 mm 591 ls [])) : W p l e (rmX 9 1300) s mm args below meth c H locs cells slots Q (F0 mm 502 ls []) := by
  have hx := B.1.1
  have hb := B.1.2.1
  have hls := hl.1
  refine lv_iload hx hb dL_books_502 (lv_at hl 9 rfl) ?_
  refine lv_if_eq (tgt := 588) hx hb dL_books_504 (by decide) (fun q => absurd q (by decide)) (fun _ => ?_)
  refine lv_iload_n hx hb dL_books_507 rfl (lv_at hl 1 rfl) ?_
  refine lv_aload_n hx hb dL_books_508 rfl (lv_at hl 0 rfl) ?_
  refine lv_iconst (v := 3) hx hb dL_books_509 (by decide) ?_
  refine lb_pure hW (x_runVX B hW hE (As := [.int 3]) (rest := .int (pS (bC (cv S 0)) 8) :: []) hqj cC_j cls4 (c_X4_count (D := D) (ad := ad) (V := V) l _ hl0 S 3) (cwV 1 B.1.2.2.2.2 gL_books_X4_count rfl rfl rfl hd_X4_count ⟨Nat.le_of_ble_eq_true rfl, Nat.le_of_ble_eq_true rfl⟩) rfl hls (Nat.le_of_ble_eq_true rfl) dL_books_510 ⟨by show _ ≤ 1300; omega, by show _ ≤ 7800; omega⟩) (rd_count (q := 3) (by decide)) (fun H locs hW => ?_)
  refine lv_icmp_ne (tgt := 588) hx hb dL_books_513 (by decide) (fun q => absurd tf_3 q) (fun _ => ?_)
  refine lv_iload_n hx hb dL_books_516 rfl (lv_at hl 2 rfl) ?_
  refine lv_aload_n hx hb dL_books_517 rfl (lv_at hl 0 rfl) ?_
  refine lv_iconst (v := 5) hx hb dL_books_518 (by decide) ?_
  refine lb_pure hW (x_runVX B hW hE (As := [.int 5]) (rest := .int (pS (bL (cv S 0)) 8) :: []) hqj cC_j cls4 (c_X4_count (D := D) (ad := ad) (V := V) l _ hl0 S 5) (cwV 1 B.1.2.2.2.2 gL_books_X4_count rfl rfl rfl hd_X4_count ⟨Nat.le_of_ble_eq_true rfl, Nat.le_of_ble_eq_true rfl⟩) rfl hls (Nat.le_of_ble_eq_true rfl) dL_books_519 ⟨by show _ ≤ 1300; omega, by show _ ≤ 7800; omega⟩) (rd_count (q := 5) (by decide)) (fun H locs hW => ?_)
  refine lv_icmp_ne (tgt := 588) hx hb dL_books_522 (by decide) (fun q => absurd tf_5 q) (fun _ => ?_)
  refine lv_iload_n hx hb dL_books_525 rfl (lv_at hl 3 rfl) ?_
  refine lv_aload_n hx hb dL_books_526 rfl (lv_at hl 0 rfl) ?_
  refine lv_bipush (v := 6) hx hb dL_books_527 (by decide) ?_
  refine lb_pure hW (x_runVX B hW hE (As := [.int 6]) (rest := .int (pS (bB (cv S 0)) 8) :: []) hqj cC_j cls4 (c_X4_count (D := D) (ad := ad) (V := V) l _ hl0 S 6) (cwV 1 B.1.2.2.2.2 gL_books_X4_count rfl rfl rfl hd_X4_count ⟨Nat.le_of_ble_eq_true rfl, Nat.le_of_ble_eq_true rfl⟩) rfl hls (Nat.le_of_ble_eq_true rfl) dL_books_529 ⟨by show _ ≤ 1300; omega, by show _ ≤ 7800; omega⟩) (rd_count (q := 6) (by decide)) (fun H locs hW => ?_)
  refine lv_icmp_ne (tgt := 588) hx hb dL_books_532 (by decide) (fun q => absurd tf_6 q) (fun _ => ?_)
  refine lv_iload hx hb dL_books_535 (lv_at hl 4 rfl) ?_
  refine lv_aload_n hx hb dL_books_537 rfl (lv_at hl 0 rfl) ?_
  refine lv_bipush (v := 7) hx hb dL_books_538 (by decide) ?_
  refine lb_pure hW (x_runVX B hW hE (As := [.int 7]) (rest := .int (pS (bF (cv S 0)) 8) :: []) hqj cC_j cls4 (c_X4_count (D := D) (ad := ad) (V := V) l _ hl0 S 7) (cwV 1 B.1.2.2.2.2 gL_books_X4_count rfl rfl rfl hd_X4_count ⟨Nat.le_of_ble_eq_true rfl, Nat.le_of_ble_eq_true rfl⟩) rfl hls (Nat.le_of_ble_eq_true rfl) dL_books_540 ⟨by show _ ≤ 1300; omega, by show _ ≤ 7800; omega⟩) (rd_count (q := 7) (by decide)) (fun H locs hW => ?_)
  refine lv_icmp_ne (tgt := 588) hx hb dL_books_543 (by decide) (fun q => absurd tf_7 q) (fun _ => ?_)
  refine lv_iload hx hb dL_books_546 (lv_at hl 5 rfl) ?_
  refine lv_aload_n hx hb dL_books_548 rfl (lv_at hl 0 rfl) ?_
  refine lv_bipush (v := 8) hx hb dL_books_549 (by decide) ?_
  refine lb_pure hW (x_runVX B hW hE (As := [.int 8]) (rest := .int (pS (bR (cv S 0)) 8) :: []) hqj cC_j cls4 (c_X4_count (D := D) (ad := ad) (V := V) l _ hl0 S 8) (cwV 1 B.1.2.2.2.2 gL_books_X4_count rfl rfl rfl hd_X4_count ⟨Nat.le_of_ble_eq_true rfl, Nat.le_of_ble_eq_true rfl⟩) rfl hls (Nat.le_of_ble_eq_true rfl) dL_books_551 ⟨by show _ ≤ 1300; omega, by show _ ≤ 7800; omega⟩) (rd_count (q := 8) (by decide)) (fun H locs hW => ?_)
  refine lv_icmp_ne (tgt := 588) hx hb dL_books_554 (by decide) (fun q => absurd tf_8 q) (fun _ => ?_)
  refine lv_iload hx hb dL_books_557 (lv_at hl 6 rfl) ?_
  refine lv_iload hx hb dL_books_559 (lv_at hl 5 rfl) ?_
  refine lv_icmp_ne (tgt := 588) hx hb dL_books_561 (by decide) (fun q => absurd tf_o q) (fun _ => ?_)
  refine lv_iload hx hb dL_books_564 (lv_at hl 7 rfl) ?_
  refine lv_aload_n hx hb dL_books_566 rfl (lv_at hl 0 rfl) ?_
  refine lv_bipush (v := 14) hx hb dL_books_567 (by decide) ?_
  refine lb_pure hW (x_runVX B hW hE (As := [.int 14]) (rest := .int (pS (bA (cv S 0)) 8) :: []) hqj cC_j cls4 (c_X4_count (D := D) (ad := ad) (V := V) l _ hl0 S 14) (cwV 1 B.1.2.2.2.2 gL_books_X4_count rfl rfl rfl hd_X4_count ⟨Nat.le_of_ble_eq_true rfl, Nat.le_of_ble_eq_true rfl⟩) rfl hls (Nat.le_of_ble_eq_true rfl) dL_books_569 ⟨by show _ ≤ 1300; omega, by show _ ≤ 7800; omega⟩) (rd_count (q := 14) (by decide)) (fun H locs hW => ?_)
  refine lv_icmp_ne (tgt := 588) hx hb dL_books_572 (by decide) (fun q => absurd tf_14 q) (fun _ => ?_)
  refine lv_iload hx hb dL_books_575 (lv_at hl 8 rfl) ?_
  refine lv_aload_n hx hb dL_books_577 rfl (lv_at hl 0 rfl) ?_
  refine lb_p hW (x_runV B hW (As := []) (rest := .int (pM (bQ (cv S 0)) 8) :: []) hqj cC_j cls4 (c_X4_weeksToGo (D := D) (ad := ad) l _ S) (cwV 0 B.1.2.2.2.2 gL_books_X4_weeksToGo rfl rfl rfl hd_X4_weeksToGo ⟨Nat.le_of_ble_eq_true rfl, Nat.le_of_ble_eq_true rfl⟩) rfl hls (Nat.le_of_ble_eq_true rfl) dL_books_578 ⟨by show _ ≤ 1300; omega, by show _ ≤ 7800; omega⟩) tf_w (fun H locs hW => ?_)
  refine lv_icmp_ne (tgt := 588) hx hb dL_books_581 (by decide) (fun q => absurd rfl q) (fun _ => ?_)
  refine lv_iconst (v := 1) hx hb dL_books_584 (by decide) ?_
  refine lv_goto (tgt := 589) hx hb dL_books_585 (by decide) ?_
  refine lv_istore (lv' := [(9, .int 1), (0, .ref (ad jO)), (1, .int (pS (bC (cv S 0)) 8)), (2, .int (pS (bL (cv S 0)) 8)), (3, .int (pS (bB (cv S 0)) 8)), (4, .int (pS (bF (cv S 0)) 8)), (5, .int (pS (bR (cv S 0)) 8)), (6, .int (pS (bO (cv S 0)) 8)), (7, .int (pS (bA (cv S 0)) 8)), (8, .int (pM (bQ (cv S 0)) 8)), (10, .int (nI 8))]) hx hb dL_books_589 hl (by decide) rfl (fun ls hl => ?_)
  have hls := hl.1
  have hl := lv_sub hl [1, 2, 3, 4, 5, 6, 7, 8, 9, 0, 10] rfl
  exact kk _ _ _ _ _ hW hl (by omega) (by omega)
theorem bk_B2 (B : Cx p mm c cL_books 14 s args wsL_books RL meth (some .boolean) D) (hl0 : l.stackTraces = false) (hE : nv V A s s.heap) (hrx : RX cy S) {C0 : Nat} (hC0 : C0 ≤ 1150) (hW : Wd D 157 (cC D ad) ad A s.heap S H locs) (hl : lv_has ls 14 [(0, .ref (ad jO)), (1, .int (pS (bC (cv S 0)) 8)), (2, .int (pS (bL (cv S 0)) 8)), (3, .int (pS (bB (cv S 0)) 8)), (4, .int (pS (bF (cv S 0)) 8)), (5, .int (pS (bR (cv S 0)) 8)), (6, .int (pS (bO (cv S 0)) 8)), (7, .int (pS (bA (cv S 0)) 8)), (8, .int (pM (bQ (cv S 0)) 8)), (9, .int 1), (10, .int (nI 8))]) (hc : cells ≤ C0) (hs : slots ≤ 6 * C0) (kk : ∀ (H : Heap) (locs : List Loc) (cells slots : Nat) (ls : Array Slot), Wd D 157 (cC D ad) ad A s.heap S H locs → lv_has ls 14 [(0, .ref (ad jO)), (1, .int (pS (bC (cv S 0)) 8)), (2, .int (pS (bL (cv S 0)) 8)), (3, .int (pS (bB (cv S 0)) 8)), (4, .int (pS (bF (cv S 0)) 8)), (5, .int (pS (bR (cv S 0)) 8)), (6, .int (pS (bO (cv S 0)) 8)), (7, .int (pS (bA (cv S 0)) 8)), (8, .int (pM (bQ (cv S 0)) 8)), (9, .int 1), (10, .int (nI 8))] → cells ≤ C0 + 14 → slots ≤ 6 * C0 + 6 * 14 → W p l e (rmX 9 1300) s mm args below meth c H locs cells slots Q (F0 mm 673 ls [])) : W p l e (rmX 9 1300) s mm args below meth c H locs cells slots Q (F0 mm 591 ls []) := by
  have hx := B.1.1
  have hb := B.1.2.1
  have hls := hl.1
  rcases tf_chair hrx with hch | ⟨k, hk, ek, hh⟩
  · skip
    refine lv_iload hx hb dL_books_591 (lv_at hl 9 rfl) ?_
    refine lv_if_eq (tgt := 670) hx hb dL_books_593 (by decide) (fun q => absurd q (by decide)) (fun _ => ?_)
    refine lv_aload_n hx hb dL_books_596 rfl (lv_at hl 0 rfl) ?_
    refine lv_iconst (v := 4) hx hb dL_books_597 (by decide) ?_
    refine lb_pure hW (x_runVX B hW hE (As := [.int 4]) (rest := []) hqj cC_j cls4 (c_X4_count (D := D) (ad := ad) (V := V) l _ hl0 S 4) (cwV 1 B.1.2.2.2.2 gL_books_X4_count rfl rfl rfl hd_X4_count ⟨Nat.le_of_ble_eq_true rfl, Nat.le_of_ble_eq_true rfl⟩) rfl hls (Nat.le_of_ble_eq_true rfl) dL_books_598 ⟨by show _ ≤ 1300; omega, by show _ ≤ 7800; omega⟩) (rd_count (q := 4) (by decide)) (fun H locs hW => ?_)
    refine lv_if_lt (tgt := 670) hx hb dL_books_601 (by decide) (fun q => absurd q (tf_4 hrx)) (fun _ => ?_)
    refine lv_aload_n hx hb dL_books_604 rfl (lv_at hl 0 rfl) ?_
    refine lv_bipush (v := 12) hx hb dL_books_605 (by decide) ?_
    refine lb_pure hW (x_runVX B hW hE (As := [.int 12]) (rest := []) hqj cC_j cls4 (c_X4_count (D := D) (ad := ad) (V := V) l _ hl0 S 12) (cwV 1 B.1.2.2.2.2 gL_books_X4_count rfl rfl rfl hd_X4_count ⟨Nat.le_of_ble_eq_true rfl, Nat.le_of_ble_eq_true rfl⟩) rfl hls (Nat.le_of_ble_eq_true rfl) dL_books_607 ⟨by show _ ≤ 1300; omega, by show _ ≤ 7800; omega⟩) (rd_count (q := 12) (by decide)) (fun H locs hW => ?_)
    refine lv_aload_n hx hb dL_books_610 rfl (lv_at hl 0 rfl) ?_
    refine lv_bipush (v := 9) hx hb dL_books_611 (by decide) ?_
    refine lb_pure hW (x_runVX B hW hE (As := [.int 9]) (rest := .int (cV S 12) :: []) hqj cC_j cls4 (c_X4_count (D := D) (ad := ad) (V := V) l _ hl0 S 9) (cwV 1 B.1.2.2.2.2 gL_books_X4_count rfl rfl rfl hd_X4_count ⟨Nat.le_of_ble_eq_true rfl, Nat.le_of_ble_eq_true rfl⟩) rfl hls (Nat.le_of_ble_eq_true rfl) dL_books_613 ⟨by show _ ≤ 1300; omega, by show _ ≤ 7800; omega⟩) (rd_count (q := 9) (by decide)) (fun H locs hW => ?_)
    refine lv_aload_n hx hb dL_books_616 rfl (lv_at hl 0 rfl) ?_
    refine lv_bipush (v := 10) hx hb dL_books_617 (by decide) ?_
    refine lb_pure hW (x_runVX B hW hE (As := [.int 10]) (rest := .int (cV S 9) :: .int (cV S 12) :: []) hqj cC_j cls4 (c_X4_count (D := D) (ad := ad) (V := V) l _ hl0 S 10) (cwV 1 B.1.2.2.2.2 gL_books_X4_count rfl rfl rfl hd_X4_count ⟨Nat.le_of_ble_eq_true rfl, Nat.le_of_ble_eq_true rfl⟩) rfl hls (Nat.le_of_ble_eq_true rfl) dL_books_619 ⟨by show _ ≤ 1300; omega, by show _ ≤ 7800; omega⟩) (rd_count (q := 10) (by decide)) (fun H locs hW => ?_)
    refine lv_iadd hx hb dL_books_622 ?_
    refine lv_aload_n hx hb dL_books_623 rfl (lv_at hl 0 rfl) ?_
    refine lv_bipush (v := 11) hx hb dL_books_624 (by decide) ?_
    refine lb_pure hW (x_runVX B hW hE (As := [.int 11]) (rest := .int ((cV S 9) + (cV S 10)) :: .int (cV S 12) :: []) hqj cC_j cls4 (c_X4_count (D := D) (ad := ad) (V := V) l _ hl0 S 11) (cwV 1 B.1.2.2.2.2 gL_books_X4_count rfl rfl rfl hd_X4_count ⟨Nat.le_of_ble_eq_true rfl, Nat.le_of_ble_eq_true rfl⟩) rfl hls (Nat.le_of_ble_eq_true rfl) dL_books_626 ⟨by show _ ≤ 1300; omega, by show _ ≤ 7800; omega⟩) (rd_count (q := 11) (by decide)) (fun H locs hW => ?_)
    refine lv_isub hx hb dL_books_629 ?_
    refine lv_icmp_ne (tgt := 670) hx hb dL_books_630 (by decide) (fun q => absurd tf_12 q) (fun _ => ?_)
    refine lv_aload_n hx hb dL_books_633 rfl (lv_at hl 0 rfl) ?_
    refine lv_bipush (v := 12) hx hb dL_books_634 (by decide) ?_
    refine lb_pure hW (x_runVX B hW hE (As := [.int 12]) (rest := []) hqj cC_j cls4 (c_X4_count (D := D) (ad := ad) (V := V) l _ hl0 S 12) (cwV 1 B.1.2.2.2.2 gL_books_X4_count rfl rfl rfl hd_X4_count ⟨Nat.le_of_ble_eq_true rfl, Nat.le_of_ble_eq_true rfl⟩) rfl hls (Nat.le_of_ble_eq_true rfl) dL_books_636 ⟨by show _ ≤ 1300; omega, by show _ ≤ 7800; omega⟩) (rd_count (q := 12) (by decide)) (fun H locs hW => ?_)
    refine lv_iload_n hx hb dL_books_639 rfl (lv_at hl 2 rfl) ?_
    refine lv_iload_n hx hb dL_books_640 rfl (lv_at hl 3 rfl) ?_
    refine lv_iadd hx hb dL_books_641 ?_
    refine lv_icmp_ne (tgt := 670) hx hb dL_books_642 (by decide) (fun q => absurd (tf_bk hrx) q) (fun _ => ?_)
    refine lv_aload_n hx hb dL_books_645 rfl (lv_at hl 0 rfl) ?_
    refine lv_iconst (v := 2) hx hb dL_books_646 (by decide) ?_
    refine lb_pure hW (x_runVX B hW hE (As := [.int 2]) (rest := []) hqj cC_j cls4 (c_X4_count (D := D) (ad := ad) (V := V) l _ hl0 S 2) (cwV 1 B.1.2.2.2.2 gL_books_X4_count rfl rfl rfl hd_X4_count ⟨Nat.le_of_ble_eq_true rfl, Nat.le_of_ble_eq_true rfl⟩) rfl hls (Nat.le_of_ble_eq_true rfl) dL_books_647 ⟨by show _ ≤ 1300; omega, by show _ ≤ 7800; omega⟩) (rd_count (q := 2) (by decide)) (fun H locs hW => ?_)
    refine lv_iconst (v := (-1)) hx hb dL_books_650 (by decide) ?_
    refine lv_icmp_eq (tgt := 666) hx hb dL_books_651 (by decide) (fun _ => ?_) (fun q => absurd hch q)
    refine lv_iconst (v := 1) hx hb dL_books_666 (by decide) ?_
    refine lv_goto (tgt := 671) hx hb dL_books_667 (by decide) ?_
    refine lv_istore (lv' := [(9, .int 1), (0, .ref (ad jO)), (1, .int (pS (bC (cv S 0)) 8)), (2, .int (pS (bL (cv S 0)) 8)), (3, .int (pS (bB (cv S 0)) 8)), (4, .int (pS (bF (cv S 0)) 8)), (5, .int (pS (bR (cv S 0)) 8)), (6, .int (pS (bO (cv S 0)) 8)), (7, .int (pS (bA (cv S 0)) 8)), (8, .int (pM (bQ (cv S 0)) 8)), (10, .int (nI 8))]) hx hb dL_books_671 hl (by decide) rfl (fun ls hl => ?_)
    have hls := hl.1
    have hl := lv_sub hl [1, 2, 3, 4, 5, 6, 7, 8, 9, 0, 10] rfl
    exact kk _ _ _ _ _ hW hl (by omega) (by omega)
  · skip
    refine lv_iload hx hb dL_books_591 (lv_at hl 9 rfl) ?_
    refine lv_if_eq (tgt := 670) hx hb dL_books_593 (by decide) (fun q => absurd q (by decide)) (fun _ => ?_)
    refine lv_aload_n hx hb dL_books_596 rfl (lv_at hl 0 rfl) ?_
    refine lv_iconst (v := 4) hx hb dL_books_597 (by decide) ?_
    refine lb_pure hW (x_runVX B hW hE (As := [.int 4]) (rest := []) hqj cC_j cls4 (c_X4_count (D := D) (ad := ad) (V := V) l _ hl0 S 4) (cwV 1 B.1.2.2.2.2 gL_books_X4_count rfl rfl rfl hd_X4_count ⟨Nat.le_of_ble_eq_true rfl, Nat.le_of_ble_eq_true rfl⟩) rfl hls (Nat.le_of_ble_eq_true rfl) dL_books_598 ⟨by show _ ≤ 1300; omega, by show _ ≤ 7800; omega⟩) (rd_count (q := 4) (by decide)) (fun H locs hW => ?_)
    refine lv_if_lt (tgt := 670) hx hb dL_books_601 (by decide) (fun q => absurd q (tf_4 hrx)) (fun _ => ?_)
    refine lv_aload_n hx hb dL_books_604 rfl (lv_at hl 0 rfl) ?_
    refine lv_bipush (v := 12) hx hb dL_books_605 (by decide) ?_
    refine lb_pure hW (x_runVX B hW hE (As := [.int 12]) (rest := []) hqj cC_j cls4 (c_X4_count (D := D) (ad := ad) (V := V) l _ hl0 S 12) (cwV 1 B.1.2.2.2.2 gL_books_X4_count rfl rfl rfl hd_X4_count ⟨Nat.le_of_ble_eq_true rfl, Nat.le_of_ble_eq_true rfl⟩) rfl hls (Nat.le_of_ble_eq_true rfl) dL_books_607 ⟨by show _ ≤ 1300; omega, by show _ ≤ 7800; omega⟩) (rd_count (q := 12) (by decide)) (fun H locs hW => ?_)
    refine lv_aload_n hx hb dL_books_610 rfl (lv_at hl 0 rfl) ?_
    refine lv_bipush (v := 9) hx hb dL_books_611 (by decide) ?_
    refine lb_pure hW (x_runVX B hW hE (As := [.int 9]) (rest := .int (cV S 12) :: []) hqj cC_j cls4 (c_X4_count (D := D) (ad := ad) (V := V) l _ hl0 S 9) (cwV 1 B.1.2.2.2.2 gL_books_X4_count rfl rfl rfl hd_X4_count ⟨Nat.le_of_ble_eq_true rfl, Nat.le_of_ble_eq_true rfl⟩) rfl hls (Nat.le_of_ble_eq_true rfl) dL_books_613 ⟨by show _ ≤ 1300; omega, by show _ ≤ 7800; omega⟩) (rd_count (q := 9) (by decide)) (fun H locs hW => ?_)
    refine lv_aload_n hx hb dL_books_616 rfl (lv_at hl 0 rfl) ?_
    refine lv_bipush (v := 10) hx hb dL_books_617 (by decide) ?_
    refine lb_pure hW (x_runVX B hW hE (As := [.int 10]) (rest := .int (cV S 9) :: .int (cV S 12) :: []) hqj cC_j cls4 (c_X4_count (D := D) (ad := ad) (V := V) l _ hl0 S 10) (cwV 1 B.1.2.2.2.2 gL_books_X4_count rfl rfl rfl hd_X4_count ⟨Nat.le_of_ble_eq_true rfl, Nat.le_of_ble_eq_true rfl⟩) rfl hls (Nat.le_of_ble_eq_true rfl) dL_books_619 ⟨by show _ ≤ 1300; omega, by show _ ≤ 7800; omega⟩) (rd_count (q := 10) (by decide)) (fun H locs hW => ?_)
    refine lv_iadd hx hb dL_books_622 ?_
    refine lv_aload_n hx hb dL_books_623 rfl (lv_at hl 0 rfl) ?_
    refine lv_bipush (v := 11) hx hb dL_books_624 (by decide) ?_
    refine lb_pure hW (x_runVX B hW hE (As := [.int 11]) (rest := .int ((cV S 9) + (cV S 10)) :: .int (cV S 12) :: []) hqj cC_j cls4 (c_X4_count (D := D) (ad := ad) (V := V) l _ hl0 S 11) (cwV 1 B.1.2.2.2.2 gL_books_X4_count rfl rfl rfl hd_X4_count ⟨Nat.le_of_ble_eq_true rfl, Nat.le_of_ble_eq_true rfl⟩) rfl hls (Nat.le_of_ble_eq_true rfl) dL_books_626 ⟨by show _ ≤ 1300; omega, by show _ ≤ 7800; omega⟩) (rd_count (q := 11) (by decide)) (fun H locs hW => ?_)
    refine lv_isub hx hb dL_books_629 ?_
    refine lv_icmp_ne (tgt := 670) hx hb dL_books_630 (by decide) (fun q => absurd tf_12 q) (fun _ => ?_)
    refine lv_aload_n hx hb dL_books_633 rfl (lv_at hl 0 rfl) ?_
    refine lv_bipush (v := 12) hx hb dL_books_634 (by decide) ?_
    refine lb_pure hW (x_runVX B hW hE (As := [.int 12]) (rest := []) hqj cC_j cls4 (c_X4_count (D := D) (ad := ad) (V := V) l _ hl0 S 12) (cwV 1 B.1.2.2.2.2 gL_books_X4_count rfl rfl rfl hd_X4_count ⟨Nat.le_of_ble_eq_true rfl, Nat.le_of_ble_eq_true rfl⟩) rfl hls (Nat.le_of_ble_eq_true rfl) dL_books_636 ⟨by show _ ≤ 1300; omega, by show _ ≤ 7800; omega⟩) (rd_count (q := 12) (by decide)) (fun H locs hW => ?_)
    refine lv_iload_n hx hb dL_books_639 rfl (lv_at hl 2 rfl) ?_
    refine lv_iload_n hx hb dL_books_640 rfl (lv_at hl 3 rfl) ?_
    refine lv_iadd hx hb dL_books_641 ?_
    refine lv_icmp_ne (tgt := 670) hx hb dL_books_642 (by decide) (fun q => absurd (tf_bk hrx) q) (fun _ => ?_)
    refine lv_aload_n hx hb dL_books_645 rfl (lv_at hl 0 rfl) ?_
    refine lv_iconst (v := 2) hx hb dL_books_646 (by decide) ?_
    refine lb_pure hW (x_runVX B hW hE (As := [.int 2]) (rest := []) hqj cC_j cls4 (c_X4_count (D := D) (ad := ad) (V := V) l _ hl0 S 2) (cwV 1 B.1.2.2.2.2 gL_books_X4_count rfl rfl rfl hd_X4_count ⟨Nat.le_of_ble_eq_true rfl, Nat.le_of_ble_eq_true rfl⟩) rfl hls (Nat.le_of_ble_eq_true rfl) dL_books_647 ⟨by show _ ≤ 1300; omega, by show _ ≤ 7800; omega⟩) ((rd_count (q := 2) (by decide)).trans (by rw [ek])) (fun H locs hW => ?_)
    refine lv_iconst (v := (-1)) hx hb dL_books_650 (by decide) ?_
    refine lv_icmp_eq (tgt := 666) hx hb dL_books_651 (by decide) (fun q => absurd q (nI_n1 hk)) (fun _ => ?_)
    refine lv_aload_n hx hb dL_books_654 rfl (lv_at hl 0 rfl) ?_
    refine lv_aload_n hx hb dL_books_655 rfl (lv_at hl 0 rfl) ?_
    refine lv_iconst (v := 2) hx hb dL_books_656 (by decide) ?_
    refine lb_pure hW (x_runVX B hW hE (As := [.int 2]) (rest := .ref (ad jO) :: []) hqj cC_j cls4 (c_X4_count (D := D) (ad := ad) (V := V) l _ hl0 S 2) (cwV 1 B.1.2.2.2.2 gL_books_X4_count rfl rfl rfl hd_X4_count ⟨Nat.le_of_ble_eq_true rfl, Nat.le_of_ble_eq_true rfl⟩) rfl hls (Nat.le_of_ble_eq_true rfl) dL_books_657 ⟨by show _ ≤ 1300; omega, by show _ ≤ 7800; omega⟩) ((rd_count (q := 2) (by decide)).trans (by rw [ek])) (fun H locs hW => ?_)
    refine lb_help B hW hE (As := [.ref (ad jO), .int (nI k)]) (rest := []) (h_L_isMember (D := D) (ad := ad) (V := V) l _ hl0 S hrx k hk) (vx_cwSW 2 B.1.2.2.2.2 gL_books_L_isMember rfl rfl rfl hd_L_isMember.2 ⟨Nat.le_of_ble_eq_true rfl, Nat.le_of_ble_eq_true rfl⟩) rfl hls (Nat.le_of_ble_eq_true rfl) dL_books_660 ⟨by show _ ≤ 1300; omega, by show _ ≤ 7800; omega⟩ (fun r_660 S9 H locs he hW => ?_)
    obtain ⟨hr, he⟩ := he
    rw [he] at hW
    rw [if_neg hh] at hr
    subst hr
    refine lv_if_eq (tgt := 670) hx hb dL_books_663 (by decide) (fun q => absurd q (by decide)) (fun _ => ?_)
    refine lv_iconst (v := 1) hx hb dL_books_666 (by decide) ?_
    refine lv_goto (tgt := 671) hx hb dL_books_667 (by decide) ?_
    refine lv_istore (lv' := [(9, .int 1), (0, .ref (ad jO)), (1, .int (pS (bC (cv S 0)) 8)), (2, .int (pS (bL (cv S 0)) 8)), (3, .int (pS (bB (cv S 0)) 8)), (4, .int (pS (bF (cv S 0)) 8)), (5, .int (pS (bR (cv S 0)) 8)), (6, .int (pS (bO (cv S 0)) 8)), (7, .int (pS (bA (cv S 0)) 8)), (8, .int (pM (bQ (cv S 0)) 8)), (10, .int (nI 8))]) hx hb dL_books_671 hl (by decide) rfl (fun ls hl => ?_)
    have hls := hl.1
    have hl := lv_sub hl [1, 2, 3, 4, 5, 6, 7, 8, 9, 0, 10] rfl
    exact kk _ _ _ _ _ hW hl (by omega) (by omega)
theorem bk_B3 (B : Cx p mm c cL_books 14 s args wsL_books RL meth (some .boolean) D) (hl0 : l.stackTraces = false) (hE : nv V A s s.heap) (hrx : RX cy S) {C0 : Nat} (hC0 : C0 ≤ 1150) (hW : Wd D 157 (cC D ad) ad A s.heap S H locs) (hl : lv_has ls 14 [(0, .ref (ad jO)), (1, .int (pS (bC (cv S 0)) 8)), (2, .int (pS (bL (cv S 0)) 8)), (3, .int (pS (bB (cv S 0)) 8)), (4, .int (pS (bF (cv S 0)) 8)), (5, .int (pS (bR (cv S 0)) 8)), (6, .int (pS (bO (cv S 0)) 8)), (7, .int (pS (bA (cv S 0)) 8)), (8, .int (pM (bQ (cv S 0)) 8)), (9, .int 1), (10, .int (nI 8))]) (hc : cells ≤ C0) (hs : slots ≤ 6 * C0) (kk : ∀ (H : Heap) (locs : List Loc) (cells slots : Nat) (ls : Array Slot), Wd D 157 (cC D ad) ad A s.heap S H locs → lv_has ls 14 [(0, .ref (ad jO)), (1, .int (pS (bC (cv S 0)) 8)), (2, .int (pS (bL (cv S 0)) 8)), (3, .int (pS (bB (cv S 0)) 8)), (4, .int (pS (bF (cv S 0)) 8)), (5, .int (pS (bR (cv S 0)) 8)), (6, .int (pS (bO (cv S 0)) 8)), (7, .int (pS (bA (cv S 0)) 8)), (8, .int (pM (bQ (cv S 0)) 8)), (9, .int 1)] → cells ≤ C0 + 8 → slots ≤ 6 * C0 + 6 * 8 → W p l e (rmX 9 1300) s mm args below meth c H locs cells slots Q (F0 mm 725 ls [])) : W p l e (rmX 9 1300) s mm args below meth c H locs cells slots Q (F0 mm 673 ls []) := by
  have hx := B.1.1
  have hb := B.1.2.1
  have hls := hl.1
  rcases tf_weak hrx with hw | ⟨k, hk, ek, hh, h3, hz⟩
  · skip
    refine lv_aload_n hx hb dL_books_673 rfl (lv_at hl 0 rfl) ?_
    refine lb_p hW (x_runV B hW (As := []) (rest := []) hqj cC_j cls4 (c_X4_weakest (D := D) (ad := ad) l _ S) (cwV 0 B.1.2.2.2.2 gL_books_X4_weakest rfl rfl rfl hd_X4_weakest ⟨Nat.le_of_ble_eq_true rfl, Nat.le_of_ble_eq_true rfl⟩) rfl hls (Nat.le_of_ble_eq_true rfl) dL_books_674 ⟨by show _ ≤ 1300; omega, by show _ ≤ 7800; omega⟩) hw (fun H locs hW => ?_)
    refine lv_istore (lv' := [(10, .int (-1)), (0, .ref (ad jO)), (1, .int (pS (bC (cv S 0)) 8)), (2, .int (pS (bL (cv S 0)) 8)), (3, .int (pS (bB (cv S 0)) 8)), (4, .int (pS (bF (cv S 0)) 8)), (5, .int (pS (bR (cv S 0)) 8)), (6, .int (pS (bO (cv S 0)) 8)), (7, .int (pS (bA (cv S 0)) 8)), (8, .int (pM (bQ (cv S 0)) 8)), (9, .int 1)]) hx hb dL_books_677 hl (by decide) rfl (fun ls hl => ?_)
    have hls := hl.1
    refine lv_iload hx hb dL_books_679 (lv_at hl 10 rfl) ?_
    refine lv_if_eq (tgt := 722) hx hb dL_books_681 (by decide) (fun q => absurd q (by decide)) (fun _ => ?_)
    refine lv_iload hx hb dL_books_684 (lv_at hl 0 rfl) ?_
    refine lv_iconst (v := (-1)) hx hb dL_books_686 (by decide) ?_
    refine lv_icmp_eq (tgt := 718) hx hb dL_books_687 (by decide) (fun _ => ?_) (fun q => absurd rfl q)
    refine lv_iconst (v := 1) hx hb dL_books_718 (by decide) ?_
    refine lv_goto (tgt := 723) hx hb dL_books_719 (by decide) ?_
    refine lv_istore (lv' := [(9, .int 1), (10, .int (-1)), (0, .ref (ad jO)), (1, .int (pS (bC (cv S 0)) 8)), (2, .int (pS (bL (cv S 0)) 8)), (3, .int (pS (bB (cv S 0)) 8)), (4, .int (pS (bF (cv S 0)) 8)), (5, .int (pS (bR (cv S 0)) 8)), (6, .int (pS (bO (cv S 0)) 8)), (7, .int (pS (bA (cv S 0)) 8)), (8, .int (pM (bQ (cv S 0)) 8))]) hx hb dL_books_723 hl (by decide) rfl (fun ls hl => ?_)
    have hls := hl.1
    have hl := lv_sub hl [2, 3, 4, 5, 6, 7, 8, 9, 10, 0] rfl
    exact kk _ _ _ _ _ hW hl (by omega) (by omega)
  · skip
    refine lv_aload_n hx hb dL_books_673 rfl (lv_at hl 0 rfl) ?_
    refine lb_p hW (x_runV B hW (As := []) (rest := []) hqj cC_j cls4 (c_X4_weakest (D := D) (ad := ad) l _ S) (cwV 0 B.1.2.2.2.2 gL_books_X4_weakest rfl rfl rfl hd_X4_weakest ⟨Nat.le_of_ble_eq_true rfl, Nat.le_of_ble_eq_true rfl⟩) rfl hls (Nat.le_of_ble_eq_true rfl) dL_books_674 ⟨by show _ ≤ 1300; omega, by show _ ≤ 7800; omega⟩) ek (fun H locs hW => ?_)
    refine lv_istore (lv' := [(10, .int (nI k)), (0, .ref (ad jO)), (1, .int (pS (bC (cv S 0)) 8)), (2, .int (pS (bL (cv S 0)) 8)), (3, .int (pS (bB (cv S 0)) 8)), (4, .int (pS (bF (cv S 0)) 8)), (5, .int (pS (bR (cv S 0)) 8)), (6, .int (pS (bO (cv S 0)) 8)), (7, .int (pS (bA (cv S 0)) 8)), (8, .int (pM (bQ (cv S 0)) 8)), (9, .int 1)]) hx hb dL_books_677 hl (by decide) rfl (fun ls hl => ?_)
    have hls := hl.1
    refine lv_iload hx hb dL_books_679 (lv_at hl 10 rfl) ?_
    refine lv_if_eq (tgt := 722) hx hb dL_books_681 (by decide) (fun q => absurd q (by decide)) (fun _ => ?_)
    refine lv_iload hx hb dL_books_684 (lv_at hl 0 rfl) ?_
    refine lv_iconst (v := (-1)) hx hb dL_books_686 (by decide) ?_
    refine lv_icmp_eq (tgt := 718) hx hb dL_books_687 (by decide) (fun q => absurd q (nI_n1 hk)) (fun _ => ?_)
    refine lv_aload_n hx hb dL_books_690 rfl (lv_at hl 1 rfl) ?_
    refine lv_iload hx hb dL_books_691 (lv_at hl 0 rfl) ?_
    refine lb_help B hW hE (As := [.ref (ad jO), .int (nI k)]) (rest := []) (h_L_isMember (D := D) (ad := ad) (V := V) l _ hl0 S hrx k hk) (vx_cwSW 2 B.1.2.2.2.2 gL_books_L_isMember rfl rfl rfl hd_L_isMember.2 ⟨Nat.le_of_ble_eq_true rfl, Nat.le_of_ble_eq_true rfl⟩) rfl hls (Nat.le_of_ble_eq_true rfl) dL_books_693 ⟨by show _ ≤ 1300; omega, by show _ ≤ 7800; omega⟩ (fun r_693 S9 H locs he hW => ?_)
    obtain ⟨hr, he⟩ := he
    rw [he] at hW
    rw [if_neg hh] at hr
    subst hr
    refine lv_if_eq (tgt := 722) hx hb dL_books_696 (by decide) (fun q => absurd q (by decide)) (fun _ => ?_)
    refine lv_aload_n hx hb dL_books_699 rfl (lv_at hl 1 rfl) ?_
    refine lv_iload hx hb dL_books_700 (lv_at hl 0 rfl) ?_
    refine lv_iconst (v := 3) hx hb dL_books_702 (by decide) ?_
    refine lb_pure hW (x_runVX B hW hE (As := [.int (nI k), .int 3]) (rest := []) hqj cC_j cls4 (c_X4_member (D := D) (ad := ad) (V := V) l _ hl0 S (nI k) 3) (cwV 2 B.1.2.2.2.2 gL_books_X4_member rfl rfl rfl hd_X4_member ⟨Nat.le_of_ble_eq_true rfl, Nat.le_of_ble_eq_true rfl⟩) rfl hls (Nat.le_of_ble_eq_true rfl) dL_books_703 ⟨by show _ ≤ 1300; omega, by show _ ≤ 7800; omega⟩) (rd (q := 3) hk hh (by decide)) (fun H locs hW => ?_)
    refine lv_if_le (tgt := 722) hx hb dL_books_706 (by decide) (fun q => absurd q h3) (fun _ => ?_)
    refine lv_aload_n hx hb dL_books_709 rfl (lv_at hl 1 rfl) ?_
    refine lv_iload hx hb dL_books_710 (lv_at hl 0 rfl) ?_
    refine lb_pure hW (x_runVX B hW hE (As := [.int (nI k)]) (rest := []) hqj cC_j cls4 (c_X4_fundLasts (D := D) (ad := ad) (V := V) l _ hl0 S (nI k)) (cwV 1 B.1.2.2.2.2 gL_books_X4_fundLasts rfl rfl rfl hd_X4_fundLasts ⟨Nat.le_of_ble_eq_true rfl, Nat.le_of_ble_eq_true rfl⟩) rfl hls (Nat.le_of_ble_eq_true rfl) dL_books_712 ⟨by show _ ≤ 1300; omega, by show _ ≤ 7800; omega⟩) ((rd_lasts hk hh).trans (by rw [hz])) (fun H locs hW => ?_)
    refine lv_if_ne (tgt := 722) hx hb dL_books_715 (by decide) (fun q => absurd rfl q) (fun _ => ?_)
    refine lv_iconst (v := 1) hx hb dL_books_718 (by decide) ?_
    refine lv_goto (tgt := 723) hx hb dL_books_719 (by decide) ?_
    refine lv_istore (lv' := [(9, .int 1), (10, .int (nI k)), (0, .ref (ad jO)), (1, .int (pS (bC (cv S 0)) 8)), (2, .int (pS (bL (cv S 0)) 8)), (3, .int (pS (bB (cv S 0)) 8)), (4, .int (pS (bF (cv S 0)) 8)), (5, .int (pS (bR (cv S 0)) 8)), (6, .int (pS (bO (cv S 0)) 8)), (7, .int (pS (bA (cv S 0)) 8)), (8, .int (pM (bQ (cv S 0)) 8))]) hx hb dL_books_723 hl (by decide) rfl (fun ls hl => ?_)
    have hls := hl.1
    have hl := lv_sub hl [2, 3, 4, 5, 6, 7, 8, 9, 10, 0] rfl
    exact kk _ _ _ _ _ hW hl (by omega) (by omega)
theorem bk_B4 (B : Cx p mm c cL_books 14 s args wsL_books RL meth (some .boolean) D) (hl0 : l.stackTraces = false) (hE : nv V A s s.heap) (hrx : RX cy S) {C0 : Nat} (hC0 : C0 ≤ 1150) (hW : Wd D 157 (cC D ad) ad A s.heap S H locs) (hl : lv_has ls 14 [(0, .ref (ad jO)), (1, .int (pS (bC (cv S 0)) 8)), (2, .int (pS (bL (cv S 0)) 8)), (3, .int (pS (bB (cv S 0)) 8)), (4, .int (pS (bF (cv S 0)) 8)), (5, .int (pS (bR (cv S 0)) 8)), (6, .int (pS (bO (cv S 0)) 8)), (7, .int (pS (bA (cv S 0)) 8)), (8, .int (pM (bQ (cv S 0)) 8)), (9, .int 1)]) (hc : cells ≤ C0) (hs : slots ≤ 6 * C0) : W p l e (rmX 9 1300) s mm args below meth c H locs cells slots (vx_MQ below (va_Qi (fun (r : Int32) (S1 : vS) => r = 1 ∧ RX cy S1) (bW D 157 (cC D ad) ad A) A) (xX D 157 (cC D ad) ad A (fun _ _ => False)) args s 1300 7800 A) (F0 mm 725 ls []) := by
  have hx := B.1.1
  have hb := B.1.2.1
  have hls := hl.1
  obtain ⟨T, hT⟩ := hrx.1
  have hsh := share_01 hT
  obtain ⟨S1, h1⟩ : ∃ S1, S1 = emb S 1 (trw S 0) := ⟨_, rfl⟩
  have r1 : RX cy S1 := by rw [h1]; exact hrx.trial
  have c1 : cv S1 0 = cv S 0 := by rw [h1, cv_emb_ne (by decide)]
  obtain ⟨S2, h2⟩ : ∃ S2, S2 = emb S1 1 (trw S1 0) := ⟨_, rfl⟩
  have r2 : RX cy S2 := by rw [h2]; exact r1.trial
  obtain ⟨S3, h3⟩ : ∃ S3, S3 = emb S2 1 (trw S2 0) := ⟨_, rfl⟩
  have r3 : RX cy S3 := by rw [h3]; exact r2.trial
  have a3 : x_X4_ifAbsent S 0 3 = ((0, cV S 8), S1) := by rw [h1, cV_8]; exact absent_3
  have k8 : x_X4_count S1 8 = (0, cV S 8) := (rd_count (S := S1) (q := 8) (by decide)).trans (by rw [cV_8, cV_8, c1])
  have a2 : x_X4_ifAbsent S1 0 2 = ((0, pS (bB (cv S 0)) 8), S2) := by rw [h2, absent_2, c1]; rfl
  have a4 : x_X4_ifAbsent S2 0 4 = ((0, 0), S3) := by rw [h3]; exact absent_4
  refine lv_iload hx hb dL_books_725 (lv_at hl 9 rfl) ?_
  refine lv_if_eq (tgt := 786) hx hb dL_books_727 (by decide) (fun q => absurd q (by decide)) (fun _ => ?_)
  refine lv_aload_n hx hb dL_books_730 rfl (lv_at hl 0 rfl) ?_
  refine lb_pd hW (x_runV B hW (As := []) (rest := []) hqj cC_j cls4 (c_X4_paidShare (D := D) (ad := ad) l _ S) (cwV 0 B.1.2.2.2.2 gL_books_X4_paidShare rfl rfl rfl hd_X4_paidShare ⟨Nat.le_of_ble_eq_true rfl, Nat.le_of_ble_eq_true rfl⟩) rfl hls (Nat.le_of_ble_eq_true rfl) dL_books_731 ⟨by show _ ≤ 1300; omega, by show _ ≤ 7800; omega⟩) rfl (fun H locs hW => ?_)
  refine lv_dconst0 hx hb dL_books_734 ?_
  refine lv_dcmp hx hb dL_books_735 ?_
  refine lv_if_lt (tgt := 786) hx hb dL_books_736 (by decide) (fun q => absurd q (sh_lo hsh)) (fun _ => ?_)
  refine lv_aload_n hx hb dL_books_739 rfl (lv_at hl 0 rfl) ?_
  refine lb_pd hW (x_runV B hW (As := []) (rest := []) hqj cC_j cls4 (c_X4_paidShare (D := D) (ad := ad) l _ S) (cwV 0 B.1.2.2.2.2 gL_books_X4_paidShare rfl rfl rfl hd_X4_paidShare ⟨Nat.le_of_ble_eq_true rfl, Nat.le_of_ble_eq_true rfl⟩) rfl hls (Nat.le_of_ble_eq_true rfl) dL_books_740 ⟨by show _ ≤ 1300; omega, by show _ ≤ 7800; omega⟩) rfl (fun H locs hW => ?_)
  refine lv_dconst1 hx hb dL_books_743 ?_
  refine lv_dcmp hx hb dL_books_744 ?_
  refine lv_if_gt (tgt := 786) hx hb dL_books_745 (by decide) (fun q => absurd q (sh_hi hsh)) (fun _ => ?_)
  refine lv_aload_n hx hb dL_books_748 rfl (lv_at hl 0 rfl) ?_
  refine lv_iconst (v := 0) hx hb dL_books_749 (by decide) ?_
  refine lv_iconst (v := 3) hx hb dL_books_750 (by decide) ?_
  refine lb_mut hW (x_runVX B hW hE (As := [.int 0, .int 3]) (rest := []) hqj cC_j cls4 (c_X4_ifAbsent (D := D) (ad := ad) (V := V) l _ hl0 S 0 3) (cwV 2 B.1.2.2.2.2 gL_books_X4_ifAbsent rfl rfl rfl hd_X4_ifAbsent ⟨Nat.le_of_ble_eq_true rfl, Nat.le_of_ble_eq_true rfl⟩) rfl hls (Nat.le_of_ble_eq_true rfl) dL_books_751 ⟨by show _ ≤ 1300; omega, by show _ ≤ 7800; omega⟩) a3 (fun H locs hW => ?_)
  refine lv_aload_n hx hb dL_books_754 rfl (lv_at hl 0 rfl) ?_
  refine lv_bipush (v := 8) hx hb dL_books_755 (by decide) ?_
  refine lb_pure hW (x_runVX B hW hE (As := [.int 8]) (rest := .int (cV S 8) :: []) hqj cC_j cls4 (c_X4_count (D := D) (ad := ad) (V := V) l _ hl0 S1 8) (cwV 1 B.1.2.2.2.2 gL_books_X4_count rfl rfl rfl hd_X4_count ⟨Nat.le_of_ble_eq_true rfl, Nat.le_of_ble_eq_true rfl⟩) rfl hls (Nat.le_of_ble_eq_true rfl) dL_books_757 ⟨by show _ ≤ 1300; omega, by show _ ≤ 7800; omega⟩) k8 (fun H locs hW => ?_)
  refine lv_icmp_ne (tgt := 786) hx hb dL_books_760 (by decide) (fun q => absurd rfl q) (fun _ => ?_)
  refine lv_aload_n hx hb dL_books_763 rfl (lv_at hl 0 rfl) ?_
  refine lv_iconst (v := 0) hx hb dL_books_764 (by decide) ?_
  refine lv_iconst (v := 2) hx hb dL_books_765 (by decide) ?_
  refine lb_mut hW (x_runVX B hW hE (As := [.int 0, .int 2]) (rest := []) hqj cC_j cls4 (c_X4_ifAbsent (D := D) (ad := ad) (V := V) l _ hl0 S1 0 2) (cwV 2 B.1.2.2.2.2 gL_books_X4_ifAbsent rfl rfl rfl hd_X4_ifAbsent ⟨Nat.le_of_ble_eq_true rfl, Nat.le_of_ble_eq_true rfl⟩) rfl hls (Nat.le_of_ble_eq_true rfl) dL_books_766 ⟨by show _ ≤ 1300; omega, by show _ ≤ 7800; omega⟩) a2 (fun H locs hW => ?_)
  refine lv_iload_n hx hb dL_books_769 rfl (lv_at hl 3 rfl) ?_
  refine lv_icmp_ne (tgt := 786) hx hb dL_books_770 (by decide) (fun q => absurd rfl q) (fun _ => ?_)
  refine lv_aload_n hx hb dL_books_773 rfl (lv_at hl 0 rfl) ?_
  refine lv_iconst (v := 0) hx hb dL_books_774 (by decide) ?_
  refine lv_iconst (v := 4) hx hb dL_books_775 (by decide) ?_
  refine lb_mut hW (x_runVX B hW hE (As := [.int 0, .int 4]) (rest := []) hqj cC_j cls4 (c_X4_ifAbsent (D := D) (ad := ad) (V := V) l _ hl0 S2 0 4) (cwV 2 B.1.2.2.2.2 gL_books_X4_ifAbsent rfl rfl rfl hd_X4_ifAbsent ⟨Nat.le_of_ble_eq_true rfl, Nat.le_of_ble_eq_true rfl⟩) rfl hls (Nat.le_of_ble_eq_true rfl) dL_books_776 ⟨by show _ ≤ 1300; omega, by show _ ≤ 7800; omega⟩) a4 (fun H locs hW => ?_)
  refine lv_if_ne (tgt := 786) hx hb dL_books_779 (by decide) (fun q => absurd rfl q) (fun _ => ?_)
  refine lv_iconst (v := 1) hx hb dL_books_782 (by decide) ?_
  refine lv_goto (tgt := 787) hx hb dL_books_783 (by decide) ?_
  exact x_end ⟨by omega, by omega⟩ (x_zret B hW (Or.inr rfl) ⟨rfl, r3⟩ dL_books_787)
theorem hd_L_books : yL_books.cls = RL ∧ yL_books.cls ≠ "java/lang/invoke/MethodHandle" ∧ yL_books.cls ≠ "java/lang/invoke/VarHandle" ∧ (parseMethodDescriptor yL_books.desc).map (fun d => d.parameters.length) = some 1 := by decide +kernel
end DBK4
section DBK5
theorem h_L_books {D : va_G} {ad : Nat → Nat} {V : vE} (l : Launch) (sz : Nat) (hl0 : l.stackTraces = false) (S : vS) {cy : Int} (hrx : RX cy S) : vx_Met l yL_books wsL_books (rmX 9 1300) (pE D 157 (cC D ad) ad sz V S [.ref (ad jO)]) (va_Qi (fun (r : Int32) (S1 : vS) => r = 1 ∧ RX cy S1) (bW D 157 (cC D ad) ad (aW 157 ad sz)) (aW 157 ad sz)) (xX D 157 (cC D ad) ad (aW 157 ad sz) (fun _ _ => False)) 1300 7800 (aW 157 ad sz) := by
  refine x_metX (own := RL) (cc := cL_books) (maxL := 14) (ret := (some .boolean)) (Qc := fun A => va_Qi (fun (r : Int32) (S1 : vS) => r = 1 ∧ RX cy S1) (bW D 157 (cC D ad) ad A) A) (XC := fun A => xX D 157 (cC D ad) ad A (fun _ _ => False)) rfl ⟨by decide +kernel, rfl, Nat.le_of_ble_eq_true rfl⟩ ?_
  intro p e s mm args below meth c A ls B htab hW hE hl hls
  have hx := B.1.1
  have hb := B.1.2.1
  have hl : lv_has ls 14 [(0, .ref (ad jO))] := hl
  refine lv_iconst (v := 0) hx hb dL_books_0 (by decide) ?_
  refine lv_istore_n (lv' := [(1, .int 0), (0, .ref (ad jO))]) hx hb dL_books_1 rfl hl (by decide) rfl (fun ls hl => ?_)
  have hls := hl.1
  refine lv_iconst (v := 0) hx hb dL_books_2 (by decide) ?_
  refine lv_istore_n (lv' := [(2, .int 0), (1, .int 0), (0, .ref (ad jO))]) hx hb dL_books_3 rfl hl (by decide) rfl (fun ls hl => ?_)
  have hls := hl.1
  refine lv_iconst (v := 0) hx hb dL_books_4 (by decide) ?_
  refine lv_istore_n (lv' := [(3, .int 0), (2, .int 0), (1, .int 0), (0, .ref (ad jO))]) hx hb dL_books_5 rfl hl (by decide) rfl (fun ls hl => ?_)
  have hls := hl.1
  refine lv_iconst (v := 0) hx hb dL_books_6 (by decide) ?_
  refine lv_istore (lv' := [(4, .int 0), (3, .int 0), (2, .int 0), (1, .int 0), (0, .ref (ad jO))]) hx hb dL_books_7 hl (by decide) rfl (fun ls hl => ?_)
  have hls := hl.1
  refine lv_iconst (v := 0) hx hb dL_books_9 (by decide) ?_
  refine lv_istore (lv' := [(5, .int 0), (4, .int 0), (3, .int 0), (2, .int 0), (1, .int 0), (0, .ref (ad jO))]) hx hb dL_books_10 hl (by decide) rfl (fun ls hl => ?_)
  have hls := hl.1
  refine lv_iconst (v := 0) hx hb dL_books_12 (by decide) ?_
  refine lv_istore (lv' := [(6, .int 0), (5, .int 0), (4, .int 0), (3, .int 0), (2, .int 0), (1, .int 0), (0, .ref (ad jO))]) hx hb dL_books_13 hl (by decide) rfl (fun ls hl => ?_)
  have hls := hl.1
  refine lv_iconst (v := 0) hx hb dL_books_15 (by decide) ?_
  refine lv_istore (lv' := [(7, .int 0), (6, .int 0), (5, .int 0), (4, .int 0), (3, .int 0), (2, .int 0), (1, .int 0), (0, .ref (ad jO))]) hx hb dL_books_16 hl (by decide) rfl (fun ls hl => ?_)
  have hls := hl.1
  refine lv_iconst (v := 0) hx hb dL_books_18 (by decide) ?_
  refine lv_istore (lv' := [(8, .int 0), (7, .int 0), (6, .int 0), (5, .int 0), (4, .int 0), (3, .int 0), (2, .int 0), (1, .int 0), (0, .ref (ad jO))]) hx hb dL_books_19 hl (by decide) rfl (fun ls hl => ?_)
  have hls := hl.1
  refine lv_iconst (v := 1) hx hb dL_books_21 (by decide) ?_
  refine lv_istore (lv' := [(9, .int 1), (8, .int 0), (7, .int 0), (6, .int 0), (5, .int 0), (4, .int 0), (3, .int 0), (2, .int 0), (1, .int 0), (0, .ref (ad jO))]) hx hb dL_books_22 hl (by decide) rfl (fun ls hl => ?_)
  have hls := hl.1
  refine lv_iconst (v := 0) hx hb dL_books_24 (by decide) ?_
  refine lv_istore (lv' := [(10, .int 0), (9, .int 1), (8, .int 0), (7, .int 0), (6, .int 0), (5, .int 0), (4, .int 0), (3, .int 0), (2, .int 0), (1, .int 0), (0, .ref (ad jO))]) hx hb dL_books_25 hl (by decide) rfl (fun ls hl => ?_)
  have hls := hl.1
  have hl := lv_sub hl [10, 9, 8, 7, 6, 5, 4, 3, 2, 1, 0] rfl
  have hl : lv_has ls 14 [(0, .ref (ad jO)), (1, .int (pS (bC (cv S 0)) 0)), (2, .int (pS (bL (cv S 0)) 0)), (3, .int (pS (bB (cv S 0)) 0)), (4, .int (pS (bF (cv S 0)) 0)), (5, .int (pS (bR (cv S 0)) 0)), (6, .int (pS (bO (cv S 0)) 0)), (7, .int (pS (bA (cv S 0)) 0)), (8, .int (pM (bQ (cv S 0)) 0)), (9, .int 1), (10, .int (nI 0))] := hl
  refine bk_outer B hl0 hE hrx (fun H locs cells slots ls hW hl hc hs => ?_) 8 0 _ _ _ _ _ rfl hW hl (by omega) (by omega)
  refine bk_B1 B hl0 hE hrx (C0 := 1024) (by omega) hW hl (by omega) (by omega) (fun H locs cells slots ls hW hl hc hs => ?_)
  refine bk_B2 B hl0 hE hrx (C0 := 1032) (by omega) hW hl (by omega) (by omega) (fun H locs cells slots ls hW hl hc hs => ?_)
  refine bk_B3 B hl0 hE hrx (C0 := 1046) (by omega) hW hl (by omega) (by omega) (fun H locs cells slots ls hW hl hc hs => ?_)
  exact bk_B4 B hl0 hE hrx (C0 := 1054) (by omega) hW hl (by omega) (by omega)
end DBK5
