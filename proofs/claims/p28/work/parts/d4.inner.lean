section DBK1
variable {p : Program} {l : Launch} {e : Env} {s : State} {mm : MethodId} {args : Array Value} {below : List Frame} {meth : Method} {c : Code} {Q : State → Prop} {D : va_G} {ad : Nat → Nat} {A : Nat → Prop} {V : vE} {S : vS} {cy : Int} {m : Nat} {H : Heap} {locs : List Loc} {cells slots : Nat} {ls : Array Slot}
theorem bk_inner (B : Cx p mm c cL_books 14 s args wsL_books RL meth (some .boolean) D) (hl0 : l.stackTraces = false) (hE : nv V A s s.heap) (hrx : RX cy S) (hm : m < 8) (hh : ¬ cv S 0 (13 + 14 * m + 0) = 0) {v1 v2 v3 v4 v5 v6 v7 v8 v9 : Int32} {C0 : Nat} (hC0 : C0 ≤ 1150) (kk : ∀ (H : Heap) (locs : List Loc) (cells slots : Nat) (ls : Array Slot), Wd D 157 (cC D ad) ad A s.heap S H locs → lv_has ls 14 [(0, .ref (ad jO)), (1, .int v1), (2, .int v2), (3, .int v3), (4, .int v4), (5, .int v5), (6, .int v6), (7, .int v7), (8, .int v8), (9, .int v9), (10, .int (nI m)), (11, .int (s8 (fun o => cv S 0 (125 + 8 * m + o)))), (12, .int (s8 (fun o => cv S 0 (125 + 8 * o + m)))), (13, .int (nI 8))] → cells ≤ C0 + 64 → slots ≤ 6 * C0 + 6 * 64 → W p l e (rmX 9 1300) s mm args below meth c H locs cells slots Q (F0 mm 122 ls [])) :
    ∀ (n i : Nat) (H : Heap) (locs : List Loc) (cells slots : Nat) (ls : Array Slot), i + n = 8 → Wd D 157 (cC D ad) ad A s.heap S H locs → lv_has ls 14 [(0, .ref (ad jO)), (1, .int v1), (2, .int v2), (3, .int v3), (4, .int v4), (5, .int v5), (6, .int v6), (7, .int v7), (8, .int v8), (9, .int v9), (10, .int (nI m)), (11, .int (pS (fun o => cv S 0 (125 + 8 * m + o)) i)), (12, .int (pS (fun o => cv S 0 (125 + 8 * o + m)) i)), (13, .int (nI i))] → cells ≤ C0 + 8 * i → slots ≤ 6 * C0 + 48 * i → W p l e (rmX 9 1300) s mm args below meth c H locs cells slots Q (F0 mm 57 ls []) := by
  have hx := B.1.1
  have hb := B.1.2.1
  intro n
  induction n with
  | zero =>
    intro i H locs cells slots ls hi hW hl hc hs
    obtain rfl : i = 8 := by omega
    have hls := hl.1
    refine lv_iload hx hb dL_books_57 (lv_at hl 13 rfl) ?_
    refine lv_bipush (v := 8) hx hb dL_books_59 (by decide) ?_
    refine lv_icmp_ge (tgt := 122) hx hb dL_books_61 (by decide) (fun _ => ?_) (fun q => absurd le8 q)
    exact kk _ _ _ _ _ hW hl (by omega) (by omega)
  | succ n ih =>
    intro i H locs cells slots ls hi hW hl hc hs
    have hls := hl.1
    have hi8 : i < 8 := by omega
    refine lv_iload hx hb dL_books_57 (lv_at hl 13 rfl) ?_
    refine lv_bipush (v := 8) hx hb dL_books_59 (by decide) ?_
    refine lv_icmp_ge (tgt := 122) hx hb dL_books_61 (by decide) (fun q => absurd q (ge8 hi8)) (fun _ => ?_)
    by_cases hq : cv S 0 (13 + 14 * i + 0) = 0
    · skip
      refine lv_iload hx hb dL_books_64 (lv_at hl 11 rfl) ?_
      refine lv_aload_n hx hb dL_books_66 rfl (lv_at hl 0 rfl) ?_
      refine lv_iload hx hb dL_books_67 (lv_at hl 13 rfl) ?_
      refine lb_help B hW hE (As := [.ref (ad jO), .int (nI i)]) (rest := .int (pS (fun o => cv S 0 (125 + 8 * m + o)) i) :: []) (h_L_isMember (D := D) (ad := ad) (V := V) l _ hl0 S hrx i hi8) (vx_cwSW 2 B.1.2.2.2.2 gL_books_L_isMember rfl rfl rfl hd_L_isMember.2 ⟨Nat.le_of_ble_eq_true rfl, Nat.le_of_ble_eq_true rfl⟩) rfl hls (Nat.le_of_ble_eq_true rfl) dL_books_69 ⟨by show _ ≤ 1300; omega, by show _ ≤ 7800; omega⟩ (fun r_69 S9 H locs he hW => ?_)
      obtain ⟨hr, he⟩ := he
      rw [he] at hW
      rw [if_pos hq] at hr
      subst hr
      refine lv_if_eq (tgt := 86) hx hb dL_books_72 (by decide) (fun _ => ?_) (fun q => absurd rfl q)
      refine lv_iconst (v := 0) hx hb dL_books_86 (by decide) ?_
      refine lv_iadd hx hb dL_books_87 ?_
      refine lv_istore (lv' := [(11, .int ((pS (fun o => cv S 0 (125 + 8 * m + o)) i) + 0)), (0, .ref (ad jO)), (1, .int v1), (2, .int v2), (3, .int v3), (4, .int v4), (5, .int v5), (6, .int v6), (7, .int v7), (8, .int v8), (9, .int v9), (10, .int (nI m)), (12, .int (pS (fun o => cv S 0 (125 + 8 * o + m)) i)), (13, .int (nI i))]) hx hb dL_books_88 hl (by decide) rfl (fun ls hl => ?_)
      have hls := hl.1
      refine lv_iload hx hb dL_books_90 (lv_at hl 12 rfl) ?_
      refine lv_aload_n hx hb dL_books_92 rfl (lv_at hl 1 rfl) ?_
      refine lv_iload hx hb dL_books_93 (lv_at hl 13 rfl) ?_
      refine lb_help B hW hE (As := [.ref (ad jO), .int (nI i)]) (rest := .int (pS (fun o => cv S 0 (125 + 8 * o + m)) i) :: []) (h_L_isMember (D := D) (ad := ad) (V := V) l _ hl0 S hrx i hi8) (vx_cwSW 2 B.1.2.2.2.2 gL_books_L_isMember rfl rfl rfl hd_L_isMember.2 ⟨Nat.le_of_ble_eq_true rfl, Nat.le_of_ble_eq_true rfl⟩) rfl hls (Nat.le_of_ble_eq_true rfl) dL_books_95 ⟨by show _ ≤ 1300; omega, by show _ ≤ 7800; omega⟩ (fun r_95 S9 H locs he hW => ?_)
      obtain ⟨hr, he⟩ := he
      rw [he] at hW
      rw [if_pos hq] at hr
      subst hr
      refine lv_if_eq (tgt := 112) hx hb dL_books_98 (by decide) (fun _ => ?_) (fun q => absurd rfl q)
      refine lv_iconst (v := 0) hx hb dL_books_112 (by decide) ?_
      refine lv_iadd hx hb dL_books_113 ?_
      refine lv_istore (lv' := [(12, .int ((pS (fun o => cv S 0 (125 + 8 * o + m)) i) + 0)), (11, .int ((pS (fun o => cv S 0 (125 + 8 * m + o)) i) + 0)), (0, .ref (ad jO)), (1, .int v1), (2, .int v2), (3, .int v3), (4, .int v4), (5, .int v5), (6, .int v6), (7, .int v7), (8, .int v8), (9, .int v9), (10, .int (nI m)), (13, .int (nI i))]) hx hb dL_books_114 hl (by decide) rfl (fun ls hl => ?_)
      have hls := hl.1
      refine lv_iinc (v := (nI (i + 1))) (lv' := [(13, .int (nI (i + 1))), (12, .int ((pS (fun o => cv S 0 (125 + 8 * o + m)) i) + 0)), (11, .int ((pS (fun o => cv S 0 (125 + 8 * m + o)) i) + 0)), (0, .ref (ad jO)), (1, .int v1), (2, .int v2), (3, .int v3), (4, .int v4), (5, .int v5), (6, .int v6), (7, .int v7), (8, .int v8), (9, .int v9), (10, .int (nI m))]) hx hb dL_books_116 hl (k := 13) rfl (nI_1 _) (by decide) rfl (fun ls hl => ?_)
      have hls := hl.1
      refine lv_goto (tgt := 57) hx hb dL_books_119 (by decide) ?_
      have hl := lv_sub hl [3, 4, 5, 6, 7, 8, 9, 10, 11, 12, 13, 2, 1, 0] rfl
      have hz := (hrx.2.1.1.2.2.2.2.1 i hi8 hq).2.2 m hm
      have e1 : pS (fun o => cv S 0 (125 + 8 * m + o)) i + 0 = pS (fun o => cv S 0 (125 + 8 * m + o)) (i + 1) := by show _ = pS _ i + cv S 0 (125 + 8 * m + i); rw [hz.2]
      have e2 : pS (fun o => cv S 0 (125 + 8 * o + m)) i + 0 = pS (fun o => cv S 0 (125 + 8 * o + m)) (i + 1) := by show _ = pS _ i + cv S 0 (125 + 8 * i + m); rw [hz.1]
      rw [e1, e2] at hl
      exact ih (i + 1) _ _ _ _ _ (by omega) hW hl (by omega) (by omega)
    · skip
      refine lv_iload hx hb dL_books_64 (lv_at hl 11 rfl) ?_
      refine lv_aload_n hx hb dL_books_66 rfl (lv_at hl 0 rfl) ?_
      refine lv_iload hx hb dL_books_67 (lv_at hl 13 rfl) ?_
      refine lb_help B hW hE (As := [.ref (ad jO), .int (nI i)]) (rest := .int (pS (fun o => cv S 0 (125 + 8 * m + o)) i) :: []) (h_L_isMember (D := D) (ad := ad) (V := V) l _ hl0 S hrx i hi8) (vx_cwSW 2 B.1.2.2.2.2 gL_books_L_isMember rfl rfl rfl hd_L_isMember.2 ⟨Nat.le_of_ble_eq_true rfl, Nat.le_of_ble_eq_true rfl⟩) rfl hls (Nat.le_of_ble_eq_true rfl) dL_books_69 ⟨by show _ ≤ 1300; omega, by show _ ≤ 7800; omega⟩ (fun r_69 S9 H locs he hW => ?_)
      obtain ⟨hr, he⟩ := he
      rw [he] at hW
      rw [if_neg hq] at hr
      subst hr
      refine lv_if_eq (tgt := 86) hx hb dL_books_72 (by decide) (fun q => absurd q (by decide)) (fun _ => ?_)
      refine lv_aload_n hx hb dL_books_75 rfl (lv_at hl 0 rfl) ?_
      refine lv_iload hx hb dL_books_76 (lv_at hl 10 rfl) ?_
      refine lv_iload hx hb dL_books_78 (lv_at hl 13 rfl) ?_
      refine lb_pure hW (x_runVX B hW hE (As := [.int (nI m), .int (nI i)]) (rest := .int (pS (fun o => cv S 0 (125 + 8 * m + o)) i) :: []) hqj cC_j cls4 (c_X4_owes (D := D) (ad := ad) (V := V) l _ hl0 S (nI m) (nI i)) (cwV 2 B.1.2.2.2.2 gL_books_X4_owes rfl rfl rfl hd_X4_owes ⟨Nat.le_of_ble_eq_true rfl, Nat.le_of_ble_eq_true rfl⟩) rfl hls (Nat.le_of_ble_eq_true rfl) dL_books_80 ⟨by show _ ≤ 1300; omega, by show _ ≤ 7800; omega⟩) (rd_owes hm hi8 hh hq) (fun H locs hW => ?_)
      refine lv_goto (tgt := 87) hx hb dL_books_83 (by decide) ?_
      refine lv_iadd hx hb dL_books_87 ?_
      refine lv_istore (lv' := [(11, .int ((pS (fun o => cv S 0 (125 + 8 * m + o)) i) + (cv S 0 (125 + 8 * m + i)))), (0, .ref (ad jO)), (1, .int v1), (2, .int v2), (3, .int v3), (4, .int v4), (5, .int v5), (6, .int v6), (7, .int v7), (8, .int v8), (9, .int v9), (10, .int (nI m)), (12, .int (pS (fun o => cv S 0 (125 + 8 * o + m)) i)), (13, .int (nI i))]) hx hb dL_books_88 hl (by decide) rfl (fun ls hl => ?_)
      have hls := hl.1
      refine lv_iload hx hb dL_books_90 (lv_at hl 12 rfl) ?_
      refine lv_aload_n hx hb dL_books_92 rfl (lv_at hl 1 rfl) ?_
      refine lv_iload hx hb dL_books_93 (lv_at hl 13 rfl) ?_
      refine lb_help B hW hE (As := [.ref (ad jO), .int (nI i)]) (rest := .int (pS (fun o => cv S 0 (125 + 8 * o + m)) i) :: []) (h_L_isMember (D := D) (ad := ad) (V := V) l _ hl0 S hrx i hi8) (vx_cwSW 2 B.1.2.2.2.2 gL_books_L_isMember rfl rfl rfl hd_L_isMember.2 ⟨Nat.le_of_ble_eq_true rfl, Nat.le_of_ble_eq_true rfl⟩) rfl hls (Nat.le_of_ble_eq_true rfl) dL_books_95 ⟨by show _ ≤ 1300; omega, by show _ ≤ 7800; omega⟩ (fun r_95 S9 H locs he hW => ?_)
      obtain ⟨hr, he⟩ := he
      rw [he] at hW
      rw [if_neg hq] at hr
      subst hr
      refine lv_if_eq (tgt := 112) hx hb dL_books_98 (by decide) (fun q => absurd q (by decide)) (fun _ => ?_)
      refine lv_aload_n hx hb dL_books_101 rfl (lv_at hl 1 rfl) ?_
      refine lv_iload hx hb dL_books_102 (lv_at hl 13 rfl) ?_
      refine lv_iload hx hb dL_books_104 (lv_at hl 11 rfl) ?_
      refine lb_pure hW (x_runVX B hW hE (As := [.int (nI i), .int (nI m)]) (rest := .int (pS (fun o => cv S 0 (125 + 8 * o + m)) i) :: []) hqj cC_j cls4 (c_X4_owes (D := D) (ad := ad) (V := V) l _ hl0 S (nI i) (nI m)) (cwV 2 B.1.2.2.2.2 gL_books_X4_owes rfl rfl rfl hd_X4_owes ⟨Nat.le_of_ble_eq_true rfl, Nat.le_of_ble_eq_true rfl⟩) rfl hls (Nat.le_of_ble_eq_true rfl) dL_books_106 ⟨by show _ ≤ 1300; omega, by show _ ≤ 7800; omega⟩) (rd_owes hi8 hm hq hh) (fun H locs hW => ?_)
      refine lv_goto (tgt := 113) hx hb dL_books_109 (by decide) ?_
      refine lv_iadd hx hb dL_books_113 ?_
      refine lv_istore (lv' := [(12, .int ((pS (fun o => cv S 0 (125 + 8 * o + m)) i) + (cv S 0 (125 + 8 * i + m)))), (11, .int ((pS (fun o => cv S 0 (125 + 8 * m + o)) i) + (cv S 0 (125 + 8 * m + i)))), (0, .ref (ad jO)), (1, .int v1), (2, .int v2), (3, .int v3), (4, .int v4), (5, .int v5), (6, .int v6), (7, .int v7), (8, .int v8), (9, .int v9), (10, .int (nI m)), (13, .int (nI i))]) hx hb dL_books_114 hl (by decide) rfl (fun ls hl => ?_)
      have hls := hl.1
      refine lv_iinc (v := (nI (i + 1))) (lv' := [(13, .int (nI (i + 1))), (12, .int ((pS (fun o => cv S 0 (125 + 8 * o + m)) i) + (cv S 0 (125 + 8 * i + m)))), (11, .int ((pS (fun o => cv S 0 (125 + 8 * m + o)) i) + (cv S 0 (125 + 8 * m + i)))), (0, .ref (ad jO)), (1, .int v1), (2, .int v2), (3, .int v3), (4, .int v4), (5, .int v5), (6, .int v6), (7, .int v7), (8, .int v8), (9, .int v9), (10, .int (nI m))]) hx hb dL_books_116 hl (k := 13) rfl (nI_1 _) (by decide) rfl (fun ls hl => ?_)
      have hls := hl.1
      refine lv_goto (tgt := 57) hx hb dL_books_119 (by decide) ?_
      have hl := lv_sub hl [3, 4, 5, 6, 7, 8, 9, 10, 11, 12, 13, 2, 1, 0] rfl
      exact ih (i + 1) _ _ _ _ _ (by omega) hW hl (by omega) (by omega)
end DBK1
