section DBK2
variable {p : Program} {l : Launch} {e : Env} {s : State} {mm : MethodId} {args : Array Value} {below : List Frame} {meth : Method} {c : Code} {Q : State → Prop} {D : va_G} {ad : Nat → Nat} {A : Nat → Prop} {V : vE} {S : vS} {cy : Int} {m : Nat} {H : Heap} {locs : List Loc} {cells slots : Nat} {ls : Array Slot}
theorem bk_A1 (B : Cx p mm c cL_books 14 s args wsL_books RL meth (some .boolean) D) (hl0 : l.stackTraces = false) (hE : nv V A s s.heap) (hrx : RX cy S) (hm : m < 8) (hh : ¬ cv S 0 (13 + 14 * m + 0) = 0) {v1 v2 v3 v4 v5 v6 v7 v8 v9 : Int32} {C0 : Nat} (hC0 : C0 ≤ 1150) (hW : Wd D 157 (cC D ad) ad A s.heap S H locs) (hl : lv_has ls 14 [(0, .ref (ad jO)), (1, .int v1), (2, .int v2), (3, .int v3), (4, .int v4), (5, .int v5), (6, .int v6), (7, .int v7), (8, .int v8), (9, .int v9), (10, .int (nI m)), (11, .int (s8 (fun o => cv S 0 (125 + 8 * m + o)))), (12, .int (s8 (fun o => cv S 0 (125 + 8 * o + m)))), (13, .int (nI 8))]) (hc : cells ≤ C0) (hs : slots ≤ 6 * C0) (kk : ∀ (H : Heap) (locs : List Loc) (cells slots : Nat) (ls : Array Slot), Wd D 157 (cC D ad) ad A s.heap S H locs → lv_has ls 14 [(0, .ref (ad jO)), (1, .int v1), (2, .int v2), (3, .int v3), (4, .int v4), (5, .int v5), (6, .int v6), (7, .int v7), (8, .int v8), (9, .int 1), (10, .int (nI m)), (11, .int (s8 (fun o => cv S 0 (125 + 8 * m + o)))), (12, .int (s8 (fun o => cv S 0 (125 + 8 * o + m)))), (13, .int (nI 8))] → cells ≤ C0 + 18 → slots ≤ 6 * C0 + 6 * 18 → W p l e (rmX 9 1300) s mm args below meth c H locs cells slots Q (F0 mm 249 ls [])) : W p l e (rmX 9 1300) s mm args below meth c H locs cells slots Q (F0 mm 122 ls []) := by
  have hx := B.1.1
  have hb := B.1.2.1
  have hls := hl.1
  rcases pf_loan hrx hm with ⟨c3, c2, c1, c4, c5, c12, c30⟩ | ⟨c3, c2, c1, c12, c30⟩
  · skip
    refine lv_aload_n hx hb dL_books_122 rfl (lv_at hl 0 rfl) ?_
    refine lv_iload hx hb dL_books_123 (lv_at hl 10 rfl) ?_
    refine lv_bipush (v := 10) hx hb dL_books_125 (by decide) ?_
    refine lb_pure hW (x_runVX B hW hE (As := [.int (nI m), .int 10]) (rest := []) hqj cC_j cls4 (c_X4_member (D := D) (ad := ad) (V := V) l _ hl0 S (nI m) 10) (cwV 2 B.1.2.2.2.2 gL_books_X4_member rfl rfl rfl hd_X4_member ⟨Nat.le_of_ble_eq_true rfl, Nat.le_of_ble_eq_true rfl⟩) rfl hls (Nat.le_of_ble_eq_true rfl) dL_books_127 ⟨by show _ ≤ 1300; omega, by show _ ≤ 7800; omega⟩) (rd (q := 10) hm hh (by decide)) (fun H locs hW => ?_)
    refine lv_iload hx hb dL_books_130 (lv_at hl 11 rfl) ?_
    refine lv_icmp_ne (tgt := 246) hx hb dL_books_132 (by decide) (fun q => absurd rfl q) (fun _ => ?_)
    refine lv_aload_n hx hb dL_books_135 rfl (lv_at hl 0 rfl) ?_
    refine lv_iload hx hb dL_books_136 (lv_at hl 10 rfl) ?_
    refine lv_bipush (v := 11) hx hb dL_books_138 (by decide) ?_
    refine lb_pure hW (x_runVX B hW hE (As := [.int (nI m), .int 11]) (rest := []) hqj cC_j cls4 (c_X4_member (D := D) (ad := ad) (V := V) l _ hl0 S (nI m) 11) (cwV 2 B.1.2.2.2.2 gL_books_X4_member rfl rfl rfl hd_X4_member ⟨Nat.le_of_ble_eq_true rfl, Nat.le_of_ble_eq_true rfl⟩) rfl hls (Nat.le_of_ble_eq_true rfl) dL_books_140 ⟨by show _ ≤ 1300; omega, by show _ ≤ 7800; omega⟩) (rd (q := 11) hm hh (by decide)) (fun H locs hW => ?_)
    refine lv_iload hx hb dL_books_143 (lv_at hl 12 rfl) ?_
    refine lv_icmp_ne (tgt := 246) hx hb dL_books_145 (by decide) (fun q => absurd rfl q) (fun _ => ?_)
    refine lv_aload_n hx hb dL_books_148 rfl (lv_at hl 0 rfl) ?_
    refine lv_iload hx hb dL_books_149 (lv_at hl 10 rfl) ?_
    refine lv_iload hx hb dL_books_151 (lv_at hl 10 rfl) ?_
    refine lb_pure hW (x_runVX B hW hE (As := [.int (nI m), .int (nI m)]) (rest := []) hqj cC_j cls4 (c_X4_owes (D := D) (ad := ad) (V := V) l _ hl0 S (nI m) (nI m)) (cwV 2 B.1.2.2.2.2 gL_books_X4_owes rfl rfl rfl hd_X4_owes ⟨Nat.le_of_ble_eq_true rfl, Nat.le_of_ble_eq_true rfl⟩) rfl hls (Nat.le_of_ble_eq_true rfl) dL_books_153 ⟨by show _ ≤ 1300; omega, by show _ ≤ 7800; omega⟩) (rd_owes hm hm hh hh) (fun H locs hW => ?_)
    refine lv_if_ne (tgt := 246) hx hb dL_books_156 (by decide) (fun q => absurd (hrx.2.1.1.1 m hm) q) (fun _ => ?_)
    refine lv_aload_n hx hb dL_books_159 rfl (lv_at hl 0 rfl) ?_
    refine lv_iload hx hb dL_books_160 (lv_at hl 10 rfl) ?_
    refine lv_iconst (v := 2) hx hb dL_books_162 (by decide) ?_
    refine lb_pure hW (x_runVX B hW hE (As := [.int (nI m), .int 2]) (rest := []) hqj cC_j cls4 (c_X4_member (D := D) (ad := ad) (V := V) l _ hl0 S (nI m) 2) (cwV 2 B.1.2.2.2.2 gL_books_X4_member rfl rfl rfl hd_X4_member ⟨Nat.le_of_ble_eq_true rfl, Nat.le_of_ble_eq_true rfl⟩) rfl hls (Nat.le_of_ble_eq_true rfl) dL_books_163 ⟨by show _ ≤ 1300; omega, by show _ ≤ 7800; omega⟩) (rd (q := 2) hm hh (by decide)) (fun H locs hW => ?_)
    refine lv_if_le (tgt := 173) hx hb dL_books_166 (by decide) (fun _ => ?_) (fun q => absurd c2 q)
    refine lv_iconst (v := 0) hx hb dL_books_173 (by decide) ?_
    refine lv_aload_n hx hb dL_books_174 rfl (lv_at hl 0 rfl) ?_
    refine lv_iload hx hb dL_books_175 (lv_at hl 10 rfl) ?_
    refine lv_iconst (v := 3) hx hb dL_books_177 (by decide) ?_
    refine lb_pure hW (x_runVX B hW hE (As := [.int (nI m), .int 3]) (rest := .int 0 :: []) hqj cC_j cls4 (c_X4_member (D := D) (ad := ad) (V := V) l _ hl0 S (nI m) 3) (cwV 2 B.1.2.2.2.2 gL_books_X4_member rfl rfl rfl hd_X4_member ⟨Nat.le_of_ble_eq_true rfl, Nat.le_of_ble_eq_true rfl⟩) rfl hls (Nat.le_of_ble_eq_true rfl) dL_books_178 ⟨by show _ ≤ 1300; omega, by show _ ≤ 7800; omega⟩) (rd (q := 3) hm hh (by decide)) (fun H locs hW => ?_)
    refine lv_if_le (tgt := 188) hx hb dL_books_181 (by decide) (fun _ => ?_) (fun q => absurd c3 q)
    refine lv_iconst (v := 0) hx hb dL_books_188 (by decide) ?_
    refine lv_icmp_ne (tgt := 246) hx hb dL_books_189 (by decide) (fun q => absurd rfl q) (fun _ => ?_)
    refine lv_aload_n hx hb dL_books_192 rfl (lv_at hl 0 rfl) ?_
    refine lv_iload hx hb dL_books_193 (lv_at hl 10 rfl) ?_
    refine lv_iconst (v := 3) hx hb dL_books_195 (by decide) ?_
    refine lb_pure hW (x_runVX B hW hE (As := [.int (nI m), .int 3]) (rest := []) hqj cC_j cls4 (c_X4_member (D := D) (ad := ad) (V := V) l _ hl0 S (nI m) 3) (cwV 2 B.1.2.2.2.2 gL_books_X4_member rfl rfl rfl hd_X4_member ⟨Nat.le_of_ble_eq_true rfl, Nat.le_of_ble_eq_true rfl⟩) rfl hls (Nat.le_of_ble_eq_true rfl) dL_books_196 ⟨by show _ ≤ 1300; omega, by show _ ≤ 7800; omega⟩) (rd (q := 3) hm hh (by decide)) (fun H locs hW => ?_)
    refine lv_if_le (tgt := 206) hx hb dL_books_199 (by decide) (fun _ => ?_) (fun q => absurd c3 q)
    refine lv_iconst (v := 0) hx hb dL_books_206 (by decide) ?_
    refine lv_aload_n hx hb dL_books_207 rfl (lv_at hl 0 rfl) ?_
    refine lv_iload hx hb dL_books_208 (lv_at hl 10 rfl) ?_
    refine lv_iconst (v := 1) hx hb dL_books_210 (by decide) ?_
    refine lb_pure hW (x_runVX B hW hE (As := [.int (nI m), .int 1]) (rest := .int 0 :: []) hqj cC_j cls4 (c_X4_member (D := D) (ad := ad) (V := V) l _ hl0 S (nI m) 1) (cwV 2 B.1.2.2.2.2 gL_books_X4_member rfl rfl rfl hd_X4_member ⟨Nat.le_of_ble_eq_true rfl, Nat.le_of_ble_eq_true rfl⟩) rfl hls (Nat.le_of_ble_eq_true rfl) dL_books_211 ⟨by show _ ≤ 1300; omega, by show _ ≤ 7800; omega⟩) (rd (q := 1) hm hh (by decide)) (fun H locs hW => ?_)
    refine lv_if_le (tgt := 221) hx hb dL_books_214 (by decide) (fun _ => ?_) (fun q => absurd c1 q)
    refine lv_iconst (v := 0) hx hb dL_books_221 (by decide) ?_
    refine lv_icmp_ne (tgt := 246) hx hb dL_books_222 (by decide) (fun q => absurd rfl q) (fun _ => ?_)
    refine lv_aload_n hx hb dL_books_225 rfl (lv_at hl 0 rfl) ?_
    refine lv_iload hx hb dL_books_226 (lv_at hl 10 rfl) ?_
    refine lv_iconst (v := 2) hx hb dL_books_228 (by decide) ?_
    refine lb_pure hW (x_runVX B hW hE (As := [.int (nI m), .int 2]) (rest := []) hqj cC_j cls4 (c_X4_member (D := D) (ad := ad) (V := V) l _ hl0 S (nI m) 2) (cwV 2 B.1.2.2.2.2 gL_books_X4_member rfl rfl rfl hd_X4_member ⟨Nat.le_of_ble_eq_true rfl, Nat.le_of_ble_eq_true rfl⟩) rfl hls (Nat.le_of_ble_eq_true rfl) dL_books_229 ⟨by show _ ≤ 1300; omega, by show _ ≤ 7800; omega⟩) (rd (q := 2) hm hh (by decide)) (fun H locs hW => ?_)
    refine lv_aload_n hx hb dL_books_232 rfl (lv_at hl 0 rfl) ?_
    refine lv_iload hx hb dL_books_233 (lv_at hl 10 rfl) ?_
    refine lv_iconst (v := 1) hx hb dL_books_235 (by decide) ?_
    refine lb_pure hW (x_runVX B hW hE (As := [.int (nI m), .int 1]) (rest := .int (pV (cv S 0) m 2) :: []) hqj cC_j cls4 (c_X4_member (D := D) (ad := ad) (V := V) l _ hl0 S (nI m) 1) (cwV 2 B.1.2.2.2.2 gL_books_X4_member rfl rfl rfl hd_X4_member ⟨Nat.le_of_ble_eq_true rfl, Nat.le_of_ble_eq_true rfl⟩) rfl hls (Nat.le_of_ble_eq_true rfl) dL_books_236 ⟨by show _ ≤ 1300; omega, by show _ ≤ 7800; omega⟩) (rd (q := 1) hm hh (by decide)) (fun H locs hW => ?_)
    refine lv_icmp_gt (tgt := 246) hx hb dL_books_239 (by decide) (fun q => absurd q c12) (fun _ => ?_)
    refine lv_iconst (v := 1) hx hb dL_books_242 (by decide) ?_
    refine lv_goto (tgt := 247) hx hb dL_books_243 (by decide) ?_
    refine lv_istore (lv' := [(9, .int 1), (0, .ref (ad jO)), (1, .int v1), (2, .int v2), (3, .int v3), (4, .int v4), (5, .int v5), (6, .int v6), (7, .int v7), (8, .int v8), (10, .int (nI m)), (11, .int (s8 (fun o => cv S 0 (125 + 8 * m + o)))), (12, .int (s8 (fun o => cv S 0 (125 + 8 * o + m)))), (13, .int (nI 8))]) hx hb dL_books_247 hl (by decide) rfl (fun ls hl => ?_)
    have hls := hl.1
    have hl := lv_sub hl [1, 2, 3, 4, 5, 6, 7, 8, 9, 0, 10, 11, 12, 13] rfl
    exact kk _ _ _ _ _ hW hl (by omega) (by omega)
  · skip
    refine lv_aload_n hx hb dL_books_122 rfl (lv_at hl 0 rfl) ?_
    refine lv_iload hx hb dL_books_123 (lv_at hl 10 rfl) ?_
    refine lv_bipush (v := 10) hx hb dL_books_125 (by decide) ?_
    refine lb_pure hW (x_runVX B hW hE (As := [.int (nI m), .int 10]) (rest := []) hqj cC_j cls4 (c_X4_member (D := D) (ad := ad) (V := V) l _ hl0 S (nI m) 10) (cwV 2 B.1.2.2.2.2 gL_books_X4_member rfl rfl rfl hd_X4_member ⟨Nat.le_of_ble_eq_true rfl, Nat.le_of_ble_eq_true rfl⟩) rfl hls (Nat.le_of_ble_eq_true rfl) dL_books_127 ⟨by show _ ≤ 1300; omega, by show _ ≤ 7800; omega⟩) (rd (q := 10) hm hh (by decide)) (fun H locs hW => ?_)
    refine lv_iload hx hb dL_books_130 (lv_at hl 11 rfl) ?_
    refine lv_icmp_ne (tgt := 246) hx hb dL_books_132 (by decide) (fun q => absurd rfl q) (fun _ => ?_)
    refine lv_aload_n hx hb dL_books_135 rfl (lv_at hl 0 rfl) ?_
    refine lv_iload hx hb dL_books_136 (lv_at hl 10 rfl) ?_
    refine lv_bipush (v := 11) hx hb dL_books_138 (by decide) ?_
    refine lb_pure hW (x_runVX B hW hE (As := [.int (nI m), .int 11]) (rest := []) hqj cC_j cls4 (c_X4_member (D := D) (ad := ad) (V := V) l _ hl0 S (nI m) 11) (cwV 2 B.1.2.2.2.2 gL_books_X4_member rfl rfl rfl hd_X4_member ⟨Nat.le_of_ble_eq_true rfl, Nat.le_of_ble_eq_true rfl⟩) rfl hls (Nat.le_of_ble_eq_true rfl) dL_books_140 ⟨by show _ ≤ 1300; omega, by show _ ≤ 7800; omega⟩) (rd (q := 11) hm hh (by decide)) (fun H locs hW => ?_)
    refine lv_iload hx hb dL_books_143 (lv_at hl 12 rfl) ?_
    refine lv_icmp_ne (tgt := 246) hx hb dL_books_145 (by decide) (fun q => absurd rfl q) (fun _ => ?_)
    refine lv_aload_n hx hb dL_books_148 rfl (lv_at hl 0 rfl) ?_
    refine lv_iload hx hb dL_books_149 (lv_at hl 10 rfl) ?_
    refine lv_iload hx hb dL_books_151 (lv_at hl 10 rfl) ?_
    refine lb_pure hW (x_runVX B hW hE (As := [.int (nI m), .int (nI m)]) (rest := []) hqj cC_j cls4 (c_X4_owes (D := D) (ad := ad) (V := V) l _ hl0 S (nI m) (nI m)) (cwV 2 B.1.2.2.2.2 gL_books_X4_owes rfl rfl rfl hd_X4_owes ⟨Nat.le_of_ble_eq_true rfl, Nat.le_of_ble_eq_true rfl⟩) rfl hls (Nat.le_of_ble_eq_true rfl) dL_books_153 ⟨by show _ ≤ 1300; omega, by show _ ≤ 7800; omega⟩) (rd_owes hm hm hh hh) (fun H locs hW => ?_)
    refine lv_if_ne (tgt := 246) hx hb dL_books_156 (by decide) (fun q => absurd (hrx.2.1.1.1 m hm) q) (fun _ => ?_)
    refine lv_aload_n hx hb dL_books_159 rfl (lv_at hl 0 rfl) ?_
    refine lv_iload hx hb dL_books_160 (lv_at hl 10 rfl) ?_
    refine lv_iconst (v := 2) hx hb dL_books_162 (by decide) ?_
    refine lb_pure hW (x_runVX B hW hE (As := [.int (nI m), .int 2]) (rest := []) hqj cC_j cls4 (c_X4_member (D := D) (ad := ad) (V := V) l _ hl0 S (nI m) 2) (cwV 2 B.1.2.2.2.2 gL_books_X4_member rfl rfl rfl hd_X4_member ⟨Nat.le_of_ble_eq_true rfl, Nat.le_of_ble_eq_true rfl⟩) rfl hls (Nat.le_of_ble_eq_true rfl) dL_books_163 ⟨by show _ ≤ 1300; omega, by show _ ≤ 7800; omega⟩) (rd (q := 2) hm hh (by decide)) (fun H locs hW => ?_)
    refine lv_if_le (tgt := 173) hx hb dL_books_166 (by decide) (fun q => absurd q c2) (fun _ => ?_)
    refine lv_iconst (v := 1) hx hb dL_books_169 (by decide) ?_
    refine lv_goto (tgt := 174) hx hb dL_books_170 (by decide) ?_
    refine lv_aload_n hx hb dL_books_174 rfl (lv_at hl 0 rfl) ?_
    refine lv_iload hx hb dL_books_175 (lv_at hl 10 rfl) ?_
    refine lv_iconst (v := 3) hx hb dL_books_177 (by decide) ?_
    refine lb_pure hW (x_runVX B hW hE (As := [.int (nI m), .int 3]) (rest := .int 1 :: []) hqj cC_j cls4 (c_X4_member (D := D) (ad := ad) (V := V) l _ hl0 S (nI m) 3) (cwV 2 B.1.2.2.2.2 gL_books_X4_member rfl rfl rfl hd_X4_member ⟨Nat.le_of_ble_eq_true rfl, Nat.le_of_ble_eq_true rfl⟩) rfl hls (Nat.le_of_ble_eq_true rfl) dL_books_178 ⟨by show _ ≤ 1300; omega, by show _ ≤ 7800; omega⟩) (rd (q := 3) hm hh (by decide)) (fun H locs hW => ?_)
    refine lv_if_le (tgt := 188) hx hb dL_books_181 (by decide) (fun q => absurd q c3) (fun _ => ?_)
    refine lv_iconst (v := 1) hx hb dL_books_184 (by decide) ?_
    refine lv_goto (tgt := 189) hx hb dL_books_185 (by decide) ?_
    refine lv_icmp_ne (tgt := 246) hx hb dL_books_189 (by decide) (fun q => absurd rfl q) (fun _ => ?_)
    refine lv_aload_n hx hb dL_books_192 rfl (lv_at hl 0 rfl) ?_
    refine lv_iload hx hb dL_books_193 (lv_at hl 10 rfl) ?_
    refine lv_iconst (v := 3) hx hb dL_books_195 (by decide) ?_
    refine lb_pure hW (x_runVX B hW hE (As := [.int (nI m), .int 3]) (rest := []) hqj cC_j cls4 (c_X4_member (D := D) (ad := ad) (V := V) l _ hl0 S (nI m) 3) (cwV 2 B.1.2.2.2.2 gL_books_X4_member rfl rfl rfl hd_X4_member ⟨Nat.le_of_ble_eq_true rfl, Nat.le_of_ble_eq_true rfl⟩) rfl hls (Nat.le_of_ble_eq_true rfl) dL_books_196 ⟨by show _ ≤ 1300; omega, by show _ ≤ 7800; omega⟩) (rd (q := 3) hm hh (by decide)) (fun H locs hW => ?_)
    refine lv_if_le (tgt := 206) hx hb dL_books_199 (by decide) (fun q => absurd q c3) (fun _ => ?_)
    refine lv_iconst (v := 1) hx hb dL_books_202 (by decide) ?_
    refine lv_goto (tgt := 207) hx hb dL_books_203 (by decide) ?_
    refine lv_aload_n hx hb dL_books_207 rfl (lv_at hl 0 rfl) ?_
    refine lv_iload hx hb dL_books_208 (lv_at hl 10 rfl) ?_
    refine lv_iconst (v := 1) hx hb dL_books_210 (by decide) ?_
    refine lb_pure hW (x_runVX B hW hE (As := [.int (nI m), .int 1]) (rest := .int 1 :: []) hqj cC_j cls4 (c_X4_member (D := D) (ad := ad) (V := V) l _ hl0 S (nI m) 1) (cwV 2 B.1.2.2.2.2 gL_books_X4_member rfl rfl rfl hd_X4_member ⟨Nat.le_of_ble_eq_true rfl, Nat.le_of_ble_eq_true rfl⟩) rfl hls (Nat.le_of_ble_eq_true rfl) dL_books_211 ⟨by show _ ≤ 1300; omega, by show _ ≤ 7800; omega⟩) (rd (q := 1) hm hh (by decide)) (fun H locs hW => ?_)
    refine lv_if_le (tgt := 221) hx hb dL_books_214 (by decide) (fun q => absurd q c1) (fun _ => ?_)
    refine lv_iconst (v := 1) hx hb dL_books_217 (by decide) ?_
    refine lv_goto (tgt := 222) hx hb dL_books_218 (by decide) ?_
    refine lv_icmp_ne (tgt := 246) hx hb dL_books_222 (by decide) (fun q => absurd rfl q) (fun _ => ?_)
    refine lv_aload_n hx hb dL_books_225 rfl (lv_at hl 0 rfl) ?_
    refine lv_iload hx hb dL_books_226 (lv_at hl 10 rfl) ?_
    refine lv_iconst (v := 2) hx hb dL_books_228 (by decide) ?_
    refine lb_pure hW (x_runVX B hW hE (As := [.int (nI m), .int 2]) (rest := []) hqj cC_j cls4 (c_X4_member (D := D) (ad := ad) (V := V) l _ hl0 S (nI m) 2) (cwV 2 B.1.2.2.2.2 gL_books_X4_member rfl rfl rfl hd_X4_member ⟨Nat.le_of_ble_eq_true rfl, Nat.le_of_ble_eq_true rfl⟩) rfl hls (Nat.le_of_ble_eq_true rfl) dL_books_229 ⟨by show _ ≤ 1300; omega, by show _ ≤ 7800; omega⟩) (rd (q := 2) hm hh (by decide)) (fun H locs hW => ?_)
    refine lv_aload_n hx hb dL_books_232 rfl (lv_at hl 0 rfl) ?_
    refine lv_iload hx hb dL_books_233 (lv_at hl 10 rfl) ?_
    refine lv_iconst (v := 1) hx hb dL_books_235 (by decide) ?_
    refine lb_pure hW (x_runVX B hW hE (As := [.int (nI m), .int 1]) (rest := .int (pV (cv S 0) m 2) :: []) hqj cC_j cls4 (c_X4_member (D := D) (ad := ad) (V := V) l _ hl0 S (nI m) 1) (cwV 2 B.1.2.2.2.2 gL_books_X4_member rfl rfl rfl hd_X4_member ⟨Nat.le_of_ble_eq_true rfl, Nat.le_of_ble_eq_true rfl⟩) rfl hls (Nat.le_of_ble_eq_true rfl) dL_books_236 ⟨by show _ ≤ 1300; omega, by show _ ≤ 7800; omega⟩) (rd (q := 1) hm hh (by decide)) (fun H locs hW => ?_)
    refine lv_icmp_gt (tgt := 246) hx hb dL_books_239 (by decide) (fun q => absurd q c12) (fun _ => ?_)
    refine lv_iconst (v := 1) hx hb dL_books_242 (by decide) ?_
    refine lv_goto (tgt := 247) hx hb dL_books_243 (by decide) ?_
    refine lv_istore (lv' := [(9, .int 1), (0, .ref (ad jO)), (1, .int v1), (2, .int v2), (3, .int v3), (4, .int v4), (5, .int v5), (6, .int v6), (7, .int v7), (8, .int v8), (10, .int (nI m)), (11, .int (s8 (fun o => cv S 0 (125 + 8 * m + o)))), (12, .int (s8 (fun o => cv S 0 (125 + 8 * o + m)))), (13, .int (nI 8))]) hx hb dL_books_247 hl (by decide) rfl (fun ls hl => ?_)
    have hls := hl.1
    have hl := lv_sub hl [1, 2, 3, 4, 5, 6, 7, 8, 9, 0, 10, 11, 12, 13] rfl
    exact kk _ _ _ _ _ hW hl (by omega) (by omega)
theorem bk_A2 (B : Cx p mm c cL_books 14 s args wsL_books RL meth (some .boolean) D) (hl0 : l.stackTraces = false) (hE : nv V A s s.heap) (hrx : RX cy S) (hm : m < 8) (hh : ¬ cv S 0 (13 + 14 * m + 0) = 0) {v1 v2 v3 v4 v5 v6 v7 v8 v9 : Int32} {C0 : Nat} (hC0 : C0 ≤ 1150) (hW : Wd D 157 (cC D ad) ad A s.heap S H locs) (hl : lv_has ls 14 [(0, .ref (ad jO)), (1, .int v1), (2, .int v2), (3, .int v3), (4, .int v4), (5, .int v5), (6, .int v6), (7, .int v7), (8, .int v8), (9, .int 1), (10, .int (nI m)), (11, .int (s8 (fun o => cv S 0 (125 + 8 * m + o)))), (12, .int (s8 (fun o => cv S 0 (125 + 8 * o + m)))), (13, .int (nI 8))]) (hc : cells ≤ C0) (hs : slots ≤ 6 * C0) (kk : ∀ (H : Heap) (locs : List Loc) (cells slots : Nat) (ls : Array Slot), Wd D 157 (cC D ad) ad A s.heap S H locs → lv_has ls 14 [(0, .ref (ad jO)), (1, .int v1), (2, .int v2), (3, .int v3), (4, .int v4), (5, .int v5), (6, .int v6), (7, .int v7), (8, .int v8), (9, .int 1), (10, .int (nI m)), (11, .int (s8 (fun o => cv S 0 (125 + 8 * m + o)))), (12, .int (s8 (fun o => cv S 0 (125 + 8 * o + m)))), (13, .int (nI 8))] → cells ≤ C0 + 16 → slots ≤ 6 * C0 + 6 * 16 → W p l e (rmX 9 1300) s mm args below meth c H locs cells slots Q (F0 mm 345 ls [])) : W p l e (rmX 9 1300) s mm args below meth c H locs cells slots Q (F0 mm 249 ls []) := by
  have hx := B.1.1
  have hb := B.1.2.1
  have hls := hl.1
  obtain ⟨l1, l2⟩ := pf_lim hrx hm hh
  rcases pf_loan hrx hm with ⟨c3, c2, c1, c4, c5, c12, c30⟩ | ⟨c3, c2, c1, c12, c30⟩
  · skip
    refine lv_iload hx hb dL_books_249 (lv_at hl 9 rfl) ?_
    refine lv_if_eq (tgt := 342) hx hb dL_books_251 (by decide) (fun q => absurd q (by decide)) (fun _ => ?_)
    refine lv_aload_n hx hb dL_books_254 rfl (lv_at hl 0 rfl) ?_
    refine lv_iload hx hb dL_books_255 (lv_at hl 10 rfl) ?_
    refine lv_iconst (v := 0) hx hb dL_books_257 (by decide) ?_
    refine lb_pure hW (x_runVX B hW hE (As := [.int (nI m), .int 0]) (rest := []) hqj cC_j cls4 (c_X4_member (D := D) (ad := ad) (V := V) l _ hl0 S (nI m) 0) (cwV 2 B.1.2.2.2.2 gL_books_X4_member rfl rfl rfl hd_X4_member ⟨Nat.le_of_ble_eq_true rfl, Nat.le_of_ble_eq_true rfl⟩) rfl hls (Nat.le_of_ble_eq_true rfl) dL_books_258 ⟨by show _ ≤ 1300; omega, by show _ ≤ 7800; omega⟩) (rd (q := 0) hm hh (by decide)) (fun H locs hW => ?_)
    refine lv_bipush (v := 20) hx hb dL_books_261 (by decide) ?_
    refine lv_icmp_lt (tgt := 342) hx hb dL_books_263 (by decide) (fun q => absurd q l1) (fun _ => ?_)
    refine lv_aload_n hx hb dL_books_266 rfl (lv_at hl 0 rfl) ?_
    refine lv_iload hx hb dL_books_267 (lv_at hl 10 rfl) ?_
    refine lv_iconst (v := 0) hx hb dL_books_269 (by decide) ?_
    refine lb_pure hW (x_runVX B hW hE (As := [.int (nI m), .int 0]) (rest := []) hqj cC_j cls4 (c_X4_member (D := D) (ad := ad) (V := V) l _ hl0 S (nI m) 0) (cwV 2 B.1.2.2.2.2 gL_books_X4_member rfl rfl rfl hd_X4_member ⟨Nat.le_of_ble_eq_true rfl, Nat.le_of_ble_eq_true rfl⟩) rfl hls (Nat.le_of_ble_eq_true rfl) dL_books_270 ⟨by show _ ≤ 1300; omega, by show _ ≤ 7800; omega⟩) (rd (q := 0) hm hh (by decide)) (fun H locs hW => ?_)
    refine lv_sipush (v := 2000) hx hb dL_books_273 (by decide) ?_
    refine lv_icmp_gt (tgt := 342) hx hb dL_books_276 (by decide) (fun q => absurd q l2) (fun _ => ?_)
    refine lv_aload_n hx hb dL_books_279 rfl (lv_at hl 0 rfl) ?_
    refine lv_iload hx hb dL_books_280 (lv_at hl 10 rfl) ?_
    refine lv_bipush (v := 6) hx hb dL_books_282 (by decide) ?_
    refine lb_pure hW (x_runVX B hW hE (As := [.int (nI m), .int 6]) (rest := []) hqj cC_j cls4 (c_X4_member (D := D) (ad := ad) (V := V) l _ hl0 S (nI m) 6) (cwV 2 B.1.2.2.2.2 gL_books_X4_member rfl rfl rfl hd_X4_member ⟨Nat.le_of_ble_eq_true rfl, Nat.le_of_ble_eq_true rfl⟩) rfl hls (Nat.le_of_ble_eq_true rfl) dL_books_284 ⟨by show _ ≤ 1300; omega, by show _ ≤ 7800; omega⟩) (rd (q := 6) hm hh (by decide)) (fun H locs hW => ?_)
    refine lv_aload_n hx hb dL_books_287 rfl (lv_at hl 0 rfl) ?_
    refine lv_iload hx hb dL_books_288 (lv_at hl 10 rfl) ?_
    refine lv_bipush (v := 7) hx hb dL_books_290 (by decide) ?_
    refine lb_pure hW (x_runVX B hW hE (As := [.int (nI m), .int 7]) (rest := .int (pV (cv S 0) m 6) :: []) hqj cC_j cls4 (c_X4_member (D := D) (ad := ad) (V := V) l _ hl0 S (nI m) 7) (cwV 2 B.1.2.2.2.2 gL_books_X4_member rfl rfl rfl hd_X4_member ⟨Nat.le_of_ble_eq_true rfl, Nat.le_of_ble_eq_true rfl⟩) rfl hls (Nat.le_of_ble_eq_true rfl) dL_books_292 ⟨by show _ ≤ 1300; omega, by show _ ≤ 7800; omega⟩) (rd (q := 7) hm hh (by decide)) (fun H locs hW => ?_)
    refine lv_icmp_gt (tgt := 342) hx hb dL_books_295 (by decide) (fun q => absurd q (pf_mis hrx hm)) (fun _ => ?_)
    refine lv_aload_n hx hb dL_books_298 rfl (lv_at hl 0 rfl) ?_
    refine lv_iload hx hb dL_books_299 (lv_at hl 10 rfl) ?_
    refine lv_iconst (v := 4) hx hb dL_books_301 (by decide) ?_
    refine lb_pure hW (x_runVX B hW hE (As := [.int (nI m), .int 4]) (rest := []) hqj cC_j cls4 (c_X4_member (D := D) (ad := ad) (V := V) l _ hl0 S (nI m) 4) (cwV 2 B.1.2.2.2.2 gL_books_X4_member rfl rfl rfl hd_X4_member ⟨Nat.le_of_ble_eq_true rfl, Nat.le_of_ble_eq_true rfl⟩) rfl hls (Nat.le_of_ble_eq_true rfl) dL_books_302 ⟨by show _ ≤ 1300; omega, by show _ ≤ 7800; omega⟩) (rd (q := 4) hm hh (by decide)) (fun H locs hW => ?_)
    refine lv_if_lt (tgt := 342) hx hb dL_books_305 (by decide) (fun q => absurd q (pf_due hrx hm)) (fun _ => ?_)
    refine lv_aload_n hx hb dL_books_308 rfl (lv_at hl 0 rfl) ?_
    refine lv_iload hx hb dL_books_309 (lv_at hl 10 rfl) ?_
    refine lv_iconst (v := 3) hx hb dL_books_311 (by decide) ?_
    refine lb_pure hW (x_runVX B hW hE (As := [.int (nI m), .int 3]) (rest := []) hqj cC_j cls4 (c_X4_member (D := D) (ad := ad) (V := V) l _ hl0 S (nI m) 3) (cwV 2 B.1.2.2.2.2 gL_books_X4_member rfl rfl rfl hd_X4_member ⟨Nat.le_of_ble_eq_true rfl, Nat.le_of_ble_eq_true rfl⟩) rfl hls (Nat.le_of_ble_eq_true rfl) dL_books_312 ⟨by show _ ≤ 1300; omega, by show _ ≤ 7800; omega⟩) (rd (q := 3) hm hh (by decide)) (fun H locs hW => ?_)
    refine lv_if_gt (tgt := 338) hx hb dL_books_315 (by decide) (fun q => absurd q c30) (fun _ => ?_)
    refine lv_aload_n hx hb dL_books_318 rfl (lv_at hl 0 rfl) ?_
    refine lv_iload hx hb dL_books_319 (lv_at hl 10 rfl) ?_
    refine lv_iconst (v := 4) hx hb dL_books_321 (by decide) ?_
    refine lb_pure hW (x_runVX B hW hE (As := [.int (nI m), .int 4]) (rest := []) hqj cC_j cls4 (c_X4_member (D := D) (ad := ad) (V := V) l _ hl0 S (nI m) 4) (cwV 2 B.1.2.2.2.2 gL_books_X4_member rfl rfl rfl hd_X4_member ⟨Nat.le_of_ble_eq_true rfl, Nat.le_of_ble_eq_true rfl⟩) rfl hls (Nat.le_of_ble_eq_true rfl) dL_books_322 ⟨by show _ ≤ 1300; omega, by show _ ≤ 7800; omega⟩) (rd (q := 4) hm hh (by decide)) (fun H locs hW => ?_)
    refine lv_if_ne (tgt := 342) hx hb dL_books_325 (by decide) (fun q => absurd c4 q) (fun _ => ?_)
    refine lv_aload_n hx hb dL_books_328 rfl (lv_at hl 0 rfl) ?_
    refine lv_iload hx hb dL_books_329 (lv_at hl 10 rfl) ?_
    refine lb_pure hW (x_runVX B hW hE (As := [.int (nI m)]) (rest := []) hqj cC_j cls4 (c_X4_fundLasts (D := D) (ad := ad) (V := V) l _ hl0 S (nI m)) (cwV 1 B.1.2.2.2.2 gL_books_X4_fundLasts rfl rfl rfl hd_X4_fundLasts ⟨Nat.le_of_ble_eq_true rfl, Nat.le_of_ble_eq_true rfl⟩) rfl hls (Nat.le_of_ble_eq_true rfl) dL_books_331 ⟨by show _ ≤ 1300; omega, by show _ ≤ 7800; omega⟩) (rd_lasts hm hh) (fun H locs hW => ?_)
    refine lv_iconst (v := (-1)) hx hb dL_books_334 (by decide) ?_
    refine lv_icmp_ne (tgt := 342) hx hb dL_books_335 (by decide) (fun q => absurd c5 q) (fun _ => ?_)
    refine lv_iconst (v := 1) hx hb dL_books_338 (by decide) ?_
    refine lv_goto (tgt := 343) hx hb dL_books_339 (by decide) ?_
    refine lv_istore (lv' := [(9, .int 1), (0, .ref (ad jO)), (1, .int v1), (2, .int v2), (3, .int v3), (4, .int v4), (5, .int v5), (6, .int v6), (7, .int v7), (8, .int v8), (10, .int (nI m)), (11, .int (s8 (fun o => cv S 0 (125 + 8 * m + o)))), (12, .int (s8 (fun o => cv S 0 (125 + 8 * o + m)))), (13, .int (nI 8))]) hx hb dL_books_343 hl (by decide) rfl (fun ls hl => ?_)
    have hls := hl.1
    have hl := lv_sub hl [1, 2, 3, 4, 5, 6, 7, 8, 9, 0, 10, 11, 12, 13] rfl
    exact kk _ _ _ _ _ hW hl (by omega) (by omega)
  · skip
    refine lv_iload hx hb dL_books_249 (lv_at hl 9 rfl) ?_
    refine lv_if_eq (tgt := 342) hx hb dL_books_251 (by decide) (fun q => absurd q (by decide)) (fun _ => ?_)
    refine lv_aload_n hx hb dL_books_254 rfl (lv_at hl 0 rfl) ?_
    refine lv_iload hx hb dL_books_255 (lv_at hl 10 rfl) ?_
    refine lv_iconst (v := 0) hx hb dL_books_257 (by decide) ?_
    refine lb_pure hW (x_runVX B hW hE (As := [.int (nI m), .int 0]) (rest := []) hqj cC_j cls4 (c_X4_member (D := D) (ad := ad) (V := V) l _ hl0 S (nI m) 0) (cwV 2 B.1.2.2.2.2 gL_books_X4_member rfl rfl rfl hd_X4_member ⟨Nat.le_of_ble_eq_true rfl, Nat.le_of_ble_eq_true rfl⟩) rfl hls (Nat.le_of_ble_eq_true rfl) dL_books_258 ⟨by show _ ≤ 1300; omega, by show _ ≤ 7800; omega⟩) (rd (q := 0) hm hh (by decide)) (fun H locs hW => ?_)
    refine lv_bipush (v := 20) hx hb dL_books_261 (by decide) ?_
    refine lv_icmp_lt (tgt := 342) hx hb dL_books_263 (by decide) (fun q => absurd q l1) (fun _ => ?_)
    refine lv_aload_n hx hb dL_books_266 rfl (lv_at hl 0 rfl) ?_
    refine lv_iload hx hb dL_books_267 (lv_at hl 10 rfl) ?_
    refine lv_iconst (v := 0) hx hb dL_books_269 (by decide) ?_
    refine lb_pure hW (x_runVX B hW hE (As := [.int (nI m), .int 0]) (rest := []) hqj cC_j cls4 (c_X4_member (D := D) (ad := ad) (V := V) l _ hl0 S (nI m) 0) (cwV 2 B.1.2.2.2.2 gL_books_X4_member rfl rfl rfl hd_X4_member ⟨Nat.le_of_ble_eq_true rfl, Nat.le_of_ble_eq_true rfl⟩) rfl hls (Nat.le_of_ble_eq_true rfl) dL_books_270 ⟨by show _ ≤ 1300; omega, by show _ ≤ 7800; omega⟩) (rd (q := 0) hm hh (by decide)) (fun H locs hW => ?_)
    refine lv_sipush (v := 2000) hx hb dL_books_273 (by decide) ?_
    refine lv_icmp_gt (tgt := 342) hx hb dL_books_276 (by decide) (fun q => absurd q l2) (fun _ => ?_)
    refine lv_aload_n hx hb dL_books_279 rfl (lv_at hl 0 rfl) ?_
    refine lv_iload hx hb dL_books_280 (lv_at hl 10 rfl) ?_
    refine lv_bipush (v := 6) hx hb dL_books_282 (by decide) ?_
    refine lb_pure hW (x_runVX B hW hE (As := [.int (nI m), .int 6]) (rest := []) hqj cC_j cls4 (c_X4_member (D := D) (ad := ad) (V := V) l _ hl0 S (nI m) 6) (cwV 2 B.1.2.2.2.2 gL_books_X4_member rfl rfl rfl hd_X4_member ⟨Nat.le_of_ble_eq_true rfl, Nat.le_of_ble_eq_true rfl⟩) rfl hls (Nat.le_of_ble_eq_true rfl) dL_books_284 ⟨by show _ ≤ 1300; omega, by show _ ≤ 7800; omega⟩) (rd (q := 6) hm hh (by decide)) (fun H locs hW => ?_)
    refine lv_aload_n hx hb dL_books_287 rfl (lv_at hl 0 rfl) ?_
    refine lv_iload hx hb dL_books_288 (lv_at hl 10 rfl) ?_
    refine lv_bipush (v := 7) hx hb dL_books_290 (by decide) ?_
    refine lb_pure hW (x_runVX B hW hE (As := [.int (nI m), .int 7]) (rest := .int (pV (cv S 0) m 6) :: []) hqj cC_j cls4 (c_X4_member (D := D) (ad := ad) (V := V) l _ hl0 S (nI m) 7) (cwV 2 B.1.2.2.2.2 gL_books_X4_member rfl rfl rfl hd_X4_member ⟨Nat.le_of_ble_eq_true rfl, Nat.le_of_ble_eq_true rfl⟩) rfl hls (Nat.le_of_ble_eq_true rfl) dL_books_292 ⟨by show _ ≤ 1300; omega, by show _ ≤ 7800; omega⟩) (rd (q := 7) hm hh (by decide)) (fun H locs hW => ?_)
    refine lv_icmp_gt (tgt := 342) hx hb dL_books_295 (by decide) (fun q => absurd q (pf_mis hrx hm)) (fun _ => ?_)
    refine lv_aload_n hx hb dL_books_298 rfl (lv_at hl 0 rfl) ?_
    refine lv_iload hx hb dL_books_299 (lv_at hl 10 rfl) ?_
    refine lv_iconst (v := 4) hx hb dL_books_301 (by decide) ?_
    refine lb_pure hW (x_runVX B hW hE (As := [.int (nI m), .int 4]) (rest := []) hqj cC_j cls4 (c_X4_member (D := D) (ad := ad) (V := V) l _ hl0 S (nI m) 4) (cwV 2 B.1.2.2.2.2 gL_books_X4_member rfl rfl rfl hd_X4_member ⟨Nat.le_of_ble_eq_true rfl, Nat.le_of_ble_eq_true rfl⟩) rfl hls (Nat.le_of_ble_eq_true rfl) dL_books_302 ⟨by show _ ≤ 1300; omega, by show _ ≤ 7800; omega⟩) (rd (q := 4) hm hh (by decide)) (fun H locs hW => ?_)
    refine lv_if_lt (tgt := 342) hx hb dL_books_305 (by decide) (fun q => absurd q (pf_due hrx hm)) (fun _ => ?_)
    refine lv_aload_n hx hb dL_books_308 rfl (lv_at hl 0 rfl) ?_
    refine lv_iload hx hb dL_books_309 (lv_at hl 10 rfl) ?_
    refine lv_iconst (v := 3) hx hb dL_books_311 (by decide) ?_
    refine lb_pure hW (x_runVX B hW hE (As := [.int (nI m), .int 3]) (rest := []) hqj cC_j cls4 (c_X4_member (D := D) (ad := ad) (V := V) l _ hl0 S (nI m) 3) (cwV 2 B.1.2.2.2.2 gL_books_X4_member rfl rfl rfl hd_X4_member ⟨Nat.le_of_ble_eq_true rfl, Nat.le_of_ble_eq_true rfl⟩) rfl hls (Nat.le_of_ble_eq_true rfl) dL_books_312 ⟨by show _ ≤ 1300; omega, by show _ ≤ 7800; omega⟩) (rd (q := 3) hm hh (by decide)) (fun H locs hW => ?_)
    refine lv_if_gt (tgt := 338) hx hb dL_books_315 (by decide) (fun _ => ?_) (fun q => absurd c30 q)
    refine lv_iconst (v := 1) hx hb dL_books_338 (by decide) ?_
    refine lv_goto (tgt := 343) hx hb dL_books_339 (by decide) ?_
    refine lv_istore (lv' := [(9, .int 1), (0, .ref (ad jO)), (1, .int v1), (2, .int v2), (3, .int v3), (4, .int v4), (5, .int v5), (6, .int v6), (7, .int v7), (8, .int v8), (10, .int (nI m)), (11, .int (s8 (fun o => cv S 0 (125 + 8 * m + o)))), (12, .int (s8 (fun o => cv S 0 (125 + 8 * o + m)))), (13, .int (nI 8))]) hx hb dL_books_343 hl (by decide) rfl (fun ls hl => ?_)
    have hls := hl.1
    have hl := lv_sub hl [1, 2, 3, 4, 5, 6, 7, 8, 9, 0, 10, 11, 12, 13] rfl
    exact kk _ _ _ _ _ hW hl (by omega) (by omega)
theorem bk_A3 (B : Cx p mm c cL_books 14 s args wsL_books RL meth (some .boolean) D) (hl0 : l.stackTraces = false) (hE : nv V A s s.heap) (hrx : RX cy S) (hm : m < 8) (hh : ¬ cv S 0 (13 + 14 * m + 0) = 0) {v1 v2 v3 v4 v5 v6 v7 v8 v9 : Int32} {C0 : Nat} (hC0 : C0 ≤ 1150) (hW : Wd D 157 (cC D ad) ad A s.heap S H locs) (hl : lv_has ls 14 [(0, .ref (ad jO)), (1, .int v1), (2, .int v2), (3, .int v3), (4, .int v4), (5, .int v5), (6, .int v6), (7, .int v7), (8, .int v8), (9, .int 1), (10, .int (nI m)), (11, .int (s8 (fun o => cv S 0 (125 + 8 * m + o)))), (12, .int (s8 (fun o => cv S 0 (125 + 8 * o + m)))), (13, .int (nI 8))]) (hc : cells ≤ C0) (hs : slots ≤ 6 * C0) (kk : ∀ (H : Heap) (locs : List Loc) (cells slots : Nat) (ls : Array Slot), Wd D 157 (cC D ad) ad A s.heap S H locs → lv_has ls 14 [(0, .ref (ad jO)), (1, .int v1), (2, .int v2), (3, .int v3), (4, .int v4), (5, .int v5), (6, .int v6), (7, .int v7), (8, .int v8), (9, .int 1), (10, .int (nI m)), (11, .int (s8 (fun o => cv S 0 (125 + 8 * m + o)))), (12, .int (s8 (fun o => cv S 0 (125 + 8 * o + m)))), (13, .int (nI 8))] → cells ≤ C0 + 8 → slots ≤ 6 * C0 + 6 * 8 → W p l e (rmX 9 1300) s mm args below meth c H locs cells slots Q (F0 mm 407 ls [])) : W p l e (rmX 9 1300) s mm args below meth c H locs cells slots Q (F0 mm 345 ls []) := by
  have hx := B.1.1
  have hb := B.1.2.1
  have hls := hl.1
  obtain ⟨n1, n2, n3⟩ := pf_nl hrx hm hh
  by_cases qq : 0 < pV (cv S 0) m 6
  · skip
    refine lv_iload hx hb dL_books_345 (lv_at hl 9 rfl) ?_
    refine lv_if_eq (tgt := 404) hx hb dL_books_347 (by decide) (fun q => absurd q (by decide)) (fun _ => ?_)
    refine lv_aload_n hx hb dL_books_350 rfl (lv_at hl 0 rfl) ?_
    refine lv_iload hx hb dL_books_351 (lv_at hl 10 rfl) ?_
    refine lb_pure hW (x_runVX B hW hE (As := [.int (nI m)]) (rest := []) hqj cC_j cls4 (c_X4_ifCycle (D := D) (ad := ad) (V := V) l _ hl0 S (nI m)) (cwV 1 B.1.2.2.2.2 gL_books_X4_ifCycle rfl rfl rfl hd_X4_ifCycle ⟨Nat.le_of_ble_eq_true rfl, Nat.le_of_ble_eq_true rfl⟩) rfl hls (Nat.le_of_ble_eq_true rfl) dL_books_353 ⟨by show _ ≤ 1300; omega, by show _ ≤ 7800; omega⟩) (rd_limit hm hh) (fun H locs hW => ?_)
    refine lv_bipush (v := 20) hx hb dL_books_356 (by decide) ?_
    refine lv_icmp_lt (tgt := 404) hx hb dL_books_358 (by decide) (fun q => absurd q n1) (fun _ => ?_)
    refine lv_aload_n hx hb dL_books_361 rfl (lv_at hl 0 rfl) ?_
    refine lv_iload hx hb dL_books_362 (lv_at hl 10 rfl) ?_
    refine lb_pure hW (x_runVX B hW hE (As := [.int (nI m)]) (rest := []) hqj cC_j cls4 (c_X4_ifCycle (D := D) (ad := ad) (V := V) l _ hl0 S (nI m)) (cwV 1 B.1.2.2.2.2 gL_books_X4_ifCycle rfl rfl rfl hd_X4_ifCycle ⟨Nat.le_of_ble_eq_true rfl, Nat.le_of_ble_eq_true rfl⟩) rfl hls (Nat.le_of_ble_eq_true rfl) dL_books_364 ⟨by show _ ≤ 1300; omega, by show _ ≤ 7800; omega⟩) (rd_limit hm hh) (fun H locs hW => ?_)
    refine lv_sipush (v := 2000) hx hb dL_books_367 (by decide) ?_
    refine lv_icmp_gt (tgt := 404) hx hb dL_books_370 (by decide) (fun q => absurd q n2) (fun _ => ?_)
    refine lv_aload_n hx hb dL_books_373 rfl (lv_at hl 0 rfl) ?_
    refine lv_iload hx hb dL_books_374 (lv_at hl 10 rfl) ?_
    refine lv_bipush (v := 6) hx hb dL_books_376 (by decide) ?_
    refine lb_pure hW (x_runVX B hW hE (As := [.int (nI m), .int 6]) (rest := []) hqj cC_j cls4 (c_X4_member (D := D) (ad := ad) (V := V) l _ hl0 S (nI m) 6) (cwV 2 B.1.2.2.2.2 gL_books_X4_member rfl rfl rfl hd_X4_member ⟨Nat.le_of_ble_eq_true rfl, Nat.le_of_ble_eq_true rfl⟩) rfl hls (Nat.le_of_ble_eq_true rfl) dL_books_378 ⟨by show _ ≤ 1300; omega, by show _ ≤ 7800; omega⟩) (rd (q := 6) hm hh (by decide)) (fun H locs hW => ?_)
    refine lv_if_gt (tgt := 400) hx hb dL_books_381 (by decide) (fun _ => ?_) (fun q => absurd qq q)
    refine lv_iconst (v := 1) hx hb dL_books_400 (by decide) ?_
    refine lv_goto (tgt := 405) hx hb dL_books_401 (by decide) ?_
    refine lv_istore (lv' := [(9, .int 1), (0, .ref (ad jO)), (1, .int v1), (2, .int v2), (3, .int v3), (4, .int v4), (5, .int v5), (6, .int v6), (7, .int v7), (8, .int v8), (10, .int (nI m)), (11, .int (s8 (fun o => cv S 0 (125 + 8 * m + o)))), (12, .int (s8 (fun o => cv S 0 (125 + 8 * o + m)))), (13, .int (nI 8))]) hx hb dL_books_405 hl (by decide) rfl (fun ls hl => ?_)
    have hls := hl.1
    have hl := lv_sub hl [1, 2, 3, 4, 5, 6, 7, 8, 9, 0, 10, 11, 12, 13] rfl
    exact kk _ _ _ _ _ hW hl (by omega) (by omega)
  · skip
    refine lv_iload hx hb dL_books_345 (lv_at hl 9 rfl) ?_
    refine lv_if_eq (tgt := 404) hx hb dL_books_347 (by decide) (fun q => absurd q (by decide)) (fun _ => ?_)
    refine lv_aload_n hx hb dL_books_350 rfl (lv_at hl 0 rfl) ?_
    refine lv_iload hx hb dL_books_351 (lv_at hl 10 rfl) ?_
    refine lb_pure hW (x_runVX B hW hE (As := [.int (nI m)]) (rest := []) hqj cC_j cls4 (c_X4_ifCycle (D := D) (ad := ad) (V := V) l _ hl0 S (nI m)) (cwV 1 B.1.2.2.2.2 gL_books_X4_ifCycle rfl rfl rfl hd_X4_ifCycle ⟨Nat.le_of_ble_eq_true rfl, Nat.le_of_ble_eq_true rfl⟩) rfl hls (Nat.le_of_ble_eq_true rfl) dL_books_353 ⟨by show _ ≤ 1300; omega, by show _ ≤ 7800; omega⟩) (rd_limit hm hh) (fun H locs hW => ?_)
    refine lv_bipush (v := 20) hx hb dL_books_356 (by decide) ?_
    refine lv_icmp_lt (tgt := 404) hx hb dL_books_358 (by decide) (fun q => absurd q n1) (fun _ => ?_)
    refine lv_aload_n hx hb dL_books_361 rfl (lv_at hl 0 rfl) ?_
    refine lv_iload hx hb dL_books_362 (lv_at hl 10 rfl) ?_
    refine lb_pure hW (x_runVX B hW hE (As := [.int (nI m)]) (rest := []) hqj cC_j cls4 (c_X4_ifCycle (D := D) (ad := ad) (V := V) l _ hl0 S (nI m)) (cwV 1 B.1.2.2.2.2 gL_books_X4_ifCycle rfl rfl rfl hd_X4_ifCycle ⟨Nat.le_of_ble_eq_true rfl, Nat.le_of_ble_eq_true rfl⟩) rfl hls (Nat.le_of_ble_eq_true rfl) dL_books_364 ⟨by show _ ≤ 1300; omega, by show _ ≤ 7800; omega⟩) (rd_limit hm hh) (fun H locs hW => ?_)
    refine lv_sipush (v := 2000) hx hb dL_books_367 (by decide) ?_
    refine lv_icmp_gt (tgt := 404) hx hb dL_books_370 (by decide) (fun q => absurd q n2) (fun _ => ?_)
    refine lv_aload_n hx hb dL_books_373 rfl (lv_at hl 0 rfl) ?_
    refine lv_iload hx hb dL_books_374 (lv_at hl 10 rfl) ?_
    refine lv_bipush (v := 6) hx hb dL_books_376 (by decide) ?_
    refine lb_pure hW (x_runVX B hW hE (As := [.int (nI m), .int 6]) (rest := []) hqj cC_j cls4 (c_X4_member (D := D) (ad := ad) (V := V) l _ hl0 S (nI m) 6) (cwV 2 B.1.2.2.2.2 gL_books_X4_member rfl rfl rfl hd_X4_member ⟨Nat.le_of_ble_eq_true rfl, Nat.le_of_ble_eq_true rfl⟩) rfl hls (Nat.le_of_ble_eq_true rfl) dL_books_378 ⟨by show _ ≤ 1300; omega, by show _ ≤ 7800; omega⟩) (rd (q := 6) hm hh (by decide)) (fun H locs hW => ?_)
    refine lv_if_gt (tgt := 400) hx hb dL_books_381 (by decide) (fun q => absurd q qq) (fun _ => ?_)
    refine lv_aload_n hx hb dL_books_384 rfl (lv_at hl 0 rfl) ?_
    refine lv_iload hx hb dL_books_385 (lv_at hl 10 rfl) ?_
    refine lb_pure hW (x_runVX B hW hE (As := [.int (nI m)]) (rest := []) hqj cC_j cls4 (c_X4_ifCycle (D := D) (ad := ad) (V := V) l _ hl0 S (nI m)) (cwV 1 B.1.2.2.2.2 gL_books_X4_ifCycle rfl rfl rfl hd_X4_ifCycle ⟨Nat.le_of_ble_eq_true rfl, Nat.le_of_ble_eq_true rfl⟩) rfl hls (Nat.le_of_ble_eq_true rfl) dL_books_387 ⟨by show _ ≤ 1300; omega, by show _ ≤ 7800; omega⟩) (rd_limit hm hh) (fun H locs hW => ?_)
    refine lv_aload_n hx hb dL_books_390 rfl (lv_at hl 0 rfl) ?_
    refine lv_iload hx hb dL_books_391 (lv_at hl 10 rfl) ?_
    refine lv_iconst (v := 0) hx hb dL_books_393 (by decide) ?_
    refine lb_pure hW (x_runVX B hW hE (As := [.int (nI m), .int 0]) (rest := .int (v_X2_nextLimit (cv S 0) m) :: []) hqj cC_j cls4 (c_X4_member (D := D) (ad := ad) (V := V) l _ hl0 S (nI m) 0) (cwV 2 B.1.2.2.2.2 gL_books_X4_member rfl rfl rfl hd_X4_member ⟨Nat.le_of_ble_eq_true rfl, Nat.le_of_ble_eq_true rfl⟩) rfl hls (Nat.le_of_ble_eq_true rfl) dL_books_394 ⟨by show _ ≤ 1300; omega, by show _ ≤ 7800; omega⟩) (rd (q := 0) hm hh (by decide)) (fun H locs hW => ?_)
    refine lv_icmp_lt (tgt := 404) hx hb dL_books_397 (by decide) (fun q => absurd q (n3 qq)) (fun _ => ?_)
    refine lv_iconst (v := 1) hx hb dL_books_400 (by decide) ?_
    refine lv_goto (tgt := 405) hx hb dL_books_401 (by decide) ?_
    refine lv_istore (lv' := [(9, .int 1), (0, .ref (ad jO)), (1, .int v1), (2, .int v2), (3, .int v3), (4, .int v4), (5, .int v5), (6, .int v6), (7, .int v7), (8, .int v8), (10, .int (nI m)), (11, .int (s8 (fun o => cv S 0 (125 + 8 * m + o)))), (12, .int (s8 (fun o => cv S 0 (125 + 8 * o + m)))), (13, .int (nI 8))]) hx hb dL_books_405 hl (by decide) rfl (fun ls hl => ?_)
    have hls := hl.1
    have hl := lv_sub hl [1, 2, 3, 4, 5, 6, 7, 8, 9, 0, 10, 11, 12, 13] rfl
    exact kk _ _ _ _ _ hW hl (by omega) (by omega)
theorem bk_A4 (B : Cx p mm c cL_books 14 s args wsL_books RL meth (some .boolean) D) (hl0 : l.stackTraces = false) (hE : nv V A s s.heap) (hrx : RX cy S) (hm : m < 8) (hh : ¬ cv S 0 (13 + 14 * m + 0) = 0) {v1 v2 v3 v4 v5 v6 v7 v8 v9 : Int32} {C0 : Nat} (hC0 : C0 ≤ 1150) (hW : Wd D 157 (cC D ad) ad A s.heap S H locs) (hl : lv_has ls 14 [(0, .ref (ad jO)), (1, .int v1), (2, .int v2), (3, .int v3), (4, .int v4), (5, .int v5), (6, .int v6), (7, .int v7), (8, .int v8), (9, .int 1), (10, .int (nI m)), (11, .int (s8 (fun o => cv S 0 (125 + 8 * m + o)))), (12, .int (s8 (fun o => cv S 0 (125 + 8 * o + m)))), (13, .int (nI 8))]) (hc : cells ≤ C0) (hs : slots ≤ 6 * C0) (kk : ∀ (H : Heap) (locs : List Loc) (cells slots : Nat) (ls : Array Slot), Wd D 157 (cC D ad) ad A s.heap S H locs → lv_has ls 14 [(0, .ref (ad jO)), (1, .int (v1 + 1)), (2, .int (v2 + (pV (cv S 0) m 2))), (3, .int (v3 + (pV (cv S 0) m 8))), (4, .int (v4 + (pV (cv S 0) m 9))), (5, .int (v5 + s8 (fun o => cv S 0 (125 + 8 * m + o)))), (6, .int (v6 + s8 (fun o => cv S 0 (125 + 8 * o + m)))), (7, .int (v7 + (pV (cv S 0) m 5))), (8, .int (if v8 < (pV (cv S 0) m 3) then (pV (cv S 0) m 3) else v8)), (9, .int 1), (10, .int (nI m)), (11, .int (s8 (fun o => cv S 0 (125 + 8 * m + o)))), (12, .int (s8 (fun o => cv S 0 (125 + 8 * o + m)))), (13, .int (nI 8))] → cells ≤ C0 + 14 → slots ≤ 6 * C0 + 6 * 14 → W p l e (rmX 9 1300) s mm args below meth c H locs cells slots Q (F0 mm 496 ls [])) : W p l e (rmX 9 1300) s mm args below meth c H locs cells slots Q (F0 mm 407 ls []) := by
  have hx := B.1.1
  have hb := B.1.2.1
  have hls := hl.1
  by_cases qq : (pV (cv S 0) m 3) ≤ v8
  · skip
    refine lv_iload_n hx hb dL_books_407 rfl (lv_at hl 2 rfl) ?_
    refine lv_aload_n hx hb dL_books_408 rfl (lv_at hl 0 rfl) ?_
    refine lv_iload hx hb dL_books_409 (lv_at hl 10 rfl) ?_
    refine lv_iconst (v := 2) hx hb dL_books_411 (by decide) ?_
    refine lb_pure hW (x_runVX B hW hE (As := [.int (nI m), .int 2]) (rest := .int v2 :: []) hqj cC_j cls4 (c_X4_member (D := D) (ad := ad) (V := V) l _ hl0 S (nI m) 2) (cwV 2 B.1.2.2.2.2 gL_books_X4_member rfl rfl rfl hd_X4_member ⟨Nat.le_of_ble_eq_true rfl, Nat.le_of_ble_eq_true rfl⟩) rfl hls (Nat.le_of_ble_eq_true rfl) dL_books_412 ⟨by show _ ≤ 1300; omega, by show _ ≤ 7800; omega⟩) (rd (q := 2) hm hh (by decide)) (fun H locs hW => ?_)
    refine lv_iadd hx hb dL_books_415 ?_
    refine lv_istore_n (lv' := [(2, .int (v2 + (pV (cv S 0) m 2))), (0, .ref (ad jO)), (1, .int v1), (3, .int v3), (4, .int v4), (5, .int v5), (6, .int v6), (7, .int v7), (8, .int v8), (9, .int 1), (10, .int (nI m)), (11, .int (s8 (fun o => cv S 0 (125 + 8 * m + o)))), (12, .int (s8 (fun o => cv S 0 (125 + 8 * o + m)))), (13, .int (nI 8))]) hx hb dL_books_416 rfl hl (by decide) rfl (fun ls hl => ?_)
    have hls := hl.1
    refine lv_iload_n hx hb dL_books_417 rfl (lv_at hl 3 rfl) ?_
    refine lv_aload_n hx hb dL_books_418 rfl (lv_at hl 1 rfl) ?_
    refine lv_iload hx hb dL_books_419 (lv_at hl 10 rfl) ?_
    refine lv_bipush (v := 8) hx hb dL_books_421 (by decide) ?_
    refine lb_pure hW (x_runVX B hW hE (As := [.int (nI m), .int 8]) (rest := .int v3 :: []) hqj cC_j cls4 (c_X4_member (D := D) (ad := ad) (V := V) l _ hl0 S (nI m) 8) (cwV 2 B.1.2.2.2.2 gL_books_X4_member rfl rfl rfl hd_X4_member ⟨Nat.le_of_ble_eq_true rfl, Nat.le_of_ble_eq_true rfl⟩) rfl hls (Nat.le_of_ble_eq_true rfl) dL_books_423 ⟨by show _ ≤ 1300; omega, by show _ ≤ 7800; omega⟩) (rd (q := 8) hm hh (by decide)) (fun H locs hW => ?_)
    refine lv_iadd hx hb dL_books_426 ?_
    refine lv_istore_n (lv' := [(3, .int (v3 + (pV (cv S 0) m 8))), (2, .int (v2 + (pV (cv S 0) m 2))), (0, .ref (ad jO)), (1, .int v1), (4, .int v4), (5, .int v5), (6, .int v6), (7, .int v7), (8, .int v8), (9, .int 1), (10, .int (nI m)), (11, .int (s8 (fun o => cv S 0 (125 + 8 * m + o)))), (12, .int (s8 (fun o => cv S 0 (125 + 8 * o + m)))), (13, .int (nI 8))]) hx hb dL_books_427 rfl hl (by decide) rfl (fun ls hl => ?_)
    have hls := hl.1
    refine lv_iload hx hb dL_books_428 (lv_at hl 4 rfl) ?_
    refine lv_aload_n hx hb dL_books_430 rfl (lv_at hl 2 rfl) ?_
    refine lv_iload hx hb dL_books_431 (lv_at hl 10 rfl) ?_
    refine lv_bipush (v := 9) hx hb dL_books_433 (by decide) ?_
    refine lb_pure hW (x_runVX B hW hE (As := [.int (nI m), .int 9]) (rest := .int v4 :: []) hqj cC_j cls4 (c_X4_member (D := D) (ad := ad) (V := V) l _ hl0 S (nI m) 9) (cwV 2 B.1.2.2.2.2 gL_books_X4_member rfl rfl rfl hd_X4_member ⟨Nat.le_of_ble_eq_true rfl, Nat.le_of_ble_eq_true rfl⟩) rfl hls (Nat.le_of_ble_eq_true rfl) dL_books_435 ⟨by show _ ≤ 1300; omega, by show _ ≤ 7800; omega⟩) (rd (q := 9) hm hh (by decide)) (fun H locs hW => ?_)
    refine lv_iadd hx hb dL_books_438 ?_
    refine lv_istore (lv' := [(4, .int (v4 + (pV (cv S 0) m 9))), (3, .int (v3 + (pV (cv S 0) m 8))), (2, .int (v2 + (pV (cv S 0) m 2))), (0, .ref (ad jO)), (1, .int v1), (5, .int v5), (6, .int v6), (7, .int v7), (8, .int v8), (9, .int 1), (10, .int (nI m)), (11, .int (s8 (fun o => cv S 0 (125 + 8 * m + o)))), (12, .int (s8 (fun o => cv S 0 (125 + 8 * o + m)))), (13, .int (nI 8))]) hx hb dL_books_439 hl (by decide) rfl (fun ls hl => ?_)
    have hls := hl.1
    refine lv_iload hx hb dL_books_441 (lv_at hl 5 rfl) ?_
    refine lv_iload hx hb dL_books_443 (lv_at hl 11 rfl) ?_
    refine lv_iadd hx hb dL_books_445 ?_
    refine lv_istore (lv' := [(5, .int (v5 + (s8 (fun o => cv S 0 (125 + 8 * m + o))))), (4, .int (v4 + (pV (cv S 0) m 9))), (3, .int (v3 + (pV (cv S 0) m 8))), (2, .int (v2 + (pV (cv S 0) m 2))), (0, .ref (ad jO)), (1, .int v1), (6, .int v6), (7, .int v7), (8, .int v8), (9, .int 1), (10, .int (nI m)), (11, .int (s8 (fun o => cv S 0 (125 + 8 * m + o)))), (12, .int (s8 (fun o => cv S 0 (125 + 8 * o + m)))), (13, .int (nI 8))]) hx hb dL_books_446 hl (by decide) rfl (fun ls hl => ?_)
    have hls := hl.1
    refine lv_iload hx hb dL_books_448 (lv_at hl 6 rfl) ?_
    refine lv_iload hx hb dL_books_450 (lv_at hl 12 rfl) ?_
    refine lv_iadd hx hb dL_books_452 ?_
    refine lv_istore (lv' := [(6, .int (v6 + (s8 (fun o => cv S 0 (125 + 8 * o + m))))), (5, .int (v5 + (s8 (fun o => cv S 0 (125 + 8 * m + o))))), (4, .int (v4 + (pV (cv S 0) m 9))), (3, .int (v3 + (pV (cv S 0) m 8))), (2, .int (v2 + (pV (cv S 0) m 2))), (0, .ref (ad jO)), (1, .int v1), (7, .int v7), (8, .int v8), (9, .int 1), (10, .int (nI m)), (11, .int (s8 (fun o => cv S 0 (125 + 8 * m + o)))), (12, .int (s8 (fun o => cv S 0 (125 + 8 * o + m)))), (13, .int (nI 8))]) hx hb dL_books_453 hl (by decide) rfl (fun ls hl => ?_)
    have hls := hl.1
    refine lv_iload hx hb dL_books_455 (lv_at hl 7 rfl) ?_
    refine lv_aload_n hx hb dL_books_457 rfl (lv_at hl 5 rfl) ?_
    refine lv_iload hx hb dL_books_458 (lv_at hl 10 rfl) ?_
    refine lv_iconst (v := 5) hx hb dL_books_460 (by decide) ?_
    refine lb_pure hW (x_runVX B hW hE (As := [.int (nI m), .int 5]) (rest := .int v7 :: []) hqj cC_j cls4 (c_X4_member (D := D) (ad := ad) (V := V) l _ hl0 S (nI m) 5) (cwV 2 B.1.2.2.2.2 gL_books_X4_member rfl rfl rfl hd_X4_member ⟨Nat.le_of_ble_eq_true rfl, Nat.le_of_ble_eq_true rfl⟩) rfl hls (Nat.le_of_ble_eq_true rfl) dL_books_461 ⟨by show _ ≤ 1300; omega, by show _ ≤ 7800; omega⟩) (rd (q := 5) hm hh (by decide)) (fun H locs hW => ?_)
    refine lv_iadd hx hb dL_books_464 ?_
    refine lv_istore (lv' := [(7, .int (v7 + (pV (cv S 0) m 5))), (6, .int (v6 + (s8 (fun o => cv S 0 (125 + 8 * o + m))))), (5, .int (v5 + (s8 (fun o => cv S 0 (125 + 8 * m + o))))), (4, .int (v4 + (pV (cv S 0) m 9))), (3, .int (v3 + (pV (cv S 0) m 8))), (2, .int (v2 + (pV (cv S 0) m 2))), (0, .ref (ad jO)), (1, .int v1), (8, .int v8), (9, .int 1), (10, .int (nI m)), (11, .int (s8 (fun o => cv S 0 (125 + 8 * m + o)))), (12, .int (s8 (fun o => cv S 0 (125 + 8 * o + m)))), (13, .int (nI 8))]) hx hb dL_books_465 hl (by decide) rfl (fun ls hl => ?_)
    have hls := hl.1
    refine lv_aload_n hx hb dL_books_467 rfl (lv_at hl 6 rfl) ?_
    refine lv_iload hx hb dL_books_468 (lv_at hl 10 rfl) ?_
    refine lv_iconst (v := 3) hx hb dL_books_470 (by decide) ?_
    refine lb_pure hW (x_runVX B hW hE (As := [.int (nI m), .int 3]) (rest := []) hqj cC_j cls4 (c_X4_member (D := D) (ad := ad) (V := V) l _ hl0 S (nI m) 3) (cwV 2 B.1.2.2.2.2 gL_books_X4_member rfl rfl rfl hd_X4_member ⟨Nat.le_of_ble_eq_true rfl, Nat.le_of_ble_eq_true rfl⟩) rfl hls (Nat.le_of_ble_eq_true rfl) dL_books_471 ⟨by show _ ≤ 1300; omega, by show _ ≤ 7800; omega⟩) (rd (q := 3) hm hh (by decide)) (fun H locs hW => ?_)
    refine lv_iload hx hb dL_books_474 (lv_at hl 8 rfl) ?_
    refine lv_icmp_le (tgt := 489) hx hb dL_books_476 (by decide) (fun _ => ?_) (fun q => absurd qq q)
    refine lv_iload hx hb dL_books_489 (lv_at hl 8 rfl) ?_
    refine lv_istore (lv' := [(8, .int v8), (7, .int (v7 + (pV (cv S 0) m 5))), (6, .int (v6 + (s8 (fun o => cv S 0 (125 + 8 * o + m))))), (5, .int (v5 + (s8 (fun o => cv S 0 (125 + 8 * m + o))))), (4, .int (v4 + (pV (cv S 0) m 9))), (3, .int (v3 + (pV (cv S 0) m 8))), (2, .int (v2 + (pV (cv S 0) m 2))), (0, .ref (ad jO)), (1, .int v1), (9, .int 1), (10, .int (nI m)), (11, .int (s8 (fun o => cv S 0 (125 + 8 * m + o)))), (12, .int (s8 (fun o => cv S 0 (125 + 8 * o + m)))), (13, .int (nI 8))]) hx hb dL_books_491 hl (by decide) rfl (fun ls hl => ?_)
    have hls := hl.1
    refine lv_iinc (v := (v1 + 1)) (lv' := [(1, .int (v1 + 1)), (8, .int v8), (7, .int (v7 + (pV (cv S 0) m 5))), (6, .int (v6 + (s8 (fun o => cv S 0 (125 + 8 * o + m))))), (5, .int (v5 + (s8 (fun o => cv S 0 (125 + 8 * m + o))))), (4, .int (v4 + (pV (cv S 0) m 9))), (3, .int (v3 + (pV (cv S 0) m 8))), (2, .int (v2 + (pV (cv S 0) m 2))), (0, .ref (ad jO)), (9, .int 1), (10, .int (nI m)), (11, .int (s8 (fun o => cv S 0 (125 + 8 * m + o)))), (12, .int (s8 (fun o => cv S 0 (125 + 8 * o + m)))), (13, .int (nI 8))]) hx hb dL_books_493 hl (k := 8) rfl rfl (by decide) rfl (fun ls hl => ?_)
    have hls := hl.1
    have hl := lv_sub hl [8, 0, 7, 6, 5, 4, 3, 2, 1, 9, 10, 11, 12, 13] rfl
    have e8 : (if v8 < (pV (cv S 0) m 3) then (pV (cv S 0) m 3) else v8) = v8 := if_neg (nlt_of_le qq)
    rw [e8] at kk
    exact kk _ _ _ _ _ hW hl (by omega) (by omega)
  · skip
    refine lv_iload_n hx hb dL_books_407 rfl (lv_at hl 2 rfl) ?_
    refine lv_aload_n hx hb dL_books_408 rfl (lv_at hl 0 rfl) ?_
    refine lv_iload hx hb dL_books_409 (lv_at hl 10 rfl) ?_
    refine lv_iconst (v := 2) hx hb dL_books_411 (by decide) ?_
    refine lb_pure hW (x_runVX B hW hE (As := [.int (nI m), .int 2]) (rest := .int v2 :: []) hqj cC_j cls4 (c_X4_member (D := D) (ad := ad) (V := V) l _ hl0 S (nI m) 2) (cwV 2 B.1.2.2.2.2 gL_books_X4_member rfl rfl rfl hd_X4_member ⟨Nat.le_of_ble_eq_true rfl, Nat.le_of_ble_eq_true rfl⟩) rfl hls (Nat.le_of_ble_eq_true rfl) dL_books_412 ⟨by show _ ≤ 1300; omega, by show _ ≤ 7800; omega⟩) (rd (q := 2) hm hh (by decide)) (fun H locs hW => ?_)
    refine lv_iadd hx hb dL_books_415 ?_
    refine lv_istore_n (lv' := [(2, .int (v2 + (pV (cv S 0) m 2))), (0, .ref (ad jO)), (1, .int v1), (3, .int v3), (4, .int v4), (5, .int v5), (6, .int v6), (7, .int v7), (8, .int v8), (9, .int 1), (10, .int (nI m)), (11, .int (s8 (fun o => cv S 0 (125 + 8 * m + o)))), (12, .int (s8 (fun o => cv S 0 (125 + 8 * o + m)))), (13, .int (nI 8))]) hx hb dL_books_416 rfl hl (by decide) rfl (fun ls hl => ?_)
    have hls := hl.1
    refine lv_iload_n hx hb dL_books_417 rfl (lv_at hl 3 rfl) ?_
    refine lv_aload_n hx hb dL_books_418 rfl (lv_at hl 1 rfl) ?_
    refine lv_iload hx hb dL_books_419 (lv_at hl 10 rfl) ?_
    refine lv_bipush (v := 8) hx hb dL_books_421 (by decide) ?_
    refine lb_pure hW (x_runVX B hW hE (As := [.int (nI m), .int 8]) (rest := .int v3 :: []) hqj cC_j cls4 (c_X4_member (D := D) (ad := ad) (V := V) l _ hl0 S (nI m) 8) (cwV 2 B.1.2.2.2.2 gL_books_X4_member rfl rfl rfl hd_X4_member ⟨Nat.le_of_ble_eq_true rfl, Nat.le_of_ble_eq_true rfl⟩) rfl hls (Nat.le_of_ble_eq_true rfl) dL_books_423 ⟨by show _ ≤ 1300; omega, by show _ ≤ 7800; omega⟩) (rd (q := 8) hm hh (by decide)) (fun H locs hW => ?_)
    refine lv_iadd hx hb dL_books_426 ?_
    refine lv_istore_n (lv' := [(3, .int (v3 + (pV (cv S 0) m 8))), (2, .int (v2 + (pV (cv S 0) m 2))), (0, .ref (ad jO)), (1, .int v1), (4, .int v4), (5, .int v5), (6, .int v6), (7, .int v7), (8, .int v8), (9, .int 1), (10, .int (nI m)), (11, .int (s8 (fun o => cv S 0 (125 + 8 * m + o)))), (12, .int (s8 (fun o => cv S 0 (125 + 8 * o + m)))), (13, .int (nI 8))]) hx hb dL_books_427 rfl hl (by decide) rfl (fun ls hl => ?_)
    have hls := hl.1
    refine lv_iload hx hb dL_books_428 (lv_at hl 4 rfl) ?_
    refine lv_aload_n hx hb dL_books_430 rfl (lv_at hl 2 rfl) ?_
    refine lv_iload hx hb dL_books_431 (lv_at hl 10 rfl) ?_
    refine lv_bipush (v := 9) hx hb dL_books_433 (by decide) ?_
    refine lb_pure hW (x_runVX B hW hE (As := [.int (nI m), .int 9]) (rest := .int v4 :: []) hqj cC_j cls4 (c_X4_member (D := D) (ad := ad) (V := V) l _ hl0 S (nI m) 9) (cwV 2 B.1.2.2.2.2 gL_books_X4_member rfl rfl rfl hd_X4_member ⟨Nat.le_of_ble_eq_true rfl, Nat.le_of_ble_eq_true rfl⟩) rfl hls (Nat.le_of_ble_eq_true rfl) dL_books_435 ⟨by show _ ≤ 1300; omega, by show _ ≤ 7800; omega⟩) (rd (q := 9) hm hh (by decide)) (fun H locs hW => ?_)
    refine lv_iadd hx hb dL_books_438 ?_
    refine lv_istore (lv' := [(4, .int (v4 + (pV (cv S 0) m 9))), (3, .int (v3 + (pV (cv S 0) m 8))), (2, .int (v2 + (pV (cv S 0) m 2))), (0, .ref (ad jO)), (1, .int v1), (5, .int v5), (6, .int v6), (7, .int v7), (8, .int v8), (9, .int 1), (10, .int (nI m)), (11, .int (s8 (fun o => cv S 0 (125 + 8 * m + o)))), (12, .int (s8 (fun o => cv S 0 (125 + 8 * o + m)))), (13, .int (nI 8))]) hx hb dL_books_439 hl (by decide) rfl (fun ls hl => ?_)
    have hls := hl.1
    refine lv_iload hx hb dL_books_441 (lv_at hl 5 rfl) ?_
    refine lv_iload hx hb dL_books_443 (lv_at hl 11 rfl) ?_
    refine lv_iadd hx hb dL_books_445 ?_
    refine lv_istore (lv' := [(5, .int (v5 + (s8 (fun o => cv S 0 (125 + 8 * m + o))))), (4, .int (v4 + (pV (cv S 0) m 9))), (3, .int (v3 + (pV (cv S 0) m 8))), (2, .int (v2 + (pV (cv S 0) m 2))), (0, .ref (ad jO)), (1, .int v1), (6, .int v6), (7, .int v7), (8, .int v8), (9, .int 1), (10, .int (nI m)), (11, .int (s8 (fun o => cv S 0 (125 + 8 * m + o)))), (12, .int (s8 (fun o => cv S 0 (125 + 8 * o + m)))), (13, .int (nI 8))]) hx hb dL_books_446 hl (by decide) rfl (fun ls hl => ?_)
    have hls := hl.1
    refine lv_iload hx hb dL_books_448 (lv_at hl 6 rfl) ?_
    refine lv_iload hx hb dL_books_450 (lv_at hl 12 rfl) ?_
    refine lv_iadd hx hb dL_books_452 ?_
    refine lv_istore (lv' := [(6, .int (v6 + (s8 (fun o => cv S 0 (125 + 8 * o + m))))), (5, .int (v5 + (s8 (fun o => cv S 0 (125 + 8 * m + o))))), (4, .int (v4 + (pV (cv S 0) m 9))), (3, .int (v3 + (pV (cv S 0) m 8))), (2, .int (v2 + (pV (cv S 0) m 2))), (0, .ref (ad jO)), (1, .int v1), (7, .int v7), (8, .int v8), (9, .int 1), (10, .int (nI m)), (11, .int (s8 (fun o => cv S 0 (125 + 8 * m + o)))), (12, .int (s8 (fun o => cv S 0 (125 + 8 * o + m)))), (13, .int (nI 8))]) hx hb dL_books_453 hl (by decide) rfl (fun ls hl => ?_)
    have hls := hl.1
    refine lv_iload hx hb dL_books_455 (lv_at hl 7 rfl) ?_
    refine lv_aload_n hx hb dL_books_457 rfl (lv_at hl 5 rfl) ?_
    refine lv_iload hx hb dL_books_458 (lv_at hl 10 rfl) ?_
    refine lv_iconst (v := 5) hx hb dL_books_460 (by decide) ?_
    refine lb_pure hW (x_runVX B hW hE (As := [.int (nI m), .int 5]) (rest := .int v7 :: []) hqj cC_j cls4 (c_X4_member (D := D) (ad := ad) (V := V) l _ hl0 S (nI m) 5) (cwV 2 B.1.2.2.2.2 gL_books_X4_member rfl rfl rfl hd_X4_member ⟨Nat.le_of_ble_eq_true rfl, Nat.le_of_ble_eq_true rfl⟩) rfl hls (Nat.le_of_ble_eq_true rfl) dL_books_461 ⟨by show _ ≤ 1300; omega, by show _ ≤ 7800; omega⟩) (rd (q := 5) hm hh (by decide)) (fun H locs hW => ?_)
    refine lv_iadd hx hb dL_books_464 ?_
    refine lv_istore (lv' := [(7, .int (v7 + (pV (cv S 0) m 5))), (6, .int (v6 + (s8 (fun o => cv S 0 (125 + 8 * o + m))))), (5, .int (v5 + (s8 (fun o => cv S 0 (125 + 8 * m + o))))), (4, .int (v4 + (pV (cv S 0) m 9))), (3, .int (v3 + (pV (cv S 0) m 8))), (2, .int (v2 + (pV (cv S 0) m 2))), (0, .ref (ad jO)), (1, .int v1), (8, .int v8), (9, .int 1), (10, .int (nI m)), (11, .int (s8 (fun o => cv S 0 (125 + 8 * m + o)))), (12, .int (s8 (fun o => cv S 0 (125 + 8 * o + m)))), (13, .int (nI 8))]) hx hb dL_books_465 hl (by decide) rfl (fun ls hl => ?_)
    have hls := hl.1
    refine lv_aload_n hx hb dL_books_467 rfl (lv_at hl 6 rfl) ?_
    refine lv_iload hx hb dL_books_468 (lv_at hl 10 rfl) ?_
    refine lv_iconst (v := 3) hx hb dL_books_470 (by decide) ?_
    refine lb_pure hW (x_runVX B hW hE (As := [.int (nI m), .int 3]) (rest := []) hqj cC_j cls4 (c_X4_member (D := D) (ad := ad) (V := V) l _ hl0 S (nI m) 3) (cwV 2 B.1.2.2.2.2 gL_books_X4_member rfl rfl rfl hd_X4_member ⟨Nat.le_of_ble_eq_true rfl, Nat.le_of_ble_eq_true rfl⟩) rfl hls (Nat.le_of_ble_eq_true rfl) dL_books_471 ⟨by show _ ≤ 1300; omega, by show _ ≤ 7800; omega⟩) (rd (q := 3) hm hh (by decide)) (fun H locs hW => ?_)
    refine lv_iload hx hb dL_books_474 (lv_at hl 8 rfl) ?_
    refine lv_icmp_le (tgt := 489) hx hb dL_books_476 (by decide) (fun q => absurd q qq) (fun _ => ?_)
    refine lv_aload_n hx hb dL_books_479 rfl (lv_at hl 6 rfl) ?_
    refine lv_iload hx hb dL_books_480 (lv_at hl 10 rfl) ?_
    refine lv_iconst (v := 3) hx hb dL_books_482 (by decide) ?_
    refine lb_pure hW (x_runVX B hW hE (As := [.int (nI m), .int 3]) (rest := []) hqj cC_j cls4 (c_X4_member (D := D) (ad := ad) (V := V) l _ hl0 S (nI m) 3) (cwV 2 B.1.2.2.2.2 gL_books_X4_member rfl rfl rfl hd_X4_member ⟨Nat.le_of_ble_eq_true rfl, Nat.le_of_ble_eq_true rfl⟩) rfl hls (Nat.le_of_ble_eq_true rfl) dL_books_483 ⟨by show _ ≤ 1300; omega, by show _ ≤ 7800; omega⟩) (rd (q := 3) hm hh (by decide)) (fun H locs hW => ?_)
    refine lv_goto (tgt := 491) hx hb dL_books_486 (by decide) ?_
    refine lv_istore (lv' := [(8, .int (pV (cv S 0) m 3)), (7, .int (v7 + (pV (cv S 0) m 5))), (6, .int (v6 + (s8 (fun o => cv S 0 (125 + 8 * o + m))))), (5, .int (v5 + (s8 (fun o => cv S 0 (125 + 8 * m + o))))), (4, .int (v4 + (pV (cv S 0) m 9))), (3, .int (v3 + (pV (cv S 0) m 8))), (2, .int (v2 + (pV (cv S 0) m 2))), (0, .ref (ad jO)), (1, .int v1), (9, .int 1), (10, .int (nI m)), (11, .int (s8 (fun o => cv S 0 (125 + 8 * m + o)))), (12, .int (s8 (fun o => cv S 0 (125 + 8 * o + m)))), (13, .int (nI 8))]) hx hb dL_books_491 hl (by decide) rfl (fun ls hl => ?_)
    have hls := hl.1
    refine lv_iinc (v := (v1 + 1)) (lv' := [(1, .int (v1 + 1)), (8, .int (pV (cv S 0) m 3)), (7, .int (v7 + (pV (cv S 0) m 5))), (6, .int (v6 + (s8 (fun o => cv S 0 (125 + 8 * o + m))))), (5, .int (v5 + (s8 (fun o => cv S 0 (125 + 8 * m + o))))), (4, .int (v4 + (pV (cv S 0) m 9))), (3, .int (v3 + (pV (cv S 0) m 8))), (2, .int (v2 + (pV (cv S 0) m 2))), (0, .ref (ad jO)), (9, .int 1), (10, .int (nI m)), (11, .int (s8 (fun o => cv S 0 (125 + 8 * m + o)))), (12, .int (s8 (fun o => cv S 0 (125 + 8 * o + m)))), (13, .int (nI 8))]) hx hb dL_books_493 hl (k := 8) rfl rfl (by decide) rfl (fun ls hl => ?_)
    have hls := hl.1
    have hl := lv_sub hl [8, 0, 7, 6, 5, 4, 3, 2, 1, 9, 10, 11, 12, 13] rfl
    have e8 : (if v8 < (pV (cv S 0) m 3) then (pV (cv S 0) m 3) else v8) = (pV (cv S 0) m 3) := if_pos (fa_of_nle qq)
    rw [e8] at kk
    exact kk _ _ _ _ _ hW hl (by omega) (by omega)
end DBK2
