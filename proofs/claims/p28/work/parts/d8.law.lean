section DLAW
variable {p : Program} {l : Launch} {e : Env} {s : State} {m : MethodId} {b : Nat} {below : List Frame} {meth : Method} {c : Code} {H : Heap} {locs : List Loc} {cells slots : Nat} {Q : State → Prop}
variable {D : va_G} {ad : Nat → Nat} {A : Nat → Prop} {S : vS} {L : Nat} {xs : Nat → Int32} {ls : Array Slot} {t0 t1 : Nat} {g : Nat} {cy : Int}
theorem rx_le (h : RX cy S) {c2 : Int} (hc : cy ≤ c2) : RX c2 S := h.mono hc
/-- the first joins -/
theorem join_0 (h : RX cy S) (hg : cv S 0 3 = nI g) (hg8 : g < 8) : (x_X4_join S).1.1 = 0 ∧ cv (x_X4_join S).2 0 3 = nI (g + 1) := by
  have e1 : S (gG 0) 2 = nI g := (cvG_3 (S := S) (g := 0)).symm.trans hg
  have hlt : nI g < (8 : Int32) := nI_lt (b := 8) hg8 (by decide)
  have e := e_X0_admit (x_X1_keep S 0) 0 (cv (x_X1_keep S 0) 0)
  rw [emb_cv, h.cvk] at e
  unfold x_X4_join
  rw [e1, if_pos hlt, nm_eq, nmp_eq, e]
  refine ⟨rfl, ?_⟩
  show cv (emb (x_X1_keep S 0) 0 (v_X0_admit (cv S 0)).2) 0 3 = nI (g + 1)
  rw [cv_emb (by decide)]
  unfold v_X0_admit
  rw [nm_eq, hg, if_neg (nI_pos (by omega)), if_pos hlt, nm_eq]
  by_cases c1 : v_X0_memberCount (cv S 0) = 0
  · rw [if_pos c1]
    simp only [nm_eq]
    rw [upd_same, upd_ne (by omega), upd_ne (by omega), upd_ne (by omega), hg, nI_1]
  · rw [if_neg c1]
    simp only [nm_eq]
    rw [upd_same, upd_ne (by omega), upd_ne (by omega), hg, nI_1]
set_option maxRecDepth 100000 in
theorem law_loop (B : Cx p m c code 10 s #[Value.ref b] lw_tbl RL meth ret D) (hl0 : l.stackTraces = false) (hE : nv (scV b L xs t0 t1) A s s.heap) (hL : L ≤ 260) {tt : Nat} (htt : tt ≤ 30) (hend : ∀ (H1 : Heap) (locs1 : List Loc) (cells1 slots1 : Nat) (ls1 : Array Slot), (∀ q ∈ locs1, A q.base) → lv_has ls1 10 [(2, .int 1)] → cells1 ≤ 661153 → slots1 ≤ 7118009 → W p l e room_1 s m #[Value.ref b] below meth c H1 locs1 cells1 slots1 Q (F0 m 164 ls1 [])) : ∀ (n k : Nat) (S : vS) (H : Heap) (locs : List Loc) (cells slots : Nat) (ls : Array Slot), k + n = tt → RX (3 + k) S → Wd D 157 (cC D ad) ad A s.heap S H locs → lv_has ls 10 [(0, .ref b), (1, .ref (ad jO)), (2, .int 1), (3, .int (nI tt)), (4, .int (nI k))] → cells ≤ 200 + 1400 * k → slots ≤ 2000 + 8400 * k → W p l e room_1 s m #[Value.ref b] below meth c H locs cells slots Q (F0 m 47 ls []) := by
  have hx := B.1.1
  have hb := B.1.2.1
  intro n
  induction n with
  | zero =>
    intro k S H locs cells slots ls hi hrx hW hl hc hs
    obtain rfl : k = tt := by omega
    have hls := hl.1
    refine lv_iload hx hb dL_law_47 (lv_at hl 4 rfl) ?_
    refine lv_iload_n hx hb dL_law_49 rfl (lv_at hl 3 rfl) ?_
    refine lv_icmp_ge (tgt := 164) hx hb dL_law_50 (by decide) (fun _ => ?_) (fun q => absurd (Int32.le_refl _) q)
    exact hend _ _ _ _ _ hW.2.2.1.2.2 (lv_sub hl [2] rfl) (by omega) (by omega)
  | succ n ih =>
    intro k S H locs cells slots ls hi hrx hW hl hc hs
    have hls := hl.1
    have hlt : ¬ nI tt ≤ nI k := by
      intro q
      rw [Int32.le_iff_toInt_le, nI_toInt (by omega), nI_toInt (by omega)] at q
      omega
    refine lv_iload hx hb dL_law_47 (lv_at hl 4 rfl) ?_
    refine lv_iload_n hx hb dL_law_49 rfl (lv_at hl 3 rfl) ?_
    refine lv_icmp_ge (tgt := 164) hx hb dL_law_50 (by decide) (fun q => absurd q hlt) (fun _ => ?_)
    refine lv_iload_n hx hb dL_law_53 rfl (lv_at hl 2 rfl) ?_
    refine lv_if_eq (tgt := 164) hx hb dL_law_54 (by decide) (fun q => absurd q (by decide)) (fun _ => ?_)
    refine lv_aload_n hx hb dL_law_57 rfl (lv_at hl 1 rfl) ?_
    refine lv_bipush (v := 15) hx hb dL_law_58 (by decide) ?_
    refine lb_pure hW (x_runVX B hW hE (As := [.int 15]) (rest := []) hqj cC_j cls4 (c_X4_count (D := D) (ad := ad) (V := (scV b L xs t0 t1)) l _ hl0 S 15) (cwV 1 B.1.2.2.2.2 gL_law_X4_count rfl rfl rfl hd_X4_count ⟨Nat.le_of_ble_eq_true rfl, Nat.le_of_ble_eq_true rfl⟩) rfl hls (Nat.le_of_ble_eq_true rfl) dL_law_60 ⟨by show _ ≤ 661153; omega, by show _ ≤ 7118009; omega⟩) (rd_count (q := 15) (by decide)) (fun H locs hW => ?_)
    refine lv_istore (lv' := [(5, .int (cV S 15)), (0, .ref b), (1, .ref (ad jO)), (2, .int 1), (3, .int (nI tt)), (4, .int (nI k))]) hx hb dL_law_63 hl (by decide) rfl (fun ls hl => ?_)
    have hls := hl.1
    refine lv_aload_n hx hb dL_law_65 rfl (lv_at hl 2 rfl) ?_
    refine lv_iconst (v := 4) hx hb dL_law_66 (by decide) ?_
    refine lb_pure hW (x_runVX B hW hE (As := [.int 4]) (rest := []) hqj cC_j cls4 (c_X4_count (D := D) (ad := ad) (V := (scV b L xs t0 t1)) l _ hl0 S 4) (cwV 1 B.1.2.2.2.2 gL_law_X4_count rfl rfl rfl hd_X4_count ⟨Nat.le_of_ble_eq_true rfl, Nat.le_of_ble_eq_true rfl⟩) rfl hls (Nat.le_of_ble_eq_true rfl) dL_law_67 ⟨by show _ ≤ 661153; omega, by show _ ≤ 7118009; omega⟩) (rd_count (q := 4) (by decide)) (fun H locs hW => ?_)
    refine lv_istore (lv' := [(6, .int (cV S 4)), (5, .int (cV S 15)), (0, .ref b), (1, .ref (ad jO)), (2, .int 1), (3, .int (nI tt)), (4, .int (nI k))]) hx hb dL_law_70 hl (by decide) rfl (fun ls hl => ?_)
    have hls := hl.1
    refine lv_aload_n hx hb dL_law_72 rfl (lv_at hl 3 rfl) ?_
    refine lv_iconst (v := 0) hx hb dL_law_73 (by decide) ?_
    refine lb_pure hW (x_runVX B hW hE (As := [.int 0]) (rest := []) hqj cC_j cls4 (c_X4_count (D := D) (ad := ad) (V := (scV b L xs t0 t1)) l _ hl0 S 0) (cwV 1 B.1.2.2.2.2 gL_law_X4_count rfl rfl rfl hd_X4_count ⟨Nat.le_of_ble_eq_true rfl, Nat.le_of_ble_eq_true rfl⟩) rfl hls (Nat.le_of_ble_eq_true rfl) dL_law_74 ⟨by show _ ≤ 661153; omega, by show _ ≤ 7118009; omega⟩) (rd_count (q := 0) (by decide)) (fun H locs hW => ?_)
    refine lv_istore (lv' := [(7, .int (cV S 0)), (6, .int (cV S 4)), (5, .int (cV S 15)), (0, .ref b), (1, .ref (ad jO)), (2, .int 1), (3, .int (nI tt)), (4, .int (nI k))]) hx hb dL_law_77 hl (by decide) rfl (fun ls hl => ?_)
    have hls := hl.1
    refine lv_aload_n hx hb dL_law_79 rfl (lv_at hl 4 rfl) ?_
    refine lv_bipush (v := 11) hx hb dL_law_80 (by decide) ?_
    refine lb_pure hW (x_runVX B hW hE (As := [.int 11]) (rest := []) hqj cC_j cls4 (c_X4_count (D := D) (ad := ad) (V := (scV b L xs t0 t1)) l _ hl0 S 11) (cwV 1 B.1.2.2.2.2 gL_law_X4_count rfl rfl rfl hd_X4_count ⟨Nat.le_of_ble_eq_true rfl, Nat.le_of_ble_eq_true rfl⟩) rfl hls (Nat.le_of_ble_eq_true rfl) dL_law_82 ⟨by show _ ≤ 661153; omega, by show _ ≤ 7118009; omega⟩) (rd_count (q := 11) (by decide)) (fun H locs hW => ?_)
    refine lv_istore (lv' := [(8, .int (cV S 11)), (7, .int (cV S 0)), (6, .int (cV S 4)), (5, .int (cV S 15)), (0, .ref b), (1, .ref (ad jO)), (2, .int 1), (3, .int (nI tt)), (4, .int (nI k))]) hx hb dL_law_85 hl (by decide) rfl (fun ls hl => ?_)
    have hls := hl.1
    refine lv_aload_n hx hb dL_law_87 rfl (lv_at hl 5 rfl) ?_
    refine lv_aload_n hx hb dL_law_88 rfl (lv_at hl 4 rfl) ?_
    refine lv_iconst (v := 4) hx hb dL_law_89 (by decide) ?_
    refine lv_iload hx hb dL_law_90 (lv_at hl 8 rfl) ?_
    refine lv_imul hx hb dL_law_92 ?_
    refine lb_stat B hW hE (As := [.ref (ad jO), .ref b, .int (4 * (nI k))]) (rest := []) (h_L_act (D := D) (ad := ad) (V := scV b L xs t0 t1) l _ hl0 S hrx (by omega) hL (4 * k) (by omega) (4 * (nI k)) (pk_mul 4 k) b rfl) (va_cwS 3 B.1.2.2.2.2 gL_law_L_act rfl rfl rfl hd_L_act.2 ⟨Nat.le_of_ble_eq_true rfl, Nat.le_of_ble_eq_true rfl⟩) rfl hls (Nat.le_of_ble_eq_true rfl) dL_law_93 ⟨by show _ ≤ 661153; omega, by show _ ≤ 7118009; omega⟩ (fun r_93 S93 H locs he hW => ?_)
    refine lv_istore (lv' := [(9, .int r_93), (8, .int (cV S 11)), (7, .int (cV S 0)), (6, .int (cV S 4)), (5, .int (cV S 15)), (0, .ref b), (1, .ref (ad jO)), (2, .int 1), (3, .int (nI tt)), (4, .int (nI k))]) hx hb dL_law_96 hl (by decide) rfl (fun ls hl => ?_)
    have hls := hl.1
    have hso : SO (3 + k) S r_93 S93 := he
    have hrx2 : RX (3 + ((k + 1 : Nat) : Int)) S93 := rx_le (hso.rx hrx) (by omega)
    refine (fun (K : ∀ (H : Heap) (locs : List Loc) (cells slots : Nat) (ls : Array Slot), Wd D 157 (cC D ad) ad A s.heap S93 H locs → lv_has ls 10 [(0, .ref b), (1, .ref (ad jO)), (2, .int 1), (3, .int (nI tt)), (4, .int (nI k))] → cells ≤ 200 + 1400 * k + 20 → slots ≤ 2000 + 8400 * k + 120 → W p l e room_1 s m #[Value.ref b] below meth c H locs cells slots Q (F0 m 145 ls [])) => ?_) ?_
    · skip
      by_cases hq : 0 ≤ r_93
      · skip
        refine lv_iload hx hb dL_law_98 (lv_at hl 0 rfl) ?_
        refine lv_if_ge (tgt := 145) hx hb dL_law_100 (by decide) (fun _ => ?_) (fun q => absurd hq q)
        have hl := lv_sub hl [5, 6, 7, 8, 9] rfl
        exact K _ _ _ _ _ hW hl (by omega) (by omega)
      · skip
        have es : S93 = S := hso.elim (fun z => absurd (by rw [Int32.le_iff_toInt_le, z32]; exact z.1) hq) (fun z => z)
        refine lv_iload hx hb dL_law_98 (lv_at hl 0 rfl) ?_
        refine lv_if_ge (tgt := 145) hx hb dL_law_100 (by decide) (fun q => absurd q hq) (fun _ => ?_)
        refine lv_aload_n hx hb dL_law_103 rfl (lv_at hl 6 rfl) ?_
        refine lv_bipush (v := 15) hx hb dL_law_104 (by decide) ?_
        refine lb_pure hW (x_runVX B hW hE (As := [.int 15]) (rest := []) hqj cC_j cls4 (c_X4_count (D := D) (ad := ad) (V := (scV b L xs t0 t1)) l _ hl0 S93 15) (cwV 1 B.1.2.2.2.2 gL_law_X4_count rfl rfl rfl hd_X4_count ⟨Nat.le_of_ble_eq_true rfl, Nat.le_of_ble_eq_true rfl⟩) rfl hls (Nat.le_of_ble_eq_true rfl) dL_law_106 ⟨by show _ ≤ 661153; omega, by show _ ≤ 7118009; omega⟩) ((rd_count (q := 15) (by decide)).trans (by rw [es])) (fun H locs hW => ?_)
        refine lv_iload hx hb dL_law_109 (lv_at hl 4 rfl) ?_
        refine lv_icmp_ne (tgt := 156) hx hb dL_law_111 (by decide) (fun q => absurd rfl q) (fun _ => ?_)
        refine lv_aload_n hx hb dL_law_114 rfl (lv_at hl 6 rfl) ?_
        refine lv_iconst (v := 4) hx hb dL_law_115 (by decide) ?_
        refine lb_pure hW (x_runVX B hW hE (As := [.int 4]) (rest := []) hqj cC_j cls4 (c_X4_count (D := D) (ad := ad) (V := (scV b L xs t0 t1)) l _ hl0 S93 4) (cwV 1 B.1.2.2.2.2 gL_law_X4_count rfl rfl rfl hd_X4_count ⟨Nat.le_of_ble_eq_true rfl, Nat.le_of_ble_eq_true rfl⟩) rfl hls (Nat.le_of_ble_eq_true rfl) dL_law_116 ⟨by show _ ≤ 661153; omega, by show _ ≤ 7118009; omega⟩) ((rd_count (q := 4) (by decide)).trans (by rw [es])) (fun H locs hW => ?_)
        refine lv_iload hx hb dL_law_119 (lv_at hl 3 rfl) ?_
        refine lv_icmp_ne (tgt := 156) hx hb dL_law_121 (by decide) (fun q => absurd rfl q) (fun _ => ?_)
        refine lv_aload_n hx hb dL_law_124 rfl (lv_at hl 6 rfl) ?_
        refine lv_iconst (v := 0) hx hb dL_law_125 (by decide) ?_
        refine lb_pure hW (x_runVX B hW hE (As := [.int 0]) (rest := []) hqj cC_j cls4 (c_X4_count (D := D) (ad := ad) (V := (scV b L xs t0 t1)) l _ hl0 S93 0) (cwV 1 B.1.2.2.2.2 gL_law_X4_count rfl rfl rfl hd_X4_count ⟨Nat.le_of_ble_eq_true rfl, Nat.le_of_ble_eq_true rfl⟩) rfl hls (Nat.le_of_ble_eq_true rfl) dL_law_126 ⟨by show _ ≤ 661153; omega, by show _ ≤ 7118009; omega⟩) ((rd_count (q := 0) (by decide)).trans (by rw [es])) (fun H locs hW => ?_)
        refine lv_iload hx hb dL_law_129 (lv_at hl 2 rfl) ?_
        refine lv_icmp_ne (tgt := 156) hx hb dL_law_131 (by decide) (fun q => absurd rfl q) (fun _ => ?_)
        refine lv_aload_n hx hb dL_law_134 rfl (lv_at hl 6 rfl) ?_
        refine lv_bipush (v := 11) hx hb dL_law_135 (by decide) ?_
        refine lb_pure hW (x_runVX B hW hE (As := [.int 11]) (rest := []) hqj cC_j cls4 (c_X4_count (D := D) (ad := ad) (V := (scV b L xs t0 t1)) l _ hl0 S93 11) (cwV 1 B.1.2.2.2.2 gL_law_X4_count rfl rfl rfl hd_X4_count ⟨Nat.le_of_ble_eq_true rfl, Nat.le_of_ble_eq_true rfl⟩) rfl hls (Nat.le_of_ble_eq_true rfl) dL_law_137 ⟨by show _ ≤ 661153; omega, by show _ ≤ 7118009; omega⟩) ((rd_count (q := 11) (by decide)).trans (by rw [es])) (fun H locs hW => ?_)
        refine lv_iload hx hb dL_law_140 (lv_at hl 1 rfl) ?_
        refine lv_icmp_ne (tgt := 156) hx hb dL_law_142 (by decide) (fun q => absurd rfl q) (fun _ => ?_)
        have hl := lv_sub hl [5, 6, 7, 8, 9] rfl
        exact K _ _ _ _ _ hW hl (by omega) (by omega)
    · intro H locs cells slots ls hW hl hc hs
      have hls := hl.1
      have hrx := hrx2
      refine lv_aload_n hx hb dL_law_145 rfl (lv_at hl 1 rfl) ?_
      refine lb_stat B hW hE (As := [.ref (ad jO)]) (rest := []) (h_L_books (D := D) (ad := ad) (V := scV b L xs t0 t1) l _ hl0 S93 hrx) (va_cwS 1 B.1.2.2.2.2 gL_law_L_books rfl rfl rfl hd_L_books.2 ⟨Nat.le_of_ble_eq_true rfl, Nat.le_of_ble_eq_true rfl⟩) rfl hls (Nat.le_of_ble_eq_true rfl) dL_law_146 ⟨by show _ ≤ 661153; omega, by show _ ≤ 7118009; omega⟩ (fun r_146 S146 H locs he hW => ?_)
      obtain ⟨hr1, hrx3⟩ := he
      subst hr1
      refine lv_if_eq (tgt := 156) hx hb dL_law_149 (by decide) (fun q => absurd q (by decide)) (fun _ => ?_)
      refine lv_iconst (v := 1) hx hb dL_law_152 (by decide) ?_
      refine lv_goto (tgt := 157) hx hb dL_law_153 (by decide) ?_
      refine lv_istore_n (lv' := [(2, .int 1), (0, .ref b), (1, .ref (ad jO)), (3, .int (nI tt)), (4, .int (nI k))]) hx hb dL_law_157 rfl hl (by decide) rfl (fun ls hl => ?_)
      have hls := hl.1
      refine lv_iinc (v := (nI (k + 1))) (lv' := [(4, .int (nI (k + 1))), (2, .int 1), (0, .ref b), (1, .ref (ad jO)), (3, .int (nI tt))]) hx hb dL_law_158 hl (k := 4) rfl (nI_1 _) (by decide) rfl (fun ls hl => ?_)
      have hls := hl.1
      refine lv_goto (tgt := 47) hx hb dL_law_161 (by decide) ?_
      have hl := lv_sub hl [2, 3, 1, 4, 0] rfl
      exact ih (k + 1) S146 _ _ _ _ _ (by omega) hrx3 hW hl (by omega) (by omega)
end DLAW
