section WMOD
abbrev vG : Type := vF × vF × Int32
def upq (G : vG) (i : Nat) (x : Int32) : vG := (upd G.1 i x, G.2)
def up6 (G : vG) (i : Nat) (x : Int32) : vG := (G.1, upd G.2.1 i x, G.2.2)
def upu (G : vG) (x : Int32) : vG := (G.1, G.2.1, x)
/-- the model's world T with row q, shares and isUnpaid out of G -/
def emm (T : vS) (q : Nat) (G : vG) : vS := fun c j => if c = q then G.1 j else if c = 6 then G.2.1 j else if c = 0 ∧ j = 13 then G.2.2 else T c j
def mpm (T : vS) (q : Nat) (p : Int32 × vG) : Int32 × vS := (p.1, emm T q p.2)
section
variable {T : vS} {q : Nat} {G : vG} {i : Nat} {x : Int32}
theorem mpm_mk {a : Int32} : mpm T q (a, G) = (a, emm T q G) := rfl
theorem mpm_1 {p : Int32 × vG} : (mpm T q p).1 = p.1 := rfl
theorem mpm_2 {p : Int32 × vG} : (mpm T q p).2 = emm T q p.2 := rfl
theorem em_q : emm T q G q i = G.1 i := if_pos rfl
theorem em_6 (hq : q = 1 ∨ q = 2) : emm T q G 6 i = G.2.1 i := by unfold emm; rw [if_neg (by omega), if_pos rfl]
theorem em_u (hq : q = 1 ∨ q = 2) : emm T q G 0 13 = G.2.2 := by unfold emm; rw [if_neg (by omega), if_neg (by omega), if_pos ⟨rfl, rfl⟩]
theorem em_out {c j : Nat} (h1 : c ≠ q) (h2 : c ≠ 6) (h3 : ¬ (c = 0 ∧ j = 13)) : emm T q G c j = T c j := by unfold emm; rw [if_neg h1, if_neg h2, if_neg h3]
theorem es_q : st (emm T q G) q i x = emm T q (upq G i x) := by
  funext c j
  rw [st_at]
  unfold emm upq upd
  by_cases h : c = q
  · simp [h]
  · simp [h]
theorem es_6 (hq : q = 1 ∨ q = 2) : st (emm T q G) 6 i x = emm T q (up6 G i x) := by
  funext c j
  rw [st_at]
  unfold emm up6 upd
  by_cases h : c = q
  · have : c ≠ 6 := by omega
    simp [h, show q ≠ 6 by omega]
  · by_cases h2 : c = 6
    · subst h2; simp [h]
    · simp [h, h2]
theorem es_u (hq : q = 1 ∨ q = 2) : st (emm T q G) 0 13 x = emm T q (upu G x) := by
  funext c j
  rw [st_at]
  unfold emm upu
  by_cases h : c = q
  · simp [h, show q ≠ 0 by omega]
  · by_cases h2 : c = 6
    · subst h2; simp [h]
    · by_cases h3 : c = 0 ∧ j = 13
      · obtain ⟨rfl, rfl⟩ := h3; simp [h]
      · simp [h, h2, h3]
theorem emm_self (T : vS) (q : Nat) : emm T q (T q, T 6, T 0 13) = T := by
  funext c j
  unfold emm
  by_cases h : c = q
  · simp [h]
  · by_cases h2 : c = 6
    · subst h2; simp [h]
    · by_cases h3 : c = 0 ∧ j = 13
      · obtain ⟨rfl, rfl⟩ := h3; simp [h]
      · simp [h, h2, h3]
theorem emm_emm {G2 : vG} : emm (emm T q G) q G2 = emm T q G2 := by
  funext c j
  unfold emm
  by_cases h : c = q
  · simp [h]
  · by_cases h2 : c = 6
    · simp [h, h2]
    · by_cases h3 : c = 0 ∧ j = 13
      · simp [h, h2, h3]
      · simp [h, h2, h3]
end
def w_in  (p1 : Int32) (p2 : Int32) (p3 : Int32) : Int32 := if p1 < p2 then 0 else if p3 < p1 then 0 else 1
theorem f_in (T : vS) (p1 : Int32) (p2 : Int32) (p3 : Int32) : x_X5_in T p1 p2 p3 = w_in p1 p2 p3 := by
  unfold x_X5_in w_in
  simp only [nm_eq, nmp_eq, apply_ite (emm T 1), apply_ite (mpm T 1), mpm_mk, mpm_1, mpm_2, em_q, em_6 (T := T) (.inl rfl), em_u (T := T) (.inl rfl), es_q, es_6 (T := T) (.inl rfl), es_u (T := T) (.inl rfl)]
def w_of (F : vF) (p2 : Int32) (p3 : Int32) : Int32 := (F ((13 + (14 * p2.toNatClampNeg)) + p3.toNatClampNeg))
theorem f_of (T : vS) {q : Nat} (hq : q = 1 ∨ q = 2) (G : vG) (p2 : Int32) (p3 : Int32) : x_X5_of (emm T q G) q p2 p3 = w_of G.1 p2 p3 := by
  unfold x_X5_of w_of
  simp only [nm_eq, nmp_eq, apply_ite (emm T q), apply_ite (mpm T q), mpm_mk, mpm_1, mpm_2, em_q, em_6 (T := T) hq, em_u (T := T) hq, es_q, es_6 (T := T) hq, es_u (T := T) hq]
def w_adds (G : vG) (p2 : Int32) (p3 : Int32) (p4 : Int32) : vG := nm (upq G ((13 + (14 * p2.toNatClampNeg)) + p3.toNatClampNeg) ((G.1 ((13 + (14 * p2.toNatClampNeg)) + p3.toNatClampNeg)) + p4)) (fun G_14 => G_14)
theorem f_adds (T : vS) {q : Nat} (hq : q = 1 ∨ q = 2) (G : vG) (p2 : Int32) (p3 : Int32) (p4 : Int32) : x_X5_adds (emm T q G) q p2 p3 p4 = emm T q (w_adds G p2 p3 p4) := by
  unfold x_X5_adds w_adds
  simp only [nm_eq, nmp_eq, apply_ite (emm T q), apply_ite (mpm T q), mpm_mk, mpm_1, mpm_2, em_q, em_6 (T := T) hq, em_u (T := T) hq, es_q, es_6 (T := T) hq, es_u (T := T) hq]
def w_isMember (F : vF) (p1 : Int32) : Int32 := nm (w_in p1 0 7) (fun r_4 => if r_4 = 0 then 0 else nm (w_of F p1 0) (fun r_16 => if r_16 = 1 then 1 else 0))
theorem f_isMember (T : vS) (G : vG) (p1 : Int32) : x_X5_isMember (emm T 1 G) p1 = w_isMember G.1 p1 := by
  unfold x_X5_isMember w_isMember
  simp only [nm_eq, nmp_eq, apply_ite (emm T 1), apply_ite (mpm T 1), mpm_mk, mpm_1, mpm_2, em_q, em_6 (T := T) (.inl rfl), em_u (T := T) (.inl rfl), es_q, es_6 (T := T) (.inl rfl), es_u (T := T) (.inl rfl), f_in, f_of T (.inl rfl)]
def w_debt (F : vF) (p2 : Int32) (p3 : Int32) : Int32 := (F ((125 + (8 * p2.toNatClampNeg)) + p3.toNatClampNeg))
theorem f_debt (T : vS) {q : Nat} (hq : q = 1 ∨ q = 2) (G : vG) (p2 : Int32) (p3 : Int32) : x_X5_debt (emm T q G) q p2 p3 = w_debt G.1 p2 p3 := by
  unfold x_X5_debt w_debt
  simp only [nm_eq, nmp_eq, apply_ite (emm T q), apply_ite (mpm T q), mpm_mk, mpm_1, mpm_2, em_q, em_6 (T := T) hq, em_u (T := T) hq, es_q, es_6 (T := T) hq, es_u (T := T) hq]
def w_toOthers_L4 : Nat → vF → Int32 → Nat → Int32 → Int32
  | 0, F, _, _, _ => 0
  | n + 1, F, p2, n3, v2 => if 8 ≤ (nI n3) then v2 else nm (w_debt F p2 (nI n3)) (fun r_14 => nm ((v2 + r_14)) (fun x_18 => w_toOthers_L4 n F p2 ((n3 + 1)) (x_18)))
theorem f_toOthers_L4 (T : vS) {q : Nat} (hq : q = 1 ∨ q = 2) : ∀ (n : Nat) (G : vG) (p2 : Int32) (n3 : Nat) (v2 : Int32), x_X5_toOthers_L4 n (emm T q G) q p2 n3 v2 = w_toOthers_L4 n G.1 p2 n3 v2 := by
  intro n
  induction n with
  | zero => intro G p2 n3 v2; rfl
  | succ n ih =>
    intro G p2 n3 v2
    rw [x_X5_toOthers_L4.eq_2, w_toOthers_L4.eq_2]
    simp only [nm_eq, nmp_eq, apply_ite (emm T q), apply_ite (mpm T q), mpm_mk, mpm_1, mpm_2, em_q, em_6 (T := T) hq, em_u (T := T) hq, es_q, es_6 (T := T) hq, es_u (T := T) hq, f_debt T hq, ih]
def w_toOthers (F : vF) (p2 : Int32) : Int32 := w_toOthers_L4 (9) F p2 (0) (0)
theorem f_toOthers (T : vS) {q : Nat} (hq : q = 1 ∨ q = 2) (G : vG) (p2 : Int32) : x_X5_toOthers (emm T q G) q p2 = w_toOthers G.1 p2 := by
  unfold x_X5_toOthers w_toOthers
  simp only [nm_eq, nmp_eq, apply_ite (emm T q), apply_ite (mpm T q), mpm_mk, mpm_1, mpm_2, em_q, em_6 (T := T) hq, em_u (T := T) hq, es_q, es_6 (T := T) hq, es_u (T := T) hq, f_toOthers_L4 T hq]
def w_fromOthers_L4 : Nat → vF → Int32 → Nat → Int32 → Int32
  | 0, F, _, _, _ => 0
  | n + 1, F, p2, n3, v2 => if 8 ≤ (nI n3) then v2 else nm (w_debt F (nI n3) p2) (fun r_14 => nm ((v2 + r_14)) (fun x_18 => w_fromOthers_L4 n F p2 ((n3 + 1)) (x_18)))
theorem f_fromOthers_L4 (T : vS) {q : Nat} (hq : q = 1 ∨ q = 2) : ∀ (n : Nat) (G : vG) (p2 : Int32) (n3 : Nat) (v2 : Int32), x_X5_fromOthers_L4 n (emm T q G) q p2 n3 v2 = w_fromOthers_L4 n G.1 p2 n3 v2 := by
  intro n
  induction n with
  | zero => intro G p2 n3 v2; rfl
  | succ n ih =>
    intro G p2 n3 v2
    rw [x_X5_fromOthers_L4.eq_2, w_fromOthers_L4.eq_2]
    simp only [nm_eq, nmp_eq, apply_ite (emm T q), apply_ite (mpm T q), mpm_mk, mpm_1, mpm_2, em_q, em_6 (T := T) hq, em_u (T := T) hq, es_q, es_6 (T := T) hq, es_u (T := T) hq, f_debt T hq, ih]
def w_fromOthers (F : vF) (p2 : Int32) : Int32 := w_fromOthers_L4 (9) F p2 (0) (0)
theorem f_fromOthers (T : vS) {q : Nat} (hq : q = 1 ∨ q = 2) (G : vG) (p2 : Int32) : x_X5_fromOthers (emm T q G) q p2 = w_fromOthers G.1 p2 := by
  unfold x_X5_fromOthers w_fromOthers
  simp only [nm_eq, nmp_eq, apply_ite (emm T q), apply_ite (mpm T q), mpm_mk, mpm_1, mpm_2, em_q, em_6 (T := T) hq, em_u (T := T) hq, es_q, es_6 (T := T) hq, es_u (T := T) hq, f_fromOthers_L4 T hq]
def w_debts (F : vF) (p2 : Int32) : Int32 := nm (w_of F p2 10) (fun r_4 => nm (w_of F p2 11) (fun r_11 => nm (w_toOthers F p2) (fun r_17 => ((r_4 + r_11) + r_17))))
theorem f_debts (T : vS) {q : Nat} (hq : q = 1 ∨ q = 2) (G : vG) (p2 : Int32) : x_X5_debts (emm T q G) q p2 = w_debts G.1 p2 := by
  unfold x_X5_debts w_debts
  simp only [nm_eq, nmp_eq, apply_ite (emm T q), apply_ite (mpm T q), mpm_mk, mpm_1, mpm_2, em_q, em_6 (T := T) hq, em_u (T := T) hq, es_q, es_6 (T := T) hq, es_u (T := T) hq, f_of T hq, f_toOthers T hq]
def w_partOf (F : vF) (p2 : Int32) : Int32 := nm (w_of F p2 4) (fun r_3 => if r_3 = 1 then nm (w_of F p2 3) (fun r_13 => r_13) else nm (w_of F p2 5) (fun r_22 => r_22))
theorem f_partOf (T : vS) {q : Nat} (hq : q = 1 ∨ q = 2) (G : vG) (p2 : Int32) : x_X5_partOf (emm T q G) q p2 = w_partOf G.1 p2 := by
  unfold x_X5_partOf w_partOf
  simp only [nm_eq, nmp_eq, apply_ite (emm T q), apply_ite (mpm T q), mpm_mk, mpm_1, mpm_2, em_q, em_6 (T := T) hq, em_u (T := T) hq, es_q, es_6 (T := T) hq, es_u (T := T) hq, f_of T hq]
def w_due (F : vF) (p2 : Int32) : Int32 := nm (w_of F p2 4) (fun r_3 => if r_3 = 0 then 0 else nm (w_partOf F p2) (fun r_15 => nm (w_of F p2 6) (fun r_22 => (r_15 + r_22))))
theorem f_due (T : vS) {q : Nat} (hq : q = 1 ∨ q = 2) (G : vG) (p2 : Int32) : x_X5_due (emm T q G) q p2 = w_due G.1 p2 := by
  unfold x_X5_due w_due
  simp only [nm_eq, nmp_eq, apply_ite (emm T q), apply_ite (mpm T q), mpm_mk, mpm_1, mpm_2, em_q, em_6 (T := T) hq, em_u (T := T) hq, es_q, es_6 (T := T) hq, es_u (T := T) hq, f_of T hq, f_partOf T hq]
def w_helpers_L4 : Nat → vF → Nat → Int32 → Int32
  | 0, F, _, _ => 0
  | n + 1, F, n2, v1 => if 8 ≤ (nI n2) then v1 else nm (w_of F (nI n2) 0) (fun r_14 => if r_14 = 1 then nm (w_of F (nI n2) 7) (fun r_25 => if r_25 = 0 then nm ((v1 + 1)) (fun x_37 => w_helpers_L4 n F ((n2 + 1)) (x_37)) else nm ((v1 + 0)) (fun x_37 => w_helpers_L4 n F ((n2 + 1)) (x_37))) else nm ((v1 + 0)) (fun x_37 => w_helpers_L4 n F ((n2 + 1)) (x_37)))
theorem f_helpers_L4 (T : vS) {q : Nat} (hq : q = 1 ∨ q = 2) : ∀ (n : Nat) (G : vG) (n2 : Nat) (v1 : Int32), x_X5_helpers_L4 n (emm T q G) q n2 v1 = w_helpers_L4 n G.1 n2 v1 := by
  intro n
  induction n with
  | zero => intro G n2 v1; rfl
  | succ n ih =>
    intro G n2 v1
    rw [x_X5_helpers_L4.eq_2, w_helpers_L4.eq_2]
    simp only [nm_eq, nmp_eq, apply_ite (emm T q), apply_ite (mpm T q), mpm_mk, mpm_1, mpm_2, em_q, em_6 (T := T) hq, em_u (T := T) hq, es_q, es_6 (T := T) hq, es_u (T := T) hq, f_of T hq, ih]
def w_helpers (F : vF) : Int32 := w_helpers_L4 (9) F (0) (0)
theorem f_helpers (T : vS) {q : Nat} (hq : q = 1 ∨ q = 2) (G : vG)  : x_X5_helpers (emm T q G) q  = w_helpers G.1  := by
  unfold x_X5_helpers w_helpers
  simp only [nm_eq, nmp_eq, apply_ite (emm T q), apply_ite (mpm T q), mpm_mk, mpm_1, mpm_2, em_q, em_6 (T := T) hq, em_u (T := T) hq, es_q, es_6 (T := T) hq, es_u (T := T) hq, f_helpers_L4 T hq]
def w_misses_L122 : Nat → vG → Int32 → Nat → Int32 → Int32 → Int32 → Int32 → (Int32 × vG)
  | 0, G, _, _, _, _, _, _ => (0, G)
  | n + 1, G, p2, n8, v7, v6, v5, v3 => if 8 ≤ (nI n8) then (v3, G) else nm (w_of G.1 (nI n8) 0) (fun r_133 => if r_133 = 1 then nm (w_of G.1 (nI n8) 7) (fun r_145 => if r_145 = 0 then if (v5 - v5 / v6 * v6) ≤ v7 then nm (((v5 / v6) + 0)) (fun x_172 => nm (upq G ((125 + (8 * p2.toNatClampNeg)) + n8) ((G.1 ((125 + (8 * p2.toNatClampNeg)) + n8)) + x_172)) (fun G_190 => nm (w_adds G_190 (nI n8) 13 x_172) (fun G_198 => nm (up6 G_198 n8 ((G_198.2.1 n8) + x_172)) (fun G_212 => nm (v7 + 1) (fun x_213 => w_misses_L122 n G_212 p2 ((n8 + 1)) (x_213) (v6) (v5) (v3)))))) else nm (((v5 / v6) + 1)) (fun x_172 => nm (upq G ((125 + (8 * p2.toNatClampNeg)) + n8) ((G.1 ((125 + (8 * p2.toNatClampNeg)) + n8)) + x_172)) (fun G_190 => nm (w_adds G_190 (nI n8) 13 x_172) (fun G_198 => nm (up6 G_198 n8 ((G_198.2.1 n8) + x_172)) (fun G_212 => nm (v7 + 1) (fun x_213 => w_misses_L122 n G_212 p2 ((n8 + 1)) (x_213) (v6) (v5) (v3)))))) else w_misses_L122 n G p2 ((n8 + 1)) (v7) (v6) (v5) (v3)) else w_misses_L122 n G p2 ((n8 + 1)) (v7) (v6) (v5) (v3))
theorem f_misses_L122 (T : vS) {q : Nat} (hq : q = 1 ∨ q = 2) : ∀ (n : Nat) (G : vG) (p2 : Int32) (n8 : Nat) (v7 : Int32) (v6 : Int32) (v5 : Int32) (v3 : Int32), x_X5_misses_L122 n (emm T q G) q p2 n8 v7 v6 v5 v3 = mpm T q (w_misses_L122 n G p2 n8 v7 v6 v5 v3) := by
  intro n
  induction n with
  | zero => intro G p2 n8 v7 v6 v5 v3; rfl
  | succ n ih =>
    intro G p2 n8 v7 v6 v5 v3
    rw [x_X5_misses_L122.eq_2, w_misses_L122.eq_2]
    simp only [nm_eq, nmp_eq, apply_ite (emm T q), apply_ite (mpm T q), mpm_mk, mpm_1, mpm_2, em_q, em_6 (T := T) hq, em_u (T := T) hq, es_q, es_6 (T := T) hq, es_u (T := T) hq, f_adds T hq, f_of T hq, ih]
def w_misses (G : vG) (p2 : Int32) : (Int32 × vG) := nm (w_due G.1 p2) (fun r_2 => nm (w_adds G p2 8 1) (fun G_11 => nm (w_adds G_11 p2 9 1) (fun G_19 => nm (upq G_19 12 ((G_19.1 12) + 1)) (fun G_29 => if r_2 ≤ (G_29.1 8) then nm (upq G_29 8 ((G_29.1 8) - r_2)) (fun G_56 => nm (w_adds G_56 p2 11 r_2) (fun G_63 => nm ((r_2 - r_2)) (fun x_70 => nm (w_helpers G_63.1 ) (fun r_73 => if r_73 = 0 then nm (w_adds G_63 p2 10 x_70) (fun G_89 => if (bz (G_89.2.2)) = 0 then if x_70 ≤ 0 then nm (upu G_89 0) (fun G_110 => (r_2, G_110)) else nm (upu G_89 1) (fun G_110 => (r_2, G_110)) else nm (upu G_89 1) (fun G_110 => (r_2, G_110))) else w_misses_L122 (9) G_63 p2 (0) (0) (r_73) (x_70) (r_2))))) else nm ((G_29.1 8)) (fun x_46 => nm (upq G_29 8 ((G_29.1 8) - x_46)) (fun G_56 => nm (w_adds G_56 p2 11 x_46) (fun G_63 => nm ((r_2 - x_46)) (fun x_70 => nm (w_helpers G_63.1 ) (fun r_73 => if r_73 = 0 then nm (w_adds G_63 p2 10 x_70) (fun G_89 => if (bz (G_89.2.2)) = 0 then if x_70 ≤ 0 then nm (upu G_89 0) (fun G_110 => (x_46, G_110)) else nm (upu G_89 1) (fun G_110 => (x_46, G_110)) else nm (upu G_89 1) (fun G_110 => (x_46, G_110))) else w_misses_L122 (9) G_63 p2 (0) (0) (r_73) (x_70) (r_2))))))))))
theorem f_misses (T : vS) {q : Nat} (hq : q = 1 ∨ q = 2) (G : vG) (p2 : Int32) : x_X5_misses (emm T q G) q p2 = mpm T q (w_misses G p2) := by
  unfold x_X5_misses w_misses
  simp only [nm_eq, nmp_eq, apply_ite (emm T q), apply_ite (mpm T q), mpm_mk, mpm_1, mpm_2, em_q, em_6 (T := T) hq, em_u (T := T) hq, es_q, es_6 (T := T) hq, es_u (T := T) hq, f_adds T hq, f_due T hq, f_helpers T hq, f_misses_L122 T hq]
def w_loanEnds_L2 : Nat → vG → Int32 → Nat → vG
  | 0, G, _, _ => G
  | n + 1, G, p2, n2 => if 6 < (nI n2) then G else nm (upq G ((13 + (14 * p2.toNatClampNeg)) + n2) 0) (fun G_19 => w_loanEnds_L2 n G_19 p2 ((n2 + 1)))
theorem f_loanEnds_L2 (T : vS) {q : Nat} (hq : q = 1 ∨ q = 2) : ∀ (n : Nat) (G : vG) (p2 : Int32) (n2 : Nat), x_X5_loanEnds_L2 n (emm T q G) q p2 n2 = emm T q (w_loanEnds_L2 n G p2 n2) := by
  intro n
  induction n with
  | zero => intro G p2 n2; rfl
  | succ n ih =>
    intro G p2 n2
    rw [x_X5_loanEnds_L2.eq_2, w_loanEnds_L2.eq_2]
    simp only [nm_eq, nmp_eq, apply_ite (emm T q), apply_ite (mpm T q), mpm_mk, mpm_1, mpm_2, em_q, em_6 (T := T) hq, em_u (T := T) hq, es_q, es_6 (T := T) hq, es_u (T := T) hq, ih]
def w_loanEnds (G : vG) (p2 : Int32) : vG := w_loanEnds_L2 (6) G p2 (2)
theorem f_loanEnds (T : vS) {q : Nat} (hq : q = 1 ∨ q = 2) (G : vG) (p2 : Int32) : x_X5_loanEnds (emm T q G) q p2 = emm T q (w_loanEnds G p2) := by
  unfold x_X5_loanEnds w_loanEnds
  simp only [nm_eq, nmp_eq, apply_ite (emm T q), apply_ite (mpm T q), mpm_mk, mpm_1, mpm_2, em_q, em_6 (T := T) hq, em_u (T := T) hq, es_q, es_6 (T := T) hq, es_u (T := T) hq, f_loanEnds_L2 T hq]
def w_nextChair_L2 : Nat → vF → Int32 → Nat → Int32
  | 0, F, _, _ => 0
  | n + 1, F, p2, n2 => if 8 < (nI n2) then (-1) else nm (((p2 + (nI n2)) - (p2 + (nI n2)) / 8 * 8)) (fun x_14 => nm (w_of F x_14 0) (fun r_18 => if r_18 = 1 then nm (w_debts F x_14) (fun r_27 => if r_27 = 0 then x_14 else w_nextChair_L2 n F p2 ((n2 + 1))) else w_nextChair_L2 n F p2 ((n2 + 1))))
theorem f_nextChair_L2 (T : vS) {q : Nat} (hq : q = 1 ∨ q = 2) : ∀ (n : Nat) (G : vG) (p2 : Int32) (n2 : Nat), x_X5_nextChair_L2 n (emm T q G) q p2 n2 = w_nextChair_L2 n G.1 p2 n2 := by
  intro n
  induction n with
  | zero => intro G p2 n2; rfl
  | succ n ih =>
    intro G p2 n2
    rw [x_X5_nextChair_L2.eq_2, w_nextChair_L2.eq_2]
    simp only [nm_eq, nmp_eq, apply_ite (emm T q), apply_ite (mpm T q), mpm_mk, mpm_1, mpm_2, em_q, em_6 (T := T) hq, em_u (T := T) hq, es_q, es_6 (T := T) hq, es_u (T := T) hq, f_debts T hq, f_of T hq, ih]
def w_nextChair (F : vF) (p2 : Int32) : Int32 := w_nextChair_L2 (9) F p2 (1)
theorem f_nextChair (T : vS) {q : Nat} (hq : q = 1 ∨ q = 2) (G : vG) (p2 : Int32) : x_X5_nextChair (emm T q G) q p2 = w_nextChair G.1 p2 := by
  unfold x_X5_nextChair w_nextChair
  simp only [nm_eq, nmp_eq, apply_ite (emm T q), apply_ite (mpm T q), mpm_mk, mpm_1, mpm_2, em_q, em_6 (T := T) hq, em_u (T := T) hq, es_q, es_6 (T := T) hq, es_u (T := T) hq, f_nextChair_L2 T hq]
def w_ends_L229 : Nat → vG → Nat → Int32 → (Int32 × vG)
  | 0, G, _, _ => (0, G)
  | n + 1, G, n3, v2 => if 8 ≤ (nI n3) then (v2, G) else nm (upq G ((13 + (14 * n3)) + 7) 0) (fun G_247 => w_ends_L229 n G_247 ((n3 + 1)) (v2))
theorem f_ends_L229 (T : vS) {q : Nat} (hq : q = 1 ∨ q = 2) : ∀ (n : Nat) (G : vG) (n3 : Nat) (v2 : Int32), x_X5_ends_L229 n (emm T q G) q n3 v2 = mpm T q (w_ends_L229 n G n3 v2) := by
  intro n
  induction n with
  | zero => intro G n3 v2; rfl
  | succ n ih =>
    intro G n3 v2
    rw [x_X5_ends_L229.eq_2, w_ends_L229.eq_2]
    simp only [nm_eq, nmp_eq, apply_ite (emm T q), apply_ite (mpm T q), mpm_mk, mpm_1, mpm_2, em_q, em_6 (T := T) hq, em_u (T := T) hq, es_q, es_6 (T := T) hq, es_u (T := T) hq, ih]
def w_ends_L145 : Nat → vG → Nat → Int32 → (Int32 × vG)
  | 0, G, _, _ => (0, G)
  | n + 1, G, n3, v2 => if 8 ≤ (nI n3) then if (((G.1 0) + 1) - ((G.1 0) + 1) / (G.1 6) * (G.1 6)) = 0 then nm (w_nextChair G.1 (G.1 2)) (fun r_216 => nm (upq G 2 r_216) (fun G_219 => nm (upq G_219 0 ((G_219.1 0) + 1)) (fun G_226 => w_ends_L229 (9) G_226 (0) (v2)))) else nm (upq G 0 ((G.1 0) + 1)) (fun G_226 => w_ends_L229 (9) G_226 (0) (v2)) else nm (w_of G.1 (nI n3) 0) (fun r_154 => if r_154 = 1 then nm (w_of G.1 (nI n3) 7) (fun r_165 => if r_165 = 0 then nm (upq G 8 ((G.1 8) + (G.1 5))) (fun G_180 => nm (w_adds G_180 (nI n3) 12 (G_180.1 5)) (fun G_188 => w_ends_L145 n G_188 ((n3 + 1)) (v2))) else w_ends_L145 n G ((n3 + 1)) (v2)) else w_ends_L145 n G ((n3 + 1)) (v2))
theorem f_ends_L145 (T : vS) {q : Nat} (hq : q = 1 ∨ q = 2) : ∀ (n : Nat) (G : vG) (n3 : Nat) (v2 : Int32), x_X5_ends_L145 n (emm T q G) q n3 v2 = mpm T q (w_ends_L145 n G n3 v2) := by
  intro n
  induction n with
  | zero => intro G n3 v2; rfl
  | succ n ih =>
    intro G n3 v2
    rw [x_X5_ends_L145.eq_2, w_ends_L145.eq_2]
    simp only [nm_eq, nmp_eq, apply_ite (emm T q), apply_ite (mpm T q), mpm_mk, mpm_1, mpm_2, em_q, em_6 (T := T) hq, em_u (T := T) hq, es_q, es_6 (T := T) hq, es_u (T := T) hq, f_adds T hq, f_ends_L229 T hq, f_nextChair T hq, f_of T hq, ih]
def w_ends_L30 : Nat → vG → Nat → Int32 → (Int32 × vG)
  | 0, G, _, _ => (0, G)
  | n + 1, G, n3, v2 => if 8 ≤ (nI n3) then nm (upq G 11 ((G.1 11) + v2)) (fun G_142 => w_ends_L145 (9) G_142 (0) (v2)) else nm (w_of G.1 (nI n3) 0) (fun r_39 => if r_39 = 1 then nm (w_of G.1 (nI n3) 4) (fun r_49 => if r_49 ≤ 0 then w_ends_L30 n G ((n3 + 1)) (v2) else nm (w_of G.1 (nI n3) 6) (fun r_64 => nm (upq G 10 ((G.1 10) + r_64)) (fun G_68 => nm (w_of G_68.1 (nI n3) 7) (fun r_74 => if r_74 = 0 then nm (w_due G_68.1 (nI n3)) (fun r_82 => nm ((v2 + r_82)) (fun x_95 => nm (w_partOf G_68.1 (nI n3)) (fun r_101 => nm (w_adds G_68 (nI n3) 3 (-r_101)) (fun G_105 => nm (w_adds G_105 (nI n3) 4 (-1)) (fun G_112 => nm (w_of G_112.1 (nI n3) 4) (fun r_118 => if r_118 = 0 then nm (w_loanEnds G_112 (nI n3)) (fun G_126 => w_ends_L30 n G_126 ((n3 + 1)) (x_95)) else w_ends_L30 n G_112 ((n3 + 1)) (x_95))))))) else nmp (w_misses G_68 (nI n3)) (fun r_91 G_91 => nm ((v2 + r_91)) (fun x_95 => nm (w_partOf G_91.1 (nI n3)) (fun r_101 => nm (w_adds G_91 (nI n3) 3 (-r_101)) (fun G_105 => nm (w_adds G_105 (nI n3) 4 (-1)) (fun G_112 => nm (w_of G_112.1 (nI n3) 4) (fun r_118 => if r_118 = 0 then nm (w_loanEnds G_112 (nI n3)) (fun G_126 => w_ends_L30 n G_126 ((n3 + 1)) (x_95)) else w_ends_L30 n G_112 ((n3 + 1)) (x_95))))))))))) else w_ends_L30 n G ((n3 + 1)) (v2))
theorem f_ends_L30 (T : vS) {q : Nat} (hq : q = 1 ∨ q = 2) : ∀ (n : Nat) (G : vG) (n3 : Nat) (v2 : Int32), x_X5_ends_L30 n (emm T q G) q n3 v2 = mpm T q (w_ends_L30 n G n3 v2) := by
  intro n
  induction n with
  | zero => intro G n3 v2; rfl
  | succ n ih =>
    intro G n3 v2
    rw [x_X5_ends_L30.eq_2, w_ends_L30.eq_2]
    simp only [nm_eq, nmp_eq, apply_ite (emm T q), apply_ite (mpm T q), mpm_mk, mpm_1, mpm_2, em_q, em_6 (T := T) hq, em_u (T := T) hq, es_q, es_6 (T := T) hq, es_u (T := T) hq, f_adds T hq, f_due T hq, f_ends_L145 T hq, f_loanEnds T hq, f_misses T hq, f_of T hq, f_partOf T hq, ih]
def w_ends_L9 : Nat → vG → Nat → (Int32 × vG)
  | 0, G, _ => (0, G)
  | n + 1, G, n3 => if 8 ≤ (nI n3) then w_ends_L30 (9) G (0) (0) else nm (up6 G n3 0) (fun G_21 => w_ends_L9 n G_21 ((n3 + 1)))
theorem f_ends_L9 (T : vS) {q : Nat} (hq : q = 1 ∨ q = 2) : ∀ (n : Nat) (G : vG) (n3 : Nat), x_X5_ends_L9 n (emm T q G) q n3 = mpm T q (w_ends_L9 n G n3) := by
  intro n
  induction n with
  | zero => intro G n3; rfl
  | succ n ih =>
    intro G n3
    rw [x_X5_ends_L9.eq_2, w_ends_L9.eq_2]
    simp only [nm_eq, nmp_eq, apply_ite (emm T q), apply_ite (mpm T q), mpm_mk, mpm_1, mpm_2, em_q, em_6 (T := T) hq, em_u (T := T) hq, es_q, es_6 (T := T) hq, es_u (T := T) hq, f_ends_L30 T hq, ih]
def w_ends (G : vG) : (Int32 × vG) := nm (upu G 0) (fun G_4 => w_ends_L9 (9) G_4 (0))
theorem f_ends (T : vS) {q : Nat} (hq : q = 1 ∨ q = 2) (G : vG)  : x_X5_ends (emm T q G) q  = mpm T q (w_ends G ) := by
  unfold x_X5_ends w_ends
  simp only [nm_eq, nmp_eq, apply_ite (emm T q), apply_ite (mpm T q), mpm_mk, mpm_1, mpm_2, em_q, em_6 (T := T) hq, em_u (T := T) hq, es_q, es_6 (T := T) hq, es_u (T := T) hq, f_ends_L9 T hq]
def w_members_L4 : Nat → vF → Nat → Int32 → Int32
  | 0, F, _, _ => 0
  | n + 1, F, n2, v1 => if 8 ≤ (nI n2) then v1 else nm (w_of F (nI n2) 0) (fun r_17 => nm ((v1 + r_17)) (fun x_21 => w_members_L4 n F ((n2 + 1 )) (x_21)))
theorem f_members_L4 (T : vS) : ∀ (n : Nat) (G : vG) (n2 : Nat) (v1 : Int32), x_X5_members_L4 n (emm T 1 G) n2 v1 = w_members_L4 n G.1 n2 v1 := by
  intro n
  induction n with
  | zero => intro G n2 v1; rfl
  | succ n ih =>
    intro G n2 v1
    rw [x_X5_members_L4.eq_2, w_members_L4.eq_2]
    simp only [nm_eq, nmp_eq, apply_ite (emm T 1), apply_ite (mpm T 1), mpm_mk, mpm_1, mpm_2, em_q, em_6 (T := T) (.inl rfl), em_u (T := T) (.inl rfl), es_q, es_6 (T := T) (.inl rfl), es_u (T := T) (.inl rfl), f_of T (.inl rfl), ih]
def w_members (F : vF) : Int32 := w_members_L4 (9) F (0) (0)
theorem f_members (T : vS) (G : vG)  : x_X5_members (emm T 1 G)  = w_members G.1  := by
  unfold x_X5_members w_members
  simp only [nm_eq, nmp_eq, apply_ite (emm T 1), apply_ite (mpm T 1), mpm_mk, mpm_1, mpm_2, em_q, em_6 (T := T) (.inl rfl), em_u (T := T) (.inl rfl), es_q, es_6 (T := T) (.inl rfl), es_u (T := T) (.inl rfl), f_members_L4]
def w_leave_L109 : Nat → vG → Int32 → Nat → Int32 → (Int32 × vG)
  | 0, G, _, _, _ => (0, G)
  | n + 1, G, p1, n4, v3 => if 14 ≤ (nI n4) then if (G.1 2) = p1 then nm (w_nextChair G.1 p1) (fun r_158 => nm (upq G 2 r_158) (fun G_161 => (v3, G_161))) else (v3, G) else nm (upq G ((13 + (14 * p1.toNatClampNeg)) + n4) 0) (fun G_131 => w_leave_L109 n G_131 p1 ((n4 + 1 )) (v3))
theorem f_leave_L109 (T : vS) : ∀ (n : Nat) (G : vG) (p1 : Int32) (n4 : Nat) (v3 : Int32), x_X5_leave_L109 n (emm T 1 G) p1 n4 v3 = mpm T 1 (w_leave_L109 n G p1 n4 v3) := by
  intro n
  induction n with
  | zero => intro G p1 n4 v3; rfl
  | succ n ih =>
    intro G p1 n4 v3
    rw [x_X5_leave_L109.eq_2, w_leave_L109.eq_2]
    simp only [nm_eq, nmp_eq, apply_ite (emm T 1), apply_ite (mpm T 1), mpm_mk, mpm_1, mpm_2, em_q, em_6 (T := T) (.inl rfl), em_u (T := T) (.inl rfl), es_q, es_6 (T := T) (.inl rfl), es_u (T := T) (.inl rfl), f_nextChair T (.inl rfl), ih]
def w_mayLend (F : vF) (p1 : Int32) (p2 : Int32) (p3 : Int32) : Int32 := nm (w_isMember F p1) (fun r_2 => if r_2 = 0 then 1 else nm (w_in p2 10 2000) (fun r_16 => if r_16 = 0 then 2 else nm (w_in p3 1 52) (fun r_26 => if r_26 = 0 then 2 else nm (w_of F p1 4) (fun r_40 => if 0 < r_40 then 3 else nm (w_debts F p1) (fun r_51 => if 0 < r_51 then 3 else nm (w_of F p1 1 ) (fun r_64 => if p2 ≤ r_64 then 0 else 3))))))
theorem f_mayLend (T : vS) (G : vG) (p1 : Int32) (p2 : Int32) (p3 : Int32) : x_X5_mayLend (emm T 1 G) p1 p2 p3 = w_mayLend G.1 p1 p2 p3 := by
  unfold x_X5_mayLend w_mayLend
  simp only [nm_eq, nmp_eq, apply_ite (emm T 1), apply_ite (mpm T 1), mpm_mk, mpm_1, mpm_2, em_q, em_6 (T := T) (.inl rfl), em_u (T := T) (.inl rfl), es_q, es_6 (T := T) (.inl rfl), es_u (T := T) (.inl rfl), f_debts T (.inl rfl), f_in, f_isMember, f_of T (.inl rfl)]
def w_lends (G : vG) (p1 : Int32) (p2 : Int32) (p3 : Int32) : (Int32 × vG) := nm (w_adds G p1 2 p2) (fun G_7 => nm (w_adds G_7 p1 3 p2) (fun G_17 => nm (w_adds G_17 p1 4 p3) (fun G_27 => nm (w_adds G_27 p1 5 (p2 / p3)) (fun G_39 => nm (w_adds G_39 p1 6 ((p2 * (G_39.1 4)) / 1000)) (fun G_61 => nm (upq G_61 9 ((G_61.1 9) + p2)) (fun G_74 => nm (w_due G_74.1 p1) (fun r_80 => (r_80, G_74))))))))
theorem f_lends (T : vS) (G : vG) (p1 : Int32) (p2 : Int32) (p3 : Int32) : x_X5_lends (emm T 1 G) p1 p2 p3 = mpm T 1 (w_lends G p1 p2 p3) := by
  unfold x_X5_lends w_lends
  simp only [nm_eq, nmp_eq, apply_ite (emm T 1), apply_ite (mpm T 1), mpm_mk, mpm_1, mpm_2, em_q, em_6 (T := T) (.inl rfl), em_u (T := T) (.inl rfl), es_q, es_6 (T := T) (.inl rfl), es_u (T := T) (.inl rfl), f_adds T (.inl rfl), f_due T (.inl rfl)]
def w_absents_L4 : Nat → vF → Nat → Int32 → Int32
  | 0, F, _, _ => 0
  | n + 1, F, n2, v1 => if 8 ≤ (nI n2) then v1 else nm (w_of F (nI n2) 0) (fun r_17 => nm (w_of F (nI n2) 7) (fun r_27 => nm ((v1 + (r_17 * r_27))) (fun x_32 => w_absents_L4 n F ((n2 + 1 )) (x_32))))
theorem f_absents_L4 (T : vS) : ∀ (n : Nat) (G : vG) (n2 : Nat) (v1 : Int32), x_X5_absents_L4 n (emm T 1 G) n2 v1 = w_absents_L4 n G.1 n2 v1 := by
  intro n
  induction n with
  | zero => intro G n2 v1; rfl
  | succ n ih =>
    intro G n2 v1
    rw [x_X5_absents_L4.eq_2, w_absents_L4.eq_2]
    simp only [nm_eq, nmp_eq, apply_ite (emm T 1), apply_ite (mpm T 1), mpm_mk, mpm_1, mpm_2, em_q, em_6 (T := T) (.inl rfl), em_u (T := T) (.inl rfl), es_q, es_6 (T := T) (.inl rfl), es_u (T := T) (.inl rfl), f_of T (.inl rfl), ih]
def w_absents (F : vF) : Int32 := w_absents_L4 (9) F (0) (0)
theorem f_absents (T : vS) (G : vG)  : x_X5_absents (emm T 1 G)  = w_absents G.1  := by
  unfold x_X5_absents w_absents
  simp only [nm_eq, nmp_eq, apply_ite (emm T 1), apply_ite (mpm T 1), mpm_mk, mpm_1, mpm_2, em_q, em_6 (T := T) (.inl rfl), em_u (T := T) (.inl rfl), es_q, es_6 (T := T) (.inl rfl), es_u (T := T) (.inl rfl), f_absents_L4]
def w_mayPay (F : vF) (p1 : Int32) (p2 : Int32) : Int32 := nm (w_isMember F p1) (fun r_2 => if r_2 = 0 then 1 else nm (w_in p2 1 2000) (fun r_15 => if r_15 = 0 then 2 else nm (w_debts F p1) (fun r_30 => if r_30 = 0 then 3 else 0)))
theorem f_mayPay (T : vS) (G : vG) (p1 : Int32) (p2 : Int32) : x_X5_mayPay (emm T 1 G) p1 p2 = w_mayPay G.1 p1 p2 := by
  unfold x_X5_mayPay w_mayPay
  simp only [nm_eq, nmp_eq, apply_ite (emm T 1), apply_ite (mpm T 1), mpm_mk, mpm_1, mpm_2, em_q, em_6 (T := T) (.inl rfl), em_u (T := T) (.inl rfl), es_q, es_6 (T := T) (.inl rfl), es_u (T := T) (.inl rfl), f_debts T (.inl rfl), f_in, f_isMember]
def w_least  (p1 : Int32) (p2 : Int32) : Int32 := if p2 ≤ p1 then p2 else p1
theorem f_least (T : vS) (p1 : Int32) (p2 : Int32) : x_X5_least T p1 p2 = w_least p1 p2 := by
  unfold x_X5_least w_least
  simp only [nm_eq, nmp_eq, apply_ite (emm T 1), apply_ite (mpm T 1), mpm_mk, mpm_1, mpm_2, em_q, em_6 (T := T) (.inl rfl), em_u (T := T) (.inl rfl), es_q, es_6 (T := T) (.inl rfl), es_u (T := T) (.inl rfl)]
def w_pays_L97 : Nat → vG → Int32 → Int32 → Nat → Int32 → (Int32 × vG)
  | 0, G, _, _, _, _ => (0, G)
  | n + 1, G, p1, p2, n6, v3 => if 8 ≤ (nI n6) then ((p2 - v3), G) else nm (w_debt G.1 p1 (nI n6)) (fun r_112 => nm (w_least v3 r_112) (fun r_115 => nm (upq G ((125 + (8 * p1.toNatClampNeg)) + n6) ((G.1 ((125 + (8 * p1.toNatClampNeg)) + n6)) - r_115)) (fun G_139 => nm ((v3 - r_115)) (fun x_144 => w_pays_L97 n G_139 p1 p2 ((n6 + 1 )) (x_144)))))
theorem f_pays_L97 (T : vS) : ∀ (n : Nat) (G : vG) (p1 : Int32) (p2 : Int32) (n6 : Nat) (v3 : Int32), x_X5_pays_L97 n (emm T 1 G) p1 p2 n6 v3 = mpm T 1 (w_pays_L97 n G p1 p2 n6 v3) := by
  intro n
  induction n with
  | zero => intro G p1 p2 n6 v3; rfl
  | succ n ih =>
    intro G p1 p2 n6 v3
    rw [x_X5_pays_L97.eq_2, w_pays_L97.eq_2]
    simp only [nm_eq, nmp_eq, apply_ite (emm T 1), apply_ite (mpm T 1), mpm_mk, mpm_1, mpm_2, em_q, em_6 (T := T) (.inl rfl), em_u (T := T) (.inl rfl), es_q, es_6 (T := T) (.inl rfl), es_u (T := T) (.inl rfl), f_debt T (.inl rfl), f_least, ih]
def w_pays (G : vG) (p1 : Int32) (p2 : Int32) : (Int32 × vG) := nm (w_of G.1 p1 10) (fun r_10 => nm (w_least p2 r_10) (fun r_13 => nm (w_adds G p1 10 (-r_13)) (fun G_28 => nm (upq G_28 11 ((G_28.1 11) + r_13)) (fun G_42 => nm ((p2 - r_13)) (fun x_47 => nm (w_of G_42.1 p1 11) (fun r_56 => nm (w_least x_47 r_56) (fun r_59 => nm (w_adds G_42 p1 11 (-r_59)) (fun G_74 => nm (upq G_74 8 ((G_74.1 8) + r_59)) (fun G_88 => nm ((x_47 - r_59)) (fun x_93 => w_pays_L97 (9) G_88 p1 p2 (0) (x_93)))))))))))
theorem f_pays (T : vS) (G : vG) (p1 : Int32) (p2 : Int32) : x_X5_pays (emm T 1 G) p1 p2 = mpm T 1 (w_pays G p1 p2) := by
  unfold x_X5_pays w_pays
  simp only [nm_eq, nmp_eq, apply_ite (emm T 1), apply_ite (mpm T 1), mpm_mk, mpm_1, mpm_2, em_q, em_6 (T := T) (.inl rfl), em_u (T := T) (.inl rfl), es_q, es_6 (T := T) (.inl rfl), es_u (T := T) (.inl rfl), f_adds T (.inl rfl), f_least, f_of T (.inl rfl), f_pays_L97]
def w_mayHelp (F : vF) (p1 : Int32) (p2 : Int32) : Int32 := nm (w_isMember F p1) (fun r_2 => if r_2 = 0 then 1 else nm (w_in p2 1 2000) (fun r_15 => if r_15 = 0 then 2 else if (F 2) = (-1) then 3 else if (F 2) = p1 then 3 else nm (w_of F p1 11) (fun r_50 => if r_50 = 0 then if (((F 8) * (F 7)) / 100) < p2 then 3 else 0 else 3)))
theorem f_mayHelp (T : vS) (G : vG) (p1 : Int32) (p2 : Int32) : x_X5_mayHelp (emm T 1 G) p1 p2 = w_mayHelp G.1 p1 p2 := by
  unfold x_X5_mayHelp w_mayHelp
  simp only [nm_eq, nmp_eq, apply_ite (emm T 1), apply_ite (mpm T 1), mpm_mk, mpm_1, mpm_2, em_q, em_6 (T := T) (.inl rfl), em_u (T := T) (.inl rfl), es_q, es_6 (T := T) (.inl rfl), es_u (T := T) (.inl rfl), f_in, f_isMember, f_of T (.inl rfl)]
def w_helps (G : vG) (p1 : Int32) (p2 : Int32) : (Int32 × vG) := nm (upq G 8 ((G.1 8) - p2)) (fun G_10 => nm (w_adds G_10 p1 11 p2) (fun G_19 => ((G_19.1 8), G_19)))
theorem f_helps (T : vS) (G : vG) (p1 : Int32) (p2 : Int32) : x_X5_helps (emm T 1 G) p1 p2 = mpm T 1 (w_helps G p1 p2) := by
  unfold x_X5_helps w_helps
  simp only [nm_eq, nmp_eq, apply_ite (emm T 1), apply_ite (mpm T 1), mpm_mk, mpm_1, mpm_2, em_q, em_6 (T := T) (.inl rfl), em_u (T := T) (.inl rfl), es_q, es_6 (T := T) (.inl rfl), es_u (T := T) (.inl rfl), f_adds T (.inl rfl)]
def w_sumOf_L4 : Nat → vF → Int32 → Nat → Int32 → Int32
  | 0, F, _, _, _ => 0
  | n + 1, F, p1, n3, v2 => if 8 ≤ (nI n3) then v2 else nm (w_of F (nI n3) p1) (fun r_17 => nm ((v2 + r_17)) (fun x_21 => w_sumOf_L4 n F p1 ((n3 + 1 )) (x_21)))
theorem f_sumOf_L4 (T : vS) : ∀ (n : Nat) (G : vG) (p1 : Int32) (n3 : Nat) (v2 : Int32), x_X5_sumOf_L4 n (emm T 1 G) p1 n3 v2 = w_sumOf_L4 n G.1 p1 n3 v2 := by
  intro n
  induction n with
  | zero => intro G p1 n3 v2; rfl
  | succ n ih =>
    intro G p1 n3 v2
    rw [x_X5_sumOf_L4.eq_2, w_sumOf_L4.eq_2]
    simp only [nm_eq, nmp_eq, apply_ite (emm T 1), apply_ite (mpm T 1), mpm_mk, mpm_1, mpm_2, em_q, em_6 (T := T) (.inl rfl), em_u (T := T) (.inl rfl), es_q, es_6 (T := T) (.inl rfl), es_u (T := T) (.inl rfl), f_of T (.inl rfl), ih]
def w_sumOf (F : vF) (p1 : Int32) : Int32 := w_sumOf_L4 (9) F p1 (0) (0)
theorem f_sumOf (T : vS) (G : vG) (p1 : Int32) : x_X5_sumOf (emm T 1 G) p1 = w_sumOf G.1 p1 := by
  unfold x_X5_sumOf w_sumOf
  simp only [nm_eq, nmp_eq, apply_ite (emm T 1), apply_ite (mpm T 1), mpm_mk, mpm_1, mpm_2, em_q, em_6 (T := T) (.inl rfl), em_u (T := T) (.inl rfl), es_q, es_6 (T := T) (.inl rfl), es_u (T := T) (.inl rfl), f_sumOf_L4]
def w_mayCycle (F : vF) : Int32 := nm (w_sumOf F 4) (fun r_2 => if r_2 = 0 then nm (w_sumOf F 10) (fun r_11 => if r_11 = 0 then 1 else 0) else 0)
theorem f_mayCycle (T : vS) (G : vG)  : x_X5_mayCycle (emm T 1 G)  = w_mayCycle G.1  := by
  unfold x_X5_mayCycle w_mayCycle
  simp only [nm_eq, nmp_eq, apply_ite (emm T 1), apply_ite (mpm T 1), mpm_mk, mpm_1, mpm_2, em_q, em_6 (T := T) (.inl rfl), em_u (T := T) (.inl rfl), es_q, es_6 (T := T) (.inl rfl), es_u (T := T) (.inl rfl), f_sumOf]
def w_limitThen (F : vF) (p1 : Int32) : Int32 := nm (w_of F p1 1 ) (fun r_6 => nm (w_of F p1 8) (fun r_17 => if r_17 = 0 then nm (w_least 2000 (r_6 + (r_6 / 2))) (fun r_31 => r_31) else nm (w_of F p1 8) (fun r_42 => if 3 ≤ r_42 then if 20 ≤ (r_6 / 2) then (r_6 / 2) else 20 else r_6)))
theorem f_limitThen (T : vS) (G : vG) (p1 : Int32) : x_X5_limitThen (emm T 1 G) p1 = w_limitThen G.1 p1 := by
  unfold x_X5_limitThen w_limitThen
  simp only [nm_eq, nmp_eq, apply_ite (emm T 1), apply_ite (mpm T 1), mpm_mk, mpm_1, mpm_2, em_q, em_6 (T := T) (.inl rfl), em_u (T := T) (.inl rfl), es_q, es_6 (T := T) (.inl rfl), es_u (T := T) (.inl rfl), f_least, f_of T (.inl rfl)]
def w_cycles_L2 : Nat → vG → Nat → (Int32 × vG)
  | 0, G, _ => (0, G)
  | n + 1, G, n1 => if 8 ≤ (nI n1) then nm (upq G 1 ((G.1 1 ) + 1 )) (fun G_71 => ((G_71.1 1 ), G_71)) else nm (w_of G.1 (nI n1) 0) (fun r_14 => if r_14 = 1 then nm (w_limitThen G.1 (nI n1)) (fun r_36 => nm (upq G ((13 + (14 * n1)) + 1 ) r_36) (fun G_39 => nm (upq G_39 ((13 + (14 * n1)) + 8) 0) (fun G_55 => w_cycles_L2 n G_55 ((n1 + 1 ))))) else w_cycles_L2 n G ((n1 + 1 )))
theorem f_cycles_L2 (T : vS) : ∀ (n : Nat) (G : vG) (n1 : Nat), x_X5_cycles_L2 n (emm T 1 G) n1 = mpm T 1 (w_cycles_L2 n G n1) := by
  intro n
  induction n with
  | zero => intro G n1; rfl
  | succ n ih =>
    intro G n1
    rw [x_X5_cycles_L2.eq_2, w_cycles_L2.eq_2]
    simp only [nm_eq, nmp_eq, apply_ite (emm T 1), apply_ite (mpm T 1), mpm_mk, mpm_1, mpm_2, em_q, em_6 (T := T) (.inl rfl), em_u (T := T) (.inl rfl), es_q, es_6 (T := T) (.inl rfl), es_u (T := T) (.inl rfl), f_limitThen, f_of T (.inl rfl), ih]
def w_cycles (G : vG) : (Int32 × vG) := w_cycles_L2 (9) G (0)
theorem f_cycles (T : vS) (G : vG)  : x_X5_cycles (emm T 1 G)  = mpm T 1 (w_cycles G ) := by
  unfold x_X5_cycles w_cycles
  simp only [nm_eq, nmp_eq, apply_ite (emm T 1), apply_ite (mpm T 1), mpm_mk, mpm_1, mpm_2, em_q, em_6 (T := T) (.inl rfl), em_u (T := T) (.inl rfl), es_q, es_6 (T := T) (.inl rfl), es_u (T := T) (.inl rfl), f_cycles_L2]
def w_isFor  (p1 : Int32) (p2 : Int32) : Int32 := if p1 = 0 then nm (w_in p2 0 50) (fun r_8 => r_8) else if p1 = 1 then nm (w_in p2 0 99) (fun r_23 => r_23) else if p1 = 2 then nm (w_in p2 1 20) (fun r_38 => r_38) else nm (w_in p2 0 100) (fun r_48 => r_48)
theorem f_isFor (T : vS) (p1 : Int32) (p2 : Int32) : x_X5_isFor T p1 p2 = w_isFor p1 p2 := by
  unfold x_X5_isFor w_isFor
  simp only [nm_eq, nmp_eq, apply_ite (emm T 1), apply_ite (mpm T 1), mpm_mk, mpm_1, mpm_2, em_q, em_6 (T := T) (.inl rfl), em_u (T := T) (.inl rfl), es_q, es_6 (T := T) (.inl rfl), es_u (T := T) (.inl rfl), f_in]
def w_ofMember (F : vF) (p1 : Int32) (p2 : Int32) : Int32 := if 4 ≤ p2 then if 10 ≤ p2 then if p2 = 10 then nm (w_toOthers F p1) (fun r_76 => r_76) else if p2 = 11 then nm (w_fromOthers F p1) (fun r_93 => r_93) else nm (w_of F p1 p2) (fun r_105 => r_105) else if p2 = 4 then nm (w_due F p1) (fun r_33 => r_33) else if p2 = 9 then nm (w_of F p1 11) (fun r_61 => r_61) else nm (w_of F p1 ((7 + p2) - 5)) (fun r_61 => r_61) else nm (w_of F p1 (1 + p2)) (fun r_13 => r_13)
theorem f_ofMember (T : vS) (G : vG) (p1 : Int32) (p2 : Int32) : x_X5_ofMember (emm T 1 G) p1 p2 = w_ofMember G.1 p1 p2 := by
  unfold x_X5_ofMember w_ofMember
  simp only [nm_eq, nmp_eq, apply_ite (emm T 1), apply_ite (mpm T 1), mpm_mk, mpm_1, mpm_2, em_q, em_6 (T := T) (.inl rfl), em_u (T := T) (.inl rfl), es_q, es_6 (T := T) (.inl rfl), es_u (T := T) (.inl rfl), f_due T (.inl rfl), f_fromOthers T (.inl rfl), f_of T (.inl rfl), f_toOthers T (.inl rfl)]
def w_among_L4 : Nat → vF → Nat → Int32 → Int32
  | 0, F, _, _ => 0
  | n + 1, F, n2, v1 => if 8 ≤ (nI n2) then v1 else nm (w_toOthers F (nI n2)) (fun r_13 => nm ((v1 + r_13)) (fun x_17 => w_among_L4 n F ((n2 + 1)) (x_17)))
theorem f_among_L4 (T : vS) {q : Nat} (hq : q = 1 ∨ q = 2) : ∀ (n : Nat) (G : vG) (n2 : Nat) (v1 : Int32), x_X5_among_L4 n (emm T q G) q n2 v1 = w_among_L4 n G.1 n2 v1 := by
  intro n
  induction n with
  | zero => intro G n2 v1; rfl
  | succ n ih =>
    intro G n2 v1
    rw [x_X5_among_L4.eq_2, w_among_L4.eq_2]
    simp only [nm_eq, nmp_eq, apply_ite (emm T q), apply_ite (mpm T q), mpm_mk, mpm_1, mpm_2, em_q, em_6 (T := T) hq, em_u (T := T) hq, es_q, es_6 (T := T) hq, es_u (T := T) hq, f_toOthers T hq, ih]
def w_among (F : vF) : Int32 := w_among_L4 (9) F (0) (0)
theorem f_among (T : vS) {q : Nat} (hq : q = 1 ∨ q = 2) (G : vG)  : x_X5_among (emm T q G) q  = w_among G.1  := by
  unfold x_X5_among w_among
  simp only [nm_eq, nmp_eq, apply_ite (emm T q), apply_ite (mpm T q), mpm_mk, mpm_1, mpm_2, em_q, em_6 (T := T) hq, em_u (T := T) hq, es_q, es_6 (T := T) hq, es_u (T := T) hq, f_among_L4 T hq]
def w_endsWith_L2 : Nat → vG → Int32 → Nat → (Int32 × vG)
  | 0, G, _, _ => (0, G)
  | n + 1, G, p1, n2 => if 8 ≤ (nI n2) then nmp (w_ends G ) (fun r_39 G_39 => (r_39, G_39)) else nm (upq G ((13 + (14 * n2)) + 7) ((p1 >>> ((nI n2) &&& 31)) &&& 1)) (fun G_27 => w_endsWith_L2 n G_27 p1 ((n2 + 1)))
theorem f_endsWith_L2 (T : vS) : ∀ (n : Nat) (G : vG) (p1 : Int32) (n2 : Nat), x_X5_endsWith_L2 n (emm T 2 G) p1 n2 = mpm T 2 (w_endsWith_L2 n G p1 n2) := by
  intro n
  induction n with
  | zero => intro G p1 n2; rfl
  | succ n ih =>
    intro G p1 n2
    rw [x_X5_endsWith_L2.eq_2, w_endsWith_L2.eq_2]
    simp only [nm_eq, nmp_eq, apply_ite (emm T 2), apply_ite (mpm T 2), mpm_mk, mpm_1, mpm_2, em_q, em_6 (T := T) (.inr rfl), em_u (T := T) (.inr rfl), es_q, es_6 (T := T) (.inr rfl), es_u (T := T) (.inr rfl), f_ends T (.inr rfl), ih]
def w_endsWith (G : vG) (p1 : Int32) : (Int32 × vG) := w_endsWith_L2 (9) G p1 (0)
theorem f_endsWith (T : vS) (G : vG) (p1 : Int32) : x_X5_endsWith (emm T 2 G) p1 = mpm T 2 (w_endsWith G p1) := by
  unfold x_X5_endsWith w_endsWith
  simp only [nm_eq, nmp_eq, apply_ite (emm T 2), apply_ite (mpm T 2), mpm_mk, mpm_1, mpm_2, em_q, em_6 (T := T) (.inr rfl), em_u (T := T) (.inr rfl), es_q, es_6 (T := T) (.inr rfl), es_u (T := T) (.inr rfl), f_endsWith_L2]
def w_longest_L4 : Nat → vF → Nat → Int32 → Int32
  | 0, F, _, _ => 0
  | n + 1, F, n2, v1 => if 8 ≤ (nI n2) then v1 else nm (w_of F (nI n2) 4) (fun r_16 => if r_16 ≤ v1 then w_longest_L4 n F ((n2 + 1 )) (v1) else nm (w_of F (nI n2) 4) (fun r_29 => w_longest_L4 n F ((n2 + 1 )) (r_29)))
theorem f_longest_L4 (T : vS) : ∀ (n : Nat) (G : vG) (n2 : Nat) (v1 : Int32), x_X5_longest_L4 n (emm T 1 G) n2 v1 = w_longest_L4 n G.1 n2 v1 := by
  intro n
  induction n with
  | zero => intro G n2 v1; rfl
  | succ n ih =>
    intro G n2 v1
    rw [x_X5_longest_L4.eq_2, w_longest_L4.eq_2]
    simp only [nm_eq, nmp_eq, apply_ite (emm T 1), apply_ite (mpm T 1), mpm_mk, mpm_1, mpm_2, em_q, em_6 (T := T) (.inl rfl), em_u (T := T) (.inl rfl), es_q, es_6 (T := T) (.inl rfl), es_u (T := T) (.inl rfl), f_of T (.inl rfl), ih]
def w_longest (F : vF) : Int32 := w_longest_L4 (9) F (0) (0)
theorem f_longest (T : vS) (G : vG)  : x_X5_longest (emm T 1 G)  = w_longest G.1  := by
  unfold x_X5_longest w_longest
  simp only [nm_eq, nmp_eq, apply_ite (emm T 1), apply_ite (mpm T 1), mpm_mk, mpm_1, mpm_2, em_q, em_6 (T := T) (.inl rfl), em_u (T := T) (.inl rfl), es_q, es_6 (T := T) (.inl rfl), es_u (T := T) (.inl rfl), f_longest_L4]
def w_share (F : vF) : UInt64 := nm (((F 9) + (F 10))) (fun x_15 => if x_15 = 0 then FP.dconst1 else (FP.ddiv (FP.i2d (F 11)) (FP.i2d x_15)))
theorem f_share (T : vS) (G : vG)  : x_X5_share (emm T 1 G)  = w_share G.1  := by
  unfold x_X5_share w_share
  simp only [nm_eq, nmp_eq, apply_ite (emm T 1), apply_ite (mpm T 1), mpm_mk, mpm_1, mpm_2, em_q, em_6 (T := T) (.inl rfl), em_u (T := T) (.inl rfl), es_q, es_6 (T := T) (.inl rfl), es_u (T := T) (.inl rfl)]
end WMOD
