section VGRP
def v_X2_hasLoan (F : vF) (k : Nat) : Int32 := if (F (13 + 14 * k + 4)) ≤ 0 then 0 else 1
theorem e_X2_hasLoan (S : vS) (g : Nat) (F : vF) (k : Nat)  (hk : k < 8) : x_X2_hasLoan (emb S g F) g k  = v_X2_hasLoan F k  := by
  unfold x_X2_hasLoan v_X2_hasLoan
  simp only [nm_eq, nmp_eq, fmW_eq, apply_ite (emb S g), apply_ite (mpe S g), mpe_mk, mpe_1, mpe_2, ebM_7 hk, esM_7 hk, hk]
def v_X2_part (F : vF) (k : Nat) : Int32 := if (F (13 + 14 * k + 4)) = 1 then (F (13 + 14 * k + 3)) else (F (13 + 14 * k + 5))
theorem e_X2_part (S : vS) (g : Nat) (F : vF) (k : Nat)  (hk : k < 8) : x_X2_part (emb S g F) g k  = v_X2_part F k  := by
  unfold x_X2_part v_X2_part
  simp only [nm_eq, nmp_eq, fmW_eq, apply_ite (emb S g), apply_ite (mpe S g), mpe_mk, mpe_1, mpe_2, ebM_6 hk, esM_6 hk, ebM_7 hk, esM_7 hk, ebM_4 hk, esM_4 hk, hk]
def v_X2_due (F : vF) (k : Nat) : Int32 := nm (v_X2_hasLoan F k) (fun r_1 => if r_1 = 0 then 0 else nm (v_X2_part F k) (fun r_8 => (r_8 + (F (13 + 14 * k + 6)))))
theorem e_X2_due (S : vS) (g : Nat) (F : vF) (k : Nat)  (hk : k < 8) : x_X2_due (emb S g F) g k  = v_X2_due F k  := by
  unfold x_X2_due v_X2_due
  simp only [nm_eq, nmp_eq, fmW_eq, apply_ite (emb S g), apply_ite (mpe S g), mpe_mk, mpe_1, mpe_2, ebM_5 hk, esM_5 hk, e_X2_hasLoan, e_X2_part, hk]
def v_X2_debtToMembers_L13 : Nat → vF → Nat → Nat → Int32 → Int32
  | 0, F, _, _, _ => 0
  | n + 1, F, k, n4, v1 => if 8 ≤ (nI n4) then v1 else nm ((F (125 + 8 * k + n4))) (fun x_23 => nm ((v1 + x_23)) (fun x_29 => v_X2_debtToMembers_L13 n F k ((n4 + 1)) (x_29)))
theorem e_X2_debtToMembers_L13 (S : vS) (g : Nat) : ∀ (n : Nat) (F : vF) (k : Nat) (n4 : Nat) (v1 : Int32), k < 8 → n4 + n ≤ 100 → x_X2_debtToMembers_L13 n (emb S g F) g k n4 v1 = v_X2_debtToMembers_L13 n F k n4 v1 := by
  intro n
  induction n with
  | zero => intro F k n4 v1 hk h; rfl
  | succ n ih =>
    intro F k n4 v1 hk h
    rw [x_X2_debtToMembers_L13.eq_2, v_X2_debtToMembers_L13.eq_2]
    have ih := fun (F : vF) (v1' : Int32) => ih F k (n4 + 1) v1' hk (by omega)
    by_cases c : 8 ≤ nI n4
    · rw [if_pos c, if_pos c]
      all_goals (try simp only [nm_eq, nmp_eq, fmW_eq, apply_ite (emb S g), apply_ite (mpe S g), mpe_mk, mpe_1, mpe_2, ])
    · rw [if_neg c, if_neg c]
      have hi : n4 < 8 := nI_of_nle (by decide) c (by omega)
      simp only [nm_eq, nmp_eq, fmW_eq, apply_ite (emb S g), apply_ite (mpe S g), mpe_mk, mpe_1, mpe_2, ebD hk hi, esD hk hi, ebD hi hk, hi, hk, ih]
theorem e_X2_debtToMembers_L13z (S : vS) (g : Nat) (F : vF) (k : Nat) (v1 : Int32) (hk : k < 8) : x_X2_debtToMembers_L13 9 (emb S g F) g k 0 v1 = v_X2_debtToMembers_L13 9 F k 0 v1 := e_X2_debtToMembers_L13 S g 9 F k 0 v1 hk (by decide)
def v_X2_debtToMembers (F : vF) (k : Nat) : Int32 := v_X2_debtToMembers_L13 (9) F k (0) (0)
theorem e_X2_debtToMembers (S : vS) (g : Nat) (F : vF) (k : Nat)  (hk : k < 8) : x_X2_debtToMembers (emb S g F) g k  = v_X2_debtToMembers F k  := by
  unfold x_X2_debtToMembers v_X2_debtToMembers
  simp only [nm_eq, nmp_eq, fmW_eq, apply_ite (emb S g), apply_ite (mpe S g), mpe_mk, mpe_1, mpe_2, e_X2_debtToMembers_L13z, hk]
def v_X2_hasDebts (F : vF) (k : Nat) : Int32 := if 0 < (F (13 + 14 * k + 10)) then 1 else if 0 < (F (13 + 14 * k + 11)) then 1 else nm (v_X2_debtToMembers F k) (fun r_15 => if r_15 ≤ 0 then 0 else 1)
theorem e_X2_hasDebts (S : vS) (g : Nat) (F : vF) (k : Nat)  (hk : k < 8) : x_X2_hasDebts (emb S g F) g k  = v_X2_hasDebts F k  := by
  unfold x_X2_hasDebts v_X2_hasDebts
  simp only [nm_eq, nmp_eq, fmW_eq, apply_ite (emb S g), apply_ite (mpe S g), mpe_mk, mpe_1, mpe_2, ebM_11 hk, esM_11 hk, ebM_12 hk, esM_12 hk, e_X2_debtToMembers, hk]
def v_X2_mayBorrow (F : vF) (k : Nat) (p1 : Int32) : Int32 := nm (v_X2_hasLoan F k) (fun r_1 => if r_1 = 0 then nm (v_X2_hasDebts F k) (fun r_8 => if r_8 = 0 then if (F (13 + 14 * k + 1)) < p1 then 0 else 1 else 0) else 0)
theorem e_X2_mayBorrow (S : vS) (g : Nat) (F : vF) (k : Nat) (p1 : Int32) (hk : k < 8) : x_X2_mayBorrow (emb S g F) g k p1 = v_X2_mayBorrow F k p1 := by
  unfold x_X2_mayBorrow v_X2_mayBorrow
  simp only [nm_eq, nmp_eq, fmW_eq, apply_ite (emb S g), apply_ite (mpe S g), mpe_mk, mpe_1, mpe_2, ebM_2 hk, esM_2 hk, e_X2_hasDebts, e_X2_hasLoan, hk]
def v_X2_borrow (F : vF) (k : Nat) (p1 : Int32) (p2 : Int32) (p3 : Int32) : vF := if 1 ≤ p2 then nm (upd F (13 + 14 * k + 2) p1) (fun F_8 => nm (upd F_8 (13 + 14 * k + 5) (p1 / p2)) (fun F_15 => nm (upd F_15 (13 + 14 * k + 6) p3) (fun F_20 => nm (upd F_20 (13 + 14 * k + 3) p1) (fun F_25 => nm (upd F_25 (13 + 14 * k + 4) p2) (fun F_30 => F_30))))) else F
theorem e_X2_borrow (S : vS) (g : Nat) (F : vF) (k : Nat) (p1 : Int32) (p2 : Int32) (p3 : Int32) (hk : k < 8) : x_X2_borrow (emb S g F) g k p1 p2 p3 = emb S g (v_X2_borrow F k p1 p2 p3) := by
  unfold x_X2_borrow v_X2_borrow
  simp only [nm_eq, nmp_eq, fmW_eq, apply_ite (emb S g), apply_ite (mpe S g), mpe_mk, mpe_1, mpe_2, ebM_3 hk, esM_3 hk, ebM_6 hk, esM_6 hk, ebM_7 hk, esM_7 hk, ebM_4 hk, esM_4 hk, ebM_5 hk, esM_5 hk, hk]
def v_X2_lessenLoan (F : vF) (k : Nat) : vF := nm (v_X2_part F k) (fun r_6 => nm (upd F (13 + 14 * k + 3) ((F (13 + 14 * k + 3)) - r_6)) (fun F_10 => nm (upd F_10 (13 + 14 * k + 4) ((F_10 (13 + 14 * k + 4)) - 1)) (fun F_20 => if (F_20 (13 + 14 * k + 4)) = 0 then nm (upd F_20 (13 + 14 * k + 2) 0) (fun F_32 => nm (upd F_32 (13 + 14 * k + 5) 0) (fun F_37 => nm (upd F_37 (13 + 14 * k + 6) 0) (fun F_42 => F_42))) else F_20)))
theorem e_X2_lessenLoan (S : vS) (g : Nat) (F : vF) (k : Nat)  (hk : k < 8) : x_X2_lessenLoan (emb S g F) g k  = emb S g (v_X2_lessenLoan F k ) := by
  unfold x_X2_lessenLoan v_X2_lessenLoan
  simp only [nm_eq, nmp_eq, fmW_eq, apply_ite (emb S g), apply_ite (mpe S g), mpe_mk, mpe_1, mpe_2, ebM_3 hk, esM_3 hk, ebM_6 hk, esM_6 hk, ebM_7 hk, esM_7 hk, ebM_4 hk, esM_4 hk, ebM_5 hk, esM_5 hk, e_X2_part, hk]
def v_X2_nextLimit (F : vF) (k : Nat) : Int32 := if (F (13 + 14 * k + 8)) = 0 then (if 2000 < ((F (13 + 14 * k + 1)) + ((F (13 + 14 * k + 1)) / 2)) then 2000 else ((F (13 + 14 * k + 1)) + ((F (13 + 14 * k + 1)) / 2))) else if (F (13 + 14 * k + 8)) < 3 then (F (13 + 14 * k + 1)) else (if ((F (13 + 14 * k + 1)) / 2) < 20 then 20 else ((F (13 + 14 * k + 1)) / 2))
theorem e_X2_nextLimit (S : vS) (g : Nat) (F : vF) (k : Nat)  (hk : k < 8) : x_X2_nextLimit (emb S g F) g k  = v_X2_nextLimit F k  := by
  unfold x_X2_nextLimit v_X2_nextLimit
  simp only [nm_eq, nmp_eq, fmW_eq, apply_ite (emb S g), apply_ite (mpe S g), mpe_mk, mpe_1, mpe_2, ebM_2 hk, esM_2 hk, ebM_9 hk, esM_9 hk, hk]
def v_X2_property (F : vF) (k : Nat) (p1 : Int32) : Int32 := if p1 = 0 then (F (13 + 14 * k + 1)) else (if p1 = 1 then (F (13 + 14 * k + 2)) else (if p1 = 2 then (F (13 + 14 * k + 3)) else (if p1 = 3 then (F (13 + 14 * k + 4)) else (if p1 = 4 then nm (v_X2_due F k) (fun r_89 => r_89) else (if p1 = 5 then if (bz (F (13 + 14 * k + 7))) = 0 then 0 else 1 else (if p1 = 6 then (F (13 + 14 * k + 8)) else (if p1 = 7 then (F (13 + 14 * k + 9)) else (if p1 = 8 then (F (13 + 14 * k + 10)) else (if p1 = 9 then (F (13 + 14 * k + 11)) else (if p1 = 10 then nm (v_X2_debtToMembers F k) (fun r_127 => r_127) else (if p1 = 11 then (F (13 + 14 * k + 13)) else (if p1 = 12 then (F (13 + 14 * k + 12)) else ((F (13 + 14 * k + 13)))))))))))))))
theorem e_X2_property (S : vS) (g : Nat) (F : vF) (k : Nat) (p1 : Int32) (hk : k < 8) : x_X2_property (emb S g F) g k p1 = v_X2_property F k p1 := by
  unfold x_X2_property v_X2_property
  simp only [nm_eq, nmp_eq, fmW_eq, apply_ite (emb S g), apply_ite (mpe S g), mpe_mk, mpe_1, mpe_2, ebM_2 hk, esM_2 hk, ebM_3 hk, esM_3 hk, ebM_6 hk, esM_6 hk, ebM_7 hk, esM_7 hk, ebM_8 hk, esM_8 hk, ebM_9 hk, esM_9 hk, ebM_10 hk, esM_10 hk, ebM_11 hk, esM_11 hk, ebM_12 hk, esM_12 hk, ebM_13 hk, esM_13 hk, ebM_14 hk, esM_14 hk, e_X2_debtToMembers, e_X2_due, hk]
def v_X0_find (F : vF) (p1 : Int32) : Option Nat := if p1 < 0 then none else if 8 ≤ p1 then none else if (bz (F (13 + 14 * p1.toNatClampNeg + 0))) = 0 then none else some p1.toNatClampNeg
theorem e_X0_find (S : vS) (g : Nat) (F : vF) (p1 : Int32) : x_X0_find (emb S g F) g p1 = v_X0_find F p1 := by
  unfold x_X0_find v_X0_find
  by_cases h1 : p1 < 0
  · rw [if_pos h1, if_pos h1]
  · rw [if_neg h1, if_neg h1]
    by_cases h2 : 8 ≤ p1
    · rw [if_pos h2, if_pos h2]
    · rw [if_neg h2, if_neg h2, ebM_1 (vin_lt (vin_of h1 h2 (by decide) (Nat.le_refl 8)))]
theorem find_some {F : vF} {p1 : Int32} {k : Nat} (h : v_X0_find F p1 = some k) : k < 8 ∧ p1 = nI k ∧ ¬ bz (F (13 + 14 * k + 0)) = 0 := by
  unfold v_X0_find at h
  by_cases h1 : p1 < 0
  · rw [if_pos h1] at h; exact absurd h (by simp)
  · rw [if_neg h1] at h
    by_cases h2 : 8 ≤ p1
    · rw [if_pos h2] at h; exact absurd h (by simp)
    · rw [if_neg h2] at h
      by_cases h3 : bz (F (13 + 14 * p1.toNatClampNeg + 0)) = 0
      · rw [if_pos h3] at h; exact absurd h (by simp)
      · rw [if_neg h3] at h
        have e := Option.some.inj h
        have hv := vin_of h1 h2 (by decide) (Nat.le_refl 8)
        obtain ⟨j, hj, rfl⟩ := vp_in_of hv (by decide)
        have e2 : (nI j).toNatClampNeg = j := nI_clamp (by omega)
        rw [e2] at e h3
        subst e
        exact ⟨hj, rfl, h3⟩
theorem find_nI {F : vF} {k : Nat} (hk : k < 8) : v_X0_find F (nI k) = if bz (F (13 + 14 * k + 0)) = 0 then none else some k := by
  have e2 : (nI k).toNatClampNeg = k := nI_clamp (by omega)
  unfold v_X0_find
  rw [if_neg (nI_pos (by omega)), if_neg (ge8 hk), e2]
theorem find_none {F : vF} {p : Int32} (h : ¬ vp_in p 8) : v_X0_find F p = none := by
  unfold v_X0_find
  by_cases h1 : p < 0
  · rw [if_pos h1]
  · rw [if_neg h1]
    by_cases h2 : 8 ≤ p
    · rw [if_pos h2]
    · exact absurd (vin_of h1 h2 (by decide) (Nat.le_refl 8)) h
def v_X0_memberCount_L13 : Nat → vF → Nat → Int32 → Int32
  | 0, F, _, _ => 0
  | n + 1, F, n4, v1 => if 8 ≤ (nI n4) then v1 else if (bz (F (13 + 14 * n4 + 0))) = 0 then nm ((v1 + 0)) (fun x_40 => v_X0_memberCount_L13 n F ((n4 + 1)) (x_40)) else nm ((v1 + 1)) (fun x_40 => v_X0_memberCount_L13 n F ((n4 + 1)) (x_40))
theorem e_X0_memberCount_L13 (S : vS) (g : Nat) : ∀ (n : Nat) (F : vF) (n4 : Nat) (v1 : Int32), n4 + n ≤ 100 → x_X0_memberCount_L13 n (emb S g F) g n4 v1 = v_X0_memberCount_L13 n F n4 v1 := by
  intro n
  induction n with
  | zero => intro F n4 v1 h; rfl
  | succ n ih =>
    intro F n4 v1 h
    rw [x_X0_memberCount_L13.eq_2, v_X0_memberCount_L13.eq_2]
    have ih := fun (F : vF) (v1' : Int32) => ih F (n4 + 1) v1' (by omega)
    by_cases c : 8 ≤ nI n4
    · rw [if_pos c, if_pos c]
      all_goals (try simp only [nm_eq, nmp_eq, fmW_eq, apply_ite (emb S g), apply_ite (mpe S g), mpe_mk, mpe_1, mpe_2, ])
    · rw [if_neg c, if_neg c]
      have hi : n4 < 8 := nI_of_nle (by decide) c (by omega)
      simp only [nm_eq, nmp_eq, fmW_eq, apply_ite (emb S g), apply_ite (mpe S g), mpe_mk, mpe_1, mpe_2, ebM_1 hi, esM_1 hi, hi, ih]
theorem e_X0_memberCount_L13z (S : vS) (g : Nat) (F : vF) (v1 : Int32) : x_X0_memberCount_L13 9 (emb S g F) g 0 v1 = v_X0_memberCount_L13 9 F 0 v1 := e_X0_memberCount_L13 S g 9 F 0 v1 (by decide)
def v_X0_memberCount (F : vF) : Int32 := v_X0_memberCount_L13 (9) F (0) (0)
theorem e_X0_memberCount (S : vS) (g : Nat) (F : vF)  : x_X0_memberCount (emb S g F) g  = v_X0_memberCount F  := by
  unfold x_X0_memberCount v_X0_memberCount
  simp only [nm_eq, nmp_eq, fmW_eq, apply_ite (emb S g), apply_ite (mpe S g), mpe_mk, mpe_1, mpe_2, e_X0_memberCount_L13z]
def v_X0_awayMembers_L13 : Nat → vF → Nat → Int32 → Int32
  | 0, F, _, _ => 0
  | n + 1, F, n4, v1 => if 8 ≤ (nI n4) then v1 else if (bz (F (13 + 14 * n4 + 0))) = 0 then nm ((v1 + 0)) (fun x_48 => v_X0_awayMembers_L13 n F ((n4 + 1)) (x_48)) else if (bz (F (13 + 14 * n4 + 7))) = 0 then nm ((v1 + 0)) (fun x_48 => v_X0_awayMembers_L13 n F ((n4 + 1)) (x_48)) else nm ((v1 + 1)) (fun x_48 => v_X0_awayMembers_L13 n F ((n4 + 1)) (x_48))
theorem e_X0_awayMembers_L13 (S : vS) (g : Nat) : ∀ (n : Nat) (F : vF) (n4 : Nat) (v1 : Int32), n4 + n ≤ 100 → x_X0_awayMembers_L13 n (emb S g F) g n4 v1 = v_X0_awayMembers_L13 n F n4 v1 := by
  intro n
  induction n with
  | zero => intro F n4 v1 h; rfl
  | succ n ih =>
    intro F n4 v1 h
    rw [x_X0_awayMembers_L13.eq_2, v_X0_awayMembers_L13.eq_2]
    have ih := fun (F : vF) (v1' : Int32) => ih F (n4 + 1) v1' (by omega)
    by_cases c : 8 ≤ nI n4
    · rw [if_pos c, if_pos c]
      all_goals (try simp only [nm_eq, nmp_eq, fmW_eq, apply_ite (emb S g), apply_ite (mpe S g), mpe_mk, mpe_1, mpe_2, ])
    · rw [if_neg c, if_neg c]
      have hi : n4 < 8 := nI_of_nle (by decide) c (by omega)
      simp only [nm_eq, nmp_eq, fmW_eq, apply_ite (emb S g), apply_ite (mpe S g), mpe_mk, mpe_1, mpe_2, ebM_1 hi, esM_1 hi, ebM_8 hi, esM_8 hi, hi, ih]
theorem e_X0_awayMembers_L13z (S : vS) (g : Nat) (F : vF) (v1 : Int32) : x_X0_awayMembers_L13 9 (emb S g F) g 0 v1 = v_X0_awayMembers_L13 9 F 0 v1 := e_X0_awayMembers_L13 S g 9 F 0 v1 (by decide)
def v_X0_awayMembers (F : vF) : Int32 := v_X0_awayMembers_L13 (9) F (0) (0)
theorem e_X0_awayMembers (S : vS) (g : Nat) (F : vF)  : x_X0_awayMembers (emb S g F) g  = v_X0_awayMembers F  := by
  unfold x_X0_awayMembers v_X0_awayMembers
  simp only [nm_eq, nmp_eq, fmW_eq, apply_ite (emb S g), apply_ite (mpe S g), mpe_mk, mpe_1, mpe_2, e_X0_awayMembers_L13z]
def v_X0_admit (F : vF) : (Int32 × vF) := nm ((F 3)) (fun x_4 => if x_4 < 0 then ((-1), F) else if x_4 < 8 then nm (v_X0_memberCount F) (fun r_18 => if r_18 = 0 then nm (upd F 2 x_4) (fun F_26 => nm (upd F_26 (13 + 14 * x_4.toNatClampNeg + 0) 1) (fun F_36 => nm (upd F_36 (13 + 14 * x_4.toNatClampNeg + 1) 200) (fun F_48 => nm (upd F_48 3 ((F_48 3) + 1)) (fun F_58 => (x_4, F_58))))) else nm (upd F (13 + 14 * x_4.toNatClampNeg + 0) 1) (fun F_36 => nm (upd F_36 (13 + 14 * x_4.toNatClampNeg + 1) 200) (fun F_48 => nm (upd F_48 3 ((F_48 3) + 1)) (fun F_58 => (x_4, F_58))))) else ((-1), F))
theorem e_X0_admit (S : vS) (g : Nat) (F : vF) : x_X0_admit (emb S g F) g = mpe S g (v_X0_admit F) := by
  unfold x_X0_admit v_X0_admit
  simp only [nm_eq, ebG_2]
  by_cases h1 : F 3 < 0
  · simp only [if_pos h1, mpe_mk]
  · by_cases h2 : F 3 < 8
    · have hk : (F 3).toNatClampNeg < 8 := vin_lt (vin_of h1 (nle_of_lt h2) (by decide) (Nat.le_refl 8))
      simp only [nm_eq, nmp_eq, mpe_mk, ebG_5, esG_5, ebG_2, esG_2, ebM_1 hk, esM_1 hk, ebM_2 hk, esM_2 hk, e_X0_memberCount, apply_ite (mpe S g), h1, h2, if_true, if_false]
    · simp only [if_neg h1, if_neg h2, mpe_mk]
def v_X0_owedTo_L14 : Nat → vF → Nat → Nat → Int32 → Int32
  | 0, F, _, _, _ => 0
  | n + 1, F, k, n5, v2 => if 8 ≤ (nI n5) then v2 else nm ((v2 + (F (125 + 8 * n5 + k)))) (fun x_39 => v_X0_owedTo_L14 n F k ((n5 + 1)) (x_39))
theorem e_X0_owedTo_L14 (S : vS) (g : Nat) : ∀ (n : Nat) (F : vF) (k : Nat) (n5 : Nat) (v2 : Int32), k < 8 → n5 + n ≤ 100 → x_X0_owedTo_L14 n (emb S g F) g k n5 v2 = v_X0_owedTo_L14 n F k n5 v2 := by
  intro n
  induction n with
  | zero => intro F k n5 v2 hk h; rfl
  | succ n ih =>
    intro F k n5 v2 hk h
    rw [x_X0_owedTo_L14.eq_2, v_X0_owedTo_L14.eq_2]
    have ih := fun (F : vF) (v2' : Int32) => ih F k (n5 + 1) v2' hk (by omega)
    by_cases c : 8 ≤ nI n5
    · rw [if_pos c, if_pos c]
      all_goals (try simp only [nm_eq, nmp_eq, fmW_eq, apply_ite (emb S g), apply_ite (mpe S g), mpe_mk, mpe_1, mpe_2, ])
    · rw [if_neg c, if_neg c]
      have hi : n5 < 8 := nI_of_nle (by decide) c (by omega)
      simp only [nm_eq, nmp_eq, fmW_eq, apply_ite (emb S g), apply_ite (mpe S g), mpe_mk, mpe_1, mpe_2, ebD hk hi, esD hk hi, ebD hi hk, hi, hk, ih]
theorem e_X0_owedTo_L14z (S : vS) (g : Nat) (F : vF) (k : Nat) (v2 : Int32) (hk : k < 8) : x_X0_owedTo_L14 9 (emb S g F) g k 0 v2 = v_X0_owedTo_L14 9 F k 0 v2 := e_X0_owedTo_L14 S g 9 F k 0 v2 hk (by decide)
def v_X0_owedTo (F : vF) (k : Nat) : Int32 := v_X0_owedTo_L14 (9) F k (0) (0)
theorem e_X0_owedTo (S : vS) (g : Nat) (F : vF) (k : Nat)  (hk : k < 8) : x_X0_owedTo (emb S g F) g k  = v_X0_owedTo F k  := by
  unfold x_X0_owedTo v_X0_owedTo
  simp only [nm_eq, nmp_eq, fmW_eq, apply_ite (emb S g), apply_ite (mpe S g), mpe_mk, mpe_1, mpe_2, e_X0_owedTo_L14z, hk]
def v_X0_mayGo (F : vF) (k : Nat) : Int32 := nm (v_X2_hasLoan F k) (fun r_1 => if r_1 = 0 then nm (v_X2_hasDebts F k) (fun r_8 => if r_8 = 0 then nm (v_X0_owedTo F k) (fun r_16 => if r_16 = 0 then if (F 8) < (F (13 + 14 * k + 12)) then 0 else 1 else 0) else 0) else 0)
theorem e_X0_mayGo (S : vS) (g : Nat) (F : vF) (k : Nat)  (hk : k < 8) : x_X0_mayGo (emb S g F) g k  = v_X0_mayGo F k  := by
  unfold x_X0_mayGo v_X0_mayGo
  simp only [nm_eq, nmp_eq, fmW_eq, apply_ite (emb S g), apply_ite (mpe S g), mpe_mk, mpe_1, mpe_2, ebG_6, esG_6, ebM_13 hk, esM_13 hk, e_X0_owedTo, e_X2_hasDebts, e_X2_hasLoan, hk]
def v_X0_nextChair_L2 : Nat → vF → Nat → Int32
  | 0, F, _ => 0
  | n + 1, F, n1 => if 8 < (nI n1) then (-1) else nm (fmW ((F 2) + (nI n1)) 8) (fun r_17 => oc (v_X0_find F r_17) (v_X0_nextChair_L2 n F ((n1 + 1))) (fun k_20 => nm (v_X2_hasDebts F k_20) (fun r_29 => if r_29 = 0 then (nI k_20) else v_X0_nextChair_L2 n F ((n1 + 1)))))
theorem e_X0_nextChair_L2 (S : vS) (g : Nat) (F : vF) : ∀ (n : Nat) (n1 : Nat), x_X0_nextChair_L2 n (emb S g F) g n1 = v_X0_nextChair_L2 n F n1 := by
  intro n
  induction n with
  | zero => intro n1; rfl
  | succ n ih =>
    intro n1
    rw [x_X0_nextChair_L2.eq_2, v_X0_nextChair_L2.eq_2]
    by_cases c : 8 < nI n1
    · rw [if_pos c, if_pos c]
    · rw [if_neg c, if_neg c]
      simp only [nm_eq, fmW_eq, ebG_5, e_X0_find, ih]
      generalize hf : v_X0_find F (fmW (F 2 + nI n1) 8) = o
      have hk : ∀ k, o = some k → k < 8 := fun k e => (find_some (hf.trans e)).1
      clear hf
      cases o with
      | none => exact (oc_n _ _).trans (oc_n _ _).symm
      | some k =>
        have hk := hk k rfl
        rw [oc_s, oc_s, e_X2_hasDebts _ _ _ _ hk]
def v_X0_nextChair (F : vF) : Int32 := v_X0_nextChair_L2 (9) F (1)
theorem e_X0_nextChair (S : vS) (g : Nat) (F : vF)  : x_X0_nextChair (emb S g F) g  = v_X0_nextChair F  := by
  unfold x_X0_nextChair v_X0_nextChair
  simp only [nm_eq, nmp_eq, fmW_eq, apply_ite (emb S g), apply_ite (mpe S g), mpe_mk, mpe_1, mpe_2, e_X0_nextChair_L2]
def v_X0_dismiss (F : vF) (k : Nat) : (Int32 × vF) := nm (upd F 8 ((F 8) - (F (13 + 14 * k + 12)))) (fun F_10 => nm (upd F_10 (13 + 14 * k + 0) 0) (fun F_15 => if (F_15 2) = (nI k) then nm (v_X0_nextChair F_15) (fun r_31 => nm (upd F_15 2 r_31) (fun F_34 => ((F_34 (13 + 14 * k + 12)), F_34))) else ((F_15 (13 + 14 * k + 12)), F_15)))
theorem e_X0_dismiss (S : vS) (g : Nat) (F : vF) (k : Nat)  (hk : k < 8) : x_X0_dismiss (emb S g F) g k  = mpe S g (v_X0_dismiss F k ) := by
  unfold x_X0_dismiss v_X0_dismiss
  simp only [nm_eq, nmp_eq, fmW_eq, apply_ite (emb S g), apply_ite (mpe S g), mpe_mk, mpe_1, mpe_2, ebG_5, esG_5, ebG_6, esG_6, ebM_1 hk, esM_1 hk, ebM_13 hk, esM_13 hk, e_X0_nextChair, hk]
def v_X0_grantLoan (F : vF) (k : Nat) (p2 : Int32) (p3 : Int32) : vF := nm (v_X2_borrow F k p2 p3 ((p2 * (F 4)) / 1000)) (fun F_15 => nm (upd F_15 9 ((F_15 9) + p2)) (fun F_25 => F_25))
theorem e_X0_grantLoan (S : vS) (g : Nat) (F : vF) (k : Nat) (p2 : Int32) (p3 : Int32) (hk : k < 8) : x_X0_grantLoan (emb S g F) g k p2 p3 = emb S g (v_X0_grantLoan F k p2 p3) := by
  unfold x_X0_grantLoan v_X0_grantLoan
  simp only [nm_eq, nmp_eq, fmW_eq, apply_ite (emb S g), apply_ite (mpe S g), mpe_mk, mpe_1, mpe_2, ebG_7, esG_7, ebS_0, e_X2_borrow, hk]
def v_X0_takePayment_L77 : Nat → vF → Nat → Int32 → Nat → Int32 → (Int32 × vF)
  | 0, F, _, _, _, _ => (0, F)
  | n + 1, F, k, p2, n6, v4 => if 8 ≤ (nI n6) then ((p2 - v4), F) else nm ((if (F (125 + 8 * k + n6)) < v4 then (F (125 + 8 * k + n6)) else v4)) (fun x_96 => nm (upd F (125 + 8 * k + n6) ((F (125 + 8 * k + n6)) - x_96)) (fun F_109 => nm ((v4 - x_96)) (fun x_115 => v_X0_takePayment_L77 n F_109 k p2 ((n6 + 1)) (x_115))))
theorem e_X0_takePayment_L77 (S : vS) (g : Nat) : ∀ (n : Nat) (F : vF) (k : Nat) (p2 : Int32) (n6 : Nat) (v4 : Int32), k < 8 → n6 + n ≤ 100 → x_X0_takePayment_L77 n (emb S g F) g k p2 n6 v4 = mpe S g (v_X0_takePayment_L77 n F k p2 n6 v4) := by
  intro n
  induction n with
  | zero => intro F k p2 n6 v4 hk h; rfl
  | succ n ih =>
    intro F k p2 n6 v4 hk h
    rw [x_X0_takePayment_L77.eq_2, v_X0_takePayment_L77.eq_2]
    have ih := fun (F : vF) (p2' : Int32) (v4' : Int32) => ih F k p2' (n6 + 1) v4' hk (by omega)
    by_cases c : 8 ≤ nI n6
    · rw [if_pos c, if_pos c]
      all_goals (try simp only [nm_eq, nmp_eq, fmW_eq, apply_ite (emb S g), apply_ite (mpe S g), mpe_mk, mpe_1, mpe_2, ])
    · rw [if_neg c, if_neg c]
      have hi : n6 < 8 := nI_of_nle (by decide) c (by omega)
      simp only [nm_eq, nmp_eq, fmW_eq, apply_ite (emb S g), apply_ite (mpe S g), mpe_mk, mpe_1, mpe_2, ebD hk hi, esD hk hi, ebD hi hk, hi, hk, ih]
theorem e_X0_takePayment_L77z (S : vS) (g : Nat) (F : vF) (k : Nat) (p2 : Int32) (v4 : Int32) (hk : k < 8) : x_X0_takePayment_L77 9 (emb S g F) g k p2 0 v4 = mpe S g (v_X0_takePayment_L77 9 F k p2 0 v4) := e_X0_takePayment_L77 S g 9 F k p2 0 v4 hk (by decide)
def v_X0_takePayment (F : vF) (k : Nat) (p2 : Int32) : (Int32 × vF) := nm ((if (F (13 + 14 * k + 10)) < p2 then (F (13 + 14 * k + 10)) else p2)) (fun x_8 => nm (upd F (13 + 14 * k + 10) ((F (13 + 14 * k + 10)) - x_8)) (fun F_16 => nm (upd F_16 11 ((F_16 11) + x_8)) (fun F_26 => nm ((p2 - x_8)) (fun x_32 => nm ((if (F_26 (13 + 14 * k + 11)) < x_32 then (F_26 (13 + 14 * k + 11)) else x_32)) (fun x_43 => nm (upd F_26 (13 + 14 * k + 11) ((F_26 (13 + 14 * k + 11)) - x_43)) (fun F_53 => nm (upd F_53 8 ((F_53 8) + x_43)) (fun F_64 => nm ((x_32 - x_43)) (fun x_72 => v_X0_takePayment_L77 (9) F_64 k p2 (0) (x_72)))))))))
theorem e_X0_takePayment (S : vS) (g : Nat) (F : vF) (k : Nat) (p2 : Int32) (hk : k < 8) : x_X0_takePayment (emb S g F) g k p2 = mpe S g (v_X0_takePayment F k p2) := by
  unfold x_X0_takePayment v_X0_takePayment
  simp only [nm_eq, nmp_eq, fmW_eq, apply_ite (emb S g), apply_ite (mpe S g), mpe_mk, mpe_1, mpe_2, ebG_6, esG_6, ebG_9, esG_9, ebM_11 hk, esM_11 hk, ebM_12 hk, esM_12 hk, e_X0_takePayment_L77z, hk]
def v_X0_mayHelp (F : vF) (k : Nat) (p2 : Int32) : Int32 := if (F 2) = (-1) then 0 else if (F 2) = (nI k) then 0 else if (F (13 + 14 * k + 11)) = 0 then if (((F 8) * (F 7)) / 100) < p2 then 0 else 1 else 0
theorem e_X0_mayHelp (S : vS) (g : Nat) (F : vF) (k : Nat) (p2 : Int32) (hk : k < 8) : x_X0_mayHelp (emb S g F) g k p2 = v_X0_mayHelp F k p2 := by
  unfold x_X0_mayHelp v_X0_mayHelp
  simp only [nm_eq, nmp_eq, fmW_eq, apply_ite (emb S g), apply_ite (mpe S g), mpe_mk, mpe_1, mpe_2, ebG_5, esG_5, ebG_6, esG_6, ebS_3, ebM_12 hk, esM_12 hk, hk]
def v_X0_grantHelp (F : vF) (k : Nat) (p2 : Int32) : vF := nm (upd F 8 ((F 8) - p2)) (fun F_7 => nm (upd F_7 (13 + 14 * k + 11) ((F_7 (13 + 14 * k + 11)) + p2)) (fun F_17 => F_17))
theorem e_X0_grantHelp (S : vS) (g : Nat) (F : vF) (k : Nat) (p2 : Int32) (hk : k < 8) : x_X0_grantHelp (emb S g F) g k p2 = emb S g (v_X0_grantHelp F k p2) := by
  unfold x_X0_grantHelp v_X0_grantHelp
  simp only [nm_eq, nmp_eq, fmW_eq, apply_ite (emb S g), apply_ite (mpe S g), mpe_mk, mpe_1, mpe_2, ebG_6, esG_6, ebM_12 hk, esM_12 hk, hk]
def v_X0_bankDebts_L13 : Nat → vF → Nat → Int32 → Int32
  | 0, F, _, _ => 0
  | n + 1, F, n4, v1 => if 8 ≤ (nI n4) then v1 else nm ((v1 + (F (13 + 14 * n4 + 10)))) (fun x_32 => v_X0_bankDebts_L13 n F ((n4 + 1)) (x_32))
theorem e_X0_bankDebts_L13 (S : vS) (g : Nat) : ∀ (n : Nat) (F : vF) (n4 : Nat) (v1 : Int32), n4 + n ≤ 100 → x_X0_bankDebts_L13 n (emb S g F) g n4 v1 = v_X0_bankDebts_L13 n F n4 v1 := by
  intro n
  induction n with
  | zero => intro F n4 v1 h; rfl
  | succ n ih =>
    intro F n4 v1 h
    rw [x_X0_bankDebts_L13.eq_2, v_X0_bankDebts_L13.eq_2]
    have ih := fun (F : vF) (v1' : Int32) => ih F (n4 + 1) v1' (by omega)
    by_cases c : 8 ≤ nI n4
    · rw [if_pos c, if_pos c]
      all_goals (try simp only [nm_eq, nmp_eq, fmW_eq, apply_ite (emb S g), apply_ite (mpe S g), mpe_mk, mpe_1, mpe_2, ])
    · rw [if_neg c, if_neg c]
      have hi : n4 < 8 := nI_of_nle (by decide) c (by omega)
      simp only [nm_eq, nmp_eq, fmW_eq, apply_ite (emb S g), apply_ite (mpe S g), mpe_mk, mpe_1, mpe_2, ebM_11 hi, esM_11 hi, hi, ih]
theorem e_X0_bankDebts_L13z (S : vS) (g : Nat) (F : vF) (v1 : Int32) : x_X0_bankDebts_L13 9 (emb S g F) g 0 v1 = v_X0_bankDebts_L13 9 F 0 v1 := e_X0_bankDebts_L13 S g 9 F 0 v1 (by decide)
def v_X0_bankDebts (F : vF) : Int32 := v_X0_bankDebts_L13 (9) F (0) (0)
theorem e_X0_bankDebts (S : vS) (g : Nat) (F : vF)  : x_X0_bankDebts (emb S g F) g  = v_X0_bankDebts F  := by
  unfold x_X0_bankDebts v_X0_bankDebts
  simp only [nm_eq, nmp_eq, fmW_eq, apply_ite (emb S g), apply_ite (mpe S g), mpe_mk, mpe_1, mpe_2, e_X0_bankDebts_L13z]
def v_X0_mostLoanWeeks_L13 : Nat → vF → Nat → Int32 → Int32
  | 0, F, _, _ => 0
  | n + 1, F, n4, v1 => if 8 ≤ (nI n4) then v1 else nm ((if v1 < (F (13 + 14 * n4 + 4)) then (F (13 + 14 * n4 + 4)) else v1)) (fun x_34 => v_X0_mostLoanWeeks_L13 n F ((n4 + 1)) (x_34))
theorem e_X0_mostLoanWeeks_L13 (S : vS) (g : Nat) : ∀ (n : Nat) (F : vF) (n4 : Nat) (v1 : Int32), n4 + n ≤ 100 → x_X0_mostLoanWeeks_L13 n (emb S g F) g n4 v1 = v_X0_mostLoanWeeks_L13 n F n4 v1 := by
  intro n
  induction n with
  | zero => intro F n4 v1 h; rfl
  | succ n ih =>
    intro F n4 v1 h
    rw [x_X0_mostLoanWeeks_L13.eq_2, v_X0_mostLoanWeeks_L13.eq_2]
    have ih := fun (F : vF) (v1' : Int32) => ih F (n4 + 1) v1' (by omega)
    by_cases c : 8 ≤ nI n4
    · rw [if_pos c, if_pos c]
      all_goals (try simp only [nm_eq, nmp_eq, fmW_eq, apply_ite (emb S g), apply_ite (mpe S g), mpe_mk, mpe_1, mpe_2, ])
    · rw [if_neg c, if_neg c]
      have hi : n4 < 8 := nI_of_nle (by decide) c (by omega)
      simp only [nm_eq, nmp_eq, fmW_eq, apply_ite (emb S g), apply_ite (mpe S g), mpe_mk, mpe_1, mpe_2, ebM_7 hi, esM_7 hi, hi, ih]
theorem e_X0_mostLoanWeeks_L13z (S : vS) (g : Nat) (F : vF) (v1 : Int32) : x_X0_mostLoanWeeks_L13 9 (emb S g F) g 0 v1 = v_X0_mostLoanWeeks_L13 9 F 0 v1 := e_X0_mostLoanWeeks_L13 S g 9 F 0 v1 (by decide)
def v_X0_mostLoanWeeks (F : vF) : Int32 := v_X0_mostLoanWeeks_L13 (9) F (0) (0)
theorem e_X0_mostLoanWeeks (S : vS) (g : Nat) (F : vF)  : x_X0_mostLoanWeeks (emb S g F) g  = v_X0_mostLoanWeeks F  := by
  unfold x_X0_mostLoanWeeks v_X0_mostLoanWeeks
  simp only [nm_eq, nmp_eq, fmW_eq, apply_ite (emb S g), apply_ite (mpe S g), mpe_mk, mpe_1, mpe_2, e_X0_mostLoanWeeks_L13z]
def v_X0_mayBeginCycle (F : vF) : Int32 := nm (v_X0_mostLoanWeeks F) (fun r_1 => if r_1 = 0 then nm (v_X0_bankDebts F) (fun r_8 => if r_8 = 0 then 1 else 0) else 0)
theorem e_X0_mayBeginCycle (S : vS) (g : Nat) (F : vF)  : x_X0_mayBeginCycle (emb S g F) g  = v_X0_mayBeginCycle F  := by
  unfold x_X0_mayBeginCycle v_X0_mayBeginCycle
  simp only [nm_eq, nmp_eq, fmW_eq, apply_ite (emb S g), apply_ite (mpe S g), mpe_mk, mpe_1, mpe_2, e_X0_bankDebts, e_X0_mostLoanWeeks]
def v_X0_beginCycle_L10 : Nat → vF → Nat → vF
  | 0, F, _ => F
  | n + 1, F, n3 => if 8 ≤ (nI n3) then nm (upd F 1 ((F 1) + 1)) (fun F_49 => F_49) else nm (v_X2_nextLimit F n3) (fun r_24 => nm (upd F (13 + 14 * n3 + 1) r_24) (fun F_27 => nm (upd F_27 (13 + 14 * n3 + 8) 0) (fun F_33 => v_X0_beginCycle_L10 n F_33 ((n3 + 1)))))
theorem e_X0_beginCycle_L10 (S : vS) (g : Nat) : ∀ (n : Nat) (F : vF) (n3 : Nat), n3 + n ≤ 100 → x_X0_beginCycle_L10 n (emb S g F) g n3 = emb S g (v_X0_beginCycle_L10 n F n3) := by
  intro n
  induction n with
  | zero => intro F n3 h; rfl
  | succ n ih =>
    intro F n3 h
    rw [x_X0_beginCycle_L10.eq_2, v_X0_beginCycle_L10.eq_2]
    have ih := fun (F : vF)  => ih F (n3 + 1) (by omega)
    by_cases c : 8 ≤ nI n3
    · rw [if_pos c, if_pos c]
      all_goals (try simp only [nm_eq, nmp_eq, fmW_eq, apply_ite (emb S g), apply_ite (mpe S g), mpe_mk, mpe_1, mpe_2, ebG_4, esG_4, e_X2_nextLimit])
    · rw [if_neg c, if_neg c]
      have hi : n3 < 8 := nI_of_nle (by decide) c (by omega)
      simp only [nm_eq, nmp_eq, fmW_eq, apply_ite (emb S g), apply_ite (mpe S g), mpe_mk, mpe_1, mpe_2, ebG_4, esG_4, ebM_2 hi, esM_2 hi, ebM_9 hi, esM_9 hi, e_X2_nextLimit, hi, ih]
theorem e_X0_beginCycle_L10z (S : vS) (g : Nat) (F : vF)  : x_X0_beginCycle_L10 9 (emb S g F) g 0 = emb S g (v_X0_beginCycle_L10 9 F 0) := e_X0_beginCycle_L10 S g 9 F 0 (by decide)
def v_X0_beginCycle (F : vF) : vF := v_X0_beginCycle_L10 (9) F (0)
theorem e_X0_beginCycle (S : vS) (g : Nat) (F : vF)  : x_X0_beginCycle (emb S g F) g  = emb S g (v_X0_beginCycle F ) := by
  unfold x_X0_beginCycle v_X0_beginCycle
  simp only [nm_eq, nmp_eq, fmW_eq, apply_ite (emb S g), apply_ite (mpe S g), mpe_mk, mpe_1, mpe_2, e_X0_beginCycle_L10z]
def v_X0_mayEndWeek (F : vF) : Int32 := if 999 ≤ (F 0) then 0 else 1
theorem e_X0_mayEndWeek (S : vS) (g : Nat) (F : vF)  : x_X0_mayEndWeek (emb S g F) g  = v_X0_mayEndWeek F  := by
  unfold x_X0_mayEndWeek v_X0_mayEndWeek
  simp only [nm_eq, nmp_eq, fmW_eq, apply_ite (emb S g), apply_ite (mpe S g), mpe_mk, mpe_1, mpe_2, ebG_3, esG_3]
def v_X0_letBeAway_L2 : Nat → vF → Int32 → Nat → vF
  | 0, F, _, _ => F
  | n + 1, F, p1, n2 => if 8 ≤ (nI n2) then F else if ((p1 >>> ((nI n2) &&& 31)) &&& 1) = 1 then nm (upd F (13 + 14 * n2 + 7) 1) (fun F_28 => v_X0_letBeAway_L2 n F_28 p1 ((n2 + 1))) else nm (upd F (13 + 14 * n2 + 7) 0) (fun F_28 => v_X0_letBeAway_L2 n F_28 p1 ((n2 + 1)))
theorem e_X0_letBeAway_L2 (S : vS) (g : Nat) : ∀ (n : Nat) (F : vF) (p1 : Int32) (n2 : Nat), n2 + n ≤ 100 → x_X0_letBeAway_L2 n (emb S g F) g p1 n2 = emb S g (v_X0_letBeAway_L2 n F p1 n2) := by
  intro n
  induction n with
  | zero => intro F p1 n2 h; rfl
  | succ n ih =>
    intro F p1 n2 h
    rw [x_X0_letBeAway_L2.eq_2, v_X0_letBeAway_L2.eq_2]
    have ih := fun (F : vF) (p1' : Int32) => ih F p1' (n2 + 1) (by omega)
    by_cases c : 8 ≤ nI n2
    · rw [if_pos c, if_pos c]
      all_goals (try simp only [nm_eq, nmp_eq, fmW_eq, apply_ite (emb S g), apply_ite (mpe S g), mpe_mk, mpe_1, mpe_2, ])
    · rw [if_neg c, if_neg c]
      have hi : n2 < 8 := nI_of_nle (by decide) c (by omega)
      simp only [nm_eq, nmp_eq, fmW_eq, apply_ite (emb S g), apply_ite (mpe S g), mpe_mk, mpe_1, mpe_2, ebM_8 hi, esM_8 hi, hi, ih]
theorem e_X0_letBeAway_L2z (S : vS) (g : Nat) (F : vF) (p1 : Int32) : x_X0_letBeAway_L2 9 (emb S g F) g p1 0 = emb S g (v_X0_letBeAway_L2 9 F p1 0) := e_X0_letBeAway_L2 S g 9 F p1 0 (by decide)
def v_X0_letBeAway (F : vF) (p1 : Int32) : vF := v_X0_letBeAway_L2 (9) F p1 (0)
theorem e_X0_letBeAway (S : vS) (g : Nat) (F : vF) (p1 : Int32) : x_X0_letBeAway (emb S g F) g p1 = emb S g (v_X0_letBeAway F p1) := by
  unfold x_X0_letBeAway v_X0_letBeAway
  simp only [nm_eq, nmp_eq, fmW_eq, apply_ite (emb S g), apply_ite (mpe S g), mpe_mk, mpe_1, mpe_2, e_X0_letBeAway_L2z]
def v_X0_saveMoney_L10 : Nat → vF → Nat → vF
  | 0, F, _ => F
  | n + 1, F, n3 => if 8 ≤ (nI n3) then F else if (bz (F (13 + 14 * n3 + 0))) = 0 then v_X0_saveMoney_L10 n F ((n3 + 1)) else if (bz (F (13 + 14 * n3 + 7))) = 0 then nm (upd F (13 + 14 * n3 + 12) ((F (13 + 14 * n3 + 12)) + (F 5))) (fun F_49 => nm (upd F_49 8 ((F_49 8) + (F_49 5))) (fun F_64 => v_X0_saveMoney_L10 n F_64 ((n3 + 1)))) else v_X0_saveMoney_L10 n F ((n3 + 1))
theorem e_X0_saveMoney_L10 (S : vS) (g : Nat) : ∀ (n : Nat) (F : vF) (n3 : Nat), n3 + n ≤ 100 → x_X0_saveMoney_L10 n (emb S g F) g n3 = emb S g (v_X0_saveMoney_L10 n F n3) := by
  intro n
  induction n with
  | zero => intro F n3 h; rfl
  | succ n ih =>
    intro F n3 h
    rw [x_X0_saveMoney_L10.eq_2, v_X0_saveMoney_L10.eq_2]
    have ih := fun (F : vF)  => ih F (n3 + 1) (by omega)
    by_cases c : 8 ≤ nI n3
    · rw [if_pos c, if_pos c]
      all_goals (try simp only [nm_eq, nmp_eq, fmW_eq, apply_ite (emb S g), apply_ite (mpe S g), mpe_mk, mpe_1, mpe_2, ebG_6, esG_6, ebS_1])
    · rw [if_neg c, if_neg c]
      have hi : n3 < 8 := nI_of_nle (by decide) c (by omega)
      simp only [nm_eq, nmp_eq, fmW_eq, apply_ite (emb S g), apply_ite (mpe S g), mpe_mk, mpe_1, mpe_2, ebG_6, esG_6, ebS_1, ebM_1 hi, esM_1 hi, ebM_8 hi, esM_8 hi, ebM_13 hi, esM_13 hi, hi, ih]
theorem e_X0_saveMoney_L10z (S : vS) (g : Nat) (F : vF)  : x_X0_saveMoney_L10 9 (emb S g F) g 0 = emb S g (v_X0_saveMoney_L10 9 F 0) := e_X0_saveMoney_L10 S g 9 F 0 (by decide)
def v_X0_saveMoney (F : vF) : vF := v_X0_saveMoney_L10 (9) F (0)
theorem e_X0_saveMoney (S : vS) (g : Nat) (F : vF)  : x_X0_saveMoney (emb S g F) g  = emb S g (v_X0_saveMoney F ) := by
  unfold x_X0_saveMoney v_X0_saveMoney
  simp only [nm_eq, nmp_eq, fmW_eq, apply_ite (emb S g), apply_ite (mpe S g), mpe_mk, mpe_1, mpe_2, e_X0_saveMoney_L10z]
def v_X0_shareRest_L29 : Nat → vF → Nat → Int32 → Int32 → Nat → Int32 → Int32 → vF
  | 0, F, _, _, _, _, _, _ => F
  | n + 1, F, k, p2, p3, n8, v5, v4 => if 8 ≤ (nI n8) then nm (upd F 11 ((F 11) + p2)) (fun F_118 => F_118) else if (bz (F (13 + 14 * n8 + 0))) = 0 then v_X0_shareRest_L29 n F k p2 p3 ((n8 + 1)) (v5) (v4) else if (bz (F (13 + 14 * n8 + 7))) = 0 then if v5 ≤ 0 then nm (v5 + (-1)) (fun x_75 => nm (upd F (125 + 8 * k + n8) ((F (125 + 8 * k + n8)) + v4)) (fun F_92 => nm (upd F_92 (13 + 14 * n8 + 13) ((F_92 (13 + 14 * n8 + 13)) + v4)) (fun F_102 => v_X0_shareRest_L29 n F_102 k p2 p3 ((n8 + 1)) (x_75) (v4)))) else nm ((v4 + 1)) (fun x_73 => nm (v5 + (-1)) (fun x_75 => nm (upd F (125 + 8 * k + n8) ((F (125 + 8 * k + n8)) + x_73)) (fun F_92 => nm (upd F_92 (13 + 14 * n8 + 13) ((F_92 (13 + 14 * n8 + 13)) + x_73)) (fun F_102 => v_X0_shareRest_L29 n F_102 k p2 p3 ((n8 + 1)) (x_75) (v4))))) else v_X0_shareRest_L29 n F k p2 p3 ((n8 + 1)) (v5) (v4)
theorem e_X0_shareRest_L29 (S : vS) (g : Nat) : ∀ (n : Nat) (F : vF) (k : Nat) (p2 : Int32) (p3 : Int32) (n8 : Nat) (v5 : Int32) (v4 : Int32), k < 8 → n8 + n ≤ 100 → x_X0_shareRest_L29 n (emb S g F) g k p2 p3 n8 v5 v4 = emb S g (v_X0_shareRest_L29 n F k p2 p3 n8 v5 v4) := by
  intro n
  induction n with
  | zero => intro F k p2 p3 n8 v5 v4 hk h; rfl
  | succ n ih =>
    intro F k p2 p3 n8 v5 v4 hk h
    rw [x_X0_shareRest_L29.eq_2, v_X0_shareRest_L29.eq_2]
    have ih := fun (F : vF) (p2' : Int32) (p3' : Int32) (v5' : Int32) (v4' : Int32) => ih F k p2' p3' (n8 + 1) v5' v4' hk (by omega)
    by_cases c : 8 ≤ nI n8
    · rw [if_pos c, if_pos c]
      all_goals (try simp only [nm_eq, nmp_eq, fmW_eq, apply_ite (emb S g), apply_ite (mpe S g), mpe_mk, mpe_1, mpe_2, ebG_9, esG_9, ebM_1 hk, esM_1 hk, ebM_8 hk, esM_8 hk, ebM_14 hk, esM_14 hk])
    · rw [if_neg c, if_neg c]
      have hi : n8 < 8 := nI_of_nle (by decide) c (by omega)
      simp only [nm_eq, nmp_eq, fmW_eq, apply_ite (emb S g), apply_ite (mpe S g), mpe_mk, mpe_1, mpe_2, ebG_9, esG_9, ebM_1 hk, esM_1 hk, ebM_8 hk, esM_8 hk, ebM_14 hk, esM_14 hk, ebM_1 hi, esM_1 hi, ebM_8 hi, esM_8 hi, ebM_14 hi, esM_14 hi, ebD hk hi, esD hk hi, ebD hi hk, hi, hk, ih]
theorem e_X0_shareRest_L29z (S : vS) (g : Nat) (F : vF) (k : Nat) (p2 : Int32) (p3 : Int32) (v5 : Int32) (v4 : Int32) (hk : k < 8) : x_X0_shareRest_L29 9 (emb S g F) g k p2 p3 0 v5 v4 = emb S g (v_X0_shareRest_L29 9 F k p2 p3 0 v5 v4) := e_X0_shareRest_L29 S g 9 F k p2 p3 0 v5 v4 hk (by decide)
def v_X0_shareRest (F : vF) (k : Nat) (p2 : Int32) (p3 : Int32) : vF := if 0 < p3 then nm ((p2 / p3)) (fun x_8 => nm ((p2 - p2 / p3 * p3)) (fun x_13 => v_X0_shareRest_L29 (9) F k p2 p3 (0) (x_13) (x_8))) else F
theorem e_X0_shareRest (S : vS) (g : Nat) (F : vF) (k : Nat) (p2 : Int32) (p3 : Int32) (hk : k < 8) : x_X0_shareRest (emb S g F) g k p2 p3 = emb S g (v_X0_shareRest F k p2 p3) := by
  unfold x_X0_shareRest v_X0_shareRest
  simp only [nm_eq, nmp_eq, fmW_eq, apply_ite (emb S g), apply_ite (mpe S g), mpe_mk, mpe_1, mpe_2, e_X0_shareRest_L29z, hk]
def v_X0_coverMissed (F : vF) (k : Nat) (p2 : Int32) : vF := nm (upd F (13 + 14 * k + 8) ((F (13 + 14 * k + 8)) + 1)) (fun F_7 => nm (upd F_7 (13 + 14 * k + 9) ((F_7 (13 + 14 * k + 9)) + 1)) (fun F_17 => nm (upd F_17 12 ((F_17 12) + 1)) (fun F_27 => nm ((if (F_27 8) < p2 then (F_27 8) else p2)) (fun x_38 => nm (upd F_27 8 ((F_27 8) - x_38)) (fun F_46 => nm (upd F_46 (13 + 14 * k + 11) ((F_46 (13 + 14 * k + 11)) + x_38)) (fun F_56 => nm (upd F_56 11 ((F_56 11) + x_38)) (fun F_66 => nm ((p2 - x_38)) (fun x_72 => nm (v_X0_memberCount F_66) (fun r_75 => nm (v_X0_awayMembers F_66) (fun r_79 => nm ((r_75 - r_79)) (fun x_83 => if x_83 ≤ 0 then nm (upd F_66 (13 + 14 * k + 10) ((F_66 (13 + 14 * k + 10)) + x_72)) (fun F_110 => F_110) else nm (v_X0_shareRest F_66 k x_72 x_83) (fun F_96 => F_96))))))))))))
theorem e_X0_coverMissed (S : vS) (g : Nat) (F : vF) (k : Nat) (p2 : Int32) (hk : k < 8) : x_X0_coverMissed (emb S g F) g k p2 = emb S g (v_X0_coverMissed F k p2) := by
  unfold x_X0_coverMissed v_X0_coverMissed
  simp only [nm_eq, nmp_eq, fmW_eq, apply_ite (emb S g), apply_ite (mpe S g), mpe_mk, mpe_1, mpe_2, ebG_6, esG_6, ebG_9, esG_9, ebG_10, esG_10, ebM_9 hk, esM_9 hk, ebM_10 hk, esM_10 hk, ebM_11 hk, esM_11 hk, ebM_12 hk, esM_12 hk, e_X0_awayMembers, e_X0_memberCount, e_X0_shareRest, hk]
def v_X0_settleDue (F : vF) (k : Nat) : vF := nm (v_X2_due F k) (fun r_1 => nm (upd F 10 ((F 10) + (F (13 + 14 * k + 6)))) (fun F_15 => if (bz (F_15 (13 + 14 * k + 7))) = 0 then nm (upd F_15 11 ((F_15 11) + r_1)) (fun F_41 => nm (v_X2_lessenLoan F_41 k) (fun F_45 => F_45)) else nm (v_X0_coverMissed F_15 k r_1) (fun F_28 => nm (v_X2_lessenLoan F_28 k) (fun F_45 => F_45))))
theorem e_X0_settleDue (S : vS) (g : Nat) (F : vF) (k : Nat)  (hk : k < 8) : x_X0_settleDue (emb S g F) g k  = emb S g (v_X0_settleDue F k ) := by
  unfold x_X0_settleDue v_X0_settleDue
  simp only [nm_eq, nmp_eq, fmW_eq, apply_ite (emb S g), apply_ite (mpe S g), mpe_mk, mpe_1, mpe_2, ebG_8, esG_8, ebG_9, esG_9, ebM_5 hk, esM_5 hk, ebM_8 hk, esM_8 hk, e_X0_coverMissed, e_X2_due, e_X2_lessenLoan, hk]
def v_X0_endWeek_L10 : Nat → vF → Nat → vF
  | 0, F, _ => F
  | n + 1, F, n3 => if 8 ≤ (nI n3) then nm (v_X0_saveMoney F) (fun F_49 => nm (upd F_49 0 ((F_49 0) + 1)) (fun F_59 => if (F_59 6) ≤ 0 then nm (v_X0_letBeAway F_59 0) (fun F_95 => F_95) else if ((F_59 0) - (F_59 0) / (F_59 6) * (F_59 6)) = 0 then nm (v_X0_nextChair F_59) (fun r_87 => nm (upd F_59 2 r_87) (fun F_90 => nm (v_X0_letBeAway F_90 0) (fun F_95 => F_95))) else nm (v_X0_letBeAway F_59 0) (fun F_95 => F_95))) else if (bz (F (13 + 14 * n3 + 0))) = 0 then v_X0_endWeek_L10 n F ((n3 + 1)) else nm (v_X2_hasLoan F n3) (fun r_30 => if r_30 = 0 then v_X0_endWeek_L10 n F ((n3 + 1)) else nm (v_X0_settleDue F n3) (fun F_39 => v_X0_endWeek_L10 n F_39 ((n3 + 1))))
theorem e_X0_endWeek_L10 (S : vS) (g : Nat) : ∀ (n : Nat) (F : vF) (n3 : Nat), n3 + n ≤ 100 → x_X0_endWeek_L10 n (emb S g F) g n3 = emb S g (v_X0_endWeek_L10 n F n3) := by
  intro n
  induction n with
  | zero => intro F n3 h; rfl
  | succ n ih =>
    intro F n3 h
    rw [x_X0_endWeek_L10.eq_2, v_X0_endWeek_L10.eq_2]
    have ih := fun (F : vF)  => ih F (n3 + 1) (by omega)
    by_cases c : 8 ≤ nI n3
    · rw [if_pos c, if_pos c]
      all_goals (try simp only [nm_eq, nmp_eq, fmW_eq, apply_ite (emb S g), apply_ite (mpe S g), mpe_mk, mpe_1, mpe_2, ebG_3, esG_3, ebG_5, esG_5, ebS_2, e_X0_letBeAway, e_X0_nextChair, e_X0_saveMoney, e_X0_settleDue, e_X2_hasLoan])
    · rw [if_neg c, if_neg c]
      have hi : n3 < 8 := nI_of_nle (by decide) c (by omega)
      simp only [nm_eq, nmp_eq, fmW_eq, apply_ite (emb S g), apply_ite (mpe S g), mpe_mk, mpe_1, mpe_2, ebG_3, esG_3, ebG_5, esG_5, ebS_2, ebM_1 hi, esM_1 hi, e_X0_letBeAway, e_X0_nextChair, e_X0_saveMoney, e_X0_settleDue, e_X2_hasLoan, hi, ih]
theorem e_X0_endWeek_L10z (S : vS) (g : Nat) (F : vF)  : x_X0_endWeek_L10 9 (emb S g F) g 0 = emb S g (v_X0_endWeek_L10 9 F 0) := e_X0_endWeek_L10 S g 9 F 0 (by decide)
def v_X0_endWeek (F : vF) : vF := v_X0_endWeek_L10 (9) F (0)
theorem e_X0_endWeek (S : vS) (g : Nat) (F : vF)  : x_X0_endWeek (emb S g F) g  = emb S g (v_X0_endWeek F ) := by
  unfold x_X0_endWeek v_X0_endWeek
  simp only [nm_eq, nmp_eq, fmW_eq, apply_ite (emb S g), apply_ite (mpe S g), mpe_mk, mpe_1, mpe_2, e_X0_endWeek_L10z]
def v_X0_loansLeft_L13 : Nat → vF → Nat → Int32 → Int32
  | 0, F, _, _ => 0
  | n + 1, F, n4, v1 => if 8 ≤ (nI n4) then v1 else nm ((v1 + (F (13 + 14 * n4 + 3)))) (fun x_32 => v_X0_loansLeft_L13 n F ((n4 + 1)) (x_32))
theorem e_X0_loansLeft_L13 (S : vS) (g : Nat) : ∀ (n : Nat) (F : vF) (n4 : Nat) (v1 : Int32), n4 + n ≤ 100 → x_X0_loansLeft_L13 n (emb S g F) g n4 v1 = v_X0_loansLeft_L13 n F n4 v1 := by
  intro n
  induction n with
  | zero => intro F n4 v1 h; rfl
  | succ n ih =>
    intro F n4 v1 h
    rw [x_X0_loansLeft_L13.eq_2, v_X0_loansLeft_L13.eq_2]
    have ih := fun (F : vF) (v1' : Int32) => ih F (n4 + 1) v1' (by omega)
    by_cases c : 8 ≤ nI n4
    · rw [if_pos c, if_pos c]
      all_goals (try simp only [nm_eq, nmp_eq, fmW_eq, apply_ite (emb S g), apply_ite (mpe S g), mpe_mk, mpe_1, mpe_2, ])
    · rw [if_neg c, if_neg c]
      have hi : n4 < 8 := nI_of_nle (by decide) c (by omega)
      simp only [nm_eq, nmp_eq, fmW_eq, apply_ite (emb S g), apply_ite (mpe S g), mpe_mk, mpe_1, mpe_2, ebM_6 hi, esM_6 hi, hi, ih]
theorem e_X0_loansLeft_L13z (S : vS) (g : Nat) (F : vF) (v1 : Int32) : x_X0_loansLeft_L13 9 (emb S g F) g 0 v1 = v_X0_loansLeft_L13 9 F 0 v1 := e_X0_loansLeft_L13 S g 9 F 0 v1 (by decide)
def v_X0_loansLeft (F : vF) : Int32 := v_X0_loansLeft_L13 (9) F (0) (0)
theorem e_X0_loansLeft (S : vS) (g : Nat) (F : vF)  : x_X0_loansLeft (emb S g F) g  = v_X0_loansLeft F  := by
  unfold x_X0_loansLeft v_X0_loansLeft
  simp only [nm_eq, nmp_eq, fmW_eq, apply_ite (emb S g), apply_ite (mpe S g), mpe_mk, mpe_1, mpe_2, e_X0_loansLeft_L13z]
def v_X0_fundDebts_L13 : Nat → vF → Nat → Int32 → Int32
  | 0, F, _, _ => 0
  | n + 1, F, n4, v1 => if 8 ≤ (nI n4) then v1 else nm ((v1 + (F (13 + 14 * n4 + 11)))) (fun x_32 => v_X0_fundDebts_L13 n F ((n4 + 1)) (x_32))
theorem e_X0_fundDebts_L13 (S : vS) (g : Nat) : ∀ (n : Nat) (F : vF) (n4 : Nat) (v1 : Int32), n4 + n ≤ 100 → x_X0_fundDebts_L13 n (emb S g F) g n4 v1 = v_X0_fundDebts_L13 n F n4 v1 := by
  intro n
  induction n with
  | zero => intro F n4 v1 h; rfl
  | succ n ih =>
    intro F n4 v1 h
    rw [x_X0_fundDebts_L13.eq_2, v_X0_fundDebts_L13.eq_2]
    have ih := fun (F : vF) (v1' : Int32) => ih F (n4 + 1) v1' (by omega)
    by_cases c : 8 ≤ nI n4
    · rw [if_pos c, if_pos c]
      all_goals (try simp only [nm_eq, nmp_eq, fmW_eq, apply_ite (emb S g), apply_ite (mpe S g), mpe_mk, mpe_1, mpe_2, ])
    · rw [if_neg c, if_neg c]
      have hi : n4 < 8 := nI_of_nle (by decide) c (by omega)
      simp only [nm_eq, nmp_eq, fmW_eq, apply_ite (emb S g), apply_ite (mpe S g), mpe_mk, mpe_1, mpe_2, ebM_12 hi, esM_12 hi, hi, ih]
theorem e_X0_fundDebts_L13z (S : vS) (g : Nat) (F : vF) (v1 : Int32) : x_X0_fundDebts_L13 9 (emb S g F) g 0 v1 = v_X0_fundDebts_L13 9 F 0 v1 := e_X0_fundDebts_L13 S g 9 F 0 v1 (by decide)
def v_X0_fundDebts (F : vF) : Int32 := v_X0_fundDebts_L13 (9) F (0) (0)
theorem e_X0_fundDebts (S : vS) (g : Nat) (F : vF)  : x_X0_fundDebts (emb S g F) g  = v_X0_fundDebts F  := by
  unfold x_X0_fundDebts v_X0_fundDebts
  simp only [nm_eq, nmp_eq, fmW_eq, apply_ite (emb S g), apply_ite (mpe S g), mpe_mk, mpe_1, mpe_2, e_X0_fundDebts_L13z]
def v_X0_debtsAmongMembers_L13 : Nat → vF → Nat → Int32 → Int32
  | 0, F, _, _ => 0
  | n + 1, F, n4, v1 => if 8 ≤ (nI n4) then v1 else nm (v_X2_debtToMembers F n4) (fun r_28 => nm ((v1 + r_28)) (fun x_32 => v_X0_debtsAmongMembers_L13 n F ((n4 + 1)) (x_32)))
theorem e_X0_debtsAmongMembers_L13 (S : vS) (g : Nat) : ∀ (n : Nat) (F : vF) (n4 : Nat) (v1 : Int32), n4 + n ≤ 100 → x_X0_debtsAmongMembers_L13 n (emb S g F) g n4 v1 = v_X0_debtsAmongMembers_L13 n F n4 v1 := by
  intro n
  induction n with
  | zero => intro F n4 v1 h; rfl
  | succ n ih =>
    intro F n4 v1 h
    rw [x_X0_debtsAmongMembers_L13.eq_2, v_X0_debtsAmongMembers_L13.eq_2]
    have ih := fun (F : vF) (v1' : Int32) => ih F (n4 + 1) v1' (by omega)
    by_cases c : 8 ≤ nI n4
    · rw [if_pos c, if_pos c]
      all_goals (try simp only [nm_eq, nmp_eq, fmW_eq, apply_ite (emb S g), apply_ite (mpe S g), mpe_mk, mpe_1, mpe_2, e_X2_debtToMembers])
    · rw [if_neg c, if_neg c]
      have hi : n4 < 8 := nI_of_nle (by decide) c (by omega)
      simp only [nm_eq, nmp_eq, fmW_eq, apply_ite (emb S g), apply_ite (mpe S g), mpe_mk, mpe_1, mpe_2, e_X2_debtToMembers, hi, ih]
theorem e_X0_debtsAmongMembers_L13z (S : vS) (g : Nat) (F : vF) (v1 : Int32) : x_X0_debtsAmongMembers_L13 9 (emb S g F) g 0 v1 = v_X0_debtsAmongMembers_L13 9 F 0 v1 := e_X0_debtsAmongMembers_L13 S g 9 F 0 v1 (by decide)
def v_X0_debtsAmongMembers (F : vF) : Int32 := v_X0_debtsAmongMembers_L13 (9) F (0) (0)
theorem e_X0_debtsAmongMembers (S : vS) (g : Nat) (F : vF)  : x_X0_debtsAmongMembers (emb S g F) g  = v_X0_debtsAmongMembers F  := by
  unfold x_X0_debtsAmongMembers v_X0_debtsAmongMembers
  simp only [nm_eq, nmp_eq, fmW_eq, apply_ite (emb S g), apply_ite (mpe S g), mpe_mk, mpe_1, mpe_2, e_X0_debtsAmongMembers_L13z]
def v_X0_figure (F : vF) (p1 : Int32) : Int32 := if p1 = 0 then (F 0) else (if p1 = 1 then (F 1) else (if p1 = 2 then (F 2) else (if p1 = 3 then nm (v_X0_memberCount F) (fun r_88 => r_88) else (if p1 = 4 then (F 8) else (if p1 = 5 then nm (v_X0_loansLeft F) (fun r_98 => r_98) else (if p1 = 6 then nm (v_X0_bankDebts F) (fun r_103 => r_103) else (if p1 = 7 then nm (v_X0_fundDebts F) (fun r_108 => r_108) else (if p1 = 8 then nm (v_X0_debtsAmongMembers F) (fun r_113 => r_113) else (if p1 = 9 then (F 9) else (if p1 = 10 then (F 10) else (if p1 = 11 then (F 11) else (if p1 = 12 then (((F 9) + (F 10)) - (F 11)) else (if p1 = 13 then (F 12) else (nm (v_X0_awayMembers F) (fun r_153 => r_153)))))))))))))))
theorem e_X0_figure (S : vS) (g : Nat) (F : vF) (p1 : Int32) : x_X0_figure (emb S g F) g p1 = v_X0_figure F p1 := by
  unfold x_X0_figure v_X0_figure
  simp only [nm_eq, nmp_eq, fmW_eq, apply_ite (emb S g), apply_ite (mpe S g), mpe_mk, mpe_1, mpe_2, ebG_3, esG_3, ebG_4, esG_4, ebG_5, esG_5, ebG_6, esG_6, ebG_7, esG_7, ebG_8, esG_8, ebG_9, esG_9, ebG_10, esG_10, e_X0_awayMembers, e_X0_bankDebts, e_X0_debtsAmongMembers, e_X0_fundDebts, e_X0_loansLeft, e_X0_memberCount]
def v_X0_weeksOfFund_L28 : Nat → vF → Nat → Nat → Int32 → Int32 → Int32 → Int32
  | 0, F, _, _, _, _, _ => 0
  | n + 1, F, k, n5, v4, v3, v2 => if (F (13 + 14 * k + 4)) ≤ (nI n5) then (-1) else if (nI n5) = ((F (13 + 14 * k + 4)) - 1) then nm ((v3 + (F (13 + 14 * k + 6)))) (fun x_65 => if x_65 ≤ v2 then nm ((v2 + (v4 - x_65))) (fun x_83 => nm ((v3 - v3)) (fun x_88 => v_X0_weeksOfFund_L28 n F k ((n5 + 1)) (v4) (x_88) (x_83))) else (nI n5)) else nm ((F (13 + 14 * k + 5))) (fun x_56 => nm ((x_56 + (F (13 + 14 * k + 6)))) (fun x_65 => if x_65 ≤ v2 then nm ((v2 + (v4 - x_65))) (fun x_83 => nm ((v3 - x_56)) (fun x_88 => v_X0_weeksOfFund_L28 n F k ((n5 + 1)) (v4) (x_88) (x_83))) else (nI n5)))
theorem e_X0_weeksOfFund_L28 (S : vS) (g : Nat) : ∀ (n : Nat) (F : vF) (k : Nat) (n5 : Nat) (v4 : Int32) (v3 : Int32) (v2 : Int32), k < 8 →  x_X0_weeksOfFund_L28 n (emb S g F) g k n5 v4 v3 v2 = v_X0_weeksOfFund_L28 n F k n5 v4 v3 v2 := by
  intro n
  induction n with
  | zero => intro F k n5 v4 v3 v2 hk; rfl
  | succ n ih =>
    intro F k n5 v4 v3 v2 hk
    rw [x_X0_weeksOfFund_L28.eq_2, v_X0_weeksOfFund_L28.eq_2]
    have ih := fun (F : vF) (v4' : Int32) (v3' : Int32) (v2' : Int32) => ih F k (n5 + 1) v4' v3' v2' hk
    simp only [nm_eq, nmp_eq, fmW_eq, apply_ite (emb S g), apply_ite (mpe S g), mpe_mk, mpe_1, mpe_2, ebM_7 hk, esM_7 hk, ebM_4 hk, esM_4 hk, ebM_5 hk, esM_5 hk, ih]
def v_X0_weeksOfFund (F : vF) (k : Nat) : Int32 := nm ((F 8)) (fun x_4 => nm ((F (13 + 14 * k + 3))) (fun x_9 => nm (v_X0_memberCount F) (fun r_11 => nm (((r_11 - 1) * (F 5))) (fun x_23 => v_X0_weeksOfFund_L28 ((F (13 + 14 * k + 4)).toNatClampNeg + 1) F k (0) (x_23) (x_9) (x_4)))))
theorem e_X0_weeksOfFund (S : vS) (g : Nat) (F : vF) (k : Nat)  (hk : k < 8) : x_X0_weeksOfFund (emb S g F) g k  = v_X0_weeksOfFund F k  := by
  unfold x_X0_weeksOfFund v_X0_weeksOfFund
  simp only [nm_eq, nmp_eq, fmW_eq, apply_ite (emb S g), apply_ite (mpe S g), mpe_mk, mpe_1, mpe_2, ebG_6, esG_6, ebS_1, ebM_6 hk, esM_6 hk, ebM_7 hk, esM_7 hk, e_X0_memberCount, e_X0_weeksOfFund_L28, hk]
def v_X0_weakestNumber_L26 : Nat → vF → Nat → Int32 → Int32 → Int32
  | 0, F, _, _, _ => 0
  | n + 1, F, n5, v2, v1 => if 8 ≤ (nI n5) then v1 else nm (v_X2_due F n5) (fun r_41 => nm ((r_41 - (F 8))) (fun x_49 => if x_49 ≤ v2 then v_X0_weakestNumber_L26 n F ((n5 + 1)) (v2) (v1) else v_X0_weakestNumber_L26 n F ((n5 + 1)) (x_49) ((nI n5))))
theorem e_X0_weakestNumber_L26 (S : vS) (g : Nat) : ∀ (n : Nat) (F : vF) (n5 : Nat) (v2 : Int32) (v1 : Int32), n5 + n ≤ 100 → x_X0_weakestNumber_L26 n (emb S g F) g n5 v2 v1 = v_X0_weakestNumber_L26 n F n5 v2 v1 := by
  intro n
  induction n with
  | zero => intro F n5 v2 v1 h; rfl
  | succ n ih =>
    intro F n5 v2 v1 h
    rw [x_X0_weakestNumber_L26.eq_2, v_X0_weakestNumber_L26.eq_2]
    have ih := fun (F : vF) (v2' : Int32) (v1' : Int32) => ih F (n5 + 1) v2' v1' (by omega)
    by_cases c : 8 ≤ nI n5
    · rw [if_pos c, if_pos c]
      all_goals (try simp only [nm_eq, nmp_eq, fmW_eq, apply_ite (emb S g), apply_ite (mpe S g), mpe_mk, mpe_1, mpe_2, ebG_6, esG_6, e_X2_due])
    · rw [if_neg c, if_neg c]
      have hi : n5 < 8 := nI_of_nle (by decide) c (by omega)
      simp only [nm_eq, nmp_eq, fmW_eq, apply_ite (emb S g), apply_ite (mpe S g), mpe_mk, mpe_1, mpe_2, ebG_6, esG_6, e_X2_due, hi, ih]
theorem e_X0_weakestNumber_L26z (S : vS) (g : Nat) (F : vF) (v2 : Int32) (v1 : Int32) : x_X0_weakestNumber_L26 9 (emb S g F) g 0 v2 v1 = v_X0_weakestNumber_L26 9 F 0 v2 v1 := e_X0_weakestNumber_L26 S g 9 F 0 v2 v1 (by decide)
def v_X0_weakestNumber (F : vF) : Int32 := nm (v_X0_memberCount F) (fun r_5 => if 2 ≤ r_5 then v_X0_weakestNumber_L26 (9) F (0) (0) ((-1)) else (-1))
theorem e_X0_weakestNumber (S : vS) (g : Nat) (F : vF)  : x_X0_weakestNumber (emb S g F) g  = v_X0_weakestNumber F  := by
  unfold x_X0_weakestNumber v_X0_weakestNumber
  simp only [nm_eq, nmp_eq, fmW_eq, apply_ite (emb S g), apply_ite (mpe S g), mpe_mk, mpe_1, mpe_2, e_X0_memberCount, e_X0_weakestNumber_L26z]
def v_X0_shareOfPaid (F : vF) : UInt64 := nm (((F 9) + (F 10))) (fun x_9 => if x_9 ≤ 0 then FP.dconst1 else (FP.ddiv (FP.i2d (F 11)) (FP.i2d x_9)))
theorem e_X0_shareOfPaid (S : vS) (g : Nat) (F : vF)  : x_X0_shareOfPaid (emb S g F) g  = v_X0_shareOfPaid F  := by
  unfold x_X0_shareOfPaid v_X0_shareOfPaid
  simp only [nm_eq, nmp_eq, fmW_eq, apply_ite (emb S g), apply_ite (mpe S g), mpe_mk, mpe_1, mpe_2, ebG_7, esG_7, ebG_8, esG_8, ebG_9, esG_9]
end VGRP
