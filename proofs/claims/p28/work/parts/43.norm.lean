section NORM
variable {F H : vF} {G : vG} {m k i n : Nat} {x v : Int32}
theorem cl8 (h : m < 8) : (nI m).toNatClampNeg = m := nI_clamp (by omega)
theorem upd_same : upd F i x i = x := by simp [upd]
theorem upd_ne {j : Nat} (h : j ≠ i) : upd F i x j = F j := by simp [upd, h]
theorem upd_at (F : vF) (i : Nat) (x : Int32) (j : Nat) : upd F i x j = if j = i then x else F j := rfl
theorem clw0 : (0 : Int32).toNatClampNeg = 0 := by decide
theorem clw1 : (1 : Int32).toNatClampNeg = 1 := by decide
theorem clw2 : (2 : Int32).toNatClampNeg = 2 := by decide
theorem clw3 : (3 : Int32).toNatClampNeg = 3 := by decide
theorem clw4 : (4 : Int32).toNatClampNeg = 4 := by decide
theorem clw5 : (5 : Int32).toNatClampNeg = 5 := by decide
theorem clw6 : (6 : Int32).toNatClampNeg = 6 := by decide
theorem clw7 : (7 : Int32).toNatClampNeg = 7 := by decide
theorem clw8 : (8 : Int32).toNatClampNeg = 8 := by decide
theorem clw9 : (9 : Int32).toNatClampNeg = 9 := by decide
theorem clw10 : (10 : Int32).toNatClampNeg = 10 := by decide
theorem clw11 : (11 : Int32).toNatClampNeg = 11 := by decide
theorem clw12 : (12 : Int32).toNatClampNeg = 12 := by decide
theorem clw13 : (13 : Int32).toNatClampNeg = 13 := by decide
theorem nof_0 (h : m < 8) : w_of F (nI m) 0 = F (13 + 14 * m + 0) := by unfold w_of; rw [cl8 h, clw0]
theorem nad_0 (h : m < 8) : w_adds G (nI m) 0 x = upq G (13 + 14 * m + 0) (G.1 (13 + 14 * m + 0) + x) := by unfold w_adds; rw [nm_eq, cl8 h, clw0]
theorem nof_1 (h : m < 8) : w_of F (nI m) 1 = F (13 + 14 * m + 1) := by unfold w_of; rw [cl8 h, clw1]
theorem nad_1 (h : m < 8) : w_adds G (nI m) 1 x = upq G (13 + 14 * m + 1) (G.1 (13 + 14 * m + 1) + x) := by unfold w_adds; rw [nm_eq, cl8 h, clw1]
theorem nof_2 (h : m < 8) : w_of F (nI m) 2 = F (13 + 14 * m + 2) := by unfold w_of; rw [cl8 h, clw2]
theorem nad_2 (h : m < 8) : w_adds G (nI m) 2 x = upq G (13 + 14 * m + 2) (G.1 (13 + 14 * m + 2) + x) := by unfold w_adds; rw [nm_eq, cl8 h, clw2]
theorem nof_3 (h : m < 8) : w_of F (nI m) 3 = F (13 + 14 * m + 3) := by unfold w_of; rw [cl8 h, clw3]
theorem nad_3 (h : m < 8) : w_adds G (nI m) 3 x = upq G (13 + 14 * m + 3) (G.1 (13 + 14 * m + 3) + x) := by unfold w_adds; rw [nm_eq, cl8 h, clw3]
theorem nof_4 (h : m < 8) : w_of F (nI m) 4 = F (13 + 14 * m + 4) := by unfold w_of; rw [cl8 h, clw4]
theorem nad_4 (h : m < 8) : w_adds G (nI m) 4 x = upq G (13 + 14 * m + 4) (G.1 (13 + 14 * m + 4) + x) := by unfold w_adds; rw [nm_eq, cl8 h, clw4]
theorem nof_5 (h : m < 8) : w_of F (nI m) 5 = F (13 + 14 * m + 5) := by unfold w_of; rw [cl8 h, clw5]
theorem nad_5 (h : m < 8) : w_adds G (nI m) 5 x = upq G (13 + 14 * m + 5) (G.1 (13 + 14 * m + 5) + x) := by unfold w_adds; rw [nm_eq, cl8 h, clw5]
theorem nof_6 (h : m < 8) : w_of F (nI m) 6 = F (13 + 14 * m + 6) := by unfold w_of; rw [cl8 h, clw6]
theorem nad_6 (h : m < 8) : w_adds G (nI m) 6 x = upq G (13 + 14 * m + 6) (G.1 (13 + 14 * m + 6) + x) := by unfold w_adds; rw [nm_eq, cl8 h, clw6]
theorem nof_7 (h : m < 8) : w_of F (nI m) 7 = F (13 + 14 * m + 7) := by unfold w_of; rw [cl8 h, clw7]
theorem nad_7 (h : m < 8) : w_adds G (nI m) 7 x = upq G (13 + 14 * m + 7) (G.1 (13 + 14 * m + 7) + x) := by unfold w_adds; rw [nm_eq, cl8 h, clw7]
theorem nof_8 (h : m < 8) : w_of F (nI m) 8 = F (13 + 14 * m + 8) := by unfold w_of; rw [cl8 h, clw8]
theorem nad_8 (h : m < 8) : w_adds G (nI m) 8 x = upq G (13 + 14 * m + 8) (G.1 (13 + 14 * m + 8) + x) := by unfold w_adds; rw [nm_eq, cl8 h, clw8]
theorem nof_9 (h : m < 8) : w_of F (nI m) 9 = F (13 + 14 * m + 9) := by unfold w_of; rw [cl8 h, clw9]
theorem nad_9 (h : m < 8) : w_adds G (nI m) 9 x = upq G (13 + 14 * m + 9) (G.1 (13 + 14 * m + 9) + x) := by unfold w_adds; rw [nm_eq, cl8 h, clw9]
theorem nof_10 (h : m < 8) : w_of F (nI m) 10 = F (13 + 14 * m + 10) := by unfold w_of; rw [cl8 h, clw10]
theorem nad_10 (h : m < 8) : w_adds G (nI m) 10 x = upq G (13 + 14 * m + 10) (G.1 (13 + 14 * m + 10) + x) := by unfold w_adds; rw [nm_eq, cl8 h, clw10]
theorem nof_11 (h : m < 8) : w_of F (nI m) 11 = F (13 + 14 * m + 11) := by unfold w_of; rw [cl8 h, clw11]
theorem nad_11 (h : m < 8) : w_adds G (nI m) 11 x = upq G (13 + 14 * m + 11) (G.1 (13 + 14 * m + 11) + x) := by unfold w_adds; rw [nm_eq, cl8 h, clw11]
theorem nof_12 (h : m < 8) : w_of F (nI m) 12 = F (13 + 14 * m + 12) := by unfold w_of; rw [cl8 h, clw12]
theorem nad_12 (h : m < 8) : w_adds G (nI m) 12 x = upq G (13 + 14 * m + 12) (G.1 (13 + 14 * m + 12) + x) := by unfold w_adds; rw [nm_eq, cl8 h, clw12]
theorem nof_13 (h : m < 8) : w_of F (nI m) 13 = F (13 + 14 * m + 13) := by unfold w_of; rw [cl8 h, clw13]
theorem nad_13 (h : m < 8) : w_adds G (nI m) 13 x = upq G (13 + 14 * m + 13) (G.1 (13 + 14 * m + 13) + x) := by unfold w_adds; rw [nm_eq, cl8 h, clw13]
theorem ndebt (h : m < 8) (h2 : k < 8) : w_debt F (nI m) (nI k) = F (125 + 8 * m + k) := by unfold w_debt; rw [cl8 h, cl8 h2]
theorem nof_w {w : Nat} (h : m < 8) (h2 : w < 14) : w_of F (nI m) (nI w) = F (13 + 14 * m + w) := by unfold w_of; rw [cl8 h, nI_clamp (by omega)]
def sL : Nat → (Nat → Int32) → Nat → Int32 → Int32
  | 0, _, _, v => v
  | n + 1, f, i, v => sL n f (i + 1) (v + f i)
def s8 (f : Nat → Int32) : Int32 := sL 8 f 0 0
def mL : Nat → (Nat → Int32) → Nat → Int32 → Int32
  | 0, _, _, v => v
  | n + 1, f, i, v => mL n f (i + 1) (if v < f i then f i else v)
def m8 (f : Nat → Int32) : Int32 := mL 8 f 0 0
theorem sL_congr {f g : Nat → Int32} : ∀ (n i : Nat) (v : Int32), (∀ j, i ≤ j → j < i + n → f j = g j) → sL n f i v = sL n g i v := by
  intro n
  induction n with
  | zero => intro i v h; rfl
  | succ n ih =>
    intro i v h
    show sL n f (i + 1) (v + f i) = sL n g (i + 1) (v + g i)
    rw [h i (Nat.le_refl i) (by omega)]
    exact ih _ _ fun j h1 h2 => h j (by omega) (by omega)
theorem s8_congr {f g : Nat → Int32} (h : ∀ j, j < 8 → f j = g j) : s8 f = s8 g := sL_congr 8 0 0 fun j _ h2 => h j (by omega)
theorem mL_congr {f g : Nat → Int32} : ∀ (n i : Nat) (v : Int32), (∀ j, i ≤ j → j < i + n → f j = g j) → mL n f i v = mL n g i v := by
  intro n
  induction n with
  | zero => intro i v h; rfl
  | succ n ih =>
    intro i v h
    show mL n f (i + 1) (if v < f i then f i else v) = mL n g (i + 1) (if v < g i then g i else v)
    rw [h i (Nat.le_refl i) (by omega)]
    exact ih _ _ fun j h1 h2 => h j (by omega) (by omega)
theorem m8_congr {f g : Nat → Int32} (h : ∀ j, j < 8 → f j = g j) : m8 f = m8 g := mL_congr 8 0 0 fun j _ h2 => h j (by omega)
theorem n_v_X2_debtToMembers_L13 : ∀ (n i : Nat) (v : Int32), i + n = 8 → v_X2_debtToMembers_L13 (n + 1) F k i v = sL n (fun o => F (125 + 8 * k + o)) i v := by
  intro n
  induction n with
  | zero =>
    intro i v h
    obtain rfl : i = 8 := by omega
    rw [v_X2_debtToMembers_L13.eq_2, if_pos le8]
    rfl
  | succ n ih =>
    intro i v h
    have hi : i < 8 := by omega
    have ih := fun (v : Int32) => ih (i + 1) v (by omega)
    rw [v_X2_debtToMembers_L13.eq_2, if_neg (ge8 hi)]
    show _ = sL n _ (i + 1) _
    simp only [nm_eq, ih]
    all_goals ((repeat' split) <;> first | rfl | simp_all)
theorem t_v_X2_debtToMembers : v_X2_debtToMembers F k = s8 (fun o => F (125 + 8 * k + o)) := n_v_X2_debtToMembers_L13 8 0 0 rfl
theorem n_v_X0_memberCount_L13 : ∀ (n i : Nat) (v : Int32), i + n = 8 → v_X0_memberCount_L13 (n + 1) F i v = sL n (fun i => if bz (F (13 + 14 * i + 0)) = 0 then 0 else 1) i v := by
  intro n
  induction n with
  | zero =>
    intro i v h
    obtain rfl : i = 8 := by omega
    rw [v_X0_memberCount_L13.eq_2, if_pos le8]
    rfl
  | succ n ih =>
    intro i v h
    have hi : i < 8 := by omega
    have ih := fun (v : Int32) => ih (i + 1) v (by omega)
    rw [v_X0_memberCount_L13.eq_2, if_neg (ge8 hi)]
    show _ = sL n _ (i + 1) _
    simp only [nm_eq, ih]
    all_goals ((repeat' split) <;> first | rfl | simp_all)
theorem t_v_X0_memberCount : v_X0_memberCount F = s8 (fun i => if bz (F (13 + 14 * i + 0)) = 0 then 0 else 1) := n_v_X0_memberCount_L13 8 0 0 rfl
theorem n_v_X0_awayMembers_L13 : ∀ (n i : Nat) (v : Int32), i + n = 8 → v_X0_awayMembers_L13 (n + 1) F i v = sL n (fun i => if bz (F (13 + 14 * i + 0)) = 0 then 0 else if bz (F (13 + 14 * i + 7)) = 0 then 0 else 1) i v := by
  intro n
  induction n with
  | zero =>
    intro i v h
    obtain rfl : i = 8 := by omega
    rw [v_X0_awayMembers_L13.eq_2, if_pos le8]
    rfl
  | succ n ih =>
    intro i v h
    have hi : i < 8 := by omega
    have ih := fun (v : Int32) => ih (i + 1) v (by omega)
    rw [v_X0_awayMembers_L13.eq_2, if_neg (ge8 hi)]
    show _ = sL n _ (i + 1) _
    simp only [nm_eq, ih]
    all_goals ((repeat' split) <;> first | rfl | simp_all)
theorem t_v_X0_awayMembers : v_X0_awayMembers F = s8 (fun i => if bz (F (13 + 14 * i + 0)) = 0 then 0 else if bz (F (13 + 14 * i + 7)) = 0 then 0 else 1) := n_v_X0_awayMembers_L13 8 0 0 rfl
theorem n_v_X0_owedTo_L14 : ∀ (n i : Nat) (v : Int32), i + n = 8 → v_X0_owedTo_L14 (n + 1) F k i v = sL n (fun i => F (125 + 8 * i + k)) i v := by
  intro n
  induction n with
  | zero =>
    intro i v h
    obtain rfl : i = 8 := by omega
    rw [v_X0_owedTo_L14.eq_2, if_pos le8]
    rfl
  | succ n ih =>
    intro i v h
    have hi : i < 8 := by omega
    have ih := fun (v : Int32) => ih (i + 1) v (by omega)
    rw [v_X0_owedTo_L14.eq_2, if_neg (ge8 hi)]
    show _ = sL n _ (i + 1) _
    simp only [nm_eq, ih]
    all_goals ((repeat' split) <;> first | rfl | simp_all)
theorem t_v_X0_owedTo : v_X0_owedTo F k = s8 (fun i => F (125 + 8 * i + k)) := n_v_X0_owedTo_L14 8 0 0 rfl
theorem n_v_X0_bankDebts_L13 : ∀ (n i : Nat) (v : Int32), i + n = 8 → v_X0_bankDebts_L13 (n + 1) F i v = sL n (fun i => F (13 + 14 * i + 10)) i v := by
  intro n
  induction n with
  | zero =>
    intro i v h
    obtain rfl : i = 8 := by omega
    rw [v_X0_bankDebts_L13.eq_2, if_pos le8]
    rfl
  | succ n ih =>
    intro i v h
    have hi : i < 8 := by omega
    have ih := fun (v : Int32) => ih (i + 1) v (by omega)
    rw [v_X0_bankDebts_L13.eq_2, if_neg (ge8 hi)]
    show _ = sL n _ (i + 1) _
    simp only [nm_eq, ih]
    all_goals ((repeat' split) <;> first | rfl | simp_all)
theorem t_v_X0_bankDebts : v_X0_bankDebts F = s8 (fun i => F (13 + 14 * i + 10)) := n_v_X0_bankDebts_L13 8 0 0 rfl
theorem n_v_X0_loansLeft_L13 : ∀ (n i : Nat) (v : Int32), i + n = 8 → v_X0_loansLeft_L13 (n + 1) F i v = sL n (fun i => F (13 + 14 * i + 3)) i v := by
  intro n
  induction n with
  | zero =>
    intro i v h
    obtain rfl : i = 8 := by omega
    rw [v_X0_loansLeft_L13.eq_2, if_pos le8]
    rfl
  | succ n ih =>
    intro i v h
    have hi : i < 8 := by omega
    have ih := fun (v : Int32) => ih (i + 1) v (by omega)
    rw [v_X0_loansLeft_L13.eq_2, if_neg (ge8 hi)]
    show _ = sL n _ (i + 1) _
    simp only [nm_eq, ih]
    all_goals ((repeat' split) <;> first | rfl | simp_all)
theorem t_v_X0_loansLeft : v_X0_loansLeft F = s8 (fun i => F (13 + 14 * i + 3)) := n_v_X0_loansLeft_L13 8 0 0 rfl
theorem n_v_X0_fundDebts_L13 : ∀ (n i : Nat) (v : Int32), i + n = 8 → v_X0_fundDebts_L13 (n + 1) F i v = sL n (fun i => F (13 + 14 * i + 11)) i v := by
  intro n
  induction n with
  | zero =>
    intro i v h
    obtain rfl : i = 8 := by omega
    rw [v_X0_fundDebts_L13.eq_2, if_pos le8]
    rfl
  | succ n ih =>
    intro i v h
    have hi : i < 8 := by omega
    have ih := fun (v : Int32) => ih (i + 1) v (by omega)
    rw [v_X0_fundDebts_L13.eq_2, if_neg (ge8 hi)]
    show _ = sL n _ (i + 1) _
    simp only [nm_eq, ih]
    all_goals ((repeat' split) <;> first | rfl | simp_all)
theorem t_v_X0_fundDebts : v_X0_fundDebts F = s8 (fun i => F (13 + 14 * i + 11)) := n_v_X0_fundDebts_L13 8 0 0 rfl
theorem n_v_X0_debtsAmongMembers_L13 : ∀ (n i : Nat) (v : Int32), i + n = 8 → v_X0_debtsAmongMembers_L13 (n + 1) F i v = sL n (fun i => v_X2_debtToMembers F i) i v := by
  intro n
  induction n with
  | zero =>
    intro i v h
    obtain rfl : i = 8 := by omega
    rw [v_X0_debtsAmongMembers_L13.eq_2, if_pos le8]
    rfl
  | succ n ih =>
    intro i v h
    have hi : i < 8 := by omega
    have ih := fun (v : Int32) => ih (i + 1) v (by omega)
    rw [v_X0_debtsAmongMembers_L13.eq_2, if_neg (ge8 hi)]
    show _ = sL n _ (i + 1) _
    simp only [nm_eq, ih]
    all_goals ((repeat' split) <;> first | rfl | simp_all)
theorem t_v_X0_debtsAmongMembers : v_X0_debtsAmongMembers F = s8 (fun i => v_X2_debtToMembers F i) := n_v_X0_debtsAmongMembers_L13 8 0 0 rfl
theorem n_v_X0_mostLoanWeeks_L13 : ∀ (n i : Nat) (v : Int32), i + n = 8 → v_X0_mostLoanWeeks_L13 (n + 1) F i v = mL n (fun i => F (13 + 14 * i + 4)) i v := by
  intro n
  induction n with
  | zero =>
    intro i v h
    obtain rfl : i = 8 := by omega
    rw [v_X0_mostLoanWeeks_L13.eq_2, if_pos le8]
    rfl
  | succ n ih =>
    intro i v h
    have hi : i < 8 := by omega
    have ih := fun (v : Int32) => ih (i + 1) v (by omega)
    rw [v_X0_mostLoanWeeks_L13.eq_2, if_neg (ge8 hi)]
    show _ = mL n _ (i + 1) _
    simp only [nm_eq, ih]
    all_goals ((repeat' split) <;> first | rfl | simp_all)
theorem t_v_X0_mostLoanWeeks : v_X0_mostLoanWeeks F = m8 (fun i => F (13 + 14 * i + 4)) := n_v_X0_mostLoanWeeks_L13 8 0 0 rfl
theorem n_w_toOthers_L4 (hm : m < 8) : ∀ (n i : Nat) (v : Int32), i + n = 8 → w_toOthers_L4 (n + 1) F (nI m) i v = sL n (fun o => F (125 + 8 * m + o)) i v := by
  intro n
  induction n with
  | zero =>
    intro i v h
    obtain rfl : i = 8 := by omega
    rw [w_toOthers_L4.eq_2, if_pos le8]
    rfl
  | succ n ih =>
    intro i v h
    have hi : i < 8 := by omega
    have ih := fun (v : Int32) => ih (i + 1) v (by omega)
    rw [w_toOthers_L4.eq_2, if_neg (ge8 hi)]
    show _ = sL n _ (i + 1) _
    simp only [nm_eq, ndebt hm hi, ih]
    all_goals ((repeat' split) <;> first | rfl | simp_all)
theorem t_w_toOthers (hm : m < 8) : w_toOthers F (nI m) = s8 (fun o => F (125 + 8 * m + o)) := n_w_toOthers_L4 hm 8 0 0 rfl
theorem n_w_fromOthers_L4 (hm : m < 8) : ∀ (n i : Nat) (v : Int32), i + n = 8 → w_fromOthers_L4 (n + 1) F (nI m) i v = sL n (fun o => F (125 + 8 * o + m)) i v := by
  intro n
  induction n with
  | zero =>
    intro i v h
    obtain rfl : i = 8 := by omega
    rw [w_fromOthers_L4.eq_2, if_pos le8]
    rfl
  | succ n ih =>
    intro i v h
    have hi : i < 8 := by omega
    have ih := fun (v : Int32) => ih (i + 1) v (by omega)
    rw [w_fromOthers_L4.eq_2, if_neg (ge8 hi)]
    show _ = sL n _ (i + 1) _
    simp only [nm_eq, ndebt hi hm, ih]
    all_goals ((repeat' split) <;> first | rfl | simp_all)
theorem t_w_fromOthers (hm : m < 8) : w_fromOthers F (nI m) = s8 (fun o => F (125 + 8 * o + m)) := n_w_fromOthers_L4 hm 8 0 0 rfl
theorem n_w_helpers_L4 : ∀ (n i : Nat) (v : Int32), i + n = 8 → w_helpers_L4 (n + 1) F i v = sL n (fun i => if F (13 + 14 * i + 0) = 1 then (if F (13 + 14 * i + 7) = 0 then 1 else 0) else 0) i v := by
  intro n
  induction n with
  | zero =>
    intro i v h
    obtain rfl : i = 8 := by omega
    rw [w_helpers_L4.eq_2, if_pos le8]
    rfl
  | succ n ih =>
    intro i v h
    have hi : i < 8 := by omega
    have ih := fun (v : Int32) => ih (i + 1) v (by omega)
    rw [w_helpers_L4.eq_2, if_neg (ge8 hi)]
    show _ = sL n _ (i + 1) _
    simp only [nm_eq, nof_0 hi, nof_7 hi, ih]
    all_goals ((repeat' split) <;> first | rfl | simp_all)
theorem t_w_helpers : w_helpers F = s8 (fun i => if F (13 + 14 * i + 0) = 1 then (if F (13 + 14 * i + 7) = 0 then 1 else 0) else 0) := n_w_helpers_L4 8 0 0 rfl
theorem n_w_members_L4 : ∀ (n i : Nat) (v : Int32), i + n = 8 → w_members_L4 (n + 1) F i v = sL n (fun i => F (13 + 14 * i + 0)) i v := by
  intro n
  induction n with
  | zero =>
    intro i v h
    obtain rfl : i = 8 := by omega
    rw [w_members_L4.eq_2, if_pos le8]
    rfl
  | succ n ih =>
    intro i v h
    have hi : i < 8 := by omega
    have ih := fun (v : Int32) => ih (i + 1) v (by omega)
    rw [w_members_L4.eq_2, if_neg (ge8 hi)]
    show _ = sL n _ (i + 1) _
    simp only [nm_eq, nof_0 hi, ih]
    all_goals ((repeat' split) <;> first | rfl | simp_all)
theorem t_w_members : w_members F = s8 (fun i => F (13 + 14 * i + 0)) := n_w_members_L4 8 0 0 rfl
theorem n_w_absents_L4 : ∀ (n i : Nat) (v : Int32), i + n = 8 → w_absents_L4 (n + 1) F i v = sL n (fun i => F (13 + 14 * i + 0) * F (13 + 14 * i + 7)) i v := by
  intro n
  induction n with
  | zero =>
    intro i v h
    obtain rfl : i = 8 := by omega
    rw [w_absents_L4.eq_2, if_pos le8]
    rfl
  | succ n ih =>
    intro i v h
    have hi : i < 8 := by omega
    have ih := fun (v : Int32) => ih (i + 1) v (by omega)
    rw [w_absents_L4.eq_2, if_neg (ge8 hi)]
    show _ = sL n _ (i + 1) _
    simp only [nm_eq, nof_0 hi, nof_7 hi, ih]
    all_goals ((repeat' split) <;> first | rfl | simp_all)
theorem t_w_absents : w_absents F = s8 (fun i => F (13 + 14 * i + 0) * F (13 + 14 * i + 7)) := n_w_absents_L4 8 0 0 rfl
theorem n_w_sumOf_L4 (hw : k < 14) : ∀ (n i : Nat) (v : Int32), i + n = 8 → w_sumOf_L4 (n + 1) F (nI k) i v = sL n (fun i => F (13 + 14 * i + k)) i v := by
  intro n
  induction n with
  | zero =>
    intro i v h
    obtain rfl : i = 8 := by omega
    rw [w_sumOf_L4.eq_2, if_pos le8]
    rfl
  | succ n ih =>
    intro i v h
    have hi : i < 8 := by omega
    have ih := fun (v : Int32) => ih (i + 1) v (by omega)
    rw [w_sumOf_L4.eq_2, if_neg (ge8 hi)]
    show _ = sL n _ (i + 1) _
    simp only [nm_eq, nof_w hi hw, ih]
    all_goals ((repeat' split) <;> first | rfl | simp_all)
theorem t_w_sumOf (hw : k < 14) : w_sumOf F (nI k) = s8 (fun i => F (13 + 14 * i + k)) := n_w_sumOf_L4 hw 8 0 0 rfl
theorem n_w_among_L4 : ∀ (n i : Nat) (v : Int32), i + n = 8 → w_among_L4 (n + 1) F i v = sL n (fun i => w_toOthers F (nI i)) i v := by
  intro n
  induction n with
  | zero =>
    intro i v h
    obtain rfl : i = 8 := by omega
    rw [w_among_L4.eq_2, if_pos le8]
    rfl
  | succ n ih =>
    intro i v h
    have hi : i < 8 := by omega
    have ih := fun (v : Int32) => ih (i + 1) v (by omega)
    rw [w_among_L4.eq_2, if_neg (ge8 hi)]
    show _ = sL n _ (i + 1) _
    simp only [nm_eq, ih]
    all_goals ((repeat' split) <;> first | rfl | simp_all)
theorem t_w_among : w_among F = s8 (fun i => w_toOthers F (nI i)) := n_w_among_L4 8 0 0 rfl
theorem n_w_longest_L4 : ∀ (n i : Nat) (v : Int32), i + n = 8 → w_longest_L4 (n + 1) F i v = mL n (fun i => F (13 + 14 * i + 4)) i v := by
  intro n
  induction n with
  | zero =>
    intro i v h
    obtain rfl : i = 8 := by omega
    rw [w_longest_L4.eq_2, if_pos le8]
    rfl
  | succ n ih =>
    intro i v h
    have hi : i < 8 := by omega
    have ih := fun (v : Int32) => ih (i + 1) v (by omega)
    rw [w_longest_L4.eq_2, if_neg (ge8 hi)]
    show _ = mL n _ (i + 1) _
    simp only [nm_eq, nof_4 hi, ih]
    by_cases c : F (13 + 14 * i + 4) ≤ v
    · rw [if_pos c, if_neg (nlt_of_le c)]
    · rw [if_neg c, if_pos (fa_of_nle c)]
theorem t_w_longest : w_longest F = m8 (fun i => F (13 + 14 * i + 4)) := n_w_longest_L4 8 0 0 rfl
end NORM
