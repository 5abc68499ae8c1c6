section BREADS
variable {S T : vS} {F H : vF} {k m n i j g w o p q : Nat} {x y d p1 p2 p3 : Int32} {c c' : Int} {f h : Nat → Int32}
/-- partial sums -/
def pS (f : Nat → Int32) : Nat → Int32
  | 0 => 0
  | n + 1 => pS f n + f n
theorem s8_pS : s8 f = pS f 8 := rfl
theorem pS_add : ∀ n, pS (fun i => f i + h i) n = pS f n + pS h n := by
  intro n
  induction n with
  | zero => rfl
  | succ n ih =>
    show pS (fun i => f i + h i) n + (f n + h n) = (pS f n + f n) + (pS h n + h n)
    rw [ih]; grind
theorem pS_zero : ∀ n, pS (fun _ => (0 : Int32)) n = 0 := by
  intro n
  induction n with
  | zero => rfl
  | succ n ih => show pS _ n + 0 = 0; rw [ih]; rfl
theorem pS_cong : ∀ n, (∀ j, j < n → f j = h j) → pS f n = pS h n := by
  intro n
  induction n with
  | zero => intro _; rfl
  | succ n ih => intro e; show pS f n + f n = pS h n + h n; rw [ih (fun j hj => e j (by omega)), e n (by omega)]
theorem pS_swap {r : Nat → Nat → Int32} (n : Nat) : ∀ m, pS (fun i => pS (fun j => r i j) n) m = pS (fun j => pS (fun i => r i j) m) n := by
  intro m
  induction m with
  | zero => exact (pS_zero n).symm
  | succ m ih =>
    show pS (fun i => pS (fun j => r i j) n) m + pS (fun j => r m j) n = pS (fun j => pS (fun i => r i j) m + r m j) n
    rw [pS_add, ih]
/-- partial maxima -/
def pM (f : Nat → Int32) : Nat → Int32
  | 0 => 0
  | n + 1 => if pM f n < f n then f n else pM f n
theorem m8_pM : m8 f = pM f 8 := rfl
theorem pM_nn (hf : ∀ j, j < 8 → 0 ≤ (f j).toInt) : ∀ n, n ≤ 8 → 0 ≤ (pM f n).toInt := by
  intro n
  induction n with
  | zero => intro _; show 0 ≤ (0 : Int32).toInt; decide
  | succ n ih =>
    intro hn
    show 0 ≤ (if pM f n < f n then f n else pM f n).toInt
    split
    · exact hf n (by omega)
    · exact ih (by omega)
/-- what a member's properties are -/
theorem rd_find : x_X0_find S 0 p1 = v_X0_find (cv S 0) p1 := by
  have := e_X0_find S 0 (cv S 0) p1
  rw [emb_cv] at this
  exact this
theorem rd_no (hk : k < 8) (h : cv S 0 (13 + 14 * k + 0) = 0) : x_X4_member S (nI k) p2 = (2, 0) := by
  unfold x_X4_member tbq
  rw [mth hk, if_pos h, if_neg (show ¬ ((2 : Nat), (0 : Nat)).1 = 0 by decide)]
theorem rd_mem (hk : k < 8) (h : ¬ cv S 0 (13 + 14 * k + 0) = 0) (hq : q < 14) : x_X4_member S (nI k) (nI q) = (0, if nI q = 11 then v_X0_owedTo (cv S 0) k else v_X2_property (cv S 0) k (nI q)) := by
  have ea : x_X0_owedTo S 0 k = v_X0_owedTo (cv S 0) k := by
    have := e_X0_owedTo S 0 (cv S 0) k hk
    rw [emb_cv] at this
    exact this
  have eb : x_X2_property S 0 k (nI q) = v_X2_property (cv S 0) k (nI q) := by
    have := e_X2_property S 0 (cv S 0) k (nI q) hk
    rw [emb_cv] at this
    exact this
  have n0 : ¬ nI q < 0 := nI_pos (by omega)
  have n14 : nI q < (14 : Int32) := nI_lt (b := 14) hq (by decide)
  unfold x_X4_member tbq
  rw [mth_y hk h, if_pos rfl]
  dsimp only
  rw [if_neg n0, if_pos n14, nm_eq]
  unfold x_X4_propertyOf
  rw [nm_eq, nm_eq, ea, eb]
/-- a member's value, by its number -/
def pV (H : vF) (k q : Nat) : Int32 := if q = 0 then H (13 + 14 * k + 1) else if q = 1 then H (13 + 14 * k + 2) else if q = 2 then H (13 + 14 * k + 3) else if q = 3 then H (13 + 14 * k + 4) else if q = 4 then v_X2_due H k else if q = 5 then (if H (13 + 14 * k + 7) = 0 then 0 else 1) else if q = 6 then H (13 + 14 * k + 8) else if q = 7 then H (13 + 14 * k + 9) else if q = 8 then H (13 + 14 * k + 10) else if q = 9 then H (13 + 14 * k + 11) else if q = 10 then s8 (fun o => H (125 + 8 * k + o)) else s8 (fun o => H (125 + 8 * o + k))
theorem rd (hk : k < 8) (h : ¬ cv S 0 (13 + 14 * k + 0) = 0) (hq : q < 12) : x_X4_member S (nI k) (nI q) = (0, pV (cv S 0) k q) := by
  rw [rd_mem hk h (by omega)]
  refine congrArg (Prod.mk 0) ?_
  unfold pV v_X2_property
  simp only [nm_eq, t_v_X2_debtToMembers, t_v_X0_owedTo]
  have eb : (if bz (bz (cv S 0 (13 + 14 * k + 7))) = 0 then (0 : Int32) else 1) = if cv S 0 (13 + 14 * k + 7) = 0 then 0 else 1 := by
    by_cases z : cv S 0 (13 + 14 * k + 7) = 0
    · rw [if_pos z, if_pos (bz_iff.mpr (bz_iff.mpr z))]
    · rw [if_neg z, if_neg (fun q => z (bz_iff.mp (bz_iff.mp q)))]
  have eb2 : (if bz (cv S 0 (13 + 14 * k + 7)) = 0 then (0 : Int32) else 1) = if cv S 0 (13 + 14 * k + 7) = 0 then 0 else 1 := by
    by_cases z : cv S 0 (13 + 14 * k + 7) = 0
    · rw [if_pos z, if_pos (bz_iff.mpr z)]
    · rw [if_neg z, if_neg (fun q => z (bz_iff.mp q))]
  obtain rfl | rfl | rfl | rfl | rfl | rfl | rfl | rfl | rfl | rfl | rfl | rfl : q = 0 ∨ q = 1 ∨ q = 2 ∨ q = 3 ∨ q = 4 ∨ q = 5 ∨ q = 6 ∨ q = 7 ∨ q = 8 ∨ q = 9 ∨ q = 10 ∨ q = 11 := by omega
  all_goals (repeat (first | rw [if_pos (by decide)] | rw [if_neg (by decide)]))
  all_goals first | rfl | exact eb | exact eb2
theorem rd_owes (hk : k < 8) (hm : m < 8) (h : ¬ cv S 0 (13 + 14 * k + 0) = 0) (h2 : ¬ cv S 0 (13 + 14 * m + 0) = 0) : x_X4_owes S (nI k) (nI m) = (0, cv S 0 (125 + 8 * k + m)) := by
  have e3 : S (gD 0 k) m = cv S 0 (125 + 8 * k + m) := by
    conv => lhs; rw [← emb_cv S 0]
    exact ebD hk hm
  unfold x_X4_owes tbq
  rw [mth_y hk h, mth_y hm h2, if_pos rfl]
  dsimp only
  rw [if_pos rfl, e3]
/-- a number of the group, by its number -/
def cV (S : vS) (q : Nat) : Int32 := if q = 15 then S hO 2 else v_X0_figure (cv S 0) (nI q)
theorem rd_count (hq : q < 16) : x_X4_count S (nI q) = (0, cV S q) := by
  have ec : x_X0_figure S 0 (nI q) = v_X0_figure (cv S 0) (nI q) := by
    have := e_X0_figure S 0 (cv S 0) (nI q)
    rw [emb_cv] at this
    exact this
  have n0 : ¬ nI q < 0 := nI_pos (by omega)
  have n16 : nI q < (16 : Int32) := nI_lt (b := 16) hq (by decide)
  unfold x_X4_count x_X4_numberOf cV
  rw [if_neg n0, if_pos n16, nm_eq]
  by_cases z : q = 15
  · subst z; rw [if_pos (by decide), if_pos rfl]
  · have nn : ∀ q : Nat, q < 15 → ¬ nI q = 15 := by decide
    rw [if_neg (nn q (by omega)), if_neg z, nm_eq, ec]
theorem cV_fig (hq : q < 15) : cV S q = v_X0_figure (cv S 0) (nI q) := by unfold cV; rw [if_neg (by omega)]
theorem cV_0 : cV S 0 = cv S 0 0 := by
  rw [cV_fig (by decide)]
  unfold v_X0_figure
  repeat (first | rw [if_pos (by decide)] | rw [if_neg (by decide)])
theorem cV_2 : cV S 2 = cv S 0 2 := by
  rw [cV_fig (by decide)]
  unfold v_X0_figure
  repeat (first | rw [if_pos (by decide)] | rw [if_neg (by decide)])
theorem cV_3 : cV S 3 = s8 (fun i => if bz (cv S 0 (13 + 14 * i + 0)) = 0 then 0 else 1) := by
  rw [cV_fig (by decide)]
  unfold v_X0_figure
  repeat (first | rw [if_pos (by decide)] | rw [if_neg (by decide)])
  rw [nm_eq, t_v_X0_memberCount]
theorem cV_4 : cV S 4 = cv S 0 8 := by
  rw [cV_fig (by decide)]
  unfold v_X0_figure
  repeat (first | rw [if_pos (by decide)] | rw [if_neg (by decide)])
theorem cV_5 : cV S 5 = s8 (fun i => cv S 0 (13 + 14 * i + 3)) := by
  rw [cV_fig (by decide)]
  unfold v_X0_figure
  repeat (first | rw [if_pos (by decide)] | rw [if_neg (by decide)])
  rw [nm_eq, t_v_X0_loansLeft]
theorem cV_6 : cV S 6 = s8 (fun i => cv S 0 (13 + 14 * i + 10)) := by
  rw [cV_fig (by decide)]
  unfold v_X0_figure
  repeat (first | rw [if_pos (by decide)] | rw [if_neg (by decide)])
  rw [nm_eq, t_v_X0_bankDebts]
theorem cV_7 : cV S 7 = s8 (fun i => cv S 0 (13 + 14 * i + 11)) := by
  rw [cV_fig (by decide)]
  unfold v_X0_figure
  repeat (first | rw [if_pos (by decide)] | rw [if_neg (by decide)])
  rw [nm_eq, t_v_X0_fundDebts]
theorem cV_8 : cV S 8 = s8 (fun i => s8 (fun o => cv S 0 (125 + 8 * i + o))) := by
  rw [cV_fig (by decide)]
  unfold v_X0_figure
  repeat (first | rw [if_pos (by decide)] | rw [if_neg (by decide)])
  rw [nm_eq, t_v_X0_debtsAmongMembers]
  exact s8_congr fun i _ => t_v_X2_debtToMembers
theorem cV_9 : cV S 9 = cv S 0 9 := by
  rw [cV_fig (by decide)]
  unfold v_X0_figure
  repeat (first | rw [if_pos (by decide)] | rw [if_neg (by decide)])
theorem cV_10 : cV S 10 = cv S 0 10 := by
  rw [cV_fig (by decide)]
  unfold v_X0_figure
  repeat (first | rw [if_pos (by decide)] | rw [if_neg (by decide)])
theorem cV_11 : cV S 11 = cv S 0 11 := by
  rw [cV_fig (by decide)]
  unfold v_X0_figure
  repeat (first | rw [if_pos (by decide)] | rw [if_neg (by decide)])
theorem cV_12 : cV S 12 = cv S 0 9 + cv S 0 10 - cv S 0 11 := by
  rw [cV_fig (by decide)]
  unfold v_X0_figure
  repeat (first | rw [if_pos (by decide)] | rw [if_neg (by decide)])
theorem cV_14 : cV S 14 = s8 (fun i => if bz (cv S 0 (13 + 14 * i + 0)) = 0 then 0 else if bz (cv S 0 (13 + 14 * i + 7)) = 0 then 0 else 1) := by
  rw [cV_fig (by decide)]
  unfold v_X0_figure
  repeat (first | rw [if_pos (by decide)] | rw [if_neg (by decide)])
  rw [nm_eq, t_v_X0_awayMembers]
theorem rd_lasts (hk : k < 8) (h : ¬ cv S 0 (13 + 14 * k + 0) = 0) : x_X4_fundLasts S (nI k) = (0, v_X0_weeksOfFund (cv S 0) k) := by
  have e := e_X0_weeksOfFund S 0 (cv S 0) k hk
  rw [emb_cv] at e
  unfold x_X4_fundLasts tbq
  rw [mth_y hk h, if_pos rfl]
  dsimp only
  rw [nm_eq, e]
theorem rd_limit (hk : k < 8) (h : ¬ cv S 0 (13 + 14 * k + 0) = 0) : x_X4_ifCycle S (nI k) = (0, v_X2_nextLimit (cv S 0) k) := by
  have e := e_X2_nextLimit S 0 (cv S 0) k hk
  rw [emb_cv] at e
  unfold x_X4_ifCycle tbq
  rw [mth_y hk h, if_pos rfl]
  dsimp only
  rw [nm_eq, e]
theorem rd_togo : x_X4_weeksToGo S = m8 (fun i => cv S 0 (13 + 14 * i + 4)) := by
  have e := e_X0_mostLoanWeeks S 0 (cv S 0)
  rw [emb_cv] at e
  unfold x_X4_weeksToGo
  rw [nm_eq, e, t_v_X0_mostLoanWeeks]
theorem rd_weak : x_X4_weakest S = v_X0_weakestNumber (cv S 0) := by
  have e := e_X0_weakestNumber S 0 (cv S 0)
  rw [emb_cv] at e
  unfold x_X4_weakest
  rw [nm_eq, e]
theorem rd_share : x_X4_paidShare S = v_X0_shareOfPaid (cv S 0) := by
  have e := e_X0_shareOfPaid S 0 (cv S 0)
  rw [emb_cv] at e
  unfold x_X4_paidShare
  rw [nm_eq, e]
end BREADS
