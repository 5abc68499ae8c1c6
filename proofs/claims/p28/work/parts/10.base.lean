section BASE
/-- the numbers of a world: cell, place -/
abbrev vS : Type := Nat → Nat → Int32
def nm {α β : Type} (a : α) (f : α → β) : β := f a
theorem nm_at {α β : Type} {z : β} {a y : α} {f : α → β} (h : z = nm a f) (e : y = a) : z = f y := by rw [e]; exact h
theorem nm_eq {α β : Type} (a : α) (f : α → β) : nm a f = f a := Eq.trans rfl rfl
theorem nm_at2 {α β γ : Type} {z : γ} {p : α × β} {y : α} {w : β} {f : α × β → γ} (h : z = nm p f) (e : y = p.1) (e2 : w = p.2) : z = f (y, w) := by rw [e, e2]; exact h
def st (S : vS) (q j : Nat) (x : Int32) : vS := va_up S q (upd (S q) j x)
theorem st_at (S : vS) (q j : Nat) (x : Int32) (q' j' : Nat) : st S q j x q' j' = if q' = q ∧ j' = j then x else S q' j' := by
  unfold st va_up upd
  by_cases h : q' = q
  · subst h
    by_cases h2 : j' = j
    · simp [h2]
    · simp [h2]
  · simp [h]
def rmD (d : Nat) : Room := { frames := d, cells := 0, slots := 0, locals := 35 * d }
def wl (N : Nat) (cf : Nat → (Nat → Int32) → va_E) (ad : Nat → Nat) (S : vS) : va_W := (List.range N).map (fun q => (ad q, cf q (S q)))
theorem wl_get {N : Nat} {cf : Nat → (Nat → Int32) → va_E} {ad : Nat → Nat} {S : vS} {q : Nat} (h : q < N) : (wl N cf ad S)[q]? = some (ad q, cf q (S q)) := by
  unfold wl
  rw [List.getElem?_map, List.getElem?_range h]
  rfl
theorem wl_len {N : Nat} {cf : Nat → (Nat → Int32) → va_E} {ad : Nat → Nat} {S : vS} : (wl N cf ad S).length = N := by simp [wl]
theorem wl_set {N : Nat} {cf : Nat → (Nat → Int32) → va_E} {ad : Nat → Nat} {S : vS} {q : Nat} {f : Nat → Int32} (h : q < N) : (wl N cf ad S).set q (ad q, cf q f) = wl N cf ad (va_up S q f) := by
  refine List.ext_getElem? fun k => ?_
  rcases Nat.lt_or_ge k N with hk | hk
  · by_cases e : k = q
    · subst e
      rw [List.getElem?_set_self (by rw [wl_len]; exact h), wl_get h]
      simp [va_up]
    · rw [List.getElem?_set_ne (Ne.symm e), wl_get hk, wl_get hk]
      simp [va_up, e]
  · rw [List.getElem?_eq_none (by rw [List.length_set, wl_len]; exact hk), List.getElem?_eq_none (by rw [wl_len]; exact hk)]
theorem wl_in {N : Nat} {cf : Nat → (Nat → Int32) → va_E} {ad : Nat → Nat} {S : vS} {k : Nat} {q : Nat × va_E} (h : (wl N cf ad S)[k]? = some q) : k < N ∧ q = (ad k, cf k (S k)) := by
  have hk : k < N := by
    have := (List.getElem?_eq_some_iff.mp h).1
    rwa [wl_len] at this
  rw [wl_get hk] at h
  exact ⟨hk, (Option.some.inj h).symm⟩
abbrev tysC (D : va_G) : List (ClassId × FieldType) := [(D.1 10, .int), (D.1 11, .char), (D.1 12, .object "JointLoans$Member"), (D.1 13, .object "JointLoans$Group")]
/-- the words of members of nest mates -/
def nl_all : List Cond := [.fieldLinkNest RX0 90 RX2 "number" "I" RX4,
  .fieldLinkNest RX4 208 RX2 "number" "I" RX4,
  .fieldLinkNest RX0 62 RX2 "isHere" "Z" RX4,
  .fieldLinkNest RX0 73 RX2 "limit" "I" RX4,
  .fieldLinkNest RX0 188 RX2 "loanPart" "I" RX4,
  .fieldLinkNest RX0 146 RX2 "loanInterest" "I" RX4,
  .fieldLinkNest RX0 167 RX2 "loanLeft" "I" RX4,
  .fieldLinkNest RX0 185 RX2 "loanWeeks" "I" RX4,
  .fieldLinkNest RX4 86 RX2 "isAway" "Z" RX4,
  .fieldLinkNest RX0 66 RX2 "isAway" "Z" RX4,
  .fieldLinkNest RX0 131 RX2 "missedInCycle" "I" RX4,
  .fieldLinkNest RX0 156 RX2 "missedSoFar" "I" RX4,
  .fieldLinkNest RX0 110 RX2 "bankDebt" "I" RX4,
  .fieldLinkNest RX0 116 RX2 "fundDebt" "I" RX4,
  .fieldLinkNest RX0 87 RX2 "savedSoFar" "I" RX4,
  .fieldLinkNest RX0 164 RX2 "paidForOthers" "I" RX4,
  .fieldLinkNest RX0 119 RX2 "debts" "[I" RX4,
  .fieldLinkNest RX4 205 RX2 "debts" "[I" RX4,
  .fieldLinkNest RX4 154 RX0 "settings" "[I" RX4,
  .fieldLinkNest RX4 33 RX0 "numbersGiven" "I" RX4,
  .fieldLinkNest RX4 139 RX0 "cycleNumber" "I" RX4,
  .fieldLinkNest RX4 128 RX0 "fund" "I" RX4,
  .fieldLinkNest RX4 99 RX0 "bankPaid" "I" RX4,
  .fieldLinkNest RX4 192 RX1 "size" "I" RX4,
  .methodLinkNest RX4 9 yX0_init RX4,
  .methodLinkNest RX0 25 yX2_init RX4,
  .methodLinkNest RX4 21 yX1_init RX4,
  .methodLinkNest RX1 17 yX0_init RX4,
  .methodLinkNest RX4 28 yX3_init RX4,
  .methodLinkNest RX4 44 yX1_keep RX4,
  .methodLinkNest RX1 31 yX0_copyFrom RX4,
  .methodLinkNest RX0 28 yX2_copyFrom RX4,
  .methodLinkNest RX4 48 yX0_admit RX4,
  .methodLinkNest RX4 288 yX0_figure RX4,
  .methodLinkNest RX0 170 yX2_debtToMembers RX4,
  .methodLinkNest RX4 270 yX0_find RX4,
  .methodLinkNest RX4 282 yX0_owedTo RX4,
  .methodLinkNest RX4 285 yX2_property RX4,
  .methodLinkNest RX4 225 yX0_weeksOfFund RX4,
  .methodLinkNest RX4 234 yX2_nextLimit RX4,
  .methodLinkNest RX4 231 yX0_mostLoanWeeks RX4,
  .methodLinkNest RX4 228 yX0_weakestNumber RX4,
  .methodLinkNest RX0 143 yX2_due RX4,
  .methodLinkNest RX4 237 yX0_shareOfPaid RX4,
  .methodLinkNest RX4 321 yX0_copyFrom RX4,
  .methodLinkNest RX4 324 yX0_letBeAway RX4,
  .methodLinkNest RX4 102 yX0_endWeek RX4,
  .methodLinkNest RX0 76 yX2_hasLoan RX4,
  .methodLinkNest RX0 153 yX2_lessenLoan RX4,
  .methodLinkNest RX0 80 yX2_hasDebts RX4,
  .methodLinkNest RX4 327 yX0_bankDebts RX4,
  .methodLinkNest RX4 330 yX0_debtsAmongMembers RX4,
  .methodLinkNest RX4 333 yX0_mostPaidForOthersSince RX4,
  .methodLinkNest RX4 93 yX0_mayEndWeek RX4,
  .methodLinkNest RX4 131 yX0_mayBeginCycle RX4,
  .methodLinkNest RX4 136 yX0_beginCycle RX4,
  .methodLinkNest RX0 128 yX2_nextLimit RX4,
  .methodLinkNest RX4 197 yX1_takeBack RX4,
  .methodLinkNest RX4 71 yX2_mayBorrow RX4,
  .methodLinkNest RX4 79 yX0_grantLoan RX4,
  .methodLinkNest RX0 106 yX2_borrow RX4,
  .methodLinkNest RX4 83 yX2_due RX4,
  .methodLinkNest RX4 90 yX0_awayMembers RX4,
  .methodLinkNest RX4 109 yX2_hasDebts RX4,
  .methodLinkNest RX4 114 yX0_takePayment RX4,
  .methodLinkNest RX4 118 yX0_mayHelp RX4,
  .methodLinkNest RX4 124 yX0_grantHelp RX4,
  .methodLinkNest RX4 56 yX0_mayGo RX4,
  .methodLinkNest RX4 62 yX0_dismiss RX4]
theorem nl_X0_90 : Cond.fieldLinkNest RX0 90 RX2 "number" "I" RX4 ∈ nl_all := List.mem_of_getElem? (i := 0) rfl
theorem nl_X4_208 : Cond.fieldLinkNest RX4 208 RX2 "number" "I" RX4 ∈ nl_all := List.mem_of_getElem? (i := 1) rfl
theorem nl_X0_62 : Cond.fieldLinkNest RX0 62 RX2 "isHere" "Z" RX4 ∈ nl_all := List.mem_of_getElem? (i := 2) rfl
theorem nl_X0_73 : Cond.fieldLinkNest RX0 73 RX2 "limit" "I" RX4 ∈ nl_all := List.mem_of_getElem? (i := 3) rfl
theorem nl_X0_188 : Cond.fieldLinkNest RX0 188 RX2 "loanPart" "I" RX4 ∈ nl_all := List.mem_of_getElem? (i := 4) rfl
theorem nl_X0_146 : Cond.fieldLinkNest RX0 146 RX2 "loanInterest" "I" RX4 ∈ nl_all := List.mem_of_getElem? (i := 5) rfl
theorem nl_X0_167 : Cond.fieldLinkNest RX0 167 RX2 "loanLeft" "I" RX4 ∈ nl_all := List.mem_of_getElem? (i := 6) rfl
theorem nl_X0_185 : Cond.fieldLinkNest RX0 185 RX2 "loanWeeks" "I" RX4 ∈ nl_all := List.mem_of_getElem? (i := 7) rfl
theorem nl_X4_86 : Cond.fieldLinkNest RX4 86 RX2 "isAway" "Z" RX4 ∈ nl_all := List.mem_of_getElem? (i := 8) rfl
theorem nl_X0_66 : Cond.fieldLinkNest RX0 66 RX2 "isAway" "Z" RX4 ∈ nl_all := List.mem_of_getElem? (i := 9) rfl
theorem nl_X0_131 : Cond.fieldLinkNest RX0 131 RX2 "missedInCycle" "I" RX4 ∈ nl_all := List.mem_of_getElem? (i := 10) rfl
theorem nl_X0_156 : Cond.fieldLinkNest RX0 156 RX2 "missedSoFar" "I" RX4 ∈ nl_all := List.mem_of_getElem? (i := 11) rfl
theorem nl_X0_110 : Cond.fieldLinkNest RX0 110 RX2 "bankDebt" "I" RX4 ∈ nl_all := List.mem_of_getElem? (i := 12) rfl
theorem nl_X0_116 : Cond.fieldLinkNest RX0 116 RX2 "fundDebt" "I" RX4 ∈ nl_all := List.mem_of_getElem? (i := 13) rfl
theorem nl_X0_87 : Cond.fieldLinkNest RX0 87 RX2 "savedSoFar" "I" RX4 ∈ nl_all := List.mem_of_getElem? (i := 14) rfl
theorem nl_X0_164 : Cond.fieldLinkNest RX0 164 RX2 "paidForOthers" "I" RX4 ∈ nl_all := List.mem_of_getElem? (i := 15) rfl
theorem nl_X0_119 : Cond.fieldLinkNest RX0 119 RX2 "debts" "[I" RX4 ∈ nl_all := List.mem_of_getElem? (i := 16) rfl
theorem nl_X4_205 : Cond.fieldLinkNest RX4 205 RX2 "debts" "[I" RX4 ∈ nl_all := List.mem_of_getElem? (i := 17) rfl
theorem nl_X4_154 : Cond.fieldLinkNest RX4 154 RX0 "settings" "[I" RX4 ∈ nl_all := List.mem_of_getElem? (i := 18) rfl
theorem nl_X4_33 : Cond.fieldLinkNest RX4 33 RX0 "numbersGiven" "I" RX4 ∈ nl_all := List.mem_of_getElem? (i := 19) rfl
theorem nl_X4_139 : Cond.fieldLinkNest RX4 139 RX0 "cycleNumber" "I" RX4 ∈ nl_all := List.mem_of_getElem? (i := 20) rfl
theorem nl_X4_128 : Cond.fieldLinkNest RX4 128 RX0 "fund" "I" RX4 ∈ nl_all := List.mem_of_getElem? (i := 21) rfl
theorem nl_X4_99 : Cond.fieldLinkNest RX4 99 RX0 "bankPaid" "I" RX4 ∈ nl_all := List.mem_of_getElem? (i := 22) rfl
theorem nl_X4_192 : Cond.fieldLinkNest RX4 192 RX1 "size" "I" RX4 ∈ nl_all := List.mem_of_getElem? (i := 23) rfl
theorem nl_X4_9 : Cond.methodLinkNest RX4 9 yX0_init RX4 ∈ nl_all := List.mem_of_getElem? (i := 24) rfl
theorem nl_X0_25 : Cond.methodLinkNest RX0 25 yX2_init RX4 ∈ nl_all := List.mem_of_getElem? (i := 25) rfl
theorem nl_X4_21 : Cond.methodLinkNest RX4 21 yX1_init RX4 ∈ nl_all := List.mem_of_getElem? (i := 26) rfl
theorem nl_X1_17 : Cond.methodLinkNest RX1 17 yX0_init RX4 ∈ nl_all := List.mem_of_getElem? (i := 27) rfl
theorem nl_X4_28 : Cond.methodLinkNest RX4 28 yX3_init RX4 ∈ nl_all := List.mem_of_getElem? (i := 28) rfl
theorem nl_X4_44 : Cond.methodLinkNest RX4 44 yX1_keep RX4 ∈ nl_all := List.mem_of_getElem? (i := 29) rfl
theorem nl_X1_31 : Cond.methodLinkNest RX1 31 yX0_copyFrom RX4 ∈ nl_all := List.mem_of_getElem? (i := 30) rfl
theorem nl_X0_28 : Cond.methodLinkNest RX0 28 yX2_copyFrom RX4 ∈ nl_all := List.mem_of_getElem? (i := 31) rfl
theorem nl_X4_48 : Cond.methodLinkNest RX4 48 yX0_admit RX4 ∈ nl_all := List.mem_of_getElem? (i := 32) rfl
theorem nl_X4_288 : Cond.methodLinkNest RX4 288 yX0_figure RX4 ∈ nl_all := List.mem_of_getElem? (i := 33) rfl
theorem nl_X0_170 : Cond.methodLinkNest RX0 170 yX2_debtToMembers RX4 ∈ nl_all := List.mem_of_getElem? (i := 34) rfl
theorem nl_X4_270 : Cond.methodLinkNest RX4 270 yX0_find RX4 ∈ nl_all := List.mem_of_getElem? (i := 35) rfl
theorem nl_X4_282 : Cond.methodLinkNest RX4 282 yX0_owedTo RX4 ∈ nl_all := List.mem_of_getElem? (i := 36) rfl
theorem nl_X4_285 : Cond.methodLinkNest RX4 285 yX2_property RX4 ∈ nl_all := List.mem_of_getElem? (i := 37) rfl
theorem nl_X4_225 : Cond.methodLinkNest RX4 225 yX0_weeksOfFund RX4 ∈ nl_all := List.mem_of_getElem? (i := 38) rfl
theorem nl_X4_234 : Cond.methodLinkNest RX4 234 yX2_nextLimit RX4 ∈ nl_all := List.mem_of_getElem? (i := 39) rfl
theorem nl_X4_231 : Cond.methodLinkNest RX4 231 yX0_mostLoanWeeks RX4 ∈ nl_all := List.mem_of_getElem? (i := 40) rfl
theorem nl_X4_228 : Cond.methodLinkNest RX4 228 yX0_weakestNumber RX4 ∈ nl_all := List.mem_of_getElem? (i := 41) rfl
theorem nl_X0_143 : Cond.methodLinkNest RX0 143 yX2_due RX4 ∈ nl_all := List.mem_of_getElem? (i := 42) rfl
theorem nl_X4_237 : Cond.methodLinkNest RX4 237 yX0_shareOfPaid RX4 ∈ nl_all := List.mem_of_getElem? (i := 43) rfl
theorem nl_X4_321 : Cond.methodLinkNest RX4 321 yX0_copyFrom RX4 ∈ nl_all := List.mem_of_getElem? (i := 44) rfl
theorem nl_X4_324 : Cond.methodLinkNest RX4 324 yX0_letBeAway RX4 ∈ nl_all := List.mem_of_getElem? (i := 45) rfl
theorem nl_X4_102 : Cond.methodLinkNest RX4 102 yX0_endWeek RX4 ∈ nl_all := List.mem_of_getElem? (i := 46) rfl
theorem nl_X0_76 : Cond.methodLinkNest RX0 76 yX2_hasLoan RX4 ∈ nl_all := List.mem_of_getElem? (i := 47) rfl
theorem nl_X0_153 : Cond.methodLinkNest RX0 153 yX2_lessenLoan RX4 ∈ nl_all := List.mem_of_getElem? (i := 48) rfl
theorem nl_X0_80 : Cond.methodLinkNest RX0 80 yX2_hasDebts RX4 ∈ nl_all := List.mem_of_getElem? (i := 49) rfl
theorem nl_X4_327 : Cond.methodLinkNest RX4 327 yX0_bankDebts RX4 ∈ nl_all := List.mem_of_getElem? (i := 50) rfl
theorem nl_X4_330 : Cond.methodLinkNest RX4 330 yX0_debtsAmongMembers RX4 ∈ nl_all := List.mem_of_getElem? (i := 51) rfl
theorem nl_X4_333 : Cond.methodLinkNest RX4 333 yX0_mostPaidForOthersSince RX4 ∈ nl_all := List.mem_of_getElem? (i := 52) rfl
theorem nl_X4_93 : Cond.methodLinkNest RX4 93 yX0_mayEndWeek RX4 ∈ nl_all := List.mem_of_getElem? (i := 53) rfl
theorem nl_X4_131 : Cond.methodLinkNest RX4 131 yX0_mayBeginCycle RX4 ∈ nl_all := List.mem_of_getElem? (i := 54) rfl
theorem nl_X4_136 : Cond.methodLinkNest RX4 136 yX0_beginCycle RX4 ∈ nl_all := List.mem_of_getElem? (i := 55) rfl
theorem nl_X0_128 : Cond.methodLinkNest RX0 128 yX2_nextLimit RX4 ∈ nl_all := List.mem_of_getElem? (i := 56) rfl
theorem nl_X4_197 : Cond.methodLinkNest RX4 197 yX1_takeBack RX4 ∈ nl_all := List.mem_of_getElem? (i := 57) rfl
theorem nl_X4_71 : Cond.methodLinkNest RX4 71 yX2_mayBorrow RX4 ∈ nl_all := List.mem_of_getElem? (i := 58) rfl
theorem nl_X4_79 : Cond.methodLinkNest RX4 79 yX0_grantLoan RX4 ∈ nl_all := List.mem_of_getElem? (i := 59) rfl
theorem nl_X0_106 : Cond.methodLinkNest RX0 106 yX2_borrow RX4 ∈ nl_all := List.mem_of_getElem? (i := 60) rfl
theorem nl_X4_83 : Cond.methodLinkNest RX4 83 yX2_due RX4 ∈ nl_all := List.mem_of_getElem? (i := 61) rfl
theorem nl_X4_90 : Cond.methodLinkNest RX4 90 yX0_awayMembers RX4 ∈ nl_all := List.mem_of_getElem? (i := 62) rfl
theorem nl_X4_109 : Cond.methodLinkNest RX4 109 yX2_hasDebts RX4 ∈ nl_all := List.mem_of_getElem? (i := 63) rfl
theorem nl_X4_114 : Cond.methodLinkNest RX4 114 yX0_takePayment RX4 ∈ nl_all := List.mem_of_getElem? (i := 64) rfl
theorem nl_X4_118 : Cond.methodLinkNest RX4 118 yX0_mayHelp RX4 ∈ nl_all := List.mem_of_getElem? (i := 65) rfl
theorem nl_X4_124 : Cond.methodLinkNest RX4 124 yX0_grantHelp RX4 ∈ nl_all := List.mem_of_getElem? (i := 66) rfl
theorem nl_X4_56 : Cond.methodLinkNest RX4 56 yX0_mayGo RX4 ∈ nl_all := List.mem_of_getElem? (i := 67) rfl
theorem nl_X4_62 : Cond.methodLinkNest RX4 62 yX0_dismiss RX4 ∈ nl_all := List.mem_of_getElem? (i := 68) rfl
def isNest : Cond → Bool
  | .fieldLinkNest .. => true
  | .methodLinkNest .. => true
  | _ => false
theorem nl_nest : ∀ w ∈ nl_all, isNest w = true := List.all_eq_true.mp (by decide +kernel)
theorem nest_tabs {w : Cond} (h : isNest w = true) : w.onTables = true := by
  cases w <;> first | rfl | (exact absurd h (by decide)) | (simp [isNest] at h)
theorem nest_warm {w : Cond} (h : isNest w = true) {s U : State} (hW : s.WarmedH U.vm) (hZ : va_Nw w s) : va_Nw w U := by
  cases w <;> first | exact va_Nw.warmF hW hZ | exact va_Nw.warmM hW hZ | (exact absurd h (by decide)) | (simp [isNest] at h)
def kC (D : va_G) (U : State) : Prop := va_K D vwCl (tysC D) U ∧ ∀ w ∈ nl_all, va_Nw w U
theorem kC.warm {D : va_G} {s U : State} (hW : s.WarmedH U.vm) (h : kC D s) : kC D U := ⟨va_K.moved hW.alike h.1, fun w hw => nest_warm (nl_nest w hw) hW (h.2 w hw)⟩
theorem kC.call {D : va_G} {U : State} {g : JFrame} {mk : MethodId} {a : Array Value} (h : kC D U) : kC D (U.calling g mk a) := ⟨va_K.moved (u := U) (U := U.calling g mk a) (Vm.Alike.refl U.vm) h.1, fun w hw => va_Nw.same (nest_tabs (nl_nest w hw)) (u := U) (U := U.calling g mk a) rfl (h.2 w hw)⟩
/-- where a world's method begins and ends -/
def pW (D : va_G) (N : Nat) (cf : Nat → (Nat → Int32) → va_E) (ad : Nat → Nat) (sz : Nat) (S : vS) (av : List Value) : Array Value → State → Prop := va_Pc av (fun U => U.heap.size = sz ∧ va_P D vwCl (wl N cf ad S) U.heap ∧ kC D U ∧ va_D (fun _ => True) (wl N cf ad S))
def bW (D : va_G) (N : Nat) (cf : Nat → (Nat → Int32) → va_E) (ad : Nat → Nat) (A : Nat → Prop) : vS → State → Prop := fun S t => va_P D vwCl (wl N cf ad S) t.heap ∧ va_D A (wl N cf ad S)
def aW (N : Nat) (ad : Nat → Nat) (sz : Nat) : Nat → Prop := fun q => (∃ k, k < N ∧ ad k = q) ∨ sz ≤ q
/-- at a point of a walk -/
def Wd (D : va_G) (N : Nat) (cf : Nat → (Nat → Int32) → va_E) (ad : Nat → Nat) (A : Nat → Prop) (H0 : Heap) (S : vS) (H : Heap) (locs : List Loc) : Prop := va_P D vwCl (wl N cf ad S) H ∧ va_D A (wl N cf ad S) ∧ va_S A H0 H locs ∧ ∀ q : Nat, H0.size ≤ q → A q
def Cx (p : Program) (m : MethodId) (c : Code) (cc : ByteArray) (nL : Nat) (s : State) (args : Array Value) (Ts : List Cond) (own : String) (meth : Method) (ret : Option FieldType) (D : va_G) : Prop := CallFix p m c cc nL s args Ts own ∧ kC D s ∧ meth.sig.returnType = ret ∧ meth.locks = false
def ClsOK (ci : Nat) (C : String) (T : u_T) (NN : Nat) : Prop := vwCl[ci]? = some (C, T, NN) ∧ (∀ a, a < NN → ∀ b, b < NN → a ≠ b → (T a).2.1 ≠ (T b).2.1) ∧ ∃ ty : Nat → FieldType, ∀ k, k < NN → parseFieldDescriptor (T k).2.2.1 = some (ty k)
theorem cls0 : ClsOK 0 RX0 TX0 11 := ⟨rfl, nmX0, tyX0, tyX0_ok⟩
theorem cls1 : ClsOK 1 RX1 TX1 3 := ⟨rfl, nmX1, tyX1, tyX1_ok⟩
theorem cls2 : ClsOK 2 RX2 TX2 16 := ⟨rfl, nmX2, tyX2, tyX2_ok⟩
theorem cls3 : ClsOK 3 RX3 TX3 7 := ⟨rfl, nmX3, tyX3, tyX3_ok⟩
theorem cls4 : ClsOK 4 RX4 TX4 4 := ⟨rfl, nmX4, tyX4, tyX4_ok⟩
end BASE
section ROWS
variable {p : Program} {l : Launch} {e : Env} {R : Room} {s : State} {m : MethodId} {args : Array Value} {below : List Frame} {meth : Method} {c : Code} {H : Heap} {locs : List Loc} {cells slots : Nat} {Q : State → Prop}
variable {cc : ByteArray} {nL : Nat} {Ts : List Cond} {own : String} {ret : Option FieldType} {D : va_G} {N : Nat} {cf : Nat → (Nat → Int32) → va_E} {ad : Nat → Nat} {A : Nat → Prop} {H0 : Heap} {S : vS}
variable {pc : Nat} {ls : Array Slot} {rest : List Value}
theorem x_get (B : Cx p m c cc nL s args Ts own meth ret D) (hW : Wd D N cf ad A H0 S H locs) {q ci : Nat} {fs : List Value} {C : String} {T : u_T} {NN : Nat} (hq : q < N) (he : cf q (S q) = .inr (ci, fs)) (hc : ClsOK ci C T NN) (hin : ∀ w ∈ u_ws C T NN, w ∈ Ts) (k : Nat) (hk : k < NN) {v : Value} (hv : fs[k]? = some v) {index : Nat}
    (hlink : (Cond.fieldLink own index (T k).1 (T k).2.1 (T k).2.2.1).before args s = true) (d : decode cc pc = .ok (.getfield index, 3))
    (kk : W p l e R s m args below meth c H locs cells slots Q (F0 m (pc + 3) ls (v :: rest))) : W p l e R s m args below meth c H locs cells slots Q (F0 m pc ls (.ref (ad q) :: rest)) :=
  va_get B.1.1 B.1.2.1 B.1.2.2.2.2 hin B.1.2.2.2.1 B.2.1.1 hW.1 q (by rw [wl_get hq, he]) hc.1 k hk hlink (fun _ h => h) hv d kk
theorem x_getN (B : Cx p m c cc nL s args Ts own meth ret D) (hW : Wd D N cf ad A H0 S H locs) {q ci : Nat} {fs : List Value} {C host : String} {T : u_T} {NN : Nat} (hq : q < N) (he : cf q (S q) = .inr (ci, fs)) (hc : ClsOK ci C T NN) (hin : ∀ w ∈ u_ws C T NN, w ∈ Ts) (k : Nat) (hk : k < NN) {v : Value} (hv : fs[k]? = some v) {index : Nat}
    (hlink : Cond.fieldLinkNest own index (T k).1 (T k).2.1 (T k).2.2.1 host ∈ nl_all) (d : decode cc pc = .ok (.getfield index, 3))
    (kk : W p l e R s m args below meth c H locs cells slots Q (F0 m (pc + 3) ls (v :: rest))) : W p l e R s m args below meth c H locs cells slots Q (F0 m pc ls (.ref (ad q) :: rest)) :=
  va_getN B.1.1 B.1.2.1 B.1.2.2.2.2 hin B.1.2.2.2.1 B.2.1.1 hW.1 q (by rw [wl_get hq, he]) hc.1 k hk (va_Nw.use rfl (B.2.1.2 _ hlink)) (fun _ h => h) hv d kk
theorem x_put (B : Cx p m c cc nL s args Ts own meth ret D) (hW : Wd D N cf ad A H0 S H locs) {q ci : Nat} {fs : List Value} {C : String} {T : u_T} {NN : Nat} (hq : q < N) (hc : ClsOK ci C T NN) (hin : ∀ w ∈ u_ws C T NN, w ∈ Ts) (k : Nat) (hk : k < NN) (he : cf q (S q) = .inr (ci, fs)) (hfin : (T k).2.2.2 = false) {ty : FieldType} (hd : parseFieldDescriptor (T k).2.2.1 = some ty) {x : Int32} (hn : narrow ty (.int x) = .int x) (hfit : fits ty (.int x) = true) (hl : k < fs.length) {j : Nat} (hs : cf q (upd (S q) j x) = .inr (ci, fs.set k (.int x))) {index : Nat}
    (hlink : (Cond.fieldLink own index (T k).1 (T k).2.1 (T k).2.2.1).before args s = true) (d : decode cc pc = .ok (.putfield index, 3))
    (kk : ∀ (H1 : Heap) (locs1 : List Loc) (S1 : vS), S1 = st S q j x → Wd D N cf ad A H0 S1 H1 locs1 → W p l e R s m args below meth c H1 locs1 cells slots Q (F0 m (pc + 3) ls rest)) : W p l e R s m args below meth c H locs cells slots Q (F0 m pc ls (.int x :: .ref (ad q) :: rest)) := by
  obtain ⟨hc1, hnm, ty0, hty⟩ := hc
  refine va_put B.1.1 B.1.2.1 B.1.2.2.2.2 hin ty0 hty hnm B.1.2.2.2.1 B.2.1.1 hW.1 hW.2.1 hW.2.2.1 q (by rw [wl_get hq, he]) hc1 k hk hlink (fun _ h => h) hfin hd hn hfit hl d (fun H1 locs1 hP hD hS => ?_)
  rw [← hs, wl_set hq] at hP hD
  exact kk H1 locs1 _ rfl ⟨hP, hD, hS, hW.2.2.2⟩
theorem x_putN (B : Cx p m c cc nL s args Ts own meth ret D) (hW : Wd D N cf ad A H0 S H locs) {q ci : Nat} {fs : List Value} {C host : String} {T : u_T} {NN : Nat} (hq : q < N) (hc : ClsOK ci C T NN) (hin : ∀ w ∈ u_ws C T NN, w ∈ Ts) (k : Nat) (hk : k < NN) (he : cf q (S q) = .inr (ci, fs)) (hfin : (T k).2.2.2 = false) {ty : FieldType} (hd : parseFieldDescriptor (T k).2.2.1 = some ty) {x : Int32} (hn : narrow ty (.int x) = .int x) (hfit : fits ty (.int x) = true) (hl : k < fs.length) {j : Nat} (hs : cf q (upd (S q) j x) = .inr (ci, fs.set k (.int x))) {index : Nat}
    (hlink : Cond.fieldLinkNest own index (T k).1 (T k).2.1 (T k).2.2.1 host ∈ nl_all) (d : decode cc pc = .ok (.putfield index, 3))
    (kk : ∀ (H1 : Heap) (locs1 : List Loc) (S1 : vS), S1 = st S q j x → Wd D N cf ad A H0 S1 H1 locs1 → W p l e R s m args below meth c H1 locs1 cells slots Q (F0 m (pc + 3) ls rest)) : W p l e R s m args below meth c H locs cells slots Q (F0 m pc ls (.int x :: .ref (ad q) :: rest)) := by
  obtain ⟨hc1, hnm, ty0, hty⟩ := hc
  refine va_putN B.1.1 B.1.2.1 B.1.2.2.2.2 hin ty0 hty hnm B.1.2.2.2.1 B.2.1.1 hW.1 hW.2.1 hW.2.2.1 q (by rw [wl_get hq, he]) hc1 k hk (va_Nw.use rfl (B.2.1.2 _ hlink)) (fun _ h => h) hfin hd hn hfit hl d (fun H1 locs1 hP hD hS => ?_)
  rw [← hs, wl_set hq] at hP hD
  exact kk H1 locs1 _ rfl ⟨hP, hD, hS, hW.2.2.2⟩
def isN (x : Int32) (k n : Nat) : Prop := x = nI k ∧ k < n ∧ n ≤ 2 ^ 31
theorem isN_lit (k : Nat) (h : k < 2 ^ 31) : isN (nI k) k (k + 1) := ⟨rfl, Nat.lt_succ_self k, h⟩
theorem isN_nI {k n : Nat} (h : k < n) (hn : n ≤ 2 ^ 31) : isN (nI k) k n := ⟨rfl, h, hn⟩
theorem isN_var {x : Int32} {n : Nat} (h : vp_in x n) (hn : n < 2 ^ 31) : isN x x.toNatClampNeg n := by
  obtain ⟨j, hj, rfl⟩ := vp_in_of h hn
  rw [nI_clamp (by omega)]
  exact ⟨rfl, hj, by omega⟩
theorem isN_add {x y : Int32} {a b n m : Nat} (hx : isN x a n) (hy : isN y b m) (h : n + m ≤ 2 ^ 31) : isN (x + y) (a + b) (n + m - 1) := by
  obtain ⟨rfl, h1, h2⟩ := hx
  obtain ⟨rfl, h3, h4⟩ := hy
  exact ⟨nI_add a b, by omega, by omega⟩
theorem isN_mul {x y : Int32} {a b n m : Nat} (hx : isN x a n) (hy : isN y b m) (h : (n - 1) * (m - 1) + 1 ≤ 2 ^ 31) : isN (x * y) (a * b) ((n - 1) * (m - 1) + 1) := by
  obtain ⟨rfl, h1, h2⟩ := hx
  obtain ⟨rfl, h3, h4⟩ := hy
  exact ⟨pk_mul a b, Nat.lt_succ_of_le (Nat.mul_le_mul (by omega) (by omega)), h⟩
theorem isN_vin {x : Int32} {k n N : Nat} (h : isN x k n) (hN : n ≤ N) (h2 : N < 2 ^ 31) : vp_in x N := by
  obtain ⟨rfl, h1, -⟩ := h
  exact vp_in_nI (by omega) h2
theorem isN_tcn {x : Int32} {k n : Nat} (h : isN x k n) : x.toNatClampNeg = k := by
  obtain ⟨rfl, h1, h2⟩ := h
  exact nI_clamp (by omega)
theorem x_iald (B : Cx p m c cc nL s args Ts own meth ret D) (hW : Wd D N cf ad A H0 S H locs) {q n : Nat} (hq : q < N) (he : cf q (S q) = .inl (D.1 10, n, .inl (S q))) {i : Int32} {k n' : Nat} (hi : isN i k n') (hn : n' ≤ n) (h31 : n < 2 ^ 31) (d : decode cc pc = .ok (.iaload, 1))
    (kk : W p l e R s m args below meth c H locs cells slots Q (F0 m (pc + 1) ls (.int (S q k) :: rest))) : W p l e R s m args below meth c H locs cells slots Q (F0 m pc ls (.int i :: .ref (ad q) :: rest)) :=
  va_iald B.1.1 B.1.2.1 B.2.1.1 hW.1 q 0 (by rw [wl_get hq, he]) rfl (isN_vin hi hn h31) d (by rw [isN_tcn hi]; exact kk)
theorem x_cald (B : Cx p m c cc nL s args Ts own meth ret D) (hW : Wd D N cf ad A H0 S H locs) {q n : Nat} (hq : q < N) (he : cf q (S q) = .inl (D.1 11, n, .inl (S q))) {i : Int32} {k n' : Nat} (hi : isN i k n') (hn : n' ≤ n) (h31 : n < 2 ^ 31) (d : decode cc pc = .ok (.caload, 1))
    (kk : W p l e R s m args below meth c H locs cells slots Q (F0 m (pc + 1) ls (.int (S q k) :: rest))) : W p l e R s m args below meth c H locs cells slots Q (F0 m pc ls (.int i :: .ref (ad q) :: rest)) :=
  va_cald B.1.1 B.1.2.1 B.2.1.1 hW.1 q 1 (by rw [wl_get hq, he]) rfl (isN_vin hi hn h31) d (by rw [isN_tcn hi]; exact kk)
theorem x_iast (B : Cx p m c cc nL s args Ts own meth ret D) (hW : Wd D N cf ad A H0 S H locs) {q n : Nat} (hq : q < N) (he : ∀ f, cf q f = .inl (D.1 10, n, .inl f)) {i x : Int32} {k n' : Nat} (hi : isN i k n') (hn : n' ≤ n) (h31 : n < 2 ^ 31) (d : decode cc pc = .ok (.iastore, 1))
    (kk : ∀ (H1 : Heap) (locs1 : List Loc) (S1 : vS), S1 = st S q k x → Wd D N cf ad A H0 S1 H1 locs1 → W p l e R s m args below meth c H1 locs1 cells slots Q (F0 m (pc + 1) ls rest)) : W p l e R s m args below meth c H locs cells slots Q (F0 m pc ls (.int x :: .int i :: .ref (ad q) :: rest)) := by
  refine va_iast B.1.1 B.1.2.1 B.2.1.1 hW.1 hW.2.1 hW.2.2.1 q 0 (by rw [wl_get hq, he]) rfl (isN_vin hi hn h31) d (fun H1 locs1 hP hD hS => ?_)
  rw [isN_tcn hi, ← he, wl_set hq] at hP hD
  exact kk H1 locs1 _ rfl ⟨hP, hD, hS, hW.2.2.2⟩
theorem x_cast (B : Cx p m c cc nL s args Ts own meth ret D) (hW : Wd D N cf ad A H0 S H locs) {q n : Nat} (hq : q < N) (he : ∀ f, cf q f = .inl (D.1 11, n, .inl f)) {i x : Int32} {k n' : Nat} (hi : isN i k n') (hn : n' ≤ n) (h31 : n < 2 ^ 31) (d : decode cc pc = .ok (.castore, 1))
    (kk : ∀ (H1 : Heap) (locs1 : List Loc) (S1 : vS), S1 = st S q k (vp_nar .char x) → Wd D N cf ad A H0 S1 H1 locs1 → W p l e R s m args below meth c H1 locs1 cells slots Q (F0 m (pc + 1) ls rest)) : W p l e R s m args below meth c H locs cells slots Q (F0 m pc ls (.int x :: .int i :: .ref (ad q) :: rest)) := by
  refine va_cast B.1.1 B.1.2.1 B.2.1.1 hW.1 hW.2.1 hW.2.2.1 q 1 (by rw [wl_get hq, he]) rfl (isN_vin hi hn h31) d (fun H1 locs1 hP hD hS => ?_)
  rw [isN_tcn hi, ← he, wl_set hq] at hP hD
  exact kk H1 locs1 _ rfl ⟨hP, hD, hS, hW.2.2.2⟩
theorem x_alen (B : Cx p m c cc nL s args Ts own meth ret D) (hW : Wd D N cf ad A H0 S H locs) {q k : Nat} {cA : ClassId} {x : vp_A} {ty : FieldType} (hq : q < N) (he : cf q (S q) = .inl (cA, x)) (ht : (tysC D)[k]? = some (cA, ty)) {v : Int32} (hv : Int32.ofNat x.1 = v) (d : decode cc pc = .ok (.arraylength, 1))
    (kk : W p l e R s m args below meth c H locs cells slots Q (F0 m (pc + 1) ls (.int v :: rest))) : W p l e R s m args below meth c H locs cells slots Q (F0 m pc ls (.ref (ad q) :: rest)) :=
  va_alen B.1.1 B.1.2.1 B.2.1.1 hW.1 q k (by rw [wl_get hq, he]) ht hv d kk
theorem x_aald (B : Cx p m c cc nL s args Ts own meth ret D) (hW : Wd D N cf ad A H0 S H locs) {q k n : Nat} {cA : ClassId} {C : String} {f : Nat → Option Nat} (hq : q < N) (he : cf q (S q) = .inl (cA, n, .inr (.inr (.inr (.inr f))))) (ht : (tysC D)[k]? = some (cA, .object C)) {i : Int32} {j n' : Nat} (hi : isN i j n') (hn : n' ≤ n) (h31 : n < 2 ^ 31) {v : Value} (hv : va_rf (f j) = v) (d : decode cc pc = .ok (.aaload, 1))
    (kk : W p l e R s m args below meth c H locs cells slots Q (F0 m (pc + 1) ls (v :: rest))) : W p l e R s m args below meth c H locs cells slots Q (F0 m pc ls (.int i :: .ref (ad q) :: rest)) :=
  va_aldq B.1.1 B.1.2.1 B.2.1.1 hW.1 q k (by rw [wl_get hq, he]) ht (isN_vin hi hn h31) d (by rw [isN_tcn hi, hv]; exact kk)
def cpy (S : vS) (q0 q1 n : Nat) : vS := va_up S q1 (va_cpy (S q0) (S q1) 0 0 n)
theorem x_copy (B : Cx p m c cc nL s args Ts own meth ret D) (hls : ls.size = nL) (hW : Wd D N cf ad A H0 S H locs) {q0 q1 n0 n1 n : Nat} (hq0 : q0 < N) (hq1 : q1 < N) (he0 : cf q0 (S q0) = .inl (D.1 10, n0, .inl (S q0))) (he1 : ∀ f, cf q1 f = .inl (D.1 10, n1, .inl f)) {x : Int32} (hx : ¬ x < 0 ∧ x.toNatClampNeg = n) (h4 : n ≤ n0) (h5 : n ≤ n1) {index : Nat}
    (hlink : (Cond.methodLink own index arraycopyName).before args s = true) (hnat : (Cond.native arraycopyName).before args s = true) (hstat : (Cond.static arraycopyName).before args s = true) (hini : (Cond.initialized "java/lang/System").before args s = true) (hfr : 1 ≤ R.frames) (hlo : (rest.map fun v => v.category).sum + (nativeFrameWords "java/lang/System" "arraycopy" 5 + 11) ≤ R.locals) (d : decode cc pc = .ok (.invokestatic index, 3))
    (kk : ∀ (H1 : Heap) (locs1 : List Loc) (S1 : vS), S1 = cpy S q0 q1 n → Wd D N cf ad A H0 S1 H1 locs1 → W p l e R s m args below meth c H1 locs1 cells slots Q (F0 m (pc + 3) ls rest)) : W p l e R s m args below meth c H locs cells slots Q (F0 m pc ls (.int x :: .int 0 :: .ref (ad q1) :: .int 0 :: .ref (ad q0) :: rest)) := by
  obtain ⟨hx1, hx2⟩ := hx
  refine va_copyi B.1.1 B.1.2.1 (B.1.2.2.1.trans hls.symm) B.1.2.2.2.1 hlink hnat hstat hini B.2.1.1 hW.1 hW.2.1 hW.2.2.1 q0 q1 0 0 (ty := .int) (by rw [wl_get hq0, he0]) (by rw [wl_get hq1, he1]) rfl rfl rfl (by decide) (by decide) hx1 (by rw [sb_cl0, hx2]; omega) (by rw [sb_cl0, hx2]; omega) (fun _ _ => rfl) hfr hlo d (fun H1 locs1 hP hD hS => ?_)
  rw [sb_cl0, hx2, ← he1, wl_set hq1] at hP hD
  exact kk H1 locs1 _ rfl ⟨hP, hD, hS, hW.2.2.2⟩
theorem pW_blind {sz : Nat} {av : List Value} : FrameBlind (pW D N cf ad sz S av) := fun a U g mk q => ⟨q.1, q.2.1, q.2.2.1, q.2.2.2.1.call, q.2.2.2.2⟩
theorem pW_go (hk : kC D s) (hW : Wd D N cf ad A H0 S H locs) {av : List Value} : ∀ U : State, U.heap = H → s.WarmedH U.vm → pW D N cf ad H.size S av av.toArray U := fun U hU h => ⟨rfl, by rw [hU], by rw [hU]; exact hW.1, hk.warm h, hW.2.1.weaken (fun _ _ _ _ => trivial)⟩
theorem aW_A (hW : Wd D N cf ad A H0 S H locs) : ∀ q, aW N ad H.size q → A q := by
  intro q h
  rcases h with ⟨k, hk, e⟩ | h
  · have := hW.2.1.2 k _ (wl_get hk)
    rw [← e]
    exact this
  · exact hW.2.2.2 q (Nat.le_trans hW.2.2.1.1 h)
theorem x_runV (B : Cx p m c cc nL s args Ts own meth ret D) (hW : Wd D N cf ad A H0 S H locs) {q ci : Nat} {fs : List Value} {C : String} {T : u_T} {NN : Nat} (hq : q < N) (he : cf q (S q) = .inr (ci, fs)) (hc : ClsOK ci C T NN) {index n maxL : Nat} {y : MethodName} {bytes : ByteArray} {rt : Option FieldType} {ws : List Cond} {rm : Room} {Qc : Array Value → State → Outcome → State → Prop} {free : Addr → Prop} {As : List Value}
    (hM : Met l y ws rm (pW D N cf ad H.size S (.ref (ad q) :: As)) Qc 0 0 free) (cw : CallW R s args own C index y bytes maxL rt ws rm 0 0 n) (hn : As.length = n) (hl : ls.size = nL) (hr : (rest.map fun v => v.category).sum ≤ 8) (d : decode cc pc = .ok (.invokevirtual index, 3)) (hf : cells ≤ R.cells ∧ slots ≤ R.slots) :
    va_Run p l e R s m args below meth c H locs cells slots 0 0 (F0 m pc ls (As.reverse ++ .ref (ad q) :: rest)) rest (Qc (Value.ref (ad q) :: As).toArray) free :=
  va_runV B.1 hM cw ⟨pW_blind, va_recv B.2.1.1 hW.1 hc.1 (by rw [wl_get hq, he]), pW_go B.2.1 hW⟩ rfl hn hl rfl (lv_room hr) d hf
theorem x_runVN (B : Cx p m c cc nL s args Ts own meth ret D) (hW : Wd D N cf ad A H0 S H locs) {q ci : Nat} {fs : List Value} {C host : String} {T : u_T} {NN : Nat} (hq : q < N) (he : cf q (S q) = .inr (ci, fs)) (hc : ClsOK ci C T NN) {index n maxL : Nat} {y : MethodName} {bytes : ByteArray} {rt : Option FieldType} {ws : List Cond} {rm : Room} {Qc : Array Value → State → Outcome → State → Prop} {free : Addr → Prop} {As : List Value}
    (hM : Met l y ws rm (pW D N cf ad H.size S (.ref (ad q) :: As)) Qc 0 0 free) (cw : va_CN R s args own index y host bytes maxL rt ws rm 0 0 n ∧ (Cond.instanceMethod y).before args s = true ∧ (Cond.selects C y y).before args s = true) (hn : As.length = n) (hl : ls.size = nL) (hr : (rest.map fun v => v.category).sum ≤ 8) (d : decode cc pc = .ok (.invokevirtual index, 3)) (hf : cells ≤ R.cells ∧ slots ≤ R.slots) :
    va_Run p l e R s m args below meth c H locs cells slots 0 0 (F0 m pc ls (As.reverse ++ .ref (ad q) :: rest)) rest (Qc (Value.ref (ad q) :: As).toArray) free :=
  va_runVN B.1 hM cw ⟨pW_blind, va_recv B.2.1.1 hW.1 hc.1 (by rw [wl_get hq, he]), pW_go B.2.1 hW⟩ rfl hn hl rfl (lv_room hr) d hf
theorem x_runS (B : Cx p m c cc nL s args Ts own meth ret D) (hW : Wd D N cf ad A H0 S H locs) {index n maxL : Nat} {y : MethodName} {bytes : ByteArray} {rt : Option FieldType} {ws : List Cond} {rm : Room} {Qc : Array Value → State → Outcome → State → Prop} {free : Addr → Prop} {As : List Value}
    (hM : Met l y ws rm (pW D N cf ad H.size S As) Qc 0 0 free) (cw : CallB R s args own index y bytes maxL rt ws rm 0 0 n ∧ (Cond.static y).before args s = true) (hn : As.length = n) (hl : ls.size = nL) (hr : (rest.map fun v => v.category).sum ≤ 8) (d : decode cc pc = .ok (.invokestatic index, 3)) (hf : cells ≤ R.cells ∧ slots ≤ R.slots) :
    va_Run p l e R s m args below meth c H locs cells slots 0 0 (F0 m pc ls (As.reverse ++ rest)) rest (Qc As.toArray) free :=
  va_runS B.1 hM cw ⟨pW_blind, pW_go B.2.1 hW⟩ rfl hn hl rfl (lv_room hr) d hf
theorem Wd.back (hW : Wd D N cf ad A H0 S H locs) {A1 : Nat → Prop} (hA : ∀ q, A1 q → A q) {S1 : vS} {t : State} {H1 : Heap} {locs1 : List Loc} (ht : t.heap = H1) (hB : bW D N cf ad A1 S1 t) (hS : va_S A H0 H1 locs1) : Wd D N cf ad A H0 S1 H1 locs1 :=
  ⟨by rw [← ht]; exact hB.1, hB.2.weaken (fun _ _ _ h => hA _ h), hS, hW.2.2.2⟩
theorem x_calli (hW : Wd D N cf ad A H0 S H locs) {post : Int32 → vS → Prop} {a : Array Value} {st0 : List Value} (hr : va_Run p l e R s m args below meth c H locs cells slots 0 0 (F0 m pc ls st0) rest (va_Qi post (bW D N cf ad (aW N ad H.size)) (aW N ad H.size) a) (aW N ad H.size))
    (kk : ∀ (r : Int32) (S1 : vS) (H1 : Heap) (locs1 : List Loc), post r S1 → Wd D N cf ad A H0 S1 H1 locs1 → W p l e R s m args below meth c H1 locs1 cells slots Q (F0 m (pc + 3) ls (.int r :: rest))) : W p l e R s m args below meth c H locs cells slots Q (F0 m pc ls st0) :=
  va_calli hr hW.2.2.1 (fun q _ h => aW_A hW q h) (aW_A hW) (fun r u _ H1 locs1 ht _ hp hB _ _ hS => kk r u H1 locs1 hp (hW.back (aW_A hW) ht hB hS))
theorem x_calll (hW : Wd D N cf ad A H0 S H locs) {post : Int64 → vS → Prop} {a : Array Value} {st0 : List Value} (hr : va_Run p l e R s m args below meth c H locs cells slots 0 0 (F0 m pc ls st0) rest (va_Ql post (bW D N cf ad (aW N ad H.size)) (aW N ad H.size) a) (aW N ad H.size))
    (kk : ∀ (r : Int64) (S1 : vS) (H1 : Heap) (locs1 : List Loc), post r S1 → Wd D N cf ad A H0 S1 H1 locs1 → W p l e R s m args below meth c H1 locs1 cells slots Q (F0 m (pc + 3) ls (.long r :: rest))) : W p l e R s m args below meth c H locs cells slots Q (F0 m pc ls st0) :=
  va_calll hr hW.2.2.1 (fun q _ h => aW_A hW q h) (aW_A hW) (fun r u _ H1 locs1 ht _ hp hB _ _ hS => kk r u H1 locs1 hp (hW.back (aW_A hW) ht hB hS))
theorem x_calld (hW : Wd D N cf ad A H0 S H locs) {post : UInt64 → vS → Prop} {a : Array Value} {st0 : List Value} (hr : va_Run p l e R s m args below meth c H locs cells slots 0 0 (F0 m pc ls st0) rest (va_Qd post (bW D N cf ad (aW N ad H.size)) (aW N ad H.size) a) (aW N ad H.size))
    (kk : ∀ (r : UInt64) (S1 : vS) (H1 : Heap) (locs1 : List Loc), post r S1 → Wd D N cf ad A H0 S1 H1 locs1 → W p l e R s m args below meth c H1 locs1 cells slots Q (F0 m (pc + 3) ls (.double r :: rest))) : W p l e R s m args below meth c H locs cells slots Q (F0 m pc ls st0) :=
  va_calld hr hW.2.2.1 (fun q _ h => aW_A hW q h) (aW_A hW) (fun r u _ H1 locs1 ht _ hp hB _ _ hS => kk r u H1 locs1 hp (hW.back (aW_A hW) ht hB hS))
theorem x_callv (hW : Wd D N cf ad A H0 S H locs) {post : vS → Prop} {a : Array Value} {st0 : List Value} (hr : va_Run p l e R s m args below meth c H locs cells slots 0 0 (F0 m pc ls st0) rest (va_Qv post (bW D N cf ad (aW N ad H.size)) (aW N ad H.size) a) (aW N ad H.size))
    (kk : ∀ (S1 : vS) (H1 : Heap) (locs1 : List Loc), post S1 → Wd D N cf ad A H0 S1 H1 locs1 → W p l e R s m args below meth c H1 locs1 cells slots Q (F0 m (pc + 3) ls rest)) : W p l e R s m args below meth c H locs cells slots Q (F0 m pc ls st0) :=
  va_callv hr hW.2.2.1 (fun q _ h => aW_A hW q h) (aW_A hW) (fun u _ H1 locs1 ht _ hp hB _ _ hS => kk u H1 locs1 hp (hW.back (aW_A hW) ht hB hS))
theorem x_callq (hW : Wd D N cf ad A H0 S H locs) {post : Option Nat → vS → Prop} {a : Array Value} {st0 : List Value} (hr : va_Run p l e R s m args below meth c H locs cells slots 0 0 (F0 m pc ls st0) rest (va_Qq post (bW D N cf ad (aW N ad H.size)) (aW N ad H.size) a) (aW N ad H.size))
    (kk : ∀ (r : Option Nat) (S1 : vS) (H1 : Heap) (locs1 : List Loc), post r S1 → Wd D N cf ad A H0 S1 H1 locs1 → W p l e R s m args below meth c H1 locs1 cells slots Q (F0 m (pc + 3) ls (va_rf r :: rest))) : W p l e R s m args below meth c H locs cells slots Q (F0 m pc ls st0) :=
  va_callq hr hW.2.2.1 (fun q _ h => aW_A hW q h) (aW_A hW) (fun r u _ H1 locs1 ht _ hp hB _ _ hS => kk r u H1 locs1 hp (hW.back (aW_A hW) ht hB hS))
theorem Wd.end (hW : Wd D N cf ad A s.heap S H locs) {t : State} (ht : t.heap = H) : bW D N cf ad A S t ∧ va_F A s t := ⟨⟨by rw [ht]; exact hW.1, hW.2.1⟩, hW.2.2.1.F ht⟩
theorem x_iret (B : Cx p m c cc nL s args Ts own meth (some .int) D) (hW : Wd D N cf ad A s.heap S H locs) {post : Int32 → vS → Prop} {r : Int32} (h : post r S) (d : decode cc pc = .ok (.ireturn, 1)) : W p l e R s m args below meth c H locs cells slots (MQ below (va_Qi post (bW D N cf ad A) A) args s cells slots A) (F0 m pc ls [.int r]) :=
  W.iret (v := r) B.1.1 B.1.2.1 B.2.2.1 (fun _ ht _ => ⟨⟨r, S, rfl, h, (hW.end ht).1⟩, (hW.end ht).2⟩) hW.2.2.1.2.2 d B.2.2.2
theorem x_zret (B : Cx p m c cc nL s args Ts own meth (some .boolean) D) (hW : Wd D N cf ad A s.heap S H locs) {post : Int32 → vS → Prop} {r : Int32} (hz : r = 0 ∨ r = 1) (h : post r S) (d : decode cc pc = .ok (.ireturn, 1)) : W p l e R s m args below meth c H locs cells slots (MQ below (va_Qi post (bW D N cf ad A) A) args s cells slots A) (F0 m pc ls [.int r]) :=
  W.zret (v := r) B.1.1 B.1.2.1 B.2.2.1 (by rcases hz with rfl | rfl <;> rfl) (fun _ ht _ => ⟨⟨r, S, rfl, h, (hW.end ht).1⟩, (hW.end ht).2⟩) hW.2.2.1.2.2 d B.2.2.2
theorem x_vret (B : Cx p m c cc nL s args Ts own meth none D) (hW : Wd D N cf ad A s.heap S H locs) {post : vS → Prop} (h : post S) (d : decode cc pc = .ok (.return_, 1)) : W p l e R s m args below meth c H locs cells slots (MQ below (va_Qv post (bW D N cf ad A) A) args s cells slots A) (F0 m pc ls []) :=
  W.vret B.1.1 B.1.2.1 B.2.2.1 (fun _ ht _ => ⟨⟨S, rfl, h, (hW.end ht).1⟩, (hW.end ht).2⟩) hW.2.2.1.2.2 d B.2.2.2
theorem x_lret (B : Cx p m c cc nL s args Ts own meth (some .long) D) (hW : Wd D N cf ad A s.heap S H locs) {post : Int64 → vS → Prop} {r : Int64} (h : post r S) (d : decode cc pc = .ok (.lreturn, 1)) : W p l e R s m args below meth c H locs cells slots (MQ below (va_Ql post (bW D N cf ad A) A) args s cells slots A) (F0 m pc ls [.long r]) :=
  W.lret (v := r) B.1.1 B.1.2.1 B.2.2.1 (fun _ ht _ => ⟨⟨r, S, rfl, h, (hW.end ht).1⟩, (hW.end ht).2⟩) hW.2.2.1.2.2 d B.2.2.2
theorem x_dret (B : Cx p m c cc nL s args Ts own meth (some .double) D) (hW : Wd D N cf ad A s.heap S H locs) {post : UInt64 → vS → Prop} {r : UInt64} (h : post r S) (d : decode cc pc = .ok (.dreturn, 1)) : W p l e R s m args below meth c H locs cells slots (MQ below (va_Qd post (bW D N cf ad A) A) args s cells slots A) (F0 m pc ls [.double r]) :=
  W.dret (v := r) B.1.1 B.1.2.1 B.2.2.1 (fun _ ht _ => ⟨⟨r, S, rfl, h, (hW.end ht).1⟩, (hW.end ht).2⟩) hW.2.2.1.2.2 d B.2.2.2
theorem x_aret {C : String} (B : Cx p m c cc nL s args Ts own meth (some (.object C)) D) (hW : Wd D N cf ad A s.heap S H locs) {post : Option Nat → vS → Prop} (r : Option Nat) {v : Value} (hv : va_rf r = v) (h : post r S) (d : decode cc pc = .ok (.areturn, 1)) : W p l e R s m args below meth c H locs cells slots (MQ below (va_Qq post (bW D N cf ad A) A) args s cells slots A) (F0 m pc ls [v]) :=
  W.aret (v := v) B.1.1 B.1.2.1 B.2.2.1 (Or.inl ⟨_, rfl⟩) (by rw [← hv]; cases r with | none => exact Or.inl rfl | some a => exact Or.inr ⟨a, rfl⟩) (fun _ ht _ => ⟨⟨r, S, by rw [hv], h, (hW.end ht).1⟩, (hW.end ht).2⟩) hW.2.2.1.2.2 d B.2.2.2
end ROWS
section STARTS
theorem x_ofWF {l : Launch} {y : MethodName} {ws ws' : List Cond} {rm : Room} {Pc : Array Value → State → Prop} {Qc : Array Value → State → Outcome → State → Prop} {mc ms : Nat} {free : Addr → Prop} {cc : ByteArray} {maxL : Nat} {ret : Option FieldType}
    (hy : plainFor y = true) (hw : ws = Cond.code y cc maxL ret :: ws')
    (body : ∀ p e s m args below meth c s₁, BodyLoose p l y (headSpec ws rm) cc maxL ret e s m args below meth c s₁ → c.maxLocals = maxL → Pc args s →
      W p l e (headSpec ws rm).room s m args below meth c s.heap [] 0 0 (MQ below Qc args s mc ms free) (entryFrame m args maxL)) : Met l y ws rm Pc Qc mc ms free := by
  refine MetFree.of_bodySF (code := cc) (maxLocals := maxL) (ret := ret) hy ?_ ?_
  · intro args s m h hn
    obtain ⟨meth, c, h1, h2, h3, h4, h5, h6, -, -⟩ := Cond.code_spec hn (atoms_spec (ws := ws) h _ (by rw [hw]; exact List.mem_cons_self))
    exact ⟨meth, c, h1, h2, h3, h4, h5, h6⟩
  · intro p e s m args below meth c s₁ B hml hP _
    have hh0 : s₁.heap = s.heap := by rw [B.state]; rfl
    obtain ⟨t, a1, o, b1, b2, b3⟩ := body p e s m args below meth c s₁ B hml hP s₁ hh0 (Stand.of_body B)
    exact ⟨t, o, a1, b1, b2, ⟨b3.1, b3.2⟩⟩
variable {l : Launch} {y : MethodName} {ws ws' : List Cond} {cc : ByteArray} {maxL sz : Nat} {ret : Option FieldType} {D : va_G} {N : Nat} {cf : Nat → (Nat → Int32) → va_E} {ad : Nat → Nat} {S : vS} {av : List Value} {rm : Room} {Qc : (Nat → Prop) → Array Value → State → Outcome → State → Prop} {own : String}
/-- a method's contract out of the walk of its body -/
theorem x_met (hw : ws = Cond.code y cc maxL ret :: ws') (hy : plainFor y = true ∧ y.cls = own ∧ (lg_sl av).length ≤ maxL)
    (body : ∀ (p : Program) (e : Env) (s : State) (m : MethodId) (args : Array Value) (below : List Frame) (meth : Method) (c : Code) (A : Nat → Prop) (ls : Array Slot), Cx p m c cc maxL s args ws own meth ret D → Wd D N cf ad A s.heap S s.heap [] → lv_has ls maxL (lv_args 0 av) → ls.size = maxL →
      W p l e rm s m args below meth c s.heap [] 0 0 (MQ below (Qc A) args s 0 0 A) (F0 m 0 ls [])) :
    Met l y ws rm (pW D N cf ad sz S av) (Qc (aW N ad sz)) 0 0 (aW N ad sz) := by
  refine x_ofWF (cc := cc) (maxL := maxL) (ret := ret) hy.1 hw ?_
  intro p e s m args below meth c s₁ B hml hv
  obtain ⟨rfl, hsz, hP, hK, hD0⟩ := hv
  have hts := atoms_spec (ws := ws) B.pre
  have hown : s.vm.findClass y.cls = some m.cls := findClass_of_methodNamed B.named
  rw [hy.2.1] at hown
  subst hsz
  have hl := lv_entry av (n := maxL) hy.2.2
  rw [lg_entry_eq]
  generalize (lg_sl av ++ List.replicate (maxL - (lg_sl av).length) Slot.unset).toArray = ls at hl ⊢
  refine body p e s m av.toArray below meth c _ ls ⟨⟨B.exec, B.bytes, hml, hown, hts⟩, hK, B.returns, B.notSynchronized⟩ ⟨hP, ⟨hD0.1, fun k q hk => ?_⟩, va_S.rf, fun q h => Or.inr h⟩ hl hl.1
  obtain ⟨h1, h2⟩ := wl_in hk
  exact Or.inl ⟨k, h1, by rw [h2]⟩
end STARTS
