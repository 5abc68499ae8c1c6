section CODES
variable {S : vS}
theorem cd_mot (p1 : Int32) : x_X4_memberOrThrow S p1 = (2, 0) ∨ ∃ k, x_X4_memberOrThrow S p1 = (0, k) := by
  unfold x_X4_memberOrThrow
  cases x_X0_find S 0 p1 with
  | none => exact Or.inl rfl
  | some k => exact Or.inr ⟨k, rfl⟩
theorem cd_money (p1 : Int32) : x_X4_checkMoney S p1 = (3, 0) ∨ x_X4_checkMoney S p1 = (0, 0) := by
  unfold x_X4_checkMoney
  split
  · exact Or.inl rfl
  split
  · exact Or.inr rfl
  · exact Or.inl rfl
theorem cd_sett (p1 : Int32) : x_X4_checkSetting S p1 = (2, 0) ∨ x_X4_checkSetting S p1 = (0, 0) := by
  unfold x_X4_checkSetting
  split
  · exact Or.inl rfl
  split
  · exact Or.inr rfl
  · exact Or.inl rfl
theorem cd_loop : ∀ (n : Nat) (S : vS) (i : Nat) (v : Int32), (x_X4_run_L42 n S i v).1.1 = 0 := by
  intro n
  induction n with
  | zero => intro S i v; rfl
  | succ n ih =>
    intro S i v
    rw [x_X4_run_L42.eq_2]
    simp only [nm_eq, nmp_eq]
    repeat' split
    all_goals first | rfl | exact ih _ _ _
theorem cd_join : (x_X4_join S).1.1 = 0 ∨ (x_X4_join S).1.1 = 1 := by
  unfold x_X4_join
  try simp only [nm_eq, nmp_eq]
  repeat' split
  all_goals first | exact (Or.inl rfl) | exact (Or.inr rfl) | exact Or.inl trivial | simp
theorem cd_leave (p1 : Int32) : (x_X4_leave S p1).1.1 = 0 ∨ (x_X4_leave S p1).1.1 = 1 ∨ (x_X4_leave S p1).1.1 = 2 := by
  unfold x_X4_leave tbp
  rcases cd_mot (S := S) p1 with e | ⟨k, e⟩
  · rw [e, if_neg (show ¬ ((2 : Nat), (0 : Nat)).1 = 0 by decide)]; exact (Or.inr (Or.inr rfl))
  rw [e, if_pos rfl]
  try simp only [nm_eq, nmp_eq]
  repeat' split
  all_goals first | exact (Or.inl rfl) | exact (Or.inr (Or.inl rfl)) | exact (Or.inr (Or.inr rfl)) | exact Or.inl trivial | simp
theorem cd_lend (p1 : Int32) (p2 : Int32) (p3 : Int32) : (x_X4_lend S p1 p2 p3).1.1 = 0 ∨ (x_X4_lend S p1 p2 p3).1.1 = 1 ∨ (x_X4_lend S p1 p2 p3).1.1 = 2 ∨ (x_X4_lend S p1 p2 p3).1.1 = 3 := by
  unfold x_X4_lend tbp
  rcases cd_mot (S := S) p1 with e | ⟨k, e⟩
  · rw [e, if_neg (show ¬ ((2 : Nat), (0 : Nat)).1 = 0 by decide)]; exact (Or.inr (Or.inr (Or.inl rfl)))
  rw [e, if_pos rfl]
  try simp only [nm_eq, nmp_eq]
  repeat' split
  all_goals first | exact (Or.inl rfl) | exact (Or.inr (Or.inl rfl)) | exact (Or.inr (Or.inr (Or.inl rfl))) | exact (Or.inr (Or.inr (Or.inr rfl))) | exact Or.inl trivial | simp
theorem cd_absent (p1 : Int32) : (x_X4_absent S p1).1.1 = 0 ∨ (x_X4_absent S p1).1.1 = 2 := by
  unfold x_X4_absent tbp
  rcases cd_mot (S := S) p1 with e | ⟨k, e⟩
  · rw [e, if_neg (show ¬ ((2 : Nat), (0 : Nat)).1 = 0 by decide)]; exact (Or.inr rfl)
  rw [e, if_pos rfl]
  try simp only [nm_eq, nmp_eq]
  repeat' split
  all_goals first | exact (Or.inl rfl) | exact (Or.inr rfl) | exact Or.inl trivial | simp
theorem cd_week : (x_X4_week S).1.1 = 0 ∨ (x_X4_week S).1.1 = 1 := by
  unfold x_X4_week
  try simp only [nm_eq, nmp_eq]
  repeat' split
  all_goals first | exact (Or.inl rfl) | exact (Or.inr rfl) | exact Or.inl trivial | simp
theorem cd_payBack (p1 : Int32) (p2 : Int32) : (x_X4_payBack S p1 p2).1.1 = 0 ∨ (x_X4_payBack S p1 p2).1.1 = 1 ∨ (x_X4_payBack S p1 p2).1.1 = 2 ∨ (x_X4_payBack S p1 p2).1.1 = 3 := by
  unfold x_X4_payBack tbp
  rcases cd_mot (S := S) p1 with e | ⟨k, e⟩
  · rw [e, if_neg (show ¬ ((2 : Nat), (0 : Nat)).1 = 0 by decide)]; exact (Or.inr (Or.inr (Or.inl rfl)))
  rw [e, if_pos rfl]
  dsimp only
  rcases cd_money (S := S) p2 with e | e
  · rw [e, if_neg (show ¬ ((3 : Nat), (0 : Int32)).1 = 0 by decide)]; exact (Or.inr (Or.inr (Or.inr rfl)))
  rw [e, if_pos rfl]
  try simp only [nm_eq, nmp_eq]
  repeat' split
  all_goals first | exact (Or.inl rfl) | exact (Or.inr (Or.inl rfl)) | exact (Or.inr (Or.inr (Or.inl rfl))) | exact (Or.inr (Or.inr (Or.inr rfl))) | exact Or.inl trivial | simp
theorem cd_help (p1 : Int32) (p2 : Int32) : (x_X4_help S p1 p2).1.1 = 0 ∨ (x_X4_help S p1 p2).1.1 = 1 ∨ (x_X4_help S p1 p2).1.1 = 2 ∨ (x_X4_help S p1 p2).1.1 = 3 := by
  unfold x_X4_help tbp
  rcases cd_mot (S := S) p1 with e | ⟨k, e⟩
  · rw [e, if_neg (show ¬ ((2 : Nat), (0 : Nat)).1 = 0 by decide)]; exact (Or.inr (Or.inr (Or.inl rfl)))
  rw [e, if_pos rfl]
  dsimp only
  rcases cd_money (S := S) p2 with e | e
  · rw [e, if_neg (show ¬ ((3 : Nat), (0 : Int32)).1 = 0 by decide)]; exact (Or.inr (Or.inr (Or.inr rfl)))
  rw [e, if_pos rfl]
  try simp only [nm_eq, nmp_eq]
  repeat' split
  all_goals first | exact (Or.inl rfl) | exact (Or.inr (Or.inl rfl)) | exact (Or.inr (Or.inr (Or.inl rfl))) | exact (Or.inr (Or.inr (Or.inr rfl))) | exact Or.inl trivial | simp
theorem cd_cycle : (x_X4_cycle S).1.1 = 0 ∨ (x_X4_cycle S).1.1 = 1 := by
  unfold x_X4_cycle
  try simp only [nm_eq, nmp_eq]
  repeat' split
  all_goals first | exact (Or.inl rfl) | exact (Or.inr rfl) | exact Or.inl trivial | simp
theorem cd_set (p1 : Int32) (p2 : Int32) : (x_X4_set S p1 p2).1.1 = 0 ∨ (x_X4_set S p1 p2).1.1 = 2 ∨ (x_X4_set S p1 p2).1.1 = 3 := by
  unfold x_X4_set tbp
  rcases cd_sett (S := S) p1 with e | e
  · rw [e, if_neg (show ¬ ((2 : Nat), (0 : Int32)).1 = 0 by decide)]; exact (Or.inr (Or.inl rfl))
  rw [e, if_pos rfl]
  try simp only [nm_eq, nmp_eq]
  repeat' split
  all_goals first | exact (Or.inl rfl) | exact (Or.inr (Or.inl rfl)) | exact (Or.inr (Or.inr rfl)) | exact Or.inl trivial | simp
theorem cd_append (p1 : Int32) : (x_X4_append S p1).1.1 = 0 ∨ (x_X4_append S p1).1.1 = 1 ∨ (x_X4_append S p1).1.1 = 3 := by
  unfold x_X4_append
  try simp only [nm_eq, nmp_eq]
  repeat' split
  all_goals first | exact (Or.inl rfl) | exact (Or.inr (Or.inl rfl)) | exact (Or.inr (Or.inr rfl)) | exact Or.inl trivial | simp
theorem cd_run : (x_X4_run S).1.1 = 0 ∨ (x_X4_run S).1.1 = 3 := by
  unfold x_X4_run
  simp only [nm_eq, nmp_eq]
  split
  · exact Or.inr rfl
  · exact Or.inl (cd_loop _ _ _ _)
theorem cd_undo : (x_X4_undo S).1.1 = 0 ∨ (x_X4_undo S).1.1 = 1 := by
  unfold x_X4_undo
  try simp only [nm_eq, nmp_eq]
  repeat' split
  all_goals first | exact (Or.inl rfl) | exact (Or.inr rfl) | exact Or.inl trivial | simp
theorem cd_member (p1 : Int32) (p2 : Int32) : (x_X4_member S p1 p2).1 = 0 ∨ (x_X4_member S p1 p2).1 = 2 ∨ (x_X4_member S p1 p2).1 = 3 := by
  unfold x_X4_member tbq
  rcases cd_mot (S := S) p1 with e | ⟨k, e⟩
  · rw [e, if_neg (show ¬ ((2 : Nat), (0 : Nat)).1 = 0 by decide)]; exact (Or.inr (Or.inl rfl))
  rw [e, if_pos rfl]
  try simp only [nm_eq, nmp_eq]
  repeat' split
  all_goals first | exact (Or.inl rfl) | exact (Or.inr (Or.inl rfl)) | exact (Or.inr (Or.inr rfl)) | exact Or.inl trivial | simp
theorem cd_owes (p1 : Int32) (p2 : Int32) : (x_X4_owes S p1 p2).1 = 0 ∨ (x_X4_owes S p1 p2).1 = 2 := by
  unfold x_X4_owes tbq
  rcases cd_mot (S := S) p1 with e | ⟨k, e⟩
  · rw [e, if_neg (show ¬ ((2 : Nat), (0 : Nat)).1 = 0 by decide)]; exact (Or.inr rfl)
  rw [e, if_pos rfl]
  dsimp only
  rcases cd_mot (S := S) p2 with e | ⟨k2, e⟩
  · rw [e, if_neg (show ¬ ((2 : Nat), (0 : Nat)).1 = 0 by decide)]; exact (Or.inr rfl)
  rw [e, if_pos rfl]
  try simp only [nm_eq, nmp_eq]
  repeat' split
  all_goals first | exact (Or.inl rfl) | exact (Or.inr rfl) | exact Or.inl trivial | simp
theorem cd_count (p1 : Int32) : (x_X4_count S p1).1 = 0 ∨ (x_X4_count S p1).1 = 3 := by
  unfold x_X4_count
  try simp only [nm_eq, nmp_eq]
  repeat' split
  all_goals first | exact (Or.inl rfl) | exact (Or.inr rfl) | exact Or.inl trivial | simp
theorem cd_setting (p1 : Int32) : (x_X4_setting S p1).1 = 0 ∨ (x_X4_setting S p1).1 = 2 := by
  unfold x_X4_setting tbq
  rcases cd_sett (S := S) p1 with e | e
  · rw [e, if_neg (show ¬ ((2 : Nat), (0 : Int32)).1 = 0 by decide)]; exact (Or.inr rfl)
  rw [e, if_pos rfl]
  try simp only [nm_eq, nmp_eq]
  repeat' split
  all_goals first | exact (Or.inl rfl) | exact (Or.inr rfl) | exact Or.inl trivial | simp
theorem cd_ifAbsent (p1 : Int32) (p2 : Int32) : (x_X4_ifAbsent S p1 p2).1.1 = 0 ∨ (x_X4_ifAbsent S p1 p2).1.1 = 3 := by
  unfold x_X4_ifAbsent
  try simp only [nm_eq, nmp_eq]
  repeat' split
  all_goals first | exact (Or.inl rfl) | exact (Or.inr rfl) | exact Or.inl trivial | simp
theorem cd_fundLasts (p1 : Int32) : (x_X4_fundLasts S p1).1 = 0 ∨ (x_X4_fundLasts S p1).1 = 2 := by
  unfold x_X4_fundLasts tbq
  rcases cd_mot (S := S) p1 with e | ⟨k, e⟩
  · rw [e, if_neg (show ¬ ((2 : Nat), (0 : Nat)).1 = 0 by decide)]; exact (Or.inr rfl)
  rw [e, if_pos rfl]
  try simp only [nm_eq, nmp_eq]
  repeat' split
  all_goals first | exact (Or.inl rfl) | exact (Or.inr rfl) | exact Or.inl trivial | simp
theorem cd_ifCycle (p1 : Int32) : (x_X4_ifCycle S p1).1 = 0 ∨ (x_X4_ifCycle S p1).1 = 2 := by
  unfold x_X4_ifCycle tbq
  rcases cd_mot (S := S) p1 with e | ⟨k, e⟩
  · rw [e, if_neg (show ¬ ((2 : Nat), (0 : Nat)).1 = 0 by decide)]; exact (Or.inr rfl)
  rw [e, if_pos rfl]
  try simp only [nm_eq, nmp_eq]
  repeat' split
  all_goals first | exact (Or.inl rfl) | exact (Or.inr rfl) | exact Or.inl trivial | simp
end CODES
