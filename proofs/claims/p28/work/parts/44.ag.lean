section AGR
/-- the places of a row that a member who left may keep otherwise -/
def sof (j : Nat) : Prop := 13 ≤ j ∧ j < 125 ∧ ((j - 13) % 14 = 1 ∨ (7 ≤ (j - 13) % 14 ∧ (j - 13) % 14 ≤ 9) ∨ 12 ≤ (j - 13) % 14)
def okA (hr : Nat → Prop) (j : Nat) : Prop := j < 189 ∧ j ≠ 11 ∧ (sof j → hr ((j - 13) / 14))
def AG (A : Nat → Prop) (F H : vF) : Prop := ∀ j, A j → F j = H j
variable {A : Nat → Prop} {F H : vF} {G : vG} {hr : Nat → Prop} {m k i n : Nat} {x y v : Int32}
theorem AG.up (h : AG A F H) (e : x = y) : AG A (upd F i x) (upd H i y) := by
  intro j hj
  rw [upd_at, upd_at, h j hj, e]
theorem AG.right (h : AG A F H) (hi : ¬ A i) : AG A F (upd H i y) := by
  intro j hj
  have hne : j ≠ i := fun e => hi (by rw [← e]; exact hj)
  rw [upd_ne hne]
  exact h j hj
theorem AG.left (h : AG A F H) (hi : ¬ A i) : AG A (upd F i y) H := by
  intro j hj
  have hne : j ≠ i := fun e => hi (by rw [← e]; exact hj)
  rw [upd_ne hne]
  exact h j hj
theorem okA_11 : ¬ okA hr 11 := fun h => h.2.1 rfl
theorem okA_g {j : Nat} (h : j < 13) (h2 : j ≠ 11) : okA hr j := ⟨by omega, h2, fun s => absurd s.1 (by omega)⟩
theorem okA_d (hm : m < 8) (hi : i < 8) : okA hr (125 + 8 * m + i) := ⟨by omega, by omega, fun s => absurd s.2.1 (by omega)⟩
theorem okA_h {w : Nat} (hm : m < 8) (hw : w = 0 ∨ w = 2 ∨ w = 3 ∨ w = 4 ∨ w = 5 ∨ w = 6 ∨ w = 10 ∨ w = 11) : okA hr (13 + 14 * m + w) :=
  ⟨by omega, by omega, fun s => absurd s.2.2 (by have : (13 + 14 * m + w - 13) % 14 = w := by omega
                                                 rw [this]; omega)⟩
theorem okA_s {w : Nat} (hm : m < 8) (hw : w < 14) (h : hr m) : okA hr (13 + 14 * m + w) :=
  ⟨by omega, by omega, fun _ => by rw [show (13 + 14 * m + w - 13) / 14 = m by omega]; exact h⟩
theorem upq_1 : (upq G i x).1 = upd G.1 i x := rfl
theorem upq_2 : (upq G i x).2 = G.2 := rfl
theorem up6_1 : (up6 G i x).1 = G.1 := rfl
theorem up6_2 : (up6 G i x).2.1 = upd G.2.1 i x := rfl
theorem up6_3 : (up6 G i x).2.2 = G.2.2 := rfl
theorem upu_1 : (upu G x).1 = G.1 := rfl
theorem upu_2 : (upu G x).2.1 = G.2.1 := rfl
theorem upu_3 : (upu G x).2.2 = x := rfl
/-- the model's G and the class's row H in the middle of a week: v is paid and not yet in the model's books; B: what was paid for others before -/
def SR (hr : Nat → Prop) (B : Nat → Int32) (G : vG) (H : vF) (v : Int32) : Prop :=
  AG (okA hr) G.1 H ∧ H 11 = G.1 11 + v ∧ (∀ o, o < 8 → H (13 + 14 * o + 13) = B o + G.2.1 o) ∧ (∀ o, o < 8 → (G.1 (13 + 14 * o + 0) = 0 ∨ G.1 (13 + 14 * o + 0) = 1)) ∧ (∀ o, o < 8 → G.1 (13 + 14 * o + 0) = 1 → hr o)
variable {B : Nat → Int32}
theorem SR.g (h : SR hr B G H v) {j : Nat} (hj : j < 13) (h2 : j ≠ 11) : H j = G.1 j := (h.1 j (okA_g hj h2)).symm
theorem SR.d (h : SR hr B G H v) (hm : m < 8) (hi : i < 8) : H (125 + 8 * m + i) = G.1 (125 + 8 * m + i) := (h.1 _ (okA_d hm hi)).symm
theorem SR.h (h : SR hr B G H v) (hm : m < 8) {w : Nat} (hw : w = 0 ∨ w = 2 ∨ w = 3 ∨ w = 4 ∨ w = 5 ∨ w = 6 ∨ w = 10 ∨ w = 11) : H (13 + 14 * m + w) = G.1 (13 + 14 * m + w) := (h.1 _ (okA_h hm hw)).symm
theorem SR.s (h : SR hr B G H v) (hm : m < 8) {w : Nat} (hw : w < 14) (e : G.1 (13 + 14 * m + 0) = 1) : H (13 + 14 * m + w) = G.1 (13 + 14 * m + w) := (h.1 _ (okA_s hm hw (h.2.2.2.2 m hm e))).symm
/-- the same place on both sides, not a flag, not what is paid for others, not what the bank was paid -/
theorem SR.up (h : SR hr B G H v) (e : x = y) (h11 : i ≠ 11) (h0 : ∀ o, o < 8 → i ≠ 13 + 14 * o + 0) (h13 : ∀ o, o < 8 → i ≠ 13 + 14 * o + 13) : SR hr B (upq G i x) (upd H i y) v := by
  refine ⟨h.1.up e, ?_, ?_, ?_, ?_⟩
  · rw [upd_ne (Ne.symm h11), upq_1, upd_ne (Ne.symm h11)]; exact h.2.1
  · intro o ho
    rw [upd_ne (Ne.symm (h13 o ho)), upq_2]
    exact h.2.2.1 o ho
  · intro o ho
    rw [upq_1, upd_ne (Ne.symm (h0 o ho))]
    exact h.2.2.2.1 o ho
  · intro o ho
    rw [upq_1, upd_ne (Ne.symm (h0 o ho))]
    exact h.2.2.2.2 o ho
theorem SR.pay (h : SR hr B G H v) (e : y = H 11 + x) : SR hr B G (upd H 11 y) (v + x) := by
  refine ⟨h.1.right okA_11, ?_, ?_, h.2.2.2.1, h.2.2.2.2⟩
  · rw [upd_same, e, h.2.1]; exact Int32.add_assoc _ _ _
  · intro o ho
    rw [upd_ne (by omega)]
    exact h.2.2.1 o ho
theorem SR.unp (h : SR hr B G H v) : SR hr B (upu G x) H v := h
theorem bz_iff {x : Int32} : bz x = 0 ↔ x = 0 := by
  unfold bz
  by_cases h : x = 0
  · simp [h]
  · simp [h]
theorem SR.here (h : SR hr B G H v) (hm : m < 8) : bz (H (13 + 14 * m + 0)) = 0 ↔ ¬ G.1 (13 + 14 * m + 0) = 1 := by
  rw [bz_iff, h.h hm (Or.inl rfl)]
  rcases h.2.2.2.1 m hm with e | e <;> rw [e] <;> decide
/-- small counts -/
theorem sL_cnt {f : Nat → Int32} : ∀ (n i c : Nat), (∀ j, i ≤ j → j < i + n → f j = 0 ∨ f j = 1) → ∃ d, d ≤ c + n ∧ sL n f i (nI c) = nI d := by
  intro n
  induction n with
  | zero => intro i c h; exact ⟨c, by omega, rfl⟩
  | succ n ih =>
    intro i c h
    show ∃ d, d ≤ c + (n + 1) ∧ sL n f (i + 1) (nI c + f i) = nI d
    rcases h i (Nat.le_refl i) (by omega) with e | e
    · rw [e, Int32.add_zero]
      obtain ⟨d, h1, h2⟩ := ih (i + 1) c fun j h1 h2 => h j (by omega) (by omega)
      exact ⟨d, by omega, h2⟩
    · rw [e, nI_1]
      obtain ⟨d, h1, h2⟩ := ih (i + 1) (c + 1) fun j h1 h2 => h j (by omega) (by omega)
      exact ⟨d, by omega, h2⟩
theorem s8_cnt {f : Nat → Int32} (h : ∀ j, j < 8 → f j = 0 ∨ f j = 1) : ∃ d, d ≤ 8 ∧ s8 f = nI d := by
  obtain ⟨d, h1, h2⟩ := sL_cnt (f := f) 8 0 0 fun j _ h2 => h j (by omega)
  exact ⟨d, by omega, h2⟩
theorem sL_sub {f g : Nat → Int32} : ∀ (n i : Nat) (v w : Int32), sL n f i v - sL n g i w = sL n (fun j => f j - g j) i (v - w) := by
  intro n
  induction n with
  | zero => intro i v w; rfl
  | succ n ih =>
    intro i v w
    show sL n f (i + 1) (v + f i) - sL n g (i + 1) (w + g i) = sL n _ (i + 1) ((v - w) + (f i - g i))
    rw [ih]
    have : v + f i - (w + g i) = v - w + (f i - g i) := by grind
    rw [this]
theorem s8_sub {f g : Nat → Int32} : s8 f - s8 g = s8 (fun j => f j - g j) := sL_sub 8 0 0 0
/-- the helpers, counted on both sides -/
theorem SR.helpers (h : SR hr B G H v) : v_X0_memberCount H - v_X0_awayMembers H = w_helpers G.1 ∧ ∃ d, d ≤ 8 ∧ w_helpers G.1 = nI d := by
  rw [t_v_X0_memberCount, t_v_X0_awayMembers, t_w_helpers, s8_sub]
  constructor
  · refine s8_congr fun j hj => ?_
    by_cases c : G.1 (13 + 14 * j + 0) = 1
    · have c2 : ¬ bz (H (13 + 14 * j + 0)) = 0 := fun q => (h.here hj).mp q c
      rw [if_neg c2, if_neg c2, if_pos c]
      have e := h.s hj (w := 7) (by decide) c
      by_cases c3 : G.1 (13 + 14 * j + 7) = 0
      · rw [if_pos (bz_iff.mpr (e.trans c3)), if_pos c3]; decide
      · rw [if_neg (fun q => c3 (e.symm.trans (bz_iff.mp q))), if_neg c3]; decide
    · have c2 : bz (H (13 + 14 * j + 0)) = 0 := (h.here hj).mpr c
      rw [if_pos c2, if_pos c2, if_neg c]; decide
  · refine s8_cnt fun j hj => ?_
    split
    · split
      · exact Or.inr rfl
      · exact Or.inl rfl
    · exact Or.inl rfl
/-- the rest shared among the helpers -/
theorem sr_share (hm : m < 8) {rest h d : Int32} {hn : Nat} (hh : h = nI hn) (hh1 : 0 < hn) (hh2 : hn ≤ 8) : ∀ (n i c : Nat) (G : vG) (H : vF) (v w : Int32), i + n = 8 → c ≤ i → w = (rest - rest / h * h) - nI c → SR hr B G H v →
    ∃ G', w_misses_L122 (n + 1) G (nI m) i (nI c) h rest d = (d, G') ∧ SR hr B G' (v_X0_shareRest_L29 (n + 1) H m rest h i w (rest / h)) (v + rest) := by
  have hr_ := i32_rem rest hh1 (by omega)
  rw [← hh] at hr_
  have hlt : (rest.toInt.tmod hn).natAbs < hn := by
    rw [Int.natAbs_tmod]
    exact Nat.mod_lt _ (by simpa using hh1)
  generalize hq : rest - rest / h * h = q at hr_
  intro n
  induction n with
  | zero =>
    intro i c G H v w hi hc hw hS
    obtain rfl : i = 8 := by omega
    refine ⟨G, ?_, ?_⟩
    · rw [w_misses_L122.eq_2, if_pos le8]
    · rw [v_X0_shareRest_L29.eq_2, if_pos le8, nm_eq]
      exact hS.pay rfl
  | succ n ih =>
    intro i c G H v w hi hc hw hS
    have hi8 : i < 8 := by omega
    rw [w_misses_L122.eq_2, if_neg (ge8 hi8), v_X0_shareRest_L29.eq_2, if_neg (ge8 hi8)]
    rw [nm_eq, nof_0 hi8]
    by_cases c1 : G.1 (13 + 14 * i + 0) = 1
    · rw [if_pos c1, if_neg (fun q => (hS.here hi8).mp q c1), nm_eq, nof_7 hi8]
      have e7 := hS.s hi8 (w := 7) (by decide) c1
      have e13 := hS.s hi8 (w := 13) (by decide) c1
      by_cases c2 : G.1 (13 + 14 * i + 7) = 0
      · rw [if_pos c2, if_pos (bz_iff.mpr (e7.trans c2)), hq]
        have hcv : (nI c).toInt = c := nI_toInt (by omega)
        have hwv : w.toInt = q.toInt - c := by
          rw [hw, fb_subI (by omega) (by omega), hcv]
        have z : (0 : Int32).toInt = 0 := by decide
        have hiff : w ≤ 0 ↔ q ≤ nI c := by
          rw [Int32.le_iff_toInt_le, Int32.le_iff_toInt_le, hcv, hwv, z]
          omega
        have hw2 : w + -1 = q - nI (c + 1) := by
          rw [hw, ← nI_1]
          grind
        have step : ∀ s : Int32, SR hr B (up6 (upq (upq G (125 + 8 * m + i) (G.1 (125 + 8 * m + i) + s)) (13 + 14 * i + 13) (G.1 (13 + 14 * i + 13) + s)) i (G.2.1 i + s)) (upd (upd H (125 + 8 * m + i) (H (125 + 8 * m + i) + s)) (13 + 14 * i + 13) (H (13 + 14 * i + 13) + s)) v := by
          intro s
          have h1 := hS.up (i := 125 + 8 * m + i) (x := G.1 (125 + 8 * m + i) + s) (y := H (125 + 8 * m + i) + s) (by rw [hS.d hm hi8]) (by omega) (fun o ho => by omega) (fun o ho => by omega)
          refine ⟨h1.1.up (by rw [e13]), ?_, ?_, ?_, ?_⟩
          · simp (disch := omega) only [upd_ne, up6_1, upq_1]
            exact hS.2.1
          · intro o ho
            by_cases c3 : o = i
            · subst c3
              simp (disch := omega) only [upd_same, up6_2, upq_2]
              rw [hS.2.2.1 o ho]
              exact Int32.add_assoc _ _ _
            · simp (disch := omega) only [upd_ne, up6_2, upq_2]
              exact hS.2.2.1 o ho
          · intro o ho
            simp (disch := omega) only [upd_ne, up6_1, upq_1]
            exact hS.2.2.2.1 o ho
          · intro o ho
            simp (disch := omega) only [upd_ne, up6_1, upq_1]
            exact hS.2.2.2.2 o ho
        by_cases c3 : q ≤ nI c
        · rw [if_pos c3, if_pos (hiff.mpr c3)]
          simp only [nm_eq, nad_13 hi8, cl8 hm, Int32.add_zero, upq_1, upq_2, nI_1]
          rw [upd_ne (F := G.1) (i := 125 + 8 * m + i) (by omega), upd_ne (F := H) (i := 125 + 8 * m + i) (by omega)]
          exact ih (i + 1) (c + 1) _ _ v _ (by omega) (by omega) hw2 (step _)
        · rw [if_neg c3, if_neg (fun q => c3 (hiff.mp q))]
          simp only [nm_eq, nad_13 hi8, cl8 hm, upq_1, upq_2, nI_1]
          rw [upd_ne (F := G.1) (i := 125 + 8 * m + i) (by omega), upd_ne (F := H) (i := 125 + 8 * m + i) (by omega)]
          exact ih (i + 1) (c + 1) _ _ v _ (by omega) (by omega) hw2 (step _)
      · rw [if_neg c2, if_neg (fun q => c2 (e7.symm.trans (bz_iff.mp q)))]
        exact ih (i + 1) c G H v w (by omega) (by omega) hw hS
    · rw [if_neg c1, if_pos ((hS.here hi8).mpr c1)]
      exact ih (i + 1) c G H v w (by omega) (by omega) hw hS
end AGR
