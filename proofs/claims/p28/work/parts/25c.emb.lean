section EMB
abbrev vF : Type := Nat → Int32
def ivG (j : Nat) : Option Nat := if j = 2 then some 3 else if j = 3 then some 0 else if j = 4 then some 1 else if j = 5 then some 2 else if j = 6 then some 8 else if j = 7 then some 9 else if j = 8 then some 10 else if j = 9 then some 11 else if j = 10 then some 12 else none
def ivM (m j : Nat) : Option Nat := if j = 1 then some (13 + 14 * m + 0) else if j = 2 then some (13 + 14 * m + 1) else if j = 3 then some (13 + 14 * m + 2) else if j = 4 then some (13 + 14 * m + 5) else if j = 5 then some (13 + 14 * m + 6) else if j = 6 then some (13 + 14 * m + 3) else if j = 7 then some (13 + 14 * m + 4) else if j = 8 then some (13 + 14 * m + 7) else if j = 9 then some (13 + 14 * m + 8) else if j = 10 then some (13 + 14 * m + 9) else if j = 11 then some (13 + 14 * m + 10) else if j = 12 then some (13 + 14 * m + 11) else if j = 13 then some (13 + 14 * m + 12) else if j = 14 then some (13 + 14 * m + 13) else none
/-- the place in the row of a slot of a group's cell -/
def inv (o j : Nat) : Option Nat :=
  if o = 0 then ivG j
  else if o = 2 then (if j < 4 then some (4 + j) else none)
  else if 3 ≤ o ∧ o < 11 then ivM (o - 3) j
  else if 11 ≤ o ∧ o < 19 then (if j < 8 then some (125 + 8 * (o - 11) + j) else none)
  else none
def bkW (w : Nat) : Nat := if w = 0 then 1 else if w = 1 then 2 else if w = 2 then 3 else if w = 5 then 4 else if w = 6 then 5 else if w = 3 then 6 else if w = 4 then 7 else if w = 7 then 8 else if w = 8 then 9 else if w = 9 then 10 else if w = 10 then 11 else if w = 11 then 12 else if w = 12 then 13 else if w = 13 then 14 else 0
def bkG (w : Nat) : Nat := if w = 3 then 2 else if w = 0 then 3 else if w = 1 then 4 else if w = 2 then 5 else if w = 8 then 6 else if w = 9 then 7 else if w = 10 then 8 else if w = 11 then 9 else if w = 12 then 10 else 0
def bkO (i : Nat) : Nat := if i < 4 then 0 else if i < 8 then 2 else if i < 13 then 0 else if i < 125 then 3 + (i - 13) / 14 else 11 + (i - 125) / 8
def bkJ (i : Nat) : Nat := if i < 4 then bkG i else if i < 8 then i - 4 else if i < 13 then bkG i else if i < 125 then bkW ((i - 13) % 14) else (i - 125) % 8
theorem inv_big {o j : Nat} (h : 15 ≤ j) : inv o j = none := by
  unfold inv ivG ivM
  simp only [show ¬ j = 1 by omega, show ¬ j = 2 by omega, show ¬ j = 3 by omega, show ¬ j = 4 by omega, show ¬ j = 5 by omega, show ¬ j = 6 by omega, show ¬ j = 7 by omega, show ¬ j = 8 by omega, show ¬ j = 9 by omega, show ¬ j = 10 by omega, show ¬ j = 11 by omega, show ¬ j = 12 by omega, show ¬ j = 13 by omega, show ¬ j = 14 by omega, show ¬ j < 4 by omega, show ¬ j < 8 by omega, if_false]
  repeat' split
  all_goals rfl
theorem inv_back0 : ∀ o, o < 19 → ∀ j, j < 15 → ∀ i, inv o j = some i → i < 189 ∧ bkO i = o ∧ bkJ i = j := by
  have h : ∀ o, o < 19 → ∀ j, j < 15 → (inv o j).all (fun i => decide (i < 189 ∧ bkO i = o ∧ bkJ i = j)) = true := by decide +kernel
  intro o ho j hj i e
  have := h o ho j hj
  rw [e] at this
  exact of_decide_eq_true this
theorem inv_back {o j i : Nat} (ho : o < 19) (e : inv o j = some i) : i < 189 ∧ bkO i = o ∧ bkJ i = j := by
  rcases Nat.lt_or_ge j 15 with hj | hj
  · exact inv_back0 o ho j hj i e
  · rw [inv_big hj] at e; exact absurd e (by simp)
theorem inv_of : ∀ i, i < 189 → bkO i < 19 ∧ inv (bkO i) (bkJ i) = some i := by decide +kernel
/-- the state S with the row F as its group g -/
def emb (S : vS) (g : Nat) (F : vF) : vS := fun q j => if 19 * g ≤ q ∧ q < 19 * g + 19 then (match inv (q - 19 * g) j with | some i => F i | none => S q j) else S q j
/-- the row of group g -/
def cv (S : vS) (g : Nat) : vF := fun i => if i < 189 then S (19 * g + bkO i) (bkJ i) else 0
theorem emb_at {S : vS} {g : Nat} {F : vF} {o j i : Nat} (ho : o < 19) (e : inv o j = some i) : emb S g F (19 * g + o) j = F i := by
  unfold emb
  rw [if_pos ⟨by omega, by omega⟩, show 19 * g + o - 19 * g = o by omega, e]
theorem emb_out {S : vS} {g : Nat} {F : vF} {q j : Nat} (h : ¬ (19 * g ≤ q ∧ q < 19 * g + 19)) : emb S g F q j = S q j := by
  unfold emb
  rw [if_neg h]
theorem emb_none {S : vS} {g : Nat} {F : vF} {q j : Nat} (h : inv (q - 19 * g) j = none) : emb S g F q j = S q j := by
  unfold emb
  split
  · rw [h]
  · rfl
theorem emb_st {S : vS} {g : Nat} {F : vF} {o j i : Nat} {x : Int32} (ho : o < 19) (e : inv o j = some i) : st (emb S g F) (19 * g + o) j x = emb S g (upd F i x) := by
  funext q k
  rw [st_at]
  by_cases h : 19 * g ≤ q ∧ q < 19 * g + 19
  · obtain ⟨p, rfl⟩ : ∃ p, q = 19 * g + p := ⟨q - 19 * g, by omega⟩
    have hp : p < 19 := by omega
    have e1 : 19 * g + p - 19 * g = p := by omega
    unfold emb
    rw [if_pos h, if_pos h, e1]
    by_cases c : 19 * g + p = 19 * g + o ∧ k = j
    · obtain ⟨c1, c2⟩ := c
      have : p = o := by omega
      subst this; subst c2
      rw [if_pos ⟨rfl, rfl⟩, e]
      simp [upd]
    · rw [if_neg c]
      cases e2 : inv p k with
      | none => rfl
      | some i2 =>
        have h1 := inv_back ho e
        have h2 := inv_back hp e2
        have : i2 ≠ i := by
          intro z
          subst z
          exact c ⟨by rw [← h1.2.1, ← h2.2.1], by rw [← h1.2.2, ← h2.2.2]⟩
        simp [upd, this]
  · rw [if_neg (fun z => h ⟨by omega, by omega⟩), emb_out h, emb_out h]
theorem emb_cv (S : vS) (g : Nat) : emb S g (cv S g) = S := by
  funext q j
  by_cases h : 19 * g ≤ q ∧ q < 19 * g + 19
  · obtain ⟨p, rfl⟩ : ∃ p, q = 19 * g + p := ⟨q - 19 * g, by omega⟩
    have hp : p < 19 := by omega
    cases e : inv p j with
    | none => exact emb_none (by rw [show 19 * g + p - 19 * g = p by omega]; exact e)
    | some i =>
      have h1 := inv_back hp e
      rw [emb_at hp e]
      unfold cv
      rw [if_pos h1.1, h1.2.1, h1.2.2]
  · exact emb_out h
theorem cv_emb {S : vS} {g : Nat} {F : vF} {i : Nat} (h : i < 189) : cv (emb S g F) g i = F i := by
  have := inv_of i h
  unfold cv
  rw [if_pos h, emb_at this.1 this.2]
theorem cv_emb_ne {S : vS} {g g2 : Nat} {F : vF} (h : g ≠ g2) : cv (emb S g F) g2 = cv S g2 := by
  funext i
  unfold cv
  split
  · rename_i hi
    have := (inv_of i hi).1
    exact emb_out (by omega)
  · rfl
theorem emb_emb {S : vS} {g : Nat} {F G : vF} : emb (emb S g F) g G = emb S g G := by
  funext q j
  unfold emb
  split
  · split <;> rfl
  · rfl
variable {S : vS} {g k n : Nat} {F : vF} {x : Int32}
theorem ebG_2 : emb S g F (gG g) 2 = F 3 := emb_at (o := 0) (by decide) rfl
theorem esG_2 : st (emb S g F) (gG g) 2 x = emb S g (upd F 3 x) := emb_st (o := 0) (by decide) rfl
theorem cvG_3 : cv S g 3 = S (gG g) 2 := rfl
theorem ebG_3 : emb S g F (gG g) 3 = F 0 := emb_at (o := 0) (by decide) rfl
theorem esG_3 : st (emb S g F) (gG g) 3 x = emb S g (upd F 0 x) := emb_st (o := 0) (by decide) rfl
theorem cvG_0 : cv S g 0 = S (gG g) 3 := rfl
theorem ebG_4 : emb S g F (gG g) 4 = F 1 := emb_at (o := 0) (by decide) rfl
theorem esG_4 : st (emb S g F) (gG g) 4 x = emb S g (upd F 1 x) := emb_st (o := 0) (by decide) rfl
theorem cvG_1 : cv S g 1 = S (gG g) 4 := rfl
theorem ebG_5 : emb S g F (gG g) 5 = F 2 := emb_at (o := 0) (by decide) rfl
theorem esG_5 : st (emb S g F) (gG g) 5 x = emb S g (upd F 2 x) := emb_st (o := 0) (by decide) rfl
theorem cvG_2 : cv S g 2 = S (gG g) 5 := rfl
theorem ebG_6 : emb S g F (gG g) 6 = F 8 := emb_at (o := 0) (by decide) rfl
theorem esG_6 : st (emb S g F) (gG g) 6 x = emb S g (upd F 8 x) := emb_st (o := 0) (by decide) rfl
theorem cvG_8 : cv S g 8 = S (gG g) 6 := rfl
theorem ebG_7 : emb S g F (gG g) 7 = F 9 := emb_at (o := 0) (by decide) rfl
theorem esG_7 : st (emb S g F) (gG g) 7 x = emb S g (upd F 9 x) := emb_st (o := 0) (by decide) rfl
theorem cvG_9 : cv S g 9 = S (gG g) 7 := rfl
theorem ebG_8 : emb S g F (gG g) 8 = F 10 := emb_at (o := 0) (by decide) rfl
theorem esG_8 : st (emb S g F) (gG g) 8 x = emb S g (upd F 10 x) := emb_st (o := 0) (by decide) rfl
theorem cvG_10 : cv S g 10 = S (gG g) 8 := rfl
theorem ebG_9 : emb S g F (gG g) 9 = F 11 := emb_at (o := 0) (by decide) rfl
theorem esG_9 : st (emb S g F) (gG g) 9 x = emb S g (upd F 11 x) := emb_st (o := 0) (by decide) rfl
theorem cvG_11 : cv S g 11 = S (gG g) 9 := rfl
theorem ebG_10 : emb S g F (gG g) 10 = F 12 := emb_at (o := 0) (by decide) rfl
theorem esG_10 : st (emb S g F) (gG g) 10 x = emb S g (upd F 12 x) := emb_st (o := 0) (by decide) rfl
theorem cvG_12 : cv S g 12 = S (gG g) 10 := rfl
theorem ebS_0 : emb S g F (gS g) 0 = F 4 := emb_at (o := 2) (by decide) rfl
theorem cvS_4 : cv S g 4 = S (gS g) 0 := rfl
theorem ebS_1 : emb S g F (gS g) 1 = F 5 := emb_at (o := 2) (by decide) rfl
theorem cvS_5 : cv S g 5 = S (gS g) 1 := rfl
theorem ebS_2 : emb S g F (gS g) 2 = F 6 := emb_at (o := 2) (by decide) rfl
theorem cvS_6 : cv S g 6 = S (gS g) 2 := rfl
theorem ebS_3 : emb S g F (gS g) 3 = F 7 := emb_at (o := 2) (by decide) rfl
theorem cvS_7 : cv S g 7 = S (gS g) 3 := rfl
theorem ebS (h : n < 4) : emb S g F (gS g) n = F (4 + n) := emb_at (o := 2) (by decide) (if_pos h)
theorem esS (h : n < 4) : st (emb S g F) (gS g) n x = emb S g (upd F (4 + n) x) := emb_st (o := 2) (by decide) (if_pos h)
theorem iM_ (hk : k < 8) (j : Nat) : inv (3 + k) j = ivM k j := by
  unfold inv
  rw [if_neg (by omega), if_neg (by omega), if_pos ⟨by omega, by omega⟩, Nat.add_sub_cancel_left]
theorem iD_ (hk : k < 8) {j : Nat} (hj : j < 8) : inv (11 + k) j = some (125 + 8 * k + j) := by
  unfold inv
  rw [if_neg (by omega), if_neg (by omega), if_neg (by omega), if_pos ⟨by omega, by omega⟩, if_pos hj, Nat.add_sub_cancel_left]
theorem gM_o : gM g k = 19 * g + (3 + k) := by unfold gM; omega
theorem gD_o : gD g k = 19 * g + (11 + k) := by unfold gD; omega
theorem ebD (hk : k < 8) (hn : n < 8) : emb S g F (gD g k) n = F (125 + 8 * k + n) := by rw [gD_o]; exact emb_at (by omega) (iD_ hk hn)
theorem esD (hk : k < 8) (hn : n < 8) : st (emb S g F) (gD g k) n x = emb S g (upd F (125 + 8 * k + n) x) := by rw [gD_o]; exact emb_st (by omega) (iD_ hk hn)
theorem cvD (hk : k < 8) (hn : n < 8) : cv S g (125 + 8 * k + n) = S (gD g k) n := by
  conv => rhs; rw [← emb_cv S g, ebD hk hn]
theorem ebM_1 (hk : k < 8) : emb S g F (gM g k) 1 = F (13 + 14 * k + 0) := by rw [gM_o]; exact emb_at (by omega) ((iM_ hk 1).trans rfl)
theorem esM_1 (hk : k < 8) : st (emb S g F) (gM g k) 1 x = emb S g (upd F (13 + 14 * k + 0) x) := by rw [gM_o]; exact emb_st (by omega) ((iM_ hk 1).trans rfl)
theorem cvM_0 (hk : k < 8) : cv S g (13 + 14 * k + 0) = S (gM g k) 1 := by conv => rhs; rw [← emb_cv S g, ebM_1 hk]
theorem ebM_2 (hk : k < 8) : emb S g F (gM g k) 2 = F (13 + 14 * k + 1) := by rw [gM_o]; exact emb_at (by omega) ((iM_ hk 2).trans rfl)
theorem esM_2 (hk : k < 8) : st (emb S g F) (gM g k) 2 x = emb S g (upd F (13 + 14 * k + 1) x) := by rw [gM_o]; exact emb_st (by omega) ((iM_ hk 2).trans rfl)
theorem cvM_1 (hk : k < 8) : cv S g (13 + 14 * k + 1) = S (gM g k) 2 := by conv => rhs; rw [← emb_cv S g, ebM_2 hk]
theorem ebM_3 (hk : k < 8) : emb S g F (gM g k) 3 = F (13 + 14 * k + 2) := by rw [gM_o]; exact emb_at (by omega) ((iM_ hk 3).trans rfl)
theorem esM_3 (hk : k < 8) : st (emb S g F) (gM g k) 3 x = emb S g (upd F (13 + 14 * k + 2) x) := by rw [gM_o]; exact emb_st (by omega) ((iM_ hk 3).trans rfl)
theorem cvM_2 (hk : k < 8) : cv S g (13 + 14 * k + 2) = S (gM g k) 3 := by conv => rhs; rw [← emb_cv S g, ebM_3 hk]
theorem ebM_4 (hk : k < 8) : emb S g F (gM g k) 4 = F (13 + 14 * k + 5) := by rw [gM_o]; exact emb_at (by omega) ((iM_ hk 4).trans rfl)
theorem esM_4 (hk : k < 8) : st (emb S g F) (gM g k) 4 x = emb S g (upd F (13 + 14 * k + 5) x) := by rw [gM_o]; exact emb_st (by omega) ((iM_ hk 4).trans rfl)
theorem cvM_5 (hk : k < 8) : cv S g (13 + 14 * k + 5) = S (gM g k) 4 := by conv => rhs; rw [← emb_cv S g, ebM_4 hk]
theorem ebM_5 (hk : k < 8) : emb S g F (gM g k) 5 = F (13 + 14 * k + 6) := by rw [gM_o]; exact emb_at (by omega) ((iM_ hk 5).trans rfl)
theorem esM_5 (hk : k < 8) : st (emb S g F) (gM g k) 5 x = emb S g (upd F (13 + 14 * k + 6) x) := by rw [gM_o]; exact emb_st (by omega) ((iM_ hk 5).trans rfl)
theorem cvM_6 (hk : k < 8) : cv S g (13 + 14 * k + 6) = S (gM g k) 5 := by conv => rhs; rw [← emb_cv S g, ebM_5 hk]
theorem ebM_6 (hk : k < 8) : emb S g F (gM g k) 6 = F (13 + 14 * k + 3) := by rw [gM_o]; exact emb_at (by omega) ((iM_ hk 6).trans rfl)
theorem esM_6 (hk : k < 8) : st (emb S g F) (gM g k) 6 x = emb S g (upd F (13 + 14 * k + 3) x) := by rw [gM_o]; exact emb_st (by omega) ((iM_ hk 6).trans rfl)
theorem cvM_3 (hk : k < 8) : cv S g (13 + 14 * k + 3) = S (gM g k) 6 := by conv => rhs; rw [← emb_cv S g, ebM_6 hk]
theorem ebM_7 (hk : k < 8) : emb S g F (gM g k) 7 = F (13 + 14 * k + 4) := by rw [gM_o]; exact emb_at (by omega) ((iM_ hk 7).trans rfl)
theorem esM_7 (hk : k < 8) : st (emb S g F) (gM g k) 7 x = emb S g (upd F (13 + 14 * k + 4) x) := by rw [gM_o]; exact emb_st (by omega) ((iM_ hk 7).trans rfl)
theorem cvM_4 (hk : k < 8) : cv S g (13 + 14 * k + 4) = S (gM g k) 7 := by conv => rhs; rw [← emb_cv S g, ebM_7 hk]
theorem ebM_8 (hk : k < 8) : emb S g F (gM g k) 8 = F (13 + 14 * k + 7) := by rw [gM_o]; exact emb_at (by omega) ((iM_ hk 8).trans rfl)
theorem esM_8 (hk : k < 8) : st (emb S g F) (gM g k) 8 x = emb S g (upd F (13 + 14 * k + 7) x) := by rw [gM_o]; exact emb_st (by omega) ((iM_ hk 8).trans rfl)
theorem cvM_7 (hk : k < 8) : cv S g (13 + 14 * k + 7) = S (gM g k) 8 := by conv => rhs; rw [← emb_cv S g, ebM_8 hk]
theorem ebM_9 (hk : k < 8) : emb S g F (gM g k) 9 = F (13 + 14 * k + 8) := by rw [gM_o]; exact emb_at (by omega) ((iM_ hk 9).trans rfl)
theorem esM_9 (hk : k < 8) : st (emb S g F) (gM g k) 9 x = emb S g (upd F (13 + 14 * k + 8) x) := by rw [gM_o]; exact emb_st (by omega) ((iM_ hk 9).trans rfl)
theorem cvM_8 (hk : k < 8) : cv S g (13 + 14 * k + 8) = S (gM g k) 9 := by conv => rhs; rw [← emb_cv S g, ebM_9 hk]
theorem ebM_10 (hk : k < 8) : emb S g F (gM g k) 10 = F (13 + 14 * k + 9) := by rw [gM_o]; exact emb_at (by omega) ((iM_ hk 10).trans rfl)
theorem esM_10 (hk : k < 8) : st (emb S g F) (gM g k) 10 x = emb S g (upd F (13 + 14 * k + 9) x) := by rw [gM_o]; exact emb_st (by omega) ((iM_ hk 10).trans rfl)
theorem cvM_9 (hk : k < 8) : cv S g (13 + 14 * k + 9) = S (gM g k) 10 := by conv => rhs; rw [← emb_cv S g, ebM_10 hk]
theorem ebM_11 (hk : k < 8) : emb S g F (gM g k) 11 = F (13 + 14 * k + 10) := by rw [gM_o]; exact emb_at (by omega) ((iM_ hk 11).trans rfl)
theorem esM_11 (hk : k < 8) : st (emb S g F) (gM g k) 11 x = emb S g (upd F (13 + 14 * k + 10) x) := by rw [gM_o]; exact emb_st (by omega) ((iM_ hk 11).trans rfl)
theorem cvM_10 (hk : k < 8) : cv S g (13 + 14 * k + 10) = S (gM g k) 11 := by conv => rhs; rw [← emb_cv S g, ebM_11 hk]
theorem ebM_12 (hk : k < 8) : emb S g F (gM g k) 12 = F (13 + 14 * k + 11) := by rw [gM_o]; exact emb_at (by omega) ((iM_ hk 12).trans rfl)
theorem esM_12 (hk : k < 8) : st (emb S g F) (gM g k) 12 x = emb S g (upd F (13 + 14 * k + 11) x) := by rw [gM_o]; exact emb_st (by omega) ((iM_ hk 12).trans rfl)
theorem cvM_11 (hk : k < 8) : cv S g (13 + 14 * k + 11) = S (gM g k) 12 := by conv => rhs; rw [← emb_cv S g, ebM_12 hk]
theorem ebM_13 (hk : k < 8) : emb S g F (gM g k) 13 = F (13 + 14 * k + 12) := by rw [gM_o]; exact emb_at (by omega) ((iM_ hk 13).trans rfl)
theorem esM_13 (hk : k < 8) : st (emb S g F) (gM g k) 13 x = emb S g (upd F (13 + 14 * k + 12) x) := by rw [gM_o]; exact emb_st (by omega) ((iM_ hk 13).trans rfl)
theorem cvM_12 (hk : k < 8) : cv S g (13 + 14 * k + 12) = S (gM g k) 13 := by conv => rhs; rw [← emb_cv S g, ebM_13 hk]
theorem ebM_14 (hk : k < 8) : emb S g F (gM g k) 14 = F (13 + 14 * k + 13) := by rw [gM_o]; exact emb_at (by omega) ((iM_ hk 14).trans rfl)
theorem esM_14 (hk : k < 8) : st (emb S g F) (gM g k) 14 x = emb S g (upd F (13 + 14 * k + 13) x) := by rw [gM_o]; exact emb_st (by omega) ((iM_ hk 14).trans rfl)
theorem cvM_13 (hk : k < 8) : cv S g (13 + 14 * k + 13) = S (gM g k) 14 := by conv => rhs; rw [← emb_cv S g, ebM_14 hk]
theorem ge8 {i : Nat} (h : i < 8) : ¬ (8 : Int32) ≤ nI i := fun q => absurd (nI_of_le (a := 8) (b := i) (by omega) q (by decide)) (by omega)
theorem le8 : (8 : Int32) ≤ nI 8 := by decide
theorem oc_n {α β : Type} (a : β) (f : α → β) : oc none a f = a := rfl
theorem oc_s {α β : Type} (k : α) (a : β) (f : α → β) : oc (some k) a f = f k := rfl
def fmW (a b : Int32) : Int32 := x_J9_floorMod_7cf53 (fun _ _ => 0) a b
theorem fmW_eq (S : vS) (a b : Int32) : x_J9_floorMod_7cf53 S a b = fmW a b := Eq.trans rfl rfl
def mpe (S : vS) (g : Nat) (p : Int32 × vF) : Int32 × vS := (p.1, emb S g p.2)
theorem mpe_mk {a : Int32} : mpe S g (a, F) = (a, emb S g F) := rfl
theorem mpe_1 {p : Int32 × vF} : (mpe S g p).1 = p.1 := rfl
theorem mpe_2 {p : Int32 × vF} : (mpe S g p).2 = emb S g p.2 := rfl
end EMB
