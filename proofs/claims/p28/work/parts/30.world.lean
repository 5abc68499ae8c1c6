section WORLD
def sG (r : Nat) : Nat → Int32 := if r = 0 then (fun j => if j = 5 then -1 else 0) else if r = 2 then setG else fun _ => 0
def sC0 : vS := fun q => if q < 152 then sG (q % 19) else fun _ => 0
def aq (x : qG) (r : Nat) : Nat := if r = 0 then x.1 else if r = 1 then x.2.1 else if r = 2 then x.2.2.1 else if r < 11 then x.2.2.2 (2 * (r - 3)) else x.2.2.2 (2 * (r - 11) + 1)
def pr (r : Nat) : Nat := if r < 3 then r else if r < 11 then 3 + 2 * (r - 3) else 3 + 2 * (r - 11) + 1
theorem pr_lt {r : Nat} (h : r < 19) : pr r < 19 := by
  unfold pr
  split
  · omega
  · split <;> omega
theorem pr_inj {r r' : Nat} (h : r < 19) (h' : r' < 19) (e : pr r = pr r') : r = r' := by
  unfold pr at e
  split at e <;> split at e <;> (try split at e) <;> (try split at e) <;> omega
theorem at_arr {D : va_G} {a n : Nat} {cA : ClassId} {f g : Nat → Option Nat} {H : Heap} (h : ∀ j, j < n → f j = g j) (hf : va_at D vwCl (a, .inl (cA, n, .inr (.inr (.inr (.inr f))))) H) : va_at D vwCl (a, .inl (cA, n, .inr (.inr (.inr (.inr g))))) H := by
  have h1 : H[a]? = some (vp_cell cA (n, .inr (.inr (.inr (.inr f))))) := hf
  have h2 : vp_cell cA (n, .inr (.inr (.inr (.inr f)))) = vp_cell cA (n, .inr (.inr (.inr (.inr g)))) := by
    rw [vp_cell_q, vp_cell_q]
    unfold arrV
    congr 1
    apply Array.ext
    · simp
    · intro i h3 h4
      simp only [Array.getElem_ofFn]
      rw [h _ (by simpa using h3)]
  show H[a]? = some _
  rw [← h2]
  exact h1
theorem gF_at (D : va_G) (x : qG) {r : Nat} (hr : r < 19) : ∃ e, (gF D x)[pr r]? = some (aq x r, e) ∧ ∀ (ad : Nat → Nat) (γ : Nat) (H : Heap), γ < 8 → (∀ r, r < 19 → ad (19 * γ + r) = aq x r) → va_at D vwCl (aq x r, e) H → va_at D vwCl (aq x r, cC D ad (19 * γ + r) (sG r)) H := by
  obtain ⟨o, a, t, am⟩ := x
  by_cases h0 : r = 0
  · subst h0
    refine ⟨.inr (0, iniG a t), rfl, fun ad γ H hγ ha h => ?_⟩
    have e1 : cC D ad (19 * γ + 0) (sG 0) = .inr (0, grpF ad γ (sG 0)) := cC_G hγ
    rw [e1]
    have e2 : grpF ad γ (sG 0) = iniG a t := by
      have h1 : ad (gA γ) = a := ha 1 (by decide)
      have h2 : ad (gS γ) = t := ha 2 (by decide)
      unfold grpF
      rw [h1, h2]
      rfl
    rw [e2]
    exact h
  by_cases h1 : r = 1
  · subst h1
    refine ⟨.inl (D.1 12, 8, .inr (.inr (.inr (.inr (fun i => if i < 8 then some (am (2 * i)) else none))))), rfl, fun ad γ H hγ ha h => ?_⟩
    have e1 : cC D ad (19 * γ + 1) (sG 1) = .inl (D.1 12, 8, .inr (.inr (.inr (.inr (fun i => some (ad (gM γ i))))))) := cC_A hγ
    rw [e1]
    refine at_arr (fun j hj => ?_) h
    rw [if_pos hj]
    have h2 := ha (3 + j) (by omega)
    unfold aq at h2
    rw [if_neg (by omega), if_neg (by omega), if_neg (by omega), if_pos (by omega)] at h2
    unfold gM
    rw [show 19 * γ + 3 + j = 19 * γ + (3 + j) by omega, h2, show 3 + j - 3 = j by omega]
  by_cases h2 : r = 2
  · subst h2
    refine ⟨.inl (D.1 10, 4, .inl setG), rfl, fun ad γ H hγ ha h => ?_⟩
    have e1 : cC D ad (19 * γ + 2) (sG 2) = .inl (D.1 10, 4, .inl (sG 2)) := cC_S hγ
    rw [e1]
    exact h
  have hs : sG r = fun _ => 0 := by
    unfold sG
    rw [if_neg h0, if_neg h2]
  have hg : ∀ j, 3 ≤ j → j < 19 → (gF D (o, a, t, am))[j]? = (tl D 8 am)[j - 3]? := by
    intro j hj hj2
    show ((gl D o a t 8 am).set 2 (t, .inl (D.1 10, 4, .inl setG)))[j]? = _
    rw [List.getElem?_set_ne (by omega)]
    unfold gl
    rw [List.getElem?_append_right (by show 3 ≤ j; exact hj)]
    rfl
  have htl : ∀ j, j < 16 → (tl D 8 am)[j]? = some (am j, tlE D am j) := by
    intro j hj
    unfold tl
    rw [List.getElem?_map, List.getElem?_range (by omega)]
    rfl
  by_cases h3 : r < 11
  · obtain ⟨m, rfl⟩ : ∃ m, r = 3 + m := ⟨r - 3, by omega⟩
    have hm : m < 8 := by omega
    have e0 : aq (o, a, t, am) (3 + m) = am (2 * m) := by
      unfold aq
      rw [if_neg h0, if_neg h1, if_neg h2, if_pos h3, show 3 + m - 3 = m by omega]
    have e4 : pr (3 + m) = 3 + 2 * m := by
      unfold pr
      rw [if_neg (by omega), if_pos h3, show 3 + m - 3 = m by omega]
    refine ⟨.inr (2, iniM (nI m) (am (2 * m + 1))), ?_, fun ad γ H hγ ha h => ?_⟩
    · rw [e4, hg _ (by omega) (by omega), show 3 + 2 * m - 3 = 2 * m by omega, htl _ (by omega), e0]
      unfold tlE
      rw [if_pos (by omega), show 2 * m / 2 = m by omega]
    · have e1 : cC D ad (19 * γ + (3 + m)) (sG (3 + m)) = .inr (2, memF ad γ m (sG (3 + m))) := by
        rw [show 19 * γ + (3 + m) = gM γ m by unfold gM; omega]
        exact cC_M hγ hm
      rw [e1, hs]
      have e2 : memF ad γ m (fun _ => 0) = iniM (nI m) (am (2 * m + 1)) := by
        have h5 := ha (11 + m) (by omega)
        unfold aq at h5
        rw [if_neg (by omega), if_neg (by omega), if_neg (by omega), if_neg (by omega), show 11 + m - 11 = m by omega] at h5
        have h6 : ad (gD γ m) = am (2 * m + 1) := by
          unfold gD
          rw [show 19 * γ + 11 + m = 19 * γ + (11 + m) by omega]
          exact h5
        unfold memF
        rw [h6]
        rfl
      rw [e2]
      exact h
  · obtain ⟨m, rfl⟩ : ∃ m, r = 11 + m := ⟨r - 11, by omega⟩
    have hm : m < 8 := by omega
    have e0 : aq (o, a, t, am) (11 + m) = am (2 * m + 1) := by
      unfold aq
      rw [if_neg h0, if_neg h1, if_neg h2, if_neg h3, show 11 + m - 11 = m by omega]
    have e4 : pr (11 + m) = 3 + 2 * m + 1 := by
      unfold pr
      rw [if_neg (by omega), if_neg h3, show 11 + m - 11 = m by omega]
    refine ⟨zA D 8, ?_, fun ad γ H hγ ha h => ?_⟩
    · rw [e4, hg _ (by omega) (by omega), show 3 + 2 * m + 1 - 3 = 2 * m + 1 by omega, htl _ (by omega), e0]
      unfold tlE
      rw [if_neg (by omega)]
    · have e1 : cC D ad (19 * γ + (11 + m)) (sG (11 + m)) = .inl (D.1 10, 8, .inl (sG (11 + m))) := by
        rw [show 19 * γ + (11 + m) = gD γ m by unfold gD; omega]
        exact cC_D hγ hm
      rw [e1, hs]
      exact h
end WORLD
