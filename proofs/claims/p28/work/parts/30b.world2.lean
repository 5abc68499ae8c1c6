section WORLD2
def qd (g0 g1 : qG) (gs : List qG) (γ : Nat) : qG := if γ = 0 then g0 else if γ = 1 then g1 else gs.getD (γ - 2) g0
def bs (γ : Nat) : Nat := if γ = 0 then 1 else if γ = 1 then 20 else 41 + 19 * (γ - 2)
theorem grs_at (D : va_G) (gs : List qG) (g0 : qG) {i j : Nat} (hi : i < gs.length) (hj : j < 19) : (grs D gs)[19 * i + j]? = (gF D (gs.getD i g0))[j]? := by
  induction gs generalizing i with
  | nil => exact absurd hi (by simp)
  | cons x gs ih =>
    show (gF D x ++ grs D gs)[19 * i + j]? = _
    cases i with
    | zero =>
      rw [List.getElem?_append_left (by rw [gF_len]; omega)]
      simp
    | succ i =>
      rw [List.getElem?_append_right (by rw [gF_len]; omega), gF_len, show 19 * (i + 1) + j - 19 = 19 * i + j by omega, ih (by simpa using hi)]
      rfl
theorem jl_grp (D : va_G) (o : Nat) (g0 g1 : qG) (h a : Nat) (gs : List qG) (t d : Nat) (hgs : gs.length = 6) {γ j : Nat} (hγ : γ < 8) (hj : j < 19) : (jlF D o g0 g1 h a gs t d)[bs γ + j]? = (gF D (qd g0 g1 gs γ))[j]? := by
  have l1 : (gF D g0 ++ gF D g1).length = 38 := by rw [List.length_append, gF_len, gF_len]
  have l2 : ((gF D g0 ++ gF D g1) ++ hl_ D h a gs).length = 154 := by rw [List.length_append, l1, hl_len, hgs]
  have e0 : ∀ k, (jlF D o g0 g1 h a gs t d)[1 + k]? = (((gF D g0 ++ gF D g1) ++ hl_ D h a gs) ++ [(t, .inr (3, iniT d)), (d, zC D 60)])[k]? := by
    intro k
    rw [Nat.add_comm]
    rfl
  unfold bs qd
  by_cases h0 : γ = 0
  · rw [if_pos h0, if_pos h0, e0, List.getElem?_append_left (by rw [l2]; omega), List.getElem?_append_left (by rw [l1]; omega), List.getElem?_append_left (by rw [gF_len]; omega)]
  by_cases h1 : γ = 1
  · rw [if_neg h0, if_neg h0, if_pos h1, if_pos h1, show 20 + j = 1 + (19 + j) by omega, e0, List.getElem?_append_left (by rw [l2]; omega), List.getElem?_append_left (by rw [l1]; omega), List.getElem?_append_right (by rw [gF_len]; omega), gF_len, show 19 + j - 19 = j by omega]
  · rw [if_neg h0, if_neg h0, if_neg h1, if_neg h1, show 41 + 19 * (γ - 2) + j = 1 + (38 + (2 + (19 * (γ - 2) + j))) by omega, e0, List.getElem?_append_left (by rw [l2]; omega), List.getElem?_append_right (by rw [l1]; omega), l1, show 38 + (2 + (19 * (γ - 2) + j)) - 38 = 2 + (19 * (γ - 2) + j) by omega]
    unfold hl_
    rw [List.getElem?_append_right (by show 2 ≤ _; omega)]
    show (grs D gs)[2 + (19 * (γ - 2) + j) - 2]? = _
    rw [show 2 + (19 * (γ - 2) + j) - 2 = 19 * (γ - 2) + j by omega]
    exact grs_at D gs g0 (by omega) hj
def ad1 (o : Nat) (g0 g1 : qG) (h a : Nat) (gs : List qG) (t d z : Nat) : Nat → Nat := fun q => if q < 152 then aq (qd g0 g1 gs (q / 19)) (q % 19) else if q = 152 then o else if q = 153 then h else if q = 154 then a else if q = 155 then t else if q = 156 then d else z
def pos (q : Nat) : Nat := if q < 152 then bs (q / 19) + pr (q % 19) else if q = 152 then 0 else if q = 153 then 39 else if q = 154 then 40 else if q = 155 then 155 else if q = 156 then 156 else 164
theorem bs_eq {γ : Nat} (h : γ < 8) : bs γ = 1 + 19 * γ + (if γ < 2 then 0 else 2) := by
  unfold bs
  split
  · subst_vars
    rfl
  · split
    · subst_vars
      rfl
    · rw [if_neg (by omega)]
      omega
theorem pos_lt {q : Nat} (h : q < 157) : pos q < 157 ∨ pos q = 164 := by
  unfold pos
  by_cases h1 : q < 152
  · rw [if_pos h1, bs_eq (by omega)]
    have := pr_lt (show q % 19 < 19 by omega)
    split <;> omega
  · rw [if_neg h1]
    split
    · omega
    split
    · omega
    split
    · omega
    split
    · omega
    split <;> omega
theorem pos_inj {q q' : Nat} (h : q < 157) (h' : q' < 157) (e : pos q = pos q') : q = q' := by
  have key : ∀ x, x < 152 → pos x = 1 + 19 * (x / 19) + (if x / 19 < 2 then 0 else 2) + pr (x % 19) ∧ pr (x % 19) < 19 := by
    intro x hx
    refine ⟨?_, pr_lt (by omega)⟩
    unfold pos
    rw [if_pos hx, bs_eq (by omega)]
  have key2 : ∀ x, x < 157 → ¬ x < 152 → (x = 152 ∧ pos x = 0) ∨ (x = 153 ∧ pos x = 39) ∨ (x = 154 ∧ pos x = 40) ∨ (x = 155 ∧ pos x = 155) ∨ (x = 156 ∧ pos x = 156) := by
    intro x hx hx2
    rcases (show x = 152 ∨ x = 153 ∨ x = 154 ∨ x = 155 ∨ x = 156 by omega) with rfl | rfl | rfl | rfl | rfl <;> simp [pos]
  by_cases c1 : q < 152
  · obtain ⟨k1, k2⟩ := key q c1
    by_cases c2 : q' < 152
    · obtain ⟨k3, k4⟩ := key q' c2
      rw [k1, k3] at e
      have hd : q / 19 = q' / 19 := by
        split at e <;> split at e <;> omega
      have hm : pr (q % 19) = pr (q' % 19) := by
        rw [hd] at e
        omega
      have := pr_inj (show q % 19 < 19 by omega) (show q' % 19 < 19 by omega) hm
      omega
    · have := key2 q' h' c2
      rw [k1] at e
      split at e <;> omega
  · by_cases c2 : q' < 152
    · obtain ⟨k3, k4⟩ := key q' c2
      have := key2 q h c1
      rw [k3] at e
      split at e <;> omega
    · have := key2 q h c1
      have := key2 q' h' c2
      omega
theorem jl_len (D : va_G) (o : Nat) (g0 g1 : qG) (h a : Nat) (gs : List qG) (t d : Nat) (hgs : gs.length = 6) : (jlF D o g0 g1 h a gs t d).length = 157 := by
  unfold jlF jL
  rw [List.length_cons, List.length_append, List.length_append, List.length_append, gF_len, gF_len, hl_len, hgs]
  rfl
theorem at_of (D : va_G) {a : Nat} {e : va_E} {H : Heap} (h : va_at D vwCl (a, e) H) {e' : va_E} (he : e = e') : va_at D vwCl (a, e') H := he ▸ h
theorem world_at (D : va_G) (o : Nat) (g0 g1 : qG) (h a : Nat) (gs : List qG) (t d z : Nat) (hgs : gs.length = 6) {H : Heap} (hP : va_P D vwCl (jlF D o g0 g1 h a gs t d) H) {q : Nat} (hq : q < 157) :
    ∃ e, (jlF D o g0 g1 h a gs t d)[pos q]? = some (ad1 o g0 g1 h a gs t d z q, e) ∧ va_at D vwCl (ad1 o g0 g1 h a gs t d z q, cC D (ad1 o g0 g1 h a gs t d z) q (sC0 q)) H := by
  have hl := jl_len D o g0 g1 h a gs t d hgs
  have hin : ∀ k, k < 157 → (jlF D o g0 g1 h a gs t d)[k]? = (jlF D o g0 g1 h a gs t d)[k]? := fun _ _ => rfl
  by_cases h1 : q < 152
  · obtain ⟨e, he, hc⟩ := gF_at D (qd g0 g1 gs (q / 19)) (show q % 19 < 19 by omega)
    have ea : ad1 o g0 g1 h a gs t d z q = aq (qd g0 g1 gs (q / 19)) (q % 19) := by
      unfold ad1
      rw [if_pos h1]
    have ep : pos q = bs (q / 19) + pr (q % 19) := by
      unfold pos
      rw [if_pos h1]
    have hx : (jlF D o g0 g1 h a gs t d)[pos q]? = some (ad1 o g0 g1 h a gs t d z q, e) := by
      have hlt : pos q < 157 := by
        rcases pos_lt hq with h | h
        · exact h
        · exfalso
          rw [ep, bs_eq (by omega)] at h
          have := pr_lt (show q % 19 < 19 by omega)
          split at h <;> omega
      rw [hin _ hlt, ep, jl_grp D o g0 g1 h a gs t d hgs (by omega) (pr_lt (by omega)), he, ea]
    refine ⟨e, hx, ?_⟩
    have h2 := hP _ _ hx
    rw [ea] at h2 ⊢
    have h3 := hc (ad1 o g0 g1 h a gs t d z) (q / 19) H (by omega) (fun r hr => by
      unfold ad1
      rw [if_pos (by omega), show (19 * (q / 19) + r) / 19 = q / 19 by omega, show (19 * (q / 19) + r) % 19 = r by omega]) h2
    have e9 : sC0 q = sG (q % 19) := by
      unfold sC0
      rw [if_pos h1]
    rw [e9]
    rw [show 19 * (q / 19) + q % 19 = q by omega] at h3
    exact h3
  · have l1 : (gF D g0 ++ gF D g1).length = 38 := by rw [List.length_append, gF_len, gF_len]
    have l2 : ((gF D g0 ++ gF D g1) ++ hl_ D h a gs).length = 154 := by rw [List.length_append, l1, hl_len, hgs]
    have e0 : ∀ k, (jlF D o g0 g1 h a gs t d)[1 + k]? = (((gF D g0 ++ gF D g1) ++ hl_ D h a gs) ++ [(t, .inr (3, iniT d)), (d, zC D 60)])[k]? := by
      intro k
      rw [Nat.add_comm]
      rfl
    have hadG : ∀ γ, γ < 8 → ad1 o g0 g1 h a gs t d z (gG γ) = (qd g0 g1 gs γ).1 := by
      intro γ hγ
      unfold ad1 gG
      rw [if_pos (by omega), show 19 * γ / 19 = γ by omega, show 19 * γ % 19 = 0 by omega]
      rfl
    rcases (show q = 152 ∨ q = 153 ∨ q = 154 ∨ q = 155 ∨ q = 156 by omega) with rfl | rfl | rfl | rfl | rfl
    · have hx : (jlF D o g0 g1 h a gs t d)[pos 152]? = some (o, .inr (4, jV (.ref g0.1) (.ref g1.1) (.ref h) (.ref t))) := rfl
      refine ⟨_, hx, at_of D (hP _ _ hx) ?_⟩
      show _ = Sum.inr (4, joF _)
      unfold joF
      rw [hadG 0 (by decide), hadG 1 (by decide)]
      rfl
    · have hx : (jlF D o g0 g1 h a gs t d)[pos 153]? = some (h, .inr (1, iniH a)) := by
        rw [hin _ (by decide)]
        show (jlF D o g0 g1 h a gs t d)[1 + 38]? = _
        rw [e0, List.getElem?_append_left (by rw [l2]; omega), List.getElem?_append_right (by rw [l1]; omega), l1]
        rfl
      exact ⟨_, hx, at_of D (hP _ _ hx) rfl⟩
    · have hx : (jlF D o g0 g1 h a gs t d)[pos 154]? = some (a, .inl (D.1 13, 6, .inr (.inr (.inr (.inr (gsA gs)))))) := by
        rw [hin _ (by decide)]
        show (jlF D o g0 g1 h a gs t d)[1 + 39]? = _
        rw [e0, List.getElem?_append_left (by rw [l2]; omega), List.getElem?_append_right (by rw [l1]; omega), l1]
        rfl
      refine ⟨_, hx, ?_⟩
      refine at_arr (g := fun i => some (ad1 o g0 g1 h a gs t d z (gG (i + 2)))) (fun j hj => ?_) (hP _ _ hx)
      rw [hadG _ (by omega)]
      unfold gsA qd
      rw [if_neg (by omega), if_neg (by omega), show j + 2 - 2 = j by omega, List.getElem?_eq_getElem (by omega)]
      simp [List.getD_eq_getElem?_getD, List.getElem?_eq_getElem (show j < gs.length by omega)]
    · have hx : (jlF D o g0 g1 h a gs t d)[pos 155]? = some (t, .inr (3, iniT d)) := by
        rw [hin _ (by decide)]
        show (jlF D o g0 g1 h a gs t d)[1 + 154]? = _
        rw [e0, List.getElem?_append_right (by rw [l2]; omega), l2]
        rfl
      exact ⟨_, hx, at_of D (hP _ _ hx) rfl⟩
    · have hx : (jlF D o g0 g1 h a gs t d)[pos 156]? = some (d, zC D 60) := by
        rw [hin _ (by decide)]
        show (jlF D o g0 g1 h a gs t d)[1 + 155]? = _
        rw [e0, List.getElem?_append_right (by rw [l2]; omega), l2]
        rfl
      exact ⟨_, hx, at_of D (hP _ _ hx) rfl⟩
/-- the world at the law's loop -/
theorem world_of {D : va_G} {A : Nat → Prop} {o : Nat} {g0 g1 : qG} {h a : Nat} {gs : List qG} {t d : Nat} (hgs : gs.length = 6) {H : Heap} (hP : va_P D vwCl (jlF D o g0 g1 h a gs t d) H) (hD : va_D A (jlF D o g0 g1 h a gs t d)) :
    ∃ ad : Nat → Nat, ad 152 = o ∧ va_P D vwCl (wl 157 (cC D ad) ad sC0) H ∧ va_D A (wl 157 (cC D ad) ad sC0) := by
  have hat := fun q (hq : q < 157) => world_at D o g0 g1 h a gs t d 0 hgs hP hq
  refine ⟨ad1 o g0 g1 h a gs t d 0, rfl, fun k q hk => ?_, fun i j p q hp hq e => ?_, fun k q hk => ?_⟩
  · obtain ⟨h1, rfl⟩ := wl_in hk
    exact (hat k h1).choose_spec.2
  · obtain ⟨h1, rfl⟩ := wl_in hp
    obtain ⟨h2, rfl⟩ := wl_in hq
    obtain ⟨e1, x1, -⟩ := hat i h1
    obtain ⟨e2, x2, -⟩ := hat j h2
    exact pos_inj h1 h2 (hD.1 _ _ _ _ x1 x2 e)
  · obtain ⟨h1, rfl⟩ := wl_in hk
    obtain ⟨e1, x1, -⟩ := hat k h1
    exact hD.2 _ (ad1 o g0 g1 h a gs t d 0 k, e1) x1
end WORLD2
