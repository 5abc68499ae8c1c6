section SUMS
variable {F H : vF} {G : vG} {m k i n p w : Nat} {x y v : Int32}
def Zs (F : vF) (w : Nat) : Int := fb_si (fun o => (F (13 + 14 * o + w)).toInt) 8
def Zd (F : vF) (m : Nat) : Int := fb_si (fun p => (F (125 + 8 * m + p)).toInt) 8
def Zq (f : Nat → Int32) : Int := fb_si (fun p => (f p).toInt) 8
theorem Zs_up (hk : k < 8) : Zs (upd F (13 + 14 * k + w) x) w = Zs F w - (F (13 + 14 * k + w)).toInt + x.toInt := by
  have e : (fun o => (upd F (13 + 14 * k + w) x (13 + 14 * o + w)).toInt) = fun o => if o = k then x.toInt else (fun o => (F (13 + 14 * o + w)).toInt) o := by
    funext o
    rw [upd_at]
    by_cases c : o = k
    · subst c; rw [if_pos rfl, if_pos rfl]
    · rw [if_neg (by omega), if_neg c]
  unfold Zs
  rw [e, fb_si_upd _ _ hk]
theorem Zs_ne (h : ∀ o, o < 8 → i ≠ 13 + 14 * o + w) : Zs (upd F i x) w = Zs F w := by
  unfold Zs
  exact fb_si_cong fun o ho => by rw [upd_ne (Ne.symm (h o ho))]
theorem Zs_w {w2 : Nat} (hw : w2 ≠ w ∧ w < 14 ∧ w2 < 14) : Zs (upd F (13 + 14 * k + w2) x) w = Zs F w := Zs_ne fun o _ => by omega
theorem Zs_g (h : i < 13) : Zs (upd F i x) w = Zs F w := Zs_ne fun o _ => by omega
theorem Zs_d (hw : w < 14) : Zs (upd F (125 + 8 * m + p) x) w = Zs F w := Zs_ne fun o ho => by omega
theorem Zd_up (hp : p < 8) : Zd (upd F (125 + 8 * m + p) x) m = Zd F m - (F (125 + 8 * m + p)).toInt + x.toInt := by
  have e : (fun o => (upd F (125 + 8 * m + p) x (125 + 8 * m + o)).toInt) = fun o => if o = p then x.toInt else (fun o => (F (125 + 8 * m + o)).toInt) o := by
    funext o
    rw [upd_at]
    by_cases c : o = p
    · subst c; rw [if_pos rfl, if_pos rfl]
    · rw [if_neg (by omega), if_neg c]
  unfold Zd
  rw [e, fb_si_upd _ _ hp]
theorem Zd_h (h : i < 125) : Zd (upd F i x) m = Zd F m := by
  unfold Zd
  exact fb_si_cong fun o ho => by rw [upd_ne (by omega)]
theorem Zd_m {m2 : Nat} (h : m2 ≠ m) (hp : p < 8) : Zd (upd F (125 + 8 * m2 + p) x) m = Zd F m := by
  unfold Zd
  exact fb_si_cong fun o ho => by rw [upd_ne (by omega)]
theorem Zq_up {f : Nat → Int32} (hp : p < 8) : Zq (upd f p x) = Zq f - (f p).toInt + x.toInt := by
  have e : (fun o => (upd f p x o).toInt) = fun o => if o = p then x.toInt else (fun o => (f o).toInt) o := by
    funext o
    rw [upd_at]
    by_cases c : o = p
    · subst c; rw [if_pos rfl, if_pos rfl]
    · rw [if_neg c, if_neg c]
  unfold Zq
  rw [e, fb_si_upd _ _ hp]
theorem si_part {g : Nat → Int} {n i : Nat} (h : ∀ p, p < n → 0 ≤ g p) (hi : i < n) : g i ≤ fb_si g n := by
  have h1 := si_nonneg (g := g) (n := i) fun p hp => h p (by omega)
  have h2 := si_mono (g := g) (a := i + 1) (n - (i + 1)) fun p _ hp => h p (by omega)
  rw [show i + 1 + (n - (i + 1)) = n by omega, fb_si_succ] at h2
  omega
theorem si_le {g h : Nat → Int} : ∀ n, (∀ p, p < n → g p ≤ h p) → fb_si g n ≤ fb_si h n := by
  intro n
  induction n with
  | zero => intro _; exact Int.le_refl _
  | succ n ih =>
    intro hh
    have h1 := ih fun p hp => hh p (by omega)
    have h2 := hh n (by omega)
    rw [fb_si_succ, fb_si_succ]
    omega
def hpB (F : vF) (o : Nat) : Bool := decide (F (13 + 14 * o + 0) = 1 ∧ F (13 + 14 * o + 7) = 0)
theorem sL_ct {f : Nat → Int32} {p : Nat → Bool} : ∀ (n i : Nat), (∀ j, i ≤ j → j < i + n → f j = if p j then 1 else 0) → sL n f i (nI (fb_ct p i)) = nI (fb_ct p (i + n)) := by
  intro n
  induction n with
  | zero => intro i h; rfl
  | succ n ih =>
    intro i h
    show sL n f (i + 1) (nI (fb_ct p i) + f i) = _
    have e : nI (fb_ct p i) + f i = nI (fb_ct p (i + 1)) := by
      rw [h i (Nat.le_refl i) (by omega), fb_ct_succ]
      by_cases c : p i = true
      · rw [if_pos c, if_pos c, nI_1]
      · rw [if_neg c, if_neg c, Int32.add_zero, Nat.add_zero]
    rw [e, ih (i + 1) fun j h1 h2 => h j (by omega) (by omega), show i + 1 + n = i + (n + 1) by omega]
theorem helpers_ct (F : vF) : w_helpers F = nI (fb_ct (hpB F) 8) := by
  rw [t_w_helpers]
  have := sL_ct (f := fun i => if F (13 + 14 * i + 0) = 1 then (if F (13 + 14 * i + 7) = 0 then 1 else 0) else 0) (p := hpB F) 8 0 (fun j _ _ => by
    unfold hpB
    by_cases c1 : F (13 + 14 * j + 0) = 1
    · rw [if_pos c1]
      by_cases c2 : F (13 + 14 * j + 7) = 0
      · rw [if_pos c2, if_pos (decide_eq_true ⟨c1, c2⟩)]
      · rw [if_neg c2, if_neg (fun q => c2 (of_decide_eq_true q).2)]
    · rw [if_neg c1, if_neg (fun q => c1 (of_decide_eq_true q).1)])
  rw [Nat.zero_add] at this
  exact this
/-- what the first c of h helpers pay of R -/
def sf (R h c : Nat) : Nat := c * (R / h) + min c (R % h)
theorem sf_all {R h : Nat} (hh : 0 < h) : sf R h h = R := by
  unfold sf
  have h1 := Nat.mod_lt R hh
  have h2 := Nat.div_add_mod R h
  rw [Nat.min_eq_right (by omega)]
  exact h2
theorem sf_succ {R h c : Nat} : sf R h (c + 1) = sf R h c + (R / h + if c < R % h then 1 else 0) := by
  unfold sf
  rw [Nat.succ_mul]
  split <;> omega
theorem sf_mono {R h c d : Nat} (hc : c ≤ d) : sf R h c ≤ sf R h d := by
  unfold sf
  have := Nat.mul_le_mul_right (R / h) hc
  omega
/-- places that the sharing of a rest does not change -/
def Fs (m j : Nat) : Prop := ¬ (13 ≤ j ∧ j < 125 ∧ (j - 13) % 14 = 13) ∧ ¬ (125 + 8 * m ≤ j ∧ j < 133 + 8 * m)
theorem Fs_w (hk : k < 8) (hw : w < 13) : Fs m (13 + 14 * k + w) := by
  unfold Fs
  omega
theorem Fs_g {j : Nat} (h : j < 13) : Fs m j := by
  unfold Fs
  omega
theorem Fs_d (h : k ≠ m) (hp : p < 8) : Fs m (125 + 8 * k + p) := by
  unfold Fs
  omega
theorem sh_sum (hm : m < 8) {R hn : Nat} {d : Int32} {pb : Nat → Bool} (hh : 0 < hn) (hct : fb_ct pb 8 = hn) (hh8 : hn ≤ 8) (hR : R < 2 ^ 30) : ∀ (n i : Nat) (G : vG), i + n = 8 → (∀ o, o < 8 → hpB G.1 o = pb o) →
    (∀ q, q < 8 → 0 ≤ (G.1 (125 + 8 * m + q)).toInt) → Zd G.1 m + ((R : Int) - sf R hn (fb_ct pb i)) ≤ 1073741824 → (∀ q, q < 8 → 0 ≤ (G.2.1 q).toInt) → Zq G.2.1 + ((R : Int) - sf R hn (fb_ct pb i)) ≤ 1073741824 →
    ∃ G', w_misses_L122 (n + 1) G (nI m) i (nI (fb_ct pb i)) (nI hn) (nI R) d = (d, G') ∧ Zd G'.1 m = Zd G.1 m + ((R : Int) - sf R hn (fb_ct pb i)) ∧ (∀ q, q < 8 → 0 ≤ (G'.1 (125 + 8 * m + q)).toInt) ∧ Zq G'.2.1 = Zq G.2.1 + ((R : Int) - sf R hn (fb_ct pb i)) ∧ (∀ q, q < 8 → 0 ≤ (G'.2.1 q).toInt) ∧ (∀ j, Fs m j → G'.1 j = G.1 j) ∧ G'.2.2 = G.2.2 := by
  intro n
  induction n with
  | zero =>
    intro i G hi hf hD hZ hQ hZQ
    obtain rfl : i = 8 := by omega
    rw [w_misses_L122.eq_2, if_pos le8]
    rw [hct, sf_all hh] at *
    exact ⟨G, rfl, by omega, hD, by omega, hQ, fun _ _ => rfl, rfl⟩
  | succ n ih =>
    intro i G hi hf hD hZ hQ hZQ
    have hi8 : i < 8 := by omega
    rw [w_misses_L122.eq_2, if_neg (ge8 hi8), nm_eq, nof_0 hi8]
    have hfi := hf i hi8
    unfold hpB at hfi
    by_cases c0 : pb i = true
    · rw [c0, decide_eq_true_iff] at hfi
      rw [if_pos hfi.1, nm_eq, nof_7 hi8, if_pos hfi.2, pk_rem (by omega) hh (by omega), pk_div (by omega) hh (by omega)]
      have hc1 : fb_ct pb (i + 1) = fb_ct pb i + 1 := by rw [fb_ct_succ, if_pos c0]
      have hcm : fb_ct pb (i + 1) ≤ hn := by rw [← hct]; exact fb_ct_mono pb (by omega)
      have hsm := sf_mono (R := R) (h := hn) hcm
      rw [sf_all hh] at hsm
      have hss : sf R hn (fb_ct pb (i + 1)) = sf R hn (fb_ct pb i) + (R / hn + if fb_ct pb i < R % hn then 1 else 0) := by rw [hc1, sf_succ]
      have hDi := hD i hi8
      have hDs := si_part (g := fun p => (G.1 (125 + 8 * m + p)).toInt) hD hi8
      have hQi := hQ i hi8
      have hQs := si_part (g := fun p => (G.2.1 p).toInt) hQ hi8
      have hDs' : (G.1 (125 + 8 * m + i)).toInt ≤ Zd G.1 m := hDs
      have hQs' : (G.2.1 i).toInt ≤ Zq G.2.1 := hQs
      have step : ∀ (t : Nat), sf R hn (fb_ct pb (i + 1)) = sf R hn (fb_ct pb i) + t → ∀ (a b : Int32), b = nI t →
          ∃ G', w_misses_L122 (n + 1) (up6 (upq (upq G (125 + 8 * m + i) (G.1 (125 + 8 * m + i) + b)) (13 + 14 * i + 13) a) i (G.2.1 i + b)) (nI m) (i + 1) (nI (fb_ct pb (i + 1))) (nI hn) (nI R) d = (d, G') ∧ Zd G'.1 m = Zd G.1 m + ((R : Int) - sf R hn (fb_ct pb i)) ∧ (∀ q, q < 8 → 0 ≤ (G'.1 (125 + 8 * m + q)).toInt) ∧ Zq G'.2.1 = Zq G.2.1 + ((R : Int) - sf R hn (fb_ct pb i)) ∧ (∀ q, q < 8 → 0 ≤ (G'.2.1 q).toInt) ∧ (∀ j, Fs m j → G'.1 j = G.1 j) ∧ G'.2.2 = G.2.2 := by
        intro t ht a b hb
        have hbt : b.toInt = t := by rw [hb]; exact nI_toInt (by omega)
        have e1 : (G.1 (125 + 8 * m + i) + b).toInt = (G.1 (125 + 8 * m + i)).toInt + t := by rw [fb_addI (by omega) (by omega), hbt]
        have e2 : (G.2.1 i + b).toInt = (G.2.1 i).toInt + t := by rw [fb_addI (by omega) (by omega), hbt]
        have eZ : Zd (up6 (upq (upq G (125 + 8 * m + i) (G.1 (125 + 8 * m + i) + b)) (13 + 14 * i + 13) a) i (G.2.1 i + b)).1 m = Zd G.1 m + t := by
          rw [up6_1, upq_1, Zd_h (by omega), upq_1, Zd_up hi8, e1]
          omega
        have eQ : Zq (up6 (upq (upq G (125 + 8 * m + i) (G.1 (125 + 8 * m + i) + b)) (13 + 14 * i + 13) a) i (G.2.1 i + b)).2.1 = Zq G.2.1 + t := by
          rw [up6_2, upq_2, upq_2, Zq_up hi8, e2]
          omega
        obtain ⟨G', r0, r1, r2, r3, r4, r5, r6⟩ := ih (i + 1) (up6 (upq (upq G (125 + 8 * m + i) (G.1 (125 + 8 * m + i) + b)) (13 + 14 * i + 13) a) i (G.2.1 i + b)) (by omega) (by
            intro o ho
            rw [← hf o ho]
            unfold hpB
            simp (disch := omega) only [up6_1, upq_1, upd_ne]) (by
            intro q hq
            rw [up6_1, upq_1, upd_ne (by omega), upq_1, upd_at]
            by_cases c : q = i
            · rw [if_pos (by omega), e1]; omega
            · rw [if_neg (by omega)]; exact hD q hq) (by rw [eZ]; omega) (by
            intro q hq
            rw [up6_2, upq_2, upq_2, upd_at]
            by_cases c : q = i
            · rw [if_pos c, e2]; omega
            · rw [if_neg c]; exact hQ q hq) (by rw [eQ]; omega)
        refine ⟨G', r0, ?_, r2, ?_, r4, ?_, r6⟩
        · rw [r1, eZ]; omega
        · rw [r3, eQ]; omega
        · intro j hj
          rw [r5 j hj, up6_1, upq_1, upd_ne (by intro e; subst e; unfold Fs at hj; omega), upq_1, upd_ne (by intro e; subst e; unfold Fs at hj; omega)]
      rw [hc1] at step
      by_cases c3 : R % hn ≤ fb_ct pb i
      · rw [if_pos (nI_le c3 (by have := fb_ct_le pb i; omega))]
        simp only [nm_eq, nad_13 hi8, cl8 hm, Int32.add_zero, nI_1]
        exact step (R / hn) (by rw [← hc1, hss, if_neg (by omega)]; omega) _ _ rfl
      · rw [if_neg (nI_ge (by omega) (by have := Nat.mod_lt R hh; omega))]
        simp only [nm_eq, nad_13 hi8, cl8 hm, nI_1]
        exact step (R / hn + 1) (by rw [← hc1, hss, if_pos (by omega)]) _ _ rfl
    · have c0' : pb i = false := by simpa using c0
      rw [c0', decide_eq_false_iff_not] at hfi
      have hc1 : fb_ct pb (i + 1) = fb_ct pb i := by rw [fb_ct_succ, if_neg c0, Nat.add_zero]
      have := ih (i + 1) G (by omega) hf hD (by rw [hc1]; exact hZ) hQ (by rw [hc1]; exact hZQ)
      rw [hc1] at this
      by_cases c1 : G.1 (13 + 14 * i + 0) = 1
      · rw [if_pos c1, nm_eq, nof_7 hi8, if_neg (fun q => hfi ⟨c1, q⟩)]
        exact this
      · rw [if_neg c1]
        exact this
end SUMS
