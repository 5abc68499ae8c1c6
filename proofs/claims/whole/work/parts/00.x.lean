section XDEFS
abbrev vS : Type := Nat → Nat → Int32
def nm {α β : Type} (a : α) (f : α → β) : β := f a
theorem nm_at {α β : Type} {z : β} {a y : α} {f : α → β} (h : z = nm a f) (e : y = a) : z = f y := by rw [e]; exact h
theorem nm_eq {α β : Type} (a : α) (f : α → β) : nm a f = f a := Eq.trans rfl rfl
theorem nm_at2 {α β γ : Type} {z : γ} {p : α × β} {y : α} {w : β} {f : α × β → γ} (h : z = nm p f) (e : y = p.1) (e2 : w = p.2) : z = f (y, w) := by rw [e, e2]; exact h
def st (S : vS) (q j : Nat) (x : Int32) : vS := va_up S q (upd (S q) j x)
theorem st_at (S : vS) (q j : Nat) (x : Int32) (q' j' : Nat) : st S q j x q' j' = if q' = q ∧ j' = j then x else S q' j' := by
  unfold st va_up upd
  by_cases h : q' = q
  · subst h
    by_cases h2 : j' = j
    · simp [h2]
    · simp [h2]
  · simp [h]
def cpy (S : vS) (q0 q1 n : Nat) : vS := va_up S q1 (va_cpy (S q0) (S q1) 0 0 n)
def gG (g : Nat) : Nat := 19 * g
def gA (g : Nat) : Nat := 19 * g + 1
def gS (g : Nat) : Nat := 19 * g + 2
def gM (g m : Nat) : Nat := 19 * g + 3 + m
def gD (g m : Nat) : Nat := 19 * g + 11 + m
def jO : Nat := 152
def hO : Nat := 153
def hA : Nat := 154
def tO : Nat := 155
def tC : Nat := 156
def oL : Nat := 157
def bz (x : Int32) : Int32 := if x = 0 then 0 else 1
theorem bz_01 (x : Int32) : bz x = 0 ∨ bz x = 1 := by unfold bz; split <;> simp
theorem bz_id {x : Int32} (h : x = 0 ∨ x = 1) : bz x = x := by rcases h with rfl | rfl <;> rfl
def nmp {α β γ : Type} (a : α × β) (f : α → β → γ) : γ := f a.1 a.2
theorem nmp_eq {α β γ : Type} (a : α × β) (f : α → β → γ) : nmp a f = f a.1 a.2 := Eq.trans rfl rfl
theorem nmp_at {α β γ : Type} {z : γ} {a : α × β} {y : α} {w : β} {f : α → β → γ} (h : z = nmp a f) (e : (y, w) = a) : z = f y w := by rw [← e] at h; exact h
def oc {α β : Type} (o : Option α) (a : β) (f : α → β) : β := match o with
  | none => a
  | some k => f k
theorem oc_none {α β : Type} {z : β} {o : Option α} {a : β} {f : α → β} (h : z = oc o a f) (e : o = none) : z = a := by rw [e] at h; exact h
theorem oc_some {α β : Type} {z : β} {o : Option α} {a : β} {f : α → β} {k : α} (h : z = oc o a f) (e : o = some k) : z = f k := by rw [e] at h; exact h
theorem nar_z {x : Int32} (h : x = 0 ∨ x = 1) : narrow .boolean (.int x) = .int x := by rcases h with rfl | rfl <;> rfl
theorem fit_z {x : Int32} (h : x = 0 ∨ x = 1) : fits .boolean (.int x) = true := by rcases h with rfl | rfl <;> rfl
theorem nI_of_nle {a b : Nat} (hb : b < 2 ^ 31) (h : ¬ nI b ≤ nI a) (ha : a ≤ 2000) : a < b := by
  rcases Nat.lt_or_ge a b with q | q
  · exact q
  · exact absurd (nI_le q (by omega)) h
theorem nI_of_lt {a b : Nat} (hb : b < 2 ^ 31) (h : nI a < nI b) (ha : a ≤ 2000) : a < b := by
  rcases Nat.lt_or_ge a b with q | q
  · exact q
  · exact absurd h (nI_nlt q (by omega))
theorem nI_of_nlt {a b : Nat} (hb : b < 2 ^ 31) (h : ¬ nI b < nI a) (ha : a ≤ 2000) : a < b + 1 := by
  rcases Nat.lt_or_ge b a with q | q
  · exact absurd (nI_lt q (by omega)) h
  · omega
theorem nI_of_le {a b : Nat} (hb : b < 2 ^ 31) (h : nI a ≤ nI b) (ha : a ≤ 2000) : a < b + 1 := by
  rcases Nat.lt_or_ge b a with q | q
  · exact absurd h (nI_ge q (by omega))
  · omega
theorem nle_of_lt {x y : Int32} (h : x < y) : ¬ y ≤ x := Int32.not_le.mpr h
theorem nlt_of_le {x y : Int32} (h : y ≤ x) : ¬ x < y := Int32.not_lt.mpr h
theorem nlt_of_lt {x y : Int32} (h : y < x) : ¬ x < y := fun q => Int32.lt_irrefl (Int32.lt_trans h q)
theorem nlt_of_nle {x y : Int32} (h : ¬ x ≤ y) : ¬ x < y := fun q => h (Int32.le_of_lt q)
theorem nle_of_ngt {x : Int32} {b : Nat} (h : ¬ nI b < x) (hb : b < 2 ^ 30) : ¬ nI (b + 1) ≤ x := by
  intro q
  refine h ?_
  rw [Int32.lt_iff_toInt_lt, nI_toInt (by omega)]
  rw [Int32.le_iff_toInt_le, nI_toInt (by omega)] at q
  omega
theorem nle_of_le {x : Int32} {b : Nat} (h : x ≤ nI b) (hb : b < 2 ^ 30) : ¬ nI (b + 1) ≤ x := by
  intro q
  rw [Int32.le_iff_toInt_le, nI_toInt (by omega)] at q
  rw [Int32.le_iff_toInt_le, nI_toInt (by omega)] at h
  omega
theorem vin_of {x : Int32} {n N : Nat} (h1 : ¬ x < 0) (h2 : ¬ nI n ≤ x) (hn : n < 2 ^ 30) (hN : n ≤ N) : vp_in x N := by
  rw [vp_in_iff]
  rw [Int32.le_iff_toInt_le, nI_toInt (by omega)] at h2
  rw [Int32.lt_iff_toInt_lt] at h1
  have : (0 : Int32).toInt = 0 := by decide
  omega
theorem nI_of_nleV {a : Nat} {x : Int32} (h : ¬ x ≤ nI a) (ha : a ≤ x.toNatClampNeg) : a < x.toNatClampNeg := by
  rcases Nat.lt_or_ge a x.toNatClampNeg with q | q
  · exact q
  · exfalso
    refine h ?_
    have e : x.toNatClampNeg = x.toInt.toNat := rfl
    have r := x.toInt_lt
    rw [Int32.le_iff_toInt_le, nI_toInt (by omega)]
    omega
theorem nz_of_le {x : Int32} (h : 1 ≤ x) : ¬ x = 0 := fun e => by rw [e] at h; exact absurd h (by decide)
theorem nz_of_nle {x : Int32} (h : ¬ x ≤ 0) : ¬ x = 0 := fun e => h (by rw [e]; decide)
theorem nz_of_lt {x : Int32} (h : 0 < x) : ¬ x = 0 := fun e => by rw [e] at h; exact absurd h (by decide)
theorem vin_lt {x : Int32} {n : Nat} (h : vp_in x n) : x.toNatClampNeg < n := Nat.not_le.mp fun q => h (Or.inr q)
theorem hqq {q : Nat} (h : q = 1 ∨ q = 2) : q < 7 := by omega
def lnE : List Nat := [4, 4, 3, 4, 4, 5]
def byE : List (List Int32) := [[108, 111, 97, 110], [97, 119, 97, 121], [112, 97, 121], [104, 101, 108, 112], [119, 101, 101, 107], [99, 121, 99, 108, 101]]
def lsE (j : Nat) : Int32 := [0, 0, 1, 0].getD j 0
def msE (j : Nat) : Int32 := [50, 99, 20, 100].getD j 0
def tb {α β : Type} (d : β) (z : (Nat × α) × vS) (f : α → vS → (Nat × β) × vS) : (Nat × β) × vS := if z.1.1 = 0 then f z.1.2 z.2 else ((z.1.1, d), z.2)
def tbp {α β : Type} (d : β) (z : Nat × α) (S : vS) (f : α → (Nat × β) × vS) : (Nat × β) × vS := if z.1 = 0 then f z.2 else ((z.1, d), S)
def tbq {α β : Type} (d : β) (z : Nat × α) (f : α → Nat × β) : Nat × β := if z.1 = 0 then f z.2 else (z.1, d)
def chE (i k : Nat) : Int32 := (byE.getD i []).getD k 0
def x_J0_length_8abf5 (S : vS) (i : Nat) : Int32 := nI (lnE.getD i 0)
def x_J0_charAt_5068e (S : vS) (i k : Nat) : Int32 := chE i k
end XDEFS
