section CELLS
def gG (g : Nat) : Nat := 19 * g
def gA (g : Nat) : Nat := 19 * g + 1
def gS (g : Nat) : Nat := 19 * g + 2
def gM (g m : Nat) : Nat := 19 * g + 3 + m
def gD (g m : Nat) : Nat := 19 * g + 11 + m
def jO : Nat := 152
def hO : Nat := 153
def hA : Nat := 154
def tO : Nat := 155
def tC : Nat := 156
def oL : Nat := 157
def grpF (ad : Nat → Nat) (g : Nat) (f : Nat → Int32) : List Value := [.ref (ad (gA g)), .ref (ad (gS g)), .int (f 2), .int (f 3), .int (f 4), .int (f 5), .int (f 6), .int (f 7), .int (f 8), .int (f 9), .int (f 10)]
def bz (x : Int32) : Int32 := if x = 0 then 0 else 1
theorem bz_01 (x : Int32) : bz x = 0 ∨ bz x = 1 := by unfold bz; split <;> simp
theorem bz_id {x : Int32} (h : x = 0 ∨ x = 1) : bz x = x := by rcases h with rfl | rfl <;> rfl
def memF (ad : Nat → Nat) (g m : Nat) (f : Nat → Int32) : List Value := [.int (nI m), .int (bz (f 1)), .int (f 2), .int (f 3), .int (f 4), .int (f 5), .int (f 6), .int (f 7), .int (bz (f 8)), .int (f 9), .int (f 10), .int (f 11), .int (f 12), .int (f 13), .int (f 14), .ref (ad (gD g m))]
def joF (ad : Nat → Nat) : List Value := [.ref (ad (gG 0)), .ref (ad (gG 1)), .ref (ad hO), .ref (ad tO)]
def hoF (ad : Nat → Nat) (f : Nat → Int32) : List Value := [.ref (ad hA), .int (f 1), .int (f 2)]
def toF (ad : Nat → Nat) (f : Nat → Int32) : List Value := [.ref (ad tC), .int (f 1), .int (f 2), .int (f 3), .int (f 4), .int (f 5), .int (f 6)]
def cC (D : va_G) (ad : Nat → Nat) (q : Nat) (f : Nat → Int32) : va_E :=
  if q < 152 then
    (if q % 19 = 0 then .inr (0, grpF ad (q / 19) f)
     else if q % 19 = 1 then .inl (D.1 12, 8, .inr (.inr (.inr (.inr (fun i => some (ad (gM (q / 19) i)))))))
     else if q % 19 = 2 then .inl (D.1 10, 4, .inl f)
     else if q % 19 < 11 then .inr (2, memF ad (q / 19) (q % 19 - 3) f)
     else .inl (D.1 10, 8, .inl f))
  else if q = 152 then .inr (4, joF ad)
  else if q = 153 then .inr (1, hoF ad f)
  else if q = 154 then .inl (D.1 13, 6, .inr (.inr (.inr (.inr (fun i => some (ad (gG (i + 2))))))))
  else if q = 155 then .inr (3, toF ad f)
  else if q = 156 then .inl (D.1 11, 60, .inl f)
  else .inl (D.1 14, 1, .inr (.inl (fun j => (f j).toInt64)))
variable {D : va_G} {ad : Nat → Nat} {g m : Nat} {f : Nat → Int32}
theorem hqG (hg : g < 8) : gG g < 157 := by unfold gG; omega
theorem hqA (hg : g < 8) : gA g < 157 := by unfold gA; omega
theorem hqS (hg : g < 8) : gS g < 157 := by unfold gS; omega
theorem hqM (hg : g < 8) (hm : m < 8) : gM g m < 157 := by unfold gM; omega
theorem hqD (hg : g < 8) (hm : m < 8) : gD g m < 157 := by unfold gD; omega
theorem hqj : jO < 157 := by decide
theorem hqh : hO < 157 := by decide
theorem hqa : hA < 157 := by decide
theorem hqt : tO < 157 := by decide
theorem hqc : tC < 157 := by decide
theorem cC_G (hg : g < 8) : cC D ad (gG g) f = .inr (0, grpF ad g f) := by
  have h1 : 19 * g < 152 := by omega
  have h2 : 19 * g % 19 = 0 := by omega
  have h3 : 19 * g / 19 = g := by omega
  unfold cC gG
  rw [if_pos h1, if_pos h2, h3]
theorem cC_A (hg : g < 8) : cC D ad (gA g) f = .inl (D.1 12, 8, .inr (.inr (.inr (.inr (fun i => some (ad (gM g i))))))) := by
  have h1 : 19 * g + 1 < 152 := by omega
  have h2 : ¬ (19 * g + 1) % 19 = 0 := by omega
  have h4 : (19 * g + 1) % 19 = 1 := by omega
  have h3 : (19 * g + 1) / 19 = g := by omega
  unfold cC gA
  rw [if_pos h1, if_neg h2, if_pos h4, h3]
theorem cC_S (hg : g < 8) : cC D ad (gS g) f = .inl (D.1 10, 4, .inl f) := by
  have h1 : 19 * g + 2 < 152 := by omega
  have h2 : ¬ (19 * g + 2) % 19 = 0 := by omega
  have h4 : ¬ (19 * g + 2) % 19 = 1 := by omega
  have h5 : (19 * g + 2) % 19 = 2 := by omega
  unfold cC gS
  rw [if_pos h1, if_neg h2, if_neg h4, if_pos h5]
theorem cC_M (hg : g < 8) (hm : m < 8) : cC D ad (gM g m) f = .inr (2, memF ad g m f) := by
  have h1 : 19 * g + 3 + m < 152 := by omega
  have h2 : ¬ (19 * g + 3 + m) % 19 = 0 := by omega
  have h4 : ¬ (19 * g + 3 + m) % 19 = 1 := by omega
  have h5 : ¬ (19 * g + 3 + m) % 19 = 2 := by omega
  have h6 : (19 * g + 3 + m) % 19 < 11 := by omega
  have h3 : (19 * g + 3 + m) / 19 = g := by omega
  have h7 : (19 * g + 3 + m) % 19 - 3 = m := by omega
  unfold cC gM
  rw [if_pos h1, if_neg h2, if_neg h4, if_neg h5, if_pos h6, h3, h7]
theorem cC_D (hg : g < 8) (hm : m < 8) : cC D ad (gD g m) f = .inl (D.1 10, 8, .inl f) := by
  have h1 : 19 * g + 11 + m < 152 := by omega
  have h2 : ¬ (19 * g + 11 + m) % 19 = 0 := by omega
  have h4 : ¬ (19 * g + 11 + m) % 19 = 1 := by omega
  have h5 : ¬ (19 * g + 11 + m) % 19 = 2 := by omega
  have h6 : ¬ (19 * g + 11 + m) % 19 < 11 := by omega
  unfold cC gD
  rw [if_pos h1, if_neg h2, if_neg h4, if_neg h5, if_neg h6]
theorem cC_j : cC D ad jO f = .inr (4, joF ad) := rfl
theorem cC_h : cC D ad hO f = .inr (1, hoF ad f) := rfl
theorem cC_a : cC D ad hA f = .inl (D.1 13, 6, .inr (.inr (.inr (.inr (fun i => some (ad (gG (i + 2)))))))) := rfl
theorem cC_t : cC D ad tO f = .inr (3, toF ad f) := rfl
theorem cC_c : cC D ad tC f = .inl (D.1 11, 60, .inl f) := rfl
theorem cC_o : cC D ad oL f = .inl (D.1 14, 1, .inr (.inl (fun j => (f j).toInt64))) := rfl
theorem pG_2 (hg : g < 8) {x : Int32} : cC D ad (gG g) (upd f 2 x) = .inr (0, (grpF ad g f).set 2 (.int x)) := by rw [cC_G hg]; rfl
theorem pG_3 (hg : g < 8) {x : Int32} : cC D ad (gG g) (upd f 3 x) = .inr (0, (grpF ad g f).set 3 (.int x)) := by rw [cC_G hg]; rfl
theorem pG_4 (hg : g < 8) {x : Int32} : cC D ad (gG g) (upd f 4 x) = .inr (0, (grpF ad g f).set 4 (.int x)) := by rw [cC_G hg]; rfl
theorem pG_5 (hg : g < 8) {x : Int32} : cC D ad (gG g) (upd f 5 x) = .inr (0, (grpF ad g f).set 5 (.int x)) := by rw [cC_G hg]; rfl
theorem pG_6 (hg : g < 8) {x : Int32} : cC D ad (gG g) (upd f 6 x) = .inr (0, (grpF ad g f).set 6 (.int x)) := by rw [cC_G hg]; rfl
theorem pG_7 (hg : g < 8) {x : Int32} : cC D ad (gG g) (upd f 7 x) = .inr (0, (grpF ad g f).set 7 (.int x)) := by rw [cC_G hg]; rfl
theorem pG_8 (hg : g < 8) {x : Int32} : cC D ad (gG g) (upd f 8 x) = .inr (0, (grpF ad g f).set 8 (.int x)) := by rw [cC_G hg]; rfl
theorem pG_9 (hg : g < 8) {x : Int32} : cC D ad (gG g) (upd f 9 x) = .inr (0, (grpF ad g f).set 9 (.int x)) := by rw [cC_G hg]; rfl
theorem pG_10 (hg : g < 8) {x : Int32} : cC D ad (gG g) (upd f 10 x) = .inr (0, (grpF ad g f).set 10 (.int x)) := by rw [cC_G hg]; rfl
theorem pM_1 (hg : g < 8) (hm : m < 8) {x : Int32} (hz : x = 0 ∨ x = 1) : cC D ad (gM g m) (upd f 1 x) = .inr (2, (memF ad g m f).set 1 (.int x)) := by rw [cC_M hg hm]; rcases hz with rfl | rfl <;> rfl
theorem pM_8 (hg : g < 8) (hm : m < 8) {x : Int32} (hz : x = 0 ∨ x = 1) : cC D ad (gM g m) (upd f 8 x) = .inr (2, (memF ad g m f).set 8 (.int x)) := by rw [cC_M hg hm]; rcases hz with rfl | rfl <;> rfl
theorem pM_2 (hg : g < 8) (hm : m < 8) {x : Int32} : cC D ad (gM g m) (upd f 2 x) = .inr (2, (memF ad g m f).set 2 (.int x)) := by rw [cC_M hg hm]; rfl
theorem pM_3 (hg : g < 8) (hm : m < 8) {x : Int32} : cC D ad (gM g m) (upd f 3 x) = .inr (2, (memF ad g m f).set 3 (.int x)) := by rw [cC_M hg hm]; rfl
theorem pM_4 (hg : g < 8) (hm : m < 8) {x : Int32} : cC D ad (gM g m) (upd f 4 x) = .inr (2, (memF ad g m f).set 4 (.int x)) := by rw [cC_M hg hm]; rfl
theorem pM_5 (hg : g < 8) (hm : m < 8) {x : Int32} : cC D ad (gM g m) (upd f 5 x) = .inr (2, (memF ad g m f).set 5 (.int x)) := by rw [cC_M hg hm]; rfl
theorem pM_6 (hg : g < 8) (hm : m < 8) {x : Int32} : cC D ad (gM g m) (upd f 6 x) = .inr (2, (memF ad g m f).set 6 (.int x)) := by rw [cC_M hg hm]; rfl
theorem pM_7 (hg : g < 8) (hm : m < 8) {x : Int32} : cC D ad (gM g m) (upd f 7 x) = .inr (2, (memF ad g m f).set 7 (.int x)) := by rw [cC_M hg hm]; rfl
theorem pM_9 (hg : g < 8) (hm : m < 8) {x : Int32} : cC D ad (gM g m) (upd f 9 x) = .inr (2, (memF ad g m f).set 9 (.int x)) := by rw [cC_M hg hm]; rfl
theorem pM_10 (hg : g < 8) (hm : m < 8) {x : Int32} : cC D ad (gM g m) (upd f 10 x) = .inr (2, (memF ad g m f).set 10 (.int x)) := by rw [cC_M hg hm]; rfl
theorem pM_11 (hg : g < 8) (hm : m < 8) {x : Int32} : cC D ad (gM g m) (upd f 11 x) = .inr (2, (memF ad g m f).set 11 (.int x)) := by rw [cC_M hg hm]; rfl
theorem pM_12 (hg : g < 8) (hm : m < 8) {x : Int32} : cC D ad (gM g m) (upd f 12 x) = .inr (2, (memF ad g m f).set 12 (.int x)) := by rw [cC_M hg hm]; rfl
theorem pM_13 (hg : g < 8) (hm : m < 8) {x : Int32} : cC D ad (gM g m) (upd f 13 x) = .inr (2, (memF ad g m f).set 13 (.int x)) := by rw [cC_M hg hm]; rfl
theorem pM_14 (hg : g < 8) (hm : m < 8) {x : Int32} : cC D ad (gM g m) (upd f 14 x) = .inr (2, (memF ad g m f).set 14 (.int x)) := by rw [cC_M hg hm]; rfl
theorem pH_1 {x : Int32} : cC D ad hO (upd f 1 x) = .inr (1, (hoF ad f).set 1 (.int x)) := by rw [cC_h]; rfl
theorem pH_2 {x : Int32} : cC D ad hO (upd f 2 x) = .inr (1, (hoF ad f).set 2 (.int x)) := by rw [cC_h]; rfl
theorem pT_1 {x : Int32} : cC D ad tO (upd f 1 x) = .inr (3, (toF ad f).set 1 (.int x)) := by rw [cC_t]; rfl
theorem pT_2 {x : Int32} : cC D ad tO (upd f 2 x) = .inr (3, (toF ad f).set 2 (.int x)) := by rw [cC_t]; rfl
theorem pT_3 {x : Int32} : cC D ad tO (upd f 3 x) = .inr (3, (toF ad f).set 3 (.int x)) := by rw [cC_t]; rfl
theorem pT_4 {x : Int32} : cC D ad tO (upd f 4 x) = .inr (3, (toF ad f).set 4 (.int x)) := by rw [cC_t]; rfl
theorem pT_5 {x : Int32} : cC D ad tO (upd f 5 x) = .inr (3, (toF ad f).set 5 (.int x)) := by rw [cC_t]; rfl
theorem pT_6 {x : Int32} : cC D ad tO (upd f 6 x) = .inr (3, (toF ad f).set 6 (.int x)) := by rw [cC_t]; rfl
def moF (ad : Nat → Nat) (f : Nat → Int32) : List Value := [.ref (ad 1), .ref (ad 2), .ref (ad 3), .int (f 3), .ref (ad 4), .int (f 5), .int (f 6), .int (f 7), .int (bz (f 8)), .int (f 9), .ref (ad 5), .int (f 11), .ref (ad 6), .int (bz (f 13))]
def mlen (q : Nat) : Nat := if q = 1 then 189 else if q = 2 then 189 else if q = 3 then 1134 else if q = 4 then 60 else if q = 5 then 64 else 8
def cM (D : va_G) (ad : Nat → Nat) (q : Nat) (f : Nat → Int32) : va_E := if q = 0 then .inr (5, moF ad f) else .inl (D.1 10, mlen q, .inl f)
theorem cM_o : cM D ad 0 f = .inr (5, moF ad f) := rfl
theorem cM_a {q : Nat} (hq : 0 < q) : cM D ad q f = .inl (D.1 10, mlen q, .inl f) := by
  unfold cM
  rw [if_neg (by omega)]
theorem pO_8 {x : Int32} (hz : x = 0 ∨ x = 1) : cM D ad 0 (upd f 8 x) = .inr (5, (moF ad f).set 8 (.int x)) := by rw [cM_o]; rcases hz with rfl | rfl <;> rfl
theorem pO_13 {x : Int32} (hz : x = 0 ∨ x = 1) : cM D ad 0 (upd f 13 x) = .inr (5, (moF ad f).set 13 (.int x)) := by rw [cM_o]; rcases hz with rfl | rfl <;> rfl
theorem pO_3 {x : Int32} : cM D ad 0 (upd f 3 x) = .inr (5, (moF ad f).set 3 (.int x)) := by rw [cM_o]; rfl
theorem pO_5 {x : Int32} : cM D ad 0 (upd f 5 x) = .inr (5, (moF ad f).set 5 (.int x)) := by rw [cM_o]; rfl
theorem pO_6 {x : Int32} : cM D ad 0 (upd f 6 x) = .inr (5, (moF ad f).set 6 (.int x)) := by rw [cM_o]; rfl
theorem pO_7 {x : Int32} : cM D ad 0 (upd f 7 x) = .inr (5, (moF ad f).set 7 (.int x)) := by rw [cM_o]; rfl
theorem pO_9 {x : Int32} : cM D ad 0 (upd f 9 x) = .inr (5, (moF ad f).set 9 (.int x)) := by rw [cM_o]; rfl
theorem pO_11 {x : Int32} : cM D ad 0 (upd f 11 x) = .inr (5, (moF ad f).set 11 (.int x)) := by rw [cM_o]; rfl
theorem cM_1 : cM D ad 1 f = .inl (D.1 10, 189, .inl f) := rfl
theorem cM_2 : cM D ad 2 f = .inl (D.1 10, 189, .inl f) := rfl
theorem cM_3 : cM D ad 3 f = .inl (D.1 10, 1134, .inl f) := rfl
theorem cM_4 : cM D ad 4 f = .inl (D.1 10, 60, .inl f) := rfl
theorem cM_5 : cM D ad 5 f = .inl (D.1 10, 64, .inl f) := rfl
theorem cM_6 : cM D ad 6 f = .inl (D.1 10, 8, .inl f) := rfl
def nmp {α β γ : Type} (a : α × β) (f : α → β → γ) : γ := f a.1 a.2
theorem nmp_eq {α β γ : Type} (a : α × β) (f : α → β → γ) : nmp a f = f a.1 a.2 := Eq.trans rfl rfl
theorem nmp_at {α β γ : Type} {z : γ} {a : α × β} {y : α} {w : β} {f : α → β → γ} (h : z = nmp a f) (e : (y, w) = a) : z = f y w := by rw [← e] at h; exact h
def oc {α β : Type} (o : Option α) (a : β) (f : α → β) : β := match o with
  | none => a
  | some k => f k
theorem oc_none {α β : Type} {z : β} {o : Option α} {a : β} {f : α → β} (h : z = oc o a f) (e : o = none) : z = a := by rw [e] at h; exact h
theorem oc_some {α β : Type} {z : β} {o : Option α} {a : β} {f : α → β} {k : α} (h : z = oc o a f) (e : o = some k) : z = f k := by rw [e] at h; exact h
theorem nar_z {x : Int32} (h : x = 0 ∨ x = 1) : narrow .boolean (.int x) = .int x := by rcases h with rfl | rfl <;> rfl
theorem fit_z {x : Int32} (h : x = 0 ∨ x = 1) : fits .boolean (.int x) = true := by rcases h with rfl | rfl <;> rfl
theorem nI_of_nle {a b : Nat} (hb : b < 2 ^ 31) (h : ¬ nI b ≤ nI a) (ha : a ≤ 2000) : a < b := by
  rcases Nat.lt_or_ge a b with q | q
  · exact q
  · exact absurd (nI_le q (by omega)) h
theorem nI_of_lt {a b : Nat} (hb : b < 2 ^ 31) (h : nI a < nI b) (ha : a ≤ 2000) : a < b := by
  rcases Nat.lt_or_ge a b with q | q
  · exact q
  · exact absurd h (nI_nlt q (by omega))
theorem nI_of_nlt {a b : Nat} (hb : b < 2 ^ 31) (h : ¬ nI b < nI a) (ha : a ≤ 2000) : a < b + 1 := by
  rcases Nat.lt_or_ge b a with q | q
  · exact absurd (nI_lt q (by omega)) h
  · omega
theorem nI_of_le {a b : Nat} (hb : b < 2 ^ 31) (h : nI a ≤ nI b) (ha : a ≤ 2000) : a < b + 1 := by
  rcases Nat.lt_or_ge b a with q | q
  · exact absurd h (nI_ge q (by omega))
  · omega
theorem nle_of_lt {x y : Int32} (h : x < y) : ¬ y ≤ x := Int32.not_le.mpr h
theorem nlt_of_le {x y : Int32} (h : y ≤ x) : ¬ x < y := Int32.not_lt.mpr h
theorem nlt_of_lt {x y : Int32} (h : y < x) : ¬ x < y := fun q => Int32.lt_irrefl (Int32.lt_trans h q)
theorem nlt_of_nle {x y : Int32} (h : ¬ x ≤ y) : ¬ x < y := fun q => h (Int32.le_of_lt q)
theorem nle_of_ngt {x : Int32} {b : Nat} (h : ¬ nI b < x) (hb : b < 2 ^ 30) : ¬ nI (b + 1) ≤ x := by
  intro q
  refine h ?_
  rw [Int32.lt_iff_toInt_lt, nI_toInt (by omega)]
  rw [Int32.le_iff_toInt_le, nI_toInt (by omega)] at q
  omega
theorem nle_of_le {x : Int32} {b : Nat} (h : x ≤ nI b) (hb : b < 2 ^ 30) : ¬ nI (b + 1) ≤ x := by
  intro q
  rw [Int32.le_iff_toInt_le, nI_toInt (by omega)] at q
  rw [Int32.le_iff_toInt_le, nI_toInt (by omega)] at h
  omega
theorem vin_of {x : Int32} {n N : Nat} (h1 : ¬ x < 0) (h2 : ¬ nI n ≤ x) (hn : n < 2 ^ 30) (hN : n ≤ N) : vp_in x N := by
  rw [vp_in_iff]
  rw [Int32.le_iff_toInt_le, nI_toInt (by omega)] at h2
  rw [Int32.lt_iff_toInt_lt] at h1
  have : (0 : Int32).toInt = 0 := by decide
  omega
theorem nI_of_nleV {a : Nat} {x : Int32} (h : ¬ x ≤ nI a) (ha : a ≤ x.toNatClampNeg) : a < x.toNatClampNeg := by
  rcases Nat.lt_or_ge a x.toNatClampNeg with q | q
  · exact q
  · exfalso
    refine h ?_
    have e : x.toNatClampNeg = x.toInt.toNat := rfl
    have r := x.toInt_lt
    rw [Int32.le_iff_toInt_le, nI_toInt (by omega)]
    omega
theorem nz_of_le {x : Int32} (h : 1 ≤ x) : ¬ x = 0 := fun e => by rw [e] at h; exact absurd h (by decide)
theorem nz_of_nle {x : Int32} (h : ¬ x ≤ 0) : ¬ x = 0 := fun e => h (by rw [e]; decide)
theorem nz_of_lt {x : Int32} (h : 0 < x) : ¬ x = 0 := fun e => by rw [e] at h; exact absurd h (by decide)
theorem vin_lt {x : Int32} {n : Nat} (h : vp_in x n) : x.toNatClampNeg < n := Nat.not_le.mp fun q => h (Or.inr q)
theorem hqq {q : Nat} (h : q = 1 ∨ q = 2) : q < 7 := by omega
theorem cM_q {q : Nat} (h : q = 1 ∨ q = 2) : cM D ad q f = .inl (D.1 10, 189, .inl f) := by rcases h with rfl | rfl <;> rfl
end CELLS
