section TEXTC
variable {S : vS} {len p n i : Nat} {k w a b x : Int32} {tx : Nat → Int32}
/-- the class's text S with the reader's numbers: place, kind, who, amount, weeks -/
def tst (S : vS) (p k w a b : Int32) : vS := fun c j => if c = tO then (if j = 2 then p else if j = 3 then k else if j = 4 then w else if j = 5 then a else if j = 6 then b else S tO j) else S c j
theorem tst_1 : tst S x k w a b tO 1 = S tO 1 := rfl
theorem tst_2 : tst S x k w a b tO 2 = x := rfl
theorem tst_3 : tst S x k w a b tO 3 = k := rfl
theorem tst_4 : tst S x k w a b tO 4 = w := rfl
theorem tst_5 : tst S x k w a b tO 5 = a := rfl
theorem tst_6 : tst S x k w a b tO 6 = b := rfl
theorem tst_c {j : Nat} : tst S x k w a b tC j = S tC j := rfl
theorem tst_o {c j : Nat} (h : c ≠ tO) : tst S x k w a b c j = S c j := if_neg h
theorem tst_st {j : Nat} {y p k w a b p' k' w' a' b' : Int32} (h : ∀ i, (if i = j then y else tst S p k w a b tO i) = tst S p' k' w' a' b' tO i) : st (tst S p k w a b) tO j y = tst S p' k' w' a' b' := by
  funext c i
  rw [st_at]
  by_cases c1 : c = tO
  · subst c1
    rw [← h i]
    by_cases c2 : i = j
    · rw [if_pos ⟨rfl, c2⟩, if_pos c2]
    · rw [if_neg (fun z => c2 z.2), if_neg c2]
  · rw [if_neg (fun z => c1 z.1), tst_o c1, tst_o c1]
theorem tst_s2 {y p : Int32} : st (tst S p k w a b) tO 2 y = tst S y k w a b := tst_st fun i => by
  by_cases c : i = 2
  · subst c; rw [if_pos rfl]; rfl
  · rw [if_neg c]; unfold tst; rw [if_pos rfl, if_pos rfl, if_neg c, if_neg c]
theorem tst_s3 {y p : Int32} : st (tst S p k w a b) tO 3 y = tst S p y w a b := tst_st fun i => by
  by_cases c : i = 3
  · subst c; rw [if_pos rfl]; rfl
  · rw [if_neg c]; unfold tst; rw [if_pos rfl, if_pos rfl, if_neg c, if_neg c]
theorem tst_s4 {y p : Int32} : st (tst S p k w a b) tO 4 y = tst S p k y a b := tst_st fun i => by
  by_cases c : i = 4
  · subst c; rw [if_pos rfl]; rfl
  · rw [if_neg c]; unfold tst; rw [if_pos rfl, if_pos rfl, if_neg c, if_neg c]
theorem tst_s5 {y p : Int32} : st (tst S p k w a b) tO 5 y = tst S p k w y b := tst_st fun i => by
  by_cases c : i = 5
  · subst c; rw [if_pos rfl]; rfl
  · rw [if_neg c]; unfold tst; rw [if_pos rfl, if_pos rfl, if_neg c, if_neg c]
theorem tst_s6 {y p : Int32} : st (tst S p k w a b) tO 6 y = tst S p k w a y := tst_st fun i => by
  by_cases c : i = 6
  · subst c; rw [if_pos rfl]; rfl
  · rw [if_neg c]; unfold tst; rw [if_pos rfl, if_pos rfl, if_neg c, if_neg c]
theorem tst_self (S : vS) : tst S (S tO 2) (S tO 3) (S tO 4) (S tO 5) (S tO 6) = S := by
  funext c i
  unfold tst
  by_cases c1 : c = tO
  · subst c1
    rw [if_pos rfl]
    by_cases c2 : i = 2
    · rw [if_pos c2, c2]
    rw [if_neg c2]
    by_cases c3 : i = 3
    · rw [if_pos c3, c3]
    rw [if_neg c3]
    by_cases c4 : i = 4
    · rw [if_pos c4, c4]
    rw [if_neg c4]
    by_cases c5 : i = 5
    · rw [if_pos c5, c5]
    rw [if_neg c5]
    by_cases c6 : i = 6
    · rw [if_pos c6, c6]
    rw [if_neg c6]
  · rw [if_neg c1]
/-- the character at a place; -1 behind the last one -/
def nx (tx : Nat → Int32) (len p : Nat) : Int32 := if p < len then tx p else -1
def numL (tx : Nat → Int32) (len : Nat) (hi : Int32) : Nat → Int32 → Nat → Int32 × Nat
  | 0, v, p => (v, p)
  | n + 1, v, p => if nx tx len p - 48 < 0 then (v, p) else if 9 < nx tx len p - 48 then (v, p) else if v * 10 + (nx tx len p - 48) < 1 then (v, p) else if v * 10 + (nx tx len p - 48) ≤ hi then numL tx len hi n (v * 10 + (nx tx len p - 48)) (p + 1) else (v, p)
def wdL (tx : Nat → Int32) (len : Nat) : List Int32 → Nat → Int32 × Nat
  | [], p => (1, p)
  | c :: cs, p => if nx tx len p = c then wdL tx len cs (p + 1) else (0, p)
theorem nx_lt {m : Int32} (h : nx tx len p = m) (hm : m ≠ -1) : p < len := by
  unfold nx at h
  by_cases c : p < len
  · exact c
  · rw [if_neg c] at h; exact absurd h.symm hm
theorem c_next (hL : S tO 1 = nI len) (h60 : len ≤ 60) (hp : p ≤ len) : x_X3_next (tst S (nI p) k w a b) = nx (S tC) len p := by
  unfold x_X3_next nx
  rw [tst_1, tst_2, hL, if_neg (nI_pos (by omega))]
  by_cases c : p < len
  · have e : tst S (nI p) k w a b tC = S tC := rfl
    rw [if_neg (nI_ge c (by omega)), if_pos c, if_neg (show ¬ (60 : Int32) ≤ nI p from nI_ge (b := 60) (by omega) (by decide)), nI_clamp (by omega), e]
  · rw [if_pos (nI_le (by omega) (by omega)), if_neg c]
theorem c_mark (hL : S tO 1 = nI len) (h60 : len ≤ 60) (hp : p ≤ len) : x_X3_readMark (tst S (nI p) k w a b) x = if nx (S tC) len p = x then (1, tst S (nI (p + 1)) k w a b) else (0, tst S (nI p) k w a b) := by
  unfold x_X3_readMark
  rw [nm_eq, c_next hL h60 hp]
  by_cases c : nx (S tC) len p = x
  · rw [if_pos c, if_pos c, nm_eq, tst_s2, tst_2, nI_1]
  · rw [if_neg c, if_neg c]
theorem getD_get (l : List Int32) (i : Nat) (h : i < l.length) : l.getD i 0 = l[i] := by
  rw [List.getD_eq_getElem?_getD, List.getElem?_eq_getElem h]
  rfl
theorem c_word {wi : Nat} (hw : wi < 6) (hL : S tO 1 = nI len) (h60 : len ≤ 60) : ∀ (n i p : Nat), i + n = 5 → i ≤ (byE.getD wi []).length → p ≤ len → x_X3_readWord_L2 (n + 1) (tst S (nI p) k w a b) wi i = ((wdL (S tC) len ((byE.getD wi []).drop i) p).1, tst S (nI (wdL (S tC) len ((byE.getD wi []).drop i) p).2) k w a b) := by
  have hlen : ∀ wi, wi < 6 → lnE.getD wi 0 = (byE.getD wi []).length ∧ (byE.getD wi []).length ≤ 5 ∧ ∀ c ∈ byE.getD wi [], c ≠ -1 := by decide
  obtain ⟨h1, h2, h3⟩ := hlen wi hw
  intro n
  induction n with
  | zero =>
    intro i p hi hil hp
    have e : (byE.getD wi []).drop i = [] := List.drop_of_length_le (by omega)
    rw [x_X3_readWord_L2.eq_2, nm_eq]
    unfold x_J0_length_8abf5
    rw [h1, if_pos (nI_le (by omega) (by omega)), e]
    rfl
  | succ n ih =>
    intro i p hi hil hp
    rw [x_X3_readWord_L2.eq_2, nm_eq]
    unfold x_J0_length_8abf5
    rw [h1]
    rcases Nat.lt_or_ge i (byE.getD wi []).length with c | c
    · have e : (byE.getD wi []).drop i = chE wi i :: (byE.getD wi []).drop (i + 1) := by
        rw [List.drop_eq_getElem_cons c]
        unfold chE
        rw [getD_get _ i c]
      have hne : chE wi i ≠ -1 := h3 _ (by
        unfold chE
        rw [getD_get _ i c]
        exact List.getElem_mem c)
      rw [if_neg (nI_ge c (by omega)), nm_eq]
      unfold x_J0_charAt_5068e
      rw [c_mark hL h60 hp, e]
      show _ = ((if nx (S tC) len p = chE wi i then wdL (S tC) len ((byE.getD wi []).drop (i + 1)) (p + 1) else (0, p)).1, _)
      by_cases c2 : nx (S tC) len p = chE wi i
      · have hlt := nx_lt c2 hne
        rw [if_pos c2, if_pos c2, nmp_eq]
        dsimp only
        rw [if_neg (by decide), ih (i + 1) (p + 1) (by omega) (by omega) (by omega)]
        show _ = (_, tst S (nI (if nx (S tC) len p = chE wi i then wdL (S tC) len ((byE.getD wi []).drop (i + 1)) (p + 1) else (0, p)).2) k w a b)
        rw [if_pos c2]
      · rw [if_neg c2, if_neg c2, nmp_eq]
        dsimp only
        rw [if_pos rfl]
        show _ = (_, tst S (nI (if nx (S tC) len p = chE wi i then wdL (S tC) len ((byE.getD wi []).drop (i + 1)) (p + 1) else (0, p)).2) k w a b)
        rw [if_neg c2]
    · have e : (byE.getD wi []).drop i = [] := List.drop_of_length_le (by omega)
      rw [if_pos (nI_le (by omega) (by omega)), e]
      rfl
theorem c_num (hL : S tO 1 = nI len) (h60 : len ≤ 60) {hi : Int32} : ∀ (n i p : Nat) (v : Int32), i + n = 60 → p ≤ len → x_X3_readNumber_L4 (n + 1) (tst S (nI p) k w a b) hi i v = ((numL (S tC) len hi n v p).1, tst S (nI (numL (S tC) len hi n v p).2) k w a b) := by
  intro n
  induction n with
  | zero =>
    intro i p v h hp
    obtain rfl : i = 60 := by omega
    rw [x_X3_readNumber_L4.eq_2, if_pos (by decide)]
    rfl
  | succ n ih =>
    intro i p v h hp
    have hc : ¬ (60 : Int32) ≤ nI i := fun q => absurd (nI_of_le (a := 60) (b := i) (by omega) q (by decide)) (by omega)
    rw [x_X3_readNumber_L4.eq_2, if_neg hc, nm_eq, c_next hL h60 hp, nm_eq, nm_eq, numL.eq_2]
    by_cases c1 : nx (S tC) len p - 48 < 0
    · rw [if_pos c1, if_pos c1]
    · have hlt : p < len := by
        by_cases q : p < len
        · exact q
        · unfold nx at c1
          rw [if_neg q] at c1
          exact absurd (by decide) c1
      rw [if_neg c1, if_neg c1]
      by_cases c2 : 9 < nx (S tC) len p - 48
      · rw [if_pos c2, if_pos c2]
      · rw [if_neg c2, if_neg c2]
        by_cases c3 : v * 10 + (nx (S tC) len p - 48) < 1
        · rw [if_pos c3, if_pos c3]
        · rw [if_neg c3, if_neg c3]
          by_cases c4 : v * 10 + (nx (S tC) len p - 48) ≤ hi
          · rw [if_pos c4, if_pos c4, nm_eq, tst_s2, tst_2, nI_1]
            exact ih (i + 1) (p + 1) _ (by omega) (by omega)
          · rw [if_neg c4, if_neg c4]
theorem numL_le : ∀ (n : Nat) (v : Int32) (p : Nat) {hi : Int32}, p ≤ len → (numL tx len hi n v p).2 ≤ len ∧ p ≤ (numL tx len hi n v p).2 := by
  intro n
  induction n with
  | zero => intro v p hi hp; exact ⟨hp, Nat.le_refl p⟩
  | succ n ih =>
    intro v p hi hp
    rw [numL.eq_2]
    by_cases c1 : nx tx len p - 48 < 0
    · rw [if_pos c1]; exact ⟨hp, Nat.le_refl p⟩
    · have hlt : p < len := by
        by_cases q : p < len
        · exact q
        · unfold nx at c1
          rw [if_neg q] at c1
          exact absurd (by decide) c1
      rw [if_neg c1]
      split
      · exact ⟨hp, Nat.le_refl p⟩
      split
      · exact ⟨hp, Nat.le_refl p⟩
      split
      · have := ih (v * 10 + (nx tx len p - 48)) (p + 1) (hi := hi) (by omega)
        exact ⟨this.1, by omega⟩
      · exact ⟨hp, Nat.le_refl p⟩
theorem wdL_le : ∀ (cs : List Int32) (p : Nat), (∀ c ∈ cs, c ≠ -1) → p ≤ len → (wdL tx len cs p).2 ≤ len ∧ p ≤ (wdL tx len cs p).2 := by
  intro cs
  induction cs with
  | nil => intro p _ hp; exact ⟨hp, Nat.le_refl p⟩
  | cons c cs ih =>
    intro p hc hp
    show (if nx tx len p = c then wdL tx len cs (p + 1) else (0, p)).2 ≤ len ∧ p ≤ (if nx tx len p = c then wdL tx len cs (p + 1) else (0, p)).2
    by_cases q : nx tx len p = c
    · have hlt := nx_lt q (hc c (List.mem_cons_self ..))
      rw [if_pos q]
      have := ih (p + 1) (fun c hc' => hc c (List.mem_cons_of_mem _ hc')) (by omega)
      exact ⟨this.1, by omega⟩
    · rw [if_neg q]; exact ⟨hp, Nat.le_refl p⟩
end TEXTC
