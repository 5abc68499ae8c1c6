section TEXTM
variable {T : vS} {len p n i K : Nat} {f v x y : Int32} {tx : Nat → Int32} {td : Nat → Int32} {lo hi c : Int32}
/-- the model's world with the reader's numbers: at, isFault, value, tolds, told -/
def mst (T : vS) (at_ f v n : Int32) (td : Nat → Int32) : vS := fun c j => if c = 0 then (if j = 7 then at_ else if j = 8 then f else if j = 9 then v else if j = 11 then n else T 0 j) else if c = 5 then td j else T c j
theorem mst_5 : mst T x f v y td 0 5 = T 0 5 := rfl
theorem mst_7 : mst T x f v y td 0 7 = x := rfl
theorem mst_8 : mst T x f v y td 0 8 = f := rfl
theorem mst_9 : mst T x f v y td 0 9 = v := rfl
theorem mst_11 : mst T x f v y td 0 11 = y := rfl
theorem mst_4 : mst T x f v y td 4 = T 4 := rfl
theorem mst_t {j : Nat} : mst T x f v y td 5 j = td j := rfl
theorem mst_st0 {j : Nat} {z a f v n a' f' v' n' : Int32} (h : ∀ i, (if i = j then z else mst T a f v n td 0 i) = mst T a' f' v' n' td 0 i) : st (mst T a f v n td) 0 j z = mst T a' f' v' n' td := by
  funext c i
  rw [st_at]
  by_cases c1 : c = 0
  · subst c1
    rw [← h i]
    by_cases c2 : i = j
    · rw [if_pos ⟨rfl, c2⟩, if_pos c2]
    · rw [if_neg (fun z => c2 z.2), if_neg c2]
  · rw [if_neg (fun z => c1 z.1)]
    unfold mst
    rw [if_neg c1, if_neg c1]
theorem mst_s7 {z : Int32} : st (mst T x f v y td) 0 7 z = mst T z f v y td := mst_st0 fun i => by
  by_cases c : i = 7
  · subst c; rw [if_pos rfl]; rfl
  · rw [if_neg c]; unfold mst; rw [if_pos rfl, if_pos rfl, if_neg c, if_neg c]
theorem mst_s8 {z : Int32} : st (mst T x f v y td) 0 8 z = mst T x z v y td := mst_st0 fun i => by
  by_cases c : i = 8
  · subst c; rw [if_pos rfl]; rfl
  · rw [if_neg c]; unfold mst; rw [if_pos rfl, if_pos rfl, if_neg c, if_neg c]
theorem mst_s9 {z : Int32} : st (mst T x f v y td) 0 9 z = mst T x f z y td := mst_st0 fun i => by
  by_cases c : i = 9
  · subst c; rw [if_pos rfl]; rfl
  · rw [if_neg c]; unfold mst; rw [if_pos rfl, if_pos rfl, if_neg c, if_neg c]
theorem mst_s11 {z : Int32} : st (mst T x f v y td) 0 11 z = mst T x f v z td := mst_st0 fun i => by
  by_cases c : i = 11
  · subst c; rw [if_pos rfl]; rfl
  · rw [if_neg c]; unfold mst; rw [if_pos rfl, if_pos rfl, if_neg c, if_neg c]
theorem mst_s5 {j : Nat} {z : Int32} : st (mst T x f v y td) 5 j z = mst T x f v y (upd td j z) := by
  funext c i
  rw [st_at]
  by_cases c1 : c = 5
  · subst c1
    show (if 5 = 5 ∧ i = j then z else td i) = upd td j z i
    rw [upd_at]
    by_cases c2 : i = j
    · rw [if_pos ⟨rfl, c2⟩, if_pos c2]
    · rw [if_neg (fun z => c2 z.2), if_neg c2]
  · rw [if_neg (fun z => c1 z.1)]
    unfold mst
    by_cases c2 : c = 0
    · rw [if_pos c2, if_pos c2]
    · rw [if_neg c2, if_neg c2, if_neg c1, if_neg c1]
theorem mst_self (T : vS) : mst T (T 0 7) (T 0 8) (T 0 9) (T 0 11) (T 5) = T := by
  funext c i
  unfold mst
  by_cases c1 : c = 0
  · subst c1
    rw [if_pos rfl]
    by_cases c2 : i = 7
    · rw [if_pos c2, c2]
    rw [if_neg c2]
    by_cases c3 : i = 8
    · rw [if_pos c3, c3]
    rw [if_neg c3]
    by_cases c4 : i = 9
    · rw [if_pos c4, c4]
    rw [if_neg c4]
    by_cases c5 : i = 11
    · rw [if_pos c5, c5]
    rw [if_neg c5]
  · rw [if_neg c1]
    by_cases c2 : c = 5
    · rw [if_pos c2, c2]
    · rw [if_neg c2]
def fl (len p : Nat) : Int32 := if p < len then 1 else 0
theorem m_isAt (hL : T 0 5 = nI len) (h60 : len ≤ 60) (hp : p ≤ len) : x_X5_isAt (mst T (nI p) f v y td) lo hi = if p < len ∧ ¬ T 4 p < lo ∧ ¬ hi < T 4 p then 1 else 0 := by
  unfold x_X5_isAt x_X5_in
  rw [mst_5, mst_7, hL, mst_4]
  by_cases c : p < len
  · rw [if_neg (nI_ge c (by omega)), nI_clamp (by omega), nm_eq]
    by_cases c1 : T 4 p < lo
    · rw [if_pos c1, if_pos rfl, if_neg (fun q => q.2.1 c1)]
    · rw [if_neg c1]
      by_cases c2 : hi < T 4 p
      · rw [if_pos c2, if_pos rfl, if_neg (fun q => q.2.2 c2)]
      · rw [if_neg c2, if_neg (by decide), if_pos ⟨c, c1, c2⟩]
  · rw [if_pos (nI_le (by omega) (by omega)), if_neg (fun q => c q.1)]
theorem m_at1 (hL : T 0 5 = nI len) (h60 : len ≤ 60) (hp : p ≤ len) (h : p < len ∧ ¬ T 4 p < lo ∧ ¬ hi < T 4 p) : x_X5_isAt (mst T (nI p) f v y td) lo hi = 1 := by rw [m_isAt hL h60 hp, if_pos h]
theorem m_at0 (hL : T 0 5 = nI len) (h60 : len ≤ 60) (hp : p ≤ len) (h : ¬ (p < len ∧ ¬ T 4 p < lo ∧ ¬ hi < T 4 p)) : x_X5_isAt (mst T (nI p) f v y td) lo hi = 0 := by rw [m_isAt hL h60 hp, if_neg h]
theorem m_stops (hL : T 0 5 = nI len) (h60 : len ≤ 60) (hp : p ≤ len) : x_X5_stops (mst T (nI p) f v y td) = (0, mst T (nI p) (fl len p) v y td) := by
  unfold x_X5_stops fl
  rw [mst_5, mst_7, hL]
  by_cases c : p < len
  · rw [if_neg (nI_ge c (by omega)), nm_eq, mst_s8, if_pos c]
  · rw [if_pos (nI_le (by omega) (by omega)), nm_eq, mst_s8, if_neg c]
theorem m_sign (hL : T 0 5 = nI len) (h60 : len ≤ 60) (hp : p ≤ len) (hc : c ≠ -1) : x_X5_isSign (mst T (nI p) f v y td) c = if nx (T 4) len p = c then (1, mst T (nI (p + 1)) f v y td) else (0, mst T (nI p) (fl len p) v y td) := by
  unfold x_X5_isSign
  rw [nm_eq]
  by_cases c1 : nx (T 4) len p = c
  · have hlt := nx_lt c1 hc
    have e : T 4 p = c := by unfold nx at c1; rw [if_pos hlt] at c1; exact c1
    rw [m_at1 hL h60 hp ⟨hlt, by rw [e]; exact Int32.lt_irrefl, by rw [e]; exact Int32.lt_irrefl⟩, if_neg (by decide), nm_eq, mst_s7, mst_7, nI_1, if_pos c1]
  · rw [m_at0 hL h60 hp, if_pos rfl, m_stops hL h60 hp, nmp_eq, if_neg c1]
    rintro ⟨h1, h2, h3⟩
    refine c1 ?_
    unfold nx
    rw [if_pos h1]
    exact Int32.le_antisymm (fa_of_nlt h3) (fa_of_nlt h2)
/-- signs one after the other -/
def nest : List Int32 → (vS → Int32 × vS) → vS → Int32 × vS
  | [], R, s => R s
  | c :: cs, R, s => nmp (x_X5_isSign s c) (fun r s1 => if r = 0 then (0, s1) else nest cs R s1)
theorem wdL_01 : ∀ (cs : List Int32) (p : Nat), (wdL tx len cs p).1 = 0 ∨ (wdL tx len cs p).1 = 1 := by
  intro cs
  induction cs with
  | nil => intro p; exact Or.inr rfl
  | cons c cs ih =>
    intro p
    show (if nx tx len p = c then wdL tx len cs (p + 1) else (0, p)).1 = 0 ∨ (if nx tx len p = c then wdL tx len cs (p + 1) else (0, p)).1 = 1
    by_cases q : nx tx len p = c
    · rw [if_pos q]; exact ih _
    · rw [if_neg q]; exact Or.inl rfl
theorem m_nest (hL : T 0 5 = nI len) (h60 : len ≤ 60) {R : vS → Int32 × vS} : ∀ (cs : List Int32) (p : Nat) (f : Int32), (∀ c ∈ cs, c ≠ -1) → p ≤ len → nest cs R (mst T (nI p) f v y td) = if (wdL (T 4) len cs p).1 = 0 then (0, mst T (nI (wdL (T 4) len cs p).2) (fl len (wdL (T 4) len cs p).2) v y td) else R (mst T (nI (wdL (T 4) len cs p).2) f v y td) := by
  intro cs
  induction cs with
  | nil =>
    intro p f _ _
    show R _ = _
    rw [if_neg (show ¬ (wdL (T 4) len [] p).1 = 0 from (by decide : ¬ (1 : Int32) = 0))]
    rfl
  | cons c cs ih =>
    intro p f hc hp
    have hcc := hc c (List.mem_cons_self ..)
    show nmp (x_X5_isSign _ c) _ = _
    rw [m_sign hL h60 hp hcc]
    have e : wdL (T 4) len (c :: cs) p = if nx (T 4) len p = c then wdL (T 4) len cs (p + 1) else (0, p) := rfl
    by_cases c1 : nx (T 4) len p = c
    · have hlt := nx_lt c1 hcc
      rw [if_pos c1] at e ⊢
      rw [nmp_eq, e]
      dsimp only
      rw [if_neg (by decide)]
      exact ih (p + 1) f (fun c hc' => hc c (List.mem_cons_of_mem _ hc')) hlt
    · rw [if_neg c1] at e ⊢
      rw [nmp_eq, e]
      dsimp only
      rw [if_pos rfl, if_pos rfl]
/-- the characters of a buffer -/
def CH (T : vS) (len : Nat) : Prop := ∀ i, i < len → 33 ≤ (T 4 i).toInt ∧ (T 4 i).toInt ≤ 126
theorem m_who (hL : T 0 5 = nI len) (h60 : len ≤ 60) (hp : p ≤ len) (hC : CH T len) (hK : K ≤ 15) : x_X5_isMemberOf (mst T (nI p) f v (nI K) td) = if (pWho (T 4) len p).1 = 0 then (0, mst T (nI (pWho (T 4) len p).2.1) (fl len p) v (nI K) td) else (1, mst T (nI (pWho (T 4) len p).2.1) f v (nI K) (upd td (4 * K + 1) (pWho (T 4) len p).2.2)) := by
  unfold x_X5_isMemberOf
  rw [nm_eq]
  unfold pWho
  have t48 : (48 : Int32).toInt = 48 := by decide
  have t55 : (55 : Int32).toInt = 55 := by decide
  have t8 : (8 : Int32).toInt = 8 := by decide
  by_cases c : p < len
  · have en : nx (T 4) len p = T 4 p := if_pos c
    have hc := hC p c
    have es : (T 4 p - 48).toInt = (T 4 p).toInt - 48 := by
      rw [fb_subI (by rw [t48]; omega) (by rw [t48]; omega), t48]
    rw [en]
    by_cases c1 : T 4 p < 48
    · have c1' : T 4 p - 48 < 0 := by
        rw [Int32.lt_iff_toInt_lt] at c1 ⊢
        rw [es, z32]
        omega
      rw [m_at0 hL h60 hp (fun q => q.2.1 c1), if_pos rfl, m_stops hL h60 hp, nmp_eq, if_pos c1', if_pos rfl]
    · have c1' : ¬ T 4 p - 48 < 0 := by
        rw [Int32.lt_iff_toInt_lt] at c1 ⊢
        rw [es, z32]
        omega
      by_cases c2 : 55 < T 4 p
      · have c2' : 8 ≤ T 4 p - 48 := by
          rw [Int32.lt_iff_toInt_lt] at c2
          rw [Int32.le_iff_toInt_le, es, t8]
          omega
        rw [m_at0 hL h60 hp (fun q => q.2.2 c2), if_pos rfl, m_stops hL h60 hp, nmp_eq, if_neg c1', if_pos c2', if_pos rfl]
      · have c2' : ¬ 8 ≤ T 4 p - 48 := by
          rw [Int32.lt_iff_toInt_lt] at c2
          rw [Int32.le_iff_toInt_le, es, t8]
          omega
        rw [m_at1 hL h60 hp ⟨c, c1, c2⟩, if_neg (by decide), nm_eq, mst_11, mst_7, mst_4, nI_clamp (by omega), nI_clamp (by omega), mst_s5, nm_eq, mst_s7, mst_7, nI_1, if_neg c1', if_neg c2', if_neg (show ¬ ((1 : Int32), p + 1, T 4 p - 48).1 = 0 from (by decide : ¬ (1 : Int32) = 0))]
  · have en : nx (T 4) len p = -1 := if_neg c
    rw [m_at0 hL h60 hp (fun q => c q.1), if_pos rfl, m_stops hL h60 hp, nmp_eq, en, if_pos (show (-1 : Int32) - 48 < 0 by decide), if_pos rfl]
end TEXTM
