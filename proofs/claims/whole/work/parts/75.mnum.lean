section MNUM
variable {T : vS} {len p n i K : Nat} {f v x y : Int32} {tx : Nat → Int32} {td : Nat → Int32} {lo hi c : Int32}
theorem begins_1 (S : vS) (x hi : Int32) : x_X5_begins S x 1 hi = if x ≤ 0 then 0 else if hi < x then 0 else 1 := by
  unfold x_X5_begins
  rw [x_X5_begins_L5.eq_2]
  by_cases c1 : x ≤ 0
  · rw [if_pos c1, if_pos c1]
  · rw [if_neg c1, if_neg c1]
    by_cases c2 : hi < x
    · rw [if_pos c2, if_pos c2]
    · rw [if_neg c2, if_neg c2, if_neg]
      rw [Int32.lt_iff_toInt_lt, show (1 : Int32).toInt = 1 from by decide]
      rw [Int32.le_iff_toInt_le, z32] at c1
      omega
theorem begins_10 (S : vS) (x : Int32) : x_X5_begins S x 10 2000 = if x ≤ 0 then 0 else if 2000 < x then 0 else 1 := by
  unfold x_X5_begins
  rw [x_X5_begins_L5.eq_2]
  by_cases c1 : x ≤ 0
  · rw [if_pos c1, if_pos c1]
  · rw [if_neg c1, if_neg c1]
    by_cases c2 : (2000 : Int32) < x
    · rw [if_pos c2, if_pos c2]
    · rw [if_neg c2, if_neg c2]
      by_cases c3 : x < 10
      · have : ∀ k, k < 10 → 0 < k → (if nI k < 10 then nm (nI k * 10) (fun x_26 => nm (10 * nI k + 9) (fun x_35 => x_X5_begins_L5 2001 S (nI k) 10 2000 x_35 x_26)) else 1) = 1 := by
          intro k hk h0
          have hk10 : nI k < (10 : Int32) := nI_lt (b := 10) hk (by decide)
          rw [if_pos hk10, nm_eq, nm_eq, x_X5_begins_L5.eq_2, if_neg (nI_nle h0 (by omega))]
          have e1 : nI k * 10 = nI (k * 10) := pk_mul k 10
          have e2 : 10 * nI k + 9 = nI (10 * k + 9) := by
            rw [show (10 : Int32) = nI 10 from rfl, show (9 : Int32) = nI 9 from rfl, pk_mul, nI_add]
          have q1 : ¬ (2000 : Int32) < nI (k * 10) := nI_nlt (a := 2000) (by omega) (by decide)
          have q2 : ¬ nI (10 * k + 9) < (10 : Int32) := nI_nlt (b := 10) (by omega) (by omega)
          rw [e1, e2, if_neg q1, if_neg q2]
        rw [Int32.lt_iff_toInt_lt, show (10 : Int32).toInt = 10 from by decide] at c3
        rw [Int32.le_iff_toInt_le, z32] at c1
        obtain ⟨k, hk, e⟩ := nI_of (x := x) (by rw [Int32.lt_iff_toInt_lt, z32]; omega)
        rw [e, nI_toInt hk] at c3 c1
        rw [e]
        exact this k (by omega) (by omega)
      · rw [if_neg c3]
def mu (v : Int32) : Nat := if 1000 ≤ v.toInt then 1 else if 100 ≤ v.toInt then 2 else if 10 ≤ v.toInt then 3 else if 1 ≤ v.toInt then 4 else 5
theorem mu_step {d : Int32} (hv : 0 ≤ v.toInt) (hv2 : v.toInt ≤ 2000) (hd : 0 ≤ d.toInt ∧ d.toInt ≤ 9) (h1 : ¬ v * 10 + d < 1) (h2 : v * 10 + d ≤ hi) (hh : hi.toInt ≤ 2000) : (v * 10 + d).toInt = v.toInt * 10 + d.toInt ∧ mu (v * 10 + d) + 1 ≤ mu v := by
  have t10 : (10 : Int32).toInt = 10 := by decide
  have t1 : (1 : Int32).toInt = 1 := by decide
  have e1 : (v * 10).toInt = v.toInt * 10 := by rw [fb_mulI (by rw [t10]; omega) (by rw [t10]; omega), t10]
  have e : (v * 10 + d).toInt = v.toInt * 10 + d.toInt := by rw [fb_addI (by rw [e1]; omega) (by rw [e1]; omega), e1]
  rw [Int32.lt_iff_toInt_lt, e, t1] at h1
  rw [Int32.le_iff_toInt_le, e] at h2
  refine ⟨e, ?_⟩
  unfold mu
  rw [e]
  by_cases c1 : 1000 ≤ v.toInt
  · exfalso; omega
  rw [if_neg c1]
  by_cases c2 : 100 ≤ v.toInt
  · rw [if_pos c2, if_pos (by omega)]; omega
  rw [if_neg c2]
  by_cases c3 : 10 ≤ v.toInt
  · rw [if_pos c3]
    by_cases q : 1000 ≤ v.toInt * 10 + d.toInt
    · rw [if_pos q]; omega
    · rw [if_neg q, if_pos (by omega)]; omega
  rw [if_neg c3]
  by_cases c4 : 1 ≤ v.toInt
  · rw [if_pos c4]
    by_cases q : 1000 ≤ v.toInt * 10 + d.toInt
    · rw [if_pos q]; omega
    · rw [if_neg q]
      by_cases q2 : 100 ≤ v.toInt * 10 + d.toInt
      · rw [if_pos q2]; omega
      · rw [if_neg q2, if_pos (by omega)]; omega
  rw [if_neg c4, if_neg (by omega), if_neg (by omega)]
  by_cases q : 10 ≤ v.toInt * 10 + d.toInt
  · rw [if_pos q]; omega
  · rw [if_neg q, if_pos (by omega)]; omega
theorem mu_pos (v : Int32) : 1 ≤ mu v := by
  unfold mu
  repeat' split
  all_goals decide
/-- the model's number is the class's -/
theorem m_num (hL : T 0 5 = nI len) (h60 : len ≤ 60) (hC : CH T len) (hh : hi.toInt ≤ 2000) (hb : ∀ S x, x_X5_begins S x lo hi = if x ≤ 0 then 0 else if hi < x then 0 else 1) : ∀ (n m p : Nat) (v : Int32), p ≤ len → 0 ≤ v.toInt → v.toInt ≤ hi.toInt → mu v ≤ n → mu v ≤ m →
    x_X5_isNumber_L5 n (mst T (nI p) f v y td) lo hi = if (numL (T 4) len hi m v p).1 < lo then (0, mst T (nI (numL (T 4) len hi m v p).2) (fl len (numL (T 4) len hi m v p).2) (numL (T 4) len hi m v p).1 y td) else (1, mst T (nI (numL (T 4) len hi m v p).2) f (numL (T 4) len hi m v p).1 y td) := by
  intro n
  induction n with
  | zero => intro m p v _ _ _ h _; have := mu_pos v; omega
  | succ n ih =>
    intro m p v hp hv hv2 hn hm
    have h1 := mu_pos v
    obtain ⟨m', rfl⟩ : ∃ m', m = m' + 1 := ⟨m - 1, by omega⟩
    -- the end of the number
    have fin : (nm (x_X5_in (mst T (nI p) f v y td) v lo hi) (fun r_87 => if r_87 = 0 then nmp (x_X5_stops (mst T (nI p) f v y td)) (fun r_94 S_94 => if r_94 = 0 then ((0 : Int32), S_94) else (1, S_94)) else (1, mst T (nI p) f v y td))) = if v < lo then (0, mst T (nI p) (fl len p) v y td) else (1, mst T (nI p) f v y td) := by
      rw [nm_eq]
      unfold x_X5_in
      by_cases c1 : v < lo
      · rw [if_pos c1, if_pos rfl, m_stops hL h60 hp, nmp_eq, if_pos c1]
        rfl
      · have c2 : ¬ hi < v := by rw [Int32.lt_iff_toInt_lt]; omega
        rw [if_neg c1, if_neg c2, if_neg (by decide), if_neg c1]
    rw [x_X5_isNumber_L5.eq_2, nm_eq, numL.eq_2, mst_9]
    have t48 : (48 : Int32).toInt = 48 := by decide
    have t57 : (57 : Int32).toInt = 57 := by decide
    have t9 : (9 : Int32).toInt = 9 := by decide
    by_cases c : p < len
    · have en : nx (T 4) len p = T 4 p := if_pos c
      have hc := hC p c
      have es : (T 4 p - 48).toInt = (T 4 p).toInt - 48 := by
        rw [fb_subI (by rw [t48]; omega) (by rw [t48]; omega), t48]
      rw [en]
      by_cases c1 : T 4 p < 48
      · have c1' : T 4 p - 48 < 0 := by
          rw [Int32.lt_iff_toInt_lt] at c1 ⊢
          rw [es, z32]
          omega
        rw [m_at0 hL h60 hp (fun q => q.2.1 c1), if_pos rfl, fin, if_pos c1']
      · have c1' : ¬ T 4 p - 48 < 0 := by
          rw [Int32.lt_iff_toInt_lt] at c1 ⊢
          rw [es, z32]
          omega
        rw [if_neg c1']
        by_cases c2 : 57 < T 4 p
        · have c2' : 9 < T 4 p - 48 := by
            rw [Int32.lt_iff_toInt_lt] at c2 ⊢
            rw [es, t9]
            omega
          rw [m_at0 hL h60 hp (fun q => q.2.2 c2), if_pos rfl, fin, if_pos c2']
        · have c2' : ¬ 9 < T 4 p - 48 := by
            rw [Int32.lt_iff_toInt_lt] at c2 ⊢
            rw [es, t9]
            omega
          rw [m_at1 hL h60 hp ⟨c, c1, c2⟩, if_neg (by decide), if_neg c2', hb, mst_7, mst_4, nI_clamp (by omega)]
          have er : 10 * v + T 4 p - 48 = v * 10 + (T 4 p - 48) := by grind
          rw [er]
          have i1 : v * 10 + (T 4 p - 48) ≤ 0 ↔ v * 10 + (T 4 p - 48) < 1 := by
            rw [Int32.le_iff_toInt_le, Int32.lt_iff_toInt_lt, z32, show (1 : Int32).toInt = 1 from by decide]
            omega
          by_cases c3 : v * 10 + (T 4 p - 48) < 1
          · rw [if_pos (i1.mpr c3), nm_eq, if_pos rfl, fin, if_pos c3]
          · rw [if_neg (fun q => c3 (i1.mp q)), if_neg c3]
            by_cases c4 : v * 10 + (T 4 p - 48) ≤ hi
            · have ms := mu_step hv (by omega) ⟨by rw [es]; rw [Int32.lt_iff_toInt_lt] at c1; omega, by rw [es]; rw [Int32.lt_iff_toInt_lt] at c2; omega⟩ c3 c4 hh
              rw [if_neg (nlt_of_le c4), if_pos c4, nm_eq, if_neg (by decide), nm_eq, mst_s9, nm_eq, mst_s7, mst_7, nI_1]
              refine ih m' (p + 1) _ (by omega) ?_ ?_ (by omega) (by omega)
              · rw [Int32.lt_iff_toInt_lt, show (1 : Int32).toInt = 1 from by decide] at c3; omega
              · rw [Int32.le_iff_toInt_le] at c4; exact c4
            · rw [if_pos (fa_of_nle c4), nm_eq, if_pos rfl, fin, if_neg c4]
    · have en : nx (T 4) len p = -1 := if_neg c
      rw [m_at0 hL h60 hp (fun q => c q.1), if_pos rfl, fin, en, if_pos (show (-1 : Int32) - 48 < 0 by decide)]
theorem m_amt (hL : T 0 5 = nI len) (h60 : len ≤ 60) (hC : CH T len) (hp : p ≤ len) (hh : 0 ≤ hi.toInt ∧ hi.toInt ≤ 2000) (hb : ∀ S x, x_X5_begins S x lo hi = if x ≤ 0 then 0 else if hi < x then 0 else 1) : x_X5_isNumber (mst T (nI p) f v y td) lo hi = if (pAmt (T 4) len lo hi p).1 = 0 then (0, mst T (nI (pAmt (T 4) len lo hi p).2.1) (fl len (pAmt (T 4) len lo hi p).2.1) (pAmt (T 4) len lo hi p).2.2 y td) else (1, mst T (nI (pAmt (T 4) len lo hi p).2.1) f (pAmt (T 4) len lo hi p).2.2 y td) := by
  unfold x_X5_isNumber
  rw [nm_eq, mst_s9, m_num hL h60 hC hh.2 hb 62 60 p 0 hp (by decide) (by rw [z32]; exact hh.1) (by decide) (by decide)]
  unfold pAmt
  by_cases c : (numL (T 4) len hi 60 0 p).1 < lo
  · rw [if_pos c, if_pos c, if_pos rfl]
  · rw [if_neg c, if_neg c, if_neg (show ¬ ((1 : Int32), (numL (T 4) len hi 60 0 p).2, (numL (T 4) len hi 60 0 p).1).1 = 0 from (by decide : ¬ (1 : Int32) = 0))]
end MNUM
