section ORDERC
variable {S : vS} {len p n i : Nat} {k w a b x : Int32} {tx : Nat → Int32}
abbrev PT : Type := Int32 × Nat × Int32 × Int32 × Int32 × Int32
def pWho (tx : Nat → Int32) (len p : Nat) : Int32 × Nat × Int32 := if nx tx len p - 48 < 0 then (0, p, nx tx len p - 48) else if 8 ≤ nx tx len p - 48 then (0, p, nx tx len p - 48) else (1, p + 1, nx tx len p - 48)
def pAmt (tx : Nat → Int32) (len : Nat) (lo hi : Int32) (p : Nat) : Int32 × Nat × Int32 := (if (numL tx len hi 60 0 p).1 < lo then 0 else 1, (numL tx len hi 60 0 p).2, (numL tx len hi 60 0 p).1)
def pMon (tx : Nat → Int32) (len p : Nat) (k a b : Int32) : PT :=
  if (pWho tx len p).1 = 0 then (0, (pWho tx len p).2.1, k, (pWho tx len p).2.2, a, b)
  else if nx tx len (pWho tx len p).2.1 = 42 then ((pAmt tx len 1 2000 ((pWho tx len p).2.1 + 1)).1, (pAmt tx len 1 2000 ((pWho tx len p).2.1 + 1)).2.1, k, (pWho tx len p).2.2, (pAmt tx len 1 2000 ((pWho tx len p).2.1 + 1)).2.2, b)
  else (0, (pWho tx len p).2.1, k, (pWho tx len p).2.2, a, b)
def pWk (tx : Nat → Int32) (len p : Nat) (k w a b : Int32) : PT :=
  if nx tx len p = 47 then ((pAmt tx len 1 52 (p + 1)).1, (pAmt tx len 1 52 (p + 1)).2.1, k, w, a, (pAmt tx len 1 52 (p + 1)).2.2)
  else (0, p, k, w, a, b)
def pLn (tx : Nat → Int32) (len p : Nat) (k a b : Int32) : PT :=
  if (pWho tx len p).1 = 0 then (0, (pWho tx len p).2.1, k, (pWho tx len p).2.2, a, b)
  else if nx tx len (pWho tx len p).2.1 = 42 then
    (if (pAmt tx len 10 2000 ((pWho tx len p).2.1 + 1)).1 = 0 then (0, (pAmt tx len 10 2000 ((pWho tx len p).2.1 + 1)).2.1, k, (pWho tx len p).2.2, (pAmt tx len 10 2000 ((pWho tx len p).2.1 + 1)).2.2, b)
     else pWk tx len (pAmt tx len 10 2000 ((pWho tx len p).2.1 + 1)).2.1 k (pWho tx len p).2.2 (pAmt tx len 10 2000 ((pWho tx len p).2.1 + 1)).2.2 b)
  else (0, (pWho tx len p).2.1, k, (pWho tx len p).2.2, a, b)
def wd (tx : Nat → Int32) (len wi p : Nat) : Int32 × Nat := wdL tx len (byE.getD wi []) p
/-- one order, read at p: whether it is one, the place behind, kind, who, amount, weeks -/
def pO (tx : Nat → Int32) (len p : Nat) (k w a b : Int32) : PT :=
  if nx tx len p = 97 then (if (wd tx len 1 p).1 = 0 then (0, (wd tx len 1 p).2, 2, w, a, b) else ((pWho tx len (wd tx len 1 p).2).1, (pWho tx len (wd tx len 1 p).2).2.1, 2, (pWho tx len (wd tx len 1 p).2).2.2, a, b))
  else if nx tx len p = 99 then ((wd tx len 5 p).1, (wd tx len 5 p).2, 6, w, a, b)
  else if nx tx len p = 104 then (if (wd tx len 3 p).1 = 0 then (0, (wd tx len 3 p).2, 4, w, a, b) else pMon tx len (wd tx len 3 p).2 4 a b)
  else if nx tx len p = 108 then (if (wd tx len 0 p).1 = 0 then (0, (wd tx len 0 p).2, 1, w, a, b) else pLn tx len (wd tx len 0 p).2 1 a b)
  else if nx tx len p = 112 then (if (wd tx len 2 p).1 = 0 then (0, (wd tx len 2 p).2, 3, w, a, b) else pMon tx len (wd tx len 2 p).2 3 a b)
  else if nx tx len p = 119 then ((wd tx len 4 p).1, (wd tx len 4 p).2, 5, w, a, b)
  else (0, p, k, w, a, b)
/-- the class's answer, of a reading -/
def tP (S : vS) (r : PT) : Int32 × vS := (r.1, tst S (nI r.2.1) r.2.2.1 r.2.2.2.1 r.2.2.2.2.1 r.2.2.2.2.2)
theorem pWho_le (hp : p ≤ len) : (pWho tx len p).2.1 ≤ len ∧ p ≤ (pWho tx len p).2.1 ∧ ((pWho tx len p).1 = 0 ∨ (pWho tx len p).1 = 1) := by
  unfold pWho
  by_cases c1 : nx tx len p - 48 < 0
  · rw [if_pos c1]; exact ⟨hp, Nat.le_refl p, Or.inl rfl⟩
  · have hlt : p < len := by
      by_cases q : p < len
      · exact q
      · unfold nx at c1
        rw [if_neg q] at c1
        exact absurd (by decide) c1
    rw [if_neg c1]
    by_cases c2 : 8 ≤ nx tx len p - 48
    · rw [if_pos c2]; exact ⟨hp, Nat.le_refl p, Or.inl rfl⟩
    · rw [if_neg c2]; exact ⟨hlt, Nat.le_succ p, Or.inr rfl⟩
theorem wd_le {wi : Nat} (hw : wi < 6) (hp : p ≤ len) : (wd tx len wi p).2 ≤ len ∧ p ≤ (wd tx len wi p).2 := by
  have h3 : ∀ wi, wi < 6 → ∀ c ∈ byE.getD wi [], c ≠ -1 := by decide
  exact wdL_le _ p (h3 wi hw) hp
theorem pAmt_le {lo hi : Int32} (hp : p ≤ len) : (pAmt tx len lo hi p).2.1 ≤ len ∧ p ≤ (pAmt tx len lo hi p).2.1 ∧ ((pAmt tx len lo hi p).1 = 0 ∨ (pAmt tx len lo hi p).1 = 1) := by
  have := numL_le (tx := tx) (len := len) 60 0 p (hi := hi) hp
  unfold pAmt
  refine ⟨this.1, this.2, ?_⟩
  dsimp only
  split
  · exact Or.inl rfl
  · exact Or.inr rfl
theorem c_who (hL : S tO 1 = nI len) (h60 : len ≤ 60) (hp : p ≤ len) : x_X3_readWho (tst S (nI p) k w a b) = ((pWho (S tC) len p).1, tst S (nI (pWho (S tC) len p).2.1) k (pWho (S tC) len p).2.2 a b) := by
  unfold x_X3_readWho pWho
  rw [nm_eq, c_next hL h60 hp, nm_eq, tst_s4, tst_4, tst_2]
  by_cases c1 : nx (S tC) len p - 48 < 0
  · rw [if_pos c1, if_pos c1]
  · rw [if_neg c1, if_neg c1]
    by_cases c2 : 8 ≤ nx (S tC) len p - 48
    · rw [if_pos c2, if_pos c2]
    · rw [if_neg c2, if_neg c2, nm_eq, tst_s2, nI_1]
theorem c_amt {lo hi : Int32} (hL : S tO 1 = nI len) (h60 : len ≤ 60) (hp : p ≤ len) : x_X3_readAmount (tst S (nI p) k w a b) lo hi = ((pAmt (S tC) len lo hi p).1, tst S (nI (pAmt (S tC) len lo hi p).2.1) k w (pAmt (S tC) len lo hi p).2.2 b) := by
  unfold x_X3_readAmount x_X3_readNumber pAmt
  rw [c_num hL h60 60 0 p 0 rfl hp, nmp_eq, nm_eq, tst_s5, tst_5]
  by_cases c : (numL (S tC) len hi 60 0 p).1 < lo
  · rw [if_pos c, if_pos c]
  · rw [if_neg c, if_neg c]
theorem c_wks (hL : S tO 1 = nI len) (h60 : len ≤ 60) (hp : p ≤ len) : x_X3_readWeeks (tst S (nI p) k w a b) = ((pAmt (S tC) len 1 52 p).1, tst S (nI (pAmt (S tC) len 1 52 p).2.1) k w a (pAmt (S tC) len 1 52 p).2.2) := by
  unfold x_X3_readWeeks x_X3_readNumber pAmt
  rw [c_num hL h60 60 0 p 0 rfl hp, nmp_eq, nm_eq, tst_s6, tst_6]
  by_cases c : (numL (S tC) len 52 60 0 p).1 < 1
  · rw [if_pos c, if_pos c]
  · rw [if_neg c, if_neg c]
theorem c_wd {wi : Nat} (hw : wi < 6) (hL : S tO 1 = nI len) (h60 : len ≤ 60) (hp : p ≤ len) : x_X3_readWord (tst S (nI p) k w a b) wi = ((wd (S tC) len wi p).1, tst S (nI (wd (S tC) len wi p).2) k w a b) := by
  have := c_word (k := k) (w := w) (a := a) (b := b) hw hL h60 5 0 p rfl (Nat.zero_le _) hp
  rw [List.drop_zero] at this
  exact this
theorem if01 {r : Int32} {s : vS} (h : r = 0 ∨ r = 1) : (if r = 0 then ((0 : Int32), s) else (1, s)) = (r, s) := by
  rcases h with rfl | rfl
  · rfl
  · rfl
theorem c_mon (hL : S tO 1 = nI len) (h60 : len ≤ 60) (hp : p ≤ len) : nmp (x_X3_readWho (tst S (nI p) k w a b)) (fun r_217 S_217 => if r_217 = 0 then (0, S_217) else nmp (x_X3_readMark S_217 42) (fun r_226 S_226 => if r_226 = 0 then (0, S_226) else nmp (x_X3_readAmount S_226 1 2000) (fun r_237 S_237 => if r_237 = 0 then (0, S_237) else (1, S_237)))) = tP S (pMon (S tC) len p k a b) := by
  have hw := pWho_le (tx := S tC) hp
  rw [c_who hL h60 hp, nmp_eq]
  unfold pMon
  by_cases c1 : (pWho (S tC) len p).1 = 0
  · rw [if_pos c1, if_pos c1]; rfl
  · rw [if_neg c1, if_neg c1]
    dsimp only
    rw [c_mark hL h60 hw.1]
    by_cases c2 : nx (S tC) len (pWho (S tC) len p).2.1 = 42
    · have hlt := nx_lt c2 (by decide)
      rw [if_pos c2, if_pos c2, nmp_eq]
      dsimp only
      rw [if_neg (by decide), c_amt hL h60 hlt, nmp_eq]
      dsimp only
      rw [if01 (pAmt_le hlt).2.2]
      rfl
    · rw [if_neg c2, if_neg c2, nmp_eq]
      dsimp only
      rw [if_pos rfl]
      rfl
theorem c_wk (hL : S tO 1 = nI len) (h60 : len ≤ 60) (hp : p ≤ len) : nmp (x_X3_readMark (tst S (nI p) k w a b) 47) (fun r_109 S_109 => if r_109 = 0 then (0, S_109) else nmp (x_X3_readWeeks S_109) (fun r_116 S_116 => if r_116 = 0 then (0, S_116) else (1, S_116))) = tP S (pWk (S tC) len p k w a b) := by
  rw [c_mark hL h60 hp]
  unfold pWk
  by_cases c2 : nx (S tC) len p = 47
  · have hlt := nx_lt c2 (by decide)
    rw [if_pos c2, if_pos c2, nmp_eq]
    dsimp only
    rw [if_neg (by decide), c_wks hL h60 hlt, nmp_eq]
    dsimp only
    rw [if01 (pAmt_le hlt).2.2]
    rfl
  · rw [if_neg c2, if_neg c2, nmp_eq]
    dsimp only
    rw [if_pos rfl]
    rfl
theorem c_ln (hL : S tO 1 = nI len) (h60 : len ≤ 60) (hp : p ≤ len) : nmp (x_X3_readWho (tst S (nI p) k w a b)) (fun r_79 S_79 => if r_79 = 0 then (0, S_79) else nmp (x_X3_readMark S_79 42) (fun r_88 S_88 => if r_88 = 0 then (0, S_88) else nmp (x_X3_readAmount S_88 10 2000) (fun r_100 S_100 => if r_100 = 0 then (0, S_100) else nmp (x_X3_readMark S_100 47) (fun r_109 S_109 => if r_109 = 0 then (0, S_109) else nmp (x_X3_readWeeks S_109) (fun r_116 S_116 => if r_116 = 0 then (0, S_116) else (1, S_116)))))) = tP S (pLn (S tC) len p k a b) := by
  have hw := pWho_le (tx := S tC) hp
  rw [c_who hL h60 hp, nmp_eq]
  unfold pLn
  by_cases c1 : (pWho (S tC) len p).1 = 0
  · rw [if_pos c1, if_pos c1]; rfl
  · rw [if_neg c1, if_neg c1]
    dsimp only
    rw [c_mark hL h60 hw.1]
    by_cases c2 : nx (S tC) len (pWho (S tC) len p).2.1 = 42
    · have hlt := nx_lt c2 (by decide)
      have ha := pAmt_le (tx := S tC) (lo := 10) (hi := 2000) hlt
      rw [if_pos c2, if_pos c2, nmp_eq]
      dsimp only
      rw [if_neg (by decide), c_amt hL h60 hlt, nmp_eq]
      dsimp only
      by_cases c3 : (pAmt (S tC) len 10 2000 ((pWho (S tC) len p).2.1 + 1)).1 = 0
      · rw [if_pos c3, if_pos c3]; rfl
      · rw [if_neg c3, if_neg c3]
        exact c_wk hL h60 ha.1
    · rw [if_neg c2, if_neg c2, nmp_eq]
      dsimp only
      rw [if_pos rfl]
      rfl
/-- the class reads one order -/
theorem c_order (hL : S tO 1 = nI len) (h60 : len ≤ 60) (hp : p ≤ len) : x_X3_readOrder (tst S (nI p) k w a b) = tP S (pO (S tC) len p k w a b) := by
  unfold x_X3_readOrder pO
  rw [nm_eq, c_next hL h60 hp]
  simp only [nm_eq, tst_s3]
  by_cases c1 : nx (S tC) len p = 97
  · rw [if_pos c1, if_pos c1, c_wd (by decide) hL h60 hp, nmp_eq]
    dsimp only
    by_cases q : (wd (S tC) len 1 p).1 = 0
    · rw [if_pos q, if_pos q]; rfl
    · have hb := wd_le (tx := S tC) (wi := 1) (by decide) hp
      rw [if_neg q, if_neg q, c_who hL h60 hb.1, nmp_eq]
      dsimp only
      rw [if01 (pWho_le hb.1).2.2]
      rfl
  rw [if_neg c1, if_neg c1]
  by_cases c2 : nx (S tC) len p = 99
  · rw [if_pos c2, if_pos c2, c_wd (by decide) hL h60 hp, nmp_eq]
    rfl
  rw [if_neg c2, if_neg c2]
  by_cases c3 : nx (S tC) len p = 104
  · rw [if_pos c3, if_pos c3, c_wd (by decide) hL h60 hp, nmp_eq]
    dsimp only
    by_cases q : (wd (S tC) len 3 p).1 = 0
    · rw [if_pos q, if_pos q]; rfl
    · rw [if_neg q, if_neg q]
      exact c_mon hL h60 (wd_le (by decide) hp).1
  rw [if_neg c3, if_neg c3]
  by_cases c4 : nx (S tC) len p = 108
  · rw [if_pos c4, if_pos c4, c_wd (by decide) hL h60 hp, nmp_eq]
    dsimp only
    by_cases q : (wd (S tC) len 0 p).1 = 0
    · rw [if_pos q, if_pos q]; rfl
    · rw [if_neg q, if_neg q]
      exact c_ln hL h60 (wd_le (by decide) hp).1
  rw [if_neg c4, if_neg c4]
  by_cases c5 : nx (S tC) len p = 112
  · rw [if_pos c5, if_pos c5, c_wd (by decide) hL h60 hp, nmp_eq]
    dsimp only
    by_cases q : (wd (S tC) len 2 p).1 = 0
    · rw [if_pos q, if_pos q]; rfl
    · rw [if_neg q, if_neg q]
      exact c_mon hL h60 (wd_le (by decide) hp).1
  rw [if_neg c5, if_neg c5]
  by_cases c6 : nx (S tC) len p = 119
  · rw [if_pos c6, if_pos c6, c_wd (by decide) hL h60 hp, nmp_eq]
    rfl
  rw [if_neg c6, if_neg c6]
  rfl
end ORDERC
