section MORDER2
variable {T : vS} {len p n i K : Nat} {f v x y k w a b : Int32} {td : Nat → Int32} {lo hi c : Int32} {tx : Nat → Int32}
theorem m_kinds {kd : Int32} (hK : K ≤ 15) : x_X5_kinds (mst T (nI p) f v (nI K) td) kd = (1, mst T (nI (p + 1)) f v (nI K) (upd td (4 * K) kd)) := by
  have hcl : (nI K).toNatClampNeg = K := nI_clamp (by omega)
  unfold x_X5_kinds
  rw [nm_eq, mst_11, hcl, mst_s5, nm_eq, mst_7, mst_s7, nI_1]
theorem wd_cons {wi : Nat} {cs : List Int32} (h : byE.getD wi [] = c :: cs) (hc : nx tx len p = c) : wd tx len wi p = wdL tx len cs (p + 1) := by
  unfold wd
  rw [h]
  show (if nx tx len p = c then wdL tx len cs (p + 1) else (0, p)) = _
  rw [if_pos hc]
/-- what the model notes of an order -/
def RC (td : Nat → Int32) (K : Nat) (q : PT) : Prop := td (4 * K) = q.2.2.1 - 1 ∧ (q.2.2.1 = 1 ∨ q.2.2.1 = 2 ∨ q.2.2.1 = 3 ∨ q.2.2.1 = 4 → td (4 * K + 1) = q.2.2.2.1) ∧ (q.2.2.1 = 1 ∨ q.2.2.1 = 3 ∨ q.2.2.1 = 4 → td (4 * K + 2) = q.2.2.2.2.1) ∧ (q.2.2.1 = 1 → td (4 * K + 3) = q.2.2.2.2.2) ∧ (q.2.2.1 = 1 ∨ q.2.2.1 = 2 ∨ q.2.2.1 = 3 ∨ q.2.2.1 = 4 ∨ q.2.2.1 = 5 ∨ q.2.2.1 = 6)
theorem RC_5 {u : Int32} {z : Nat} (hk : td (4 * K) = 4) : RC td K (u, z, 5, w, a, b) := by
  show td (4 * K) = (5 : Int32) - 1 ∧ ((5 : Int32) = 1 ∨ (5 : Int32) = 2 ∨ (5 : Int32) = 3 ∨ (5 : Int32) = 4 → _) ∧ ((5 : Int32) = 1 ∨ (5 : Int32) = 3 ∨ (5 : Int32) = 4 → _) ∧ ((5 : Int32) = 1 → _) ∧ ((5 : Int32) = 1 ∨ (5 : Int32) = 2 ∨ (5 : Int32) = 3 ∨ (5 : Int32) = 4 ∨ (5 : Int32) = 5 ∨ (5 : Int32) = 6)
  exact ⟨by rw [hk]; decide, fun q => absurd q (by decide), fun q => absurd q (by decide), fun q => absurd q (by decide), by decide⟩
theorem RC_6 {u : Int32} {z : Nat} (hk : td (4 * K) = 5) : RC td K (u, z, 6, w, a, b) := by
  show td (4 * K) = (6 : Int32) - 1 ∧ ((6 : Int32) = 1 ∨ (6 : Int32) = 2 ∨ (6 : Int32) = 3 ∨ (6 : Int32) = 4 → _) ∧ ((6 : Int32) = 1 ∨ (6 : Int32) = 3 ∨ (6 : Int32) = 4 → _) ∧ ((6 : Int32) = 1 → _) ∧ ((6 : Int32) = 1 ∨ (6 : Int32) = 2 ∨ (6 : Int32) = 3 ∨ (6 : Int32) = 4 ∨ (6 : Int32) = 5 ∨ (6 : Int32) = 6)
  exact ⟨by rw [hk]; decide, fun q => absurd q (by decide), fun q => absurd q (by decide), fun q => absurd q (by decide), by decide⟩
theorem RC_2 {u : Int32} {z : Nat} (hk : td (4 * K) = 1) (h1 : td (4 * K + 1) = w) : RC td K (u, z, 2, w, a, b) := by
  show td (4 * K) = (2 : Int32) - 1 ∧ ((2 : Int32) = 1 ∨ (2 : Int32) = 2 ∨ (2 : Int32) = 3 ∨ (2 : Int32) = 4 → td (4 * K + 1) = w) ∧ ((2 : Int32) = 1 ∨ (2 : Int32) = 3 ∨ (2 : Int32) = 4 → _) ∧ ((2 : Int32) = 1 → _) ∧ ((2 : Int32) = 1 ∨ (2 : Int32) = 2 ∨ (2 : Int32) = 3 ∨ (2 : Int32) = 4 ∨ (2 : Int32) = 5 ∨ (2 : Int32) = 6)
  exact ⟨by rw [hk]; decide, fun _ => h1, fun q => absurd q (by decide), fun q => absurd q (by decide), by decide⟩
def MO (T : vS) (len K : Nat) (td : Nat → Int32) (z : Int32 × vS) (q : PT) : Prop := ∃ f' v' td', z = (q.1, mst T (nI q.2.1) f' v' (nI K) td') ∧ (q.1 = 0 → f' = fl len q.2.1) ∧ (∀ j, ¬ (4 * K ≤ j ∧ j < 4 * K + 4) → td' j = td j) ∧ (¬ q.1 = 0 → RC td' K q)
theorem MO.word (hL : T 0 5 = nI len) (h60 : len ≤ 60) (hK : K ≤ 15) (hp : p < len) {R : vS → Int32 × vS} {cs : List Int32} {kd : Int32} (hcs : ∀ c ∈ cs, c ≠ -1) {q0 q : PT} (h0 : (wdL (T 4) len cs (p + 1)).1 = 0 → q = (0, (wdL (T 4) len cs (p + 1)).2, q0.2.2)) (h1 : ∀ td', (∀ j, j ≠ 4 * K → td' j = td j) → td' (4 * K) = kd → (wdL (T 4) len cs (p + 1)).2 ≤ len → ¬ (wdL (T 4) len cs (p + 1)).1 = 0 → MO T len K td (R (mst T (nI (wdL (T 4) len cs (p + 1)).2) f v (nI K) td')) q) : MO T len K td (nmp (x_X5_kinds (mst T (nI p) f v (nI K) td) kd) (fun r s => if r = 0 then (0, s) else nest cs R s)) q := by
  rw [m_kinds hK, nmp_eq]
  dsimp only
  rw [if_neg (by decide), m_nest hL h60 cs (p + 1) f hcs hp]
  have hle := wdL_le (tx := T 4) (len := len) cs (p + 1) hcs hp
  by_cases c1 : (wdL (T 4) len cs (p + 1)).1 = 0
  · rw [if_pos c1, h0 c1]
    refine ⟨_, _, _, rfl, fun _ => rfl, fun j hj => ?_, fun q => absurd rfl q⟩
    rw [upd_ne (by omega)]
  · rw [if_neg c1]
    exact h1 _ (fun j hj => upd_ne hj) upd_same hle.1 c1
theorem m_order (hL : T 0 5 = nI len) (h60 : len ≤ 60) (hC : CH T len) (hK : K ≤ 15) (hp : p ≤ len) : MO T len K td (x_X5_isOrder (mst T (nI p) f v (nI K) td)) (pO (T 4) len p k w a b) := by
  unfold x_X5_isOrder
  rw [mst_5, mst_7, hL, mst_4]
  by_cases c : p < len
  · have en : nx (T 4) len p = T 4 p := if_pos c
    rw [if_neg (nI_ge c (by omega)), nI_clamp (by omega), nm_eq, ← en]
    unfold pO
    by_cases c1 : nx (T 4) len p = 97
    · rw [if_pos c1, if_pos c1, wd_cons (cs := [119, 97, 121]) rfl c1]
      refine MO.word (cs := [119, 97, 121]) (kd := 1) (q0 := (0, 0, 2, w, a, b)) (R := fun S_161 => nmp (x_X5_isMemberOf S_161) (fun r_168 S_168 => if r_168 = 0 then (0, S_168) else (1, S_168))) hL h60 hK c (by decide) (fun q => by rw [if_pos q]) ?_
      intro td' ht hk hle hne
      rw [if_neg hne]
      try dsimp only
      rw [m_who hL h60 hle hC hK]
      by_cases c2 : (pWho (T 4) len (wdL (T 4) len [119, 97, 121] (p + 1)).2).1 = 0
      · rw [if_pos c2, nmp_eq]
        dsimp only
        rw [if_pos rfl]
        refine ⟨_, _, _, by rw [c2], fun _ => by rw [who_fl c2], fun j hj => ht j (by omega), fun q => absurd c2 q⟩
      · have e1 := (pWho_le (tx := T 4) hle).2.2.resolve_left c2
        rw [if_neg c2, nmp_eq]
        dsimp only
        rw [if_neg (by decide)]
        refine ⟨_, _, _, by rw [e1], fun q => absurd q c2, fun j hj => ?_, fun _ => RC_2 ?_ upd_same⟩
        · rw [upd_ne (by omega)]; exact ht j (by omega)
        · rw [upd_ne (by omega), hk]
    rw [if_neg c1, if_neg c1]
    by_cases c2 : nx (T 4) len p = 99
    · rw [if_pos c2, if_pos c2, wd_cons (cs := [121, 99, 108, 101]) rfl c2]
      refine MO.word (cs := [121, 99, 108, 101]) (kd := 5) (q0 := (0, 0, 6, w, a, b)) (R := fun s => (1, s)) hL h60 hK c (by decide) (fun q => by rw [q]) ?_
      intro td' ht hk hle hne
      have e1 := (wdL_01 (tx := T 4) (len := len) [121, 99, 108, 101] (p + 1)).resolve_left hne
      refine ⟨_, _, _, by rw [e1], fun q => absurd q hne, fun j hj => ht j (by omega), fun _ => RC_6 hk⟩
    rw [if_neg c2, if_neg c2]
    by_cases c3 : nx (T 4) len p = 104
    · rw [if_pos c3, if_pos c3, wd_cons (cs := [101, 108, 112]) rfl c3]
      refine MO.word (cs := [101, 108, 112]) (kd := 3) (q0 := (0, 0, 4, w, a, b)) (R := fun s => nmp (x_X5_isMoney s) (fun r_255 S_255 => if r_255 = 0 then (0, S_255) else (1, S_255))) hL h60 hK c (by decide) (fun q => by rw [if_pos q]) ?_
      intro td' ht hk hle hne
      rw [if_neg hne]
      obtain ⟨f', v', t2, e, e0, et, er⟩ := m_money (T := T) (f := f) (v := v) (td := td') (k := 4) (a := a) (b := b) hL h60 hC hK hle
      have k2 : (pMon (T 4) len (wdL (T 4) len [101, 108, 112] (p + 1)).2 4 a b).2.2.1 = 4 ∧ ((pMon (T 4) len (wdL (T 4) len [101, 108, 112] (p + 1)).2 4 a b).1 = 0 ∨ (pMon (T 4) len (wdL (T 4) len [101, 108, 112] (p + 1)).2 4 a b).1 = 1) := by
        unfold pMon
        split
        · exact ⟨rfl, Or.inl rfl⟩
        split
        · rename_i q
          exact ⟨rfl, (pAmt_le (nx_lt q (by decide))).2.2⟩
        · exact ⟨rfl, Or.inl rfl⟩
      try dsimp only
      rw [e, nmp_eq]
      dsimp only
      rw [if01 k2.2]
      refine ⟨_, _, _, rfl, e0, fun j hj => ?_, fun q => ⟨?_, fun _ => (er q).1, fun _ => (er q).2, fun z => absurd (k2.1.symm.trans z) (by decide), Or.inr (Or.inr (Or.inr (Or.inl k2.1)))⟩⟩
      · rw [et j (by omega) (by omega)]; exact ht j (by omega)
      · rw [et _ (by omega) (by omega), hk, k2.1]; decide
    rw [if_neg c3, if_neg c3]
    by_cases c4 : nx (T 4) len p = 108
    · rw [if_pos c4, if_pos c4, wd_cons (cs := [111, 97, 110]) rfl c4]
      refine MO.word (cs := [111, 97, 110]) (kd := 0) (q0 := (0, 0, 1, w, a, b)) (R := fun s => nmp (x_X5_isLoan s) (fun r_120 S_120 => if r_120 = 0 then (0, S_120) else (1, S_120))) hL h60 hK c (by decide) (fun q => by rw [if_pos q]) ?_
      intro td' ht hk hle hne
      rw [if_neg hne]
      obtain ⟨f', v', t2, e, e0, et, er⟩ := m_loan (T := T) (f := f) (v := v) (td := td') (k := 1) (a := a) (b := b) hL h60 hC hK hle
      have k2 : (pLn (T 4) len (wdL (T 4) len [111, 97, 110] (p + 1)).2 1 a b).2.2.1 = 1 ∧ ((pLn (T 4) len (wdL (T 4) len [111, 97, 110] (p + 1)).2 1 a b).1 = 0 ∨ (pLn (T 4) len (wdL (T 4) len [111, 97, 110] (p + 1)).2 1 a b).1 = 1) := by
        unfold pLn pWk
        split
        · exact ⟨rfl, Or.inl rfl⟩
        split
        · split
          · exact ⟨rfl, Or.inl rfl⟩
          · split
            · rename_i q
              exact ⟨rfl, (pAmt_le (nx_lt q (by decide))).2.2⟩
            · exact ⟨rfl, Or.inl rfl⟩
        · exact ⟨rfl, Or.inl rfl⟩
      try dsimp only
      rw [e, nmp_eq]
      dsimp only
      rw [if01 k2.2]
      refine ⟨_, _, _, rfl, e0, fun j hj => ?_, fun q => ⟨?_, fun _ => (er q).1, fun _ => (er q).2.1, fun _ => (er q).2.2, Or.inl k2.1⟩⟩
      · rw [et j (by omega) (by omega) (by omega)]; exact ht j (by omega)
      · rw [et _ (by omega) (by omega) (by omega), hk, k2.1]; decide
    rw [if_neg c4, if_neg c4]
    by_cases c5 : nx (T 4) len p = 112
    · rw [if_pos c5, if_pos c5, wd_cons (cs := [97, 121]) rfl c5]
      refine MO.word (cs := [97, 121]) (kd := 2) (q0 := (0, 0, 3, w, a, b)) (R := fun s => nmp (x_X5_isMoney s) (fun r_207 S_207 => if r_207 = 0 then (0, S_207) else (1, S_207))) hL h60 hK c (by decide) (fun q => by rw [if_pos q]) ?_
      intro td' ht hk hle hne
      rw [if_neg hne]
      obtain ⟨f', v', t2, e, e0, et, er⟩ := m_money (T := T) (f := f) (v := v) (td := td') (k := 3) (a := a) (b := b) hL h60 hC hK hle
      have k2 : (pMon (T 4) len (wdL (T 4) len [97, 121] (p + 1)).2 3 a b).2.2.1 = 3 ∧ ((pMon (T 4) len (wdL (T 4) len [97, 121] (p + 1)).2 3 a b).1 = 0 ∨ (pMon (T 4) len (wdL (T 4) len [97, 121] (p + 1)).2 3 a b).1 = 1) := by
        unfold pMon
        split
        · exact ⟨rfl, Or.inl rfl⟩
        split
        · rename_i q
          exact ⟨rfl, (pAmt_le (nx_lt q (by decide))).2.2⟩
        · exact ⟨rfl, Or.inl rfl⟩
      try dsimp only
      rw [e, nmp_eq]
      dsimp only
      rw [if01 k2.2]
      refine ⟨_, _, _, rfl, e0, fun j hj => ?_, fun q => ⟨?_, fun _ => (er q).1, fun _ => (er q).2, fun z => absurd (k2.1.symm.trans z) (by decide), Or.inr (Or.inr (Or.inl k2.1))⟩⟩
      · rw [et j (by omega) (by omega)]; exact ht j (by omega)
      · rw [et _ (by omega) (by omega), hk, k2.1]; decide
    rw [if_neg c5, if_neg c5]
    by_cases c6 : nx (T 4) len p = 119
    · rw [if_pos c6, if_pos c6, wd_cons (cs := [101, 101, 107]) rfl c6]
      refine MO.word (cs := [101, 101, 107]) (kd := 4) (q0 := (0, 0, 5, w, a, b)) (R := fun s => (1, s)) hL h60 hK c (by decide) (fun q => by rw [q]) ?_
      intro td' ht hk hle hne
      have e1 := (wdL_01 (tx := T 4) (len := len) [101, 101, 107] (p + 1)).resolve_left hne
      refine ⟨_, _, _, by rw [e1], fun q => absurd q hne, fun j hj => ht j (by omega), fun _ => RC_5 hk⟩
    rw [if_neg c6, if_neg c6, m_stops hL h60 hp, nmp_eq]
    exact ⟨_, _, _, rfl, fun _ => rfl, fun _ _ => rfl, fun q => absurd rfl q⟩
  · have en : nx (T 4) len p = -1 := if_neg c
    rw [if_pos (nI_le (by omega) (by omega)), m_stops hL h60 hp, nmp_eq]
    unfold pO
    rw [en, if_neg (by decide), if_neg (by decide), if_neg (by decide), if_neg (by decide), if_neg (by decide), if_neg (by decide)]
    exact ⟨_, _, _, rfl, fun _ => rfl, fun _ _ => rfl, fun q => absurd rfl q⟩
end MORDER2
