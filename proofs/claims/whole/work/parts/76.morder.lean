section MORDER
variable {T : vS} {len p n i K : Nat} {f v x y k w a b : Int32} {td : Nat → Int32} {lo hi c : Int32}
theorem m_money (hL : T 0 5 = nI len) (h60 : len ≤ 60) (hC : CH T len) (hK : K ≤ 15) (hp : p ≤ len) : ∃ f' v' td', x_X5_isMoney (mst T (nI p) f v (nI K) td) = ((pMon (T 4) len p k a b).1, mst T (nI (pMon (T 4) len p k a b).2.1) f' v' (nI K) td') ∧ ((pMon (T 4) len p k a b).1 = 0 → f' = fl len (pMon (T 4) len p k a b).2.1) ∧ (∀ j, j ≠ 4 * K + 1 → j ≠ 4 * K + 2 → td' j = td j) ∧ (¬ (pMon (T 4) len p k a b).1 = 0 → td' (4 * K + 1) = (pMon (T 4) len p k a b).2.2.2.1 ∧ td' (4 * K + 2) = (pMon (T 4) len p k a b).2.2.2.2.1) := by
  have hw := pWho_le (tx := T 4) hp
  have hcl : (nI K).toNatClampNeg = K := nI_clamp (by omega)
  unfold x_X5_isMoney
  rw [m_who hL h60 hp hC hK]
  unfold pMon
  by_cases c1 : (pWho (T 4) len p).1 = 0
  · rw [if_pos c1, if_pos c1, nmp_eq]
    dsimp only
    rw [if_pos rfl, nm_eq, mst_11, mst_s5, mst_9, hcl]
    refine ⟨_, _, _, rfl, fun _ => ?_, fun j _ h2 => upd_ne h2, fun q => absurd rfl q⟩
    unfold pWho at c1 ⊢
    by_cases q1 : nx (T 4) len p - 48 < 0
    · rw [if_pos q1]
    · rw [if_neg q1] at c1 ⊢
      by_cases q2 : 8 ≤ nx (T 4) len p - 48
      · rw [if_pos q2]
      · rw [if_neg q2] at c1; exact absurd c1 (by decide : ¬ (1 : Int32) = 0)
  · rw [if_neg c1, if_neg c1, nmp_eq]
    dsimp only
    rw [if_neg (by decide), m_sign hL h60 hw.1 (by decide)]
    by_cases c2 : nx (T 4) len (pWho (T 4) len p).2.1 = 42
    · have hlt := nx_lt c2 (by decide)
      rw [if_pos c2, if_pos c2, nmp_eq]
      dsimp only
      rw [if_neg (by decide), m_amt hL h60 hC hlt (by decide) (fun S x => begins_1 S x 2000)]
      by_cases c3 : (pAmt (T 4) len 1 2000 ((pWho (T 4) len p).2.1 + 1)).1 = 0
      · rw [if_pos c3, nmp_eq]
        dsimp only
        rw [if_pos rfl, nm_eq, mst_11, mst_s5, mst_9, hcl]
        refine ⟨_, _, _, by rw [c3], fun _ => rfl, fun j h1 h2 => ?_, fun q => absurd c3 q⟩
        rw [upd_ne h2, upd_ne h1]
      · rw [if_neg c3, nmp_eq]
        dsimp only
        rw [if_neg (by decide), nm_eq, mst_11, mst_s5, mst_9, hcl]
        have e1 : (pAmt (T 4) len 1 2000 ((pWho (T 4) len p).2.1 + 1)).1 = 1 := (pAmt_le (tx := T 4) hlt).2.2.resolve_left c3
        refine ⟨_, _, _, by rw [e1], fun q => absurd q c3, fun j h1 h2 => ?_, fun _ => ⟨?_, upd_same⟩⟩
        · rw [upd_ne h2, upd_ne h1]
        · rw [upd_ne (by omega), upd_same]
    · rw [if_neg c2, if_neg c2, nmp_eq]
      dsimp only
      rw [if_pos rfl, nm_eq, mst_11, mst_s5, mst_9, hcl]
      refine ⟨_, _, _, rfl, fun _ => rfl, fun j h1 h2 => ?_, fun q => absurd rfl q⟩
      rw [upd_ne h2, upd_ne h1]
theorem who_fl (c1 : (pWho (T 4) len p).1 = 0) : (pWho (T 4) len p).2.1 = p := by
  unfold pWho at c1 ⊢
  by_cases q1 : nx (T 4) len p - 48 < 0
  · rw [if_pos q1]
  · rw [if_neg q1] at c1 ⊢
    by_cases q2 : 8 ≤ nx (T 4) len p - 48
    · rw [if_pos q2]
    · rw [if_neg q2] at c1; exact absurd c1 (by decide : ¬ (1 : Int32) = 0)
theorem m_loan (hL : T 0 5 = nI len) (h60 : len ≤ 60) (hC : CH T len) (hK : K ≤ 15) (hp : p ≤ len) : ∃ f' v' td', x_X5_isLoan (mst T (nI p) f v (nI K) td) = ((pLn (T 4) len p k a b).1, mst T (nI (pLn (T 4) len p k a b).2.1) f' v' (nI K) td') ∧ ((pLn (T 4) len p k a b).1 = 0 → f' = fl len (pLn (T 4) len p k a b).2.1) ∧ (∀ j, j ≠ 4 * K + 1 → j ≠ 4 * K + 2 → j ≠ 4 * K + 3 → td' j = td j) ∧ (¬ (pLn (T 4) len p k a b).1 = 0 → td' (4 * K + 1) = (pLn (T 4) len p k a b).2.2.2.1 ∧ td' (4 * K + 2) = (pLn (T 4) len p k a b).2.2.2.2.1 ∧ td' (4 * K + 3) = (pLn (T 4) len p k a b).2.2.2.2.2) := by
  have hw := pWho_le (tx := T 4) hp
  have hcl : (nI K).toNatClampNeg = K := nI_clamp (by omega)
  unfold x_X5_isLoan
  rw [m_who hL h60 hp hC hK]
  unfold pLn
  by_cases c1 : (pWho (T 4) len p).1 = 0
  · rw [if_pos c1, if_pos c1, nmp_eq]
    dsimp only
    rw [if_pos rfl]
    exact ⟨_, _, _, rfl, fun _ => by rw [who_fl c1], fun j _ _ _ => rfl, fun q => absurd rfl q⟩
  · rw [if_neg c1, if_neg c1, nmp_eq]
    dsimp only
    rw [if_neg (by decide), m_sign hL h60 hw.1 (by decide)]
    by_cases c2 : nx (T 4) len (pWho (T 4) len p).2.1 = 42
    · have hlt := nx_lt c2 (by decide)
      have ha := pAmt_le (tx := T 4) (lo := 10) (hi := 2000) hlt
      rw [if_pos c2, if_pos c2, nmp_eq]
      dsimp only
      rw [if_neg (by decide), m_amt hL h60 hC hlt (by decide) (fun S x => begins_10 S x)]
      by_cases c3 : (pAmt (T 4) len 10 2000 ((pWho (T 4) len p).2.1 + 1)).1 = 0
      · rw [if_pos c3, if_pos c3, nmp_eq]
        dsimp only
        rw [if_pos rfl]
        refine ⟨_, _, _, rfl, fun _ => rfl, fun j h1 h2 h3 => ?_, fun q => absurd rfl q⟩
        rw [upd_ne h1]
      · rw [if_neg c3, if_neg c3, nmp_eq]
        dsimp only
        rw [if_neg (by decide), nm_eq, mst_11, mst_s5, mst_9, hcl, m_sign hL h60 ha.1 (by decide)]
        unfold pWk
        by_cases c4 : nx (T 4) len (pAmt (T 4) len 10 2000 ((pWho (T 4) len p).2.1 + 1)).2.1 = 47
        · have hlt2 := nx_lt c4 (by decide)
          rw [if_pos c4, if_pos c4, nmp_eq]
          dsimp only
          rw [if_neg (by decide), m_amt hL h60 hC hlt2 (by decide) (fun S x => begins_1 S x 52)]
          by_cases c5 : (pAmt (T 4) len 1 52 ((pAmt (T 4) len 10 2000 ((pWho (T 4) len p).2.1 + 1)).2.1 + 1)).1 = 0
          · rw [if_pos c5, nmp_eq]
            dsimp only
            rw [if_pos rfl, nm_eq, mst_11, mst_s5, mst_9, hcl]
            refine ⟨_, _, _, by rw [c5], fun _ => rfl, fun j h1 h2 h3 => ?_, fun q => absurd c5 q⟩
            rw [upd_ne h3, upd_ne h2, upd_ne h1]
          · rw [if_neg c5, nmp_eq]
            dsimp only
            rw [if_neg (by decide), nm_eq, mst_11, mst_s5, mst_9, hcl]
            have e1 : (pAmt (T 4) len 1 52 ((pAmt (T 4) len 10 2000 ((pWho (T 4) len p).2.1 + 1)).2.1 + 1)).1 = 1 := (pAmt_le (tx := T 4) hlt2).2.2.resolve_left c5
            refine ⟨_, _, _, by rw [e1], fun q => absurd q c5, fun j h1 h2 h3 => ?_, fun _ => ⟨?_, ?_, upd_same⟩⟩
            · rw [upd_ne h3, upd_ne h2, upd_ne h1]
            · rw [upd_ne (by omega), upd_ne (by omega), upd_same]
            · rw [upd_ne (by omega), upd_same]
        · rw [if_neg c4, if_neg c4, nmp_eq]
          dsimp only
          rw [if_pos rfl, nm_eq, mst_11, mst_s5, mst_9, hcl]
          refine ⟨_, _, _, rfl, fun _ => rfl, fun j h1 h2 h3 => ?_, fun q => absurd rfl q⟩
          rw [upd_ne h3, upd_ne h2, upd_ne h1]
    · rw [if_neg c2, if_neg c2, nmp_eq]
      dsimp only
      rw [if_pos rfl]
      refine ⟨_, _, _, rfl, fun _ => rfl, fun j h1 h2 h3 => ?_, fun q => absurd rfl q⟩
      rw [upd_ne h1]
end MORDER
