section STALE
variable {len p n i K : Nat} {k w a b k2 w2 a2 b2 : Int32} {tx : Nat → Int32} {td : Nat → Int32}
/-- a reading does not depend on what was read before -/
def SQ (q r : PT) : Prop := q.1 = r.1 ∧ q.2.1 = r.2.1 ∧ (¬ q.1 = 0 → q.2.2.1 = r.2.2.1 ∧ (q.2.2.1 = 1 ∨ q.2.2.1 = 2 ∨ q.2.2.1 = 3 ∨ q.2.2.1 = 4 → q.2.2.2.1 = r.2.2.2.1) ∧ (q.2.2.1 = 1 ∨ q.2.2.1 = 3 ∨ q.2.2.1 = 4 → q.2.2.2.2.1 = r.2.2.2.2.1) ∧ (q.2.2.1 = 1 → q.2.2.2.2.2 = r.2.2.2.2.2))
theorem SQ_0 {x : Nat} {q r : PT} (h1 : q.1 = 0) (h2 : r.1 = 0) (h3 : q.2.1 = x) (h4 : r.2.1 = x) : SQ q r := ⟨h1.trans h2.symm, h3.trans h4.symm, fun z => absurd h1 z⟩
theorem SQ_mon {kd : Int32} (hkd : ¬ kd = 1) : SQ (pMon tx len p kd a b) (pMon tx len p kd a2 b2) := by
  unfold pMon
  by_cases c1 : (pWho tx len p).1 = 0
  · rw [if_pos c1, if_pos c1]; exact SQ_0 rfl rfl rfl rfl
  · rw [if_neg c1, if_neg c1]
    by_cases c2 : nx tx len (pWho tx len p).2.1 = 42
    · rw [if_pos c2, if_pos c2]
      exact ⟨rfl, rfl, fun _ => ⟨rfl, fun _ => rfl, fun _ => rfl, fun q => absurd q hkd⟩⟩
    · rw [if_neg c2, if_neg c2]; exact SQ_0 rfl rfl rfl rfl
theorem SQ_ln {kd : Int32} : SQ (pLn tx len p kd a b) (pLn tx len p kd a2 b2) := by
  unfold pLn
  by_cases c1 : (pWho tx len p).1 = 0
  · rw [if_pos c1, if_pos c1]; exact SQ_0 rfl rfl rfl rfl
  · rw [if_neg c1, if_neg c1]
    by_cases c2 : nx tx len (pWho tx len p).2.1 = 42
    · rw [if_pos c2, if_pos c2]
      by_cases c3 : (pAmt tx len 10 2000 ((pWho tx len p).2.1 + 1)).1 = 0
      · rw [if_pos c3, if_pos c3]; exact SQ_0 rfl rfl rfl rfl
      · rw [if_neg c3, if_neg c3]
        unfold pWk
        by_cases c4 : nx tx len (pAmt tx len 10 2000 ((pWho tx len p).2.1 + 1)).2.1 = 47
        · rw [if_pos c4, if_pos c4]
          exact ⟨rfl, rfl, fun _ => ⟨rfl, fun _ => rfl, fun _ => rfl, fun _ => rfl⟩⟩
        · rw [if_neg c4, if_neg c4]; exact SQ_0 rfl rfl rfl rfl
    · rw [if_neg c2, if_neg c2]; exact SQ_0 rfl rfl rfl rfl
theorem SQ_5 {u : Int32} {z : Nat} : SQ (u, z, 5, w, a, b) (u, z, 5, w2, a2, b2) := by
  refine ⟨rfl, rfl, fun _ => ⟨rfl, fun q => absurd q ?_, fun q => absurd q ?_, fun q => absurd q ?_⟩⟩
  · exact (by decide : ¬ ((5 : Int32) = 1 ∨ (5 : Int32) = 2 ∨ (5 : Int32) = 3 ∨ (5 : Int32) = 4))
  · exact (by decide : ¬ ((5 : Int32) = 1 ∨ (5 : Int32) = 3 ∨ (5 : Int32) = 4))
  · exact (by decide : ¬ (5 : Int32) = 1)
theorem SQ_6 {u : Int32} {z : Nat} : SQ (u, z, 6, w, a, b) (u, z, 6, w2, a2, b2) := by
  refine ⟨rfl, rfl, fun _ => ⟨rfl, fun q => absurd q ?_, fun q => absurd q ?_, fun q => absurd q ?_⟩⟩
  · exact (by decide : ¬ ((6 : Int32) = 1 ∨ (6 : Int32) = 2 ∨ (6 : Int32) = 3 ∨ (6 : Int32) = 4))
  · exact (by decide : ¬ ((6 : Int32) = 1 ∨ (6 : Int32) = 3 ∨ (6 : Int32) = 4))
  · exact (by decide : ¬ (6 : Int32) = 1)
theorem SQ_2 {u : Int32} {z : Nat} : SQ (u, z, 2, w, a, b) (u, z, 2, w, a2, b2) := by
  refine ⟨rfl, rfl, fun _ => ⟨rfl, fun _ => rfl, fun q => absurd q ?_, fun q => absurd q ?_⟩⟩
  · exact (by decide : ¬ ((2 : Int32) = 1 ∨ (2 : Int32) = 3 ∨ (2 : Int32) = 4))
  · exact (by decide : ¬ (2 : Int32) = 1)
theorem SQ_O : SQ (pO tx len p k w a b) (pO tx len p k2 w2 a2 b2) := by
  unfold pO
  by_cases c1 : nx tx len p = 97
  · rw [if_pos c1, if_pos c1]
    by_cases q : (wd tx len 1 p).1 = 0
    · rw [if_pos q, if_pos q]; exact SQ_0 rfl rfl rfl rfl
    · rw [if_neg q, if_neg q]; exact SQ_2
  rw [if_neg c1, if_neg c1]
  by_cases c2 : nx tx len p = 99
  · rw [if_pos c2, if_pos c2]; exact SQ_6
  rw [if_neg c2, if_neg c2]
  by_cases c3 : nx tx len p = 104
  · rw [if_pos c3, if_pos c3]
    by_cases q : (wd tx len 3 p).1 = 0
    · rw [if_pos q, if_pos q]; exact SQ_0 rfl rfl rfl rfl
    · rw [if_neg q, if_neg q]; exact SQ_mon (by decide)
  rw [if_neg c3, if_neg c3]
  by_cases c4 : nx tx len p = 108
  · rw [if_pos c4, if_pos c4]
    by_cases q : (wd tx len 0 p).1 = 0
    · rw [if_pos q, if_pos q]; exact SQ_0 rfl rfl rfl rfl
    · rw [if_neg q, if_neg q]; exact SQ_ln
  rw [if_neg c4, if_neg c4]
  by_cases c5 : nx tx len p = 112
  · rw [if_pos c5, if_pos c5]
    by_cases q : (wd tx len 2 p).1 = 0
    · rw [if_pos q, if_pos q]; exact SQ_0 rfl rfl rfl rfl
    · rw [if_neg q, if_neg q]; exact SQ_mon (by decide)
  rw [if_neg c5, if_neg c5]
  by_cases c6 : nx tx len p = 119
  · rw [if_pos c6, if_pos c6]; exact SQ_5
  rw [if_neg c6, if_neg c6]; exact SQ_0 rfl rfl rfl rfl
/-- what is noted of an order, whatever was read before -/
theorem RC_stale {q r : PT} (h : RC td K q) (hs : SQ q r) (h1 : ¬ q.1 = 0) : RC td K r := by
  obtain ⟨a1, a2, a3⟩ := hs
  obtain ⟨e1, e2, e3, e4⟩ := a3 h1
  obtain ⟨r1, r2, r3, r4, r5⟩ := h
  refine ⟨by rw [← e1]; exact r1, fun z => ?_, fun z => ?_, fun z => ?_, by rw [← e1]; exact r5⟩
  · rw [← e1] at z; rw [← e2 z]; exact r2 z
  · rw [← e1] at z; rw [← e3 z]; exact r3 z
  · rw [← e1] at z; rw [← e4 z]; exact r4 z
theorem wdL_len : ∀ (cs : List Int32) (p : Nat), ¬ (wdL tx len cs p).1 = 0 → (wdL tx len cs p).2 = p + cs.length := by
  intro cs
  induction cs with
  | nil => intro p _; rfl
  | cons c cs ih =>
    intro p h
    have e : wdL tx len (c :: cs) p = if nx tx len p = c then wdL tx len cs (p + 1) else (0, p) := rfl
    by_cases q : nx tx len p = c
    · rw [e, if_pos q] at h ⊢
      rw [ih (p + 1) h, List.length_cons]
      omega
    · rw [e, if_neg q] at h; exact absurd rfl h
theorem who_len (h : ¬ (pWho tx len p).1 = 0) : (pWho tx len p).2.1 = p + 1 := by
  unfold pWho at h ⊢
  by_cases c1 : nx tx len p - 48 < 0
  · rw [if_pos c1] at h; exact absurd rfl h
  rw [if_neg c1] at h ⊢
  by_cases c2 : 8 ≤ nx tx len p - 48
  · rw [if_pos c2] at h; exact absurd rfl h
  rw [if_neg c2]
/-- where a reading ends -/
theorem pO_le (hp : p ≤ len) : (pO tx len p k w a b).2.1 ≤ len ∧ ((pO tx len p k w a b).1 = 0 ∨ (pO tx len p k w a b).1 = 1) ∧ (¬ (pO tx len p k w a b).1 = 0 → p + 4 ≤ (pO tx len p k w a b).2.1) := by
  have mon : ∀ (p0 : Nat) (kd : Int32), p + 3 ≤ p0 → p0 ≤ len → (pMon tx len p0 kd a b).2.1 ≤ len ∧ ((pMon tx len p0 kd a b).1 = 0 ∨ (pMon tx len p0 kd a b).1 = 1) ∧ (¬ (pMon tx len p0 kd a b).1 = 0 → p + 4 ≤ (pMon tx len p0 kd a b).2.1) := by
    intro p0 kd h1 h2
    have hw := pWho_le (tx := tx) h2
    unfold pMon
    by_cases c1 : (pWho tx len p0).1 = 0
    · rw [if_pos c1]; exact ⟨hw.1, Or.inl rfl, fun q => absurd rfl q⟩
    · rw [if_neg c1]
      have e := who_len c1
      by_cases c2 : nx tx len (pWho tx len p0).2.1 = 42
      · rw [if_pos c2]
        have hlt : (pWho tx len p0).2.1 + 1 ≤ len := nx_lt c2 (by decide)
        have ha := pAmt_le (tx := tx) (lo := 1) (hi := 2000) hlt
        exact ⟨ha.1, ha.2.2, fun _ => by have := ha.2.1; dsimp only; omega⟩
      · rw [if_neg c2]; exact ⟨hw.1, Or.inl rfl, fun q => absurd rfl q⟩
  have ln : ∀ (p0 : Nat) (kd : Int32), p + 3 ≤ p0 → p0 ≤ len → (pLn tx len p0 kd a b).2.1 ≤ len ∧ ((pLn tx len p0 kd a b).1 = 0 ∨ (pLn tx len p0 kd a b).1 = 1) ∧ (¬ (pLn tx len p0 kd a b).1 = 0 → p + 4 ≤ (pLn tx len p0 kd a b).2.1) := by
    intro p0 kd h1 h2
    have hw := pWho_le (tx := tx) h2
    unfold pLn
    by_cases c1 : (pWho tx len p0).1 = 0
    · rw [if_pos c1]; exact ⟨hw.1, Or.inl rfl, fun q => absurd rfl q⟩
    · rw [if_neg c1]
      have e := who_len c1
      by_cases c2 : nx tx len (pWho tx len p0).2.1 = 42
      · rw [if_pos c2]
        have hlt : (pWho tx len p0).2.1 + 1 ≤ len := nx_lt c2 (by decide)
        have ha := pAmt_le (tx := tx) (lo := 10) (hi := 2000) hlt
        by_cases c3 : (pAmt tx len 10 2000 ((pWho tx len p0).2.1 + 1)).1 = 0
        · rw [if_pos c3]; exact ⟨ha.1, Or.inl rfl, fun q => absurd rfl q⟩
        · rw [if_neg c3]
          unfold pWk
          by_cases c4 : nx tx len (pAmt tx len 10 2000 ((pWho tx len p0).2.1 + 1)).2.1 = 47
          · rw [if_pos c4]
            have hlt2 : (pAmt tx len 10 2000 ((pWho tx len p0).2.1 + 1)).2.1 + 1 ≤ len := nx_lt c4 (by decide)
            have hb := pAmt_le (tx := tx) (lo := 1) (hi := 52) hlt2
            exact ⟨hb.1, hb.2.2, fun _ => by have := hb.2.1; have := ha.2.1; dsimp only; omega⟩
          · rw [if_neg c4]; exact ⟨ha.1, Or.inl rfl, fun q => absurd rfl q⟩
      · rw [if_neg c2]; exact ⟨hw.1, Or.inl rfl, fun q => absurd rfl q⟩
  have wl : ∀ wi, wi < 6 → ¬ (wd tx len wi p).1 = 0 → (wd tx len wi p).2 = p + (byE.getD wi []).length := fun wi _ h => wdL_len _ p h
  have w01 : ∀ wi, (wd tx len wi p).1 = 0 ∨ (wd tx len wi p).1 = 1 := fun wi => wdL_01 _ p
  unfold pO
  by_cases c1 : nx tx len p = 97
  · rw [if_pos c1]
    have hb := wd_le (tx := tx) (wi := 1) (by decide) hp
    by_cases q : (wd tx len 1 p).1 = 0
    · rw [if_pos q]; exact ⟨hb.1, Or.inl rfl, fun z => absurd rfl z⟩
    · rw [if_neg q]
      have hw := pWho_le (tx := tx) hb.1
      have e : (wd tx len 1 p).2 = p + 4 := wl 1 (by decide) q
      exact ⟨hw.1, hw.2.2, fun _ => by have := hw.2.1; dsimp only; omega⟩
  rw [if_neg c1]
  by_cases c2 : nx tx len p = 99
  · rw [if_pos c2]
    have hb := wd_le (tx := tx) (wi := 5) (by decide) hp
    refine ⟨hb.1, w01 5, fun z => ?_⟩
    have e : (wd tx len 5 p).2 = p + 5 := wl 5 (by decide) z
    dsimp only
    omega
  rw [if_neg c2]
  by_cases c3 : nx tx len p = 104
  · rw [if_pos c3]
    have hb := wd_le (tx := tx) (wi := 3) (by decide) hp
    by_cases q : (wd tx len 3 p).1 = 0
    · rw [if_pos q]; exact ⟨hb.1, Or.inl rfl, fun z => absurd rfl z⟩
    · rw [if_neg q]
      have e : (wd tx len 3 p).2 = p + 4 := wl 3 (by decide) q
      exact mon _ _ (by omega) hb.1
  rw [if_neg c3]
  by_cases c4 : nx tx len p = 108
  · rw [if_pos c4]
    have hb := wd_le (tx := tx) (wi := 0) (by decide) hp
    by_cases q : (wd tx len 0 p).1 = 0
    · rw [if_pos q]; exact ⟨hb.1, Or.inl rfl, fun z => absurd rfl z⟩
    · rw [if_neg q]
      have e : (wd tx len 0 p).2 = p + 4 := wl 0 (by decide) q
      exact ln _ _ (by omega) hb.1
  rw [if_neg c4]
  by_cases c5 : nx tx len p = 112
  · rw [if_pos c5]
    have hb := wd_le (tx := tx) (wi := 2) (by decide) hp
    by_cases q : (wd tx len 2 p).1 = 0
    · rw [if_pos q]; exact ⟨hb.1, Or.inl rfl, fun z => absurd rfl z⟩
    · rw [if_neg q]
      have e : (wd tx len 2 p).2 = p + 3 := wl 2 (by decide) q
      exact mon _ _ (by omega) hb.1
  rw [if_neg c5]
  by_cases c6 : nx tx len p = 119
  · rw [if_pos c6]
    have hb := wd_le (tx := tx) (wi := 4) (by decide) hp
    refine ⟨hb.1, w01 4, fun z => ?_⟩
    have e : (wd tx len 4 p).2 = p + 4 := wl 4 (by decide) z
    dsimp only
    omega
  rw [if_neg c6]
  exact ⟨hp, Or.inl rfl, fun z => absurd rfl z⟩
end STALE
