section MLEM
def chairOK (x : Int32) : Prop := x = -1 ∨ vp_in x 8
theorem vin_ne {x : Int32} {b : Nat} (h : vp_in x (b + 1)) (hn : ¬ x = nI b) (hb : b < 2 ^ 30 := by decide) : vp_in x b := by
  obtain ⟨j, hj, rfl⟩ := vp_in_of h (by omega)
  have : j ≠ b := fun e => hn (by rw [e])
  exact vp_in_nI (by omega) (by omega)
theorem vin_pred {x : Int32} {n : Nat} (h : vp_in x (n + 1)) (h0 : ¬ x = 0) (hn : n < 2 ^ 30 := by decide) : vp_in (x - 1) n := by
  obtain ⟨j, hj, rfl⟩ := vp_in_of h (by omega)
  have : j ≠ 0 := fun e => h0 (by rw [e]; rfl)
  obtain ⟨i, rfl⟩ := Nat.exists_eq_succ_of_ne_zero this
  rw [nI_pred]
  exact vp_in_nI (by omega) (by omega)
theorem vin_eqpred {x : Int32} {n : Nat} (h : x = nI (n + 1)) (hn : n < 2 ^ 30 := by decide) : vp_in (x - 1) (n + 1) := by
  rw [h, nI_pred]
  exact vp_in_nI (by omega) (by omega)
theorem lt_vin {a b : Int32} {n : Nat} (h0 : 0 ≤ a.toInt) (hb : vp_in b (n + 1)) (c : ¬ b ≤ a) : vp_in a n := by
  rw [vp_in_iff] at hb ⊢
  rw [Int32.le_iff_toInt_le] at c
  omega
theorem rem8 {f : Int32} {n : Nat} (h : chairOK f) (h1 : 1 ≤ n) (h2 : n < 9) : vp_in ((f + nI n) - (f + nI n) / 8 * 8) 8 := by
  have key : ∀ k : Nat, k < 16 → vp_in (nI k - nI k / 8 * 8) 8 := by
    intro k hk
    rw [show (8 : Int32) = nI 8 from rfl, pk_rem (by omega) (by decide) (by decide)]
    exact vp_in_nI (Nat.mod_lt _ (by decide)) (by decide)
  rcases h with rfl | h
  · have e : (-1 : Int32) + nI n = nI (n - 1) := by
      obtain ⟨i, rfl⟩ : ∃ i, n = i + 1 := ⟨n - 1, by omega⟩
      rw [Int32.add_comm, pk_m1]
      rfl
    rw [e]
    exact key _ (by omega)
  · obtain ⟨j, hj, rfl⟩ := vp_in_of h (by decide)
    rw [nI_add]
    exact key _ (by omega)
theorem vin_hi {x : Int32} {n m : Nat} (h : vp_in x n) (c : ¬ nI m ≤ x) (hm : m < 2 ^ 30) : vp_in x m := by
  rw [vp_in_iff] at h ⊢
  rw [Int32.le_iff_toInt_le, nI_toInt (by omega)] at c
  omega
theorem cnt9 {x : Int32} (h : vp_in x 16) : vp_in ((9 + x) - 9) 189 := by
  obtain ⟨j, hj, rfl⟩ := vp_in_of h (by decide)
  rw [show (9 : Int32) = nI 9 from rfl, nI_add, pk_sub (by omega), Nat.add_sub_cancel_left]
  exact vp_in_nI (by omega) (by decide)
theorem ofm7 {x : Int32} (h : vp_in x 14) (c : ¬ 10 ≤ x) : vp_in ((7 + x) - 5) 14 := by
  have h := vin_hi (m := 10) h c (by decide)
  obtain ⟨j, hj, rfl⟩ := vp_in_of h (by decide)
  rw [show (7 : Int32) = nI 7 from rfl, show (5 : Int32) = nI 5 from rfl, nI_add, pk_sub (by omega)]
  exact vp_in_nI (by omega) (by decide)
theorem dd_ok2 {a b : Int32} (h : ¬ b = 0) : vf_n64 (FP.ddiv (FP.i2d a) (FP.i2d b)) := dd_ok2' h
theorem bg_first {x hi : Int32} (h : hi.toInt ≤ 2000) : ((0 < 2002 ∧ hi.toInt + 2 ≤ x.toInt + ((2002 : Nat) : Int) ∧ 1 ≤ x.toInt) ∧ hi.toInt ≤ 2000) ∨ (x ≤ 0 ∧ 0 < 2002) := by
  by_cases c : x ≤ 0
  · exact Or.inr ⟨c, by decide⟩
  · left
    rw [Int32.le_iff_toInt_le] at c
    have : (0 : Int32).toInt = 0 := by decide
    omega
/-- the text's own numbers: typed, tolds, at -/
def TI (S : vS) : Prop := vp_in (S 0 5) 61 ∧ vp_in (S 0 11) 16 ∧ 0 ≤ (S 0 7).toInt ∧ (S 0 7).toInt ≤ (S 0 5).toInt
theorem TI.typed {S : vS} (h : TI S) : vp_in (S 0 5) 61 := h.1
theorem TI.at {S : vS} (h : TI S) (c : ¬ S 0 5 ≤ S 0 7) : vp_in (S 0 7) 60 := lt_vin h.2.2.1 h.1 c
theorem TI_stq {S : vS} {q j : Nat} {x : Int32} (h : TI S) (hq : q ≠ 0) : TI (st S q j x) := by
  have e : ∀ i, st S q j x 0 i = S 0 i := fun i => by rw [st_at, if_neg (fun z => hq z.1.symm)]
  unfold TI
  rw [e, e, e]
  exact h
theorem TI_st0 {S : vS} {j : Nat} {x : Int32} (h : TI S) (hj : j ≠ 5 ∧ j ≠ 7 ∧ j ≠ 11) : TI (st S 0 j x) := by
  unfold TI
  rw [st_at, st_at, st_at, if_neg (fun z => hj.1 z.2.symm), if_neg (fun z => hj.2.2 z.2.symm), if_neg (fun z => hj.2.1 z.2.symm)]
  exact h
theorem at_inc {S : vS} (h : TI S) (c : ¬ S 0 5 ≤ S 0 7) : (S 0 7 + 1).toInt = (S 0 7).toInt + 1 := by
  have h1 := h.2.2.1
  have h2 := h.2.2.2
  have h3 := vp_in_iff.mp h.1
  rw [fb_addI (by rw [show (1 : Int32).toInt = 1 from by decide]; omega) (by rw [show (1 : Int32).toInt = 1 from by decide]; omega)]
  rfl
theorem TI_at {S : vS} (h : TI S) (c : ¬ S 0 5 ≤ S 0 7) : TI (st S 0 7 (S 0 7 + 1)) := by
  have h1 := h.2.2.1
  have h3 := vp_in_iff.mp h.1
  have e := at_inc h c
  rw [Int32.le_iff_toInt_le] at c
  unfold TI
  rw [st_at, st_at, st_at, if_neg (by decide), if_neg (by decide), if_pos ⟨rfl, rfl⟩]
  exact ⟨h.1, h.2.1, by omega, by omega⟩
theorem ms_first {S : vS} (h : TI S) : (S 0 5).toInt < (S 0 7).toInt + ((62 : Nat) : Int) := by
  have h1 := h.2.2.1
  have h3 := vp_in_iff.mp h.1
  omega
theorem ms_step {S S1 S2 : vS} {x : Int32} {n : Nat} (hms : (S 0 5).toInt < (S 0 7).toInt + ((n + 1 : Nat) : Int)) (h1 : S1 = st S 0 9 x) (h2 : S2 = st S1 0 7 (S1 0 7 + 1)) (h : TI S) (c : ¬ S 0 5 ≤ S 0 7) : (S2 0 5).toInt < (S2 0 7).toInt + (n : Int) := by
  have e := at_inc h c
  have a5 : S1 0 5 = S 0 5 := by rw [h1, st_at, if_neg (by decide)]
  have a7 : S1 0 7 = S 0 7 := by rw [h1, st_at, if_neg (by decide)]
  have b5 : S2 0 5 = S 0 5 := by rw [h2, st_at, if_neg (by decide), a5]
  have b7 : S2 0 7 = S 0 7 + 1 := by rw [h2, st_at, if_pos ⟨rfl, rfl⟩, a7]
  rw [b5, b7, e]
  omega
theorem bg_step {x hi : Int32} {n : Nat} (h : (0 < n + 1 ∧ hi.toInt + 2 ≤ x.toInt + ((n + 1 : Nat) : Int) ∧ 1 ≤ x.toInt) ∧ hi.toInt ≤ 2000) (c : ¬ hi < x) : (0 < n ∧ hi.toInt + 2 ≤ (x * 10).toInt + (n : Int) ∧ 1 ≤ (x * 10).toInt) ∧ hi.toInt ≤ 2000 := by
  obtain ⟨⟨-, h1, h2⟩, h3⟩ := h
  rw [Int32.lt_iff_toInt_lt] at c
  have e : (x * 10).toInt = x.toInt * 10 := by
    rw [fb_mulI (by rw [show (10 : Int32).toInt = 10 from by decide]; omega) (by rw [show (10 : Int32).toInt = 10 from by decide]; omega)]
    rfl
  rw [e]
  omega
/-- a text read on: at is k further, typed and tolds stay -/
def AD (S S' : vS) (k : Int) : Prop := TI S' ∧ S' 0 11 = S 0 11 ∧ S' 0 5 = S 0 5 ∧ (S 0 7).toInt + k ≤ (S' 0 7).toInt
theorem AD.rf {S : vS} (h : TI S) : AD S S 0 := ⟨h, rfl, rfl, by omega⟩
theorem AD.tr {S S1 S2 : vS} {a b : Int} (h : AD S S1 a) (h2 : AD S1 S2 b) : AD S S2 (a + b) := ⟨h2.1, h2.2.1.trans h.2.1, h2.2.2.1.trans h.2.2.1, by have := h.2.2.2; have := h2.2.2.2; omega⟩
theorem AD.mono {S S1 : vS} {a b : Int} (h : AD S S1 a) (hb : b ≤ a) : AD S S1 b := ⟨h.1, h.2.1, h.2.2.1, by have := h.2.2.2; omega⟩
theorem AD.q {S : vS} {q j : Nat} {x : Int32} (h : TI S) (hq : q ≠ 0) : AD S (st S q j x) 0 := by
  have e : ∀ i, st S q j x 0 i = S 0 i := fun i => by rw [st_at, if_neg (fun z => hq z.1.symm)]
  refine ⟨TI_stq h hq, e _, e _, ?_⟩
  rw [e]
  omega
theorem AD.z {S : vS} {j : Nat} {x : Int32} (h : TI S) (hj : j ≠ 5 ∧ j ≠ 7 ∧ j ≠ 11) : AD S (st S 0 j x) 0 := by
  refine ⟨TI_st0 h hj, by rw [st_at, if_neg (fun z => hj.2.2 z.2.symm)], by rw [st_at, if_neg (fun z => hj.1 z.2.symm)], ?_⟩
  rw [st_at, if_neg (fun z => hj.2.1 z.2.symm)]
  omega
theorem AD.at {S : vS} (h : TI S) (c : ¬ S 0 5 ≤ S 0 7) : AD S (st S 0 7 (S 0 7 + 1)) 1 := by
  refine ⟨TI_at h c, by rw [st_at, if_neg (by decide)], by rw [st_at, if_neg (by decide)], ?_⟩
  rw [st_at, if_pos ⟨rfl, rfl⟩, at_inc h c]
  omega
theorem AT_q {S : vS} {q j : Nat} {x : Int32} (c : ¬ S 0 5 ≤ S 0 7) (hq : q ≠ 0) : ¬ st S q j x 0 5 ≤ st S q j x 0 7 := by
  rw [st_at, st_at, if_neg (fun z => hq z.1.symm), if_neg (fun z => hq z.1.symm)]
  exact c
theorem AT_0 {S : vS} {j : Nat} {x : Int32} (c : ¬ S 0 5 ≤ S 0 7) (hj : j ≠ 5 ∧ j ≠ 7) : ¬ st S 0 j x 0 5 ≤ st S 0 j x 0 7 := by
  rw [st_at, st_at, if_neg (fun z => hj.1 z.2.symm), if_neg (fun z => hj.2 z.2.symm)]
  exact c
def PP (S0 : vS) (K : Int) (z : Int32 × vS) : Prop := AD S0 z.2 0 ∧ (¬ z.1 = 0 → AD S0 z.2 K)
theorem PP.zero {S0 S1 : vS} {K : Int} (h : AD S0 S1 0) : PP S0 K (0, S1) := ⟨h, fun c => absurd rfl c⟩
theorem PP.one {S0 S1 : vS} {K a : Int} {r : Int32} (h : AD S0 S1 a) (ha : 0 ≤ a) (hK : K ≤ a) : PP S0 K (r, S1) := ⟨h.mono ha, fun _ => h.mono hK⟩
theorem PP.chain {S0 S : vS} {p : Int32 × vS} {zf rest : Int32 → vS → Int32 × vS} {a k K : Int} (ha : 0 ≤ a) (h : AD S0 S a) (hp : PP S k p) (hz : ∀ r S1, r = 0 → AD S0 S1 0 → PP S0 K (zf r S1)) (hr : ∀ r S1, AD S0 S1 (a + k) → PP S0 K (rest r S1)) :
    PP S0 K (nmp p (fun r S1 => if r = 0 then zf r S1 else rest r S1)) := by
  unfold nmp
  dsimp only
  by_cases c : p.1 = 0
  · rw [if_pos c]
    exact hz _ _ c ((h.tr hp.1).mono (by omega))
  · rw [if_neg c]
    exact hr _ _ (h.tr (hp.2 c))
def TJ (S : vS) (v : Int32) : Prop := TI S ∧ (¬ v = 0 → 5 * (S 0 11).toInt ≤ (S 0 7).toInt)
theorem TI_inc11 {S S2 : vS} {v : Int32} (h : TJ S v) (hv : ¬ v = 0) (h2 : AD S S2 4) : TI (st S2 0 11 (S2 0 11 + 1)) ∧ (S2 0 11 + 1).toInt = (S 0 11).toInt + 1 := by
  have a1 := h.2 hv
  have a2 := h.1.2.2.2
  have a3 := vp_in_iff.mp h.1.1
  have a4 := vp_in_iff.mp h.1.2.1
  have e : (S2 0 11 + 1).toInt = (S 0 11).toInt + 1 := by
    rw [h2.2.1, fb_addI (by rw [show (1 : Int32).toInt = 1 from by decide]; omega) (by rw [show (1 : Int32).toInt = 1 from by decide]; omega)]
    rfl
  refine ⟨?_, e⟩
  unfold TI
  rw [st_at, st_at, st_at, if_neg (by decide), if_pos ⟨rfl, rfl⟩, if_neg (by decide)]
  exact ⟨h2.1.1, vp_in_iff.mpr (by rw [e]; omega), h2.1.2.2⟩
theorem TI_at0 {S : vS} (h : TI S) : TI (st S 0 7 (S 0 7 + 0)) := by
  have e : st S 0 7 (S 0 7 + 0) = S := by
    funext q j
    rw [st_at]
    split
    · next c => rw [c.1, c.2, Int32.add_zero]
    · rfl
  rw [e]
  exact h
theorem TJ_b1 {S S2 S3 S4 : vS} {v r : Int32} (h : TJ S v) (hv : ¬ v = 0) (h2 : AD S S2 4) (e3 : S3 = st S2 0 11 (S2 0 11 + 1)) (hTI : TI S3) (c : ¬ S3 0 5 ≤ S3 0 7) (e4 : S4 = st S3 0 7 (S3 0 7 + 1)) : TJ S4 r := by
  have a1 := h.2 hv
  have a0 := TI_inc11 h hv h2
  have e := at_inc hTI c
  refine ⟨by rw [e4]; exact TI_at hTI c, fun _ => ?_⟩
  rw [e4, st_at, st_at, if_neg (by decide), if_pos ⟨rfl, rfl⟩, e, e3, st_at, st_at, if_pos ⟨rfl, rfl⟩, if_neg (by decide), a0.2]
  have := h2.2.2.2
  omega
theorem ms_text {S S2 S3 S4 : vS} {n : Nat} {d : Int32} (hms : (S 0 5).toInt < (S 0 7).toInt + ((n + 1 : Nat) : Int)) (h2 : AD S S2 4) (e3 : S3 = st S2 0 11 (S2 0 11 + 1)) (hTI : TI S3) (e4 : S4 = st S3 0 7 (S3 0 7 + d)) (hd : (d = 1 ∧ ¬ S3 0 5 ≤ S3 0 7) ∨ d = 0) : (S4 0 5).toInt < (S4 0 7).toInt + (n : Int) := by
  have b5 : S3 0 5 = S 0 5 := by rw [e3, st_at, if_neg (by decide), h2.2.2.1]
  have b7 : S3 0 7 = S2 0 7 := by rw [e3, st_at, if_neg (by decide)]
  have a := h2.2.2.2
  rw [e4, st_at, st_at, if_neg (by decide), if_pos ⟨rfl, rfl⟩, b5]
  rcases hd with ⟨rfl, c⟩ | rfl
  · rw [at_inc hTI c, b7]
    omega
  · rw [Int32.add_zero, b7]
    omega
theorem TJ_first {S S1 S2 S3 : vS} {v : Int32} (h : vp_in (S 0 5) 61) (e1 : S1 = st S 0 7 0) (e2 : S2 = st S1 0 11 0) (e3 : S3 = st S2 0 8 0) : TJ S3 v := by
  have a5 : S3 0 5 = S 0 5 := by rw [e3, e2, e1]; simp [st_at]
  have a7 : S3 0 7 = 0 := by rw [e3, e2, e1]; simp [st_at]
  have a11 : S3 0 11 = 0 := by rw [e3, e2]; simp [st_at]
  have h1 := vp_in_iff.mp h
  have z : (0 : Int32).toInt = 0 := by decide
  unfold TJ TI
  rw [a5, a7, a11]
  exact ⟨⟨h, vp_in_iff.mpr (by decide), by decide, by omega⟩, fun _ => by decide⟩
/-- what reading a text leaves alone -/
def TP (S S' : vS) : Prop := ∀ q0 j0, q0 ≠ 5 → (q0 = 0 → j0 ≠ 7 ∧ j0 ≠ 8 ∧ j0 ≠ 9 ∧ j0 ≠ 11) → S' q0 j0 = S q0 j0
theorem TP.rf {S : vS} : TP S S := fun _ _ _ _ => rfl
theorem TP.tr {S S1 S2 : vS} (h : TP S S1) (h2 : TP S1 S2) : TP S S2 := fun q0 j0 a b => (h2 q0 j0 a b).trans (h q0 j0 a b)
theorem TP.five {S S1 : vS} {j : Nat} {x : Int32} (h : TP S S1) : TP S (st S1 5 j x) := h.tr fun q0 j0 a b => by rw [st_at, if_neg (fun z => a z.1)]
theorem TP.z {S S1 : vS} {j : Nat} {x : Int32} (h : TP S S1) (hj : j = 7 ∨ j = 8 ∨ j = 9 ∨ j = 11) : TP S (st S1 0 j x) := h.tr fun q0 j0 a b => by rw [st_at, if_neg (by rintro ⟨h1, h2⟩; have := b h1; omega)]
theorem TP.chain {S0 : vS} {p : Int32 × vS} {zf rest : Int32 → vS → Int32 × vS} (hp : TP S0 p.2) (hz : ∀ r S1, TP S0 S1 → TP S0 (zf r S1).2) (hr : ∀ r S1, TP S0 S1 → TP S0 (rest r S1).2) : TP S0 (nmp p (fun r S1 => if r = 0 then zf r S1 else rest r S1)).2 := by
  unfold nmp
  dsimp only
  by_cases c : p.1 = 0
  · rw [if_pos c]; exact hz _ _ hp
  · rw [if_neg c]; exact hr _ _ hp
theorem lt16 {a : Nat} {x : Int32} (h : vp_in x 16) (c : ¬ x ≤ nI a) (ha : a ≤ 16) : a < 16 := by
  rw [vp_in_iff] at h
  rw [Int32.le_iff_toInt_le, nI_toInt (by omega)] at c
  omega
theorem lt60 {a : Nat} {x : Int32} (h : vp_in x 61) (c : ¬ x ≤ nI a) (ha : a ≤ 60) : a < 60 := by
  rw [vp_in_iff] at h
  rw [Int32.le_iff_toInt_le, nI_toInt (by omega)] at c
  omega
/-- what carrying an order out leaves alone -/
def EX (S S' : vS) : Prop := (∀ q0 j0, (q0 = 1 → 3 ≤ j0 ∧ j0 ≤ 7) → q0 ≠ 6 → (q0 = 0 → j0 ≠ 13) → S' q0 j0 = S q0 j0) ∧ (chairOK (S 1 2) → chairOK (S' 1 2))
theorem EX.rf {S : vS} : EX S S := ⟨fun _ _ _ _ _ => rfl, fun h => h⟩
theorem EX.tr {S S1 S2 : vS} (h : EX S S1) (h2 : EX S1 S2) : EX S S2 := ⟨fun q0 j0 a b c => (h2.1 q0 j0 a b c).trans (h.1 q0 j0 a b c), fun z => h2.2 (h.2 z)⟩
theorem EX.w {S S1 : vS} {j : Nat} {x : Int32} (h : EX S S1) (hj : j < 2 ∨ 7 < j) : EX S (st S1 1 j x) :=
  h.tr ⟨fun q0 j0 a b c => by rw [st_at, if_neg (by rintro ⟨h1, h2⟩; have := a h1; omega)], fun z => by rw [st_at, if_neg (by rintro ⟨h1, h2⟩; omega)]; exact z⟩
end MLEM
