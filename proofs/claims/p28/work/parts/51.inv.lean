section INVS
variable {F H : vF} {G : vG} {m k i n p w : Nat} {x y v : Int32}
theorem Zs_pt {F' : vF} (hi : i < 8) (h : ∀ o, o < 8 → o ≠ i → F' (13 + 14 * o + w) = F (13 + 14 * o + w)) : Zs F' w = Zs F w - (F (13 + 14 * i + w)).toInt + (F' (13 + 14 * i + w)).toInt := by
  have e : Zs F' w = fb_si (fun o => if o = i then (F' (13 + 14 * i + w)).toInt else (fun o => (F (13 + 14 * o + w)).toInt) o) 8 := by
    unfold Zs
    refine fb_si_cong fun o ho => ?_
    by_cases c : o = i
    · subst c; rw [if_pos rfl]
    · rw [if_neg c, h o ho c]
  rw [e, fb_si_upd _ _ hi]
  rfl
theorem Zs_cg {F' : vF} (h : ∀ o, o < 8 → F' (13 + 14 * o + w) = F (13 + 14 * o + w)) : Zs F' w = Zs F w := by
  unfold Zs
  exact fb_si_cong fun o ho => by rw [h o ho]
theorem Zd_cg {F' : vF} (h : ∀ p, p < 8 → F' (125 + 8 * m + p) = F (125 + 8 * m + p)) : Zd F' m = Zd F m := by
  unfold Zd
  exact fb_si_cong fun o ho => by rw [h o ho]
theorem sf_0 {R h : Nat} : sf R h 0 = 0 := by unfold sf; omega
theorem ms_tail (hm : m < 8) {x d a u : Int32} {fx : Int} (ha : a = G.1 (13 + 14 * m + 10)) (hx : x.toInt = fx) (hf0 : 0 ≤ fx) (hfd : fx ≤ d.toInt) (hd : d.toInt ≤ 2100)
    (hb : 0 ≤ a.toInt ∧ a.toInt ≤ 536870912) (hD : ∀ q, q < 8 → 0 ≤ (G.1 (125 + 8 * m + q)).toInt) (hZ : Zd G.1 m ≤ 536870912) (hQ : ∀ q, q < 8 → 0 ≤ (G.2.1 q).toInt) (hZQ : Zq G.2.1 ≤ 536870912) (hu : u = G.2.2) :
    ∃ r G' bx sx, (if w_helpers G.1 = 0 then if bz u = 0 then if d - x ≤ 0 then (x, upu (upq G (13 + 14 * m + 10) (a + (d - x))) 0) else (x, upu (upq G (13 + 14 * m + 10) (a + (d - x))) 1) else (x, upu (upq G (13 + 14 * m + 10) (a + (d - x))) 1) else w_misses_L122 9 G (nI m) 0 0 (w_helpers G.1) (d - x) d) = (r, G') ∧
      0 ≤ bx ∧ 0 ≤ sx ∧ fx + bx + sx = d.toInt ∧ r.toInt = d.toInt - bx ∧ (G'.1 (13 + 14 * m + 10)).toInt = a.toInt + bx ∧ Zd G'.1 m = Zd G.1 m + sx ∧ (∀ q, q < 8 → 0 ≤ (G'.1 (125 + 8 * m + q)).toInt) ∧ Zq G'.2.1 = Zq G.2.1 + sx ∧ (∀ q, q < 8 → 0 ≤ (G'.2.1 q).toInt) ∧ (∀ j, j ≠ 13 + 14 * m + 10 → Fs m j → G'.1 j = G.1 j) ∧ (bz G'.2.2 = 0 ↔ bz u = 0 ∧ bx = 0) ∧ (fb_ct (hpB G.1) 8 = 0 → sx = 0) ∧ (¬ fb_ct (hpB G.1) 8 = 0 → bx = 0) := by
  have hrest : (d - x).toInt = d.toInt - fx := by rw [fb_subI (by omega) (by omega), hx]
  rw [helpers_ct]
  have hc8 := fb_ct_le (hpB G.1) 8
  have hup : (a + (d - x)).toInt = a.toInt + (d.toInt - fx) := by rw [fb_addI (by omega) (by omega), hrest]
  by_cases c0 : fb_ct (hpB G.1) 8 = 0
  · rw [c0]
    rw [if_pos (show nI 0 = 0 by decide)]
    have main : ∀ u2 : Int32, (bz u2 = 0 ↔ bz u = 0 ∧ d.toInt - fx = 0) → ∃ r G' bx sx, (x, upu (upq G (13 + 14 * m + 10) (a + (d - x))) u2) = (r, G') ∧
      0 ≤ bx ∧ 0 ≤ sx ∧ fx + bx + sx = d.toInt ∧ r.toInt = d.toInt - bx ∧ (G'.1 (13 + 14 * m + 10)).toInt = a.toInt + bx ∧ Zd G'.1 m = Zd G.1 m + sx ∧ (∀ q, q < 8 → 0 ≤ (G'.1 (125 + 8 * m + q)).toInt) ∧ Zq G'.2.1 = Zq G.2.1 + sx ∧ (∀ q, q < 8 → 0 ≤ (G'.2.1 q).toInt) ∧ (∀ j, j ≠ 13 + 14 * m + 10 → Fs m j → G'.1 j = G.1 j) ∧ (bz G'.2.2 = 0 ↔ bz u = 0 ∧ bx = 0) ∧ (0 = 0 → sx = 0) ∧ (¬ 0 = 0 → bx = 0) := by
      intro u2 hu2
      refine ⟨_, _, d.toInt - fx, 0, rfl, by omega, by omega, by omega, by omega, ?_, ?_, ?_, ?_, ?_, ?_, ?_, fun _ => rfl, fun q => absurd rfl q⟩
      · rw [upu_1, upq_1, upd_same]; exact hup
      · rw [upu_1, upq_1, Zd_h (by omega)]; omega
      · intro q hq
        rw [upu_1, upq_1, upd_ne (by omega)]
        exact hD q hq
      · show Zq G.2.1 = Zq G.2.1 + 0
        omega
      · exact hQ
      · intro j hj _
        rw [upu_1, upq_1, upd_ne hj]
      · exact hu2
    by_cases c1 : bz u = 0
    · rw [if_pos c1]
      by_cases c2 : d - x ≤ 0
      · rw [if_pos c2]
        rw [Int32.le_iff_toInt_le, hrest, z32] at c2
        exact main 0 ⟨fun _ => ⟨c1, by omega⟩, fun _ => by decide⟩
      · rw [if_neg c2]
        rw [Int32.le_iff_toInt_le, hrest, z32] at c2
        exact main 1 ⟨fun q => absurd q (by decide), fun q => by omega⟩
    · rw [if_neg c1]
      exact main 1 ⟨fun q => absurd q (by decide), fun q => absurd q.1 c1⟩
  · rw [if_neg (nI_ne0 (by omega) (by omega))]
    have hn0 : ¬ d - x < 0 := by
      rw [Int32.lt_iff_toInt_lt, hrest, z32]
      omega
    obtain ⟨R, hR, eR⟩ := nI_of hn0
    have hRt : (R : Int) = d.toInt - fx := by rw [← hrest, eR, nI_toInt hR]
    have := sh_sum hm (R := R) (hn := fb_ct (hpB G.1) 8) (d := d) (pb := hpB G.1) (by omega) rfl hc8 (by omega) 8 0 G rfl (fun _ _ => rfl) hD (by
      show Zd G.1 m + ((R : Int) - (sf R (fb_ct (hpB G.1) 8) 0 : Nat)) ≤ 1073741824
      rw [sf_0]; omega) hQ (by
      show Zq G.2.1 + ((R : Int) - (sf R (fb_ct (hpB G.1) 8) 0 : Nat)) ≤ 1073741824
      rw [sf_0]; omega)
    obtain ⟨G', r0, r1, r2, r3, r4, r5, r6⟩ := this
    have e0 : fb_ct (hpB G.1) 0 = 0 := rfl
    rw [e0, sf_0] at r1 r3
    rw [e0] at r0
    rw [eR]
    refine ⟨d, G', 0, R, r0, by omega, by omega, by omega, by omega, ?_, by omega, r2, by omega, r4, fun j _ hj => r5 j hj, ?_, fun q => absurd q c0, fun _ => rfl⟩
    · rw [r5 _ (Fs_w hm (by decide)), ha]; omega
    · rw [r6, hu]
      exact ⟨fun q => ⟨q, rfl⟩, fun q => q.1⟩
/-- places that a missed due does not change -/
def Fm (m j : Nat) : Prop := j ≠ 8 ∧ j ≠ 12 ∧ j ≠ 13 + 14 * m + 8 ∧ j ≠ 13 + 14 * m + 9 ∧ j ≠ 13 + 14 * m + 10 ∧ j ≠ 13 + 14 * m + 11 ∧ Fs m j
theorem ms_spec (hm : m < 8) {d : Int32} (hdd : w_due G.1 (nI m) = d) (hd : 0 ≤ d.toInt ∧ d.toInt ≤ 2100) (hf : 0 ≤ (G.1 8).toInt ∧ (G.1 8).toInt ≤ 536870912)
    (hb : 0 ≤ (G.1 (13 + 14 * m + 10)).toInt ∧ (G.1 (13 + 14 * m + 10)).toInt ≤ 536870912) (hfd : 0 ≤ (G.1 (13 + 14 * m + 11)).toInt ∧ (G.1 (13 + 14 * m + 11)).toInt ≤ 536870912) (hD : ∀ q, q < 8 → 0 ≤ (G.1 (125 + 8 * m + q)).toInt) (hZ : Zd G.1 m ≤ 536870912) (hQ : ∀ q, q < 8 → 0 ≤ (G.2.1 q).toInt) (hZQ : Zq G.2.1 ≤ 536870912) :
    ∃ r G' fx bx sx, w_misses G (nI m) = (r, G') ∧ fx = (if d.toInt ≤ (G.1 8).toInt then d.toInt else (G.1 8).toInt) ∧
      0 ≤ bx ∧ 0 ≤ sx ∧ fx + bx + sx = d.toInt ∧ r.toInt = d.toInt - bx ∧ (G'.1 8).toInt = (G.1 8).toInt - fx ∧ (G'.1 (13 + 14 * m + 11)).toInt = (G.1 (13 + 14 * m + 11)).toInt + fx ∧ (G'.1 (13 + 14 * m + 10)).toInt = (G.1 (13 + 14 * m + 10)).toInt + bx ∧ Zd G'.1 m = Zd G.1 m + sx ∧ (∀ q, q < 8 → 0 ≤ (G'.1 (125 + 8 * m + q)).toInt) ∧ Zq G'.2.1 = Zq G.2.1 + sx ∧ (∀ q, q < 8 → 0 ≤ (G'.2.1 q).toInt) ∧ (∀ j, Fm m j → G'.1 j = G.1 j) ∧ (bz G'.2.2 = 0 ↔ bz G.2.2 = 0 ∧ bx = 0) ∧ (fb_ct (hpB G.1) 8 = 0 → sx = 0) ∧ (¬ fb_ct (hpB G.1) 8 = 0 → bx = 0) := by
  unfold w_misses
  rw [hdd]
  simp only [nm_eq, nad_8 hm, nad_9 hm, nad_11 hm, nad_10 hm, upq_1, upq_2]
  simp (disch := omega) only [upd_ne, upd_same]
  have key : ∀ (x : Int32) (fx : Int), x.toInt = fx → 0 ≤ fx → fx ≤ d.toInt → fx ≤ (G.1 8).toInt → fx = (if d.toInt ≤ (G.1 8).toInt then d.toInt else (G.1 8).toInt) →
    ∃ r G' fx bx sx, (if w_helpers (upq (upq (upq (upq (upq G (13 + 14 * m + 8) (G.1 (13 + 14 * m + 8) + 1)) (13 + 14 * m + 9) (G.1 (13 + 14 * m + 9) + 1)) 12 (G.1 12 + 1)) 8 (G.1 8 - x)) (13 + 14 * m + 11) (G.1 (13 + 14 * m + 11) + x)).1 = 0 then if bz G.2.2 = 0 then if d - x ≤ 0 then (x, upu (upq (upq (upq (upq (upq (upq G (13 + 14 * m + 8) (G.1 (13 + 14 * m + 8) + 1)) (13 + 14 * m + 9) (G.1 (13 + 14 * m + 9) + 1)) 12 (G.1 12 + 1)) 8 (G.1 8 - x)) (13 + 14 * m + 11) (G.1 (13 + 14 * m + 11) + x)) (13 + 14 * m + 10) (G.1 (13 + 14 * m + 10) + (d - x))) 0) else (x, upu (upq (upq (upq (upq (upq (upq G (13 + 14 * m + 8) (G.1 (13 + 14 * m + 8) + 1)) (13 + 14 * m + 9) (G.1 (13 + 14 * m + 9) + 1)) 12 (G.1 12 + 1)) 8 (G.1 8 - x)) (13 + 14 * m + 11) (G.1 (13 + 14 * m + 11) + x)) (13 + 14 * m + 10) (G.1 (13 + 14 * m + 10) + (d - x))) 1) else (x, upu (upq (upq (upq (upq (upq (upq G (13 + 14 * m + 8) (G.1 (13 + 14 * m + 8) + 1)) (13 + 14 * m + 9) (G.1 (13 + 14 * m + 9) + 1)) 12 (G.1 12 + 1)) 8 (G.1 8 - x)) (13 + 14 * m + 11) (G.1 (13 + 14 * m + 11) + x)) (13 + 14 * m + 10) (G.1 (13 + 14 * m + 10) + (d - x))) 1) else w_misses_L122 9 (upq (upq (upq (upq (upq G (13 + 14 * m + 8) (G.1 (13 + 14 * m + 8) + 1)) (13 + 14 * m + 9) (G.1 (13 + 14 * m + 9) + 1)) 12 (G.1 12 + 1)) 8 (G.1 8 - x)) (13 + 14 * m + 11) (G.1 (13 + 14 * m + 11) + x)) (nI m) 0 0 (w_helpers (upq (upq (upq (upq (upq G (13 + 14 * m + 8) (G.1 (13 + 14 * m + 8) + 1)) (13 + 14 * m + 9) (G.1 (13 + 14 * m + 9) + 1)) 12 (G.1 12 + 1)) 8 (G.1 8 - x)) (13 + 14 * m + 11) (G.1 (13 + 14 * m + 11) + x)).1) (d - x) d) = (r, G') ∧ fx = (if d.toInt ≤ (G.1 8).toInt then d.toInt else (G.1 8).toInt) ∧
      0 ≤ bx ∧ 0 ≤ sx ∧ fx + bx + sx = d.toInt ∧ r.toInt = d.toInt - bx ∧ (G'.1 8).toInt = (G.1 8).toInt - fx ∧ (G'.1 (13 + 14 * m + 11)).toInt = (G.1 (13 + 14 * m + 11)).toInt + fx ∧ (G'.1 (13 + 14 * m + 10)).toInt = (G.1 (13 + 14 * m + 10)).toInt + bx ∧ Zd G'.1 m = Zd G.1 m + sx ∧ (∀ q, q < 8 → 0 ≤ (G'.1 (125 + 8 * m + q)).toInt) ∧ Zq G'.2.1 = Zq G.2.1 + sx ∧ (∀ q, q < 8 → 0 ≤ (G'.2.1 q).toInt) ∧ (∀ j, Fm m j → G'.1 j = G.1 j) ∧ (bz G'.2.2 = 0 ↔ bz G.2.2 = 0 ∧ bx = 0) ∧ (fb_ct (hpB G.1) 8 = 0 → sx = 0) ∧ (¬ fb_ct (hpB G.1) 8 = 0 → bx = 0) := by
    intro x fx hx h0 h1 h2 h3
    have q8 : (upq (upq (upq (upq (upq G (13 + 14 * m + 8) (G.1 (13 + 14 * m + 8) + 1)) (13 + 14 * m + 9) (G.1 (13 + 14 * m + 9) + 1)) 12 (G.1 12 + 1)) 8 (G.1 8 - x)) (13 + 14 * m + 11) (G.1 (13 + 14 * m + 11) + x)).1 8 = G.1 8 - x := by simp (disch := omega) only [upq_1, upd_ne, upd_same]
    have q11 : (upq (upq (upq (upq (upq G (13 + 14 * m + 8) (G.1 (13 + 14 * m + 8) + 1)) (13 + 14 * m + 9) (G.1 (13 + 14 * m + 9) + 1)) 12 (G.1 12 + 1)) 8 (G.1 8 - x)) (13 + 14 * m + 11) (G.1 (13 + 14 * m + 11) + x)).1 (13 + 14 * m + 11) = G.1 (13 + 14 * m + 11) + x := by simp (disch := omega) only [upq_1, upd_same]
    have qs : ∀ j, j ≠ 8 → j ≠ 12 → j ≠ 13 + 14 * m + 8 → j ≠ 13 + 14 * m + 9 → j ≠ 13 + 14 * m + 11 → (upq (upq (upq (upq (upq G (13 + 14 * m + 8) (G.1 (13 + 14 * m + 8) + 1)) (13 + 14 * m + 9) (G.1 (13 + 14 * m + 9) + 1)) 12 (G.1 12 + 1)) 8 (G.1 8 - x)) (13 + 14 * m + 11) (G.1 (13 + 14 * m + 11) + x)).1 j = G.1 j := by
      intro j a b c d e
      simp only [upq_1]
      rw [upd_ne e, upd_ne a, upd_ne b, upd_ne d, upd_ne c]
    have q2 : (upq (upq (upq (upq (upq G (13 + 14 * m + 8) (G.1 (13 + 14 * m + 8) + 1)) (13 + 14 * m + 9) (G.1 (13 + 14 * m + 9) + 1)) 12 (G.1 12 + 1)) 8 (G.1 8 - x)) (13 + 14 * m + 11) (G.1 (13 + 14 * m + 11) + x)).2 = G.2 := rfl
    generalize upq (upq (upq (upq (upq G (13 + 14 * m + 8) (G.1 (13 + 14 * m + 8) + 1)) (13 + 14 * m + 9) (G.1 (13 + 14 * m + 9) + 1)) 12 (G.1 12 + 1)) 8 (G.1 8 - x)) (13 + 14 * m + 11) (G.1 (13 + 14 * m + 11) + x) = G5 at q8 q11 qs q2 ⊢
    have hct : fb_ct (hpB G5.1) 8 = fb_ct (hpB G.1) 8 := fb_ct_cong fun o ho => by
      unfold hpB
      rw [qs _ (by omega) (by omega) (by omega) (by omega) (by omega), qs _ (by omega) (by omega) (by omega) (by omega) (by omega)]
    have e10 : G5.1 (13 + 14 * m + 10) = G.1 (13 + 14 * m + 10) := qs _ (by omega) (by omega) (by omega) (by omega) (by omega)
    have hDq : ∀ q, G5.1 (125 + 8 * m + q) = G.1 (125 + 8 * m + q) := fun q => qs _ (by omega) (by omega) (by omega) (by omega) (by omega)
    have hZ5 : Zd G5.1 m = Zd G.1 m := Zd_cg fun p _ => hDq p
    obtain ⟨r, G', bx, sx, t0, t1, t2, t3, t4, t5, t6, t7, t8, t9, t10, t11, t12, t13⟩ := ms_tail (G := G5) hm (x := x) (d := d) (a := G.1 (13 + 14 * m + 10)) (u := G.2.2) (fx := fx) e10.symm hx h0 h1 hd.2 hb (fun q hq => by rw [hDq]; exact hD q hq) (by rw [hZ5]; exact hZ) (fun q hq => by rw [q2]; exact hQ q hq) (by rw [q2]; exact hZQ) (by rw [q2])
    refine ⟨r, G', fx, bx, sx, t0, h3, t1, t2, t3, t4, ?_, ?_, t5, ?_, t7, ?_, t9, ?_, t11, ?_, ?_⟩
    · rw [t10 8 (by omega) (Fs_g (by decide)), q8, fb_subI (by omega) (by omega), hx]
    · rw [t10 _ (by omega) (Fs_w hm (by decide)), q11, fb_addI (by omega) (by omega), hx]
    · rw [t6, hZ5]
    · rw [t8, q2]
    · intro j hj
      obtain ⟨a, b, c, d, e, f, g⟩ := hj
      rw [t10 j e g, qs j a b c d f]
    · intro q; exact t12 (by rw [hct]; exact q)
    · intro q; exact t13 (by rw [hct]; exact q)
  by_cases c : d ≤ G.1 8
  · simp only [if_pos c]
    rw [Int32.le_iff_toInt_le] at c
    have := key d d.toInt rfl hd.1 (Int.le_refl _) c (by rw [if_pos c])
    simp only [upq_1] at this
    exact this
  · simp only [if_neg c]
    rw [Int32.le_iff_toInt_le] at c
    have := key (G.1 8) (G.1 8).toInt rfl hf.1 (by omega) (Int.le_refl _) (by rw [if_neg c])
    simp only [upq_1] at this
    exact this
end INVS
