section OPJOIN
variable {S T : vS} {F H : vF} {G : vG} {p1 p2 p3 x y z : Int32} {n i q : Nat}
def x_joinT (S : vS) : Int32 × vS := nm (S 1 3) (fun x => nm (x_X5_members S) (fun r => if r = 0 then nm (st S 1 2 x) (fun a => nm (x_X5_adds a 1 x 0 1) (fun b => nm (x_X5_adds b 1 x 1 200) (fun c => nm (st c 1 3 (c 1 3 + 1)) (fun d => (x, d))))) else nm (st S 1 2 (S 1 2)) (fun a => nm (x_X5_adds a 1 x 0 1) (fun b => nm (x_X5_adds b 1 x 1 200) (fun c => nm (st c 1 3 (c 1 3 + 1)) (fun d => (x, d)))))))
theorem join_def : x_X5_join T = if T 1 3 = 8 then nmp (x_X5_fails (st T 0 6 0) 1) (fun r s => (r, s)) else x_joinT (x_X5_saves (st T 0 6 0)) := by
  unfold x_X5_join x_joinT
  rw [nm_eq, st_row (q := 0) (c := 1) (by decide)]
  by_cases c : T 1 3 = 8
  · rw [if_pos c, if_pos c]
  · rw [if_neg c, if_neg c, nm_eq (x_X5_saves _)]
theorem f_joinT (T : vS) (G : vG) : x_joinT (emm T 1 G) = mpm T 1 (w_joinT G) := by
  unfold x_joinT w_joinT
  simp only [nm_eq, nmp_eq, apply_ite (emm T 1), apply_ite (mpm T 1), mpm_mk, mpm_1, mpm_2, em_q, es_q, f_members, f_adds T (.inl rfl)]
theorem op_join (h : RR S T) : CE (fun c => if c = 0 then 0 else 1) (x_X4_join S) (x_X5_join T) := by
  rw [join_def]
  unfold x_X4_join
  obtain ⟨g, hg9, hg⟩ : ∃ g, g < 9 ∧ T 1 3 = nI g := vp_in_of h.2.2.1.2.2.2.2.2.1 (by decide)
  have e1 : S (gG 0) 2 = T 1 3 := by
    conv => lhs; rw [← emb_cv S 0, ebG_2]
    exact h.2.1.g (by decide)
  rw [e1, hg]
  by_cases c : g = 8
  · subst c
    rw [if_neg (by decide), if_pos (show nI 8 = 8 from rfl), nmp_eq]
    exact CE.fail h (by decide) rfl
  · have hg8 : g < 8 := by omega
    have l1 : nI g < (8 : Int32) := nI_lt (b := 8) hg8 (by decide)
    have l2 : ¬ nI g = (8 : Int32) := fun z => by rw [z] at l1; exact absurd l1 (by decide)
    rw [if_pos l1, if_neg l2]
    obtain ⟨S2, T2, q1, q2, k1, k2, k6, hS, hT⟩ := after_keep (y := 0) h
    rw [q1, q2, nm_eq, nmp_eq]
    have hg2 : T2 1 3 = nI g := by rw [k2]; exact hg
    obtain ⟨H', v1, v2⟩ := join_v k1.2.2.1 k1.2.1 hg2 hg8
    have s1 : x_X0_admit S2 0 = (nI g, emb S2 0 H') := by
      have := e_X0_admit S2 0 (cv S2 0)
      rw [emb_cv, v1] at this
      exact this
    have s2 : x_joinT T2 = (nI g, emm T2 1 (fJoin (T2 1) g, T2 6, T2 0 13)) := by
      have := f_joinT T2 (T2 1, T2 6, T2 0 13)
      rw [emm_self, join_w (F := T2 1) k1.2.2.1 rfl hg2 hg8] at this
      exact this
    rw [s1, s2]
    exact CE.rows k1 k6 v2 (join_ir k1.2.2.1 hg2 hg8) rfl
end OPJOIN
