section OPJOIN
variable {S T : vS} {F H : vF} {G : vG} {p1 p2 p3 x y z : Int32} {n i q : Nat}
def x_joinT (S : vS) : Int32 × vS := nm (S 1 3) (fun x => nm (x_X5_members S) (fun r => if r = 0 then nm (st S 1 2 x) (fun a => nm (x_X5_adds a 1 x 0 1) (fun b => nm (x_X5_adds b 1 x 1 200) (fun c => nm (st c 1 3 (c 1 3 + 1)) (fun d => (x, d))))) else nm (st S 1 2 (S 1 2)) (fun a => nm (x_X5_adds a 1 x 0 1) (fun b => nm (x_X5_adds b 1 x 1 200) (fun c => nm (st c 1 3 (c 1 3 + 1)) (fun d => (x, d)))))))
theorem join_def : x_X5_join T = if T 1 3 = 8 then nmp (x_X5_fails (st T 0 6 0) 1) (fun r s => (r, s)) else x_joinT (x_X5_saves (st T 0 6 0)) := by
  unfold x_X5_join x_joinT
  rw [nm_eq, st_row (q := 0) (c := 1) (by decide)]
  by_cases c : T 1 3 = 8
  · rw [if_pos c, if_pos c]
  · rw [if_neg c, if_neg c, nm_eq (x_X5_saves _)]
theorem f_joinT (T : vS) (G : vG) : x_joinT (emm T 1 G) = mpm T 1 (w_joinT G) := by
  unfold x_joinT w_joinT
  simp only [nm_eq, nmp_eq, apply_ite (emm T 1), apply_ite (mpm T 1), mpm_mk, mpm_1, mpm_2, em_q, es_q, f_members, f_adds T (.inl rfl)]
theorem op_join (h : RR S T) : CE (fun c => if c = 0 then 0 else 1) (x_X4_join S) (x_X5_join T) := by
  rw [join_def]
  unfold x_X4_join
  sorry
end OPJOIN
