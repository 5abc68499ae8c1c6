section FPART
theorem dd_ok {a b : Int32} (h : ¬ b ≤ 0) : vf_n64 (FP.ddiv (FP.i2d a) (FP.i2d b)) := sorry
end FPART
