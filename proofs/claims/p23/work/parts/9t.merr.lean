section ERV
variable {V : Nat → Int64} {S : Nat → Int32} {rl : Nat → Int32} {t : Nat}
theorem erF_v17 (h : rl t = 17) : erF V rl t = ngE (tdR V rl 2 (V t) t) := by unfold erF; rw [h, if_neg (by decide), if_neg (by decide), if_neg (by decide), if_neg (by decide), if_neg (by decide), if_pos (by decide)]
theorem erF_v18 (h : rl t = 18) : erF V rl t = ngE (tdR V rl 1 (V t) t) := by unfold erF; rw [h, if_neg (by decide), if_neg (by decide), if_neg (by decide), if_neg (by decide), if_neg (by decide), if_neg (by decide), if_pos (by decide)]
end ERV
