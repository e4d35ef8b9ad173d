-- the same two answers with the numbers of a fresh object on the left, as the walks find them
def pf_supB (v a b : Int32) : Int32 := if pf_in v 0 1 = 0 then -10001 else if pf_in a (-500) 500 = 0 then -10002 else if pf_in b (-20) 20 = 0 then -10002 else if 0 = a ∧ 0 = b then 0 else 1
def pf_slpN (lo hi k : Int32) : Int64 := if pf_itv lo hi = 0 then -9223372036854775808 else if k < 0 then -9223372036854775808 else if 0 = k then 0 else -9223372036854775808
theorem pf_slp_eqN (lo hi k : Int32) : pf_slpN lo hi k = pf_slp lo hi k := by
  rw [← pf_slp_eq]
  unfold pf_slpM pf_slpN
  by_cases h2 : k = 0
  · subst h2; rfl
  · rw [if_neg h2, if_neg (fun q : 0 = k => h2 q.symm)]
