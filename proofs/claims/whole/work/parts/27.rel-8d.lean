/-! how many operations are pending -/
theorem kr_pend (mi : kt_I) (w : kt_W) : f_Md_pending mi w = nI ((if w.2.2.2.2.1 0 = 1 then 1 else 0) + (if w.2.2.2.2.1 1 = 1 then 1 else 0) + (if w.2.2.2.2.1 2 = 1 then 1 else 0) + (if w.2.2.2.2.1 3 = 1 then 1 else 0)) := by
  unfold f_Md_pending
  by_cases a0 : w.2.2.2.2.1 0 = 1 <;> by_cases a1 : w.2.2.2.2.1 1 = 1 <;> by_cases a2 : w.2.2.2.2.1 2 = 1 <;> by_cases a3 : w.2.2.2.2.1 3 = 1
  all_goals simp only [a0, a1, a2, a3, if_true, if_false]
  all_goals decide
