theorem drop_I {th ca ho : Int32} (h1 : BI 0 200 th) (h2 : BI 0 90 ca) (h3 : BI 0 90 ho) : 0 ≤ (dropS th ca ho).toInt ∧ (dropS th ca ho).toInt ≤ ca.toInt ∧ th.toInt + (dropS th ca ho).toInt ≤ 200 := by
  unfold BI at h1 h2 h3
  unfold dropS
  rw [mx_I, mn_I, mn_I, i32s (by omega) (by omega), show (4 : Int32).toInt = 4 from by decide, show (0 : Int32).toInt = 0 from by decide]
  repeat' split
  all_goals omega
theorem pick_I {th ca stg : Int32} (h1 : BI 0 200 th) (h2 : BI 0 90 ca) (h3 : BI 1 9 stg) : 0 ≤ (pickS stg th ca).toInt ∧ (pickS stg th ca).toInt ≤ th.toInt ∧ ca.toInt + (pickS stg th ca).toInt ≤ 90 := by
  unfold BI at h1 h2 h3
  have e10 : (10 : Int32).toInt = 10 := by decide
  have e : (10 * stg).toInt = 10 * stg.toInt := by
    rw [i32m (by rw [e10]; omega) (by rw [e10]; omega), e10]
  unfold pickS
  rw [mx_I, mn_I, mn_I, i32s (by omega) (by omega), e, show (0 : Int32).toInt = 0 from by decide]
  repeat' split
  all_goals omega
