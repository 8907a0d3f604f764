theorem ek9_0 : allF (fun k => allF (fun i => entK 9 k i) 0 9) 0 30 = true := by decide +kernel
theorem ek9_1 : allF (fun k => allF (fun i => entK 9 k i) 0 9) 30 30 = true := by decide +kernel
theorem ek9_2 : allF (fun k => allF (fun i => entK 9 k i) 0 9) 60 30 = true := by decide +kernel
theorem ek9_3 : allF (fun k => allF (fun i => entK 9 k i) 0 9) 90 30 = true := by decide +kernel
