theorem ek9_12 : allF (fun k => allF (fun i => entK 9 k i) 0 9) 360 30 = true := by decide +kernel
theorem ek9_13 : allF (fun k => allF (fun i => entK 9 k i) 0 9) 390 30 = true := by decide +kernel
theorem ek9_14 : allF (fun k => allF (fun i => entK 9 k i) 0 9) 420 9 = true := by decide +kernel
