theorem ek9_4 : allF (fun k => allF (fun i => entK 9 k i) 0 9) 120 30 = true := by decide +kernel
theorem ek9_5 : allF (fun k => allF (fun i => entK 9 k i) 0 9) 150 30 = true := by decide +kernel
theorem ek9_6 : allF (fun k => allF (fun i => entK 9 k i) 0 9) 180 30 = true := by decide +kernel
theorem ek9_7 : allF (fun k => allF (fun i => entK 9 k i) 0 9) 210 30 = true := by decide +kernel
