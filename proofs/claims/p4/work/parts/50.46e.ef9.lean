theorem ek9_8 : allF (fun k => allF (fun i => entK 9 k i) 0 9) 240 30 = true := by decide +kernel
theorem ek9_9 : allF (fun k => allF (fun i => entK 9 k i) 0 9) 270 30 = true := by decide +kernel
theorem ek9_10 : allF (fun k => allF (fun i => entK 9 k i) 0 9) 300 30 = true := by decide +kernel
theorem ek9_11 : allF (fun k => allF (fun i => entK 9 k i) 0 9) 330 30 = true := by decide +kernel
