theorem fl_4 : allF (fun k => allF (fun i => allF (fun j => flK 4 k i j) 0 9) 0 9) 0 2 = true := by decide +kernel
theorem fl_5 : allF (fun k => allF (fun i => allF (fun j => flK 5 k i j) 0 9) 0 9) 0 5 = true := by decide +kernel
theorem fl_6 : allF (fun k => allF (fun i => allF (fun j => flK 6 k i j) 0 9) 0 9) 0 14 = true := by decide +kernel
theorem fl_7 : allF (fun k => allF (fun i => allF (fun j => flK 7 k i j) 0 9) 0 9) 0 42 = true := by decide +kernel
theorem fl_8 : allF (fun k => allF (fun i => allF (fun j => flK 8 k i j) 0 9) 0 9) 0 132 = true := by decide +kernel
