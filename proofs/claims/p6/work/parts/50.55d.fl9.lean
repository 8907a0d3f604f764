theorem fl_9d : allF (fun k => allF (fun i => allF (fun j => flK 9 k i j) 0 9) 0 9) 143 143 = true := by decide +kernel
