theorem tk4_0 : allF (fun k => tkK 4 k) 0 2 = true := by decide +kernel
theorem tk5_0 : allF (fun k => tkK 5 k) 0 5 = true := by decide +kernel
theorem tk6_0 : allF (fun k => tkK 6 k) 0 14 = true := by decide +kernel
theorem tk7_0 : allF (fun k => tkK 7 k) 0 42 = true := by decide +kernel
theorem tk8_0 : allF (fun k => tkK 8 k) 0 132 = true := by decide +kernel
theorem tk9_0 : allF (fun k => tkK 9 k) 0 143 = true := by decide +kernel
theorem tk9_143 : allF (fun k => tkK 9 k) 143 143 = true := by decide +kernel
theorem tk9_286 : allF (fun k => tkK 9 k) 286 143 = true := by decide +kernel
theorem ck4_0 : allF (fun k => chK 4 k) 0 2 = true := by decide +kernel
theorem ck5_0 : allF (fun k => chK 5 k) 0 5 = true := by decide +kernel
theorem ck6_0 : allF (fun k => chK 6 k) 0 14 = true := by decide +kernel
theorem ck7_0 : allF (fun k => chK 7 k) 0 42 = true := by decide +kernel
theorem ck8_0 : allF (fun k => chK 8 k) 0 132 = true := by decide +kernel
theorem ck9_0 : allF (fun k => chK 9 k) 0 143 = true := by decide +kernel
theorem ck9_143 : allF (fun k => chK 9 k) 143 143 = true := by decide +kernel
theorem ck9_286 : allF (fun k => chK 9 k) 286 143 = true := by decide +kernel
theorem tk4 (k : Nat) (hk : (k : Int) < pg8 4) : tkK 4 k = true := by
  have hk : (k : Int) < 2 := hk
  by_cases h0 : k < 2
  · have q := allF_ok _ tk4_0 (k - 0) (by omega)
    rw [show 0 + (k - 0) = k by omega] at q
    exact q
  omega
theorem tk5 (k : Nat) (hk : (k : Int) < pg8 5) : tkK 5 k = true := by
  have hk : (k : Int) < 5 := hk
  by_cases h0 : k < 5
  · have q := allF_ok _ tk5_0 (k - 0) (by omega)
    rw [show 0 + (k - 0) = k by omega] at q
    exact q
  omega
theorem tk6 (k : Nat) (hk : (k : Int) < pg8 6) : tkK 6 k = true := by
  have hk : (k : Int) < 14 := hk
  by_cases h0 : k < 14
  · have q := allF_ok _ tk6_0 (k - 0) (by omega)
    rw [show 0 + (k - 0) = k by omega] at q
    exact q
  omega
theorem tk7 (k : Nat) (hk : (k : Int) < pg8 7) : tkK 7 k = true := by
  have hk : (k : Int) < 42 := hk
  by_cases h0 : k < 42
  · have q := allF_ok _ tk7_0 (k - 0) (by omega)
    rw [show 0 + (k - 0) = k by omega] at q
    exact q
  omega
theorem tk8 (k : Nat) (hk : (k : Int) < pg8 8) : tkK 8 k = true := by
  have hk : (k : Int) < 132 := hk
  by_cases h0 : k < 132
  · have q := allF_ok _ tk8_0 (k - 0) (by omega)
    rw [show 0 + (k - 0) = k by omega] at q
    exact q
  omega
theorem tk9 (k : Nat) (hk : (k : Int) < pg8 9) : tkK 9 k = true := by
  have hk : (k : Int) < 429 := hk
  by_cases h0 : k < 143
  · have q := allF_ok _ tk9_0 (k - 0) (by omega)
    rw [show 0 + (k - 0) = k by omega] at q
    exact q
  by_cases h143 : k < 286
  · have q := allF_ok _ tk9_143 (k - 143) (by omega)
    rw [show 143 + (k - 143) = k by omega] at q
    exact q
  by_cases h286 : k < 429
  · have q := allF_ok _ tk9_286 (k - 286) (by omega)
    rw [show 286 + (k - 286) = k by omega] at q
    exact q
  omega
theorem tk_all : ∀ m : Nat, 4 ≤ m → m ≤ 9 → ∀ k : Nat, (k : Int) < pg8 m → tkK m k = true := pg_cases tk4 tk5 tk6 tk7 tk8 tk9
theorem ck4 (k : Nat) (hk : (k : Int) < pg8 4) : chK 4 k = true := by
  have hk : (k : Int) < 2 := hk
  by_cases h0 : k < 2
  · have q := allF_ok _ ck4_0 (k - 0) (by omega)
    rw [show 0 + (k - 0) = k by omega] at q
    exact q
  omega
theorem ck5 (k : Nat) (hk : (k : Int) < pg8 5) : chK 5 k = true := by
  have hk : (k : Int) < 5 := hk
  by_cases h0 : k < 5
  · have q := allF_ok _ ck5_0 (k - 0) (by omega)
    rw [show 0 + (k - 0) = k by omega] at q
    exact q
  omega
theorem ck6 (k : Nat) (hk : (k : Int) < pg8 6) : chK 6 k = true := by
  have hk : (k : Int) < 14 := hk
  by_cases h0 : k < 14
  · have q := allF_ok _ ck6_0 (k - 0) (by omega)
    rw [show 0 + (k - 0) = k by omega] at q
    exact q
  omega
theorem ck7 (k : Nat) (hk : (k : Int) < pg8 7) : chK 7 k = true := by
  have hk : (k : Int) < 42 := hk
  by_cases h0 : k < 42
  · have q := allF_ok _ ck7_0 (k - 0) (by omega)
    rw [show 0 + (k - 0) = k by omega] at q
    exact q
  omega
theorem ck8 (k : Nat) (hk : (k : Int) < pg8 8) : chK 8 k = true := by
  have hk : (k : Int) < 132 := hk
  by_cases h0 : k < 132
  · have q := allF_ok _ ck8_0 (k - 0) (by omega)
    rw [show 0 + (k - 0) = k by omega] at q
    exact q
  omega
theorem ck9 (k : Nat) (hk : (k : Int) < pg8 9) : chK 9 k = true := by
  have hk : (k : Int) < 429 := hk
  by_cases h0 : k < 143
  · have q := allF_ok _ ck9_0 (k - 0) (by omega)
    rw [show 0 + (k - 0) = k by omega] at q
    exact q
  by_cases h143 : k < 286
  · have q := allF_ok _ ck9_143 (k - 143) (by omega)
    rw [show 143 + (k - 143) = k by omega] at q
    exact q
  by_cases h286 : k < 429
  · have q := allF_ok _ ck9_286 (k - 286) (by omega)
    rw [show 286 + (k - 286) = k by omega] at q
    exact q
  omega
theorem ck_all : ∀ m : Nat, 4 ≤ m → m ≤ 9 → ∀ k : Nat, (k : Int) < pg8 m → chK m k = true := pg_cases ck4 ck5 ck6 ck7 ck8 ck9
