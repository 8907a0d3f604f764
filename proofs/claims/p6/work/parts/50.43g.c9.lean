theorem tk9_0 : allF (fun k => tkK 9 k) 0 72 = true := by decide +kernel
theorem tk9_72 : allF (fun k => tkK 9 k) 72 72 = true := by decide +kernel
theorem tk9_144 : allF (fun k => tkK 9 k) 144 72 = true := by decide +kernel
theorem tk9_216 : allF (fun k => tkK 9 k) 216 72 = true := by decide +kernel
theorem tk9_288 : allF (fun k => tkK 9 k) 288 72 = true := by decide +kernel
theorem tk9_360 : allF (fun k => tkK 9 k) 360 69 = true := by decide +kernel
theorem ck9_0 : allF (fun k => chK 9 k) 0 72 = true := by decide +kernel
theorem ck9_72 : allF (fun k => chK 9 k) 72 72 = true := by decide +kernel
theorem ck9_144 : allF (fun k => chK 9 k) 144 72 = true := by decide +kernel
theorem ck9_216 : allF (fun k => chK 9 k) 216 72 = true := by decide +kernel
theorem ck9_288 : allF (fun k => chK 9 k) 288 72 = true := by decide +kernel
theorem ck9_360 : allF (fun k => chK 9 k) 360 69 = true := by decide +kernel
theorem tk4 (k : Nat) (hk : (k : Int) < pg8 4) : tkK 4 k = true := by
  have hk : (k : Int) < 2 := hk
  by_cases h0 : k < 2
  · have q := allF_ok _ tk4_0 (k - 0) (by omega)
    rw [show 0 + (k - 0) = k by omega] at q
    exact q
  omega
theorem tk5 (k : Nat) (hk : (k : Int) < pg8 5) : tkK 5 k = true := by
  have hk : (k : Int) < 5 := hk
  by_cases h0 : k < 5
  · have q := allF_ok _ tk5_0 (k - 0) (by omega)
    rw [show 0 + (k - 0) = k by omega] at q
    exact q
  omega
theorem tk6 (k : Nat) (hk : (k : Int) < pg8 6) : tkK 6 k = true := by
  have hk : (k : Int) < 14 := hk
  by_cases h0 : k < 14
  · have q := allF_ok _ tk6_0 (k - 0) (by omega)
    rw [show 0 + (k - 0) = k by omega] at q
    exact q
  omega
theorem tk7 (k : Nat) (hk : (k : Int) < pg8 7) : tkK 7 k = true := by
  have hk : (k : Int) < 42 := hk
  by_cases h0 : k < 42
  · have q := allF_ok _ tk7_0 (k - 0) (by omega)
    rw [show 0 + (k - 0) = k by omega] at q
    exact q
  omega
theorem tk8 (k : Nat) (hk : (k : Int) < pg8 8) : tkK 8 k = true := by
  have hk : (k : Int) < 132 := hk
  by_cases h0 : k < 66
  · have q := allF_ok _ tk8_0 (k - 0) (by omega)
    rw [show 0 + (k - 0) = k by omega] at q
    exact q
  by_cases h66 : k < 132
  · have q := allF_ok _ tk8_66 (k - 66) (by omega)
    rw [show 66 + (k - 66) = k by omega] at q
    exact q
  omega
theorem tk9 (k : Nat) (hk : (k : Int) < pg8 9) : tkK 9 k = true := by
  have hk : (k : Int) < 429 := hk
  by_cases h0 : k < 72
  · have q := allF_ok _ tk9_0 (k - 0) (by omega)
    rw [show 0 + (k - 0) = k by omega] at q
    exact q
  by_cases h72 : k < 144
  · have q := allF_ok _ tk9_72 (k - 72) (by omega)
    rw [show 72 + (k - 72) = k by omega] at q
    exact q
  by_cases h144 : k < 216
  · have q := allF_ok _ tk9_144 (k - 144) (by omega)
    rw [show 144 + (k - 144) = k by omega] at q
    exact q
  by_cases h216 : k < 288
  · have q := allF_ok _ tk9_216 (k - 216) (by omega)
    rw [show 216 + (k - 216) = k by omega] at q
    exact q
  by_cases h288 : k < 360
  · have q := allF_ok _ tk9_288 (k - 288) (by omega)
    rw [show 288 + (k - 288) = k by omega] at q
    exact q
  by_cases h360 : k < 429
  · have q := allF_ok _ tk9_360 (k - 360) (by omega)
    rw [show 360 + (k - 360) = k by omega] at q
    exact q
  omega
theorem tk_all : ∀ m : Nat, 4 ≤ m → m ≤ 9 → ∀ k : Nat, (k : Int) < pg8 m → tkK m k = true := pg_cases tk4 tk5 tk6 tk7 tk8 tk9
theorem ck4 (k : Nat) (hk : (k : Int) < pg8 4) : chK 4 k = true := by
  have hk : (k : Int) < 2 := hk
  by_cases h0 : k < 2
  · have q := allF_ok _ ck4_0 (k - 0) (by omega)
    rw [show 0 + (k - 0) = k by omega] at q
    exact q
  omega
theorem ck5 (k : Nat) (hk : (k : Int) < pg8 5) : chK 5 k = true := by
  have hk : (k : Int) < 5 := hk
  by_cases h0 : k < 5
  · have q := allF_ok _ ck5_0 (k - 0) (by omega)
    rw [show 0 + (k - 0) = k by omega] at q
    exact q
  omega
theorem ck6 (k : Nat) (hk : (k : Int) < pg8 6) : chK 6 k = true := by
  have hk : (k : Int) < 14 := hk
  by_cases h0 : k < 14
  · have q := allF_ok _ ck6_0 (k - 0) (by omega)
    rw [show 0 + (k - 0) = k by omega] at q
    exact q
  omega
theorem ck7 (k : Nat) (hk : (k : Int) < pg8 7) : chK 7 k = true := by
  have hk : (k : Int) < 42 := hk
  by_cases h0 : k < 42
  · have q := allF_ok _ ck7_0 (k - 0) (by omega)
    rw [show 0 + (k - 0) = k by omega] at q
    exact q
  omega
theorem ck8 (k : Nat) (hk : (k : Int) < pg8 8) : chK 8 k = true := by
  have hk : (k : Int) < 132 := hk
  by_cases h0 : k < 66
  · have q := allF_ok _ ck8_0 (k - 0) (by omega)
    rw [show 0 + (k - 0) = k by omega] at q
    exact q
  by_cases h66 : k < 132
  · have q := allF_ok _ ck8_66 (k - 66) (by omega)
    rw [show 66 + (k - 66) = k by omega] at q
    exact q
  omega
theorem ck9 (k : Nat) (hk : (k : Int) < pg8 9) : chK 9 k = true := by
  have hk : (k : Int) < 429 := hk
  by_cases h0 : k < 72
  · have q := allF_ok _ ck9_0 (k - 0) (by omega)
    rw [show 0 + (k - 0) = k by omega] at q
    exact q
  by_cases h72 : k < 144
  · have q := allF_ok _ ck9_72 (k - 72) (by omega)
    rw [show 72 + (k - 72) = k by omega] at q
    exact q
  by_cases h144 : k < 216
  · have q := allF_ok _ ck9_144 (k - 144) (by omega)
    rw [show 144 + (k - 144) = k by omega] at q
    exact q
  by_cases h216 : k < 288
  · have q := allF_ok _ ck9_216 (k - 216) (by omega)
    rw [show 216 + (k - 216) = k by omega] at q
    exact q
  by_cases h288 : k < 360
  · have q := allF_ok _ ck9_288 (k - 288) (by omega)
    rw [show 288 + (k - 288) = k by omega] at q
    exact q
  by_cases h360 : k < 429
  · have q := allF_ok _ ck9_360 (k - 360) (by omega)
    rw [show 360 + (k - 360) = k by omega] at q
    exact q
  omega
theorem ck_all : ∀ m : Nat, 4 ≤ m → m ≤ 9 → ∀ k : Nat, (k : Int) < pg8 m → chK m k = true := pg_cases ck4 ck5 ck6 ck7 ck8 ck9
