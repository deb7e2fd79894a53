theorem i32tr {a b c : Int32} (h1 : a ≤ b) (h2 : b ≤ c) : a ≤ c := by
  simp only [Int32.le_iff_toInt_le] at h1 h2 ⊢
  omega
