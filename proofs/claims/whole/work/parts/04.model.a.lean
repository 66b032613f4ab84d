abbrev mF (q : Nat → Nat) (g : Nat → Nat → Int32) : List Value := [.int (g 0 0), .ref (q 1), .ref (q 2), .ref (q 3), .ref (q 4), .ref (q 5), .ref (q 6), .ref (q 7), .ref (q 8), .ref (q 9), .ref (q 10), .ref (q 11), .ref (q 12), .ref (q 13), .ref (q 14), .ref (q 15), .ref (q 16), .int (g 17 0), .int (g 18 0), .ref (q 19), .int (g 20 0), .ref (q 21), .ref (q 22), .ref (q 23), .ref (q 24), .int (g 25 0), .int (g 26 0), .ref (q 27), .ref (q 28), .int (g 29 0), .ref (q 30), .ref (q 31), .ref (q 32)]
abbrev mW (cI cZ : ClassId) (q : Nat → Nat) (o : Nat) (g : Nat → Nat → Int32) : va_W := [(o, .inr (3, mF q g)), (q 1, .inl (cI, 16, .inl (g 1))), (q 2, .inl (cI, 16, .inl (g 2))), (q 3, .inl (cI, 16, .inl (g 3))), (q 4, .inl (cI, 16, .inl (g 4))), (q 5, .inl (cI, 16, .inl (g 5))), (q 6, .inl (cI, 16, .inl (g 6))), (q 7, .inl (cZ, 16, .inl (g 7))), (q 8, .inl (cI, 16, .inl (g 8))), (q 9, .inl (cI, 16, .inl (g 9))), (q 10, .inl (cI, 16, .inl (g 10))), (q 11, .inl (cI, 16, .inl (g 11))), (q 12, .inl (cZ, 16, .inl (g 12))), (q 13, .inl (cI, 16, .inl (g 13))), (q 14, .inl (cI, 16, .inl (g 14))), (q 15, .inl (cI, 16, .inl (g 15))), (q 16, .inl (cI, 256, .inl (g 16))), (q 19, .inl (cI, 4, .inl (g 19))), (q 21, .inl (cZ, 16, .inl (g 21))), (q 22, .inl (cI, 64, .inl (g 22))), (q 23, .inl (cI, 16, .inl (g 23))), (q 24, .inl (cI, 16, .inl (g 24))), (q 27, .inl (cI, 10, .inl (g 27))), (q 28, .inl (cI, 10, .inl (g 28))), (q 30, .inl (cI, 10, .inl (g 30))), (q 31, .inl (cI, 1024, .inl (g 31))), (q 32, .inl (cI, 1024, .inl (g 32)))]

theorem tb_in7 {x : Int32} (c : ¬ (x.toInt < 0 ∨ 7 < x.toInt)) : x = 0 ∨ x = 1 ∨ x = 2 ∨ x = 3 ∨ x = 4 ∨ x = 5 ∨ x = 6 ∨ x = 7 := by
  have h2 : x = Int32.ofInt x.toInt := (Int32.ofInt_toInt x).symm
  rcases (by omega : x.toInt = 0 ∨ x.toInt = 1 ∨ x.toInt = 2 ∨ x.toInt = 3 ∨ x.toInt = 4 ∨ x.toInt = 5 ∨ x.toInt = 6 ∨ x.toInt = 7) with h | h | h | h | h | h | h | h <;> rw [h] at h2 <;> rw [h2] <;> decide
theorem tb_in6 {x : Int32} (c : ¬ (x.toInt < 0 ∨ 6 < x.toInt)) : x = 0 ∨ x = 1 ∨ x = 2 ∨ x = 3 ∨ x = 4 ∨ x = 5 ∨ x = 6 := by
  have h2 : x = Int32.ofInt x.toInt := (Int32.ofInt_toInt x).symm
  rcases (by omega : x.toInt = 0 ∨ x.toInt = 1 ∨ x.toInt = 2 ∨ x.toInt = 3 ∨ x.toInt = 4 ∨ x.toInt = 5 ∨ x.toInt = 6) with h | h | h | h | h | h | h <;> rw [h] at h2 <;> rw [h2] <;> decide
/-- a checked number is one of the first n -/
theorem ixck {x y : Int32} {n : Nat} (hn : y = nI n) (hb : n < 2 ^ 30) (c : 0 ≤ x ∧ x ≤ y - 1) : ∃ j, j < n ∧ x = nI j := by
  rw [hn] at c
  have h0 : (0 : Int) ≤ x.toInt := by have := Int32.le_iff_toInt_le.mp c.1; simpa using this
  have h1 := Int32.le_iff_toInt_le.mp c.2
  rw [show (1 : Int32) = nI 1 from rfl] at h1
  rw [pk_sub_toInt hb (by decide)] at h1
  refine ⟨x.toInt.toNat, by omega, ?_⟩
  apply Int32.toInt_inj.mp
  rw [nI_toInt (by omega)]
  omega
theorem ixck_nI {y : Int32} {n j : Nat} (hn : y = nI n) (hb : n < 2 ^ 30) (h : j < n) : 0 ≤ nI j ∧ nI j ≤ y - 1 := by
  rw [hn]
  constructor
  · exact nI_pos' (by omega)
  · rw [Int32.le_iff_toInt_le, show (1 : Int32) = nI 1 from rfl, pk_sub_toInt hb (by decide), nI_toInt (by omega)]; omega
theorem ixin {x : Int32} {m : Nat} {z : Int32} (hz : z = nI m) (hb : m < 2 ^ 30) (c : 0 ≤ x ∧ x ≤ z) : ∃ j, j ≤ m ∧ x = nI j := by
  rw [hz] at c
  have h0 : (0 : Int) ≤ x.toInt := by have := Int32.le_iff_toInt_le.mp c.1; simpa using this
  have h1 := Int32.le_iff_toInt_le.mp c.2
  rw [nI_toInt (by omega)] at h1
  refine ⟨x.toInt.toNat, by omega, ?_⟩
  apply Int32.toInt_inj.mp
  rw [nI_toInt (by omega)]
  omega
