theorem nI_and {a b : Nat} : nI a &&& nI b = nI (a &&& b) := by
  apply Int32.toBitVec_inj.mp
  rw [Int32.toBitVec_and]
  show BitVec.ofInt 32 (a : Int) &&& BitVec.ofInt 32 (b : Int) = BitVec.ofInt 32 ((a &&& b : Nat) : Int)
  rw [BitVec.ofInt_natCast, BitVec.ofInt_natCast, BitVec.ofInt_natCast]
  apply BitVec.eq_of_toNat_eq
  simp [BitVec.toNat_and, BitVec.toNat_ofNat, Nat.and_mod_two_pow]
theorem nI_tn (x : Int32) : x = nI x.toBitVec.toNat := by
  apply Int32.toBitVec_inj.mp
  show x.toBitVec = BitVec.ofInt 32 (x.toBitVec.toNat : Int)
  rw [BitVec.ofInt_natCast, BitVec.ofNat_toNat, BitVec.setWidth_eq]
theorem andle (s : Nat) (x : Int32) : ∃ t, t ≤ s ∧ nI s &&& x = nI t := ⟨s &&& x.toBitVec.toNat, Nat.and_le_left, by rw [← nI_and, ← nI_tn]⟩
def allB : Nat → (Nat → Bool) → Bool
  | 0, _ => true
  | k + 1, f => allB k f && f k
theorem allB_s : ∀ (n : Nat) (f : Nat → Bool), allB n f = true → ∀ k, k < n → f k = true
  | 0, _, _, k, hk => absurd hk (Nat.not_lt_zero _)
  | n + 1, f, h, k, hk => by
    rw [allB, Bool.and_eq_true] at h
    by_cases e : k = n
    · subst e; exact h.2
    · exact allB_s n f h.1 k (by omega)
def bcA (x : Nat) : Nat := x - ((x / 2) &&& 1431655765)
def bcB (a : Nat) : Nat := (a &&& 858993459) + ((a / 4) &&& 858993459)
def bcC (b : Nat) : Nat := (b + b / 16) &&& 252645135
def bcD (c : Nat) : Nat := c + c / 256
def bcE (d : Nat) : Nat := (d + d / 65536) &&& 63
theorem bc_0 : allB 16 (fun i => allB 256 (fun j => bcE (bcD (bcC (bcB (bcA (256 * (16 * 0 + i) + j))))) == popG 16 (256 * (16 * 0 + i) + j))) = true := by decide +kernel
theorem bc_1 : allB 16 (fun i => allB 256 (fun j => bcE (bcD (bcC (bcB (bcA (256 * (16 * 1 + i) + j))))) == popG 16 (256 * (16 * 1 + i) + j))) = true := by decide +kernel
theorem bc_2 : allB 16 (fun i => allB 256 (fun j => bcE (bcD (bcC (bcB (bcA (256 * (16 * 2 + i) + j))))) == popG 16 (256 * (16 * 2 + i) + j))) = true := by decide +kernel
theorem bc_3 : allB 16 (fun i => allB 256 (fun j => bcE (bcD (bcC (bcB (bcA (256 * (16 * 3 + i) + j))))) == popG 16 (256 * (16 * 3 + i) + j))) = true := by decide +kernel
theorem bc_4 : allB 16 (fun i => allB 256 (fun j => bcE (bcD (bcC (bcB (bcA (256 * (16 * 4 + i) + j))))) == popG 16 (256 * (16 * 4 + i) + j))) = true := by decide +kernel
theorem bc_5 : allB 16 (fun i => allB 256 (fun j => bcE (bcD (bcC (bcB (bcA (256 * (16 * 5 + i) + j))))) == popG 16 (256 * (16 * 5 + i) + j))) = true := by decide +kernel
theorem bc_6 : allB 16 (fun i => allB 256 (fun j => bcE (bcD (bcC (bcB (bcA (256 * (16 * 6 + i) + j))))) == popG 16 (256 * (16 * 6 + i) + j))) = true := by decide +kernel
theorem bc_7 : allB 16 (fun i => allB 256 (fun j => bcE (bcD (bcC (bcB (bcA (256 * (16 * 7 + i) + j))))) == popG 16 (256 * (16 * 7 + i) + j))) = true := by decide +kernel
theorem bc_8 : allB 16 (fun i => allB 256 (fun j => bcE (bcD (bcC (bcB (bcA (256 * (16 * 8 + i) + j))))) == popG 16 (256 * (16 * 8 + i) + j))) = true := by decide +kernel
theorem bc_9 : allB 16 (fun i => allB 256 (fun j => bcE (bcD (bcC (bcB (bcA (256 * (16 * 9 + i) + j))))) == popG 16 (256 * (16 * 9 + i) + j))) = true := by decide +kernel
theorem bc_10 : allB 16 (fun i => allB 256 (fun j => bcE (bcD (bcC (bcB (bcA (256 * (16 * 10 + i) + j))))) == popG 16 (256 * (16 * 10 + i) + j))) = true := by decide +kernel
theorem bc_11 : allB 16 (fun i => allB 256 (fun j => bcE (bcD (bcC (bcB (bcA (256 * (16 * 11 + i) + j))))) == popG 16 (256 * (16 * 11 + i) + j))) = true := by decide +kernel
theorem bc_12 : allB 16 (fun i => allB 256 (fun j => bcE (bcD (bcC (bcB (bcA (256 * (16 * 12 + i) + j))))) == popG 16 (256 * (16 * 12 + i) + j))) = true := by decide +kernel
theorem bc_13 : allB 16 (fun i => allB 256 (fun j => bcE (bcD (bcC (bcB (bcA (256 * (16 * 13 + i) + j))))) == popG 16 (256 * (16 * 13 + i) + j))) = true := by decide +kernel
theorem bc_14 : allB 16 (fun i => allB 256 (fun j => bcE (bcD (bcC (bcB (bcA (256 * (16 * 14 + i) + j))))) == popG 16 (256 * (16 * 14 + i) + j))) = true := by decide +kernel
theorem bc_15 : allB 16 (fun i => allB 256 (fun j => bcE (bcD (bcC (bcB (bcA (256 * (16 * 15 + i) + j))))) == popG 16 (256 * (16 * 15 + i) + j))) = true := by decide +kernel
theorem bc_all (k : Nat) (hk : k < 16) : allB 16 (fun i => allB 256 (fun j => bcE (bcD (bcC (bcB (bcA (256 * (16 * k + i) + j))))) == popG 16 (256 * (16 * k + i) + j))) = true := by
  rcases (by omega : k = 0 ∨ k = 1 ∨ k = 2 ∨ k = 3 ∨ k = 4 ∨ k = 5 ∨ k = 6 ∨ k = 7 ∨ k = 8 ∨ k = 9 ∨ k = 10 ∨ k = 11 ∨ k = 12 ∨ k = 13 ∨ k = 14 ∨ k = 15) with rfl | rfl | rfl | rfl | rfl | rfl | rfl | rfl | rfl | rfl | rfl | rfl | rfl | rfl | rfl | rfl
  · exact bc_0
  · exact bc_1
  · exact bc_2
  · exact bc_3
  · exact bc_4
  · exact bc_5
  · exact bc_6
  · exact bc_7
  · exact bc_8
  · exact bc_9
  · exact bc_10
  · exact bc_11
  · exact bc_12
  · exact bc_13
  · exact bc_14
  · exact bc_15
theorem bc_eq {x : Nat} (h : x < 65536) : bcE (bcD (bcC (bcB (bcA x)))) = popG 16 x := by
  have h1 := allB_s _ _ (bc_all (x / 4096) (by omega)) (x / 256 % 16) (by omega)
  have h2 := allB_s _ _ h1 (x % 256) (by omega)
  have e : 256 * (16 * (x / 4096) + x / 256 % 16) + x % 256 = x := by omega
  simp only [e] at h2
  exact eq_of_beq h2
theorem bc_bd {x : Nat} (h : x < 65536) : bcA x < 65536 ∧ bcB (bcA x) < 2 ^ 30 ∧ bcC (bcB (bcA x)) < 2 ^ 28 ∧ bcD (bcC (bcB (bcA x))) < 2 ^ 29 := by
  have h1 : bcA x ≤ x := Nat.sub_le _ _
  have h2 : bcB (bcA x) ≤ bcA x + bcA x / 4 := Nat.add_le_add Nat.and_le_left Nat.and_le_left
  have h3 : bcC (bcB (bcA x)) ≤ 252645135 := Nat.and_le_right
  have h4 : bcD (bcC (bcB (bcA x))) = bcC (bcB (bcA x)) + bcC (bcB (bcA x)) / 256 := rfl
  refine ⟨by omega, by omega, by omega, by omega⟩
