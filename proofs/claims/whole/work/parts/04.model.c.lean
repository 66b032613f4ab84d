theorem vus {g : Nat → Nat → Int32} {k : Nat} : va_up g k (g k) = g := by
  funext j
  by_cases h : j = k
  · subst h; simp [va_up]
  · simp [va_up, h]
def fil (a b : Nat → Int32) (k : Nat) : Nat → Int32 := fun j => if j < k then a j else b j
theorem fil_0 {a b : Nat → Int32} : fil a b 0 = b := by funext j; simp [fil]
theorem fil_s {a b : Nat → Int32} {k : Nat} : fil a b (k + 1) = upd (fil a b k) k (a k) := by
  funext j
  by_cases h : j = k
  · subst h; simp [fil, upd]
  · simp only [fil, upd, if_neg h]
    by_cases h2 : j < k
    · rw [if_pos h2, if_pos (by omega)]
    · rw [if_neg h2, if_neg (by omega)]
def clr (so a : Nat → Int32) (k : Nat) : Nat → Int32 := fun j => if j < k ∧ ¬ so j = 1 then 0 else a j
theorem clr_0 {s a : Nat → Int32} : clr s a 0 = a := by funext j; simp [clr]
theorem clr_k {s a : Nat → Int32} {k : Nat} : clr s a k k = a k := by simp [clr]
theorem clr_t {s a : Nat → Int32} {k : Nat} (h : s k = 1) : clr s a (k + 1) = clr s a k := by
  funext j
  simp only [clr]
  by_cases h2 : j < k
  · simp [h2, Nat.lt_succ_of_lt h2]
  · by_cases h3 : j = k
    · subst h3; simp [h]
    · rw [if_neg (by omega), if_neg (by omega)]
theorem clr_f {s a : Nat → Int32} {k : Nat} (h : ¬ s k = 1) : clr s a (k + 1) = upd (clr s a k) k 0 := by
  funext j
  simp only [clr, upd]
  by_cases h3 : j = k
  · subst h3; simp [h]
  · rw [if_neg h3]
    by_cases h2 : j < k
    · simp [h2, Nat.lt_succ_of_lt h2]
    · rw [if_neg (by omega), if_neg (by omega)]
def ff4 (a b : Nat → Int32) (k i : Nat) : Nat → Int32 := fun x => if 4 * k ≤ x ∧ x < 4 * k + i then a (x - 4 * k) else b x
theorem ff4_0 {a b : Nat → Int32} {k : Nat} : ff4 a b k 0 = b := by
  funext j; simp only [ff4]; rw [if_neg (by omega)]
theorem ff4_s {a b : Nat → Int32} {k i : Nat} : ff4 a b k (i + 1) = upd (ff4 a b k i) (4 * k + i) (a i) := by
  funext j
  simp only [ff4, upd]
  by_cases h : j = 4 * k + i
  · subst h; rw [if_pos (by omega), if_pos rfl]; congr 1; omega
  · rw [if_neg h]
    by_cases h2 : 4 * k ≤ j ∧ j < 4 * k + i
    · rw [if_pos h2, if_pos (by omega)]
    · rw [if_neg h2, if_neg (by omega)]
def fo16 (be a : Nat → Int32) (k i : Nat) : Nat → Int32 := fun x => if x % 16 = k ∧ x / 16 < i then a x + (if be (x / 16) = 1 then 1 else if be (x / 16) = 2 then 1 else 0) else a x
theorem fo16_0 {be a : Nat → Int32} {k : Nat} : fo16 be a k 0 = a := by
  funext j; simp [fo16]
theorem fo16_k {be a : Nat → Int32} {k i : Nat} (hk : k < 16) : fo16 be a k i (16 * i + k) = a (16 * i + k) := by
  simp only [fo16]; rw [if_neg (by omega)]
theorem fo16_s {be a : Nat → Int32} {k i : Nat} (hk : k < 16) : fo16 be a k (i + 1) = upd (fo16 be a k i) (16 * i + k) (a (16 * i + k) + (if be i = 1 then 1 else if be i = 2 then 1 else 0)) := by
  funext j
  simp only [fo16, upd]
  by_cases h : j = 16 * i + k
  · subst h
    have h1 : (16 * i + k) / 16 = i := by omega
    rw [if_pos (by omega), if_pos rfl, h1]
  · rw [if_neg h]
    by_cases h2 : j % 16 = k ∧ j / 16 < i
    · rw [if_pos h2, if_pos (by omega)]
    · rw [if_neg h2, if_neg (by omega)]
def cntN (a : Nat → Int32) : Nat → Nat
  | 0 => 0
  | k + 1 => cntN a k + (if a k = 0 then 0 else 1)
theorem sum_cnt (a : Nat → Int32) : ∀ k : Nat, sumN (fun j => if a j = 0 then 0 else 1) k = nI (cntN a k)
  | 0 => rfl
  | k + 1 => by
    rw [sumN, cntN, sum_cnt a k]
    split
    · exact (nI_add _ 0)
    · exact nI_1 _
theorem cnt_le (a : Nat → Int32) : ∀ k : Nat, cntN a k ≤ k
  | 0 => Nat.le_refl _
  | k + 1 => by
    have := cnt_le a k
    rw [cntN]; split <;> omega
theorem cnt_congr {a b : Nat → Int32} : ∀ k : Nat, (∀ j, j < k → a j = b j) → cntN a k = cntN b k
  | 0, _ => rfl
  | k + 1, h => by rw [cntN, cntN, cnt_congr k (fun j hj => h j (by omega)), h k (by omega)]
theorem cnt_upd (a : Nat → Int32) (j : Nat) (h : ¬ a j = 0) : ∀ k : Nat, j < k → cntN (upd a j 0) k + 1 = cntN a k
  | 0, hj => absurd hj (Nat.not_lt_zero _)
  | k + 1, hj => by
    rw [cntN, cntN]
    by_cases hk : j = k
    · subst hk
      have e : cntN (upd a j 0) j = cntN a j := cnt_congr j (fun i hi => by simp [upd, Nat.ne_of_lt hi])
      rw [e]; simp [upd, h]
    · have := cnt_upd a j h k (by omega)
      have e : upd a j 0 k = a k := by simp [upd, Ne.symm hk]
      rw [e]; omega
def thw (so we tu : Nat → Int32) (r : Int32) (n : Nat) : Nat → (Nat → Int32) → (Nat → Int32)
  | 0, a => a
  | t + 1, a => if r < sumN (fun j => if a j = 0 then 0 else 1) n ∧ ¬ lfF a so we tu n = -1 then thw so we tu r n t (upd a (ix (lfF a so we tu n)) 0) else a
def anyN (p : Nat → Bool) : Nat → Bool
  | 0 => false
  | k + 1 => anyN p k || p k
theorem anyN_of {p : Nat → Bool} {k : Nat} (h : p k = true) : ∀ n : Nat, k < n → anyN p n = true
  | 0, hk => absurd hk (Nat.not_lt_zero _)
  | n + 1, hk => by
    rw [anyN]
    by_cases e : k = n
    · subst e; simp [h]
    · simp [anyN_of h n (by omega)]
theorem tb_out6 {x : Int32} (c : x.toInt < 0 ∨ 6 < x.toInt) : ¬ x = 0 ∧ ¬ x = 1 ∧ ¬ x = 2 ∧ ¬ x = 3 ∧ ¬ x = 4 ∧ ¬ x = 5 ∧ ¬ x = 6 := by
  refine ⟨?_, ?_, ?_, ?_, ?_, ?_, ?_⟩ <;> (intro h; rw [h] at c; revert c; decide)
theorem tb_out7 {x : Int32} (c : x.toInt < 0 ∨ 7 < x.toInt) : ¬ x = 0 ∧ ¬ x = 1 ∧ ¬ x = 2 ∧ ¬ x = 3 ∧ ¬ x = 4 ∧ ¬ x = 5 ∧ ¬ x = 6 ∧ ¬ x = 7 := by
  refine ⟨?_, ?_, ?_, ?_, ?_, ?_, ?_, ?_⟩ <;> (intro h; rw [h] at c; revert c; decide)
