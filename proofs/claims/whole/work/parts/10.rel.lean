/-! how a state of the class and one of the reference belong together -/
def RelK (C FF g : Nat → Nat → Int32) (k : Nat) : Prop := C k 0 = g 1 k ∧ C k 1 = g 2 k ∧ C k 2 = g 3 k ∧ C k 3 = g 4 k ∧ C k 4 = (if g 1 k = 1 then 2 * g 5 k else g 5 k) ∧ C k 5 = g 6 k ∧ C k 6 = g 7 k ∧ C k 7 = g 8 k ∧ C k 8 = g 9 k ∧ C k 9 = g 10 k ∧ C k 10 = g 11 k ∧ C k 12 = g 12 k ∧ C k 16 = g 15 k ∧ ((g 21 k = 0 ∧ C k 13 = -1) ∨ (g 21 k = 1 ∧ C k 13 = g 23 k ∧ ¬ C k 13 = -1 ∧ C k 14 = g 24 k ∧ ∀ i, i < 4 → FF k i = g 22 (4 * k + i)))
def WfK (g : Nat → Nat → Int32) (k : Nat) : Prop := (g 1 k = 2 → ∃ f, f < k ∧ g 2 k = nI f) ∧ (g 8 k = 0 ∨ g 8 k = 1 ∨ g 8 k = 2 ∨ g 8 k = 3) ∧ (g 8 k = 1 → g 10 k = 0) ∧ (g 8 k = 2 → g 10 k < g 4 k) ∧ 1 ≤ g 4 k ∧ g 4 k ≤ 9 ∧ (g 12 k = 0 ∨ g 12 k = 1)
def NewK (g : Nat → Nat → Int32) (k : Nat) : Prop := g 8 k = 0 ∧ g 9 k = 0 ∧ g 10 k = 0 ∧ g 11 k = 0 ∧ g 12 k = 0 ∧ g 15 k = 0 ∧ g 21 k = 0
def RelF (n : Nat) (FO g : Nat → Nat → Int32) : Prop := ∀ k o, k < 16 → o < 16 → (k < n → FO k o = g 16 (16 * o + k)) ∧ (n ≤ k → g 16 (16 * o + k) = 0)
def RelD (n : Nat) (t C g : Nat → Nat → Int32) : Prop := (g 17 0 = 0 → ∀ k, k < n → C k 11 = 0) ∧ (¬ g 17 0 = 0 → (∀ k, k < n → C k 11 = g 14 k ∧ (g 14 k = 0 ∨ g 14 k = 1 ∨ g 14 k = 2)) ∧ ∀ o, o < 16 → ((t 7 0 >>> (nI o &&& 31)) &&& 1 = 0 ↔ ¬ (o < n ∧ (g 13 o = 1 ∨ g 13 o = 2))))
def RelT (B n : Nat) (t g : Nat → Nat → Int32) : Prop := n ≤ 16 ∧ t 1 0 = nI n ∧ g 0 0 = nI n ∧ t 3 0 = g 20 0 ∧ t 4 0 = g 25 0 ∧ t 5 0 = g 18 0 ∧ t 6 0 = g 17 0 ∧ (∀ i, i < 4 → t 2 i = g 19 i) ∧ ∃ d, d ≤ B ∧ g 18 0 = nI d
def zF : Nat → Int32 := fun _ => 0
def lsC (v : Nat → Nat → Int32) (mm : Nat) : Nat × Nat × (Nat → Int32) := flC (exC v) zF (2 ^ mm)
/-- the least of the workshop, and its plan, are those of what it has seen -/
def CacheV (v : Nat → Nat → Int32) (mm : Nat) : Prop := v 7 0 = 0 ∧ (v 11 0 = -1 ∨ ∃ q, q ≤ mm ∧ v 11 0 = nI q) ∧ (∃ L, L ≤ 10 ∧ v 5 0 = nI L) ∧ (v 11 0 = nI mm → v 5 0 = nI (lsC v mm).1 ∧ (∀ i, i < (lsC v mm).1 → v 4 i = (lsC v mm).2.2 i) ∧ (¬ v 12 0 = 0 → ¬ (lsC v mm).1 = 0 → v 7 (2 ^ (lsC v mm).1 - 1) = (plO (v 1) (lsC v mm).2.2 (lsC v mm).1 mm zF zF (2 ^ (lsC v mm).1)).1 (2 ^ (lsC v mm).1 - 1) ∧ v 8 0 = (plO (v 1) (lsC v mm).2.2 (lsC v mm).1 mm zF zF (2 ^ (lsC v mm).1)).2 (2 ^ (lsC v mm).1 - 1)))
def RelM (mm : Nat) (v g : Nat → Nat → Int32) : Prop := mm ≤ 10 ∧ v 2 0 = nI mm ∧ g 26 0 = nI mm ∧ (∀ i, i < mm → v 0 i = g 27 i ∧ v 1 i = g 28 i) ∧ (∀ z, z < 2 ^ mm → v 3 z = orM (g 27) (nI z) mm) ∧ CacheV v mm
def Rel (B n mm : Nat) (t v C FF FO g : Nat → Nat → Int32) : Prop := RelT B n t g ∧ (∀ k, k < n → RelK C FF g k ∧ WfK g k) ∧ (∀ k, n ≤ k → k < 16 → NewK g k) ∧ RelF n FO g ∧ RelD n t C g ∧ RelM mm v g
theorem Rel.mono {B B2 n mm : Nat} {t v C FF FO g : Nat → Nat → Int32} (h : Rel B n mm t v C FF FO g) (hB : B ≤ B2) : Rel B2 n mm t v C FF FO g := by
  obtain ⟨⟨a1, a2, a3, a4, a5, a6, a7, a8, d, hd, e⟩, r⟩ := h
  exact ⟨⟨a1, a2, a3, a4, a5, a6, a7, a8, d, by omega, e⟩, r⟩
theorem Rel.cfo {B n mm : Nat} {t v C FF FO g : Nat → Nat → Int32} (h : Rel B n mm t v C FF FO g) : ∀ k, k < n → C k 0 = 2 → ∃ f, f < n ∧ C k 1 = nI f := by
  intro k hk h0
  obtain ⟨hR, hW⟩ := h.2.1 k hk
  obtain ⟨f, hf, e⟩ := hW.1 (by rw [← hR.1]; exact h0)
  exact ⟨f, by omega, by rw [hR.2.1]; exact e⟩
theorem Rel.gfo {B n mm : Nat} {t v C FF FO g : Nat → Nat → Int32} (h : Rel B n mm t v C FF FO g) : ∀ k, k < n → g 1 k = 2 → ∃ f, f < 16 ∧ g 2 k = nI f := by
  intro k hk h0
  obtain ⟨f, hf, e⟩ := (h.2.1 k hk).2.1 h0
  have := h.1.1
  exact ⟨f, by omega, e⟩
