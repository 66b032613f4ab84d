section SIMJ
variable {B n mm k : Nat} {t v C FF FO FO2 g g0 g1 g2 : Nat → Nat → Int32} {f f0 f2 : Nat → Int32} {b : Int32}
theorem va_tw {α : Type} (f : Nat → α) (k : Nat) (a b : α) : va_up (va_up f k a) k b = va_up f k b := by
  funext j
  by_cases h : j = k
  · subst h; rw [va_up_self, va_up_self]
  · rw [va_up_ne _ _ h, va_up_ne _ _ h, va_up_ne _ _ h]
theorem up_id (f : Nat → Int32) (k : Nat) : upd f k (f k) = f := by
  funext j
  by_cases h : j = k
  · subst h; exact pk_us
  · exact pk_un h
theorem i_step {a b : Int32} (h : a < b) (hb : b ≤ 9) (hne : ¬ a + 1 = b) : a + 1 < b := by
  have h1 := Int32.lt_iff_toInt_lt.mp h
  have h2 := Int32.le_iff_toInt_le.mp hb
  have h3 : (9 : Int32).toInt = 9 := by decide
  have h4 : (1 : Int32).toInt = 1 := by decide
  have h7 := Int32.le_toInt a
  have h5 : (a + 1).toInt = a.toInt + 1 := by
    rw [Int32.toInt_add, h4]
    exact Int.bmod_eq_of_le (by omega) (by omega)
  have h6 : ¬ (a + 1).toInt = b.toInt := fun q => hne (Int32.toInt_inj.mp q)
  apply Int32.lt_iff_toInt_lt.mpr
  omega
def UpG (g0 g : Nat → Nat → Int32) (k : Nat) : Prop := (∀ r, r ≠ 8 → r ≠ 9 → r ≠ 10 → r ≠ 11 → r ≠ 12 → r ≠ 15 → r ≠ 16 → r ≠ 21 → g r = g0 r) ∧ (∀ r j, r ≠ 16 → j ≠ k → g r j = g0 r j)
theorem UpG.trans (h : UpG g0 g1 k) (h2 : UpG g1 g2 k) : UpG g0 g2 k := ⟨fun r a1 a2 a3 a4 a5 a6 a7 a8 => (h2.1 r a1 a2 a3 a4 a5 a6 a7 a8).trans (h.1 r a1 a2 a3 a4 a5 a6 a7 a8), fun r j hr hj => (h2.2 r j hr hj).trans (h.2 r j hr hj)⟩
theorem vu {r0 r j : Nat} {a : Nat → Int32} (ha : a j = g0 r0 j) (h : g1 r j = g0 r j) : va_up g1 r0 a r j = g0 r j := by
  by_cases q : r = r0
  · subst q; rw [va_up_self]; exact ha
  · rw [va_up_ne _ _ q]; exact h
def KC (f0 : Nat → Int32) (g0 : Nat → Nat → Int32) (k : Nat) : Prop := f0 2 = g0 3 k ∧ f0 3 = g0 4 k ∧ f0 4 = (if g0 1 k = 1 then 2 * g0 5 k else g0 5 k) ∧ 1 ≤ g0 4 k ∧ g0 4 k ≤ 9
/-- a check's columns and its rows, as far as the end of a drive has come with it -/
def AtK (f0 f : Nat → Int32) (g0 g : Nat → Nat → Int32) (k : Nat) : Prop := UpG g0 g k ∧ (∀ q, q < 7 → f q = f0 q) ∧ f 14 = f0 14 ∧ (f 7 = g 8 k ∧ f 8 = g 9 k ∧ f 9 = g 10 k ∧ f 10 = g 11 k ∧ f 16 = g 15 k) ∧ ((f 13 = f0 13 ∧ g 21 k = g0 21 k) ∨ (f 13 = -1 ∧ g 21 k = 0)) ∧ (g 8 k = 0 ∨ g 8 k = 1 ∨ g 8 k = 2 ∨ g 8 k = 3) ∧ (g 8 k = 1 → g 10 k = 0) ∧ (g 8 k = 2 → g 10 k < g 4 k)
theorem AtK.congr (h : AtK f0 f g0 g k) (e : ∀ q, q ≠ 11 → q ≠ 12 → f2 q = f q) : AtK f0 f2 g0 g k := by
  obtain ⟨u, h1, h2, ⟨h3, h4, h5, h6, h7⟩, h8, h9⟩ := h
  refine ⟨u, fun q hq => (e q (by omega) (by omega)).trans (h1 q hq), (e 14 (by decide) (by decide)).trans h2, ⟨(e 7 (by decide) (by decide)).trans h3, (e 8 (by decide) (by decide)).trans h4, (e 9 (by decide) (by decide)).trans h5, (e 10 (by decide) (by decide)).trans h6, (e 16 (by decide) (by decide)).trans h7⟩, ?_, h9⟩
  rw [e 13 (by decide) (by decide)]; exact h8
theorem UpG.row (u : UpG g0 g k) {r : Nat} (h : r < 8 ∨ r = 13 ∨ r = 14 ∨ (16 < r ∧ r < 21) ∨ 21 < r) : g r = g0 r := u.1 r (by omega) (by omega) (by omega) (by omega) (by omega) (by omega) (by omega) (by omega)
theorem at_ages (h : AtK f0 f g0 g k) (hK : KC f0 g0 k) : AtK f0 (fX0_growOlder f) g0 (fX3_ages g k) k ∧ fX0_growOlder f 11 = f 11 ∧ fX0_growOlder f 12 = f 12 ∧ fX0_growOlder f 16 = f 16 := by
  obtain ⟨u, h1, h2, ⟨h3, h4, h5, h6, h7⟩, h8, h9, h10, h11⟩ := h
  have hl : f 4 = (if g 1 k = 1 then 2 * g 5 k else g 5 k) := by rw [h1 4 (by decide), u.row (r := 1) (by decide), u.row (r := 5) (by decide)]; exact hK.2.2.1
  unfold fX0_growOlder fX3_ages fX0_thaw
  rw [hl, h6]
  by_cases c : g 11 k + 1 < (if g 1 k = 1 then 2 * g 5 k else g 5 k)
  · simp only [if_neg (Int32.not_le.mpr c), if_pos c]
    refine ⟨⟨u.trans ⟨fun r a1 a2 a3 a4 a5 a6 a7 a8 => va_up_ne _ _ a4, fun r j hr hj => vu (pk_un hj) rfl⟩, fun q hq => (pk_un (by omega)).trans (h1 q hq), (pk_un (by decide)).trans h2, ⟨?_, ?_, ?_, ?_, ?_⟩, ?_, ?_, ?_, ?_⟩, ?_, ?_, ?_⟩
    all_goals simp only [va_up, upd, Nat.reduceEqDiff, if_true, if_false]
    all_goals assumption
  · simp only [if_pos (Int32.not_lt.mp c), if_neg c]
    refine ⟨⟨u.trans ⟨fun r a1 a2 a3 a4 a5 a6 a7 a8 => by rw [va_up_ne _ _ a8, va_up_ne _ _ a4, va_up_ne _ _ a1], fun r j hr hj => vu (pk_un hj) (vu (pk_un hj) (vu (pk_un hj) rfl))⟩, fun q hq => by rw [pk_un (show q ≠ 13 by omega), pk_un (show q ≠ 10 by omega), pk_un (show q ≠ 7 by omega)]; exact h1 q hq, h2, ⟨?_, ?_, ?_, ?_, ?_⟩, Or.inr ⟨?_, ?_⟩, ?_, ?_, ?_⟩, ?_, ?_, ?_⟩
    all_goals simp only [va_up, upd, Nat.reduceEqDiff, if_true, if_false]
    all_goals first | assumption | decide | exact Or.inl rfl | exact fun q => absurd q (by decide)
theorem at_good (h : AtK f0 f g0 g k) (hK : KC f0 g0 k) : AtK f0 (fX0_countGood f) g0 (fX3_wasGood g k) k ∧ fX0_countGood f 11 = f 11 ∧ fX0_countGood f 12 = f 12 ∧ fX0_countGood f 16 = f 16 := by
  obtain ⟨u, h1, h2, ⟨h3, h4, h5, h6, h7⟩, h8, h9, h10, h11⟩ := h
  have e4 : g 4 = g0 4 := u.row (by decide)
  have hl : f 3 = g 4 k := by rw [h1 3 (by decide), e4]; exact hK.2.1
  have h49 : g 4 k ≤ 9 := by rw [e4]; exact hK.2.2.2.2
  unfold fX0_countGood fX3_wasGood
  rw [hl, h3, h5]
  by_cases c1 : g 8 k = 1
  · have z : g 10 k + 1 = 1 := by rw [h10 c1]; rfl
    simp only [if_pos c1, z, if_true]
    refine ⟨⟨u.trans ⟨fun r a1 a2 a3 a4 a5 a6 a7 a8 => by rw [va_up_ne _ _ a3, va_up_ne _ _ a2, va_up_ne _ _ a1], fun r j hr hj => vu (pk_un hj) (vu (pk_un hj) (vu (pk_un hj) rfl))⟩, fun q hq => by rw [pk_un (show q ≠ 9 by omega), pk_un (show q ≠ 8 by omega), pk_un (show q ≠ 7 by omega)]; exact h1 q hq, h2, ⟨?_, ?_, ?_, ?_, ?_⟩, ?_, ?_, ?_, ?_⟩, ?_, ?_, ?_⟩
    all_goals simp only [va_up, upd, Nat.reduceEqDiff, if_true, if_false]
    all_goals first | assumption | decide | exact Or.inl rfl | exact fun q => absurd q (by decide)
  · by_cases c2 : g 8 k = 2
    · by_cases d : g 10 k + 1 = g 4 k
      · have d2 : ¬ g 10 k + 1 < g 4 k := by rw [d]; exact Int32.lt_irrefl
        simp only [if_neg c1, if_pos c2, if_pos d, if_neg d2]
        refine ⟨⟨u.trans ⟨fun r a1 a2 a3 a4 a5 a6 a7 a8 => by rw [va_up_ne _ _ a4, va_up_ne _ _ a3, va_up_ne _ _ a2, va_up_ne _ _ a1], fun r j hr hj => vu (pk_un hj) (vu (pk_un hj) (vu (pk_un hj) (vu (pk_un hj) rfl)))⟩, fun q hq => by rw [pk_un (show q ≠ 10 by omega), pk_un (show q ≠ 9 by omega), pk_un (show q ≠ 8 by omega), pk_un (show q ≠ 7 by omega)]; exact h1 q hq, h2, ⟨?_, ?_, ?_, ?_, ?_⟩, ?_, ?_, ?_, ?_⟩, ?_, ?_, ?_⟩
        all_goals simp only [va_up, upd, Nat.reduceEqDiff, if_true, if_false]
        all_goals first | assumption | decide | exact Or.inr (Or.inr (Or.inr rfl)) | exact fun q => absurd q (by decide)
      · have d2 : g 10 k + 1 < g 4 k := i_step (h11 c2) h49 d
        simp only [if_neg c1, if_pos c2, if_neg d, if_pos d2]
        refine ⟨⟨u.trans ⟨fun r a1 a2 a3 a4 a5 a6 a7 a8 => by rw [va_up_ne _ _ a3, va_up_ne _ _ a2], fun r j hr hj => vu (pk_un hj) (vu (pk_un hj) rfl)⟩, fun q hq => by rw [pk_un (show q ≠ 9 by omega), pk_un (show q ≠ 8 by omega)]; exact h1 q hq, h2, ⟨?_, ?_, ?_, ?_, ?_⟩, ?_, ?_, ?_, ?_⟩, ?_, ?_, ?_⟩
        all_goals simp only [va_up, upd, Nat.reduceEqDiff, if_true, if_false]
        all_goals first | assumption | decide | exact fun q => absurd q c1 | exact fun _ => d2
    · simp only [if_neg c1, if_neg c2]
      refine ⟨⟨u.trans ⟨fun r a1 a2 a3 a4 a5 a6 a7 a8 => by rw [va_up_ne _ _ a3, va_up_ne _ _ a2], fun r j hr hj => vu (pk_un hj) (vu (pk_un hj) rfl)⟩, fun q hq => by rw [pk_un (show q ≠ 9 by omega), pk_un (show q ≠ 8 by omega)]; exact h1 q hq, h2, ⟨?_, ?_, ?_, ?_, ?_⟩, ?_, ?_, ?_, ?_⟩, ?_, ?_, ?_⟩
      all_goals simp only [va_up, upd, Nat.reduceEqDiff, if_true, if_false]
      all_goals first | assumption | decide | exact fun q => absurd q c1 | exact fun q => absurd q c2
theorem wg_k2 (x : Nat → Nat → Int32) (k : Nat) {r : Nat} (h8 : r ≠ 8) (h9 : r ≠ 9) (h10 : r ≠ 10) (h11 : r ≠ 11) : fX3_wasGood x k r = x r := by
  unfold fX3_wasGood
  repeat' split
  all_goals simp [va_up, h8, h9, h10, h11]
theorem ag_k2 (x : Nat → Nat → Int32) (k : Nat) {r : Nat} (h8 : r ≠ 8) (h11 : r ≠ 11) (h21 : r ≠ 21) : fX3_ages x k r = x r := by
  unfold fX3_ages
  repeat' split
  all_goals simp [va_up, h8, h11, h21]
end SIMJ
