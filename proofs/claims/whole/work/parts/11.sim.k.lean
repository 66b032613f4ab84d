section SIMK
variable {B n mm k : Nat} {t v C FF FO FO2 g g0 g1 g2 : Nat → Nat → Int32} {f f0 f2 : Nat → Int32} {b : Int32}
def nxC (c : Int32) : Int32 := if c = 0 then 1 else c
theorem nx_2 {c : Int32} (h : c = 0 ∨ c = 1 ∨ c = 2 ∨ c = 3) : nxC c = 2 ↔ c = 2 := by
  unfold nxC
  rcases h with e | e | e | e <;> subst e <;> decide
/-- whether a bad drive sets the code -/
def badS (f : Nat → Int32) (b : Int32) : Prop := ¬ f 7 = 2 ∧ (f 7 = 3 ∨ ¬ f 8 + 1 < f 2) ∧ b = 0
theorem cb_s (h : f 7 = 0 ∨ f 7 = 1 ∨ f 7 = 2 ∨ f 7 = 3) (hs : badS f b) : fX0_countBad f b = (1, upd (upd (upd (upd f 7 2) 8 (f 8 + 1)) 9 0) 10 0) := by
  obtain ⟨q1, q2, q3⟩ := hs
  unfold fX0_countBad
  by_cases c0 : f 7 = 0
  · have l : ¬ f 8 + 1 < f 2 := q2.elim (fun z => absurd (c0.symm.trans z) (by decide)) id
    rw [if_pos c0, if_neg l, if_pos q3]
  · rw [if_neg c0]
    by_cases c3 : f 7 = 3
    · rw [if_pos c3, if_neg (by decide), if_pos q3]
    · have l : ¬ f 8 + 1 < f 2 := q2.elim (fun z => absurd z c3) id
      have c1 : f 7 = 1 := by rcases h with e | e | e | e <;> first | exact e | exact absurd e c0 | exact absurd e q1 | exact absurd e c3
      rw [if_neg c3, if_pos c1, if_neg l, if_neg (by decide), if_pos q3]
theorem cb_n (h : f 7 = 0 ∨ f 7 = 1 ∨ f 7 = 2 ∨ f 7 = 3) (hs : ¬ badS f b) : fX0_countBad f b = (0, upd (upd (upd (upd f 7 (nxC (f 7))) 8 (f 8 + 1)) 9 0) 10 0) := by
  unfold fX0_countBad
  by_cases c0 : f 7 = 0
  · have e : nxC (f 7) = 1 := if_pos c0
    rw [if_pos c0, e]
    by_cases l : f 8 + 1 < f 2
    · rw [if_pos l]
    · rw [if_neg l, if_neg (fun q => hs ⟨by rw [c0]; decide, Or.inr l, q⟩)]
  · have e : nxC (f 7) = f 7 := if_neg c0
    rw [if_neg c0, e, up_id]
    by_cases c3 : f 7 = 3
    · rw [if_pos c3, if_neg (by decide), if_neg (fun q => hs ⟨by rw [c3]; decide, Or.inl c3, q⟩)]
    · rw [if_neg c3]
      by_cases c1 : f 7 = 1
      · rw [if_pos c1]
        by_cases l : f 8 + 1 < f 2
        · rw [if_pos l, if_pos rfl]
        · rw [if_neg l, if_neg (by decide), if_neg (fun q => hs ⟨by rw [c1]; decide, Or.inr l, q⟩)]
      · rw [if_neg c1, if_pos rfl]
def wbN (g : Nat → Nat → Int32) (k : Nat) : Nat → Nat → Int32 := va_up (va_up (va_up (va_up g 8 (upd (g 8) k (nxC (g 8 k)))) 9 (upd (g 9) k ((g 9 k) + 1))) 10 (upd (g 10) k 0)) 11 (upd (g 11) k 0)
def wbS (g : Nat → Nat → Int32) (n k : Nat) : Nat → Nat → Int32 := va_up (va_up (va_up (va_up (va_up (va_up g 8 (upd (upd (g 8) k (nxC (g 8 k))) k 2)) 9 (upd (g 9) k ((g 9 k) + 1))) 10 (upd (g 10) k 0)) 11 (upd (g 11) k 0)) 15 (upd (g 15) k ((g 15 k) + 1))) 16 (fo16 (g 13) (g 16) k n)
def badG (g : Nat → Nat → Int32) (k : Nat) : Prop := ¬ nxC (g 8 k) = 2 ∧ (g 8 k = 3 ∨ ¬ g 9 k + 1 < g 3 k) ∧ heldF (g 1) (g 2) (upd (g 8) k (nxC (g 8 k))) k = 0
theorem wb_s (hs : badG g k) : fX3_wasBad g n k = fX3_freezes (wbS g n k) n k := by
  obtain ⟨q1, q2, q3⟩ := hs
  unfold fX3_wasBad
  rw [show (if g 8 k = 0 then (1 : Int32) else g 8 k) = nxC (g 8 k) from rfl]
  rw [if_neg q1]
  by_cases c3 : g 8 k = 3
  · rw [if_pos c3, if_pos q3]; rfl
  · rw [if_neg c3, if_neg (q2.elim (fun z => absurd z c3) id), if_pos q3]; rfl
theorem wb_n (hs : ¬ badG g k) : fX3_wasBad g n k = wbN g k := by
  unfold fX3_wasBad
  rw [show (if g 8 k = 0 then (1 : Int32) else g 8 k) = nxC (g 8 k) from rfl]
  by_cases q1 : nxC (g 8 k) = 2
  · rw [if_pos q1]; rfl
  · rw [if_neg q1]
    by_cases c3 : g 8 k = 3
    · rw [if_pos c3, if_neg (fun q => hs ⟨q1, Or.inl c3, q⟩)]; rfl
    · rw [if_neg c3]
      by_cases l : g 9 k + 1 < g 3 k
      · rw [if_pos l]; rfl
      · rw [if_neg l, if_neg (fun q => hs ⟨q1, Or.inr l, q⟩)]; rfl
theorem nx_in {c : Int32} (h : c = 0 ∨ c = 1 ∨ c = 2 ∨ c = 3) : nxC c = 0 ∨ nxC c = 1 ∨ nxC c = 2 ∨ nxC c = 3 := by
  unfold nxC
  rcases h with e | e | e | e <;> subst e <;> decide
theorem at_badN (h : AtK f0 f g0 g k) (hK : KC f0 g0 k) : AtK f0 (upd (upd (upd (upd f 7 (nxC (f 7))) 8 (f 8 + 1)) 9 0) 10 0) g0 (wbN g k) k := by
  obtain ⟨u, h1, h2, ⟨h3, h4, h5, h6, h7⟩, h8, h9, h10, h11⟩ := h
  have w5 : 0 < g 4 k := by rw [u.row (r := 4) (by decide)]; exact Int32.lt_of_lt_of_le (show (0 : Int32) < 1 by decide) hK.2.2.2.1
  have hx := nx_in h9
  rw [h3, h4]
  unfold wbN
  refine ⟨u.trans ⟨fun r a1 a2 a3 a4 a5 a6 a7 a8 => by rw [va_up_ne _ _ a4, va_up_ne _ _ a3, va_up_ne _ _ a2, va_up_ne _ _ a1], fun r j hr hj => vu (pk_un hj) (vu (pk_un hj) (vu (pk_un hj) (vu (pk_un hj) rfl)))⟩, fun q hq => by rw [pk_un (show q ≠ 10 by omega), pk_un (show q ≠ 9 by omega), pk_un (show q ≠ 8 by omega), pk_un (show q ≠ 7 by omega)]; exact h1 q hq, h2, ⟨?_, ?_, ?_, ?_, ?_⟩, ?_, ?_, ?_, ?_⟩
  all_goals simp only [va_up, upd, Nat.reduceEqDiff, if_true, if_false]
  all_goals first | assumption | decide | exact fun _ => trivial | exact fun _ => w5
theorem at_badS (h : AtK f0 f g0 g k) (hK : KC f0 g0 k) : AtK f0 (upd (upd (upd (upd (upd f 7 2) 8 (f 8 + 1)) 9 0) 10 0) 16 (f 16 + 1)) g0 (wbS g n k) k := by
  obtain ⟨u, h1, h2, ⟨h3, h4, h5, h6, h7⟩, h8, h9, h10, h11⟩ := h
  have w5 : 0 < g 4 k := by rw [u.row (r := 4) (by decide)]; exact Int32.lt_of_lt_of_le (show (0 : Int32) < 1 by decide) hK.2.2.2.1
  rw [h4, h7]
  unfold wbS
  refine ⟨u.trans ⟨fun r a1 a2 a3 a4 a5 a6 a7 a8 => by rw [va_up_ne _ _ a7, va_up_ne _ _ a6, va_up_ne _ _ a4, va_up_ne _ _ a3, va_up_ne _ _ a2, va_up_ne _ _ a1], fun r j hr hj => by rw [va_up_ne _ _ hr]; exact vu (pk_un hj) (vu (pk_un hj) (vu (pk_un hj) (vu (pk_un hj) (vu ((pk_un hj).trans (pk_un hj)) rfl))))⟩, fun q hq => by rw [pk_un (show q ≠ 16 by omega), pk_un (show q ≠ 10 by omega), pk_un (show q ≠ 9 by omega), pk_un (show q ≠ 8 by omega), pk_un (show q ≠ 7 by omega)]; exact h1 q hq, h2, ⟨?_, ?_, ?_, ?_, ?_⟩, ?_, ?_, ?_, ?_⟩
  all_goals simp only [va_up, upd, Nat.reduceEqDiff, if_true, if_false]
  all_goals first | assumption | decide | exact Or.inr (Or.inr (Or.inl rfl)) | exact fun q => absurd q (by decide) | exact fun _ => w5
theorem cd_0 (h : f 11 = 0) : fX0_countDrive f b = (0, upd (if f 7 = 3 then fX0_growOlder f else f) 11 0) := by
  have g11 : fX0_growOlder f 11 = 0 := by rw [show fX0_growOlder f 11 = f 11 by unfold fX0_growOlder fX0_thaw; split <;> rfl]; exact h
  have n2 : ¬ f 11 = 2 := by rw [h]; decide
  have n1 : ¬ f 11 = 1 := by rw [h]; decide
  unfold fX0_countDrive
  rw [if_neg n2, if_neg n1]
  by_cases c : f 7 = 3
  · rw [if_pos c, if_neg n2, if_pos g11, if_pos c]
  · rw [if_neg c, if_pos h, if_neg c]
theorem cg_11 : fX0_countGood f 11 = f 11 := by
  unfold fX0_countGood
  repeat' split
  all_goals rfl
theorem cd_1 (h : f 11 = 1) : fX0_countDrive f b = (0, upd (upd (if fX0_countGood f 7 = 3 then fX0_growOlder (fX0_countGood f) else fX0_countGood f) 11 0) 12 1) := by
  have e11 : fX0_countGood f 11 = 1 := by rw [cg_11]; exact h
  have g11 : fX0_growOlder (fX0_countGood f) 11 = 1 := by rw [show fX0_growOlder (fX0_countGood f) 11 = fX0_countGood f 11 by unfold fX0_growOlder fX0_thaw; split <;> rfl]; exact e11
  unfold fX0_countDrive
  rw [if_neg (show ¬ f 11 = 2 by rw [h]; decide), if_pos h]
  by_cases c : fX0_countGood f 7 = 3
  · rw [if_pos c, if_neg (show ¬ fX0_countGood f 11 = 2 by rw [e11]; decide), if_neg (show ¬ fX0_growOlder (fX0_countGood f) 11 = 0 by rw [g11]; decide), if_pos c]
  · rw [if_neg c, if_neg (show ¬ fX0_countGood f 11 = 0 by rw [e11]; decide), if_neg c]
theorem cd_2 (h : f 11 = 2) (h2 : (fX0_countBad f b).2 11 = f 11) : fX0_countDrive f b = ((fX0_countBad f b).1, upd (upd (fX0_countBad f b).2 11 0) 12 1) := by
  have e : (fX0_countBad f b).2 11 = 2 := h2.trans h
  have n0 : ¬ (fX0_countBad f b).2 11 = 0 := by rw [e]; decide
  unfold fX0_countDrive
  rw [if_pos h]
  by_cases c : (fX0_countBad f b).2 7 = 3
  · rw [if_pos c, if_pos e, if_neg n0]
  · rw [if_neg c, if_neg n0]
end SIMK
