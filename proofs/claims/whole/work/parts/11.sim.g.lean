section SIMG
variable {B n mm : Nat} {t v C FF FO g : Nat → Nat → Int32}
theorem bit01 (x : Int32) : x &&& 1 = 0 ∨ x &&& 1 = 1 := by
  have e := pk_and x (m := 1) 1 (by decide)
  rcases Nat.mod_two_eq_zero_or_one x.toBitVec.toNat with q | q
  · exact Or.inl (by rw [e, show 2 ^ 1 = 2 from rfl, q]; rfl)
  · exact Or.inr (by rw [e, show 2 ^ 1 = 2 from rfl, q]; rfl)
theorem shl0 : ∀ m : Fin 17, (0 : Int32) <<< (nI m.val &&& 31) = 0 := by decide
theorem ho_bits (li : Nat → Int32) (ci : Nat) : ∀ k, k ≤ 10 → ∃ H, H < 2 ^ k ∧ hoF li ci k = nI H ∧ ∀ o, H.testBit o = decide (o < k ∧ (li o >>> (nI ci &&& 31)) &&& 1 = 1)
  | 0, _ => ⟨0, by decide, rfl, fun o => by simp⟩
  | k + 1, hk => by
    obtain ⟨m, hm, e, hb⟩ := ho_bits li ci k (by omega)
    rw [hoF]
    rcases bit01 (li k >>> (nI ci &&& 31)) with c | c
    · rw [c, shl0 ⟨k, by omega⟩, Int32.or_zero]
      refine ⟨m, by rw [Nat.pow_succ]; omega, e, fun o => ?_⟩
      rw [hb]
      by_cases e2 : o = k
      · subst e2; rw [c]; simp
      · have : (o < k + 1) ↔ (o < k) := by omega
        simp [this]
    · rw [c]
      refine ⟨m + 2 ^ k, by rw [Nat.pow_succ]; omega, by rw [e, shl1 (by omega), nI_or_pow hm], fun o => ?_⟩
      rw [← or_pow hm, Nat.testBit_or, Nat.testBit_two_pow, hb]
      by_cases e2 : o = k
      · subst e2; simp [c]
      · have : (o < k + 1) ↔ (o < k) := by omega
        simp [Ne.symm e2, this]
theorem wi_bits (li : Nat → Int32) (s ci : Nat) (hs : s < 1024) : ∀ k, k ≤ 10 → ∀ o, (wiN li s ci k).testBit o = decide (o < k ∧ s.testBit o = true ∧ (li o >>> (nI ci &&& 31)) &&& 1 = 1)
  | 0, _ => fun o => by simp [wiN]
  | k + 1, hk => by
    intro o
    have hb := wi_bits li s ci hs k (by omega)
    have hm := wiN_lt li s ci k
    have hbn := bitN (z := s) (by omega) (show k < 16 by omega)
    rw [wiN]
    by_cases c : s.testBit k = true ∧ (li k >>> (nI ci &&& 31)) &&& 1 = 1
    · have c2 : (nI s >>> (nI k &&& 31)) &&& 1 = 1 ∧ (li k >>> (nI ci &&& 31)) &&& 1 = 1 := ⟨hbn.mpr c.1, c.2⟩
      rw [if_pos c2, ← or_pow hm, Nat.testBit_or, Nat.testBit_two_pow, hb]
      by_cases e2 : o = k
      · subst e2; simp [c]
      · have : (o < k + 1) ↔ (o < k) := by omega
        simp [Ne.symm e2, this]
    · have c2 : ¬ ((nI s >>> (nI k &&& 31)) &&& 1 = 1 ∧ (li k >>> (nI ci &&& 31)) &&& 1 = 1) := fun q => c ⟨hbn.mp q.1, q.2⟩
      rw [if_neg c2, Nat.add_zero, hb]
      by_cases e2 : o = k
      · subst e2; simp [c]
      · have : (o < k + 1) ↔ (o < k) := by omega
        simp [this]
theorem ho_wi {li l2 : Nat → Int32} {s ci L : Nat} (hs : s < 1024) (hL : L ≤ 10) (hl : ∀ i, i < L → li i = l2 i) : ix (nI s &&& hoF li ci L) = wiN l2 s ci L := by
  obtain ⟨H, hH, e, hb⟩ := ho_bits li ci L hL
  have hpw := pow_le10 hL
  have hle : s &&& H ≤ s := Nat.and_le_left
  rw [e, nI_and, ix_nI (by omega)]
  apply Nat.eq_of_testBit_eq
  intro o
  rw [Nat.testBit_and, hb, wi_bits l2 s ci hs L hL]
  by_cases c : o < L
  · rw [hl o c]
    cases s.testBit o <;> simp [c]
  · simp [c]
theorem wi_le {li : Nat → Int32} {s ci L : Nat} (hs : s < 1024) (hL : L ≤ 10) : wiN li s ci L ≤ s := by
  rw [← ho_wi (li := li) hs hL (fun _ _ => rfl)]
  obtain ⟨H, hH, e, hb⟩ := ho_bits li ci L hL
  have hpw := pow_le10 hL
  have hle : s &&& H ≤ s := Nat.and_le_left
  rw [e, nI_and, ix_nI (by omega)]
  exact hle
/-- one test's pick, on either side -/
theorem pf_pl {p p2 li l2 ho S S2 : Nat → Int32} {s L : Nat} (hs : s < 1024) (hL : L ≤ 10) (hS : ∀ j, j < s → S j = S2 j) (hl : ∀ i, i < L → li i = l2 i) : ∀ i, (∀ j, j < i → p j = p2 j ∧ ho j = hoF li j L) → pfI p ho S s i = plI p2 l2 S2 L s i
  | 0, _ => rfl
  | i + 1, h => by
    rw [pfI, plI, pf_pl hs hL hS hl i (fun j hj => h j (by omega))]
    obtain ⟨h1, h2⟩ := h i (by omega)
    have hw := wi_le (li := l2) (ci := i) hs hL
    rw [h1, h2, ho_wi hs hL hl]
    by_cases c : ¬ wiN l2 s i L = 0 ∧ ¬ wiN l2 s i L = s
    · rw [hS (wiN l2 s i L) (by omega), hS (s - wiN l2 s i L) (by omega)]
    · rw [if_neg (fun q => c ⟨q.1, q.2.1⟩), if_neg (fun q => c ⟨q.1, q.2.1⟩)]
theorem popG_two {t s : Nat} (h1 : popG t s = 1) (hs : s < 2 ^ t) : ∀ w, (∀ o, w.testBit o = true → s.testBit o = true) → w = 0 ∨ w = s := by
  induction t generalizing s with
  | zero => exact absurd h1 (by simp [popG])
  | succ t ih =>
    intro w hw
    rw [popG] at h1
    have hs2 : s / 2 < 2 ^ t := by rw [Nat.pow_succ] at hs; omega
    have hw2 : ∀ o, (w / 2).testBit o = true → (s / 2).testBit o = true := by
      intro o ho
      rw [← Nat.testBit_succ] at ho ⊢
      exact hw _ ho
    have hw0 : w % 2 = 1 → s % 2 = 1 := by
      intro q
      have := hw 0 (by rw [Nat.testBit_zero]; simp [q])
      rw [Nat.testBit_zero] at this
      simpa using this
    rcases Nat.mod_two_eq_zero_or_one s with e | e
    · rw [e, Nat.zero_add] at h1
      have := ih h1 hs2 (w / 2) hw2
      omega
    · have h0 : popG t (s / 2) = 0 := by omega
      have z0 : ∀ t s, popG t s = 0 → s < 2 ^ t → s = 0 := by
        intro t
        induction t with
        | zero => intro s _ h; simpa using h
        | succ t iht =>
          intro s h hs
          rw [popG] at h
          have := iht (s / 2) (by omega) (by rw [Nat.pow_succ] at hs; omega)
          omega
      have e0 := z0 t (s / 2) h0 hs2
      have ew : w / 2 = 0 := by
        apply Nat.eq_of_testBit_eq
        intro i
        rw [Nat.zero_testBit]
        cases q : (w / 2).testBit i with
        | false => rfl
        | true => have := hw2 i q; rw [e0, Nat.zero_testBit] at this; exact absurd this (by decide)
      omega
theorem popG_pos : ∀ t s, 0 < s → s < 2 ^ t → 0 < popG t s
  | 0, s, h0, h => by have : s < 1 := by simpa using h
                      omega
  | t + 1, s, h0, h => by
    rw [popG]
    rcases Nat.mod_two_eq_zero_or_one s with e | e
    · have := popG_pos t (s / 2) (by omega) (by rw [Nat.pow_succ] at h; omega)
      omega
    · omega
theorem pl_one {p li S : Nat → Int32} {s L : Nat} (hs : s < 1024) (hL : L ≤ 10) (h1 : popG 16 s = 1) : ∀ i, plI p li S L s i = (0, -1)
  | 0 => rfl
  | i + 1 => by
    rw [plI, pl_one hs hL h1 i]
    refine if_neg (fun q => ?_)
    rcases popG_two h1 (by omega) (wiN li s i L) (fun o ho => by
      rw [wi_bits li s i hs L hL] at ho
      exact (of_decide_eq_true ho).2.1) with e | e
    · exact q.1 e
    · exact q.2.1 e
/-- all of the plan's rows, on either side -/
theorem mp_pl {p p2 li l2 ho S0 z0 z1 : Nat → Int32} {f0 : Int32} {L mm : Nat} (hL : L ≤ 10) (h0 : S0 0 = 0) (hl : ∀ i, i < L → li i = l2 i) (hp : ∀ j, j < mm → p j = p2 j ∧ ho j = hoF li j L) : ∀ k, k < 2 ^ L → (∀ j, j ≤ k → (mpF p ho mm S0 f0 k).1 j = (plO p2 l2 L mm z0 z1 (k + 1)).1 j) ∧ (1 ≤ k → (mpF p ho mm S0 f0 k).2 = (plO p2 l2 L mm z0 z1 (k + 1)).2 k)
  | 0, _ => by
    refine ⟨fun j hj => ?_, fun q => absurd q (by decide)⟩
    have : j = 0 := by omega
    subst this
    rw [plO, if_neg (show ¬ 1 < popG 16 0 by rw [popG_0]; decide)]
    exact h0
  | k + 1, hk => by
    obtain ⟨i1, i2⟩ := mp_pl (z0 := z0) (z1 := z1) (f0 := f0) hL h0 hl hp k (by omega)
    have hpw := pow_le10 hL
    have e : pfI p ho (mpF p ho mm S0 f0 k).1 (k + 1) mm = (if 1 < popG 16 (k + 1) then plI p2 l2 (plO p2 l2 L mm z0 z1 (k + 1)).1 L (k + 1) mm else (0, -1)) := by
      rw [pf_pl (s := k + 1) (by omega) hL (fun j hj => i1 j (by omega)) hl mm hp]
      by_cases c : 1 < popG 16 (k + 1)
      · rw [if_pos c]
      · have := popG_pos 16 (k + 1) (by omega) (by omega)
        rw [if_neg c, pl_one (by omega) hL (by omega)]
    rw [mpF, plO, e]
    refine ⟨fun j hj => ?_, fun _ => pk_us.symm⟩
    show upd _ _ _ j = upd _ _ _ j
    by_cases q : j = k + 1
    · subst q; rw [pk_us, pk_us]
    · rw [pk_un q, pk_un q]; exact i1 j (by omega)
theorem mp_0 (p ho S0 : Nat → Int32) (mm : Nat) (f0 : Int32) : ∀ k, (mpF p ho mm S0 f0 k).1 0 = S0 0
  | 0 => rfl
  | k + 1 => by
    rw [mpF]
    show upd (mpF p ho mm S0 f0 k).1 (k + 1) (pfI p ho (mpF p ho mm S0 f0 k).1 (k + 1) mm).1 0 = S0 0
    rw [pk_un (show 0 ≠ k + 1 by omega)]
    exact mp_0 p ho S0 mm f0 k
theorem wi_congr {li l2 : Nat → Int32} {s ci L : Nat} (hs : s < 1024) (hL : L ≤ 10) (hl : ∀ i, i < L → li i = l2 i) : wiN li s ci L = wiN l2 s ci L := by
  rw [← ho_wi (li := li) hs hL (fun _ _ => rfl), ho_wi hs hL hl]
theorem pl_congr {p p2 li l2 S S2 : Nat → Int32} {s L : Nat} (hs : s < 1024) (hL : L ≤ 10) (hS : ∀ j, j < s → S j = S2 j) (hl : ∀ i, i < L → li i = l2 i) : ∀ i, (∀ j, j < i → p j = p2 j) → plI p li S L s i = plI p2 l2 S2 L s i
  | 0, _ => rfl
  | i + 1, h => by
    rw [plI, plI, pl_congr hs hL hS hl i (fun j hj => h j (by omega)), h i (by omega), wi_congr hs hL hl]
    have hw := wi_le (li := l2) (ci := i) hs hL
    by_cases c : ¬ wiN l2 s i L = 0 ∧ ¬ wiN l2 s i L = s
    · rw [hS (wiN l2 s i L) (by omega), hS (s - wiN l2 s i L) (by omega)]
    · rw [if_neg (fun q => c ⟨q.1, q.2.1⟩), if_neg (fun q => c ⟨q.1, q.2.1⟩)]
theorem po_congr {p p2 li l2 z0 z1 y0 y1 : Nat → Int32} {L mm : Nat} (hL : L ≤ 10) (hl : ∀ i, i < L → li i = l2 i) (hp : ∀ j, j < mm → p j = p2 j) : ∀ s, s ≤ 2 ^ L → ∀ j, j < s → (plO p li L mm z0 z1 s).1 j = (plO p2 l2 L mm y0 y1 s).1 j ∧ (plO p li L mm z0 z1 s).2 j = (plO p2 l2 L mm y0 y1 s).2 j
  | 0, _ => fun j hj => absurd hj (Nat.not_lt_zero _)
  | s + 1, hs => by
    intro j hj
    have i1 := po_congr (z0 := z0) (z1 := z1) (y0 := y0) (y1 := y1) hL hl hp s (by omega)
    have hpw := pow_le10 hL
    rw [plO, plO, pl_congr (s := s) (by omega) hL (fun j hj => (i1 j hj).1) hl mm hp]
    show upd _ _ _ j = upd _ _ _ j ∧ upd _ _ _ j = upd _ _ _ j
    by_cases q : j = s
    · subst q; simp only [pk_us, and_self]
    · rw [pk_un q, pk_un q, pk_un q, pk_un q]; exact i1 j (by omega)
end SIMG
