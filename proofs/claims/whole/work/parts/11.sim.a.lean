section SIMA
variable {B n mm : Nat} {t v C FF FO g : Nat → Nat → Int32}
theorem sim_start : Rel 0 0 0 tZ vZ (fun _ _ => 0) (fun _ _ => 0) (fun _ _ => 0) gZ := by
  refine ⟨⟨by decide, rfl, rfl, rfl, rfl, rfl, rfl, fun _ _ => rfl, 0, by decide, rfl⟩, fun k hk => absurd hk (Nat.not_lt_zero _), fun k _ _ => ⟨rfl, rfl, rfl, rfl, rfl, rfl, rfl⟩, fun k o _ _ => ⟨fun h => absurd h (Nat.not_lt_zero _), fun _ => rfl⟩, ⟨fun _ k hk => absurd hk (Nat.not_lt_zero _), fun h => absurd rfl h⟩, by decide, rfl, rfl, fun i hi => absurd hi (Nat.not_lt_zero _), ?_, rfl, Or.inl rfl, ⟨0, by decide, rfl⟩, fun h => absurd h (by decide)⟩
  intro z hz
  have : z = 0 := by simpa using hz
  subst this
  rfl
theorem sim_sets (h : Rel B n mm t v C FF FO g) (x : Int32) : fX2_sets t C x = fX3_sets g x := by
  obtain ⟨⟨hnb, hn, hgn, -⟩, hk, -⟩ := h
  unfold fX2_sets fX3_sets
  rw [hn, hgn]
  by_cases c : 0 ≤ x ∧ x ≤ nI n - 1
  · obtain ⟨j, hj, rfl⟩ := ixck rfl (by omega) c
    rw [if_pos c, if_pos c, ix_nI (by omega)]
    exact (hk j hj).1.2.2.2.2.2.2.2.2.2.2.2.2.1
  · rw [if_neg c, if_neg c]
theorem sim_frozenAt (h : Rel B n mm t v C FF FO g) (x : Int32) : fX2_frozenAt t C x = fX3_frozenAt g x := by
  obtain ⟨⟨hnb, hn, hgn, -⟩, hk, -⟩ := h
  unfold fX2_frozenAt fX3_frozenAt
  rw [hn, hgn]
  by_cases c : 0 ≤ x ∧ x ≤ nI n - 1
  · obtain ⟨j, hj, rfl⟩ := ixck rfl (by omega) c
    rw [if_pos c, if_pos c, ix_nI (by omega)]
    rcases (hk j hj).1.2.2.2.2.2.2.2.2.2.2.2.2.2 with ⟨h1, h2⟩ | ⟨h1, h2, -⟩
    · rw [if_pos h1, h2]
    · rw [if_neg (by rw [h1]; decide), h2]
  · rw [if_neg c, if_neg c]
theorem sim_frozen (h : Rel B n mm t v C FF FO g) (x y : Int32) : fX2_frozen t C FF x y = fX3_frozen g x y := by
  obtain ⟨⟨hnb, hn, hgn, -⟩, hk, -⟩ := h
  unfold fX2_frozen fX3_frozen
  rw [hn, hgn]
  by_cases c : 0 ≤ x ∧ x ≤ nI n - 1
  · obtain ⟨j, hj, rfl⟩ := ixck rfl (by omega) c
    rw [if_pos c, if_pos c, ix_nI (by omega)]
    by_cases c2 : 0 ≤ y ∧ y ≤ 3
    · obtain ⟨i, hi, rfl⟩ := ixin (m := 3) (z := 3) rfl (by decide) c2
      rw [if_pos c2, if_pos c2, ix_nI (by omega)]
      rcases (hk j hj).1.2.2.2.2.2.2.2.2.2.2.2.2.2 with ⟨h1, h2⟩ | ⟨h1, h2, h3, h4, h5⟩
      · rw [if_pos h1, if_pos h2]
      · rw [if_neg h3, if_neg (by rw [h1]; decide)]; exact h5 i (by omega)
    · rw [if_neg c2, if_neg c2]
  · rw [if_neg c, if_neg c]
theorem sim_foretells (h : Rel B n mm t v C FF FO g) (y x : Int32) : fX2_foretells t FO y x = fX3_foretells g y x := by
  obtain ⟨⟨hnb, hn, hgn, -⟩, hk, -, hF, -⟩ := h
  unfold fX2_foretells fX3_foretells
  rw [hn, hgn]
  by_cases c : 0 ≤ x ∧ x ≤ nI n - 1
  · by_cases c2 : 0 ≤ y ∧ y ≤ nI n - 1
    · obtain ⟨j, hj, rfl⟩ := ixck rfl (by omega) c
      obtain ⟨i, hi, rfl⟩ := ixck rfl (by omega) c2
      rw [if_pos c, if_pos c, if_pos c2, if_pos c2, ix_nI (by omega), ix_nI (by omega)]
      exact (hF j i (by omega) (by omega)).1 hj
    · rw [if_pos c, if_neg c2, if_neg c2]
  · rw [if_neg c]
    split <;> rfl
theorem anyN_congr {p q : Nat → Bool} : ∀ n : Nat, (∀ k, k < n → p k = q k) → anyN p n = anyN q n
  | 0, _ => rfl
  | n + 1, h => by rw [anyN, anyN, anyN_congr n (fun k hk => h k (by omega)), h n (by omega)]
theorem sumN_congr {p q : Nat → Int32} : ∀ n : Nat, (∀ k, k < n → p k = q k) → sumN p n = sumN q n
  | 0, _ => rfl
  | n + 1, h => by rw [sumN, sumN, sumN_congr n (fun k hk => h k (by omega)), h n (by omega)]
theorem sim_lamp (h : Rel B n mm t v C FF FO g) : bI (anyN (fun j => !(C j 6 == 0) && C j 7 == 2) n = true) = bI (anyN (fun j => !(g 7 j == 0) && g 8 j == 2) n = true) := by
  obtain ⟨-, hk, -⟩ := h
  rw [anyN_congr n (p := fun j => !(C j 6 == 0) && C j 7 == 2) (q := fun j => !(g 7 j == 0) && g 8 j == 2)]
  intro k hkn
  obtain ⟨k0, k1, k2, k3, k4, k5, k6, k7, -⟩ := (hk k hkn).1
  show (!(C k 6 == 0) && C k 7 == 2) = _
  rw [k6, k7]
theorem held_rel (h : Rel B n mm t v C FF FO g) {j : Nat} (hj : j < n) : heldC C j = heldF (g 1) (g 2) (g 8) j := by
  obtain ⟨⟨hnb, -⟩, hk, -⟩ := h
  obtain ⟨k0, k1, -⟩ := (hk j hj).1
  have hW := (hk j hj).2.1
  unfold heldC heldF
  rw [k0, k1]
  by_cases c : g 1 j = 2
  · obtain ⟨f, hf, e⟩ := hW c
    obtain ⟨f0, f1, f2, f3, f4, f5, f6, f7, -⟩ := (hk f (by omega)).1
    rw [if_pos c, e, ix_nI (by omega), f7]
    by_cases c1 : g 8 f = 1
    · rw [if_pos c1, bI_t ⟨c, Or.inl c1⟩]
    · by_cases c2 : g 8 f = 2
      · rw [if_neg c1, if_pos c2, bI_t ⟨c, Or.inr c2⟩]
      · rw [if_neg c1, if_neg c2, bI_f (fun q => q.2.elim c1 c2)]
  · rw [if_neg c, bI_f (fun q => c q.1)]
theorem sim_about (h : Rel B n mm t v C FF FO g) (x y : Int32) : fX2_about t C x y = fX3_about g x y := by
  have hh := fun j hj => held_rel h (j := j) hj
  obtain ⟨⟨hnb, hn, hgn, -⟩, hk, -⟩ := h
  unfold fX2_about fX3_about
  rw [hn, hgn]
  by_cases c : 0 ≤ x ∧ x ≤ nI n - 1
  · obtain ⟨j, hj, rfl⟩ := ixck rfl (by omega) c
    rw [if_pos c, if_pos c, ix_nI (by omega)]
    by_cases c2 : 0 ≤ y ∧ y ≤ 7
    · obtain ⟨i, hi, rfl⟩ := ixin (m := 7) (z := 7) rfl (by decide) c2
      rw [if_pos c2, if_pos c2, hh j hj]
      obtain ⟨k0, k1, k2, k3, k4, k5, k6, k7, k8, k9, k10, k12, k16, kf⟩ := (hk j hj).1
      have kf2 : (if C j 13 = (-1) then (0 : Int32) else 1) = (if g 21 j = 0 then 0 else 1) := by
        rcases kf with ⟨h1, h2⟩ | ⟨h1, h2, h3, -⟩
        · rw [if_pos h1, if_pos h2]
        · rw [if_neg h3, if_neg (by rw [h1]; decide)]
      have d : ∀ a b : Nat, a < 8 → b < 8 → a ≠ b → ¬ nI a = nI b := fun a b ha hb hab q => hab ((nI_eq (by omega) (by omega)).mp q)
      unfold aboutF kNum
      rw [k0, k7, k8, k9, k10, k12, kf2]
      rcases (by omega : i = 0 ∨ i = 1 ∨ i = 2 ∨ i = 3 ∨ i = 4 ∨ i = 5 ∨ i = 6 ∨ i = 7) with rfl | rfl | rfl | rfl | rfl | rfl | rfl | rfl <;> rfl
    · rw [if_neg c2, if_neg c2]
  · rw [if_neg c, if_neg c]
theorem sim_fact (h : Rel B n mm t v C FF FO g) (x y : Int32) : (fX2_fact t x y).1 = (fX3_fact g x y).1 ∧ Rel B n mm (fX2_fact t x y).2 v C FF FO (fX3_fact g x y).2 := by
  unfold fX2_fact fX3_fact
  by_cases c : 0 ≤ x ∧ x ≤ 3
  · by_cases c2 : (-1000) ≤ y ∧ y ≤ 1000
    · rw [if_pos c, if_pos c, if_pos c2, if_pos c2]
      obtain ⟨i, hi, rfl⟩ := ixin (m := 3) (z := 3) rfl (by decide) c
      rw [ix_nI (by omega)]
      obtain ⟨⟨a1, a2, a3, a4, a5, a6, a7, a8, a9⟩, b1, b2, b3, b4, b5⟩ := h
      refine ⟨a8 i (by omega), ⟨a1, a2, a3, a4, a5, a6, a7, ?_, a9⟩, b1, b2, b3, b4, b5⟩
      intro j hj
      show upd (t 2) i y j = upd (g 19) i y j
      by_cases e : j = i
      · subst e; rw [pk_us, pk_us]
      · rw [pk_un e, pk_un e]; exact a8 j hj
    · rw [if_pos c, if_pos c, if_neg c2, if_neg c2]; exact ⟨rfl, h⟩
  · rw [if_neg c, if_neg c]; exact ⟨rfl, h⟩
theorem RelK.ne {C FF g : Nat → Nat → Int32} {k j : Nat} {c : Nat → Int32} (h : RelK C FF g k) (e : k ≠ j) : RelK (va_up C j c) FF g k := by
  unfold RelK at h ⊢
  rw [va_up_ne C c e]; exact h
theorem tell_ne (f : Nat → Int32) (b : Int32) {r : Nat} (h : r ≠ 11) : fX0_tell f b r = f r := by
  unfold fX0_tell
  repeat' split
  all_goals simp [upd, h]
theorem sim_ran (h : Rel B n mm t v C FF FO g) (x b : Int32) : (fX2_ran t C x b).1 = (fX3_ran g x b).1 ∧ Rel B n mm t v (fX2_ran t C x b).2 FF FO (fX3_ran g x b).2 := by
  obtain ⟨⟨a1, a2, a3, a4, a5, a6, a7, a8, a9⟩, b1, b2, b3, b4, b5⟩ := id h
  unfold fX2_ran fX3_ran
  rw [a2, a3, a7]
  by_cases c : 0 ≤ x ∧ x ≤ nI n - 1
  · obtain ⟨j, hj, rfl⟩ := ixck rfl (by omega) c
    rw [if_pos c, if_pos c, ix_nI (by omega)]
    by_cases c2 : g 17 0 = 0
    · rw [if_pos c2, if_pos c2]; exact ⟨rfl, h⟩
    · rw [if_neg c2, if_neg c2]
      refine ⟨rfl, ⟨a1, a2, a3, a4, a5, a6, a7, a8, a9⟩, fun k hk => ⟨?_, (b1 k hk).2⟩, b2, b3, ⟨fun q => absurd q c2, fun _ => ⟨fun k hk => ?_, (b4.2 c2).2⟩⟩, b5⟩
      · by_cases e : k = j
        · subst e
          have h0 : RelK C FF g k := (b1 k hk).1
          show RelK (va_up C k (fX0_tell (C k) b)) FF g k
          unfold RelK at h0 ⊢
          rw [va_up_self]
          simp only [tell_ne _ _ (show (0 : Nat) ≠ 11 by decide), tell_ne _ _ (show (1 : Nat) ≠ 11 by decide), tell_ne _ _ (show (2 : Nat) ≠ 11 by decide), tell_ne _ _ (show (3 : Nat) ≠ 11 by decide), tell_ne _ _ (show (4 : Nat) ≠ 11 by decide), tell_ne _ _ (show (5 : Nat) ≠ 11 by decide), tell_ne _ _ (show (6 : Nat) ≠ 11 by decide), tell_ne _ _ (show (7 : Nat) ≠ 11 by decide), tell_ne _ _ (show (8 : Nat) ≠ 11 by decide), tell_ne _ _ (show (9 : Nat) ≠ 11 by decide), tell_ne _ _ (show (10 : Nat) ≠ 11 by decide), tell_ne _ _ (show (12 : Nat) ≠ 11 by decide), tell_ne _ _ (show (16 : Nat) ≠ 11 by decide), tell_ne _ _ (show (13 : Nat) ≠ 11 by decide), tell_ne _ _ (show (14 : Nat) ≠ 11 by decide)]
          exact h0
        · exact RelK.ne (g := g) (b1 k hk).1 e
      · obtain ⟨t1, t2⟩ := (b4.2 c2).1 k hk
        show va_up C j (fX0_tell (C j) b) k 11 = upd (g 14) j _ k ∧ _
        show _ ∧ (upd (g 14) j _ k = 0 ∨ upd (g 14) j _ k = 1 ∨ upd (g 14) j _ k = 2)
        by_cases e : k = j
        · subst e
          rw [va_up_self, pk_us]
          unfold fX0_tell
          by_cases d : b = 0
          · rw [if_pos d, if_pos d]
            rcases t2 with q | q | q
            · rw [if_pos (by rw [t1]; exact q), if_neg (by rw [q]; decide)]; exact ⟨by simp [upd], Or.inr (Or.inl rfl)⟩
            · rw [if_neg (by rw [t1, q]; decide), if_neg (by rw [q]; decide)]; exact ⟨by rw [t1, q], Or.inr (Or.inl rfl)⟩
            · rw [if_neg (by rw [t1, q]; decide), if_pos q]; exact ⟨by rw [t1, q], Or.inr (Or.inr rfl)⟩
          · rw [if_neg d, if_neg d]; exact ⟨by simp [upd], Or.inr (Or.inr rfl)⟩
        · rw [va_up_ne C _ e, pk_un e]; exact ⟨t1, t2⟩
  · rw [if_neg c, if_neg c]; exact ⟨rfl, h⟩
end SIMA
