section SIMI
variable {B n mm : Nat} {t v C FF FO g : Nat → Nat → Int32}
theorem nI_nm1 {j : Nat} (h : j < 2 ^ 31) : ¬ nI j = -1 := by
  intro q
  have := nI_pos h
  rw [q] at this
  exact this (by decide)
theorem lf_rel (hn : n ≤ 16) (hk : ∀ k, k < n → RelK C FF g k) : ∀ k, k ≤ n → (lfC C k = none ∧ lfF (g 21) (g 1) (g 6) (g 24) k = -1) ∨ ∃ j, j < k ∧ lfC C k = some j ∧ lfF (g 21) (g 1) (g 6) (g 24) k = nI j ∧ ¬ C j 13 = -1
  | 0, _ => Or.inl ⟨rfl, rfl⟩
  | k + 1, hkn => by
    have fz : ∀ k, k < n → (C k 13 = -1 ↔ g 21 k = 0) ∧ (¬ C k 13 = -1 → C k 14 = g 24 k) ∧ C k 0 = g 1 k ∧ C k 5 = g 6 k := by
      intro k hkn
      obtain ⟨k0, k1, k2, k3, k4, k5, k6, k7, k8, k9, k10, k12, k16, kf⟩ := hk k hkn
      rcases kf with ⟨h1, h2⟩ | ⟨h1, h2, h3, h4, -⟩
      · exact ⟨⟨fun _ => h1, fun _ => h2⟩, fun q => absurd h2 q, k0, k5⟩
      · exact ⟨⟨fun q => absurd q h3, fun q => absurd (h1.symm.trans q) (by decide)⟩, fun _ => h4, k0, k5⟩
    obtain ⟨hA, h14, k0, k5⟩ := fz k (by omega)
    rw [lfC, lfF]
    rcases lf_rel hn hk k (by omega) with ⟨e1, e2⟩ | ⟨j, hj, e1, e2, e3⟩
    · by_cases c : ¬ C k 13 = -1 ∧ ¬ C k 0 = 1
      · have c1 : ¬ C k 13 = -1 ∧ ¬ C k 0 = 1 ∧ ∀ j, lfC C k = some j → C k 5 < C j 5 ∨ (C k 5 = C j 5 ∧ C k 14 < C j 14) := ⟨c.1, c.2, fun j q => by rw [e1] at q; exact absurd q (by simp)⟩
        have c2 : ¬ g 21 k = 0 ∧ ¬ g 1 k = 1 ∧ (lfF (g 21) (g 1) (g 6) (g 24) k = -1 ∨ g 6 k < g 6 (ix (lfF (g 21) (g 1) (g 6) (g 24) k)) ∨ (g 6 k = g 6 (ix (lfF (g 21) (g 1) (g 6) (g 24) k)) ∧ g 24 k < g 24 (ix (lfF (g 21) (g 1) (g 6) (g 24) k)))) := ⟨fun q => c.1 (hA.mpr q), by rw [← k0]; exact c.2, Or.inl e2⟩
        rw [if_pos c1, if_pos c2]
        exact Or.inr ⟨k, by omega, rfl, rfl, c.1⟩
      · have c1 : ¬ (¬ C k 13 = -1 ∧ ¬ C k 0 = 1 ∧ ∀ j, lfC C k = some j → C k 5 < C j 5 ∨ (C k 5 = C j 5 ∧ C k 14 < C j 14)) := fun q => c ⟨q.1, q.2.1⟩
        have c2 : ¬ (¬ g 21 k = 0 ∧ ¬ g 1 k = 1 ∧ (lfF (g 21) (g 1) (g 6) (g 24) k = -1 ∨ g 6 k < g 6 (ix (lfF (g 21) (g 1) (g 6) (g 24) k)) ∨ (g 6 k = g 6 (ix (lfF (g 21) (g 1) (g 6) (g 24) k)) ∧ g 24 k < g 24 (ix (lfF (g 21) (g 1) (g 6) (g 24) k))))) := fun q => c ⟨fun z => q.1 (hA.mp z), by rw [k0]; exact q.2.1⟩
        rw [if_neg c1, if_neg c2]
        exact Or.inl ⟨e1, e2⟩
    · obtain ⟨jA, j14, j0, j5⟩ := fz j (by omega)
      have ej : ix (lfF (g 21) (g 1) (g 6) (g 24) k) = j := by rw [e2, ix_nI (by omega)]
      by_cases c : ¬ C k 13 = -1 ∧ ¬ C k 0 = 1 ∧ (C k 5 < C j 5 ∨ (C k 5 = C j 5 ∧ C k 14 < C j 14))
      · have c1 : ¬ C k 13 = -1 ∧ ¬ C k 0 = 1 ∧ ∀ j, lfC C k = some j → C k 5 < C j 5 ∨ (C k 5 = C j 5 ∧ C k 14 < C j 14) := ⟨c.1, c.2.1, fun i q => by
          rw [e1] at q
          have := Option.some.inj q
          subst this
          exact c.2.2⟩
        have c2 : ¬ g 21 k = 0 ∧ ¬ g 1 k = 1 ∧ (lfF (g 21) (g 1) (g 6) (g 24) k = -1 ∨ g 6 k < g 6 (ix (lfF (g 21) (g 1) (g 6) (g 24) k)) ∨ (g 6 k = g 6 (ix (lfF (g 21) (g 1) (g 6) (g 24) k)) ∧ g 24 k < g 24 (ix (lfF (g 21) (g 1) (g 6) (g 24) k)))) := ⟨fun q => c.1 (hA.mpr q), by rw [← k0]; exact c.2.1, Or.inr (by
          rw [ej, ← k5, ← j5, ← h14 c.1, ← j14 e3]; exact c.2.2)⟩
        rw [if_pos c1, if_pos c2]
        exact Or.inr ⟨k, by omega, rfl, rfl, c.1⟩
      · have c1 : ¬ (¬ C k 13 = -1 ∧ ¬ C k 0 = 1 ∧ ∀ j, lfC C k = some j → C k 5 < C j 5 ∨ (C k 5 = C j 5 ∧ C k 14 < C j 14)) := fun q => c ⟨q.1, q.2.1, q.2.2 j e1⟩
        have c2 : ¬ (¬ g 21 k = 0 ∧ ¬ g 1 k = 1 ∧ (lfF (g 21) (g 1) (g 6) (g 24) k = -1 ∨ g 6 k < g 6 (ix (lfF (g 21) (g 1) (g 6) (g 24) k)) ∨ (g 6 k = g 6 (ix (lfF (g 21) (g 1) (g 6) (g 24) k)) ∧ g 24 k < g 24 (ix (lfF (g 21) (g 1) (g 6) (g 24) k))))) := by
          rintro ⟨q1, q2, q3⟩
          have a1 : ¬ C k 13 = -1 := fun z => q1 (hA.mp z)
          refine c ⟨a1, by rw [k0]; exact q2, ?_⟩
          rcases q3 with q | q
          · exact absurd (e2.symm.trans q) (nI_nm1 (by omega))
          · rw [ej, ← k5, ← j5, ← h14 a1, ← j14 e3] at q; exact q
        rw [if_neg c1, if_neg c2]
        exact Or.inr ⟨j, by omega, e1, e2, e3⟩
theorem thaw_rel (hk : ∀ k, k < n → RelK C FF g k) (z : Nat) : ∀ k, k < n → RelK (va_up C z (fX0_thaw (C z))) FF (va_up g 21 (upd (g 21) z 0)) k := by
  intro k hkn
  obtain ⟨k0, k1, k2, k3, k4, k5, k6, k7, k8, k9, k10, k12, k16, kf⟩ := hk k hkn
  by_cases e : k = z
  · subst e
    unfold RelK
    rw [va_up_self]
    exact ⟨k0, k1, k2, k3, k4, k5, k6, k7, k8, k9, k10, k12, k16, Or.inl ⟨pk_us, rfl⟩⟩
  · unfold RelK
    rw [va_up_ne C _ e]
    refine ⟨k0, k1, k2, k3, k4, k5, k6, k7, k8, k9, k10, k12, k16, ?_⟩
    show (upd (g 21) z 0 k = 0 ∧ _) ∨ (upd (g 21) z 0 k = 1 ∧ _)
    rw [pk_un e]; exact kf
theorem thaw_col (C : Nat → Nat → Int32) (z j q : Nat) (hq : q ≠ 13) : va_up C z (fX0_thaw (C z)) j q = C j q := by
  by_cases e : j = z
  · subst e; rw [va_up_self]; exact pk_un hq
  · rw [va_up_ne C _ e]
theorem th_rel (hn : n ≤ 16) (r : Int32) : ∀ (z : Nat) (C : Nat → Nat → Int32) (a : Nat → Int32), (∀ k, k < n → RelK C FF (va_up g 21 a) k) → (∀ k, k < n → RelK (thC r n z C) FF (va_up g 21 (thw (g 1) (g 6) (g 24) r n z a)) k) ∧ (∀ j q, q ≠ 13 → thC r n z C j q = C j q) ∧ (∀ j, n ≤ j → thw (g 1) (g 6) (g 24) r n z a j = a j)
  | 0, C, a, h => ⟨h, fun _ _ _ => rfl, fun _ _ => rfl⟩
  | z + 1, C, a, h => by
    have hs : sumN (fun j => if C j 13 = -1 then 0 else 1) n = sumN (fun j => if a j = 0 then 0 else 1) n := froz_sum h
    have lf : (lfC C n = none ∧ lfF a (g 1) (g 6) (g 24) n = -1) ∨ ∃ j, j < n ∧ lfC C n = some j ∧ lfF a (g 1) (g 6) (g 24) n = nI j ∧ ¬ C j 13 = -1 := lf_rel hn h n (Nat.le_refl _)
    rw [thC, thw, hs]
    rcases lf with ⟨e1, e2⟩ | ⟨j, hj, e1, e2, e3⟩
    · have c1 : ¬ (r < sumN (fun j => if a j = 0 then 0 else 1) n ∧ ¬ lfC C n = none) := fun q => q.2 e1
      have c2 : ¬ (r < sumN (fun j => if a j = 0 then 0 else 1) n ∧ ¬ lfF a (g 1) (g 6) (g 24) n = -1) := fun q => q.2 e2
      rw [if_neg c1, if_neg c2]
      exact ⟨h, fun _ _ _ => rfl, fun _ _ => rfl⟩
    · by_cases c : r < sumN (fun j => if a j = 0 then 0 else 1) n
      · have c1 : r < sumN (fun j => if a j = 0 then 0 else 1) n ∧ ¬ lfC C n = none := ⟨c, by rw [e1]; simp⟩
        have c2 : r < sumN (fun j => if a j = 0 then 0 else 1) n ∧ ¬ lfF a (g 1) (g 6) (g 24) n = -1 := ⟨c, by rw [e2]; exact nI_nm1 (by omega)⟩
        have eD : lfD C n = j := by unfold lfD; rw [e1]; rfl
        rw [if_pos c1, if_pos c2, eD, e2, ix_nI (by omega)]
        obtain ⟨i1, i2, i3⟩ := th_rel hn r z (va_up C j (fX0_thaw (C j))) (upd a j 0) (thaw_rel h j)
        refine ⟨i1, fun i q hq => ?_, fun i hi => ?_⟩
        · rw [i2 i q hq, thaw_col C j i q hq]
        · rw [i3 i hi, pk_un (by omega)]
      · have c1 : ¬ (r < sumN (fun j => if a j = 0 then 0 else 1) n ∧ ¬ lfC C n = none) := fun q => c q.1
        have c2 : ¬ (r < sumN (fun j => if a j = 0 then 0 else 1) n ∧ ¬ lfF a (g 1) (g 6) (g 24) n = -1) := fun q => c q.1
        rw [if_neg c1, if_neg c2]
        exact ⟨h, fun _ _ _ => rfl, fun _ _ => rfl⟩
theorem sr_a (a1 : n ≤ 16) (b1 : ∀ k, k < n → RelK C FF g k ∧ WfK g k) (x : Int32) (z : Nat) : (∀ k, k < n → RelK (thC x n z C) FF (va_up g 21 (thw (g 1) (g 6) (g 24) x n z (g 21))) k) ∧ (∀ j q, q ≠ 13 → thC x n z C j q = C j q) ∧ (∀ j, n ≤ j → thw (g 1) (g 6) (g 24) x n z (g 21) j = g 21 j) := th_rel (g := g) (FF := FF) a1 x z C (g 21) (fun k hk => (b1 k hk).1)
theorem sr_b {C2 : Nat → Nat → Int32} {a21 : Nat → Int32} (h : Rel B n mm t v C FF FO g) (x : Int32) (i1 : ∀ k, k < n → RelK C2 FF (va_up g 21 a21) k) (i2 : ∀ j q, q ≠ 13 → C2 j q = C j q) (i3 : ∀ j, n ≤ j → a21 j = g 21 j) : Rel B n mm (va_up t 3 (fun _ => x)) v C2 FF FO (va_up (va_up g 20 (fun _ => x)) 21 a21) := by
  obtain ⟨⟨a1, a2, a3, a4, a5, a6, a7, a8, a9⟩, b1, b2, b3, b4, b5⟩ := id h
  refine ⟨⟨a1, a2, a3, rfl, a5, a6, a7, a8, a9⟩, fun k hk => ⟨i1 k hk, (b1 k hk).2⟩, fun k h1 h2 => ?_, b3, ⟨fun q k hk => ?_, fun q => ⟨fun k hk => ?_, (b4.2 q).2⟩⟩, b5⟩
  · obtain ⟨n1, n2, n3, n4, n5, n6, n7⟩ := b2 k h1 h2
    exact ⟨n1, n2, n3, n4, n5, n6, (i3 k h1).trans n7⟩
  · exact (i2 k 11 (by decide)).trans (b4.1 q k hk)
  · obtain ⟨q1, q2⟩ := (b4.2 q).1 k hk
    exact ⟨(i2 k 11 (by decide)).trans q1, q2⟩
theorem sim_room (h : Rel B n mm t v C FF FO g) (x : Int32) : (fX2_room n t C x).1 = (fX3_room g n x).1 ∧ Rel B n mm (fX2_room n t C x).2.1 v (fX2_room n t C x).2.2 FF FO (fX3_room g n x).2 := by
  unfold fX2_room fX3_room
  by_cases c : 1 ≤ x ∧ x ≤ 8
  · rw [if_pos c, if_pos c]
    obtain ⟨i1, i2, i3⟩ := sr_a (g := g) (FF := FF) (C := C) h.1.1 h.2.1 x 17
    exact ⟨h.1.2.2.2.1, sr_b h x i1 i2 i3⟩
  · rw [if_neg c, if_neg c]; exact ⟨rfl, h⟩
theorem freeze_rel {k : Nat} (hn : n ≤ 16) (hkn : k < n) (h : ∀ j, j < n → RelK C FF g j) (h3 : t 3 0 = g 20 0) (h4 : t 4 0 = g 25 0) (h5 : t 5 0 = g 18 0) (hm : ¬ g 18 0 = -1) (h2 : ∀ i, i < 4 → t 2 i = g 19 i) : (∀ j, j < n → RelK (fX2_freeze n t C FF k).2.1 (fX2_freeze n t C FF k).2.2 (fX3_freezes g n k) j) ∧ (fX2_freeze n t C FF k).1 = va_up t 4 (fun _ => t 4 0 + 1) ∧ fX3_freezes g n k 25 0 = g 25 0 + 1 ∧ (∀ r, r ≠ 21 → r ≠ 22 → r ≠ 23 → r ≠ 24 → r ≠ 25 → fX3_freezes g n k r = g r) ∧ (∀ j q, q ≠ 13 → q ≠ 14 → (fX2_freeze n t C FF k).2.1 j q = C j q) ∧ (∀ j, n ≤ j → fX3_freezes g n k 21 j = g 21 j) := by
  have core : ∀ j, j < n → RelK (va_up C k (upd (upd (C k) 13 (t 5 0)) 14 (t 4 0))) (va_up FF k (va_cpy (t 2) (FF k) 0 0 4)) (va_up (va_up (va_up (va_up (va_up g 21 (upd (g 21) k 1)) 22 (ff4 (g 19) (g 22) k 4)) 23 (upd (g 23) k (g 18 0))) 24 (upd (g 24) k (g 25 0))) 25 (fun _ => (g 25 0) + 1)) j := by
    intro j hj
    obtain ⟨k0, k1, k2, k3, k4, k5, k6, k7, k8, k9, k10, k12, k16, kf⟩ := h j hj
    by_cases e : j = k
    · subst e
      unfold RelK
      rw [va_up_self, va_up_self]
      refine ⟨k0, k1, k2, k3, k4, k5, k6, k7, k8, k9, k10, k12, k16, Or.inr ⟨pk_us, ?_, ?_, ?_, fun i hi => ?_⟩⟩
      · show t 5 0 = upd (g 23) j (g 18 0) j
        rw [pk_us, h5]
      · show ¬ t 5 0 = -1
        rw [h5]; exact hm
      · show t 4 0 = upd (g 24) j (g 25 0) j
        rw [pk_us, h4]
      · show va_cpy (t 2) (FF j) 0 0 4 i = ff4 (g 19) (g 22) j 4 (4 * j + i)
        have e1 : ff4 (g 19) (g 22) j 4 (4 * j + i) = g 19 (4 * j + i - 4 * j) := if_pos ⟨by omega, by omega⟩
        rw [e1, show 4 * j + i - 4 * j = i by omega, pk_cpy_in (Nat.zero_le _) (by omega), ← h2 i hi]
        congr 1; omega
    · unfold RelK
      rw [va_up_ne C _ e, va_up_ne FF _ e]
      refine ⟨k0, k1, k2, k3, k4, k5, k6, k7, k8, k9, k10, k12, k16, ?_⟩
      show (upd (g 21) k 1 j = 0 ∧ _) ∨ (upd (g 21) k 1 j = 1 ∧ _ = upd (g 23) k (g 18 0) j ∧ _ ∧ _ = upd (g 24) k (g 25 0) j ∧ ∀ i, i < 4 → FF j i = ff4 (g 19) (g 22) k 4 (4 * j + i))
      rw [pk_un e, pk_un e, pk_un e]
      rcases kf with q | ⟨q1, q2, q3, q4, q5⟩
      · exact Or.inl q
      · refine Or.inr ⟨q1, q2, q3, q4, fun i hi => ?_⟩
        have e1 : ff4 (g 19) (g 22) k 4 (4 * j + i) = g 22 (4 * j + i) := if_neg (by omega)
        rw [e1]; exact q5 i hi
  have hs : sumN (fun j => if (va_up C k (upd (upd (C k) 13 (t 5 0)) 14 (t 4 0))) j 13 = -1 then 0 else 1) n = sumN (fun j => if (upd (g 21) k 1) j = 0 then 0 else 1) n := froz_sum core
  have lf : (lfC (va_up C k (upd (upd (C k) 13 (t 5 0)) 14 (t 4 0))) n = none ∧ lfF (upd (g 21) k 1) (g 1) (g 6) (upd (g 24) k (g 25 0)) n = -1) ∨ ∃ j, j < n ∧ lfC (va_up C k (upd (upd (C k) 13 (t 5 0)) 14 (t 4 0))) n = some j ∧ lfF (upd (g 21) k 1) (g 1) (g 6) (upd (g 24) k (g 25 0)) n = nI j ∧ ¬ (va_up C k (upd (upd (C k) 13 (t 5 0)) 14 (t 4 0))) j 13 = -1 := lf_rel hn core n (Nat.le_refl _)
  have ccol : ∀ j q, q ≠ 13 → q ≠ 14 → va_up C k (upd (upd (C k) 13 (t 5 0)) 14 (t 4 0)) j q = C j q := by
    intro j q q13 q14
    by_cases e : j = k
    · subst e; rw [va_up_self, pk_un q14, pk_un q13]
    · rw [va_up_ne C _ e]
  unfold fX2_freeze fX3_freezes
  rw [hs, h3]
  by_cases c : sumN (fun j => if (upd (g 21) k 1) j = 0 then 0 else 1) n ≤ g 20 0
  · rw [if_pos c, if_neg (Int32.not_lt.mpr c)]
    refine ⟨core, rfl, rfl, fun r r1 r2 r3 r4 r5 => ?_, ccol, fun j hj => ?_⟩
    · rw [va_up_ne _ _ r5, va_up_ne _ _ r4, va_up_ne _ _ r3, va_up_ne _ _ r2, va_up_ne _ _ r1]
    · exact pk_un (show j ≠ k by omega)
  · rw [if_neg c, if_pos (Int32.not_le.mp c)]
    rcases lf with ⟨e1, e2⟩ | ⟨z, hz, e1, e2, e3⟩
    · rw [if_pos e1, if_pos e2]
      refine ⟨thaw_rel core k, rfl, rfl, fun r r1 r2 r3 r4 r5 => ?_, fun j q q13 q14 => ?_, fun j hj => ?_⟩
      · rw [va_up_ne _ _ r5, va_up_ne _ _ r4, va_up_ne _ _ r3, va_up_ne _ _ r2, va_up_ne _ _ r1]
      · exact (thaw_col _ k j q q13).trans (ccol j q q13 q14)
      · exact (pk_un (show j ≠ k by omega)).trans (pk_un (show j ≠ k by omega))
    · have eD : lfD (va_up C k (upd (upd (C k) 13 (t 5 0)) 14 (t 4 0))) n = z := by unfold lfD; rw [e1]; rfl
      rw [if_neg (by rw [e1]; simp), if_neg (by rw [e2]; exact nI_nm1 (by omega)), eD, e2, ix_nI (by omega)]
      refine ⟨thaw_rel core z, rfl, rfl, fun r r1 r2 r3 r4 r5 => ?_, fun j q q13 q14 => ?_, fun j hj => ?_⟩
      · rw [va_up_ne _ _ r5, va_up_ne _ _ r4, va_up_ne _ _ r3, va_up_ne _ _ r2, va_up_ne _ _ r1]
      · exact (thaw_col _ z j q q13).trans (ccol j q q13 q14)
      · exact (pk_un (show j ≠ z by omega)).trans (pk_un (show j ≠ k by omega))
end SIMI
