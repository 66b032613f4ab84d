section SIML
variable {B n mm k : Nat} {t v C FF FO FO2 g g0 g1 g2 : Nat → Nat → Int32} {f f0 f2 : Nat → Int32} {b : Int32}
def bitD (n : Nat) (w : Int32) (be : Nat → Int32) : Prop := ∀ o, o < 16 → ((w >>> (nI o &&& 31)) &&& 1 = 0 ↔ ¬ (o < n ∧ (be o = 1 ∨ be o = 2)))
/-- how the two belong together in the midst of a drive's end, as far as check k -/
def RSt (n : Nat) (t C FF FO g : Nat → Nat → Int32) (k : Nat) : Prop := (n ≤ 16 ∧ t 3 0 = g 20 0 ∧ t 4 0 = g 25 0 ∧ t 5 0 = g 18 0 ∧ ¬ g 18 0 = -1 ∧ (∀ i, i < 4 → t 2 i = g 19 i)) ∧ (∀ j, j < n → RelK C FF g j ∧ WfK g j) ∧ (∀ j, n ≤ j → j < 16 → NewK g j) ∧ RelF n FO g ∧ (∀ j, j < n → C j 11 = if j < k then 0 else g 14 j) ∧ (∀ j, j < n → g 14 j = 0 ∨ g 14 j = 1 ∨ g 14 j = 2) ∧ bitD n (t 7 0) (g 13)
theorem glue (h : RSt n t C FF FO g k) (hk : k < n) (ha : AtK (C k) f g g2 k) (h11 : f 11 = 0) (h12 : f 12 = g2 12 k) (h12b : g2 12 k = 0 ∨ g2 12 k = 1) (hF : RelF n FO2 g2) : RSt n t (va_up C k f) FF FO2 g2 (k + 1) := by
  obtain ⟨⟨a1, a2, a3, a4, a5, a6⟩, b1, b2, b3, b4, b5, b6⟩ := h
  obtain ⟨u, h1, h2, ⟨h3, h4, h5, h6, h7⟩, h8, h9, h10, h11b⟩ := ha
  have e1 : g2 1 = g 1 := u.row (by decide)
  have e2 : g2 2 = g 2 := u.row (by decide)
  have e3 : g2 3 = g 3 := u.row (by decide)
  have e4 : g2 4 = g 4 := u.row (by decide)
  have e5 : g2 5 = g 5 := u.row (by decide)
  have e6 : g2 6 = g 6 := u.row (by decide)
  have e7 : g2 7 = g 7 := u.row (by decide)
  have e13 : g2 13 = g 13 := u.row (by decide)
  have e14 : g2 14 = g 14 := u.row (by decide)
  have e18 : g2 18 = g 18 := u.row (by decide)
  have e19 : g2 19 = g 19 := u.row (by decide)
  have e20 : g2 20 = g 20 := u.row (by decide)
  have e22 : g2 22 = g 22 := u.row (by decide)
  have e23 : g2 23 = g 23 := u.row (by decide)
  have e24 : g2 24 = g 24 := u.row (by decide)
  have e25 : g2 25 = g 25 := u.row (by decide)
  refine ⟨⟨a1, by rw [e20]; exact a2, by rw [e25]; exact a3, by rw [e18]; exact a4, by rw [e18]; exact a5, by rw [e19]; exact a6⟩, fun j hj => ?_, fun j q1 q2 => ?_, hF, fun j hj => ?_, by rw [e14]; exact b5, by rw [e13]; exact b6⟩
  · obtain ⟨k0, k1, k2, k3, k4, k5, k6, k7, k8, k9, k10, k12, k16, kf⟩ := (b1 j hj).1
    obtain ⟨w1, w2, w3, w4, w5, w6, w7⟩ := (b1 j hj).2
    by_cases e : j = k
    · subst e
      constructor
      · unfold RelK
        rw [va_up_self, e1, e2, e3, e4, e5, e6, e7, e22, e23, e24, h1 0 (by decide), h1 1 (by decide), h1 2 (by decide), h1 3 (by decide), h1 4 (by decide), h1 5 (by decide), h1 6 (by decide)]
        refine ⟨k0, k1, k2, k3, k4, k5, k6, h3, h4, h5, h6, h12, h7, ?_⟩
        rcases h8 with ⟨q1, q2⟩ | ⟨q1, q2⟩
        · rw [q1, q2, h2]; exact kf
        · exact Or.inl ⟨q2, q1⟩
      · unfold WfK
        rw [e1, e2, e4] at *
        exact ⟨w1, h9, h10, h11b, w5, w6, h12b⟩
    · have uj := fun r hr => u.2 r j hr e
      constructor
      · unfold RelK
        rw [va_up_ne _ _ e, e22, uj 1 (by decide), uj 2 (by decide), uj 3 (by decide), uj 4 (by decide), uj 5 (by decide), uj 6 (by decide), uj 7 (by decide), uj 8 (by decide), uj 9 (by decide), uj 10 (by decide), uj 11 (by decide), uj 12 (by decide), uj 15 (by decide), uj 21 (by decide), uj 23 (by decide), uj 24 (by decide)]
        exact (b1 j hj).1
      · unfold WfK
        rw [uj 1 (by decide), uj 2 (by decide), uj 4 (by decide), uj 8 (by decide), uj 10 (by decide), uj 12 (by decide)]
        exact (b1 j hj).2
  · have uj := fun r hr => u.2 r j hr (show j ≠ k by omega)
    unfold NewK
    rw [uj 8 (by decide), uj 9 (by decide), uj 10 (by decide), uj 11 (by decide), uj 12 (by decide), uj 15 (by decide), uj 21 (by decide)]
    exact b2 j q1 q2
  · by_cases e : j = k
    · subst e
      rw [va_up_self, if_pos (by omega)]; exact h11
    · rw [va_up_ne _ _ e, e14, b4 j hj]
      by_cases q : j < k
      · rw [if_pos q, if_pos (by omega)]
      · rw [if_neg q, if_neg (by omega)]
theorem rs_freeze {k1 : Nat} (h : RSt n t C FF FO g k1) (hk : k < n) : RSt n (fX2_freeze n t C FF k).1 (fX2_freeze n t C FF k).2.1 (fX2_freeze n t C FF k).2.2 FO (fX3_freezes g n k) k1 := by
  obtain ⟨⟨a1, a2, a3, a4, a5, a6⟩, b1, b2, b3, b4, b5, b6⟩ := h
  obtain ⟨i1, i2, i3, i4, i5, i6⟩ := freeze_rel (t := t) (C := C) (FF := FF) (g := g) a1 hk (fun j hj => (b1 j hj).1) a2 a3 a4 a5 a6
  have e := fun r (hr : r < 21) => i4 r (by omega) (by omega) (by omega) (by omega) (by omega)
  rw [i2]
  refine ⟨⟨a1, by rw [e 20 (by decide)]; exact a2, by rw [i3, ← a3]; rfl, by rw [e 18 (by decide)]; exact a4, by rw [e 18 (by decide)]; exact a5, by rw [e 19 (by decide)]; exact a6⟩, fun j hj => ⟨i1 j hj, ?_⟩, fun j q1 q2 => ?_, ?_, fun j hj => ?_, by rw [e 14 (by decide)]; exact b5, by rw [e 13 (by decide)]; exact b6⟩
  · unfold WfK
    rw [e 1 (by decide), e 2 (by decide), e 4 (by decide), e 8 (by decide), e 10 (by decide), e 12 (by decide)]
    exact (b1 j hj).2
  · obtain ⟨n1, n2, n3, n4, n5, n6, n7⟩ := b2 j q1 q2
    unfold NewK
    rw [e 8 (by decide), e 9 (by decide), e 10 (by decide), e 11 (by decide), e 12 (by decide), e 15 (by decide), i6 j q1]
    exact ⟨n1, n2, n3, n4, n5, n6, n7⟩
  · unfold RelF
    rw [e 16 (by decide)]; exact b3
  · rw [i5 j 11 (by decide) (by decide), e 14 (by decide)]; exact b4 j hj
theorem relF_eq (h : RelF n FO g) (e : g2 16 = g 16) : RelF n FO g2 := by
  unfold RelF
  rw [e]; exact h
theorem relF_set {w : Int32} (h : RelF n FO g) (hk : k < n) (hb : bitD n w (g 13)) (e : g2 16 = fo16 (g 13) (g 16) k n) : RelF n (va_up FO k (foB (FO k) w 16)) g2 := by
  intro kk o hkk ho
  have q1 : (16 * o + kk) % 16 = kk := by omega
  have q2 : (16 * o + kk) / 16 = o := by omega
  obtain ⟨r1, r2⟩ := h kk o hkk ho
  rw [e]
  simp only [fo16, q1, q2]
  by_cases c : kk = k
  · subst c
    rw [va_up_self]
    refine ⟨fun _ => ?_, fun q => absurd hk (by omega)⟩
    have hv := r1 hk
    simp only [foB]
    by_cases z : (w >>> (nI o &&& 31)) &&& 1 = 0
    · have z2 := (hb o ho).mp z
      rw [if_neg (fun q => q.2 z), hv]
      by_cases on : o < n
      · rw [if_pos ⟨trivial, on⟩, if_neg (fun q => z2 ⟨on, Or.inl q⟩), if_neg (fun q => z2 ⟨on, Or.inr q⟩)]
        exact (Int32.add_zero _).symm
      · rw [if_neg (fun q => on q.2)]
    · have z2 : o < n ∧ (g 13 o = 1 ∨ g 13 o = 2) := Classical.byContradiction fun q => z ((hb o ho).mpr q)
      rw [if_pos ⟨ho, z⟩, if_pos ⟨trivial, z2.1⟩, hv]
      by_cases p1 : g 13 o = 1
      · rw [if_pos p1]
      · rw [if_neg p1, if_pos (z2.2.elim (fun q => absurd q p1) id)]
  · rw [va_up_ne _ _ c, if_neg (fun q => c q.1)]
    exact ⟨r1, r2⟩
theorem held_up (hn16 : n ≤ 16) (hn : k < n) (b1 : ∀ j, j < n → RelK C FF g j ∧ WfK g j) (c : Int32) : heldF (g 1) (g 2) (upd (g 8) k c) k = heldC C k := by
  obtain ⟨k0, k1, -⟩ := (b1 k hn).1
  have hW := (b1 k hn).2.1
  unfold heldC heldF
  rw [k0, k1]
  by_cases q : g 1 k = 2
  · obtain ⟨z, hz, e⟩ := hW q
    obtain ⟨f0, f1, f2, f3, f4, f5, f6, f7, -⟩ := (b1 z (by omega)).1
    rw [if_pos q, e, ix_nI (by omega), f7, pk_un (show z ≠ k by omega)]
    by_cases c1 : g 8 z = 1
    · rw [if_pos c1, bI_t ⟨q, Or.inl c1⟩]
    · by_cases c2 : g 8 z = 2
      · rw [if_neg c1, if_pos c2, bI_t ⟨q, Or.inr c2⟩]
      · rw [if_neg c1, if_neg c2, bI_f (fun w => w.2.elim c1 c2)]
  · rw [if_neg q, bI_f (fun w => q w.1)]
end SIML
