section SIMH
variable {B n mm : Nat} {t v C FF FO g : Nat → Nat → Int32}
def poF (g : Nat → Nat → Int32) (n mm : Nat) : (Nat → Int32) × (Nat → Int32) := plO (g 28) (lsF g n mm).2.2 (lsF g n mm).1 mm (g 31) (g 32) (2 ^ (lsF g n mm).1)
theorem plan_rel (h : Rel B n mm t v C FF FO g) (hL0 : ¬ (lsF g n mm).1 = 0) : RelM mm (fX1_makePlan (lkV v C n mm) mm (lsF g n mm).1) g ∧ fX1_makePlan (lkV v C n mm) mm (lsF g n mm).1 7 (2 ^ (lsF g n mm).1 - 1) = (poF g n mm).1 (2 ^ (lsF g n mm).1 - 1) ∧ fX1_makePlan (lkV v C n mm) mm (lsF g n mm).1 8 0 = (poF g n mm).2 (2 ^ (lsF g n mm).1 - 1) := by
  obtain ⟨⟨c1, c2, c3, c4, c5, c6, c7, ⟨c8, c8a, c8b⟩, c9⟩, w11, w5, k1, k2⟩ := look_rel h
  have hL : (lsF g n mm).1 ≤ 10 := (flF_b _ _ _).1
  generalize lkV v C n mm = w at *
  have hpw := pow_le10 hL
  have hpos := Nat.two_pow_pos (lsF g n mm).1
  have hk1 : 1 ≤ 2 ^ (lsF g n mm).1 - 1 := by
    have : 2 ^ 1 ≤ 2 ^ (lsF g n mm).1 := Nat.pow_le_pow_right (by decide) (by omega)
    omega
  -- the reference's plan, from the workshop's own rows
  have po := po_congr (p := w 1) (p2 := g 28) (li := (lsC w mm).2.2) (l2 := (lsF g n mm).2.2) (z0 := zF) (z1 := zF) (y0 := g 31) (y1 := g 32) (mm := mm) hL (fun i hi => (k2 i hi).2) (fun j hj => (c4 j hj).2) (2 ^ (lsF g n mm).1) (Nat.le_refl _) (2 ^ (lsF g n mm).1 - 1) (by omega)
  unfold fX1_makePlan
  by_cases d : w 12 0 = 0
  · rw [if_pos d]
    have mp := mp_pl (p := w 1) (p2 := w 1) (li := w 4) (l2 := (lsC w mm).2.2) (ho := fil (fun z => hoF (w 4) z (lsF g n mm).1) (w 6) mm) (S0 := w 7) (z0 := zF) (z1 := zF) (f0 := w 8 0) (mm := mm) hL c6 (fun i hi => by rw [(k2 i hi).1, (k2 i hi).2]) (fun j hj => ⟨rfl, fil_lt hj⟩) (2 ^ (lsF g n mm).1 - 1) (by omega)
    rw [show 2 ^ (lsF g n mm).1 - 1 + 1 = 2 ^ (lsF g n mm).1 by omega] at mp
    have m1 : (mpS w mm (lsF g n mm).1).1 (2 ^ (lsF g n mm).1 - 1) = (plO (w 1) (lsC w mm).2.2 (lsF g n mm).1 mm zF zF (2 ^ (lsF g n mm).1)).1 (2 ^ (lsF g n mm).1 - 1) := mp.1 _ (Nat.le_refl _)
    have m2 : (mpS w mm (lsF g n mm).1).2 = (plO (w 1) (lsC w mm).2.2 (lsF g n mm).1 mm zF zF (2 ^ (lsF g n mm).1)).2 (2 ^ (lsF g n mm).1 - 1) := mp.2 hk1
    refine ⟨⟨c1, c2, c3, c4, c5, ?_, c7, ⟨c8, c8a, c8b⟩, fun q => ?_⟩, m1.trans po.1, m2.trans po.2⟩
    · exact (mp_0 _ _ _ _ _ _).trans c6
    · obtain ⟨f1, f2, f3⟩ := c9 q
      refine ⟨f1, f2, fun _ _ => ?_⟩
      show (mpS w mm (lsF g n mm).1).1 (2 ^ (lsC w mm).1 - 1) = (plO (w 1) (lsC w mm).2.2 (lsC w mm).1 mm zF zF (2 ^ (lsC w mm).1)).1 (2 ^ (lsC w mm).1 - 1) ∧ (mpS w mm (lsF g n mm).1).2 = (plO (w 1) (lsC w mm).2.2 (lsC w mm).1 mm zF zF (2 ^ (lsC w mm).1)).2 (2 ^ (lsC w mm).1 - 1)
      rw [k1]
      exact ⟨m1, m2⟩
  · rw [if_neg d]
    obtain ⟨f1, f2, f3⟩ := c9 w11
    have f4 := f3 d (by rw [k1]; exact hL0)
    rw [k1] at f4
    exact ⟨⟨c1, c2, c3, c4, c5, c6, c7, ⟨c8, c8a, c8b⟩, c9⟩, f4.1.trans po.1, f4.2.trans po.2⟩
theorem sim_plan (h : Rel B n mm t v C FF FO g) : (fX2_plan n mm v C).1 = (fX3_plan g n mm).1 ∧ Rel B n mm t (fX2_plan n mm v C).2 C FF FO (fX3_plan g n mm).2 := by
  obtain ⟨l1, l2, l3, l4, l5⟩ := look_rel h
  have hL : (lsF g n mm).1 ≤ 10 := (flF_b _ _ _).1
  unfold fX2_plan fX3_plan fX1_planSum
  rw [l3, ix_nI (by omega)]
  by_cases c : nI (lsF g n mm).1 = 0
  · rw [if_pos c, if_pos (show nI (flF (exE g n mm) (g 30) (2 ^ mm)).1 = 0 from c)]
    refine ⟨rfl, h.gM (fun k hk => ?_) l1⟩
    show va_up (va_up g 29 _) 30 _ k = g k
    rw [va_up_ne _ _ (by omega), va_up_ne _ _ (by omega)]
  · rw [if_neg c, if_neg (show ¬ nI (flF (exE g n mm) (g 30) (2 ^ mm)).1 = 0 from c)]
    obtain ⟨p1, p2, p3⟩ := plan_rel h (fun q => c (by rw [q]; rfl))
    refine ⟨p2, h.gM (fun k hk => ?_) p1⟩
    show va_up (va_up (va_up (va_up g 29 _) 30 _) 31 _) 32 _ k = g k
    rw [va_up_ne _ _ (by omega), va_up_ne _ _ (by omega), va_up_ne _ _ (by omega), va_up_ne _ _ (by omega)]
theorem sim_test (h : Rel B n mm t v C FF FO g) : (fX2_test n mm v C).1 = (fX3_test g n mm).1 ∧ Rel B n mm t (fX2_test n mm v C).2 C FF FO (fX3_test g n mm).2 := by
  obtain ⟨l1, l2, l3, l4, l5⟩ := look_rel h
  have hL : (lsF g n mm).1 ≤ 10 := (flF_b _ _ _).1
  unfold fX2_test fX3_test fX1_planTest
  rw [l3, ix_nI (by omega)]
  by_cases c : nI (lsF g n mm).1 = 0
  · rw [if_pos c, if_pos (show nI (flF (exE g n mm) (g 30) (2 ^ mm)).1 = 0 from c)]
    refine ⟨rfl, h.gM (fun k hk => ?_) l1⟩
    show va_up (va_up g 29 _) 30 _ k = g k
    rw [va_up_ne _ _ (by omega), va_up_ne _ _ (by omega)]
  · rw [if_neg c, if_neg (show ¬ nI (flF (exE g n mm) (g 30) (2 ^ mm)).1 = 0 from c)]
    obtain ⟨p1, p2, p3⟩ := plan_rel h (fun q => c (by rw [q]; rfl))
    refine ⟨p3, h.gM (fun k hk => ?_) p1⟩
    show va_up (va_up (va_up (va_up g 29 _) 30 _) 31 _) 32 _ k = g k
    rw [va_up_ne _ _ (by omega), va_up_ne _ _ (by omega), va_up_ne _ _ (by omega), va_up_ne _ _ (by omega)]
end SIMH
