section SIMF
variable {B n mm : Nat} {t v C FF FO g : Nat → Nat → Int32}
theorem popG_lt : ∀ t k z, z < 2 ^ k → popG t z ≤ k
  | 0, _, _, _ => Nat.zero_le _
  | t + 1, 0, z, hz => by
    have : z = 0 := by simpa using hz
    subst this; rw [popG_0]; exact Nat.le_refl _
  | t + 1, k + 1, z, hz => by
    rw [popG]
    have := popG_lt t k (z / 2) (by rw [Nat.pow_succ] at hz; omega)
    omega
theorem fl_rel {E E2 : Nat → Bool} {a b : Nat → Int32} : ∀ z, z ≤ 1024 → (∀ y, y < z → E y = E2 y) → (flC E a z).1 = (flF E2 b z).1 ∧ (flC E a z).2.1 = (if (flF E2 b z).1 = 0 then 10 else (flF E2 b z).2.1) ∧ ∀ i, i < (flC E a z).1 → (flC E a z).2.2 i = (flF E2 b z).2.2 i
  | 0, _, _ => ⟨rfl, rfl, fun i hi => absurd hi (Nat.not_lt_zero _)⟩
  | z + 1, hz, hE => by
    obtain ⟨h1, h2, h3⟩ := fl_rel (a := a) (b := b) z (by omega) (fun y hy => hE y (by omega))
    have hp : popG 16 z ≤ 10 := popG_lt 16 10 z (by omega)
    rw [flC, flF, hE z (by omega)]
    generalize flC E a z = X at *
    generalize flF E2 b z = Y at *
    generalize popG 16 z = p at *
    obtain ⟨xc, xf, xl⟩ := X
    obtain ⟨yc, yf, yl⟩ := Y
    dsimp only at h1 h2 h3 ⊢
    subst h1
    by_cases c0 : xc = 0
    · subst c0
      rw [if_pos rfl] at h2
      subst h2
      have y0 : ¬ ((0 : Nat) < 0 ∧ p < yf) := fun q => absurd q.1 (by decide)
      have t0 : (0 : Nat) < 10 := by decide
      by_cases d : E2 z = true
      · have x1 : p ≤ 10 ∧ E2 z = true := ⟨hp, d⟩
        have x2 : E2 z = true ∧ ((0 : Nat) = 0 ∨ p ≤ yf) := ⟨d, Or.inl rfl⟩
        rw [if_pos x1, if_pos x2, if_neg y0, if_pos t0, ite_self, if_pos t0]
        refine ⟨rfl, rfl, fun i hi => ?_⟩
        have hi : i < 0 + 1 := hi
        have : i = 0 := by omega
        subst this
        exact (show upd xl 0 (nI z) 0 = upd yl 0 (nI z) 0 by rw [pk_us, pk_us])
      · have x1 : ¬ (p ≤ 10 ∧ E2 z = true) := fun q => d q.2
        have x2 : ¬ (E2 z = true ∧ ((0 : Nat) = 0 ∨ p ≤ yf)) := fun q => d q.1
        rw [if_neg x1, if_neg x2]
        exact ⟨rfl, rfl, h3⟩
    · rw [if_neg c0] at h2
      subst h2
      by_cases d : p ≤ xf ∧ E2 z = true
      · have x2 : E2 z = true ∧ (xc = 0 ∨ p ≤ xf) := ⟨d.2, Or.inr d.1⟩
        rw [if_pos d, if_pos x2]
        by_cases e : p < xf
        · have x3 : 0 < xc ∧ p < xf := ⟨Nat.pos_of_ne_zero c0, e⟩
          have t0 : (0 : Nat) < 10 := by decide
          rw [if_pos e, if_pos x3, if_pos t0, if_pos t0]
          refine ⟨rfl, rfl, fun i hi => ?_⟩
          have hi : i < 0 + 1 := hi
          have : i = 0 := by omega
          subst this
          exact (show upd xl 0 (nI z) 0 = upd yl 0 (nI z) 0 by rw [pk_us, pk_us])
        · have x3 : ¬ (0 < xc ∧ p < xf) := fun q => e q.2
          rw [if_neg e, if_neg x3]
          by_cases f : xc < 10
          · rw [if_pos f, if_pos f]
            refine ⟨rfl, (if_neg (Nat.succ_ne_zero _)).symm, fun i hi => ?_⟩
            have hi : i < xc + 1 := hi
            show upd _ _ _ i = upd _ _ _ i
            by_cases q : i = xc
            · subst q; rw [pk_us, pk_us]
            · rw [pk_un q, pk_un q]
              exact h3 i (by omega)
          · rw [if_neg f, if_neg f]
            exact ⟨rfl, (if_neg c0).symm, h3⟩
      · have x2 : ¬ (E2 z = true ∧ (xc = 0 ∨ p ≤ xf)) := fun q => d ⟨q.2.resolve_left c0, q.1⟩
        rw [if_neg d, if_neg x2]
        exact ⟨rfl, (if_neg c0).symm, h3⟩
theorem flC_li {E : Nat → Bool} {a b : Nat → Int32} : ∀ z, (flC E a z).1 = (flC E b z).1 ∧ (flC E a z).2.1 = (flC E b z).2.1 ∧ ∀ i, i < (flC E a z).1 → (flC E a z).2.2 i = (flC E b z).2.2 i
  | 0 => ⟨rfl, rfl, fun i hi => absurd hi (Nat.not_lt_zero _)⟩
  | z + 1 => by
    obtain ⟨h1, h2, h3⟩ := flC_li (E := E) (a := a) (b := b) z
    rw [flC, flC]
    generalize flC E a z = X at *
    generalize flC E b z = Y at *
    obtain ⟨xc, xf, xl⟩ := X
    obtain ⟨yc, yf, yl⟩ := Y
    dsimp only at h1 h2 h3 ⊢
    subst h1 h2
    generalize popG 16 z = p at *
    by_cases d : p ≤ xf ∧ E z = true
    · rw [if_pos d, if_pos d]
      by_cases e : p < xf
      · have t0 : (0 : Nat) < 10 := by decide
        rw [if_pos e, if_pos t0, if_pos t0]
        refine ⟨rfl, rfl, fun i hi => ?_⟩
        have hi : i < 0 + 1 := hi
        have : i = 0 := by omega
        subst this
        exact (show upd xl 0 (nI z) 0 = upd yl 0 (nI z) 0 by rw [pk_us, pk_us])
      · rw [if_neg e]
        by_cases f : xc < 10
        · rw [if_pos f, if_pos f]
          refine ⟨rfl, rfl, fun i hi => ?_⟩
          have hi : i < xc + 1 := hi
          show upd _ _ _ i = upd _ _ _ i
          by_cases q : i = xc
          · subst q; rw [pk_us, pk_us]
          · rw [pk_un q, pk_un q]
            exact h3 i (by omega)
        · rw [if_neg f, if_neg f]
          exact ⟨rfl, rfl, h3⟩
    · rw [if_neg d, if_neg d]
      exact ⟨rfl, rfl, h3⟩
/-- what the workshop knows once it has looked -/
theorem look_rel (h : Rel B n mm t v C FF FO g) : RelM mm (lkV v C n mm) g ∧ lkV v C n mm 11 0 = nI mm ∧ lkV v C n mm 5 0 = nI (lsF g n mm).1 ∧ (lsC (lkV v C n mm) mm).1 = (lsF g n mm).1 ∧ (∀ i, i < (lsF g n mm).1 → lkV v C n mm 4 i = (lsF g n mm).2.2 i ∧ (lsC (lkV v C n mm) mm).2.2 i = (lsF g n mm).2.2 i) := by
  have hck := rel_ck h
  obtain ⟨⟨a1, -⟩, -, -, -, -, c1, c2, c3, c4, c5, c6, c7, c8, c9⟩ := h
  have hpw := pow_le10 c1
  have key : ∀ w : Nat → Nat → Int32, (∀ z, w 3 z = v 3 z) → w 9 0 = rbF C n → w 10 0 = cbF C 2 n → (lsC w mm).1 = (lsF g n mm).1 ∧ ∀ i, i < (lsF g n mm).1 → (lsC w mm).2.2 i = (lsF g n mm).2.2 i := by
    intro w w3 w9 w10
    have := fl_rel (E := exC w) (E2 := exE g n mm) (a := zF) (b := g 30) (2 ^ mm) (by omega) (fun z hz => by
      unfold exC exE
      rw [w3, w9, w10, c5 z hz, Bool.eq_iff_iff, decide_eq_true_iff]
      exact ex_bits a1 hck _)
    exact ⟨this.1, fun i hi => this.2.2 i (by rw [this.1]; exact hi)⟩
  have fresh : ∀ w : Nat → Nat → Int32, w = fX1_findLeast (va_up (va_up (va_up (va_up v 9 (fun _ => rbF C n)) 10 (fun _ => cbF C 2 n)) 11 (fun _ => v 2 0)) 12 (fun _ => 0)) mm → RelM mm w g ∧ w 11 0 = nI mm ∧ w 5 0 = nI (lsF g n mm).1 ∧ (lsC w mm).1 = (lsF g n mm).1 ∧ (∀ i, i < (lsF g n mm).1 → w 4 i = (lsF g n mm).2.2 i ∧ (lsC w mm).2.2 i = (lsF g n mm).2.2 i) := by
    intro w hw
    obtain ⟨k1, k2⟩ := key w (fun z => by rw [hw]; rfl) (by rw [hw]; rfl) (by rw [hw]; rfl)
    have li := flC_li (E := exC w) (a := v 4) (b := zF) (2 ^ mm)
    have w4 : w 4 = (flC (exC w) (v 4) (2 ^ mm)).2.2 := by rw [hw]; rfl
    have w5 : w 5 0 = nI (flC (exC w) (v 4) (2 ^ mm)).1 := by rw [hw]; rfl
    have l1 : (flC (exC w) (v 4) (2 ^ mm)).1 = (lsC w mm).1 := li.1
    have l2 : ∀ i, i < (lsC w mm).1 → w 4 i = (lsC w mm).2.2 i := fun i hi => by rw [w4]; exact li.2.2 i (by rw [l1]; exact hi)
    have w11 : w 11 0 = nI mm := by rw [hw]; exact c2
    refine ⟨⟨c1, by rw [hw]; exact c2, c3, by rw [hw]; exact c4, by rw [hw]; exact c5, by rw [hw]; exact c6, Or.inr ⟨mm, Nat.le_refl _, w11⟩, ⟨_, (flC_b (exC w) (v 4) (2 ^ mm)).1, w5⟩, fun _ => ⟨by rw [w5, l1], l2, fun q => absurd (show w 12 0 = 0 by rw [hw]; rfl) q⟩⟩, w11, by rw [w5, l1, k1], k1, fun i hi => ⟨by rw [l2 i (by rw [k1]; exact hi)]; exact k2 i hi, k2 i hi⟩⟩
  unfold lkV fX1_look
  by_cases d1 : rbF C n = v 9 0
  · rw [if_pos d1]
    by_cases d2 : cbF C 2 n = v 10 0
    · rw [if_pos d2]
      by_cases d3 : v 2 0 = v 11 0
      · rw [if_pos d3]
        have e11 : v 11 0 = nI mm := by rw [← d3]; exact c2
        obtain ⟨f1, f2, f3⟩ := c9 e11
        obtain ⟨k1, k2⟩ := key v (fun _ => rfl) d1.symm d2.symm
        exact ⟨⟨c1, c2, c3, c4, c5, c6, c7, c8, c9⟩, e11, by rw [f1, k1], k1, fun i hi => ⟨by rw [f2 i (by rw [k1]; exact hi)]; exact k2 i hi, k2 i hi⟩⟩
      · rw [if_neg d3]; exact fresh _ rfl
    · rw [if_neg d2]; exact fresh _ rfl
  · rw [if_neg d1]; exact fresh _ rfl
theorem Rel.gM {w g2 : Nat → Nat → Int32} (h : Rel B n mm t v C FF FO g) (hg : ∀ k, k < 29 → g2 k = g k) (hw : RelM mm w g) : Rel B n mm t w C FF FO g2 := by
  obtain ⟨a, b, c, d, e, -⟩ := h
  unfold RelT RelK WfK at *
  unfold Rel RelT RelK WfK NewK RelF RelD RelM at *
  simp only [hg _ (show (0 : Nat) < 29 by decide), hg _ (show (1 : Nat) < 29 by decide), hg _ (show (2 : Nat) < 29 by decide), hg _ (show (3 : Nat) < 29 by decide), hg _ (show (4 : Nat) < 29 by decide), hg _ (show (5 : Nat) < 29 by decide), hg _ (show (6 : Nat) < 29 by decide), hg _ (show (7 : Nat) < 29 by decide), hg _ (show (8 : Nat) < 29 by decide), hg _ (show (9 : Nat) < 29 by decide), hg _ (show (10 : Nat) < 29 by decide), hg _ (show (11 : Nat) < 29 by decide), hg _ (show (12 : Nat) < 29 by decide), hg _ (show (13 : Nat) < 29 by decide), hg _ (show (14 : Nat) < 29 by decide), hg _ (show (15 : Nat) < 29 by decide), hg _ (show (16 : Nat) < 29 by decide), hg _ (show (17 : Nat) < 29 by decide), hg _ (show (18 : Nat) < 29 by decide), hg _ (show (19 : Nat) < 29 by decide), hg _ (show (20 : Nat) < 29 by decide), hg _ (show (21 : Nat) < 29 by decide), hg _ (show (22 : Nat) < 29 by decide), hg _ (show (23 : Nat) < 29 by decide), hg _ (show (24 : Nat) < 29 by decide), hg _ (show (25 : Nat) < 29 by decide), hg _ (show (26 : Nat) < 29 by decide), hg _ (show (27 : Nat) < 29 by decide), hg _ (show (28 : Nat) < 29 by decide)]
  exact ⟨a, b, c, d, e, hw⟩
theorem sim_least (h : Rel B n mm t v C FF FO g) : (fX2_least n mm v C).1 = (fX3_least g n mm).1 ∧ Rel B n mm t (fX2_least n mm v C).2 C FF FO (fX3_least g n mm).2 := by
  obtain ⟨l1, l2, l3, l4, l5⟩ := look_rel h
  refine ⟨l3, h.gM (fun k hk => ?_) l1⟩
  show va_up (va_up g 29 _) 30 _ k = g k
  rw [va_up_ne _ _ (by omega), va_up_ne _ _ (by omega)]
theorem sim_leastAt (h : Rel B n mm t v C FF FO g) (x : Int32) : (fX2_leastAt n mm v C x).1 = (fX3_leastAt g n mm x).1 ∧ Rel B n mm t (fX2_leastAt n mm v C x).2 C FF FO (fX3_leastAt g n mm x).2 := by
  obtain ⟨l1, l2, l3, l4, l5⟩ := look_rel h
  have hg : ∀ k, k < 29 → va_up (va_up g 29 (fun _ => nI (flF (exE g n mm) (g 30) (2 ^ mm)).1)) 30 ((flF (exE g n mm) (g 30) (2 ^ mm)).2.2) k = g k := by
    intro k hk
    rw [va_up_ne _ _ (by omega), va_up_ne _ _ (by omega)]
  have hL : (lsF g n mm).1 ≤ 10 := (flF_b _ _ _).1
  unfold fX2_leastAt fX3_leastAt
  rw [l3]
  by_cases c : 0 ≤ x ∧ x ≤ nI (lsF g n mm).1 - 1
  · rw [if_pos c, if_pos (show 0 ≤ x ∧ x ≤ nI (flF (exE g n mm) (g 30) (2 ^ mm)).1 - 1 from c)]
    obtain ⟨j, hj, rfl⟩ := ixck rfl (by omega) c
    rw [ix_nI (by omega)]
    exact ⟨(l5 j hj).1, h.gM hg l1⟩
  · rw [if_neg c, if_neg (show ¬ (0 ≤ x ∧ x ≤ nI (flF (exE g n mm) (g 30) (2 ^ mm)).1 - 1) from c)]
    exact ⟨rfl, h.gM hg l1⟩
end SIMF
