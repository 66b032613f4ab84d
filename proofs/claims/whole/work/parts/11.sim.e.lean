section SIME
variable {B n mm : Nat} {t v C FF FO g : Nat → Nat → Int32}
theorem orM_congr {a b : Nat → Int32} {w u : Int32} : ∀ k, k ≤ 16 → (∀ i, i < k → a i = b i ∧ (((w >>> (nI i &&& 31)) &&& 1 = 1) ↔ ((u >>> (nI i &&& 31)) &&& 1 = 1))) → orM a w k = orM b u k
  | 0, _, _ => rfl
  | k + 1, hk, h => by
    rw [orM, orM, orM_congr k (by omega) (fun i hi => h i (by omega))]
    obtain ⟨h1, h2⟩ := h k (by omega)
    rw [h1]
    by_cases c : (w >>> (nI k &&& 31)) &&& 1 = 1
    · rw [if_pos c, if_pos (h2.mp c)]
    · rw [if_neg c, if_neg (fun q => c (h2.mpr q))]
theorem sim_cause (h : Rel B n mm t v C FF FO g) (x y : Int32) : (fX2_cause t v x y).1 = (fX3_cause g x y).1 ∧ ∃ m2, Rel B n m2 t (fX2_cause t v x y).2 C FF FO (fX3_cause g x y).2 := by
  obtain ⟨⟨a1, a2, a3, a4, a5, a6, a7, a8, a9⟩, b1, b2, b3, b4, c1, c2, c3, c4, c5, c6⟩ := id h
  unfold fX2_cause fX3_cause
  rw [a2, a3]
  have hb := below_iff (x := x) (y := nI n) rfl a1
  by_cases c : x = 0
  · subst c
    rw [if_pos rfl, if_neg (fun q => absurd q.1 (by decide))]
    exact ⟨rfl, mm, h⟩
  · rw [if_neg c]
    by_cases d : (x &&& (-(1 <<< (nI n &&& 31)))) = 0
    · have d2 := hb.mp d
      have d3 : 1 ≤ x := by
        obtain ⟨z, hz, rfl⟩ := bits_lt rfl a1 d
        have hp := pow_le16 a1
        refine (nI_leI (a := 1) (b := z) (by decide) (by omega)).mpr ?_
        rcases Nat.eq_zero_or_pos z with q | q
        · subst q; exact absurd rfl c
        · exact q
      have d4 : 1 ≤ x ∧ x ≤ (1 <<< (nI n &&& 31)) - 1 := ⟨d3, d2.2⟩
      rw [if_pos d, if_pos d4]
      by_cases e : 1 ≤ y ∧ y ≤ 1000
      · rw [if_pos e, if_pos e]
        unfold fX1_addCause
        rw [c2, c3, ix_nI (by omega)]
        by_cases f : mm = 10
        · subst f
          rw [if_neg (show ¬ nI 10 < 10 by decide), if_pos (show nI 10 = 10 from rfl)]
          exact ⟨rfl, 10, h⟩
        · rw [if_pos (show nI mm < 10 from (nI_ltI (a := mm) (b := 10) (by omega) (by decide)).mpr (by omega)), if_neg (show ¬ nI mm = 10 from fun q => f ((nI_eq (a := mm) (b := 10) (by omega) (by decide)).mp q))]
          have hpw := pow_le10 c1
          refine ⟨rfl, mm + 1, ⟨a1, a2, a3, a4, a5, a6, a7, a8, a9⟩, b1, b2, b3, b4, by omega, nI_1 mm, nI_1 mm, fun i hi => ?_, fun z hz => ?_, c6.1, ?_, c6.2.2.1, ?_⟩
          · show upd (v 0) mm x i = upd (g 27) mm x i ∧ upd (v 1) mm y i = upd (g 28) mm y i
            by_cases q : i = mm
            · subst q; simp only [pk_us, and_self]
            · rw [pk_un q, pk_un q, pk_un q, pk_un q]; exact c4 i (by omega)
          · show mbF (v 3) x (2 ^ mm) (2 ^ mm) z = orM (upd (g 27) mm x) (nI z) (mm + 1)
            rw [orM, pk_us]
            rw [Nat.pow_succ] at hz
            by_cases q : z < 2 ^ mm
            · rw [mbF_k q, c5 z q, if_neg (fun p => ?_), Int32.or_zero]
              · exact orM_congr mm (by omega) (fun i hi => ⟨(pk_un (by omega)).symm, Iff.rfl⟩)
              · rw [bitN (by omega) (by omega)] at p
                rw [Nat.testBit_lt_two_pow q] at p
                exact absurd p (by decide)
            · have e1 : mbF (v 3) x (2 ^ mm) (2 ^ mm) z = v 3 (z - 2 ^ mm) ||| x := if_pos ⟨by omega, by omega⟩
              have e2 : ∀ i, z.testBit i = ((z - 2 ^ mm).testBit i || decide (mm = i)) := by
                intro i
                have e3 : z = (z - 2 ^ mm) ||| 2 ^ mm := by rw [or_pow (by omega)]; omega
                conv => lhs; rw [e3]
                rw [Nat.testBit_or, Nat.testBit_two_pow]
              rw [e1, c5 _ (by omega), if_pos ?_]
              · congr 1
                refine orM_congr mm (by omega) (fun i hi => ⟨(pk_un (by omega)).symm, ?_⟩)
                rw [bitN (by omega) (by omega), bitN (by omega) (by omega), e2 i, decide_eq_false (by omega), Bool.or_false]
              · rw [bitN (by omega) (by omega), e2 mm, decide_eq_true rfl, Bool.or_true]
          · rcases c6.2.1 with q | ⟨q, hq, e⟩
            · exact Or.inl q
            · exact Or.inr ⟨q, by omega, e⟩
          · intro p
            have p : v 11 0 = nI (mm + 1) := p
            exfalso
            rcases c6.2.1 with q | ⟨q, hq, e⟩
            · have := nI_pos (n := mm + 1) (by omega)
              rw [← p, q] at this
              exact this (by decide)
            · rw [e, nI_eq (by omega) (by omega)] at p; omega
      · rw [if_neg e, if_neg e]; exact ⟨rfl, mm, h⟩
    · rw [if_neg d, if_neg (fun q => d (hb.mpr ⟨Int32.le_trans (show (0 : Int32) ≤ 1 by decide) q.1, q.2⟩))]
      exact ⟨rfl, mm, h⟩
end SIME
