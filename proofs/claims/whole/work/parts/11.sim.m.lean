section SIMM
variable {B n mm k : Nat} {t v C FF FO FO2 g g0 g1 g2 : Nat → Nat → Int32} {f f0 f2 : Nat → Int32} {b : Int32}
/-- the rows as a drive's end begins with check k -/
def x1G (g : Nat → Nat → Int32) (k : Nat) : Nat → Nat → Int32 := va_up g 12 (upd (g 12) k (if g 12 k = 0 then (if g 14 k ≤ 0 then 0 else 1) else 1))
theorem at_0 (hR : RelK C FF g k) (hW : WfK g k) : AtK (C k) (C k) g (x1G g k) k := by
  obtain ⟨k0, k1, k2, k3, k4, k5, k6, k7, k8, k9, k10, k12, k16, kf⟩ := hR
  obtain ⟨w1, w2, w3, w4, w5, w6, w7⟩ := hW
  exact ⟨⟨fun r a1 a2 a3 a4 a5 a6 a7 a8 => va_up_ne _ _ a5, fun r j hr hj => vu (pk_un hj) rfl⟩, fun _ _ => rfl, rfl, ⟨k7, k8, k9, k10, k16⟩, Or.inl ⟨rfl, rfl⟩, w2, w3, w4⟩
theorem kc_0 (hR : RelK C FF g k) (hW : WfK g k) : KC (C k) g k := by
  obtain ⟨k0, k1, k2, k3, k4, k5, k6, k7, k8, k9, k10, k12, k16, kf⟩ := hR
  obtain ⟨w1, w2, w3, w4, w5, w6, w7⟩ := hW
  exact ⟨k2, k3, k4, w5, w6⟩
theorem x1_12 : x1G g k 12 k = (if g 12 k = 0 then (if g 14 k ≤ 0 then 0 else 1) else 1) := pk_us
theorem se_01 {x : Nat → Nat → Int32} (hx : (if g 14 k = 2 then fX3_wasBad (x1G g k) n k else if g 14 k = 1 then fX3_wasGood (x1G g k) k else x1G g k) = x) (h2 : ¬ x 14 k = 2) : stepE g n k = if x 8 k = 3 then fX3_ages x k else x := by
  have h : stepE g n k = if x 8 k = 3 ∧ ¬ x 14 k = 2 then fX3_ages x k else x := by rw [← hx]; rfl
  rw [h]
  by_cases c : x 8 k = 3
  · rw [if_pos ⟨c, h2⟩, if_pos c]
  · rw [if_neg (fun q => c q.1), if_neg c]
theorem se_2 {x : Nat → Nat → Int32} (hx : (if g 14 k = 2 then fX3_wasBad (x1G g k) n k else if g 14 k = 1 then fX3_wasGood (x1G g k) k else x1G g k) = x) (h2 : x 14 k = 2) : stepE g n k = x := by
  have h : stepE g n k = if x 8 k = 3 ∧ ¬ x 14 k = 2 then fX3_ages x k else x := by rw [← hx]; rfl
  rw [h, if_neg (fun q => q.2 h2)]
/-- growing older, where it is due -/
theorem at_fin {x : Nat → Nat → Int32} (h : AtK f0 f g0 x k) (hK : KC f0 g0 k) : AtK f0 (if f 7 = 3 then fX0_growOlder f else f) g0 (if x 8 k = 3 then fX3_ages x k else x) k ∧ (if f 7 = 3 then fX0_growOlder f else f) 12 = f 12 ∧ (if f 7 = 3 then fX0_growOlder f else f) 16 = f 16 ∧ (∀ r, r ≠ 8 → r ≠ 11 → r ≠ 21 → (if x 8 k = 3 then fX3_ages x k else x) r = x r) := by
  have e : f 7 = x 8 k := h.2.2.2.1.1
  obtain ⟨p1, p2, p3, p4⟩ := at_ages h hK
  by_cases c : x 8 k = 3
  · have c2 : f 7 = 3 := e.trans c
    rw [if_pos c, if_pos c2]
    exact ⟨p1, p3, p4, fun r h8 h11 h21 => ag_k2 x k h8 h11 h21⟩
  · have c2 : ¬ f 7 = 3 := fun q => c (e.symm.trans q)
    rw [if_neg c, if_neg c2]
    exact ⟨h, rfl, rfl, fun _ _ _ _ => rfl⟩
theorem ef_0 {F : Nat → Int32} (e : fX0_countDrive (C k) (heldC C k) = (0, F)) : fX2_endFor n t C FF FO k = (0, t, va_up C k F, FF, FO) := by
  unfold fX2_endFor
  rw [e, if_pos rfl]
theorem ef_1 {F : Nat → Int32} (e : fX0_countDrive (C k) (heldC C k) = (1, F)) : fX2_endFor n t C FF FO k = (1, (fX2_freeze n t (va_up C k (upd F 16 (F 16 + 1))) FF k).1, (fX2_freeze n t (va_up C k (upd F 16 (F 16 + 1))) FF k).2.1, (fX2_freeze n t (va_up C k (upd F 16 (F 16 + 1))) FF k).2.2, va_up FO k (foB (FO k) (t 7 0) 16)) := by
  unfold fX2_endFor
  rw [e, if_neg (show ¬ (1 : Int32) = 0 by decide)]
  rw [va_tw, va_up_self]
theorem step_rel (h : RSt n t C FF FO g k) (hk : k < n) : RSt n (fX2_endFor n t C FF FO k).2.1 (fX2_endFor n t C FF FO k).2.2.1 (fX2_endFor n t C FF FO k).2.2.2.1 (fX2_endFor n t C FF FO k).2.2.2.2 (stepE g n k) (k + 1) ∧ (if (fX2_endFor n t C FF FO k).1 = 0 then (0 : Int32) else 1) = stepE g n k 15 k - g 15 k := by
  obtain ⟨⟨a1, a2, a3, a4, a5, a6⟩, b1, b2, b3, b4, b5, b6⟩ := id h
  have hR := (b1 k hk).1
  have hW := (b1 k hk).2
  have hA := at_0 hR hW
  have hK := kc_0 hR hW
  have k12 : C k 12 = g 12 k := hR.2.2.2.2.2.2.2.2.2.2.2.1
  have k16 : C k 16 = g 15 k := hR.2.2.2.2.2.2.2.2.2.2.2.2.1
  have w12 : g 12 k = 0 ∨ g 12 k = 1 := hW.2.2.2.2.2.2
  have t11 : C k 11 = g 14 k := by rw [b4 k hk, if_neg (Nat.lt_irrefl k)]
  rcases b5 k hk with c | c | c
  · have n2 : ¬ g 14 k = 2 := by rw [c]; decide
    have n1 : ¬ g 14 k = 1 := by rw [c]; decide
    have es := se_01 (n := n) (g := g) (k := k) (x := x1G g k) (by rw [if_neg n2, if_neg n1]) (show ¬ g 14 k = 2 from n2)
    obtain ⟨p1, p2, p3, p4⟩ := at_fin hA hK
    have x12 : x1G g k 12 k = g 12 k := by
      rw [x1_12, c]
      rcases w12 with q | q <;> rw [q] <;> decide
    rw [ef_0 (cd_0 (t11.trans c)), es]
    have X12 := congrFun (p4 12 (by decide) (by decide) (by decide)) k
    refine ⟨glue h hk (p1.congr fun q q1 q2 => pk_un q1) pk_us ?_ ?_ (relF_eq b3 (p4 16 (by decide) (by decide) (by decide))), ?_⟩
    · rw [pk_un (show 12 ≠ 11 by decide), p2, X12, x12, k12]
    · rw [X12, x12]; exact w12
    · rw [if_pos rfl, congrFun (p4 15 (by decide) (by decide) (by decide)) k]
      exact (Int32.sub_self (g 15 k)).symm
  · have n2 : ¬ g 14 k = 2 := by rw [c]; decide
    have wk := fun r h8 h9 h10 h11 => wg_k2 (x1G g k) k (r := r) h8 h9 h10 h11
    have es := se_01 (n := n) (g := g) (k := k) (x := fX3_wasGood (x1G g k) k) (by rw [if_neg n2, if_pos c]) (by rw [wk 14 (by decide) (by decide) (by decide) (by decide)]; exact n2)
    obtain ⟨r1, r2, r3, r4⟩ := at_good hA hK
    obtain ⟨p1, p2, p3, p4⟩ := at_fin r1 hK
    have x12 : x1G g k 12 k = 1 := by
      rw [x1_12, c]
      rcases w12 with q | q <;> rw [q] <;> decide
    rw [ef_0 (cd_1 (t11.trans c)), es]
    have X12 := congrFun ((p4 12 (by decide) (by decide) (by decide)).trans (wk 12 (by decide) (by decide) (by decide) (by decide))) k
    refine ⟨glue h hk (p1.congr fun q q1 q2 => (pk_un q2).trans (pk_un q1)) rfl ?_ ?_ (relF_eq b3 ((p4 16 (by decide) (by decide) (by decide)).trans (wk 16 (by decide) (by decide) (by decide) (by decide)))), ?_⟩
    · rw [X12, x12]; rfl
    · rw [X12, x12]; exact Or.inr rfl
    · rw [if_pos rfl, congrFun ((p4 15 (by decide) (by decide) (by decide)).trans (wk 15 (by decide) (by decide) (by decide) (by decide))) k]
      exact (Int32.sub_self (g 15 k)).symm
  · have hc : C k 7 = 0 ∨ C k 7 = 1 ∨ C k 7 = 2 ∨ C k 7 = 3 := by rw [hR.2.2.2.2.2.2.2.1]; exact hW.2.1
    have k2 : C k 2 = g 3 k := hR.2.2.1
    have k7 : C k 7 = g 8 k := hR.2.2.2.2.2.2.2.1
    have k8 : C k 8 = g 9 k := hR.2.2.2.2.2.2.2.2.1
    have x12 : x1G g k 12 k = 1 := by
      rw [x1_12, c]
      rcases w12 with q | q <;> rw [q] <;> decide
    have hh : heldF (x1G g k 1) (x1G g k 2) (upd (x1G g k 8) k (nxC (x1G g k 8 k))) k = heldC C k := held_up a1 hk b1 _
    have hS : badS (C k) (heldC C k) ↔ badG (x1G g k) k := by
      unfold badS badG
      rw [hh, k7, k8, k2]
      show (¬ g 8 k = 2 ∧ _) ↔ (¬ nxC (g 8 k) = 2 ∧ (g 8 k = 3 ∨ ¬ g 9 k + 1 < g 3 k) ∧ _)
      rw [nx_2 hW.2.1]
    by_cases s : badS (C k) (heldC C k)
    · have ec := cb_s hc s
      have ed := cd_2 (f := C k) (b := heldC C k) (t11.trans c) (by rw [ec]; rfl)
      have es := se_2 (n := n) (g := g) (k := k) (x := fX3_freezes (wbS (x1G g k) n k) n k) (by rw [if_pos c]; exact wb_s (hS.mp s)) (by rw [frz_keep _ _ _ _ (by decide)]; exact c)
      have p1 := at_badS (n := n) hA hK
      rw [ec] at ed
      rw [ef_1 ed, es]
      constructor
      · refine rs_freeze (glue h hk (p1.congr fun q q1 q2 => ?_) rfl ?_ ?_ (relF_set b3 hk b6 rfl)) hk
        · by_cases q16 : q = 16
          · subst q16; rfl
          · rw [pk_un q16, pk_un q2, pk_un q1, pk_un q16]
        · show (1 : Int32) = x1G g k 12 k
          rw [x12]
        · show x1G g k 12 k = 0 ∨ x1G g k 12 k = 1
          rw [x12]; exact Or.inr rfl
      · rw [if_neg (show ¬ (1 : Int32) = 0 by decide), frz_keep _ _ _ _ (by decide)]
        show (1 : Int32) = upd (g 15) k (g 15 k + 1) k - g 15 k
        rw [pk_us, Int32.add_comm, Int32.add_sub_cancel]
    · have ec := cb_n hc s
      have ed := cd_2 (f := C k) (b := heldC C k) (t11.trans c) (by rw [ec]; rfl)
      have es := se_2 (n := n) (g := g) (k := k) (x := wbN (x1G g k) k) (by rw [if_pos c]; exact wb_n (fun q => s (hS.mpr q))) (show g 14 k = 2 from c)
      have p1 := at_badN hA hK
      rw [ec] at ed
      rw [ef_0 ed, es]
      refine ⟨glue h hk (p1.congr fun q q1 q2 => (pk_un q2).trans (pk_un q1)) rfl ?_ ?_ (relF_eq b3 rfl), ?_⟩
      · show (1 : Int32) = x1G g k 12 k
        rw [x12]
      · show x1G g k 12 k = 0 ∨ x1G g k 12 k = 1
        rw [x12]; exact Or.inr rfl
      · rw [if_pos rfl]
        exact (Int32.sub_self (g 15 k)).symm
theorem en_rel (h : RSt n t C FF FO (sc g 17 0) 0) : ∀ k, k ≤ n → RSt n (enC n t C FF FO k).2.1 (enC n t C FF FO k).2.2.1 (enC n t C FF FO k).2.2.2.1 (enC n t C FF FO k).2.2.2.2 (endF g n k).1 k ∧ (enC n t C FF FO k).1 = (endF g n k).2
  | 0, _ => ⟨h, rfl⟩
  | k + 1, hk => by
    obtain ⟨i, e⟩ := en_rel h k (by omega)
    obtain ⟨s1, s2⟩ := step_rel i (by omega)
    rw [enC, endF]
    exact ⟨s1, by show _ + _ = _ + _; rw [e, s2]⟩
theorem stepE_k2 (x : Nat → Nat → Int32) (n k : Nat) {r : Nat} (h : (16 < r ∧ r < 21) ∨ 25 < r) : stepE x n k r = x r := by
  have h12 : ∀ f : Nat → Int32, va_up x 12 f r = x r := fun f => va_up_ne _ _ (by omega)
  have hw : ∀ y : Nat → Nat → Int32, fX3_wasBad y n k r = y r := fun y => by
    by_cases s : badG y k
    · rw [wb_s s, frz_keep _ _ _ _ (by omega)]
      unfold wbS
      rw [va_up_ne _ _ (by omega), va_up_ne _ _ (by omega), va_up_ne _ _ (by omega), va_up_ne _ _ (by omega), va_up_ne _ _ (by omega), va_up_ne _ _ (by omega)]
    · rw [wb_n s]
      unfold wbN
      rw [va_up_ne _ _ (by omega), va_up_ne _ _ (by omega), va_up_ne _ _ (by omega), va_up_ne _ _ (by omega)]
  have hg : ∀ y : Nat → Nat → Int32, fX3_wasGood y k r = y r := fun y => wg_k2 y k (by omega) (by omega) (by omega) (by omega)
  have ha : ∀ y : Nat → Nat → Int32, fX3_ages y k r = y r := fun y => ag_k2 y k (by omega) (by omega) (by omega)
  unfold stepE
  try simp only
  repeat' split
  all_goals simp only [ha, hw, hg, h12]
theorem endF_k2 (g : Nat → Nat → Int32) (n : Nat) {r : Nat} (h : (17 < r ∧ r < 21) ∨ 25 < r) : ∀ k : Nat, (endF g n k).1 r = g r
  | 0 => va_up_ne _ _ (by omega)
  | k + 1 => by rw [endF]; simp only; rw [stepE_k2 _ _ _ (by omega)]; exact endF_k2 g n h k
theorem endF_17 (g : Nat → Nat → Int32) (n : Nat) : ∀ k : Nat, (endF g n k).1 17 0 = 0
  | 0 => rfl
  | k + 1 => by rw [endF]; simp only; rw [stepE_k2 _ _ _ (by decide)]; exact endF_17 g n k
theorem sim_end (h : Rel B n mm t v C FF FO g) (hB : B < 2 ^ 30) : (fX2_end n t C FF FO).1 = (fX3_end g n).1 ∧ Rel (B + 1) n mm (fX2_end n t C FF FO).2.1 v (fX2_end n t C FF FO).2.2.1 (fX2_end n t C FF FO).2.2.2.1 (fX2_end n t C FF FO).2.2.2.2 (fX3_end g n).2 := by
  obtain ⟨⟨a1, a2, a3, a4, a5, a6, a7, a8, d, hd, a9⟩, b1, b2, b3, b4, b5⟩ := id h
  unfold fX2_end fX3_end
  rw [a7]
  by_cases c : g 17 0 = 0
  · rw [if_pos c, if_pos c]
    exact ⟨rfl, h.mono (by omega)⟩
  · rw [if_neg c, if_neg c]
    obtain ⟨d1, d2⟩ := b4.2 c
    have h0 : RSt n t C FF FO (sc g 17 0) 0 := ⟨⟨a1, a4, a5, a6, by
      show ¬ g 18 0 = -1
      rw [a9]; exact nI_nm1 (by omega), a8⟩, b1, b2, b3, fun j hj => by
      rw [if_neg (Nat.not_lt_zero j)]; exact (d1 j hj).1, fun j hj => (d1 j hj).2, d2⟩
    obtain ⟨⟨⟨-, r2, r3, r4, r5, r6⟩, s1, s2, s3, s4, s5, s6⟩, e⟩ := en_rel h0 n (Nat.le_refl n)
    have ht := fun r hr => en_t n t C FF FO r hr n
    have hg := fun r hr => endF_k2 g n (r := r) hr n
    refine ⟨e, ⟨a1, ?_, ?_, r2, r3, ?_, ?_, r6, d + 1, by omega, ?_⟩, s1, s2, s3, ⟨fun _ j hj => ?_, fun q => absurd (endF_17 g n n) q⟩, ?_⟩
    · show (enC n t C FF FO n).2.1 1 0 = nI n
      rw [ht 1 (by decide)]; exact a2
    · show (endF g n n).1 0 0 = nI n
      rw [endF_keep g n 0 (by decide) n]; exact a3
    · show (enC n t C FF FO n).2.1 5 0 + 1 = (endF g n n).1 18 0 + 1
      rw [r4]
    · show (0 : Int32) = (endF g n n).1 17 0
      exact (endF_17 g n n).symm
    · show (endF g n n).1 18 0 + 1 = nI (d + 1)
      rw [hg 18 (by decide), a9]
      exact (nI_succ d).symm
    · show (enC n t C FF FO n).2.2.1 j 11 = 0
      rw [s4 j hj, if_pos hj]
    · obtain ⟨m1, m2, m3, m4, m5, m6⟩ := b5
      refine ⟨m1, m2, ?_, ?_, ?_, m6⟩
      · show (endF g n n).1 26 0 = nI mm
        rw [hg 26 (by decide)]; exact m3
      · show ∀ i, i < mm → v 0 i = (endF g n n).1 27 i ∧ v 1 i = (endF g n n).1 28 i
        rw [hg 27 (by decide), hg 28 (by decide)]; exact m4
      · show ∀ z, z < 2 ^ mm → v 3 z = orM ((endF g n n).1 27) (nI z) mm
        rw [hg 27 (by decide)]; exact m5
end SIMM
