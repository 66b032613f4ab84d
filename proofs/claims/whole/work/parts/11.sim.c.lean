section SIMC
variable {B n mm : Nat} {t v C FF FO g : Nat → Nat → Int32}
theorem and1G (X : BitVec 32) : X &&& 1#32 = 1#32 ↔ X.getLsbD 0 = true := by
  constructor
  · intro h
    have := congrArg (fun q => q.getLsbD 0) h
    simpa using this
  · intro h
    apply BitVec.eq_of_getLsbD_eq
    intro i hi
    by_cases e : i = 0
    · subst e; simp [h]
    · simp [e]
theorem bitG (w : Int32) {j : Nat} (hj : j < 16) : ((w >>> (nI j &&& 31)) &&& 1 = 1) ↔ w.toBitVec.toNat.testBit j = true := by
  have hs : ∀ o : Fin 16, ((nI o.val &&& 31).toBitVec.smod 32).toNat = o.val := by decide
  rw [← Int32.toBitVec_inj, Int32.toBitVec_and, Int32.toBitVec_shiftRight]
  show BitVec.sshiftRight w.toBitVec ((nI j &&& 31).toBitVec.smod 32).toNat &&& 1#32 = 1#32 ↔ _
  rw [hs ⟨j, hj⟩, and1G, BitVec.getLsbD_sshiftRight]
  have e : (!decide (32 ≤ 0) && (if j + 0 < 32 then w.toBitVec.getLsbD (j + 0) else w.toBitVec.msb)) = w.toBitVec.getLsbD j := by
    rw [if_pos (by omega)]; simp
  rw [e]
  exact Iff.rfl
theorem bitN {z : Nat} (hz : z < 2 ^ 32) {j : Nat} (hj : j < 16) : ((nI z >>> (nI j &&& 31)) &&& 1 = 1) ↔ z.testBit j = true := by
  rw [bitG _ hj, pk_tn hz]
theorem exb_iff (hr co : Nat → Int32) (bd : Int32) : ∀ k, exb hr co bd k = true ↔ ∀ j, j < k → hr j = 0 ∨ (co j = 2 ↔ (bd >>> (nI j &&& 31)) &&& 1 = 1)
  | 0 => ⟨fun _ j hj => absurd hj (Nat.not_lt_zero _), fun _ => rfl⟩
  | k + 1 => by
    rw [exb, Bool.and_eq_true, exb_iff hr co bd k]
    have e : ((hr k == 0 || (decide (co k = 2) == decide ((bd >>> (nI k &&& 31)) &&& 1 = 1))) = true) ↔ (hr k = 0 ∨ (co k = 2 ↔ (bd >>> (nI k &&& 31)) &&& 1 = 1)) := by
      rw [Bool.or_eq_true, beq_iff_eq, beq_iff_eq, decide_eq_decide]
    rw [e]
    constructor
    · rintro ⟨h1, h2⟩ j hj
      by_cases q : j = k
      · subst q; exact h2
      · exact h1 j (by omega)
    · intro h
      exact ⟨fun j hj => h j (by omega), h k (by omega)⟩
theorem and_lt16 {a R : Nat} (hR : R < 65536) : a &&& R < 65536 := Nat.lt_of_le_of_lt Nat.and_le_right hR
theorem ex_bits (hn : n ≤ 16) (hk : ∀ k, k < n → C k 12 = g 12 k ∧ C k 7 = g 8 k) (bd : Int32) : (bd &&& rbF C n) = (cbF C 2 n &&& rbF C n) ↔ exb (g 12) (g 8) bd n = true := by
  obtain ⟨R, hR, eR, bR⟩ := rb_bits C n hn
  obtain ⟨Z, hZ, eZ, bZ⟩ := cb_bits C 2 n hn
  have hp := pow_le16 hn
  have hR6 : R < 65536 := by omega
  have a1 := and_lt16 (a := bd.toBitVec.toNat) hR6
  have a2 := and_lt16 (a := Z) hR6
  have e1 : bd &&& rbF C n = nI (bd.toBitVec.toNat &&& R) := by
    rw [eR, ← nI_and, ← nI_tn]
  have e2 : cbF C 2 n &&& rbF C n = nI (Z &&& R) := by rw [eR, eZ, nI_and]
  rw [e1, e2, nI_eq (by omega) (by omega), exb_iff]
  constructor
  · intro h j hj
    have hb : (bd.toBitVec.toNat &&& R).testBit j = (Z &&& R).testBit j := by rw [h]
    rw [Nat.testBit_and, Nat.testBit_and, bR, bZ, (hk j hj).1, (hk j hj).2] at hb
    by_cases c : g 12 j = 0
    · exact Or.inl c
    · refine Or.inr ?_
      rw [bitG bd (by omega)]
      simp only [hj, c, not_false_eq_true, and_self, decide_true, Bool.and_true, true_and] at hb
      rw [hb]; simp
  · intro h
    apply Nat.eq_of_testBit_eq
    intro j
    rw [Nat.testBit_and, Nat.testBit_and, bR, bZ]
    by_cases hj : j < n
    · rw [(hk j hj).1, (hk j hj).2]
      by_cases c : g 12 j = 0
      · simp [c]
      · rcases h j hj with q | q
        · exact absurd q c
        · rw [bitG bd (by omega)] at q
          simp only [hj, c, not_false_eq_true, and_self, decide_true, Bool.and_true, true_and]
          rw [Bool.eq_iff_iff, decide_eq_true_iff]; exact q.symm
    · simp [hj]
theorem rel_ck (h : Rel B n mm t v C FF FO g) : ∀ k, k < n → C k 12 = g 12 k ∧ C k 7 = g 8 k := fun k hk => ⟨(h.2.1 k hk).1.2.2.2.2.2.2.2.2.2.2.2.1, (h.2.1 k hk).1.2.2.2.2.2.2.2.1⟩
theorem sim_explains (h : Rel B n mm t v C FF FO g) (x : Int32) : fX2_explains n v C x = fX3_explains g n mm x := by
  have hck := rel_ck h
  obtain ⟨⟨a1, a2, a3, -⟩, b1, b2, b3, b4, c1, c2, c3, c4, c5, c6⟩ := h
  unfold fX2_explains fX3_explains
  rw [c3, c2]
  by_cases c : (x &&& (-(1 <<< (nI mm &&& 31)))) = 0
  · rw [if_pos c, if_pos ((below_iff rfl (by omega)).mp c)]
    obtain ⟨z, hz, rfl⟩ := bits_lt rfl (by omega) c
    have hpw := pow_le10 c1
    rw [ix_nI (by omega), c5 z hz]
    by_cases d : exb (g 12) (g 8) (orM (g 27) (nI z) mm) n = true
    · rw [if_pos d, bI_t ((ex_bits a1 hck _).mpr d)]; rfl
    · rw [if_neg d, bI_f (fun q => d ((ex_bits a1 hck _).mp q))]; rfl
  · rw [if_neg c, if_neg (fun q => c ((below_iff rfl (by omega)).mpr q))]
theorem popG_pow : ∀ t k m, m < 2 ^ k → k < t → popG t (m + 2 ^ k) = popG t m + 1
  | 0, k, m, _, h => absurd h (Nat.not_lt_zero _)
  | t + 1, 0, m, hm, _ => by
    have : m = 0 := by simpa using hm
    subst this
    simp [popG]; omega
  | t + 1, k + 1, m, hm, h => by
    rw [popG, popG]
    have e1 : (m + 2 ^ (k + 1)) % 2 = m % 2 := by rw [Nat.pow_succ]; omega
    have e2 : (m + 2 ^ (k + 1)) / 2 = m / 2 + 2 ^ k := by rw [Nat.pow_succ]; omega
    rw [e1, e2, popG_pow t k (m / 2) (by rw [Nat.pow_succ] at hm; omega) (by omega)]
    omega
theorem cb_pop (C : Nat → Nat → Int32) (w : Int32) : ∀ k, k ≤ 16 → ∃ m, m < 2 ^ k ∧ cbF C w k = nI m ∧ nI (popG 16 m) = sumN (fun j => if C j 7 = w then 1 else 0) k
  | 0, _ => ⟨0, by decide, rfl, by rw [popG_0]; rfl⟩
  | k + 1, hk => by
    obtain ⟨m, hm, e, hb⟩ := cb_pop C w k (by omega)
    rw [cbF, sumN]
    by_cases c : C k 7 = w
    · rw [if_pos c, if_pos c]
      refine ⟨m + 2 ^ k, by rw [Nat.pow_succ]; omega, by rw [e, shl1 (by omega), nI_or_pow hm], ?_⟩
      rw [popG_pow 16 k m hm (by omega), ← nI_1, hb]
    · rw [if_neg c, if_neg c]
      refine ⟨m, by rw [Nat.pow_succ]; omega, e, ?_⟩
      rw [hb]; simp
theorem cb_sum (hn : n ≤ 16) (hk : ∀ k, k < n → C k 7 = g 8 k) (w : Int32) : nI (popG 16 (ix (cbF C w n))) = sumN (fun j => if g 8 j = w then 1 else 0) n := by
  obtain ⟨m, hm, e, hb⟩ := cb_pop C w n hn
  have hp := pow_le16 hn
  rw [e, ix_nI (by omega), hb]
  exact sumN_congr n (fun k hkn => by show (if C k 7 = w then (1 : Int32) else 0) = _; rw [hk k hkn])
theorem froz_sum (hk : ∀ k, k < n → RelK C FF g k) : sumN (fun j => if C j 13 = -1 then 0 else 1) n = sumN (fun j => if g 21 j = 0 then 0 else 1) n := by
  refine sumN_congr n (fun k hkn => ?_)
  show (if C k 13 = -1 then (0 : Int32) else 1) = if g 21 k = 0 then 0 else 1
  rcases (hk k hkn).2.2.2.2.2.2.2.2.2.2.2.2.2 with ⟨h1, h2⟩ | ⟨h1, h2, h3, -⟩
  · rw [if_pos h1, if_pos h2]
  · rw [if_neg h3, if_neg (by rw [h1]; decide)]
theorem sim_count (h : Rel B n mm t v C FF FO g) (x : Int32) : countC n t v C x = countF g n x := by
  have hck := rel_ck h
  obtain ⟨⟨a1, a2, a3, a4, a5, a6, a7, a8, a9⟩, b1, b2, b3, b4, c1, c2, c3, -⟩ := h
  unfold countC countF
  rw [a2, a3, a6, a7, c2, c3, cb_sum a1 (fun k hk => (hck k hk).2), cb_sum a1 (fun k hk => (hck k hk).2), cb_sum a1 (fun k hk => (hck k hk).2), froz_sum (fun k hk => (b1 k hk).1)]
end SIMC
