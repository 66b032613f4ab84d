section SIMB
variable {B n mm : Nat} {t v C FF FO g : Nat → Nat → Int32}
theorem bit16 {M o : Nat} (hM : M < 65536) (ho : o < 16) : ((nI M >>> (nI o &&& 31)) &&& 1 = 0) ↔ M.testBit o = false := by
  have hs : ∀ o : Fin 16, ((nI o.val &&& 31).toBitVec.smod 32).toNat = o.val := by decide
  have h1 : nI M >>> (nI o &&& 31) = nI (M / 2 ^ o) := pk_shrN (by omega) _ _ (hs ⟨o, ho⟩)
  have h2 : M / 2 ^ o < 2 ^ 31 := Nat.lt_of_le_of_lt (Nat.div_le_self _ _) (by omega)
  rw [h1, and1N h2, show (0 : Int32) = nI 0 from rfl, nI_eq (by omega) (by decide), Nat.testBit_eq_decide_div_mod_eq]
  simp
theorem cb_bits (C : Nat → Nat → Int32) (w : Int32) : ∀ k, k ≤ 16 → ∃ m, m < 2 ^ k ∧ cbF C w k = nI m ∧ ∀ o, m.testBit o = decide (o < k ∧ C o 7 = w)
  | 0, _ => ⟨0, by decide, rfl, fun o => by simp⟩
  | k + 1, hk => by
    obtain ⟨m, hm, e, hb⟩ := cb_bits C w k (by omega)
    rw [cbF]
    by_cases c : C k 7 = w
    · rw [if_pos c]
      refine ⟨m + 2 ^ k, by rw [Nat.pow_succ]; omega, by rw [e, shl1 (by omega), nI_or_pow hm], fun o => ?_⟩
      rw [← or_pow hm, Nat.testBit_or, Nat.testBit_two_pow, hb]
      by_cases e2 : o = k
      · subst e2; simp [c]
      · have : (o < k + 1) ↔ (o < k) := by omega
        simp [Ne.symm e2, this]
    · rw [if_neg c]
      refine ⟨m, by rw [Nat.pow_succ]; omega, e, fun o => ?_⟩
      rw [hb]
      by_cases e2 : o = k
      · subst e2; simp [c]
      · have : (o < k + 1) ↔ (o < k) := by omega
        simp [this]
theorem rb_bits (C : Nat → Nat → Int32) : ∀ k, k ≤ 16 → ∃ m, m < 2 ^ k ∧ rbF C k = nI m ∧ ∀ o, m.testBit o = decide (o < k ∧ ¬ C o 12 = 0)
  | 0, _ => ⟨0, by decide, rfl, fun o => by simp⟩
  | k + 1, hk => by
    obtain ⟨m, hm, e, hb⟩ := rb_bits C k (by omega)
    rw [rbF]
    by_cases c : C k 12 = 0
    · rw [if_pos c]
      refine ⟨m, by rw [Nat.pow_succ]; omega, e, fun o => ?_⟩
      rw [hb]
      by_cases e2 : o = k
      · subst e2; simp [c]
      · have : (o < k + 1) ↔ (o < k) := by omega
        simp [this]
    · rw [if_neg c]
      refine ⟨m + 2 ^ k, by rw [Nat.pow_succ]; omega, by rw [e, shl1 (by omega), nI_or_pow hm], fun o => ?_⟩
      rw [← or_pow hm, Nat.testBit_or, Nat.testBit_two_pow, hb]
      by_cases e2 : o = k
      · subst e2; simp [c]
      · have : (o < k + 1) ↔ (o < k) := by omega
        simp [Ne.symm e2, this]
theorem fil_lt {a b : Nat → Int32} {n k : Nat} (h : k < n) : fil a b n k = a k := if_pos h
theorem fil_ge {a b : Nat → Int32} {n k : Nat} (h : n ≤ k) : fil a b n k = b k := if_neg (by omega)
theorem sim_begin (h : Rel B n mm t v C FF FO g) : (fX2_begin n t C).1 = (fX3_begin g n).1 ∧ Rel B n mm (fX2_begin n t C).2 v C FF FO (fX3_begin g n).2 := by
  obtain ⟨⟨a1, a2, a3, a4, a5, a6, a7, a8, a9⟩, b1, b2, b3, b4, b5⟩ := id h
  unfold fX2_begin fX3_begin
  rw [a7]
  by_cases c : g 17 0 = 0
  · rw [if_pos c, if_pos c]
    refine ⟨a6, ⟨a1, a2, a3, a4, a5, a6, rfl, a8, a9⟩, b1, b2, b3, ⟨fun q => absurd (show (1 : Int32) = 0 from q) (by decide), fun _ => ⟨fun k hk => ?_, fun o ho => ?_⟩⟩, b5⟩
    · show C k 11 = fil (fun _ => 0) (g 14) n k ∧ (fil (fun _ => 0) (g 14) n k = 0 ∨ fil (fun _ => 0) (g 14) n k = 1 ∨ fil (fun _ => 0) (g 14) n k = 2)
      rw [fil_lt hk]
      exact ⟨b4.1 c k hk, Or.inl rfl⟩
    · show (((cbF C 1 n) ||| (cbF C 2 n)) >>> (nI o &&& 31)) &&& 1 = 0 ↔ ¬ (o < n ∧ (fil (g 8) (g 13) n o = 1 ∨ fil (g 8) (g 13) n o = 2))
      obtain ⟨m1, hm1, e1, hb1⟩ := cb_bits C 1 n a1
      obtain ⟨m2, hm2, e2, hb2⟩ := cb_bits C 2 n a1
      have hp := pow_le16 a1
      have hor : m1 ||| m2 < 65536 := by
        have : m1 ||| m2 < 2 ^ 16 := Nat.or_lt_two_pow (by omega) (by omega)
        omega
      rw [e1, e2, nI_or, bit16 hor ho, Nat.testBit_or, hb1, hb2]
      by_cases hn : o < n
      · have h7 : C o 7 = g 8 o := (b1 o hn).1.2.2.2.2.2.2.2.1
        rw [fil_lt hn, h7]
        simp [hn]
      · simp [hn]
  · rw [if_neg c, if_neg c]; exact ⟨rfl, h⟩
theorem clr_lt {s a : Nat → Int32} {n k : Nat} (h : k < n) : clr s a n k = if s k = 1 then a k else 0 := by
  simp only [clr]
  by_cases q : s k = 1
  · rw [if_pos q, if_neg (fun z => z.2 q)]
  · rw [if_neg q, if_pos ⟨h, q⟩]
theorem clr_ge {s a : Nat → Int32} {n k : Nat} (h : n ≤ k) : clr s a n k = a k := if_neg (fun z => by omega)
theorem sim_clear (h : Rel B n mm t v C FF FO g) : (fX2_clear n t C).1 = (fX3_clear g n).1 ∧ Rel B n mm t v (fX2_clear n t C).2 FF FO (fX3_clear g n).2 := by
  obtain ⟨⟨a1, a2, a3, a4, a5, a6, a7, a8, a9⟩, b1, b2, b3, b4, b5⟩ := id h
  unfold fX2_clear fX3_clear
  rw [a7]
  by_cases c : g 17 0 = 0
  · rw [if_pos c, if_pos c]
    refine ⟨?_, ⟨a1, a2, a3, a4, a5, a6, a7, a8, a9⟩, fun k hk => ⟨?_, ?_⟩, fun k h1 h2 => ?_, b3, ⟨fun _ k hk => ?_, fun q => absurd c q⟩, b5⟩
    · show ccN C n = _
      unfold ccN
      refine sumN_congr n (fun k hk => ?_)
      obtain ⟨k0, k1, k2, k3, k4, k5, k6, k7, -⟩ := (b1 k hk).1
      unfold fX0_clearCode
      rw [k0, k7]
      by_cases q : g 1 k = 1
      · rw [if_pos q, if_pos q]; rfl
      · rw [if_neg q, if_neg q]
        by_cases z : g 8 k = 0
        · rw [if_pos z]; simp [z, bI]
        · rw [if_neg z]; simp [z, bI]
    · show RelK (ccF C n) FF _ k
      obtain ⟨k0, k1, k2, k3, k4, k5, k6, k7, k8, k9, k10, k12, k16, kf⟩ := (b1 k hk).1
      have e : ccF C n k = (fX0_clearCode (C k)).2 := if_pos hk
      unfold RelK
      rw [e]
      show _ ∧ _ ∧ _ ∧ _ ∧ _ ∧ _ ∧ _ ∧ (fX0_clearCode (C k)).2 7 = clr (g 1) (g 8) n k ∧ (fX0_clearCode (C k)).2 8 = fil (fun _ => 0) (g 9) n k ∧ (fX0_clearCode (C k)).2 9 = fil (fun _ => 0) (g 10) n k ∧ (fX0_clearCode (C k)).2 10 = fil (fun _ => 0) (g 11) n k ∧ (fX0_clearCode (C k)).2 12 = fil (fun _ => 0) (g 12) n k ∧ _ ∧ ((clr (g 1) (g 21) n k = 0 ∧ _) ∨ (clr (g 1) (g 21) n k = 1 ∧ _))
      rw [fil_lt hk, fil_lt hk, fil_lt hk, fil_lt hk, clr_lt hk, clr_lt hk]
      unfold fX0_clearCode fX0_thaw
      by_cases q : g 1 k = 1
      · rw [if_pos (by rw [k0]; exact q), if_pos q, if_pos q]
        exact ⟨k0, k1, k2, k3, k4, k5, k6, k7, rfl, rfl, rfl, rfl, k16, kf⟩
      · rw [if_neg (by rw [k0]; exact q), if_neg q, if_neg q]
        exact ⟨k0, k1, k2, k3, k4, k5, k6, rfl, rfl, rfl, rfl, rfl, k16, Or.inl ⟨rfl, rfl⟩⟩
    · obtain ⟨w1, w2, w3, w4, w5, w6, w7⟩ := (b1 k hk).2
      show (g 1 k = 2 → _) ∧ (clr (g 1) (g 8) n k = 0 ∨ clr (g 1) (g 8) n k = 1 ∨ clr (g 1) (g 8) n k = 2 ∨ clr (g 1) (g 8) n k = 3) ∧ (clr (g 1) (g 8) n k = 1 → fil (fun _ => 0) (g 10) n k = 0) ∧ (clr (g 1) (g 8) n k = 2 → fil (fun _ => 0) (g 10) n k < g 4 k) ∧ 1 ≤ g 4 k ∧ g 4 k ≤ 9 ∧ (fil (fun _ => 0) (g 12) n k = 0 ∨ fil (fun _ => 0) (g 12) n k = 1)
      rw [fil_lt hk, fil_lt hk, clr_lt hk]
      refine ⟨w1, ?_, fun _ => rfl, fun _ => Int32.lt_of_lt_of_le (show (0 : Int32) < 1 by decide) w5, w5, w6, Or.inl rfl⟩
      by_cases q : g 1 k = 1
      · rw [if_pos q]; exact w2
      · rw [if_neg q]; exact Or.inl rfl
    · obtain ⟨n1, n2, n3, n4, n5, n6, n7⟩ := b2 k h1 h2
      show clr (g 1) (g 8) n k = 0 ∧ fil (fun _ => 0) (g 9) n k = 0 ∧ fil (fun _ => 0) (g 10) n k = 0 ∧ fil (fun _ => 0) (g 11) n k = 0 ∧ fil (fun _ => 0) (g 12) n k = 0 ∧ g 15 k = 0 ∧ clr (g 1) (g 21) n k = 0
      rw [fil_ge h1, fil_ge h1, fil_ge h1, fil_ge h1, clr_ge h1, clr_ge h1]
      exact ⟨n1, n2, n3, n4, n5, n6, n7⟩
    · have e : ccF C n k = (fX0_clearCode (C k)).2 := if_pos hk
      show ccF C n k 11 = 0
      rw [e]
      have h0 := b4.1 c k hk
      unfold fX0_clearCode fX0_thaw
      split
      · exact h0
      · exact h0
  · rw [if_neg c, if_neg c]; exact ⟨rfl, h⟩
/-- what bits are below, by either side's test -/
theorem below_iff {x y : Int32} {m : Nat} (hy : y = nI m) (hm : m ≤ 16) : (x &&& (-(1 <<< (y &&& 31))) = 0) ↔ (0 ≤ x ∧ x ≤ (1 <<< (y &&& 31)) - 1) := by
  have hp := pow_le16 hm
  have hpos := Nat.two_pow_pos m
  constructor
  · intro h
    obtain ⟨z, hz, rfl⟩ := bits_lt hy hm h
    rw [hy, shl1 hm]
    refine ⟨nI_pos' (by omega), ?_⟩
    rw [show (1 : Int32) = nI 1 from rfl, pk_sub hpos]
    exact nI_le (by omega) (by omega)
  · intro h
    rw [hy, shl1 hm, show (1 : Int32) = nI 1 from rfl, pk_sub hpos] at h
    obtain ⟨z, hz, rfl⟩ := ixin (m := 2 ^ m - 1) rfl (by omega) h
    rw [hy, msk ⟨m, by omega⟩, nI_and, show (0 : Int32) = nI 0 from rfl]
    congr 1
    apply Nat.eq_of_testBit_eq
    intro i
    rw [Nat.testBit_and, Nat.zero_testBit]
    by_cases hi : i < m
    · have e : 2 ^ 32 - 2 ^ m = (2 ^ (32 - m) - 1) * 2 ^ m := by
        rw [Nat.sub_mul, ← Nat.pow_add, show 32 - m + m = 32 by omega]; omega
      show (z.testBit i && (2 ^ 32 - 2 ^ m).testBit i) = false
      rw [e, Nat.testBit_mul_two_pow]
      simp [show ¬ m ≤ i by omega]
    · have : z.testBit i = false := Nat.testBit_lt_two_pow (Nat.lt_of_lt_of_le (show z < 2 ^ m by omega) (Nat.pow_le_pow_right (by decide) (by omega)))
      rw [this]; rfl
end SIMB
