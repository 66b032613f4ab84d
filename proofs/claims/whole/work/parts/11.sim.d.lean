section SIMD
variable {B n mm : Nat} {t v C FF FO g : Nat → Nat → Int32}
theorem dig_C (h : Rel B n mm t v C FF FO g) : ∀ i, dcC n t v C i = dgC g n i
  | 0 => rfl
  | i + 1 => by rw [dcC, dgC, dig_C h i, sim_count h]
theorem dig_A (h : Rel B n mm t v C FF FO g) {k : Nat} (hk : k < n) (x : Int64) : ∀ i, i ≤ 8 → dcA t C k x i = dgA g k x i
  | 0, _ => rfl
  | i + 1, hi => by
    rw [dcA, dgA, dig_A h hk x i (by omega), sim_about h]
    have hn := h.1.1
    have e : fX3_about g (nI k) (nI i) = aboutF g k (nI i) := by
      unfold fX3_about
      rw [h.1.2.2.1, if_pos (ixck_nI rfl (by omega) hk), if_pos ⟨nI_pos' (by omega), (nI_leI (a := i) (b := 7) (by omega) (by decide)).mpr (by omega)⟩, ix_nI (by omega)]
    rw [e]
theorem dig_Z (h : Rel B n mm t v C FF FO g) (k : Nat) (x : Int64) : ∀ i, dcZ t C FF k x i = dgZ g k x i
  | 0 => rfl
  | i + 1 => by rw [dcZ, dgZ, dig_Z h k x i, sim_frozen h]
theorem dig_N (h : Rel B n mm t v C FF FO g) (x : Int64) : ∀ k, k ≤ n → dcN t C FF x k = dgK g x k
  | 0, _ => rfl
  | k + 1, hk => by
    rw [dcN, dgK, dig_N h x k (by omega), dcK, dig_A h (by omega) _ 8 (by omega), dig_Z h, sim_frozenAt h, sim_sets h]
    have hn := h.1.1
    have e : fX3_sets g (nI k) = g 15 k := by
      unfold fX3_sets
      rw [h.1.2.2.1, if_pos (ixck_nI rfl (by omega) (by omega)), ix_nI (by omega)]
    rw [e]
theorem dig_F (h : Rel B n mm t v C FF FO g) (x : Int64) : ∀ i, i ≤ 4 → dcF (t 2) x i = dgF g x i
  | 0, _ => rfl
  | i + 1, hi => by rw [dcF, dgF, dig_F h x i (by omega), h.1.2.2.2.2.2.2.2.1 i (by omega)]
theorem dig_M (h : Rel B n mm t v C FF FO g) (x : Int64) : ∀ i, i ≤ mm → dgW (v 0) (v 1) x i = dgM g x i
  | 0, _ => rfl
  | i + 1, hi => by
    obtain ⟨q1, q2⟩ := h.2.2.2.2.2.2.2.2.1 i (by omega)
    rw [dgW, dgM, dig_M h x i (by omega), q1, q2]
theorem sim_digest (h : Rel B n mm t v C FF FO g) : dgW (v 0) (v 1) (dcF (t 2) (dcN t C FF (dcC n t v C 8) n) 4) mm = digF g n mm := by
  rw [dig_M h _ mm (by omega), dig_F h _ 4 (by omega), dig_N h _ n (by omega), dig_C h]
  rfl
theorem sim_check (h : Rel B n mm t v C FF FO g) (x1 x2 x3 x4 x5 x6 x7 : Int32) : (chA n t x1 x2 x3 x4 x5 x6 < 0 ∧ fX3_check g x1 x2 x3 x4 x5 x6 x7 = (chA n t x1 x2 x3 x4 x5 x6, g)) ∨ (¬ chA n t x1 x2 x3 x4 x5 x6 < 0 ∧ (fX3_check g x1 x2 x3 x4 x5 x6 x7).1 = chA n t x1 x2 x3 x4 x5 x6 ∧ Rel B (n + 1) mm (va_up t 1 (fun _ => (t 1 0) + 1)) v (va_up C n (kZ x1 x2 x3 x4 x5 x6 x7)) (va_up FF n (fun _ => 0)) (va_up FO n (fun _ => 0)) (fX3_check g x1 x2 x3 x4 x5 x6 x7).2) := by
  obtain ⟨⟨a1, a2, a3, a4, a5, a6, a7, a8, a9⟩, b1, b2, b3, b4, b5⟩ := id h
  have main : n < 16 → g 17 0 = 0 → (x1 = 2 → ∃ f, f < n ∧ x2 = nI f) → 1 ≤ x4 → x4 ≤ 9 → Rel B (n + 1) mm (va_up t 1 (fun _ => nI n + 1)) v (va_up C n (kZ x1 x2 x3 x4 x5 x6 x7)) (va_up FF n (fun _ => 0)) (va_up FO n (fun _ => 0)) (va_up (va_up (va_up (va_up (va_up (va_up (va_up (va_up g 0 (fun _ => nI n + 1)) 1 (upd (g 1) n x1)) 2 (upd (g 2) n x2)) 3 (upd (g 3) n x3)) 4 (upd (g 4) n x4)) 5 (upd (g 5) n x5)) 6 (upd (g 6) n x6)) 7 (upd (g 7) n x7)) := by
    intro hn h0 hf h41 h49
    refine ⟨⟨by omega, ?_, nI_1 n, a4, a5, a6, a7, a8, a9⟩, fun k hk => ?_, fun k h1 h2 => b2 k (by omega) h2, fun k o hk ho => ⟨fun q => ?_, fun q => (b3 k o hk ho).2 (by omega)⟩, ⟨fun _ k hk => ?_, fun q => absurd h0 q⟩, b5⟩
    · exact nI_1 n
    · by_cases e : k = n
      · subst e
        obtain ⟨n1, n2, n3, n4, n5, n6, n7⟩ := b2 k (Nat.le_refl _) hn
        constructor
        · unfold RelK
          rw [va_up_self]
          show x1 = upd (g 1) k x1 k ∧ x2 = upd (g 2) k x2 k ∧ x3 = upd (g 3) k x3 k ∧ x4 = upd (g 4) k x4 k ∧ (if x1 = 1 then 2 * x5 else x5) = (if upd (g 1) k x1 k = 1 then 2 * upd (g 5) k x5 k else upd (g 5) k x5 k) ∧ x6 = upd (g 6) k x6 k ∧ x7 = upd (g 7) k x7 k ∧ 0 = g 8 k ∧ 0 = g 9 k ∧ 0 = g 10 k ∧ 0 = g 11 k ∧ 0 = g 12 k ∧ 0 = g 15 k ∧ ((g 21 k = 0 ∧ (-1 : Int32) = -1) ∨ _)
          exact ⟨pk_us.symm, pk_us.symm, pk_us.symm, pk_us.symm, by rw [pk_us, pk_us], pk_us.symm, pk_us.symm, n1.symm, n2.symm, n3.symm, n4.symm, n5.symm, n6.symm, Or.inl ⟨n7, rfl⟩⟩
        · show (upd (g 1) k x1 k = 2 → ∃ f, f < k ∧ upd (g 2) k x2 k = nI f) ∧ (g 8 k = 0 ∨ g 8 k = 1 ∨ g 8 k = 2 ∨ g 8 k = 3) ∧ (g 8 k = 1 → g 10 k = 0) ∧ (g 8 k = 2 → g 10 k < upd (g 4) k x4 k) ∧ 1 ≤ upd (g 4) k x4 k ∧ upd (g 4) k x4 k ≤ 9 ∧ (g 12 k = 0 ∨ g 12 k = 1)
          simp only [pk_us]
          exact ⟨hf, Or.inl n1, fun _ => n3, fun q => absurd (n1.symm.trans q) (by decide), h41, h49, Or.inl n5⟩
      · obtain ⟨hR, hW⟩ := b1 k (by omega)
        constructor
        · unfold RelK at hR ⊢
          rw [va_up_ne C _ e, va_up_ne FF _ e]
          show C k 0 = upd (g 1) n x1 k ∧ C k 1 = upd (g 2) n x2 k ∧ C k 2 = upd (g 3) n x3 k ∧ C k 3 = upd (g 4) n x4 k ∧ C k 4 = (if upd (g 1) n x1 k = 1 then 2 * upd (g 5) n x5 k else upd (g 5) n x5 k) ∧ C k 5 = upd (g 6) n x6 k ∧ C k 6 = upd (g 7) n x7 k ∧ _
          simp only [pk_un e]
          exact hR
        · unfold WfK at hW ⊢
          show (upd (g 1) n x1 k = 2 → ∃ f, f < k ∧ upd (g 2) n x2 k = nI f) ∧ _ ∧ _ ∧ (g 8 k = 2 → g 10 k < upd (g 4) n x4 k) ∧ 1 ≤ upd (g 4) n x4 k ∧ upd (g 4) n x4 k ≤ 9 ∧ _
          simp only [pk_un e]
          exact hW
    · show va_up FO n (fun _ => 0) k o = g 16 (16 * o + k)
      by_cases e : k = n
      · subst e; rw [va_up_self]; exact ((b3 k o hk ho).2 (Nat.le_refl _)).symm
      · rw [va_up_ne FO _ e]; exact (b3 k o hk ho).1 (by omega)
    · show va_up C n (kZ x1 x2 x3 x4 x5 x6 x7) k 11 = 0
      by_cases e : k = n
      · subst e; rw [va_up_self]; rfl
      · rw [va_up_ne C _ e]; exact b4.1 h0 k (by omega)
  have tail : (x1 = 2 → ∃ f, f < n ∧ x2 = nI f) → 1 ≤ x4 → x4 ≤ 9 → (((if g 17 0 = 0 then (if nI n < 16 then (nI n + 1) - 1 else (-4)) else (-3)) : Int32) < 0 ∧ (if g 17 0 = 0 then (if nI n = 16 then ((-4), g) else ((nI n + 1) - 1, va_up (va_up (va_up (va_up (va_up (va_up (va_up (va_up g 0 (fun _ => nI n + 1)) 1 (upd (g 1) (ix (nI n)) x1)) 2 (upd (g 2) (ix (nI n)) x2)) 3 (upd (g 3) (ix (nI n)) x3)) 4 (upd (g 4) (ix (nI n)) x4)) 5 (upd (g 5) (ix (nI n)) x5)) 6 (upd (g 6) (ix (nI n)) x6)) 7 (upd (g 7) (ix (nI n)) x7))) else ((-3), g)) = ((if g 17 0 = 0 then (if nI n < 16 then (nI n + 1) - 1 else (-4)) else (-3)), g)) ∨ (¬ ((if g 17 0 = 0 then (if nI n < 16 then (nI n + 1) - 1 else (-4)) else (-3)) : Int32) < 0 ∧ (if g 17 0 = 0 then (if nI n = 16 then ((-4), g) else ((nI n + 1) - 1, va_up (va_up (va_up (va_up (va_up (va_up (va_up (va_up g 0 (fun _ => nI n + 1)) 1 (upd (g 1) (ix (nI n)) x1)) 2 (upd (g 2) (ix (nI n)) x2)) 3 (upd (g 3) (ix (nI n)) x3)) 4 (upd (g 4) (ix (nI n)) x4)) 5 (upd (g 5) (ix (nI n)) x5)) 6 (upd (g 6) (ix (nI n)) x6)) 7 (upd (g 7) (ix (nI n)) x7))) else ((-3), g)).1 = (if g 17 0 = 0 then (if nI n < 16 then (nI n + 1) - 1 else (-4)) else (-3)) ∧ Rel B (n + 1) mm (va_up t 1 (fun _ => nI n + 1)) v (va_up C n (kZ x1 x2 x3 x4 x5 x6 x7)) (va_up FF n (fun _ => 0)) (va_up FO n (fun _ => 0)) (if g 17 0 = 0 then (if nI n = 16 then ((-4), g) else ((nI n + 1) - 1, va_up (va_up (va_up (va_up (va_up (va_up (va_up (va_up g 0 (fun _ => nI n + 1)) 1 (upd (g 1) (ix (nI n)) x1)) 2 (upd (g 2) (ix (nI n)) x2)) 3 (upd (g 3) (ix (nI n)) x3)) 4 (upd (g 4) (ix (nI n)) x4)) 5 (upd (g 5) (ix (nI n)) x5)) 6 (upd (g 6) (ix (nI n)) x6)) 7 (upd (g 7) (ix (nI n)) x7))) else ((-3), g)).2) := by
    intro hf h41 h49
    rw [ix_nI (by omega)]
    by_cases h0 : g 17 0 = 0
    · rw [if_pos h0, if_pos h0]
      by_cases c : n = 16
      · subst c
        rw [if_neg (show ¬ nI 16 < 16 by decide), if_pos (show nI 16 = 16 from rfl)]
        exact Or.inl ⟨by decide, rfl⟩
      · have hn : n < 16 := by omega
        rw [if_pos (show nI n < 16 from (nI_ltI (a := n) (b := 16) (by omega) (by decide)).mpr hn), if_neg (show ¬ nI n = 16 from fun q => c ((nI_eq (a := n) (b := 16) (by omega) (by decide)).mp q))]
        refine Or.inr ⟨?_, rfl, main hn h0 hf h41 h49⟩
        rw [nI_1, nI_pred]; exact nI_pos (by omega)
    · rw [if_neg h0, if_neg h0]
      exact Or.inl ⟨by decide, rfl⟩
  unfold chA fX3_check
  rw [a2, a3, a7]
  by_cases d1 : 0 ≤ x1 ∧ x1 ≤ 2
  · rw [if_pos d1, if_pos d1]
    by_cases d2 : x1 = 2
    · rw [if_pos d2, if_pos d2]
      by_cases d3 : 0 ≤ x2 ∧ x2 ≤ nI n - 1
      · rw [if_pos d3, if_pos d3]
        by_cases d4 : 1 ≤ x3 ∧ x3 ≤ 9
        · rw [if_pos d4, if_pos d4]
          by_cases d5 : 1 ≤ x4 ∧ x4 ≤ 9
          · rw [if_pos d5, if_pos d5]
            by_cases d6 : 1 ≤ x5 ∧ x5 ≤ 90
            · rw [if_pos d6, if_pos d6]
              by_cases d7 : 0 ≤ x6 ∧ x6 ≤ 9
              · rw [if_pos d7, if_pos d7]
                exact tail (fun _ => ixck rfl (by omega) d3) d5.1 d5.2
              · rw [if_neg d7, if_neg d7]; exact Or.inl ⟨by decide, rfl⟩
            · rw [if_neg d6, if_neg d6]; exact Or.inl ⟨by decide, rfl⟩
          · rw [if_neg d5, if_neg d5]; exact Or.inl ⟨by decide, rfl⟩
        · rw [if_neg d4, if_neg d4]; exact Or.inl ⟨by decide, rfl⟩
      · rw [if_neg d3, if_neg d3]; exact Or.inl ⟨by decide, rfl⟩
    · rw [if_neg d2, if_neg d2]
      by_cases d4 : 1 ≤ x3 ∧ x3 ≤ 9
      · rw [if_pos d4, if_pos d4]
        by_cases d5 : 1 ≤ x4 ∧ x4 ≤ 9
        · rw [if_pos d5, if_pos d5]
          by_cases d6 : 1 ≤ x5 ∧ x5 ≤ 90
          · rw [if_pos d6, if_pos d6]
            by_cases d7 : 0 ≤ x6 ∧ x6 ≤ 9
            · rw [if_pos d7, if_pos d7]
              exact tail (fun q => absurd q d2) d5.1 d5.2
            · rw [if_neg d7, if_neg d7]; exact Or.inl ⟨by decide, rfl⟩
          · rw [if_neg d6, if_neg d6]; exact Or.inl ⟨by decide, rfl⟩
        · rw [if_neg d5, if_neg d5]; exact Or.inl ⟨by decide, rfl⟩
      · rw [if_neg d4, if_neg d4]; exact Or.inl ⟨by decide, rfl⟩
  · rw [if_neg d1, if_neg d1]; exact Or.inl ⟨by decide, rfl⟩
end SIMD
