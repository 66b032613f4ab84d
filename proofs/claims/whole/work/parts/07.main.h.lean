def dcA (t C : Nat → Nat → Int32) (k : Nat) (h : Int64) : Nat → Int64
  | 0 => h
  | i + 1 => 31 * dcA t C k h i + (fX2_about t C (nI k) (nI i)).toInt64
def dcZ (t C FF : Nat → Nat → Int32) (k : Nat) (h : Int64) : Nat → Int64
  | 0 => h
  | i + 1 => 31 * dcZ t C FF k h i + (fX2_frozen t C FF (nI k) (nI i)).toInt64
def dcK (t C FF : Nat → Nat → Int32) (h : Int64) (k : Nat) : Int64 := 31 * dcZ t C FF k (31 * dcA t C k h 8 + (fX2_frozenAt t C (nI k)).toInt64) 4 + (fX2_sets t C (nI k)).toInt64
def dcN (t C FF : Nat → Nat → Int32) (h : Int64) : Nat → Int64
  | 0 => h
  | k + 1 => dcK t C FF (dcN t C FF h k) k
def dcC (n : Nat) (t v C : Nat → Nat → Int32) : Nat → Int64
  | 0 => 211
  | i + 1 => 31 * dcC n t v C i + (countC n t v C (nI i)).toInt64
def dcF (f : Nat → Int32) (h : Int64) : Nat → Int64
  | 0 => h
  | i + 1 => 31 * dcF f h i + (f i).toInt64

set_option maxHeartbeats 4000000 in
set_option maxRecDepth 100000 in
theorem tX2_digestOfCheck (l : Launch) (D : va_G) (cI cZ cC : ClassId) (ad : Nat → Nat) (n : Nat) (t v C FF FO : Nat → Nat → Int32) (hn : t 1 0 = nI n) (hnb : n ≤ 16) (hfo : ∀ k, k < n → C k 0 = 2 → ∃ f, f < n ∧ C k 1 = nI f) (hh : Int64) (k : Nat) : RdLN l yX2_digestOfCheck wsX2_digestOfCheck (rmK 4) D cI cZ cC [.ref (ad 0), .long hh, .int (nI k)] (fun H => va_P D vwCl (cW cI cC ad n t v C FF FO) H) (fun ans => ans = dcK t C FF hh k) := by
  refine RdLN.of (cc := cX2_digestOfCheck) (maxL := 7) (by decide) rfl (Nat.le_of_ble_eq_true rfl) ?_
  intro p e s m args below meth c Q ls hx hb hml hts hown hK hP hN hret hl
  have hl : lv_has ls 7 [(0, .ref (ad 0)), (1, .long hh), (3, .int (nI k))] := hl
  have hP : va_P D vwCl (cW cI cC ad n t v C FF FO) s.heap := hP
  refine lv_lload_n hx hb dX2_digestOfCheck_0 rfl (lv_at hl 1 rfl) ?_
  refine lv_lstore (lv' := [(4, .long hh), (0, .ref (ad 0)), (1, .long hh), (3, .int (nI k))]) hx hb dX2_digestOfCheck_1 hl (by decide) rfl (fun ls hl => ?_)
  refine lv_iconst (v := 0) hx hb dX2_digestOfCheck_3 (by decide) ?_
  refine lv_istore (lv' := [(6, .int 0), (4, .long hh), (0, .ref (ad 0)), (1, .long hh), (3, .int (nI k))]) hx hb dX2_digestOfCheck_4 hl (by decide) rfl (fun ls hl => ?_)
  have LOOP_1 : ∀ (fu i : Nat), i ≤ 8 → 8 - i < fu → ∀ (ls : Array Slot), lv_has ls 7 [(0, .ref (ad 0)), (3, .int (nI k)), (4, .long (dcA t C k hh i)), (6, .int (nI i))] → W p l e (rmK 4) s m args below meth c s.heap [] 0 0 Q (F0 m 6 ls []) := by
    intro fu
    induction fu with
    | zero => intro i h1 h2; exact absurd h2 (Nat.not_lt_zero _)
    | succ fu ih =>
      intro i hkn hfu  ls hl
      refine lv_iload hx hb dX2_digestOfCheck_6 (lv_at hl 3 rfl) ?_
      refine lv_bipush (v := 8) hx hb dX2_digestOfCheck_8 (by decide) ?_
      refine lv_icmp_ge (tgt := 36) hx hb dX2_digestOfCheck_10 (by decide) (fun c_2 => ?_) (fun c_2 => ?_)
      · have ekn : 8 = i := Nat.le_antisymm (kx_ge (x := 8) (n := 8) rfl (by omega) (by omega) c_2) hkn
        subst ekn
        refine lv_ldc2 (v := 31) hx hb hown (hts (.constantLong RX2 157 (31)) (mem_at 1 rfl)) dX2_digestOfCheck_36 ?_
        refine lv_lload hx hb dX2_digestOfCheck_39 (lv_at hl 2 rfl) ?_
        refine lv_lmul hx hb dX2_digestOfCheck_41 ?_
        refine lv_aload_n hx hb dX2_digestOfCheck_42 rfl (lv_at hl 0 rfl) ?_
        refine lv_iload_n hx hb dX2_digestOfCheck_43 rfl (lv_at hl 1 rfl) ?_
        refine x_rdV (As := [.int (nI k)]) (rest := [.long (31 * (dcA t C k hh 8))]) ⟨hx, hb, hml, hown, hts⟩ (tX2_frozenAt l D cI cZ cC ad n t v C FF FO hn hnb (nI k)) (cwV 1 hts gX2_digestOfCheck_X2_frozenAt rfl rfl rfl (by decide +kernel) ⟨Nat.le_of_ble_eq_true rfl, Nat.le_of_ble_eq_true rfl⟩) hK (x_recv (ci := 2) hK hP rfl (q0 := 0) rfl) hP rfl hl.1 rfl (Nat.le_of_ble_eq_true rfl) dX2_digestOfCheck_44 ⟨Nat.le_of_ble_eq_true rfl, Nat.le_of_ble_eq_true rfl⟩ (fun r_3 er_3 => ?_)
        have er_3 : r_3 = fX2_frozenAt t C (nI k) := er_3
        subst er_3
        refine lv_i2l (v := (fX2_frozenAt t C (nI k)).toInt64) hx hb dX2_digestOfCheck_47 rfl ?_
        refine lv_ladd hx hb dX2_digestOfCheck_48 ?_
        refine lv_lstore (lv' := [(4, .long ((31 * (dcA t C k hh 8)) + ((fX2_frozenAt t C (nI k)).toInt64))), (0, .ref (ad 0)), (3, .int (nI k)), (6, .int (nI 8))]) hx hb dX2_digestOfCheck_49 hl (by decide) rfl (fun ls hl => ?_)
        refine lv_iconst (v := 0) hx hb dX2_digestOfCheck_51 (by decide) ?_
        refine lv_istore (lv' := [(6, .int 0), (4, .long ((31 * (dcA t C k hh 8)) + ((fX2_frozenAt t C (nI k)).toInt64))), (0, .ref (ad 0)), (3, .int (nI k))]) hx hb dX2_digestOfCheck_52 hl (by decide) rfl (fun ls hl => ?_)
        have LOOP_4 : ∀ (fu i : Nat), i ≤ 4 → 4 - i < fu → ∀ (ls : Array Slot), lv_has ls 7 [(0, .ref (ad 0)), (3, .int (nI k)), (4, .long (dcZ t C FF k (31 * dcA t C k hh 8 + (fX2_frozenAt t C (nI k)).toInt64) i)), (6, .int (nI i))] → W p l e (rmK 4) s m args below meth c s.heap [] 0 0 Q (F0 m 54 ls []) := by
          intro fu
          induction fu with
          | zero => intro i h1 h2; exact absurd h2 (Nat.not_lt_zero _)
          | succ fu ih =>
            intro i hkn hfu  ls hl
            refine lv_iload hx hb dX2_digestOfCheck_54 (lv_at hl 3 rfl) ?_
            refine lv_iconst (v := 4) hx hb dX2_digestOfCheck_56 (by decide) ?_
            refine lv_icmp_ge (tgt := 83) hx hb dX2_digestOfCheck_57 (by decide) (fun c_5 => ?_) (fun c_5 => ?_)
            · have ekn : 4 = i := Nat.le_antisymm (kx_ge (x := 4) (n := 4) rfl (by omega) (by omega) c_5) hkn
              subst ekn
              refine lv_ldc2 (v := 31) hx hb hown (hts (.constantLong RX2 157 (31)) (mem_at 1 rfl)) dX2_digestOfCheck_83 ?_
              refine lv_lload hx hb dX2_digestOfCheck_86 (lv_at hl 2 rfl) ?_
              refine lv_lmul hx hb dX2_digestOfCheck_88 ?_
              refine lv_aload_n hx hb dX2_digestOfCheck_89 rfl (lv_at hl 0 rfl) ?_
              refine lv_iload_n hx hb dX2_digestOfCheck_90 rfl (lv_at hl 1 rfl) ?_
              refine x_rdV (As := [.int (nI k)]) (rest := [.long (31 * (dcZ t C FF k (31 * dcA t C k hh 8 + (fX2_frozenAt t C (nI k)).toInt64) 4))]) ⟨hx, hb, hml, hown, hts⟩ (tX2_sets l D cI cZ cC ad n t v C FF FO hn hnb (nI k)) (cwV 1 hts gX2_digestOfCheck_X2_sets rfl rfl rfl (by decide +kernel) ⟨Nat.le_of_ble_eq_true rfl, Nat.le_of_ble_eq_true rfl⟩) hK (x_recv (ci := 2) hK hP rfl (q0 := 0) rfl) hP rfl hl.1 rfl (Nat.le_of_ble_eq_true rfl) dX2_digestOfCheck_91 ⟨Nat.le_of_ble_eq_true rfl, Nat.le_of_ble_eq_true rfl⟩ (fun r_6 er_6 => ?_)
              have er_6 : r_6 = fX2_sets t C (nI k) := er_6
              subst er_6
              refine lv_i2l (v := (fX2_sets t C (nI k)).toInt64) hx hb dX2_digestOfCheck_94 rfl ?_
              refine lv_ladd hx hb dX2_digestOfCheck_95 ?_
              exact hret 96 _ _ rfl dX2_digestOfCheck_96
            · have hi4 : i < 4 := kx_lt (x := 4) (n := 4) rfl (by omega) (by omega) c_5
              refine lv_ldc2 (v := 31) hx hb hown (hts (.constantLong RX2 157 (31)) (mem_at 1 rfl)) dX2_digestOfCheck_60 ?_
              refine lv_lload hx hb dX2_digestOfCheck_63 (lv_at hl 2 rfl) ?_
              refine lv_lmul hx hb dX2_digestOfCheck_65 ?_
              refine lv_aload_n hx hb dX2_digestOfCheck_66 rfl (lv_at hl 0 rfl) ?_
              refine lv_iload_n hx hb dX2_digestOfCheck_67 rfl (lv_at hl 1 rfl) ?_
              refine lv_iload hx hb dX2_digestOfCheck_68 (lv_at hl 3 rfl) ?_
              refine x_rdV (As := [.int (nI k), .int (nI i)]) (rest := [.long (31 * (dcZ t C FF k (31 * dcA t C k hh 8 + (fX2_frozenAt t C (nI k)).toInt64) i))]) ⟨hx, hb, hml, hown, hts⟩ (tX2_frozen l D cI cZ cC ad n t v C FF FO hn hnb (nI k) (nI i)) (cwV 2 hts gX2_digestOfCheck_X2_frozen rfl rfl rfl (by decide +kernel) ⟨Nat.le_of_ble_eq_true rfl, Nat.le_of_ble_eq_true rfl⟩) hK (x_recv (ci := 2) hK hP rfl (q0 := 0) rfl) hP rfl hl.1 rfl (Nat.le_of_ble_eq_true rfl) dX2_digestOfCheck_70 ⟨Nat.le_of_ble_eq_true rfl, Nat.le_of_ble_eq_true rfl⟩ (fun r_7 er_7 => ?_)
              have er_7 : r_7 = fX2_frozen t C FF (nI k) (nI i) := er_7
              subst er_7
              refine lv_i2l (v := (fX2_frozen t C FF (nI k) (nI i)).toInt64) hx hb dX2_digestOfCheck_73 rfl ?_
              refine lv_ladd hx hb dX2_digestOfCheck_74 ?_
              refine lv_lstore (lv' := [(4, .long ((31 * (dcZ t C FF k (31 * dcA t C k hh 8 + (fX2_frozenAt t C (nI k)).toInt64) i)) + ((fX2_frozen t C FF (nI k) (nI i)).toInt64))), (0, .ref (ad 0)), (3, .int (nI k)), (6, .int (nI i))]) hx hb dX2_digestOfCheck_75 hl (by decide) rfl (fun ls hl => ?_)
              refine lv_iinc (v := nI (i + 1)) (lv' := [(6, .int (nI (i + 1))), (4, .long ((31 * (dcZ t C FF k (31 * dcA t C k hh 8 + (fX2_frozenAt t C (nI k)).toInt64) i)) + ((fX2_frozen t C FF (nI k) (nI i)).toInt64))), (0, .ref (ad 0)), (3, .int (nI k))]) hx hb dX2_digestOfCheck_77 hl (k := 3) rfl (nI_1 _) (by decide) rfl (fun ls hl => ?_)
              refine lv_goto (tgt := 54) hx hb dX2_digestOfCheck_80 (by decide) ?_
              have q_8 : (dcZ t C FF k (31 * dcA t C k hh 8 + (fX2_frozenAt t C (nI k)).toInt64) (i + 1) : Int64) = (31 * (dcZ t C FF k (31 * dcA t C k hh 8 + (fX2_frozenAt t C (nI k)).toInt64) i)) + ((fX2_frozen t C FF (nI k) (nI i)).toInt64) := by rfl
              exact ih (i + 1) (by omega) (by omega) ls (by rw [q_8]; exact lv_sub hl [2, 3, 1, 0] rfl)
        have q_9 : (dcZ t C FF k (31 * dcA t C k hh 8 + (fX2_frozenAt t C (nI k)).toInt64) 0 : Int64) = (31 * (dcA t C k hh 8)) + ((fX2_frozenAt t C (nI k)).toInt64) := by rfl
        have q_10 : (nI 0 : Int32) = 0 := by rfl
        exact LOOP_4 (4 - 0 + 1) 0 (Nat.zero_le _) (Nat.lt_succ_self _) ls (by rw [q_9, q_10]; exact lv_sub hl [2, 3, 1, 0] rfl)
      · have hi8 : i < 8 := kx_lt (x := 8) (n := 8) rfl (by omega) (by omega) c_2
        refine lv_ldc2 (v := 31) hx hb hown (hts (.constantLong RX2 157 (31)) (mem_at 1 rfl)) dX2_digestOfCheck_13 ?_
        refine lv_lload hx hb dX2_digestOfCheck_16 (lv_at hl 2 rfl) ?_
        refine lv_lmul hx hb dX2_digestOfCheck_18 ?_
        refine lv_aload_n hx hb dX2_digestOfCheck_19 rfl (lv_at hl 0 rfl) ?_
        refine lv_iload_n hx hb dX2_digestOfCheck_20 rfl (lv_at hl 1 rfl) ?_
        refine lv_iload hx hb dX2_digestOfCheck_21 (lv_at hl 3 rfl) ?_
        refine x_rdVN (As := [.int (nI k), .int (nI i)]) (rest := [.long (31 * (dcA t C k hh i))]) ⟨hx, hb, hml, hown, hts⟩ (tX2_about l D cI cZ cC ad n t v C FF FO hn hnb hfo (nI k) (nI i)) (cwV 2 hts gX2_digestOfCheck_X2_about rfl rfl rfl (by decide +kernel) ⟨Nat.le_of_ble_eq_true rfl, Nat.le_of_ble_eq_true rfl⟩) hK hN (x_recv (ci := 2) hK hP rfl (q0 := 0) rfl) hP rfl hl.1 rfl (Nat.le_of_ble_eq_true rfl) dX2_digestOfCheck_23 ⟨Nat.le_of_ble_eq_true rfl, Nat.le_of_ble_eq_true rfl⟩ (fun r_11 er_11 => ?_)
        have er_11 : r_11 = fX2_about t C (nI k) (nI i) := er_11
        subst er_11
        refine lv_i2l (v := (fX2_about t C (nI k) (nI i)).toInt64) hx hb dX2_digestOfCheck_26 rfl ?_
        refine lv_ladd hx hb dX2_digestOfCheck_27 ?_
        refine lv_lstore (lv' := [(4, .long ((31 * (dcA t C k hh i)) + ((fX2_about t C (nI k) (nI i)).toInt64))), (0, .ref (ad 0)), (3, .int (nI k)), (6, .int (nI i))]) hx hb dX2_digestOfCheck_28 hl (by decide) rfl (fun ls hl => ?_)
        refine lv_iinc (v := nI (i + 1)) (lv' := [(6, .int (nI (i + 1))), (4, .long ((31 * (dcA t C k hh i)) + ((fX2_about t C (nI k) (nI i)).toInt64))), (0, .ref (ad 0)), (3, .int (nI k))]) hx hb dX2_digestOfCheck_30 hl (k := 3) rfl (nI_1 _) (by decide) rfl (fun ls hl => ?_)
        refine lv_goto (tgt := 6) hx hb dX2_digestOfCheck_33 (by decide) ?_
        have q_12 : (dcA t C k hh (i + 1) : Int64) = (31 * (dcA t C k hh i)) + ((fX2_about t C (nI k) (nI i)).toInt64) := by rfl
        exact ih (i + 1) (by omega) (by omega) ls (by rw [q_12]; exact lv_sub hl [2, 3, 1, 0] rfl)
  have q_13 : (dcA t C k hh 0 : Int64) = hh := by rfl
  have q_14 : (nI 0 : Int32) = 0 := by rfl
  exact LOOP_1 (8 - 0 + 1) 0 (Nat.zero_le _) (Nat.lt_succ_self _) ls (by rw [q_13, q_14]; exact lv_sub hl [2, 4, 1, 0] rfl)

set_option maxHeartbeats 4000000 in
set_option maxRecDepth 100000 in
theorem tX2_digest (l : Launch) (D : va_G) (cI cZ cC : ClassId) (ad : Nat → Nat) (n : Nat) (t v C FF FO : Nat → Nat → Int32) (hn : t 1 0 = nI n) (hnb : n ≤ 16) (mm : Nat) (hm : v 2 0 = nI mm) (hmb : mm ≤ 10) (hfo : ∀ k, k < n → C k 0 = 2 → ∃ f, f < n ∧ C k 1 = nI f) : RdLN l yX2_digest wsX2_digest (rmK 5) D cI cZ cC [.ref (ad 0)] (fun H => va_P D vwCl (cW cI cC ad n t v C FF FO) H) (fun ans => ans = dgW (v 0) (v 1) (dcF (t 2) (dcN t C FF (dcC n t v C 8) n) 4) mm) := by
  refine RdLN.of (cc := cX2_digest) (maxL := 4) (by decide) rfl (Nat.le_of_ble_eq_true rfl) ?_
  intro p e s m args below meth c Q ls hx hb hml hts hown hK hP hN hret hl
  have hl : lv_has ls 4 [(0, .ref (ad 0))] := hl
  have hP : va_P D vwCl (cW cI cC ad n t v C FF FO) s.heap := hP
  have hinX2 : ∀ w ∈ u_ws RX2 TX2 9, w ∈ wsX2_digest := (fun w h => List.mem_cons_of_mem _ (List.mem_append_left _ (List.mem_append_left _ (List.mem_append_right _ h))))
  refine lv_ldc2 (v := 211) hx hb hown (hts (.constantLong RX2 155 (211)) (mem_at 1 rfl)) dX2_digest_0 ?_
  refine lv_lstore_n (lv' := [(1, .long 211), (0, .ref (ad 0))]) hx hb dX2_digest_3 rfl hl (by decide) rfl (fun ls hl => ?_)
  refine lv_iconst (v := 0) hx hb dX2_digest_4 (by decide) ?_
  refine lv_istore_n (lv' := [(3, .int 0), (1, .long 211), (0, .ref (ad 0))]) hx hb dX2_digest_5 rfl hl (by decide) rfl (fun ls hl => ?_)
  have LOOP_1 : ∀ (fu i : Nat), i ≤ 8 → 8 - i < fu → ∀ (ls : Array Slot), lv_has ls 4 [(0, .ref (ad 0)), (1, .long (dcC n t v C i)), (3, .int (nI i))] → W p l e (rmK 5) s m args below meth c s.heap [] 0 0 Q (F0 m 6 ls []) := by
    intro fu
    induction fu with
    | zero => intro i h1 h2; exact absurd h2 (Nat.not_lt_zero _)
    | succ fu ih =>
      intro i hkn hfu  ls hl
      refine lv_iload_n hx hb dX2_digest_6 rfl (lv_at hl 2 rfl) ?_
      refine lv_bipush (v := 8) hx hb dX2_digest_7 (by decide) ?_
      refine lv_icmp_ge (tgt := 31) hx hb dX2_digest_9 (by decide) (fun c_2 => ?_) (fun c_2 => ?_)
      · have ekn : 8 = i := Nat.le_antisymm (kx_ge (x := 8) (n := 8) rfl (by omega) (by omega) c_2) hkn
        subst ekn
        refine lv_iconst (v := 0) hx hb dX2_digest_31 (by decide) ?_
        refine lv_istore_n (lv' := [(3, .int 0), (0, .ref (ad 0)), (1, .long (dcC n t v C 8))]) hx hb dX2_digest_32 rfl hl (by decide) rfl (fun ls hl => ?_)
        have LOOP_3 : ∀ (fu k : Nat), k ≤ n → n - k < fu → ∀ (ls : Array Slot), lv_has ls 4 [(0, .ref (ad 0)), (1, .long (dcN t C FF (dcC n t v C 8) k)), (3, .int (nI k))] → W p l e (rmK 5) s m args below meth c s.heap [] 0 0 Q (F0 m 33 ls []) := by
          intro fu
          induction fu with
          | zero => intro k h1 h2; exact absurd h2 (Nat.not_lt_zero _)
          | succ fu ih =>
            intro k hkn hfu  ls hl
            refine lv_iload_n hx hb dX2_digest_33 rfl (lv_at hl 2 rfl) ?_
            refine lv_aload_n hx hb dX2_digest_34 rfl (lv_at hl 0 rfl) ?_
            refine va_get (D := D) (ci := 2) (v := .int (t 1 0)) (C := RX2) (T := TX2) (N := 9) hx hb hts hinX2 hown hK hP 0 rfl rfl 1 (by decide) (hts (.fieldLink RX2 15 "TroubleCodes" "checkCount" "I") (mem_at 3 rfl)) (fun _ h9 => h9) rfl dX2_digest_35 ?_
            refine lv_icmp_ge (tgt := 54) hx hb dX2_digest_38 (by decide) (fun c_4 => ?_) (fun c_4 => ?_)
            · have ekn : n = k := Nat.le_antisymm (kx_ge hn (by omega) (by omega) c_4) hkn
              subst ekn
              refine lv_iconst (v := 0) hx hb dX2_digest_54 (by decide) ?_
              refine lv_istore_n (lv' := [(3, .int 0), (0, .ref (ad 0)), (1, .long (dcN t C FF (dcC n t v C 8) n))]) hx hb dX2_digest_55 rfl hl (by decide) rfl (fun ls hl => ?_)
              have LOOP_5 : ∀ (fu i : Nat), i ≤ 4 → 4 - i < fu → ∀ (ls : Array Slot), lv_has ls 4 [(0, .ref (ad 0)), (1, .long (dcF (t 2) (dcN t C FF (dcC n t v C 8) n) i)), (3, .int (nI i))] → W p l e (rmK 5) s m args below meth c s.heap [] 0 0 Q (F0 m 56 ls []) := by
                intro fu
                induction fu with
                | zero => intro i h1 h2; exact absurd h2 (Nat.not_lt_zero _)
                | succ fu ih =>
                  intro i hkn hfu  ls hl
                  refine lv_iload_n hx hb dX2_digest_56 rfl (lv_at hl 2 rfl) ?_
                  refine lv_iconst (v := 4) hx hb dX2_digest_57 (by decide) ?_
                  refine lv_icmp_ge (tgt := 81) hx hb dX2_digest_58 (by decide) (fun c_6 => ?_) (fun c_6 => ?_)
                  · have ekn : 4 = i := Nat.le_antisymm (kx_ge (x := 4) (n := 4) rfl (by omega) (by omega) c_6) hkn
                    subst ekn
                    refine lv_aload_n hx hb dX2_digest_81 rfl (lv_at hl 0 rfl) ?_
                    refine va_get (D := D) (ci := 2) (v := .ref (ad 3)) (C := RX2) (T := TX2) (N := 9) hx hb hts hinX2 hown hK hP 0 rfl rfl 8 (by decide) (hts (.fieldLink RX2 42 "TroubleCodes" "workshop" "LTroubleCodes$Workshop;") (mem_at 5 rfl)) (fun _ h9 => h9) rfl dX2_digest_82 ?_
                    refine lv_lload_n hx hb dX2_digest_85 rfl (lv_at hl 1 rfl) ?_
                    refine x_rlV (As := [.long (dcF (t 2) (dcN t C FF (dcC n t v C 8) n) 4)]) (rest := []) ⟨hx, hb, hml, hown, hts⟩ (tX1_digestFrom l D cI cZ cC ad v mm hm hmb (dcF (t 2) (dcN t C FF (dcC n t v C 8) n) 4)) (cwV 1 hts gX2_digest_X1_digestFrom rfl rfl rfl (by decide +kernel) ⟨Nat.le_of_ble_eq_true rfl, Nat.le_of_ble_eq_true rfl⟩) hK (x_recv (ci := 1) hK hP rfl (q0 := 3) rfl) (cP_w hP) rfl hl.1 rfl (Nat.le_of_ble_eq_true rfl) dX2_digest_86 ⟨Nat.le_of_ble_eq_true rfl, Nat.le_of_ble_eq_true rfl⟩ (fun r_7 er_7 => ?_)
                    have er_7 : r_7 = dgW (v 0) (v 1) (dcF (t 2) (dcN t C FF (dcC n t v C 8) n) 4) mm := er_7
                    subst er_7
                    exact hret 89 _ _ rfl dX2_digest_89
                  · have hi4 : i < 4 := kx_lt (x := 4) (n := 4) rfl (by omega) (by omega) c_6
                    refine lv_ldc2 (v := 31) hx hb hown (hts (.constantLong RX2 157 (31)) (mem_at 2 rfl)) dX2_digest_61 ?_
                    refine lv_lload_n hx hb dX2_digest_64 rfl (lv_at hl 1 rfl) ?_
                    refine lv_lmul hx hb dX2_digest_65 ?_
                    refine lv_aload_n hx hb dX2_digest_66 rfl (lv_at hl 0 rfl) ?_
                    refine va_get (D := D) (ci := 2) (v := .ref (ad 2)) (C := RX2) (T := TX2) (N := 9) hx hb hts hinX2 hown hK hP 0 rfl rfl 2 (by decide) (hts (.fieldLink RX2 19 "TroubleCodes" "facts" "[I") (mem_at 4 rfl)) (fun _ h9 => h9) rfl dX2_digest_67 ?_
                    refine lv_iload_n hx hb dX2_digest_70 rfl (lv_at hl 2 rfl) ?_
                    refine x_iald (k := i) (f := t 2) hx hb hK hP 2 rfl (by omega) (by decide) dX2_digest_71 ?_
                    refine lv_i2l (v := (t 2 i).toInt64) hx hb dX2_digest_72 rfl ?_
                    refine lv_ladd hx hb dX2_digest_73 ?_
                    refine lv_lstore_n (lv' := [(1, .long ((31 * (dcF (t 2) (dcN t C FF (dcC n t v C 8) n) i)) + ((t 2 i).toInt64))), (0, .ref (ad 0)), (3, .int (nI i))]) hx hb dX2_digest_74 rfl hl (by decide) rfl (fun ls hl => ?_)
                    refine lv_iinc (v := nI (i + 1)) (lv' := [(3, .int (nI (i + 1))), (1, .long ((31 * (dcF (t 2) (dcN t C FF (dcC n t v C 8) n) i)) + ((t 2 i).toInt64))), (0, .ref (ad 0))]) hx hb dX2_digest_75 hl (k := 2) rfl (nI_1 _) (by decide) rfl (fun ls hl => ?_)
                    refine lv_goto (tgt := 56) hx hb dX2_digest_78 (by decide) ?_
                    have q_8 : (dcF (t 2) (dcN t C FF (dcC n t v C 8) n) (i + 1) : Int64) = (31 * (dcF (t 2) (dcN t C FF (dcC n t v C 8) n) i)) + ((t 2 i).toInt64) := by rfl
                    exact ih (i + 1) (by omega) (by omega) ls (by rw [q_8]; exact lv_sub hl [2, 1, 0] rfl)
              have q_9 : (dcF (t 2) (dcN t C FF (dcC n t v C 8) n) 0 : Int64) = dcN t C FF (dcC n t v C 8) n := by rfl
              have q_10 : (nI 0 : Int32) = 0 := by rfl
              exact LOOP_5 (4 - 0 + 1) 0 (Nat.zero_le _) (Nat.lt_succ_self _) ls (by rw [q_9, q_10]; exact lv_sub hl [1, 2, 0] rfl)
            · have hkl : k < n := kx_lt hn (by omega) (by omega) c_4
              refine lv_aload_n hx hb dX2_digest_41 rfl (lv_at hl 0 rfl) ?_
              refine lv_lload_n hx hb dX2_digest_42 rfl (lv_at hl 1 rfl) ?_
              refine lv_iload_n hx hb dX2_digest_43 rfl (lv_at hl 2 rfl) ?_
              refine x_rlVN (As := [.long (dcN t C FF (dcC n t v C 8) k), .int (nI k)]) (rest := []) ⟨hx, hb, hml, hown, hts⟩ (tX2_digestOfCheck l D cI cZ cC ad n t v C FF FO hn hnb hfo (dcN t C FF (dcC n t v C 8) k) k) (cwV 2 hts gX2_digest_X2_digestOfCheck rfl rfl rfl (by decide +kernel) ⟨Nat.le_of_ble_eq_true rfl, Nat.le_of_ble_eq_true rfl⟩) hK hN (x_recv (ci := 2) hK hP rfl (q0 := 0) rfl) hP rfl hl.1 rfl (Nat.le_of_ble_eq_true rfl) dX2_digest_44 ⟨Nat.le_of_ble_eq_true rfl, Nat.le_of_ble_eq_true rfl⟩ (fun r_11 er_11 => ?_)
              have er_11 : r_11 = dcK t C FF (dcN t C FF (dcC n t v C 8) k) k := er_11
              subst er_11
              refine lv_lstore_n (lv' := [(1, .long (dcK t C FF (dcN t C FF (dcC n t v C 8) k) k)), (0, .ref (ad 0)), (3, .int (nI k))]) hx hb dX2_digest_47 rfl hl (by decide) rfl (fun ls hl => ?_)
              refine lv_iinc (v := nI (k + 1)) (lv' := [(3, .int (nI (k + 1))), (1, .long (dcK t C FF (dcN t C FF (dcC n t v C 8) k) k)), (0, .ref (ad 0))]) hx hb dX2_digest_48 hl (k := 2) rfl (nI_1 _) (by decide) rfl (fun ls hl => ?_)
              refine lv_goto (tgt := 33) hx hb dX2_digest_51 (by decide) ?_
              have q_12 : (dcN t C FF (dcC n t v C 8) (k + 1) : Int64) = dcK t C FF (dcN t C FF (dcC n t v C 8) k) k := by rfl
              exact ih (k + 1) (by omega) (by omega) ls (by rw [q_12]; exact lv_sub hl [2, 1, 0] rfl)
        have q_13 : (dcN t C FF (dcC n t v C 8) 0 : Int64) = dcC n t v C 8 := by rfl
        have q_14 : (nI 0 : Int32) = 0 := by rfl
        exact LOOP_3 (n - 0 + 1) 0 (Nat.zero_le _) (Nat.lt_succ_self _) ls (by rw [q_13, q_14]; exact lv_sub hl [1, 2, 0] rfl)
      · have hi8 : i < 8 := kx_lt (x := 8) (n := 8) rfl (by omega) (by omega) c_2
        refine lv_ldc2 (v := 31) hx hb hown (hts (.constantLong RX2 157 (31)) (mem_at 2 rfl)) dX2_digest_12 ?_
        refine lv_lload_n hx hb dX2_digest_15 rfl (lv_at hl 1 rfl) ?_
        refine lv_lmul hx hb dX2_digest_16 ?_
        refine lv_aload_n hx hb dX2_digest_17 rfl (lv_at hl 0 rfl) ?_
        refine lv_iload_n hx hb dX2_digest_18 rfl (lv_at hl 2 rfl) ?_
        refine x_rdV (As := [.int (nI i)]) (rest := [.long (31 * (dcC n t v C i))]) ⟨hx, hb, hml, hown, hts⟩ (tX2_count l D cI cZ cC ad n t v C FF FO hn hnb (nI i)) (cwV 1 hts gX2_digest_X2_count rfl rfl rfl (by decide +kernel) ⟨Nat.le_of_ble_eq_true rfl, Nat.le_of_ble_eq_true rfl⟩) hK (x_recv (ci := 2) hK hP rfl (q0 := 0) rfl) hP rfl hl.1 rfl (Nat.le_of_ble_eq_true rfl) dX2_digest_19 ⟨Nat.le_of_ble_eq_true rfl, Nat.le_of_ble_eq_true rfl⟩ (fun r_15 er_15 => ?_)
        have er_15 : r_15 = countC n t v C (nI i) := er_15
        subst er_15
        refine lv_i2l (v := (countC n t v C (nI i)).toInt64) hx hb dX2_digest_22 rfl ?_
        refine lv_ladd hx hb dX2_digest_23 ?_
        refine lv_lstore_n (lv' := [(1, .long ((31 * (dcC n t v C i)) + ((countC n t v C (nI i)).toInt64))), (0, .ref (ad 0)), (3, .int (nI i))]) hx hb dX2_digest_24 rfl hl (by decide) rfl (fun ls hl => ?_)
        refine lv_iinc (v := nI (i + 1)) (lv' := [(3, .int (nI (i + 1))), (1, .long ((31 * (dcC n t v C i)) + ((countC n t v C (nI i)).toInt64))), (0, .ref (ad 0))]) hx hb dX2_digest_25 hl (k := 2) rfl (nI_1 _) (by decide) rfl (fun ls hl => ?_)
        refine lv_goto (tgt := 6) hx hb dX2_digest_28 (by decide) ?_
        have q_16 : (dcC n t v C (i + 1) : Int64) = (31 * (dcC n t v C i)) + ((countC n t v C (nI i)).toInt64) := by rfl
        exact ih (i + 1) (by omega) (by omega) ls (by rw [q_16]; exact lv_sub hl [2, 1, 0] rfl)
  have q_17 : (dcC n t v C 0 : Int64) = 211 := by rfl
  have q_18 : (nI 0 : Int32) = 0 := by rfl
  exact LOOP_1 (8 - 0 + 1) 0 (Nat.zero_le _) (Nat.lt_succ_self _) ls (by rw [q_17, q_18]; exact lv_sub hl [2, 1, 0] rfl)
