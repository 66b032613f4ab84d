set_option maxHeartbeats 4000000 in
set_option maxRecDepth 100000 in
theorem tX2_checkAt (l : Launch) (D : va_G) (cI cZ cC : ClassId) (ad : Nat → Nat) (n : Nat) (t v C FF FO : Nat → Nat → Int32) (hn : t 1 0 = nI n) (hnb : n ≤ 16) (x : Int32) : RdQ l yX2_checkAt wsX2_checkAt (rmK 1) D cI cZ cC [.ref (ad 0), .int x] (fun H => va_P D vwCl (cW cI cC ad n t v C FF FO) H) (fun ans => ans = ckA ad t x) := by
  refine RdQ.of (cc := cX2_checkAt) (maxL := 2) (rt := .object "TroubleCodes$Check") (by decide) rfl (Or.inl ⟨_, rfl⟩) (Nat.le_of_ble_eq_true rfl) ?_
  intro p e s m args below meth c Q ls hx hb hml hts hown hK hP hret hl
  have hl : lv_has ls 2 [(0, .ref (ad 0)), (1, .int x)] := hl
  have hP : va_P D vwCl (cW cI cC ad n t v C FF FO) s.heap := hP
  have hinX2 : ∀ w ∈ u_ws RX2 TX2 9, w ∈ wsX2_checkAt := (fun w h => List.mem_cons_of_mem _ (List.mem_append_right _ h))
  refine lv_iload_n hx hb dX2_checkAt_0 rfl (lv_at hl 1 rfl) ?_
  refine lv_iconst (v := 0) hx hb dX2_checkAt_1 (by decide) ?_
  refine lv_aload_n hx hb dX2_checkAt_2 rfl (lv_at hl 0 rfl) ?_
  refine va_get (D := D) (ci := 2) (v := .int (t 1 0)) (C := RX2) (T := TX2) (N := 9) hx hb hts hinX2 hown hK hP 0 rfl rfl 1 (by decide) (hts (.fieldLink RX2 15 "TroubleCodes" "checkCount" "I") (mem_at 1 rfl)) (fun _ h9 => h9) rfl dX2_checkAt_3 ?_
  refine lv_iconst (v := 1) hx hb dX2_checkAt_6 (by decide) ?_
  refine lv_isub hx hb dX2_checkAt_7 ?_
  refine x_rdS (As := [.int x, .int 0, .int ((t 1 0) - 1)]) (rest := []) ⟨hx, hb, hml, hown, hts⟩ (tX2_isWithin l D cI cZ cC x 0 ((t 1 0) - 1)) (va_cwS 3 hts gX2_checkAt_X2_isWithin rfl rfl rfl (by decide +kernel) ⟨Nat.le_of_ble_eq_true rfl, Nat.le_of_ble_eq_true rfl⟩) hK trivial rfl hl.1 rfl (Nat.le_of_ble_eq_true rfl) dX2_checkAt_8 ⟨Nat.le_of_ble_eq_true rfl, Nat.le_of_ble_eq_true rfl⟩ (fun r_1 er_1 => ?_)
  have er_1 : r_1 = bI (0 ≤ x ∧ x ≤ ((t 1 0) - 1)) := er_1
  subst er_1
  refine lv_if_eq (tgt := 23) hx hb dX2_checkAt_11 (by decide) (fun c_2 => ?_) (fun c_2 => ?_)
  · have c_2 := bI_eq c_2
    refine lv_null hx hb dX2_checkAt_23 ?_
    exact hret 24 _ none (ckA_n c_2).symm dX2_checkAt_24
  · have c_2 := bI_ne c_2
    obtain ⟨j, hj, ej⟩ := ixck hn (by omega) c_2
    subst ej
    have xj : ix (nI j) = j := ix_nI (by omega)
    refine lv_aload_n hx hb dX2_checkAt_14 rfl (lv_at hl 0 rfl) ?_
    refine va_get (D := D) (ci := 2) (v := .ref (ad 1)) (C := RX2) (T := TX2) (N := 9) hx hb hts hinX2 hown hK hP 0 rfl rfl 0 (by decide) (hts (.fieldLink RX2 11 "TroubleCodes" "checks" "[LTroubleCodes$Check;") (mem_at 2 rfl)) (fun _ h9 => h9) rfl dX2_checkAt_15 ?_
    refine lv_iload_n hx hb dX2_checkAt_18 rfl (lv_at hl 1 rfl) ?_
    refine x_aald (k := j) (f := ckR ad n) hx hb hK hP 1 rfl (by omega) (by decide) dX2_checkAt_19 ?_
    refine lv_goto (tgt := 24) hx hb dX2_checkAt_20 (by decide) ?_
    exact hret 24 _ (ckR ad n j) (by rw [ckA_k hn hnb hj, ckR, if_pos hj]) dX2_checkAt_24

set_option maxHeartbeats 4000000 in
set_option maxRecDepth 100000 in
theorem tX2_isHeldBack (l : Launch) (D : va_G) (cI cZ cC : ClassId) (ad : Nat → Nat) (n : Nat) (t v C FF FO : Nat → Nat → Int32) (hn : t 1 0 = nI n) (hnb : n ≤ 16) (k : Nat) (hkl : k < n) (hfo : C k 0 = 2 → ∃ f, f < n ∧ C k 1 = nI f) : RdC l yX2_isHeldBack wsX2_isHeldBack (rmK 2) D cI cZ cC [.ref (ad 0), .ref (ad (16 + k))] (fun H => va_P D vwCl (cW cI cC ad n t v C FF FO) H) (fun ans => ans = heldC C k) := by
  refine RdC.of (cc := cX2_isHeldBack) (maxL := 3) (ret := .boolean) (by decide) rfl (Nat.le_of_ble_eq_true rfl) ?_
  intro p e s m args below meth c Q ls hx hb hml hts hown hK hP hret hl
  have hl : lv_has ls 3 [(0, .ref (ad 0)), (1, .ref (ad (16 + k)))] := hl
  have hP : va_P D vwCl (cW cI cC ad n t v C FF FO) s.heap := hP
  have hinX0 : ∀ w ∈ u_ws RX0 TX0 18, w ∈ wsX2_isHeldBack := (fun w h => List.mem_cons_of_mem _ (List.mem_append_left _ (List.mem_append_right _ h)))
  refine lv_aload_n hx hb dX2_isHeldBack_0 rfl (lv_at hl 1 rfl) ?_
  refine va_get (D := D) (ci := 0) (v := .int (C k 0)) (C := RX0) (T := TX0) (N := 18) hx hb hts hinX0 hown hK hP (10 + k) (cW_k hkl) rfl 0 (by decide) (hts (.fieldLink RX2 182 "TroubleCodes$Check" "sort" "I") (mem_at 1 rfl)) (fun _ h9 => h9) rfl dX2_isHeldBack_1 ?_
  refine lv_iconst (v := 2) hx hb dX2_isHeldBack_4 (by decide) ?_
  refine lv_icmp_eq (tgt := 10) hx hb dX2_isHeldBack_5 (by decide) (fun c_1 => ?_) (fun c_1 => ?_)
  · obtain ⟨f, hf16, ef⟩ := hfo c_1
    refine lv_aload_n hx hb dX2_isHeldBack_10 rfl (lv_at hl 0 rfl) ?_
    refine lv_aload_n hx hb dX2_isHeldBack_11 rfl (lv_at hl 1 rfl) ?_
    refine va_get (D := D) (ci := 0) (v := .int (C k 1)) (C := RX0) (T := TX0) (N := 18) hx hb hts hinX0 hown hK hP (10 + k) (cW_k hkl) rfl 1 (by decide) (hts (.fieldLink RX2 185 "TroubleCodes$Check" "follows" "I") (mem_at 2 rfl)) (fun _ h9 => h9) rfl dX2_isHeldBack_12 ?_
    rw [ef]
    refine x_rqV (As := [.int (nI f)]) (rest := []) ⟨hx, hb, hml, hown, hts⟩ (tX2_checkAt l D cI cZ cC ad n t v C FF FO hn hnb (nI f)) (cwV 1 hts gX2_isHeldBack_X2_checkAt rfl rfl rfl (by decide +kernel) ⟨Nat.le_of_ble_eq_true rfl, Nat.le_of_ble_eq_true rfl⟩) hK (x_recv (ci := 2) hK hP rfl (q0 := 0) rfl) hP rfl hl.1 rfl (Nat.le_of_ble_eq_true rfl) dX2_isHeldBack_15 ⟨Nat.le_of_ble_eq_true rfl, Nat.le_of_ble_eq_true rfl⟩ (fun r_2 er_2 => ?_)
    have er_2 : r_2 = ckA ad t (nI f) := er_2
    subst er_2
    rw [ckA_k hn hnb hf16]
    refine W.eq (g2 := F0 m 18 ls [.ref (ad (16 + f))]) rfl ?_
    refine lv_astore_n (lv' := [(2, .ref (ad (16 + f))), (0, .ref (ad 0)), (1, .ref (ad (16 + k)))]) hx hb dX2_isHeldBack_18 rfl hl (by decide) rfl (fun ls hl => ?_)
    refine lv_aload_n hx hb dX2_isHeldBack_19 rfl (lv_at hl 0 rfl) ?_
    refine lv_ifnull hx hb dX2_isHeldBack_20 ?_
    refine lv_aload_n hx hb dX2_isHeldBack_23 rfl (lv_at hl 0 rfl) ?_
    refine x_rdV (As := []) (rest := []) ⟨hx, hb, hml, hown, hts⟩ (tX0_isTroubled l D cI cZ cC (ad (16 + f)) (ad (32 + f)) (ad (48 + f)) (C f)) (cwV 0 hts gX2_isHeldBack_X0_isTroubled rfl rfl rfl (by decide +kernel) ⟨Nat.le_of_ble_eq_true rfl, Nat.le_of_ble_eq_true rfl⟩) hK (x_recv (ci := 0) hK hP rfl (q0 := 10 + f) (cW_k hf16)) (cP_k hP hf16) rfl hl.1 rfl (Nat.le_of_ble_eq_true rfl) dX2_isHeldBack_24 ⟨Nat.le_of_ble_eq_true rfl, Nat.le_of_ble_eq_true rfl⟩ (fun r_3 er_3 => ?_)
    have er_3 : r_3 = bI (C f 7 = 1 ∨ C f 7 = 2) := er_3
    subst er_3
    refine lv_if_eq (tgt := 34) hx hb dX2_isHeldBack_27 (by decide) (fun c_4 => ?_) (fun c_4 => ?_)
    · have c_4 := bI_eq c_4
      refine lv_iconst (v := 0) hx hb dX2_isHeldBack_34 (by decide) ?_
      exact hret 35 _ _ (by simp [heldC, bI, c_1, c_4, ef, ix_nI (show f < 2 ^ 31 by omega)]) rfl dX2_isHeldBack_35
    · have c_4 := bI_ne c_4
      refine lv_iconst (v := 1) hx hb dX2_isHeldBack_30 (by decide) ?_
      refine lv_goto (tgt := 35) hx hb dX2_isHeldBack_31 (by decide) ?_
      exact hret 35 _ _ (by simp [heldC, bI, c_1, c_4, ef, ix_nI (show f < 2 ^ 31 by omega)]) rfl dX2_isHeldBack_35
  · refine lv_iconst (v := 0) hx hb dX2_isHeldBack_8 (by decide) ?_
    exact hret 9 _ _ (by simp [heldC, bI, c_1]) rfl dX2_isHeldBack_9

set_option maxHeartbeats 4000000 in
set_option maxRecDepth 100000 in
theorem tX2_frozenCount (l : Launch) (D : va_G) (cI cZ cC : ClassId) (ad : Nat → Nat) (n : Nat) (t v C FF FO : Nat → Nat → Int32) (hn : t 1 0 = nI n) (hnb : n ≤ 16) : RdC l yX2_frozenCount wsX2_frozenCount (rmK 2) D cI cZ cC [.ref (ad 0)] (fun H => va_P D vwCl (cW cI cC ad n t v C FF FO) H) (fun ans => ans = sumN (fun j => if C j 13 = -1 then 0 else 1) n) := by
  refine RdC.of (cc := cX2_frozenCount) (maxL := 4) (ret := .int) (by decide) rfl (Nat.le_of_ble_eq_true rfl) ?_
  intro p e s m args below meth c Q ls hx hb hml hts hown hK hP hret hl
  have hl : lv_has ls 4 [(0, .ref (ad 0))] := hl
  have hP : va_P D vwCl (cW cI cC ad n t v C FF FO) s.heap := hP
  have hinX2 : ∀ w ∈ u_ws RX2 TX2 9, w ∈ wsX2_frozenCount := (fun w h => List.mem_cons_of_mem _ (List.mem_append_left _ (List.mem_append_right _ h)))
  refine lv_iconst (v := 0) hx hb dX2_frozenCount_0 (by decide) ?_
  refine lv_istore_n (lv' := [(1, .int 0), (0, .ref (ad 0))]) hx hb dX2_frozenCount_1 rfl hl (by decide) rfl (fun ls hl => ?_)
  refine lv_iconst (v := 0) hx hb dX2_frozenCount_2 (by decide) ?_
  refine lv_istore_n (lv' := [(2, .int 0), (1, .int 0), (0, .ref (ad 0))]) hx hb dX2_frozenCount_3 rfl hl (by decide) rfl (fun ls hl => ?_)
  have LOOP_1 : ∀ (fu k : Nat), k ≤ n → n - k < fu → ∀ (ls : Array Slot), lv_has ls 4 [(0, .ref (ad 0)), (1, .int (sumN (fun j => if C j 13 = -1 then 0 else 1) k)), (2, .int (nI k))] → W p l e (rmK 2) s m args below meth c s.heap [] 0 0 Q (F0 m 4 ls []) := by
    intro fu
    induction fu with
    | zero => intro k h1 h2; exact absurd h2 (Nat.not_lt_zero _)
    | succ fu ih =>
      intro k hkn hfu  ls hl
      refine lv_iload_n hx hb dX2_frozenCount_4 rfl (lv_at hl 2 rfl) ?_
      refine lv_aload_n hx hb dX2_frozenCount_5 rfl (lv_at hl 0 rfl) ?_
      refine va_get (D := D) (ci := 2) (v := .int (t 1 0)) (C := RX2) (T := TX2) (N := 9) hx hb hts hinX2 hown hK hP 0 rfl rfl 1 (by decide) (hts (.fieldLink RX2 15 "TroubleCodes" "checkCount" "I") (mem_at 1 rfl)) (fun _ h9 => h9) rfl dX2_frozenCount_6 ?_
      refine lv_icmp_ge (tgt := 38) hx hb dX2_frozenCount_9 (by decide) (fun c_2 => ?_) (fun c_2 => ?_)
      · have ekn : n = k := Nat.le_antisymm (kx_ge hn (by omega) (by omega) c_2) hkn
        subst ekn
        refine lv_iload_n hx hb dX2_frozenCount_38 rfl (lv_at hl 1 rfl) ?_
        exact hret 39 _ _ (rfl) rfl dX2_frozenCount_39
      · have hkl : k < n := kx_lt hn (by omega) (by omega) c_2
        refine lv_aload_n hx hb dX2_frozenCount_12 rfl (lv_at hl 0 rfl) ?_
        refine lv_iload_n hx hb dX2_frozenCount_13 rfl (lv_at hl 2 rfl) ?_
        refine x_rqV (As := [.int (nI k)]) (rest := []) ⟨hx, hb, hml, hown, hts⟩ (tX2_checkAt l D cI cZ cC ad n t v C FF FO hn hnb (nI k)) (cwV 1 hts gX2_frozenCount_X2_checkAt rfl rfl rfl (by decide +kernel) ⟨Nat.le_of_ble_eq_true rfl, Nat.le_of_ble_eq_true rfl⟩) hK (x_recv (ci := 2) hK hP rfl (q0 := 0) rfl) hP rfl hl.1 rfl (Nat.le_of_ble_eq_true rfl) dX2_frozenCount_14 ⟨Nat.le_of_ble_eq_true rfl, Nat.le_of_ble_eq_true rfl⟩ (fun r_3 er_3 => ?_)
        have er_3 : r_3 = ckA ad t (nI k) := er_3
        subst er_3
        rw [ckA_k hn hnb hkl]
        refine W.eq (g2 := F0 m 17 ls [.ref (ad (16 + k))]) rfl ?_
        refine lv_astore_n (lv' := [(3, .ref (ad (16 + k))), (0, .ref (ad 0)), (1, .int (sumN (fun j => if C j 13 = -1 then 0 else 1) k)), (2, .int (nI k))]) hx hb dX2_frozenCount_17 rfl hl (by decide) rfl (fun ls hl => ?_)
        refine lv_aload_n hx hb dX2_frozenCount_18 rfl (lv_at hl 0 rfl) ?_
        refine lv_ifnull hx hb dX2_frozenCount_19 ?_
        refine lv_aload_n hx hb dX2_frozenCount_22 rfl (lv_at hl 0 rfl) ?_
        refine x_rdV (As := []) (rest := []) ⟨hx, hb, hml, hown, hts⟩ (tX0_isFrozen l D cI cZ cC (ad (16 + k)) (ad (32 + k)) (ad (48 + k)) (C k)) (cwV 0 hts gX2_frozenCount_X0_isFrozen rfl rfl rfl (by decide +kernel) ⟨Nat.le_of_ble_eq_true rfl, Nat.le_of_ble_eq_true rfl⟩) hK (x_recv (ci := 0) hK hP rfl (q0 := 10 + k) (cW_k hkl)) (cP_k hP hkl) rfl hl.1 rfl (Nat.le_of_ble_eq_true rfl) dX2_frozenCount_23 ⟨Nat.le_of_ble_eq_true rfl, Nat.le_of_ble_eq_true rfl⟩ (fun r_4 er_4 => ?_)
        have er_4 : r_4 = bI (¬ C k 13 = (-1)) := er_4
        subst er_4
        refine lv_if_eq (tgt := 32) hx hb dX2_frozenCount_26 (by decide) (fun c_5 => ?_) (fun c_5 => ?_)
        · have c_5 := bI_eq c_5
          have c_5 := Decidable.not_not.mp c_5
          refine lv_iinc (v := nI (k + 1)) (lv' := [(2, .int (nI (k + 1))), (3, .ref (ad (16 + k))), (0, .ref (ad 0)), (1, .int (sumN (fun j => if C j 13 = -1 then 0 else 1) k))]) hx hb dX2_frozenCount_32 hl (k := 3) rfl (nI_1 _) (by decide) rfl (fun ls hl => ?_)
          refine lv_goto (tgt := 4) hx hb dX2_frozenCount_35 (by decide) ?_
          have q_6 : (sumN (fun j => if C j 13 = -1 then 0 else 1) (k + 1) : Int32) = sumN (fun j => if C j 13 = -1 then 0 else 1) k := by first | rfl | simp [sumN, c_2, Int32.not_le.mp c_2, c_5]
          exact ih (k + 1) (by omega) (by omega) ls (by rw [q_6]; exact lv_sub hl [2, 3, 0] rfl)
        · have c_5 := bI_ne c_5
          refine lv_iinc (v := (sumN (fun j => if C j 13 = -1 then 0 else 1) k) + 1) (lv' := [(1, .int ((sumN (fun j => if C j 13 = -1 then 0 else 1) k) + 1)), (3, .ref (ad (16 + k))), (0, .ref (ad 0)), (2, .int (nI k))]) hx hb dX2_frozenCount_29 hl (k := 2) rfl rfl (by decide) rfl (fun ls hl => ?_)
          refine lv_iinc (v := nI (k + 1)) (lv' := [(2, .int (nI (k + 1))), (1, .int ((sumN (fun j => if C j 13 = -1 then 0 else 1) k) + 1)), (3, .ref (ad (16 + k))), (0, .ref (ad 0))]) hx hb dX2_frozenCount_32 hl (k := 3) rfl (nI_1 _) (by decide) rfl (fun ls hl => ?_)
          refine lv_goto (tgt := 4) hx hb dX2_frozenCount_35 (by decide) ?_
          have q_7 : (sumN (fun j => if C j 13 = -1 then 0 else 1) (k + 1) : Int32) = (sumN (fun j => if C j 13 = -1 then 0 else 1) k) + 1 := by first | rfl | simp [sumN, c_2, Int32.not_le.mp c_2, c_5]
          exact ih (k + 1) (by omega) (by omega) ls (by rw [q_7]; exact lv_sub hl [3, 1, 0] rfl)
  have q_8 : (sumN (fun j => if C j 13 = -1 then 0 else 1) 0 : Int32) = 0 := by rfl
  have q_9 : (nI 0 : Int32) = 0 := by rfl
  exact LOOP_1 (n - 0 + 1) 0 (Nat.zero_le _) (Nat.lt_succ_self _) ls (by rw [q_8, q_9]; exact lv_sub hl [2, 1, 0] rfl)

set_option maxHeartbeats 4000000 in
set_option maxRecDepth 100000 in
theorem tX2_leastFrozen (l : Launch) (D : va_G) (cI cZ cC : ClassId) (ad : Nat → Nat) (n : Nat) (t v C FF FO : Nat → Nat → Int32) (hn : t 1 0 = nI n) (hnb : n ≤ 16) : RdQ l yX2_leastFrozen wsX2_leastFrozen (rmK 2) D cI cZ cC [.ref (ad 0)] (fun H => va_P D vwCl (cW cI cC ad n t v C FF FO) H) (fun ans => ans = Option.map (fun j => ad (16 + j)) (lfC C n)) := by
  refine RdQ.of (cc := cX2_leastFrozen) (maxL := 4) (rt := .object "TroubleCodes$Check") (by decide) rfl (Or.inl ⟨_, rfl⟩) (Nat.le_of_ble_eq_true rfl) ?_
  intro p e s m args below meth c Q ls hx hb hml hts hown hK hP hret hl
  have hl : lv_has ls 4 [(0, .ref (ad 0))] := hl
  have hP : va_P D vwCl (cW cI cC ad n t v C FF FO) s.heap := hP
  have hinX2 : ∀ w ∈ u_ws RX2 TX2 9, w ∈ wsX2_leastFrozen := (fun w h => List.mem_cons_of_mem _ (List.mem_append_left _ (List.mem_append_right _ h)))
  refine lv_null hx hb dX2_leastFrozen_0 ?_
  refine lv_astore_nN (lv' := [(1, .null), (0, .ref (ad 0))]) hx hb dX2_leastFrozen_1 rfl hl (by decide) rfl (fun ls hl => ?_)
  refine lv_iconst (v := 0) hx hb dX2_leastFrozen_2 (by decide) ?_
  refine lv_istore_n (lv' := [(2, .int 0), (1, .null), (0, .ref (ad 0))]) hx hb dX2_leastFrozen_3 rfl hl (by decide) rfl (fun ls hl => ?_)
  have LOOP_1 : ∀ (fu k : Nat), k ≤ n → n - k < fu → ∀ (ls : Array Slot), lv_has ls 4 [(0, .ref (ad 0)), (1, va_rf (Option.map (fun j => ad (16 + j)) (lfC C k))), (2, .int (nI k))] → W p l e (rmK 2) s m args below meth c s.heap [] 0 0 Q (F0 m 4 ls []) := by
    intro fu
    induction fu with
    | zero => intro k h1 h2; exact absurd h2 (Nat.not_lt_zero _)
    | succ fu ih =>
      intro k hkn hfu  ls hl
      refine lv_iload_n hx hb dX2_leastFrozen_4 rfl (lv_at hl 2 rfl) ?_
      refine lv_aload_n hx hb dX2_leastFrozen_5 rfl (lv_at hl 0 rfl) ?_
      refine va_get (D := D) (ci := 2) (v := .int (t 1 0)) (C := RX2) (T := TX2) (N := 9) hx hb hts hinX2 hown hK hP 0 rfl rfl 1 (by decide) (hts (.fieldLink RX2 15 "TroubleCodes" "checkCount" "I") (mem_at 1 rfl)) (fun _ h9 => h9) rfl dX2_leastFrozen_6 ?_
      refine lv_icmp_ge (tgt := 59) hx hb dX2_leastFrozen_9 (by decide) (fun c_2 => ?_) (fun c_2 => ?_)
      · have ekn : n = k := Nat.le_antisymm (kx_ge hn (by omega) (by omega) c_2) hkn
        subst ekn
        rcases hlf : lfC C n with _ | j
        · rw [hlf] at hl
          have hl : lv_has ls 4 [(0, .ref (ad 0)), (1, .null), (2, .int (nI n))] := hl
          refine lv_aload_nN hx hb dX2_leastFrozen_59 rfl (lv_at hl 1 rfl) ?_
          exact hret 60 _ none (by rw [hlf]; rfl) dX2_leastFrozen_60
        · rw [hlf] at hl
          have hl : lv_has ls 4 [(0, .ref (ad 0)), (1, .ref (ad (16 + j))), (2, .int (nI n))] := hl
          refine lv_aload_n hx hb dX2_leastFrozen_59 rfl (lv_at hl 1 rfl) ?_
          exact hret 60 _ (some (ad (16 + j))) (by rw [hlf]; rfl) dX2_leastFrozen_60
      · have hkl : k < n := kx_lt hn (by omega) (by omega) c_2
        rcases hlf : lfC C k with _ | j
        · rw [hlf] at hl
          have hl : lv_has ls 4 [(0, .ref (ad 0)), (1, .null), (2, .int (nI k))] := hl
          refine lv_aload_n hx hb dX2_leastFrozen_12 rfl (lv_at hl 0 rfl) ?_
          refine lv_iload_n hx hb dX2_leastFrozen_13 rfl (lv_at hl 2 rfl) ?_
          refine x_rqV (As := [.int (nI k)]) (rest := []) ⟨hx, hb, hml, hown, hts⟩ (tX2_checkAt l D cI cZ cC ad n t v C FF FO hn hnb (nI k)) (cwV 1 hts gX2_leastFrozen_X2_checkAt rfl rfl rfl (by decide +kernel) ⟨Nat.le_of_ble_eq_true rfl, Nat.le_of_ble_eq_true rfl⟩) hK (x_recv (ci := 2) hK hP rfl (q0 := 0) rfl) hP rfl hl.1 rfl (Nat.le_of_ble_eq_true rfl) dX2_leastFrozen_14 ⟨Nat.le_of_ble_eq_true rfl, Nat.le_of_ble_eq_true rfl⟩ (fun r_3 er_3 => ?_)
          have er_3 : r_3 = ckA ad t (nI k) := er_3
          subst er_3
          rw [ckA_k hn hnb hkl]
          refine W.eq (g2 := F0 m 17 ls [.ref (ad (16 + k))]) rfl ?_
          refine lv_astore_n (lv' := [(3, .ref (ad (16 + k))), (0, .ref (ad 0)), (1, .null), (2, .int (nI k))]) hx hb dX2_leastFrozen_17 rfl hl (by decide) rfl (fun ls hl => ?_)
          refine lv_aload_n hx hb dX2_leastFrozen_18 rfl (lv_at hl 0 rfl) ?_
          refine lv_ifnull hx hb dX2_leastFrozen_19 ?_
          refine lv_aload_n hx hb dX2_leastFrozen_22 rfl (lv_at hl 0 rfl) ?_
          refine x_rdV (As := []) (rest := []) ⟨hx, hb, hml, hown, hts⟩ (tX0_isFrozen l D cI cZ cC (ad (16 + k)) (ad (32 + k)) (ad (48 + k)) (C k)) (cwV 0 hts gX2_leastFrozen_X0_isFrozen rfl rfl rfl (by decide +kernel) ⟨Nat.le_of_ble_eq_true rfl, Nat.le_of_ble_eq_true rfl⟩) hK (x_recv (ci := 0) hK hP rfl (q0 := 10 + k) (cW_k hkl)) (cP_k hP hkl) rfl hl.1 rfl (Nat.le_of_ble_eq_true rfl) dX2_leastFrozen_23 ⟨Nat.le_of_ble_eq_true rfl, Nat.le_of_ble_eq_true rfl⟩ (fun r_4 er_4 => ?_)
          have er_4 : r_4 = bI (¬ C k 13 = (-1)) := er_4
          subst er_4
          refine lv_if_eq (tgt := 53) hx hb dX2_leastFrozen_26 (by decide) (fun c_5 => ?_) (fun c_5 => ?_)
          · have c_5 := bI_eq c_5
            have c_5 := Decidable.not_not.mp c_5
            refine lv_iinc (v := nI (k + 1)) (lv' := [(2, .int (nI (k + 1))), (3, .ref (ad (16 + k))), (0, .ref (ad 0)), (1, .null)]) hx hb dX2_leastFrozen_53 hl (k := 3) rfl (nI_1 _) (by decide) rfl (fun ls hl => ?_)
            refine lv_goto (tgt := 4) hx hb dX2_leastFrozen_56 (by decide) ?_
            have q_6 : lfC C (k + 1) = none := by rw [lfC, if_neg, hlf]; intro h; exact h.1 c_5
            exact ih (k + 1) (by omega) (by omega) ls (by rw [q_6]; exact lv_sub hl [2, 3, 0] rfl)
          · have c_5 := bI_ne c_5
            refine lv_aload_n hx hb dX2_leastFrozen_29 rfl (lv_at hl 0 rfl) ?_
            refine x_rdV (As := []) (rest := []) ⟨hx, hb, hml, hown, hts⟩ (tX0_isPermanent l D cI cZ cC (ad (16 + k)) (ad (32 + k)) (ad (48 + k)) (C k)) (cwV 0 hts gX2_leastFrozen_X0_isPermanent rfl rfl rfl (by decide +kernel) ⟨Nat.le_of_ble_eq_true rfl, Nat.le_of_ble_eq_true rfl⟩) hK (x_recv (ci := 0) hK hP rfl (q0 := 10 + k) (cW_k hkl)) (cP_k hP hkl) rfl hl.1 rfl (Nat.le_of_ble_eq_true rfl) dX2_leastFrozen_30 ⟨Nat.le_of_ble_eq_true rfl, Nat.le_of_ble_eq_true rfl⟩ (fun r_7 er_7 => ?_)
            have er_7 : r_7 = bI (C k 0 = 1) := er_7
            subst er_7
            refine lv_if_eq (tgt := 39) hx hb dX2_leastFrozen_33 (by decide) (fun c_8 => ?_) (fun c_8 => ?_)
            · have c_8 := bI_eq c_8
              refine lv_aload_nN hx hb dX2_leastFrozen_39 rfl (lv_at hl 2 rfl) ?_
              refine lv_ifnullN (tgt := 51) hx hb dX2_leastFrozen_40 (by decide) ?_
              refine lv_aload_n hx hb dX2_leastFrozen_51 rfl (lv_at hl 0 rfl) ?_
              refine lv_astore_n (lv' := [(1, .ref (ad (16 + k))), (3, .ref (ad (16 + k))), (0, .ref (ad 0)), (2, .int (nI k))]) hx hb dX2_leastFrozen_52 rfl hl (by decide) rfl (fun ls hl => ?_)
              refine lv_iinc (v := nI (k + 1)) (lv' := [(2, .int (nI (k + 1))), (1, .ref (ad (16 + k))), (3, .ref (ad (16 + k))), (0, .ref (ad 0))]) hx hb dX2_leastFrozen_53 hl (k := 3) rfl (nI_1 _) (by decide) rfl (fun ls hl => ?_)
              refine lv_goto (tgt := 4) hx hb dX2_leastFrozen_56 (by decide) ?_
              have q_9 : lfC C (k + 1) = some k := by rw [lfC, if_pos]; exact ⟨c_5, c_8, fun j2 h2 => by rw [hlf] at h2; cases h2⟩
              exact ih (k + 1) (by omega) (by omega) ls (by rw [q_9]; exact lv_sub hl [3, 1, 0] rfl)
            · have c_8 := bI_ne c_8
              refine lv_goto (tgt := 53) hx hb dX2_leastFrozen_36 (by decide) ?_
              refine lv_iinc (v := nI (k + 1)) (lv' := [(2, .int (nI (k + 1))), (3, .ref (ad (16 + k))), (0, .ref (ad 0)), (1, .null)]) hx hb dX2_leastFrozen_53 hl (k := 3) rfl (nI_1 _) (by decide) rfl (fun ls hl => ?_)
              refine lv_goto (tgt := 4) hx hb dX2_leastFrozen_56 (by decide) ?_
              have q_10 : lfC C (k + 1) = none := by rw [lfC, if_neg, hlf]; intro h; exact h.2.1 c_8
              exact ih (k + 1) (by omega) (by omega) ls (by rw [q_10]; exact lv_sub hl [2, 3, 0] rfl)
        · rw [hlf] at hl
          have hjk := (lfC_lt C k j hlf).1
          have hj : j < n := by omega
          have hl : lv_has ls 4 [(0, .ref (ad 0)), (1, .ref (ad (16 + j))), (2, .int (nI k))] := hl
          refine lv_aload_n hx hb dX2_leastFrozen_12 rfl (lv_at hl 0 rfl) ?_
          refine lv_iload_n hx hb dX2_leastFrozen_13 rfl (lv_at hl 2 rfl) ?_
          refine x_rqV (As := [.int (nI k)]) (rest := []) ⟨hx, hb, hml, hown, hts⟩ (tX2_checkAt l D cI cZ cC ad n t v C FF FO hn hnb (nI k)) (cwV 1 hts gX2_leastFrozen_X2_checkAt rfl rfl rfl (by decide +kernel) ⟨Nat.le_of_ble_eq_true rfl, Nat.le_of_ble_eq_true rfl⟩) hK (x_recv (ci := 2) hK hP rfl (q0 := 0) rfl) hP rfl hl.1 rfl (Nat.le_of_ble_eq_true rfl) dX2_leastFrozen_14 ⟨Nat.le_of_ble_eq_true rfl, Nat.le_of_ble_eq_true rfl⟩ (fun r_11 er_11 => ?_)
          have er_11 : r_11 = ckA ad t (nI k) := er_11
          subst er_11
          rw [ckA_k hn hnb hkl]
          refine W.eq (g2 := F0 m 17 ls [.ref (ad (16 + k))]) rfl ?_
          refine lv_astore_n (lv' := [(3, .ref (ad (16 + k))), (0, .ref (ad 0)), (1, .ref (ad (16 + j))), (2, .int (nI k))]) hx hb dX2_leastFrozen_17 rfl hl (by decide) rfl (fun ls hl => ?_)
          refine lv_aload_n hx hb dX2_leastFrozen_18 rfl (lv_at hl 0 rfl) ?_
          refine lv_ifnull hx hb dX2_leastFrozen_19 ?_
          refine lv_aload_n hx hb dX2_leastFrozen_22 rfl (lv_at hl 0 rfl) ?_
          refine x_rdV (As := []) (rest := []) ⟨hx, hb, hml, hown, hts⟩ (tX0_isFrozen l D cI cZ cC (ad (16 + k)) (ad (32 + k)) (ad (48 + k)) (C k)) (cwV 0 hts gX2_leastFrozen_X0_isFrozen rfl rfl rfl (by decide +kernel) ⟨Nat.le_of_ble_eq_true rfl, Nat.le_of_ble_eq_true rfl⟩) hK (x_recv (ci := 0) hK hP rfl (q0 := 10 + k) (cW_k hkl)) (cP_k hP hkl) rfl hl.1 rfl (Nat.le_of_ble_eq_true rfl) dX2_leastFrozen_23 ⟨Nat.le_of_ble_eq_true rfl, Nat.le_of_ble_eq_true rfl⟩ (fun r_12 er_12 => ?_)
          have er_12 : r_12 = bI (¬ C k 13 = (-1)) := er_12
          subst er_12
          refine lv_if_eq (tgt := 53) hx hb dX2_leastFrozen_26 (by decide) (fun c_13 => ?_) (fun c_13 => ?_)
          · have c_13 := bI_eq c_13
            have c_13 := Decidable.not_not.mp c_13
            refine lv_iinc (v := nI (k + 1)) (lv' := [(2, .int (nI (k + 1))), (3, .ref (ad (16 + k))), (0, .ref (ad 0)), (1, .ref (ad (16 + j)))]) hx hb dX2_leastFrozen_53 hl (k := 3) rfl (nI_1 _) (by decide) rfl (fun ls hl => ?_)
            refine lv_goto (tgt := 4) hx hb dX2_leastFrozen_56 (by decide) ?_
            have q_14 : lfC C (k + 1) = some j := by rw [lfC, if_neg, hlf]; intro h; exact h.1 c_13
            exact ih (k + 1) (by omega) (by omega) ls (by rw [q_14]; exact lv_sub hl [2, 3, 0] rfl)
          · have c_13 := bI_ne c_13
            refine lv_aload_n hx hb dX2_leastFrozen_29 rfl (lv_at hl 0 rfl) ?_
            refine x_rdV (As := []) (rest := []) ⟨hx, hb, hml, hown, hts⟩ (tX0_isPermanent l D cI cZ cC (ad (16 + k)) (ad (32 + k)) (ad (48 + k)) (C k)) (cwV 0 hts gX2_leastFrozen_X0_isPermanent rfl rfl rfl (by decide +kernel) ⟨Nat.le_of_ble_eq_true rfl, Nat.le_of_ble_eq_true rfl⟩) hK (x_recv (ci := 0) hK hP rfl (q0 := 10 + k) (cW_k hkl)) (cP_k hP hkl) rfl hl.1 rfl (Nat.le_of_ble_eq_true rfl) dX2_leastFrozen_30 ⟨Nat.le_of_ble_eq_true rfl, Nat.le_of_ble_eq_true rfl⟩ (fun r_15 er_15 => ?_)
            have er_15 : r_15 = bI (C k 0 = 1) := er_15
            subst er_15
            refine lv_if_eq (tgt := 39) hx hb dX2_leastFrozen_33 (by decide) (fun c_16 => ?_) (fun c_16 => ?_)
            · have c_16 := bI_eq c_16
              refine lv_aload_n hx hb dX2_leastFrozen_39 rfl (lv_at hl 2 rfl) ?_
              refine lv_ifnull hx hb dX2_leastFrozen_40 ?_
              refine lv_aload_n hx hb dX2_leastFrozen_43 rfl (lv_at hl 0 rfl) ?_
              refine lv_aload_n hx hb dX2_leastFrozen_44 rfl (lv_at hl 2 rfl) ?_
              refine x_rdV (As := [.ref (ad (16 + j))]) (rest := []) ⟨hx, hb, hml, hown, hts⟩ (tX0_goesAheadOf l D cI cZ cC (ad (16 + k)) (ad (32 + k)) (ad (48 + k)) (ad (16 + j)) (ad (32 + j)) (ad (48 + j)) (C k) (C j)) (cwV 1 hts gX2_leastFrozen_X0_goesAheadOf rfl rfl rfl (by decide +kernel) ⟨Nat.le_of_ble_eq_true rfl, Nat.le_of_ble_eq_true rfl⟩) hK (x_recv (ci := 0) hK hP rfl (q0 := 10 + k) (cW_k hkl)) (cP_kk hP hkl hj) rfl hl.1 rfl (Nat.le_of_ble_eq_true rfl) dX2_leastFrozen_45 ⟨Nat.le_of_ble_eq_true rfl, Nat.le_of_ble_eq_true rfl⟩ (fun r_17 er_17 => ?_)
              have er_17 : r_17 = bI (C k 5 < C j 5 ∨ (C k 5 = C j 5 ∧ C k 14 < C j 14)) := er_17
              subst er_17
              refine lv_if_eq (tgt := 53) hx hb dX2_leastFrozen_48 (by decide) (fun c_18 => ?_) (fun c_18 => ?_)
              · have c_18 := bI_eq c_18
                refine lv_iinc (v := nI (k + 1)) (lv' := [(2, .int (nI (k + 1))), (3, .ref (ad (16 + k))), (0, .ref (ad 0)), (1, .ref (ad (16 + j)))]) hx hb dX2_leastFrozen_53 hl (k := 3) rfl (nI_1 _) (by decide) rfl (fun ls hl => ?_)
                refine lv_goto (tgt := 4) hx hb dX2_leastFrozen_56 (by decide) ?_
                have q_19 : lfC C (k + 1) = some j := by rw [lfC, if_neg, hlf]; intro h; exact c_18 (h.2.2 j hlf)
                exact ih (k + 1) (by omega) (by omega) ls (by rw [q_19]; exact lv_sub hl [2, 3, 0] rfl)
              · have c_18 := bI_ne c_18
                refine lv_aload_n hx hb dX2_leastFrozen_51 rfl (lv_at hl 0 rfl) ?_
                refine lv_astore_n (lv' := [(1, .ref (ad (16 + k))), (3, .ref (ad (16 + k))), (0, .ref (ad 0)), (2, .int (nI k))]) hx hb dX2_leastFrozen_52 rfl hl (by decide) rfl (fun ls hl => ?_)
                refine lv_iinc (v := nI (k + 1)) (lv' := [(2, .int (nI (k + 1))), (1, .ref (ad (16 + k))), (3, .ref (ad (16 + k))), (0, .ref (ad 0))]) hx hb dX2_leastFrozen_53 hl (k := 3) rfl (nI_1 _) (by decide) rfl (fun ls hl => ?_)
                refine lv_goto (tgt := 4) hx hb dX2_leastFrozen_56 (by decide) ?_
                have q_20 : lfC C (k + 1) = some k := by rw [lfC, if_pos]; refine ⟨c_13, c_16, fun j2 h2 => ?_⟩; rw [hlf] at h2; cases h2; simpa [bI] using c_18
                exact ih (k + 1) (by omega) (by omega) ls (by rw [q_20]; exact lv_sub hl [3, 1, 0] rfl)
            · have c_16 := bI_ne c_16
              refine lv_goto (tgt := 53) hx hb dX2_leastFrozen_36 (by decide) ?_
              refine lv_iinc (v := nI (k + 1)) (lv' := [(2, .int (nI (k + 1))), (3, .ref (ad (16 + k))), (0, .ref (ad 0)), (1, .ref (ad (16 + j)))]) hx hb dX2_leastFrozen_53 hl (k := 3) rfl (nI_1 _) (by decide) rfl (fun ls hl => ?_)
              refine lv_goto (tgt := 4) hx hb dX2_leastFrozen_56 (by decide) ?_
              have q_21 : lfC C (k + 1) = some j := by rw [lfC, if_neg, hlf]; intro h; exact h.2.1 c_16
              exact ih (k + 1) (by omega) (by omega) ls (by rw [q_21]; exact lv_sub hl [2, 3, 0] rfl)
  exact LOOP_1 (n - 0 + 1) 0 (Nat.zero_le _) (Nat.lt_succ_self _) ls (by exact lv_sub hl [2, 1, 0] rfl)

set_option maxHeartbeats 4000000 in
set_option maxRecDepth 100000 in
theorem tX2_codeBits (l : Launch) (D : va_G) (cI cZ cC : ClassId) (ad : Nat → Nat) (n : Nat) (t v C FF FO : Nat → Nat → Int32) (hn : t 1 0 = nI n) (hnb : n ≤ 16) (w : Int32) : RdC l yX2_codeBits wsX2_codeBits (rmK 2) D cI cZ cC [.ref (ad 0), .int w] (fun H => va_P D vwCl (cW cI cC ad n t v C FF FO) H) (fun ans => ans = cbF C w n) := by
  refine RdC.of (cc := cX2_codeBits) (maxL := 5) (ret := .int) (by decide) rfl (Nat.le_of_ble_eq_true rfl) ?_
  intro p e s m args below meth c Q ls hx hb hml hts hown hK hP hret hl
  have hl : lv_has ls 5 [(0, .ref (ad 0)), (1, .int w)] := hl
  have hP : va_P D vwCl (cW cI cC ad n t v C FF FO) s.heap := hP
  have hinX2 : ∀ w ∈ u_ws RX2 TX2 9, w ∈ wsX2_codeBits := (fun w h => List.mem_cons_of_mem _ (List.mem_append_left _ (List.mem_append_right _ h)))
  have hinX0 : ∀ w ∈ u_ws RX0 TX0 18, w ∈ wsX2_codeBits := (fun w h => List.mem_cons_of_mem _ (List.mem_append_right _ h))
  refine lv_iconst (v := 0) hx hb dX2_codeBits_0 (by decide) ?_
  refine lv_istore_n (lv' := [(2, .int 0), (0, .ref (ad 0)), (1, .int w)]) hx hb dX2_codeBits_1 rfl hl (by decide) rfl (fun ls hl => ?_)
  refine lv_iconst (v := 0) hx hb dX2_codeBits_2 (by decide) ?_
  refine lv_istore_n (lv' := [(3, .int 0), (2, .int 0), (0, .ref (ad 0)), (1, .int w)]) hx hb dX2_codeBits_3 rfl hl (by decide) rfl (fun ls hl => ?_)
  have LOOP_1 : ∀ (fu k : Nat), k ≤ n → n - k < fu → ∀ (ls : Array Slot), lv_has ls 5 [(0, .ref (ad 0)), (1, .int w), (2, .int (cbF C w k)), (3, .int (nI k))] → W p l e (rmK 2) s m args below meth c s.heap [] 0 0 Q (F0 m 4 ls []) := by
    intro fu
    induction fu with
    | zero => intro k h1 h2; exact absurd h2 (Nat.not_lt_zero _)
    | succ fu ih =>
      intro k hkn hfu  ls hl
      refine lv_iload_n hx hb dX2_codeBits_4 rfl (lv_at hl 3 rfl) ?_
      refine lv_aload_n hx hb dX2_codeBits_5 rfl (lv_at hl 0 rfl) ?_
      refine va_get (D := D) (ci := 2) (v := .int (t 1 0)) (C := RX2) (T := TX2) (N := 9) hx hb hts hinX2 hown hK hP 0 rfl rfl 1 (by decide) (hts (.fieldLink RX2 15 "TroubleCodes" "checkCount" "I") (mem_at 1 rfl)) (fun _ h9 => h9) rfl dX2_codeBits_6 ?_
      refine lv_icmp_ge (tgt := 45) hx hb dX2_codeBits_9 (by decide) (fun c_2 => ?_) (fun c_2 => ?_)
      · have ekn : n = k := Nat.le_antisymm (kx_ge hn (by omega) (by omega) c_2) hkn
        subst ekn
        refine lv_iload_n hx hb dX2_codeBits_45 rfl (lv_at hl 2 rfl) ?_
        exact hret 46 _ _ (rfl) rfl dX2_codeBits_46
      · have hkl : k < n := kx_lt hn (by omega) (by omega) c_2
        refine lv_aload_n hx hb dX2_codeBits_12 rfl (lv_at hl 0 rfl) ?_
        refine lv_iload_n hx hb dX2_codeBits_13 rfl (lv_at hl 3 rfl) ?_
        refine x_rqV (As := [.int (nI k)]) (rest := []) ⟨hx, hb, hml, hown, hts⟩ (tX2_checkAt l D cI cZ cC ad n t v C FF FO hn hnb (nI k)) (cwV 1 hts gX2_codeBits_X2_checkAt rfl rfl rfl (by decide +kernel) ⟨Nat.le_of_ble_eq_true rfl, Nat.le_of_ble_eq_true rfl⟩) hK (x_recv (ci := 2) hK hP rfl (q0 := 0) rfl) hP rfl hl.1 rfl (Nat.le_of_ble_eq_true rfl) dX2_codeBits_14 ⟨Nat.le_of_ble_eq_true rfl, Nat.le_of_ble_eq_true rfl⟩ (fun r_3 er_3 => ?_)
        have er_3 : r_3 = ckA ad t (nI k) := er_3
        subst er_3
        rw [ckA_k hn hnb hkl]
        refine W.eq (g2 := F0 m 17 ls [.ref (ad (16 + k))]) rfl ?_
        refine lv_astore (lv' := [(4, .ref (ad (16 + k))), (0, .ref (ad 0)), (1, .int w), (2, .int (cbF C w k)), (3, .int (nI k))]) hx hb dX2_codeBits_17 hl (by decide) rfl (fun ls hl => ?_)
        refine lv_aload hx hb dX2_codeBits_19 (lv_at hl 0 rfl) ?_
        refine lv_ifnull hx hb dX2_codeBits_21 ?_
        refine lv_aload hx hb dX2_codeBits_24 (lv_at hl 0 rfl) ?_
        refine va_get (D := D) (ci := 0) (v := .int (C k 7)) (C := RX0) (T := TX0) (N := 18) hx hb hts hinX0 hown hK hP (10 + k) (cW_k hkl) rfl 7 (by decide) (hts (.fieldLink RX2 103 "TroubleCodes$Check" "code" "I") (mem_at 2 rfl)) (fun _ h9 => h9) rfl dX2_codeBits_26 ?_
        refine lv_iload_n hx hb dX2_codeBits_29 rfl (lv_at hl 2 rfl) ?_
        refine lv_icmp_ne (tgt := 39) hx hb dX2_codeBits_30 (by decide) (fun c_4 => ?_) (fun c_4 => ?_)
        · refine lv_iinc (v := nI (k + 1)) (lv' := [(3, .int (nI (k + 1))), (4, .ref (ad (16 + k))), (0, .ref (ad 0)), (1, .int w), (2, .int (cbF C w k))]) hx hb dX2_codeBits_39 hl (k := 4) rfl (nI_1 _) (by decide) rfl (fun ls hl => ?_)
          refine lv_goto (tgt := 4) hx hb dX2_codeBits_42 (by decide) ?_
          have q_5 : (cbF C w (k + 1) : Int32) = cbF C w k := by rw [cbF, if_neg c_4]
          exact ih (k + 1) (by omega) (by omega) ls (by rw [q_5]; exact lv_sub hl [2, 3, 4, 0] rfl)
        · refine lv_iload_n hx hb dX2_codeBits_33 rfl (lv_at hl 3 rfl) ?_
          refine lv_iconst (v := 1) hx hb dX2_codeBits_34 (by decide) ?_
          refine lv_iload_n hx hb dX2_codeBits_35 rfl (lv_at hl 4 rfl) ?_
          refine lv_ishl hx hb dX2_codeBits_36 ?_
          refine lv_ior hx hb dX2_codeBits_37 ?_
          refine lv_istore_n (lv' := [(2, .int ((cbF C w k) ||| (1 <<< ((nI k) &&& 31)))), (4, .ref (ad (16 + k))), (0, .ref (ad 0)), (1, .int w), (3, .int (nI k))]) hx hb dX2_codeBits_38 rfl hl (by decide) rfl (fun ls hl => ?_)
          refine lv_iinc (v := nI (k + 1)) (lv' := [(3, .int (nI (k + 1))), (2, .int ((cbF C w k) ||| (1 <<< ((nI k) &&& 31)))), (4, .ref (ad (16 + k))), (0, .ref (ad 0)), (1, .int w)]) hx hb dX2_codeBits_39 hl (k := 4) rfl (nI_1 _) (by decide) rfl (fun ls hl => ?_)
          refine lv_goto (tgt := 4) hx hb dX2_codeBits_42 (by decide) ?_
          have q_6 : (cbF C w (k + 1) : Int32) = (cbF C w k) ||| (1 <<< ((nI k) &&& 31)) := by rw [cbF, if_pos c_4]
          exact ih (k + 1) (by omega) (by omega) ls (by rw [q_6]; exact lv_sub hl [3, 4, 1, 0] rfl)
  have q_7 : (cbF C w 0 : Int32) = 0 := by rfl
  have q_8 : (nI 0 : Int32) = 0 := by rfl
  exact LOOP_1 (n - 0 + 1) 0 (Nat.zero_le _) (Nat.lt_succ_self _) ls (by rw [q_7, q_8]; exact lv_sub hl [2, 3, 1, 0] rfl)

set_option maxHeartbeats 4000000 in
set_option maxRecDepth 100000 in
theorem tX2_ranBits (l : Launch) (D : va_G) (cI cZ cC : ClassId) (ad : Nat → Nat) (n : Nat) (t v C FF FO : Nat → Nat → Int32) (hn : t 1 0 = nI n) (hnb : n ≤ 16) : RdC l yX2_ranBits wsX2_ranBits (rmK 2) D cI cZ cC [.ref (ad 0)] (fun H => va_P D vwCl (cW cI cC ad n t v C FF FO) H) (fun ans => ans = rbF C n) := by
  refine RdC.of (cc := cX2_ranBits) (maxL := 4) (ret := .int) (by decide) rfl (Nat.le_of_ble_eq_true rfl) ?_
  intro p e s m args below meth c Q ls hx hb hml hts hown hK hP hret hl
  have hl : lv_has ls 4 [(0, .ref (ad 0))] := hl
  have hP : va_P D vwCl (cW cI cC ad n t v C FF FO) s.heap := hP
  have hinX2 : ∀ w ∈ u_ws RX2 TX2 9, w ∈ wsX2_ranBits := (fun w h => List.mem_cons_of_mem _ (List.mem_append_left _ (List.mem_append_right _ h)))
  have hinX0 : ∀ w ∈ u_ws RX0 TX0 18, w ∈ wsX2_ranBits := (fun w h => List.mem_cons_of_mem _ (List.mem_append_right _ h))
  refine lv_iconst (v := 0) hx hb dX2_ranBits_0 (by decide) ?_
  refine lv_istore_n (lv' := [(1, .int 0), (0, .ref (ad 0))]) hx hb dX2_ranBits_1 rfl hl (by decide) rfl (fun ls hl => ?_)
  refine lv_iconst (v := 0) hx hb dX2_ranBits_2 (by decide) ?_
  refine lv_istore_n (lv' := [(2, .int 0), (1, .int 0), (0, .ref (ad 0))]) hx hb dX2_ranBits_3 rfl hl (by decide) rfl (fun ls hl => ?_)
  have LOOP_1 : ∀ (fu k : Nat), k ≤ n → n - k < fu → ∀ (ls : Array Slot), lv_has ls 4 [(0, .ref (ad 0)), (1, .int (rbF C k)), (2, .int (nI k))] → W p l e (rmK 2) s m args below meth c s.heap [] 0 0 Q (F0 m 4 ls []) := by
    intro fu
    induction fu with
    | zero => intro k h1 h2; exact absurd h2 (Nat.not_lt_zero _)
    | succ fu ih =>
      intro k hkn hfu  ls hl
      refine lv_iload_n hx hb dX2_ranBits_4 rfl (lv_at hl 2 rfl) ?_
      refine lv_aload_n hx hb dX2_ranBits_5 rfl (lv_at hl 0 rfl) ?_
      refine va_get (D := D) (ci := 2) (v := .int (t 1 0)) (C := RX2) (T := TX2) (N := 9) hx hb hts hinX2 hown hK hP 0 rfl rfl 1 (by decide) (hts (.fieldLink RX2 15 "TroubleCodes" "checkCount" "I") (mem_at 1 rfl)) (fun _ h9 => h9) rfl dX2_ranBits_6 ?_
      refine lv_icmp_ge (tgt := 41) hx hb dX2_ranBits_9 (by decide) (fun c_2 => ?_) (fun c_2 => ?_)
      · have ekn : n = k := Nat.le_antisymm (kx_ge hn (by omega) (by omega) c_2) hkn
        subst ekn
        refine lv_iload_n hx hb dX2_ranBits_41 rfl (lv_at hl 1 rfl) ?_
        exact hret 42 _ _ (rfl) rfl dX2_ranBits_42
      · have hkl : k < n := kx_lt hn (by omega) (by omega) c_2
        refine lv_aload_n hx hb dX2_ranBits_12 rfl (lv_at hl 0 rfl) ?_
        refine lv_iload_n hx hb dX2_ranBits_13 rfl (lv_at hl 2 rfl) ?_
        refine x_rqV (As := [.int (nI k)]) (rest := []) ⟨hx, hb, hml, hown, hts⟩ (tX2_checkAt l D cI cZ cC ad n t v C FF FO hn hnb (nI k)) (cwV 1 hts gX2_ranBits_X2_checkAt rfl rfl rfl (by decide +kernel) ⟨Nat.le_of_ble_eq_true rfl, Nat.le_of_ble_eq_true rfl⟩) hK (x_recv (ci := 2) hK hP rfl (q0 := 0) rfl) hP rfl hl.1 rfl (Nat.le_of_ble_eq_true rfl) dX2_ranBits_14 ⟨Nat.le_of_ble_eq_true rfl, Nat.le_of_ble_eq_true rfl⟩ (fun r_3 er_3 => ?_)
        have er_3 : r_3 = ckA ad t (nI k) := er_3
        subst er_3
        rw [ckA_k hn hnb hkl]
        refine W.eq (g2 := F0 m 17 ls [.ref (ad (16 + k))]) rfl ?_
        refine lv_astore_n (lv' := [(3, .ref (ad (16 + k))), (0, .ref (ad 0)), (1, .int (rbF C k)), (2, .int (nI k))]) hx hb dX2_ranBits_17 rfl hl (by decide) rfl (fun ls hl => ?_)
        refine lv_aload_n hx hb dX2_ranBits_18 rfl (lv_at hl 0 rfl) ?_
        refine lv_ifnull hx hb dX2_ranBits_19 ?_
        refine lv_aload_n hx hb dX2_ranBits_22 rfl (lv_at hl 0 rfl) ?_
        refine va_get (D := D) (ci := 0) (v := .int (C k 12)) (C := RX0) (T := TX0) (N := 18) hx hb hts hinX0 hown hK hP (10 + k) (cW_k hkl) rfl 12 (by decide) (hts (.fieldLink RX2 212 "TroubleCodes$Check" "ranSinceCleared" "Z") (mem_at 2 rfl)) (fun _ h9 => h9) rfl dX2_ranBits_23 ?_
        refine lv_if_eq (tgt := 35) hx hb dX2_ranBits_26 (by decide) (fun c_4 => ?_) (fun c_4 => ?_)
        · refine lv_iinc (v := nI (k + 1)) (lv' := [(2, .int (nI (k + 1))), (3, .ref (ad (16 + k))), (0, .ref (ad 0)), (1, .int (rbF C k))]) hx hb dX2_ranBits_35 hl (k := 3) rfl (nI_1 _) (by decide) rfl (fun ls hl => ?_)
          refine lv_goto (tgt := 4) hx hb dX2_ranBits_38 (by decide) ?_
          have q_5 : (rbF C (k + 1) : Int32) = rbF C k := by rw [rbF, if_pos c_4]
          exact ih (k + 1) (by omega) (by omega) ls (by rw [q_5]; exact lv_sub hl [2, 3, 0] rfl)
        · refine lv_iload_n hx hb dX2_ranBits_29 rfl (lv_at hl 2 rfl) ?_
          refine lv_iconst (v := 1) hx hb dX2_ranBits_30 (by decide) ?_
          refine lv_iload_n hx hb dX2_ranBits_31 rfl (lv_at hl 3 rfl) ?_
          refine lv_ishl hx hb dX2_ranBits_32 ?_
          refine lv_ior hx hb dX2_ranBits_33 ?_
          refine lv_istore_n (lv' := [(1, .int ((rbF C k) ||| (1 <<< ((nI k) &&& 31)))), (3, .ref (ad (16 + k))), (0, .ref (ad 0)), (2, .int (nI k))]) hx hb dX2_ranBits_34 rfl hl (by decide) rfl (fun ls hl => ?_)
          refine lv_iinc (v := nI (k + 1)) (lv' := [(2, .int (nI (k + 1))), (1, .int ((rbF C k) ||| (1 <<< ((nI k) &&& 31)))), (3, .ref (ad (16 + k))), (0, .ref (ad 0))]) hx hb dX2_ranBits_35 hl (k := 3) rfl (nI_1 _) (by decide) rfl (fun ls hl => ?_)
          refine lv_goto (tgt := 4) hx hb dX2_ranBits_38 (by decide) ?_
          have q_6 : (rbF C (k + 1) : Int32) = (rbF C k) ||| (1 <<< ((nI k) &&& 31)) := by rw [rbF, if_neg c_4]
          exact ih (k + 1) (by omega) (by omega) ls (by rw [q_6]; exact lv_sub hl [3, 1, 0] rfl)
  have q_7 : (rbF C 0 : Int32) = 0 := by rfl
  have q_8 : (nI 0 : Int32) = 0 := by rfl
  exact LOOP_1 (n - 0 + 1) 0 (Nat.zero_le _) (Nat.lt_succ_self _) ls (by rw [q_7, q_8]; exact lv_sub hl [2, 1, 0] rfl)

set_option maxHeartbeats 4000000 in
set_option maxRecDepth 100000 in
theorem tX2_troubledBits (l : Launch) (D : va_G) (cI cZ cC : ClassId) (ad : Nat → Nat) (n : Nat) (t v C FF FO : Nat → Nat → Int32) (hn : t 1 0 = nI n) (hnb : n ≤ 16) : RdC l yX2_troubledBits wsX2_troubledBits (rmK 3) D cI cZ cC [.ref (ad 0)] (fun H => va_P D vwCl (cW cI cC ad n t v C FF FO) H) (fun ans => ans = (cbF C 1 n) ||| (cbF C 2 n)) := by
  refine RdC.of (cc := cX2_troubledBits) (maxL := 1) (ret := .int) (by decide) rfl (Nat.le_of_ble_eq_true rfl) ?_
  intro p e s m args below meth c Q ls hx hb hml hts hown hK hP hret hl
  have hl : lv_has ls 1 [(0, .ref (ad 0))] := hl
  have hP : va_P D vwCl (cW cI cC ad n t v C FF FO) s.heap := hP
  refine lv_aload_n hx hb dX2_troubledBits_0 rfl (lv_at hl 0 rfl) ?_
  refine lv_iconst (v := 1) hx hb dX2_troubledBits_1 (by decide) ?_
  refine x_rdV (As := [.int 1]) (rest := []) ⟨hx, hb, hml, hown, hts⟩ (tX2_codeBits l D cI cZ cC ad n t v C FF FO hn hnb 1) (cwV 1 hts gX2_troubledBits_X2_codeBits rfl rfl rfl (by decide +kernel) ⟨Nat.le_of_ble_eq_true rfl, Nat.le_of_ble_eq_true rfl⟩) hK (x_recv (ci := 2) hK hP rfl (q0 := 0) rfl) hP rfl hl.1 rfl (Nat.le_of_ble_eq_true rfl) dX2_troubledBits_2 ⟨Nat.le_of_ble_eq_true rfl, Nat.le_of_ble_eq_true rfl⟩ (fun r_1 er_1 => ?_)
  have er_1 : r_1 = cbF C 1 n := er_1
  subst er_1
  refine lv_aload_n hx hb dX2_troubledBits_5 rfl (lv_at hl 0 rfl) ?_
  refine lv_iconst (v := 2) hx hb dX2_troubledBits_6 (by decide) ?_
  refine x_rdV (As := [.int 2]) (rest := [.int (cbF C 1 n)]) ⟨hx, hb, hml, hown, hts⟩ (tX2_codeBits l D cI cZ cC ad n t v C FF FO hn hnb 2) (cwV 1 hts gX2_troubledBits_X2_codeBits rfl rfl rfl (by decide +kernel) ⟨Nat.le_of_ble_eq_true rfl, Nat.le_of_ble_eq_true rfl⟩) hK (x_recv (ci := 2) hK hP rfl (q0 := 0) rfl) hP rfl hl.1 rfl (Nat.le_of_ble_eq_true rfl) dX2_troubledBits_7 ⟨Nat.le_of_ble_eq_true rfl, Nat.le_of_ble_eq_true rfl⟩ (fun r_2 er_2 => ?_)
  have er_2 : r_2 = cbF C 2 n := er_2
  subst er_2
  refine lv_ior hx hb dX2_troubledBits_10 ?_
  exact hret 11 _ _ (rfl) rfl dX2_troubledBits_11
