def lkV (v C : Nat → Nat → Int32) (n mm : Nat) : Nat → Nat → Int32 := fX1_look v mm (rbF C n) (cbF C 2 n)

set_option maxHeartbeats 4000000 in
set_option maxRecDepth 100000 in
theorem tX2_lookAtCodes (l : Launch) (D : va_G) (cI cZ cC : ClassId) (ad : Nat → Nat) (n : Nat) (t v C FF FO : Nat → Nat → Int32) (hn : t 1 0 = nI n) (hnb : n ≤ 16) (mm : Nat) (hm : v 2 0 = nI mm) (hmb : mm ≤ 10) : WrV l yX2_lookAtCodes wsX2_lookAtCodes (rmK 3) D cI cZ cC [.ref (ad 0)] (cW cI cC ad n t v C FF FO) (cW cI cC ad n t (lkV v C n mm) C FF FO) := by
  refine WrV.of (cc := cX2_lookAtCodes) (maxL := 1) (by decide) rfl (Nat.le_of_ble_eq_true rfl) ?_
  intro p e s m args below meth c Q A ls hx hb hml hts hown hK hP hD hS hA hret hl
  have hl : lv_has ls 1 [(0, .ref (ad 0))] := hl
  have hinX2 : ∀ w ∈ u_ws RX2 TX2 9, w ∈ wsX2_lookAtCodes := (fun w h => List.mem_cons_of_mem _ (List.mem_append_left _ (List.mem_append_left _ (List.mem_append_right _ h))))
  refine lv_aload_n hx hb dX2_lookAtCodes_0 rfl (lv_at hl 0 rfl) ?_
  refine va_get (D := D) (ci := 2) (v := .ref (ad 3)) (C := RX2) (T := TX2) (N := 9) hx hb hts hinX2 hown hK hP 0 rfl rfl 8 (by decide) (hts (.fieldLink RX2 42 "TroubleCodes" "workshop" "LTroubleCodes$Workshop;") (mem_at 1 rfl)) (fun _ h9 => h9) rfl dX2_lookAtCodes_1 ?_
  refine lv_aload_n hx hb dX2_lookAtCodes_4 rfl (lv_at hl 0 rfl) ?_
  refine x_rdV (As := []) (rest := [.ref (ad 3)]) ⟨hx, hb, hml, hown, hts⟩ (tX2_ranBits l D cI cZ cC ad n t v C FF FO hn hnb) (cwV 0 hts gX2_lookAtCodes_X2_ranBits rfl rfl rfl (by decide +kernel) ⟨Nat.le_of_ble_eq_true rfl, Nat.le_of_ble_eq_true rfl⟩) hK (x_recv (ci := 2) hK hP rfl (q0 := 0) rfl) hP rfl hl.1 rfl (Nat.le_of_ble_eq_true rfl) dX2_lookAtCodes_5 ⟨Nat.le_of_ble_eq_true rfl, Nat.le_of_ble_eq_true rfl⟩ (fun r_1 er_1 => ?_)
  have er_1 : r_1 = rbF C n := er_1
  subst er_1
  refine lv_aload_n hx hb dX2_lookAtCodes_8 rfl (lv_at hl 0 rfl) ?_
  refine lv_iconst (v := 2) hx hb dX2_lookAtCodes_9 (by decide) ?_
  refine x_rdV (As := [.int 2]) (rest := [.int (rbF C n), .ref (ad 3)]) ⟨hx, hb, hml, hown, hts⟩ (tX2_codeBits l D cI cZ cC ad n t v C FF FO hn hnb 2) (cwV 1 hts gX2_lookAtCodes_X2_codeBits rfl rfl rfl (by decide +kernel) ⟨Nat.le_of_ble_eq_true rfl, Nat.le_of_ble_eq_true rfl⟩) hK (x_recv (ci := 2) hK hP rfl (q0 := 0) rfl) hP rfl hl.1 rfl (Nat.le_of_ble_eq_true rfl) dX2_lookAtCodes_10 ⟨Nat.le_of_ble_eq_true rfl, Nat.le_of_ble_eq_true rfl⟩ (fun r_2 er_2 => ?_)
  have er_2 : r_2 = cbF C 2 n := er_2
  subst er_2
  refine x_wvV (As := [.int (rbF C n), .int (cbF C 2 n)]) (rest := []) (ww := cW cI cC ad n t v C FF FO) ⟨hx, hb, hml, hown, hts⟩ (tX1_look l D cI cZ cC ad v mm hm hmb (rbF C n) (cbF C 2 n)) (cwV 2 hts gX2_lookAtCodes_X1_look rfl rfl rfl (by decide +kernel) ⟨Nat.le_of_ble_eq_true rfl, Nat.le_of_ble_eq_true rfl⟩) hK (x_recv (ci := 1) hK hP rfl (q0 := 3) rfl) hP hD hS hA [3, 4, 5, 6, 7, 8, 9] (by decide) rfl rfl rfl hl.1 rfl (Nat.le_of_ble_eq_true rfl) dX2_lookAtCodes_13 ⟨Nat.le_of_ble_eq_true rfl, Nat.le_of_ble_eq_true rfl⟩ (fun H locs hP hD hS => ?_)
  have hP : va_P D vwCl (cW cI cC ad n t (lkV v C n mm) C FF FO) H := hP
  have hD : va_D A (cW cI cC ad n t (lkV v C n mm) C FF FO) := hD
  exact hret 16 _ _ _ hP hD hS dX2_lookAtCodes_16

def fX2_begin (n : Nat) (t C : Nat → Nat → Int32) : Int32 × (Nat → Nat → Int32) := if (t 6 0) = 0 then (t 5 0, va_up (va_up t 6 (fun _ => 1)) 7 (fun _ => (cbF C 1 n) ||| (cbF C 2 n))) else ((-3), t)

set_option maxHeartbeats 4000000 in
set_option maxRecDepth 100000 in
theorem tX2_begin (l : Launch) (D : va_G) (cI cZ cC : ClassId) (ad : Nat → Nat) (n : Nat) (t v C FF FO : Nat → Nat → Int32) (hn : t 1 0 = nI n) (hnb : n ≤ 16) : WrI l yX2_begin wsX2_begin (rmK 4) D cI cZ cC [.ref (ad 0)] (cW cI cC ad n t v C FF FO) (cW cI cC ad n ((fX2_begin n t C).2) v C FF FO) (fun ans => ans = (fX2_begin n t C).1) := by
  refine WrI.of (cc := cX2_begin) (maxL := 1) (ret := .int) (by decide) rfl (Nat.le_of_ble_eq_true rfl) ?_
  intro p e s m args below meth c Q A ls hx hb hml hts hown hK hP hD hS hA hret hl
  have hl : lv_has ls 1 [(0, .ref (ad 0))] := hl
  have hinX2 : ∀ w ∈ u_ws RX2 TX2 9, w ∈ wsX2_begin := (fun w h => List.mem_cons_of_mem _ (List.mem_append_left _ (List.mem_append_right _ h)))
  refine lv_aload_n hx hb dX2_begin_0 rfl (lv_at hl 0 rfl) ?_
  refine va_get (D := D) (ci := 2) (v := .int (t 6 0)) (C := RX2) (T := TX2) (N := 9) hx hb hts hinX2 hown hK hP 0 rfl rfl 6 (by decide) (hts (.fieldLink RX2 32 "TroubleCodes" "driving" "Z") (mem_at 1 rfl)) (fun _ h9 => h9) rfl dX2_begin_1 ?_
  refine lv_if_eq (tgt := 10) hx hb dX2_begin_4 (by decide) (fun c_1 => ?_) (fun c_1 => ?_)
  · refine lv_aload_n hx hb dX2_begin_10 rfl (lv_at hl 0 rfl) ?_
    refine lv_iconst (v := 1) hx hb dX2_begin_11 (by decide) ?_
    refine va_put (D := D) (ci := 2) (v := .int 1) (ty := .boolean) (C := RX2) (T := TX2) (N := 9) hx hb hts hinX2 tyX2 tyX2_ok nmX2 hown hK hP hD hS 0 rfl rfl 6 (by decide) (hts (.fieldLink RX2 32 "TroubleCodes" "driving" "Z") (mem_at 1 rfl)) (fun _ h9 => h9) rfl (by decide +kernel) rfl rfl (Nat.le_of_ble_eq_true rfl) dX2_begin_12 (fun H locs hP hD hS => ?_)
    have hP : va_P D vwCl (cW cI cC ad n (va_up t 6 (fun _ => 1)) v C FF FO) H := hP
    have hD : va_D A (cW cI cC ad n (va_up t 6 (fun _ => 1)) v C FF FO) := hD
    refine lv_aload_n hx hb dX2_begin_15 rfl (lv_at hl 0 rfl) ?_
    refine lv_aload_n hx hb dX2_begin_16 rfl (lv_at hl 0 rfl) ?_
    refine x_rdV (As := []) (rest := [.ref (ad 0)]) ⟨hx, hb, hml, hown, hts⟩ (tX2_troubledBits l D cI cZ cC ad n (va_up t 6 (fun _ => 1)) v C FF FO hn hnb) (cwV 0 hts gX2_begin_X2_troubledBits rfl rfl rfl (by decide +kernel) ⟨Nat.le_of_ble_eq_true rfl, Nat.le_of_ble_eq_true rfl⟩) hK (x_recv (ci := 2) hK hP rfl (q0 := 0) rfl) hP rfl hl.1 rfl (Nat.le_of_ble_eq_true rfl) dX2_begin_17 ⟨Nat.le_of_ble_eq_true rfl, Nat.le_of_ble_eq_true rfl⟩ (fun r_2 er_2 => ?_)
    have er_2 : r_2 = (cbF C 1 n) ||| (cbF C 2 n) := er_2
    subst er_2
    refine va_put (D := D) (ci := 2) (v := .int ((cbF C 1 n) ||| (cbF C 2 n))) (ty := .int) (C := RX2) (T := TX2) (N := 9) hx hb hts hinX2 tyX2 tyX2_ok nmX2 hown hK hP hD hS 0 rfl rfl 7 (by decide) (hts (.fieldLink RX2 36 "TroubleCodes" "troubledAtBegin" "I") (mem_at 2 rfl)) (fun _ h9 => h9) rfl (by decide +kernel) rfl rfl (Nat.le_of_ble_eq_true rfl) dX2_begin_20 (fun H locs hP hD hS => ?_)
    have hP : va_P D vwCl (cW cI cC ad n (va_up (va_up t 6 (fun _ => 1)) 7 (fun _ => (cbF C 1 n) ||| (cbF C 2 n))) v C FF FO) H := hP
    have hD : va_D A (cW cI cC ad n (va_up (va_up t 6 (fun _ => 1)) 7 (fun _ => (cbF C 1 n) ||| (cbF C 2 n))) v C FF FO) := hD
    refine lv_aload_n hx hb dX2_begin_23 rfl (lv_at hl 0 rfl) ?_
    refine va_get (D := D) (ci := 2) (v := .int (t 5 0)) (C := RX2) (T := TX2) (N := 9) hx hb hts hinX2 hown hK hP 0 rfl rfl 5 (by decide) (hts (.fieldLink RX2 29 "TroubleCodes" "drivesEnded" "I") (mem_at 3 rfl)) (fun _ h9 => h9) rfl dX2_begin_24 ?_
    have es : fX2_begin n t C = (t 5 0, va_up (va_up t 6 (fun _ => 1)) 7 (fun _ => (cbF C 1 n) ||| (cbF C 2 n))) := by rw [fX2_begin]; rw [if_pos c_1]
    exact hret 27 _ _ _ _ (by rw [es]) (by rw [es]; exact hP) (by rw [es]; exact hD) hS rfl dX2_begin_27
  · refine lv_bipush (v := (-3)) hx hb dX2_begin_7 (by decide) ?_
    have es : fX2_begin n t C = ((-3), t) := by rw [fX2_begin]; rw [if_neg c_1]
    exact hret 9 _ _ _ _ (by rw [es]) (by rw [es]; exact hP) (by rw [es]; exact hD) hS rfl dX2_begin_9

def fX2_ran (t C : Nat → Nat → Int32) (x b : Int32) : Int32 × (Nat → Nat → Int32) := if 0 ≤ x ∧ x ≤ ((t 1 0) - 1) then (if (t 6 0) = 0 then ((-3), C) else (1, (va_up C (ix x) (fX0_tell (C (ix x)) b)))) else ((-2), C)

set_option maxHeartbeats 4000000 in
set_option maxRecDepth 100000 in
theorem tX2_ran (l : Launch) (D : va_G) (cI cZ cC : ClassId) (ad : Nat → Nat) (n : Nat) (t v C FF FO : Nat → Nat → Int32) (hn : t 1 0 = nI n) (hnb : n ≤ 16) (x b : Int32) : WrI l yX2_ran wsX2_ran (rmK 2) D cI cZ cC [.ref (ad 0), .int x, .int b] (cW cI cC ad n t v C FF FO) (cW cI cC ad n t v ((fX2_ran t C x b).2) FF FO) (fun ans => ans = (fX2_ran t C x b).1) := by
  refine WrI.of (cc := cX2_ran) (maxL := 4) (ret := .int) (by decide) rfl (Nat.le_of_ble_eq_true rfl) ?_
  intro p e s m args below meth c Q A ls hx hb hml hts hown hK hP hD hS hA hret hl
  have hl : lv_has ls 4 [(0, .ref (ad 0)), (1, .int x), (2, .int b)] := hl
  have hinX2 : ∀ w ∈ u_ws RX2 TX2 9, w ∈ wsX2_ran := (fun w h => List.mem_cons_of_mem _ (List.mem_append_left _ (List.mem_append_right _ h)))
  refine lv_aload_n hx hb dX2_ran_0 rfl (lv_at hl 0 rfl) ?_
  refine lv_iload_n hx hb dX2_ran_1 rfl (lv_at hl 1 rfl) ?_
  refine x_rqV (As := [.int x]) (rest := []) ⟨hx, hb, hml, hown, hts⟩ (tX2_checkAt l D cI cZ cC ad n t v C FF FO hn hnb x) (cwV 1 hts gX2_ran_X2_checkAt rfl rfl rfl (by decide +kernel) ⟨Nat.le_of_ble_eq_true rfl, Nat.le_of_ble_eq_true rfl⟩) hK (x_recv (ci := 2) hK hP rfl (q0 := 0) rfl) hP rfl hl.1 rfl (Nat.le_of_ble_eq_true rfl) dX2_ran_2 ⟨Nat.le_of_ble_eq_true rfl, Nat.le_of_ble_eq_true rfl⟩ (fun r_1 er_1 => ?_)
  have er_1 : r_1 = ckA ad t x := er_1
  subst er_1
  by_cases c_2 : 0 ≤ x ∧ x ≤ ((t 1 0) - 1)
  · obtain ⟨j, hj, ej⟩ := ixck hn (by omega) c_2
    subst ej
    have xj : ix (nI j) = j := ix_nI (by omega)
    rw [ckA_k hn hnb hj]
    refine W.eq (g2 := F0 m 5 ls [.ref (ad (16 + j))]) rfl ?_
    refine lv_astore_n (lv' := [(3, .ref (ad (16 + j))), (0, .ref (ad 0)), (1, .int (nI j)), (2, .int b)]) hx hb dX2_ran_5 rfl hl (by decide) rfl (fun ls hl => ?_)
    refine lv_aload_n hx hb dX2_ran_6 rfl (lv_at hl 0 rfl) ?_
    refine lv_ifnonnull (tgt := 13) hx hb dX2_ran_7 (by decide) ?_
    refine lv_aload_n hx hb dX2_ran_13 rfl (lv_at hl 1 rfl) ?_
    refine va_get (D := D) (ci := 2) (v := .int (t 6 0)) (C := RX2) (T := TX2) (N := 9) hx hb hts hinX2 hown hK hP 0 rfl rfl 6 (by decide) (hts (.fieldLink RX2 32 "TroubleCodes" "driving" "Z") (mem_at 1 rfl)) (fun _ h9 => h9) rfl dX2_ran_14 ?_
    refine lv_if_ne (tgt := 23) hx hb dX2_ran_17 (by decide) (fun c_3 => ?_) (fun c_3 => ?_)
    · refine lv_aload_n hx hb dX2_ran_23 rfl (lv_at hl 0 rfl) ?_
      refine lv_iload_n hx hb dX2_ran_24 rfl (lv_at hl 3 rfl) ?_
      refine x_wvV (As := [.int b]) (rest := []) (ww := cW cI cC ad n t v C FF FO) ⟨hx, hb, hml, hown, hts⟩ (tX0_tell l D cI cZ cC (ad (16 + j)) (ad (32 + j)) (ad (48 + j)) (C j) b) (cwV 1 hts gX2_ran_X0_tell rfl rfl rfl (by decide +kernel) ⟨Nat.le_of_ble_eq_true rfl, Nat.le_of_ble_eq_true rfl⟩) hK (x_recv (ci := 0) hK hP rfl (q0 := 10 + j) (cW_k hj)) hP hD hS hA [10 + j] (by simp [va_nd]) (by rw [List.map_cons, List.map_nil, cW_k hj]; rfl) rfl rfl hl.1 rfl (Nat.le_of_ble_eq_true rfl) dX2_ran_25 ⟨Nat.le_of_ble_eq_true rfl, Nat.le_of_ble_eq_true rfl⟩ (fun H locs hP hD hS => ?_)
      have hP : va_P D vwCl (cW cI cC ad n t v (va_up C j (fX0_tell (C j) b)) FF FO) H := by rw [← cW_setk hj]; exact hP
      have hD : va_D A (cW cI cC ad n t v (va_up C j (fX0_tell (C j) b)) FF FO) := by rw [← cW_setk hj]; exact hD
      refine lv_iconst (v := 1) hx hb dX2_ran_28 (by decide) ?_
      have es : fX2_ran t C (nI j) b = (1, (va_up C j (fX0_tell (C j) b))) := by rw [fX2_ran]; simp only [xj]; rw [if_pos c_2, if_neg c_3]
      exact hret 29 _ _ _ _ (by rw [es]) (by rw [es]; exact hP) (by rw [es]; exact hD) hS rfl dX2_ran_29
    · refine lv_bipush (v := (-3)) hx hb dX2_ran_20 (by decide) ?_
      have es : fX2_ran t C (nI j) b = ((-3), C) := by rw [fX2_ran]; simp only [xj]; rw [if_pos c_2, if_pos c_3]
      exact hret 22 _ _ _ _ (by rw [es]) (by rw [es]; exact hP) (by rw [es]; exact hD) hS rfl dX2_ran_22
  · rw [ckA_n c_2]
    refine W.eq (g2 := F0 m 5 ls [.null]) rfl ?_
    refine lv_astore_nN (lv' := [(3, .null), (0, .ref (ad 0)), (1, .int x), (2, .int b)]) hx hb dX2_ran_5 rfl hl (by decide) rfl (fun ls hl => ?_)
    refine lv_aload_nN hx hb dX2_ran_6 rfl (lv_at hl 0 rfl) ?_
    refine lv_ifnonnullN hx hb dX2_ran_7 ?_
    refine lv_bipush (v := (-2)) hx hb dX2_ran_10 (by decide) ?_
    have es : fX2_ran t C x b = ((-2), C) := by rw [fX2_ran]; rw [if_neg c_2]
    exact hret 12 _ _ _ _ (by rw [es]) (by rw [es]; exact hP) (by rw [es]; exact hD) hS rfl dX2_ran_12

def fX2_fact (t : Nat → Nat → Int32) (x y : Int32) : Int32 × (Nat → Nat → Int32) := if 0 ≤ x ∧ x ≤ 3 then (if (-1000) ≤ y ∧ y ≤ 1000 then (t 2 (ix x), va_up t 2 (upd (t 2) (ix x) y)) else ((-2000), t)) else ((-2000), t)

set_option maxHeartbeats 4000000 in
set_option maxRecDepth 100000 in
theorem tX2_fact (l : Launch) (D : va_G) (cI cZ cC : ClassId) (ad : Nat → Nat) (n : Nat) (t v C FF FO : Nat → Nat → Int32) (hn : t 1 0 = nI n) (hnb : n ≤ 16) (x y : Int32) : WrI l yX2_fact wsX2_fact (rmK 1) D cI cZ cC [.ref (ad 0), .int x, .int y] (cW cI cC ad n t v C FF FO) (cW cI cC ad n ((fX2_fact t x y).2) v C FF FO) (fun ans => ans = (fX2_fact t x y).1) := by
  refine WrI.of (cc := cX2_fact) (maxL := 4) (ret := .int) (by decide) rfl (Nat.le_of_ble_eq_true rfl) ?_
  intro p e s m args below meth c Q A ls hx hb hml hts hown hK hP hD hS hA hret hl
  have hl : lv_has ls 4 [(0, .ref (ad 0)), (1, .int x), (2, .int y)] := hl
  have hinX2 : ∀ w ∈ u_ws RX2 TX2 9, w ∈ wsX2_fact := (fun w h => List.mem_cons_of_mem _ (List.mem_append_right _ h))
  refine lv_iload_n hx hb dX2_fact_0 rfl (lv_at hl 1 rfl) ?_
  refine lv_iconst (v := 0) hx hb dX2_fact_1 (by decide) ?_
  refine lv_iconst (v := 3) hx hb dX2_fact_2 (by decide) ?_
  refine x_rdS (As := [.int x, .int 0, .int 3]) (rest := []) ⟨hx, hb, hml, hown, hts⟩ (tX2_isWithin l D cI cZ cC x 0 3) (va_cwS 3 hts gX2_fact_X2_isWithin rfl rfl rfl (by decide +kernel) ⟨Nat.le_of_ble_eq_true rfl, Nat.le_of_ble_eq_true rfl⟩) hK trivial rfl hl.1 rfl (Nat.le_of_ble_eq_true rfl) dX2_fact_3 ⟨Nat.le_of_ble_eq_true rfl, Nat.le_of_ble_eq_true rfl⟩ (fun r_1 er_1 => ?_)
  have er_1 : r_1 = bI (0 ≤ x ∧ x ≤ 3) := er_1
  subst er_1
  refine lv_if_eq (tgt := 22) hx hb dX2_fact_6 (by decide) (fun c_2 => ?_) (fun c_2 => ?_)
  · have c_2 := bI_eq c_2
    refine lv_sipush (v := (-2000)) hx hb dX2_fact_22 (by decide) ?_
    have es : fX2_fact t x y = ((-2000), t) := by rw [fX2_fact]; rw [if_neg c_2]
    exact hret 25 _ _ _ _ (by rw [es]) (by rw [es]; exact hP) (by rw [es]; exact hD) hS rfl dX2_fact_25
  · have c_2 := bI_ne c_2
    refine lv_iload_n hx hb dX2_fact_9 rfl (lv_at hl 2 rfl) ?_
    refine lv_sipush (v := (-1000)) hx hb dX2_fact_10 (by decide) ?_
    refine lv_sipush (v := 1000) hx hb dX2_fact_13 (by decide) ?_
    refine x_rdS (As := [.int y, .int (-1000), .int 1000]) (rest := []) ⟨hx, hb, hml, hown, hts⟩ (tX2_isWithin l D cI cZ cC y (-1000) 1000) (va_cwS 3 hts gX2_fact_X2_isWithin rfl rfl rfl (by decide +kernel) ⟨Nat.le_of_ble_eq_true rfl, Nat.le_of_ble_eq_true rfl⟩) hK trivial rfl hl.1 rfl (Nat.le_of_ble_eq_true rfl) dX2_fact_16 ⟨Nat.le_of_ble_eq_true rfl, Nat.le_of_ble_eq_true rfl⟩ (fun r_3 er_3 => ?_)
    have er_3 : r_3 = bI ((-1000) ≤ y ∧ y ≤ 1000) := er_3
    subst er_3
    refine lv_if_ne (tgt := 26) hx hb dX2_fact_19 (by decide) (fun c_4 => ?_) (fun c_4 => ?_)
    · have c_4 := bI_ne c_4
      obtain ⟨j, hj, ej⟩ := ixin (m := 3) (z := 3) rfl (by decide) c_2
      subst ej
      have xj : ix (nI j) = j := ix_nI (by omega)
      refine lv_aload_n hx hb dX2_fact_26 rfl (lv_at hl 0 rfl) ?_
      refine va_get (D := D) (ci := 2) (v := .ref (ad 2)) (C := RX2) (T := TX2) (N := 9) hx hb hts hinX2 hown hK hP 0 rfl rfl 2 (by decide) (hts (.fieldLink RX2 19 "TroubleCodes" "facts" "[I") (mem_at 1 rfl)) (fun _ h9 => h9) rfl dX2_fact_27 ?_
      refine lv_iload_n hx hb dX2_fact_30 rfl (lv_at hl 1 rfl) ?_
      refine x_iald (k := j) (f := t 2) hx hb hK hP 2 rfl (by omega) (by decide) dX2_fact_31 ?_
      refine lv_istore_n (lv' := [(3, .int (t 2 j)), (0, .ref (ad 0)), (1, .int (nI j)), (2, .int y)]) hx hb dX2_fact_32 rfl hl (by decide) rfl (fun ls hl => ?_)
      refine lv_aload_n hx hb dX2_fact_33 rfl (lv_at hl 1 rfl) ?_
      refine va_get (D := D) (ci := 2) (v := .ref (ad 2)) (C := RX2) (T := TX2) (N := 9) hx hb hts hinX2 hown hK hP 0 rfl rfl 2 (by decide) (hts (.fieldLink RX2 19 "TroubleCodes" "facts" "[I") (mem_at 1 rfl)) (fun _ h9 => h9) rfl dX2_fact_34 ?_
      refine lv_iload_n hx hb dX2_fact_37 rfl (lv_at hl 2 rfl) ?_
      refine lv_iload_n hx hb dX2_fact_38 rfl (lv_at hl 3 rfl) ?_
      refine x_iast (k := j) (f := t 2) (x := y) hx hb hK hP hD hS 2 rfl (by omega) (by decide) dX2_fact_39 (fun H locs hP hD hS => ?_)
      have hP : va_P D vwCl (cW cI cC ad n (va_up t 2 (upd (t 2) j y)) v C FF FO) H := hP
      have hD : va_D A (cW cI cC ad n (va_up t 2 (upd (t 2) j y)) v C FF FO) := hD
      refine lv_iload_n hx hb dX2_fact_40 rfl (lv_at hl 0 rfl) ?_
      have es : fX2_fact t (nI j) y = (t 2 j, va_up t 2 (upd (t 2) j y)) := by rw [fX2_fact]; simp only [xj]; rw [if_pos c_2, if_pos c_4]
      exact hret 41 _ _ _ _ (by rw [es]) (by rw [es]; exact hP) (by rw [es]; exact hD) hS rfl dX2_fact_41
    · have c_4 := bI_eq c_4
      refine lv_sipush (v := (-2000)) hx hb dX2_fact_22 (by decide) ?_
      have es : fX2_fact t x y = ((-2000), t) := by rw [fX2_fact]; rw [if_pos c_2, if_neg c_4]
      exact hret 25 _ _ _ _ (by rw [es]) (by rw [es]; exact hP) (by rw [es]; exact hD) hS rfl dX2_fact_25

def ccN (C : Nat → Nat → Int32) : Nat → Int32 := sumN (fun j => if (fX0_clearCode (C j)).1 = 0 then 0 else 1)
def ccF (C : Nat → Nat → Int32) (k : Nat) : Nat → Nat → Int32 := fun j => if j < k then (fX0_clearCode (C j)).2 else C j
theorem ccF_0 {C : Nat → Nat → Int32} : ccF C 0 = C := by funext j; simp [ccF]
theorem ccF_k {C : Nat → Nat → Int32} {k : Nat} : ccF C k k = C k := by simp [ccF]
theorem ccF_s {C : Nat → Nat → Int32} {k : Nat} : ccF C (k + 1) = va_up (ccF C k) k (fX0_clearCode (C k)).2 := by
  funext j
  by_cases h : j = k
  · subst h; simp [ccF, va_up]
  · simp only [ccF, va_up, if_neg h]
    by_cases h2 : j < k
    · rw [if_pos h2, if_pos (by omega)]
    · rw [if_neg h2, if_neg (by omega)]

def fX2_clear (n : Nat) (t C : Nat → Nat → Int32) : Int32 × (Nat → Nat → Int32) := if (t 6 0) = 0 then (ccN C n, (ccF C n)) else ((-3), C)

set_option maxHeartbeats 4000000 in
set_option maxRecDepth 100000 in
theorem tX2_clear (l : Launch) (D : va_G) (cI cZ cC : ClassId) (ad : Nat → Nat) (n : Nat) (t v C FF FO : Nat → Nat → Int32) (hn : t 1 0 = nI n) (hnb : n ≤ 16) : WrI l yX2_clear wsX2_clear (rmK 2) D cI cZ cC [.ref (ad 0)] (cW cI cC ad n t v C FF FO) (cW cI cC ad n t v ((fX2_clear n t C).2) FF FO) (fun ans => ans = (fX2_clear n t C).1) := by
  refine WrI.of (cc := cX2_clear) (maxL := 4) (ret := .int) (by decide) rfl (Nat.le_of_ble_eq_true rfl) ?_
  intro p e s m args below meth c Q A ls hx hb hml hts hown hK hP hD hS hA hret hl
  have hl : lv_has ls 4 [(0, .ref (ad 0))] := hl
  have hinX2 : ∀ w ∈ u_ws RX2 TX2 9, w ∈ wsX2_clear := (fun w h => List.mem_cons_of_mem _ (List.mem_append_left _ (List.mem_append_right _ h)))
  refine lv_aload_n hx hb dX2_clear_0 rfl (lv_at hl 0 rfl) ?_
  refine va_get (D := D) (ci := 2) (v := .int (t 6 0)) (C := RX2) (T := TX2) (N := 9) hx hb hts hinX2 hown hK hP 0 rfl rfl 6 (by decide) (hts (.fieldLink RX2 32 "TroubleCodes" "driving" "Z") (mem_at 1 rfl)) (fun _ h9 => h9) rfl dX2_clear_1 ?_
  refine lv_if_eq (tgt := 10) hx hb dX2_clear_4 (by decide) (fun c_1 => ?_) (fun c_1 => ?_)
  · refine lv_iconst (v := 0) hx hb dX2_clear_10 (by decide) ?_
    refine lv_istore_n (lv' := [(1, .int 0), (0, .ref (ad 0))]) hx hb dX2_clear_11 rfl hl (by decide) rfl (fun ls hl => ?_)
    refine lv_iconst (v := 0) hx hb dX2_clear_12 (by decide) ?_
    refine lv_istore_n (lv' := [(2, .int 0), (1, .int 0), (0, .ref (ad 0))]) hx hb dX2_clear_13 rfl hl (by decide) rfl (fun ls hl => ?_)
    have LOOP_2 : ∀ (fu k : Nat), k ≤ n → n - k < fu → ∀ (H : Heap) (locs : List Loc) (ls : Array Slot), va_P D vwCl (cW cI cC ad n t v (ccF C k) FF FO) H → va_D A (cW cI cC ad n t v (ccF C k) FF FO) → va_S A s.heap H locs → lv_has ls 4 [(0, .ref (ad 0)), (1, .int (ccN C k)), (2, .int (nI k))] → W p l e (rmK 2) s m args below meth c H locs 0 0 Q (F0 m 14 ls []) := by
      intro fu
      induction fu with
      | zero => intro k h1 h2; exact absurd h2 (Nat.not_lt_zero _)
      | succ fu ih =>
        intro k hkn hfu  H locs ls hP hD hS hl
        refine lv_iload_n hx hb dX2_clear_14 rfl (lv_at hl 2 rfl) ?_
        refine lv_aload_n hx hb dX2_clear_15 rfl (lv_at hl 0 rfl) ?_
        refine va_get (D := D) (ci := 2) (v := .int (t 1 0)) (C := RX2) (T := TX2) (N := 9) hx hb hts hinX2 hown hK hP 0 rfl rfl 1 (by decide) (hts (.fieldLink RX2 15 "TroubleCodes" "checkCount" "I") (mem_at 2 rfl)) (fun _ h9 => h9) rfl dX2_clear_16 ?_
        refine lv_icmp_ge (tgt := 48) hx hb dX2_clear_19 (by decide) (fun c_3 => ?_) (fun c_3 => ?_)
        · have ekn : n = k := Nat.le_antisymm (kx_ge hn (by omega) (by omega) c_3) hkn
          subst ekn
          refine lv_iload_n hx hb dX2_clear_48 rfl (lv_at hl 1 rfl) ?_
          have es : fX2_clear n t C = (ccN C n, (ccF C n)) := by rw [fX2_clear]; rw [if_pos c_1]
          exact hret 49 _ _ _ _ (by rw [es]) (by rw [es]; exact hP) (by rw [es]; exact hD) hS rfl dX2_clear_49
        · have hkl : k < n := kx_lt hn (by omega) (by omega) c_3
          refine lv_aload_n hx hb dX2_clear_22 rfl (lv_at hl 0 rfl) ?_
          refine lv_iload_n hx hb dX2_clear_23 rfl (lv_at hl 2 rfl) ?_
          refine x_rqV (As := [.int (nI k)]) (rest := []) ⟨hx, hb, hml, hown, hts⟩ (tX2_checkAt l D cI cZ cC ad n t v (ccF C k) FF FO hn hnb (nI k)) (cwV 1 hts gX2_clear_X2_checkAt rfl rfl rfl (by decide +kernel) ⟨Nat.le_of_ble_eq_true rfl, Nat.le_of_ble_eq_true rfl⟩) hK (x_recv (ci := 2) hK hP rfl (q0 := 0) rfl) hP rfl hl.1 rfl (Nat.le_of_ble_eq_true rfl) dX2_clear_24 ⟨Nat.le_of_ble_eq_true rfl, Nat.le_of_ble_eq_true rfl⟩ (fun r_4 er_4 => ?_)
          have er_4 : r_4 = ckA ad t (nI k) := er_4
          subst er_4
          rw [ckA_k hn hnb hkl]
          refine W.eq (g2 := F0 m 27 ls [.ref (ad (16 + k))]) rfl ?_
          refine lv_astore_n (lv' := [(3, .ref (ad (16 + k))), (0, .ref (ad 0)), (1, .int (ccN C k)), (2, .int (nI k))]) hx hb dX2_clear_27 rfl hl (by decide) rfl (fun ls hl => ?_)
          refine lv_aload_n hx hb dX2_clear_28 rfl (lv_at hl 0 rfl) ?_
          refine lv_ifnull hx hb dX2_clear_29 ?_
          refine lv_aload_n hx hb dX2_clear_32 rfl (lv_at hl 0 rfl) ?_
          refine x_wiV (As := []) (rest := []) (ww := cW cI cC ad n t v (ccF C k) FF FO) ⟨hx, hb, hml, hown, hts⟩ (tX0_clearCode l D cI cZ cC (ad (16 + k)) (ad (32 + k)) (ad (48 + k)) ((ccF C k) k) ) (cwV 0 hts gX2_clear_X0_clearCode rfl rfl rfl (by decide +kernel) ⟨Nat.le_of_ble_eq_true rfl, Nat.le_of_ble_eq_true rfl⟩) hK (x_recv (ci := 0) hK hP rfl (q0 := 10 + k) (cW_k hkl)) hP hD hS hA [10 + k] (by simp [va_nd]) (by rw [List.map_cons, List.map_nil, cW_k hkl]; rfl) rfl rfl hl.1 rfl (Nat.le_of_ble_eq_true rfl) dX2_clear_33 ⟨Nat.le_of_ble_eq_true rfl, Nat.le_of_ble_eq_true rfl⟩ (fun r_5 H locs er_5 hP hD hS => ?_)
          have hP : va_P D vwCl (cW cI cC ad n t v (va_up (ccF C k) k ((fX0_clearCode ((ccF C k) k)).2)) FF FO) H := by rw [← cW_setk hkl]; exact hP
          have hD : va_D A (cW cI cC ad n t v (va_up (ccF C k) k ((fX0_clearCode ((ccF C k) k)).2)) FF FO) := by rw [← cW_setk hkl]; exact hD
          have er_5 : r_5 = (fX0_clearCode ((ccF C k) k)).1 := er_5
          subst er_5
          rw [ccF_k] at hP hD
          rw [ccF_k]
          refine lv_if_eq (tgt := 42) hx hb dX2_clear_36 (by decide) (fun c_6 => ?_) (fun c_6 => ?_)
          · refine lv_iinc (v := nI (k + 1)) (lv' := [(2, .int (nI (k + 1))), (3, .ref (ad (16 + k))), (0, .ref (ad 0)), (1, .int (ccN C k))]) hx hb dX2_clear_42 hl (k := 3) rfl (nI_1 _) (by decide) rfl (fun ls hl => ?_)
            refine lv_goto (tgt := 14) hx hb dX2_clear_45 (by decide) ?_
            have q_7 : (ccN C (k + 1) : Int32) = ccN C k := by simp [ccN, sumN, c_1, c_3, Int32.not_le.mp c_3, c_6]
            have q_8 : cW cI cC ad n t v (ccF C (k + 1)) FF FO = cW cI cC ad n t v (va_up (ccF C k) k (fX0_clearCode (C k)).2) FF FO := by rw [ccF_s]
            exact ih (k + 1) (by omega) (by omega) H locs ls (by rw [q_8]; exact hP) (by rw [q_8]; exact hD) hS (by rw [q_7]; exact lv_sub hl [2, 3, 0] rfl)
          · refine lv_iinc (v := (ccN C k) + 1) (lv' := [(1, .int ((ccN C k) + 1)), (3, .ref (ad (16 + k))), (0, .ref (ad 0)), (2, .int (nI k))]) hx hb dX2_clear_39 hl (k := 2) rfl rfl (by decide) rfl (fun ls hl => ?_)
            refine lv_iinc (v := nI (k + 1)) (lv' := [(2, .int (nI (k + 1))), (1, .int ((ccN C k) + 1)), (3, .ref (ad (16 + k))), (0, .ref (ad 0))]) hx hb dX2_clear_42 hl (k := 3) rfl (nI_1 _) (by decide) rfl (fun ls hl => ?_)
            refine lv_goto (tgt := 14) hx hb dX2_clear_45 (by decide) ?_
            have q_9 : (ccN C (k + 1) : Int32) = (ccN C k) + 1 := by simp [ccN, sumN, c_1, c_3, Int32.not_le.mp c_3, c_6]
            have q_10 : cW cI cC ad n t v (ccF C (k + 1)) FF FO = cW cI cC ad n t v (va_up (ccF C k) k (fX0_clearCode (C k)).2) FF FO := by rw [ccF_s]
            exact ih (k + 1) (by omega) (by omega) H locs ls (by rw [q_10]; exact hP) (by rw [q_10]; exact hD) hS (by rw [q_9]; exact lv_sub hl [3, 1, 0] rfl)
    have q_11 : (ccN C 0 : Int32) = 0 := by rfl
    have q_12 : (nI 0 : Int32) = 0 := by rfl
    exact LOOP_2 (n - 0 + 1) 0 (Nat.zero_le _) (Nat.lt_succ_self _) _ _ ls (by rw [ccF_0]; exact hP) (by rw [ccF_0]; exact hD) hS (by rw [q_11, q_12]; exact lv_sub hl [2, 1, 0] rfl)
  · refine lv_bipush (v := (-3)) hx hb dX2_clear_7 (by decide) ?_
    have es : fX2_clear n t C = ((-3), C) := by rw [fX2_clear]; rw [if_neg c_1]
    exact hret 9 _ _ _ _ (by rw [es]) (by rw [es]; exact hP) (by rw [es]; exact hD) hS rfl dX2_clear_9

def lfD (C : Nat → Nat → Int32) (n : Nat) : Nat := (lfC C n).getD 0
