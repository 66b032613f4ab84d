def countC (n : Nat) (t v C : Nat → Nat → Int32) (x : Int32) : Int32 := if x = 0 then t 1 0 else if x = 1 then t 5 0 else if x = 2 then nI (popG 16 (ix (cbF C 1 n))) else if x = 3 then nI (popG 16 (ix (cbF C 2 n))) else if x = 4 then nI (popG 16 (ix (cbF C 3 n))) else if x = 5 then sumN (fun j => if C j 13 = -1 then 0 else 1) n else if x = 6 then v 2 0 else if x = 7 then (if t 6 0 = 0 then 0 else 1) else -2

set_option maxHeartbeats 4000000 in
set_option maxRecDepth 100000 in
theorem tX2_count (l : Launch) (D : va_G) (cI cZ cC : ClassId) (ad : Nat → Nat) (n : Nat) (t v C FF FO : Nat → Nat → Int32) (hn : t 1 0 = nI n) (hnb : n ≤ 16) (x : Int32) : RdC l yX2_count wsX2_count (rmK 3) D cI cZ cC [.ref (ad 0), .int x] (fun H => va_P D vwCl (cW cI cC ad n t v C FF FO) H) (fun ans => ans = countC n t v C x) := by
  refine RdC.of (cc := cX2_count) (maxL := 2) (ret := .int) (by decide) rfl (Nat.le_of_ble_eq_true rfl) ?_
  intro p e s m args below meth c Q ls hx hb hml hts hown hK hP hret hl
  have hl : lv_has ls 2 [(0, .ref (ad 0)), (1, .int x)] := hl
  have hP : va_P D vwCl (cW cI cC ad n t v C FF FO) s.heap := hP
  have hinX2 : ∀ w ∈ u_ws RX2 TX2 9, w ∈ wsX2_count := (fun w h => List.mem_cons_of_mem _ (List.mem_append_left _ (List.mem_append_left _ (List.mem_append_right _ h))))
  have hinX1 : ∀ w ∈ u_ws RX1 TX1 13, w ∈ wsX2_count := (fun w h => List.mem_cons_of_mem _ (List.mem_append_left _ (List.mem_append_right _ h)))
  refine lv_iload_n hx hb dX2_count_0 rfl (lv_at hl 1 rfl) ?_
  by_cases c_1 : x.toInt < 0 ∨ 7 < x.toInt
  · refine lv_tableOut (tgt := 106) hx hb dX2_count_1 c_1 (by decide) ?_
    refine lv_bipush (v := (-2)) hx hb dX2_count_106 (by decide) ?_
    exact hret 108 _ _ (by have h := tb_out7 c_1; obtain ⟨h0, h1, h2, h3, h4, h5, h6, h7⟩ := h; simp [countC, h0, h1, h2, h3, h4, h5, h6, h7]) rfl dX2_count_108
  · have c_1 := tb_in7 (x := x) c_1
    rcases c_1 with c_1 | c_1 | c_1 | c_1 | c_1 | c_1 | c_1 | c_1
    · refine lv_tableIn (off := 47) (tgt := 48) hx hb dX2_count_1 (by rw [c_1]; decide) (by rw [c_1]; decide) (by rw [c_1]; rfl) (by decide) ?_
      refine lv_aload_n hx hb dX2_count_48 rfl (lv_at hl 0 rfl) ?_
      refine va_get (D := D) (ci := 2) (v := .int (t 1 0)) (C := RX2) (T := TX2) (N := 9) hx hb hts hinX2 hown hK hP 0 rfl rfl 1 (by decide) (hts (.fieldLink RX2 15 "TroubleCodes" "checkCount" "I") (mem_at 1 rfl)) (fun _ h9 => h9) rfl dX2_count_49 ?_
      exact hret 52 _ _ (by rw [c_1]; simp [countC]) rfl dX2_count_52
    · refine lv_tableIn (off := 52) (tgt := 53) hx hb dX2_count_1 (by rw [c_1]; decide) (by rw [c_1]; decide) (by rw [c_1]; rfl) (by decide) ?_
      refine lv_aload_n hx hb dX2_count_53 rfl (lv_at hl 0 rfl) ?_
      refine va_get (D := D) (ci := 2) (v := .int (t 5 0)) (C := RX2) (T := TX2) (N := 9) hx hb hts hinX2 hown hK hP 0 rfl rfl 5 (by decide) (hts (.fieldLink RX2 29 "TroubleCodes" "drivesEnded" "I") (mem_at 2 rfl)) (fun _ h9 => h9) rfl dX2_count_54 ?_
      exact hret 57 _ _ (by rw [c_1]; simp [countC]) rfl dX2_count_57
    · refine lv_tableIn (off := 57) (tgt := 58) hx hb dX2_count_1 (by rw [c_1]; decide) (by rw [c_1]; decide) (by rw [c_1]; rfl) (by decide) ?_
      refine lv_aload_n hx hb dX2_count_58 rfl (lv_at hl 0 rfl) ?_
      refine lv_iconst (v := 1) hx hb dX2_count_59 (by decide) ?_
      refine x_rdV (As := [.int 1]) (rest := []) ⟨hx, hb, hml, hown, hts⟩ (tX2_codeBits l D cI cZ cC ad n t v C FF FO hn hnb 1) (cwV 1 hts gX2_count_X2_codeBits rfl rfl rfl (by decide +kernel) ⟨Nat.le_of_ble_eq_true rfl, Nat.le_of_ble_eq_true rfl⟩) hK (x_recv (ci := 2) hK hP rfl (q0 := 0) rfl) hP rfl hl.1 rfl (Nat.le_of_ble_eq_true rfl) dX2_count_60 ⟨Nat.le_of_ble_eq_true rfl, Nat.le_of_ble_eq_true rfl⟩ (fun r_2 er_2 => ?_)
      have er_2 : r_2 = cbF C 1 n := er_2
      subst er_2
      rw [(cb_eq C 1 hnb).2]
      refine x_rdS (As := [.int (nI (ix (cbF C 1 n)))]) (rest := []) ⟨hx, hb, hml, hown, hts⟩ (tJ6_bitCount_0f7a4 l D cI cZ cC (ix (cbF C 1 n)) (cb_eq C 1 hnb).1) (va_cwS 1 hts gX2_count_J6_bitCount_0f7a4 rfl rfl rfl (by decide +kernel) ⟨Nat.le_of_ble_eq_true rfl, Nat.le_of_ble_eq_true rfl⟩) hK trivial rfl hl.1 rfl (Nat.le_of_ble_eq_true rfl) dX2_count_63 ⟨Nat.le_of_ble_eq_true rfl, Nat.le_of_ble_eq_true rfl⟩ (fun r_3 er_3 => ?_)
      have er_3 : r_3 = nI (popG 16 (ix (cbF C 1 n))) := er_3
      subst er_3
      exact hret 66 _ _ (by rw [c_1]; simp [countC]) rfl dX2_count_66
    · refine lv_tableIn (off := 66) (tgt := 67) hx hb dX2_count_1 (by rw [c_1]; decide) (by rw [c_1]; decide) (by rw [c_1]; rfl) (by decide) ?_
      refine lv_aload_n hx hb dX2_count_67 rfl (lv_at hl 0 rfl) ?_
      refine lv_iconst (v := 2) hx hb dX2_count_68 (by decide) ?_
      refine x_rdV (As := [.int 2]) (rest := []) ⟨hx, hb, hml, hown, hts⟩ (tX2_codeBits l D cI cZ cC ad n t v C FF FO hn hnb 2) (cwV 1 hts gX2_count_X2_codeBits rfl rfl rfl (by decide +kernel) ⟨Nat.le_of_ble_eq_true rfl, Nat.le_of_ble_eq_true rfl⟩) hK (x_recv (ci := 2) hK hP rfl (q0 := 0) rfl) hP rfl hl.1 rfl (Nat.le_of_ble_eq_true rfl) dX2_count_69 ⟨Nat.le_of_ble_eq_true rfl, Nat.le_of_ble_eq_true rfl⟩ (fun r_4 er_4 => ?_)
      have er_4 : r_4 = cbF C 2 n := er_4
      subst er_4
      rw [(cb_eq C 2 hnb).2]
      refine x_rdS (As := [.int (nI (ix (cbF C 2 n)))]) (rest := []) ⟨hx, hb, hml, hown, hts⟩ (tJ6_bitCount_0f7a4 l D cI cZ cC (ix (cbF C 2 n)) (cb_eq C 2 hnb).1) (va_cwS 1 hts gX2_count_J6_bitCount_0f7a4 rfl rfl rfl (by decide +kernel) ⟨Nat.le_of_ble_eq_true rfl, Nat.le_of_ble_eq_true rfl⟩) hK trivial rfl hl.1 rfl (Nat.le_of_ble_eq_true rfl) dX2_count_72 ⟨Nat.le_of_ble_eq_true rfl, Nat.le_of_ble_eq_true rfl⟩ (fun r_5 er_5 => ?_)
      have er_5 : r_5 = nI (popG 16 (ix (cbF C 2 n))) := er_5
      subst er_5
      exact hret 75 _ _ (by rw [c_1]; simp [countC]) rfl dX2_count_75
    · refine lv_tableIn (off := 75) (tgt := 76) hx hb dX2_count_1 (by rw [c_1]; decide) (by rw [c_1]; decide) (by rw [c_1]; rfl) (by decide) ?_
      refine lv_aload_n hx hb dX2_count_76 rfl (lv_at hl 0 rfl) ?_
      refine lv_iconst (v := 3) hx hb dX2_count_77 (by decide) ?_
      refine x_rdV (As := [.int 3]) (rest := []) ⟨hx, hb, hml, hown, hts⟩ (tX2_codeBits l D cI cZ cC ad n t v C FF FO hn hnb 3) (cwV 1 hts gX2_count_X2_codeBits rfl rfl rfl (by decide +kernel) ⟨Nat.le_of_ble_eq_true rfl, Nat.le_of_ble_eq_true rfl⟩) hK (x_recv (ci := 2) hK hP rfl (q0 := 0) rfl) hP rfl hl.1 rfl (Nat.le_of_ble_eq_true rfl) dX2_count_78 ⟨Nat.le_of_ble_eq_true rfl, Nat.le_of_ble_eq_true rfl⟩ (fun r_6 er_6 => ?_)
      have er_6 : r_6 = cbF C 3 n := er_6
      subst er_6
      rw [(cb_eq C 3 hnb).2]
      refine x_rdS (As := [.int (nI (ix (cbF C 3 n)))]) (rest := []) ⟨hx, hb, hml, hown, hts⟩ (tJ6_bitCount_0f7a4 l D cI cZ cC (ix (cbF C 3 n)) (cb_eq C 3 hnb).1) (va_cwS 1 hts gX2_count_J6_bitCount_0f7a4 rfl rfl rfl (by decide +kernel) ⟨Nat.le_of_ble_eq_true rfl, Nat.le_of_ble_eq_true rfl⟩) hK trivial rfl hl.1 rfl (Nat.le_of_ble_eq_true rfl) dX2_count_81 ⟨Nat.le_of_ble_eq_true rfl, Nat.le_of_ble_eq_true rfl⟩ (fun r_7 er_7 => ?_)
      have er_7 : r_7 = nI (popG 16 (ix (cbF C 3 n))) := er_7
      subst er_7
      exact hret 84 _ _ (by rw [c_1]; simp [countC]) rfl dX2_count_84
    · refine lv_tableIn (off := 84) (tgt := 85) hx hb dX2_count_1 (by rw [c_1]; decide) (by rw [c_1]; decide) (by rw [c_1]; rfl) (by decide) ?_
      refine lv_aload_n hx hb dX2_count_85 rfl (lv_at hl 0 rfl) ?_
      refine x_rdV (As := []) (rest := []) ⟨hx, hb, hml, hown, hts⟩ (tX2_frozenCount l D cI cZ cC ad n t v C FF FO hn hnb) (cwV 0 hts gX2_count_X2_frozenCount rfl rfl rfl (by decide +kernel) ⟨Nat.le_of_ble_eq_true rfl, Nat.le_of_ble_eq_true rfl⟩) hK (x_recv (ci := 2) hK hP rfl (q0 := 0) rfl) hP rfl hl.1 rfl (Nat.le_of_ble_eq_true rfl) dX2_count_86 ⟨Nat.le_of_ble_eq_true rfl, Nat.le_of_ble_eq_true rfl⟩ (fun r_8 er_8 => ?_)
      have er_8 : r_8 = sumN (fun j => if C j 13 = -1 then 0 else 1) n := er_8
      subst er_8
      exact hret 89 _ _ (by rw [c_1]; simp [countC]) rfl dX2_count_89
    · refine lv_tableIn (off := 89) (tgt := 90) hx hb dX2_count_1 (by rw [c_1]; decide) (by rw [c_1]; decide) (by rw [c_1]; rfl) (by decide) ?_
      refine lv_aload_n hx hb dX2_count_90 rfl (lv_at hl 0 rfl) ?_
      refine va_get (D := D) (ci := 2) (v := .ref (ad 3)) (C := RX2) (T := TX2) (N := 9) hx hb hts hinX2 hown hK hP 0 rfl rfl 8 (by decide) (hts (.fieldLink RX2 42 "TroubleCodes" "workshop" "LTroubleCodes$Workshop;") (mem_at 3 rfl)) (fun _ h9 => h9) rfl dX2_count_91 ?_
      refine va_get (D := D) (ci := 1) (v := .int (v 2 0)) (C := RX1) (T := TX1) (N := 13) hx hb hts hinX1 hown hK hP 3 rfl rfl 2 (by decide) (hts (.fieldLink RX2 117 "TroubleCodes$Workshop" "causeCount" "I") (mem_at 4 rfl)) (fun _ h9 => h9) rfl dX2_count_94 ?_
      exact hret 97 _ _ (by rw [c_1]; simp [countC]) rfl dX2_count_97
    · refine lv_tableIn (off := 97) (tgt := 98) hx hb dX2_count_1 (by rw [c_1]; decide) (by rw [c_1]; decide) (by rw [c_1]; rfl) (by decide) ?_
      refine lv_aload_n hx hb dX2_count_98 rfl (lv_at hl 0 rfl) ?_
      refine va_get (D := D) (ci := 2) (v := .int (t 6 0)) (C := RX2) (T := TX2) (N := 9) hx hb hts hinX2 hown hK hP 0 rfl rfl 6 (by decide) (hts (.fieldLink RX2 32 "TroubleCodes" "driving" "Z") (mem_at 5 rfl)) (fun _ h9 => h9) rfl dX2_count_99 ?_
      refine x_rdS (As := [.int (t 6 0)]) (rest := []) ⟨hx, hb, hml, hown, hts⟩ (tX2_asNumber l D cI cZ cC (t 6 0)) (va_cwS 1 hts gX2_count_X2_asNumber rfl rfl rfl (by decide +kernel) ⟨Nat.le_of_ble_eq_true rfl, Nat.le_of_ble_eq_true rfl⟩) hK trivial rfl hl.1 rfl (Nat.le_of_ble_eq_true rfl) dX2_count_102 ⟨Nat.le_of_ble_eq_true rfl, Nat.le_of_ble_eq_true rfl⟩ (fun r_9 er_9 => ?_)
      have er_9 : r_9 = (if (t 6 0) = 0 then 0 else 1) := er_9
      subst er_9
      exact hret 105 _ _ (by rw [c_1]; simp [countC]) rfl dX2_count_105

def fX2_cause (t v : Nat → Nat → Int32) (x y : Int32) : Int32 × (Nat → Nat → Int32) := if x = 0 then ((-2), v) else (if (x &&& (-(1 <<< ((t 1 0) &&& 31)))) = 0 then (if 1 ≤ y ∧ y ≤ 1000 then ((fX1_addCause v x y).1, ((fX1_addCause v x y).2)) else ((-2), v)) else ((-2), v))

set_option maxHeartbeats 4000000 in
set_option maxRecDepth 100000 in
theorem tX2_cause (l : Launch) (D : va_G) (cI cZ cC : ClassId) (ad : Nat → Nat) (n : Nat) (t v C FF FO : Nat → Nat → Int32) (hn : t 1 0 = nI n) (hnb : n ≤ 16) (mm : Nat) (hm : v 2 0 = nI mm) (hmb : mm ≤ 10) (x y : Int32) : WrI l yX2_cause wsX2_cause (rmK 1) D cI cZ cC [.ref (ad 0), .int x, .int y] (cW cI cC ad n t v C FF FO) (cW cI cC ad n t ((fX2_cause t v x y).2) C FF FO) (fun ans => ans = (fX2_cause t v x y).1) := by
  refine WrI.of (cc := cX2_cause) (maxL := 3) (ret := .int) (by decide) rfl (Nat.le_of_ble_eq_true rfl) ?_
  intro p e s m args below meth c Q A ls hx hb hml hts hown hK hP hD hS hA hret hl
  have hl : lv_has ls 3 [(0, .ref (ad 0)), (1, .int x), (2, .int y)] := hl
  have hinX2 : ∀ w ∈ u_ws RX2 TX2 9, w ∈ wsX2_cause := (fun w h => List.mem_cons_of_mem _ (List.mem_append_left _ (List.mem_append_right _ h)))
  refine lv_iload_n hx hb dX2_cause_0 rfl (lv_at hl 1 rfl) ?_
  refine lv_if_eq (tgt := 15) hx hb dX2_cause_1 (by decide) (fun c_1 => ?_) (fun c_1 => ?_)
  · refine lv_bipush (v := (-2)) hx hb dX2_cause_15 (by decide) ?_
    have es : fX2_cause t v x y = ((-2), v) := by rw [fX2_cause]; rw [if_pos c_1]
    exact hret 17 _ _ _ _ (by rw [es]) (by rw [es]; exact hP) (by rw [es]; exact hD) hS rfl dX2_cause_17
  · refine lv_iload_n hx hb dX2_cause_4 rfl (lv_at hl 1 rfl) ?_
    refine lv_aload_n hx hb dX2_cause_5 rfl (lv_at hl 0 rfl) ?_
    refine va_get (D := D) (ci := 2) (v := .int (t 1 0)) (C := RX2) (T := TX2) (N := 9) hx hb hts hinX2 hown hK hP 0 rfl rfl 1 (by decide) (hts (.fieldLink RX2 15 "TroubleCodes" "checkCount" "I") (mem_at 1 rfl)) (fun _ h9 => h9) rfl dX2_cause_6 ?_
    refine x_rdS (As := [.int x, .int (t 1 0)]) (rest := []) ⟨hx, hb, hml, hown, hts⟩ (tX2_isBitsBelow l D cI cZ cC x (t 1 0)) (va_cwS 2 hts gX2_cause_X2_isBitsBelow rfl rfl rfl (by decide +kernel) ⟨Nat.le_of_ble_eq_true rfl, Nat.le_of_ble_eq_true rfl⟩) hK trivial rfl hl.1 rfl (Nat.le_of_ble_eq_true rfl) dX2_cause_9 ⟨Nat.le_of_ble_eq_true rfl, Nat.le_of_ble_eq_true rfl⟩ (fun r_2 er_2 => ?_)
    have er_2 : r_2 = bI ((x &&& (-(1 <<< ((t 1 0) &&& 31)))) = 0) := er_2
    subst er_2
    refine lv_if_ne (tgt := 18) hx hb dX2_cause_12 (by decide) (fun c_3 => ?_) (fun c_3 => ?_)
    · have c_3 := bI_ne c_3
      refine lv_iload_n hx hb dX2_cause_18 rfl (lv_at hl 2 rfl) ?_
      refine lv_iconst (v := 1) hx hb dX2_cause_19 (by decide) ?_
      refine lv_sipush (v := 1000) hx hb dX2_cause_20 (by decide) ?_
      refine x_rdS (As := [.int y, .int 1, .int 1000]) (rest := []) ⟨hx, hb, hml, hown, hts⟩ (tX2_isWithin l D cI cZ cC y 1 1000) (va_cwS 3 hts gX2_cause_X2_isWithin rfl rfl rfl (by decide +kernel) ⟨Nat.le_of_ble_eq_true rfl, Nat.le_of_ble_eq_true rfl⟩) hK trivial rfl hl.1 rfl (Nat.le_of_ble_eq_true rfl) dX2_cause_23 ⟨Nat.le_of_ble_eq_true rfl, Nat.le_of_ble_eq_true rfl⟩ (fun r_4 er_4 => ?_)
      have er_4 : r_4 = bI (1 ≤ y ∧ y ≤ 1000) := er_4
      subst er_4
      refine lv_if_ne (tgt := 32) hx hb dX2_cause_26 (by decide) (fun c_5 => ?_) (fun c_5 => ?_)
      · have c_5 := bI_ne c_5
        refine lv_aload_n hx hb dX2_cause_32 rfl (lv_at hl 0 rfl) ?_
        refine va_get (D := D) (ci := 2) (v := .ref (ad 3)) (C := RX2) (T := TX2) (N := 9) hx hb hts hinX2 hown hK hP 0 rfl rfl 8 (by decide) (hts (.fieldLink RX2 42 "TroubleCodes" "workshop" "LTroubleCodes$Workshop;") (mem_at 2 rfl)) (fun _ h9 => h9) rfl dX2_cause_33 ?_
        refine lv_iload_n hx hb dX2_cause_36 rfl (lv_at hl 1 rfl) ?_
        refine lv_iload_n hx hb dX2_cause_37 rfl (lv_at hl 2 rfl) ?_
        refine x_wiV (As := [.int x, .int y]) (rest := []) (ww := cW cI cC ad n t v C FF FO) ⟨hx, hb, hml, hown, hts⟩ (tX1_addCause l D cI cZ cC ad v mm hm hmb x y) (cwV 2 hts gX2_cause_X1_addCause rfl rfl rfl (by decide +kernel) ⟨Nat.le_of_ble_eq_true rfl, Nat.le_of_ble_eq_true rfl⟩) hK (x_recv (ci := 1) hK hP rfl (q0 := 3) rfl) hP hD hS hA [3, 4, 5, 6, 7, 8, 9] (by decide) rfl rfl rfl hl.1 rfl (Nat.le_of_ble_eq_true rfl) dX2_cause_38 ⟨Nat.le_of_ble_eq_true rfl, Nat.le_of_ble_eq_true rfl⟩ (fun r_6 H locs er_6 hP hD hS => ?_)
        have hP : va_P D vwCl (cW cI cC ad n t ((fX1_addCause v x y).2) C FF FO) H := hP
        have hD : va_D A (cW cI cC ad n t ((fX1_addCause v x y).2) C FF FO) := hD
        have er_6 : r_6 = (fX1_addCause v x y).1 := er_6
        subst er_6
        have es : fX2_cause t v x y = ((fX1_addCause v x y).1, ((fX1_addCause v x y).2)) := by rw [fX2_cause]; rw [if_neg c_1, if_pos c_3, if_pos c_5]
        exact hret 41 _ _ _ _ (by rw [es]) (by rw [es]; exact hP) (by rw [es]; exact hD) hS rfl dX2_cause_41
      · have c_5 := bI_eq c_5
        refine lv_bipush (v := (-2)) hx hb dX2_cause_29 (by decide) ?_
        have es : fX2_cause t v x y = ((-2), v) := by rw [fX2_cause]; rw [if_neg c_1, if_pos c_3, if_neg c_5]
        exact hret 31 _ _ _ _ (by rw [es]) (by rw [es]; exact hP) (by rw [es]; exact hD) hS rfl dX2_cause_31
    · have c_3 := bI_eq c_3
      refine lv_bipush (v := (-2)) hx hb dX2_cause_15 (by decide) ?_
      have es : fX2_cause t v x y = ((-2), v) := by rw [fX2_cause]; rw [if_neg c_1, if_neg c_3]
      exact hret 17 _ _ _ _ (by rw [es]) (by rw [es]; exact hP) (by rw [es]; exact hD) hS rfl dX2_cause_17

def fX2_explains (n : Nat) (v C : Nat → Nat → Int32) (x : Int32) : Int32 := if (x &&& (-(1 <<< ((v 2 0) &&& 31)))) = 0 then (if (bI ((v 3 (ix x) &&& (rbF C n)) = ((cbF C 2 n) &&& (rbF C n)))) = 0 then 0 else 1) else (-2)
set_option maxHeartbeats 4000000 in
set_option maxRecDepth 100000 in
theorem tX2_explains (l : Launch) (D : va_G) (cI cZ cC : ClassId) (ad : Nat → Nat) (n : Nat) (t v C FF FO : Nat → Nat → Int32) (hn : t 1 0 = nI n) (hnb : n ≤ 16) (mm : Nat) (hm : v 2 0 = nI mm) (hmb : mm ≤ 10) (x : Int32) : RdC l yX2_explains wsX2_explains (rmK 3) D cI cZ cC [.ref (ad 0), .int x] (fun H => va_P D vwCl (cW cI cC ad n t v C FF FO) H) (fun ans => ans = fX2_explains n v C x) := by
  refine RdC.of (cc := cX2_explains) (maxL := 2) (ret := .int) (by decide) rfl (Nat.le_of_ble_eq_true rfl) ?_
  intro p e s m args below meth c Q ls hx hb hml hts hown hK hP hret hl
  have hl : lv_has ls 2 [(0, .ref (ad 0)), (1, .int x)] := hl
  have hP : va_P D vwCl (cW cI cC ad n t v C FF FO) s.heap := hP
  have hinX2 : ∀ w ∈ u_ws RX2 TX2 9, w ∈ wsX2_explains := (fun w h => List.mem_cons_of_mem _ (List.mem_append_left _ (List.mem_append_left _ (List.mem_append_right _ h))))
  have hinX1 : ∀ w ∈ u_ws RX1 TX1 13, w ∈ wsX2_explains := (fun w h => List.mem_cons_of_mem _ (List.mem_append_left _ (List.mem_append_right _ h)))
  refine lv_iload_n hx hb dX2_explains_0 rfl (lv_at hl 1 rfl) ?_
  refine lv_aload_n hx hb dX2_explains_1 rfl (lv_at hl 0 rfl) ?_
  refine va_get (D := D) (ci := 2) (v := .ref (ad 3)) (C := RX2) (T := TX2) (N := 9) hx hb hts hinX2 hown hK hP 0 rfl rfl 8 (by decide) (hts (.fieldLink RX2 42 "TroubleCodes" "workshop" "LTroubleCodes$Workshop;") (mem_at 1 rfl)) (fun _ h9 => h9) rfl dX2_explains_2 ?_
  refine va_get (D := D) (ci := 1) (v := .int (v 2 0)) (C := RX1) (T := TX1) (N := 13) hx hb hts hinX1 hown hK hP 3 rfl rfl 2 (by decide) (hts (.fieldLink RX2 117 "TroubleCodes$Workshop" "causeCount" "I") (mem_at 2 rfl)) (fun _ h9 => h9) rfl dX2_explains_5 ?_
  refine x_rdS (As := [.int x, .int (v 2 0)]) (rest := []) ⟨hx, hb, hml, hown, hts⟩ (tX2_isBitsBelow l D cI cZ cC x (v 2 0)) (va_cwS 2 hts gX2_explains_X2_isBitsBelow rfl rfl rfl (by decide +kernel) ⟨Nat.le_of_ble_eq_true rfl, Nat.le_of_ble_eq_true rfl⟩) hK trivial rfl hl.1 rfl (Nat.le_of_ble_eq_true rfl) dX2_explains_8 ⟨Nat.le_of_ble_eq_true rfl, Nat.le_of_ble_eq_true rfl⟩ (fun r_1 er_1 => ?_)
  have er_1 : r_1 = bI ((x &&& (-(1 <<< ((v 2 0) &&& 31)))) = 0) := er_1
  subst er_1
  refine lv_if_ne (tgt := 17) hx hb dX2_explains_11 (by decide) (fun c_2 => ?_) (fun c_2 => ?_)
  · have c_2 := bI_ne c_2
    obtain ⟨z, hz, ez⟩ := bits_lt hm (by omega) c_2
    subst ez
    have hz10 : z < 1024 := by have := pow_le10 hmb; omega
    have xz : ix (nI z) = z := ix_nI (by omega)
    refine lv_aload_n hx hb dX2_explains_17 rfl (lv_at hl 0 rfl) ?_
    refine va_get (D := D) (ci := 2) (v := .ref (ad 3)) (C := RX2) (T := TX2) (N := 9) hx hb hts hinX2 hown hK hP 0 rfl rfl 8 (by decide) (hts (.fieldLink RX2 42 "TroubleCodes" "workshop" "LTroubleCodes$Workshop;") (mem_at 1 rfl)) (fun _ h9 => h9) rfl dX2_explains_18 ?_
    refine lv_iload_n hx hb dX2_explains_21 rfl (lv_at hl 1 rfl) ?_
    refine lv_aload_n hx hb dX2_explains_22 rfl (lv_at hl 0 rfl) ?_
    refine x_rdV (As := []) (rest := [.int (nI z), .ref (ad 3)]) ⟨hx, hb, hml, hown, hts⟩ (tX2_ranBits l D cI cZ cC ad n t v C FF FO hn hnb) (cwV 0 hts gX2_explains_X2_ranBits rfl rfl rfl (by decide +kernel) ⟨Nat.le_of_ble_eq_true rfl, Nat.le_of_ble_eq_true rfl⟩) hK (x_recv (ci := 2) hK hP rfl (q0 := 0) rfl) hP rfl hl.1 rfl (Nat.le_of_ble_eq_true rfl) dX2_explains_23 ⟨Nat.le_of_ble_eq_true rfl, Nat.le_of_ble_eq_true rfl⟩ (fun r_3 er_3 => ?_)
    have er_3 : r_3 = rbF C n := er_3
    subst er_3
    refine lv_aload_n hx hb dX2_explains_26 rfl (lv_at hl 0 rfl) ?_
    refine lv_iconst (v := 2) hx hb dX2_explains_27 (by decide) ?_
    refine x_rdV (As := [.int 2]) (rest := [.int (rbF C n), .int (nI z), .ref (ad 3)]) ⟨hx, hb, hml, hown, hts⟩ (tX2_codeBits l D cI cZ cC ad n t v C FF FO hn hnb 2) (cwV 1 hts gX2_explains_X2_codeBits rfl rfl rfl (by decide +kernel) ⟨Nat.le_of_ble_eq_true rfl, Nat.le_of_ble_eq_true rfl⟩) hK (x_recv (ci := 2) hK hP rfl (q0 := 0) rfl) hP rfl hl.1 rfl (Nat.le_of_ble_eq_true rfl) dX2_explains_28 ⟨Nat.le_of_ble_eq_true rfl, Nat.le_of_ble_eq_true rfl⟩ (fun r_4 er_4 => ?_)
    have er_4 : r_4 = cbF C 2 n := er_4
    subst er_4
    refine x_rdV (As := [.int (nI z), .int (rbF C n), .int (cbF C 2 n)]) (rest := []) ⟨hx, hb, hml, hown, hts⟩ (tX1_isExplainedBy l D cI cZ cC ad v z hz10 (rbF C n) (cbF C 2 n)) (cwV 3 hts gX2_explains_X1_isExplainedBy rfl rfl rfl (by decide +kernel) ⟨Nat.le_of_ble_eq_true rfl, Nat.le_of_ble_eq_true rfl⟩) hK (x_recv (ci := 1) hK hP rfl (q0 := 3) rfl) (cP_w hP) rfl hl.1 rfl (Nat.le_of_ble_eq_true rfl) dX2_explains_31 ⟨Nat.le_of_ble_eq_true rfl, Nat.le_of_ble_eq_true rfl⟩ (fun r_5 er_5 => ?_)
    have er_5 : r_5 = bI ((v 3 z &&& (rbF C n)) = ((cbF C 2 n) &&& (rbF C n))) := er_5
    subst er_5
    refine x_rdS (As := [.int (bI ((v 3 z &&& (rbF C n)) = ((cbF C 2 n) &&& (rbF C n))))]) (rest := []) ⟨hx, hb, hml, hown, hts⟩ (tX2_asNumber l D cI cZ cC (bI ((v 3 z &&& (rbF C n)) = ((cbF C 2 n) &&& (rbF C n))))) (va_cwS 1 hts gX2_explains_X2_asNumber rfl rfl rfl (by decide +kernel) ⟨Nat.le_of_ble_eq_true rfl, Nat.le_of_ble_eq_true rfl⟩) hK trivial rfl hl.1 rfl (Nat.le_of_ble_eq_true rfl) dX2_explains_34 ⟨Nat.le_of_ble_eq_true rfl, Nat.le_of_ble_eq_true rfl⟩ (fun r_6 er_6 => ?_)
    have er_6 : r_6 = (if (bI ((v 3 z &&& (rbF C n)) = ((cbF C 2 n) &&& (rbF C n)))) = 0 then 0 else 1) := er_6
    subst er_6
    exact hret 37 _ _ (by rw [fX2_explains]; simp only [xz]; rw [if_pos c_2]) rfl dX2_explains_37
  · have c_2 := bI_eq c_2
    refine lv_bipush (v := (-2)) hx hb dX2_explains_14 (by decide) ?_
    exact hret 16 _ _ (by rw [fX2_explains]; rw [if_neg c_2]) rfl dX2_explains_16

theorem lk_keep (v C : Nat → Nat → Int32) (n mm r : Nat) (h : r < 4) : lkV v C n mm r = v r := by
  unfold lkV fX1_look
  have k : ∀ g, fX1_findLeast g mm r = g r := fun g => by unfold fX1_findLeast; simp [va_up, show r ≠ 4 by omega, show r ≠ 5 by omega]
  repeat' split
  all_goals simp [k, va_up, show r ≠ 9 by omega, show r ≠ 10 by omega, show r ≠ 11 by omega, show r ≠ 12 by omega]
theorem lk_5 (v C : Nat → Nat → Int32) (n mm : Nat) (h : ∃ L, L ≤ 10 ∧ v 5 0 = nI L) : ∃ L, L ≤ 10 ∧ lkV v C n mm 5 0 = nI L := by
  have k : ∀ g, ∃ L, L ≤ 10 ∧ fX1_findLeast g mm 5 0 = nI L := fun g => ⟨_, (flC_b (exC g) (g 4) (2 ^ mm)).1, by unfold fX1_findLeast; simp [va_up]⟩
  unfold lkV fX1_look
  repeat' split
  all_goals first | exact h | exact k _

def fX2_least (n mm : Nat) (v C : Nat → Nat → Int32) : Int32 × (Nat → Nat → Int32) := ((lkV v C n mm) 5 0, (lkV v C n mm))

set_option maxHeartbeats 4000000 in
set_option maxRecDepth 100000 in
theorem tX2_least (l : Launch) (D : va_G) (cI cZ cC : ClassId) (ad : Nat → Nat) (n : Nat) (t v C FF FO : Nat → Nat → Int32) (hn : t 1 0 = nI n) (hnb : n ≤ 16) (mm : Nat) (hm : v 2 0 = nI mm) (hmb : mm ≤ 10) : WrI l yX2_least wsX2_least (rmK 4) D cI cZ cC [.ref (ad 0)] (cW cI cC ad n t v C FF FO) (cW cI cC ad n t ((fX2_least n mm v C).2) C FF FO) (fun ans => ans = (fX2_least n mm v C).1) := by
  refine WrI.of (cc := cX2_least) (maxL := 1) (ret := .int) (by decide) rfl (Nat.le_of_ble_eq_true rfl) ?_
  intro p e s m args below meth c Q A ls hx hb hml hts hown hK hP hD hS hA hret hl
  have hl : lv_has ls 1 [(0, .ref (ad 0))] := hl
  have hinX2 : ∀ w ∈ u_ws RX2 TX2 9, w ∈ wsX2_least := (fun w h => List.mem_cons_of_mem _ (List.mem_append_left _ (List.mem_append_left _ (List.mem_append_right _ h))))
  have hinX1 : ∀ w ∈ u_ws RX1 TX1 13, w ∈ wsX2_least := (fun w h => List.mem_cons_of_mem _ (List.mem_append_left _ (List.mem_append_right _ h)))
  refine lv_aload_n hx hb dX2_least_0 rfl (lv_at hl 0 rfl) ?_
  refine x_wvW (As := []) (rest := []) ⟨hx, hb, hml, hown, hts⟩ (tX2_lookAtCodes l D cI cZ cC ad n t v C FF FO hn hnb mm hm hmb) (cwV 0 hts gX2_least_X2_lookAtCodes rfl rfl rfl (by decide +kernel) ⟨Nat.le_of_ble_eq_true rfl, Nat.le_of_ble_eq_true rfl⟩) hK (x_recv (ci := 2) hK hP rfl (q0 := 0) rfl) hP hD hS hA rfl hl.1 rfl (Nat.le_of_ble_eq_true rfl) dX2_least_1 ⟨Nat.le_of_ble_eq_true rfl, Nat.le_of_ble_eq_true rfl⟩ (fun H locs hP hD hS => ?_)
  refine lv_aload_n hx hb dX2_least_4 rfl (lv_at hl 0 rfl) ?_
  refine va_get (D := D) (ci := 2) (v := .ref (ad 3)) (C := RX2) (T := TX2) (N := 9) hx hb hts hinX2 hown hK hP 0 rfl rfl 8 (by decide) (hts (.fieldLink RX2 42 "TroubleCodes" "workshop" "LTroubleCodes$Workshop;") (mem_at 1 rfl)) (fun _ h9 => h9) rfl dX2_least_5 ?_
  refine va_get (D := D) (ci := 1) (v := .int ((lkV v C n mm) 5 0)) (C := RX1) (T := TX1) (N := 13) hx hb hts hinX1 hown hK hP 3 rfl rfl 5 (by decide) (hts (.fieldLink RX2 132 "TroubleCodes$Workshop" "leastCount" "I") (mem_at 2 rfl)) (fun _ h9 => h9) rfl dX2_least_8 ?_
  have es : fX2_least n mm v C = ((lkV v C n mm) 5 0, (lkV v C n mm)) := by rw [fX2_least]
  exact hret 11 _ _ _ _ (by rw [es]) (by rw [es]; exact hP) (by rw [es]; exact hD) hS rfl dX2_least_11

def fX2_leastAt (n mm : Nat) (v C : Nat → Nat → Int32) (x : Int32) : Int32 × (Nat → Nat → Int32) := if 0 ≤ x ∧ x ≤ (((lkV v C n mm) 5 0) - 1) then ((lkV v C n mm) 4 (ix x), (lkV v C n mm)) else ((-1), (lkV v C n mm))

set_option maxHeartbeats 4000000 in
set_option maxRecDepth 100000 in
theorem tX2_leastAt (l : Launch) (D : va_G) (cI cZ cC : ClassId) (ad : Nat → Nat) (n : Nat) (t v C FF FO : Nat → Nat → Int32) (hn : t 1 0 = nI n) (hnb : n ≤ 16) (mm : Nat) (hm : v 2 0 = nI mm) (hmb : mm ≤ 10) (hv5 : ∃ L, L ≤ 10 ∧ v 5 0 = nI L) (x : Int32) : WrI l yX2_leastAt wsX2_leastAt (rmK 4) D cI cZ cC [.ref (ad 0), .int x] (cW cI cC ad n t v C FF FO) (cW cI cC ad n t ((fX2_leastAt n mm v C x).2) C FF FO) (fun ans => ans = (fX2_leastAt n mm v C x).1) := by
  refine WrI.of (cc := cX2_leastAt) (maxL := 2) (ret := .int) (by decide) rfl (Nat.le_of_ble_eq_true rfl) ?_
  intro p e s m args below meth c Q A ls hx hb hml hts hown hK hP hD hS hA hret hl
  have hl : lv_has ls 2 [(0, .ref (ad 0)), (1, .int x)] := hl
  have hinX2 : ∀ w ∈ u_ws RX2 TX2 9, w ∈ wsX2_leastAt := (fun w h => List.mem_cons_of_mem _ (List.mem_append_left _ (List.mem_append_left _ (List.mem_append_right _ h))))
  have hinX1 : ∀ w ∈ u_ws RX1 TX1 13, w ∈ wsX2_leastAt := (fun w h => List.mem_cons_of_mem _ (List.mem_append_left _ (List.mem_append_right _ h)))
  refine lv_aload_n hx hb dX2_leastAt_0 rfl (lv_at hl 0 rfl) ?_
  refine x_wvW (As := []) (rest := []) ⟨hx, hb, hml, hown, hts⟩ (tX2_lookAtCodes l D cI cZ cC ad n t v C FF FO hn hnb mm hm hmb) (cwV 0 hts gX2_leastAt_X2_lookAtCodes rfl rfl rfl (by decide +kernel) ⟨Nat.le_of_ble_eq_true rfl, Nat.le_of_ble_eq_true rfl⟩) hK (x_recv (ci := 2) hK hP rfl (q0 := 0) rfl) hP hD hS hA rfl hl.1 rfl (Nat.le_of_ble_eq_true rfl) dX2_leastAt_1 ⟨Nat.le_of_ble_eq_true rfl, Nat.le_of_ble_eq_true rfl⟩ (fun H locs hP hD hS => ?_)
  refine lv_iload_n hx hb dX2_leastAt_4 rfl (lv_at hl 1 rfl) ?_
  refine lv_iconst (v := 0) hx hb dX2_leastAt_5 (by decide) ?_
  refine lv_aload_n hx hb dX2_leastAt_6 rfl (lv_at hl 0 rfl) ?_
  refine va_get (D := D) (ci := 2) (v := .ref (ad 3)) (C := RX2) (T := TX2) (N := 9) hx hb hts hinX2 hown hK hP 0 rfl rfl 8 (by decide) (hts (.fieldLink RX2 42 "TroubleCodes" "workshop" "LTroubleCodes$Workshop;") (mem_at 1 rfl)) (fun _ h9 => h9) rfl dX2_leastAt_7 ?_
  refine va_get (D := D) (ci := 1) (v := .int ((lkV v C n mm) 5 0)) (C := RX1) (T := TX1) (N := 13) hx hb hts hinX1 hown hK hP 3 rfl rfl 5 (by decide) (hts (.fieldLink RX2 132 "TroubleCodes$Workshop" "leastCount" "I") (mem_at 2 rfl)) (fun _ h9 => h9) rfl dX2_leastAt_10 ?_
  refine lv_iconst (v := 1) hx hb dX2_leastAt_13 (by decide) ?_
  refine lv_isub hx hb dX2_leastAt_14 ?_
  refine x_rdS (As := [.int x, .int 0, .int (((lkV v C n mm) 5 0) - 1)]) (rest := []) ⟨hx, hb, hml, hown, hts⟩ (tX2_isWithin l D cI cZ cC x 0 (((lkV v C n mm) 5 0) - 1)) (va_cwS 3 hts gX2_leastAt_X2_isWithin rfl rfl rfl (by decide +kernel) ⟨Nat.le_of_ble_eq_true rfl, Nat.le_of_ble_eq_true rfl⟩) hK trivial rfl hl.1 rfl (Nat.le_of_ble_eq_true rfl) dX2_leastAt_15 ⟨Nat.le_of_ble_eq_true rfl, Nat.le_of_ble_eq_true rfl⟩ (fun r_1 er_1 => ?_)
  have er_1 : r_1 = bI (0 ≤ x ∧ x ≤ (((lkV v C n mm) 5 0) - 1)) := er_1
  subst er_1
  refine lv_if_eq (tgt := 33) hx hb dX2_leastAt_18 (by decide) (fun c_2 => ?_) (fun c_2 => ?_)
  · have c_2 := bI_eq c_2
    refine lv_iconst (v := (-1)) hx hb dX2_leastAt_33 (by decide) ?_
    have es : fX2_leastAt n mm v C x = ((-1), (lkV v C n mm)) := by rw [fX2_leastAt]; rw [if_neg c_2]
    exact hret 34 _ _ _ _ (by rw [es]) (by rw [es]; exact hP) (by rw [es]; exact hD) hS rfl dX2_leastAt_34
  · have c_2 := bI_ne c_2
    obtain ⟨L, hLb, eL⟩ := lk_5 v C n mm hv5
    obtain ⟨j, hj, ej⟩ := ixck eL (by omega) c_2
    subst ej
    have xj : ix (nI j) = j := ix_nI (by omega)
    refine lv_aload_n hx hb dX2_leastAt_21 rfl (lv_at hl 0 rfl) ?_
    refine va_get (D := D) (ci := 2) (v := .ref (ad 3)) (C := RX2) (T := TX2) (N := 9) hx hb hts hinX2 hown hK hP 0 rfl rfl 8 (by decide) (hts (.fieldLink RX2 42 "TroubleCodes" "workshop" "LTroubleCodes$Workshop;") (mem_at 1 rfl)) (fun _ h9 => h9) rfl dX2_leastAt_22 ?_
    refine va_get (D := D) (ci := 1) (v := .ref (ad 7)) (C := RX1) (T := TX1) (N := 13) hx hb hts hinX1 hown hK hP 3 rfl rfl 4 (by decide) (hts (.fieldLink RX2 135 "TroubleCodes$Workshop" "least" "[I") (mem_at 3 rfl)) (fun _ h9 => h9) rfl dX2_leastAt_25 ?_
    refine lv_iload_n hx hb dX2_leastAt_28 rfl (lv_at hl 1 rfl) ?_
    refine x_iald (k := j) (f := (lkV v C n mm) 4) hx hb hK hP 7 rfl (by omega) (by decide) dX2_leastAt_29 ?_
    refine lv_goto (tgt := 34) hx hb dX2_leastAt_30 (by decide) ?_
    have es : fX2_leastAt n mm v C (nI j) = ((lkV v C n mm) 4 j, (lkV v C n mm)) := by rw [fX2_leastAt]; simp only [xj]; rw [if_pos c_2]
    exact hret 34 _ _ _ _ (by rw [es]) (by rw [es]; exact hP) (by rw [es]; exact hD) hS rfl dX2_leastAt_34

def fX2_plan (n mm : Nat) (v C : Nat → Nat → Int32) : Int32 × (Nat → Nat → Int32) := ((fX1_planSum (lkV v C n mm) mm (ix (lkV v C n mm 5 0))).1, ((fX1_planSum (lkV v C n mm) mm (ix (lkV v C n mm 5 0))).2))

set_option maxHeartbeats 4000000 in
set_option maxRecDepth 100000 in
theorem tX2_plan (l : Launch) (D : va_G) (cI cZ cC : ClassId) (ad : Nat → Nat) (n : Nat) (t v C FF FO : Nat → Nat → Int32) (hn : t 1 0 = nI n) (hnb : n ≤ 16) (mm : Nat) (hm : v 2 0 = nI mm) (hmb : mm ≤ 10) (hv5 : ∃ L, L ≤ 10 ∧ v 5 0 = nI L) : WrI l yX2_plan wsX2_plan (rmK 4) D cI cZ cC [.ref (ad 0)] (cW cI cC ad n t v C FF FO) (cW cI cC ad n t ((fX2_plan n mm v C).2) C FF FO) (fun ans => ans = (fX2_plan n mm v C).1) := by
  refine WrI.of (cc := cX2_plan) (maxL := 1) (ret := .int) (by decide) rfl (Nat.le_of_ble_eq_true rfl) ?_
  intro p e s m args below meth c Q A ls hx hb hml hts hown hK hP hD hS hA hret hl
  have hl : lv_has ls 1 [(0, .ref (ad 0))] := hl
  have hinX2 : ∀ w ∈ u_ws RX2 TX2 9, w ∈ wsX2_plan := (fun w h => List.mem_cons_of_mem _ (List.mem_append_left _ (List.mem_append_left _ (List.mem_append_right _ h))))
  refine lv_aload_n hx hb dX2_plan_0 rfl (lv_at hl 0 rfl) ?_
  refine x_wvW (As := []) (rest := []) ⟨hx, hb, hml, hown, hts⟩ (tX2_lookAtCodes l D cI cZ cC ad n t v C FF FO hn hnb mm hm hmb) (cwV 0 hts gX2_plan_X2_lookAtCodes rfl rfl rfl (by decide +kernel) ⟨Nat.le_of_ble_eq_true rfl, Nat.le_of_ble_eq_true rfl⟩) hK (x_recv (ci := 2) hK hP rfl (q0 := 0) rfl) hP hD hS hA rfl hl.1 rfl (Nat.le_of_ble_eq_true rfl) dX2_plan_1 ⟨Nat.le_of_ble_eq_true rfl, Nat.le_of_ble_eq_true rfl⟩ (fun H locs hP hD hS => ?_)
  refine lv_aload_n hx hb dX2_plan_4 rfl (lv_at hl 0 rfl) ?_
  refine va_get (D := D) (ci := 2) (v := .ref (ad 3)) (C := RX2) (T := TX2) (N := 9) hx hb hts hinX2 hown hK hP 0 rfl rfl 8 (by decide) (hts (.fieldLink RX2 42 "TroubleCodes" "workshop" "LTroubleCodes$Workshop;") (mem_at 1 rfl)) (fun _ h9 => h9) rfl dX2_plan_5 ?_
  obtain ⟨L, hLb, eL⟩ := lk_5 v C n mm hv5
  have hm2 : lkV v C n mm 2 0 = nI mm := by rw [lk_keep v C n mm 2 (by decide)]; exact hm
  have xL : ix (lkV v C n mm 5 0) = L := by rw [eL]; exact ix_nI (by omega)
  refine x_wiV (As := []) (rest := []) (ww := cW cI cC ad n t (lkV v C n mm) C FF FO) ⟨hx, hb, hml, hown, hts⟩ (tX1_planSum l D cI cZ cC ad (lkV v C n mm) mm hm2 hmb L eL hLb) (cwV 0 hts gX2_plan_X1_planSum rfl rfl rfl (by decide +kernel) ⟨Nat.le_of_ble_eq_true rfl, Nat.le_of_ble_eq_true rfl⟩) hK (x_recv (ci := 1) hK hP rfl (q0 := 3) rfl) hP hD hS hA [3, 4, 5, 6, 7, 8, 9] (by decide) rfl rfl rfl hl.1 rfl (Nat.le_of_ble_eq_true rfl) dX2_plan_8 ⟨Nat.le_of_ble_eq_true rfl, Nat.le_of_ble_eq_true rfl⟩ (fun r_1 H locs er_1 hP hD hS => ?_)
  have hP : va_P D vwCl (cW cI cC ad n t ((fX1_planSum (lkV v C n mm) mm L).2) C FF FO) H := hP
  have hD : va_D A (cW cI cC ad n t ((fX1_planSum (lkV v C n mm) mm L).2) C FF FO) := hD
  have er_1 : r_1 = (fX1_planSum (lkV v C n mm) mm L).1 := er_1
  subst er_1
  have es : fX2_plan n mm v C = ((fX1_planSum (lkV v C n mm) mm L).1, ((fX1_planSum (lkV v C n mm) mm L).2)) := by rw [fX2_plan]; simp only [xL]
  exact hret 11 _ _ _ _ (by rw [es]) (by rw [es]; exact hP) (by rw [es]; exact hD) hS rfl dX2_plan_11

def fX2_test (n mm : Nat) (v C : Nat → Nat → Int32) : Int32 × (Nat → Nat → Int32) := ((fX1_planTest (lkV v C n mm) mm (ix (lkV v C n mm 5 0))).1, ((fX1_planTest (lkV v C n mm) mm (ix (lkV v C n mm 5 0))).2))

set_option maxHeartbeats 4000000 in
set_option maxRecDepth 100000 in
theorem tX2_test (l : Launch) (D : va_G) (cI cZ cC : ClassId) (ad : Nat → Nat) (n : Nat) (t v C FF FO : Nat → Nat → Int32) (hn : t 1 0 = nI n) (hnb : n ≤ 16) (mm : Nat) (hm : v 2 0 = nI mm) (hmb : mm ≤ 10) (hv5 : ∃ L, L ≤ 10 ∧ v 5 0 = nI L) : WrI l yX2_test wsX2_test (rmK 4) D cI cZ cC [.ref (ad 0)] (cW cI cC ad n t v C FF FO) (cW cI cC ad n t ((fX2_test n mm v C).2) C FF FO) (fun ans => ans = (fX2_test n mm v C).1) := by
  refine WrI.of (cc := cX2_test) (maxL := 1) (ret := .int) (by decide) rfl (Nat.le_of_ble_eq_true rfl) ?_
  intro p e s m args below meth c Q A ls hx hb hml hts hown hK hP hD hS hA hret hl
  have hl : lv_has ls 1 [(0, .ref (ad 0))] := hl
  have hinX2 : ∀ w ∈ u_ws RX2 TX2 9, w ∈ wsX2_test := (fun w h => List.mem_cons_of_mem _ (List.mem_append_left _ (List.mem_append_left _ (List.mem_append_right _ h))))
  refine lv_aload_n hx hb dX2_test_0 rfl (lv_at hl 0 rfl) ?_
  refine x_wvW (As := []) (rest := []) ⟨hx, hb, hml, hown, hts⟩ (tX2_lookAtCodes l D cI cZ cC ad n t v C FF FO hn hnb mm hm hmb) (cwV 0 hts gX2_test_X2_lookAtCodes rfl rfl rfl (by decide +kernel) ⟨Nat.le_of_ble_eq_true rfl, Nat.le_of_ble_eq_true rfl⟩) hK (x_recv (ci := 2) hK hP rfl (q0 := 0) rfl) hP hD hS hA rfl hl.1 rfl (Nat.le_of_ble_eq_true rfl) dX2_test_1 ⟨Nat.le_of_ble_eq_true rfl, Nat.le_of_ble_eq_true rfl⟩ (fun H locs hP hD hS => ?_)
  refine lv_aload_n hx hb dX2_test_4 rfl (lv_at hl 0 rfl) ?_
  refine va_get (D := D) (ci := 2) (v := .ref (ad 3)) (C := RX2) (T := TX2) (N := 9) hx hb hts hinX2 hown hK hP 0 rfl rfl 8 (by decide) (hts (.fieldLink RX2 42 "TroubleCodes" "workshop" "LTroubleCodes$Workshop;") (mem_at 1 rfl)) (fun _ h9 => h9) rfl dX2_test_5 ?_
  obtain ⟨L, hLb, eL⟩ := lk_5 v C n mm hv5
  have hm2 : lkV v C n mm 2 0 = nI mm := by rw [lk_keep v C n mm 2 (by decide)]; exact hm
  have xL : ix (lkV v C n mm 5 0) = L := by rw [eL]; exact ix_nI (by omega)
  refine x_wiV (As := []) (rest := []) (ww := cW cI cC ad n t (lkV v C n mm) C FF FO) ⟨hx, hb, hml, hown, hts⟩ (tX1_planTest l D cI cZ cC ad (lkV v C n mm) mm hm2 hmb L eL hLb) (cwV 0 hts gX2_test_X1_planTest rfl rfl rfl (by decide +kernel) ⟨Nat.le_of_ble_eq_true rfl, Nat.le_of_ble_eq_true rfl⟩) hK (x_recv (ci := 1) hK hP rfl (q0 := 3) rfl) hP hD hS hA [3, 4, 5, 6, 7, 8, 9] (by decide) rfl rfl rfl hl.1 rfl (Nat.le_of_ble_eq_true rfl) dX2_test_8 ⟨Nat.le_of_ble_eq_true rfl, Nat.le_of_ble_eq_true rfl⟩ (fun r_1 H locs er_1 hP hD hS => ?_)
  have hP : va_P D vwCl (cW cI cC ad n t ((fX1_planTest (lkV v C n mm) mm L).2) C FF FO) H := hP
  have hD : va_D A (cW cI cC ad n t ((fX1_planTest (lkV v C n mm) mm L).2) C FF FO) := hD
  have er_1 : r_1 = (fX1_planTest (lkV v C n mm) mm L).1 := er_1
  subst er_1
  have es : fX2_test n mm v C = ((fX1_planTest (lkV v C n mm) mm L).1, ((fX1_planTest (lkV v C n mm) mm L).2)) := by rw [fX2_test]; simp only [xL]
  exact hret 11 _ _ _ _ (by rw [es]) (by rw [es]; exact hP) (by rw [es]; exact hD) hS rfl dX2_test_11
