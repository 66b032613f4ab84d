abbrev mF (q : Nat → Nat) (g : Nat → Nat → Int32) : List Value := [.int (g 0 0), .ref (q 1), .ref (q 2), .ref (q 3), .ref (q 4), .ref (q 5), .ref (q 6), .ref (q 7), .ref (q 8), .ref (q 9), .ref (q 10), .ref (q 11), .ref (q 12), .ref (q 13), .ref (q 14), .ref (q 15), .ref (q 16), .int (g 17 0), .int (g 18 0), .ref (q 19), .int (g 20 0), .ref (q 21), .ref (q 22), .ref (q 23), .ref (q 24), .int (g 25 0), .int (g 26 0), .ref (q 27), .ref (q 28), .int (g 29 0), .ref (q 30), .ref (q 31), .ref (q 32)]
abbrev mW (cI cZ : ClassId) (q : Nat → Nat) (o : Nat) (g : Nat → Nat → Int32) : va_W := [(o, .inr (3, mF q g)), (q 1, .inl (cI, 16, .inl (g 1))), (q 2, .inl (cI, 16, .inl (g 2))), (q 3, .inl (cI, 16, .inl (g 3))), (q 4, .inl (cI, 16, .inl (g 4))), (q 5, .inl (cI, 16, .inl (g 5))), (q 6, .inl (cI, 16, .inl (g 6))), (q 7, .inl (cZ, 16, .inl (g 7))), (q 8, .inl (cI, 16, .inl (g 8))), (q 9, .inl (cI, 16, .inl (g 9))), (q 10, .inl (cI, 16, .inl (g 10))), (q 11, .inl (cI, 16, .inl (g 11))), (q 12, .inl (cZ, 16, .inl (g 12))), (q 13, .inl (cI, 16, .inl (g 13))), (q 14, .inl (cI, 16, .inl (g 14))), (q 15, .inl (cI, 16, .inl (g 15))), (q 16, .inl (cI, 256, .inl (g 16))), (q 19, .inl (cI, 4, .inl (g 19))), (q 21, .inl (cZ, 16, .inl (g 21))), (q 22, .inl (cI, 64, .inl (g 22))), (q 23, .inl (cI, 16, .inl (g 23))), (q 24, .inl (cI, 16, .inl (g 24))), (q 27, .inl (cI, 10, .inl (g 27))), (q 28, .inl (cI, 10, .inl (g 28))), (q 30, .inl (cI, 10, .inl (g 30))), (q 31, .inl (cI, 1024, .inl (g 31))), (q 32, .inl (cI, 1024, .inl (g 32)))]
set_option maxHeartbeats 4000000 in
set_option maxRecDepth 100000 in
theorem tX3_in (l : Launch) (D : va_G) (cI cZ cC : ClassId) (v lo hi : Int32) : RdC l yX3_in wsX3_in (rmK 0) D cI cZ cC [.int v, .int lo, .int hi] (fun _ => True) (fun r => r = bI (lo ≤ v ∧ v ≤ hi)) := by
  refine RdC.of (cc := cX3_in) (maxL := 3) (ret := .boolean) (by decide) rfl (by decide) ?_
  intro p e s m args below meth c Q ls hx hb hml hts hown hK hP hret hl
  have hl : lv_has ls 3 [(0, .int v), (1, .int lo), (2, .int hi)] := hl
  refine lv_iload_n hx hb dX3_in_0 rfl (lv_at hl 0 rfl) ?_
  refine lv_iload_n hx hb dX3_in_1 rfl (lv_at hl 1 rfl) ?_
  refine lv_icmp_lt (tgt := 14) hx hb dX3_in_2 (by decide) (fun c_1 => ?_) (fun c_1 => ?_)
  · refine lv_iconst (v := 0) hx hb dX3_in_14 (by decide) ?_
    exact hret 15 _ _ ((bI_f (fun h => absurd h.1 (Int32.not_le.mpr c_1))).symm) rfl dX3_in_15
  · refine lv_iload_n hx hb dX3_in_5 rfl (lv_at hl 0 rfl) ?_
    refine lv_iload_n hx hb dX3_in_6 rfl (lv_at hl 2 rfl) ?_
    refine lv_icmp_gt (tgt := 14) hx hb dX3_in_7 (by decide) (fun c_2 => ?_) (fun c_2 => ?_)
    · refine lv_iconst (v := 0) hx hb dX3_in_14 (by decide) ?_
      exact hret 15 _ _ ((bI_f (fun h => absurd h.2 (Int32.not_le.mpr c_2))).symm) rfl dX3_in_15
    · refine lv_iconst (v := 1) hx hb dX3_in_10 (by decide) ?_
      refine lv_goto (tgt := 15) hx hb dX3_in_11 (by decide) ?_
      exact hret 15 _ _ ((bI_t ⟨Int32.not_lt.mp c_1, Int32.not_lt.mp c_2⟩).symm) rfl dX3_in_15

set_option maxHeartbeats 4000000 in
set_option maxRecDepth 100000 in
theorem tX3_isCheck (l : Launch) (D : va_G) (cI cZ cC : ClassId) (q : Nat → Nat) (o : Nat) (g : Nat → Nat → Int32) (x : Int32) : RdC l yX3_isCheck wsX3_isCheck (rmK 1) D cI cZ cC [.ref o, .int x] (fun H => va_P D vwCl (mW cI cZ q o g) H) (fun r => r = bI (0 ≤ x ∧ x ≤ (g 0 0 - 1))) := by
  refine RdC.of (cc := cX3_isCheck) (maxL := 2) (ret := .boolean) (by decide) rfl (by decide) ?_
  intro p e s m args below meth c Q ls hx hb hml hts hown hK hP hret hl
  have hl : lv_has ls 2 [(0, .ref o), (1, .int x)] := hl
  have hP : va_P D vwCl (mW cI cZ q o g) s.heap := hP
  have hinX3 : ∀ w ∈ u_ws RX3 TX3 33, w ∈ wsX3_isCheck := (fun w h => List.mem_cons_of_mem _ (List.mem_append_right _ h))
  refine lv_iload_n hx hb dX3_isCheck_0 rfl (lv_at hl 1 rfl) ?_
  refine lv_iconst (v := 0) hx hb dX3_isCheck_1 (by decide) ?_
  refine lv_aload_n hx hb dX3_isCheck_2 rfl (lv_at hl 0 rfl) ?_
  refine va_get (D := D) (ci := 3) (v := .int (g 0 0)) (C := RX3) (T := TX3) (N := 33) hx hb hts hinX3 hown hK hP 0 rfl rfl 0 (by decide) (hts (.fieldLink RX3 93 "TroubleCodesModel" "checks" "I") (mem_at 1 rfl)) (fun _ h9 => h9) rfl dX3_isCheck_3 ?_
  refine lv_iconst (v := 1) hx hb dX3_isCheck_6 (by decide) ?_
  refine lv_isub hx hb dX3_isCheck_7 ?_
  refine x_rdS (As := [.int x, .int 0, .int ((g 0 0) - 1)]) (rest := []) ⟨hx, hb, hml, hown, hts⟩ (tX3_in l D cI cZ cC x 0 ((g 0 0) - 1)) (va_cwS 3 hts gX3_isCheck_X3_in rfl rfl rfl (by decide +kernel) ⟨Nat.le_of_ble_eq_true rfl, Nat.le_of_ble_eq_true rfl⟩) hK trivial rfl hl.1 rfl (by decide) dX3_isCheck_8 ⟨Nat.le_of_ble_eq_true rfl, Nat.le_of_ble_eq_true rfl⟩ (fun r_1 er_1 => ?_)
  have er_1 : r_1 = bI (0 ≤ x ∧ x ≤ ((g 0 0) - 1)) := er_1
  subst er_1
  exact hret 11 _ _ (rfl) (bI_nar _) dX3_isCheck_11

def fX3_wasGood (g : Nat → Nat → Int32) (k : Nat) : Nat → Nat → Int32 := if (g 8 k) = 1 then (va_up (va_up (va_up g 8 (upd (g 8) k 0)) 9 (upd (g 9) k 0)) 10 (upd (g 10) k ((g 10 k) + 1))) else (if (g 8 k) = 2 then (if ((upd (g 10) k ((g 10 k) + 1)) k) < (g 4 k) then (va_up (va_up g 9 (upd (g 9) k 0)) 10 (upd (g 10) k ((g 10 k) + 1))) else (va_up (va_up (va_up (va_up g 8 (upd (g 8) k 3)) 9 (upd (g 9) k 0)) 10 (upd (g 10) k ((g 10 k) + 1))) 11 (upd (g 11) k 0))) else (va_up (va_up g 9 (upd (g 9) k 0)) 10 (upd (g 10) k ((g 10 k) + 1))))
set_option maxHeartbeats 4000000 in
set_option maxRecDepth 100000 in
theorem tX3_wasGood (l : Launch) (D : va_G) (cI cZ cC : ClassId) (q : Nat → Nat) (o : Nat) (g : Nat → Nat → Int32) (k : Nat) (hk : k < 16) : WrV l yX3_wasGood wsX3_wasGood (rmK 0) D cI cZ cC [.ref o, .int (nI k)] (mW cI cZ q o g) (mW cI cZ q o (fX3_wasGood g k)) := by
  refine WrV.of (cc := cX3_wasGood) (maxL := 2) (by decide) rfl (by decide) ?_
  intro p e s m args below meth c Q A ls hx hb hml hts hown hK hP hD hS hA hret hl
  have hl : lv_has ls 2 [(0, .ref o), (1, .int (nI k))] := hl
  have hinX3 : ∀ w ∈ u_ws RX3 TX3 33, w ∈ wsX3_wasGood := (fun w h => List.mem_cons_of_mem _ (List.mem_append_right _ h))
  refine lv_aload_n hx hb dX3_wasGood_0 rfl (lv_at hl 0 rfl) ?_
  refine va_get (D := D) (ci := 3) (v := .ref (q 9)) (C := RX3) (T := TX3) (N := 33) hx hb hts hinX3 hown hK hP 0 rfl rfl 9 (by decide) (hts (.fieldLink RX3 35 "TroubleCodesModel" "bads" "[I") (mem_at 1 rfl)) (fun _ h9 => h9) rfl dX3_wasGood_1 ?_
  refine lv_iload_n hx hb dX3_wasGood_4 rfl (lv_at hl 1 rfl) ?_
  refine lv_iconst (v := 0) hx hb dX3_wasGood_5 (by decide) ?_
  refine x_iast (k := k) (x := 0) hx hb hK hP hD hS 9 rfl (by omega) (by decide) dX3_wasGood_6 (fun H locs hP hD hS => ?_)
  have hP : va_P D vwCl (mW cI cZ q o (va_up g 9 (upd (g 9) k 0))) H := hP
  have hD : va_D A (mW cI cZ q o (va_up g 9 (upd (g 9) k 0))) := hD
  refine lv_aload_n hx hb dX3_wasGood_7 rfl (lv_at hl 0 rfl) ?_
  refine va_get (D := D) (ci := 3) (v := .ref (q 10)) (C := RX3) (T := TX3) (N := 33) hx hb hts hinX3 hown hK hP 0 rfl rfl 10 (by decide) (hts (.fieldLink RX3 38 "TroubleCodesModel" "goods" "[I") (mem_at 2 rfl)) (fun _ h9 => h9) rfl dX3_wasGood_8 ?_
  refine lv_iload_n hx hb dX3_wasGood_11 rfl (lv_at hl 1 rfl) ?_
  refine lv_dup2_11 hx hb dX3_wasGood_12 rfl rfl ?_
  refine x_iald (k := k) hx hb hK hP 10 rfl (by omega) (by decide) dX3_wasGood_13 ?_
  refine lv_iconst (v := 1) hx hb dX3_wasGood_14 (by decide) ?_
  refine lv_iadd hx hb dX3_wasGood_15 ?_
  refine x_iast (k := k) (x := (g 10 k) + 1) hx hb hK hP hD hS 10 rfl (by omega) (by decide) dX3_wasGood_16 (fun H locs hP hD hS => ?_)
  have hP : va_P D vwCl (mW cI cZ q o (va_up (va_up g 9 (upd (g 9) k 0)) 10 (upd (g 10) k ((g 10 k) + 1)))) H := hP
  have hD : va_D A (mW cI cZ q o (va_up (va_up g 9 (upd (g 9) k 0)) 10 (upd (g 10) k ((g 10 k) + 1)))) := hD
  refine lv_aload_n hx hb dX3_wasGood_17 rfl (lv_at hl 0 rfl) ?_
  refine va_get (D := D) (ci := 3) (v := .ref (q 8)) (C := RX3) (T := TX3) (N := 33) hx hb hts hinX3 hown hK hP 0 rfl rfl 8 (by decide) (hts (.fieldLink RX3 32 "TroubleCodesModel" "code" "[I") (mem_at 3 rfl)) (fun _ h9 => h9) rfl dX3_wasGood_18 ?_
  refine lv_iload_n hx hb dX3_wasGood_21 rfl (lv_at hl 1 rfl) ?_
  refine x_iald (k := k) hx hb hK hP 8 rfl (by omega) (by decide) dX3_wasGood_22 ?_
  refine lv_iconst (v := 1) hx hb dX3_wasGood_23 (by decide) ?_
  refine lv_icmp_ne (tgt := 37) hx hb dX3_wasGood_24 (by decide) (fun c_1 => ?_) (fun c_1 => ?_)
  · refine lv_aload_n hx hb dX3_wasGood_37 rfl (lv_at hl 0 rfl) ?_
    refine va_get (D := D) (ci := 3) (v := .ref (q 8)) (C := RX3) (T := TX3) (N := 33) hx hb hts hinX3 hown hK hP 0 rfl rfl 8 (by decide) (hts (.fieldLink RX3 32 "TroubleCodesModel" "code" "[I") (mem_at 3 rfl)) (fun _ h9 => h9) rfl dX3_wasGood_38 ?_
    refine lv_iload_n hx hb dX3_wasGood_41 rfl (lv_at hl 1 rfl) ?_
    refine x_iald (k := k) hx hb hK hP 8 rfl (by omega) (by decide) dX3_wasGood_42 ?_
    refine lv_iconst (v := 2) hx hb dX3_wasGood_43 (by decide) ?_
    refine lv_icmp_ne (tgt := 76) hx hb dX3_wasGood_44 (by decide) (fun c_2 => ?_) (fun c_2 => ?_)
    · have es : fX3_wasGood g k = va_up (va_up g 9 (upd (g 9) k 0)) 10 (upd (g 10) k ((g 10 k) + 1)) := by rw [fX3_wasGood]; rw [if_neg c_1, if_neg c_2]
      exact hret 76 _ _ _ (by rw [es]; exact hP) (by rw [es]; exact hD) hS dX3_wasGood_76
    · refine lv_aload_n hx hb dX3_wasGood_47 rfl (lv_at hl 0 rfl) ?_
      refine va_get (D := D) (ci := 3) (v := .ref (q 10)) (C := RX3) (T := TX3) (N := 33) hx hb hts hinX3 hown hK hP 0 rfl rfl 10 (by decide) (hts (.fieldLink RX3 38 "TroubleCodesModel" "goods" "[I") (mem_at 2 rfl)) (fun _ h9 => h9) rfl dX3_wasGood_48 ?_
      refine lv_iload_n hx hb dX3_wasGood_51 rfl (lv_at hl 1 rfl) ?_
      refine x_iald (k := k) hx hb hK hP 10 rfl (by omega) (by decide) dX3_wasGood_52 ?_
      refine lv_aload_n hx hb dX3_wasGood_53 rfl (lv_at hl 0 rfl) ?_
      refine va_get (D := D) (ci := 3) (v := .ref (q 4)) (C := RX3) (T := TX3) (N := 33) hx hb hts hinX3 hown hK hP 0 rfl rfl 4 (by decide) (hts (.fieldLink RX3 19 "TroubleCodesModel" "goodAt" "[I") (mem_at 4 rfl)) (fun _ h9 => h9) rfl dX3_wasGood_54 ?_
      refine lv_iload_n hx hb dX3_wasGood_57 rfl (lv_at hl 1 rfl) ?_
      refine x_iald (k := k) hx hb hK hP 4 rfl (by omega) (by decide) dX3_wasGood_58 ?_
      refine lv_icmp_lt (tgt := 76) hx hb dX3_wasGood_59 (by decide) (fun c_3 => ?_) (fun c_3 => ?_)
      · have es : fX3_wasGood g k = va_up (va_up g 9 (upd (g 9) k 0)) 10 (upd (g 10) k ((g 10 k) + 1)) := by rw [fX3_wasGood]; rw [if_neg c_1, if_pos c_2, if_pos c_3]
        exact hret 76 _ _ _ (by rw [es]; exact hP) (by rw [es]; exact hD) hS dX3_wasGood_76
      · refine lv_aload_n hx hb dX3_wasGood_62 rfl (lv_at hl 0 rfl) ?_
        refine va_get (D := D) (ci := 3) (v := .ref (q 8)) (C := RX3) (T := TX3) (N := 33) hx hb hts hinX3 hown hK hP 0 rfl rfl 8 (by decide) (hts (.fieldLink RX3 32 "TroubleCodesModel" "code" "[I") (mem_at 3 rfl)) (fun _ h9 => h9) rfl dX3_wasGood_63 ?_
        refine lv_iload_n hx hb dX3_wasGood_66 rfl (lv_at hl 1 rfl) ?_
        refine lv_iconst (v := 3) hx hb dX3_wasGood_67 (by decide) ?_
        refine x_iast (k := k) (x := 3) hx hb hK hP hD hS 8 rfl (by omega) (by decide) dX3_wasGood_68 (fun H locs hP hD hS => ?_)
        have hP : va_P D vwCl (mW cI cZ q o (va_up (va_up (va_up g 8 (upd (g 8) k 3)) 9 (upd (g 9) k 0)) 10 (upd (g 10) k ((g 10 k) + 1)))) H := hP
        have hD : va_D A (mW cI cZ q o (va_up (va_up (va_up g 8 (upd (g 8) k 3)) 9 (upd (g 9) k 0)) 10 (upd (g 10) k ((g 10 k) + 1)))) := hD
        refine lv_aload_n hx hb dX3_wasGood_69 rfl (lv_at hl 0 rfl) ?_
        refine va_get (D := D) (ci := 3) (v := .ref (q 11)) (C := RX3) (T := TX3) (N := 33) hx hb hts hinX3 hown hK hP 0 rfl rfl 11 (by decide) (hts (.fieldLink RX3 41 "TroubleCodesModel" "age" "[I") (mem_at 5 rfl)) (fun _ h9 => h9) rfl dX3_wasGood_70 ?_
        refine lv_iload_n hx hb dX3_wasGood_73 rfl (lv_at hl 1 rfl) ?_
        refine lv_iconst (v := 0) hx hb dX3_wasGood_74 (by decide) ?_
        refine x_iast (k := k) (x := 0) hx hb hK hP hD hS 11 rfl (by omega) (by decide) dX3_wasGood_75 (fun H locs hP hD hS => ?_)
        have hP : va_P D vwCl (mW cI cZ q o (va_up (va_up (va_up (va_up g 8 (upd (g 8) k 3)) 9 (upd (g 9) k 0)) 10 (upd (g 10) k ((g 10 k) + 1))) 11 (upd (g 11) k 0))) H := hP
        have hD : va_D A (mW cI cZ q o (va_up (va_up (va_up (va_up g 8 (upd (g 8) k 3)) 9 (upd (g 9) k 0)) 10 (upd (g 10) k ((g 10 k) + 1))) 11 (upd (g 11) k 0))) := hD
        have es : fX3_wasGood g k = va_up (va_up (va_up (va_up g 8 (upd (g 8) k 3)) 9 (upd (g 9) k 0)) 10 (upd (g 10) k ((g 10 k) + 1))) 11 (upd (g 11) k 0) := by rw [fX3_wasGood]; rw [if_neg c_1, if_pos c_2, if_neg c_3]
        exact hret 76 _ _ _ (by rw [es]; exact hP) (by rw [es]; exact hD) hS dX3_wasGood_76
  · refine lv_aload_n hx hb dX3_wasGood_27 rfl (lv_at hl 0 rfl) ?_
    refine va_get (D := D) (ci := 3) (v := .ref (q 8)) (C := RX3) (T := TX3) (N := 33) hx hb hts hinX3 hown hK hP 0 rfl rfl 8 (by decide) (hts (.fieldLink RX3 32 "TroubleCodesModel" "code" "[I") (mem_at 3 rfl)) (fun _ h9 => h9) rfl dX3_wasGood_28 ?_
    refine lv_iload_n hx hb dX3_wasGood_31 rfl (lv_at hl 1 rfl) ?_
    refine lv_iconst (v := 0) hx hb dX3_wasGood_32 (by decide) ?_
    refine x_iast (k := k) (x := 0) hx hb hK hP hD hS 8 rfl (by omega) (by decide) dX3_wasGood_33 (fun H locs hP hD hS => ?_)
    have hP : va_P D vwCl (mW cI cZ q o (va_up (va_up (va_up g 8 (upd (g 8) k 0)) 9 (upd (g 9) k 0)) 10 (upd (g 10) k ((g 10 k) + 1)))) H := hP
    have hD : va_D A (mW cI cZ q o (va_up (va_up (va_up g 8 (upd (g 8) k 0)) 9 (upd (g 9) k 0)) 10 (upd (g 10) k ((g 10 k) + 1)))) := hD
    refine lv_goto (tgt := 76) hx hb dX3_wasGood_34 (by decide) ?_
    have es : fX3_wasGood g k = va_up (va_up (va_up g 8 (upd (g 8) k 0)) 9 (upd (g 9) k 0)) 10 (upd (g 10) k ((g 10 k) + 1)) := by rw [fX3_wasGood]; rw [if_pos c_1]
    exact hret 76 _ _ _ (by rw [es]; exact hP) (by rw [es]; exact hD) hS dX3_wasGood_76

def fX3_ages (g : Nat → Nat → Int32) (k : Nat) : Nat → Nat → Int32 := if ((upd (g 11) k ((g 11 k) + 1)) k) < (if (g 1 k) = 1 then (2 * (g 5 k)) else (g 5 k)) then (va_up g 11 (upd (g 11) k ((g 11 k) + 1))) else (va_up (va_up (va_up g 8 (upd (g 8) k 0)) 11 (upd (g 11) k ((g 11 k) + 1))) 21 (upd (g 21) k 0))
set_option maxHeartbeats 4000000 in
set_option maxRecDepth 100000 in
theorem tX3_ages (l : Launch) (D : va_G) (cI cZ cC : ClassId) (q : Nat → Nat) (o : Nat) (g : Nat → Nat → Int32) (k : Nat) (hk : k < 16) : WrV l yX3_ages wsX3_ages (rmK 0) D cI cZ cC [.ref o, .int (nI k)] (mW cI cZ q o g) (mW cI cZ q o (fX3_ages g k)) := by
  refine WrV.of (cc := cX3_ages) (maxL := 2) (by decide) rfl (by decide) ?_
  intro p e s m args below meth c Q A ls hx hb hml hts hown hK hP hD hS hA hret hl
  have hl : lv_has ls 2 [(0, .ref o), (1, .int (nI k))] := hl
  have hinX3 : ∀ w ∈ u_ws RX3 TX3 33, w ∈ wsX3_ages := (fun w h => List.mem_cons_of_mem _ (List.mem_append_right _ h))
  refine lv_aload_n hx hb dX3_ages_0 rfl (lv_at hl 0 rfl) ?_
  refine va_get (D := D) (ci := 3) (v := .ref (q 11)) (C := RX3) (T := TX3) (N := 33) hx hb hts hinX3 hown hK hP 0 rfl rfl 11 (by decide) (hts (.fieldLink RX3 41 "TroubleCodesModel" "age" "[I") (mem_at 1 rfl)) (fun _ h9 => h9) rfl dX3_ages_1 ?_
  refine lv_iload_n hx hb dX3_ages_4 rfl (lv_at hl 1 rfl) ?_
  refine lv_dup2_11 hx hb dX3_ages_5 rfl rfl ?_
  refine x_iald (k := k) hx hb hK hP 11 rfl (by omega) (by decide) dX3_ages_6 ?_
  refine lv_iconst (v := 1) hx hb dX3_ages_7 (by decide) ?_
  refine lv_iadd hx hb dX3_ages_8 ?_
  refine x_iast (k := k) (x := (g 11 k) + 1) hx hb hK hP hD hS 11 rfl (by omega) (by decide) dX3_ages_9 (fun H locs hP hD hS => ?_)
  have hP : va_P D vwCl (mW cI cZ q o (va_up g 11 (upd (g 11) k ((g 11 k) + 1)))) H := hP
  have hD : va_D A (mW cI cZ q o (va_up g 11 (upd (g 11) k ((g 11 k) + 1)))) := hD
  refine lv_aload_n hx hb dX3_ages_10 rfl (lv_at hl 0 rfl) ?_
  refine va_get (D := D) (ci := 3) (v := .ref (q 11)) (C := RX3) (T := TX3) (N := 33) hx hb hts hinX3 hown hK hP 0 rfl rfl 11 (by decide) (hts (.fieldLink RX3 41 "TroubleCodesModel" "age" "[I") (mem_at 1 rfl)) (fun _ h9 => h9) rfl dX3_ages_11 ?_
  refine lv_iload_n hx hb dX3_ages_14 rfl (lv_at hl 1 rfl) ?_
  refine x_iald (k := k) hx hb hK hP 11 rfl (by omega) (by decide) dX3_ages_15 ?_
  refine lv_aload_n hx hb dX3_ages_16 rfl (lv_at hl 0 rfl) ?_
  refine va_get (D := D) (ci := 3) (v := .ref (q 1)) (C := RX3) (T := TX3) (N := 33) hx hb hts hinX3 hown hK hP 0 rfl rfl 1 (by decide) (hts (.fieldLink RX3 7 "TroubleCodesModel" "sort" "[I") (mem_at 2 rfl)) (fun _ h9 => h9) rfl dX3_ages_17 ?_
  refine lv_iload_n hx hb dX3_ages_20 rfl (lv_at hl 1 rfl) ?_
  refine x_iald (k := k) hx hb hK hP 1 rfl (by omega) (by decide) dX3_ages_21 ?_
  refine lv_iconst (v := 1) hx hb dX3_ages_22 (by decide) ?_
  have J43_0 : W p l e (rmK 0) s m args below meth c H locs 0 0 Q (F0 m 43 ls [.int (if (g 1 k) = 1 then (2 * (g 5 k)) else (g 5 k)), .int ((upd (g 11) k ((g 11 k) + 1)) k)]) := by
    refine lv_icmp_lt (tgt := 60) hx hb dX3_ages_43 (by decide) (fun c_2 => ?_) (fun c_2 => ?_)
    · have es : fX3_ages g k = va_up g 11 (upd (g 11) k ((g 11 k) + 1)) := by rw [fX3_ages]; rw [if_pos c_2]
      exact hret 60 _ _ _ (by rw [es]; exact hP) (by rw [es]; exact hD) hS dX3_ages_60
    · refine lv_aload_n hx hb dX3_ages_46 rfl (lv_at hl 0 rfl) ?_
      refine va_get (D := D) (ci := 3) (v := .ref (q 8)) (C := RX3) (T := TX3) (N := 33) hx hb hts hinX3 hown hK hP 0 rfl rfl 8 (by decide) (hts (.fieldLink RX3 32 "TroubleCodesModel" "code" "[I") (mem_at 4 rfl)) (fun _ h9 => h9) rfl dX3_ages_47 ?_
      refine lv_iload_n hx hb dX3_ages_50 rfl (lv_at hl 1 rfl) ?_
      refine lv_iconst (v := 0) hx hb dX3_ages_51 (by decide) ?_
      refine x_iast (k := k) (x := 0) hx hb hK hP hD hS 8 rfl (by omega) (by decide) dX3_ages_52 (fun H locs hP hD hS => ?_)
      have hP : va_P D vwCl (mW cI cZ q o (va_up (va_up g 8 (upd (g 8) k 0)) 11 (upd (g 11) k ((g 11 k) + 1)))) H := hP
      have hD : va_D A (mW cI cZ q o (va_up (va_up g 8 (upd (g 8) k 0)) 11 (upd (g 11) k ((g 11 k) + 1)))) := hD
      refine lv_aload_n hx hb dX3_ages_53 rfl (lv_at hl 0 rfl) ?_
      refine va_get (D := D) (ci := 3) (v := .ref (q 21)) (C := RX3) (T := TX3) (N := 33) hx hb hts hinX3 hown hK hP 0 rfl rfl 21 (by decide) (hts (.fieldLink RX3 66 "TroubleCodesModel" "isFrozen" "[Z") (mem_at 5 rfl)) (fun _ h9 => h9) rfl dX3_ages_54 ?_
      refine lv_iload_n hx hb dX3_ages_57 rfl (lv_at hl 1 rfl) ?_
      refine lv_iconst (v := 0) hx hb dX3_ages_58 (by decide) ?_
      refine x_zast (k := k) (x := 0) hx hb hK hP hD hS 18 rfl (by decide) (by omega) (by decide) dX3_ages_59 (fun H locs hP hD hS => ?_)
      have hP : va_P D vwCl (mW cI cZ q o (va_up (va_up (va_up g 8 (upd (g 8) k 0)) 11 (upd (g 11) k ((g 11 k) + 1))) 21 (upd (g 21) k 0))) H := hP
      have hD : va_D A (mW cI cZ q o (va_up (va_up (va_up g 8 (upd (g 8) k 0)) 11 (upd (g 11) k ((g 11 k) + 1))) 21 (upd (g 21) k 0))) := hD
      have es : fX3_ages g k = va_up (va_up (va_up g 8 (upd (g 8) k 0)) 11 (upd (g 11) k ((g 11 k) + 1))) 21 (upd (g 21) k 0) := by rw [fX3_ages]; rw [if_neg c_2]
      exact hret 60 _ _ _ (by rw [es]; exact hP) (by rw [es]; exact hD) hS dX3_ages_60
  refine lv_icmp_ne (tgt := 37) hx hb dX3_ages_23 (by decide) (fun c_3 => ?_) (fun c_3 => ?_)
  · refine lv_aload_n hx hb dX3_ages_37 rfl (lv_at hl 0 rfl) ?_
    refine va_get (D := D) (ci := 3) (v := .ref (q 5)) (C := RX3) (T := TX3) (N := 33) hx hb hts hinX3 hown hK hP 0 rfl rfl 5 (by decide) (hts (.fieldLink RX3 22 "TroubleCodesModel" "ageAt" "[I") (mem_at 3 rfl)) (fun _ h9 => h9) rfl dX3_ages_38 ?_
    refine lv_iload_n hx hb dX3_ages_41 rfl (lv_at hl 1 rfl) ?_
    refine x_iald (k := k) hx hb hK hP 5 rfl (by omega) (by decide) dX3_ages_42 ?_
    rw [if_neg c_3] at J43_0
    exact J43_0
  · refine lv_iconst (v := 2) hx hb dX3_ages_26 (by decide) ?_
    refine lv_aload_n hx hb dX3_ages_27 rfl (lv_at hl 0 rfl) ?_
    refine va_get (D := D) (ci := 3) (v := .ref (q 5)) (C := RX3) (T := TX3) (N := 33) hx hb hts hinX3 hown hK hP 0 rfl rfl 5 (by decide) (hts (.fieldLink RX3 22 "TroubleCodesModel" "ageAt" "[I") (mem_at 3 rfl)) (fun _ h9 => h9) rfl dX3_ages_28 ?_
    refine lv_iload_n hx hb dX3_ages_31 rfl (lv_at hl 1 rfl) ?_
    refine x_iald (k := k) hx hb hK hP 5 rfl (by omega) (by decide) dX3_ages_32 ?_
    refine lv_imul hx hb dX3_ages_33 ?_
    refine lv_goto (tgt := 43) hx hb dX3_ages_34 (by decide) ?_
    rw [if_pos c_3] at J43_0
    exact J43_0
