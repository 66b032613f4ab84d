set_option maxHeartbeats 4000000 in
set_option maxRecDepth 100000 in
theorem tX3_in (l : Launch) (D : va_G) (cI cZ cC : ClassId) (v lo hi : Int32) : RdC l yX3_in wsX3_in (rmK 0) D cI cZ cC [.int v, .int lo, .int hi] (fun _ => True) (fun ans => ans = bI (lo ≤ v ∧ v ≤ hi)) := by
  refine RdC.of (cc := cX3_in) (maxL := 3) (ret := .boolean) (by decide) rfl (Nat.le_of_ble_eq_true rfl) ?_
  intro p e s m args below meth c Q ls hx hb hml hts hown hK hP hret hl
  have hl : lv_has ls 3 [(0, .int v), (1, .int lo), (2, .int hi)] := hl
  refine lv_iload_n hx hb dX3_in_0 rfl (lv_at hl 0 rfl) ?_
  refine lv_iload_n hx hb dX3_in_1 rfl (lv_at hl 1 rfl) ?_
  refine lv_icmp_lt (tgt := 14) hx hb dX3_in_2 (by decide) (fun c_1 => ?_) (fun c_1 => ?_)
  · refine lv_iconst (v := 0) hx hb dX3_in_14 (by decide) ?_
    exact hret 15 _ _ ((bI_f (fun h => absurd h.1 (Int32.not_le.mpr c_1))).symm) rfl dX3_in_15
  · refine lv_iload_n hx hb dX3_in_5 rfl (lv_at hl 0 rfl) ?_
    refine lv_iload_n hx hb dX3_in_6 rfl (lv_at hl 2 rfl) ?_
    refine lv_icmp_gt (tgt := 14) hx hb dX3_in_7 (by decide) (fun c_2 => ?_) (fun c_2 => ?_)
    · refine lv_iconst (v := 0) hx hb dX3_in_14 (by decide) ?_
      exact hret 15 _ _ ((bI_f (fun h => absurd h.2 (Int32.not_le.mpr c_2))).symm) rfl dX3_in_15
    · refine lv_iconst (v := 1) hx hb dX3_in_10 (by decide) ?_
      refine lv_goto (tgt := 15) hx hb dX3_in_11 (by decide) ?_
      exact hret 15 _ _ ((bI_t ⟨Int32.not_lt.mp c_1, Int32.not_lt.mp c_2⟩).symm) rfl dX3_in_15

set_option maxHeartbeats 4000000 in
set_option maxRecDepth 100000 in
theorem tX3_isCheck (l : Launch) (D : va_G) (cI cZ cC : ClassId) (q : Nat → Nat) (o : Nat) (g : Nat → Nat → Int32) (x : Int32) : RdC l yX3_isCheck wsX3_isCheck (rmK 1) D cI cZ cC [.ref o, .int x] (fun H => va_P D vwCl (mW cI cZ q o g) H) (fun ans => ans = bI (0 ≤ x ∧ x ≤ (g 0 0 - 1))) := by
  refine RdC.of (cc := cX3_isCheck) (maxL := 2) (ret := .boolean) (by decide) rfl (Nat.le_of_ble_eq_true rfl) ?_
  intro p e s m args below meth c Q ls hx hb hml hts hown hK hP hret hl
  have hl : lv_has ls 2 [(0, .ref o), (1, .int x)] := hl
  have hP : va_P D vwCl (mW cI cZ q o g) s.heap := hP
  have hinX3 : ∀ w ∈ u_ws RX3 TX3 33, w ∈ wsX3_isCheck := (fun w h => List.mem_cons_of_mem _ (List.mem_append_right _ h))
  refine lv_iload_n hx hb dX3_isCheck_0 rfl (lv_at hl 1 rfl) ?_
  refine lv_iconst (v := 0) hx hb dX3_isCheck_1 (by decide) ?_
  refine lv_aload_n hx hb dX3_isCheck_2 rfl (lv_at hl 0 rfl) ?_
  refine va_get (D := D) (ci := 3) (v := .int (g 0 0)) (C := RX3) (T := TX3) (N := 33) hx hb hts hinX3 hown hK hP 0 rfl rfl 0 (by decide) (hts (.fieldLink RX3 93 "TroubleCodesModel" "checks" "I") (mem_at 1 rfl)) (fun _ h9 => h9) rfl dX3_isCheck_3 ?_
  refine lv_iconst (v := 1) hx hb dX3_isCheck_6 (by decide) ?_
  refine lv_isub hx hb dX3_isCheck_7 ?_
  refine x_rdS (As := [.int x, .int 0, .int ((g 0 0) - 1)]) (rest := []) ⟨hx, hb, hml, hown, hts⟩ (tX3_in l D cI cZ cC x 0 ((g 0 0) - 1)) (va_cwS 3 hts gX3_isCheck_X3_in rfl rfl rfl (by decide +kernel) ⟨Nat.le_of_ble_eq_true rfl, Nat.le_of_ble_eq_true rfl⟩) hK trivial rfl hl.1 rfl (Nat.le_of_ble_eq_true rfl) dX3_isCheck_8 ⟨Nat.le_of_ble_eq_true rfl, Nat.le_of_ble_eq_true rfl⟩ (fun r_1 er_1 => ?_)
  have er_1 : r_1 = bI (0 ≤ x ∧ x ≤ ((g 0 0) - 1)) := er_1
  subst er_1
  exact hret 11 _ _ (rfl) (bI_nar _) dX3_isCheck_11

def fX3_wasGood (g : Nat → Nat → Int32) (k : Nat) : Nat → Nat → Int32 := if (g 8 k) = 1 then (va_up (va_up (va_up g 8 (upd (g 8) k 0)) 9 (upd (g 9) k 0)) 10 (upd (g 10) k ((g 10 k) + 1))) else (if (g 8 k) = 2 then (if ((g 10 k) + 1) < (g 4 k) then (va_up (va_up g 9 (upd (g 9) k 0)) 10 (upd (g 10) k ((g 10 k) + 1))) else (va_up (va_up (va_up (va_up g 8 (upd (g 8) k 3)) 9 (upd (g 9) k 0)) 10 (upd (g 10) k ((g 10 k) + 1))) 11 (upd (g 11) k 0))) else (va_up (va_up g 9 (upd (g 9) k 0)) 10 (upd (g 10) k ((g 10 k) + 1))))
set_option maxHeartbeats 4000000 in
set_option maxRecDepth 100000 in
theorem tX3_wasGood (l : Launch) (D : va_G) (cI cZ cC : ClassId) (q : Nat → Nat) (o : Nat) (g : Nat → Nat → Int32) (k : Nat) (hk : k < 16) : WrV l yX3_wasGood wsX3_wasGood (rmK 0) D cI cZ cC [.ref o, .int (nI k)] (mW cI cZ q o g) (mW cI cZ q o (fX3_wasGood g k)) := by
  refine WrV.of (cc := cX3_wasGood) (maxL := 2) (by decide) rfl (Nat.le_of_ble_eq_true rfl) ?_
  intro p e s m args below meth c Q A ls hx hb hml hts hown hK hP hD hS hA hret hl
  have hl : lv_has ls 2 [(0, .ref o), (1, .int (nI k))] := hl
  have hinX3 : ∀ w ∈ u_ws RX3 TX3 33, w ∈ wsX3_wasGood := (fun w h => List.mem_cons_of_mem _ (List.mem_append_right _ h))
  refine lv_aload_n hx hb dX3_wasGood_0 rfl (lv_at hl 0 rfl) ?_
  refine va_get (D := D) (ci := 3) (v := .ref (q 9)) (C := RX3) (T := TX3) (N := 33) hx hb hts hinX3 hown hK hP 0 rfl rfl 9 (by decide) (hts (.fieldLink RX3 35 "TroubleCodesModel" "bads" "[I") (mem_at 1 rfl)) (fun _ h9 => h9) rfl dX3_wasGood_1 ?_
  refine lv_iload_n hx hb dX3_wasGood_4 rfl (lv_at hl 1 rfl) ?_
  refine lv_iconst (v := 0) hx hb dX3_wasGood_5 (by decide) ?_
  refine x_iast (k := k) (f := g 9) (x := 0) hx hb hK hP hD hS 9 rfl (by omega) (by decide) dX3_wasGood_6 (fun H locs hP hD hS => ?_)
  have hP : va_P D vwCl (mW cI cZ q o (va_up g 9 (upd (g 9) k 0))) H := hP
  have hD : va_D A (mW cI cZ q o (va_up g 9 (upd (g 9) k 0))) := hD
  refine lv_aload_n hx hb dX3_wasGood_7 rfl (lv_at hl 0 rfl) ?_
  refine va_get (D := D) (ci := 3) (v := .ref (q 10)) (C := RX3) (T := TX3) (N := 33) hx hb hts hinX3 hown hK hP 0 rfl rfl 10 (by decide) (hts (.fieldLink RX3 38 "TroubleCodesModel" "goods" "[I") (mem_at 2 rfl)) (fun _ h9 => h9) rfl dX3_wasGood_8 ?_
  refine lv_iload_n hx hb dX3_wasGood_11 rfl (lv_at hl 1 rfl) ?_
  refine lv_dup2_11 hx hb dX3_wasGood_12 rfl rfl ?_
  refine x_iald (k := k) (f := g 10) hx hb hK hP 10 rfl (by omega) (by decide) dX3_wasGood_13 ?_
  refine lv_iconst (v := 1) hx hb dX3_wasGood_14 (by decide) ?_
  refine lv_iadd hx hb dX3_wasGood_15 ?_
  refine x_iast (k := k) (f := g 10) (x := (g 10 k) + 1) hx hb hK hP hD hS 10 rfl (by omega) (by decide) dX3_wasGood_16 (fun H locs hP hD hS => ?_)
  have hP : va_P D vwCl (mW cI cZ q o (va_up (va_up g 9 (upd (g 9) k 0)) 10 (upd (g 10) k ((g 10 k) + 1)))) H := hP
  have hD : va_D A (mW cI cZ q o (va_up (va_up g 9 (upd (g 9) k 0)) 10 (upd (g 10) k ((g 10 k) + 1)))) := hD
  refine lv_aload_n hx hb dX3_wasGood_17 rfl (lv_at hl 0 rfl) ?_
  refine va_get (D := D) (ci := 3) (v := .ref (q 8)) (C := RX3) (T := TX3) (N := 33) hx hb hts hinX3 hown hK hP 0 rfl rfl 8 (by decide) (hts (.fieldLink RX3 32 "TroubleCodesModel" "code" "[I") (mem_at 3 rfl)) (fun _ h9 => h9) rfl dX3_wasGood_18 ?_
  refine lv_iload_n hx hb dX3_wasGood_21 rfl (lv_at hl 1 rfl) ?_
  refine x_iald (k := k) (f := g 8) hx hb hK hP 8 rfl (by omega) (by decide) dX3_wasGood_22 ?_
  refine lv_iconst (v := 1) hx hb dX3_wasGood_23 (by decide) ?_
  refine lv_icmp_ne (tgt := 37) hx hb dX3_wasGood_24 (by decide) (fun c_1 => ?_) (fun c_1 => ?_)
  · refine lv_aload_n hx hb dX3_wasGood_37 rfl (lv_at hl 0 rfl) ?_
    refine va_get (D := D) (ci := 3) (v := .ref (q 8)) (C := RX3) (T := TX3) (N := 33) hx hb hts hinX3 hown hK hP 0 rfl rfl 8 (by decide) (hts (.fieldLink RX3 32 "TroubleCodesModel" "code" "[I") (mem_at 3 rfl)) (fun _ h9 => h9) rfl dX3_wasGood_38 ?_
    refine lv_iload_n hx hb dX3_wasGood_41 rfl (lv_at hl 1 rfl) ?_
    refine x_iald (k := k) (f := g 8) hx hb hK hP 8 rfl (by omega) (by decide) dX3_wasGood_42 ?_
    refine lv_iconst (v := 2) hx hb dX3_wasGood_43 (by decide) ?_
    refine lv_icmp_ne (tgt := 76) hx hb dX3_wasGood_44 (by decide) (fun c_2 => ?_) (fun c_2 => ?_)
    · have es : fX3_wasGood g k = va_up (va_up g 9 (upd (g 9) k 0)) 10 (upd (g 10) k ((g 10 k) + 1)) := by rw [fX3_wasGood]; rw [if_neg c_1, if_neg c_2]
      exact hret 76 _ _ _ (by rw [es]; exact hP) (by rw [es]; exact hD) hS dX3_wasGood_76
    · refine lv_aload_n hx hb dX3_wasGood_47 rfl (lv_at hl 0 rfl) ?_
      refine va_get (D := D) (ci := 3) (v := .ref (q 10)) (C := RX3) (T := TX3) (N := 33) hx hb hts hinX3 hown hK hP 0 rfl rfl 10 (by decide) (hts (.fieldLink RX3 38 "TroubleCodesModel" "goods" "[I") (mem_at 2 rfl)) (fun _ h9 => h9) rfl dX3_wasGood_48 ?_
      refine lv_iload_n hx hb dX3_wasGood_51 rfl (lv_at hl 1 rfl) ?_
      refine x_iald (k := k) (f := upd (g 10) k ((g 10 k) + 1)) hx hb hK hP 10 rfl (by omega) (by decide) dX3_wasGood_52 ?_
      rw [pk_us]
      refine lv_aload_n hx hb dX3_wasGood_53 rfl (lv_at hl 0 rfl) ?_
      refine va_get (D := D) (ci := 3) (v := .ref (q 4)) (C := RX3) (T := TX3) (N := 33) hx hb hts hinX3 hown hK hP 0 rfl rfl 4 (by decide) (hts (.fieldLink RX3 19 "TroubleCodesModel" "goodAt" "[I") (mem_at 4 rfl)) (fun _ h9 => h9) rfl dX3_wasGood_54 ?_
      refine lv_iload_n hx hb dX3_wasGood_57 rfl (lv_at hl 1 rfl) ?_
      refine x_iald (k := k) (f := g 4) hx hb hK hP 4 rfl (by omega) (by decide) dX3_wasGood_58 ?_
      refine lv_icmp_lt (tgt := 76) hx hb dX3_wasGood_59 (by decide) (fun c_3 => ?_) (fun c_3 => ?_)
      · have es : fX3_wasGood g k = va_up (va_up g 9 (upd (g 9) k 0)) 10 (upd (g 10) k ((g 10 k) + 1)) := by rw [fX3_wasGood]; rw [if_neg c_1, if_pos c_2, if_pos c_3]
        exact hret 76 _ _ _ (by rw [es]; exact hP) (by rw [es]; exact hD) hS dX3_wasGood_76
      · refine lv_aload_n hx hb dX3_wasGood_62 rfl (lv_at hl 0 rfl) ?_
        refine va_get (D := D) (ci := 3) (v := .ref (q 8)) (C := RX3) (T := TX3) (N := 33) hx hb hts hinX3 hown hK hP 0 rfl rfl 8 (by decide) (hts (.fieldLink RX3 32 "TroubleCodesModel" "code" "[I") (mem_at 3 rfl)) (fun _ h9 => h9) rfl dX3_wasGood_63 ?_
        refine lv_iload_n hx hb dX3_wasGood_66 rfl (lv_at hl 1 rfl) ?_
        refine lv_iconst (v := 3) hx hb dX3_wasGood_67 (by decide) ?_
        refine x_iast (k := k) (f := g 8) (x := 3) hx hb hK hP hD hS 8 rfl (by omega) (by decide) dX3_wasGood_68 (fun H locs hP hD hS => ?_)
        have hP : va_P D vwCl (mW cI cZ q o (va_up (va_up (va_up g 8 (upd (g 8) k 3)) 9 (upd (g 9) k 0)) 10 (upd (g 10) k ((g 10 k) + 1)))) H := hP
        have hD : va_D A (mW cI cZ q o (va_up (va_up (va_up g 8 (upd (g 8) k 3)) 9 (upd (g 9) k 0)) 10 (upd (g 10) k ((g 10 k) + 1)))) := hD
        refine lv_aload_n hx hb dX3_wasGood_69 rfl (lv_at hl 0 rfl) ?_
        refine va_get (D := D) (ci := 3) (v := .ref (q 11)) (C := RX3) (T := TX3) (N := 33) hx hb hts hinX3 hown hK hP 0 rfl rfl 11 (by decide) (hts (.fieldLink RX3 41 "TroubleCodesModel" "age" "[I") (mem_at 5 rfl)) (fun _ h9 => h9) rfl dX3_wasGood_70 ?_
        refine lv_iload_n hx hb dX3_wasGood_73 rfl (lv_at hl 1 rfl) ?_
        refine lv_iconst (v := 0) hx hb dX3_wasGood_74 (by decide) ?_
        refine x_iast (k := k) (f := g 11) (x := 0) hx hb hK hP hD hS 11 rfl (by omega) (by decide) dX3_wasGood_75 (fun H locs hP hD hS => ?_)
        have hP : va_P D vwCl (mW cI cZ q o (va_up (va_up (va_up (va_up g 8 (upd (g 8) k 3)) 9 (upd (g 9) k 0)) 10 (upd (g 10) k ((g 10 k) + 1))) 11 (upd (g 11) k 0))) H := hP
        have hD : va_D A (mW cI cZ q o (va_up (va_up (va_up (va_up g 8 (upd (g 8) k 3)) 9 (upd (g 9) k 0)) 10 (upd (g 10) k ((g 10 k) + 1))) 11 (upd (g 11) k 0))) := hD
        have es : fX3_wasGood g k = va_up (va_up (va_up (va_up g 8 (upd (g 8) k 3)) 9 (upd (g 9) k 0)) 10 (upd (g 10) k ((g 10 k) + 1))) 11 (upd (g 11) k 0) := by rw [fX3_wasGood]; rw [if_neg c_1, if_pos c_2, if_neg c_3]
        exact hret 76 _ _ _ (by rw [es]; exact hP) (by rw [es]; exact hD) hS dX3_wasGood_76
  · refine lv_aload_n hx hb dX3_wasGood_27 rfl (lv_at hl 0 rfl) ?_
    refine va_get (D := D) (ci := 3) (v := .ref (q 8)) (C := RX3) (T := TX3) (N := 33) hx hb hts hinX3 hown hK hP 0 rfl rfl 8 (by decide) (hts (.fieldLink RX3 32 "TroubleCodesModel" "code" "[I") (mem_at 3 rfl)) (fun _ h9 => h9) rfl dX3_wasGood_28 ?_
    refine lv_iload_n hx hb dX3_wasGood_31 rfl (lv_at hl 1 rfl) ?_
    refine lv_iconst (v := 0) hx hb dX3_wasGood_32 (by decide) ?_
    refine x_iast (k := k) (f := g 8) (x := 0) hx hb hK hP hD hS 8 rfl (by omega) (by decide) dX3_wasGood_33 (fun H locs hP hD hS => ?_)
    have hP : va_P D vwCl (mW cI cZ q o (va_up (va_up (va_up g 8 (upd (g 8) k 0)) 9 (upd (g 9) k 0)) 10 (upd (g 10) k ((g 10 k) + 1)))) H := hP
    have hD : va_D A (mW cI cZ q o (va_up (va_up (va_up g 8 (upd (g 8) k 0)) 9 (upd (g 9) k 0)) 10 (upd (g 10) k ((g 10 k) + 1)))) := hD
    refine lv_goto (tgt := 76) hx hb dX3_wasGood_34 (by decide) ?_
    have es : fX3_wasGood g k = va_up (va_up (va_up g 8 (upd (g 8) k 0)) 9 (upd (g 9) k 0)) 10 (upd (g 10) k ((g 10 k) + 1)) := by rw [fX3_wasGood]; rw [if_pos c_1]
    exact hret 76 _ _ _ (by rw [es]; exact hP) (by rw [es]; exact hD) hS dX3_wasGood_76

def fX3_ages (g : Nat → Nat → Int32) (k : Nat) : Nat → Nat → Int32 := if ((g 11 k) + 1) < (if (g 1 k) = 1 then (2 * (g 5 k)) else (g 5 k)) then (va_up g 11 (upd (g 11) k ((g 11 k) + 1))) else (va_up (va_up (va_up g 8 (upd (g 8) k 0)) 11 (upd (g 11) k ((g 11 k) + 1))) 21 (upd (g 21) k 0))
set_option maxHeartbeats 4000000 in
set_option maxRecDepth 100000 in
theorem tX3_ages (l : Launch) (D : va_G) (cI cZ cC : ClassId) (q : Nat → Nat) (o : Nat) (g : Nat → Nat → Int32) (k : Nat) (hk : k < 16) : WrV l yX3_ages wsX3_ages (rmK 0) D cI cZ cC [.ref o, .int (nI k)] (mW cI cZ q o g) (mW cI cZ q o (fX3_ages g k)) := by
  refine WrV.of (cc := cX3_ages) (maxL := 2) (by decide) rfl (Nat.le_of_ble_eq_true rfl) ?_
  intro p e s m args below meth c Q A ls hx hb hml hts hown hK hP hD hS hA hret hl
  have hl : lv_has ls 2 [(0, .ref o), (1, .int (nI k))] := hl
  have hinX3 : ∀ w ∈ u_ws RX3 TX3 33, w ∈ wsX3_ages := (fun w h => List.mem_cons_of_mem _ (List.mem_append_right _ h))
  refine lv_aload_n hx hb dX3_ages_0 rfl (lv_at hl 0 rfl) ?_
  refine va_get (D := D) (ci := 3) (v := .ref (q 11)) (C := RX3) (T := TX3) (N := 33) hx hb hts hinX3 hown hK hP 0 rfl rfl 11 (by decide) (hts (.fieldLink RX3 41 "TroubleCodesModel" "age" "[I") (mem_at 1 rfl)) (fun _ h9 => h9) rfl dX3_ages_1 ?_
  refine lv_iload_n hx hb dX3_ages_4 rfl (lv_at hl 1 rfl) ?_
  refine lv_dup2_11 hx hb dX3_ages_5 rfl rfl ?_
  refine x_iald (k := k) (f := g 11) hx hb hK hP 11 rfl (by omega) (by decide) dX3_ages_6 ?_
  refine lv_iconst (v := 1) hx hb dX3_ages_7 (by decide) ?_
  refine lv_iadd hx hb dX3_ages_8 ?_
  refine x_iast (k := k) (f := g 11) (x := (g 11 k) + 1) hx hb hK hP hD hS 11 rfl (by omega) (by decide) dX3_ages_9 (fun H locs hP hD hS => ?_)
  have hP : va_P D vwCl (mW cI cZ q o (va_up g 11 (upd (g 11) k ((g 11 k) + 1)))) H := hP
  have hD : va_D A (mW cI cZ q o (va_up g 11 (upd (g 11) k ((g 11 k) + 1)))) := hD
  refine lv_aload_n hx hb dX3_ages_10 rfl (lv_at hl 0 rfl) ?_
  refine va_get (D := D) (ci := 3) (v := .ref (q 11)) (C := RX3) (T := TX3) (N := 33) hx hb hts hinX3 hown hK hP 0 rfl rfl 11 (by decide) (hts (.fieldLink RX3 41 "TroubleCodesModel" "age" "[I") (mem_at 1 rfl)) (fun _ h9 => h9) rfl dX3_ages_11 ?_
  refine lv_iload_n hx hb dX3_ages_14 rfl (lv_at hl 1 rfl) ?_
  refine x_iald (k := k) (f := upd (g 11) k ((g 11 k) + 1)) hx hb hK hP 11 rfl (by omega) (by decide) dX3_ages_15 ?_
  rw [pk_us]
  refine lv_aload_n hx hb dX3_ages_16 rfl (lv_at hl 0 rfl) ?_
  refine va_get (D := D) (ci := 3) (v := .ref (q 1)) (C := RX3) (T := TX3) (N := 33) hx hb hts hinX3 hown hK hP 0 rfl rfl 1 (by decide) (hts (.fieldLink RX3 7 "TroubleCodesModel" "sort" "[I") (mem_at 2 rfl)) (fun _ h9 => h9) rfl dX3_ages_17 ?_
  refine lv_iload_n hx hb dX3_ages_20 rfl (lv_at hl 1 rfl) ?_
  refine x_iald (k := k) (f := g 1) hx hb hK hP 1 rfl (by omega) (by decide) dX3_ages_21 ?_
  refine lv_iconst (v := 1) hx hb dX3_ages_22 (by decide) ?_
  have J43_0 : W p l e (rmK 0) s m args below meth c H locs 0 0 Q (F0 m 43 ls [.int (if (g 1 k) = 1 then (2 * (g 5 k)) else (g 5 k)), .int ((g 11 k) + 1)]) := by
    refine lv_icmp_lt (tgt := 60) hx hb dX3_ages_43 (by decide) (fun c_2 => ?_) (fun c_2 => ?_)
    · have es : fX3_ages g k = va_up g 11 (upd (g 11) k ((g 11 k) + 1)) := by rw [fX3_ages]; rw [if_pos c_2]
      exact hret 60 _ _ _ (by rw [es]; exact hP) (by rw [es]; exact hD) hS dX3_ages_60
    · refine lv_aload_n hx hb dX3_ages_46 rfl (lv_at hl 0 rfl) ?_
      refine va_get (D := D) (ci := 3) (v := .ref (q 8)) (C := RX3) (T := TX3) (N := 33) hx hb hts hinX3 hown hK hP 0 rfl rfl 8 (by decide) (hts (.fieldLink RX3 32 "TroubleCodesModel" "code" "[I") (mem_at 4 rfl)) (fun _ h9 => h9) rfl dX3_ages_47 ?_
      refine lv_iload_n hx hb dX3_ages_50 rfl (lv_at hl 1 rfl) ?_
      refine lv_iconst (v := 0) hx hb dX3_ages_51 (by decide) ?_
      refine x_iast (k := k) (f := g 8) (x := 0) hx hb hK hP hD hS 8 rfl (by omega) (by decide) dX3_ages_52 (fun H locs hP hD hS => ?_)
      have hP : va_P D vwCl (mW cI cZ q o (va_up (va_up g 8 (upd (g 8) k 0)) 11 (upd (g 11) k ((g 11 k) + 1)))) H := hP
      have hD : va_D A (mW cI cZ q o (va_up (va_up g 8 (upd (g 8) k 0)) 11 (upd (g 11) k ((g 11 k) + 1)))) := hD
      refine lv_aload_n hx hb dX3_ages_53 rfl (lv_at hl 0 rfl) ?_
      refine va_get (D := D) (ci := 3) (v := .ref (q 21)) (C := RX3) (T := TX3) (N := 33) hx hb hts hinX3 hown hK hP 0 rfl rfl 21 (by decide) (hts (.fieldLink RX3 66 "TroubleCodesModel" "isFrozen" "[Z") (mem_at 5 rfl)) (fun _ h9 => h9) rfl dX3_ages_54 ?_
      refine lv_iload_n hx hb dX3_ages_57 rfl (lv_at hl 1 rfl) ?_
      refine lv_iconst (v := 0) hx hb dX3_ages_58 (by decide) ?_
      refine x_zast (k := k) (f := g 21) (x := 0) hx hb hK hP hD hS 18 rfl (by decide) (by omega) (by decide) dX3_ages_59 (fun H locs hP hD hS => ?_)
      have hP : va_P D vwCl (mW cI cZ q o (va_up (va_up (va_up g 8 (upd (g 8) k 0)) 11 (upd (g 11) k ((g 11 k) + 1))) 21 (upd (g 21) k 0))) H := hP
      have hD : va_D A (mW cI cZ q o (va_up (va_up (va_up g 8 (upd (g 8) k 0)) 11 (upd (g 11) k ((g 11 k) + 1))) 21 (upd (g 21) k 0))) := hD
      have es : fX3_ages g k = va_up (va_up (va_up g 8 (upd (g 8) k 0)) 11 (upd (g 11) k ((g 11 k) + 1))) 21 (upd (g 21) k 0) := by rw [fX3_ages]; rw [if_neg c_2]
      exact hret 60 _ _ _ (by rw [es]; exact hP) (by rw [es]; exact hD) hS dX3_ages_60
  refine lv_icmp_ne (tgt := 37) hx hb dX3_ages_23 (by decide) (fun c_3 => ?_) (fun c_3 => ?_)
  · refine lv_aload_n hx hb dX3_ages_37 rfl (lv_at hl 0 rfl) ?_
    refine va_get (D := D) (ci := 3) (v := .ref (q 5)) (C := RX3) (T := TX3) (N := 33) hx hb hts hinX3 hown hK hP 0 rfl rfl 5 (by decide) (hts (.fieldLink RX3 22 "TroubleCodesModel" "ageAt" "[I") (mem_at 3 rfl)) (fun _ h9 => h9) rfl dX3_ages_38 ?_
    refine lv_iload_n hx hb dX3_ages_41 rfl (lv_at hl 1 rfl) ?_
    refine x_iald (k := k) (f := g 5) hx hb hK hP 5 rfl (by omega) (by decide) dX3_ages_42 ?_
    rw [if_neg c_3] at J43_0
    exact J43_0
  · refine lv_iconst (v := 2) hx hb dX3_ages_26 (by decide) ?_
    refine lv_aload_n hx hb dX3_ages_27 rfl (lv_at hl 0 rfl) ?_
    refine va_get (D := D) (ci := 3) (v := .ref (q 5)) (C := RX3) (T := TX3) (N := 33) hx hb hts hinX3 hown hK hP 0 rfl rfl 5 (by decide) (hts (.fieldLink RX3 22 "TroubleCodesModel" "ageAt" "[I") (mem_at 3 rfl)) (fun _ h9 => h9) rfl dX3_ages_28 ?_
    refine lv_iload_n hx hb dX3_ages_31 rfl (lv_at hl 1 rfl) ?_
    refine x_iald (k := k) (f := g 5) hx hb hK hP 5 rfl (by omega) (by decide) dX3_ages_32 ?_
    refine lv_imul hx hb dX3_ages_33 ?_
    refine lv_goto (tgt := 43) hx hb dX3_ages_34 (by decide) ?_
    rw [if_pos c_3] at J43_0
    exact J43_0

def heldF (so fo co : Nat → Int32) (k : Nat) : Int32 := if so k = 2 then (if co (ix (fo k)) = 1 then 1 else (if co (ix (fo k)) = 2 then 1 else 0)) else 0

set_option maxHeartbeats 4000000 in
set_option maxRecDepth 100000 in
theorem tX3_isHeld (l : Launch) (D : va_G) (cI cZ cC : ClassId) (q : Nat → Nat) (o : Nat) (g : Nat → Nat → Int32) (k : Nat) (hk : k < 16) (hfo : g 1 k = 2 → ∃ f, f < 16 ∧ g 2 k = nI f) : RdC l yX3_isHeld wsX3_isHeld (rmK 0) D cI cZ cC [.ref o, .int (nI k)] (fun H => va_P D vwCl (mW cI cZ q o g) H) (fun ans => ans = heldF (g 1) (g 2) (g 8) k) := by
  refine RdC.of (cc := cX3_isHeld) (maxL := 2) (ret := .boolean) (by decide) rfl (Nat.le_of_ble_eq_true rfl) ?_
  intro p e s m args below meth c Q ls hx hb hml hts hown hK hP hret hl
  have hl : lv_has ls 2 [(0, .ref o), (1, .int (nI k))] := hl
  have hP : va_P D vwCl (mW cI cZ q o g) s.heap := hP
  have hinX3 : ∀ w ∈ u_ws RX3 TX3 33, w ∈ wsX3_isHeld := (fun w h => List.mem_cons_of_mem _ (List.mem_append_right _ h))
  refine lv_aload_n hx hb dX3_isHeld_0 rfl (lv_at hl 0 rfl) ?_
  refine va_get (D := D) (ci := 3) (v := .ref (q 1)) (C := RX3) (T := TX3) (N := 33) hx hb hts hinX3 hown hK hP 0 rfl rfl 1 (by decide) (hts (.fieldLink RX3 7 "TroubleCodesModel" "sort" "[I") (mem_at 1 rfl)) (fun _ h9 => h9) rfl dX3_isHeld_1 ?_
  refine lv_iload_n hx hb dX3_isHeld_4 rfl (lv_at hl 1 rfl) ?_
  refine x_iald (k := k) (f := g 1) hx hb hK hP 1 rfl (by omega) (by decide) dX3_isHeld_5 ?_
  refine lv_iconst (v := 2) hx hb dX3_isHeld_6 (by decide) ?_
  refine lv_icmp_ne (tgt := 44) hx hb dX3_isHeld_7 (by decide) (fun c_1 => ?_) (fun c_1 => ?_)
  · refine lv_iconst (v := 0) hx hb dX3_isHeld_44 (by decide) ?_
    exact hret 45 _ _ (by rw [heldF]; rw [if_neg c_1]) rfl dX3_isHeld_45
  · obtain ⟨f, hf16, ef⟩ := hfo c_1
    refine lv_aload_n hx hb dX3_isHeld_10 rfl (lv_at hl 0 rfl) ?_
    refine va_get (D := D) (ci := 3) (v := .ref (q 8)) (C := RX3) (T := TX3) (N := 33) hx hb hts hinX3 hown hK hP 0 rfl rfl 8 (by decide) (hts (.fieldLink RX3 32 "TroubleCodesModel" "code" "[I") (mem_at 2 rfl)) (fun _ h9 => h9) rfl dX3_isHeld_11 ?_
    refine lv_aload_n hx hb dX3_isHeld_14 rfl (lv_at hl 0 rfl) ?_
    refine va_get (D := D) (ci := 3) (v := .ref (q 2)) (C := RX3) (T := TX3) (N := 33) hx hb hts hinX3 hown hK hP 0 rfl rfl 2 (by decide) (hts (.fieldLink RX3 13 "TroubleCodesModel" "follows" "[I") (mem_at 3 rfl)) (fun _ h9 => h9) rfl dX3_isHeld_15 ?_
    refine lv_iload_n hx hb dX3_isHeld_18 rfl (lv_at hl 1 rfl) ?_
    refine x_iald (k := k) (f := g 2) hx hb hK hP 2 rfl (by omega) (by decide) dX3_isHeld_19 ?_
    rw [ef]
    refine x_iald (k := f) (f := g 8) hx hb hK hP 8 rfl (by omega) (by decide) dX3_isHeld_20 ?_
    refine lv_iconst (v := 1) hx hb dX3_isHeld_21 (by decide) ?_
    refine lv_icmp_eq (tgt := 40) hx hb dX3_isHeld_22 (by decide) (fun c_2 => ?_) (fun c_2 => ?_)
    · refine lv_iconst (v := 1) hx hb dX3_isHeld_40 (by decide) ?_
      refine lv_goto (tgt := 45) hx hb dX3_isHeld_41 (by decide) ?_
      exact hret 45 _ _ (by rw [heldF]; simp only [ef, ix_nI (show f < 2 ^ 31 by omega)]; rw [if_pos c_1, if_pos c_2]) rfl dX3_isHeld_45
    · refine lv_aload_n hx hb dX3_isHeld_25 rfl (lv_at hl 0 rfl) ?_
      refine va_get (D := D) (ci := 3) (v := .ref (q 8)) (C := RX3) (T := TX3) (N := 33) hx hb hts hinX3 hown hK hP 0 rfl rfl 8 (by decide) (hts (.fieldLink RX3 32 "TroubleCodesModel" "code" "[I") (mem_at 2 rfl)) (fun _ h9 => h9) rfl dX3_isHeld_26 ?_
      refine lv_aload_n hx hb dX3_isHeld_29 rfl (lv_at hl 0 rfl) ?_
      refine va_get (D := D) (ci := 3) (v := .ref (q 2)) (C := RX3) (T := TX3) (N := 33) hx hb hts hinX3 hown hK hP 0 rfl rfl 2 (by decide) (hts (.fieldLink RX3 13 "TroubleCodesModel" "follows" "[I") (mem_at 3 rfl)) (fun _ h9 => h9) rfl dX3_isHeld_30 ?_
      refine lv_iload_n hx hb dX3_isHeld_33 rfl (lv_at hl 1 rfl) ?_
      refine x_iald (k := k) (f := g 2) hx hb hK hP 2 rfl (by omega) (by decide) dX3_isHeld_34 ?_
      rw [ef]
      refine x_iald (k := f) (f := g 8) hx hb hK hP 8 rfl (by omega) (by decide) dX3_isHeld_35 ?_
      refine lv_iconst (v := 2) hx hb dX3_isHeld_36 (by decide) ?_
      refine lv_icmp_ne (tgt := 44) hx hb dX3_isHeld_37 (by decide) (fun c_3 => ?_) (fun c_3 => ?_)
      · refine lv_iconst (v := 0) hx hb dX3_isHeld_44 (by decide) ?_
        exact hret 45 _ _ (by rw [heldF]; simp only [ef, ix_nI (show f < 2 ^ 31 by omega)]; rw [if_pos c_1, if_neg c_2, if_neg c_3]) rfl dX3_isHeld_45
      · refine lv_iconst (v := 1) hx hb dX3_isHeld_40 (by decide) ?_
        refine lv_goto (tgt := 45) hx hb dX3_isHeld_41 (by decide) ?_
        exact hret 45 _ _ (by rw [heldF]; simp only [ef, ix_nI (show f < 2 ^ 31 by omega)]; rw [if_pos c_1, if_neg c_2, if_pos c_3]) rfl dX3_isHeld_45

set_option maxHeartbeats 4000000 in
set_option maxRecDepth 100000 in
theorem tX3_manyFrozen (l : Launch) (D : va_G) (cI cZ cC : ClassId) (q : Nat → Nat) (o : Nat) (g : Nat → Nat → Int32) (n : Nat) (hn : g 0 0 = nI n) (hnb : n ≤ 16) : RdC l yX3_manyFrozen wsX3_manyFrozen (rmK 0) D cI cZ cC [.ref o] (fun H => va_P D vwCl (mW cI cZ q o g) H) (fun ans => ans = sumN (fun j => if g 21 j = 0 then 0 else 1) n) := by
  refine RdC.of (cc := cX3_manyFrozen) (maxL := 3) (ret := .int) (by decide) rfl (Nat.le_of_ble_eq_true rfl) ?_
  intro p e s m args below meth c Q ls hx hb hml hts hown hK hP hret hl
  have hl : lv_has ls 3 [(0, .ref o)] := hl
  have hP : va_P D vwCl (mW cI cZ q o g) s.heap := hP
  have hinX3 : ∀ w ∈ u_ws RX3 TX3 33, w ∈ wsX3_manyFrozen := (fun w h => List.mem_cons_of_mem _ (List.mem_append_right _ h))
  refine lv_iconst (v := 0) hx hb dX3_manyFrozen_0 (by decide) ?_
  refine lv_istore_n (lv' := [(1, .int 0), (0, .ref o)]) hx hb dX3_manyFrozen_1 rfl hl (by decide) rfl (fun ls hl => ?_)
  refine lv_iconst (v := 0) hx hb dX3_manyFrozen_2 (by decide) ?_
  refine lv_istore_n (lv' := [(2, .int 0), (1, .int 0), (0, .ref o)]) hx hb dX3_manyFrozen_3 rfl hl (by decide) rfl (fun ls hl => ?_)
  have LOOP_1 : ∀ (fu k : Nat), k ≤ n → n - k < fu → ∀ (ls : Array Slot), lv_has ls 3 [(0, .ref o), (1, .int (sumN (fun j => if g 21 j = 0 then 0 else 1) k)), (2, .int (nI k))] → W p l e (rmK 0) s m args below meth c s.heap [] 0 0 Q (F0 m 4 ls []) := by
    intro fu
    induction fu with
    | zero => intro k h1 h2; exact absurd h2 (Nat.not_lt_zero _)
    | succ fu ih =>
      intro k hkn hfu  ls hl
      refine lv_iload_n hx hb dX3_manyFrozen_4 rfl (lv_at hl 2 rfl) ?_
      refine lv_aload_n hx hb dX3_manyFrozen_5 rfl (lv_at hl 0 rfl) ?_
      refine va_get (D := D) (ci := 3) (v := .int (g 0 0)) (C := RX3) (T := TX3) (N := 33) hx hb hts hinX3 hown hK hP 0 rfl rfl 0 (by decide) (hts (.fieldLink RX3 93 "TroubleCodesModel" "checks" "I") (mem_at 1 rfl)) (fun _ h9 => h9) rfl dX3_manyFrozen_6 ?_
      refine lv_icmp_ge (tgt := 35) hx hb dX3_manyFrozen_9 (by decide) (fun c_2 => ?_) (fun c_2 => ?_)
      · have ekn : n = k := Nat.le_antisymm (kx_ge hn (by omega) (by omega) c_2) hkn
        subst ekn
        refine lv_iload_n hx hb dX3_manyFrozen_35 rfl (lv_at hl 1 rfl) ?_
        exact hret 36 _ _ (rfl) rfl dX3_manyFrozen_36
      · have hkl : k < n := kx_lt hn (by omega) (by omega) c_2
        refine lv_iload_n hx hb dX3_manyFrozen_12 rfl (lv_at hl 1 rfl) ?_
        refine lv_aload_n hx hb dX3_manyFrozen_13 rfl (lv_at hl 0 rfl) ?_
        refine va_get (D := D) (ci := 3) (v := .ref (q 21)) (C := RX3) (T := TX3) (N := 33) hx hb hts hinX3 hown hK hP 0 rfl rfl 21 (by decide) (hts (.fieldLink RX3 66 "TroubleCodesModel" "isFrozen" "[Z") (mem_at 2 rfl)) (fun _ h9 => h9) rfl dX3_manyFrozen_14 ?_
        refine lv_iload_n hx hb dX3_manyFrozen_17 rfl (lv_at hl 2 rfl) ?_
        refine x_zald (k := k) (f := g 21) hx hb hK hP 18 rfl (by omega) (by decide) dX3_manyFrozen_18 ?_
        refine lv_if_eq (tgt := 26) hx hb dX3_manyFrozen_19 (by decide) (fun c_3 => ?_) (fun c_3 => ?_)
        · refine lv_iconst (v := 0) hx hb dX3_manyFrozen_26 (by decide) ?_
          refine lv_iadd hx hb dX3_manyFrozen_27 ?_
          refine lv_istore_n (lv' := [(1, .int ((sumN (fun j => if g 21 j = 0 then 0 else 1) k) + 0)), (0, .ref o), (2, .int (nI k))]) hx hb dX3_manyFrozen_28 rfl hl (by decide) rfl (fun ls hl => ?_)
          refine lv_iinc (v := nI (k + 1)) (lv' := [(2, .int (nI (k + 1))), (1, .int ((sumN (fun j => if g 21 j = 0 then 0 else 1) k) + 0)), (0, .ref o)]) hx hb dX3_manyFrozen_29 hl (k := 2) rfl (nI_1 _) (by decide) rfl (fun ls hl => ?_)
          refine lv_goto (tgt := 4) hx hb dX3_manyFrozen_32 (by decide) ?_
          have q_4 : (sumN (fun j => if g 21 j = 0 then 0 else 1) (k + 1) : Int32) = (sumN (fun j => if g 21 j = 0 then 0 else 1) k) + 0 := by first | rfl | simp [sumN, c_2, Int32.not_le.mp c_2, c_3]
          exact ih (k + 1) (by omega) (by omega) ls (by rw [q_4]; exact lv_sub hl [2, 1, 0] rfl)
        · refine lv_iconst (v := 1) hx hb dX3_manyFrozen_22 (by decide) ?_
          refine lv_goto (tgt := 27) hx hb dX3_manyFrozen_23 (by decide) ?_
          refine lv_iadd hx hb dX3_manyFrozen_27 ?_
          refine lv_istore_n (lv' := [(1, .int ((sumN (fun j => if g 21 j = 0 then 0 else 1) k) + 1)), (0, .ref o), (2, .int (nI k))]) hx hb dX3_manyFrozen_28 rfl hl (by decide) rfl (fun ls hl => ?_)
          refine lv_iinc (v := nI (k + 1)) (lv' := [(2, .int (nI (k + 1))), (1, .int ((sumN (fun j => if g 21 j = 0 then 0 else 1) k) + 1)), (0, .ref o)]) hx hb dX3_manyFrozen_29 hl (k := 2) rfl (nI_1 _) (by decide) rfl (fun ls hl => ?_)
          refine lv_goto (tgt := 4) hx hb dX3_manyFrozen_32 (by decide) ?_
          have q_5 : (sumN (fun j => if g 21 j = 0 then 0 else 1) (k + 1) : Int32) = (sumN (fun j => if g 21 j = 0 then 0 else 1) k) + 1 := by first | rfl | simp [sumN, c_2, Int32.not_le.mp c_2, c_3]
          exact ih (k + 1) (by omega) (by omega) ls (by rw [q_5]; exact lv_sub hl [2, 1, 0] rfl)
  have q_6 : (sumN (fun j => if g 21 j = 0 then 0 else 1) 0 : Int32) = 0 := by rfl
  have q_7 : (nI 0 : Int32) = 0 := by rfl
  exact LOOP_1 (n - 0 + 1) 0 (Nat.zero_le _) (Nat.lt_succ_self _) ls (by rw [q_6, q_7]; exact lv_sub hl [2, 1, 0] rfl)

set_option maxHeartbeats 4000000 in
set_option maxRecDepth 100000 in
theorem tX3_manyOf (l : Launch) (D : va_G) (cI cZ cC : ClassId) (q : Nat → Nat) (o : Nat) (g : Nat → Nat → Int32) (n : Nat) (hn : g 0 0 = nI n) (hnb : n ≤ 16) (w : Int32) : RdC l yX3_manyOf wsX3_manyOf (rmK 0) D cI cZ cC [.ref o, .int w] (fun H => va_P D vwCl (mW cI cZ q o g) H) (fun ans => ans = sumN (fun j => if g 8 j = w then 1 else 0) n) := by
  refine RdC.of (cc := cX3_manyOf) (maxL := 4) (ret := .int) (by decide) rfl (Nat.le_of_ble_eq_true rfl) ?_
  intro p e s m args below meth c Q ls hx hb hml hts hown hK hP hret hl
  have hl : lv_has ls 4 [(0, .ref o), (1, .int w)] := hl
  have hP : va_P D vwCl (mW cI cZ q o g) s.heap := hP
  have hinX3 : ∀ w ∈ u_ws RX3 TX3 33, w ∈ wsX3_manyOf := (fun w h => List.mem_cons_of_mem _ (List.mem_append_right _ h))
  refine lv_iconst (v := 0) hx hb dX3_manyOf_0 (by decide) ?_
  refine lv_istore_n (lv' := [(2, .int 0), (0, .ref o), (1, .int w)]) hx hb dX3_manyOf_1 rfl hl (by decide) rfl (fun ls hl => ?_)
  refine lv_iconst (v := 0) hx hb dX3_manyOf_2 (by decide) ?_
  refine lv_istore_n (lv' := [(3, .int 0), (2, .int 0), (0, .ref o), (1, .int w)]) hx hb dX3_manyOf_3 rfl hl (by decide) rfl (fun ls hl => ?_)
  have LOOP_1 : ∀ (fu k : Nat), k ≤ n → n - k < fu → ∀ (ls : Array Slot), lv_has ls 4 [(0, .ref o), (1, .int w), (2, .int (sumN (fun j => if g 8 j = w then 1 else 0) k)), (3, .int (nI k))] → W p l e (rmK 0) s m args below meth c s.heap [] 0 0 Q (F0 m 4 ls []) := by
    intro fu
    induction fu with
    | zero => intro k h1 h2; exact absurd h2 (Nat.not_lt_zero _)
    | succ fu ih =>
      intro k hkn hfu  ls hl
      refine lv_iload_n hx hb dX3_manyOf_4 rfl (lv_at hl 3 rfl) ?_
      refine lv_aload_n hx hb dX3_manyOf_5 rfl (lv_at hl 0 rfl) ?_
      refine va_get (D := D) (ci := 3) (v := .int (g 0 0)) (C := RX3) (T := TX3) (N := 33) hx hb hts hinX3 hown hK hP 0 rfl rfl 0 (by decide) (hts (.fieldLink RX3 93 "TroubleCodesModel" "checks" "I") (mem_at 1 rfl)) (fun _ h9 => h9) rfl dX3_manyOf_6 ?_
      refine lv_icmp_ge (tgt := 36) hx hb dX3_manyOf_9 (by decide) (fun c_2 => ?_) (fun c_2 => ?_)
      · have ekn : n = k := Nat.le_antisymm (kx_ge hn (by omega) (by omega) c_2) hkn
        subst ekn
        refine lv_iload_n hx hb dX3_manyOf_36 rfl (lv_at hl 2 rfl) ?_
        exact hret 37 _ _ (rfl) rfl dX3_manyOf_37
      · have hkl : k < n := kx_lt hn (by omega) (by omega) c_2
        refine lv_iload_n hx hb dX3_manyOf_12 rfl (lv_at hl 2 rfl) ?_
        refine lv_aload_n hx hb dX3_manyOf_13 rfl (lv_at hl 0 rfl) ?_
        refine va_get (D := D) (ci := 3) (v := .ref (q 8)) (C := RX3) (T := TX3) (N := 33) hx hb hts hinX3 hown hK hP 0 rfl rfl 8 (by decide) (hts (.fieldLink RX3 32 "TroubleCodesModel" "code" "[I") (mem_at 2 rfl)) (fun _ h9 => h9) rfl dX3_manyOf_14 ?_
        refine lv_iload_n hx hb dX3_manyOf_17 rfl (lv_at hl 3 rfl) ?_
        refine x_iald (k := k) (f := g 8) hx hb hK hP 8 rfl (by omega) (by decide) dX3_manyOf_18 ?_
        refine lv_iload_n hx hb dX3_manyOf_19 rfl (lv_at hl 1 rfl) ?_
        refine lv_icmp_ne (tgt := 27) hx hb dX3_manyOf_20 (by decide) (fun c_3 => ?_) (fun c_3 => ?_)
        · refine lv_iconst (v := 0) hx hb dX3_manyOf_27 (by decide) ?_
          refine lv_iadd hx hb dX3_manyOf_28 ?_
          refine lv_istore_n (lv' := [(2, .int ((sumN (fun j => if g 8 j = w then 1 else 0) k) + 0)), (0, .ref o), (1, .int w), (3, .int (nI k))]) hx hb dX3_manyOf_29 rfl hl (by decide) rfl (fun ls hl => ?_)
          refine lv_iinc (v := nI (k + 1)) (lv' := [(3, .int (nI (k + 1))), (2, .int ((sumN (fun j => if g 8 j = w then 1 else 0) k) + 0)), (0, .ref o), (1, .int w)]) hx hb dX3_manyOf_30 hl (k := 3) rfl (nI_1 _) (by decide) rfl (fun ls hl => ?_)
          refine lv_goto (tgt := 4) hx hb dX3_manyOf_33 (by decide) ?_
          have q_4 : (sumN (fun j => if g 8 j = w then 1 else 0) (k + 1) : Int32) = (sumN (fun j => if g 8 j = w then 1 else 0) k) + 0 := by first | rfl | simp [sumN, c_2, Int32.not_le.mp c_2, c_3]
          exact ih (k + 1) (by omega) (by omega) ls (by rw [q_4]; exact lv_sub hl [2, 3, 1, 0] rfl)
        · refine lv_iconst (v := 1) hx hb dX3_manyOf_23 (by decide) ?_
          refine lv_goto (tgt := 28) hx hb dX3_manyOf_24 (by decide) ?_
          refine lv_iadd hx hb dX3_manyOf_28 ?_
          refine lv_istore_n (lv' := [(2, .int ((sumN (fun j => if g 8 j = w then 1 else 0) k) + 1)), (0, .ref o), (1, .int w), (3, .int (nI k))]) hx hb dX3_manyOf_29 rfl hl (by decide) rfl (fun ls hl => ?_)
          refine lv_iinc (v := nI (k + 1)) (lv' := [(3, .int (nI (k + 1))), (2, .int ((sumN (fun j => if g 8 j = w then 1 else 0) k) + 1)), (0, .ref o), (1, .int w)]) hx hb dX3_manyOf_30 hl (k := 3) rfl (nI_1 _) (by decide) rfl (fun ls hl => ?_)
          refine lv_goto (tgt := 4) hx hb dX3_manyOf_33 (by decide) ?_
          have q_5 : (sumN (fun j => if g 8 j = w then 1 else 0) (k + 1) : Int32) = (sumN (fun j => if g 8 j = w then 1 else 0) k) + 1 := by first | rfl | simp [sumN, c_2, Int32.not_le.mp c_2, c_3]
          exact ih (k + 1) (by omega) (by omega) ls (by rw [q_5]; exact lv_sub hl [2, 3, 1, 0] rfl)
  have q_6 : (sumN (fun j => if g 8 j = w then 1 else 0) 0 : Int32) = 0 := by rfl
  have q_7 : (nI 0 : Int32) = 0 := by rfl
  exact LOOP_1 (n - 0 + 1) 0 (Nat.zero_le _) (Nat.lt_succ_self _) ls (by rw [q_6, q_7]; exact lv_sub hl [2, 3, 1, 0] rfl)

def lfF (fr so we tu : Nat → Int32) : Nat → Int32
  | 0 => -1
  | k + 1 => if ¬ fr k = 0 ∧ ¬ so k = 1 ∧ (lfF fr so we tu k = -1 ∨ we k < we (ix (lfF fr so we tu k)) ∨ (we k = we (ix (lfF fr so we tu k)) ∧ tu k < tu (ix (lfF fr so we tu k)))) then nI k else lfF fr so we tu k
theorem lf_cases (fr so we tu : Nat → Int32) : ∀ k : Nat, lfF fr so we tu k = -1 ∨ ∃ j, j < k ∧ lfF fr so we tu k = nI j ∧ ¬ fr j = 0 ∧ ¬ so j = 1
  | 0 => Or.inl rfl
  | k + 1 => by
    rw [lfF]
    split
    · rename_i h
      exact Or.inr ⟨k, Nat.lt_succ_self k, rfl, h.1, h.2.1⟩
    · rcases lf_cases fr so we tu k with h | ⟨j, hj, h⟩
      · exact Or.inl h
      · exact Or.inr ⟨j, Nat.lt_succ_of_lt hj, h⟩

set_option maxHeartbeats 4000000 in
set_option maxRecDepth 100000 in
theorem tX3_leastFrozen (l : Launch) (D : va_G) (cI cZ cC : ClassId) (q : Nat → Nat) (o : Nat) (g : Nat → Nat → Int32) (n : Nat) (hn : g 0 0 = nI n) (hnb : n ≤ 16) : RdC l yX3_leastFrozen wsX3_leastFrozen (rmK 0) D cI cZ cC [.ref o] (fun H => va_P D vwCl (mW cI cZ q o g) H) (fun ans => ans = lfF (g 21) (g 1) (g 6) (g 24) n) := by
  refine RdC.of (cc := cX3_leastFrozen) (maxL := 3) (ret := .int) (by decide) rfl (Nat.le_of_ble_eq_true rfl) ?_
  intro p e s m args below meth c Q ls hx hb hml hts hown hK hP hret hl
  have hl : lv_has ls 3 [(0, .ref o)] := hl
  have hP : va_P D vwCl (mW cI cZ q o g) s.heap := hP
  have hinX3 : ∀ w ∈ u_ws RX3 TX3 33, w ∈ wsX3_leastFrozen := (fun w h => List.mem_cons_of_mem _ (List.mem_append_right _ h))
  refine lv_iconst (v := (-1)) hx hb dX3_leastFrozen_0 (by decide) ?_
  refine lv_istore_n (lv' := [(1, .int (-1)), (0, .ref o)]) hx hb dX3_leastFrozen_1 rfl hl (by decide) rfl (fun ls hl => ?_)
  refine lv_iconst (v := 0) hx hb dX3_leastFrozen_2 (by decide) ?_
  refine lv_istore_n (lv' := [(2, .int 0), (1, .int (-1)), (0, .ref o)]) hx hb dX3_leastFrozen_3 rfl hl (by decide) rfl (fun ls hl => ?_)
  have LOOP_1 : ∀ (fu k : Nat), k ≤ n → n - k < fu → ∀ (ls : Array Slot), lv_has ls 3 [(0, .ref o), (1, .int (lfF (g 21) (g 1) (g 6) (g 24) k)), (2, .int (nI k))] → W p l e (rmK 0) s m args below meth c s.heap [] 0 0 Q (F0 m 4 ls []) := by
    intro fu
    induction fu with
    | zero => intro k h1 h2; exact absurd h2 (Nat.not_lt_zero _)
    | succ fu ih =>
      intro k hkn hfu  ls hl
      refine lv_iload_n hx hb dX3_leastFrozen_4 rfl (lv_at hl 2 rfl) ?_
      refine lv_aload_n hx hb dX3_leastFrozen_5 rfl (lv_at hl 0 rfl) ?_
      refine va_get (D := D) (ci := 3) (v := .int (g 0 0)) (C := RX3) (T := TX3) (N := 33) hx hb hts hinX3 hown hK hP 0 rfl rfl 0 (by decide) (hts (.fieldLink RX3 93 "TroubleCodesModel" "checks" "I") (mem_at 1 rfl)) (fun _ h9 => h9) rfl dX3_leastFrozen_6 ?_
      refine lv_icmp_ge (tgt := 89) hx hb dX3_leastFrozen_9 (by decide) (fun c_2 => ?_) (fun c_2 => ?_)
      · have ekn : n = k := Nat.le_antisymm (kx_ge hn (by omega) (by omega) c_2) hkn
        subst ekn
        refine lv_iload_n hx hb dX3_leastFrozen_89 rfl (lv_at hl 1 rfl) ?_
        exact hret 90 _ _ (rfl) rfl dX3_leastFrozen_90
      · have hkl : k < n := kx_lt hn (by omega) (by omega) c_2
        refine lv_aload_n hx hb dX3_leastFrozen_12 rfl (lv_at hl 0 rfl) ?_
        refine va_get (D := D) (ci := 3) (v := .ref (q 21)) (C := RX3) (T := TX3) (N := 33) hx hb hts hinX3 hown hK hP 0 rfl rfl 21 (by decide) (hts (.fieldLink RX3 66 "TroubleCodesModel" "isFrozen" "[Z") (mem_at 2 rfl)) (fun _ h9 => h9) rfl dX3_leastFrozen_13 ?_
        refine lv_iload_n hx hb dX3_leastFrozen_16 rfl (lv_at hl 2 rfl) ?_
        refine x_zald (k := k) (f := g 21) hx hb hK hP 18 rfl (by omega) (by decide) dX3_leastFrozen_17 ?_
        refine lv_if_eq (tgt := 83) hx hb dX3_leastFrozen_18 (by decide) (fun c_3 => ?_) (fun c_3 => ?_)
        · refine lv_iinc (v := nI (k + 1)) (lv' := [(2, .int (nI (k + 1))), (0, .ref o), (1, .int (lfF (g 21) (g 1) (g 6) (g 24) k))]) hx hb dX3_leastFrozen_83 hl (k := 2) rfl (nI_1 _) (by decide) rfl (fun ls hl => ?_)
          refine lv_goto (tgt := 4) hx hb dX3_leastFrozen_86 (by decide) ?_
          have q_4 : (lfF (g 21) (g 1) (g 6) (g 24) (k + 1) : Int32) = lfF (g 21) (g 1) (g 6) (g 24) k := by rw [lfF]; simp [c_2, Int32.not_le.mp c_2, c_3]
          exact ih (k + 1) (by omega) (by omega) ls (by rw [q_4]; exact lv_sub hl [1, 2, 0] rfl)
        · refine lv_aload_n hx hb dX3_leastFrozen_21 rfl (lv_at hl 0 rfl) ?_
          refine va_get (D := D) (ci := 3) (v := .ref (q 1)) (C := RX3) (T := TX3) (N := 33) hx hb hts hinX3 hown hK hP 0 rfl rfl 1 (by decide) (hts (.fieldLink RX3 7 "TroubleCodesModel" "sort" "[I") (mem_at 3 rfl)) (fun _ h9 => h9) rfl dX3_leastFrozen_22 ?_
          refine lv_iload_n hx hb dX3_leastFrozen_25 rfl (lv_at hl 2 rfl) ?_
          refine x_iald (k := k) (f := g 1) hx hb hK hP 1 rfl (by omega) (by decide) dX3_leastFrozen_26 ?_
          refine lv_iconst (v := 1) hx hb dX3_leastFrozen_27 (by decide) ?_
          refine lv_icmp_eq (tgt := 83) hx hb dX3_leastFrozen_28 (by decide) (fun c_5 => ?_) (fun c_5 => ?_)
          · refine lv_iinc (v := nI (k + 1)) (lv' := [(2, .int (nI (k + 1))), (0, .ref o), (1, .int (lfF (g 21) (g 1) (g 6) (g 24) k))]) hx hb dX3_leastFrozen_83 hl (k := 2) rfl (nI_1 _) (by decide) rfl (fun ls hl => ?_)
            refine lv_goto (tgt := 4) hx hb dX3_leastFrozen_86 (by decide) ?_
            have q_6 : (lfF (g 21) (g 1) (g 6) (g 24) (k + 1) : Int32) = lfF (g 21) (g 1) (g 6) (g 24) k := by rw [lfF]; simp [c_2, Int32.not_le.mp c_2, c_3, c_5]
            exact ih (k + 1) (by omega) (by omega) ls (by rw [q_6]; exact lv_sub hl [1, 2, 0] rfl)
          · refine lv_iload_n hx hb dX3_leastFrozen_31 rfl (lv_at hl 1 rfl) ?_
            refine lv_iconst (v := (-1)) hx hb dX3_leastFrozen_32 (by decide) ?_
            refine lv_icmp_eq (tgt := 81) hx hb dX3_leastFrozen_33 (by decide) (fun c_7 => ?_) (fun c_7 => ?_)
            · refine lv_iload_n hx hb dX3_leastFrozen_81 rfl (lv_at hl 2 rfl) ?_
              refine lv_istore_n (lv' := [(1, .int (nI k)), (0, .ref o), (2, .int (nI k))]) hx hb dX3_leastFrozen_82 rfl hl (by decide) rfl (fun ls hl => ?_)
              refine lv_iinc (v := nI (k + 1)) (lv' := [(2, .int (nI (k + 1))), (1, .int (nI k)), (0, .ref o)]) hx hb dX3_leastFrozen_83 hl (k := 2) rfl (nI_1 _) (by decide) rfl (fun ls hl => ?_)
              refine lv_goto (tgt := 4) hx hb dX3_leastFrozen_86 (by decide) ?_
              have q_8 : (lfF (g 21) (g 1) (g 6) (g 24) (k + 1) : Int32) = nI k := by rw [lfF]; simp [c_2, Int32.not_le.mp c_2, c_3, c_5, c_7]
              exact ih (k + 1) (by omega) (by omega) ls (by rw [q_8]; exact lv_sub hl [2, 1, 0] rfl)
            · obtain ⟨j, hj, ej, -⟩ := (lf_cases (g 21) (g 1) (g 6) (g 24) k).resolve_left c_7
              have eix : ix (lfF (g 21) (g 1) (g 6) (g 24) k) = j := by rw [ej]; exact ix_nI (by omega)
              refine lv_aload_n hx hb dX3_leastFrozen_36 rfl (lv_at hl 0 rfl) ?_
              refine va_get (D := D) (ci := 3) (v := .ref (q 6)) (C := RX3) (T := TX3) (N := 33) hx hb hts hinX3 hown hK hP 0 rfl rfl 6 (by decide) (hts (.fieldLink RX3 25 "TroubleCodesModel" "weight" "[I") (mem_at 4 rfl)) (fun _ h9 => h9) rfl dX3_leastFrozen_37 ?_
              refine lv_iload_n hx hb dX3_leastFrozen_40 rfl (lv_at hl 2 rfl) ?_
              refine x_iald (k := k) (f := g 6) hx hb hK hP 6 rfl (by omega) (by decide) dX3_leastFrozen_41 ?_
              refine lv_aload_n hx hb dX3_leastFrozen_42 rfl (lv_at hl 0 rfl) ?_
              refine va_get (D := D) (ci := 3) (v := .ref (q 6)) (C := RX3) (T := TX3) (N := 33) hx hb hts hinX3 hown hK hP 0 rfl rfl 6 (by decide) (hts (.fieldLink RX3 25 "TroubleCodesModel" "weight" "[I") (mem_at 4 rfl)) (fun _ h9 => h9) rfl dX3_leastFrozen_43 ?_
              refine lv_iload_n hx hb dX3_leastFrozen_46 rfl (lv_at hl 1 rfl) ?_
              rw [ej]
              refine x_iald (k := j) (f := g 6) hx hb hK hP 6 rfl (by omega) (by decide) dX3_leastFrozen_47 ?_
              refine lv_icmp_lt (tgt := 81) hx hb dX3_leastFrozen_48 (by decide) (fun c_9 => ?_) (fun c_9 => ?_)
              · refine lv_iload_n hx hb dX3_leastFrozen_81 rfl (lv_at hl 2 rfl) ?_
                refine lv_istore_n (lv' := [(1, .int (nI k)), (0, .ref o), (2, .int (nI k))]) hx hb dX3_leastFrozen_82 rfl hl (by decide) rfl (fun ls hl => ?_)
                refine lv_iinc (v := nI (k + 1)) (lv' := [(2, .int (nI (k + 1))), (1, .int (nI k)), (0, .ref o)]) hx hb dX3_leastFrozen_83 hl (k := 2) rfl (nI_1 _) (by decide) rfl (fun ls hl => ?_)
                refine lv_goto (tgt := 4) hx hb dX3_leastFrozen_86 (by decide) ?_
                have q_10 : (lfF (g 21) (g 1) (g 6) (g 24) (k + 1) : Int32) = nI k := by rw [lfF]; simp [c_2, Int32.not_le.mp c_2, c_3, c_5, c_7, c_9, eix]
                exact ih (k + 1) (by omega) (by omega) ls (by rw [q_10]; exact lv_sub hl [2, 1, 0] rfl)
              · refine lv_aload_n hx hb dX3_leastFrozen_51 rfl (lv_at hl 0 rfl) ?_
                refine va_get (D := D) (ci := 3) (v := .ref (q 6)) (C := RX3) (T := TX3) (N := 33) hx hb hts hinX3 hown hK hP 0 rfl rfl 6 (by decide) (hts (.fieldLink RX3 25 "TroubleCodesModel" "weight" "[I") (mem_at 4 rfl)) (fun _ h9 => h9) rfl dX3_leastFrozen_52 ?_
                refine lv_iload_n hx hb dX3_leastFrozen_55 rfl (lv_at hl 2 rfl) ?_
                refine x_iald (k := k) (f := g 6) hx hb hK hP 6 rfl (by omega) (by decide) dX3_leastFrozen_56 ?_
                refine lv_aload_n hx hb dX3_leastFrozen_57 rfl (lv_at hl 0 rfl) ?_
                refine va_get (D := D) (ci := 3) (v := .ref (q 6)) (C := RX3) (T := TX3) (N := 33) hx hb hts hinX3 hown hK hP 0 rfl rfl 6 (by decide) (hts (.fieldLink RX3 25 "TroubleCodesModel" "weight" "[I") (mem_at 4 rfl)) (fun _ h9 => h9) rfl dX3_leastFrozen_58 ?_
                refine lv_iload_n hx hb dX3_leastFrozen_61 rfl (lv_at hl 1 rfl) ?_
                rw [ej]
                refine x_iald (k := j) (f := g 6) hx hb hK hP 6 rfl (by omega) (by decide) dX3_leastFrozen_62 ?_
                refine lv_icmp_ne (tgt := 83) hx hb dX3_leastFrozen_63 (by decide) (fun c_11 => ?_) (fun c_11 => ?_)
                · refine lv_iinc (v := nI (k + 1)) (lv' := [(2, .int (nI (k + 1))), (0, .ref o), (1, .int (lfF (g 21) (g 1) (g 6) (g 24) k))]) hx hb dX3_leastFrozen_83 hl (k := 2) rfl (nI_1 _) (by decide) rfl (fun ls hl => ?_)
                  refine lv_goto (tgt := 4) hx hb dX3_leastFrozen_86 (by decide) ?_
                  have q_12 : (lfF (g 21) (g 1) (g 6) (g 24) (k + 1) : Int32) = lfF (g 21) (g 1) (g 6) (g 24) k := by rw [lfF]; simp [c_2, Int32.not_le.mp c_2, c_3, c_5, c_7, c_9, c_11, eix]
                  exact ih (k + 1) (by omega) (by omega) ls (by rw [q_12]; exact lv_sub hl [1, 2, 0] rfl)
                · refine lv_aload_n hx hb dX3_leastFrozen_66 rfl (lv_at hl 0 rfl) ?_
                  refine va_get (D := D) (ci := 3) (v := .ref (q 24)) (C := RX3) (T := TX3) (N := 33) hx hb hts hinX3 hown hK hP 0 rfl rfl 24 (by decide) (hts (.fieldLink RX3 75 "TroubleCodesModel" "frozenTurn" "[I") (mem_at 5 rfl)) (fun _ h9 => h9) rfl dX3_leastFrozen_67 ?_
                  refine lv_iload_n hx hb dX3_leastFrozen_70 rfl (lv_at hl 2 rfl) ?_
                  refine x_iald (k := k) (f := g 24) hx hb hK hP 21 rfl (by omega) (by decide) dX3_leastFrozen_71 ?_
                  refine lv_aload_n hx hb dX3_leastFrozen_72 rfl (lv_at hl 0 rfl) ?_
                  refine va_get (D := D) (ci := 3) (v := .ref (q 24)) (C := RX3) (T := TX3) (N := 33) hx hb hts hinX3 hown hK hP 0 rfl rfl 24 (by decide) (hts (.fieldLink RX3 75 "TroubleCodesModel" "frozenTurn" "[I") (mem_at 5 rfl)) (fun _ h9 => h9) rfl dX3_leastFrozen_73 ?_
                  refine lv_iload_n hx hb dX3_leastFrozen_76 rfl (lv_at hl 1 rfl) ?_
                  rw [ej]
                  refine x_iald (k := j) (f := g 24) hx hb hK hP 21 rfl (by omega) (by decide) dX3_leastFrozen_77 ?_
                  refine lv_icmp_ge (tgt := 83) hx hb dX3_leastFrozen_78 (by decide) (fun c_13 => ?_) (fun c_13 => ?_)
                  · refine lv_iinc (v := nI (k + 1)) (lv' := [(2, .int (nI (k + 1))), (0, .ref o), (1, .int (lfF (g 21) (g 1) (g 6) (g 24) k))]) hx hb dX3_leastFrozen_83 hl (k := 2) rfl (nI_1 _) (by decide) rfl (fun ls hl => ?_)
                    refine lv_goto (tgt := 4) hx hb dX3_leastFrozen_86 (by decide) ?_
                    have q_14 : (lfF (g 21) (g 1) (g 6) (g 24) (k + 1) : Int32) = lfF (g 21) (g 1) (g 6) (g 24) k := by rw [lfF]; simp [c_2, Int32.not_le.mp c_2, c_3, c_5, c_7, c_9, c_11, c_13, Int32.not_lt.mpr c_13, eix]
                    exact ih (k + 1) (by omega) (by omega) ls (by rw [q_14]; exact lv_sub hl [1, 2, 0] rfl)
                  · refine lv_iload_n hx hb dX3_leastFrozen_81 rfl (lv_at hl 2 rfl) ?_
                    refine lv_istore_n (lv' := [(1, .int (nI k)), (0, .ref o), (2, .int (nI k))]) hx hb dX3_leastFrozen_82 rfl hl (by decide) rfl (fun ls hl => ?_)
                    refine lv_iinc (v := nI (k + 1)) (lv' := [(2, .int (nI (k + 1))), (1, .int (nI k)), (0, .ref o)]) hx hb dX3_leastFrozen_83 hl (k := 2) rfl (nI_1 _) (by decide) rfl (fun ls hl => ?_)
                    refine lv_goto (tgt := 4) hx hb dX3_leastFrozen_86 (by decide) ?_
                    have q_15 : (lfF (g 21) (g 1) (g 6) (g 24) (k + 1) : Int32) = nI k := by rw [lfF]; simp [c_2, Int32.not_le.mp c_2, c_3, c_5, c_7, c_9, c_11, c_13, Int32.not_le.mp c_13, eix]
                    exact ih (k + 1) (by omega) (by omega) ls (by rw [q_15]; exact lv_sub hl [2, 1, 0] rfl)
  have q_16 : (lfF (g 21) (g 1) (g 6) (g 24) 0 : Int32) = (-1) := by rfl
  have q_17 : (nI 0 : Int32) = 0 := by rfl
  exact LOOP_1 (n - 0 + 1) 0 (Nat.zero_le _) (Nat.lt_succ_self _) ls (by rw [q_16, q_17]; exact lv_sub hl [2, 1, 0] rfl)

def fX3_ran (g : Nat → Nat → Int32) (x b : Int32) : Int32 × (Nat → Nat → Int32) := if 0 ≤ x ∧ x ≤ (g 0 0 - 1) then (if (g 17 0) = 0 then ((-3), g) else (1, va_up g 14 (upd (g 14) (ix x) (if b = 0 then (if (g 14 (ix x)) = 2 then 2 else 1) else 2)))) else ((-2), g)
set_option maxHeartbeats 4000000 in
set_option maxRecDepth 100000 in
theorem tX3_ran (l : Launch) (D : va_G) (cI cZ cC : ClassId) (q : Nat → Nat) (o : Nat) (g : Nat → Nat → Int32) (n : Nat) (hn : g 0 0 = nI n) (hnb : n ≤ 16) (x b : Int32) : WrI l yX3_ran wsX3_ran (rmK 2) D cI cZ cC [.ref o, .int x, .int b] (mW cI cZ q o g) (mW cI cZ q o ((fX3_ran g x b).2)) (fun ans => ans = (fX3_ran g x b).1) := by
  refine WrI.of (cc := cX3_ran) (maxL := 3) (ret := .int) (by decide) rfl (Nat.le_of_ble_eq_true rfl) ?_
  intro p e s m args below meth c Q A ls hx hb hml hts hown hK hP hD hS hA hret hl
  have hl : lv_has ls 3 [(0, .ref o), (1, .int x), (2, .int b)] := hl
  have hinX3 : ∀ w ∈ u_ws RX3 TX3 33, w ∈ wsX3_ran := (fun w h => List.mem_cons_of_mem _ (List.mem_append_right _ h))
  refine lv_aload_n hx hb dX3_ran_0 rfl (lv_at hl 0 rfl) ?_
  refine lv_iload_n hx hb dX3_ran_1 rfl (lv_at hl 1 rfl) ?_
  refine x_rdV (As := [.int x]) (rest := []) ⟨hx, hb, hml, hown, hts⟩ (tX3_isCheck l D cI cZ cC q o g x) (cwV 1 hts gX3_ran_X3_isCheck rfl rfl rfl (by decide +kernel) ⟨Nat.le_of_ble_eq_true rfl, Nat.le_of_ble_eq_true rfl⟩) hK (x_recv (ci := 3) hK hP rfl (q0 := 0) rfl) hP rfl hl.1 rfl (Nat.le_of_ble_eq_true rfl) dX3_ran_2 ⟨Nat.le_of_ble_eq_true rfl, Nat.le_of_ble_eq_true rfl⟩ (fun r_1 er_1 => ?_)
  have er_1 : r_1 = bI (0 ≤ x ∧ x ≤ (g 0 0 - 1)) := er_1
  subst er_1
  refine lv_if_ne (tgt := 11) hx hb dX3_ran_5 (by decide) (fun c_2 => ?_) (fun c_2 => ?_)
  · have c_2 := bI_ne c_2
    refine lv_aload_n hx hb dX3_ran_11 rfl (lv_at hl 0 rfl) ?_
    refine va_get (D := D) (ci := 3) (v := .int (g 17 0)) (C := RX3) (T := TX3) (N := 33) hx hb hts hinX3 hown hK hP 0 rfl rfl 17 (by decide) (hts (.fieldLink RX3 104 "TroubleCodesModel" "goes" "Z") (mem_at 1 rfl)) (fun _ h9 => h9) rfl dX3_ran_12 ?_
    refine lv_if_ne (tgt := 21) hx hb dX3_ran_15 (by decide) (fun c_3 => ?_) (fun c_3 => ?_)
    · obtain ⟨j, hj, ej⟩ := ixck hn (by omega) c_2
      subst ej
      have xj : ix (nI j) = j := ix_nI (by omega)
      refine lv_aload_n hx hb dX3_ran_21 rfl (lv_at hl 0 rfl) ?_
      refine va_get (D := D) (ci := 3) (v := .ref (q 14)) (C := RX3) (T := TX3) (N := 33) hx hb hts hinX3 hown hK hP 0 rfl rfl 14 (by decide) (hts (.fieldLink RX3 50 "TroubleCodesModel" "told" "[I") (mem_at 2 rfl)) (fun _ h9 => h9) rfl dX3_ran_22 ?_
      refine lv_iload_n hx hb dX3_ran_25 rfl (lv_at hl 1 rfl) ?_
      refine lv_iload_n hx hb dX3_ran_26 rfl (lv_at hl 2 rfl) ?_
      have J49_3 : W p l e (rmK 2) s m args below meth c s.heap [] 0 0 Q (F0 m 49 ls [.int (if b = 0 then (if (g 14 j) = 2 then 2 else 1) else 2), .int (nI j), .ref (q 14)]) := by
        refine x_iast (k := j) (f := g 14) (x := if b = 0 then (if (g 14 j) = 2 then 2 else 1) else 2) hx hb hK hP hD hS 14 rfl (by omega) (by decide) dX3_ran_49 (fun H locs hP hD hS => ?_)
        have hP : va_P D vwCl (mW cI cZ q o (va_up g 14 (upd (g 14) j (if b = 0 then (if (g 14 j) = 2 then 2 else 1) else 2)))) H := hP
        have hD : va_D A (mW cI cZ q o (va_up g 14 (upd (g 14) j (if b = 0 then (if (g 14 j) = 2 then 2 else 1) else 2)))) := hD
        refine lv_iconst (v := 1) hx hb dX3_ran_50 (by decide) ?_
        have es : fX3_ran g (nI j) b = (1, va_up g 14 (upd (g 14) j (if b = 0 then (if (g 14 j) = 2 then 2 else 1) else 2))) := by rw [fX3_ran]; simp only [xj]; rw [if_pos c_2, if_neg c_3]
        exact hret 51 _ _ _ _ (by rw [es]) (by rw [es]; exact hP) (by rw [es]; exact hD) hS rfl dX3_ran_51
      refine lv_if_eq (tgt := 34) hx hb dX3_ran_27 (by decide) (fun c_5 => ?_) (fun c_5 => ?_)
      · refine lv_aload_n hx hb dX3_ran_34 rfl (lv_at hl 0 rfl) ?_
        refine va_get (D := D) (ci := 3) (v := .ref (q 14)) (C := RX3) (T := TX3) (N := 33) hx hb hts hinX3 hown hK hP 0 rfl rfl 14 (by decide) (hts (.fieldLink RX3 50 "TroubleCodesModel" "told" "[I") (mem_at 2 rfl)) (fun _ h9 => h9) rfl dX3_ran_35 ?_
        refine lv_iload_n hx hb dX3_ran_38 rfl (lv_at hl 1 rfl) ?_
        refine x_iald (k := j) (f := g 14) hx hb hK hP 14 rfl (by omega) (by decide) dX3_ran_39 ?_
        refine lv_iconst (v := 2) hx hb dX3_ran_40 (by decide) ?_
        refine lv_icmp_ne (tgt := 48) hx hb dX3_ran_41 (by decide) (fun c_6 => ?_) (fun c_6 => ?_)
        · refine lv_iconst (v := 1) hx hb dX3_ran_48 (by decide) ?_
          rw [if_pos c_5, if_neg c_6] at J49_3
          exact J49_3
        · refine lv_iconst (v := 2) hx hb dX3_ran_44 (by decide) ?_
          refine lv_goto (tgt := 49) hx hb dX3_ran_45 (by decide) ?_
          rw [if_pos c_5, if_pos c_6] at J49_3
          exact J49_3
      · refine lv_iconst (v := 2) hx hb dX3_ran_30 (by decide) ?_
        refine lv_goto (tgt := 49) hx hb dX3_ran_31 (by decide) ?_
        rw [if_neg c_5] at J49_3
        exact J49_3
    · refine lv_bipush (v := (-3)) hx hb dX3_ran_18 (by decide) ?_
      have es : fX3_ran g x b = ((-3), g) := by rw [fX3_ran]; rw [if_pos c_2, if_pos c_3]
      exact hret 20 _ _ _ _ (by rw [es]) (by rw [es]; exact hP) (by rw [es]; exact hD) hS rfl dX3_ran_20
  · have c_2 := bI_eq c_2
    refine lv_bipush (v := (-2)) hx hb dX3_ran_8 (by decide) ?_
    have es : fX3_ran g x b = ((-2), g) := by rw [fX3_ran]; rw [if_neg c_2]
    exact hret 10 _ _ _ _ (by rw [es]) (by rw [es]; exact hP) (by rw [es]; exact hD) hS rfl dX3_ran_10

def fX3_fact (g : Nat → Nat → Int32) (x v : Int32) : Int32 × (Nat → Nat → Int32) := if 0 ≤ x ∧ x ≤ 3 then (if (-1000) ≤ v ∧ v ≤ 1000 then (g 19 (ix x), va_up g 19 (upd (g 19) (ix x) v)) else ((-2000), g)) else ((-2000), g)
set_option maxHeartbeats 4000000 in
set_option maxRecDepth 100000 in
theorem tX3_fact (l : Launch) (D : va_G) (cI cZ cC : ClassId) (q : Nat → Nat) (o : Nat) (g : Nat → Nat → Int32) (x v : Int32) : WrI l yX3_fact wsX3_fact (rmK 1) D cI cZ cC [.ref o, .int x, .int v] (mW cI cZ q o g) (mW cI cZ q o ((fX3_fact g x v).2)) (fun ans => ans = (fX3_fact g x v).1) := by
  refine WrI.of (cc := cX3_fact) (maxL := 4) (ret := .int) (by decide) rfl (Nat.le_of_ble_eq_true rfl) ?_
  intro p e s m args below meth c Q A ls hx hb hml hts hown hK hP hD hS hA hret hl
  have hl : lv_has ls 4 [(0, .ref o), (1, .int x), (2, .int v)] := hl
  have hinX3 : ∀ w ∈ u_ws RX3 TX3 33, w ∈ wsX3_fact := (fun w h => List.mem_cons_of_mem _ (List.mem_append_right _ h))
  refine lv_iload_n hx hb dX3_fact_0 rfl (lv_at hl 1 rfl) ?_
  refine lv_iconst (v := 0) hx hb dX3_fact_1 (by decide) ?_
  refine lv_iconst (v := 3) hx hb dX3_fact_2 (by decide) ?_
  refine x_rdS (As := [.int x, .int 0, .int 3]) (rest := []) ⟨hx, hb, hml, hown, hts⟩ (tX3_in l D cI cZ cC x 0 3) (va_cwS 3 hts gX3_fact_X3_in rfl rfl rfl (by decide +kernel) ⟨Nat.le_of_ble_eq_true rfl, Nat.le_of_ble_eq_true rfl⟩) hK trivial rfl hl.1 rfl (Nat.le_of_ble_eq_true rfl) dX3_fact_3 ⟨Nat.le_of_ble_eq_true rfl, Nat.le_of_ble_eq_true rfl⟩ (fun r_1 er_1 => ?_)
  have er_1 : r_1 = bI (0 ≤ x ∧ x ≤ 3) := er_1
  subst er_1
  refine lv_if_eq (tgt := 22) hx hb dX3_fact_6 (by decide) (fun c_2 => ?_) (fun c_2 => ?_)
  · have c_2 := bI_eq c_2
    refine lv_sipush (v := (-2000)) hx hb dX3_fact_22 (by decide) ?_
    have es : fX3_fact g x v = ((-2000), g) := by rw [fX3_fact]; rw [if_neg c_2]
    exact hret 25 _ _ _ _ (by rw [es]) (by rw [es]; exact hP) (by rw [es]; exact hD) hS rfl dX3_fact_25
  · have c_2 := bI_ne c_2
    refine lv_iload_n hx hb dX3_fact_9 rfl (lv_at hl 2 rfl) ?_
    refine lv_sipush (v := (-1000)) hx hb dX3_fact_10 (by decide) ?_
    refine lv_sipush (v := 1000) hx hb dX3_fact_13 (by decide) ?_
    refine x_rdS (As := [.int v, .int (-1000), .int 1000]) (rest := []) ⟨hx, hb, hml, hown, hts⟩ (tX3_in l D cI cZ cC v (-1000) 1000) (va_cwS 3 hts gX3_fact_X3_in rfl rfl rfl (by decide +kernel) ⟨Nat.le_of_ble_eq_true rfl, Nat.le_of_ble_eq_true rfl⟩) hK trivial rfl hl.1 rfl (Nat.le_of_ble_eq_true rfl) dX3_fact_16 ⟨Nat.le_of_ble_eq_true rfl, Nat.le_of_ble_eq_true rfl⟩ (fun r_3 er_3 => ?_)
    have er_3 : r_3 = bI ((-1000) ≤ v ∧ v ≤ 1000) := er_3
    subst er_3
    refine lv_if_ne (tgt := 26) hx hb dX3_fact_19 (by decide) (fun c_4 => ?_) (fun c_4 => ?_)
    · have c_4 := bI_ne c_4
      obtain ⟨j, hj, ej⟩ := ixin (m := 3) (z := 3) rfl (by decide) c_2
      subst ej
      have xj : ix (nI j) = j := ix_nI (by omega)
      refine lv_aload_n hx hb dX3_fact_26 rfl (lv_at hl 0 rfl) ?_
      refine va_get (D := D) (ci := 3) (v := .ref (q 19)) (C := RX3) (T := TX3) (N := 33) hx hb hts hinX3 hown hK hP 0 rfl rfl 19 (by decide) (hts (.fieldLink RX3 59 "TroubleCodesModel" "fact" "[I") (mem_at 1 rfl)) (fun _ h9 => h9) rfl dX3_fact_27 ?_
      refine lv_iload_n hx hb dX3_fact_30 rfl (lv_at hl 1 rfl) ?_
      refine x_iald (k := j) (f := g 19) hx hb hK hP 17 rfl (by omega) (by decide) dX3_fact_31 ?_
      refine lv_istore_n (lv' := [(3, .int (g 19 j)), (0, .ref o), (1, .int (nI j)), (2, .int v)]) hx hb dX3_fact_32 rfl hl (by decide) rfl (fun ls hl => ?_)
      refine lv_aload_n hx hb dX3_fact_33 rfl (lv_at hl 1 rfl) ?_
      refine va_get (D := D) (ci := 3) (v := .ref (q 19)) (C := RX3) (T := TX3) (N := 33) hx hb hts hinX3 hown hK hP 0 rfl rfl 19 (by decide) (hts (.fieldLink RX3 59 "TroubleCodesModel" "fact" "[I") (mem_at 1 rfl)) (fun _ h9 => h9) rfl dX3_fact_34 ?_
      refine lv_iload_n hx hb dX3_fact_37 rfl (lv_at hl 2 rfl) ?_
      refine lv_iload_n hx hb dX3_fact_38 rfl (lv_at hl 3 rfl) ?_
      refine x_iast (k := j) (f := g 19) (x := v) hx hb hK hP hD hS 17 rfl (by omega) (by decide) dX3_fact_39 (fun H locs hP hD hS => ?_)
      have hP : va_P D vwCl (mW cI cZ q o (va_up g 19 (upd (g 19) j v))) H := hP
      have hD : va_D A (mW cI cZ q o (va_up g 19 (upd (g 19) j v))) := hD
      refine lv_iload_n hx hb dX3_fact_40 rfl (lv_at hl 0 rfl) ?_
      have es : fX3_fact g (nI j) v = (g 19 j, va_up g 19 (upd (g 19) j v)) := by rw [fX3_fact]; simp only [xj]; rw [if_pos c_2, if_pos c_4]
      exact hret 41 _ _ _ _ (by rw [es]) (by rw [es]; exact hP) (by rw [es]; exact hD) hS rfl dX3_fact_41
    · have c_4 := bI_eq c_4
      refine lv_sipush (v := (-2000)) hx hb dX3_fact_22 (by decide) ?_
      have es : fX3_fact g x v = ((-2000), g) := by rw [fX3_fact]; rw [if_pos c_2, if_neg c_4]
      exact hret 25 _ _ _ _ (by rw [es]) (by rw [es]; exact hP) (by rw [es]; exact hD) hS rfl dX3_fact_25

def fX3_frozenAt (g : Nat → Nat → Int32) (x : Int32) : Int32 := if 0 ≤ x ∧ x ≤ (g 0 0 - 1) then (if (g 21 (ix x)) = 0 then (-1) else (g 23 (ix x))) else (-2)
set_option maxHeartbeats 4000000 in
set_option maxRecDepth 100000 in
theorem tX3_frozenAt (l : Launch) (D : va_G) (cI cZ cC : ClassId) (q : Nat → Nat) (o : Nat) (g : Nat → Nat → Int32) (n : Nat) (hn : g 0 0 = nI n) (hnb : n ≤ 16) (x : Int32) : RdC l yX3_frozenAt wsX3_frozenAt (rmK 2) D cI cZ cC [.ref o, .int x] (fun H => va_P D vwCl (mW cI cZ q o g) H) (fun ans => ans = fX3_frozenAt g x) := by
  refine RdC.of (cc := cX3_frozenAt) (maxL := 2) (ret := .int) (by decide) rfl (Nat.le_of_ble_eq_true rfl) ?_
  intro p e s m args below meth c Q ls hx hb hml hts hown hK hP hret hl
  have hl : lv_has ls 2 [(0, .ref o), (1, .int x)] := hl
  have hP : va_P D vwCl (mW cI cZ q o g) s.heap := hP
  have hinX3 : ∀ w ∈ u_ws RX3 TX3 33, w ∈ wsX3_frozenAt := (fun w h => List.mem_cons_of_mem _ (List.mem_append_right _ h))
  refine lv_aload_n hx hb dX3_frozenAt_0 rfl (lv_at hl 0 rfl) ?_
  refine lv_iload_n hx hb dX3_frozenAt_1 rfl (lv_at hl 1 rfl) ?_
  refine x_rdV (As := [.int x]) (rest := []) ⟨hx, hb, hml, hown, hts⟩ (tX3_isCheck l D cI cZ cC q o g x) (cwV 1 hts gX3_frozenAt_X3_isCheck rfl rfl rfl (by decide +kernel) ⟨Nat.le_of_ble_eq_true rfl, Nat.le_of_ble_eq_true rfl⟩) hK (x_recv (ci := 3) hK hP rfl (q0 := 0) rfl) hP rfl hl.1 rfl (Nat.le_of_ble_eq_true rfl) dX3_frozenAt_2 ⟨Nat.le_of_ble_eq_true rfl, Nat.le_of_ble_eq_true rfl⟩ (fun r_1 er_1 => ?_)
  have er_1 : r_1 = bI (0 ≤ x ∧ x ≤ (g 0 0 - 1)) := er_1
  subst er_1
  refine lv_if_ne (tgt := 13) hx hb dX3_frozenAt_5 (by decide) (fun c_2 => ?_) (fun c_2 => ?_)
  · have c_2 := bI_ne c_2
    obtain ⟨j, hj, ej⟩ := ixck hn (by omega) c_2
    subst ej
    have xj : ix (nI j) = j := ix_nI (by omega)
    refine lv_aload_n hx hb dX3_frozenAt_13 rfl (lv_at hl 0 rfl) ?_
    refine va_get (D := D) (ci := 3) (v := .ref (q 21)) (C := RX3) (T := TX3) (N := 33) hx hb hts hinX3 hown hK hP 0 rfl rfl 21 (by decide) (hts (.fieldLink RX3 66 "TroubleCodesModel" "isFrozen" "[Z") (mem_at 1 rfl)) (fun _ h9 => h9) rfl dX3_frozenAt_14 ?_
    refine lv_iload_n hx hb dX3_frozenAt_17 rfl (lv_at hl 1 rfl) ?_
    refine x_zald (k := j) (f := g 21) hx hb hK hP 18 rfl (by omega) (by decide) dX3_frozenAt_18 ?_
    refine lv_if_eq (tgt := 31) hx hb dX3_frozenAt_19 (by decide) (fun c_3 => ?_) (fun c_3 => ?_)
    · refine lv_iconst (v := (-1)) hx hb dX3_frozenAt_31 (by decide) ?_
      exact hret 32 _ _ (by rw [fX3_frozenAt]; simp only [xj]; rw [if_pos c_2, if_pos c_3]) rfl dX3_frozenAt_32
    · refine lv_aload_n hx hb dX3_frozenAt_22 rfl (lv_at hl 0 rfl) ?_
      refine va_get (D := D) (ci := 3) (v := .ref (q 23)) (C := RX3) (T := TX3) (N := 33) hx hb hts hinX3 hown hK hP 0 rfl rfl 23 (by decide) (hts (.fieldLink RX3 72 "TroubleCodesModel" "frozenDrive" "[I") (mem_at 2 rfl)) (fun _ h9 => h9) rfl dX3_frozenAt_23 ?_
      refine lv_iload_n hx hb dX3_frozenAt_26 rfl (lv_at hl 1 rfl) ?_
      refine x_iald (k := j) (f := g 23) hx hb hK hP 20 rfl (by omega) (by decide) dX3_frozenAt_27 ?_
      refine lv_goto (tgt := 32) hx hb dX3_frozenAt_28 (by decide) ?_
      exact hret 32 _ _ (by rw [fX3_frozenAt]; simp only [xj]; rw [if_pos c_2, if_neg c_3]) rfl dX3_frozenAt_32
  · have c_2 := bI_eq c_2
    refine lv_bipush (v := (-2)) hx hb dX3_frozenAt_8 (by decide) ?_
    refine lv_goto (tgt := 32) hx hb dX3_frozenAt_10 (by decide) ?_
    exact hret 32 _ _ (by rw [fX3_frozenAt]; rw [if_neg c_2]) rfl dX3_frozenAt_32

def fX3_sets (g : Nat → Nat → Int32) (x : Int32) : Int32 := if 0 ≤ x ∧ x ≤ (g 0 0 - 1) then (g 15 (ix x)) else (-2)
set_option maxHeartbeats 4000000 in
set_option maxRecDepth 100000 in
theorem tX3_sets (l : Launch) (D : va_G) (cI cZ cC : ClassId) (q : Nat → Nat) (o : Nat) (g : Nat → Nat → Int32) (n : Nat) (hn : g 0 0 = nI n) (hnb : n ≤ 16) (x : Int32) : RdC l yX3_sets wsX3_sets (rmK 2) D cI cZ cC [.ref o, .int x] (fun H => va_P D vwCl (mW cI cZ q o g) H) (fun ans => ans = fX3_sets g x) := by
  refine RdC.of (cc := cX3_sets) (maxL := 2) (ret := .int) (by decide) rfl (Nat.le_of_ble_eq_true rfl) ?_
  intro p e s m args below meth c Q ls hx hb hml hts hown hK hP hret hl
  have hl : lv_has ls 2 [(0, .ref o), (1, .int x)] := hl
  have hP : va_P D vwCl (mW cI cZ q o g) s.heap := hP
  have hinX3 : ∀ w ∈ u_ws RX3 TX3 33, w ∈ wsX3_sets := (fun w h => List.mem_cons_of_mem _ (List.mem_append_right _ h))
  refine lv_aload_n hx hb dX3_sets_0 rfl (lv_at hl 0 rfl) ?_
  refine lv_iload_n hx hb dX3_sets_1 rfl (lv_at hl 1 rfl) ?_
  refine x_rdV (As := [.int x]) (rest := []) ⟨hx, hb, hml, hown, hts⟩ (tX3_isCheck l D cI cZ cC q o g x) (cwV 1 hts gX3_sets_X3_isCheck rfl rfl rfl (by decide +kernel) ⟨Nat.le_of_ble_eq_true rfl, Nat.le_of_ble_eq_true rfl⟩) hK (x_recv (ci := 3) hK hP rfl (q0 := 0) rfl) hP rfl hl.1 rfl (Nat.le_of_ble_eq_true rfl) dX3_sets_2 ⟨Nat.le_of_ble_eq_true rfl, Nat.le_of_ble_eq_true rfl⟩ (fun r_1 er_1 => ?_)
  have er_1 : r_1 = bI (0 ≤ x ∧ x ≤ (g 0 0 - 1)) := er_1
  subst er_1
  refine lv_if_eq (tgt := 17) hx hb dX3_sets_5 (by decide) (fun c_2 => ?_) (fun c_2 => ?_)
  · have c_2 := bI_eq c_2
    refine lv_bipush (v := (-2)) hx hb dX3_sets_17 (by decide) ?_
    exact hret 19 _ _ (by rw [fX3_sets]; rw [if_neg c_2]) rfl dX3_sets_19
  · have c_2 := bI_ne c_2
    obtain ⟨j, hj, ej⟩ := ixck hn (by omega) c_2
    subst ej
    have xj : ix (nI j) = j := ix_nI (by omega)
    refine lv_aload_n hx hb dX3_sets_8 rfl (lv_at hl 0 rfl) ?_
    refine va_get (D := D) (ci := 3) (v := .ref (q 15)) (C := RX3) (T := TX3) (N := 33) hx hb hts hinX3 hown hK hP 0 rfl rfl 15 (by decide) (hts (.fieldLink RX3 53 "TroubleCodesModel" "sets" "[I") (mem_at 1 rfl)) (fun _ h9 => h9) rfl dX3_sets_9 ?_
    refine lv_iload_n hx hb dX3_sets_12 rfl (lv_at hl 1 rfl) ?_
    refine x_iald (k := j) (f := g 15) hx hb hK hP 15 rfl (by omega) (by decide) dX3_sets_13 ?_
    refine lv_goto (tgt := 19) hx hb dX3_sets_14 (by decide) ?_
    exact hret 19 _ _ (by rw [fX3_sets]; simp only [xj]; rw [if_pos c_2]) rfl dX3_sets_19

theorem ix4 (k i : Nat) : (4 : Int32) * nI k + nI i = nI (4 * k + i) := by
  rw [show (4 : Int32) = nI 4 from rfl, pk_mul, nI_add]
theorem ix16 (k i : Nat) : (16 : Int32) * nI k + nI i = nI (16 * k + i) := by
  rw [show (16 : Int32) = nI 16 from rfl, pk_mul, nI_add]

def fX3_frozen (g : Nat → Nat → Int32) (x i : Int32) : Int32 := if 0 ≤ x ∧ x ≤ (g 0 0 - 1) then (if 0 ≤ i ∧ i ≤ 3 then (if (g 21 (ix x)) = 0 then (-2000) else (g 22 (4 * (ix x) + (ix i)))) else (-2000)) else (-2000)
set_option maxHeartbeats 4000000 in
set_option maxRecDepth 100000 in
theorem tX3_frozen (l : Launch) (D : va_G) (cI cZ cC : ClassId) (q : Nat → Nat) (o : Nat) (g : Nat → Nat → Int32) (n : Nat) (hn : g 0 0 = nI n) (hnb : n ≤ 16) (x i : Int32) : RdC l yX3_frozen wsX3_frozen (rmK 2) D cI cZ cC [.ref o, .int x, .int i] (fun H => va_P D vwCl (mW cI cZ q o g) H) (fun ans => ans = fX3_frozen g x i) := by
  refine RdC.of (cc := cX3_frozen) (maxL := 3) (ret := .int) (by decide) rfl (Nat.le_of_ble_eq_true rfl) ?_
  intro p e s m args below meth c Q ls hx hb hml hts hown hK hP hret hl
  have hl : lv_has ls 3 [(0, .ref o), (1, .int x), (2, .int i)] := hl
  have hP : va_P D vwCl (mW cI cZ q o g) s.heap := hP
  have hinX3 : ∀ w ∈ u_ws RX3 TX3 33, w ∈ wsX3_frozen := (fun w h => List.mem_cons_of_mem _ (List.mem_append_right _ h))
  refine lv_aload_n hx hb dX3_frozen_0 rfl (lv_at hl 0 rfl) ?_
  refine lv_iload_n hx hb dX3_frozen_1 rfl (lv_at hl 1 rfl) ?_
  refine x_rdV (As := [.int x]) (rest := []) ⟨hx, hb, hml, hown, hts⟩ (tX3_isCheck l D cI cZ cC q o g x) (cwV 1 hts gX3_frozen_X3_isCheck rfl rfl rfl (by decide +kernel) ⟨Nat.le_of_ble_eq_true rfl, Nat.le_of_ble_eq_true rfl⟩) hK (x_recv (ci := 3) hK hP rfl (q0 := 0) rfl) hP rfl hl.1 rfl (Nat.le_of_ble_eq_true rfl) dX3_frozen_2 ⟨Nat.le_of_ble_eq_true rfl, Nat.le_of_ble_eq_true rfl⟩ (fun r_1 er_1 => ?_)
  have er_1 : r_1 = bI (0 ≤ x ∧ x ≤ (g 0 0 - 1)) := er_1
  subst er_1
  refine lv_if_eq (tgt := 39) hx hb dX3_frozen_5 (by decide) (fun c_2 => ?_) (fun c_2 => ?_)
  · have c_2 := bI_eq c_2
    refine lv_sipush (v := (-2000)) hx hb dX3_frozen_39 (by decide) ?_
    exact hret 42 _ _ (by rw [fX3_frozen]; rw [if_neg c_2]) rfl dX3_frozen_42
  · have c_2 := bI_ne c_2
    refine lv_iload_n hx hb dX3_frozen_8 rfl (lv_at hl 2 rfl) ?_
    refine lv_iconst (v := 0) hx hb dX3_frozen_9 (by decide) ?_
    refine lv_iconst (v := 3) hx hb dX3_frozen_10 (by decide) ?_
    refine x_rdS (As := [.int i, .int 0, .int 3]) (rest := []) ⟨hx, hb, hml, hown, hts⟩ (tX3_in l D cI cZ cC i 0 3) (va_cwS 3 hts gX3_frozen_X3_in rfl rfl rfl (by decide +kernel) ⟨Nat.le_of_ble_eq_true rfl, Nat.le_of_ble_eq_true rfl⟩) hK trivial rfl hl.1 rfl (Nat.le_of_ble_eq_true rfl) dX3_frozen_11 ⟨Nat.le_of_ble_eq_true rfl, Nat.le_of_ble_eq_true rfl⟩ (fun r_3 er_3 => ?_)
    have er_3 : r_3 = bI (0 ≤ i ∧ i ≤ 3) := er_3
    subst er_3
    refine lv_if_eq (tgt := 39) hx hb dX3_frozen_14 (by decide) (fun c_4 => ?_) (fun c_4 => ?_)
    · have c_4 := bI_eq c_4
      refine lv_sipush (v := (-2000)) hx hb dX3_frozen_39 (by decide) ?_
      exact hret 42 _ _ (by rw [fX3_frozen]; rw [if_pos c_2, if_neg c_4]) rfl dX3_frozen_42
    · have c_4 := bI_ne c_4
      obtain ⟨j, hj, ej⟩ := ixck hn (by omega) c_2
      subst ej
      have xj : ix (nI j) = j := ix_nI (by omega)
      obtain ⟨jb, hjb, ejb⟩ := ixin (m := 3) (z := 3) rfl (by decide) c_4
      subst ejb
      have xjb : ix (nI jb) = jb := ix_nI (by omega)
      refine lv_aload_n hx hb dX3_frozen_17 rfl (lv_at hl 0 rfl) ?_
      refine va_get (D := D) (ci := 3) (v := .ref (q 21)) (C := RX3) (T := TX3) (N := 33) hx hb hts hinX3 hown hK hP 0 rfl rfl 21 (by decide) (hts (.fieldLink RX3 66 "TroubleCodesModel" "isFrozen" "[Z") (mem_at 1 rfl)) (fun _ h9 => h9) rfl dX3_frozen_18 ?_
      refine lv_iload_n hx hb dX3_frozen_21 rfl (lv_at hl 1 rfl) ?_
      refine x_zald (k := j) (f := g 21) hx hb hK hP 18 rfl (by omega) (by decide) dX3_frozen_22 ?_
      refine lv_if_eq (tgt := 39) hx hb dX3_frozen_23 (by decide) (fun c_5 => ?_) (fun c_5 => ?_)
      · refine lv_sipush (v := (-2000)) hx hb dX3_frozen_39 (by decide) ?_
        exact hret 42 _ _ (by rw [fX3_frozen]; simp only [xj, xjb]; rw [if_pos c_2, if_pos c_4, if_pos c_5]) rfl dX3_frozen_42
      · refine lv_aload_n hx hb dX3_frozen_26 rfl (lv_at hl 0 rfl) ?_
        refine va_get (D := D) (ci := 3) (v := .ref (q 22)) (C := RX3) (T := TX3) (N := 33) hx hb hts hinX3 hown hK hP 0 rfl rfl 22 (by decide) (hts (.fieldLink RX3 69 "TroubleCodesModel" "frozenFact" "[I") (mem_at 2 rfl)) (fun _ h9 => h9) rfl dX3_frozen_27 ?_
        refine lv_iconst (v := 4) hx hb dX3_frozen_30 (by decide) ?_
        refine lv_iload_n hx hb dX3_frozen_31 rfl (lv_at hl 1 rfl) ?_
        refine lv_imul hx hb dX3_frozen_32 ?_
        refine lv_iload_n hx hb dX3_frozen_33 rfl (lv_at hl 2 rfl) ?_
        refine lv_iadd hx hb dX3_frozen_34 ?_
        rw [ix4]
        refine x_iald (k := (4 * j + jb)) (f := g 22) hx hb hK hP 19 rfl (by omega) (by decide) dX3_frozen_35 ?_
        refine lv_goto (tgt := 42) hx hb dX3_frozen_36 (by decide) ?_
        exact hret 42 _ _ (by rw [fX3_frozen]; simp only [xj, xjb]; rw [if_pos c_2, if_pos c_4, if_neg c_5]) rfl dX3_frozen_42

def fX3_foretells (g : Nat → Nat → Int32) (y x : Int32) : Int32 := if 0 ≤ y ∧ y ≤ (g 0 0 - 1) then (if 0 ≤ x ∧ x ≤ (g 0 0 - 1) then (g 16 (16 * (ix y) + (ix x))) else (-2)) else (-2)
set_option maxHeartbeats 4000000 in
set_option maxRecDepth 100000 in
theorem tX3_foretells (l : Launch) (D : va_G) (cI cZ cC : ClassId) (q : Nat → Nat) (o : Nat) (g : Nat → Nat → Int32) (n : Nat) (hn : g 0 0 = nI n) (hnb : n ≤ 16) (y x : Int32) : RdC l yX3_foretells wsX3_foretells (rmK 2) D cI cZ cC [.ref o, .int y, .int x] (fun H => va_P D vwCl (mW cI cZ q o g) H) (fun ans => ans = fX3_foretells g y x) := by
  refine RdC.of (cc := cX3_foretells) (maxL := 3) (ret := .int) (by decide) rfl (Nat.le_of_ble_eq_true rfl) ?_
  intro p e s m args below meth c Q ls hx hb hml hts hown hK hP hret hl
  have hl : lv_has ls 3 [(0, .ref o), (1, .int y), (2, .int x)] := hl
  have hP : va_P D vwCl (mW cI cZ q o g) s.heap := hP
  have hinX3 : ∀ w ∈ u_ws RX3 TX3 33, w ∈ wsX3_foretells := (fun w h => List.mem_cons_of_mem _ (List.mem_append_right _ h))
  refine lv_aload_n hx hb dX3_foretells_0 rfl (lv_at hl 0 rfl) ?_
  refine lv_iload_n hx hb dX3_foretells_1 rfl (lv_at hl 1 rfl) ?_
  refine x_rdV (As := [.int y]) (rest := []) ⟨hx, hb, hml, hown, hts⟩ (tX3_isCheck l D cI cZ cC q o g y) (cwV 1 hts gX3_foretells_X3_isCheck rfl rfl rfl (by decide +kernel) ⟨Nat.le_of_ble_eq_true rfl, Nat.le_of_ble_eq_true rfl⟩) hK (x_recv (ci := 3) hK hP rfl (q0 := 0) rfl) hP rfl hl.1 rfl (Nat.le_of_ble_eq_true rfl) dX3_foretells_2 ⟨Nat.le_of_ble_eq_true rfl, Nat.le_of_ble_eq_true rfl⟩ (fun r_1 er_1 => ?_)
  have er_1 : r_1 = bI (0 ≤ y ∧ y ≤ (g 0 0 - 1)) := er_1
  subst er_1
  refine lv_if_eq (tgt := 30) hx hb dX3_foretells_5 (by decide) (fun c_2 => ?_) (fun c_2 => ?_)
  · have c_2 := bI_eq c_2
    refine lv_bipush (v := (-2)) hx hb dX3_foretells_30 (by decide) ?_
    exact hret 32 _ _ (by rw [fX3_foretells]; rw [if_neg c_2]) rfl dX3_foretells_32
  · have c_2 := bI_ne c_2
    refine lv_aload_n hx hb dX3_foretells_8 rfl (lv_at hl 0 rfl) ?_
    refine lv_iload_n hx hb dX3_foretells_9 rfl (lv_at hl 2 rfl) ?_
    refine x_rdV (As := [.int x]) (rest := []) ⟨hx, hb, hml, hown, hts⟩ (tX3_isCheck l D cI cZ cC q o g x) (cwV 1 hts gX3_foretells_X3_isCheck rfl rfl rfl (by decide +kernel) ⟨Nat.le_of_ble_eq_true rfl, Nat.le_of_ble_eq_true rfl⟩) hK (x_recv (ci := 3) hK hP rfl (q0 := 0) rfl) hP rfl hl.1 rfl (Nat.le_of_ble_eq_true rfl) dX3_foretells_10 ⟨Nat.le_of_ble_eq_true rfl, Nat.le_of_ble_eq_true rfl⟩ (fun r_3 er_3 => ?_)
    have er_3 : r_3 = bI (0 ≤ x ∧ x ≤ (g 0 0 - 1)) := er_3
    subst er_3
    refine lv_if_eq (tgt := 30) hx hb dX3_foretells_13 (by decide) (fun c_4 => ?_) (fun c_4 => ?_)
    · have c_4 := bI_eq c_4
      refine lv_bipush (v := (-2)) hx hb dX3_foretells_30 (by decide) ?_
      exact hret 32 _ _ (by rw [fX3_foretells]; rw [if_pos c_2, if_neg c_4]) rfl dX3_foretells_32
    · have c_4 := bI_ne c_4
      obtain ⟨jb, hjb, ejb⟩ := ixck hn (by omega) c_2
      subst ejb
      have xjb : ix (nI jb) = jb := ix_nI (by omega)
      obtain ⟨j, hj, ej⟩ := ixck hn (by omega) c_4
      subst ej
      have xj : ix (nI j) = j := ix_nI (by omega)
      refine lv_aload_n hx hb dX3_foretells_16 rfl (lv_at hl 0 rfl) ?_
      refine va_get (D := D) (ci := 3) (v := .ref (q 16)) (C := RX3) (T := TX3) (N := 33) hx hb hts hinX3 hown hK hP 0 rfl rfl 16 (by decide) (hts (.fieldLink RX3 56 "TroubleCodesModel" "foretold" "[I") (mem_at 1 rfl)) (fun _ h9 => h9) rfl dX3_foretells_17 ?_
      refine lv_bipush (v := 16) hx hb dX3_foretells_20 (by decide) ?_
      refine lv_iload_n hx hb dX3_foretells_22 rfl (lv_at hl 1 rfl) ?_
      refine lv_imul hx hb dX3_foretells_23 ?_
      refine lv_iload_n hx hb dX3_foretells_24 rfl (lv_at hl 2 rfl) ?_
      refine lv_iadd hx hb dX3_foretells_25 ?_
      rw [ix16]
      refine x_iald (k := (16 * jb + j)) (f := g 16) hx hb hK hP 16 rfl (by omega) (by decide) dX3_foretells_26 ?_
      refine lv_goto (tgt := 32) hx hb dX3_foretells_27 (by decide) ?_
      exact hret 32 _ _ (by rw [fX3_foretells]; simp only [xjb, xj]; rw [if_pos c_2, if_pos c_4]) rfl dX3_foretells_32
