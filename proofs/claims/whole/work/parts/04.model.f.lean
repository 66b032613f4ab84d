def fX3_check (g : Nat → Nat → Int32) (x1 x2 x3 x4 x5 x6 x7 : Int32) : Int32 × (Nat → Nat → Int32) := if 0 ≤ x1 ∧ x1 ≤ 2 then (if x1 = 2 then (if 0 ≤ x2 ∧ x2 ≤ (g 0 0 - 1) then (if 1 ≤ x3 ∧ x3 ≤ 9 then (if 1 ≤ x4 ∧ x4 ≤ 9 then (if 1 ≤ x5 ∧ x5 ≤ 90 then (if 0 ≤ x6 ∧ x6 ≤ 9 then (if (g 17 0) = 0 then (if (g 0 0) = 16 then ((-4), g) else (((g 0 0) + 1) - 1, va_up (va_up (va_up (va_up (va_up (va_up (va_up (va_up g 0 (fun _ => (g 0 0) + 1)) 1 (upd (g 1) (ix (g 0 0)) x1)) 2 (upd (g 2) (ix (g 0 0)) x2)) 3 (upd (g 3) (ix (g 0 0)) x3)) 4 (upd (g 4) (ix (g 0 0)) x4)) 5 (upd (g 5) (ix (g 0 0)) x5)) 6 (upd (g 6) (ix (g 0 0)) x6)) 7 (upd (g 7) (ix (g 0 0)) x7))) else ((-3), g)) else ((-2), g)) else ((-2), g)) else ((-2), g)) else ((-2), g)) else ((-2), g)) else (if 1 ≤ x3 ∧ x3 ≤ 9 then (if 1 ≤ x4 ∧ x4 ≤ 9 then (if 1 ≤ x5 ∧ x5 ≤ 90 then (if 0 ≤ x6 ∧ x6 ≤ 9 then (if (g 17 0) = 0 then (if (g 0 0) = 16 then ((-4), g) else (((g 0 0) + 1) - 1, va_up (va_up (va_up (va_up (va_up (va_up (va_up (va_up g 0 (fun _ => (g 0 0) + 1)) 1 (upd (g 1) (ix (g 0 0)) x1)) 2 (upd (g 2) (ix (g 0 0)) x2)) 3 (upd (g 3) (ix (g 0 0)) x3)) 4 (upd (g 4) (ix (g 0 0)) x4)) 5 (upd (g 5) (ix (g 0 0)) x5)) 6 (upd (g 6) (ix (g 0 0)) x6)) 7 (upd (g 7) (ix (g 0 0)) x7))) else ((-3), g)) else ((-2), g)) else ((-2), g)) else ((-2), g)) else ((-2), g))) else ((-2), g)
set_option maxHeartbeats 4000000 in
set_option maxRecDepth 100000 in
theorem tX3_check (l : Launch) (D : va_G) (cI cZ cC : ClassId) (q : Nat → Nat) (o : Nat) (g : Nat → Nat → Int32) (n : Nat) (hn : g 0 0 = nI n) (hnb : n ≤ 16) (x1 x2 x3 x4 x5 x6 x7 : Int32) (h7 : x7 = 0 ∨ x7 = 1) : WrI l yX3_check wsX3_check (rmK 2) D cI cZ cC [.ref o, .int x1, .int x2, .int x3, .int x4, .int x5, .int x6, .int x7] (mW cI cZ q o g) (mW cI cZ q o ((fX3_check g x1 x2 x3 x4 x5 x6 x7).2)) (fun ans => ans = (fX3_check g x1 x2 x3 x4 x5 x6 x7).1) := by
  refine WrI.of (cc := cX3_check) (maxL := 8) (ret := .int) (by decide) rfl (Nat.le_of_ble_eq_true rfl) ?_
  intro p e s m args below meth c Q A ls hx hb hml hts hown hK hP hD hS hA hret hl
  have hl : lv_has ls 8 [(0, .ref o), (1, .int x1), (2, .int x2), (3, .int x3), (4, .int x4), (5, .int x5), (6, .int x6), (7, .int x7)] := hl
  have hinX3 : ∀ w ∈ u_ws RX3 TX3 33, w ∈ wsX3_check := (fun w h => List.mem_cons_of_mem _ (List.mem_append_right _ h))
  refine lv_iload_n hx hb dX3_check_0 rfl (lv_at hl 1 rfl) ?_
  refine lv_iconst (v := 0) hx hb dX3_check_1 (by decide) ?_
  refine lv_iconst (v := 2) hx hb dX3_check_2 (by decide) ?_
  refine x_rdS (As := [.int x1, .int 0, .int 2]) (rest := []) ⟨hx, hb, hml, hown, hts⟩ (tX3_in l D cI cZ cC x1 0 2) (va_cwS 3 hts gX3_check_X3_in rfl rfl rfl (by decide +kernel) ⟨Nat.le_of_ble_eq_true rfl, Nat.le_of_ble_eq_true rfl⟩) hK trivial rfl hl.1 rfl (Nat.le_of_ble_eq_true rfl) dX3_check_3 ⟨Nat.le_of_ble_eq_true rfl, Nat.le_of_ble_eq_true rfl⟩ (fun r_1 er_1 => ?_)
  have er_1 : r_1 = bI (0 ≤ x1 ∧ x1 ≤ 2) := er_1
  subst er_1
  refine lv_if_eq (tgt := 65) hx hb dX3_check_6 (by decide) (fun c_2 => ?_) (fun c_2 => ?_)
  · have c_2 := bI_eq c_2
    refine lv_bipush (v := (-2)) hx hb dX3_check_65 (by decide) ?_
    have es : fX3_check g x1 x2 x3 x4 x5 x6 x7 = ((-2), g) := by rw [fX3_check]; rw [if_neg c_2]
    exact hret 67 _ _ _ _ (by rw [es]) (by rw [es]; exact hP) (by rw [es]; exact hD) hS rfl dX3_check_67
  · have c_2 := bI_ne c_2
    refine lv_iload_n hx hb dX3_check_9 rfl (lv_at hl 1 rfl) ?_
    refine lv_iconst (v := 2) hx hb dX3_check_10 (by decide) ?_
    refine lv_icmp_ne (tgt := 22) hx hb dX3_check_11 (by decide) (fun c_3 => ?_) (fun c_3 => ?_)
    · refine lv_iload_n hx hb dX3_check_22 rfl (lv_at hl 3 rfl) ?_
      refine lv_iconst (v := 1) hx hb dX3_check_23 (by decide) ?_
      refine lv_bipush (v := 9) hx hb dX3_check_24 (by decide) ?_
      refine x_rdS (As := [.int x3, .int 1, .int 9]) (rest := []) ⟨hx, hb, hml, hown, hts⟩ (tX3_in l D cI cZ cC x3 1 9) (va_cwS 3 hts gX3_check_X3_in rfl rfl rfl (by decide +kernel) ⟨Nat.le_of_ble_eq_true rfl, Nat.le_of_ble_eq_true rfl⟩) hK trivial rfl hl.1 rfl (Nat.le_of_ble_eq_true rfl) dX3_check_26 ⟨Nat.le_of_ble_eq_true rfl, Nat.le_of_ble_eq_true rfl⟩ (fun r_4 er_4 => ?_)
      have er_4 : r_4 = bI (1 ≤ x3 ∧ x3 ≤ 9) := er_4
      subst er_4
      refine lv_if_eq (tgt := 65) hx hb dX3_check_29 (by decide) (fun c_5 => ?_) (fun c_5 => ?_)
      · have c_5 := bI_eq c_5
        refine lv_bipush (v := (-2)) hx hb dX3_check_65 (by decide) ?_
        have es : fX3_check g x1 x2 x3 x4 x5 x6 x7 = ((-2), g) := by rw [fX3_check]; rw [if_pos c_2, if_neg c_3, if_neg c_5]
        exact hret 67 _ _ _ _ (by rw [es]) (by rw [es]; exact hP) (by rw [es]; exact hD) hS rfl dX3_check_67
      · have c_5 := bI_ne c_5
        refine lv_iload hx hb dX3_check_32 (lv_at hl 4 rfl) ?_
        refine lv_iconst (v := 1) hx hb dX3_check_34 (by decide) ?_
        refine lv_bipush (v := 9) hx hb dX3_check_35 (by decide) ?_
        refine x_rdS (As := [.int x4, .int 1, .int 9]) (rest := []) ⟨hx, hb, hml, hown, hts⟩ (tX3_in l D cI cZ cC x4 1 9) (va_cwS 3 hts gX3_check_X3_in rfl rfl rfl (by decide +kernel) ⟨Nat.le_of_ble_eq_true rfl, Nat.le_of_ble_eq_true rfl⟩) hK trivial rfl hl.1 rfl (Nat.le_of_ble_eq_true rfl) dX3_check_37 ⟨Nat.le_of_ble_eq_true rfl, Nat.le_of_ble_eq_true rfl⟩ (fun r_6 er_6 => ?_)
        have er_6 : r_6 = bI (1 ≤ x4 ∧ x4 ≤ 9) := er_6
        subst er_6
        refine lv_if_eq (tgt := 65) hx hb dX3_check_40 (by decide) (fun c_7 => ?_) (fun c_7 => ?_)
        · have c_7 := bI_eq c_7
          refine lv_bipush (v := (-2)) hx hb dX3_check_65 (by decide) ?_
          have es : fX3_check g x1 x2 x3 x4 x5 x6 x7 = ((-2), g) := by rw [fX3_check]; rw [if_pos c_2, if_neg c_3, if_pos c_5, if_neg c_7]
          exact hret 67 _ _ _ _ (by rw [es]) (by rw [es]; exact hP) (by rw [es]; exact hD) hS rfl dX3_check_67
        · have c_7 := bI_ne c_7
          refine lv_iload hx hb dX3_check_43 (lv_at hl 5 rfl) ?_
          refine lv_iconst (v := 1) hx hb dX3_check_45 (by decide) ?_
          refine lv_bipush (v := 90) hx hb dX3_check_46 (by decide) ?_
          refine x_rdS (As := [.int x5, .int 1, .int 90]) (rest := []) ⟨hx, hb, hml, hown, hts⟩ (tX3_in l D cI cZ cC x5 1 90) (va_cwS 3 hts gX3_check_X3_in rfl rfl rfl (by decide +kernel) ⟨Nat.le_of_ble_eq_true rfl, Nat.le_of_ble_eq_true rfl⟩) hK trivial rfl hl.1 rfl (Nat.le_of_ble_eq_true rfl) dX3_check_48 ⟨Nat.le_of_ble_eq_true rfl, Nat.le_of_ble_eq_true rfl⟩ (fun r_8 er_8 => ?_)
          have er_8 : r_8 = bI (1 ≤ x5 ∧ x5 ≤ 90) := er_8
          subst er_8
          refine lv_if_eq (tgt := 65) hx hb dX3_check_51 (by decide) (fun c_9 => ?_) (fun c_9 => ?_)
          · have c_9 := bI_eq c_9
            refine lv_bipush (v := (-2)) hx hb dX3_check_65 (by decide) ?_
            have es : fX3_check g x1 x2 x3 x4 x5 x6 x7 = ((-2), g) := by rw [fX3_check]; rw [if_pos c_2, if_neg c_3, if_pos c_5, if_pos c_7, if_neg c_9]
            exact hret 67 _ _ _ _ (by rw [es]) (by rw [es]; exact hP) (by rw [es]; exact hD) hS rfl dX3_check_67
          · have c_9 := bI_ne c_9
            refine lv_iload hx hb dX3_check_54 (lv_at hl 6 rfl) ?_
            refine lv_iconst (v := 0) hx hb dX3_check_56 (by decide) ?_
            refine lv_bipush (v := 9) hx hb dX3_check_57 (by decide) ?_
            refine x_rdS (As := [.int x6, .int 0, .int 9]) (rest := []) ⟨hx, hb, hml, hown, hts⟩ (tX3_in l D cI cZ cC x6 0 9) (va_cwS 3 hts gX3_check_X3_in rfl rfl rfl (by decide +kernel) ⟨Nat.le_of_ble_eq_true rfl, Nat.le_of_ble_eq_true rfl⟩) hK trivial rfl hl.1 rfl (Nat.le_of_ble_eq_true rfl) dX3_check_59 ⟨Nat.le_of_ble_eq_true rfl, Nat.le_of_ble_eq_true rfl⟩ (fun r_10 er_10 => ?_)
            have er_10 : r_10 = bI (0 ≤ x6 ∧ x6 ≤ 9) := er_10
            subst er_10
            refine lv_if_ne (tgt := 68) hx hb dX3_check_62 (by decide) (fun c_11 => ?_) (fun c_11 => ?_)
            · have c_11 := bI_ne c_11
              refine lv_aload_n hx hb dX3_check_68 rfl (lv_at hl 0 rfl) ?_
              refine va_get (D := D) (ci := 3) (v := .int (g 17 0)) (C := RX3) (T := TX3) (N := 33) hx hb hts hinX3 hown hK hP 0 rfl rfl 17 (by decide) (hts (.fieldLink RX3 104 "TroubleCodesModel" "goes" "Z") (mem_at 1 rfl)) (fun _ h9 => h9) rfl dX3_check_69 ?_
              refine lv_if_eq (tgt := 78) hx hb dX3_check_72 (by decide) (fun c_12 => ?_) (fun c_12 => ?_)
              · refine lv_aload_n hx hb dX3_check_78 rfl (lv_at hl 0 rfl) ?_
                refine va_get (D := D) (ci := 3) (v := .int (g 0 0)) (C := RX3) (T := TX3) (N := 33) hx hb hts hinX3 hown hK hP 0 rfl rfl 0 (by decide) (hts (.fieldLink RX3 93 "TroubleCodesModel" "checks" "I") (mem_at 2 rfl)) (fun _ h9 => h9) rfl dX3_check_79 ?_
                refine lv_bipush (v := 16) hx hb dX3_check_82 (by decide) ?_
                refine lv_icmp_ne (tgt := 90) hx hb dX3_check_84 (by decide) (fun c_13 => ?_) (fun c_13 => ?_)
                · have hn15 : n < 16 := Nat.lt_of_le_of_ne hnb (fun h => c_13 (by rw [hn, h]; rfl))
                  have xn : ix (g 0 0) = n := by rw [hn]; exact ix_nI (by omega)
                  refine lv_aload_n hx hb dX3_check_90 rfl (lv_at hl 0 rfl) ?_
                  refine va_get (D := D) (ci := 3) (v := .ref (q 1)) (C := RX3) (T := TX3) (N := 33) hx hb hts hinX3 hown hK hP 0 rfl rfl 1 (by decide) (hts (.fieldLink RX3 7 "TroubleCodesModel" "sort" "[I") (mem_at 3 rfl)) (fun _ h9 => h9) rfl dX3_check_91 ?_
                  refine lv_aload_n hx hb dX3_check_94 rfl (lv_at hl 0 rfl) ?_
                  refine va_get (D := D) (ci := 3) (v := .int (g 0 0)) (C := RX3) (T := TX3) (N := 33) hx hb hts hinX3 hown hK hP 0 rfl rfl 0 (by decide) (hts (.fieldLink RX3 93 "TroubleCodesModel" "checks" "I") (mem_at 2 rfl)) (fun _ h9 => h9) rfl dX3_check_95 ?_
                  refine lv_iload_n hx hb dX3_check_98 rfl (lv_at hl 1 rfl) ?_
                  rw [hn]
                  refine x_iast (k := n) (f := g 1) (x := x1) hx hb hK hP hD hS 1 rfl (by omega) (by decide) dX3_check_99 (fun H locs hP hD hS => ?_)
                  have hP : va_P D vwCl (mW cI cZ q o (va_up g 1 (upd (g 1) n x1))) H := hP
                  have hD : va_D A (mW cI cZ q o (va_up g 1 (upd (g 1) n x1))) := hD
                  refine lv_aload_n hx hb dX3_check_100 rfl (lv_at hl 0 rfl) ?_
                  refine va_get (D := D) (ci := 3) (v := .ref (q 2)) (C := RX3) (T := TX3) (N := 33) hx hb hts hinX3 hown hK hP 0 rfl rfl 2 (by decide) (hts (.fieldLink RX3 13 "TroubleCodesModel" "follows" "[I") (mem_at 4 rfl)) (fun _ h9 => h9) rfl dX3_check_101 ?_
                  refine lv_aload_n hx hb dX3_check_104 rfl (lv_at hl 0 rfl) ?_
                  refine va_get (D := D) (ci := 3) (v := .int (g 0 0)) (C := RX3) (T := TX3) (N := 33) hx hb hts hinX3 hown hK hP 0 rfl rfl 0 (by decide) (hts (.fieldLink RX3 93 "TroubleCodesModel" "checks" "I") (mem_at 2 rfl)) (fun _ h9 => h9) rfl dX3_check_105 ?_
                  refine lv_iload_n hx hb dX3_check_108 rfl (lv_at hl 2 rfl) ?_
                  rw [hn]
                  refine x_iast (k := n) (f := g 2) (x := x2) hx hb hK hP hD hS 2 rfl (by omega) (by decide) dX3_check_109 (fun H locs hP hD hS => ?_)
                  have hP : va_P D vwCl (mW cI cZ q o (va_up (va_up g 1 (upd (g 1) n x1)) 2 (upd (g 2) n x2))) H := hP
                  have hD : va_D A (mW cI cZ q o (va_up (va_up g 1 (upd (g 1) n x1)) 2 (upd (g 2) n x2))) := hD
                  refine lv_aload_n hx hb dX3_check_110 rfl (lv_at hl 0 rfl) ?_
                  refine va_get (D := D) (ci := 3) (v := .ref (q 3)) (C := RX3) (T := TX3) (N := 33) hx hb hts hinX3 hown hK hP 0 rfl rfl 3 (by decide) (hts (.fieldLink RX3 16 "TroubleCodesModel" "badAt" "[I") (mem_at 5 rfl)) (fun _ h9 => h9) rfl dX3_check_111 ?_
                  refine lv_aload_n hx hb dX3_check_114 rfl (lv_at hl 0 rfl) ?_
                  refine va_get (D := D) (ci := 3) (v := .int (g 0 0)) (C := RX3) (T := TX3) (N := 33) hx hb hts hinX3 hown hK hP 0 rfl rfl 0 (by decide) (hts (.fieldLink RX3 93 "TroubleCodesModel" "checks" "I") (mem_at 2 rfl)) (fun _ h9 => h9) rfl dX3_check_115 ?_
                  refine lv_iload_n hx hb dX3_check_118 rfl (lv_at hl 3 rfl) ?_
                  rw [hn]
                  refine x_iast (k := n) (f := g 3) (x := x3) hx hb hK hP hD hS 3 rfl (by omega) (by decide) dX3_check_119 (fun H locs hP hD hS => ?_)
                  have hP : va_P D vwCl (mW cI cZ q o (va_up (va_up (va_up g 1 (upd (g 1) n x1)) 2 (upd (g 2) n x2)) 3 (upd (g 3) n x3))) H := hP
                  have hD : va_D A (mW cI cZ q o (va_up (va_up (va_up g 1 (upd (g 1) n x1)) 2 (upd (g 2) n x2)) 3 (upd (g 3) n x3))) := hD
                  refine lv_aload_n hx hb dX3_check_120 rfl (lv_at hl 0 rfl) ?_
                  refine va_get (D := D) (ci := 3) (v := .ref (q 4)) (C := RX3) (T := TX3) (N := 33) hx hb hts hinX3 hown hK hP 0 rfl rfl 4 (by decide) (hts (.fieldLink RX3 19 "TroubleCodesModel" "goodAt" "[I") (mem_at 6 rfl)) (fun _ h9 => h9) rfl dX3_check_121 ?_
                  refine lv_aload_n hx hb dX3_check_124 rfl (lv_at hl 0 rfl) ?_
                  refine va_get (D := D) (ci := 3) (v := .int (g 0 0)) (C := RX3) (T := TX3) (N := 33) hx hb hts hinX3 hown hK hP 0 rfl rfl 0 (by decide) (hts (.fieldLink RX3 93 "TroubleCodesModel" "checks" "I") (mem_at 2 rfl)) (fun _ h9 => h9) rfl dX3_check_125 ?_
                  refine lv_iload hx hb dX3_check_128 (lv_at hl 4 rfl) ?_
                  rw [hn]
                  refine x_iast (k := n) (f := g 4) (x := x4) hx hb hK hP hD hS 4 rfl (by omega) (by decide) dX3_check_130 (fun H locs hP hD hS => ?_)
                  have hP : va_P D vwCl (mW cI cZ q o (va_up (va_up (va_up (va_up g 1 (upd (g 1) n x1)) 2 (upd (g 2) n x2)) 3 (upd (g 3) n x3)) 4 (upd (g 4) n x4))) H := hP
                  have hD : va_D A (mW cI cZ q o (va_up (va_up (va_up (va_up g 1 (upd (g 1) n x1)) 2 (upd (g 2) n x2)) 3 (upd (g 3) n x3)) 4 (upd (g 4) n x4))) := hD
                  refine lv_aload_n hx hb dX3_check_131 rfl (lv_at hl 0 rfl) ?_
                  refine va_get (D := D) (ci := 3) (v := .ref (q 5)) (C := RX3) (T := TX3) (N := 33) hx hb hts hinX3 hown hK hP 0 rfl rfl 5 (by decide) (hts (.fieldLink RX3 22 "TroubleCodesModel" "ageAt" "[I") (mem_at 7 rfl)) (fun _ h9 => h9) rfl dX3_check_132 ?_
                  refine lv_aload_n hx hb dX3_check_135 rfl (lv_at hl 0 rfl) ?_
                  refine va_get (D := D) (ci := 3) (v := .int (g 0 0)) (C := RX3) (T := TX3) (N := 33) hx hb hts hinX3 hown hK hP 0 rfl rfl 0 (by decide) (hts (.fieldLink RX3 93 "TroubleCodesModel" "checks" "I") (mem_at 2 rfl)) (fun _ h9 => h9) rfl dX3_check_136 ?_
                  refine lv_iload hx hb dX3_check_139 (lv_at hl 5 rfl) ?_
                  rw [hn]
                  refine x_iast (k := n) (f := g 5) (x := x5) hx hb hK hP hD hS 5 rfl (by omega) (by decide) dX3_check_141 (fun H locs hP hD hS => ?_)
                  have hP : va_P D vwCl (mW cI cZ q o (va_up (va_up (va_up (va_up (va_up g 1 (upd (g 1) n x1)) 2 (upd (g 2) n x2)) 3 (upd (g 3) n x3)) 4 (upd (g 4) n x4)) 5 (upd (g 5) n x5))) H := hP
                  have hD : va_D A (mW cI cZ q o (va_up (va_up (va_up (va_up (va_up g 1 (upd (g 1) n x1)) 2 (upd (g 2) n x2)) 3 (upd (g 3) n x3)) 4 (upd (g 4) n x4)) 5 (upd (g 5) n x5))) := hD
                  refine lv_aload_n hx hb dX3_check_142 rfl (lv_at hl 0 rfl) ?_
                  refine va_get (D := D) (ci := 3) (v := .ref (q 6)) (C := RX3) (T := TX3) (N := 33) hx hb hts hinX3 hown hK hP 0 rfl rfl 6 (by decide) (hts (.fieldLink RX3 25 "TroubleCodesModel" "weight" "[I") (mem_at 8 rfl)) (fun _ h9 => h9) rfl dX3_check_143 ?_
                  refine lv_aload_n hx hb dX3_check_146 rfl (lv_at hl 0 rfl) ?_
                  refine va_get (D := D) (ci := 3) (v := .int (g 0 0)) (C := RX3) (T := TX3) (N := 33) hx hb hts hinX3 hown hK hP 0 rfl rfl 0 (by decide) (hts (.fieldLink RX3 93 "TroubleCodesModel" "checks" "I") (mem_at 2 rfl)) (fun _ h9 => h9) rfl dX3_check_147 ?_
                  refine lv_iload hx hb dX3_check_150 (lv_at hl 6 rfl) ?_
                  rw [hn]
                  refine x_iast (k := n) (f := g 6) (x := x6) hx hb hK hP hD hS 6 rfl (by omega) (by decide) dX3_check_152 (fun H locs hP hD hS => ?_)
                  have hP : va_P D vwCl (mW cI cZ q o (va_up (va_up (va_up (va_up (va_up (va_up g 1 (upd (g 1) n x1)) 2 (upd (g 2) n x2)) 3 (upd (g 3) n x3)) 4 (upd (g 4) n x4)) 5 (upd (g 5) n x5)) 6 (upd (g 6) n x6))) H := hP
                  have hD : va_D A (mW cI cZ q o (va_up (va_up (va_up (va_up (va_up (va_up g 1 (upd (g 1) n x1)) 2 (upd (g 2) n x2)) 3 (upd (g 3) n x3)) 4 (upd (g 4) n x4)) 5 (upd (g 5) n x5)) 6 (upd (g 6) n x6))) := hD
                  refine lv_aload_n hx hb dX3_check_153 rfl (lv_at hl 0 rfl) ?_
                  refine va_get (D := D) (ci := 3) (v := .ref (q 7)) (C := RX3) (T := TX3) (N := 33) hx hb hts hinX3 hown hK hP 0 rfl rfl 7 (by decide) (hts (.fieldLink RX3 28 "TroubleCodesModel" "hasLamp" "[Z") (mem_at 9 rfl)) (fun _ h9 => h9) rfl dX3_check_154 ?_
                  refine lv_aload_n hx hb dX3_check_157 rfl (lv_at hl 0 rfl) ?_
                  refine va_get (D := D) (ci := 3) (v := .int (g 0 0)) (C := RX3) (T := TX3) (N := 33) hx hb hts hinX3 hown hK hP 0 rfl rfl 0 (by decide) (hts (.fieldLink RX3 93 "TroubleCodesModel" "checks" "I") (mem_at 2 rfl)) (fun _ h9 => h9) rfl dX3_check_158 ?_
                  refine lv_iload hx hb dX3_check_161 (lv_at hl 7 rfl) ?_
                  rw [hn]
                  refine x_zast (k := n) (f := g 7) (x := x7) hx hb hK hP hD hS 7 rfl h7 (by omega) (by decide) dX3_check_163 (fun H locs hP hD hS => ?_)
                  have hP : va_P D vwCl (mW cI cZ q o (va_up (va_up (va_up (va_up (va_up (va_up (va_up g 1 (upd (g 1) n x1)) 2 (upd (g 2) n x2)) 3 (upd (g 3) n x3)) 4 (upd (g 4) n x4)) 5 (upd (g 5) n x5)) 6 (upd (g 6) n x6)) 7 (upd (g 7) n x7))) H := hP
                  have hD : va_D A (mW cI cZ q o (va_up (va_up (va_up (va_up (va_up (va_up (va_up g 1 (upd (g 1) n x1)) 2 (upd (g 2) n x2)) 3 (upd (g 3) n x3)) 4 (upd (g 4) n x4)) 5 (upd (g 5) n x5)) 6 (upd (g 6) n x6)) 7 (upd (g 7) n x7))) := hD
                  refine lv_aload_n hx hb dX3_check_164 rfl (lv_at hl 0 rfl) ?_
                  refine lv_dup hx hb dX3_check_165 rfl ?_
                  refine va_get (D := D) (ci := 3) (v := .int (g 0 0)) (C := RX3) (T := TX3) (N := 33) hx hb hts hinX3 hown hK hP 0 rfl rfl 0 (by decide) (hts (.fieldLink RX3 93 "TroubleCodesModel" "checks" "I") (mem_at 2 rfl)) (fun _ h9 => h9) rfl dX3_check_166 ?_
                  refine lv_iconst (v := 1) hx hb dX3_check_169 (by decide) ?_
                  refine lv_iadd hx hb dX3_check_170 ?_
                  refine va_put (D := D) (ci := 3) (v := .int ((g 0 0) + 1)) (ty := .int) (C := RX3) (T := TX3) (N := 33) hx hb hts hinX3 tyX3 tyX3_ok nmX3 hown hK hP hD hS 0 rfl rfl 0 (by decide) (hts (.fieldLink RX3 93 "TroubleCodesModel" "checks" "I") (mem_at 2 rfl)) (fun _ h9 => h9) rfl (by decide +kernel) rfl rfl (Nat.le_of_ble_eq_true rfl) dX3_check_171 (fun H locs hP hD hS => ?_)
                  have hP : va_P D vwCl (mW cI cZ q o (va_up (va_up (va_up (va_up (va_up (va_up (va_up (va_up g 0 (fun _ => (g 0 0) + 1)) 1 (upd (g 1) n x1)) 2 (upd (g 2) n x2)) 3 (upd (g 3) n x3)) 4 (upd (g 4) n x4)) 5 (upd (g 5) n x5)) 6 (upd (g 6) n x6)) 7 (upd (g 7) n x7))) H := hP
                  have hD : va_D A (mW cI cZ q o (va_up (va_up (va_up (va_up (va_up (va_up (va_up (va_up g 0 (fun _ => (g 0 0) + 1)) 1 (upd (g 1) n x1)) 2 (upd (g 2) n x2)) 3 (upd (g 3) n x3)) 4 (upd (g 4) n x4)) 5 (upd (g 5) n x5)) 6 (upd (g 6) n x6)) 7 (upd (g 7) n x7))) := hD
                  refine lv_aload_n hx hb dX3_check_174 rfl (lv_at hl 0 rfl) ?_
                  refine va_get (D := D) (ci := 3) (v := .int ((g 0 0) + 1)) (C := RX3) (T := TX3) (N := 33) hx hb hts hinX3 hown hK hP 0 rfl rfl 0 (by decide) (hts (.fieldLink RX3 93 "TroubleCodesModel" "checks" "I") (mem_at 2 rfl)) (fun _ h9 => h9) rfl dX3_check_175 ?_
                  refine lv_iconst (v := 1) hx hb dX3_check_178 (by decide) ?_
                  refine lv_isub hx hb dX3_check_179 ?_
                  have es : fX3_check g x1 x2 x3 x4 x5 x6 x7 = (((g 0 0) + 1) - 1, va_up (va_up (va_up (va_up (va_up (va_up (va_up (va_up g 0 (fun _ => (g 0 0) + 1)) 1 (upd (g 1) n x1)) 2 (upd (g 2) n x2)) 3 (upd (g 3) n x3)) 4 (upd (g 4) n x4)) 5 (upd (g 5) n x5)) 6 (upd (g 6) n x6)) 7 (upd (g 7) n x7)) := by rw [fX3_check]; simp only [xn]; rw [if_pos c_2, if_neg c_3, if_pos c_5, if_pos c_7, if_pos c_9, if_pos c_11, if_pos c_12, if_neg c_13]
                  exact hret 180 _ _ _ _ (by rw [es]) (by rw [es]; exact hP) (by rw [es]; exact hD) hS rfl dX3_check_180
                · refine lv_bipush (v := (-4)) hx hb dX3_check_87 (by decide) ?_
                  have es : fX3_check g x1 x2 x3 x4 x5 x6 x7 = ((-4), g) := by rw [fX3_check]; rw [if_pos c_2, if_neg c_3, if_pos c_5, if_pos c_7, if_pos c_9, if_pos c_11, if_pos c_12, if_pos c_13]
                  exact hret 89 _ _ _ _ (by rw [es]) (by rw [es]; exact hP) (by rw [es]; exact hD) hS rfl dX3_check_89
              · refine lv_bipush (v := (-3)) hx hb dX3_check_75 (by decide) ?_
                have es : fX3_check g x1 x2 x3 x4 x5 x6 x7 = ((-3), g) := by rw [fX3_check]; rw [if_pos c_2, if_neg c_3, if_pos c_5, if_pos c_7, if_pos c_9, if_pos c_11, if_neg c_12]
                exact hret 77 _ _ _ _ (by rw [es]) (by rw [es]; exact hP) (by rw [es]; exact hD) hS rfl dX3_check_77
            · have c_11 := bI_eq c_11
              refine lv_bipush (v := (-2)) hx hb dX3_check_65 (by decide) ?_
              have es : fX3_check g x1 x2 x3 x4 x5 x6 x7 = ((-2), g) := by rw [fX3_check]; rw [if_pos c_2, if_neg c_3, if_pos c_5, if_pos c_7, if_pos c_9, if_neg c_11]
              exact hret 67 _ _ _ _ (by rw [es]) (by rw [es]; exact hP) (by rw [es]; exact hD) hS rfl dX3_check_67
    · refine lv_aload_n hx hb dX3_check_14 rfl (lv_at hl 0 rfl) ?_
      refine lv_iload_n hx hb dX3_check_15 rfl (lv_at hl 2 rfl) ?_
      refine x_rdV (As := [.int x2]) (rest := []) ⟨hx, hb, hml, hown, hts⟩ (tX3_isCheck l D cI cZ cC q o g x2) (cwV 1 hts gX3_check_X3_isCheck rfl rfl rfl (by decide +kernel) ⟨Nat.le_of_ble_eq_true rfl, Nat.le_of_ble_eq_true rfl⟩) hK (x_recv (ci := 3) hK hP rfl (q0 := 0) rfl) hP rfl hl.1 rfl (Nat.le_of_ble_eq_true rfl) dX3_check_16 ⟨Nat.le_of_ble_eq_true rfl, Nat.le_of_ble_eq_true rfl⟩ (fun r_14 er_14 => ?_)
      have er_14 : r_14 = bI (0 ≤ x2 ∧ x2 ≤ (g 0 0 - 1)) := er_14
      subst er_14
      refine lv_if_eq (tgt := 65) hx hb dX3_check_19 (by decide) (fun c_15 => ?_) (fun c_15 => ?_)
      · have c_15 := bI_eq c_15
        refine lv_bipush (v := (-2)) hx hb dX3_check_65 (by decide) ?_
        have es : fX3_check g x1 x2 x3 x4 x5 x6 x7 = ((-2), g) := by rw [fX3_check]; rw [if_pos c_2, if_pos c_3, if_neg c_15]
        exact hret 67 _ _ _ _ (by rw [es]) (by rw [es]; exact hP) (by rw [es]; exact hD) hS rfl dX3_check_67
      · have c_15 := bI_ne c_15
        refine lv_iload_n hx hb dX3_check_22 rfl (lv_at hl 3 rfl) ?_
        refine lv_iconst (v := 1) hx hb dX3_check_23 (by decide) ?_
        refine lv_bipush (v := 9) hx hb dX3_check_24 (by decide) ?_
        refine x_rdS (As := [.int x3, .int 1, .int 9]) (rest := []) ⟨hx, hb, hml, hown, hts⟩ (tX3_in l D cI cZ cC x3 1 9) (va_cwS 3 hts gX3_check_X3_in rfl rfl rfl (by decide +kernel) ⟨Nat.le_of_ble_eq_true rfl, Nat.le_of_ble_eq_true rfl⟩) hK trivial rfl hl.1 rfl (Nat.le_of_ble_eq_true rfl) dX3_check_26 ⟨Nat.le_of_ble_eq_true rfl, Nat.le_of_ble_eq_true rfl⟩ (fun r_16 er_16 => ?_)
        have er_16 : r_16 = bI (1 ≤ x3 ∧ x3 ≤ 9) := er_16
        subst er_16
        refine lv_if_eq (tgt := 65) hx hb dX3_check_29 (by decide) (fun c_17 => ?_) (fun c_17 => ?_)
        · have c_17 := bI_eq c_17
          refine lv_bipush (v := (-2)) hx hb dX3_check_65 (by decide) ?_
          have es : fX3_check g x1 x2 x3 x4 x5 x6 x7 = ((-2), g) := by rw [fX3_check]; rw [if_pos c_2, if_pos c_3, if_pos c_15, if_neg c_17]
          exact hret 67 _ _ _ _ (by rw [es]) (by rw [es]; exact hP) (by rw [es]; exact hD) hS rfl dX3_check_67
        · have c_17 := bI_ne c_17
          refine lv_iload hx hb dX3_check_32 (lv_at hl 4 rfl) ?_
          refine lv_iconst (v := 1) hx hb dX3_check_34 (by decide) ?_
          refine lv_bipush (v := 9) hx hb dX3_check_35 (by decide) ?_
          refine x_rdS (As := [.int x4, .int 1, .int 9]) (rest := []) ⟨hx, hb, hml, hown, hts⟩ (tX3_in l D cI cZ cC x4 1 9) (va_cwS 3 hts gX3_check_X3_in rfl rfl rfl (by decide +kernel) ⟨Nat.le_of_ble_eq_true rfl, Nat.le_of_ble_eq_true rfl⟩) hK trivial rfl hl.1 rfl (Nat.le_of_ble_eq_true rfl) dX3_check_37 ⟨Nat.le_of_ble_eq_true rfl, Nat.le_of_ble_eq_true rfl⟩ (fun r_18 er_18 => ?_)
          have er_18 : r_18 = bI (1 ≤ x4 ∧ x4 ≤ 9) := er_18
          subst er_18
          refine lv_if_eq (tgt := 65) hx hb dX3_check_40 (by decide) (fun c_19 => ?_) (fun c_19 => ?_)
          · have c_19 := bI_eq c_19
            refine lv_bipush (v := (-2)) hx hb dX3_check_65 (by decide) ?_
            have es : fX3_check g x1 x2 x3 x4 x5 x6 x7 = ((-2), g) := by rw [fX3_check]; rw [if_pos c_2, if_pos c_3, if_pos c_15, if_pos c_17, if_neg c_19]
            exact hret 67 _ _ _ _ (by rw [es]) (by rw [es]; exact hP) (by rw [es]; exact hD) hS rfl dX3_check_67
          · have c_19 := bI_ne c_19
            refine lv_iload hx hb dX3_check_43 (lv_at hl 5 rfl) ?_
            refine lv_iconst (v := 1) hx hb dX3_check_45 (by decide) ?_
            refine lv_bipush (v := 90) hx hb dX3_check_46 (by decide) ?_
            refine x_rdS (As := [.int x5, .int 1, .int 90]) (rest := []) ⟨hx, hb, hml, hown, hts⟩ (tX3_in l D cI cZ cC x5 1 90) (va_cwS 3 hts gX3_check_X3_in rfl rfl rfl (by decide +kernel) ⟨Nat.le_of_ble_eq_true rfl, Nat.le_of_ble_eq_true rfl⟩) hK trivial rfl hl.1 rfl (Nat.le_of_ble_eq_true rfl) dX3_check_48 ⟨Nat.le_of_ble_eq_true rfl, Nat.le_of_ble_eq_true rfl⟩ (fun r_20 er_20 => ?_)
            have er_20 : r_20 = bI (1 ≤ x5 ∧ x5 ≤ 90) := er_20
            subst er_20
            refine lv_if_eq (tgt := 65) hx hb dX3_check_51 (by decide) (fun c_21 => ?_) (fun c_21 => ?_)
            · have c_21 := bI_eq c_21
              refine lv_bipush (v := (-2)) hx hb dX3_check_65 (by decide) ?_
              have es : fX3_check g x1 x2 x3 x4 x5 x6 x7 = ((-2), g) := by rw [fX3_check]; rw [if_pos c_2, if_pos c_3, if_pos c_15, if_pos c_17, if_pos c_19, if_neg c_21]
              exact hret 67 _ _ _ _ (by rw [es]) (by rw [es]; exact hP) (by rw [es]; exact hD) hS rfl dX3_check_67
            · have c_21 := bI_ne c_21
              refine lv_iload hx hb dX3_check_54 (lv_at hl 6 rfl) ?_
              refine lv_iconst (v := 0) hx hb dX3_check_56 (by decide) ?_
              refine lv_bipush (v := 9) hx hb dX3_check_57 (by decide) ?_
              refine x_rdS (As := [.int x6, .int 0, .int 9]) (rest := []) ⟨hx, hb, hml, hown, hts⟩ (tX3_in l D cI cZ cC x6 0 9) (va_cwS 3 hts gX3_check_X3_in rfl rfl rfl (by decide +kernel) ⟨Nat.le_of_ble_eq_true rfl, Nat.le_of_ble_eq_true rfl⟩) hK trivial rfl hl.1 rfl (Nat.le_of_ble_eq_true rfl) dX3_check_59 ⟨Nat.le_of_ble_eq_true rfl, Nat.le_of_ble_eq_true rfl⟩ (fun r_22 er_22 => ?_)
              have er_22 : r_22 = bI (0 ≤ x6 ∧ x6 ≤ 9) := er_22
              subst er_22
              refine lv_if_ne (tgt := 68) hx hb dX3_check_62 (by decide) (fun c_23 => ?_) (fun c_23 => ?_)
              · have c_23 := bI_ne c_23
                refine lv_aload_n hx hb dX3_check_68 rfl (lv_at hl 0 rfl) ?_
                refine va_get (D := D) (ci := 3) (v := .int (g 17 0)) (C := RX3) (T := TX3) (N := 33) hx hb hts hinX3 hown hK hP 0 rfl rfl 17 (by decide) (hts (.fieldLink RX3 104 "TroubleCodesModel" "goes" "Z") (mem_at 1 rfl)) (fun _ h9 => h9) rfl dX3_check_69 ?_
                refine lv_if_eq (tgt := 78) hx hb dX3_check_72 (by decide) (fun c_24 => ?_) (fun c_24 => ?_)
                · refine lv_aload_n hx hb dX3_check_78 rfl (lv_at hl 0 rfl) ?_
                  refine va_get (D := D) (ci := 3) (v := .int (g 0 0)) (C := RX3) (T := TX3) (N := 33) hx hb hts hinX3 hown hK hP 0 rfl rfl 0 (by decide) (hts (.fieldLink RX3 93 "TroubleCodesModel" "checks" "I") (mem_at 2 rfl)) (fun _ h9 => h9) rfl dX3_check_79 ?_
                  refine lv_bipush (v := 16) hx hb dX3_check_82 (by decide) ?_
                  refine lv_icmp_ne (tgt := 90) hx hb dX3_check_84 (by decide) (fun c_25 => ?_) (fun c_25 => ?_)
                  · have hn15 : n < 16 := Nat.lt_of_le_of_ne hnb (fun h => c_25 (by rw [hn, h]; rfl))
                    have xn : ix (g 0 0) = n := by rw [hn]; exact ix_nI (by omega)
                    refine lv_aload_n hx hb dX3_check_90 rfl (lv_at hl 0 rfl) ?_
                    refine va_get (D := D) (ci := 3) (v := .ref (q 1)) (C := RX3) (T := TX3) (N := 33) hx hb hts hinX3 hown hK hP 0 rfl rfl 1 (by decide) (hts (.fieldLink RX3 7 "TroubleCodesModel" "sort" "[I") (mem_at 3 rfl)) (fun _ h9 => h9) rfl dX3_check_91 ?_
                    refine lv_aload_n hx hb dX3_check_94 rfl (lv_at hl 0 rfl) ?_
                    refine va_get (D := D) (ci := 3) (v := .int (g 0 0)) (C := RX3) (T := TX3) (N := 33) hx hb hts hinX3 hown hK hP 0 rfl rfl 0 (by decide) (hts (.fieldLink RX3 93 "TroubleCodesModel" "checks" "I") (mem_at 2 rfl)) (fun _ h9 => h9) rfl dX3_check_95 ?_
                    refine lv_iload_n hx hb dX3_check_98 rfl (lv_at hl 1 rfl) ?_
                    rw [hn]
                    refine x_iast (k := n) (f := g 1) (x := x1) hx hb hK hP hD hS 1 rfl (by omega) (by decide) dX3_check_99 (fun H locs hP hD hS => ?_)
                    have hP : va_P D vwCl (mW cI cZ q o (va_up g 1 (upd (g 1) n x1))) H := hP
                    have hD : va_D A (mW cI cZ q o (va_up g 1 (upd (g 1) n x1))) := hD
                    refine lv_aload_n hx hb dX3_check_100 rfl (lv_at hl 0 rfl) ?_
                    refine va_get (D := D) (ci := 3) (v := .ref (q 2)) (C := RX3) (T := TX3) (N := 33) hx hb hts hinX3 hown hK hP 0 rfl rfl 2 (by decide) (hts (.fieldLink RX3 13 "TroubleCodesModel" "follows" "[I") (mem_at 4 rfl)) (fun _ h9 => h9) rfl dX3_check_101 ?_
                    refine lv_aload_n hx hb dX3_check_104 rfl (lv_at hl 0 rfl) ?_
                    refine va_get (D := D) (ci := 3) (v := .int (g 0 0)) (C := RX3) (T := TX3) (N := 33) hx hb hts hinX3 hown hK hP 0 rfl rfl 0 (by decide) (hts (.fieldLink RX3 93 "TroubleCodesModel" "checks" "I") (mem_at 2 rfl)) (fun _ h9 => h9) rfl dX3_check_105 ?_
                    refine lv_iload_n hx hb dX3_check_108 rfl (lv_at hl 2 rfl) ?_
                    rw [hn]
                    refine x_iast (k := n) (f := g 2) (x := x2) hx hb hK hP hD hS 2 rfl (by omega) (by decide) dX3_check_109 (fun H locs hP hD hS => ?_)
                    have hP : va_P D vwCl (mW cI cZ q o (va_up (va_up g 1 (upd (g 1) n x1)) 2 (upd (g 2) n x2))) H := hP
                    have hD : va_D A (mW cI cZ q o (va_up (va_up g 1 (upd (g 1) n x1)) 2 (upd (g 2) n x2))) := hD
                    refine lv_aload_n hx hb dX3_check_110 rfl (lv_at hl 0 rfl) ?_
                    refine va_get (D := D) (ci := 3) (v := .ref (q 3)) (C := RX3) (T := TX3) (N := 33) hx hb hts hinX3 hown hK hP 0 rfl rfl 3 (by decide) (hts (.fieldLink RX3 16 "TroubleCodesModel" "badAt" "[I") (mem_at 5 rfl)) (fun _ h9 => h9) rfl dX3_check_111 ?_
                    refine lv_aload_n hx hb dX3_check_114 rfl (lv_at hl 0 rfl) ?_
                    refine va_get (D := D) (ci := 3) (v := .int (g 0 0)) (C := RX3) (T := TX3) (N := 33) hx hb hts hinX3 hown hK hP 0 rfl rfl 0 (by decide) (hts (.fieldLink RX3 93 "TroubleCodesModel" "checks" "I") (mem_at 2 rfl)) (fun _ h9 => h9) rfl dX3_check_115 ?_
                    refine lv_iload_n hx hb dX3_check_118 rfl (lv_at hl 3 rfl) ?_
                    rw [hn]
                    refine x_iast (k := n) (f := g 3) (x := x3) hx hb hK hP hD hS 3 rfl (by omega) (by decide) dX3_check_119 (fun H locs hP hD hS => ?_)
                    have hP : va_P D vwCl (mW cI cZ q o (va_up (va_up (va_up g 1 (upd (g 1) n x1)) 2 (upd (g 2) n x2)) 3 (upd (g 3) n x3))) H := hP
                    have hD : va_D A (mW cI cZ q o (va_up (va_up (va_up g 1 (upd (g 1) n x1)) 2 (upd (g 2) n x2)) 3 (upd (g 3) n x3))) := hD
                    refine lv_aload_n hx hb dX3_check_120 rfl (lv_at hl 0 rfl) ?_
                    refine va_get (D := D) (ci := 3) (v := .ref (q 4)) (C := RX3) (T := TX3) (N := 33) hx hb hts hinX3 hown hK hP 0 rfl rfl 4 (by decide) (hts (.fieldLink RX3 19 "TroubleCodesModel" "goodAt" "[I") (mem_at 6 rfl)) (fun _ h9 => h9) rfl dX3_check_121 ?_
                    refine lv_aload_n hx hb dX3_check_124 rfl (lv_at hl 0 rfl) ?_
                    refine va_get (D := D) (ci := 3) (v := .int (g 0 0)) (C := RX3) (T := TX3) (N := 33) hx hb hts hinX3 hown hK hP 0 rfl rfl 0 (by decide) (hts (.fieldLink RX3 93 "TroubleCodesModel" "checks" "I") (mem_at 2 rfl)) (fun _ h9 => h9) rfl dX3_check_125 ?_
                    refine lv_iload hx hb dX3_check_128 (lv_at hl 4 rfl) ?_
                    rw [hn]
                    refine x_iast (k := n) (f := g 4) (x := x4) hx hb hK hP hD hS 4 rfl (by omega) (by decide) dX3_check_130 (fun H locs hP hD hS => ?_)
                    have hP : va_P D vwCl (mW cI cZ q o (va_up (va_up (va_up (va_up g 1 (upd (g 1) n x1)) 2 (upd (g 2) n x2)) 3 (upd (g 3) n x3)) 4 (upd (g 4) n x4))) H := hP
                    have hD : va_D A (mW cI cZ q o (va_up (va_up (va_up (va_up g 1 (upd (g 1) n x1)) 2 (upd (g 2) n x2)) 3 (upd (g 3) n x3)) 4 (upd (g 4) n x4))) := hD
                    refine lv_aload_n hx hb dX3_check_131 rfl (lv_at hl 0 rfl) ?_
                    refine va_get (D := D) (ci := 3) (v := .ref (q 5)) (C := RX3) (T := TX3) (N := 33) hx hb hts hinX3 hown hK hP 0 rfl rfl 5 (by decide) (hts (.fieldLink RX3 22 "TroubleCodesModel" "ageAt" "[I") (mem_at 7 rfl)) (fun _ h9 => h9) rfl dX3_check_132 ?_
                    refine lv_aload_n hx hb dX3_check_135 rfl (lv_at hl 0 rfl) ?_
                    refine va_get (D := D) (ci := 3) (v := .int (g 0 0)) (C := RX3) (T := TX3) (N := 33) hx hb hts hinX3 hown hK hP 0 rfl rfl 0 (by decide) (hts (.fieldLink RX3 93 "TroubleCodesModel" "checks" "I") (mem_at 2 rfl)) (fun _ h9 => h9) rfl dX3_check_136 ?_
                    refine lv_iload hx hb dX3_check_139 (lv_at hl 5 rfl) ?_
                    rw [hn]
                    refine x_iast (k := n) (f := g 5) (x := x5) hx hb hK hP hD hS 5 rfl (by omega) (by decide) dX3_check_141 (fun H locs hP hD hS => ?_)
                    have hP : va_P D vwCl (mW cI cZ q o (va_up (va_up (va_up (va_up (va_up g 1 (upd (g 1) n x1)) 2 (upd (g 2) n x2)) 3 (upd (g 3) n x3)) 4 (upd (g 4) n x4)) 5 (upd (g 5) n x5))) H := hP
                    have hD : va_D A (mW cI cZ q o (va_up (va_up (va_up (va_up (va_up g 1 (upd (g 1) n x1)) 2 (upd (g 2) n x2)) 3 (upd (g 3) n x3)) 4 (upd (g 4) n x4)) 5 (upd (g 5) n x5))) := hD
                    refine lv_aload_n hx hb dX3_check_142 rfl (lv_at hl 0 rfl) ?_
                    refine va_get (D := D) (ci := 3) (v := .ref (q 6)) (C := RX3) (T := TX3) (N := 33) hx hb hts hinX3 hown hK hP 0 rfl rfl 6 (by decide) (hts (.fieldLink RX3 25 "TroubleCodesModel" "weight" "[I") (mem_at 8 rfl)) (fun _ h9 => h9) rfl dX3_check_143 ?_
                    refine lv_aload_n hx hb dX3_check_146 rfl (lv_at hl 0 rfl) ?_
                    refine va_get (D := D) (ci := 3) (v := .int (g 0 0)) (C := RX3) (T := TX3) (N := 33) hx hb hts hinX3 hown hK hP 0 rfl rfl 0 (by decide) (hts (.fieldLink RX3 93 "TroubleCodesModel" "checks" "I") (mem_at 2 rfl)) (fun _ h9 => h9) rfl dX3_check_147 ?_
                    refine lv_iload hx hb dX3_check_150 (lv_at hl 6 rfl) ?_
                    rw [hn]
                    refine x_iast (k := n) (f := g 6) (x := x6) hx hb hK hP hD hS 6 rfl (by omega) (by decide) dX3_check_152 (fun H locs hP hD hS => ?_)
                    have hP : va_P D vwCl (mW cI cZ q o (va_up (va_up (va_up (va_up (va_up (va_up g 1 (upd (g 1) n x1)) 2 (upd (g 2) n x2)) 3 (upd (g 3) n x3)) 4 (upd (g 4) n x4)) 5 (upd (g 5) n x5)) 6 (upd (g 6) n x6))) H := hP
                    have hD : va_D A (mW cI cZ q o (va_up (va_up (va_up (va_up (va_up (va_up g 1 (upd (g 1) n x1)) 2 (upd (g 2) n x2)) 3 (upd (g 3) n x3)) 4 (upd (g 4) n x4)) 5 (upd (g 5) n x5)) 6 (upd (g 6) n x6))) := hD
                    refine lv_aload_n hx hb dX3_check_153 rfl (lv_at hl 0 rfl) ?_
                    refine va_get (D := D) (ci := 3) (v := .ref (q 7)) (C := RX3) (T := TX3) (N := 33) hx hb hts hinX3 hown hK hP 0 rfl rfl 7 (by decide) (hts (.fieldLink RX3 28 "TroubleCodesModel" "hasLamp" "[Z") (mem_at 9 rfl)) (fun _ h9 => h9) rfl dX3_check_154 ?_
                    refine lv_aload_n hx hb dX3_check_157 rfl (lv_at hl 0 rfl) ?_
                    refine va_get (D := D) (ci := 3) (v := .int (g 0 0)) (C := RX3) (T := TX3) (N := 33) hx hb hts hinX3 hown hK hP 0 rfl rfl 0 (by decide) (hts (.fieldLink RX3 93 "TroubleCodesModel" "checks" "I") (mem_at 2 rfl)) (fun _ h9 => h9) rfl dX3_check_158 ?_
                    refine lv_iload hx hb dX3_check_161 (lv_at hl 7 rfl) ?_
                    rw [hn]
                    refine x_zast (k := n) (f := g 7) (x := x7) hx hb hK hP hD hS 7 rfl h7 (by omega) (by decide) dX3_check_163 (fun H locs hP hD hS => ?_)
                    have hP : va_P D vwCl (mW cI cZ q o (va_up (va_up (va_up (va_up (va_up (va_up (va_up g 1 (upd (g 1) n x1)) 2 (upd (g 2) n x2)) 3 (upd (g 3) n x3)) 4 (upd (g 4) n x4)) 5 (upd (g 5) n x5)) 6 (upd (g 6) n x6)) 7 (upd (g 7) n x7))) H := hP
                    have hD : va_D A (mW cI cZ q o (va_up (va_up (va_up (va_up (va_up (va_up (va_up g 1 (upd (g 1) n x1)) 2 (upd (g 2) n x2)) 3 (upd (g 3) n x3)) 4 (upd (g 4) n x4)) 5 (upd (g 5) n x5)) 6 (upd (g 6) n x6)) 7 (upd (g 7) n x7))) := hD
                    refine lv_aload_n hx hb dX3_check_164 rfl (lv_at hl 0 rfl) ?_
                    refine lv_dup hx hb dX3_check_165 rfl ?_
                    refine va_get (D := D) (ci := 3) (v := .int (g 0 0)) (C := RX3) (T := TX3) (N := 33) hx hb hts hinX3 hown hK hP 0 rfl rfl 0 (by decide) (hts (.fieldLink RX3 93 "TroubleCodesModel" "checks" "I") (mem_at 2 rfl)) (fun _ h9 => h9) rfl dX3_check_166 ?_
                    refine lv_iconst (v := 1) hx hb dX3_check_169 (by decide) ?_
                    refine lv_iadd hx hb dX3_check_170 ?_
                    refine va_put (D := D) (ci := 3) (v := .int ((g 0 0) + 1)) (ty := .int) (C := RX3) (T := TX3) (N := 33) hx hb hts hinX3 tyX3 tyX3_ok nmX3 hown hK hP hD hS 0 rfl rfl 0 (by decide) (hts (.fieldLink RX3 93 "TroubleCodesModel" "checks" "I") (mem_at 2 rfl)) (fun _ h9 => h9) rfl (by decide +kernel) rfl rfl (Nat.le_of_ble_eq_true rfl) dX3_check_171 (fun H locs hP hD hS => ?_)
                    have hP : va_P D vwCl (mW cI cZ q o (va_up (va_up (va_up (va_up (va_up (va_up (va_up (va_up g 0 (fun _ => (g 0 0) + 1)) 1 (upd (g 1) n x1)) 2 (upd (g 2) n x2)) 3 (upd (g 3) n x3)) 4 (upd (g 4) n x4)) 5 (upd (g 5) n x5)) 6 (upd (g 6) n x6)) 7 (upd (g 7) n x7))) H := hP
                    have hD : va_D A (mW cI cZ q o (va_up (va_up (va_up (va_up (va_up (va_up (va_up (va_up g 0 (fun _ => (g 0 0) + 1)) 1 (upd (g 1) n x1)) 2 (upd (g 2) n x2)) 3 (upd (g 3) n x3)) 4 (upd (g 4) n x4)) 5 (upd (g 5) n x5)) 6 (upd (g 6) n x6)) 7 (upd (g 7) n x7))) := hD
                    refine lv_aload_n hx hb dX3_check_174 rfl (lv_at hl 0 rfl) ?_
                    refine va_get (D := D) (ci := 3) (v := .int ((g 0 0) + 1)) (C := RX3) (T := TX3) (N := 33) hx hb hts hinX3 hown hK hP 0 rfl rfl 0 (by decide) (hts (.fieldLink RX3 93 "TroubleCodesModel" "checks" "I") (mem_at 2 rfl)) (fun _ h9 => h9) rfl dX3_check_175 ?_
                    refine lv_iconst (v := 1) hx hb dX3_check_178 (by decide) ?_
                    refine lv_isub hx hb dX3_check_179 ?_
                    have es : fX3_check g x1 x2 x3 x4 x5 x6 x7 = (((g 0 0) + 1) - 1, va_up (va_up (va_up (va_up (va_up (va_up (va_up (va_up g 0 (fun _ => (g 0 0) + 1)) 1 (upd (g 1) n x1)) 2 (upd (g 2) n x2)) 3 (upd (g 3) n x3)) 4 (upd (g 4) n x4)) 5 (upd (g 5) n x5)) 6 (upd (g 6) n x6)) 7 (upd (g 7) n x7)) := by rw [fX3_check]; simp only [xn]; rw [if_pos c_2, if_pos c_3, if_pos c_15, if_pos c_17, if_pos c_19, if_pos c_21, if_pos c_23, if_pos c_24, if_neg c_25]
                    exact hret 180 _ _ _ _ (by rw [es]) (by rw [es]; exact hP) (by rw [es]; exact hD) hS rfl dX3_check_180
                  · refine lv_bipush (v := (-4)) hx hb dX3_check_87 (by decide) ?_
                    have es : fX3_check g x1 x2 x3 x4 x5 x6 x7 = ((-4), g) := by rw [fX3_check]; rw [if_pos c_2, if_pos c_3, if_pos c_15, if_pos c_17, if_pos c_19, if_pos c_21, if_pos c_23, if_pos c_24, if_pos c_25]
                    exact hret 89 _ _ _ _ (by rw [es]) (by rw [es]; exact hP) (by rw [es]; exact hD) hS rfl dX3_check_89
                · refine lv_bipush (v := (-3)) hx hb dX3_check_75 (by decide) ?_
                  have es : fX3_check g x1 x2 x3 x4 x5 x6 x7 = ((-3), g) := by rw [fX3_check]; rw [if_pos c_2, if_pos c_3, if_pos c_15, if_pos c_17, if_pos c_19, if_pos c_21, if_pos c_23, if_neg c_24]
                  exact hret 77 _ _ _ _ (by rw [es]) (by rw [es]; exact hP) (by rw [es]; exact hD) hS rfl dX3_check_77
              · have c_23 := bI_eq c_23
                refine lv_bipush (v := (-2)) hx hb dX3_check_65 (by decide) ?_
                have es : fX3_check g x1 x2 x3 x4 x5 x6 x7 = ((-2), g) := by rw [fX3_check]; rw [if_pos c_2, if_pos c_3, if_pos c_15, if_pos c_17, if_pos c_19, if_pos c_21, if_neg c_23]
                exact hret 67 _ _ _ _ (by rw [es]) (by rw [es]; exact hP) (by rw [es]; exact hD) hS rfl dX3_check_67

def fX3_cause (g : Nat → Nat → Int32) (x y : Int32) : Int32 × (Nat → Nat → Int32) := if 1 ≤ x ∧ x ≤ ((1 <<< ((g 0 0) &&& 31)) - 1) then (if 1 ≤ y ∧ y ≤ 1000 then (if (g 26 0) = 10 then ((-4), g) else (((g 26 0) + 1) - 1, va_up (va_up (va_up g 26 (fun _ => (g 26 0) + 1)) 27 (upd (g 27) (ix (g 26 0)) x)) 28 (upd (g 28) (ix (g 26 0)) y))) else ((-2), g)) else ((-2), g)
set_option maxHeartbeats 4000000 in
set_option maxRecDepth 100000 in
theorem tX3_cause (l : Launch) (D : va_G) (cI cZ cC : ClassId) (q : Nat → Nat) (o : Nat) (g : Nat → Nat → Int32) (n : Nat) (hn : g 0 0 = nI n) (hnb : n ≤ 16) (mm : Nat) (hm : g 26 0 = nI mm) (hmb : mm ≤ 10) (x y : Int32) : WrI l yX3_cause wsX3_cause (rmK 1) D cI cZ cC [.ref o, .int x, .int y] (mW cI cZ q o g) (mW cI cZ q o ((fX3_cause g x y).2)) (fun ans => ans = (fX3_cause g x y).1) := by
  refine WrI.of (cc := cX3_cause) (maxL := 3) (ret := .int) (by decide) rfl (Nat.le_of_ble_eq_true rfl) ?_
  intro p e s m args below meth c Q A ls hx hb hml hts hown hK hP hD hS hA hret hl
  have hl : lv_has ls 3 [(0, .ref o), (1, .int x), (2, .int y)] := hl
  have hinX3 : ∀ w ∈ u_ws RX3 TX3 33, w ∈ wsX3_cause := (fun w h => List.mem_cons_of_mem _ (List.mem_append_right _ h))
  refine lv_iload_n hx hb dX3_cause_0 rfl (lv_at hl 1 rfl) ?_
  refine lv_iconst (v := 1) hx hb dX3_cause_1 (by decide) ?_
  refine lv_iconst (v := 1) hx hb dX3_cause_2 (by decide) ?_
  refine lv_aload_n hx hb dX3_cause_3 rfl (lv_at hl 0 rfl) ?_
  refine va_get (D := D) (ci := 3) (v := .int (g 0 0)) (C := RX3) (T := TX3) (N := 33) hx hb hts hinX3 hown hK hP 0 rfl rfl 0 (by decide) (hts (.fieldLink RX3 93 "TroubleCodesModel" "checks" "I") (mem_at 1 rfl)) (fun _ h9 => h9) rfl dX3_cause_4 ?_
  refine lv_ishl hx hb dX3_cause_7 ?_
  refine lv_iconst (v := 1) hx hb dX3_cause_8 (by decide) ?_
  refine lv_isub hx hb dX3_cause_9 ?_
  refine x_rdS (As := [.int x, .int 1, .int ((1 <<< ((g 0 0) &&& 31)) - 1)]) (rest := []) ⟨hx, hb, hml, hown, hts⟩ (tX3_in l D cI cZ cC x 1 ((1 <<< ((g 0 0) &&& 31)) - 1)) (va_cwS 3 hts gX3_cause_X3_in rfl rfl rfl (by decide +kernel) ⟨Nat.le_of_ble_eq_true rfl, Nat.le_of_ble_eq_true rfl⟩) hK trivial rfl hl.1 rfl (Nat.le_of_ble_eq_true rfl) dX3_cause_10 ⟨Nat.le_of_ble_eq_true rfl, Nat.le_of_ble_eq_true rfl⟩ (fun r_1 er_1 => ?_)
  have er_1 : r_1 = bI (1 ≤ x ∧ x ≤ ((1 <<< ((g 0 0) &&& 31)) - 1)) := er_1
  subst er_1
  refine lv_if_eq (tgt := 27) hx hb dX3_cause_13 (by decide) (fun c_2 => ?_) (fun c_2 => ?_)
  · have c_2 := bI_eq c_2
    refine lv_bipush (v := (-2)) hx hb dX3_cause_27 (by decide) ?_
    have es : fX3_cause g x y = ((-2), g) := by rw [fX3_cause]; rw [if_neg c_2]
    exact hret 29 _ _ _ _ (by rw [es]) (by rw [es]; exact hP) (by rw [es]; exact hD) hS rfl dX3_cause_29
  · have c_2 := bI_ne c_2
    refine lv_iload_n hx hb dX3_cause_16 rfl (lv_at hl 2 rfl) ?_
    refine lv_iconst (v := 1) hx hb dX3_cause_17 (by decide) ?_
    refine lv_sipush (v := 1000) hx hb dX3_cause_18 (by decide) ?_
    refine x_rdS (As := [.int y, .int 1, .int 1000]) (rest := []) ⟨hx, hb, hml, hown, hts⟩ (tX3_in l D cI cZ cC y 1 1000) (va_cwS 3 hts gX3_cause_X3_in rfl rfl rfl (by decide +kernel) ⟨Nat.le_of_ble_eq_true rfl, Nat.le_of_ble_eq_true rfl⟩) hK trivial rfl hl.1 rfl (Nat.le_of_ble_eq_true rfl) dX3_cause_21 ⟨Nat.le_of_ble_eq_true rfl, Nat.le_of_ble_eq_true rfl⟩ (fun r_3 er_3 => ?_)
    have er_3 : r_3 = bI (1 ≤ y ∧ y ≤ 1000) := er_3
    subst er_3
    refine lv_if_ne (tgt := 30) hx hb dX3_cause_24 (by decide) (fun c_4 => ?_) (fun c_4 => ?_)
    · have c_4 := bI_ne c_4
      refine lv_aload_n hx hb dX3_cause_30 rfl (lv_at hl 0 rfl) ?_
      refine va_get (D := D) (ci := 3) (v := .int (g 26 0)) (C := RX3) (T := TX3) (N := 33) hx hb hts hinX3 hown hK hP 0 rfl rfl 26 (by decide) (hts (.fieldLink RX3 141 "TroubleCodesModel" "causes" "I") (mem_at 2 rfl)) (fun _ h9 => h9) rfl dX3_cause_31 ?_
      refine lv_bipush (v := 10) hx hb dX3_cause_34 (by decide) ?_
      refine lv_icmp_ne (tgt := 42) hx hb dX3_cause_36 (by decide) (fun c_5 => ?_) (fun c_5 => ?_)
      · have hm9 : mm < 10 := Nat.lt_of_le_of_ne hmb (fun h => c_5 (by rw [hm, h]; rfl))
        have xm : ix (g 26 0) = mm := by rw [hm]; exact ix_nI (by omega)
        refine lv_aload_n hx hb dX3_cause_42 rfl (lv_at hl 0 rfl) ?_
        refine va_get (D := D) (ci := 3) (v := .ref (q 27)) (C := RX3) (T := TX3) (N := 33) hx hb hts hinX3 hown hK hP 0 rfl rfl 27 (by decide) (hts (.fieldLink RX3 78 "TroubleCodesModel" "makes" "[I") (mem_at 3 rfl)) (fun _ h9 => h9) rfl dX3_cause_43 ?_
        refine lv_aload_n hx hb dX3_cause_46 rfl (lv_at hl 0 rfl) ?_
        refine va_get (D := D) (ci := 3) (v := .int (g 26 0)) (C := RX3) (T := TX3) (N := 33) hx hb hts hinX3 hown hK hP 0 rfl rfl 26 (by decide) (hts (.fieldLink RX3 141 "TroubleCodesModel" "causes" "I") (mem_at 2 rfl)) (fun _ h9 => h9) rfl dX3_cause_47 ?_
        refine lv_iload_n hx hb dX3_cause_50 rfl (lv_at hl 1 rfl) ?_
        rw [hm]
        refine x_iast (k := mm) (f := g 27) (x := x) hx hb hK hP hD hS 22 rfl (by omega) (by decide) dX3_cause_51 (fun H locs hP hD hS => ?_)
        have hP : va_P D vwCl (mW cI cZ q o (va_up g 27 (upd (g 27) mm x))) H := hP
        have hD : va_D A (mW cI cZ q o (va_up g 27 (upd (g 27) mm x))) := hD
        refine lv_aload_n hx hb dX3_cause_52 rfl (lv_at hl 0 rfl) ?_
        refine va_get (D := D) (ci := 3) (v := .ref (q 28)) (C := RX3) (T := TX3) (N := 33) hx hb hts hinX3 hown hK hP 0 rfl rfl 28 (by decide) (hts (.fieldLink RX3 81 "TroubleCodesModel" "price" "[I") (mem_at 4 rfl)) (fun _ h9 => h9) rfl dX3_cause_53 ?_
        refine lv_aload_n hx hb dX3_cause_56 rfl (lv_at hl 0 rfl) ?_
        refine va_get (D := D) (ci := 3) (v := .int (g 26 0)) (C := RX3) (T := TX3) (N := 33) hx hb hts hinX3 hown hK hP 0 rfl rfl 26 (by decide) (hts (.fieldLink RX3 141 "TroubleCodesModel" "causes" "I") (mem_at 2 rfl)) (fun _ h9 => h9) rfl dX3_cause_57 ?_
        refine lv_iload_n hx hb dX3_cause_60 rfl (lv_at hl 2 rfl) ?_
        rw [hm]
        refine x_iast (k := mm) (f := g 28) (x := y) hx hb hK hP hD hS 23 rfl (by omega) (by decide) dX3_cause_61 (fun H locs hP hD hS => ?_)
        have hP : va_P D vwCl (mW cI cZ q o (va_up (va_up g 27 (upd (g 27) mm x)) 28 (upd (g 28) mm y))) H := hP
        have hD : va_D A (mW cI cZ q o (va_up (va_up g 27 (upd (g 27) mm x)) 28 (upd (g 28) mm y))) := hD
        refine lv_aload_n hx hb dX3_cause_62 rfl (lv_at hl 0 rfl) ?_
        refine lv_dup hx hb dX3_cause_63 rfl ?_
        refine va_get (D := D) (ci := 3) (v := .int (g 26 0)) (C := RX3) (T := TX3) (N := 33) hx hb hts hinX3 hown hK hP 0 rfl rfl 26 (by decide) (hts (.fieldLink RX3 141 "TroubleCodesModel" "causes" "I") (mem_at 2 rfl)) (fun _ h9 => h9) rfl dX3_cause_64 ?_
        refine lv_iconst (v := 1) hx hb dX3_cause_67 (by decide) ?_
        refine lv_iadd hx hb dX3_cause_68 ?_
        refine va_put (D := D) (ci := 3) (v := .int ((g 26 0) + 1)) (ty := .int) (C := RX3) (T := TX3) (N := 33) hx hb hts hinX3 tyX3 tyX3_ok nmX3 hown hK hP hD hS 0 rfl rfl 26 (by decide) (hts (.fieldLink RX3 141 "TroubleCodesModel" "causes" "I") (mem_at 2 rfl)) (fun _ h9 => h9) rfl (by decide +kernel) rfl rfl (Nat.le_of_ble_eq_true rfl) dX3_cause_69 (fun H locs hP hD hS => ?_)
        have hP : va_P D vwCl (mW cI cZ q o (va_up (va_up (va_up g 26 (fun _ => (g 26 0) + 1)) 27 (upd (g 27) mm x)) 28 (upd (g 28) mm y))) H := hP
        have hD : va_D A (mW cI cZ q o (va_up (va_up (va_up g 26 (fun _ => (g 26 0) + 1)) 27 (upd (g 27) mm x)) 28 (upd (g 28) mm y))) := hD
        refine lv_aload_n hx hb dX3_cause_72 rfl (lv_at hl 0 rfl) ?_
        refine va_get (D := D) (ci := 3) (v := .int ((g 26 0) + 1)) (C := RX3) (T := TX3) (N := 33) hx hb hts hinX3 hown hK hP 0 rfl rfl 26 (by decide) (hts (.fieldLink RX3 141 "TroubleCodesModel" "causes" "I") (mem_at 2 rfl)) (fun _ h9 => h9) rfl dX3_cause_73 ?_
        refine lv_iconst (v := 1) hx hb dX3_cause_76 (by decide) ?_
        refine lv_isub hx hb dX3_cause_77 ?_
        have es : fX3_cause g x y = (((g 26 0) + 1) - 1, va_up (va_up (va_up g 26 (fun _ => (g 26 0) + 1)) 27 (upd (g 27) mm x)) 28 (upd (g 28) mm y)) := by rw [fX3_cause]; simp only [xm]; rw [if_pos c_2, if_pos c_4, if_neg c_5]
        exact hret 78 _ _ _ _ (by rw [es]) (by rw [es]; exact hP) (by rw [es]; exact hD) hS rfl dX3_cause_78
      · refine lv_bipush (v := (-4)) hx hb dX3_cause_39 (by decide) ?_
        have es : fX3_cause g x y = ((-4), g) := by rw [fX3_cause]; rw [if_pos c_2, if_pos c_4, if_pos c_5]
        exact hret 41 _ _ _ _ (by rw [es]) (by rw [es]; exact hP) (by rw [es]; exact hD) hS rfl dX3_cause_41
    · have c_4 := bI_eq c_4
      refine lv_bipush (v := (-2)) hx hb dX3_cause_27 (by decide) ?_
      have es : fX3_cause g x y = ((-2), g) := by rw [fX3_cause]; rw [if_pos c_2, if_neg c_4]
      exact hret 29 _ _ _ _ (by rw [es]) (by rw [es]; exact hP) (by rw [es]; exact hD) hS rfl dX3_cause_29

set_option maxHeartbeats 4000000 in
set_option maxRecDepth 100000 in
theorem tX3_lamp (l : Launch) (D : va_G) (cI cZ cC : ClassId) (q : Nat → Nat) (o : Nat) (g : Nat → Nat → Int32) (n : Nat) (hn : g 0 0 = nI n) (hnb : n ≤ 16) : RdC l yX3_lamp wsX3_lamp (rmK 0) D cI cZ cC [.ref o] (fun H => va_P D vwCl (mW cI cZ q o g) H) (fun ans => ans = bI (anyN (fun j => !(g 7 j == 0) && g 8 j == 2) n = true)) := by
  refine RdC.of (cc := cX3_lamp) (maxL := 2) (ret := .int) (by decide) rfl (Nat.le_of_ble_eq_true rfl) ?_
  intro p e s m args below meth c Q ls hx hb hml hts hown hK hP hret hl
  have hl : lv_has ls 2 [(0, .ref o)] := hl
  have hP : va_P D vwCl (mW cI cZ q o g) s.heap := hP
  have hinX3 : ∀ w ∈ u_ws RX3 TX3 33, w ∈ wsX3_lamp := (fun w h => List.mem_cons_of_mem _ (List.mem_append_right _ h))
  refine lv_iconst (v := 0) hx hb dX3_lamp_0 (by decide) ?_
  refine lv_istore_n (lv' := [(1, .int 0), (0, .ref o)]) hx hb dX3_lamp_1 rfl hl (by decide) rfl (fun ls hl => ?_)
  have LOOP_1 : ∀ (fu k : Nat), k ≤ n → n - k < fu → ∀ (hno : anyN (fun j => !(g 7 j == 0) && g 8 j == 2) k = false), ∀ (ls : Array Slot), lv_has ls 2 [(0, .ref o), (1, .int (nI k))] → W p l e (rmK 0) s m args below meth c s.heap [] 0 0 Q (F0 m 2 ls []) := by
    intro fu
    induction fu with
    | zero => intro k h1 h2; exact absurd h2 (Nat.not_lt_zero _)
    | succ fu ih =>
      intro k hkn hfu hno ls hl
      refine lv_iload_n hx hb dX3_lamp_2 rfl (lv_at hl 1 rfl) ?_
      refine lv_aload_n hx hb dX3_lamp_3 rfl (lv_at hl 0 rfl) ?_
      refine va_get (D := D) (ci := 3) (v := .int (g 0 0)) (C := RX3) (T := TX3) (N := 33) hx hb hts hinX3 hown hK hP 0 rfl rfl 0 (by decide) (hts (.fieldLink RX3 93 "TroubleCodesModel" "checks" "I") (mem_at 1 rfl)) (fun _ h9 => h9) rfl dX3_lamp_4 ?_
      refine lv_icmp_ge (tgt := 37) hx hb dX3_lamp_7 (by decide) (fun c_2 => ?_) (fun c_2 => ?_)
      · have ekn : n = k := Nat.le_antisymm (kx_ge hn (by omega) (by omega) c_2) hkn
        subst ekn
        refine lv_iconst (v := 0) hx hb dX3_lamp_37 (by decide) ?_
        exact hret 38 _ _ ((bI_f (by rw [hno]; decide)).symm) rfl dX3_lamp_38
      · have hkl : k < n := kx_lt hn (by omega) (by omega) c_2
        refine lv_aload_n hx hb dX3_lamp_10 rfl (lv_at hl 0 rfl) ?_
        refine va_get (D := D) (ci := 3) (v := .ref (q 7)) (C := RX3) (T := TX3) (N := 33) hx hb hts hinX3 hown hK hP 0 rfl rfl 7 (by decide) (hts (.fieldLink RX3 28 "TroubleCodesModel" "hasLamp" "[Z") (mem_at 2 rfl)) (fun _ h9 => h9) rfl dX3_lamp_11 ?_
        refine lv_iload_n hx hb dX3_lamp_14 rfl (lv_at hl 1 rfl) ?_
        refine x_zald (k := k) (f := g 7) hx hb hK hP 7 rfl (by omega) (by decide) dX3_lamp_15 ?_
        refine lv_if_eq (tgt := 31) hx hb dX3_lamp_16 (by decide) (fun c_3 => ?_) (fun c_3 => ?_)
        · refine lv_iinc (v := nI (k + 1)) (lv' := [(1, .int (nI (k + 1))), (0, .ref o)]) hx hb dX3_lamp_31 hl (k := 1) rfl (nI_1 _) (by decide) rfl (fun ls hl => ?_)
          refine lv_goto (tgt := 2) hx hb dX3_lamp_34 (by decide) ?_
          exact ih (k + 1) (by omega) (by omega) (by rw [anyN, hno]; simp [c_2, Int32.not_le.mp c_2, c_3]) ls (by exact lv_sub hl [1, 0] rfl)
        · refine lv_aload_n hx hb dX3_lamp_19 rfl (lv_at hl 0 rfl) ?_
          refine va_get (D := D) (ci := 3) (v := .ref (q 8)) (C := RX3) (T := TX3) (N := 33) hx hb hts hinX3 hown hK hP 0 rfl rfl 8 (by decide) (hts (.fieldLink RX3 32 "TroubleCodesModel" "code" "[I") (mem_at 3 rfl)) (fun _ h9 => h9) rfl dX3_lamp_20 ?_
          refine lv_iload_n hx hb dX3_lamp_23 rfl (lv_at hl 1 rfl) ?_
          refine x_iald (k := k) (f := g 8) hx hb hK hP 8 rfl (by omega) (by decide) dX3_lamp_24 ?_
          refine lv_iconst (v := 2) hx hb dX3_lamp_25 (by decide) ?_
          refine lv_icmp_ne (tgt := 31) hx hb dX3_lamp_26 (by decide) (fun c_4 => ?_) (fun c_4 => ?_)
          · refine lv_iinc (v := nI (k + 1)) (lv' := [(1, .int (nI (k + 1))), (0, .ref o)]) hx hb dX3_lamp_31 hl (k := 1) rfl (nI_1 _) (by decide) rfl (fun ls hl => ?_)
            refine lv_goto (tgt := 2) hx hb dX3_lamp_34 (by decide) ?_
            exact ih (k + 1) (by omega) (by omega) (by rw [anyN, hno]; simp [c_2, Int32.not_le.mp c_2, c_3, c_4]) ls (by exact lv_sub hl [1, 0] rfl)
          · refine lv_iconst (v := 1) hx hb dX3_lamp_29 (by decide) ?_
            exact hret 30 _ _ (by rw [bI_t]; exact anyN_of (k := k) (by simp [c_2, Int32.not_le.mp c_2, c_3, c_4]) n hkl) rfl dX3_lamp_30
  have q_5 : (nI 0 : Int32) = 0 := by rfl
  exact LOOP_1 (n - 0 + 1) 0 (Nat.zero_le _) (Nat.lt_succ_self _) (rfl) ls (by rw [q_5]; exact lv_sub hl [1, 0] rfl)

def aboutF (g : Nat → Nat → Int32) (k : Nat) (x : Int32) : Int32 := if x = 0 then g 8 k else if x = 1 then g 9 k else if x = 2 then g 10 k else if x = 3 then g 11 k else if x = 4 then (if heldF (g 1) (g 2) (g 8) k = 0 then 0 else 1) else if x = 5 then (if g 21 k = 0 then 0 else 1) else if x = 6 then (if g 12 k = 0 then 0 else 1) else g 1 k
def countF (g : Nat → Nat → Int32) (n : Nat) (x : Int32) : Int32 := if x = 0 then g 0 0 else if x = 1 then g 18 0 else if x = 2 then sumN (fun j => if g 8 j = 1 then 1 else 0) n else if x = 3 then sumN (fun j => if g 8 j = 2 then 1 else 0) n else if x = 4 then sumN (fun j => if g 8 j = 3 then 1 else 0) n else if x = 5 then sumN (fun j => if g 21 j = 0 then 0 else 1) n else if x = 6 then g 26 0 else if x = 7 then (if g 17 0 = 0 then 0 else 1) else -2

set_option maxHeartbeats 4000000 in
set_option maxRecDepth 100000 in
theorem tX3_aboutOf (l : Launch) (D : va_G) (cI cZ cC : ClassId) (q : Nat → Nat) (o : Nat) (g : Nat → Nat → Int32) (k : Nat) (hk : k < 16) (hfo : g 1 k = 2 → ∃ f, f < 16 ∧ g 2 k = nI f) (x : Int32) : RdC l yX3_aboutOf wsX3_aboutOf (rmK 1) D cI cZ cC [.ref o, .int (nI k), .int x] (fun H => va_P D vwCl (mW cI cZ q o g) H) (fun ans => ans = aboutF g k x) := by
  refine RdC.of (cc := cX3_aboutOf) (maxL := 3) (ret := .int) (by decide) rfl (Nat.le_of_ble_eq_true rfl) ?_
  intro p e s m args below meth c Q ls hx hb hml hts hown hK hP hret hl
  have hl : lv_has ls 3 [(0, .ref o), (1, .int (nI k)), (2, .int x)] := hl
  have hP : va_P D vwCl (mW cI cZ q o g) s.heap := hP
  have hinX3 : ∀ w ∈ u_ws RX3 TX3 33, w ∈ wsX3_aboutOf := (fun w h => List.mem_cons_of_mem _ (List.mem_append_right _ h))
  refine lv_iload_n hx hb dX3_aboutOf_0 rfl (lv_at hl 2 rfl) ?_
  by_cases c_1 : x.toInt < 0 ∨ 6 < x.toInt
  · refine lv_tableOut (tgt := 116) hx hb dX3_aboutOf_1 c_1 (by decide) ?_
    refine lv_aload_n hx hb dX3_aboutOf_116 rfl (lv_at hl 0 rfl) ?_
    refine va_get (D := D) (ci := 3) (v := .ref (q 1)) (C := RX3) (T := TX3) (N := 33) hx hb hts hinX3 hown hK hP 0 rfl rfl 1 (by decide) (hts (.fieldLink RX3 7 "TroubleCodesModel" "sort" "[I") (mem_at 7 rfl)) (fun _ h9 => h9) rfl dX3_aboutOf_117 ?_
    refine lv_iload_n hx hb dX3_aboutOf_120 rfl (lv_at hl 1 rfl) ?_
    refine x_iald (k := k) (f := g 1) hx hb hK hP 1 rfl (by omega) (by decide) dX3_aboutOf_121 ?_
    exact hret 122 _ _ (by have h := tb_out6 c_1; obtain ⟨h0, h1, h2, h3, h4, h5, h6⟩ := h; simp [aboutF, h0, h1, h2, h3, h4, h5, h6]) rfl dX3_aboutOf_122
  · have c_1 := tb_in6 (x := x) c_1
    rcases c_1 with c_1 | c_1 | c_1 | c_1 | c_1 | c_1 | c_1
    · refine lv_tableIn (off := 43) (tgt := 44) hx hb dX3_aboutOf_1 (by rw [c_1]; decide) (by rw [c_1]; decide) (by rw [c_1]; rfl) (by decide) ?_
      refine lv_aload_n hx hb dX3_aboutOf_44 rfl (lv_at hl 0 rfl) ?_
      refine va_get (D := D) (ci := 3) (v := .ref (q 8)) (C := RX3) (T := TX3) (N := 33) hx hb hts hinX3 hown hK hP 0 rfl rfl 8 (by decide) (hts (.fieldLink RX3 32 "TroubleCodesModel" "code" "[I") (mem_at 1 rfl)) (fun _ h9 => h9) rfl dX3_aboutOf_45 ?_
      refine lv_iload_n hx hb dX3_aboutOf_48 rfl (lv_at hl 1 rfl) ?_
      refine x_iald (k := k) (f := g 8) hx hb hK hP 8 rfl (by omega) (by decide) dX3_aboutOf_49 ?_
      exact hret 50 _ _ (by rw [c_1]; simp [aboutF]) rfl dX3_aboutOf_50
    · refine lv_tableIn (off := 50) (tgt := 51) hx hb dX3_aboutOf_1 (by rw [c_1]; decide) (by rw [c_1]; decide) (by rw [c_1]; rfl) (by decide) ?_
      refine lv_aload_n hx hb dX3_aboutOf_51 rfl (lv_at hl 0 rfl) ?_
      refine va_get (D := D) (ci := 3) (v := .ref (q 9)) (C := RX3) (T := TX3) (N := 33) hx hb hts hinX3 hown hK hP 0 rfl rfl 9 (by decide) (hts (.fieldLink RX3 35 "TroubleCodesModel" "bads" "[I") (mem_at 2 rfl)) (fun _ h9 => h9) rfl dX3_aboutOf_52 ?_
      refine lv_iload_n hx hb dX3_aboutOf_55 rfl (lv_at hl 1 rfl) ?_
      refine x_iald (k := k) (f := g 9) hx hb hK hP 9 rfl (by omega) (by decide) dX3_aboutOf_56 ?_
      exact hret 57 _ _ (by rw [c_1]; simp [aboutF]) rfl dX3_aboutOf_57
    · refine lv_tableIn (off := 57) (tgt := 58) hx hb dX3_aboutOf_1 (by rw [c_1]; decide) (by rw [c_1]; decide) (by rw [c_1]; rfl) (by decide) ?_
      refine lv_aload_n hx hb dX3_aboutOf_58 rfl (lv_at hl 0 rfl) ?_
      refine va_get (D := D) (ci := 3) (v := .ref (q 10)) (C := RX3) (T := TX3) (N := 33) hx hb hts hinX3 hown hK hP 0 rfl rfl 10 (by decide) (hts (.fieldLink RX3 38 "TroubleCodesModel" "goods" "[I") (mem_at 3 rfl)) (fun _ h9 => h9) rfl dX3_aboutOf_59 ?_
      refine lv_iload_n hx hb dX3_aboutOf_62 rfl (lv_at hl 1 rfl) ?_
      refine x_iald (k := k) (f := g 10) hx hb hK hP 10 rfl (by omega) (by decide) dX3_aboutOf_63 ?_
      exact hret 64 _ _ (by rw [c_1]; simp [aboutF]) rfl dX3_aboutOf_64
    · refine lv_tableIn (off := 64) (tgt := 65) hx hb dX3_aboutOf_1 (by rw [c_1]; decide) (by rw [c_1]; decide) (by rw [c_1]; rfl) (by decide) ?_
      refine lv_aload_n hx hb dX3_aboutOf_65 rfl (lv_at hl 0 rfl) ?_
      refine va_get (D := D) (ci := 3) (v := .ref (q 11)) (C := RX3) (T := TX3) (N := 33) hx hb hts hinX3 hown hK hP 0 rfl rfl 11 (by decide) (hts (.fieldLink RX3 41 "TroubleCodesModel" "age" "[I") (mem_at 4 rfl)) (fun _ h9 => h9) rfl dX3_aboutOf_66 ?_
      refine lv_iload_n hx hb dX3_aboutOf_69 rfl (lv_at hl 1 rfl) ?_
      refine x_iald (k := k) (f := g 11) hx hb hK hP 11 rfl (by omega) (by decide) dX3_aboutOf_70 ?_
      exact hret 71 _ _ (by rw [c_1]; simp [aboutF]) rfl dX3_aboutOf_71
    · refine lv_tableIn (off := 71) (tgt := 72) hx hb dX3_aboutOf_1 (by rw [c_1]; decide) (by rw [c_1]; decide) (by rw [c_1]; rfl) (by decide) ?_
      refine lv_aload_n hx hb dX3_aboutOf_72 rfl (lv_at hl 0 rfl) ?_
      refine lv_iload_n hx hb dX3_aboutOf_73 rfl (lv_at hl 1 rfl) ?_
      refine x_rdV (As := [.int (nI k)]) (rest := []) ⟨hx, hb, hml, hown, hts⟩ (tX3_isHeld l D cI cZ cC q o g k hk hfo) (cwV 1 hts gX3_aboutOf_X3_isHeld rfl rfl rfl (by decide +kernel) ⟨Nat.le_of_ble_eq_true rfl, Nat.le_of_ble_eq_true rfl⟩) hK (x_recv (ci := 3) hK hP rfl (q0 := 0) rfl) hP rfl hl.1 rfl (Nat.le_of_ble_eq_true rfl) dX3_aboutOf_74 ⟨Nat.le_of_ble_eq_true rfl, Nat.le_of_ble_eq_true rfl⟩ (fun r_2 er_2 => ?_)
      have er_2 : r_2 = heldF (g 1) (g 2) (g 8) k := er_2
      subst er_2
      refine lv_if_eq (tgt := 84) hx hb dX3_aboutOf_77 (by decide) (fun c_3 => ?_) (fun c_3 => ?_)
      · refine lv_iconst (v := 0) hx hb dX3_aboutOf_84 (by decide) ?_
        exact hret 85 _ _ (by rw [c_1]; simp [aboutF, c_3]) rfl dX3_aboutOf_85
      · refine lv_iconst (v := 1) hx hb dX3_aboutOf_80 (by decide) ?_
        refine lv_goto (tgt := 85) hx hb dX3_aboutOf_81 (by decide) ?_
        exact hret 85 _ _ (by rw [c_1]; simp [aboutF, c_3]) rfl dX3_aboutOf_85
    · refine lv_tableIn (off := 85) (tgt := 86) hx hb dX3_aboutOf_1 (by rw [c_1]; decide) (by rw [c_1]; decide) (by rw [c_1]; rfl) (by decide) ?_
      refine lv_aload_n hx hb dX3_aboutOf_86 rfl (lv_at hl 0 rfl) ?_
      refine va_get (D := D) (ci := 3) (v := .ref (q 21)) (C := RX3) (T := TX3) (N := 33) hx hb hts hinX3 hown hK hP 0 rfl rfl 21 (by decide) (hts (.fieldLink RX3 66 "TroubleCodesModel" "isFrozen" "[Z") (mem_at 5 rfl)) (fun _ h9 => h9) rfl dX3_aboutOf_87 ?_
      refine lv_iload_n hx hb dX3_aboutOf_90 rfl (lv_at hl 1 rfl) ?_
      refine x_zald (k := k) (f := g 21) hx hb hK hP 18 rfl (by omega) (by decide) dX3_aboutOf_91 ?_
      refine lv_if_eq (tgt := 99) hx hb dX3_aboutOf_92 (by decide) (fun c_4 => ?_) (fun c_4 => ?_)
      · refine lv_iconst (v := 0) hx hb dX3_aboutOf_99 (by decide) ?_
        exact hret 100 _ _ (by rw [c_1]; simp [aboutF, c_4]) rfl dX3_aboutOf_100
      · refine lv_iconst (v := 1) hx hb dX3_aboutOf_95 (by decide) ?_
        refine lv_goto (tgt := 100) hx hb dX3_aboutOf_96 (by decide) ?_
        exact hret 100 _ _ (by rw [c_1]; simp [aboutF, c_4]) rfl dX3_aboutOf_100
    · refine lv_tableIn (off := 100) (tgt := 101) hx hb dX3_aboutOf_1 (by rw [c_1]; decide) (by rw [c_1]; decide) (by rw [c_1]; rfl) (by decide) ?_
      refine lv_aload_n hx hb dX3_aboutOf_101 rfl (lv_at hl 0 rfl) ?_
      refine va_get (D := D) (ci := 3) (v := .ref (q 12)) (C := RX3) (T := TX3) (N := 33) hx hb hts hinX3 hown hK hP 0 rfl rfl 12 (by decide) (hts (.fieldLink RX3 44 "TroubleCodesModel" "hasRun" "[Z") (mem_at 6 rfl)) (fun _ h9 => h9) rfl dX3_aboutOf_102 ?_
      refine lv_iload_n hx hb dX3_aboutOf_105 rfl (lv_at hl 1 rfl) ?_
      refine x_zald (k := k) (f := g 12) hx hb hK hP 12 rfl (by omega) (by decide) dX3_aboutOf_106 ?_
      refine lv_if_eq (tgt := 114) hx hb dX3_aboutOf_107 (by decide) (fun c_5 => ?_) (fun c_5 => ?_)
      · refine lv_iconst (v := 0) hx hb dX3_aboutOf_114 (by decide) ?_
        exact hret 115 _ _ (by rw [c_1]; simp [aboutF, c_5]) rfl dX3_aboutOf_115
      · refine lv_iconst (v := 1) hx hb dX3_aboutOf_110 (by decide) ?_
        refine lv_goto (tgt := 115) hx hb dX3_aboutOf_111 (by decide) ?_
        exact hret 115 _ _ (by rw [c_1]; simp [aboutF, c_5]) rfl dX3_aboutOf_115

set_option maxHeartbeats 4000000 in
set_option maxRecDepth 100000 in
theorem tX3_count (l : Launch) (D : va_G) (cI cZ cC : ClassId) (q : Nat → Nat) (o : Nat) (g : Nat → Nat → Int32) (n : Nat) (hn : g 0 0 = nI n) (hnb : n ≤ 16) (x : Int32) : RdC l yX3_count wsX3_count (rmK 1) D cI cZ cC [.ref o, .int x] (fun H => va_P D vwCl (mW cI cZ q o g) H) (fun ans => ans = countF g n x) := by
  refine RdC.of (cc := cX3_count) (maxL := 2) (ret := .int) (by decide) rfl (Nat.le_of_ble_eq_true rfl) ?_
  intro p e s m args below meth c Q ls hx hb hml hts hown hK hP hret hl
  have hl : lv_has ls 2 [(0, .ref o), (1, .int x)] := hl
  have hP : va_P D vwCl (mW cI cZ q o g) s.heap := hP
  have hinX3 : ∀ w ∈ u_ws RX3 TX3 33, w ∈ wsX3_count := (fun w h => List.mem_cons_of_mem _ (List.mem_append_right _ h))
  refine lv_iload_n hx hb dX3_count_0 rfl (lv_at hl 1 rfl) ?_
  by_cases c_1 : x.toInt < 0 ∨ 7 < x.toInt
  · refine lv_tableOut (tgt := 99) hx hb dX3_count_1 c_1 (by decide) ?_
    refine lv_bipush (v := (-2)) hx hb dX3_count_99 (by decide) ?_
    exact hret 101 _ _ (by have h := tb_out7 c_1; obtain ⟨h0, h1, h2, h3, h4, h5, h6, h7⟩ := h; simp [countF, h0, h1, h2, h3, h4, h5, h6, h7]) rfl dX3_count_101
  · have c_1 := tb_in7 (x := x) c_1
    rcases c_1 with c_1 | c_1 | c_1 | c_1 | c_1 | c_1 | c_1 | c_1
    · refine lv_tableIn (off := 47) (tgt := 48) hx hb dX3_count_1 (by rw [c_1]; decide) (by rw [c_1]; decide) (by rw [c_1]; rfl) (by decide) ?_
      refine lv_aload_n hx hb dX3_count_48 rfl (lv_at hl 0 rfl) ?_
      refine va_get (D := D) (ci := 3) (v := .int (g 0 0)) (C := RX3) (T := TX3) (N := 33) hx hb hts hinX3 hown hK hP 0 rfl rfl 0 (by decide) (hts (.fieldLink RX3 93 "TroubleCodesModel" "checks" "I") (mem_at 1 rfl)) (fun _ h9 => h9) rfl dX3_count_49 ?_
      exact hret 52 _ _ (by rw [c_1]; simp [countF]) rfl dX3_count_52
    · refine lv_tableIn (off := 52) (tgt := 53) hx hb dX3_count_1 (by rw [c_1]; decide) (by rw [c_1]; decide) (by rw [c_1]; rfl) (by decide) ?_
      refine lv_aload_n hx hb dX3_count_53 rfl (lv_at hl 0 rfl) ?_
      refine va_get (D := D) (ci := 3) (v := .int (g 18 0)) (C := RX3) (T := TX3) (N := 33) hx hb hts hinX3 hown hK hP 0 rfl rfl 18 (by decide) (hts (.fieldLink RX3 108 "TroubleCodesModel" "drives" "I") (mem_at 2 rfl)) (fun _ h9 => h9) rfl dX3_count_54 ?_
      exact hret 57 _ _ (by rw [c_1]; simp [countF]) rfl dX3_count_57
    · refine lv_tableIn (off := 57) (tgt := 58) hx hb dX3_count_1 (by rw [c_1]; decide) (by rw [c_1]; decide) (by rw [c_1]; rfl) (by decide) ?_
      refine lv_aload_n hx hb dX3_count_58 rfl (lv_at hl 0 rfl) ?_
      refine lv_iconst (v := 1) hx hb dX3_count_59 (by decide) ?_
      refine x_rdV (As := [.int 1]) (rest := []) ⟨hx, hb, hml, hown, hts⟩ (tX3_manyOf l D cI cZ cC q o g n hn hnb 1) (cwV 1 hts gX3_count_X3_manyOf rfl rfl rfl (by decide +kernel) ⟨Nat.le_of_ble_eq_true rfl, Nat.le_of_ble_eq_true rfl⟩) hK (x_recv (ci := 3) hK hP rfl (q0 := 0) rfl) hP rfl hl.1 rfl (Nat.le_of_ble_eq_true rfl) dX3_count_60 ⟨Nat.le_of_ble_eq_true rfl, Nat.le_of_ble_eq_true rfl⟩ (fun r_2 er_2 => ?_)
      have er_2 : r_2 = sumN (fun j => if (g 8) j = 1 then 1 else 0) n := er_2
      subst er_2
      exact hret 63 _ _ (by rw [c_1]; simp [countF]) rfl dX3_count_63
    · refine lv_tableIn (off := 63) (tgt := 64) hx hb dX3_count_1 (by rw [c_1]; decide) (by rw [c_1]; decide) (by rw [c_1]; rfl) (by decide) ?_
      refine lv_aload_n hx hb dX3_count_64 rfl (lv_at hl 0 rfl) ?_
      refine lv_iconst (v := 2) hx hb dX3_count_65 (by decide) ?_
      refine x_rdV (As := [.int 2]) (rest := []) ⟨hx, hb, hml, hown, hts⟩ (tX3_manyOf l D cI cZ cC q o g n hn hnb 2) (cwV 1 hts gX3_count_X3_manyOf rfl rfl rfl (by decide +kernel) ⟨Nat.le_of_ble_eq_true rfl, Nat.le_of_ble_eq_true rfl⟩) hK (x_recv (ci := 3) hK hP rfl (q0 := 0) rfl) hP rfl hl.1 rfl (Nat.le_of_ble_eq_true rfl) dX3_count_66 ⟨Nat.le_of_ble_eq_true rfl, Nat.le_of_ble_eq_true rfl⟩ (fun r_3 er_3 => ?_)
      have er_3 : r_3 = sumN (fun j => if (g 8) j = 2 then 1 else 0) n := er_3
      subst er_3
      exact hret 69 _ _ (by rw [c_1]; simp [countF]) rfl dX3_count_69
    · refine lv_tableIn (off := 69) (tgt := 70) hx hb dX3_count_1 (by rw [c_1]; decide) (by rw [c_1]; decide) (by rw [c_1]; rfl) (by decide) ?_
      refine lv_aload_n hx hb dX3_count_70 rfl (lv_at hl 0 rfl) ?_
      refine lv_iconst (v := 3) hx hb dX3_count_71 (by decide) ?_
      refine x_rdV (As := [.int 3]) (rest := []) ⟨hx, hb, hml, hown, hts⟩ (tX3_manyOf l D cI cZ cC q o g n hn hnb 3) (cwV 1 hts gX3_count_X3_manyOf rfl rfl rfl (by decide +kernel) ⟨Nat.le_of_ble_eq_true rfl, Nat.le_of_ble_eq_true rfl⟩) hK (x_recv (ci := 3) hK hP rfl (q0 := 0) rfl) hP rfl hl.1 rfl (Nat.le_of_ble_eq_true rfl) dX3_count_72 ⟨Nat.le_of_ble_eq_true rfl, Nat.le_of_ble_eq_true rfl⟩ (fun r_4 er_4 => ?_)
      have er_4 : r_4 = sumN (fun j => if (g 8) j = 3 then 1 else 0) n := er_4
      subst er_4
      exact hret 75 _ _ (by rw [c_1]; simp [countF]) rfl dX3_count_75
    · refine lv_tableIn (off := 75) (tgt := 76) hx hb dX3_count_1 (by rw [c_1]; decide) (by rw [c_1]; decide) (by rw [c_1]; rfl) (by decide) ?_
      refine lv_aload_n hx hb dX3_count_76 rfl (lv_at hl 0 rfl) ?_
      refine x_rdV (As := []) (rest := []) ⟨hx, hb, hml, hown, hts⟩ (tX3_manyFrozen l D cI cZ cC q o g n hn hnb) (cwV 0 hts gX3_count_X3_manyFrozen rfl rfl rfl (by decide +kernel) ⟨Nat.le_of_ble_eq_true rfl, Nat.le_of_ble_eq_true rfl⟩) hK (x_recv (ci := 3) hK hP rfl (q0 := 0) rfl) hP rfl hl.1 rfl (Nat.le_of_ble_eq_true rfl) dX3_count_77 ⟨Nat.le_of_ble_eq_true rfl, Nat.le_of_ble_eq_true rfl⟩ (fun r_5 er_5 => ?_)
      have er_5 : r_5 = sumN (fun j => if (g 21) j = 0 then 0 else 1) n := er_5
      subst er_5
      exact hret 80 _ _ (by rw [c_1]; simp [countF]) rfl dX3_count_80
    · refine lv_tableIn (off := 80) (tgt := 81) hx hb dX3_count_1 (by rw [c_1]; decide) (by rw [c_1]; decide) (by rw [c_1]; rfl) (by decide) ?_
      refine lv_aload_n hx hb dX3_count_81 rfl (lv_at hl 0 rfl) ?_
      refine va_get (D := D) (ci := 3) (v := .int (g 26 0)) (C := RX3) (T := TX3) (N := 33) hx hb hts hinX3 hown hK hP 0 rfl rfl 26 (by decide) (hts (.fieldLink RX3 141 "TroubleCodesModel" "causes" "I") (mem_at 3 rfl)) (fun _ h9 => h9) rfl dX3_count_82 ?_
      exact hret 85 _ _ (by rw [c_1]; simp [countF]) rfl dX3_count_85
    · refine lv_tableIn (off := 85) (tgt := 86) hx hb dX3_count_1 (by rw [c_1]; decide) (by rw [c_1]; decide) (by rw [c_1]; rfl) (by decide) ?_
      refine lv_aload_n hx hb dX3_count_86 rfl (lv_at hl 0 rfl) ?_
      refine va_get (D := D) (ci := 3) (v := .int (g 17 0)) (C := RX3) (T := TX3) (N := 33) hx hb hts hinX3 hown hK hP 0 rfl rfl 17 (by decide) (hts (.fieldLink RX3 104 "TroubleCodesModel" "goes" "Z") (mem_at 4 rfl)) (fun _ h9 => h9) rfl dX3_count_87 ?_
      refine lv_if_eq (tgt := 97) hx hb dX3_count_90 (by decide) (fun c_6 => ?_) (fun c_6 => ?_)
      · refine lv_iconst (v := 0) hx hb dX3_count_97 (by decide) ?_
        exact hret 98 _ _ (by rw [c_1]; simp [countF, c_6]) rfl dX3_count_98
      · refine lv_iconst (v := 1) hx hb dX3_count_93 (by decide) ?_
        refine lv_goto (tgt := 98) hx hb dX3_count_94 (by decide) ?_
        exact hret 98 _ _ (by rw [c_1]; simp [countF, c_6]) rfl dX3_count_98

def fX3_about (g : Nat → Nat → Int32) (x y : Int32) : Int32 := if 0 ≤ x ∧ x ≤ (g 0 0 - 1) then (if 0 ≤ y ∧ y ≤ 7 then (aboutF g (ix x) y) else (-2)) else (-2)
set_option maxHeartbeats 4000000 in
set_option maxRecDepth 100000 in
theorem tX3_about (l : Launch) (D : va_G) (cI cZ cC : ClassId) (q : Nat → Nat) (o : Nat) (g : Nat → Nat → Int32) (n : Nat) (hn : g 0 0 = nI n) (hnb : n ≤ 16) (hfo : ∀ k, k < n → g 1 k = 2 → ∃ f, f < 16 ∧ g 2 k = nI f) (x y : Int32) : RdC l yX3_about wsX3_about (rmK 2) D cI cZ cC [.ref o, .int x, .int y] (fun H => va_P D vwCl (mW cI cZ q o g) H) (fun ans => ans = fX3_about g x y) := by
  refine RdC.of (cc := cX3_about) (maxL := 3) (ret := .int) (by decide) rfl (Nat.le_of_ble_eq_true rfl) ?_
  intro p e s m args below meth c Q ls hx hb hml hts hown hK hP hret hl
  have hl : lv_has ls 3 [(0, .ref o), (1, .int x), (2, .int y)] := hl
  have hP : va_P D vwCl (mW cI cZ q o g) s.heap := hP
  refine lv_aload_n hx hb dX3_about_0 rfl (lv_at hl 0 rfl) ?_
  refine lv_iload_n hx hb dX3_about_1 rfl (lv_at hl 1 rfl) ?_
  refine x_rdV (As := [.int x]) (rest := []) ⟨hx, hb, hml, hown, hts⟩ (tX3_isCheck l D cI cZ cC q o g x) (cwV 1 hts gX3_about_X3_isCheck rfl rfl rfl (by decide +kernel) ⟨Nat.le_of_ble_eq_true rfl, Nat.le_of_ble_eq_true rfl⟩) hK (x_recv (ci := 3) hK hP rfl (q0 := 0) rfl) hP rfl hl.1 rfl (Nat.le_of_ble_eq_true rfl) dX3_about_2 ⟨Nat.le_of_ble_eq_true rfl, Nat.le_of_ble_eq_true rfl⟩ (fun r_1 er_1 => ?_)
  have er_1 : r_1 = bI (0 ≤ x ∧ x ≤ (g 0 0 - 1)) := er_1
  subst er_1
  refine lv_if_eq (tgt := 27) hx hb dX3_about_5 (by decide) (fun c_2 => ?_) (fun c_2 => ?_)
  · have c_2 := bI_eq c_2
    refine lv_bipush (v := (-2)) hx hb dX3_about_27 (by decide) ?_
    exact hret 29 _ _ (by rw [fX3_about]; rw [if_neg c_2]) rfl dX3_about_29
  · have c_2 := bI_ne c_2
    refine lv_iload_n hx hb dX3_about_8 rfl (lv_at hl 2 rfl) ?_
    refine lv_iconst (v := 0) hx hb dX3_about_9 (by decide) ?_
    refine lv_bipush (v := 7) hx hb dX3_about_10 (by decide) ?_
    refine x_rdS (As := [.int y, .int 0, .int 7]) (rest := []) ⟨hx, hb, hml, hown, hts⟩ (tX3_in l D cI cZ cC y 0 7) (va_cwS 3 hts gX3_about_X3_in rfl rfl rfl (by decide +kernel) ⟨Nat.le_of_ble_eq_true rfl, Nat.le_of_ble_eq_true rfl⟩) hK trivial rfl hl.1 rfl (Nat.le_of_ble_eq_true rfl) dX3_about_12 ⟨Nat.le_of_ble_eq_true rfl, Nat.le_of_ble_eq_true rfl⟩ (fun r_3 er_3 => ?_)
    have er_3 : r_3 = bI (0 ≤ y ∧ y ≤ 7) := er_3
    subst er_3
    refine lv_if_eq (tgt := 27) hx hb dX3_about_15 (by decide) (fun c_4 => ?_) (fun c_4 => ?_)
    · have c_4 := bI_eq c_4
      refine lv_bipush (v := (-2)) hx hb dX3_about_27 (by decide) ?_
      exact hret 29 _ _ (by rw [fX3_about]; rw [if_pos c_2, if_neg c_4]) rfl dX3_about_29
    · have c_4 := bI_ne c_4
      obtain ⟨j, hj, ej⟩ := ixck hn (by omega) c_2
      subst ej
      have xj : ix (nI j) = j := ix_nI (by omega)
      refine lv_aload_n hx hb dX3_about_18 rfl (lv_at hl 0 rfl) ?_
      refine lv_iload_n hx hb dX3_about_19 rfl (lv_at hl 1 rfl) ?_
      refine lv_iload_n hx hb dX3_about_20 rfl (lv_at hl 2 rfl) ?_
      refine x_rdV (As := [.int (nI j), .int y]) (rest := []) ⟨hx, hb, hml, hown, hts⟩ (tX3_aboutOf l D cI cZ cC q o g j (by omega) (hfo j hj) y) (cwV 2 hts gX3_about_X3_aboutOf rfl rfl rfl (by decide +kernel) ⟨Nat.le_of_ble_eq_true rfl, Nat.le_of_ble_eq_true rfl⟩) hK (x_recv (ci := 3) hK hP rfl (q0 := 0) rfl) hP rfl hl.1 rfl (Nat.le_of_ble_eq_true rfl) dX3_about_21 ⟨Nat.le_of_ble_eq_true rfl, Nat.le_of_ble_eq_true rfl⟩ (fun r_5 er_5 => ?_)
      have er_5 : r_5 = aboutF g j y := er_5
      subst er_5
      refine lv_goto (tgt := 29) hx hb dX3_about_24 (by decide) ?_
      exact hret 29 _ _ (by rw [fX3_about]; simp only [xj]; rw [if_pos c_2, if_pos c_4]) rfl dX3_about_29
