def exC (v : Nat → Nat → Int32) : Nat → Bool := fun z => decide ((v 3 z &&& v 9 0) = (v 10 0 &&& v 9 0))

def fX1_findLeast (v : Nat → Nat → Int32) (mm : Nat) : Nat → Nat → Int32 := va_up (va_up v 4 (flC (exC v) (v 4) (2 ^ mm)).2.2) 5 (fun _ => nI (flC (exC v) (v 4) (2 ^ mm)).1)

set_option maxHeartbeats 4000000 in
set_option maxRecDepth 100000 in
theorem tX1_findLeast (l : Launch) (D : va_G) (cI cZ cC : ClassId) (ad : Nat → Nat) (v : Nat → Nat → Int32) (mm : Nat) (hm : v 2 0 = nI mm) (hmb : mm ≤ 10) : WrV l yX1_findLeast wsX1_findLeast (rmK 1) D cI cZ cC [.ref (ad 3)] (wW cI ad v) (wW cI ad (fX1_findLeast v mm)) := by
  refine WrV.of (cc := cX1_findLeast) (maxL := 4) (by decide) rfl (Nat.le_of_ble_eq_true rfl) ?_
  intro p e s m args below meth c Q A ls hx hb hml hts hown hK hP hD hS hA hret hl
  have hl : lv_has ls 4 [(0, .ref (ad 3))] := hl
  have hinX1 : ∀ w ∈ u_ws RX1 TX1 13, w ∈ wsX1_findLeast := (fun w h => List.mem_cons_of_mem _ (List.mem_append_right _ h))
  refine lv_aload_n hx hb dX1_findLeast_0 rfl (lv_at hl 0 rfl) ?_
  refine lv_iconst (v := 0) hx hb dX1_findLeast_1 (by decide) ?_
  refine va_put (D := D) (ci := 1) (v := .int 0) (ty := .int) (C := RX1) (T := TX1) (N := 13) hx hb hts hinX1 tyX1 tyX1_ok nmX1 hown hK hP hD hS 0 rfl rfl 5 (by decide) (hts (.fieldLink RX1 28 "TroubleCodes$Workshop" "leastCount" "I") (mem_at 1 rfl)) (fun _ h9 => h9) rfl (by decide +kernel) rfl rfl (Nat.le_of_ble_eq_true rfl) dX1_findLeast_2 (fun H locs hP hD hS => ?_)
  have hP : va_P D vwCl (wW cI ad (va_up v 5 (fun _ => 0))) H := hP
  have hD : va_D A (wW cI ad (va_up v 5 (fun _ => 0))) := hD
  refine lv_bipush (v := 10) hx hb dX1_findLeast_5 (by decide) ?_
  refine lv_istore_n (lv' := [(1, .int 10), (0, .ref (ad 3))]) hx hb dX1_findLeast_7 rfl hl (by decide) rfl (fun ls hl => ?_)
  refine lv_iconst (v := 0) hx hb dX1_findLeast_8 (by decide) ?_
  refine lv_istore_n (lv' := [(2, .int 0), (1, .int 10), (0, .ref (ad 3))]) hx hb dX1_findLeast_9 rfl hl (by decide) rfl (fun ls hl => ?_)
  have LOOP_1 : ∀ (fu z : Nat), z ≤ 2 ^ mm → 2 ^ mm - z < fu → ∀ (H : Heap) (locs : List Loc) (ls : Array Slot), va_P D vwCl (wW cI ad (va_up (va_up v 4 ((flC (exC v) (v 4) z).2.2)) 5 (fun _ => nI (flC (exC v) (v 4) z).1))) H → va_D A (wW cI ad (va_up (va_up v 4 ((flC (exC v) (v 4) z).2.2)) 5 (fun _ => nI (flC (exC v) (v 4) z).1))) → va_S A s.heap H locs → lv_has ls 4 [(0, .ref (ad 3)), (1, .int (nI (flC (exC v) (v 4) z).2.1)), (2, .int (nI z))] → W p l e (rmK 1) s m args below meth c H locs 0 0 Q (F0 m 10 ls []) := by
    intro fu
    induction fu with
    | zero => intro z h1 h2; exact absurd h2 (Nat.not_lt_zero _)
    | succ fu ih =>
      intro z hkn hfu  H locs ls hP hD hS hl
      refine lv_iload_n hx hb dX1_findLeast_10 rfl (lv_at hl 2 rfl) ?_
      refine lv_iconst (v := 1) hx hb dX1_findLeast_11 (by decide) ?_
      refine lv_aload_n hx hb dX1_findLeast_12 rfl (lv_at hl 0 rfl) ?_
      refine va_get (D := D) (ci := 1) (v := .int (v 2 0)) (C := RX1) (T := TX1) (N := 13) hx hb hts hinX1 hown hK hP 0 rfl rfl 2 (by decide) (hts (.fieldLink RX1 18 "TroubleCodes$Workshop" "causeCount" "I") (mem_at 2 rfl)) (fun _ h9 => h9) rfl dX1_findLeast_13 ?_
      refine lv_ishl hx hb dX1_findLeast_16 ?_
      rw [shl1x hm (by omega)]
      refine lv_icmp_ge (tgt := 96) hx hb dX1_findLeast_17 (by decide) (fun c_2 => ?_) (fun c_2 => ?_)
      · have ekn : 2 ^ mm = z := Nat.le_antisymm (kx_ge (x := nI (2 ^ mm)) rfl (by have := pow_le10 hmb; omega) (by have := pow_le10 hmb; omega) c_2) hkn
        subst ekn
        exact hret 96 _ _ _ hP hD hS dX1_findLeast_96
      · have hzl : z < 2 ^ mm := kx_lt (x := nI (2 ^ mm)) rfl (by have := pow_le10 hmb; omega) (by have := pow_le10 hmb; omega) c_2
        obtain ⟨L, few, li, hs⟩ : ∃ L few li, flC (exC v) (v 4) z = (L, few, li) := ⟨_, _, _, rfl⟩
        have hLb : L ≤ 10 ∧ few ≤ 16 := by have := flC_b (exC v) (v 4) z; rw [hs] at this; exact this
        have hpz := popG_le 16 z
        have hz10 : z < 1024 := by have := pow_le10 hmb; omega
        rw [hs] at hP hD hl
        have hP : va_P D vwCl (wW cI ad (va_up (va_up v 4 li) 5 (fun _ => nI L))) H := hP
        have hD : va_D A (wW cI ad (va_up (va_up v 4 li) 5 (fun _ => nI L))) := hD
        have hl : lv_has ls 4 [(0, .ref (ad 3)), (1, .int (nI few)), (2, .int (nI z))] := hl
        refine lv_iload_n hx hb dX1_findLeast_20 rfl (lv_at hl 2 rfl) ?_
        refine x_rdS (As := [.int (nI z)]) (rest := []) ⟨hx, hb, hml, hown, hts⟩ (tJ6_bitCount_0f7a4 l D cI cZ cC z (by omega)) (va_cwS 1 hts gX1_findLeast_J6_bitCount_0f7a4 rfl rfl rfl (by decide +kernel) ⟨Nat.le_of_ble_eq_true rfl, Nat.le_of_ble_eq_true rfl⟩) hK trivial rfl hl.1 rfl (Nat.le_of_ble_eq_true rfl) dX1_findLeast_21 ⟨Nat.le_of_ble_eq_true rfl, Nat.le_of_ble_eq_true rfl⟩ (fun r_3 er_3 => ?_)
        have er_3 : r_3 = nI (popG 16 z) := er_3
        subst er_3
        refine lv_istore_n (lv' := [(3, .int (nI (popG 16 z))), (0, .ref (ad 3)), (1, .int (nI few)), (2, .int (nI z))]) hx hb dX1_findLeast_24 rfl hl (by decide) rfl (fun ls hl => ?_)
        refine lv_iload_n hx hb dX1_findLeast_25 rfl (lv_at hl 0 rfl) ?_
        refine lv_iload_n hx hb dX1_findLeast_26 rfl (lv_at hl 2 rfl) ?_
        refine lv_icmp_gt (tgt := 90) hx hb dX1_findLeast_27 (by decide) (fun c_4 => ?_) (fun c_4 => ?_)
        · refine lv_iinc (v := nI (z + 1)) (lv' := [(2, .int (nI (z + 1))), (3, .int (nI (popG 16 z))), (0, .ref (ad 3)), (1, .int (nI few))]) hx hb dX1_findLeast_90 hl (k := 3) rfl (nI_1 _) (by decide) rfl (fun ls hl => ?_)
          refine lv_goto (tgt := 10) hx hb dX1_findLeast_93 (by decide) ?_
          have fhs_5_0 := (show ¬ popG 16 z ≤ few from by have := (nI_ltI (by omega) (by omega)).mp c_4; omega)
          have hs_5 : flC (exC v) (v 4) (z + 1) = (L, few, li) := by
            rw [flC, hs]; simp [fhs_5_0]
          have q_6 : va_up (va_up v 4 ((flC (exC v) (v 4) (z + 1)).2.2)) 5 (fun _ => nI (flC (exC v) (v 4) (z + 1)).1) = va_up (va_up v 4 li) 5 (fun _ => nI L) := by rw [hs_5]
          exact ih (z + 1) (by omega) (by omega) H locs ls (by rw [q_6]; exact hP) (by rw [q_6]; exact hD) hS (by rw [hs_5]; exact lv_sub hl [2, 3, 0] rfl)
        · refine lv_aload_n hx hb dX1_findLeast_30 rfl (lv_at hl 1 rfl) ?_
          refine lv_iload_n hx hb dX1_findLeast_31 rfl (lv_at hl 3 rfl) ?_
          refine lv_aload_n hx hb dX1_findLeast_32 rfl (lv_at hl 1 rfl) ?_
          refine va_get (D := D) (ci := 1) (v := .int (v 9 0)) (C := RX1) (T := TX1) (N := 13) hx hb hts hinX1 hown hK hP 0 rfl rfl 9 (by decide) (hts (.fieldLink RX1 40 "TroubleCodes$Workshop" "seenRan" "I") (mem_at 3 rfl)) (fun _ h9 => h9) rfl dX1_findLeast_33 ?_
          refine lv_aload_n hx hb dX1_findLeast_36 rfl (lv_at hl 1 rfl) ?_
          refine va_get (D := D) (ci := 1) (v := .int (v 10 0)) (C := RX1) (T := TX1) (N := 13) hx hb hts hinX1 hown hK hP 0 rfl rfl 10 (by decide) (hts (.fieldLink RX1 43 "TroubleCodes$Workshop" "seenSet" "I") (mem_at 4 rfl)) (fun _ h9 => h9) rfl dX1_findLeast_37 ?_
          refine x_rdV (As := [.int (nI z), .int (v 9 0), .int (v 10 0)]) (rest := []) ⟨hx, hb, hml, hown, hts⟩ (tX1_isExplainedBy l D cI cZ cC ad (va_up (va_up v 4 li) 5 (fun _ => nI L)) z (by omega) (v 9 0) (v 10 0)) (cwV 3 hts gX1_findLeast_X1_isExplainedBy rfl rfl rfl (by decide +kernel) ⟨Nat.le_of_ble_eq_true rfl, Nat.le_of_ble_eq_true rfl⟩) hK (x_recv (ci := 1) hK hP rfl (q0 := 0) rfl) hP rfl hl.1 rfl (Nat.le_of_ble_eq_true rfl) dX1_findLeast_40 ⟨Nat.le_of_ble_eq_true rfl, Nat.le_of_ble_eq_true rfl⟩ (fun r_7 er_7 => ?_)
          have er_7 : r_7 = bI ((v 3 z &&& (v 9 0)) = ((v 10 0) &&& (v 9 0))) := er_7
          subst er_7
          refine lv_if_ne (tgt := 49) hx hb dX1_findLeast_43 (by decide) (fun c_8 => ?_) (fun c_8 => ?_)
          · have c_8 := bI_ne c_8
            refine lv_iload_n hx hb dX1_findLeast_49 rfl (lv_at hl 0 rfl) ?_
            refine lv_iload_n hx hb dX1_findLeast_50 rfl (lv_at hl 2 rfl) ?_
            refine lv_icmp_ge (tgt := 59) hx hb dX1_findLeast_51 (by decide) (fun c_9 => ?_) (fun c_9 => ?_)
            · refine lv_iload_n hx hb dX1_findLeast_59 rfl (lv_at hl 0 rfl) ?_
              refine lv_istore_n (lv' := [(1, .int (nI (popG 16 z))), (3, .int (nI (popG 16 z))), (0, .ref (ad 3)), (2, .int (nI z))]) hx hb dX1_findLeast_60 rfl hl (by decide) rfl (fun ls hl => ?_)
              refine lv_aload_n hx hb dX1_findLeast_61 rfl (lv_at hl 2 rfl) ?_
              refine va_get (D := D) (ci := 1) (v := .int (nI L)) (C := RX1) (T := TX1) (N := 13) hx hb hts hinX1 hown hK hP 0 rfl rfl 5 (by decide) (hts (.fieldLink RX1 28 "TroubleCodes$Workshop" "leastCount" "I") (mem_at 1 rfl)) (fun _ h9 => h9) rfl dX1_findLeast_62 ?_
              refine lv_bipush (v := 10) hx hb dX1_findLeast_65 (by decide) ?_
              refine lv_icmp_ge (tgt := 90) hx hb dX1_findLeast_67 (by decide) (fun c_10 => ?_) (fun c_10 => ?_)
              · refine lv_iinc (v := nI (z + 1)) (lv' := [(2, .int (nI (z + 1))), (1, .int (nI (popG 16 z))), (3, .int (nI (popG 16 z))), (0, .ref (ad 3))]) hx hb dX1_findLeast_90 hl (k := 3) rfl (nI_1 _) (by decide) rfl (fun ls hl => ?_)
                refine lv_goto (tgt := 10) hx hb dX1_findLeast_93 (by decide) ?_
                have fhs_11_0 := (show popG 16 z ≤ few from Nat.le_of_not_lt (fun h => c_4 ((nI_ltI (by omega) (by omega)).mpr h)))
                have fhs_11_1 := c_8
                have fhs_11_2 := (show ¬ popG 16 z < few from by have := (nI_leI (by omega) (by omega)).mp c_9; omega)
                have fhs_11_3 := (show ¬ L < 10 from by have := (nI_leI (a := 10) (by decide) (by omega)).mp c_10; omega)
                have hs_11 : flC (exC v) (v 4) (z + 1) = (L, (popG 16 z), li) := by
                  have hE : exC v z = true := decide_eq_true c_8
                  rw [flC, hs]; simp [fhs_11_0, fhs_11_2, fhs_11_3, hE]
                have q_12 : va_up (va_up v 4 ((flC (exC v) (v 4) (z + 1)).2.2)) 5 (fun _ => nI (flC (exC v) (v 4) (z + 1)).1) = va_up (va_up v 4 li) 5 (fun _ => nI L) := by rw [hs_11]
                exact ih (z + 1) (by omega) (by omega) H locs ls (by rw [q_12]; exact hP) (by rw [q_12]; exact hD) hS (by rw [hs_11]; exact lv_sub hl [3, 1, 0] rfl)
              · have hL9 : L < 10 := Nat.lt_of_not_le (fun h => c_10 ((nI_leI (a := 10) (by decide) (by omega)).mpr h))
                refine lv_aload_n hx hb dX1_findLeast_70 rfl (lv_at hl 2 rfl) ?_
                refine va_get (D := D) (ci := 1) (v := .ref (ad 7)) (C := RX1) (T := TX1) (N := 13) hx hb hts hinX1 hown hK hP 0 rfl rfl 4 (by decide) (hts (.fieldLink RX1 25 "TroubleCodes$Workshop" "least" "[I") (mem_at 5 rfl)) (fun _ h9 => h9) rfl dX1_findLeast_71 ?_
                refine lv_aload_n hx hb dX1_findLeast_74 rfl (lv_at hl 2 rfl) ?_
                refine va_get (D := D) (ci := 1) (v := .int (nI L)) (C := RX1) (T := TX1) (N := 13) hx hb hts hinX1 hown hK hP 0 rfl rfl 5 (by decide) (hts (.fieldLink RX1 28 "TroubleCodes$Workshop" "leastCount" "I") (mem_at 1 rfl)) (fun _ h9 => h9) rfl dX1_findLeast_75 ?_
                refine lv_iload_n hx hb dX1_findLeast_78 rfl (lv_at hl 3 rfl) ?_
                refine x_iast (k := L) (f := li) (x := nI z) hx hb hK hP hD hS 4 rfl (by omega) (by decide) dX1_findLeast_79 (fun H locs hP hD hS => ?_)
                have hP : va_P D vwCl (wW cI ad (va_up (va_up v 4 (upd li L (nI z))) 5 (fun _ => nI L))) H := hP
                have hD : va_D A (wW cI ad (va_up (va_up v 4 (upd li L (nI z))) 5 (fun _ => nI L))) := hD
                refine lv_aload_n hx hb dX1_findLeast_80 rfl (lv_at hl 2 rfl) ?_
                refine lv_dup hx hb dX1_findLeast_81 rfl ?_
                refine va_get (D := D) (ci := 1) (v := .int (nI L)) (C := RX1) (T := TX1) (N := 13) hx hb hts hinX1 hown hK hP 0 rfl rfl 5 (by decide) (hts (.fieldLink RX1 28 "TroubleCodes$Workshop" "leastCount" "I") (mem_at 1 rfl)) (fun _ h9 => h9) rfl dX1_findLeast_82 ?_
                refine lv_iconst (v := 1) hx hb dX1_findLeast_85 (by decide) ?_
                refine lv_iadd hx hb dX1_findLeast_86 ?_
                rw [nI_1]
                refine va_put (D := D) (ci := 1) (v := .int (nI (L + 1))) (ty := .int) (C := RX1) (T := TX1) (N := 13) hx hb hts hinX1 tyX1 tyX1_ok nmX1 hown hK hP hD hS 0 rfl rfl 5 (by decide) (hts (.fieldLink RX1 28 "TroubleCodes$Workshop" "leastCount" "I") (mem_at 1 rfl)) (fun _ h9 => h9) rfl (by decide +kernel) rfl rfl (Nat.le_of_ble_eq_true rfl) dX1_findLeast_87 (fun H locs hP hD hS => ?_)
                have hP : va_P D vwCl (wW cI ad (va_up (va_up v 4 (upd li L (nI z))) 5 (fun _ => nI (L + 1)))) H := hP
                have hD : va_D A (wW cI ad (va_up (va_up v 4 (upd li L (nI z))) 5 (fun _ => nI (L + 1)))) := hD
                refine lv_iinc (v := nI (z + 1)) (lv' := [(2, .int (nI (z + 1))), (1, .int (nI (popG 16 z))), (3, .int (nI (popG 16 z))), (0, .ref (ad 3))]) hx hb dX1_findLeast_90 hl (k := 3) rfl (nI_1 _) (by decide) rfl (fun ls hl => ?_)
                refine lv_goto (tgt := 10) hx hb dX1_findLeast_93 (by decide) ?_
                have fhs_13_0 := (show popG 16 z ≤ few from Nat.le_of_not_lt (fun h => c_4 ((nI_ltI (by omega) (by omega)).mpr h)))
                have fhs_13_1 := c_8
                have fhs_13_2 := (show ¬ popG 16 z < few from by have := (nI_leI (by omega) (by omega)).mp c_9; omega)
                have fhs_13_3 := (show L < 10 from Nat.lt_of_not_le (fun h => c_10 ((nI_leI (a := 10) (by decide) (by omega)).mpr h)))
                have hs_13 : flC (exC v) (v 4) (z + 1) = ((L + 1), (popG 16 z), upd li L (nI z)) := by
                  have hE : exC v z = true := decide_eq_true c_8
                  rw [flC, hs]; simp [fhs_13_0, fhs_13_2, fhs_13_3, hE]
                have q_14 : va_up (va_up v 4 ((flC (exC v) (v 4) (z + 1)).2.2)) 5 (fun _ => nI (flC (exC v) (v 4) (z + 1)).1) = va_up (va_up v 4 (upd li L (nI z))) 5 (fun _ => nI (L + 1)) := by rw [hs_13]
                exact ih (z + 1) (by omega) (by omega) H locs ls (by rw [q_14]; exact hP) (by rw [q_14]; exact hD) hS (by rw [hs_13]; exact lv_sub hl [3, 1, 0] rfl)
            · refine lv_aload_n hx hb dX1_findLeast_54 rfl (lv_at hl 1 rfl) ?_
              refine lv_iconst (v := 0) hx hb dX1_findLeast_55 (by decide) ?_
              refine W.eq (g2 := F0 m 56 ls [.int (nI 0), .ref (ad 3)]) rfl ?_
              refine va_put (D := D) (ci := 1) (v := .int (nI 0)) (ty := .int) (C := RX1) (T := TX1) (N := 13) hx hb hts hinX1 tyX1 tyX1_ok nmX1 hown hK hP hD hS 0 rfl rfl 5 (by decide) (hts (.fieldLink RX1 28 "TroubleCodes$Workshop" "leastCount" "I") (mem_at 1 rfl)) (fun _ h9 => h9) rfl (by decide +kernel) rfl rfl (Nat.le_of_ble_eq_true rfl) dX1_findLeast_56 (fun H locs hP hD hS => ?_)
              have hP : va_P D vwCl (wW cI ad (va_up (va_up v 4 li) 5 (fun _ => nI 0))) H := hP
              have hD : va_D A (wW cI ad (va_up (va_up v 4 li) 5 (fun _ => nI 0))) := hD
              refine lv_iload_n hx hb dX1_findLeast_59 rfl (lv_at hl 0 rfl) ?_
              refine lv_istore_n (lv' := [(1, .int (nI (popG 16 z))), (3, .int (nI (popG 16 z))), (0, .ref (ad 3)), (2, .int (nI z))]) hx hb dX1_findLeast_60 rfl hl (by decide) rfl (fun ls hl => ?_)
              refine lv_aload_n hx hb dX1_findLeast_61 rfl (lv_at hl 2 rfl) ?_
              refine va_get (D := D) (ci := 1) (v := .int (nI 0)) (C := RX1) (T := TX1) (N := 13) hx hb hts hinX1 hown hK hP 0 rfl rfl 5 (by decide) (hts (.fieldLink RX1 28 "TroubleCodes$Workshop" "leastCount" "I") (mem_at 1 rfl)) (fun _ h9 => h9) rfl dX1_findLeast_62 ?_
              refine lv_bipush (v := 10) hx hb dX1_findLeast_65 (by decide) ?_
              refine lv_icmp_ge (tgt := 90) hx hb dX1_findLeast_67 (by decide) (fun c_15 => ?_) (fun c_15 => ?_)
              · exact absurd c_15 (by decide)
              · refine lv_aload_n hx hb dX1_findLeast_70 rfl (lv_at hl 2 rfl) ?_
                refine va_get (D := D) (ci := 1) (v := .ref (ad 7)) (C := RX1) (T := TX1) (N := 13) hx hb hts hinX1 hown hK hP 0 rfl rfl 4 (by decide) (hts (.fieldLink RX1 25 "TroubleCodes$Workshop" "least" "[I") (mem_at 5 rfl)) (fun _ h9 => h9) rfl dX1_findLeast_71 ?_
                refine lv_aload_n hx hb dX1_findLeast_74 rfl (lv_at hl 2 rfl) ?_
                refine va_get (D := D) (ci := 1) (v := .int (nI 0)) (C := RX1) (T := TX1) (N := 13) hx hb hts hinX1 hown hK hP 0 rfl rfl 5 (by decide) (hts (.fieldLink RX1 28 "TroubleCodes$Workshop" "leastCount" "I") (mem_at 1 rfl)) (fun _ h9 => h9) rfl dX1_findLeast_75 ?_
                refine lv_iload_n hx hb dX1_findLeast_78 rfl (lv_at hl 3 rfl) ?_
                refine x_iast (k := 0) (f := li) (x := nI z) hx hb hK hP hD hS 4 rfl (by decide) (by decide) dX1_findLeast_79 (fun H locs hP hD hS => ?_)
                have hP : va_P D vwCl (wW cI ad (va_up (va_up v 4 (upd li 0 (nI z))) 5 (fun _ => nI 0))) H := hP
                have hD : va_D A (wW cI ad (va_up (va_up v 4 (upd li 0 (nI z))) 5 (fun _ => nI 0))) := hD
                refine lv_aload_n hx hb dX1_findLeast_80 rfl (lv_at hl 2 rfl) ?_
                refine lv_dup hx hb dX1_findLeast_81 rfl ?_
                refine va_get (D := D) (ci := 1) (v := .int (nI 0)) (C := RX1) (T := TX1) (N := 13) hx hb hts hinX1 hown hK hP 0 rfl rfl 5 (by decide) (hts (.fieldLink RX1 28 "TroubleCodes$Workshop" "leastCount" "I") (mem_at 1 rfl)) (fun _ h9 => h9) rfl dX1_findLeast_82 ?_
                refine lv_iconst (v := 1) hx hb dX1_findLeast_85 (by decide) ?_
                refine lv_iadd hx hb dX1_findLeast_86 ?_
                rw [nI_1]
                refine va_put (D := D) (ci := 1) (v := .int (nI (0 + 1))) (ty := .int) (C := RX1) (T := TX1) (N := 13) hx hb hts hinX1 tyX1 tyX1_ok nmX1 hown hK hP hD hS 0 rfl rfl 5 (by decide) (hts (.fieldLink RX1 28 "TroubleCodes$Workshop" "leastCount" "I") (mem_at 1 rfl)) (fun _ h9 => h9) rfl (by decide +kernel) rfl rfl (Nat.le_of_ble_eq_true rfl) dX1_findLeast_87 (fun H locs hP hD hS => ?_)
                have hP : va_P D vwCl (wW cI ad (va_up (va_up v 4 (upd li 0 (nI z))) 5 (fun _ => nI (0 + 1)))) H := hP
                have hD : va_D A (wW cI ad (va_up (va_up v 4 (upd li 0 (nI z))) 5 (fun _ => nI (0 + 1)))) := hD
                refine lv_iinc (v := nI (z + 1)) (lv' := [(2, .int (nI (z + 1))), (1, .int (nI (popG 16 z))), (3, .int (nI (popG 16 z))), (0, .ref (ad 3))]) hx hb dX1_findLeast_90 hl (k := 3) rfl (nI_1 _) (by decide) rfl (fun ls hl => ?_)
                refine lv_goto (tgt := 10) hx hb dX1_findLeast_93 (by decide) ?_
                have fhs_16_0 := (show popG 16 z ≤ few from Nat.le_of_not_lt (fun h => c_4 ((nI_ltI (by omega) (by omega)).mpr h)))
                have fhs_16_1 := c_8
                have fhs_16_2 := (show popG 16 z < few from Nat.lt_of_not_le (fun h => c_9 ((nI_leI (by omega) (by omega)).mpr h)))
                have hs_16 : flC (exC v) (v 4) (z + 1) = ((0 + 1), (popG 16 z), upd li 0 (nI z)) := by
                  have hE : exC v z = true := decide_eq_true c_8
                  rw [flC, hs]; simp [fhs_16_0, fhs_16_2, hE]
                have q_17 : va_up (va_up v 4 ((flC (exC v) (v 4) (z + 1)).2.2)) 5 (fun _ => nI (flC (exC v) (v 4) (z + 1)).1) = va_up (va_up v 4 (upd li 0 (nI z))) 5 (fun _ => nI (0 + 1)) := by rw [hs_16]
                exact ih (z + 1) (by omega) (by omega) H locs ls (by rw [q_17]; exact hP) (by rw [q_17]; exact hD) hS (by rw [hs_16]; exact lv_sub hl [3, 1, 0] rfl)
          · have c_8 := bI_eq c_8
            refine lv_goto (tgt := 90) hx hb dX1_findLeast_46 (by decide) ?_
            refine lv_iinc (v := nI (z + 1)) (lv' := [(2, .int (nI (z + 1))), (3, .int (nI (popG 16 z))), (0, .ref (ad 3)), (1, .int (nI few))]) hx hb dX1_findLeast_90 hl (k := 3) rfl (nI_1 _) (by decide) rfl (fun ls hl => ?_)
            refine lv_goto (tgt := 10) hx hb dX1_findLeast_93 (by decide) ?_
            have fhs_18_0 := (show popG 16 z ≤ few from Nat.le_of_not_lt (fun h => c_4 ((nI_ltI (by omega) (by omega)).mpr h)))
            have fhs_18_1 := c_8
            have hs_18 : flC (exC v) (v 4) (z + 1) = (L, few, li) := by
              have hE : exC v z = false := decide_eq_false c_8
              rw [flC, hs]; simp [fhs_18_0, hE]
            have q_19 : va_up (va_up v 4 ((flC (exC v) (v 4) (z + 1)).2.2)) 5 (fun _ => nI (flC (exC v) (v 4) (z + 1)).1) = va_up (va_up v 4 li) 5 (fun _ => nI L) := by rw [hs_18]
            exact ih (z + 1) (by omega) (by omega) H locs ls (by rw [q_19]; exact hP) (by rw [q_19]; exact hD) hS (by rw [hs_18]; exact lv_sub hl [2, 3, 0] rfl)
  have q_20 : (nI (flC (exC v) (v 4) 0).2.1 : Int32) = 10 := by rfl
  have q_21 : (nI 0 : Int32) = 0 := by rfl
  exact LOOP_1 (2 ^ mm - 0 + 1) 0 (Nat.zero_le _) (Nat.lt_succ_self _) _ _ ls (by skip; exact hP) (by skip; exact hD) hS (by rw [q_20, q_21]; exact lv_sub hl [2, 1, 0] rfl)

def fX1_look (v : Nat → Nat → Int32) (mm : Nat) (x y : Int32) : Nat → Nat → Int32 := if x = (v 9 0) then (if y = (v 10 0) then (if (v 2 0) = (v 11 0) then v else (fX1_findLeast (va_up (va_up (va_up (va_up v 9 (fun _ => x)) 10 (fun _ => y)) 11 (fun _ => v 2 0)) 12 (fun _ => 0)) mm)) else (fX1_findLeast (va_up (va_up (va_up (va_up v 9 (fun _ => x)) 10 (fun _ => y)) 11 (fun _ => v 2 0)) 12 (fun _ => 0)) mm)) else (fX1_findLeast (va_up (va_up (va_up (va_up v 9 (fun _ => x)) 10 (fun _ => y)) 11 (fun _ => v 2 0)) 12 (fun _ => 0)) mm)
set_option maxHeartbeats 4000000 in
set_option maxRecDepth 100000 in
theorem tX1_look (l : Launch) (D : va_G) (cI cZ cC : ClassId) (ad : Nat → Nat) (v : Nat → Nat → Int32) (mm : Nat) (hm : v 2 0 = nI mm) (hmb : mm ≤ 10) (x y : Int32) : WrV l yX1_look wsX1_look (rmK 2) D cI cZ cC [.ref (ad 3), .int x, .int y] (wW cI ad v) (wW cI ad (fX1_look v mm x y)) := by
  refine WrV.of (cc := cX1_look) (maxL := 3) (by decide) rfl (Nat.le_of_ble_eq_true rfl) ?_
  intro p e s m args below meth c Q A ls hx hb hml hts hown hK hP hD hS hA hret hl
  have hl : lv_has ls 3 [(0, .ref (ad 3)), (1, .int x), (2, .int y)] := hl
  have hinX1 : ∀ w ∈ u_ws RX1 TX1 13, w ∈ wsX1_look := (fun w h => List.mem_cons_of_mem _ (List.mem_append_right _ h))
  refine lv_iload_n hx hb dX1_look_0 rfl (lv_at hl 1 rfl) ?_
  refine lv_aload_n hx hb dX1_look_1 rfl (lv_at hl 0 rfl) ?_
  refine va_get (D := D) (ci := 1) (v := .int (v 9 0)) (C := RX1) (T := TX1) (N := 13) hx hb hts hinX1 hown hK hP 0 rfl rfl 9 (by decide) (hts (.fieldLink RX1 40 "TroubleCodes$Workshop" "seenRan" "I") (mem_at 1 rfl)) (fun _ h9 => h9) rfl dX1_look_2 ?_
  refine lv_icmp_ne (tgt := 28) hx hb dX1_look_5 (by decide) (fun c_1 => ?_) (fun c_1 => ?_)
  · refine lv_aload_n hx hb dX1_look_28 rfl (lv_at hl 0 rfl) ?_
    refine lv_iload_n hx hb dX1_look_29 rfl (lv_at hl 1 rfl) ?_
    refine va_put (D := D) (ci := 1) (v := .int x) (ty := .int) (C := RX1) (T := TX1) (N := 13) hx hb hts hinX1 tyX1 tyX1_ok nmX1 hown hK hP hD hS 0 rfl rfl 9 (by decide) (hts (.fieldLink RX1 40 "TroubleCodes$Workshop" "seenRan" "I") (mem_at 1 rfl)) (fun _ h9 => h9) rfl (by decide +kernel) rfl rfl (Nat.le_of_ble_eq_true rfl) dX1_look_30 (fun H locs hP hD hS => ?_)
    have hP : va_P D vwCl (wW cI ad (va_up v 9 (fun _ => x))) H := hP
    have hD : va_D A (wW cI ad (va_up v 9 (fun _ => x))) := hD
    refine lv_aload_n hx hb dX1_look_33 rfl (lv_at hl 0 rfl) ?_
    refine lv_iload_n hx hb dX1_look_34 rfl (lv_at hl 2 rfl) ?_
    refine va_put (D := D) (ci := 1) (v := .int y) (ty := .int) (C := RX1) (T := TX1) (N := 13) hx hb hts hinX1 tyX1 tyX1_ok nmX1 hown hK hP hD hS 0 rfl rfl 10 (by decide) (hts (.fieldLink RX1 43 "TroubleCodes$Workshop" "seenSet" "I") (mem_at 2 rfl)) (fun _ h9 => h9) rfl (by decide +kernel) rfl rfl (Nat.le_of_ble_eq_true rfl) dX1_look_35 (fun H locs hP hD hS => ?_)
    have hP : va_P D vwCl (wW cI ad (va_up (va_up v 9 (fun _ => x)) 10 (fun _ => y))) H := hP
    have hD : va_D A (wW cI ad (va_up (va_up v 9 (fun _ => x)) 10 (fun _ => y))) := hD
    refine lv_aload_n hx hb dX1_look_38 rfl (lv_at hl 0 rfl) ?_
    refine lv_aload_n hx hb dX1_look_39 rfl (lv_at hl 0 rfl) ?_
    refine va_get (D := D) (ci := 1) (v := .int (v 2 0)) (C := RX1) (T := TX1) (N := 13) hx hb hts hinX1 hown hK hP 0 rfl rfl 2 (by decide) (hts (.fieldLink RX1 18 "TroubleCodes$Workshop" "causeCount" "I") (mem_at 3 rfl)) (fun _ h9 => h9) rfl dX1_look_40 ?_
    refine va_put (D := D) (ci := 1) (v := .int (v 2 0)) (ty := .int) (C := RX1) (T := TX1) (N := 13) hx hb hts hinX1 tyX1 tyX1_ok nmX1 hown hK hP hD hS 0 rfl rfl 11 (by decide) (hts (.fieldLink RX1 46 "TroubleCodes$Workshop" "seenCauses" "I") (mem_at 4 rfl)) (fun _ h9 => h9) rfl (by decide +kernel) rfl rfl (Nat.le_of_ble_eq_true rfl) dX1_look_43 (fun H locs hP hD hS => ?_)
    have hP : va_P D vwCl (wW cI ad (va_up (va_up (va_up v 9 (fun _ => x)) 10 (fun _ => y)) 11 (fun _ => v 2 0))) H := hP
    have hD : va_D A (wW cI ad (va_up (va_up (va_up v 9 (fun _ => x)) 10 (fun _ => y)) 11 (fun _ => v 2 0))) := hD
    refine lv_aload_n hx hb dX1_look_46 rfl (lv_at hl 0 rfl) ?_
    refine lv_iconst (v := 0) hx hb dX1_look_47 (by decide) ?_
    refine va_put (D := D) (ci := 1) (v := .int 0) (ty := .boolean) (C := RX1) (T := TX1) (N := 13) hx hb hts hinX1 tyX1 tyX1_ok nmX1 hown hK hP hD hS 0 rfl rfl 12 (by decide) (hts (.fieldLink RX1 49 "TroubleCodes$Workshop" "planned" "Z") (mem_at 5 rfl)) (fun _ h9 => h9) rfl (by decide +kernel) rfl rfl (Nat.le_of_ble_eq_true rfl) dX1_look_48 (fun H locs hP hD hS => ?_)
    have hP : va_P D vwCl (wW cI ad (va_up (va_up (va_up (va_up v 9 (fun _ => x)) 10 (fun _ => y)) 11 (fun _ => v 2 0)) 12 (fun _ => 0))) H := hP
    have hD : va_D A (wW cI ad (va_up (va_up (va_up (va_up v 9 (fun _ => x)) 10 (fun _ => y)) 11 (fun _ => v 2 0)) 12 (fun _ => 0))) := hD
    refine lv_aload_n hx hb dX1_look_51 rfl (lv_at hl 0 rfl) ?_
    refine x_wvW (As := []) (rest := []) ⟨hx, hb, hml, hown, hts⟩ (tX1_findLeast l D cI cZ cC ad (va_up (va_up (va_up (va_up v 9 (fun _ => x)) 10 (fun _ => y)) 11 (fun _ => v 2 0)) 12 (fun _ => 0)) mm hm hmb) (cwV 0 hts gX1_look_X1_findLeast rfl rfl rfl (by decide +kernel) ⟨Nat.le_of_ble_eq_true rfl, Nat.le_of_ble_eq_true rfl⟩) hK (x_recv (ci := 1) hK hP rfl (q0 := 0) rfl) hP hD hS hA rfl hl.1 rfl (Nat.le_of_ble_eq_true rfl) dX1_look_52 ⟨Nat.le_of_ble_eq_true rfl, Nat.le_of_ble_eq_true rfl⟩ (fun H locs hP hD hS => ?_)
    have es : fX1_look v mm x y = (fX1_findLeast (va_up (va_up (va_up (va_up v 9 (fun _ => x)) 10 (fun _ => y)) 11 (fun _ => v 2 0)) 12 (fun _ => 0)) mm) := by rw [fX1_look]; rw [if_neg c_1]
    exact hret 55 _ _ _ (by rw [es]; exact hP) (by rw [es]; exact hD) hS dX1_look_55
  · refine lv_iload_n hx hb dX1_look_8 rfl (lv_at hl 2 rfl) ?_
    refine lv_aload_n hx hb dX1_look_9 rfl (lv_at hl 0 rfl) ?_
    refine va_get (D := D) (ci := 1) (v := .int (v 10 0)) (C := RX1) (T := TX1) (N := 13) hx hb hts hinX1 hown hK hP 0 rfl rfl 10 (by decide) (hts (.fieldLink RX1 43 "TroubleCodes$Workshop" "seenSet" "I") (mem_at 2 rfl)) (fun _ h9 => h9) rfl dX1_look_10 ?_
    refine lv_icmp_ne (tgt := 28) hx hb dX1_look_13 (by decide) (fun c_2 => ?_) (fun c_2 => ?_)
    · refine lv_aload_n hx hb dX1_look_28 rfl (lv_at hl 0 rfl) ?_
      refine lv_iload_n hx hb dX1_look_29 rfl (lv_at hl 1 rfl) ?_
      refine va_put (D := D) (ci := 1) (v := .int x) (ty := .int) (C := RX1) (T := TX1) (N := 13) hx hb hts hinX1 tyX1 tyX1_ok nmX1 hown hK hP hD hS 0 rfl rfl 9 (by decide) (hts (.fieldLink RX1 40 "TroubleCodes$Workshop" "seenRan" "I") (mem_at 1 rfl)) (fun _ h9 => h9) rfl (by decide +kernel) rfl rfl (Nat.le_of_ble_eq_true rfl) dX1_look_30 (fun H locs hP hD hS => ?_)
      have hP : va_P D vwCl (wW cI ad (va_up v 9 (fun _ => x))) H := hP
      have hD : va_D A (wW cI ad (va_up v 9 (fun _ => x))) := hD
      refine lv_aload_n hx hb dX1_look_33 rfl (lv_at hl 0 rfl) ?_
      refine lv_iload_n hx hb dX1_look_34 rfl (lv_at hl 2 rfl) ?_
      refine va_put (D := D) (ci := 1) (v := .int y) (ty := .int) (C := RX1) (T := TX1) (N := 13) hx hb hts hinX1 tyX1 tyX1_ok nmX1 hown hK hP hD hS 0 rfl rfl 10 (by decide) (hts (.fieldLink RX1 43 "TroubleCodes$Workshop" "seenSet" "I") (mem_at 2 rfl)) (fun _ h9 => h9) rfl (by decide +kernel) rfl rfl (Nat.le_of_ble_eq_true rfl) dX1_look_35 (fun H locs hP hD hS => ?_)
      have hP : va_P D vwCl (wW cI ad (va_up (va_up v 9 (fun _ => x)) 10 (fun _ => y))) H := hP
      have hD : va_D A (wW cI ad (va_up (va_up v 9 (fun _ => x)) 10 (fun _ => y))) := hD
      refine lv_aload_n hx hb dX1_look_38 rfl (lv_at hl 0 rfl) ?_
      refine lv_aload_n hx hb dX1_look_39 rfl (lv_at hl 0 rfl) ?_
      refine va_get (D := D) (ci := 1) (v := .int (v 2 0)) (C := RX1) (T := TX1) (N := 13) hx hb hts hinX1 hown hK hP 0 rfl rfl 2 (by decide) (hts (.fieldLink RX1 18 "TroubleCodes$Workshop" "causeCount" "I") (mem_at 3 rfl)) (fun _ h9 => h9) rfl dX1_look_40 ?_
      refine va_put (D := D) (ci := 1) (v := .int (v 2 0)) (ty := .int) (C := RX1) (T := TX1) (N := 13) hx hb hts hinX1 tyX1 tyX1_ok nmX1 hown hK hP hD hS 0 rfl rfl 11 (by decide) (hts (.fieldLink RX1 46 "TroubleCodes$Workshop" "seenCauses" "I") (mem_at 4 rfl)) (fun _ h9 => h9) rfl (by decide +kernel) rfl rfl (Nat.le_of_ble_eq_true rfl) dX1_look_43 (fun H locs hP hD hS => ?_)
      have hP : va_P D vwCl (wW cI ad (va_up (va_up (va_up v 9 (fun _ => x)) 10 (fun _ => y)) 11 (fun _ => v 2 0))) H := hP
      have hD : va_D A (wW cI ad (va_up (va_up (va_up v 9 (fun _ => x)) 10 (fun _ => y)) 11 (fun _ => v 2 0))) := hD
      refine lv_aload_n hx hb dX1_look_46 rfl (lv_at hl 0 rfl) ?_
      refine lv_iconst (v := 0) hx hb dX1_look_47 (by decide) ?_
      refine va_put (D := D) (ci := 1) (v := .int 0) (ty := .boolean) (C := RX1) (T := TX1) (N := 13) hx hb hts hinX1 tyX1 tyX1_ok nmX1 hown hK hP hD hS 0 rfl rfl 12 (by decide) (hts (.fieldLink RX1 49 "TroubleCodes$Workshop" "planned" "Z") (mem_at 5 rfl)) (fun _ h9 => h9) rfl (by decide +kernel) rfl rfl (Nat.le_of_ble_eq_true rfl) dX1_look_48 (fun H locs hP hD hS => ?_)
      have hP : va_P D vwCl (wW cI ad (va_up (va_up (va_up (va_up v 9 (fun _ => x)) 10 (fun _ => y)) 11 (fun _ => v 2 0)) 12 (fun _ => 0))) H := hP
      have hD : va_D A (wW cI ad (va_up (va_up (va_up (va_up v 9 (fun _ => x)) 10 (fun _ => y)) 11 (fun _ => v 2 0)) 12 (fun _ => 0))) := hD
      refine lv_aload_n hx hb dX1_look_51 rfl (lv_at hl 0 rfl) ?_
      refine x_wvW (As := []) (rest := []) ⟨hx, hb, hml, hown, hts⟩ (tX1_findLeast l D cI cZ cC ad (va_up (va_up (va_up (va_up v 9 (fun _ => x)) 10 (fun _ => y)) 11 (fun _ => v 2 0)) 12 (fun _ => 0)) mm hm hmb) (cwV 0 hts gX1_look_X1_findLeast rfl rfl rfl (by decide +kernel) ⟨Nat.le_of_ble_eq_true rfl, Nat.le_of_ble_eq_true rfl⟩) hK (x_recv (ci := 1) hK hP rfl (q0 := 0) rfl) hP hD hS hA rfl hl.1 rfl (Nat.le_of_ble_eq_true rfl) dX1_look_52 ⟨Nat.le_of_ble_eq_true rfl, Nat.le_of_ble_eq_true rfl⟩ (fun H locs hP hD hS => ?_)
      have es : fX1_look v mm x y = (fX1_findLeast (va_up (va_up (va_up (va_up v 9 (fun _ => x)) 10 (fun _ => y)) 11 (fun _ => v 2 0)) 12 (fun _ => 0)) mm) := by rw [fX1_look]; rw [if_pos c_1, if_neg c_2]
      exact hret 55 _ _ _ (by rw [es]; exact hP) (by rw [es]; exact hD) hS dX1_look_55
    · refine lv_aload_n hx hb dX1_look_16 rfl (lv_at hl 0 rfl) ?_
      refine va_get (D := D) (ci := 1) (v := .int (v 2 0)) (C := RX1) (T := TX1) (N := 13) hx hb hts hinX1 hown hK hP 0 rfl rfl 2 (by decide) (hts (.fieldLink RX1 18 "TroubleCodes$Workshop" "causeCount" "I") (mem_at 3 rfl)) (fun _ h9 => h9) rfl dX1_look_17 ?_
      refine lv_aload_n hx hb dX1_look_20 rfl (lv_at hl 0 rfl) ?_
      refine va_get (D := D) (ci := 1) (v := .int (v 11 0)) (C := RX1) (T := TX1) (N := 13) hx hb hts hinX1 hown hK hP 0 rfl rfl 11 (by decide) (hts (.fieldLink RX1 46 "TroubleCodes$Workshop" "seenCauses" "I") (mem_at 4 rfl)) (fun _ h9 => h9) rfl dX1_look_21 ?_
      refine lv_icmp_ne (tgt := 28) hx hb dX1_look_24 (by decide) (fun c_3 => ?_) (fun c_3 => ?_)
      · refine lv_aload_n hx hb dX1_look_28 rfl (lv_at hl 0 rfl) ?_
        refine lv_iload_n hx hb dX1_look_29 rfl (lv_at hl 1 rfl) ?_
        refine va_put (D := D) (ci := 1) (v := .int x) (ty := .int) (C := RX1) (T := TX1) (N := 13) hx hb hts hinX1 tyX1 tyX1_ok nmX1 hown hK hP hD hS 0 rfl rfl 9 (by decide) (hts (.fieldLink RX1 40 "TroubleCodes$Workshop" "seenRan" "I") (mem_at 1 rfl)) (fun _ h9 => h9) rfl (by decide +kernel) rfl rfl (Nat.le_of_ble_eq_true rfl) dX1_look_30 (fun H locs hP hD hS => ?_)
        have hP : va_P D vwCl (wW cI ad (va_up v 9 (fun _ => x))) H := hP
        have hD : va_D A (wW cI ad (va_up v 9 (fun _ => x))) := hD
        refine lv_aload_n hx hb dX1_look_33 rfl (lv_at hl 0 rfl) ?_
        refine lv_iload_n hx hb dX1_look_34 rfl (lv_at hl 2 rfl) ?_
        refine va_put (D := D) (ci := 1) (v := .int y) (ty := .int) (C := RX1) (T := TX1) (N := 13) hx hb hts hinX1 tyX1 tyX1_ok nmX1 hown hK hP hD hS 0 rfl rfl 10 (by decide) (hts (.fieldLink RX1 43 "TroubleCodes$Workshop" "seenSet" "I") (mem_at 2 rfl)) (fun _ h9 => h9) rfl (by decide +kernel) rfl rfl (Nat.le_of_ble_eq_true rfl) dX1_look_35 (fun H locs hP hD hS => ?_)
        have hP : va_P D vwCl (wW cI ad (va_up (va_up v 9 (fun _ => x)) 10 (fun _ => y))) H := hP
        have hD : va_D A (wW cI ad (va_up (va_up v 9 (fun _ => x)) 10 (fun _ => y))) := hD
        refine lv_aload_n hx hb dX1_look_38 rfl (lv_at hl 0 rfl) ?_
        refine lv_aload_n hx hb dX1_look_39 rfl (lv_at hl 0 rfl) ?_
        refine va_get (D := D) (ci := 1) (v := .int (v 2 0)) (C := RX1) (T := TX1) (N := 13) hx hb hts hinX1 hown hK hP 0 rfl rfl 2 (by decide) (hts (.fieldLink RX1 18 "TroubleCodes$Workshop" "causeCount" "I") (mem_at 3 rfl)) (fun _ h9 => h9) rfl dX1_look_40 ?_
        refine va_put (D := D) (ci := 1) (v := .int (v 2 0)) (ty := .int) (C := RX1) (T := TX1) (N := 13) hx hb hts hinX1 tyX1 tyX1_ok nmX1 hown hK hP hD hS 0 rfl rfl 11 (by decide) (hts (.fieldLink RX1 46 "TroubleCodes$Workshop" "seenCauses" "I") (mem_at 4 rfl)) (fun _ h9 => h9) rfl (by decide +kernel) rfl rfl (Nat.le_of_ble_eq_true rfl) dX1_look_43 (fun H locs hP hD hS => ?_)
        have hP : va_P D vwCl (wW cI ad (va_up (va_up (va_up v 9 (fun _ => x)) 10 (fun _ => y)) 11 (fun _ => v 2 0))) H := hP
        have hD : va_D A (wW cI ad (va_up (va_up (va_up v 9 (fun _ => x)) 10 (fun _ => y)) 11 (fun _ => v 2 0))) := hD
        refine lv_aload_n hx hb dX1_look_46 rfl (lv_at hl 0 rfl) ?_
        refine lv_iconst (v := 0) hx hb dX1_look_47 (by decide) ?_
        refine va_put (D := D) (ci := 1) (v := .int 0) (ty := .boolean) (C := RX1) (T := TX1) (N := 13) hx hb hts hinX1 tyX1 tyX1_ok nmX1 hown hK hP hD hS 0 rfl rfl 12 (by decide) (hts (.fieldLink RX1 49 "TroubleCodes$Workshop" "planned" "Z") (mem_at 5 rfl)) (fun _ h9 => h9) rfl (by decide +kernel) rfl rfl (Nat.le_of_ble_eq_true rfl) dX1_look_48 (fun H locs hP hD hS => ?_)
        have hP : va_P D vwCl (wW cI ad (va_up (va_up (va_up (va_up v 9 (fun _ => x)) 10 (fun _ => y)) 11 (fun _ => v 2 0)) 12 (fun _ => 0))) H := hP
        have hD : va_D A (wW cI ad (va_up (va_up (va_up (va_up v 9 (fun _ => x)) 10 (fun _ => y)) 11 (fun _ => v 2 0)) 12 (fun _ => 0))) := hD
        refine lv_aload_n hx hb dX1_look_51 rfl (lv_at hl 0 rfl) ?_
        refine x_wvW (As := []) (rest := []) ⟨hx, hb, hml, hown, hts⟩ (tX1_findLeast l D cI cZ cC ad (va_up (va_up (va_up (va_up v 9 (fun _ => x)) 10 (fun _ => y)) 11 (fun _ => v 2 0)) 12 (fun _ => 0)) mm hm hmb) (cwV 0 hts gX1_look_X1_findLeast rfl rfl rfl (by decide +kernel) ⟨Nat.le_of_ble_eq_true rfl, Nat.le_of_ble_eq_true rfl⟩) hK (x_recv (ci := 1) hK hP rfl (q0 := 0) rfl) hP hD hS hA rfl hl.1 rfl (Nat.le_of_ble_eq_true rfl) dX1_look_52 ⟨Nat.le_of_ble_eq_true rfl, Nat.le_of_ble_eq_true rfl⟩ (fun H locs hP hD hS => ?_)
        have es : fX1_look v mm x y = (fX1_findLeast (va_up (va_up (va_up (va_up v 9 (fun _ => x)) 10 (fun _ => y)) 11 (fun _ => v 2 0)) 12 (fun _ => 0)) mm) := by rw [fX1_look]; rw [if_pos c_1, if_pos c_2, if_neg c_3]
        exact hret 55 _ _ _ (by rw [es]; exact hP) (by rw [es]; exact hD) hS dX1_look_55
      · have es : fX1_look v mm x y = v := by rw [fX1_look]; rw [if_pos c_1, if_pos c_2, if_pos c_3]
        exact hret 27 _ _ _ (by rw [es]; exact hP) (by rw [es]; exact hD) hS dX1_look_27
