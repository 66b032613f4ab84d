def fX3_begin (g : Nat → Nat → Int32) (n : Nat) : Int32 × (Nat → Nat → Int32) := if (g 17 0) = 0 then (g 18 0, va_up (va_up (va_up g 13 (fil (g 8) (g 13) n)) 14 (fil (fun _ => 0) (g 14) n)) 17 (fun _ => 1)) else ((-3), g)
set_option maxHeartbeats 4000000 in
set_option maxRecDepth 100000 in
theorem tX3_begin (l : Launch) (D : va_G) (cI cZ cC : ClassId) (q : Nat → Nat) (o : Nat) (g : Nat → Nat → Int32) (n : Nat) (hn : g 0 0 = nI n) (hnb : n ≤ 16) : WrI l yX3_begin wsX3_begin (rmK 0) D cI cZ cC [.ref o] (mW cI cZ q o g) (mW cI cZ q o ((fX3_begin g n).2)) (fun ans => ans = (fX3_begin g n).1) := by
  refine WrI.of (cc := cX3_begin) (maxL := 2) (ret := .int) (by decide) rfl (Nat.le_of_ble_eq_true rfl) ?_
  intro p e s m args below meth c Q A ls hx hb hml hts hown hK hP hD hS hA hret hl
  have hl : lv_has ls 2 [(0, .ref o)] := hl
  have hinX3 : ∀ w ∈ u_ws RX3 TX3 33, w ∈ wsX3_begin := (fun w h => List.mem_cons_of_mem _ (List.mem_append_right _ h))
  refine lv_aload_n hx hb dX3_begin_0 rfl (lv_at hl 0 rfl) ?_
  refine va_get (D := D) (ci := 3) (v := .int (g 17 0)) (C := RX3) (T := TX3) (N := 33) hx hb hts hinX3 hown hK hP 0 rfl rfl 17 (by decide) (hts (.fieldLink RX3 104 "TroubleCodesModel" "goes" "Z") (mem_at 1 rfl)) (fun _ h9 => h9) rfl dX3_begin_1 ?_
  refine lv_if_eq (tgt := 10) hx hb dX3_begin_4 (by decide) (fun c_1 => ?_) (fun c_1 => ?_)
  · refine lv_aload_n hx hb dX3_begin_10 rfl (lv_at hl 0 rfl) ?_
    refine lv_iconst (v := 1) hx hb dX3_begin_11 (by decide) ?_
    refine va_put (D := D) (ci := 3) (v := .int 1) (ty := .boolean) (C := RX3) (T := TX3) (N := 33) hx hb hts hinX3 tyX3 tyX3_ok nmX3 hown hK hP hD hS 0 rfl rfl 17 (by decide) (hts (.fieldLink RX3 104 "TroubleCodesModel" "goes" "Z") (mem_at 1 rfl)) (fun _ h9 => h9) rfl (by decide +kernel) rfl rfl (Nat.le_of_ble_eq_true rfl) dX3_begin_12 (fun H locs hP hD hS => ?_)
    have hP : va_P D vwCl (mW cI cZ q o (va_up g 17 (fun _ => 1))) H := hP
    have hD : va_D A (mW cI cZ q o (va_up g 17 (fun _ => 1))) := hD
    refine lv_iconst (v := 0) hx hb dX3_begin_15 (by decide) ?_
    refine lv_istore_n (lv' := [(1, .int 0), (0, .ref o)]) hx hb dX3_begin_16 rfl hl (by decide) rfl (fun ls hl => ?_)
    have LOOP_2 : ∀ (fu k : Nat), k ≤ n → n - k < fu → ∀ (H : Heap) (locs : List Loc) (ls : Array Slot), va_P D vwCl (mW cI cZ q o (va_up (va_up (va_up g 13 (fil (g 8) (g 13) k)) 14 (fil (fun _ => 0) (g 14) k)) 17 (fun _ => 1))) H → va_D A (mW cI cZ q o (va_up (va_up (va_up g 13 (fil (g 8) (g 13) k)) 14 (fil (fun _ => 0) (g 14) k)) 17 (fun _ => 1))) → va_S A s.heap H locs → lv_has ls 2 [(0, .ref o), (1, .int (nI k))] → W p l e (rmK 0) s m args below meth c H locs 0 0 Q (F0 m 17 ls []) := by
      intro fu
      induction fu with
      | zero => intro k h1 h2; exact absurd h2 (Nat.not_lt_zero _)
      | succ fu ih =>
        intro k hkn hfu  H locs ls hP hD hS hl
        refine lv_iload_n hx hb dX3_begin_17 rfl (lv_at hl 1 rfl) ?_
        refine lv_aload_n hx hb dX3_begin_18 rfl (lv_at hl 0 rfl) ?_
        refine va_get (D := D) (ci := 3) (v := .int (g 0 0)) (C := RX3) (T := TX3) (N := 33) hx hb hts hinX3 hown hK hP 0 rfl rfl 0 (by decide) (hts (.fieldLink RX3 93 "TroubleCodesModel" "checks" "I") (mem_at 2 rfl)) (fun _ h9 => h9) rfl dX3_begin_19 ?_
        refine lv_icmp_ge (tgt := 50) hx hb dX3_begin_22 (by decide) (fun c_3 => ?_) (fun c_3 => ?_)
        · have ekn : n = k := Nat.le_antisymm (kx_ge hn (by omega) (by omega) c_3) hkn
          subst ekn
          refine lv_aload_n hx hb dX3_begin_50 rfl (lv_at hl 0 rfl) ?_
          refine va_get (D := D) (ci := 3) (v := .int (g 18 0)) (C := RX3) (T := TX3) (N := 33) hx hb hts hinX3 hown hK hP 0 rfl rfl 18 (by decide) (hts (.fieldLink RX3 108 "TroubleCodesModel" "drives" "I") (mem_at 6 rfl)) (fun _ h9 => h9) rfl dX3_begin_51 ?_
          have es : fX3_begin g n = (g 18 0, va_up (va_up (va_up g 13 (fil (g 8) (g 13) n)) 14 (fil (fun _ => 0) (g 14) n)) 17 (fun _ => 1)) := by rw [fX3_begin]; rw [if_pos c_1]
          exact hret 54 _ _ _ _ (by rw [es]) (by rw [es]; exact hP) (by rw [es]; exact hD) hS rfl dX3_begin_54
        · have hkl : k < n := kx_lt hn (by omega) (by omega) c_3
          refine lv_aload_n hx hb dX3_begin_25 rfl (lv_at hl 0 rfl) ?_
          refine va_get (D := D) (ci := 3) (v := .ref (q 13)) (C := RX3) (T := TX3) (N := 33) hx hb hts hinX3 hown hK hP 0 rfl rfl 13 (by decide) (hts (.fieldLink RX3 47 "TroubleCodesModel" "begun" "[I") (mem_at 3 rfl)) (fun _ h9 => h9) rfl dX3_begin_26 ?_
          refine lv_iload_n hx hb dX3_begin_29 rfl (lv_at hl 1 rfl) ?_
          refine lv_aload_n hx hb dX3_begin_30 rfl (lv_at hl 0 rfl) ?_
          refine va_get (D := D) (ci := 3) (v := .ref (q 8)) (C := RX3) (T := TX3) (N := 33) hx hb hts hinX3 hown hK hP 0 rfl rfl 8 (by decide) (hts (.fieldLink RX3 32 "TroubleCodesModel" "code" "[I") (mem_at 4 rfl)) (fun _ h9 => h9) rfl dX3_begin_31 ?_
          refine lv_iload_n hx hb dX3_begin_34 rfl (lv_at hl 1 rfl) ?_
          refine x_iald (k := k) (f := g 8) hx hb hK hP 8 rfl (by omega) (by decide) dX3_begin_35 ?_
          refine x_iast (k := k) (f := fil (g 8) (g 13) k) (x := g 8 k) hx hb hK hP hD hS 13 rfl (by omega) (by decide) dX3_begin_36 (fun H locs hP hD hS => ?_)
          have hP : va_P D vwCl (mW cI cZ q o (va_up (va_up (va_up g 13 (upd (fil (g 8) (g 13) k) k (g 8 k))) 14 (fil (fun _ => 0) (g 14) k)) 17 (fun _ => 1))) H := hP
          have hD : va_D A (mW cI cZ q o (va_up (va_up (va_up g 13 (upd (fil (g 8) (g 13) k) k (g 8 k))) 14 (fil (fun _ => 0) (g 14) k)) 17 (fun _ => 1))) := hD
          refine lv_aload_n hx hb dX3_begin_37 rfl (lv_at hl 0 rfl) ?_
          refine va_get (D := D) (ci := 3) (v := .ref (q 14)) (C := RX3) (T := TX3) (N := 33) hx hb hts hinX3 hown hK hP 0 rfl rfl 14 (by decide) (hts (.fieldLink RX3 50 "TroubleCodesModel" "told" "[I") (mem_at 5 rfl)) (fun _ h9 => h9) rfl dX3_begin_38 ?_
          refine lv_iload_n hx hb dX3_begin_41 rfl (lv_at hl 1 rfl) ?_
          refine lv_iconst (v := 0) hx hb dX3_begin_42 (by decide) ?_
          refine x_iast (k := k) (f := fil (fun _ => 0) (g 14) k) (x := 0) hx hb hK hP hD hS 14 rfl (by omega) (by decide) dX3_begin_43 (fun H locs hP hD hS => ?_)
          have hP : va_P D vwCl (mW cI cZ q o (va_up (va_up (va_up g 13 (upd (fil (g 8) (g 13) k) k (g 8 k))) 14 (upd (fil (fun _ => 0) (g 14) k) k 0)) 17 (fun _ => 1))) H := hP
          have hD : va_D A (mW cI cZ q o (va_up (va_up (va_up g 13 (upd (fil (g 8) (g 13) k) k (g 8 k))) 14 (upd (fil (fun _ => 0) (g 14) k) k 0)) 17 (fun _ => 1))) := hD
          refine lv_iinc (v := nI (k + 1)) (lv' := [(1, .int (nI (k + 1))), (0, .ref o)]) hx hb dX3_begin_44 hl (k := 1) rfl (nI_1 _) (by decide) rfl (fun ls hl => ?_)
          refine lv_goto (tgt := 17) hx hb dX3_begin_47 (by decide) ?_
          have q_4 : va_up (va_up (va_up g 13 (fil (g 8) (g 13) (k + 1))) 14 (fil (fun _ => 0) (g 14) (k + 1))) 17 (fun _ => 1) = va_up (va_up (va_up g 13 (upd (fil (g 8) (g 13) k) k (g 8 k))) 14 (upd (fil (fun _ => 0) (g 14) k) k 0)) 17 (fun _ => 1) := by rw [fil_s, fil_s]
          exact ih (k + 1) (by omega) (by omega) H locs ls (by rw [q_4]; exact hP) (by rw [q_4]; exact hD) hS (by exact lv_sub hl [1, 0] rfl)
    have q_5 : (nI 0 : Int32) = 0 := by rfl
    exact LOOP_2 (n - 0 + 1) 0 (Nat.zero_le _) (Nat.lt_succ_self _) _ _ ls (by simp only [fil_0]; exact hP) (by simp only [fil_0]; exact hD) hS (by rw [q_5]; exact lv_sub hl [1, 0] rfl)
  · refine lv_bipush (v := (-3)) hx hb dX3_begin_7 (by decide) ?_
    have es : fX3_begin g n = ((-3), g) := by rw [fX3_begin]; rw [if_neg c_1]
    exact hret 9 _ _ _ _ (by rw [es]) (by rw [es]; exact hP) (by rw [es]; exact hD) hS rfl dX3_begin_9

def fX3_clear (g : Nat → Nat → Int32) (n : Nat) : Int32 × (Nat → Nat → Int32) := if (g 17 0) = 0 then (sumN (fun j => if g 1 j = 1 then 0 else if g 8 j = 0 then 0 else 1) n, va_up (va_up (va_up (va_up (va_up (va_up g 8 (clr (g 1) (g 8) n)) 9 (fil (fun _ => 0) (g 9) n)) 10 (fil (fun _ => 0) (g 10) n)) 11 (fil (fun _ => 0) (g 11) n)) 12 (fil (fun _ => 0) (g 12) n)) 21 (clr (g 1) (g 21) n)) else ((-3), g)
set_option maxHeartbeats 4000000 in
set_option maxRecDepth 100000 in
theorem tX3_clear (l : Launch) (D : va_G) (cI cZ cC : ClassId) (q : Nat → Nat) (o : Nat) (g : Nat → Nat → Int32) (n : Nat) (hn : g 0 0 = nI n) (hnb : n ≤ 16) : WrI l yX3_clear wsX3_clear (rmK 0) D cI cZ cC [.ref o] (mW cI cZ q o g) (mW cI cZ q o ((fX3_clear g n).2)) (fun ans => ans = (fX3_clear g n).1) := by
  refine WrI.of (cc := cX3_clear) (maxL := 3) (ret := .int) (by decide) rfl (Nat.le_of_ble_eq_true rfl) ?_
  intro p e s m args below meth c Q A ls hx hb hml hts hown hK hP hD hS hA hret hl
  have hl : lv_has ls 3 [(0, .ref o)] := hl
  have hinX3 : ∀ w ∈ u_ws RX3 TX3 33, w ∈ wsX3_clear := (fun w h => List.mem_cons_of_mem _ (List.mem_append_right _ h))
  refine lv_aload_n hx hb dX3_clear_0 rfl (lv_at hl 0 rfl) ?_
  refine va_get (D := D) (ci := 3) (v := .int (g 17 0)) (C := RX3) (T := TX3) (N := 33) hx hb hts hinX3 hown hK hP 0 rfl rfl 17 (by decide) (hts (.fieldLink RX3 104 "TroubleCodesModel" "goes" "Z") (mem_at 1 rfl)) (fun _ h9 => h9) rfl dX3_clear_1 ?_
  refine lv_if_eq (tgt := 10) hx hb dX3_clear_4 (by decide) (fun c_1 => ?_) (fun c_1 => ?_)
  · refine lv_iconst (v := 0) hx hb dX3_clear_10 (by decide) ?_
    refine lv_istore_n (lv' := [(1, .int 0), (0, .ref o)]) hx hb dX3_clear_11 rfl hl (by decide) rfl (fun ls hl => ?_)
    refine lv_iconst (v := 0) hx hb dX3_clear_12 (by decide) ?_
    refine lv_istore_n (lv' := [(2, .int 0), (1, .int 0), (0, .ref o)]) hx hb dX3_clear_13 rfl hl (by decide) rfl (fun ls hl => ?_)
    have LOOP_2 : ∀ (fu k : Nat), k ≤ n → n - k < fu → ∀ (H : Heap) (locs : List Loc) (ls : Array Slot), va_P D vwCl (mW cI cZ q o (va_up (va_up (va_up (va_up (va_up (va_up g 8 (clr (g 1) (g 8) k)) 9 (fil (fun _ => 0) (g 9) k)) 10 (fil (fun _ => 0) (g 10) k)) 11 (fil (fun _ => 0) (g 11) k)) 12 (fil (fun _ => 0) (g 12) k)) 21 (clr (g 1) (g 21) k))) H → va_D A (mW cI cZ q o (va_up (va_up (va_up (va_up (va_up (va_up g 8 (clr (g 1) (g 8) k)) 9 (fil (fun _ => 0) (g 9) k)) 10 (fil (fun _ => 0) (g 10) k)) 11 (fil (fun _ => 0) (g 11) k)) 12 (fil (fun _ => 0) (g 12) k)) 21 (clr (g 1) (g 21) k))) → va_S A s.heap H locs → lv_has ls 3 [(0, .ref o), (1, .int (sumN (fun j => if g 1 j = 1 then 0 else if g 8 j = 0 then 0 else 1) k)), (2, .int (nI k))] → W p l e (rmK 0) s m args below meth c H locs 0 0 Q (F0 m 14 ls []) := by
      intro fu
      induction fu with
      | zero => intro k h1 h2; exact absurd h2 (Nat.not_lt_zero _)
      | succ fu ih =>
        intro k hkn hfu  H locs ls hP hD hS hl
        refine lv_iload_n hx hb dX3_clear_14 rfl (lv_at hl 2 rfl) ?_
        refine lv_aload_n hx hb dX3_clear_15 rfl (lv_at hl 0 rfl) ?_
        refine va_get (D := D) (ci := 3) (v := .int (g 0 0)) (C := RX3) (T := TX3) (N := 33) hx hb hts hinX3 hown hK hP 0 rfl rfl 0 (by decide) (hts (.fieldLink RX3 93 "TroubleCodesModel" "checks" "I") (mem_at 2 rfl)) (fun _ h9 => h9) rfl dX3_clear_16 ?_
        refine lv_icmp_ge (tgt := 97) hx hb dX3_clear_19 (by decide) (fun c_3 => ?_) (fun c_3 => ?_)
        · have ekn : n = k := Nat.le_antisymm (kx_ge hn (by omega) (by omega) c_3) hkn
          subst ekn
          refine lv_iload_n hx hb dX3_clear_97 rfl (lv_at hl 1 rfl) ?_
          have es : fX3_clear g n = (sumN (fun j => if g 1 j = 1 then 0 else if g 8 j = 0 then 0 else 1) n, va_up (va_up (va_up (va_up (va_up (va_up g 8 (clr (g 1) (g 8) n)) 9 (fil (fun _ => 0) (g 9) n)) 10 (fil (fun _ => 0) (g 10) n)) 11 (fil (fun _ => 0) (g 11) n)) 12 (fil (fun _ => 0) (g 12) n)) 21 (clr (g 1) (g 21) n)) := by rw [fX3_clear]; rw [if_pos c_1]
          exact hret 98 _ _ _ _ (by rw [es]) (by rw [es]; exact hP) (by rw [es]; exact hD) hS rfl dX3_clear_98
        · have hkl : k < n := kx_lt hn (by omega) (by omega) c_3
          refine lv_aload_n hx hb dX3_clear_22 rfl (lv_at hl 0 rfl) ?_
          refine va_get (D := D) (ci := 3) (v := .ref (q 9)) (C := RX3) (T := TX3) (N := 33) hx hb hts hinX3 hown hK hP 0 rfl rfl 9 (by decide) (hts (.fieldLink RX3 35 "TroubleCodesModel" "bads" "[I") (mem_at 3 rfl)) (fun _ h9 => h9) rfl dX3_clear_23 ?_
          refine lv_iload_n hx hb dX3_clear_26 rfl (lv_at hl 2 rfl) ?_
          refine lv_iconst (v := 0) hx hb dX3_clear_27 (by decide) ?_
          refine x_iast (k := k) (f := fil (fun _ => 0) (g 9) k) (x := 0) hx hb hK hP hD hS 9 rfl (by omega) (by decide) dX3_clear_28 (fun H locs hP hD hS => ?_)
          have hP : va_P D vwCl (mW cI cZ q o (va_up (va_up (va_up (va_up (va_up (va_up g 8 (clr (g 1) (g 8) k)) 9 (upd (fil (fun _ => 0) (g 9) k) k 0)) 10 (fil (fun _ => 0) (g 10) k)) 11 (fil (fun _ => 0) (g 11) k)) 12 (fil (fun _ => 0) (g 12) k)) 21 (clr (g 1) (g 21) k))) H := hP
          have hD : va_D A (mW cI cZ q o (va_up (va_up (va_up (va_up (va_up (va_up g 8 (clr (g 1) (g 8) k)) 9 (upd (fil (fun _ => 0) (g 9) k) k 0)) 10 (fil (fun _ => 0) (g 10) k)) 11 (fil (fun _ => 0) (g 11) k)) 12 (fil (fun _ => 0) (g 12) k)) 21 (clr (g 1) (g 21) k))) := hD
          refine lv_aload_n hx hb dX3_clear_29 rfl (lv_at hl 0 rfl) ?_
          refine va_get (D := D) (ci := 3) (v := .ref (q 10)) (C := RX3) (T := TX3) (N := 33) hx hb hts hinX3 hown hK hP 0 rfl rfl 10 (by decide) (hts (.fieldLink RX3 38 "TroubleCodesModel" "goods" "[I") (mem_at 4 rfl)) (fun _ h9 => h9) rfl dX3_clear_30 ?_
          refine lv_iload_n hx hb dX3_clear_33 rfl (lv_at hl 2 rfl) ?_
          refine lv_iconst (v := 0) hx hb dX3_clear_34 (by decide) ?_
          refine x_iast (k := k) (f := fil (fun _ => 0) (g 10) k) (x := 0) hx hb hK hP hD hS 10 rfl (by omega) (by decide) dX3_clear_35 (fun H locs hP hD hS => ?_)
          have hP : va_P D vwCl (mW cI cZ q o (va_up (va_up (va_up (va_up (va_up (va_up g 8 (clr (g 1) (g 8) k)) 9 (upd (fil (fun _ => 0) (g 9) k) k 0)) 10 (upd (fil (fun _ => 0) (g 10) k) k 0)) 11 (fil (fun _ => 0) (g 11) k)) 12 (fil (fun _ => 0) (g 12) k)) 21 (clr (g 1) (g 21) k))) H := hP
          have hD : va_D A (mW cI cZ q o (va_up (va_up (va_up (va_up (va_up (va_up g 8 (clr (g 1) (g 8) k)) 9 (upd (fil (fun _ => 0) (g 9) k) k 0)) 10 (upd (fil (fun _ => 0) (g 10) k) k 0)) 11 (fil (fun _ => 0) (g 11) k)) 12 (fil (fun _ => 0) (g 12) k)) 21 (clr (g 1) (g 21) k))) := hD
          refine lv_aload_n hx hb dX3_clear_36 rfl (lv_at hl 0 rfl) ?_
          refine va_get (D := D) (ci := 3) (v := .ref (q 11)) (C := RX3) (T := TX3) (N := 33) hx hb hts hinX3 hown hK hP 0 rfl rfl 11 (by decide) (hts (.fieldLink RX3 41 "TroubleCodesModel" "age" "[I") (mem_at 5 rfl)) (fun _ h9 => h9) rfl dX3_clear_37 ?_
          refine lv_iload_n hx hb dX3_clear_40 rfl (lv_at hl 2 rfl) ?_
          refine lv_iconst (v := 0) hx hb dX3_clear_41 (by decide) ?_
          refine x_iast (k := k) (f := fil (fun _ => 0) (g 11) k) (x := 0) hx hb hK hP hD hS 11 rfl (by omega) (by decide) dX3_clear_42 (fun H locs hP hD hS => ?_)
          have hP : va_P D vwCl (mW cI cZ q o (va_up (va_up (va_up (va_up (va_up (va_up g 8 (clr (g 1) (g 8) k)) 9 (upd (fil (fun _ => 0) (g 9) k) k 0)) 10 (upd (fil (fun _ => 0) (g 10) k) k 0)) 11 (upd (fil (fun _ => 0) (g 11) k) k 0)) 12 (fil (fun _ => 0) (g 12) k)) 21 (clr (g 1) (g 21) k))) H := hP
          have hD : va_D A (mW cI cZ q o (va_up (va_up (va_up (va_up (va_up (va_up g 8 (clr (g 1) (g 8) k)) 9 (upd (fil (fun _ => 0) (g 9) k) k 0)) 10 (upd (fil (fun _ => 0) (g 10) k) k 0)) 11 (upd (fil (fun _ => 0) (g 11) k) k 0)) 12 (fil (fun _ => 0) (g 12) k)) 21 (clr (g 1) (g 21) k))) := hD
          refine lv_aload_n hx hb dX3_clear_43 rfl (lv_at hl 0 rfl) ?_
          refine va_get (D := D) (ci := 3) (v := .ref (q 12)) (C := RX3) (T := TX3) (N := 33) hx hb hts hinX3 hown hK hP 0 rfl rfl 12 (by decide) (hts (.fieldLink RX3 44 "TroubleCodesModel" "hasRun" "[Z") (mem_at 6 rfl)) (fun _ h9 => h9) rfl dX3_clear_44 ?_
          refine lv_iload_n hx hb dX3_clear_47 rfl (lv_at hl 2 rfl) ?_
          refine lv_iconst (v := 0) hx hb dX3_clear_48 (by decide) ?_
          refine x_zast (k := k) (f := fil (fun _ => 0) (g 12) k) (x := 0) hx hb hK hP hD hS 12 rfl (by decide) (by omega) (by decide) dX3_clear_49 (fun H locs hP hD hS => ?_)
          have hP : va_P D vwCl (mW cI cZ q o (va_up (va_up (va_up (va_up (va_up (va_up g 8 (clr (g 1) (g 8) k)) 9 (upd (fil (fun _ => 0) (g 9) k) k 0)) 10 (upd (fil (fun _ => 0) (g 10) k) k 0)) 11 (upd (fil (fun _ => 0) (g 11) k) k 0)) 12 (upd (fil (fun _ => 0) (g 12) k) k 0)) 21 (clr (g 1) (g 21) k))) H := hP
          have hD : va_D A (mW cI cZ q o (va_up (va_up (va_up (va_up (va_up (va_up g 8 (clr (g 1) (g 8) k)) 9 (upd (fil (fun _ => 0) (g 9) k) k 0)) 10 (upd (fil (fun _ => 0) (g 10) k) k 0)) 11 (upd (fil (fun _ => 0) (g 11) k) k 0)) 12 (upd (fil (fun _ => 0) (g 12) k) k 0)) 21 (clr (g 1) (g 21) k))) := hD
          refine lv_aload_n hx hb dX3_clear_50 rfl (lv_at hl 0 rfl) ?_
          refine va_get (D := D) (ci := 3) (v := .ref (q 1)) (C := RX3) (T := TX3) (N := 33) hx hb hts hinX3 hown hK hP 0 rfl rfl 1 (by decide) (hts (.fieldLink RX3 7 "TroubleCodesModel" "sort" "[I") (mem_at 7 rfl)) (fun _ h9 => h9) rfl dX3_clear_51 ?_
          refine lv_iload_n hx hb dX3_clear_54 rfl (lv_at hl 2 rfl) ?_
          refine x_iald (k := k) (f := g 1) hx hb hK hP 1 rfl (by omega) (by decide) dX3_clear_55 ?_
          refine lv_iconst (v := 1) hx hb dX3_clear_56 (by decide) ?_
          refine lv_icmp_eq (tgt := 91) hx hb dX3_clear_57 (by decide) (fun c_4 => ?_) (fun c_4 => ?_)
          · refine lv_iinc (v := nI (k + 1)) (lv' := [(2, .int (nI (k + 1))), (0, .ref o), (1, .int (sumN (fun j => if g 1 j = 1 then 0 else if g 8 j = 0 then 0 else 1) k))]) hx hb dX3_clear_91 hl (k := 2) rfl (nI_1 _) (by decide) rfl (fun ls hl => ?_)
            refine lv_goto (tgt := 14) hx hb dX3_clear_94 (by decide) ?_
            have q_5 : (sumN (fun j => if g 1 j = 1 then 0 else if g 8 j = 0 then 0 else 1) (k + 1) : Int32) = sumN (fun j => if g 1 j = 1 then 0 else if g 8 j = 0 then 0 else 1) k := by first | rfl | simp [sumN, c_1, c_3, Int32.not_le.mp c_3, c_4]
            have q_6 : va_up (va_up (va_up (va_up (va_up (va_up g 8 (clr (g 1) (g 8) (k + 1))) 9 (fil (fun _ => 0) (g 9) (k + 1))) 10 (fil (fun _ => 0) (g 10) (k + 1))) 11 (fil (fun _ => 0) (g 11) (k + 1))) 12 (fil (fun _ => 0) (g 12) (k + 1))) 21 (clr (g 1) (g 21) (k + 1)) = va_up (va_up (va_up (va_up (va_up (va_up g 8 (clr (g 1) (g 8) k)) 9 (upd (fil (fun _ => 0) (g 9) k) k 0)) 10 (upd (fil (fun _ => 0) (g 10) k) k 0)) 11 (upd (fil (fun _ => 0) (g 11) k) k 0)) 12 (upd (fil (fun _ => 0) (g 12) k) k 0)) 21 (clr (g 1) (g 21) k) := by simp only [fil_s]; rw [clr_t c_4, clr_t c_4]
            exact ih (k + 1) (by omega) (by omega) H locs ls (by rw [q_6]; exact hP) (by rw [q_6]; exact hD) hS (by rw [q_5]; exact lv_sub hl [1, 2, 0] rfl)
          · refine lv_iload_n hx hb dX3_clear_60 rfl (lv_at hl 1 rfl) ?_
            refine lv_aload_n hx hb dX3_clear_61 rfl (lv_at hl 0 rfl) ?_
            refine va_get (D := D) (ci := 3) (v := .ref (q 8)) (C := RX3) (T := TX3) (N := 33) hx hb hts hinX3 hown hK hP 0 rfl rfl 8 (by decide) (hts (.fieldLink RX3 32 "TroubleCodesModel" "code" "[I") (mem_at 8 rfl)) (fun _ h9 => h9) rfl dX3_clear_62 ?_
            refine lv_iload_n hx hb dX3_clear_65 rfl (lv_at hl 2 rfl) ?_
            refine x_iald (k := k) (f := clr (g 1) (g 8) k) hx hb hK hP 8 rfl (by omega) (by decide) dX3_clear_66 ?_
            rw [clr_k]
            refine lv_if_ne (tgt := 74) hx hb dX3_clear_67 (by decide) (fun c_7 => ?_) (fun c_7 => ?_)
            · refine lv_iconst (v := 1) hx hb dX3_clear_74 (by decide) ?_
              refine lv_iadd hx hb dX3_clear_75 ?_
              refine lv_istore_n (lv' := [(1, .int ((sumN (fun j => if g 1 j = 1 then 0 else if g 8 j = 0 then 0 else 1) k) + 1)), (0, .ref o), (2, .int (nI k))]) hx hb dX3_clear_76 rfl hl (by decide) rfl (fun ls hl => ?_)
              refine lv_aload_n hx hb dX3_clear_77 rfl (lv_at hl 1 rfl) ?_
              refine va_get (D := D) (ci := 3) (v := .ref (q 8)) (C := RX3) (T := TX3) (N := 33) hx hb hts hinX3 hown hK hP 0 rfl rfl 8 (by decide) (hts (.fieldLink RX3 32 "TroubleCodesModel" "code" "[I") (mem_at 8 rfl)) (fun _ h9 => h9) rfl dX3_clear_78 ?_
              refine lv_iload_n hx hb dX3_clear_81 rfl (lv_at hl 2 rfl) ?_
              refine lv_iconst (v := 0) hx hb dX3_clear_82 (by decide) ?_
              refine x_iast (k := k) (f := clr (g 1) (g 8) k) (x := 0) hx hb hK hP hD hS 8 rfl (by omega) (by decide) dX3_clear_83 (fun H locs hP hD hS => ?_)
              have hP : va_P D vwCl (mW cI cZ q o (va_up (va_up (va_up (va_up (va_up (va_up g 8 (upd (clr (g 1) (g 8) k) k 0)) 9 (upd (fil (fun _ => 0) (g 9) k) k 0)) 10 (upd (fil (fun _ => 0) (g 10) k) k 0)) 11 (upd (fil (fun _ => 0) (g 11) k) k 0)) 12 (upd (fil (fun _ => 0) (g 12) k) k 0)) 21 (clr (g 1) (g 21) k))) H := hP
              have hD : va_D A (mW cI cZ q o (va_up (va_up (va_up (va_up (va_up (va_up g 8 (upd (clr (g 1) (g 8) k) k 0)) 9 (upd (fil (fun _ => 0) (g 9) k) k 0)) 10 (upd (fil (fun _ => 0) (g 10) k) k 0)) 11 (upd (fil (fun _ => 0) (g 11) k) k 0)) 12 (upd (fil (fun _ => 0) (g 12) k) k 0)) 21 (clr (g 1) (g 21) k))) := hD
              refine lv_aload_n hx hb dX3_clear_84 rfl (lv_at hl 1 rfl) ?_
              refine va_get (D := D) (ci := 3) (v := .ref (q 21)) (C := RX3) (T := TX3) (N := 33) hx hb hts hinX3 hown hK hP 0 rfl rfl 21 (by decide) (hts (.fieldLink RX3 66 "TroubleCodesModel" "isFrozen" "[Z") (mem_at 9 rfl)) (fun _ h9 => h9) rfl dX3_clear_85 ?_
              refine lv_iload_n hx hb dX3_clear_88 rfl (lv_at hl 2 rfl) ?_
              refine lv_iconst (v := 0) hx hb dX3_clear_89 (by decide) ?_
              refine x_zast (k := k) (f := clr (g 1) (g 21) k) (x := 0) hx hb hK hP hD hS 18 rfl (by decide) (by omega) (by decide) dX3_clear_90 (fun H locs hP hD hS => ?_)
              have hP : va_P D vwCl (mW cI cZ q o (va_up (va_up (va_up (va_up (va_up (va_up g 8 (upd (clr (g 1) (g 8) k) k 0)) 9 (upd (fil (fun _ => 0) (g 9) k) k 0)) 10 (upd (fil (fun _ => 0) (g 10) k) k 0)) 11 (upd (fil (fun _ => 0) (g 11) k) k 0)) 12 (upd (fil (fun _ => 0) (g 12) k) k 0)) 21 (upd (clr (g 1) (g 21) k) k 0))) H := hP
              have hD : va_D A (mW cI cZ q o (va_up (va_up (va_up (va_up (va_up (va_up g 8 (upd (clr (g 1) (g 8) k) k 0)) 9 (upd (fil (fun _ => 0) (g 9) k) k 0)) 10 (upd (fil (fun _ => 0) (g 10) k) k 0)) 11 (upd (fil (fun _ => 0) (g 11) k) k 0)) 12 (upd (fil (fun _ => 0) (g 12) k) k 0)) 21 (upd (clr (g 1) (g 21) k) k 0))) := hD
              refine lv_iinc (v := nI (k + 1)) (lv' := [(2, .int (nI (k + 1))), (1, .int ((sumN (fun j => if g 1 j = 1 then 0 else if g 8 j = 0 then 0 else 1) k) + 1)), (0, .ref o)]) hx hb dX3_clear_91 hl (k := 2) rfl (nI_1 _) (by decide) rfl (fun ls hl => ?_)
              refine lv_goto (tgt := 14) hx hb dX3_clear_94 (by decide) ?_
              have q_8 : (sumN (fun j => if g 1 j = 1 then 0 else if g 8 j = 0 then 0 else 1) (k + 1) : Int32) = (sumN (fun j => if g 1 j = 1 then 0 else if g 8 j = 0 then 0 else 1) k) + 1 := by first | rfl | simp [sumN, c_1, c_3, Int32.not_le.mp c_3, c_4, c_7]
              have q_9 : va_up (va_up (va_up (va_up (va_up (va_up g 8 (clr (g 1) (g 8) (k + 1))) 9 (fil (fun _ => 0) (g 9) (k + 1))) 10 (fil (fun _ => 0) (g 10) (k + 1))) 11 (fil (fun _ => 0) (g 11) (k + 1))) 12 (fil (fun _ => 0) (g 12) (k + 1))) 21 (clr (g 1) (g 21) (k + 1)) = va_up (va_up (va_up (va_up (va_up (va_up g 8 (upd (clr (g 1) (g 8) k) k 0)) 9 (upd (fil (fun _ => 0) (g 9) k) k 0)) 10 (upd (fil (fun _ => 0) (g 10) k) k 0)) 11 (upd (fil (fun _ => 0) (g 11) k) k 0)) 12 (upd (fil (fun _ => 0) (g 12) k) k 0)) 21 (upd (clr (g 1) (g 21) k) k 0) := by simp only [fil_s]; rw [clr_f c_4, clr_f c_4]
              exact ih (k + 1) (by omega) (by omega) H locs ls (by rw [q_9]; exact hP) (by rw [q_9]; exact hD) hS (by rw [q_8]; exact lv_sub hl [2, 1, 0] rfl)
            · refine lv_iconst (v := 0) hx hb dX3_clear_70 (by decide) ?_
              refine lv_goto (tgt := 75) hx hb dX3_clear_71 (by decide) ?_
              refine lv_iadd hx hb dX3_clear_75 ?_
              refine lv_istore_n (lv' := [(1, .int ((sumN (fun j => if g 1 j = 1 then 0 else if g 8 j = 0 then 0 else 1) k) + 0)), (0, .ref o), (2, .int (nI k))]) hx hb dX3_clear_76 rfl hl (by decide) rfl (fun ls hl => ?_)
              refine lv_aload_n hx hb dX3_clear_77 rfl (lv_at hl 1 rfl) ?_
              refine va_get (D := D) (ci := 3) (v := .ref (q 8)) (C := RX3) (T := TX3) (N := 33) hx hb hts hinX3 hown hK hP 0 rfl rfl 8 (by decide) (hts (.fieldLink RX3 32 "TroubleCodesModel" "code" "[I") (mem_at 8 rfl)) (fun _ h9 => h9) rfl dX3_clear_78 ?_
              refine lv_iload_n hx hb dX3_clear_81 rfl (lv_at hl 2 rfl) ?_
              refine lv_iconst (v := 0) hx hb dX3_clear_82 (by decide) ?_
              refine x_iast (k := k) (f := clr (g 1) (g 8) k) (x := 0) hx hb hK hP hD hS 8 rfl (by omega) (by decide) dX3_clear_83 (fun H locs hP hD hS => ?_)
              have hP : va_P D vwCl (mW cI cZ q o (va_up (va_up (va_up (va_up (va_up (va_up g 8 (upd (clr (g 1) (g 8) k) k 0)) 9 (upd (fil (fun _ => 0) (g 9) k) k 0)) 10 (upd (fil (fun _ => 0) (g 10) k) k 0)) 11 (upd (fil (fun _ => 0) (g 11) k) k 0)) 12 (upd (fil (fun _ => 0) (g 12) k) k 0)) 21 (clr (g 1) (g 21) k))) H := hP
              have hD : va_D A (mW cI cZ q o (va_up (va_up (va_up (va_up (va_up (va_up g 8 (upd (clr (g 1) (g 8) k) k 0)) 9 (upd (fil (fun _ => 0) (g 9) k) k 0)) 10 (upd (fil (fun _ => 0) (g 10) k) k 0)) 11 (upd (fil (fun _ => 0) (g 11) k) k 0)) 12 (upd (fil (fun _ => 0) (g 12) k) k 0)) 21 (clr (g 1) (g 21) k))) := hD
              refine lv_aload_n hx hb dX3_clear_84 rfl (lv_at hl 1 rfl) ?_
              refine va_get (D := D) (ci := 3) (v := .ref (q 21)) (C := RX3) (T := TX3) (N := 33) hx hb hts hinX3 hown hK hP 0 rfl rfl 21 (by decide) (hts (.fieldLink RX3 66 "TroubleCodesModel" "isFrozen" "[Z") (mem_at 9 rfl)) (fun _ h9 => h9) rfl dX3_clear_85 ?_
              refine lv_iload_n hx hb dX3_clear_88 rfl (lv_at hl 2 rfl) ?_
              refine lv_iconst (v := 0) hx hb dX3_clear_89 (by decide) ?_
              refine x_zast (k := k) (f := clr (g 1) (g 21) k) (x := 0) hx hb hK hP hD hS 18 rfl (by decide) (by omega) (by decide) dX3_clear_90 (fun H locs hP hD hS => ?_)
              have hP : va_P D vwCl (mW cI cZ q o (va_up (va_up (va_up (va_up (va_up (va_up g 8 (upd (clr (g 1) (g 8) k) k 0)) 9 (upd (fil (fun _ => 0) (g 9) k) k 0)) 10 (upd (fil (fun _ => 0) (g 10) k) k 0)) 11 (upd (fil (fun _ => 0) (g 11) k) k 0)) 12 (upd (fil (fun _ => 0) (g 12) k) k 0)) 21 (upd (clr (g 1) (g 21) k) k 0))) H := hP
              have hD : va_D A (mW cI cZ q o (va_up (va_up (va_up (va_up (va_up (va_up g 8 (upd (clr (g 1) (g 8) k) k 0)) 9 (upd (fil (fun _ => 0) (g 9) k) k 0)) 10 (upd (fil (fun _ => 0) (g 10) k) k 0)) 11 (upd (fil (fun _ => 0) (g 11) k) k 0)) 12 (upd (fil (fun _ => 0) (g 12) k) k 0)) 21 (upd (clr (g 1) (g 21) k) k 0))) := hD
              refine lv_iinc (v := nI (k + 1)) (lv' := [(2, .int (nI (k + 1))), (1, .int ((sumN (fun j => if g 1 j = 1 then 0 else if g 8 j = 0 then 0 else 1) k) + 0)), (0, .ref o)]) hx hb dX3_clear_91 hl (k := 2) rfl (nI_1 _) (by decide) rfl (fun ls hl => ?_)
              refine lv_goto (tgt := 14) hx hb dX3_clear_94 (by decide) ?_
              have q_10 : (sumN (fun j => if g 1 j = 1 then 0 else if g 8 j = 0 then 0 else 1) (k + 1) : Int32) = (sumN (fun j => if g 1 j = 1 then 0 else if g 8 j = 0 then 0 else 1) k) + 0 := by first | rfl | simp [sumN, c_1, c_3, Int32.not_le.mp c_3, c_4, c_7]
              have q_11 : va_up (va_up (va_up (va_up (va_up (va_up g 8 (clr (g 1) (g 8) (k + 1))) 9 (fil (fun _ => 0) (g 9) (k + 1))) 10 (fil (fun _ => 0) (g 10) (k + 1))) 11 (fil (fun _ => 0) (g 11) (k + 1))) 12 (fil (fun _ => 0) (g 12) (k + 1))) 21 (clr (g 1) (g 21) (k + 1)) = va_up (va_up (va_up (va_up (va_up (va_up g 8 (upd (clr (g 1) (g 8) k) k 0)) 9 (upd (fil (fun _ => 0) (g 9) k) k 0)) 10 (upd (fil (fun _ => 0) (g 10) k) k 0)) 11 (upd (fil (fun _ => 0) (g 11) k) k 0)) 12 (upd (fil (fun _ => 0) (g 12) k) k 0)) 21 (upd (clr (g 1) (g 21) k) k 0) := by simp only [fil_s]; rw [clr_f c_4, clr_f c_4]
              exact ih (k + 1) (by omega) (by omega) H locs ls (by rw [q_11]; exact hP) (by rw [q_11]; exact hD) hS (by rw [q_10]; exact lv_sub hl [2, 1, 0] rfl)
    have q_12 : (sumN (fun j => if g 1 j = 1 then 0 else if g 8 j = 0 then 0 else 1) 0 : Int32) = 0 := by rfl
    have q_13 : (nI 0 : Int32) = 0 := by rfl
    exact LOOP_2 (n - 0 + 1) 0 (Nat.zero_le _) (Nat.lt_succ_self _) _ _ ls (by simp only [fil_0, clr_0]; exact hP) (by simp only [fil_0, clr_0]; exact hD) hS (by rw [q_12, q_13]; exact lv_sub hl [2, 1, 0] rfl)
  · refine lv_bipush (v := (-3)) hx hb dX3_clear_7 (by decide) ?_
    have es : fX3_clear g n = ((-3), g) := by rw [fX3_clear]; rw [if_neg c_1]
    exact hret 9 _ _ _ _ (by rw [es]) (by rw [es]; exact hP) (by rw [es]; exact hD) hS rfl dX3_clear_9

def fX3_freezes (g : Nat → Nat → Int32) (n k : Nat) : Nat → Nat → Int32 := if (sumN (fun j => if (upd (g 21) k 1) j = 0 then 0 else 1) n) ≤ (g 20 0) then (va_up (va_up (va_up (va_up (va_up g 21 (upd (g 21) k 1)) 22 (ff4 (g 19) (g 22) k 4)) 23 (upd (g 23) k (g 18 0))) 24 (upd (g 24) k (g 25 0))) 25 (fun _ => (g 25 0) + 1)) else (if (lfF (upd (g 21) k 1) (g 1) (g 6) (upd (g 24) k (g 25 0)) n) = (-1) then (va_up (va_up (va_up (va_up (va_up g 21 (upd (upd (g 21) k 1) k 0)) 22 (ff4 (g 19) (g 22) k 4)) 23 (upd (g 23) k (g 18 0))) 24 (upd (g 24) k (g 25 0))) 25 (fun _ => (g 25 0) + 1)) else (va_up (va_up (va_up (va_up (va_up g 21 (upd (upd (g 21) k 1) (ix (lfF (upd (g 21) k 1) (g 1) (g 6) (upd (g 24) k (g 25 0)) n)) 0)) 22 (ff4 (g 19) (g 22) k 4)) 23 (upd (g 23) k (g 18 0))) 24 (upd (g 24) k (g 25 0))) 25 (fun _ => (g 25 0) + 1)))
set_option maxHeartbeats 4000000 in
set_option maxRecDepth 100000 in
theorem tX3_freezes (l : Launch) (D : va_G) (cI cZ cC : ClassId) (q : Nat → Nat) (o : Nat) (g : Nat → Nat → Int32) (n : Nat) (hn : g 0 0 = nI n) (hnb : n ≤ 16) (k : Nat) (hk : k < 16) : WrV l yX3_freezes wsX3_freezes (rmK 2) D cI cZ cC [.ref o, .int (nI k)] (mW cI cZ q o g) (mW cI cZ q o (fX3_freezes g n k)) := by
  refine WrV.of (cc := cX3_freezes) (maxL := 3) (by decide) rfl (Nat.le_of_ble_eq_true rfl) ?_
  intro p e s m args below meth c Q A ls hx hb hml hts hown hK hP hD hS hA hret hl
  have hl : lv_has ls 3 [(0, .ref o), (1, .int (nI k))] := hl
  have hinX3 : ∀ w ∈ u_ws RX3 TX3 33, w ∈ wsX3_freezes := (fun w h => List.mem_cons_of_mem _ (List.mem_append_right _ h))
  refine lv_aload_n hx hb dX3_freezes_0 rfl (lv_at hl 0 rfl) ?_
  refine va_get (D := D) (ci := 3) (v := .ref (q 21)) (C := RX3) (T := TX3) (N := 33) hx hb hts hinX3 hown hK hP 0 rfl rfl 21 (by decide) (hts (.fieldLink RX3 66 "TroubleCodesModel" "isFrozen" "[Z") (mem_at 1 rfl)) (fun _ h9 => h9) rfl dX3_freezes_1 ?_
  refine lv_iload_n hx hb dX3_freezes_4 rfl (lv_at hl 1 rfl) ?_
  refine lv_iconst (v := 1) hx hb dX3_freezes_5 (by decide) ?_
  refine x_zast (k := k) (f := g 21) (x := 1) hx hb hK hP hD hS 18 rfl (by decide) (by omega) (by decide) dX3_freezes_6 (fun H locs hP hD hS => ?_)
  have hP : va_P D vwCl (mW cI cZ q o (va_up g 21 (upd (g 21) k 1))) H := hP
  have hD : va_D A (mW cI cZ q o (va_up g 21 (upd (g 21) k 1))) := hD
  refine lv_aload_n hx hb dX3_freezes_7 rfl (lv_at hl 0 rfl) ?_
  refine va_get (D := D) (ci := 3) (v := .ref (q 23)) (C := RX3) (T := TX3) (N := 33) hx hb hts hinX3 hown hK hP 0 rfl rfl 23 (by decide) (hts (.fieldLink RX3 72 "TroubleCodesModel" "frozenDrive" "[I") (mem_at 2 rfl)) (fun _ h9 => h9) rfl dX3_freezes_8 ?_
  refine lv_iload_n hx hb dX3_freezes_11 rfl (lv_at hl 1 rfl) ?_
  refine lv_aload_n hx hb dX3_freezes_12 rfl (lv_at hl 0 rfl) ?_
  refine va_get (D := D) (ci := 3) (v := .int (g 18 0)) (C := RX3) (T := TX3) (N := 33) hx hb hts hinX3 hown hK hP 0 rfl rfl 18 (by decide) (hts (.fieldLink RX3 108 "TroubleCodesModel" "drives" "I") (mem_at 3 rfl)) (fun _ h9 => h9) rfl dX3_freezes_13 ?_
  refine x_iast (k := k) (f := g 23) (x := g 18 0) hx hb hK hP hD hS 20 rfl (by omega) (by decide) dX3_freezes_16 (fun H locs hP hD hS => ?_)
  have hP : va_P D vwCl (mW cI cZ q o (va_up (va_up g 21 (upd (g 21) k 1)) 23 (upd (g 23) k (g 18 0)))) H := hP
  have hD : va_D A (mW cI cZ q o (va_up (va_up g 21 (upd (g 21) k 1)) 23 (upd (g 23) k (g 18 0)))) := hD
  refine lv_aload_n hx hb dX3_freezes_17 rfl (lv_at hl 0 rfl) ?_
  refine va_get (D := D) (ci := 3) (v := .ref (q 24)) (C := RX3) (T := TX3) (N := 33) hx hb hts hinX3 hown hK hP 0 rfl rfl 24 (by decide) (hts (.fieldLink RX3 75 "TroubleCodesModel" "frozenTurn" "[I") (mem_at 4 rfl)) (fun _ h9 => h9) rfl dX3_freezes_18 ?_
  refine lv_iload_n hx hb dX3_freezes_21 rfl (lv_at hl 1 rfl) ?_
  refine lv_aload_n hx hb dX3_freezes_22 rfl (lv_at hl 0 rfl) ?_
  refine va_get (D := D) (ci := 3) (v := .int (g 25 0)) (C := RX3) (T := TX3) (N := 33) hx hb hts hinX3 hown hK hP 0 rfl rfl 25 (by decide) (hts (.fieldLink RX3 111 "TroubleCodesModel" "turns" "I") (mem_at 5 rfl)) (fun _ h9 => h9) rfl dX3_freezes_23 ?_
  refine x_iast (k := k) (f := g 24) (x := g 25 0) hx hb hK hP hD hS 21 rfl (by omega) (by decide) dX3_freezes_26 (fun H locs hP hD hS => ?_)
  have hP : va_P D vwCl (mW cI cZ q o (va_up (va_up (va_up g 21 (upd (g 21) k 1)) 23 (upd (g 23) k (g 18 0))) 24 (upd (g 24) k (g 25 0)))) H := hP
  have hD : va_D A (mW cI cZ q o (va_up (va_up (va_up g 21 (upd (g 21) k 1)) 23 (upd (g 23) k (g 18 0))) 24 (upd (g 24) k (g 25 0)))) := hD
  refine lv_aload_n hx hb dX3_freezes_27 rfl (lv_at hl 0 rfl) ?_
  refine lv_dup hx hb dX3_freezes_28 rfl ?_
  refine va_get (D := D) (ci := 3) (v := .int (g 25 0)) (C := RX3) (T := TX3) (N := 33) hx hb hts hinX3 hown hK hP 0 rfl rfl 25 (by decide) (hts (.fieldLink RX3 111 "TroubleCodesModel" "turns" "I") (mem_at 5 rfl)) (fun _ h9 => h9) rfl dX3_freezes_29 ?_
  refine lv_iconst (v := 1) hx hb dX3_freezes_32 (by decide) ?_
  refine lv_iadd hx hb dX3_freezes_33 ?_
  refine va_put (D := D) (ci := 3) (v := .int ((g 25 0) + 1)) (ty := .int) (C := RX3) (T := TX3) (N := 33) hx hb hts hinX3 tyX3 tyX3_ok nmX3 hown hK hP hD hS 0 rfl rfl 25 (by decide) (hts (.fieldLink RX3 111 "TroubleCodesModel" "turns" "I") (mem_at 5 rfl)) (fun _ h9 => h9) rfl (by decide +kernel) rfl rfl (Nat.le_of_ble_eq_true rfl) dX3_freezes_34 (fun H locs hP hD hS => ?_)
  have hP : va_P D vwCl (mW cI cZ q o (va_up (va_up (va_up (va_up g 21 (upd (g 21) k 1)) 23 (upd (g 23) k (g 18 0))) 24 (upd (g 24) k (g 25 0))) 25 (fun _ => (g 25 0) + 1))) H := hP
  have hD : va_D A (mW cI cZ q o (va_up (va_up (va_up (va_up g 21 (upd (g 21) k 1)) 23 (upd (g 23) k (g 18 0))) 24 (upd (g 24) k (g 25 0))) 25 (fun _ => (g 25 0) + 1))) := hD
  refine lv_iconst (v := 0) hx hb dX3_freezes_37 (by decide) ?_
  refine lv_istore_n (lv' := [(2, .int 0), (0, .ref o), (1, .int (nI k))]) hx hb dX3_freezes_38 rfl hl (by decide) rfl (fun ls hl => ?_)
  have LOOP_1 : ∀ (fu i : Nat), i ≤ 4 → 4 - i < fu → ∀ (H : Heap) (locs : List Loc) (ls : Array Slot), va_P D vwCl (mW cI cZ q o (va_up (va_up (va_up (va_up (va_up g 21 (upd (g 21) k 1)) 22 (ff4 (g 19) (g 22) k i)) 23 (upd (g 23) k (g 18 0))) 24 (upd (g 24) k (g 25 0))) 25 (fun _ => (g 25 0) + 1))) H → va_D A (mW cI cZ q o (va_up (va_up (va_up (va_up (va_up g 21 (upd (g 21) k 1)) 22 (ff4 (g 19) (g 22) k i)) 23 (upd (g 23) k (g 18 0))) 24 (upd (g 24) k (g 25 0))) 25 (fun _ => (g 25 0) + 1))) → va_S A s.heap H locs → lv_has ls 3 [(0, .ref o), (1, .int (nI k)), (2, .int (nI i))] → W p l e (rmK 2) s m args below meth c H locs 0 0 Q (F0 m 39 ls []) := by
    intro fu
    induction fu with
    | zero => intro i h1 h2; exact absurd h2 (Nat.not_lt_zero _)
    | succ fu ih =>
      intro i hkn hfu  H locs ls hP hD hS hl
      refine lv_iload_n hx hb dX3_freezes_39 rfl (lv_at hl 2 rfl) ?_
      refine lv_iconst (v := 4) hx hb dX3_freezes_40 (by decide) ?_
      refine lv_icmp_ge (tgt := 66) hx hb dX3_freezes_41 (by decide) (fun c_2 => ?_) (fun c_2 => ?_)
      · have ekn : 4 = i := Nat.le_antisymm (kx_ge (x := 4) (n := 4) rfl (by omega) (by omega) c_2) hkn
        subst ekn
        refine lv_aload_n hx hb dX3_freezes_66 rfl (lv_at hl 0 rfl) ?_
        refine x_rdV (As := []) (rest := []) ⟨hx, hb, hml, hown, hts⟩ (tX3_manyFrozen l D cI cZ cC q o (va_up (va_up (va_up (va_up (va_up g 21 (upd (g 21) k 1)) 22 (ff4 (g 19) (g 22) k 4)) 23 (upd (g 23) k (g 18 0))) 24 (upd (g 24) k (g 25 0))) 25 (fun _ => (g 25 0) + 1)) n hn hnb) (cwV 0 hts gX3_freezes_X3_manyFrozen rfl rfl rfl (by decide +kernel) ⟨Nat.le_of_ble_eq_true rfl, Nat.le_of_ble_eq_true rfl⟩) hK (x_recv (ci := 3) hK hP rfl (q0 := 0) rfl) hP rfl hl.1 rfl (Nat.le_of_ble_eq_true rfl) dX3_freezes_67 ⟨Nat.le_of_ble_eq_true rfl, Nat.le_of_ble_eq_true rfl⟩ (fun r_3 er_3 => ?_)
        have er_3 : r_3 = sumN (fun j => if (upd (g 21) k 1) j = 0 then 0 else 1) n := er_3
        subst er_3
        refine lv_aload_n hx hb dX3_freezes_70 rfl (lv_at hl 0 rfl) ?_
        refine va_get (D := D) (ci := 3) (v := .int (g 20 0)) (C := RX3) (T := TX3) (N := 33) hx hb hts hinX3 hown hK hP 0 rfl rfl 20 (by decide) (hts (.fieldLink RX3 62 "TroubleCodesModel" "room" "I") (mem_at 8 rfl)) (fun _ h9 => h9) rfl dX3_freezes_71 ?_
        refine lv_icmp_le (tgt := 98) hx hb dX3_freezes_74 (by decide) (fun c_4 => ?_) (fun c_4 => ?_)
        · have es : fX3_freezes g n k = va_up (va_up (va_up (va_up (va_up g 21 (upd (g 21) k 1)) 22 (ff4 (g 19) (g 22) k 4)) 23 (upd (g 23) k (g 18 0))) 24 (upd (g 24) k (g 25 0))) 25 (fun _ => (g 25 0) + 1) := by rw [fX3_freezes]; rw [if_pos c_4]
          exact hret 98 _ _ _ (by rw [es]; exact hP) (by rw [es]; exact hD) hS dX3_freezes_98
        · refine lv_aload_n hx hb dX3_freezes_77 rfl (lv_at hl 0 rfl) ?_
          refine x_rdV (As := []) (rest := []) ⟨hx, hb, hml, hown, hts⟩ (tX3_leastFrozen l D cI cZ cC q o (va_up (va_up (va_up (va_up (va_up g 21 (upd (g 21) k 1)) 22 (ff4 (g 19) (g 22) k 4)) 23 (upd (g 23) k (g 18 0))) 24 (upd (g 24) k (g 25 0))) 25 (fun _ => (g 25 0) + 1)) n hn hnb) (cwV 0 hts gX3_freezes_X3_leastFrozen rfl rfl rfl (by decide +kernel) ⟨Nat.le_of_ble_eq_true rfl, Nat.le_of_ble_eq_true rfl⟩) hK (x_recv (ci := 3) hK hP rfl (q0 := 0) rfl) hP rfl hl.1 rfl (Nat.le_of_ble_eq_true rfl) dX3_freezes_78 ⟨Nat.le_of_ble_eq_true rfl, Nat.le_of_ble_eq_true rfl⟩ (fun r_5 er_5 => ?_)
          have er_5 : r_5 = lfF (upd (g 21) k 1) (g 1) (g 6) (upd (g 24) k (g 25 0)) n := er_5
          subst er_5
          refine lv_istore_n (lv' := [(2, .int (lfF (upd (g 21) k 1) (g 1) (g 6) (upd (g 24) k (g 25 0)) n)), (0, .ref o), (1, .int (nI k))]) hx hb dX3_freezes_81 rfl hl (by decide) rfl (fun ls hl => ?_)
          refine lv_aload_n hx hb dX3_freezes_82 rfl (lv_at hl 1 rfl) ?_
          refine va_get (D := D) (ci := 3) (v := .ref (q 21)) (C := RX3) (T := TX3) (N := 33) hx hb hts hinX3 hown hK hP 0 rfl rfl 21 (by decide) (hts (.fieldLink RX3 66 "TroubleCodesModel" "isFrozen" "[Z") (mem_at 1 rfl)) (fun _ h9 => h9) rfl dX3_freezes_83 ?_
          refine lv_iload_n hx hb dX3_freezes_86 rfl (lv_at hl 0 rfl) ?_
          refine lv_iconst (v := (-1)) hx hb dX3_freezes_87 (by decide) ?_
          refine lv_icmp_ne (tgt := 95) hx hb dX3_freezes_88 (by decide) (fun c_6 => ?_) (fun c_6 => ?_)
          · obtain ⟨jf, hj, ej, hja, -⟩ := (lf_cases (upd (g 21) k 1) (g 1) (g 6) (upd (g 24) k (g 25 0)) n).resolve_left c_6
            have eix : ix (lfF (upd (g 21) k 1) (g 1) (g 6) (upd (g 24) k (g 25 0)) n) = jf := by rw [ej]; exact ix_nI (by omega)
            refine lv_iload_n hx hb dX3_freezes_95 rfl (lv_at hl 0 rfl) ?_
            refine lv_iconst (v := 0) hx hb dX3_freezes_96 (by decide) ?_
            rw [ej]
            refine x_zast (k := jf) (f := upd (g 21) k 1) (x := 0) hx hb hK hP hD hS 18 rfl (by decide) (by omega) (by decide) dX3_freezes_97 (fun H locs hP hD hS => ?_)
            have hP : va_P D vwCl (mW cI cZ q o (va_up (va_up (va_up (va_up (va_up g 21 (upd (upd (g 21) k 1) jf 0)) 22 (ff4 (g 19) (g 22) k 4)) 23 (upd (g 23) k (g 18 0))) 24 (upd (g 24) k (g 25 0))) 25 (fun _ => (g 25 0) + 1))) H := hP
            have hD : va_D A (mW cI cZ q o (va_up (va_up (va_up (va_up (va_up g 21 (upd (upd (g 21) k 1) jf 0)) 22 (ff4 (g 19) (g 22) k 4)) 23 (upd (g 23) k (g 18 0))) 24 (upd (g 24) k (g 25 0))) 25 (fun _ => (g 25 0) + 1))) := hD
            have es : fX3_freezes g n k = va_up (va_up (va_up (va_up (va_up g 21 (upd (upd (g 21) k 1) jf 0)) 22 (ff4 (g 19) (g 22) k 4)) 23 (upd (g 23) k (g 18 0))) 24 (upd (g 24) k (g 25 0))) 25 (fun _ => (g 25 0) + 1) := by rw [fX3_freezes]; simp only [eix]; rw [if_neg c_4, if_neg c_6]
            exact hret 98 _ _ _ (by rw [es]; exact hP) (by rw [es]; exact hD) hS dX3_freezes_98
          · refine lv_iload_n hx hb dX3_freezes_91 rfl (lv_at hl 2 rfl) ?_
            refine lv_goto (tgt := 96) hx hb dX3_freezes_92 (by decide) ?_
            refine lv_iconst (v := 0) hx hb dX3_freezes_96 (by decide) ?_
            refine x_zast (k := k) (f := upd (g 21) k 1) (x := 0) hx hb hK hP hD hS 18 rfl (by decide) (by omega) (by decide) dX3_freezes_97 (fun H locs hP hD hS => ?_)
            have hP : va_P D vwCl (mW cI cZ q o (va_up (va_up (va_up (va_up (va_up g 21 (upd (upd (g 21) k 1) k 0)) 22 (ff4 (g 19) (g 22) k 4)) 23 (upd (g 23) k (g 18 0))) 24 (upd (g 24) k (g 25 0))) 25 (fun _ => (g 25 0) + 1))) H := hP
            have hD : va_D A (mW cI cZ q o (va_up (va_up (va_up (va_up (va_up g 21 (upd (upd (g 21) k 1) k 0)) 22 (ff4 (g 19) (g 22) k 4)) 23 (upd (g 23) k (g 18 0))) 24 (upd (g 24) k (g 25 0))) 25 (fun _ => (g 25 0) + 1))) := hD
            have es : fX3_freezes g n k = va_up (va_up (va_up (va_up (va_up g 21 (upd (upd (g 21) k 1) k 0)) 22 (ff4 (g 19) (g 22) k 4)) 23 (upd (g 23) k (g 18 0))) 24 (upd (g 24) k (g 25 0))) 25 (fun _ => (g 25 0) + 1) := by rw [fX3_freezes]; rw [if_neg c_4, if_pos c_6]
            exact hret 98 _ _ _ (by rw [es]; exact hP) (by rw [es]; exact hD) hS dX3_freezes_98
      · have hil : i < 4 := kx_lt (x := 4) (n := 4) rfl (by omega) (by omega) c_2
        refine lv_aload_n hx hb dX3_freezes_44 rfl (lv_at hl 0 rfl) ?_
        refine va_get (D := D) (ci := 3) (v := .ref (q 22)) (C := RX3) (T := TX3) (N := 33) hx hb hts hinX3 hown hK hP 0 rfl rfl 22 (by decide) (hts (.fieldLink RX3 69 "TroubleCodesModel" "frozenFact" "[I") (mem_at 6 rfl)) (fun _ h9 => h9) rfl dX3_freezes_45 ?_
        refine lv_iconst (v := 4) hx hb dX3_freezes_48 (by decide) ?_
        refine lv_iload_n hx hb dX3_freezes_49 rfl (lv_at hl 1 rfl) ?_
        refine lv_imul hx hb dX3_freezes_50 ?_
        refine lv_iload_n hx hb dX3_freezes_51 rfl (lv_at hl 2 rfl) ?_
        refine lv_iadd hx hb dX3_freezes_52 ?_
        refine lv_aload_n hx hb dX3_freezes_53 rfl (lv_at hl 0 rfl) ?_
        refine va_get (D := D) (ci := 3) (v := .ref (q 19)) (C := RX3) (T := TX3) (N := 33) hx hb hts hinX3 hown hK hP 0 rfl rfl 19 (by decide) (hts (.fieldLink RX3 59 "TroubleCodesModel" "fact" "[I") (mem_at 7 rfl)) (fun _ h9 => h9) rfl dX3_freezes_54 ?_
        refine lv_iload_n hx hb dX3_freezes_57 rfl (lv_at hl 2 rfl) ?_
        refine x_iald (k := i) (f := g 19) hx hb hK hP 17 rfl (by omega) (by decide) dX3_freezes_58 ?_
        rw [ix4]
        refine x_iast (k := (4 * k + i)) (f := ff4 (g 19) (g 22) k i) (x := g 19 i) hx hb hK hP hD hS 19 rfl (by omega) (by decide) dX3_freezes_59 (fun H locs hP hD hS => ?_)
        have hP : va_P D vwCl (mW cI cZ q o (va_up (va_up (va_up (va_up (va_up g 21 (upd (g 21) k 1)) 22 (upd (ff4 (g 19) (g 22) k i) (4 * k + i) (g 19 i))) 23 (upd (g 23) k (g 18 0))) 24 (upd (g 24) k (g 25 0))) 25 (fun _ => (g 25 0) + 1))) H := hP
        have hD : va_D A (mW cI cZ q o (va_up (va_up (va_up (va_up (va_up g 21 (upd (g 21) k 1)) 22 (upd (ff4 (g 19) (g 22) k i) (4 * k + i) (g 19 i))) 23 (upd (g 23) k (g 18 0))) 24 (upd (g 24) k (g 25 0))) 25 (fun _ => (g 25 0) + 1))) := hD
        refine lv_iinc (v := nI (i + 1)) (lv' := [(2, .int (nI (i + 1))), (0, .ref o), (1, .int (nI k))]) hx hb dX3_freezes_60 hl (k := 2) rfl (nI_1 _) (by decide) rfl (fun ls hl => ?_)
        refine lv_goto (tgt := 39) hx hb dX3_freezes_63 (by decide) ?_
        have q_7 : va_up (va_up (va_up (va_up (va_up g 21 (upd (g 21) k 1)) 22 (ff4 (g 19) (g 22) k (i + 1))) 23 (upd (g 23) k (g 18 0))) 24 (upd (g 24) k (g 25 0))) 25 (fun _ => (g 25 0) + 1) = va_up (va_up (va_up (va_up (va_up g 21 (upd (g 21) k 1)) 22 (upd (ff4 (g 19) (g 22) k i) (4 * k + i) (g 19 i))) 23 (upd (g 23) k (g 18 0))) 24 (upd (g 24) k (g 25 0))) 25 (fun _ => (g 25 0) + 1) := by rw [ff4_s]
        exact ih (i + 1) (by omega) (by omega) H locs ls (by rw [q_7]; exact hP) (by rw [q_7]; exact hD) hS (by exact lv_sub hl [1, 2, 0] rfl)
  have q_8 : (nI 0 : Int32) = 0 := by rfl
  exact LOOP_1 (4 - 0 + 1) 0 (Nat.zero_le _) (Nat.lt_succ_self _) _ _ ls (by rw [ff4_0]; exact hP) (by rw [ff4_0]; exact hD) hS (by rw [q_8]; exact lv_sub hl [1, 2, 0] rfl)

def fX3_room (g : Nat → Nat → Int32) (n : Nat) (r : Int32) : Int32 × (Nat → Nat → Int32) := if 1 ≤ r ∧ r ≤ 8 then (g 20 0, va_up (va_up g 20 (fun _ => r)) 21 (thw (g 1) (g 6) (g 24) r n 17 (g 21))) else (-2, g)

set_option maxHeartbeats 4000000 in
set_option maxRecDepth 100000 in
theorem tX3_room (l : Launch) (D : va_G) (cI cZ cC : ClassId) (q : Nat → Nat) (o : Nat) (g : Nat → Nat → Int32) (n : Nat) (hn : g 0 0 = nI n) (hnb : n ≤ 16) (r : Int32) : WrI l yX3_room wsX3_room (rmK 3) D cI cZ cC [.ref o, .int r] (mW cI cZ q o g) (mW cI cZ q o ((fX3_room g n r).2)) (fun ans => ans = (fX3_room g n r).1) := by
  refine WrI.of (cc := cX3_room) (maxL := 3) (ret := .int) (by decide) rfl (Nat.le_of_ble_eq_true rfl) ?_
  intro p e s m args below meth c Q A ls hx hb hml hts hown hK hP hD hS hA hret hl
  have hl : lv_has ls 3 [(0, .ref o), (1, .int r)] := hl
  have hinX3 : ∀ w ∈ u_ws RX3 TX3 33, w ∈ wsX3_room := (fun w h => List.mem_cons_of_mem _ (List.mem_append_right _ h))
  refine lv_iload_n hx hb dX3_room_0 rfl (lv_at hl 1 rfl) ?_
  refine lv_iconst (v := 1) hx hb dX3_room_1 (by decide) ?_
  refine lv_bipush (v := 8) hx hb dX3_room_2 (by decide) ?_
  refine x_rdS (As := [.int r, .int 1, .int 8]) (rest := []) ⟨hx, hb, hml, hown, hts⟩ (tX3_in l D cI cZ cC r 1 8) (va_cwS 3 hts gX3_room_X3_in rfl rfl rfl (by decide +kernel) ⟨Nat.le_of_ble_eq_true rfl, Nat.le_of_ble_eq_true rfl⟩) hK trivial rfl hl.1 rfl (Nat.le_of_ble_eq_true rfl) dX3_room_4 ⟨Nat.le_of_ble_eq_true rfl, Nat.le_of_ble_eq_true rfl⟩ (fun r_1 er_1 => ?_)
  have er_1 : r_1 = bI (1 ≤ r ∧ r ≤ 8) := er_1
  subst er_1
  refine lv_if_ne (tgt := 13) hx hb dX3_room_7 (by decide) (fun c_2 => ?_) (fun c_2 => ?_)
  · have c_2 := bI_ne c_2
    refine lv_aload_n hx hb dX3_room_13 rfl (lv_at hl 0 rfl) ?_
    refine va_get (D := D) (ci := 3) (v := .int (g 20 0)) (C := RX3) (T := TX3) (N := 33) hx hb hts hinX3 hown hK hP 0 rfl rfl 20 (by decide) (hts (.fieldLink RX3 62 "TroubleCodesModel" "room" "I") (mem_at 1 rfl)) (fun _ h9 => h9) rfl dX3_room_14 ?_
    refine lv_istore_n (lv' := [(2, .int (g 20 0)), (0, .ref o), (1, .int r)]) hx hb dX3_room_17 rfl hl (by decide) rfl (fun ls hl => ?_)
    refine lv_aload_n hx hb dX3_room_18 rfl (lv_at hl 1 rfl) ?_
    refine lv_iload_n hx hb dX3_room_19 rfl (lv_at hl 2 rfl) ?_
    refine va_put (D := D) (ci := 3) (v := .int r) (ty := .int) (C := RX3) (T := TX3) (N := 33) hx hb hts hinX3 tyX3 tyX3_ok nmX3 hown hK hP hD hS 0 rfl rfl 20 (by decide) (hts (.fieldLink RX3 62 "TroubleCodesModel" "room" "I") (mem_at 1 rfl)) (fun _ h9 => h9) rfl (by decide +kernel) rfl rfl (Nat.le_of_ble_eq_true rfl) dX3_room_20 (fun H locs hP hD hS => ?_)
    have hP : va_P D vwCl (mW cI cZ q o (va_up g 20 (fun _ => r))) H := hP
    have hD : va_D A (mW cI cZ q o (va_up g 20 (fun _ => r))) := hD
    have LOOP : ∀ (t : Nat) (a : Nat → Int32), cntN a n < t → thw (g 1) (g 6) (g 24) r n t a = thw (g 1) (g 6) (g 24) r n 17 (g 21) → ∀ (H : Heap) (locs : List Loc) (ls : Array Slot), va_P D vwCl (mW cI cZ q o (va_up (va_up g 20 (fun _ => r)) 21 a)) H → va_D A (mW cI cZ q o (va_up (va_up g 20 (fun _ => r)) 21 a)) → va_S A s.heap H locs → lv_has ls 3 [(0, .ref o), (2, .int (g 20 0))] → W p l e (rmK 3) s m args below meth c H locs 0 0 Q (F0 m 23 ls []) := by
      intro t
      induction t with
      | zero => intro a h; exact absurd h (Nat.not_lt_zero _)
      | succ t ih =>
        intro a hct hfin H locs ls hP hD hS hl
        refine lv_aload_n hx hb dX3_room_23 rfl (lv_at hl 0 rfl) ?_
        refine x_rdV (As := []) (rest := []) ⟨hx, hb, hml, hown, hts⟩ (tX3_manyFrozen l D cI cZ cC q o (va_up (va_up g 20 (fun _ => r)) 21 a) n hn hnb) (cwV 0 hts gX3_room_X3_manyFrozen rfl rfl rfl (by decide +kernel) ⟨Nat.le_of_ble_eq_true rfl, Nat.le_of_ble_eq_true rfl⟩) hK (x_recv (ci := 3) hK hP rfl (q0 := 0) rfl) hP rfl hl.1 rfl (Nat.le_of_ble_eq_true rfl) dX3_room_24 ⟨Nat.le_of_ble_eq_true rfl, Nat.le_of_ble_eq_true rfl⟩ (fun r_3 er_3 => ?_)
        have er_3 : r_3 = sumN (fun j => if a j = 0 then 0 else 1) n := er_3
        subst er_3
        refine lv_aload_n hx hb dX3_room_27 rfl (lv_at hl 0 rfl) ?_
        refine va_get (D := D) (ci := 3) (v := .int r) (C := RX3) (T := TX3) (N := 33) hx hb hts hinX3 hown hK hP 0 rfl rfl 20 (by decide) (hts (.fieldLink RX3 62 "TroubleCodesModel" "room" "I") (mem_at 1 rfl)) (fun _ h9 => h9) rfl dX3_room_28 ?_
        refine lv_icmp_le (tgt := 55) hx hb dX3_room_31 (by decide) (fun c_4 => ?_) (fun c_4 => ?_)
        · refine lv_iload_n hx hb dX3_room_55 rfl (lv_at hl 1 rfl) ?_
          have ea : thw (g 1) (g 6) (g 24) r n 17 (g 21) = a := by rw [← hfin, thw, if_neg (fun h => absurd h.1 (Int32.not_lt.mpr c_4))]
          have es : fX3_room g n r = (g 20 0, va_up (va_up g 20 (fun _ => r)) 21 a) := by rw [fX3_room]; rw [if_pos c_2, ea]
          exact hret 56 _ _ _ _ (by rw [es]) (by rw [es]; exact hP) (by rw [es]; exact hD) hS rfl dX3_room_56
        · refine lv_aload_n hx hb dX3_room_34 rfl (lv_at hl 0 rfl) ?_
          refine x_rdV (As := []) (rest := []) ⟨hx, hb, hml, hown, hts⟩ (tX3_leastFrozen l D cI cZ cC q o (va_up (va_up g 20 (fun _ => r)) 21 a) n hn hnb) (cwV 0 hts gX3_room_X3_leastFrozen rfl rfl rfl (by decide +kernel) ⟨Nat.le_of_ble_eq_true rfl, Nat.le_of_ble_eq_true rfl⟩) hK (x_recv (ci := 3) hK hP rfl (q0 := 0) rfl) hP rfl hl.1 rfl (Nat.le_of_ble_eq_true rfl) dX3_room_35 ⟨Nat.le_of_ble_eq_true rfl, Nat.le_of_ble_eq_true rfl⟩ (fun r_5 er_5 => ?_)
          have er_5 : r_5 = lfF a (g 1) (g 6) (g 24) n := er_5
          subst er_5
          refine lv_iconst (v := (-1)) hx hb dX3_room_38 (by decide) ?_
          refine lv_icmp_eq (tgt := 55) hx hb dX3_room_39 (by decide) (fun c_6 => ?_) (fun c_6 => ?_)
          · refine lv_iload_n hx hb dX3_room_55 rfl (lv_at hl 1 rfl) ?_
            have ea : thw (g 1) (g 6) (g 24) r n 17 (g 21) = a := by rw [← hfin, thw, if_neg (fun h => h.2 c_6)]
            have es : fX3_room g n r = (g 20 0, va_up (va_up g 20 (fun _ => r)) 21 a) := by rw [fX3_room]; rw [if_pos c_2, ea]
            exact hret 56 _ _ _ _ (by rw [es]) (by rw [es]; exact hP) (by rw [es]; exact hD) hS rfl dX3_room_56
          · obtain ⟨jf, hj, ej, hja, -⟩ := (lf_cases a (g 1) (g 6) (g 24) n).resolve_left c_6
            have eix : ix (lfF a (g 1) (g 6) (g 24) n) = jf := by rw [ej]; exact ix_nI (by omega)
            refine lv_aload_n hx hb dX3_room_42 rfl (lv_at hl 0 rfl) ?_
            refine va_get (D := D) (ci := 3) (v := .ref (q 21)) (C := RX3) (T := TX3) (N := 33) hx hb hts hinX3 hown hK hP 0 rfl rfl 21 (by decide) (hts (.fieldLink RX3 66 "TroubleCodesModel" "isFrozen" "[Z") (mem_at 2 rfl)) (fun _ h9 => h9) rfl dX3_room_43 ?_
            refine lv_aload_n hx hb dX3_room_46 rfl (lv_at hl 0 rfl) ?_
            refine x_rdV (As := []) (rest := [.ref (q 21)]) ⟨hx, hb, hml, hown, hts⟩ (tX3_leastFrozen l D cI cZ cC q o (va_up (va_up g 20 (fun _ => r)) 21 a) n hn hnb) (cwV 0 hts gX3_room_X3_leastFrozen rfl rfl rfl (by decide +kernel) ⟨Nat.le_of_ble_eq_true rfl, Nat.le_of_ble_eq_true rfl⟩) hK (x_recv (ci := 3) hK hP rfl (q0 := 0) rfl) hP rfl hl.1 rfl (Nat.le_of_ble_eq_true rfl) dX3_room_47 ⟨Nat.le_of_ble_eq_true rfl, Nat.le_of_ble_eq_true rfl⟩ (fun r_7 er_7 => ?_)
            have er_7 : r_7 = lfF a (g 1) (g 6) (g 24) n := er_7
            subst er_7
            refine lv_iconst (v := 0) hx hb dX3_room_50 (by decide) ?_
            rw [ej]
            refine x_zast (k := jf) (f := a) (x := 0) hx hb hK hP hD hS 18 rfl (by decide) (by omega) (by decide) dX3_room_51 (fun H locs hP hD hS => ?_)
            have hP : va_P D vwCl (mW cI cZ q o (va_up (va_up g 20 (fun _ => r)) 21 (upd a jf 0))) H := hP
            have hD : va_D A (mW cI cZ q o (va_up (va_up g 20 (fun _ => r)) 21 (upd a jf 0))) := hD
            refine lv_goto (tgt := 23) hx hb dX3_room_52 (by decide) ?_
            exact ih (upd a jf 0) (by have := cnt_upd a jf hja n hj; omega) (by rw [← hfin, thw, if_pos ⟨Int32.not_le.mp c_4, c_6⟩, eix]) H locs ls hP hD hS (lv_sub hl [0, 1] rfl)
    exact LOOP 17 (g 21) (by have := cnt_le (g 21) n; omega) rfl _ _ ls (by exact hP) (by exact hD) hS (lv_sub hl [1, 0] rfl)
  · have c_2 := bI_eq c_2
    refine lv_bipush (v := (-2)) hx hb dX3_room_10 (by decide) ?_
    have es : fX3_room g n r = (-2, g) := by rw [fX3_room]; rw [if_neg c_2]
    exact hret 12 _ _ _ _ (by rw [es]) (by rw [es]; exact hP) (by rw [es]; exact hD) hS rfl dX3_room_12
