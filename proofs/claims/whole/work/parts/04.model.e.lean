def fX3_wasBad (g : Nat → Nat → Int32) (n k : Nat) : Nat → Nat → Int32 := if (if (g 8 k) = 0 then 1 else (g 8 k)) = 2 then (va_up (va_up (va_up (va_up g 8 (upd (g 8) k (if (g 8 k) = 0 then 1 else (g 8 k)))) 9 (upd (g 9) k ((g 9 k) + 1))) 10 (upd (g 10) k 0)) 11 (upd (g 11) k 0)) else (if (g 8 k) = 3 then (if (heldF (g 1) (g 2) (upd (g 8) k (if (g 8 k) = 0 then 1 else (g 8 k))) k) = 0 then (fX3_freezes (va_up (va_up (va_up (va_up (va_up (va_up g 8 (upd (upd (g 8) k (if (g 8 k) = 0 then 1 else (g 8 k))) k 2)) 9 (upd (g 9) k ((g 9 k) + 1))) 10 (upd (g 10) k 0)) 11 (upd (g 11) k 0)) 15 (upd (g 15) k ((g 15 k) + 1))) 16 (fo16 (g 13) (g 16) k n)) n k) else (va_up (va_up (va_up (va_up g 8 (upd (g 8) k (if (g 8 k) = 0 then 1 else (g 8 k)))) 9 (upd (g 9) k ((g 9 k) + 1))) 10 (upd (g 10) k 0)) 11 (upd (g 11) k 0))) else (if ((g 9 k) + 1) < (g 3 k) then (va_up (va_up (va_up (va_up g 8 (upd (g 8) k (if (g 8 k) = 0 then 1 else (g 8 k)))) 9 (upd (g 9) k ((g 9 k) + 1))) 10 (upd (g 10) k 0)) 11 (upd (g 11) k 0)) else (if (heldF (g 1) (g 2) (upd (g 8) k (if (g 8 k) = 0 then 1 else (g 8 k))) k) = 0 then (fX3_freezes (va_up (va_up (va_up (va_up (va_up (va_up g 8 (upd (upd (g 8) k (if (g 8 k) = 0 then 1 else (g 8 k))) k 2)) 9 (upd (g 9) k ((g 9 k) + 1))) 10 (upd (g 10) k 0)) 11 (upd (g 11) k 0)) 15 (upd (g 15) k ((g 15 k) + 1))) 16 (fo16 (g 13) (g 16) k n)) n k) else (va_up (va_up (va_up (va_up g 8 (upd (g 8) k (if (g 8 k) = 0 then 1 else (g 8 k)))) 9 (upd (g 9) k ((g 9 k) + 1))) 10 (upd (g 10) k 0)) 11 (upd (g 11) k 0)))))
set_option maxHeartbeats 4000000 in
set_option maxRecDepth 100000 in
theorem tX3_wasBad (l : Launch) (D : va_G) (cI cZ cC : ClassId) (q : Nat → Nat) (o : Nat) (g : Nat → Nat → Int32) (n : Nat) (hn : g 0 0 = nI n) (hnb : n ≤ 16) (k : Nat) (hk : k < 16) (hfo : g 1 k = 2 → ∃ f, f < 16 ∧ g 2 k = nI f) : WrV l yX3_wasBad wsX3_wasBad (rmK 3) D cI cZ cC [.ref o, .int (nI k)] (mW cI cZ q o g) (mW cI cZ q o (fX3_wasBad g n k)) := by
  refine WrV.of (cc := cX3_wasBad) (maxL := 4) (by decide) rfl (Nat.le_of_ble_eq_true rfl) ?_
  intro p e s m args below meth c Q A ls hx hb hml hts hown hK hP hD hS hA hret hl
  have hl : lv_has ls 4 [(0, .ref o), (1, .int (nI k))] := hl
  have hinX3 : ∀ w ∈ u_ws RX3 TX3 33, w ∈ wsX3_wasBad := (fun w h => List.mem_cons_of_mem _ (List.mem_append_right _ h))
  refine lv_aload_n hx hb dX3_wasBad_0 rfl (lv_at hl 0 rfl) ?_
  refine va_get (D := D) (ci := 3) (v := .ref (q 10)) (C := RX3) (T := TX3) (N := 33) hx hb hts hinX3 hown hK hP 0 rfl rfl 10 (by decide) (hts (.fieldLink RX3 38 "TroubleCodesModel" "goods" "[I") (mem_at 1 rfl)) (fun _ h9 => h9) rfl dX3_wasBad_1 ?_
  refine lv_iload_n hx hb dX3_wasBad_4 rfl (lv_at hl 1 rfl) ?_
  refine lv_iconst (v := 0) hx hb dX3_wasBad_5 (by decide) ?_
  refine x_iast (k := k) (f := g 10) (x := 0) hx hb hK hP hD hS 10 rfl (by omega) (by decide) dX3_wasBad_6 (fun H locs hP hD hS => ?_)
  have hP : va_P D vwCl (mW cI cZ q o (va_up g 10 (upd (g 10) k 0))) H := hP
  have hD : va_D A (mW cI cZ q o (va_up g 10 (upd (g 10) k 0))) := hD
  refine lv_aload_n hx hb dX3_wasBad_7 rfl (lv_at hl 0 rfl) ?_
  refine va_get (D := D) (ci := 3) (v := .ref (q 11)) (C := RX3) (T := TX3) (N := 33) hx hb hts hinX3 hown hK hP 0 rfl rfl 11 (by decide) (hts (.fieldLink RX3 41 "TroubleCodesModel" "age" "[I") (mem_at 2 rfl)) (fun _ h9 => h9) rfl dX3_wasBad_8 ?_
  refine lv_iload_n hx hb dX3_wasBad_11 rfl (lv_at hl 1 rfl) ?_
  refine lv_iconst (v := 0) hx hb dX3_wasBad_12 (by decide) ?_
  refine x_iast (k := k) (f := g 11) (x := 0) hx hb hK hP hD hS 11 rfl (by omega) (by decide) dX3_wasBad_13 (fun H locs hP hD hS => ?_)
  have hP : va_P D vwCl (mW cI cZ q o (va_up (va_up g 10 (upd (g 10) k 0)) 11 (upd (g 11) k 0))) H := hP
  have hD : va_D A (mW cI cZ q o (va_up (va_up g 10 (upd (g 10) k 0)) 11 (upd (g 11) k 0))) := hD
  refine lv_aload_n hx hb dX3_wasBad_14 rfl (lv_at hl 0 rfl) ?_
  refine va_get (D := D) (ci := 3) (v := .ref (q 9)) (C := RX3) (T := TX3) (N := 33) hx hb hts hinX3 hown hK hP 0 rfl rfl 9 (by decide) (hts (.fieldLink RX3 35 "TroubleCodesModel" "bads" "[I") (mem_at 3 rfl)) (fun _ h9 => h9) rfl dX3_wasBad_15 ?_
  refine lv_iload_n hx hb dX3_wasBad_18 rfl (lv_at hl 1 rfl) ?_
  refine lv_dup2_11 hx hb dX3_wasBad_19 rfl rfl ?_
  refine x_iald (k := k) (f := g 9) hx hb hK hP 9 rfl (by omega) (by decide) dX3_wasBad_20 ?_
  refine lv_iconst (v := 1) hx hb dX3_wasBad_21 (by decide) ?_
  refine lv_iadd hx hb dX3_wasBad_22 ?_
  refine x_iast (k := k) (f := g 9) (x := (g 9 k) + 1) hx hb hK hP hD hS 9 rfl (by omega) (by decide) dX3_wasBad_23 (fun H locs hP hD hS => ?_)
  have hP : va_P D vwCl (mW cI cZ q o (va_up (va_up (va_up g 9 (upd (g 9) k ((g 9 k) + 1))) 10 (upd (g 10) k 0)) 11 (upd (g 11) k 0))) H := hP
  have hD : va_D A (mW cI cZ q o (va_up (va_up (va_up g 9 (upd (g 9) k ((g 9 k) + 1))) 10 (upd (g 10) k 0)) 11 (upd (g 11) k 0))) := hD
  refine lv_aload_n hx hb dX3_wasBad_24 rfl (lv_at hl 0 rfl) ?_
  refine va_get (D := D) (ci := 3) (v := .ref (q 8)) (C := RX3) (T := TX3) (N := 33) hx hb hts hinX3 hown hK hP 0 rfl rfl 8 (by decide) (hts (.fieldLink RX3 32 "TroubleCodesModel" "code" "[I") (mem_at 4 rfl)) (fun _ h9 => h9) rfl dX3_wasBad_25 ?_
  refine lv_iload_n hx hb dX3_wasBad_28 rfl (lv_at hl 1 rfl) ?_
  refine x_iald (k := k) (f := g 8) hx hb hK hP 8 rfl (by omega) (by decide) dX3_wasBad_29 ?_
  refine lv_iconst (v := 3) hx hb dX3_wasBad_30 (by decide) ?_
  have J39_0 : W p l e (rmK 3) s m args below meth c H locs 0 0 Q (F0 m 39 ls [.int (bI ((g 8 k) = 3))]) := by
    refine lv_istore_n (lv' := [(2, .int (bI ((g 8 k) = 3))), (0, .ref o), (1, .int (nI k))]) hx hb dX3_wasBad_39 rfl hl (by decide) rfl (fun ls hl => ?_)
    refine lv_aload_n hx hb dX3_wasBad_40 rfl (lv_at hl 1 rfl) ?_
    refine va_get (D := D) (ci := 3) (v := .ref (q 8)) (C := RX3) (T := TX3) (N := 33) hx hb hts hinX3 hown hK hP 0 rfl rfl 8 (by decide) (hts (.fieldLink RX3 32 "TroubleCodesModel" "code" "[I") (mem_at 4 rfl)) (fun _ h9 => h9) rfl dX3_wasBad_41 ?_
    refine lv_iload_n hx hb dX3_wasBad_44 rfl (lv_at hl 2 rfl) ?_
    refine lv_aload_n hx hb dX3_wasBad_45 rfl (lv_at hl 1 rfl) ?_
    refine va_get (D := D) (ci := 3) (v := .ref (q 8)) (C := RX3) (T := TX3) (N := 33) hx hb hts hinX3 hown hK hP 0 rfl rfl 8 (by decide) (hts (.fieldLink RX3 32 "TroubleCodesModel" "code" "[I") (mem_at 4 rfl)) (fun _ h9 => h9) rfl dX3_wasBad_46 ?_
    refine lv_iload_n hx hb dX3_wasBad_49 rfl (lv_at hl 2 rfl) ?_
    refine x_iald (k := k) (f := g 8) hx hb hK hP 8 rfl (by omega) (by decide) dX3_wasBad_50 ?_
    have J64_1 : W p l e (rmK 3) s m args below meth c H locs 0 0 Q (F0 m 64 ls [.int (if (g 8 k) = 0 then 1 else (g 8 k)), .int (nI k), .ref (q 8)]) := by
      refine x_iast (k := k) (f := g 8) (x := if (g 8 k) = 0 then 1 else (g 8 k)) hx hb hK hP hD hS 8 rfl (by omega) (by decide) dX3_wasBad_64 (fun H locs hP hD hS => ?_)
      have hP : va_P D vwCl (mW cI cZ q o (va_up (va_up (va_up (va_up g 8 (upd (g 8) k (if (g 8 k) = 0 then 1 else (g 8 k)))) 9 (upd (g 9) k ((g 9 k) + 1))) 10 (upd (g 10) k 0)) 11 (upd (g 11) k 0))) H := hP
      have hD : va_D A (mW cI cZ q o (va_up (va_up (va_up (va_up g 8 (upd (g 8) k (if (g 8 k) = 0 then 1 else (g 8 k)))) 9 (upd (g 9) k ((g 9 k) + 1))) 10 (upd (g 10) k 0)) 11 (upd (g 11) k 0))) := hD
      refine lv_aload_n hx hb dX3_wasBad_65 rfl (lv_at hl 1 rfl) ?_
      refine va_get (D := D) (ci := 3) (v := .ref (q 8)) (C := RX3) (T := TX3) (N := 33) hx hb hts hinX3 hown hK hP 0 rfl rfl 8 (by decide) (hts (.fieldLink RX3 32 "TroubleCodesModel" "code" "[I") (mem_at 4 rfl)) (fun _ h9 => h9) rfl dX3_wasBad_66 ?_
      refine lv_iload_n hx hb dX3_wasBad_69 rfl (lv_at hl 2 rfl) ?_
      refine x_iald (k := k) (f := upd (g 8) k (if (g 8 k) = 0 then 1 else (g 8 k))) hx hb hK hP 8 rfl (by omega) (by decide) dX3_wasBad_70 ?_
      rw [pk_us]
      refine lv_iconst (v := 2) hx hb dX3_wasBad_71 (by decide) ?_
      refine lv_icmp_eq (tgt := 179) hx hb dX3_wasBad_72 (by decide) (fun c_3 => ?_) (fun c_3 => ?_)
      · have es : fX3_wasBad g n k = va_up (va_up (va_up (va_up g 8 (upd (g 8) k (if (g 8 k) = 0 then 1 else (g 8 k)))) 9 (upd (g 9) k ((g 9 k) + 1))) 10 (upd (g 10) k 0)) 11 (upd (g 11) k 0) := by rw [fX3_wasBad]; rw [if_pos c_3]
        exact hret 179 _ _ _ (by rw [es]; exact hP) (by rw [es]; exact hD) hS dX3_wasBad_179
      · refine lv_iload_n hx hb dX3_wasBad_75 rfl (lv_at hl 0 rfl) ?_
        refine lv_if_ne (tgt := 94) hx hb dX3_wasBad_76 (by decide) (fun c_4 => ?_) (fun c_4 => ?_)
        · have c_4 := bI_ne c_4
          refine lv_aload_n hx hb dX3_wasBad_94 rfl (lv_at hl 1 rfl) ?_
          refine lv_iload_n hx hb dX3_wasBad_95 rfl (lv_at hl 2 rfl) ?_
          refine x_rdV (As := [.int (nI k)]) (rest := []) ⟨hx, hb, hml, hown, hts⟩ (tX3_isHeld l D cI cZ cC q o (va_up (va_up (va_up (va_up g 8 (upd (g 8) k (if (g 8 k) = 0 then 1 else (g 8 k)))) 9 (upd (g 9) k ((g 9 k) + 1))) 10 (upd (g 10) k 0)) 11 (upd (g 11) k 0)) k hk hfo) (cwV 1 hts gX3_wasBad_X3_isHeld rfl rfl rfl (by decide +kernel) ⟨Nat.le_of_ble_eq_true rfl, Nat.le_of_ble_eq_true rfl⟩) hK (x_recv (ci := 3) hK hP rfl (q0 := 0) rfl) hP rfl hl.1 rfl (Nat.le_of_ble_eq_true rfl) dX3_wasBad_96 ⟨Nat.le_of_ble_eq_true rfl, Nat.le_of_ble_eq_true rfl⟩ (fun r_5 er_5 => ?_)
          have er_5 : r_5 = heldF (g 1) (g 2) (upd (g 8) k (if (g 8 k) = 0 then 1 else (g 8 k))) k := er_5
          subst er_5
          refine lv_if_ne (tgt := 179) hx hb dX3_wasBad_99 (by decide) (fun c_6 => ?_) (fun c_6 => ?_)
          · have es : fX3_wasBad g n k = va_up (va_up (va_up (va_up g 8 (upd (g 8) k (if (g 8 k) = 0 then 1 else (g 8 k)))) 9 (upd (g 9) k ((g 9 k) + 1))) 10 (upd (g 10) k 0)) 11 (upd (g 11) k 0) := by rw [fX3_wasBad]; rw [if_neg c_3, if_pos c_4, if_neg c_6]
            exact hret 179 _ _ _ (by rw [es]; exact hP) (by rw [es]; exact hD) hS dX3_wasBad_179
          · refine lv_aload_n hx hb dX3_wasBad_102 rfl (lv_at hl 1 rfl) ?_
            refine va_get (D := D) (ci := 3) (v := .ref (q 8)) (C := RX3) (T := TX3) (N := 33) hx hb hts hinX3 hown hK hP 0 rfl rfl 8 (by decide) (hts (.fieldLink RX3 32 "TroubleCodesModel" "code" "[I") (mem_at 4 rfl)) (fun _ h9 => h9) rfl dX3_wasBad_103 ?_
            refine lv_iload_n hx hb dX3_wasBad_106 rfl (lv_at hl 2 rfl) ?_
            refine lv_iconst (v := 2) hx hb dX3_wasBad_107 (by decide) ?_
            refine x_iast (k := k) (f := upd (g 8) k (if (g 8 k) = 0 then 1 else (g 8 k))) (x := 2) hx hb hK hP hD hS 8 rfl (by omega) (by decide) dX3_wasBad_108 (fun H locs hP hD hS => ?_)
            have hP : va_P D vwCl (mW cI cZ q o (va_up (va_up (va_up (va_up g 8 (upd (upd (g 8) k (if (g 8 k) = 0 then 1 else (g 8 k))) k 2)) 9 (upd (g 9) k ((g 9 k) + 1))) 10 (upd (g 10) k 0)) 11 (upd (g 11) k 0))) H := hP
            have hD : va_D A (mW cI cZ q o (va_up (va_up (va_up (va_up g 8 (upd (upd (g 8) k (if (g 8 k) = 0 then 1 else (g 8 k))) k 2)) 9 (upd (g 9) k ((g 9 k) + 1))) 10 (upd (g 10) k 0)) 11 (upd (g 11) k 0))) := hD
            refine lv_aload_n hx hb dX3_wasBad_109 rfl (lv_at hl 1 rfl) ?_
            refine va_get (D := D) (ci := 3) (v := .ref (q 15)) (C := RX3) (T := TX3) (N := 33) hx hb hts hinX3 hown hK hP 0 rfl rfl 15 (by decide) (hts (.fieldLink RX3 53 "TroubleCodesModel" "sets" "[I") (mem_at 6 rfl)) (fun _ h9 => h9) rfl dX3_wasBad_110 ?_
            refine lv_iload_n hx hb dX3_wasBad_113 rfl (lv_at hl 2 rfl) ?_
            refine lv_dup2_11 hx hb dX3_wasBad_114 rfl rfl ?_
            refine x_iald (k := k) (f := g 15) hx hb hK hP 15 rfl (by omega) (by decide) dX3_wasBad_115 ?_
            refine lv_iconst (v := 1) hx hb dX3_wasBad_116 (by decide) ?_
            refine lv_iadd hx hb dX3_wasBad_117 ?_
            refine x_iast (k := k) (f := g 15) (x := (g 15 k) + 1) hx hb hK hP hD hS 15 rfl (by omega) (by decide) dX3_wasBad_118 (fun H locs hP hD hS => ?_)
            have hP : va_P D vwCl (mW cI cZ q o (va_up (va_up (va_up (va_up (va_up g 8 (upd (upd (g 8) k (if (g 8 k) = 0 then 1 else (g 8 k))) k 2)) 9 (upd (g 9) k ((g 9 k) + 1))) 10 (upd (g 10) k 0)) 11 (upd (g 11) k 0)) 15 (upd (g 15) k ((g 15 k) + 1)))) H := hP
            have hD : va_D A (mW cI cZ q o (va_up (va_up (va_up (va_up (va_up g 8 (upd (upd (g 8) k (if (g 8 k) = 0 then 1 else (g 8 k))) k 2)) 9 (upd (g 9) k ((g 9 k) + 1))) 10 (upd (g 10) k 0)) 11 (upd (g 11) k 0)) 15 (upd (g 15) k ((g 15 k) + 1)))) := hD
            refine lv_iconst (v := 0) hx hb dX3_wasBad_119 (by decide) ?_
            refine lv_istore_n (lv' := [(3, .int 0), (2, .int (bI ((g 8 k) = 3))), (0, .ref o), (1, .int (nI k))]) hx hb dX3_wasBad_120 rfl hl (by decide) rfl (fun ls hl => ?_)
            have LOOP_7 : ∀ (fu i : Nat), i ≤ n → n - i < fu → ∀ (H : Heap) (locs : List Loc) (ls : Array Slot), va_P D vwCl (mW cI cZ q o (va_up (va_up (va_up (va_up (va_up (va_up g 8 (upd (upd (g 8) k (if (g 8 k) = 0 then 1 else (g 8 k))) k 2)) 9 (upd (g 9) k ((g 9 k) + 1))) 10 (upd (g 10) k 0)) 11 (upd (g 11) k 0)) 15 (upd (g 15) k ((g 15 k) + 1))) 16 (fo16 (g 13) (g 16) k i))) H → va_D A (mW cI cZ q o (va_up (va_up (va_up (va_up (va_up (va_up g 8 (upd (upd (g 8) k (if (g 8 k) = 0 then 1 else (g 8 k))) k 2)) 9 (upd (g 9) k ((g 9 k) + 1))) 10 (upd (g 10) k 0)) 11 (upd (g 11) k 0)) 15 (upd (g 15) k ((g 15 k) + 1))) 16 (fo16 (g 13) (g 16) k i))) → va_S A s.heap H locs → lv_has ls 4 [(0, .ref o), (1, .int (nI k)), (3, .int (nI i))] → W p l e (rmK 3) s m args below meth c H locs 0 0 Q (F0 m 121 ls []) := by
              intro fu
              induction fu with
              | zero => intro i h1 h2; exact absurd h2 (Nat.not_lt_zero _)
              | succ fu ih =>
                intro i hkn hfu  H locs ls hP hD hS hl
                refine lv_iload_n hx hb dX3_wasBad_121 rfl (lv_at hl 2 rfl) ?_
                refine lv_aload_n hx hb dX3_wasBad_122 rfl (lv_at hl 0 rfl) ?_
                refine va_get (D := D) (ci := 3) (v := .int (g 0 0)) (C := RX3) (T := TX3) (N := 33) hx hb hts hinX3 hown hK hP 0 rfl rfl 0 (by decide) (hts (.fieldLink RX3 93 "TroubleCodesModel" "checks" "I") (mem_at 7 rfl)) (fun _ h9 => h9) rfl dX3_wasBad_123 ?_
                refine lv_icmp_ge (tgt := 174) hx hb dX3_wasBad_126 (by decide) (fun c_8 => ?_) (fun c_8 => ?_)
                · have ekn : n = i := Nat.le_antisymm (kx_ge hn (by omega) (by omega) c_8) hkn
                  subst ekn
                  refine lv_aload_n hx hb dX3_wasBad_174 rfl (lv_at hl 0 rfl) ?_
                  refine lv_iload_n hx hb dX3_wasBad_175 rfl (lv_at hl 1 rfl) ?_
                  refine x_wvW (As := [.int (nI k)]) (rest := []) ⟨hx, hb, hml, hown, hts⟩ (tX3_freezes l D cI cZ cC q o (va_up (va_up (va_up (va_up (va_up (va_up g 8 (upd (upd (g 8) k (if (g 8 k) = 0 then 1 else (g 8 k))) k 2)) 9 (upd (g 9) k ((g 9 k) + 1))) 10 (upd (g 10) k 0)) 11 (upd (g 11) k 0)) 15 (upd (g 15) k ((g 15 k) + 1))) 16 (fo16 (g 13) (g 16) k n)) n hn hnb k hk) (cwV 1 hts gX3_wasBad_X3_freezes rfl rfl rfl (by decide +kernel) ⟨Nat.le_of_ble_eq_true rfl, Nat.le_of_ble_eq_true rfl⟩) hK (x_recv (ci := 3) hK hP rfl (q0 := 0) rfl) hP hD hS hA rfl hl.1 rfl (Nat.le_of_ble_eq_true rfl) dX3_wasBad_176 ⟨Nat.le_of_ble_eq_true rfl, Nat.le_of_ble_eq_true rfl⟩ (fun H locs hP hD hS => ?_)
                  have es : fX3_wasBad g n k = (fX3_freezes (va_up (va_up (va_up (va_up (va_up (va_up g 8 (upd (upd (g 8) k (if (g 8 k) = 0 then 1 else (g 8 k))) k 2)) 9 (upd (g 9) k ((g 9 k) + 1))) 10 (upd (g 10) k 0)) 11 (upd (g 11) k 0)) 15 (upd (g 15) k ((g 15 k) + 1))) 16 (fo16 (g 13) (g 16) k n)) n k) := by rw [fX3_wasBad]; rw [if_neg c_3, if_pos c_4, if_pos c_6]
                  exact hret 179 _ _ _ (by rw [es]; exact hP) (by rw [es]; exact hD) hS dX3_wasBad_179
                · have hil : i < n := kx_lt hn (by omega) (by omega) c_8
                  refine lv_aload_n hx hb dX3_wasBad_129 rfl (lv_at hl 0 rfl) ?_
                  refine va_get (D := D) (ci := 3) (v := .ref (q 16)) (C := RX3) (T := TX3) (N := 33) hx hb hts hinX3 hown hK hP 0 rfl rfl 16 (by decide) (hts (.fieldLink RX3 56 "TroubleCodesModel" "foretold" "[I") (mem_at 8 rfl)) (fun _ h9 => h9) rfl dX3_wasBad_130 ?_
                  refine lv_bipush (v := 16) hx hb dX3_wasBad_133 (by decide) ?_
                  refine lv_iload_n hx hb dX3_wasBad_135 rfl (lv_at hl 2 rfl) ?_
                  refine lv_imul hx hb dX3_wasBad_136 ?_
                  refine lv_iload_n hx hb dX3_wasBad_137 rfl (lv_at hl 1 rfl) ?_
                  refine lv_iadd hx hb dX3_wasBad_138 ?_
                  rw [ix16]
                  refine lv_dup2_11 hx hb dX3_wasBad_139 rfl rfl ?_
                  refine x_iald (k := (16 * i + k)) (f := fo16 (g 13) (g 16) k i) hx hb hK hP 16 rfl (by omega) (by decide) dX3_wasBad_140 ?_
                  rw [fo16_k hk]
                  refine lv_aload_n hx hb dX3_wasBad_141 rfl (lv_at hl 0 rfl) ?_
                  refine va_get (D := D) (ci := 3) (v := .ref (q 13)) (C := RX3) (T := TX3) (N := 33) hx hb hts hinX3 hown hK hP 0 rfl rfl 13 (by decide) (hts (.fieldLink RX3 47 "TroubleCodesModel" "begun" "[I") (mem_at 9 rfl)) (fun _ h9 => h9) rfl dX3_wasBad_142 ?_
                  refine lv_iload_n hx hb dX3_wasBad_145 rfl (lv_at hl 2 rfl) ?_
                  refine x_iald (k := i) (f := g 13) hx hb hK hP 13 rfl (by omega) (by decide) dX3_wasBad_146 ?_
                  refine lv_iconst (v := 1) hx hb dX3_wasBad_147 (by decide) ?_
                  refine lv_icmp_eq (tgt := 161) hx hb dX3_wasBad_148 (by decide) (fun c_9 => ?_) (fun c_9 => ?_)
                  · refine lv_iconst (v := 1) hx hb dX3_wasBad_161 (by decide) ?_
                    refine lv_goto (tgt := 166) hx hb dX3_wasBad_162 (by decide) ?_
                    refine lv_iadd hx hb dX3_wasBad_166 ?_
                    refine x_iast (k := (16 * i + k)) (f := fo16 (g 13) (g 16) k i) (x := (g 16 (16 * i + k)) + 1) hx hb hK hP hD hS 16 rfl (by omega) (by decide) dX3_wasBad_167 (fun H locs hP hD hS => ?_)
                    have hP : va_P D vwCl (mW cI cZ q o (va_up (va_up (va_up (va_up (va_up (va_up g 8 (upd (upd (g 8) k (if (g 8 k) = 0 then 1 else (g 8 k))) k 2)) 9 (upd (g 9) k ((g 9 k) + 1))) 10 (upd (g 10) k 0)) 11 (upd (g 11) k 0)) 15 (upd (g 15) k ((g 15 k) + 1))) 16 (upd (fo16 (g 13) (g 16) k i) (16 * i + k) ((g 16 (16 * i + k)) + 1)))) H := hP
                    have hD : va_D A (mW cI cZ q o (va_up (va_up (va_up (va_up (va_up (va_up g 8 (upd (upd (g 8) k (if (g 8 k) = 0 then 1 else (g 8 k))) k 2)) 9 (upd (g 9) k ((g 9 k) + 1))) 10 (upd (g 10) k 0)) 11 (upd (g 11) k 0)) 15 (upd (g 15) k ((g 15 k) + 1))) 16 (upd (fo16 (g 13) (g 16) k i) (16 * i + k) ((g 16 (16 * i + k)) + 1)))) := hD
                    refine lv_iinc (v := nI (i + 1)) (lv' := [(3, .int (nI (i + 1))), (0, .ref o), (1, .int (nI k))]) hx hb dX3_wasBad_168 hl (k := 2) rfl (nI_1 _) (by decide) rfl (fun ls hl => ?_)
                    refine lv_goto (tgt := 121) hx hb dX3_wasBad_171 (by decide) ?_
                    have q_10 : va_up (va_up (va_up (va_up (va_up (va_up g 8 (upd (upd (g 8) k (if (g 8 k) = 0 then 1 else (g 8 k))) k 2)) 9 (upd (g 9) k ((g 9 k) + 1))) 10 (upd (g 10) k 0)) 11 (upd (g 11) k 0)) 15 (upd (g 15) k ((g 15 k) + 1))) 16 (fo16 (g 13) (g 16) k (i + 1)) = va_up (va_up (va_up (va_up (va_up (va_up g 8 (upd (upd (g 8) k (if (g 8 k) = 0 then 1 else (g 8 k))) k 2)) 9 (upd (g 9) k ((g 9 k) + 1))) 10 (upd (g 10) k 0)) 11 (upd (g 11) k 0)) 15 (upd (g 15) k ((g 15 k) + 1))) 16 (upd (fo16 (g 13) (g 16) k i) (16 * i + k) ((g 16 (16 * i + k)) + 1)) := by rw [fo16_s hk, if_pos c_9]
                    exact ih (i + 1) (by omega) (by omega) H locs ls (by rw [q_10]; exact hP) (by rw [q_10]; exact hD) hS (by exact lv_sub hl [1, 2, 0] rfl)
                  · refine lv_aload_n hx hb dX3_wasBad_151 rfl (lv_at hl 0 rfl) ?_
                    refine va_get (D := D) (ci := 3) (v := .ref (q 13)) (C := RX3) (T := TX3) (N := 33) hx hb hts hinX3 hown hK hP 0 rfl rfl 13 (by decide) (hts (.fieldLink RX3 47 "TroubleCodesModel" "begun" "[I") (mem_at 9 rfl)) (fun _ h9 => h9) rfl dX3_wasBad_152 ?_
                    refine lv_iload_n hx hb dX3_wasBad_155 rfl (lv_at hl 2 rfl) ?_
                    refine x_iald (k := i) (f := g 13) hx hb hK hP 13 rfl (by omega) (by decide) dX3_wasBad_156 ?_
                    refine lv_iconst (v := 2) hx hb dX3_wasBad_157 (by decide) ?_
                    refine lv_icmp_ne (tgt := 165) hx hb dX3_wasBad_158 (by decide) (fun c_11 => ?_) (fun c_11 => ?_)
                    · refine lv_iconst (v := 0) hx hb dX3_wasBad_165 (by decide) ?_
                      refine lv_iadd hx hb dX3_wasBad_166 ?_
                      refine x_iast (k := (16 * i + k)) (f := fo16 (g 13) (g 16) k i) (x := (g 16 (16 * i + k)) + 0) hx hb hK hP hD hS 16 rfl (by omega) (by decide) dX3_wasBad_167 (fun H locs hP hD hS => ?_)
                      have hP : va_P D vwCl (mW cI cZ q o (va_up (va_up (va_up (va_up (va_up (va_up g 8 (upd (upd (g 8) k (if (g 8 k) = 0 then 1 else (g 8 k))) k 2)) 9 (upd (g 9) k ((g 9 k) + 1))) 10 (upd (g 10) k 0)) 11 (upd (g 11) k 0)) 15 (upd (g 15) k ((g 15 k) + 1))) 16 (upd (fo16 (g 13) (g 16) k i) (16 * i + k) ((g 16 (16 * i + k)) + 0)))) H := hP
                      have hD : va_D A (mW cI cZ q o (va_up (va_up (va_up (va_up (va_up (va_up g 8 (upd (upd (g 8) k (if (g 8 k) = 0 then 1 else (g 8 k))) k 2)) 9 (upd (g 9) k ((g 9 k) + 1))) 10 (upd (g 10) k 0)) 11 (upd (g 11) k 0)) 15 (upd (g 15) k ((g 15 k) + 1))) 16 (upd (fo16 (g 13) (g 16) k i) (16 * i + k) ((g 16 (16 * i + k)) + 0)))) := hD
                      refine lv_iinc (v := nI (i + 1)) (lv' := [(3, .int (nI (i + 1))), (0, .ref o), (1, .int (nI k))]) hx hb dX3_wasBad_168 hl (k := 2) rfl (nI_1 _) (by decide) rfl (fun ls hl => ?_)
                      refine lv_goto (tgt := 121) hx hb dX3_wasBad_171 (by decide) ?_
                      have q_12 : va_up (va_up (va_up (va_up (va_up (va_up g 8 (upd (upd (g 8) k (if (g 8 k) = 0 then 1 else (g 8 k))) k 2)) 9 (upd (g 9) k ((g 9 k) + 1))) 10 (upd (g 10) k 0)) 11 (upd (g 11) k 0)) 15 (upd (g 15) k ((g 15 k) + 1))) 16 (fo16 (g 13) (g 16) k (i + 1)) = va_up (va_up (va_up (va_up (va_up (va_up g 8 (upd (upd (g 8) k (if (g 8 k) = 0 then 1 else (g 8 k))) k 2)) 9 (upd (g 9) k ((g 9 k) + 1))) 10 (upd (g 10) k 0)) 11 (upd (g 11) k 0)) 15 (upd (g 15) k ((g 15 k) + 1))) 16 (upd (fo16 (g 13) (g 16) k i) (16 * i + k) ((g 16 (16 * i + k)) + 0)) := by rw [fo16_s hk, if_neg c_9, if_neg c_11]
                      exact ih (i + 1) (by omega) (by omega) H locs ls (by rw [q_12]; exact hP) (by rw [q_12]; exact hD) hS (by exact lv_sub hl [1, 2, 0] rfl)
                    · refine lv_iconst (v := 1) hx hb dX3_wasBad_161 (by decide) ?_
                      refine lv_goto (tgt := 166) hx hb dX3_wasBad_162 (by decide) ?_
                      refine lv_iadd hx hb dX3_wasBad_166 ?_
                      refine x_iast (k := (16 * i + k)) (f := fo16 (g 13) (g 16) k i) (x := (g 16 (16 * i + k)) + 1) hx hb hK hP hD hS 16 rfl (by omega) (by decide) dX3_wasBad_167 (fun H locs hP hD hS => ?_)
                      have hP : va_P D vwCl (mW cI cZ q o (va_up (va_up (va_up (va_up (va_up (va_up g 8 (upd (upd (g 8) k (if (g 8 k) = 0 then 1 else (g 8 k))) k 2)) 9 (upd (g 9) k ((g 9 k) + 1))) 10 (upd (g 10) k 0)) 11 (upd (g 11) k 0)) 15 (upd (g 15) k ((g 15 k) + 1))) 16 (upd (fo16 (g 13) (g 16) k i) (16 * i + k) ((g 16 (16 * i + k)) + 1)))) H := hP
                      have hD : va_D A (mW cI cZ q o (va_up (va_up (va_up (va_up (va_up (va_up g 8 (upd (upd (g 8) k (if (g 8 k) = 0 then 1 else (g 8 k))) k 2)) 9 (upd (g 9) k ((g 9 k) + 1))) 10 (upd (g 10) k 0)) 11 (upd (g 11) k 0)) 15 (upd (g 15) k ((g 15 k) + 1))) 16 (upd (fo16 (g 13) (g 16) k i) (16 * i + k) ((g 16 (16 * i + k)) + 1)))) := hD
                      refine lv_iinc (v := nI (i + 1)) (lv' := [(3, .int (nI (i + 1))), (0, .ref o), (1, .int (nI k))]) hx hb dX3_wasBad_168 hl (k := 2) rfl (nI_1 _) (by decide) rfl (fun ls hl => ?_)
                      refine lv_goto (tgt := 121) hx hb dX3_wasBad_171 (by decide) ?_
                      have q_13 : va_up (va_up (va_up (va_up (va_up (va_up g 8 (upd (upd (g 8) k (if (g 8 k) = 0 then 1 else (g 8 k))) k 2)) 9 (upd (g 9) k ((g 9 k) + 1))) 10 (upd (g 10) k 0)) 11 (upd (g 11) k 0)) 15 (upd (g 15) k ((g 15 k) + 1))) 16 (fo16 (g 13) (g 16) k (i + 1)) = va_up (va_up (va_up (va_up (va_up (va_up g 8 (upd (upd (g 8) k (if (g 8 k) = 0 then 1 else (g 8 k))) k 2)) 9 (upd (g 9) k ((g 9 k) + 1))) 10 (upd (g 10) k 0)) 11 (upd (g 11) k 0)) 15 (upd (g 15) k ((g 15 k) + 1))) 16 (upd (fo16 (g 13) (g 16) k i) (16 * i + k) ((g 16 (16 * i + k)) + 1)) := by rw [fo16_s hk, if_neg c_9, if_pos c_11]
                      exact ih (i + 1) (by omega) (by omega) H locs ls (by rw [q_13]; exact hP) (by rw [q_13]; exact hD) hS (by exact lv_sub hl [1, 2, 0] rfl)
            have q_14 : (nI 0 : Int32) = 0 := by rfl
            exact LOOP_7 (n - 0 + 1) 0 (Nat.zero_le _) (Nat.lt_succ_self _) _ _ ls (by rw [fo16_0]; exact hP) (by rw [fo16_0]; exact hD) hS (by rw [q_14]; exact lv_sub hl [2, 3, 0] rfl)
        · have c_4 := bI_eq c_4
          refine lv_aload_n hx hb dX3_wasBad_79 rfl (lv_at hl 1 rfl) ?_
          refine va_get (D := D) (ci := 3) (v := .ref (q 9)) (C := RX3) (T := TX3) (N := 33) hx hb hts hinX3 hown hK hP 0 rfl rfl 9 (by decide) (hts (.fieldLink RX3 35 "TroubleCodesModel" "bads" "[I") (mem_at 3 rfl)) (fun _ h9 => h9) rfl dX3_wasBad_80 ?_
          refine lv_iload_n hx hb dX3_wasBad_83 rfl (lv_at hl 2 rfl) ?_
          refine x_iald (k := k) (f := upd (g 9) k ((g 9 k) + 1)) hx hb hK hP 9 rfl (by omega) (by decide) dX3_wasBad_84 ?_
          rw [pk_us]
          refine lv_aload_n hx hb dX3_wasBad_85 rfl (lv_at hl 1 rfl) ?_
          refine va_get (D := D) (ci := 3) (v := .ref (q 3)) (C := RX3) (T := TX3) (N := 33) hx hb hts hinX3 hown hK hP 0 rfl rfl 3 (by decide) (hts (.fieldLink RX3 16 "TroubleCodesModel" "badAt" "[I") (mem_at 5 rfl)) (fun _ h9 => h9) rfl dX3_wasBad_86 ?_
          refine lv_iload_n hx hb dX3_wasBad_89 rfl (lv_at hl 2 rfl) ?_
          refine x_iald (k := k) (f := g 3) hx hb hK hP 3 rfl (by omega) (by decide) dX3_wasBad_90 ?_
          refine lv_icmp_lt (tgt := 179) hx hb dX3_wasBad_91 (by decide) (fun c_15 => ?_) (fun c_15 => ?_)
          · have es : fX3_wasBad g n k = va_up (va_up (va_up (va_up g 8 (upd (g 8) k (if (g 8 k) = 0 then 1 else (g 8 k)))) 9 (upd (g 9) k ((g 9 k) + 1))) 10 (upd (g 10) k 0)) 11 (upd (g 11) k 0) := by rw [fX3_wasBad]; rw [if_neg c_3, if_neg c_4, if_pos c_15]
            exact hret 179 _ _ _ (by rw [es]; exact hP) (by rw [es]; exact hD) hS dX3_wasBad_179
          · refine lv_aload_n hx hb dX3_wasBad_94 rfl (lv_at hl 1 rfl) ?_
            refine lv_iload_n hx hb dX3_wasBad_95 rfl (lv_at hl 2 rfl) ?_
            refine x_rdV (As := [.int (nI k)]) (rest := []) ⟨hx, hb, hml, hown, hts⟩ (tX3_isHeld l D cI cZ cC q o (va_up (va_up (va_up (va_up g 8 (upd (g 8) k (if (g 8 k) = 0 then 1 else (g 8 k)))) 9 (upd (g 9) k ((g 9 k) + 1))) 10 (upd (g 10) k 0)) 11 (upd (g 11) k 0)) k hk hfo) (cwV 1 hts gX3_wasBad_X3_isHeld rfl rfl rfl (by decide +kernel) ⟨Nat.le_of_ble_eq_true rfl, Nat.le_of_ble_eq_true rfl⟩) hK (x_recv (ci := 3) hK hP rfl (q0 := 0) rfl) hP rfl hl.1 rfl (Nat.le_of_ble_eq_true rfl) dX3_wasBad_96 ⟨Nat.le_of_ble_eq_true rfl, Nat.le_of_ble_eq_true rfl⟩ (fun r_16 er_16 => ?_)
            have er_16 : r_16 = heldF (g 1) (g 2) (upd (g 8) k (if (g 8 k) = 0 then 1 else (g 8 k))) k := er_16
            subst er_16
            refine lv_if_ne (tgt := 179) hx hb dX3_wasBad_99 (by decide) (fun c_17 => ?_) (fun c_17 => ?_)
            · have es : fX3_wasBad g n k = va_up (va_up (va_up (va_up g 8 (upd (g 8) k (if (g 8 k) = 0 then 1 else (g 8 k)))) 9 (upd (g 9) k ((g 9 k) + 1))) 10 (upd (g 10) k 0)) 11 (upd (g 11) k 0) := by rw [fX3_wasBad]; rw [if_neg c_3, if_neg c_4, if_neg c_15, if_neg c_17]
              exact hret 179 _ _ _ (by rw [es]; exact hP) (by rw [es]; exact hD) hS dX3_wasBad_179
            · refine lv_aload_n hx hb dX3_wasBad_102 rfl (lv_at hl 1 rfl) ?_
              refine va_get (D := D) (ci := 3) (v := .ref (q 8)) (C := RX3) (T := TX3) (N := 33) hx hb hts hinX3 hown hK hP 0 rfl rfl 8 (by decide) (hts (.fieldLink RX3 32 "TroubleCodesModel" "code" "[I") (mem_at 4 rfl)) (fun _ h9 => h9) rfl dX3_wasBad_103 ?_
              refine lv_iload_n hx hb dX3_wasBad_106 rfl (lv_at hl 2 rfl) ?_
              refine lv_iconst (v := 2) hx hb dX3_wasBad_107 (by decide) ?_
              refine x_iast (k := k) (f := upd (g 8) k (if (g 8 k) = 0 then 1 else (g 8 k))) (x := 2) hx hb hK hP hD hS 8 rfl (by omega) (by decide) dX3_wasBad_108 (fun H locs hP hD hS => ?_)
              have hP : va_P D vwCl (mW cI cZ q o (va_up (va_up (va_up (va_up g 8 (upd (upd (g 8) k (if (g 8 k) = 0 then 1 else (g 8 k))) k 2)) 9 (upd (g 9) k ((g 9 k) + 1))) 10 (upd (g 10) k 0)) 11 (upd (g 11) k 0))) H := hP
              have hD : va_D A (mW cI cZ q o (va_up (va_up (va_up (va_up g 8 (upd (upd (g 8) k (if (g 8 k) = 0 then 1 else (g 8 k))) k 2)) 9 (upd (g 9) k ((g 9 k) + 1))) 10 (upd (g 10) k 0)) 11 (upd (g 11) k 0))) := hD
              refine lv_aload_n hx hb dX3_wasBad_109 rfl (lv_at hl 1 rfl) ?_
              refine va_get (D := D) (ci := 3) (v := .ref (q 15)) (C := RX3) (T := TX3) (N := 33) hx hb hts hinX3 hown hK hP 0 rfl rfl 15 (by decide) (hts (.fieldLink RX3 53 "TroubleCodesModel" "sets" "[I") (mem_at 6 rfl)) (fun _ h9 => h9) rfl dX3_wasBad_110 ?_
              refine lv_iload_n hx hb dX3_wasBad_113 rfl (lv_at hl 2 rfl) ?_
              refine lv_dup2_11 hx hb dX3_wasBad_114 rfl rfl ?_
              refine x_iald (k := k) (f := g 15) hx hb hK hP 15 rfl (by omega) (by decide) dX3_wasBad_115 ?_
              refine lv_iconst (v := 1) hx hb dX3_wasBad_116 (by decide) ?_
              refine lv_iadd hx hb dX3_wasBad_117 ?_
              refine x_iast (k := k) (f := g 15) (x := (g 15 k) + 1) hx hb hK hP hD hS 15 rfl (by omega) (by decide) dX3_wasBad_118 (fun H locs hP hD hS => ?_)
              have hP : va_P D vwCl (mW cI cZ q o (va_up (va_up (va_up (va_up (va_up g 8 (upd (upd (g 8) k (if (g 8 k) = 0 then 1 else (g 8 k))) k 2)) 9 (upd (g 9) k ((g 9 k) + 1))) 10 (upd (g 10) k 0)) 11 (upd (g 11) k 0)) 15 (upd (g 15) k ((g 15 k) + 1)))) H := hP
              have hD : va_D A (mW cI cZ q o (va_up (va_up (va_up (va_up (va_up g 8 (upd (upd (g 8) k (if (g 8 k) = 0 then 1 else (g 8 k))) k 2)) 9 (upd (g 9) k ((g 9 k) + 1))) 10 (upd (g 10) k 0)) 11 (upd (g 11) k 0)) 15 (upd (g 15) k ((g 15 k) + 1)))) := hD
              refine lv_iconst (v := 0) hx hb dX3_wasBad_119 (by decide) ?_
              refine lv_istore_n (lv' := [(3, .int 0), (2, .int (bI ((g 8 k) = 3))), (0, .ref o), (1, .int (nI k))]) hx hb dX3_wasBad_120 rfl hl (by decide) rfl (fun ls hl => ?_)
              have LOOP_18 : ∀ (fu i : Nat), i ≤ n → n - i < fu → ∀ (H : Heap) (locs : List Loc) (ls : Array Slot), va_P D vwCl (mW cI cZ q o (va_up (va_up (va_up (va_up (va_up (va_up g 8 (upd (upd (g 8) k (if (g 8 k) = 0 then 1 else (g 8 k))) k 2)) 9 (upd (g 9) k ((g 9 k) + 1))) 10 (upd (g 10) k 0)) 11 (upd (g 11) k 0)) 15 (upd (g 15) k ((g 15 k) + 1))) 16 (fo16 (g 13) (g 16) k i))) H → va_D A (mW cI cZ q o (va_up (va_up (va_up (va_up (va_up (va_up g 8 (upd (upd (g 8) k (if (g 8 k) = 0 then 1 else (g 8 k))) k 2)) 9 (upd (g 9) k ((g 9 k) + 1))) 10 (upd (g 10) k 0)) 11 (upd (g 11) k 0)) 15 (upd (g 15) k ((g 15 k) + 1))) 16 (fo16 (g 13) (g 16) k i))) → va_S A s.heap H locs → lv_has ls 4 [(0, .ref o), (1, .int (nI k)), (3, .int (nI i))] → W p l e (rmK 3) s m args below meth c H locs 0 0 Q (F0 m 121 ls []) := by
                intro fu
                induction fu with
                | zero => intro i h1 h2; exact absurd h2 (Nat.not_lt_zero _)
                | succ fu ih =>
                  intro i hkn hfu  H locs ls hP hD hS hl
                  refine lv_iload_n hx hb dX3_wasBad_121 rfl (lv_at hl 2 rfl) ?_
                  refine lv_aload_n hx hb dX3_wasBad_122 rfl (lv_at hl 0 rfl) ?_
                  refine va_get (D := D) (ci := 3) (v := .int (g 0 0)) (C := RX3) (T := TX3) (N := 33) hx hb hts hinX3 hown hK hP 0 rfl rfl 0 (by decide) (hts (.fieldLink RX3 93 "TroubleCodesModel" "checks" "I") (mem_at 7 rfl)) (fun _ h9 => h9) rfl dX3_wasBad_123 ?_
                  refine lv_icmp_ge (tgt := 174) hx hb dX3_wasBad_126 (by decide) (fun c_19 => ?_) (fun c_19 => ?_)
                  · have ekn : n = i := Nat.le_antisymm (kx_ge hn (by omega) (by omega) c_19) hkn
                    subst ekn
                    refine lv_aload_n hx hb dX3_wasBad_174 rfl (lv_at hl 0 rfl) ?_
                    refine lv_iload_n hx hb dX3_wasBad_175 rfl (lv_at hl 1 rfl) ?_
                    refine x_wvW (As := [.int (nI k)]) (rest := []) ⟨hx, hb, hml, hown, hts⟩ (tX3_freezes l D cI cZ cC q o (va_up (va_up (va_up (va_up (va_up (va_up g 8 (upd (upd (g 8) k (if (g 8 k) = 0 then 1 else (g 8 k))) k 2)) 9 (upd (g 9) k ((g 9 k) + 1))) 10 (upd (g 10) k 0)) 11 (upd (g 11) k 0)) 15 (upd (g 15) k ((g 15 k) + 1))) 16 (fo16 (g 13) (g 16) k n)) n hn hnb k hk) (cwV 1 hts gX3_wasBad_X3_freezes rfl rfl rfl (by decide +kernel) ⟨Nat.le_of_ble_eq_true rfl, Nat.le_of_ble_eq_true rfl⟩) hK (x_recv (ci := 3) hK hP rfl (q0 := 0) rfl) hP hD hS hA rfl hl.1 rfl (Nat.le_of_ble_eq_true rfl) dX3_wasBad_176 ⟨Nat.le_of_ble_eq_true rfl, Nat.le_of_ble_eq_true rfl⟩ (fun H locs hP hD hS => ?_)
                    have es : fX3_wasBad g n k = (fX3_freezes (va_up (va_up (va_up (va_up (va_up (va_up g 8 (upd (upd (g 8) k (if (g 8 k) = 0 then 1 else (g 8 k))) k 2)) 9 (upd (g 9) k ((g 9 k) + 1))) 10 (upd (g 10) k 0)) 11 (upd (g 11) k 0)) 15 (upd (g 15) k ((g 15 k) + 1))) 16 (fo16 (g 13) (g 16) k n)) n k) := by rw [fX3_wasBad]; rw [if_neg c_3, if_neg c_4, if_neg c_15, if_pos c_17]
                    exact hret 179 _ _ _ (by rw [es]; exact hP) (by rw [es]; exact hD) hS dX3_wasBad_179
                  · have hil : i < n := kx_lt hn (by omega) (by omega) c_19
                    refine lv_aload_n hx hb dX3_wasBad_129 rfl (lv_at hl 0 rfl) ?_
                    refine va_get (D := D) (ci := 3) (v := .ref (q 16)) (C := RX3) (T := TX3) (N := 33) hx hb hts hinX3 hown hK hP 0 rfl rfl 16 (by decide) (hts (.fieldLink RX3 56 "TroubleCodesModel" "foretold" "[I") (mem_at 8 rfl)) (fun _ h9 => h9) rfl dX3_wasBad_130 ?_
                    refine lv_bipush (v := 16) hx hb dX3_wasBad_133 (by decide) ?_
                    refine lv_iload_n hx hb dX3_wasBad_135 rfl (lv_at hl 2 rfl) ?_
                    refine lv_imul hx hb dX3_wasBad_136 ?_
                    refine lv_iload_n hx hb dX3_wasBad_137 rfl (lv_at hl 1 rfl) ?_
                    refine lv_iadd hx hb dX3_wasBad_138 ?_
                    rw [ix16]
                    refine lv_dup2_11 hx hb dX3_wasBad_139 rfl rfl ?_
                    refine x_iald (k := (16 * i + k)) (f := fo16 (g 13) (g 16) k i) hx hb hK hP 16 rfl (by omega) (by decide) dX3_wasBad_140 ?_
                    rw [fo16_k hk]
                    refine lv_aload_n hx hb dX3_wasBad_141 rfl (lv_at hl 0 rfl) ?_
                    refine va_get (D := D) (ci := 3) (v := .ref (q 13)) (C := RX3) (T := TX3) (N := 33) hx hb hts hinX3 hown hK hP 0 rfl rfl 13 (by decide) (hts (.fieldLink RX3 47 "TroubleCodesModel" "begun" "[I") (mem_at 9 rfl)) (fun _ h9 => h9) rfl dX3_wasBad_142 ?_
                    refine lv_iload_n hx hb dX3_wasBad_145 rfl (lv_at hl 2 rfl) ?_
                    refine x_iald (k := i) (f := g 13) hx hb hK hP 13 rfl (by omega) (by decide) dX3_wasBad_146 ?_
                    refine lv_iconst (v := 1) hx hb dX3_wasBad_147 (by decide) ?_
                    refine lv_icmp_eq (tgt := 161) hx hb dX3_wasBad_148 (by decide) (fun c_20 => ?_) (fun c_20 => ?_)
                    · refine lv_iconst (v := 1) hx hb dX3_wasBad_161 (by decide) ?_
                      refine lv_goto (tgt := 166) hx hb dX3_wasBad_162 (by decide) ?_
                      refine lv_iadd hx hb dX3_wasBad_166 ?_
                      refine x_iast (k := (16 * i + k)) (f := fo16 (g 13) (g 16) k i) (x := (g 16 (16 * i + k)) + 1) hx hb hK hP hD hS 16 rfl (by omega) (by decide) dX3_wasBad_167 (fun H locs hP hD hS => ?_)
                      have hP : va_P D vwCl (mW cI cZ q o (va_up (va_up (va_up (va_up (va_up (va_up g 8 (upd (upd (g 8) k (if (g 8 k) = 0 then 1 else (g 8 k))) k 2)) 9 (upd (g 9) k ((g 9 k) + 1))) 10 (upd (g 10) k 0)) 11 (upd (g 11) k 0)) 15 (upd (g 15) k ((g 15 k) + 1))) 16 (upd (fo16 (g 13) (g 16) k i) (16 * i + k) ((g 16 (16 * i + k)) + 1)))) H := hP
                      have hD : va_D A (mW cI cZ q o (va_up (va_up (va_up (va_up (va_up (va_up g 8 (upd (upd (g 8) k (if (g 8 k) = 0 then 1 else (g 8 k))) k 2)) 9 (upd (g 9) k ((g 9 k) + 1))) 10 (upd (g 10) k 0)) 11 (upd (g 11) k 0)) 15 (upd (g 15) k ((g 15 k) + 1))) 16 (upd (fo16 (g 13) (g 16) k i) (16 * i + k) ((g 16 (16 * i + k)) + 1)))) := hD
                      refine lv_iinc (v := nI (i + 1)) (lv' := [(3, .int (nI (i + 1))), (0, .ref o), (1, .int (nI k))]) hx hb dX3_wasBad_168 hl (k := 2) rfl (nI_1 _) (by decide) rfl (fun ls hl => ?_)
                      refine lv_goto (tgt := 121) hx hb dX3_wasBad_171 (by decide) ?_
                      have q_21 : va_up (va_up (va_up (va_up (va_up (va_up g 8 (upd (upd (g 8) k (if (g 8 k) = 0 then 1 else (g 8 k))) k 2)) 9 (upd (g 9) k ((g 9 k) + 1))) 10 (upd (g 10) k 0)) 11 (upd (g 11) k 0)) 15 (upd (g 15) k ((g 15 k) + 1))) 16 (fo16 (g 13) (g 16) k (i + 1)) = va_up (va_up (va_up (va_up (va_up (va_up g 8 (upd (upd (g 8) k (if (g 8 k) = 0 then 1 else (g 8 k))) k 2)) 9 (upd (g 9) k ((g 9 k) + 1))) 10 (upd (g 10) k 0)) 11 (upd (g 11) k 0)) 15 (upd (g 15) k ((g 15 k) + 1))) 16 (upd (fo16 (g 13) (g 16) k i) (16 * i + k) ((g 16 (16 * i + k)) + 1)) := by rw [fo16_s hk, if_pos c_20]
                      exact ih (i + 1) (by omega) (by omega) H locs ls (by rw [q_21]; exact hP) (by rw [q_21]; exact hD) hS (by exact lv_sub hl [1, 2, 0] rfl)
                    · refine lv_aload_n hx hb dX3_wasBad_151 rfl (lv_at hl 0 rfl) ?_
                      refine va_get (D := D) (ci := 3) (v := .ref (q 13)) (C := RX3) (T := TX3) (N := 33) hx hb hts hinX3 hown hK hP 0 rfl rfl 13 (by decide) (hts (.fieldLink RX3 47 "TroubleCodesModel" "begun" "[I") (mem_at 9 rfl)) (fun _ h9 => h9) rfl dX3_wasBad_152 ?_
                      refine lv_iload_n hx hb dX3_wasBad_155 rfl (lv_at hl 2 rfl) ?_
                      refine x_iald (k := i) (f := g 13) hx hb hK hP 13 rfl (by omega) (by decide) dX3_wasBad_156 ?_
                      refine lv_iconst (v := 2) hx hb dX3_wasBad_157 (by decide) ?_
                      refine lv_icmp_ne (tgt := 165) hx hb dX3_wasBad_158 (by decide) (fun c_22 => ?_) (fun c_22 => ?_)
                      · refine lv_iconst (v := 0) hx hb dX3_wasBad_165 (by decide) ?_
                        refine lv_iadd hx hb dX3_wasBad_166 ?_
                        refine x_iast (k := (16 * i + k)) (f := fo16 (g 13) (g 16) k i) (x := (g 16 (16 * i + k)) + 0) hx hb hK hP hD hS 16 rfl (by omega) (by decide) dX3_wasBad_167 (fun H locs hP hD hS => ?_)
                        have hP : va_P D vwCl (mW cI cZ q o (va_up (va_up (va_up (va_up (va_up (va_up g 8 (upd (upd (g 8) k (if (g 8 k) = 0 then 1 else (g 8 k))) k 2)) 9 (upd (g 9) k ((g 9 k) + 1))) 10 (upd (g 10) k 0)) 11 (upd (g 11) k 0)) 15 (upd (g 15) k ((g 15 k) + 1))) 16 (upd (fo16 (g 13) (g 16) k i) (16 * i + k) ((g 16 (16 * i + k)) + 0)))) H := hP
                        have hD : va_D A (mW cI cZ q o (va_up (va_up (va_up (va_up (va_up (va_up g 8 (upd (upd (g 8) k (if (g 8 k) = 0 then 1 else (g 8 k))) k 2)) 9 (upd (g 9) k ((g 9 k) + 1))) 10 (upd (g 10) k 0)) 11 (upd (g 11) k 0)) 15 (upd (g 15) k ((g 15 k) + 1))) 16 (upd (fo16 (g 13) (g 16) k i) (16 * i + k) ((g 16 (16 * i + k)) + 0)))) := hD
                        refine lv_iinc (v := nI (i + 1)) (lv' := [(3, .int (nI (i + 1))), (0, .ref o), (1, .int (nI k))]) hx hb dX3_wasBad_168 hl (k := 2) rfl (nI_1 _) (by decide) rfl (fun ls hl => ?_)
                        refine lv_goto (tgt := 121) hx hb dX3_wasBad_171 (by decide) ?_
                        have q_23 : va_up (va_up (va_up (va_up (va_up (va_up g 8 (upd (upd (g 8) k (if (g 8 k) = 0 then 1 else (g 8 k))) k 2)) 9 (upd (g 9) k ((g 9 k) + 1))) 10 (upd (g 10) k 0)) 11 (upd (g 11) k 0)) 15 (upd (g 15) k ((g 15 k) + 1))) 16 (fo16 (g 13) (g 16) k (i + 1)) = va_up (va_up (va_up (va_up (va_up (va_up g 8 (upd (upd (g 8) k (if (g 8 k) = 0 then 1 else (g 8 k))) k 2)) 9 (upd (g 9) k ((g 9 k) + 1))) 10 (upd (g 10) k 0)) 11 (upd (g 11) k 0)) 15 (upd (g 15) k ((g 15 k) + 1))) 16 (upd (fo16 (g 13) (g 16) k i) (16 * i + k) ((g 16 (16 * i + k)) + 0)) := by rw [fo16_s hk, if_neg c_20, if_neg c_22]
                        exact ih (i + 1) (by omega) (by omega) H locs ls (by rw [q_23]; exact hP) (by rw [q_23]; exact hD) hS (by exact lv_sub hl [1, 2, 0] rfl)
                      · refine lv_iconst (v := 1) hx hb dX3_wasBad_161 (by decide) ?_
                        refine lv_goto (tgt := 166) hx hb dX3_wasBad_162 (by decide) ?_
                        refine lv_iadd hx hb dX3_wasBad_166 ?_
                        refine x_iast (k := (16 * i + k)) (f := fo16 (g 13) (g 16) k i) (x := (g 16 (16 * i + k)) + 1) hx hb hK hP hD hS 16 rfl (by omega) (by decide) dX3_wasBad_167 (fun H locs hP hD hS => ?_)
                        have hP : va_P D vwCl (mW cI cZ q o (va_up (va_up (va_up (va_up (va_up (va_up g 8 (upd (upd (g 8) k (if (g 8 k) = 0 then 1 else (g 8 k))) k 2)) 9 (upd (g 9) k ((g 9 k) + 1))) 10 (upd (g 10) k 0)) 11 (upd (g 11) k 0)) 15 (upd (g 15) k ((g 15 k) + 1))) 16 (upd (fo16 (g 13) (g 16) k i) (16 * i + k) ((g 16 (16 * i + k)) + 1)))) H := hP
                        have hD : va_D A (mW cI cZ q o (va_up (va_up (va_up (va_up (va_up (va_up g 8 (upd (upd (g 8) k (if (g 8 k) = 0 then 1 else (g 8 k))) k 2)) 9 (upd (g 9) k ((g 9 k) + 1))) 10 (upd (g 10) k 0)) 11 (upd (g 11) k 0)) 15 (upd (g 15) k ((g 15 k) + 1))) 16 (upd (fo16 (g 13) (g 16) k i) (16 * i + k) ((g 16 (16 * i + k)) + 1)))) := hD
                        refine lv_iinc (v := nI (i + 1)) (lv' := [(3, .int (nI (i + 1))), (0, .ref o), (1, .int (nI k))]) hx hb dX3_wasBad_168 hl (k := 2) rfl (nI_1 _) (by decide) rfl (fun ls hl => ?_)
                        refine lv_goto (tgt := 121) hx hb dX3_wasBad_171 (by decide) ?_
                        have q_24 : va_up (va_up (va_up (va_up (va_up (va_up g 8 (upd (upd (g 8) k (if (g 8 k) = 0 then 1 else (g 8 k))) k 2)) 9 (upd (g 9) k ((g 9 k) + 1))) 10 (upd (g 10) k 0)) 11 (upd (g 11) k 0)) 15 (upd (g 15) k ((g 15 k) + 1))) 16 (fo16 (g 13) (g 16) k (i + 1)) = va_up (va_up (va_up (va_up (va_up (va_up g 8 (upd (upd (g 8) k (if (g 8 k) = 0 then 1 else (g 8 k))) k 2)) 9 (upd (g 9) k ((g 9 k) + 1))) 10 (upd (g 10) k 0)) 11 (upd (g 11) k 0)) 15 (upd (g 15) k ((g 15 k) + 1))) 16 (upd (fo16 (g 13) (g 16) k i) (16 * i + k) ((g 16 (16 * i + k)) + 1)) := by rw [fo16_s hk, if_neg c_20, if_pos c_22]
                        exact ih (i + 1) (by omega) (by omega) H locs ls (by rw [q_24]; exact hP) (by rw [q_24]; exact hD) hS (by exact lv_sub hl [1, 2, 0] rfl)
              have q_25 : (nI 0 : Int32) = 0 := by rfl
              exact LOOP_18 (n - 0 + 1) 0 (Nat.zero_le _) (Nat.lt_succ_self _) _ _ ls (by rw [fo16_0]; exact hP) (by rw [fo16_0]; exact hD) hS (by rw [q_25]; exact lv_sub hl [2, 3, 0] rfl)
    refine lv_if_ne (tgt := 58) hx hb dX3_wasBad_51 (by decide) (fun c_26 => ?_) (fun c_26 => ?_)
    · refine lv_aload_n hx hb dX3_wasBad_58 rfl (lv_at hl 1 rfl) ?_
      refine va_get (D := D) (ci := 3) (v := .ref (q 8)) (C := RX3) (T := TX3) (N := 33) hx hb hts hinX3 hown hK hP 0 rfl rfl 8 (by decide) (hts (.fieldLink RX3 32 "TroubleCodesModel" "code" "[I") (mem_at 4 rfl)) (fun _ h9 => h9) rfl dX3_wasBad_59 ?_
      refine lv_iload_n hx hb dX3_wasBad_62 rfl (lv_at hl 2 rfl) ?_
      refine x_iald (k := k) (f := g 8) hx hb hK hP 8 rfl (by omega) (by decide) dX3_wasBad_63 ?_
      rw [if_neg c_26] at J64_1
      exact J64_1
    · refine lv_iconst (v := 1) hx hb dX3_wasBad_54 (by decide) ?_
      refine lv_goto (tgt := 64) hx hb dX3_wasBad_55 (by decide) ?_
      rw [if_pos c_26] at J64_1
      exact J64_1
  refine lv_icmp_ne (tgt := 38) hx hb dX3_wasBad_31 (by decide) (fun c_27 => ?_) (fun c_27 => ?_)
  · refine lv_iconst (v := 0) hx hb dX3_wasBad_38 (by decide) ?_
    rw [bI_f c_27] at J39_0
    exact J39_0
  · refine lv_iconst (v := 1) hx hb dX3_wasBad_34 (by decide) ?_
    refine lv_goto (tgt := 39) hx hb dX3_wasBad_35 (by decide) ?_
    rw [bI_t c_27] at J39_0
    exact J39_0

def stepE (x : Nat → Nat → Int32) (n k : Nat) : Nat → Nat → Int32 :=
  let x1 := va_up x 12 (upd (x 12) k (if x 12 k = 0 then (if x 14 k ≤ 0 then 0 else 1) else 1))
  let x2 := if x 14 k = 2 then fX3_wasBad x1 n k else if x 14 k = 1 then fX3_wasGood x1 k else x1
  if x2 8 k = 3 ∧ ¬ x2 14 k = 2 then fX3_ages x2 k else x2
def endF (g : Nat → Nat → Int32) (n : Nat) : Nat → (Nat → Nat → Int32) × Int32
  | 0 => (sc g 17 0, 0)
  | k + 1 => (stepE (endF g n k).1 n k, (endF g n k).2 + (stepE (endF g n k).1 n k 15 k - (endF g n k).1 15 k))
theorem frz_keep (x : Nat → Nat → Int32) (n k r : Nat) (h : r < 21 ∨ 25 < r) : fX3_freezes x n k r = x r := by
  unfold fX3_freezes
  repeat' split
  all_goals simp [va_up, show r ≠ 21 by omega, show r ≠ 22 by omega, show r ≠ 23 by omega, show r ≠ 24 by omega, show r ≠ 25 by omega]
theorem wb_keep (x : Nat → Nat → Int32) (n k r : Nat) (h : r < 8) : fX3_wasBad x n k r = x r := by
  unfold fX3_wasBad
  repeat' split
  all_goals (try rw [frz_keep _ _ _ _ (by omega)])
  all_goals simp [va_up, show r ≠ 8 by omega, show r ≠ 9 by omega, show r ≠ 10 by omega, show r ≠ 11 by omega, show r ≠ 15 by omega, show r ≠ 16 by omega]
theorem wg_keep (x : Nat → Nat → Int32) (k r : Nat) (h : r < 8) : fX3_wasGood x k r = x r := by
  unfold fX3_wasGood
  repeat' split
  all_goals simp [va_up, show r ≠ 8 by omega, show r ≠ 9 by omega, show r ≠ 10 by omega, show r ≠ 11 by omega]
theorem ag_keep (x : Nat → Nat → Int32) (k r : Nat) (h : r < 8) : fX3_ages x k r = x r := by
  unfold fX3_ages
  repeat' split
  all_goals simp [va_up, show r ≠ 8 by omega, show r ≠ 11 by omega, show r ≠ 21 by omega]
theorem stepE_keep (x : Nat → Nat → Int32) (n k r : Nat) (h : r < 8) : stepE x n k r = x r := by
  have h12 : ∀ f : Nat → Int32, va_up x 12 f r = x r := fun f => by simp [va_up, show r ≠ 12 by omega]
  unfold stepE
  try simp only
  repeat' split
  all_goals simp only [ag_keep _ _ _ h, wb_keep _ _ _ _ h, wg_keep _ _ _ h, h12]
theorem endF_keep (g : Nat → Nat → Int32) (n r : Nat) (h : r < 8) : ∀ k : Nat, (endF g n k).1 r = g r
  | 0 => by simp [endF, sc, va_up, show r ≠ 17 by omega]
  | k + 1 => by rw [endF]; simp only; rw [stepE_keep _ _ _ _ h]; exact endF_keep g n r h k

def fX3_end (g : Nat → Nat → Int32) (n : Nat) : Int32 × (Nat → Nat → Int32) := if g 17 0 = 0 then (-3, g) else ((endF g n n).2, va_up (endF g n n).1 18 (fun _ => (endF g n n).1 18 0 + 1))

set_option maxHeartbeats 4000000 in
set_option maxRecDepth 100000 in
theorem tX3_end (l : Launch) (D : va_G) (cI cZ cC : ClassId) (q : Nat → Nat) (o : Nat) (g : Nat → Nat → Int32) (n : Nat) (hn : g 0 0 = nI n) (hnb : n ≤ 16) (hfo : ∀ k, k < n → g 1 k = 2 → ∃ f, f < 16 ∧ g 2 k = nI f) : WrI l yX3_end wsX3_end (rmK 4) D cI cZ cC [.ref o] (mW cI cZ q o g) (mW cI cZ q o ((fX3_end g n).2)) (fun ans => ans = (fX3_end g n).1) := by
  refine WrI.of (cc := cX3_end) (maxL := 4) (ret := .int) (by decide) rfl (Nat.le_of_ble_eq_true rfl) ?_
  intro p e s m args below meth c Q A ls hx hb hml hts hown hK hP hD hS hA hret hl
  have hl : lv_has ls 4 [(0, .ref o)] := hl
  have hne : ∀ k, (endF g n k).1 0 0 = nI n := fun k => by rw [endF_keep g n 0 (by omega)]; exact hn
  have hinX3 : ∀ w ∈ u_ws RX3 TX3 33, w ∈ wsX3_end := (fun w h => List.mem_cons_of_mem _ (List.mem_append_right _ h))
  refine lv_aload_n hx hb dX3_end_0 rfl (lv_at hl 0 rfl) ?_
  refine va_get (D := D) (ci := 3) (v := .int (g 17 0)) (C := RX3) (T := TX3) (N := 33) hx hb hts hinX3 hown hK hP 0 rfl rfl 17 (by decide) (hts (.fieldLink RX3 104 "TroubleCodesModel" "goes" "Z") (mem_at 1 rfl)) (fun _ h9 => h9) rfl dX3_end_1 ?_
  refine lv_if_ne (tgt := 10) hx hb dX3_end_4 (by decide) (fun c_1 => ?_) (fun c_1 => ?_)
  · refine lv_aload_n hx hb dX3_end_10 rfl (lv_at hl 0 rfl) ?_
    refine lv_iconst (v := 0) hx hb dX3_end_11 (by decide) ?_
    refine va_put (D := D) (ci := 3) (v := .int 0) (ty := .boolean) (C := RX3) (T := TX3) (N := 33) hx hb hts hinX3 tyX3 tyX3_ok nmX3 hown hK hP hD hS 0 rfl rfl 17 (by decide) (hts (.fieldLink RX3 104 "TroubleCodesModel" "goes" "Z") (mem_at 1 rfl)) (fun _ h9 => h9) rfl (by decide +kernel) rfl rfl (Nat.le_of_ble_eq_true rfl) dX3_end_12 (fun H locs hP hD hS => ?_)
    have hP : va_P D vwCl (mW cI cZ q o (va_up g 17 (fun _ => 0))) H := hP
    have hD : va_D A (mW cI cZ q o (va_up g 17 (fun _ => 0))) := hD
    refine lv_iconst (v := 0) hx hb dX3_end_15 (by decide) ?_
    refine lv_istore_n (lv' := [(1, .int 0), (0, .ref o)]) hx hb dX3_end_16 rfl hl (by decide) rfl (fun ls hl => ?_)
    refine lv_iconst (v := 0) hx hb dX3_end_17 (by decide) ?_
    refine lv_istore_n (lv' := [(2, .int 0), (1, .int 0), (0, .ref o)]) hx hb dX3_end_18 rfl hl (by decide) rfl (fun ls hl => ?_)
    have LOOP_2 : ∀ (fu k : Nat), k ≤ n → n - k < fu → ∀ (H : Heap) (locs : List Loc) (ls : Array Slot), va_P D vwCl (mW cI cZ q o ((endF g n k).1)) H → va_D A (mW cI cZ q o ((endF g n k).1)) → va_S A s.heap H locs → lv_has ls 4 [(0, .ref o), (1, .int ((endF g n k).2)), (2, .int (nI k))] → W p l e (rmK 4) s m args below meth c H locs 0 0 Q (F0 m 19 ls []) := by
      intro fu
      induction fu with
      | zero => intro k h1 h2; exact absurd h2 (Nat.not_lt_zero _)
      | succ fu ih =>
        intro k hkn hfu  H locs ls hP hD hS hl
        refine lv_iload_n hx hb dX3_end_19 rfl (lv_at hl 2 rfl) ?_
        refine lv_aload_n hx hb dX3_end_20 rfl (lv_at hl 0 rfl) ?_
        refine va_get (D := D) (ci := 3) (v := .int (((endF g n k).1) 0 0)) (C := RX3) (T := TX3) (N := 33) hx hb hts hinX3 hown hK hP 0 rfl rfl 0 (by decide) (hts (.fieldLink RX3 93 "TroubleCodesModel" "checks" "I") (mem_at 2 rfl)) (fun _ h9 => h9) rfl dX3_end_21 ?_
        refine lv_icmp_ge (tgt := 138) hx hb dX3_end_24 (by decide) (fun c_3 => ?_) (fun c_3 => ?_)
        · have ekn : n = k := Nat.le_antisymm (kx_ge (hne k) (by omega) (by omega) c_3) hkn
          subst ekn
          refine lv_aload_n hx hb dX3_end_138 rfl (lv_at hl 0 rfl) ?_
          refine lv_dup hx hb dX3_end_139 rfl ?_
          refine va_get (D := D) (ci := 3) (v := .int (((endF g n n).1) 18 0)) (C := RX3) (T := TX3) (N := 33) hx hb hts hinX3 hown hK hP 0 rfl rfl 18 (by decide) (hts (.fieldLink RX3 108 "TroubleCodesModel" "drives" "I") (mem_at 7 rfl)) (fun _ h9 => h9) rfl dX3_end_140 ?_
          refine lv_iconst (v := 1) hx hb dX3_end_143 (by decide) ?_
          refine lv_iadd hx hb dX3_end_144 ?_
          refine va_put (D := D) (ci := 3) (v := .int ((((endF g n n).1) 18 0) + 1)) (ty := .int) (C := RX3) (T := TX3) (N := 33) hx hb hts hinX3 tyX3 tyX3_ok nmX3 hown hK hP hD hS 0 rfl rfl 18 (by decide) (hts (.fieldLink RX3 108 "TroubleCodesModel" "drives" "I") (mem_at 7 rfl)) (fun _ h9 => h9) rfl (by decide +kernel) rfl rfl (Nat.le_of_ble_eq_true rfl) dX3_end_145 (fun H locs hP hD hS => ?_)
          have hP : va_P D vwCl (mW cI cZ q o (va_up ((endF g n n).1) 18 (fun _ => (((endF g n n).1) 18 0) + 1))) H := hP
          have hD : va_D A (mW cI cZ q o (va_up ((endF g n n).1) 18 (fun _ => (((endF g n n).1) 18 0) + 1))) := hD
          refine lv_iload_n hx hb dX3_end_148 rfl (lv_at hl 1 rfl) ?_
          have es : fX3_end g n = ((endF g n n).2, va_up ((endF g n n).1) 18 (fun _ => (((endF g n n).1) 18 0) + 1)) := by rw [fX3_end]; rw [if_neg c_1]
          exact hret 149 _ _ _ _ (by rw [es]) (by rw [es]; exact hP) (by rw [es]; exact hD) hS rfl dX3_end_149
        · have hkl : k < n := kx_lt (hne k) (by omega) (by omega) c_3
          obtain ⟨x, ex⟩ : ∃ x, x = (endF g n k).1 := ⟨_, rfl⟩
          have hnx : x 0 0 = nI n := by rw [ex, endF_keep g n 0 (by omega)]; exact hn
          have hfox : x 1 k = 2 → ∃ f, f < 16 ∧ x 2 k = nI f := by rw [ex, endF_keep g n 1 (by omega), endF_keep g n 2 (by omega)]; exact hfo k hkl
          rw [← ex] at hP hD
          refine lv_aload_n hx hb dX3_end_27 rfl (lv_at hl 0 rfl) ?_
          refine va_get (D := D) (ci := 3) (v := .ref (q 15)) (C := RX3) (T := TX3) (N := 33) hx hb hts hinX3 hown hK hP 0 rfl rfl 15 (by decide) (hts (.fieldLink RX3 53 "TroubleCodesModel" "sets" "[I") (mem_at 3 rfl)) (fun _ h9 => h9) rfl dX3_end_28 ?_
          refine lv_iload_n hx hb dX3_end_31 rfl (lv_at hl 2 rfl) ?_
          refine x_iald (k := k) (f := x 15) hx hb hK hP 15 rfl (by omega) (by decide) dX3_end_32 ?_
          refine lv_istore_n (lv' := [(3, .int (x 15 k)), (0, .ref o), (1, .int ((endF g n k).2)), (2, .int (nI k))]) hx hb dX3_end_33 rfl hl (by decide) rfl (fun ls hl => ?_)
          refine lv_aload_n hx hb dX3_end_34 rfl (lv_at hl 1 rfl) ?_
          refine va_get (D := D) (ci := 3) (v := .ref (q 12)) (C := RX3) (T := TX3) (N := 33) hx hb hts hinX3 hown hK hP 0 rfl rfl 12 (by decide) (hts (.fieldLink RX3 44 "TroubleCodesModel" "hasRun" "[Z") (mem_at 4 rfl)) (fun _ h9 => h9) rfl dX3_end_35 ?_
          refine lv_iload_n hx hb dX3_end_38 rfl (lv_at hl 3 rfl) ?_
          refine lv_aload_n hx hb dX3_end_39 rfl (lv_at hl 1 rfl) ?_
          refine va_get (D := D) (ci := 3) (v := .ref (q 12)) (C := RX3) (T := TX3) (N := 33) hx hb hts hinX3 hown hK hP 0 rfl rfl 12 (by decide) (hts (.fieldLink RX3 44 "TroubleCodesModel" "hasRun" "[Z") (mem_at 4 rfl)) (fun _ h9 => h9) rfl dX3_end_40 ?_
          refine lv_iload_n hx hb dX3_end_43 rfl (lv_at hl 3 rfl) ?_
          refine x_zald (k := k) (f := x 12) hx hb hK hP 12 rfl (by omega) (by decide) dX3_end_44 ?_
          have J62_3 : W p l e (rmK 4) s m args below meth c H locs 0 0 Q (F0 m 62 ls [.int ((if (x 12 k) = 0 then (if (x 14 k) ≤ 0 then 0 else 1) else 1) : Int32), .int (nI k), .ref (q 12)]) := by
            refine x_zast (k := k) (f := x 12) (x := ((if (x 12 k) = 0 then (if (x 14 k) ≤ 0 then 0 else 1) else 1) : Int32)) hx hb hK hP hD hS 12 rfl (by split <;> (try split) <;> first | exact Or.inl rfl | exact Or.inr rfl) (by omega) (by decide) dX3_end_62 (fun H locs hP hD hS => ?_)
            have hP : va_P D vwCl (mW cI cZ q o (va_up x 12 (upd (x 12) k ((if (x 12 k) = 0 then (if (x 14 k) ≤ 0 then 0 else 1) else 1) : Int32)))) H := hP
            have hD : va_D A (mW cI cZ q o (va_up x 12 (upd (x 12) k ((if (x 12 k) = 0 then (if (x 14 k) ≤ 0 then 0 else 1) else 1) : Int32)))) := hD
            refine lv_aload_n hx hb dX3_end_63 rfl (lv_at hl 1 rfl) ?_
            refine va_get (D := D) (ci := 3) (v := .ref (q 14)) (C := RX3) (T := TX3) (N := 33) hx hb hts hinX3 hown hK hP 0 rfl rfl 14 (by decide) (hts (.fieldLink RX3 50 "TroubleCodesModel" "told" "[I") (mem_at 5 rfl)) (fun _ h9 => h9) rfl dX3_end_64 ?_
            refine lv_iload_n hx hb dX3_end_67 rfl (lv_at hl 3 rfl) ?_
            refine x_iald (k := k) (f := x 14) hx hb hK hP 14 rfl (by omega) (by decide) dX3_end_68 ?_
            refine lv_iconst (v := 2) hx hb dX3_end_69 (by decide) ?_
            refine lv_icmp_ne (tgt := 81) hx hb dX3_end_70 (by decide) (fun c_5 => ?_) (fun c_5 => ?_)
            · refine lv_aload_n hx hb dX3_end_81 rfl (lv_at hl 1 rfl) ?_
              refine va_get (D := D) (ci := 3) (v := .ref (q 14)) (C := RX3) (T := TX3) (N := 33) hx hb hts hinX3 hown hK hP 0 rfl rfl 14 (by decide) (hts (.fieldLink RX3 50 "TroubleCodesModel" "told" "[I") (mem_at 5 rfl)) (fun _ h9 => h9) rfl dX3_end_82 ?_
              refine lv_iload_n hx hb dX3_end_85 rfl (lv_at hl 3 rfl) ?_
              refine x_iald (k := k) (f := x 14) hx hb hK hP 14 rfl (by omega) (by decide) dX3_end_86 ?_
              refine lv_iconst (v := 1) hx hb dX3_end_87 (by decide) ?_
              refine lv_icmp_ne (tgt := 96) hx hb dX3_end_88 (by decide) (fun c_6 => ?_) (fun c_6 => ?_)
              · refine lv_aload_n hx hb dX3_end_96 rfl (lv_at hl 1 rfl) ?_
                refine va_get (D := D) (ci := 3) (v := .ref (q 8)) (C := RX3) (T := TX3) (N := 33) hx hb hts hinX3 hown hK hP 0 rfl rfl 8 (by decide) (hts (.fieldLink RX3 32 "TroubleCodesModel" "code" "[I") (mem_at 6 rfl)) (fun _ h9 => h9) rfl dX3_end_97 ?_
                refine lv_iload_n hx hb dX3_end_100 rfl (lv_at hl 3 rfl) ?_
                refine x_iald (k := k) (f := x 8) hx hb hK hP 8 rfl (by omega) (by decide) dX3_end_101 ?_
                refine lv_iconst (v := 3) hx hb dX3_end_102 (by decide) ?_
                refine lv_icmp_ne (tgt := 121) hx hb dX3_end_103 (by decide) (fun c_7 => ?_) (fun c_7 => ?_)
                · refine lv_iload_n hx hb dX3_end_121 rfl (lv_at hl 2 rfl) ?_
                  refine lv_aload_n hx hb dX3_end_122 rfl (lv_at hl 1 rfl) ?_
                  refine va_get (D := D) (ci := 3) (v := .ref (q 15)) (C := RX3) (T := TX3) (N := 33) hx hb hts hinX3 hown hK hP 0 rfl rfl 15 (by decide) (hts (.fieldLink RX3 53 "TroubleCodesModel" "sets" "[I") (mem_at 3 rfl)) (fun _ h9 => h9) rfl dX3_end_123 ?_
                  refine lv_iload_n hx hb dX3_end_126 rfl (lv_at hl 3 rfl) ?_
                  refine x_iald (k := k) (f := x 15) hx hb hK hP 15 rfl (by omega) (by decide) dX3_end_127 ?_
                  refine lv_iload_n hx hb dX3_end_128 rfl (lv_at hl 0 rfl) ?_
                  refine lv_isub hx hb dX3_end_129 ?_
                  refine lv_iadd hx hb dX3_end_130 ?_
                  refine lv_istore_n (lv' := [(1, .int (((endF g n k).2) + ((x 15 k) - (x 15 k)))), (3, .int (x 15 k)), (0, .ref o), (2, .int (nI k))]) hx hb dX3_end_131 rfl hl (by decide) rfl (fun ls hl => ?_)
                  refine lv_iinc (v := nI (k + 1)) (lv' := [(2, .int (nI (k + 1))), (1, .int (((endF g n k).2) + ((x 15 k) - (x 15 k)))), (3, .int (x 15 k)), (0, .ref o)]) hx hb dX3_end_132 hl (k := 3) rfl (nI_1 _) (by decide) rfl (fun ls hl => ?_)
                  refine lv_goto (tgt := 19) hx hb dX3_end_135 (by decide) ?_
                  have es_8 : stepE x n k = va_up x 12 (upd (x 12) k ((if (x 12 k) = 0 then (if (x 14 k) ≤ 0 then 0 else 1) else 1) : Int32)) := by
                    unfold stepE
                    simp only
                    rw [if_neg c_5, if_neg c_6]
                    rw [if_neg (fun h => c_7 h.1)]
                  have es_81 : (endF g n (k + 1)).1 = va_up x 12 (upd (x 12) k ((if (x 12 k) = 0 then (if (x 14 k) ≤ 0 then 0 else 1) else 1) : Int32)) := by rw [endF, ← ex]; exact es_8
                  have es_82 : (endF g n (k + 1)).2 = ((endF g n k).2) + ((x 15 k) - (x 15 k)) := by rw [endF, ← ex]; simp only [es_8] <;> rfl
                  have q_9 : ((endF g n (k + 1)).1) = va_up x 12 (upd (x 12) k ((if (x 12 k) = 0 then (if (x 14 k) ≤ 0 then 0 else 1) else 1) : Int32)) := by exact es_81
                  exact ih (k + 1) (by omega) (by omega) H locs ls (by rw [q_9]; exact hP) (by rw [q_9]; exact hD) hS (by rw [es_82]; exact lv_sub hl [3, 1, 0] rfl)
                · refine lv_aload_n hx hb dX3_end_106 rfl (lv_at hl 1 rfl) ?_
                  refine va_get (D := D) (ci := 3) (v := .ref (q 14)) (C := RX3) (T := TX3) (N := 33) hx hb hts hinX3 hown hK hP 0 rfl rfl 14 (by decide) (hts (.fieldLink RX3 50 "TroubleCodesModel" "told" "[I") (mem_at 5 rfl)) (fun _ h9 => h9) rfl dX3_end_107 ?_
                  refine lv_iload_n hx hb dX3_end_110 rfl (lv_at hl 3 rfl) ?_
                  refine x_iald (k := k) (f := x 14) hx hb hK hP 14 rfl (by omega) (by decide) dX3_end_111 ?_
                  refine lv_iconst (v := 2) hx hb dX3_end_112 (by decide) ?_
                  refine lv_icmp_eq (tgt := 121) hx hb dX3_end_113 (by decide) (fun c_10 => ?_) (fun c_10 => ?_)
                  · refine lv_iload_n hx hb dX3_end_121 rfl (lv_at hl 2 rfl) ?_
                    refine lv_aload_n hx hb dX3_end_122 rfl (lv_at hl 1 rfl) ?_
                    refine va_get (D := D) (ci := 3) (v := .ref (q 15)) (C := RX3) (T := TX3) (N := 33) hx hb hts hinX3 hown hK hP 0 rfl rfl 15 (by decide) (hts (.fieldLink RX3 53 "TroubleCodesModel" "sets" "[I") (mem_at 3 rfl)) (fun _ h9 => h9) rfl dX3_end_123 ?_
                    refine lv_iload_n hx hb dX3_end_126 rfl (lv_at hl 3 rfl) ?_
                    refine x_iald (k := k) (f := x 15) hx hb hK hP 15 rfl (by omega) (by decide) dX3_end_127 ?_
                    refine lv_iload_n hx hb dX3_end_128 rfl (lv_at hl 0 rfl) ?_
                    refine lv_isub hx hb dX3_end_129 ?_
                    refine lv_iadd hx hb dX3_end_130 ?_
                    refine lv_istore_n (lv' := [(1, .int (((endF g n k).2) + ((x 15 k) - (x 15 k)))), (3, .int (x 15 k)), (0, .ref o), (2, .int (nI k))]) hx hb dX3_end_131 rfl hl (by decide) rfl (fun ls hl => ?_)
                    refine lv_iinc (v := nI (k + 1)) (lv' := [(2, .int (nI (k + 1))), (1, .int (((endF g n k).2) + ((x 15 k) - (x 15 k)))), (3, .int (x 15 k)), (0, .ref o)]) hx hb dX3_end_132 hl (k := 3) rfl (nI_1 _) (by decide) rfl (fun ls hl => ?_)
                    refine lv_goto (tgt := 19) hx hb dX3_end_135 (by decide) ?_
                    have es_11 : stepE x n k = va_up x 12 (upd (x 12) k ((if (x 12 k) = 0 then (if (x 14 k) ≤ 0 then 0 else 1) else 1) : Int32)) := by
                      unfold stepE
                      simp only
                      rw [if_neg c_5, if_neg c_6]
                      rw [if_neg (fun h => h.2 c_10)]
                    have es_111 : (endF g n (k + 1)).1 = va_up x 12 (upd (x 12) k ((if (x 12 k) = 0 then (if (x 14 k) ≤ 0 then 0 else 1) else 1) : Int32)) := by rw [endF, ← ex]; exact es_11
                    have es_112 : (endF g n (k + 1)).2 = ((endF g n k).2) + ((x 15 k) - (x 15 k)) := by rw [endF, ← ex]; simp only [es_11] <;> rfl
                    have q_12 : ((endF g n (k + 1)).1) = va_up x 12 (upd (x 12) k ((if (x 12 k) = 0 then (if (x 14 k) ≤ 0 then 0 else 1) else 1) : Int32)) := by exact es_111
                    exact ih (k + 1) (by omega) (by omega) H locs ls (by rw [q_12]; exact hP) (by rw [q_12]; exact hD) hS (by rw [es_112]; exact lv_sub hl [3, 1, 0] rfl)
                  · refine lv_aload_n hx hb dX3_end_116 rfl (lv_at hl 1 rfl) ?_
                    refine lv_iload_n hx hb dX3_end_117 rfl (lv_at hl 3 rfl) ?_
                    refine x_wvW (As := [.int (nI k)]) (rest := []) ⟨hx, hb, hml, hown, hts⟩ (tX3_ages l D cI cZ cC q o (va_up x 12 (upd (x 12) k ((if (x 12 k) = 0 then (if (x 14 k) ≤ 0 then 0 else 1) else 1) : Int32))) k (by omega)) (cwV 1 hts gX3_end_X3_ages rfl rfl rfl (by decide +kernel) ⟨Nat.le_of_ble_eq_true rfl, Nat.le_of_ble_eq_true rfl⟩) hK (x_recv (ci := 3) hK hP rfl (q0 := 0) rfl) hP hD hS hA rfl hl.1 rfl (Nat.le_of_ble_eq_true rfl) dX3_end_118 ⟨Nat.le_of_ble_eq_true rfl, Nat.le_of_ble_eq_true rfl⟩ (fun H locs hP hD hS => ?_)
                    refine lv_iload_n hx hb dX3_end_121 rfl (lv_at hl 2 rfl) ?_
                    refine lv_aload_n hx hb dX3_end_122 rfl (lv_at hl 1 rfl) ?_
                    refine va_get (D := D) (ci := 3) (v := .ref (q 15)) (C := RX3) (T := TX3) (N := 33) hx hb hts hinX3 hown hK hP 0 rfl rfl 15 (by decide) (hts (.fieldLink RX3 53 "TroubleCodesModel" "sets" "[I") (mem_at 3 rfl)) (fun _ h9 => h9) rfl dX3_end_123 ?_
                    refine lv_iload_n hx hb dX3_end_126 rfl (lv_at hl 3 rfl) ?_
                    refine x_iald (k := k) (f := (fX3_ages (va_up x 12 (upd (x 12) k ((if (x 12 k) = 0 then (if (x 14 k) ≤ 0 then 0 else 1) else 1) : Int32))) k) 15) hx hb hK hP 15 rfl (by omega) (by decide) dX3_end_127 ?_
                    refine lv_iload_n hx hb dX3_end_128 rfl (lv_at hl 0 rfl) ?_
                    refine lv_isub hx hb dX3_end_129 ?_
                    refine lv_iadd hx hb dX3_end_130 ?_
                    refine lv_istore_n (lv' := [(1, .int (((endF g n k).2) + (((fX3_ages (va_up x 12 (upd (x 12) k ((if (x 12 k) = 0 then (if (x 14 k) ≤ 0 then 0 else 1) else 1) : Int32))) k) 15 k) - (x 15 k)))), (3, .int (x 15 k)), (0, .ref o), (2, .int (nI k))]) hx hb dX3_end_131 rfl hl (by decide) rfl (fun ls hl => ?_)
                    refine lv_iinc (v := nI (k + 1)) (lv' := [(2, .int (nI (k + 1))), (1, .int (((endF g n k).2) + (((fX3_ages (va_up x 12 (upd (x 12) k ((if (x 12 k) = 0 then (if (x 14 k) ≤ 0 then 0 else 1) else 1) : Int32))) k) 15 k) - (x 15 k)))), (3, .int (x 15 k)), (0, .ref o)]) hx hb dX3_end_132 hl (k := 3) rfl (nI_1 _) (by decide) rfl (fun ls hl => ?_)
                    refine lv_goto (tgt := 19) hx hb dX3_end_135 (by decide) ?_
                    have es_13 : stepE x n k = (fX3_ages (va_up x 12 (upd (x 12) k ((if (x 12 k) = 0 then (if (x 14 k) ≤ 0 then 0 else 1) else 1) : Int32))) k) := by
                      unfold stepE
                      simp only
                      rw [if_neg c_5, if_neg c_6]
                      rw [if_pos ⟨c_7, c_10⟩]
                    have es_131 : (endF g n (k + 1)).1 = (fX3_ages (va_up x 12 (upd (x 12) k ((if (x 12 k) = 0 then (if (x 14 k) ≤ 0 then 0 else 1) else 1) : Int32))) k) := by rw [endF, ← ex]; exact es_13
                    have es_132 : (endF g n (k + 1)).2 = ((endF g n k).2) + (((fX3_ages (va_up x 12 (upd (x 12) k ((if (x 12 k) = 0 then (if (x 14 k) ≤ 0 then 0 else 1) else 1) : Int32))) k) 15 k) - (x 15 k)) := by rw [endF, ← ex]; simp only [es_13] <;> rfl
                    have q_14 : ((endF g n (k + 1)).1) = (fX3_ages (va_up x 12 (upd (x 12) k ((if (x 12 k) = 0 then (if (x 14 k) ≤ 0 then 0 else 1) else 1) : Int32))) k) := by exact es_131
                    exact ih (k + 1) (by omega) (by omega) H locs ls (by rw [q_14]; exact hP) (by rw [q_14]; exact hD) hS (by rw [es_132]; exact lv_sub hl [3, 1, 0] rfl)
              · refine lv_aload_n hx hb dX3_end_91 rfl (lv_at hl 1 rfl) ?_
                refine lv_iload_n hx hb dX3_end_92 rfl (lv_at hl 3 rfl) ?_
                refine x_wvW (As := [.int (nI k)]) (rest := []) ⟨hx, hb, hml, hown, hts⟩ (tX3_wasGood l D cI cZ cC q o (va_up x 12 (upd (x 12) k ((if (x 12 k) = 0 then (if (x 14 k) ≤ 0 then 0 else 1) else 1) : Int32))) k (by omega)) (cwV 1 hts gX3_end_X3_wasGood rfl rfl rfl (by decide +kernel) ⟨Nat.le_of_ble_eq_true rfl, Nat.le_of_ble_eq_true rfl⟩) hK (x_recv (ci := 3) hK hP rfl (q0 := 0) rfl) hP hD hS hA rfl hl.1 rfl (Nat.le_of_ble_eq_true rfl) dX3_end_93 ⟨Nat.le_of_ble_eq_true rfl, Nat.le_of_ble_eq_true rfl⟩ (fun H locs hP hD hS => ?_)
                refine lv_aload_n hx hb dX3_end_96 rfl (lv_at hl 1 rfl) ?_
                refine va_get (D := D) (ci := 3) (v := .ref (q 8)) (C := RX3) (T := TX3) (N := 33) hx hb hts hinX3 hown hK hP 0 rfl rfl 8 (by decide) (hts (.fieldLink RX3 32 "TroubleCodesModel" "code" "[I") (mem_at 6 rfl)) (fun _ h9 => h9) rfl dX3_end_97 ?_
                refine lv_iload_n hx hb dX3_end_100 rfl (lv_at hl 3 rfl) ?_
                refine x_iald (k := k) (f := (fX3_wasGood (va_up x 12 (upd (x 12) k ((if (x 12 k) = 0 then (if (x 14 k) ≤ 0 then 0 else 1) else 1) : Int32))) k) 8) hx hb hK hP 8 rfl (by omega) (by decide) dX3_end_101 ?_
                refine lv_iconst (v := 3) hx hb dX3_end_102 (by decide) ?_
                refine lv_icmp_ne (tgt := 121) hx hb dX3_end_103 (by decide) (fun c_15 => ?_) (fun c_15 => ?_)
                · refine lv_iload_n hx hb dX3_end_121 rfl (lv_at hl 2 rfl) ?_
                  refine lv_aload_n hx hb dX3_end_122 rfl (lv_at hl 1 rfl) ?_
                  refine va_get (D := D) (ci := 3) (v := .ref (q 15)) (C := RX3) (T := TX3) (N := 33) hx hb hts hinX3 hown hK hP 0 rfl rfl 15 (by decide) (hts (.fieldLink RX3 53 "TroubleCodesModel" "sets" "[I") (mem_at 3 rfl)) (fun _ h9 => h9) rfl dX3_end_123 ?_
                  refine lv_iload_n hx hb dX3_end_126 rfl (lv_at hl 3 rfl) ?_
                  refine x_iald (k := k) (f := (fX3_wasGood (va_up x 12 (upd (x 12) k ((if (x 12 k) = 0 then (if (x 14 k) ≤ 0 then 0 else 1) else 1) : Int32))) k) 15) hx hb hK hP 15 rfl (by omega) (by decide) dX3_end_127 ?_
                  refine lv_iload_n hx hb dX3_end_128 rfl (lv_at hl 0 rfl) ?_
                  refine lv_isub hx hb dX3_end_129 ?_
                  refine lv_iadd hx hb dX3_end_130 ?_
                  refine lv_istore_n (lv' := [(1, .int (((endF g n k).2) + (((fX3_wasGood (va_up x 12 (upd (x 12) k ((if (x 12 k) = 0 then (if (x 14 k) ≤ 0 then 0 else 1) else 1) : Int32))) k) 15 k) - (x 15 k)))), (3, .int (x 15 k)), (0, .ref o), (2, .int (nI k))]) hx hb dX3_end_131 rfl hl (by decide) rfl (fun ls hl => ?_)
                  refine lv_iinc (v := nI (k + 1)) (lv' := [(2, .int (nI (k + 1))), (1, .int (((endF g n k).2) + (((fX3_wasGood (va_up x 12 (upd (x 12) k ((if (x 12 k) = 0 then (if (x 14 k) ≤ 0 then 0 else 1) else 1) : Int32))) k) 15 k) - (x 15 k)))), (3, .int (x 15 k)), (0, .ref o)]) hx hb dX3_end_132 hl (k := 3) rfl (nI_1 _) (by decide) rfl (fun ls hl => ?_)
                  refine lv_goto (tgt := 19) hx hb dX3_end_135 (by decide) ?_
                  have es_16 : stepE x n k = (fX3_wasGood (va_up x 12 (upd (x 12) k ((if (x 12 k) = 0 then (if (x 14 k) ≤ 0 then 0 else 1) else 1) : Int32))) k) := by
                    unfold stepE
                    simp only
                    rw [if_neg c_5, if_pos c_6]
                    rw [if_neg (fun h => c_15 h.1)]
                  have es_161 : (endF g n (k + 1)).1 = (fX3_wasGood (va_up x 12 (upd (x 12) k ((if (x 12 k) = 0 then (if (x 14 k) ≤ 0 then 0 else 1) else 1) : Int32))) k) := by rw [endF, ← ex]; exact es_16
                  have es_162 : (endF g n (k + 1)).2 = ((endF g n k).2) + (((fX3_wasGood (va_up x 12 (upd (x 12) k ((if (x 12 k) = 0 then (if (x 14 k) ≤ 0 then 0 else 1) else 1) : Int32))) k) 15 k) - (x 15 k)) := by rw [endF, ← ex]; simp only [es_16] <;> rfl
                  have q_17 : ((endF g n (k + 1)).1) = (fX3_wasGood (va_up x 12 (upd (x 12) k ((if (x 12 k) = 0 then (if (x 14 k) ≤ 0 then 0 else 1) else 1) : Int32))) k) := by exact es_161
                  exact ih (k + 1) (by omega) (by omega) H locs ls (by rw [q_17]; exact hP) (by rw [q_17]; exact hD) hS (by rw [es_162]; exact lv_sub hl [3, 1, 0] rfl)
                · refine lv_aload_n hx hb dX3_end_106 rfl (lv_at hl 1 rfl) ?_
                  refine va_get (D := D) (ci := 3) (v := .ref (q 14)) (C := RX3) (T := TX3) (N := 33) hx hb hts hinX3 hown hK hP 0 rfl rfl 14 (by decide) (hts (.fieldLink RX3 50 "TroubleCodesModel" "told" "[I") (mem_at 5 rfl)) (fun _ h9 => h9) rfl dX3_end_107 ?_
                  refine lv_iload_n hx hb dX3_end_110 rfl (lv_at hl 3 rfl) ?_
                  refine x_iald (k := k) (f := (fX3_wasGood (va_up x 12 (upd (x 12) k ((if (x 12 k) = 0 then (if (x 14 k) ≤ 0 then 0 else 1) else 1) : Int32))) k) 14) hx hb hK hP 14 rfl (by omega) (by decide) dX3_end_111 ?_
                  refine lv_iconst (v := 2) hx hb dX3_end_112 (by decide) ?_
                  refine lv_icmp_eq (tgt := 121) hx hb dX3_end_113 (by decide) (fun c_18 => ?_) (fun c_18 => ?_)
                  · refine lv_iload_n hx hb dX3_end_121 rfl (lv_at hl 2 rfl) ?_
                    refine lv_aload_n hx hb dX3_end_122 rfl (lv_at hl 1 rfl) ?_
                    refine va_get (D := D) (ci := 3) (v := .ref (q 15)) (C := RX3) (T := TX3) (N := 33) hx hb hts hinX3 hown hK hP 0 rfl rfl 15 (by decide) (hts (.fieldLink RX3 53 "TroubleCodesModel" "sets" "[I") (mem_at 3 rfl)) (fun _ h9 => h9) rfl dX3_end_123 ?_
                    refine lv_iload_n hx hb dX3_end_126 rfl (lv_at hl 3 rfl) ?_
                    refine x_iald (k := k) (f := (fX3_wasGood (va_up x 12 (upd (x 12) k ((if (x 12 k) = 0 then (if (x 14 k) ≤ 0 then 0 else 1) else 1) : Int32))) k) 15) hx hb hK hP 15 rfl (by omega) (by decide) dX3_end_127 ?_
                    refine lv_iload_n hx hb dX3_end_128 rfl (lv_at hl 0 rfl) ?_
                    refine lv_isub hx hb dX3_end_129 ?_
                    refine lv_iadd hx hb dX3_end_130 ?_
                    refine lv_istore_n (lv' := [(1, .int (((endF g n k).2) + (((fX3_wasGood (va_up x 12 (upd (x 12) k ((if (x 12 k) = 0 then (if (x 14 k) ≤ 0 then 0 else 1) else 1) : Int32))) k) 15 k) - (x 15 k)))), (3, .int (x 15 k)), (0, .ref o), (2, .int (nI k))]) hx hb dX3_end_131 rfl hl (by decide) rfl (fun ls hl => ?_)
                    refine lv_iinc (v := nI (k + 1)) (lv' := [(2, .int (nI (k + 1))), (1, .int (((endF g n k).2) + (((fX3_wasGood (va_up x 12 (upd (x 12) k ((if (x 12 k) = 0 then (if (x 14 k) ≤ 0 then 0 else 1) else 1) : Int32))) k) 15 k) - (x 15 k)))), (3, .int (x 15 k)), (0, .ref o)]) hx hb dX3_end_132 hl (k := 3) rfl (nI_1 _) (by decide) rfl (fun ls hl => ?_)
                    refine lv_goto (tgt := 19) hx hb dX3_end_135 (by decide) ?_
                    have es_19 : stepE x n k = (fX3_wasGood (va_up x 12 (upd (x 12) k ((if (x 12 k) = 0 then (if (x 14 k) ≤ 0 then 0 else 1) else 1) : Int32))) k) := by
                      unfold stepE
                      simp only
                      rw [if_neg c_5, if_pos c_6]
                      rw [if_neg (fun h => h.2 c_18)]
                    have es_191 : (endF g n (k + 1)).1 = (fX3_wasGood (va_up x 12 (upd (x 12) k ((if (x 12 k) = 0 then (if (x 14 k) ≤ 0 then 0 else 1) else 1) : Int32))) k) := by rw [endF, ← ex]; exact es_19
                    have es_192 : (endF g n (k + 1)).2 = ((endF g n k).2) + (((fX3_wasGood (va_up x 12 (upd (x 12) k ((if (x 12 k) = 0 then (if (x 14 k) ≤ 0 then 0 else 1) else 1) : Int32))) k) 15 k) - (x 15 k)) := by rw [endF, ← ex]; simp only [es_19] <;> rfl
                    have q_20 : ((endF g n (k + 1)).1) = (fX3_wasGood (va_up x 12 (upd (x 12) k ((if (x 12 k) = 0 then (if (x 14 k) ≤ 0 then 0 else 1) else 1) : Int32))) k) := by exact es_191
                    exact ih (k + 1) (by omega) (by omega) H locs ls (by rw [q_20]; exact hP) (by rw [q_20]; exact hD) hS (by rw [es_192]; exact lv_sub hl [3, 1, 0] rfl)
                  · refine lv_aload_n hx hb dX3_end_116 rfl (lv_at hl 1 rfl) ?_
                    refine lv_iload_n hx hb dX3_end_117 rfl (lv_at hl 3 rfl) ?_
                    refine x_wvW (As := [.int (nI k)]) (rest := []) ⟨hx, hb, hml, hown, hts⟩ (tX3_ages l D cI cZ cC q o (fX3_wasGood (va_up x 12 (upd (x 12) k ((if (x 12 k) = 0 then (if (x 14 k) ≤ 0 then 0 else 1) else 1) : Int32))) k) k (by omega)) (cwV 1 hts gX3_end_X3_ages rfl rfl rfl (by decide +kernel) ⟨Nat.le_of_ble_eq_true rfl, Nat.le_of_ble_eq_true rfl⟩) hK (x_recv (ci := 3) hK hP rfl (q0 := 0) rfl) hP hD hS hA rfl hl.1 rfl (Nat.le_of_ble_eq_true rfl) dX3_end_118 ⟨Nat.le_of_ble_eq_true rfl, Nat.le_of_ble_eq_true rfl⟩ (fun H locs hP hD hS => ?_)
                    refine lv_iload_n hx hb dX3_end_121 rfl (lv_at hl 2 rfl) ?_
                    refine lv_aload_n hx hb dX3_end_122 rfl (lv_at hl 1 rfl) ?_
                    refine va_get (D := D) (ci := 3) (v := .ref (q 15)) (C := RX3) (T := TX3) (N := 33) hx hb hts hinX3 hown hK hP 0 rfl rfl 15 (by decide) (hts (.fieldLink RX3 53 "TroubleCodesModel" "sets" "[I") (mem_at 3 rfl)) (fun _ h9 => h9) rfl dX3_end_123 ?_
                    refine lv_iload_n hx hb dX3_end_126 rfl (lv_at hl 3 rfl) ?_
                    refine x_iald (k := k) (f := (fX3_ages (fX3_wasGood (va_up x 12 (upd (x 12) k ((if (x 12 k) = 0 then (if (x 14 k) ≤ 0 then 0 else 1) else 1) : Int32))) k) k) 15) hx hb hK hP 15 rfl (by omega) (by decide) dX3_end_127 ?_
                    refine lv_iload_n hx hb dX3_end_128 rfl (lv_at hl 0 rfl) ?_
                    refine lv_isub hx hb dX3_end_129 ?_
                    refine lv_iadd hx hb dX3_end_130 ?_
                    refine lv_istore_n (lv' := [(1, .int (((endF g n k).2) + (((fX3_ages (fX3_wasGood (va_up x 12 (upd (x 12) k ((if (x 12 k) = 0 then (if (x 14 k) ≤ 0 then 0 else 1) else 1) : Int32))) k) k) 15 k) - (x 15 k)))), (3, .int (x 15 k)), (0, .ref o), (2, .int (nI k))]) hx hb dX3_end_131 rfl hl (by decide) rfl (fun ls hl => ?_)
                    refine lv_iinc (v := nI (k + 1)) (lv' := [(2, .int (nI (k + 1))), (1, .int (((endF g n k).2) + (((fX3_ages (fX3_wasGood (va_up x 12 (upd (x 12) k ((if (x 12 k) = 0 then (if (x 14 k) ≤ 0 then 0 else 1) else 1) : Int32))) k) k) 15 k) - (x 15 k)))), (3, .int (x 15 k)), (0, .ref o)]) hx hb dX3_end_132 hl (k := 3) rfl (nI_1 _) (by decide) rfl (fun ls hl => ?_)
                    refine lv_goto (tgt := 19) hx hb dX3_end_135 (by decide) ?_
                    have es_21 : stepE x n k = (fX3_ages (fX3_wasGood (va_up x 12 (upd (x 12) k ((if (x 12 k) = 0 then (if (x 14 k) ≤ 0 then 0 else 1) else 1) : Int32))) k) k) := by
                      unfold stepE
                      simp only
                      rw [if_neg c_5, if_pos c_6]
                      rw [if_pos ⟨c_15, c_18⟩]
                    have es_211 : (endF g n (k + 1)).1 = (fX3_ages (fX3_wasGood (va_up x 12 (upd (x 12) k ((if (x 12 k) = 0 then (if (x 14 k) ≤ 0 then 0 else 1) else 1) : Int32))) k) k) := by rw [endF, ← ex]; exact es_21
                    have es_212 : (endF g n (k + 1)).2 = ((endF g n k).2) + (((fX3_ages (fX3_wasGood (va_up x 12 (upd (x 12) k ((if (x 12 k) = 0 then (if (x 14 k) ≤ 0 then 0 else 1) else 1) : Int32))) k) k) 15 k) - (x 15 k)) := by rw [endF, ← ex]; simp only [es_21] <;> rfl
                    have q_22 : ((endF g n (k + 1)).1) = (fX3_ages (fX3_wasGood (va_up x 12 (upd (x 12) k ((if (x 12 k) = 0 then (if (x 14 k) ≤ 0 then 0 else 1) else 1) : Int32))) k) k) := by exact es_211
                    exact ih (k + 1) (by omega) (by omega) H locs ls (by rw [q_22]; exact hP) (by rw [q_22]; exact hD) hS (by rw [es_212]; exact lv_sub hl [3, 1, 0] rfl)
            · refine lv_aload_n hx hb dX3_end_73 rfl (lv_at hl 1 rfl) ?_
              refine lv_iload_n hx hb dX3_end_74 rfl (lv_at hl 3 rfl) ?_
              refine x_wvW (As := [.int (nI k)]) (rest := []) ⟨hx, hb, hml, hown, hts⟩ (tX3_wasBad l D cI cZ cC q o (va_up x 12 (upd (x 12) k ((if (x 12 k) = 0 then (if (x 14 k) ≤ 0 then 0 else 1) else 1) : Int32))) n hnx hnb k (by omega) hfox) (cwV 1 hts gX3_end_X3_wasBad rfl rfl rfl (by decide +kernel) ⟨Nat.le_of_ble_eq_true rfl, Nat.le_of_ble_eq_true rfl⟩) hK (x_recv (ci := 3) hK hP rfl (q0 := 0) rfl) hP hD hS hA rfl hl.1 rfl (Nat.le_of_ble_eq_true rfl) dX3_end_75 ⟨Nat.le_of_ble_eq_true rfl, Nat.le_of_ble_eq_true rfl⟩ (fun H locs hP hD hS => ?_)
              refine lv_goto (tgt := 96) hx hb dX3_end_78 (by decide) ?_
              refine lv_aload_n hx hb dX3_end_96 rfl (lv_at hl 1 rfl) ?_
              refine va_get (D := D) (ci := 3) (v := .ref (q 8)) (C := RX3) (T := TX3) (N := 33) hx hb hts hinX3 hown hK hP 0 rfl rfl 8 (by decide) (hts (.fieldLink RX3 32 "TroubleCodesModel" "code" "[I") (mem_at 6 rfl)) (fun _ h9 => h9) rfl dX3_end_97 ?_
              refine lv_iload_n hx hb dX3_end_100 rfl (lv_at hl 3 rfl) ?_
              refine x_iald (k := k) (f := (fX3_wasBad (va_up x 12 (upd (x 12) k ((if (x 12 k) = 0 then (if (x 14 k) ≤ 0 then 0 else 1) else 1) : Int32))) n k) 8) hx hb hK hP 8 rfl (by omega) (by decide) dX3_end_101 ?_
              refine lv_iconst (v := 3) hx hb dX3_end_102 (by decide) ?_
              refine lv_icmp_ne (tgt := 121) hx hb dX3_end_103 (by decide) (fun c_23 => ?_) (fun c_23 => ?_)
              · refine lv_iload_n hx hb dX3_end_121 rfl (lv_at hl 2 rfl) ?_
                refine lv_aload_n hx hb dX3_end_122 rfl (lv_at hl 1 rfl) ?_
                refine va_get (D := D) (ci := 3) (v := .ref (q 15)) (C := RX3) (T := TX3) (N := 33) hx hb hts hinX3 hown hK hP 0 rfl rfl 15 (by decide) (hts (.fieldLink RX3 53 "TroubleCodesModel" "sets" "[I") (mem_at 3 rfl)) (fun _ h9 => h9) rfl dX3_end_123 ?_
                refine lv_iload_n hx hb dX3_end_126 rfl (lv_at hl 3 rfl) ?_
                refine x_iald (k := k) (f := (fX3_wasBad (va_up x 12 (upd (x 12) k ((if (x 12 k) = 0 then (if (x 14 k) ≤ 0 then 0 else 1) else 1) : Int32))) n k) 15) hx hb hK hP 15 rfl (by omega) (by decide) dX3_end_127 ?_
                refine lv_iload_n hx hb dX3_end_128 rfl (lv_at hl 0 rfl) ?_
                refine lv_isub hx hb dX3_end_129 ?_
                refine lv_iadd hx hb dX3_end_130 ?_
                refine lv_istore_n (lv' := [(1, .int (((endF g n k).2) + (((fX3_wasBad (va_up x 12 (upd (x 12) k ((if (x 12 k) = 0 then (if (x 14 k) ≤ 0 then 0 else 1) else 1) : Int32))) n k) 15 k) - (x 15 k)))), (3, .int (x 15 k)), (0, .ref o), (2, .int (nI k))]) hx hb dX3_end_131 rfl hl (by decide) rfl (fun ls hl => ?_)
                refine lv_iinc (v := nI (k + 1)) (lv' := [(2, .int (nI (k + 1))), (1, .int (((endF g n k).2) + (((fX3_wasBad (va_up x 12 (upd (x 12) k ((if (x 12 k) = 0 then (if (x 14 k) ≤ 0 then 0 else 1) else 1) : Int32))) n k) 15 k) - (x 15 k)))), (3, .int (x 15 k)), (0, .ref o)]) hx hb dX3_end_132 hl (k := 3) rfl (nI_1 _) (by decide) rfl (fun ls hl => ?_)
                refine lv_goto (tgt := 19) hx hb dX3_end_135 (by decide) ?_
                have es_24 : stepE x n k = (fX3_wasBad (va_up x 12 (upd (x 12) k ((if (x 12 k) = 0 then (if (x 14 k) ≤ 0 then 0 else 1) else 1) : Int32))) n k) := by
                  unfold stepE
                  simp only
                  rw [if_pos c_5]
                  rw [if_neg (fun h => c_23 h.1)]
                have es_241 : (endF g n (k + 1)).1 = (fX3_wasBad (va_up x 12 (upd (x 12) k ((if (x 12 k) = 0 then (if (x 14 k) ≤ 0 then 0 else 1) else 1) : Int32))) n k) := by rw [endF, ← ex]; exact es_24
                have es_242 : (endF g n (k + 1)).2 = ((endF g n k).2) + (((fX3_wasBad (va_up x 12 (upd (x 12) k ((if (x 12 k) = 0 then (if (x 14 k) ≤ 0 then 0 else 1) else 1) : Int32))) n k) 15 k) - (x 15 k)) := by rw [endF, ← ex]; simp only [es_24] <;> rfl
                have q_25 : ((endF g n (k + 1)).1) = (fX3_wasBad (va_up x 12 (upd (x 12) k ((if (x 12 k) = 0 then (if (x 14 k) ≤ 0 then 0 else 1) else 1) : Int32))) n k) := by exact es_241
                exact ih (k + 1) (by omega) (by omega) H locs ls (by rw [q_25]; exact hP) (by rw [q_25]; exact hD) hS (by rw [es_242]; exact lv_sub hl [3, 1, 0] rfl)
              · refine lv_aload_n hx hb dX3_end_106 rfl (lv_at hl 1 rfl) ?_
                refine va_get (D := D) (ci := 3) (v := .ref (q 14)) (C := RX3) (T := TX3) (N := 33) hx hb hts hinX3 hown hK hP 0 rfl rfl 14 (by decide) (hts (.fieldLink RX3 50 "TroubleCodesModel" "told" "[I") (mem_at 5 rfl)) (fun _ h9 => h9) rfl dX3_end_107 ?_
                refine lv_iload_n hx hb dX3_end_110 rfl (lv_at hl 3 rfl) ?_
                refine x_iald (k := k) (f := (fX3_wasBad (va_up x 12 (upd (x 12) k ((if (x 12 k) = 0 then (if (x 14 k) ≤ 0 then 0 else 1) else 1) : Int32))) n k) 14) hx hb hK hP 14 rfl (by omega) (by decide) dX3_end_111 ?_
                refine lv_iconst (v := 2) hx hb dX3_end_112 (by decide) ?_
                refine lv_icmp_eq (tgt := 121) hx hb dX3_end_113 (by decide) (fun c_26 => ?_) (fun c_26 => ?_)
                · refine lv_iload_n hx hb dX3_end_121 rfl (lv_at hl 2 rfl) ?_
                  refine lv_aload_n hx hb dX3_end_122 rfl (lv_at hl 1 rfl) ?_
                  refine va_get (D := D) (ci := 3) (v := .ref (q 15)) (C := RX3) (T := TX3) (N := 33) hx hb hts hinX3 hown hK hP 0 rfl rfl 15 (by decide) (hts (.fieldLink RX3 53 "TroubleCodesModel" "sets" "[I") (mem_at 3 rfl)) (fun _ h9 => h9) rfl dX3_end_123 ?_
                  refine lv_iload_n hx hb dX3_end_126 rfl (lv_at hl 3 rfl) ?_
                  refine x_iald (k := k) (f := (fX3_wasBad (va_up x 12 (upd (x 12) k ((if (x 12 k) = 0 then (if (x 14 k) ≤ 0 then 0 else 1) else 1) : Int32))) n k) 15) hx hb hK hP 15 rfl (by omega) (by decide) dX3_end_127 ?_
                  refine lv_iload_n hx hb dX3_end_128 rfl (lv_at hl 0 rfl) ?_
                  refine lv_isub hx hb dX3_end_129 ?_
                  refine lv_iadd hx hb dX3_end_130 ?_
                  refine lv_istore_n (lv' := [(1, .int (((endF g n k).2) + (((fX3_wasBad (va_up x 12 (upd (x 12) k ((if (x 12 k) = 0 then (if (x 14 k) ≤ 0 then 0 else 1) else 1) : Int32))) n k) 15 k) - (x 15 k)))), (3, .int (x 15 k)), (0, .ref o), (2, .int (nI k))]) hx hb dX3_end_131 rfl hl (by decide) rfl (fun ls hl => ?_)
                  refine lv_iinc (v := nI (k + 1)) (lv' := [(2, .int (nI (k + 1))), (1, .int (((endF g n k).2) + (((fX3_wasBad (va_up x 12 (upd (x 12) k ((if (x 12 k) = 0 then (if (x 14 k) ≤ 0 then 0 else 1) else 1) : Int32))) n k) 15 k) - (x 15 k)))), (3, .int (x 15 k)), (0, .ref o)]) hx hb dX3_end_132 hl (k := 3) rfl (nI_1 _) (by decide) rfl (fun ls hl => ?_)
                  refine lv_goto (tgt := 19) hx hb dX3_end_135 (by decide) ?_
                  have es_27 : stepE x n k = (fX3_wasBad (va_up x 12 (upd (x 12) k ((if (x 12 k) = 0 then (if (x 14 k) ≤ 0 then 0 else 1) else 1) : Int32))) n k) := by
                    unfold stepE
                    simp only
                    rw [if_pos c_5]
                    rw [if_neg (fun h => h.2 c_26)]
                  have es_271 : (endF g n (k + 1)).1 = (fX3_wasBad (va_up x 12 (upd (x 12) k ((if (x 12 k) = 0 then (if (x 14 k) ≤ 0 then 0 else 1) else 1) : Int32))) n k) := by rw [endF, ← ex]; exact es_27
                  have es_272 : (endF g n (k + 1)).2 = ((endF g n k).2) + (((fX3_wasBad (va_up x 12 (upd (x 12) k ((if (x 12 k) = 0 then (if (x 14 k) ≤ 0 then 0 else 1) else 1) : Int32))) n k) 15 k) - (x 15 k)) := by rw [endF, ← ex]; simp only [es_27] <;> rfl
                  have q_28 : ((endF g n (k + 1)).1) = (fX3_wasBad (va_up x 12 (upd (x 12) k ((if (x 12 k) = 0 then (if (x 14 k) ≤ 0 then 0 else 1) else 1) : Int32))) n k) := by exact es_271
                  exact ih (k + 1) (by omega) (by omega) H locs ls (by rw [q_28]; exact hP) (by rw [q_28]; exact hD) hS (by rw [es_272]; exact lv_sub hl [3, 1, 0] rfl)
                · refine lv_aload_n hx hb dX3_end_116 rfl (lv_at hl 1 rfl) ?_
                  refine lv_iload_n hx hb dX3_end_117 rfl (lv_at hl 3 rfl) ?_
                  refine x_wvW (As := [.int (nI k)]) (rest := []) ⟨hx, hb, hml, hown, hts⟩ (tX3_ages l D cI cZ cC q o (fX3_wasBad (va_up x 12 (upd (x 12) k ((if (x 12 k) = 0 then (if (x 14 k) ≤ 0 then 0 else 1) else 1) : Int32))) n k) k (by omega)) (cwV 1 hts gX3_end_X3_ages rfl rfl rfl (by decide +kernel) ⟨Nat.le_of_ble_eq_true rfl, Nat.le_of_ble_eq_true rfl⟩) hK (x_recv (ci := 3) hK hP rfl (q0 := 0) rfl) hP hD hS hA rfl hl.1 rfl (Nat.le_of_ble_eq_true rfl) dX3_end_118 ⟨Nat.le_of_ble_eq_true rfl, Nat.le_of_ble_eq_true rfl⟩ (fun H locs hP hD hS => ?_)
                  refine lv_iload_n hx hb dX3_end_121 rfl (lv_at hl 2 rfl) ?_
                  refine lv_aload_n hx hb dX3_end_122 rfl (lv_at hl 1 rfl) ?_
                  refine va_get (D := D) (ci := 3) (v := .ref (q 15)) (C := RX3) (T := TX3) (N := 33) hx hb hts hinX3 hown hK hP 0 rfl rfl 15 (by decide) (hts (.fieldLink RX3 53 "TroubleCodesModel" "sets" "[I") (mem_at 3 rfl)) (fun _ h9 => h9) rfl dX3_end_123 ?_
                  refine lv_iload_n hx hb dX3_end_126 rfl (lv_at hl 3 rfl) ?_
                  refine x_iald (k := k) (f := (fX3_ages (fX3_wasBad (va_up x 12 (upd (x 12) k ((if (x 12 k) = 0 then (if (x 14 k) ≤ 0 then 0 else 1) else 1) : Int32))) n k) k) 15) hx hb hK hP 15 rfl (by omega) (by decide) dX3_end_127 ?_
                  refine lv_iload_n hx hb dX3_end_128 rfl (lv_at hl 0 rfl) ?_
                  refine lv_isub hx hb dX3_end_129 ?_
                  refine lv_iadd hx hb dX3_end_130 ?_
                  refine lv_istore_n (lv' := [(1, .int (((endF g n k).2) + (((fX3_ages (fX3_wasBad (va_up x 12 (upd (x 12) k ((if (x 12 k) = 0 then (if (x 14 k) ≤ 0 then 0 else 1) else 1) : Int32))) n k) k) 15 k) - (x 15 k)))), (3, .int (x 15 k)), (0, .ref o), (2, .int (nI k))]) hx hb dX3_end_131 rfl hl (by decide) rfl (fun ls hl => ?_)
                  refine lv_iinc (v := nI (k + 1)) (lv' := [(2, .int (nI (k + 1))), (1, .int (((endF g n k).2) + (((fX3_ages (fX3_wasBad (va_up x 12 (upd (x 12) k ((if (x 12 k) = 0 then (if (x 14 k) ≤ 0 then 0 else 1) else 1) : Int32))) n k) k) 15 k) - (x 15 k)))), (3, .int (x 15 k)), (0, .ref o)]) hx hb dX3_end_132 hl (k := 3) rfl (nI_1 _) (by decide) rfl (fun ls hl => ?_)
                  refine lv_goto (tgt := 19) hx hb dX3_end_135 (by decide) ?_
                  have es_29 : stepE x n k = (fX3_ages (fX3_wasBad (va_up x 12 (upd (x 12) k ((if (x 12 k) = 0 then (if (x 14 k) ≤ 0 then 0 else 1) else 1) : Int32))) n k) k) := by
                    unfold stepE
                    simp only
                    rw [if_pos c_5]
                    rw [if_pos ⟨c_23, c_26⟩]
                  have es_291 : (endF g n (k + 1)).1 = (fX3_ages (fX3_wasBad (va_up x 12 (upd (x 12) k ((if (x 12 k) = 0 then (if (x 14 k) ≤ 0 then 0 else 1) else 1) : Int32))) n k) k) := by rw [endF, ← ex]; exact es_29
                  have es_292 : (endF g n (k + 1)).2 = ((endF g n k).2) + (((fX3_ages (fX3_wasBad (va_up x 12 (upd (x 12) k ((if (x 12 k) = 0 then (if (x 14 k) ≤ 0 then 0 else 1) else 1) : Int32))) n k) k) 15 k) - (x 15 k)) := by rw [endF, ← ex]; simp only [es_29] <;> rfl
                  have q_30 : ((endF g n (k + 1)).1) = (fX3_ages (fX3_wasBad (va_up x 12 (upd (x 12) k ((if (x 12 k) = 0 then (if (x 14 k) ≤ 0 then 0 else 1) else 1) : Int32))) n k) k) := by exact es_291
                  exact ih (k + 1) (by omega) (by omega) H locs ls (by rw [q_30]; exact hP) (by rw [q_30]; exact hD) hS (by rw [es_292]; exact lv_sub hl [3, 1, 0] rfl)
          refine lv_if_ne (tgt := 57) hx hb dX3_end_45 (by decide) (fun c_31 => ?_) (fun c_31 => ?_)
          · refine lv_iconst (v := 1) hx hb dX3_end_57 (by decide) ?_
            refine lv_goto (tgt := 62) hx hb dX3_end_58 (by decide) ?_
            rw [if_neg c_31] at J62_3
            exact J62_3
          · refine lv_aload_n hx hb dX3_end_48 rfl (lv_at hl 1 rfl) ?_
            refine va_get (D := D) (ci := 3) (v := .ref (q 14)) (C := RX3) (T := TX3) (N := 33) hx hb hts hinX3 hown hK hP 0 rfl rfl 14 (by decide) (hts (.fieldLink RX3 50 "TroubleCodesModel" "told" "[I") (mem_at 5 rfl)) (fun _ h9 => h9) rfl dX3_end_49 ?_
            refine lv_iload_n hx hb dX3_end_52 rfl (lv_at hl 3 rfl) ?_
            refine x_iald (k := k) (f := x 14) hx hb hK hP 14 rfl (by omega) (by decide) dX3_end_53 ?_
            refine lv_if_le (tgt := 61) hx hb dX3_end_54 (by decide) (fun c_32 => ?_) (fun c_32 => ?_)
            · refine lv_iconst (v := 0) hx hb dX3_end_61 (by decide) ?_
              rw [if_pos c_31, if_pos c_32] at J62_3
              exact J62_3
            · refine lv_iconst (v := 1) hx hb dX3_end_57 (by decide) ?_
              refine lv_goto (tgt := 62) hx hb dX3_end_58 (by decide) ?_
              rw [if_pos c_31, if_neg c_32] at J62_3
              exact J62_3
    have q_33 : ((endF g n 0).2 : Int32) = 0 := by rfl
    have q_34 : (nI 0 : Int32) = 0 := by rfl
    exact LOOP_2 (n - 0 + 1) 0 (Nat.zero_le _) (Nat.lt_succ_self _) _ _ ls (by skip; exact hP) (by skip; exact hD) hS (by rw [q_33, q_34]; exact lv_sub hl [2, 1, 0] rfl)
  · refine lv_bipush (v := (-3)) hx hb dX3_end_7 (by decide) ?_
    have es : fX3_end g n = (-3, g) := by rw [fX3_end]; rw [if_pos c_1]
    exact hret 9 _ _ _ _ (by rw [es]) (by rw [es]; exact hP) (by rw [es]; exact hD) hS rfl dX3_end_9
