def fX2_freeze (n : Nat) (t C FF : Nat → Nat → Int32) (k : Nat) : (Nat → Nat → Int32) × (Nat → Nat → Int32) × (Nat → Nat → Int32) := if (t 3 0) < (sumN (fun j => if (va_up C k (upd (upd (C k) 13 (t 5 0)) 14 (t 4 0))) j 13 = -1 then 0 else 1) n) then (if lfC (va_up C k (upd (upd (C k) 13 (t 5 0)) 14 (t 4 0))) n = none then (va_up t 4 (fun _ => (t 4 0) + 1), (va_up (va_up C k (upd (upd (C k) 13 (t 5 0)) 14 (t 4 0))) k (fX0_thaw ((va_up C k (upd (upd (C k) 13 (t 5 0)) 14 (t 4 0))) k))), (va_up FF k (va_cpy (t 2) (FF k) 0 0 4))) else (va_up t 4 (fun _ => (t 4 0) + 1), (va_up (va_up C k (upd (upd (C k) 13 (t 5 0)) 14 (t 4 0))) (lfD (va_up C k (upd (upd (C k) 13 (t 5 0)) 14 (t 4 0))) n) (fX0_thaw ((va_up C k (upd (upd (C k) 13 (t 5 0)) 14 (t 4 0))) (lfD (va_up C k (upd (upd (C k) 13 (t 5 0)) 14 (t 4 0))) n)))), (va_up FF k (va_cpy (t 2) (FF k) 0 0 4)))) else (va_up t 4 (fun _ => (t 4 0) + 1), (va_up C k (upd (upd (C k) 13 (t 5 0)) 14 (t 4 0))), (va_up FF k (va_cpy (t 2) (FF k) 0 0 4)))

set_option maxHeartbeats 4000000 in
set_option maxRecDepth 100000 in
theorem tX2_freeze (l : Launch) (D : va_G) (cI cZ cC : ClassId) (ad : Nat → Nat) (n : Nat) (t v C FF FO : Nat → Nat → Int32) (hn : t 1 0 = nI n) (hnb : n ≤ 16) (k : Nat) (hkl : k < n) : WrV l yX2_freeze wsX2_freeze (rmK 3) D cI cZ cC [.ref (ad 0), .ref (ad (16 + k))] (cW cI cC ad n t v C FF FO) (cW cI cC ad n ((fX2_freeze n t C FF k).1) v ((fX2_freeze n t C FF k).2.1) ((fX2_freeze n t C FF k).2.2) FO) := by
  refine WrV.of (cc := cX2_freeze) (maxL := 3) (by decide) rfl (Nat.le_of_ble_eq_true rfl) ?_
  intro p e s m args below meth c Q A ls hx hb hml hts hown hK hP hD hS hA hret hl
  have hl : lv_has ls 3 [(0, .ref (ad 0)), (1, .ref (ad (16 + k)))] := hl
  have hinX2 : ∀ w ∈ u_ws RX2 TX2 9, w ∈ wsX2_freeze := (fun w h => List.mem_cons_of_mem _ (List.mem_append_left _ (List.mem_append_right _ h)))
  refine lv_aload_n hx hb dX2_freeze_0 rfl (lv_at hl 1 rfl) ?_
  refine lv_aload_n hx hb dX2_freeze_1 rfl (lv_at hl 0 rfl) ?_
  refine va_get (D := D) (ci := 2) (v := .ref (ad 2)) (C := RX2) (T := TX2) (N := 9) hx hb hts hinX2 hown hK hP 0 rfl rfl 2 (by decide) (hts (.fieldLink RX2 19 "TroubleCodes" "facts" "[I") (mem_at 1 rfl)) (fun _ h9 => h9) rfl dX2_freeze_2 ?_
  refine lv_aload_n hx hb dX2_freeze_5 rfl (lv_at hl 0 rfl) ?_
  refine va_get (D := D) (ci := 2) (v := .int (t 5 0)) (C := RX2) (T := TX2) (N := 9) hx hb hts hinX2 hown hK hP 0 rfl rfl 5 (by decide) (hts (.fieldLink RX2 29 "TroubleCodes" "drivesEnded" "I") (mem_at 2 rfl)) (fun _ h9 => h9) rfl dX2_freeze_6 ?_
  refine lv_aload_n hx hb dX2_freeze_9 rfl (lv_at hl 0 rfl) ?_
  refine va_get (D := D) (ci := 2) (v := .int (t 4 0)) (C := RX2) (T := TX2) (N := 9) hx hb hts hinX2 hown hK hP 0 rfl rfl 4 (by decide) (hts (.fieldLink RX2 26 "TroubleCodes" "freezings" "I") (mem_at 3 rfl)) (fun _ h9 => h9) rfl dX2_freeze_10 ?_
  refine x_wvV (As := [.ref (ad 2), .int (t 5 0), .int (t 4 0)]) (rest := []) (ww := cW cI cC ad n t v C FF FO) ⟨hx, hb, hml, hown, hts⟩ (tX0_freeze l D cI cZ cC (ad (16 + k)) (ad (32 + k)) (ad (48 + k)) (C k) (ad 2) (FF k) (t 2) (t 5 0) (t 4 0)) (cwV 3 hts gX2_freeze_X0_freeze rfl rfl rfl (by decide +kernel) ⟨Nat.le_of_ble_eq_true rfl, Nat.le_of_ble_eq_true rfl⟩) hK (x_recv (ci := 0) hK hP rfl (q0 := 10 + k) (cW_k hkl)) hP hD hS hA [10 + k, 10 + (n + k), 2] (by simp [va_nd]; omega) (by rw [List.map_cons, List.map_cons, List.map_cons, List.map_nil, cW_k hkl, cW_f hkl]; rfl) rfl rfl hl.1 rfl (Nat.le_of_ble_eq_true rfl) dX2_freeze_13 ⟨Nat.le_of_ble_eq_true rfl, Nat.le_of_ble_eq_true rfl⟩ (fun H locs hP hD hS => ?_)
  have hP : va_P D vwCl (cW cI cC ad n t v (va_up C k (upd (upd (C k) 13 (t 5 0)) 14 (t 4 0))) (va_up FF k (va_cpy (t 2) (FF k) 0 0 4)) FO) H := by have h := hP; rw [List.zip_cons_cons, List.zip_cons_cons, List.zip_cons_cons, List.zip_nil_left, setL, setL, setL, setL] at h; rw [cW_setk hkl, cW_setf hkl] at h; exact h
  have hD : va_D A (cW cI cC ad n t v (va_up C k (upd (upd (C k) 13 (t 5 0)) 14 (t 4 0))) (va_up FF k (va_cpy (t 2) (FF k) 0 0 4)) FO) := by have h := hD; rw [List.zip_cons_cons, List.zip_cons_cons, List.zip_cons_cons, List.zip_nil_left, setL, setL, setL, setL] at h; rw [cW_setk hkl, cW_setf hkl] at h; exact h
  refine lv_aload_n hx hb dX2_freeze_16 rfl (lv_at hl 0 rfl) ?_
  refine lv_dup hx hb dX2_freeze_17 rfl ?_
  refine va_get (D := D) (ci := 2) (v := .int (t 4 0)) (C := RX2) (T := TX2) (N := 9) hx hb hts hinX2 hown hK hP 0 rfl rfl 4 (by decide) (hts (.fieldLink RX2 26 "TroubleCodes" "freezings" "I") (mem_at 3 rfl)) (fun _ h9 => h9) rfl dX2_freeze_18 ?_
  refine lv_iconst (v := 1) hx hb dX2_freeze_21 (by decide) ?_
  refine lv_iadd hx hb dX2_freeze_22 ?_
  refine va_put (D := D) (ci := 2) (v := .int ((t 4 0) + 1)) (ty := .int) (C := RX2) (T := TX2) (N := 9) hx hb hts hinX2 tyX2 tyX2_ok nmX2 hown hK hP hD hS 0 rfl rfl 4 (by decide) (hts (.fieldLink RX2 26 "TroubleCodes" "freezings" "I") (mem_at 3 rfl)) (fun _ h9 => h9) rfl (by decide +kernel) rfl rfl (Nat.le_of_ble_eq_true rfl) dX2_freeze_23 (fun H locs hP hD hS => ?_)
  have hP : va_P D vwCl (cW cI cC ad n (va_up t 4 (fun _ => (t 4 0) + 1)) v (va_up C k (upd (upd (C k) 13 (t 5 0)) 14 (t 4 0))) (va_up FF k (va_cpy (t 2) (FF k) 0 0 4)) FO) H := hP
  have hD : va_D A (cW cI cC ad n (va_up t 4 (fun _ => (t 4 0) + 1)) v (va_up C k (upd (upd (C k) 13 (t 5 0)) 14 (t 4 0))) (va_up FF k (va_cpy (t 2) (FF k) 0 0 4)) FO) := hD
  refine lv_aload_n hx hb dX2_freeze_26 rfl (lv_at hl 0 rfl) ?_
  refine x_rdV (As := []) (rest := []) ⟨hx, hb, hml, hown, hts⟩ (tX2_frozenCount l D cI cZ cC ad n (va_up t 4 (fun _ => (t 4 0) + 1)) v (va_up C k (upd (upd (C k) 13 (t 5 0)) 14 (t 4 0))) (va_up FF k (va_cpy (t 2) (FF k) 0 0 4)) FO hn hnb) (cwV 0 hts gX2_freeze_X2_frozenCount rfl rfl rfl (by decide +kernel) ⟨Nat.le_of_ble_eq_true rfl, Nat.le_of_ble_eq_true rfl⟩) hK (x_recv (ci := 2) hK hP rfl (q0 := 0) rfl) hP rfl hl.1 rfl (Nat.le_of_ble_eq_true rfl) dX2_freeze_27 ⟨Nat.le_of_ble_eq_true rfl, Nat.le_of_ble_eq_true rfl⟩ (fun r_1 er_1 => ?_)
  have er_1 : r_1 = sumN (fun j => if (va_up C k (upd (upd (C k) 13 (t 5 0)) 14 (t 4 0))) j 13 = -1 then 0 else 1) n := er_1
  subst er_1
  refine lv_aload_n hx hb dX2_freeze_30 rfl (lv_at hl 0 rfl) ?_
  refine va_get (D := D) (ci := 2) (v := .int (t 3 0)) (C := RX2) (T := TX2) (N := 9) hx hb hts hinX2 hown hK hP 0 rfl rfl 3 (by decide) (hts (.fieldLink RX2 23 "TroubleCodes" "roomFor" "I") (mem_at 4 rfl)) (fun _ h9 => h9) rfl dX2_freeze_31 ?_
  refine lv_icmp_gt (tgt := 38) hx hb dX2_freeze_34 (by decide) (fun c_2 => ?_) (fun c_2 => ?_)
  · refine lv_aload_n hx hb dX2_freeze_38 rfl (lv_at hl 0 rfl) ?_
    refine x_rqV (As := []) (rest := []) ⟨hx, hb, hml, hown, hts⟩ (tX2_leastFrozen l D cI cZ cC ad n (va_up t 4 (fun _ => (t 4 0) + 1)) v (va_up C k (upd (upd (C k) 13 (t 5 0)) 14 (t 4 0))) (va_up FF k (va_cpy (t 2) (FF k) 0 0 4)) FO hn hnb) (cwV 0 hts gX2_freeze_X2_leastFrozen rfl rfl rfl (by decide +kernel) ⟨Nat.le_of_ble_eq_true rfl, Nat.le_of_ble_eq_true rfl⟩) hK (x_recv (ci := 2) hK hP rfl (q0 := 0) rfl) hP rfl hl.1 rfl (Nat.le_of_ble_eq_true rfl) dX2_freeze_39 ⟨Nat.le_of_ble_eq_true rfl, Nat.le_of_ble_eq_true rfl⟩ (fun r_3 er_3 => ?_)
    have er_3 : r_3 = Option.map (fun j => ad (16 + j)) (lfC (va_up C k (upd (upd (C k) 13 (t 5 0)) 14 (t 4 0))) n) := er_3
    subst er_3
    rcases hlf : lfC (va_up C k (upd (upd (C k) 13 (t 5 0)) 14 (t 4 0))) n with _ | j
    · refine W.eq (g2 := F0 m 42 ls [.null]) rfl ?_
      refine lv_astore_nN (lv' := [(2, .null), (0, .ref (ad 0)), (1, .ref (ad (16 + k)))]) hx hb dX2_freeze_42 rfl hl (by decide) rfl (fun ls hl => ?_)
      refine lv_aload_nN hx hb dX2_freeze_43 rfl (lv_at hl 0 rfl) ?_
      refine lv_ifnonnullN hx hb dX2_freeze_44 ?_
      refine lv_aload_n hx hb dX2_freeze_47 rfl (lv_at hl 2 rfl) ?_
      refine lv_astore_n (lv' := [(2, .ref (ad (16 + k))), (0, .ref (ad 0)), (1, .ref (ad (16 + k)))]) hx hb dX2_freeze_48 rfl hl (by decide) rfl (fun ls hl => ?_)
      refine lv_aload_n hx hb dX2_freeze_49 rfl (lv_at hl 0 rfl) ?_
      refine x_wvV (As := []) (rest := []) (ww := cW cI cC ad n (va_up t 4 (fun _ => (t 4 0) + 1)) v (va_up C k (upd (upd (C k) 13 (t 5 0)) 14 (t 4 0))) (va_up FF k (va_cpy (t 2) (FF k) 0 0 4)) FO) ⟨hx, hb, hml, hown, hts⟩ (tX0_thaw l D cI cZ cC (ad (16 + k)) (ad (32 + k)) (ad (48 + k)) ((va_up C k (upd (upd (C k) 13 (t 5 0)) 14 (t 4 0))) k) ) (cwV 0 hts gX2_freeze_X0_thaw rfl rfl rfl (by decide +kernel) ⟨Nat.le_of_ble_eq_true rfl, Nat.le_of_ble_eq_true rfl⟩) hK (x_recv (ci := 0) hK hP rfl (q0 := 10 + k) (cW_k hkl)) hP hD hS hA [10 + k] (by simp [va_nd]) (by rw [List.map_cons, List.map_nil, cW_k hkl]; rfl) rfl rfl hl.1 rfl (Nat.le_of_ble_eq_true rfl) dX2_freeze_50 ⟨Nat.le_of_ble_eq_true rfl, Nat.le_of_ble_eq_true rfl⟩ (fun H locs hP hD hS => ?_)
      have hP : va_P D vwCl (cW cI cC ad n (va_up t 4 (fun _ => (t 4 0) + 1)) v (va_up (va_up C k (upd (upd (C k) 13 (t 5 0)) 14 (t 4 0))) k (fX0_thaw ((va_up C k (upd (upd (C k) 13 (t 5 0)) 14 (t 4 0))) k))) (va_up FF k (va_cpy (t 2) (FF k) 0 0 4)) FO) H := by rw [← cW_setk hkl]; exact hP
      have hD : va_D A (cW cI cC ad n (va_up t 4 (fun _ => (t 4 0) + 1)) v (va_up (va_up C k (upd (upd (C k) 13 (t 5 0)) 14 (t 4 0))) k (fX0_thaw ((va_up C k (upd (upd (C k) 13 (t 5 0)) 14 (t 4 0))) k))) (va_up FF k (va_cpy (t 2) (FF k) 0 0 4)) FO) := by rw [← cW_setk hkl]; exact hD
      have es : fX2_freeze n t C FF k = (va_up t 4 (fun _ => (t 4 0) + 1), (va_up (va_up C k (upd (upd (C k) 13 (t 5 0)) 14 (t 4 0))) k (fX0_thaw ((va_up C k (upd (upd (C k) 13 (t 5 0)) 14 (t 4 0))) k))), (va_up FF k (va_cpy (t 2) (FF k) 0 0 4))) := by rw [fX2_freeze]; rw [if_pos c_2, if_pos hlf]
      exact hret 53 _ _ _ (by rw [es]; exact hP) (by rw [es]; exact hD) hS dX2_freeze_53
    · have hj : j < n := (lfC_lt (va_up C k (upd (upd (C k) 13 (t 5 0)) 14 (t 4 0))) n j hlf).1
      refine W.eq (g2 := F0 m 42 ls [.ref (ad (16 + j))]) rfl ?_
      have hlfn : ¬ lfC (va_up C k (upd (upd (C k) 13 (t 5 0)) 14 (t 4 0))) n = none := by rw [hlf]; exact fun h => by cases h
      have elf : lfD (va_up C k (upd (upd (C k) 13 (t 5 0)) 14 (t 4 0))) n = j := by rw [lfD, hlf]; rfl
      refine lv_astore_n (lv' := [(2, .ref (ad (16 + j))), (0, .ref (ad 0)), (1, .ref (ad (16 + k)))]) hx hb dX2_freeze_42 rfl hl (by decide) rfl (fun ls hl => ?_)
      refine lv_aload_n hx hb dX2_freeze_43 rfl (lv_at hl 0 rfl) ?_
      refine lv_ifnonnull (tgt := 49) hx hb dX2_freeze_44 (by decide) ?_
      refine lv_aload_n hx hb dX2_freeze_49 rfl (lv_at hl 0 rfl) ?_
      refine x_wvV (As := []) (rest := []) (ww := cW cI cC ad n (va_up t 4 (fun _ => (t 4 0) + 1)) v (va_up C k (upd (upd (C k) 13 (t 5 0)) 14 (t 4 0))) (va_up FF k (va_cpy (t 2) (FF k) 0 0 4)) FO) ⟨hx, hb, hml, hown, hts⟩ (tX0_thaw l D cI cZ cC (ad (16 + j)) (ad (32 + j)) (ad (48 + j)) ((va_up C k (upd (upd (C k) 13 (t 5 0)) 14 (t 4 0))) j) ) (cwV 0 hts gX2_freeze_X0_thaw rfl rfl rfl (by decide +kernel) ⟨Nat.le_of_ble_eq_true rfl, Nat.le_of_ble_eq_true rfl⟩) hK (x_recv (ci := 0) hK hP rfl (q0 := 10 + j) (cW_k hj)) hP hD hS hA [10 + j] (by simp [va_nd]) (by rw [List.map_cons, List.map_nil, cW_k hj]; rfl) rfl rfl hl.1 rfl (Nat.le_of_ble_eq_true rfl) dX2_freeze_50 ⟨Nat.le_of_ble_eq_true rfl, Nat.le_of_ble_eq_true rfl⟩ (fun H locs hP hD hS => ?_)
      have hP : va_P D vwCl (cW cI cC ad n (va_up t 4 (fun _ => (t 4 0) + 1)) v (va_up (va_up C k (upd (upd (C k) 13 (t 5 0)) 14 (t 4 0))) j (fX0_thaw ((va_up C k (upd (upd (C k) 13 (t 5 0)) 14 (t 4 0))) j))) (va_up FF k (va_cpy (t 2) (FF k) 0 0 4)) FO) H := by rw [← cW_setk hj]; exact hP
      have hD : va_D A (cW cI cC ad n (va_up t 4 (fun _ => (t 4 0) + 1)) v (va_up (va_up C k (upd (upd (C k) 13 (t 5 0)) 14 (t 4 0))) j (fX0_thaw ((va_up C k (upd (upd (C k) 13 (t 5 0)) 14 (t 4 0))) j))) (va_up FF k (va_cpy (t 2) (FF k) 0 0 4)) FO) := by rw [← cW_setk hj]; exact hD
      have es : fX2_freeze n t C FF k = (va_up t 4 (fun _ => (t 4 0) + 1), (va_up (va_up C k (upd (upd (C k) 13 (t 5 0)) 14 (t 4 0))) j (fX0_thaw ((va_up C k (upd (upd (C k) 13 (t 5 0)) 14 (t 4 0))) j))), (va_up FF k (va_cpy (t 2) (FF k) 0 0 4))) := by rw [fX2_freeze]; simp only [elf]; rw [if_pos c_2, if_neg hlfn]
      exact hret 53 _ _ _ (by rw [es]; exact hP) (by rw [es]; exact hD) hS dX2_freeze_53
  · have es : fX2_freeze n t C FF k = (va_up t 4 (fun _ => (t 4 0) + 1), (va_up C k (upd (upd (C k) 13 (t 5 0)) 14 (t 4 0))), (va_up FF k (va_cpy (t 2) (FF k) 0 0 4))) := by rw [fX2_freeze]; rw [if_neg c_2]
    exact hret 37 _ _ _ (by rw [es]; exact hP) (by rw [es]; exact hD) hS dX2_freeze_37

theorem cd01 (f : Nat → Int32) (b : Int32) : (fX0_countDrive f b).1 = 0 ∨ (fX0_countDrive f b).1 = 1 := by
  unfold fX0_countDrive
  repeat' split
  all_goals first | exact Or.inl rfl | exact cb01 _ _

def fX2_endFor (n : Nat) (t C FF FO : Nat → Nat → Int32) (k : Nat) : Int32 × (Nat → Nat → Int32) × (Nat → Nat → Int32) × (Nat → Nat → Int32) × (Nat → Nat → Int32) := if ((fX0_countDrive (C k) (heldC C k)).1) = 0 then ((fX0_countDrive (C k) (heldC C k)).1, t, (va_up C k ((fX0_countDrive (C k) (heldC C k)).2)), FF, FO) else ((fX0_countDrive (C k) (heldC C k)).1, ((fX2_freeze n t (va_up (va_up C k ((fX0_countDrive (C k) (heldC C k)).2)) k (upd ((va_up C k ((fX0_countDrive (C k) (heldC C k)).2)) k) 16 (((va_up C k ((fX0_countDrive (C k) (heldC C k)).2)) k 16) + 1))) FF k).1), (fX2_freeze n t (va_up (va_up C k ((fX0_countDrive (C k) (heldC C k)).2)) k (upd ((va_up C k ((fX0_countDrive (C k) (heldC C k)).2)) k) 16 (((va_up C k ((fX0_countDrive (C k) (heldC C k)).2)) k 16) + 1))) FF k).2.1, (fX2_freeze n t (va_up (va_up C k ((fX0_countDrive (C k) (heldC C k)).2)) k (upd ((va_up C k ((fX0_countDrive (C k) (heldC C k)).2)) k) 16 (((va_up C k ((fX0_countDrive (C k) (heldC C k)).2)) k 16) + 1))) FF k).2.2, (va_up FO k (foB (FO k) (t 7 0) 16)))

set_option maxHeartbeats 4000000 in
set_option maxRecDepth 100000 in
theorem tX2_endFor (l : Launch) (D : va_G) (cI cZ cC : ClassId) (ad : Nat → Nat) (n : Nat) (t v C FF FO : Nat → Nat → Int32) (hn : t 1 0 = nI n) (hnb : n ≤ 16) (k : Nat) (hkl : k < n) (hfo : C k 0 = 2 → ∃ f, f < n ∧ C k 1 = nI f) : WrI l yX2_endFor wsX2_endFor (rmK 4) D cI cZ cC [.ref (ad 0), .ref (ad (16 + k))] (cW cI cC ad n t v C FF FO) (cW cI cC ad n ((fX2_endFor n t C FF FO k).2.1) v ((fX2_endFor n t C FF FO k).2.2.1) ((fX2_endFor n t C FF FO k).2.2.2.1) ((fX2_endFor n t C FF FO k).2.2.2.2)) (fun ans => ans = (fX2_endFor n t C FF FO k).1) := by
  refine WrI.of (cc := cX2_endFor) (maxL := 3) (ret := .boolean) (by decide) rfl (Nat.le_of_ble_eq_true rfl) ?_
  intro p e s m args below meth c Q A ls hx hb hml hts hown hK hP hD hS hA hret hl
  have hl : lv_has ls 3 [(0, .ref (ad 0)), (1, .ref (ad (16 + k)))] := hl
  have hinX2 : ∀ w ∈ u_ws RX2 TX2 9, w ∈ wsX2_endFor := (fun w h => List.mem_cons_of_mem _ (List.mem_append_left _ (List.mem_append_right _ h)))
  refine lv_aload_n hx hb dX2_endFor_0 rfl (lv_at hl 1 rfl) ?_
  refine lv_aload_n hx hb dX2_endFor_1 rfl (lv_at hl 0 rfl) ?_
  refine lv_aload_n hx hb dX2_endFor_2 rfl (lv_at hl 1 rfl) ?_
  refine x_rdV (As := [.ref (ad (16 + k))]) (rest := [.ref (ad (16 + k))]) ⟨hx, hb, hml, hown, hts⟩ (tX2_isHeldBack l D cI cZ cC ad n t v C FF FO hn hnb k hkl hfo) (cwV 1 hts gX2_endFor_X2_isHeldBack rfl rfl rfl (by decide +kernel) ⟨Nat.le_of_ble_eq_true rfl, Nat.le_of_ble_eq_true rfl⟩) hK (x_recv (ci := 2) hK hP rfl (q0 := 0) rfl) hP rfl hl.1 rfl (Nat.le_of_ble_eq_true rfl) dX2_endFor_3 ⟨Nat.le_of_ble_eq_true rfl, Nat.le_of_ble_eq_true rfl⟩ (fun r_1 er_1 => ?_)
  have er_1 : r_1 = heldC C k := er_1
  subst er_1
  refine x_wiV (As := [.int (heldC C k)]) (rest := []) (ww := cW cI cC ad n t v C FF FO) ⟨hx, hb, hml, hown, hts⟩ (tX0_countDrive l D cI cZ cC (ad (16 + k)) (ad (32 + k)) (ad (48 + k)) (C k) (heldC C k)) (cwV 1 hts gX2_endFor_X0_countDrive rfl rfl rfl (by decide +kernel) ⟨Nat.le_of_ble_eq_true rfl, Nat.le_of_ble_eq_true rfl⟩) hK (x_recv (ci := 0) hK hP rfl (q0 := 10 + k) (cW_k hkl)) hP hD hS hA [10 + k] (by simp [va_nd]) (by rw [List.map_cons, List.map_nil, cW_k hkl]; rfl) rfl rfl hl.1 rfl (Nat.le_of_ble_eq_true rfl) dX2_endFor_6 ⟨Nat.le_of_ble_eq_true rfl, Nat.le_of_ble_eq_true rfl⟩ (fun r_2 H locs er_2 hP hD hS => ?_)
  have hP : va_P D vwCl (cW cI cC ad n t v (va_up C k ((fX0_countDrive (C k) (heldC C k)).2)) FF FO) H := by rw [← cW_setk hkl]; exact hP
  have hD : va_D A (cW cI cC ad n t v (va_up C k ((fX0_countDrive (C k) (heldC C k)).2)) FF FO) := by rw [← cW_setk hkl]; exact hD
  have er_2 : r_2 = (fX0_countDrive (C k) (heldC C k)).1 := er_2
  subst er_2
  refine lv_istore_n (lv' := [(2, .int ((fX0_countDrive (C k) (heldC C k)).1)), (0, .ref (ad 0)), (1, .ref (ad (16 + k)))]) hx hb dX2_endFor_9 rfl hl (by decide) rfl (fun ls hl => ?_)
  refine lv_iload_n hx hb dX2_endFor_10 rfl (lv_at hl 0 rfl) ?_
  refine lv_if_eq (tgt := 27) hx hb dX2_endFor_11 (by decide) (fun c_3 => ?_) (fun c_3 => ?_)
  · refine lv_iload_n hx hb dX2_endFor_27 rfl (lv_at hl 0 rfl) ?_
    have es : fX2_endFor n t C FF FO k = ((fX0_countDrive (C k) (heldC C k)).1, t, (va_up C k ((fX0_countDrive (C k) (heldC C k)).2)), FF, FO) := by rw [fX2_endFor]; rw [if_pos c_3]
    exact hret 28 _ _ _ _ (by rw [es]) (by rw [es]; exact hP) (by rw [es]; exact hD) hS (nar1 (cd01 _ _)) dX2_endFor_28
  · refine lv_aload_n hx hb dX2_endFor_14 rfl (lv_at hl 2 rfl) ?_
    refine lv_aload_n hx hb dX2_endFor_15 rfl (lv_at hl 1 rfl) ?_
    refine va_get (D := D) (ci := 2) (v := .int (t 7 0)) (C := RX2) (T := TX2) (N := 9) hx hb hts hinX2 hown hK hP 0 rfl rfl 7 (by decide) (hts (.fieldLink RX2 36 "TroubleCodes" "troubledAtBegin" "I") (mem_at 1 rfl)) (fun _ h9 => h9) rfl dX2_endFor_16 ?_
    refine x_wvV (As := [.int (t 7 0)]) (rest := []) (ww := cW cI cC ad n t v (va_up C k ((fX0_countDrive (C k) (heldC C k)).2)) FF FO) ⟨hx, hb, hml, hown, hts⟩ (tX0_noteSet l D cI cZ cC (ad (16 + k)) (ad (32 + k)) (ad (48 + k)) ((va_up C k ((fX0_countDrive (C k) (heldC C k)).2)) k) (FO k) (t 7 0)) (cwV 1 hts gX2_endFor_X0_noteSet rfl rfl rfl (by decide +kernel) ⟨Nat.le_of_ble_eq_true rfl, Nat.le_of_ble_eq_true rfl⟩) hK (x_recv (ci := 0) hK hP rfl (q0 := 10 + k) (cW_k hkl)) hP hD hS hA [10 + k, 10 + (n + (n + k))] (by simp [va_nd]; omega) (by rw [List.map_cons, List.map_cons, List.map_nil, cW_k hkl, cW_o hkl]; rfl) rfl rfl hl.1 rfl (Nat.le_of_ble_eq_true rfl) dX2_endFor_19 ⟨Nat.le_of_ble_eq_true rfl, Nat.le_of_ble_eq_true rfl⟩ (fun H locs hP hD hS => ?_)
    have hP : va_P D vwCl (cW cI cC ad n t v (va_up (va_up C k ((fX0_countDrive (C k) (heldC C k)).2)) k (upd ((va_up C k ((fX0_countDrive (C k) (heldC C k)).2)) k) 16 (((va_up C k ((fX0_countDrive (C k) (heldC C k)).2)) k 16) + 1))) FF (va_up FO k (foB (FO k) (t 7 0) 16))) H := by have h := hP; rw [List.zip_cons_cons, List.zip_cons_cons, List.zip_nil_left, setL, setL, setL] at h; rw [cW_setk hkl, cW_seto hkl] at h; exact h
    have hD : va_D A (cW cI cC ad n t v (va_up (va_up C k ((fX0_countDrive (C k) (heldC C k)).2)) k (upd ((va_up C k ((fX0_countDrive (C k) (heldC C k)).2)) k) 16 (((va_up C k ((fX0_countDrive (C k) (heldC C k)).2)) k 16) + 1))) FF (va_up FO k (foB (FO k) (t 7 0) 16))) := by have h := hD; rw [List.zip_cons_cons, List.zip_cons_cons, List.zip_nil_left, setL, setL, setL] at h; rw [cW_setk hkl, cW_seto hkl] at h; exact h
    refine lv_aload_n hx hb dX2_endFor_22 rfl (lv_at hl 1 rfl) ?_
    refine lv_aload_n hx hb dX2_endFor_23 rfl (lv_at hl 2 rfl) ?_
    refine x_wvW (As := [.ref (ad (16 + k))]) (rest := []) ⟨hx, hb, hml, hown, hts⟩ (tX2_freeze l D cI cZ cC ad n t v (va_up (va_up C k ((fX0_countDrive (C k) (heldC C k)).2)) k (upd ((va_up C k ((fX0_countDrive (C k) (heldC C k)).2)) k) 16 (((va_up C k ((fX0_countDrive (C k) (heldC C k)).2)) k 16) + 1))) FF (va_up FO k (foB (FO k) (t 7 0) 16)) hn hnb k hkl) (cwV 1 hts gX2_endFor_X2_freeze rfl rfl rfl (by decide +kernel) ⟨Nat.le_of_ble_eq_true rfl, Nat.le_of_ble_eq_true rfl⟩) hK (x_recv (ci := 2) hK hP rfl (q0 := 0) rfl) hP hD hS hA rfl hl.1 rfl (Nat.le_of_ble_eq_true rfl) dX2_endFor_24 ⟨Nat.le_of_ble_eq_true rfl, Nat.le_of_ble_eq_true rfl⟩ (fun H locs hP hD hS => ?_)
    refine lv_iload_n hx hb dX2_endFor_27 rfl (lv_at hl 0 rfl) ?_
    have es : fX2_endFor n t C FF FO k = ((fX0_countDrive (C k) (heldC C k)).1, ((fX2_freeze n t (va_up (va_up C k ((fX0_countDrive (C k) (heldC C k)).2)) k (upd ((va_up C k ((fX0_countDrive (C k) (heldC C k)).2)) k) 16 (((va_up C k ((fX0_countDrive (C k) (heldC C k)).2)) k 16) + 1))) FF k).1), (fX2_freeze n t (va_up (va_up C k ((fX0_countDrive (C k) (heldC C k)).2)) k (upd ((va_up C k ((fX0_countDrive (C k) (heldC C k)).2)) k) 16 (((va_up C k ((fX0_countDrive (C k) (heldC C k)).2)) k 16) + 1))) FF k).2.1, (fX2_freeze n t (va_up (va_up C k ((fX0_countDrive (C k) (heldC C k)).2)) k (upd ((va_up C k ((fX0_countDrive (C k) (heldC C k)).2)) k) 16 (((va_up C k ((fX0_countDrive (C k) (heldC C k)).2)) k 16) + 1))) FF k).2.2, (va_up FO k (foB (FO k) (t 7 0) 16))) := by rw [fX2_endFor]; rw [if_neg c_3]
    exact hret 28 _ _ _ _ (by rw [es]) (by rw [es]; exact hP) (by rw [es]; exact hD) hS (nar1 (cd01 _ _)) dX2_endFor_28

theorem k_keep (f : Nat → Int32) (b : Int32) (r : Nat) (h : r < 7) : (fX0_countDrive f b).2 r = f r := by
  have u : ∀ (g : Nat → Int32) (i : Nat) (x : Int32), 7 ≤ i → upd g i x r = g r := fun g i x hi => by simp [upd, show r ≠ i by omega]
  have h1 : ∀ g, (fX0_countBad g b).2 r = g r := fun g => by
    unfold fX0_countBad; repeat' split
    all_goals simp [u]
  have h2 : ∀ g, fX0_countGood g r = g r := fun g => by
    unfold fX0_countGood; repeat' split
    all_goals simp [u]
  have h3 : ∀ g, fX0_growOlder g r = g r := fun g => by
    unfold fX0_growOlder fX0_thaw; repeat' split
    all_goals simp [u]
  unfold fX0_countDrive
  repeat' split
  all_goals simp [u, h1, h2, h3]
theorem fz_keep (n : Nat) (t C FF : Nat → Nat → Int32) (k r j : Nat) (h : r < 7) : (fX2_freeze n t C FF k).2.1 j r = C j r := by
  have u : ∀ (g : Nat → Int32) (i : Nat) (x : Int32), 7 ≤ i → upd g i x r = g r := fun g i x hi => by simp [upd, show r ≠ i by omega]
  have w : ∀ (G : Nat → Nat → Int32) (i : Nat) (f : Nat → Int32), f r = G i r → va_up G i f j r = G j r := fun G i f hf => by
    by_cases e : j = i
    · subst e; simp [va_up, hf]
    · simp [va_up, e]
  have h1 : ∀ f, fX0_thaw f r = f r := fun f => by unfold fX0_thaw; simp [u]
  unfold fX2_freeze
  repeat' split
  all_goals simp only
  all_goals repeat (rw [w _ _ _ (by simp [u, h1])])
theorem fz_t (n : Nat) (t C FF : Nat → Nat → Int32) (k r : Nat) (h : r ≠ 4) : (fX2_freeze n t C FF k).1 r = t r := by
  unfold fX2_freeze
  repeat' split
  all_goals simp [va_up, h]
theorem ef_keep (n : Nat) (t C FF FO : Nat → Nat → Int32) (k r j : Nat) (h : r < 7) : (fX2_endFor n t C FF FO k).2.2.1 j r = C j r := by
  have u : ∀ (g : Nat → Int32) (i : Nat) (x : Int32), 7 ≤ i → upd g i x r = g r := fun g i x hi => by simp [upd, show r ≠ i by omega]
  have w : ∀ (G : Nat → Nat → Int32) (i : Nat) (f : Nat → Int32), f r = G i r → va_up G i f j r = G j r := fun G i f hf => by
    by_cases e : j = i
    · subst e; simp [va_up, hf]
    · simp [va_up, e]
  unfold fX2_endFor
  repeat' split
  all_goals simp only
  all_goals (try rw [fz_keep _ _ _ _ _ _ _ h])
  all_goals repeat (rw [w _ _ _ (by simp [u, k_keep _ _ _ h])])
theorem ef_t (n : Nat) (t C FF FO : Nat → Nat → Int32) (k r : Nat) (h : r ≠ 4) : (fX2_endFor n t C FF FO k).2.1 r = t r := by
  unfold fX2_endFor
  repeat' split
  all_goals simp [fz_t _ _ _ _ _ _ h]
def enC (n : Nat) (t C FF FO : Nat → Nat → Int32) : Nat → Int32 × (Nat → Nat → Int32) × (Nat → Nat → Int32) × (Nat → Nat → Int32) × (Nat → Nat → Int32)
  | 0 => (0, t, C, FF, FO)
  | k + 1 => ((enC n t C FF FO k).1 + (if (fX2_endFor n (enC n t C FF FO k).2.1 (enC n t C FF FO k).2.2.1 (enC n t C FF FO k).2.2.2.1 (enC n t C FF FO k).2.2.2.2 k).1 = 0 then 0 else 1), (fX2_endFor n (enC n t C FF FO k).2.1 (enC n t C FF FO k).2.2.1 (enC n t C FF FO k).2.2.2.1 (enC n t C FF FO k).2.2.2.2 k).2)
theorem en_keep (n : Nat) (t C FF FO : Nat → Nat → Int32) (r j : Nat) (h : r < 7) : ∀ k, (enC n t C FF FO k).2.2.1 j r = C j r
  | 0 => rfl
  | k + 1 => by rw [enC]; simp only; rw [ef_keep _ _ _ _ _ _ _ _ h]; exact en_keep n t C FF FO r j h k
theorem en_t (n : Nat) (t C FF FO : Nat → Nat → Int32) (r : Nat) (h : r ≠ 4) : ∀ k, (enC n t C FF FO k).2.1 r = t r
  | 0 => rfl
  | k + 1 => by rw [enC]; simp only; rw [ef_t _ _ _ _ _ _ _ h]; exact en_t n t C FF FO r h k
